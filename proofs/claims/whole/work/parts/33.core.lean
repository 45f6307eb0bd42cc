/-! THE CORE OF THE COMPONENT: moods by day, what was seen -/
theorem ta_s {dog : Nat} (h : dog < 2) : j_sh (12 + dog) = (1, 3, []) := by
  have h2 : dog = 0 ∨ dog = 1 := by omega
  rcases h2 with rfl | rfl <;> rfl
theorem ta_a {dog : Nat} (h : dog < 2) : 12 + dog < j_NA := by show _ < 104; omega
theorem ta_r {dog : Nat} (h : dog < 2) : ([some 12, some 13] : List (Option Nat)).getD (nI dog).toNatClampNeg none = some (12 + dog) := by
  rw [nI_cl (by omega)]
  have h2 : dog = 0 ∨ dog = 1 := by omega
  rcases h2 with rfl | rfl <;> rfl
theorem fr_s {dog : Nat} (h : dog < 2) : j_sh (32 + dog) = (1, 30, []) := by
  have h2 : dog = 0 ∨ dog = 1 := by omega
  rcases h2 with rfl | rfl <;> rfl
theorem fr_a {dog : Nat} (h : dog < 2) : 32 + dog < j_NA := by show _ < 104; omega
theorem fr_r {dog : Nat} (h : dog < 2) : ([some 32, some 33] : List (Option Nat)).getD (nI dog).toNatClampNeg none = some (32 + dog) := by
  rw [nI_cl (by omega)]
  have h2 : dog = 0 ∨ dog = 1 := by omega
  rcases h2 with rfl | rfl <;> rfl
theorem c_J_moodBehind {d dog day : Nat} {s : Sg} {M : j_M} {Q : Option Value → j_M → Prop} (hw : WF s) (hR : RepC s M) (hdog : dog < 2) (hday : day < 30)
    (k : ∀ M', Scr M M' → MoodAt M' 35 (g_ta s dog) 9 (g_run s (g_ta s dog) 9 (day + 1)) → Q (some (.ref 35)) M') : j_Ct (d + 3) I_J_moodBehind [.ref 0, .int (nI dog), .int (nI day)] M Q := by
  refine j_met (by decide +kernel) co_J_moodBehind (Nat.le_of_ble_eq_true rfl) (fun X hX => ?_)
  show j_W (d + 3) I_J_moodBehind X 0 [some (.ref 0), some (.int (nI dog)), some (.int (nI day)), none, none] [] M
  have hts : ∀ t, g_ta s dog t ≤ 9 := hw.2.2.1 dog
  have hta := ta_a hdog
  have hsh := ta_s hdog
  have loop : ∀ (r dd : Nat) (M1 : j_M), dd + r = day + 1 → Scr M M1 → MoodAt M1 35 (g_ta s dog) 9 (g_run s (g_ta s dog) 9 dd) → j_W (d + 3) I_J_moodBehind X 24 [some (.ref 0), some (.int (nI dog)), some (.int (nI day)), some (.ref 35), some (.int (nI dd))] [] M1 := by
    intro r
    induction r with
    | zero =>
      intro dd M1 hr hS hM1
      refine jx_iload4 (pc := 24) d_J_moodBehind_24 ?_
      refine jx_iload2 (pc := 26) d_J_moodBehind_26 ?_
      refine jx_icmp_gt (pc := 27) 46 d_J_moodBehind_27 (by decide) (fun c27 => ?_) (fun c27 => absurd c27 (fun q => q (nI_lt (by omega) (by omega))))
      refine jx_aload3 (pc := 46) d_J_moodBehind_46 ?_
      refine jx_aret (pc := 47) hX rfl (Or.inl ⟨_, rfl⟩) d_J_moodBehind_47 ?_
      rotate_left
      rw [show dd = day + 1 by omega] at hM1
      exact k M1 hS hM1
    | succ r ih =>
      intro dd M1 hr hS hM1
      have hce := (hS.rep hR).ce hw
      refine jx_iload4 (pc := 24) d_J_moodBehind_24 ?_
      refine jx_iload2 (pc := 26) d_J_moodBehind_26 ?_
      refine jx_icmp_gt (pc := 27) 46 d_J_moodBehind_27 (by decide) (fun c27 => absurd c27 (nI_nlt (by omega) (by omega))) (fun c27 => ?_)
      refine jx_aload0 (pc := 30) d_J_moodBehind_30 ?_
      refine jx_getR (pc := 31) gf_J_40 d_J_moodBehind_31 ad_0 sh_0 rfl ?_
      refine jx_aload3 (pc := 34) d_J_moodBehind_34 ?_
      refine jx_iload4 (pc := 35) d_J_moodBehind_35 ?_
      refine jx_callV2 (pc := 37) (d' := d + 2) vo_Co_liveDay lk_J_374 d_J_moodBehind_37 ad_15 sh_15 rfl (by omega) (Nat.le_of_ble_eq_true rfl) ?_
      refine c_Co_liveDay mo_35 hce hts hM1 (g_runW hw hts 9 (by omega)) (by omega) (by omega) (Or.inr rfl) (fun M2 hM2 hO2 => ?_)
      refine jx_r0 ?_
      refine jx_iinc4 (pc := 40) d_J_moodBehind_40 rfl (Nat.le_of_ble_eq_true rfl) ?_
      refine jx_goto (pc := 43) 24 d_J_moodBehind_43 (by decide) ?_
      rotate_left
      rw [nI_add1]
      exact ih (dd + 1) M2 (by omega) (hS.tr (Scr.off mo_35 hO2)) hM2
  refine jx_aload0 (pc := 0) d_J_moodBehind_0 ?_
  refine jx_getR (pc := 1) gf_J_40 d_J_moodBehind_1 ad_0 sh_0 rfl ?_
  refine jx_getR (pc := 4) gf_J_237 d_J_moodBehind_4 ad_15 sh_15 rfl ?_
  refine jx_iconst (pc := 7) (v := 0) d_J_moodBehind_7 (by decide) ?_
  refine jx_aald (pc := 8) (b := 35) d_J_moodBehind_8 ad_16 (Or.inl rfl) sh_16 (by unfold vp_in; decide) (by decide) ?_
  refine jx_astore3 (pc := 9) d_J_moodBehind_9 rfl (Nat.le_of_ble_eq_true rfl) ?_
  refine jx_aload3 (pc := 10) d_J_moodBehind_10 ?_
  refine jx_aload0 (pc := 11) d_J_moodBehind_11 ?_
  refine jx_getR (pc := 12) gf_J_28 d_J_moodBehind_12 ad_0 sh_0 rfl ?_
  refine jx_iload1 (pc := 15) d_J_moodBehind_15 ?_
  refine jx_aald (pc := 16) d_J_moodBehind_16 ad_11 (Or.inr rfl) sh_11 (vp_in_nI hdog (by omega)) (ta_r hdog) ?_
  refine jx_iconst (pc := 17) (v := (-1)) d_J_moodBehind_17 (by decide) ?_
  refine jx_callV2 (pc := 18) (d' := 0) vo_Mo_begin lk_J_241 d_J_moodBehind_18 (mo_a mo_35) (mo_s mo_35) rfl (by omega) (Nat.le_of_ble_eq_true rfl) ?_
  refine c_Mo_begin (ts := g_ta s dog) (tr := 9) mo_35 (by omega) hsh (fun t ht => hR.2.1 dog t hdog ht) (fun M1 hM1 hO1 => ?_)
  refine jx_r0 ?_
  refine jx_iconst (pc := 21) (v := 0) d_J_moodBehind_21 (by decide) ?_
  refine jx_istore4 (pc := 22) d_J_moodBehind_22 rfl (Nat.le_of_ble_eq_true rfl) ?_
  rotate_left
  exact loop (day + 1) 0 M1 (by omega) (Scr.off mo_35 hO1) hM1
theorem c_J_noteFound {d dog : Nat} {s : Sg} {M : j_M} {Q : Option Value → j_M → Prop} (hw : WF s) (hR : RepC s M) (hdog : dog < 2)
    (k : ∀ M', Scr M M' → (∀ day, day < 30 → M' (32 + dog) day = em (fdA s (g_ta s dog) 9 day)) → (∀ b, b = 32 ∨ b = 33 → b ≠ 32 + dog → M' b = M b) → Q none M') : j_Ct (d + 3) I_J_noteFound [.ref 0, .int (nI dog)] M Q := by
  refine j_met (by decide +kernel) co_J_noteFound (Nat.le_of_ble_eq_true rfl) (fun X hX => ?_)
  show j_W (d + 3) I_J_noteFound X 0 [some (.ref 0), some (.int (nI dog)), none, none] [] M
  have hts : ∀ t, g_ta s dog t ≤ 9 := hw.2.2.1 dog
  have hta := ta_a hdog
  have hsh := ta_s hdog
  have hfa := fr_a hdog
  have hfs := fr_s hdog
  have loop : ∀ (r dd : Nat) (M1 : j_M), dd + r = 30 → Scr M M1 → MoodAt M1 35 (g_ta s dog) 9 (g_run s (g_ta s dog) 9 dd) → (∀ day, day < dd → M1 (32 + dog) day = em (fdA s (g_ta s dog) 9 day)) → (∀ b, b = 32 ∨ b = 33 → b ≠ 32 + dog → M1 b = M b) → j_W (d + 3) I_J_noteFound X 23 [some (.ref 0), some (.int (nI dog)), some (.ref 35), some (.int (nI dd))] [] M1 := by
    intro r
    induction r with
    | zero =>
      intro dd M1 hr hS hM1 hf hb
      refine jx_iload3 (pc := 23) d_J_noteFound_23 ?_
      refine jx_bipush (pc := 24) (v := 30) d_J_noteFound_24 (by decide) ?_
      refine jx_icmp_ge (pc := 26) 56 d_J_noteFound_26 (by decide) (fun c26 => ?_) (fun c26 => absurd c26 (fun q => q (show nI 30 ≤ nI dd from nI_le (by omega) (by omega))))
      refine jx_vret (pc := 56) hX rfl d_J_noteFound_56 ?_
      rotate_left
      exact k M1 hS (fun day hd => hf day (by omega)) hb
    | succ r ih =>
      intro dd M1 hr hS hM1 hf hb
      have hce := (hS.rep hR).ce hw
      have e1 : (nI dd).toNatClampNeg = dd := nI_cl (by omega)
      refine jx_iload3 (pc := 23) d_J_noteFound_23 ?_
      refine jx_bipush (pc := 24) (v := 30) d_J_noteFound_24 (by decide) ?_
      refine jx_icmp_ge (pc := 26) 56 d_J_noteFound_26 (by decide) (fun c26 => absurd c26 (show ¬ nI 30 ≤ nI dd from nI_ge (by omega) (by omega))) (fun c26 => ?_)
      refine jx_aload0 (pc := 29) d_J_noteFound_29 ?_
      refine jx_getR (pc := 30) gf_J_40 d_J_noteFound_30 ad_0 sh_0 rfl ?_
      refine jx_aload2 (pc := 33) d_J_noteFound_33 ?_
      refine jx_iload3 (pc := 34) d_J_noteFound_34 ?_
      refine jx_callV2 (pc := 35) (d' := d + 2) vo_Co_liveDay lk_J_374 d_J_noteFound_35 ad_15 sh_15 rfl (by omega) (Nat.le_of_ble_eq_true rfl) ?_
      refine c_Co_liveDay mo_35 hce hts hM1 (g_runW hw hts 9 (by omega)) (by omega) (by omega) (Or.inr rfl) (fun M2 hM2 hO2 => ?_)
      refine jx_r0 ?_
      refine jx_aload0 (pc := 38) d_J_noteFound_38 ?_
      refine jx_getR (pc := 39) gf_J_82 d_J_noteFound_39 ad_0 sh_0 rfl ?_
      refine jx_iload1 (pc := 42) d_J_noteFound_42 ?_
      refine jx_aald (pc := 43) d_J_noteFound_43 ad_31 (Or.inr rfl) sh_31 (vp_in_nI hdog (by omega)) (fr_r hdog) ?_
      refine jx_iload3 (pc := 44) d_J_noteFound_44 ?_
      refine jx_aload2 (pc := 45) d_J_noteFound_45 ?_
      refine jx_getI (pc := 46) gf_J_159 d_J_noteFound_46 (mo_a mo_35) (mo_s mo_35) rfl ?_
      refine jx_iast (pc := 49) d_J_noteFound_49 hfa hfs (vp_in_nI (by omega) (by omega)) ?_
      refine jx_iinc3 (pc := 50) d_J_noteFound_50 rfl (Nat.le_of_ble_eq_true rfl) ?_
      refine jx_goto (pc := 53) 23 d_J_noteFound_53 (by decide) ?_
      rotate_left
      rw [nI_add1, e1]
      have hfd : M2 35 6 = em (fdA s (g_ta s dog) 9 dd) := hM2.2.2.2.2.2.2
      refine ih (dd + 1) _ (by omega) ((hS.tr (Scr.off mo_35 hO2)).tr (Scr.set (by unfold PC; omega) (by omega))) (hM2.cong (j_set_n _ _ _ (by omega)) (j_set_n _ _ _ (by omega)) (j_set_n _ _ _ (by omega)) (j_set_n _ _ _ (by omega))) (fun day hd => ?_) (fun b hb2 hb3 => ?_)
      · rw [j_set_s, hfd]
        unfold upd
        by_cases hc : day = dd
        · rw [if_pos hc, hc]
        · rw [if_neg hc, hO2 _ (by omega) (by omega) (by omega) (by omega)]
          exact hf day (by omega)
      · rw [j_set_n _ _ _ hb3, hO2 b (by omega) (by omega) (by omega) (by omega)]
        exact hb b hb2 hb3
  refine jx_aload0 (pc := 0) d_J_noteFound_0 ?_
  refine jx_getR (pc := 1) gf_J_40 d_J_noteFound_1 ad_0 sh_0 rfl ?_
  refine jx_getR (pc := 4) gf_J_237 d_J_noteFound_4 ad_15 sh_15 rfl ?_
  refine jx_iconst (pc := 7) (v := 0) d_J_noteFound_7 (by decide) ?_
  refine jx_aald (pc := 8) (b := 35) d_J_noteFound_8 ad_16 (Or.inl rfl) sh_16 (by unfold vp_in; decide) (by decide) ?_
  refine jx_astore2 (pc := 9) d_J_noteFound_9 rfl (Nat.le_of_ble_eq_true rfl) ?_
  refine jx_aload2 (pc := 10) d_J_noteFound_10 ?_
  refine jx_aload0 (pc := 11) d_J_noteFound_11 ?_
  refine jx_getR (pc := 12) gf_J_28 d_J_noteFound_12 ad_0 sh_0 rfl ?_
  refine jx_iload1 (pc := 15) d_J_noteFound_15 ?_
  refine jx_aald (pc := 16) d_J_noteFound_16 ad_11 (Or.inr rfl) sh_11 (vp_in_nI hdog (by omega)) (ta_r hdog) ?_
  refine jx_iconst (pc := 17) (v := (-1)) d_J_noteFound_17 (by decide) ?_
  refine jx_callV2 (pc := 18) (d' := 0) vo_Mo_begin lk_J_241 d_J_noteFound_18 (mo_a mo_35) (mo_s mo_35) rfl (by omega) (Nat.le_of_ble_eq_true rfl) ?_
  refine c_Mo_begin (ts := g_ta s dog) (tr := 9) mo_35 (by omega) hsh (fun t ht => hR.2.1 dog t hdog ht) (fun M1 hM1 hO1 => ?_)
  refine jx_r0 ?_
  refine jx_iconst (pc := 21) (v := 0) d_J_noteFound_21 (by decide) ?_
  refine jx_istore3 (pc := 22) d_J_noteFound_22 rfl (Nat.le_of_ble_eq_true rfl) ?_
  rotate_left
  exact loop 30 0 M1 (by omega) (Scr.off mo_35 hO1) hM1 (fun day hd => absurd hd (by omega)) (fun b hb1 hb2 => hO1 b (by omega) (by omega) (by omega) (by omega))
theorem em_ne2 {x : Nat} (h : x < 1000) : em x ≠ -2 := by
  unfold em
  split
  · decide
  · intro q; have := congrArg Int32.toInt q; rw [nI_toInt (by omega)] at this; simp at this
theorem c_J_comesOut {d ta tr : Nat} {ts : Nat → Nat} {s : Sg} {M : j_M} {Q : Option Value → j_M → Prop} (hw : WF s) (hR : RepC s M) (hta : ta < 35) (hsh : j_sh ta = (1, 3, [])) (hM : ∀ t, t < 3 → M ta t = nI (ts t)) (hts : ∀ t, ts t ≤ 9) (htr : tr < g_hn s ∨ tr = 9)
    (k : ∀ M', Scr M M' → (∀ b, b < 35 → M' b = M b) → Q (some (.int (if outB s ts tr then 1 else 0))) M') : j_Ct (d + 3) I_J_comesOut [.ref 0, .ref ta, .int (em tr)] M Q := by
  refine j_met (by decide +kernel) co_J_comesOut (Nat.le_of_ble_eq_true rfl) (fun X hX => ?_)
  show j_W (d + 3) I_J_comesOut X 0 [some (.ref 0), some (.ref ta), some (.int (em tr)), none, none] [] M
  have hta' : ta < j_NA := by show ta < 104; omega
  obtain ⟨s1, ⟨ld, hld, s2, s3⟩, s4⟩ := hR.2.2.2.2.1
  rcases s4 with ⟨hcl, i, j, hi, hj, hij, hne⟩ | ⟨hcl, hwd⟩
  · have hout : outB s ts tr = false := by
      rcases h : outB s ts tr with _ | _
      · rfl
      · rw [outB_iff] at h
        exact absurd (by rw [← h i hi, ← h j hj, hij]) hne
    refine jx_aload0 (pc := 0) d_J_comesOut_0 ?_
    refine jx_getR (pc := 1) gf_J_47 d_J_comesOut_1 ad_0 sh_0 rfl ?_
    refine jx_getI (pc := 4) gf_J_392 d_J_comesOut_4 ad_17 sh_17 rfl ?_
    refine jx_if_eq (pc := 7) 12 d_J_comesOut_7 (by decide) (fun c7 => absurd c7 (by rw [hcl]; decide)) (fun c7 => ?_)
    refine jx_iconst (pc := 10) (v := 0) d_J_comesOut_10 (by decide) ?_
    refine jx_zret (pc := 11) hX rfl (by first | exact Or.inl rfl | exact Or.inr rfl) d_J_comesOut_11 ?_
    rotate_left
    have := k M Scr.rf (fun _ _ => rfl)
    rw [hout] at this
    exact this
  · have hsd := hw.2.2.2.2.2.2.2.2.1
    have loop : ∀ (r dd : Nat) (M1 : j_M), dd + r = ld → Scr M M1 → (∀ b, b < 35 → M1 b = M b) → MoodAt M1 35 ts tr (g_run s ts tr dd) → (∀ q, q < g_ns s → g_sd s q < dd → fdA s ts tr (g_sd s q) = g_sh s q) → j_W (d + 3) I_J_comesOut X 31 [some (.ref 0), some (.ref ta), some (.int (em tr)), some (.ref 35), some (.int (nI dd))] [] M1 := by
      intro r
      induction r with
      | zero =>
        intro dd M1 hr hS hL hM1 hf
        have h17 : M1 17 2 = nI ld - 1 := by rw [hL 17 (by omega)]; exact s2
        refine jx_iload4 (pc := 31) d_J_comesOut_31 ?_
        refine jx_aload0 (pc := 33) d_J_comesOut_33 ?_
        refine jx_getR (pc := 34) gf_J_47 d_J_comesOut_34 ad_0 sh_0 rfl ?_
        refine jx_getI (pc := 37) gf_J_396 d_J_comesOut_37 ad_17 sh_17 rfl ?_
        refine jx_icmp_gt (pc := 40) 77 d_J_comesOut_40 (by decide) (fun c40 => ?_) (fun c40 => absurd c40 (fun q => q (by rw [h17, fa_lt, show (1 : Int32) = nI 1 from rfl, pk_sub_toInt (by omega) (by omega), nI_toInt (by omega)]; omega)))
        refine jx_iconst (pc := 77) (v := 1) d_J_comesOut_77 (by decide) ?_
        refine jx_zret (pc := 78) hX rfl (by first | exact Or.inl rfl | exact Or.inr rfl) d_J_comesOut_78 ?_
        rotate_left
        have hout : outB s ts tr = true := outB_iff.mpr (fun q hq => hf q hq (by have := s3 q hq; omega))
        have := k M1 hS hL
        rw [hout] at this
        exact this
      | succ r ih =>
        intro dd M1 hr hS hL hM1 hf
        have h17 : M1 17 2 = nI ld - 1 := by rw [hL 17 (by omega)]; exact s2
        have hce := (hS.rep hR).ce hw
        have hdd : dd < 30 := by omega
        have hvi : vp_in (nI dd) 30 := vp_in_nI hdd (by omega)
        refine jx_iload4 (pc := 31) d_J_comesOut_31 ?_
        refine jx_aload0 (pc := 33) d_J_comesOut_33 ?_
        refine jx_getR (pc := 34) gf_J_47 d_J_comesOut_34 ad_0 sh_0 rfl ?_
        refine jx_getI (pc := 37) gf_J_396 d_J_comesOut_37 ad_17 sh_17 rfl ?_
        refine jx_icmp_gt (pc := 40) 77 d_J_comesOut_40 (by decide) (fun c40 => absurd c40 (by rw [h17, fa_lt, show (1 : Int32) = nI 1 from rfl, pk_sub_toInt (by omega) (by omega), nI_toInt (by omega)]; omega)) (fun c40 => ?_)
        refine jx_aload0 (pc := 43) d_J_comesOut_43 ?_
        refine jx_getR (pc := 44) gf_J_40 d_J_comesOut_44 ad_0 sh_0 rfl ?_
        refine jx_aload3 (pc := 47) d_J_comesOut_47 ?_
        refine jx_iload4 (pc := 48) d_J_comesOut_48 ?_
        refine jx_callV2 (pc := 50) (d' := d + 2) vo_Co_liveDay lk_J_374 d_J_comesOut_50 ad_15 sh_15 rfl (by omega) (Nat.le_of_ble_eq_true rfl) ?_
        refine c_Co_liveDay mo_35 hce hts hM1 (g_runW hw hts tr (by omega)) (by omega) hdd htr (fun M2 hM2 hO2 => ?_)
        refine jx_r0 ?_
        refine jx_aload0 (pc := 53) d_J_comesOut_53 ?_
        refine jx_getR (pc := 54) gf_J_47 d_J_comesOut_54 ad_0 sh_0 rfl ?_
        refine jx_iload4 (pc := 57) d_J_comesOut_57 ?_
        refine jx_aload3 (pc := 59) d_J_comesOut_59 ?_
        refine jx_getI (pc := 60) gf_J_159 d_J_comesOut_60 (mo_a mo_35) (mo_s mo_35) rfl ?_
        refine jx_callV2 (pc := 63) (d' := d) vo_Se_allows lk_J_399 d_J_comesOut_63 ad_17 sh_17 rfl (by omega) (Nat.le_of_ble_eq_true rfl) ?_
        refine c_Se_allows hvi ?_
        refine jx_r1 ?_
        refine jx_if_ne (pc := 66) 71 d_J_comesOut_66 (by decide) (fun c66 => ?_) (fun c66 => ?_)
        refine jx_iinc4 (pc := 71) d_J_comesOut_71 rfl (Nat.le_of_ble_eq_true rfl) ?_
        refine jx_goto (pc := 74) 31 d_J_comesOut_74 (by decide) ?_
        rotate_left
        refine jx_iconst (pc := 69) (v := 0) d_J_comesOut_69 (by decide) ?_
        refine jx_zret (pc := 70) hX rfl (by first | exact Or.inl rfl | exact Or.inr rfl) d_J_comesOut_70 ?_
        rotate_left
        · -- it is as it was seen
          rw [nI_add1]
          have hL2 : ∀ b, b < 35 → M2 b = M b := fun b hb => by rw [hO2 b (by omega) (by omega) (by omega) (by omega)]; exact hL b hb
          refine ih (dd + 1) M2 (by omega) (hS.tr (Scr.off mo_35 hO2)) hL2 hM2 (fun q hq hqd => ?_)
          by_cases hc : g_sd s q = dd
          · rw [hL2 18 (by omega), nI_cl (by omega)] at c66
            have hfd : M2 35 6 = em (fdA s ts tr dd) := hM2.2.2.2.2.2.2
            rw [hfd] at c66
            have hfl := fdA_lt hw hts tr hdd
            have hn6 : g_hn s ≤ 6 := hnB_le hw.1
            rcases hwd dd hdd with ⟨h1, h2⟩ | ⟨w, h1, h2, -, h3⟩
            · exact absurd hc (h2 q hq)
            · rw [h1] at c66
              have hcond : em w = -2 ∨ em w = em (fdA s ts tr dd) := Decidable.not_not.mp (fun q => c66 (by rw [if_neg q]))
              rcases hcond with h4 | h4
              · exact absurd h4 (em_ne2 (by omega))
              · rw [hc, h3 q hq hc]
                exact ((em_inj (by omega) (by omega)).mp h4).symm
          · exact hf q hq (by omega)
        · have hL2 : ∀ b, b < 35 → M2 b = M b := fun b hb => by rw [hO2 b (by omega) (by omega) (by omega) (by omega)]; exact hL b hb
          rw [hL2 18 (by omega), nI_cl (by omega)] at c66
          have hfd : M2 35 6 = em (fdA s ts tr dd) := hM2.2.2.2.2.2.2
          rw [hfd] at c66
          have hcond : ¬ (M 18 dd = -2 ∨ M 18 dd = em (fdA s ts tr dd)) := fun q => by rw [if_pos q] at c66; exact absurd c66 (by decide)
          have hout : outB s ts tr = false := by
            rcases h : outB s ts tr with _ | _
            · rfl
            · rw [outB_iff] at h
              exfalso
              rcases hwd dd hdd with ⟨h1, h2⟩ | ⟨w, h1, h2, ⟨q, hq1, hq2⟩, h3⟩
              · exact hcond (Or.inl h1)
              · refine hcond (Or.inr ?_)
                rw [h1, ← h3 q hq1 hq2, ← h q hq1, hq2]
          have := k M2 (hS.tr (Scr.off mo_35 hO2)) hL2
          rw [hout] at this
          exact this
    refine jx_aload0 (pc := 0) d_J_comesOut_0 ?_
    refine jx_getR (pc := 1) gf_J_47 d_J_comesOut_1 ad_0 sh_0 rfl ?_
    refine jx_getI (pc := 4) gf_J_392 d_J_comesOut_4 ad_17 sh_17 rfl ?_
    refine jx_if_eq (pc := 7) 12 d_J_comesOut_7 (by decide) (fun c7 => ?_) (fun c7 => absurd c7 (fun q => q hcl))
    refine jx_aload0 (pc := 12) d_J_comesOut_12 ?_
    refine jx_getR (pc := 13) gf_J_40 d_J_comesOut_13 ad_0 sh_0 rfl ?_
    refine jx_getR (pc := 16) gf_J_237 d_J_comesOut_16 ad_15 sh_15 rfl ?_
    refine jx_iconst (pc := 19) (v := 0) d_J_comesOut_19 (by decide) ?_
    refine jx_aald (pc := 20) (b := 35) d_J_comesOut_20 ad_16 (Or.inl rfl) sh_16 (by unfold vp_in; decide) (by decide) ?_
    refine jx_astore3 (pc := 21) d_J_comesOut_21 rfl (Nat.le_of_ble_eq_true rfl) ?_
    refine jx_aload3 (pc := 22) d_J_comesOut_22 ?_
    refine jx_aload1 (pc := 23) d_J_comesOut_23 ?_
    refine jx_iload2 (pc := 24) d_J_comesOut_24 ?_
    refine jx_callV2 (pc := 25) (d' := 0) vo_Mo_begin lk_J_241 d_J_comesOut_25 (mo_a mo_35) (mo_s mo_35) rfl (by omega) (Nat.le_of_ble_eq_true rfl) ?_
    refine c_Mo_begin (ts := ts) (tr := tr) mo_35 hta hsh hM (fun M1 hM1 hO1 => ?_)
    refine jx_r0 ?_
    refine jx_iconst (pc := 28) (v := 0) d_J_comesOut_28 (by decide) ?_
    refine jx_istore4 (pc := 29) d_J_comesOut_29 rfl (Nat.le_of_ble_eq_true rfl) ?_
    rotate_left
    exact loop ld 0 M1 (by omega) (Scr.off mo_35 hO1) (fun b hb => hO1 b (by omega) (by omega) (by omega) (by omega)) hM1 (fun q hq h => absurd h (by omega))
