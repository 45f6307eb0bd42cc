/-! OPERATIONS of the reference: chance, heard -/
theorem sh16 : ∀ last, last < 10 → (1 : Int64) <<< (((4 : Int32) * (nI last + 1)).toInt64 &&& 63) = lN (16 ^ (last + 1)) := by decide +kernel
theorem c_R_chanceOf {d c h last : Nat} {w : Int32} {s : Sg} {M : j_M} {Q : Option Value → j_M → Prop} (hw : WF s) (hR : RepR s M) (hc : c ≤ 16) (hh : h < g_hn s) (hl : last < 10)
    (k : ∀ M', ScrR M M' → RdR s M' → Q (some (.long (lN (frcN (wgF s c h 99 0 (last + 1) 0 mo0) (16 ^ (last + 1)) w)))) M') : j_Ct (d + 4) I_R_chanceOf [.ref 79, .int (nI c), .int (nI h), .int (nI last), .int w] M Q := by
  refine j_met (by decide +kernel) co_R_chanceOf (Nat.le_of_ble_eq_true rfl) (fun X hX => ?_)
  show j_W (d + 4) I_R_chanceOf X 0 [some (.ref 79), some (.int (nI c)), some (.int (nI h)), some (.int (nI last)), some (.int w)] [] M
  have hle := wgF_le s h 99 0 hc (last + 1) 0 mo0
  have hp := p16 (n := last + 1) (by omega)
  have hpos : 0 < 16 ^ (last + 1) := Nat.pow_pos (by omega)
  have h1l := sh16 last hl
  refine jx_aload0 (pc := 0) d_R_chanceOf_0 ?_
  refine jx_callV0 (pc := 1) (d' := d + 2) vo_R_reads lk_R_109 d_R_chanceOf_1 ad_79 sh_79 rfl (by omega) (Nat.le_of_ble_eq_true rfl) ?_
  refine c_R_reads hw hR (fun M1 hr1 hO1 => ?_)
  refine jx_r0 ?_
  refine jx_aload0 (pc := 4) d_R_chanceOf_4 ?_
  refine jx_callV0 (pc := 5) (d' := 0) vo_R_asTold lk_R_172 d_R_chanceOf_5 ad_79 sh_79 rfl (by omega) (Nat.le_of_ble_eq_true rfl) ?_
  refine c_R_asTold (hR.offF hO1).v (fun M2 h14 h18 h19 hb hq => ?_)
  have hS2 : ScrR M M2 := (ScrR.offF hO1).tr (scr_told hb hq)
  have hr2 : RdR s M2 := hr1.of (hq 2 (by omega) (by omega) (by omega)) (hb 81 (by omega))
  refine jx_r0 ?_
  refine jx_aload0 (pc := 8) d_R_chanceOf_8 ?_
  refine jx_iload1 (pc := 9) d_R_chanceOf_9 ?_
  refine jx_iload2 (pc := 10) d_R_chanceOf_10 ?_
  refine jx_iload3 (pc := 11) d_R_chanceOf_11 ?_
  refine jx_callV3 (pc := 12) (d' := d + 3) vo_R_chanceBy lk_R_272 d_R_chanceOf_12 ad_79 sh_79 rfl (by omega) (Nat.le_of_ble_eq_true rfl) ?_
  refine c_R_chanceBy (md := 99) (mt := 0) hw (hS2.rep hR) hr2 (NMo.zero h14) h19 (fun dd hdd => by rw [if_neg (by omega)]; rfl) hc hh hl (fun M3 hS3 hr3 => ?_)
  refine jx_r1 ?_
  refine jx_lconst (pc := 15) (v := 1) d_R_chanceOf_15 (by decide) ?_
  refine jx_iconst (pc := 16) (v := 4) d_R_chanceOf_16 (by decide) ?_
  refine jx_iload3 (pc := 17) d_R_chanceOf_17 ?_
  refine jx_iconst (pc := 18) (v := 1) d_R_chanceOf_18 (by decide) ?_
  refine jx_iadd (pc := 19) d_R_chanceOf_19 ?_
  refine jx_imul (pc := 20) d_R_chanceOf_20 ?_
  refine jx_lshl (pc := 21) d_R_chanceOf_21 ?_
  refine jx_iload4 (pc := 22) d_R_chanceOf_22 ?_
  refine jx_callS3 (pc := 24) (d' := 0) so_R_lowest lk_R_193 d_R_chanceOf_24 (by omega) (Nat.le_of_ble_eq_true rfl) ?_
  rw [h1l]
  refine c_R_lowest (by omega) (by omega) hpos ?_
  refine jx_r1 ?_
  refine jx_lret (pc := 27) hX rfl d_R_chanceOf_27 ?_
  rotate_left
  exact k M3 (hS2.tr hS3) hr3
theorem c_R_isChance {d : Nat} {c h dy : Int32} {s : Sg} {M : j_M} {Q : Option Value → j_M → Prop} (hw : WF s) (hR : RepR s M) (k : ∀ M', OffF M M' → Q (some (.int (if (0 ≤ c ∧ c ≤ 16) ∧ (0 ≤ h ∧ h < nI (g_hn s)) ∧ (0 ≤ dy ∧ dy < 10) then 1 else 0))) M') : j_Ct (d + 4) I_R_isChance [.ref 79, .int c, .int h, .int dy] M Q := by
  refine j_met (by decide +kernel) co_R_isChance (Nat.le_of_ble_eq_true rfl) (fun X hX => ?_)
  show j_W (d + 4) I_R_isChance X 0 [some (.ref 79), some (.int c), some (.int h), some (.int dy)] [] M
  refine jx_iload1 (pc := 0) d_R_isChance_0 ?_
  refine jx_iconst (pc := 1) (v := 0) d_R_isChance_1 (by decide) ?_
  refine jx_bipush (pc := 2) (v := 16) d_R_isChance_2 (by decide) ?_
  refine jx_callS3 (pc := 4) (d' := 0) so_R_in lk_R_95 d_R_isChance_4 (by omega) (Nat.le_of_ble_eq_true rfl) ?_
  refine c_R_in ?_
  refine jx_r1 ?_
  refine jx_if_eq (pc := 7) 32 d_R_isChance_7 (by decide) (fun c7 => ?_) (fun c7 => ?_)
  refine jx_iconst (pc := 32) (v := 0) d_R_isChance_32 (by decide) ?_
  refine jx_zret (pc := 33) hX rfl (by first | exact Or.inl rfl | exact Or.inr rfl) d_R_isChance_33 ?_
  rotate_left
  refine jx_aload0 (pc := 10) d_R_isChance_10 ?_
  refine jx_iload2 (pc := 11) d_R_isChance_11 ?_
  refine jx_callV1 (pc := 12) (d' := d + 3) vo_R_isHeir lk_R_112 d_R_isChance_12 ad_79 sh_79 rfl (by omega) (Nat.le_of_ble_eq_true rfl) ?_
  refine c_R_isHeir hw hR (fun M2 hr2 hO2 => ?_)
  refine jx_r1 ?_
  refine jx_if_eq (pc := 15) 32 d_R_isChance_15 (by decide) (fun c15 => ?_) (fun c15 => ?_)
  refine jx_iconst (pc := 32) (v := 0) d_R_isChance_32 (by decide) ?_
  refine jx_zret (pc := 33) hX rfl (by first | exact Or.inl rfl | exact Or.inr rfl) d_R_isChance_33 ?_
  rotate_left
  refine jx_iload3 (pc := 18) d_R_isChance_18 ?_
  refine jx_iconst (pc := 19) (v := 0) d_R_isChance_19 (by decide) ?_
  refine jx_bipush (pc := 20) (v := 9) d_R_isChance_20 (by decide) ?_
  refine jx_callS3 (pc := 22) (d' := 0) so_R_in lk_R_95 d_R_isChance_22 (by omega) (Nat.le_of_ble_eq_true rfl) ?_
  refine c_R_in ?_
  refine jx_r1 ?_
  refine jx_if_eq (pc := 25) 32 d_R_isChance_25 (by decide) (fun c25 => ?_) (fun c25 => ?_)
  refine jx_iconst (pc := 32) (v := 0) d_R_isChance_32 (by decide) ?_
  refine jx_zret (pc := 33) hX rfl (by first | exact Or.inl rfl | exact Or.inr rfl) d_R_isChance_33 ?_
  rotate_left
  refine jx_iconst (pc := 28) (v := 1) d_R_isChance_28 (by decide) ?_
  refine jx_goto (pc := 29) 33 d_R_isChance_29 (by decide) ?_
  refine jx_zret (pc := 33) hX rfl (by first | exact Or.inl rfl | exact Or.inr rfl) d_R_isChance_33 ?_
  rotate_left
  · have kk := k M OffF.rf
    rw [if_neg (fun q => z01.mp c7 q.1)] at kk
    exact kk
  · have kk := k M2 hO2
    rw [if_neg (fun q => z01.mp c15 q.2.1)] at kk
    exact kk
  · have kk := k M2 hO2
    rw [if_neg (fun q => z01.mp c25 (in10.mpr q.2.2))] at kk
    exact kk
  · have kk := k M2 hO2
    rw [if_pos ⟨z01n c7, z01n c15, in10.mp (z01n c25)⟩] at kk
    exact kk
theorem c_R_chance {d : Nat} {c h dy w : Int32} {s : Sg} {M : j_M} {Q : Option Value → j_M → Prop} (hw : WF s) (hR : RepR s M) (k : ∀ M', ScrR M M' → Q (some (.long (r_chance s c h dy w))) M') : j_Ct (d + 5) I_R_chance [.ref 79, .int c, .int h, .int dy, .int w] M Q := by
  refine j_met (by decide +kernel) co_R_chance (Nat.le_of_ble_eq_true rfl) (fun X hX => ?_)
  show j_W (d + 5) I_R_chance X 0 [some (.ref 79), some (.int c), some (.int h), some (.int dy), some (.int w)] [] M
  have hn6 : g_hn s ≤ 6 := hnB_le hw.1
  by_cases hb : okCha s c h dy w
  · obtain ⟨g1, g2, g3, g4⟩ := id hb
    have g123 : (0 ≤ c ∧ c ≤ 16) ∧ (0 ≤ h ∧ h < nI (g_hn s)) ∧ (0 ≤ dy ∧ dy < 10) := ⟨g1, g2, g3⟩
    have g4' := in2.mpr g4
    have hr : r_chance s c h dy w = lN (frcN (wgF s (cl c) (cl h) 99 0 (cl dy + 1) 0 mo0) (16 ^ (cl dy + 1)) w) := by unfold r_chance; rw [if_pos hb]
    rw [hr] at k
    obtain ⟨x, hx, rfl⟩ := le_of (n := 16) (by omega) g1.1 g1.2
    obtain ⟨y, hy, rfl, ey⟩ := okd h _ (by omega) g2
    obtain ⟨z, hz, rfl, ez⟩ := okd dy 10 (by omega) g3
    rw [show cl (nI x) = x from nI_cl (by omega), ey, ez] at k
    refine jx_aload0 (pc := 0) d_R_chance_0 ?_
    refine jx_iload1 (pc := 1) d_R_chance_1 ?_
    refine jx_iload2 (pc := 2) d_R_chance_2 ?_
    refine jx_iload3 (pc := 3) d_R_chance_3 ?_
    refine jx_callV3 (pc := 4) (d' := d + 4) vo_R_isChance lk_R_275 d_R_chance_4 ad_79 sh_79 rfl (by omega) (Nat.le_of_ble_eq_true rfl) ?_
    refine c_R_isChance hw hR (fun M2 hO2 => ?_)
    refine jx_r1 ?_
    refine jx_if_eq (pc := 7) 32 d_R_chance_7 (by decide) (fun c7 => absurd c7 (z01p g123)) (fun c7 => ?_)
    refine jx_iload4 (pc := 10) d_R_chance_10 ?_
    refine jx_iconst (pc := 12) (v := 0) d_R_chance_12 (by decide) ?_
    refine jx_iconst (pc := 13) (v := 1) d_R_chance_13 (by decide) ?_
    refine jx_callS3 (pc := 14) (d' := 0) so_R_in lk_R_95 d_R_chance_14 (by omega) (Nat.le_of_ble_eq_true rfl) ?_
    refine c_R_in ?_
    refine jx_r1 ?_
    refine jx_if_eq (pc := 17) 32 d_R_chance_17 (by decide) (fun c17 => absurd c17 (z01p g4')) (fun c17 => ?_)
    refine jx_aload0 (pc := 20) d_R_chance_20 ?_
    refine jx_iload1 (pc := 21) d_R_chance_21 ?_
    refine jx_iload2 (pc := 22) d_R_chance_22 ?_
    refine jx_iload3 (pc := 23) d_R_chance_23 ?_
    refine jx_iload4 (pc := 24) d_R_chance_24 ?_
    refine jx_callV4 (pc := 26) (d' := d + 4) vo_R_chanceOf lk_R_278 d_R_chance_26 ad_79 sh_79 rfl (by omega) (Nat.le_of_ble_eq_true rfl) ?_
    refine c_R_chanceOf hw (hR.offF hO2) hx hy hz (fun M3 hS3 hr3 => ?_)
    refine jx_r1 ?_
    refine jx_goto (pc := 29) 37 d_R_chance_29 (by decide) ?_
    refine jx_lret (pc := 37) hX rfl d_R_chance_37 ?_
    rotate_left
    exact k M3 ((ScrR.offF hO2).tr hS3)
  · have hr : r_chance s c h dy w = refL (-2) := by unfold r_chance; rw [if_neg hb]
    rw [hr] at k
    refine jx_aload0 (pc := 0) d_R_chance_0 ?_
    refine jx_iload1 (pc := 1) d_R_chance_1 ?_
    refine jx_iload2 (pc := 2) d_R_chance_2 ?_
    refine jx_iload3 (pc := 3) d_R_chance_3 ?_
    refine jx_callV3 (pc := 4) (d' := d + 4) vo_R_isChance lk_R_275 d_R_chance_4 ad_79 sh_79 rfl (by omega) (Nat.le_of_ble_eq_true rfl) ?_
    refine c_R_isChance hw hR (fun M2 hO2 => ?_)
    refine jx_r1 ?_
    refine jx_if_eq (pc := 7) 32 d_R_chance_7 (by decide) (fun c7 => ?_) (fun c7 => ?_)
    refine jx_bipush (pc := 32) (v := (-2)) d_R_chance_32 (by decide) ?_
    refine jx_callS1 (pc := 34) (d' := 0) so_R_no lk_R_189 d_R_chance_34 (by omega) (Nat.le_of_ble_eq_true rfl) ?_
    refine c_R_no ?_
    refine jx_r1 ?_
    refine jx_lret (pc := 37) hX rfl d_R_chance_37 ?_
    rotate_left
    refine jx_iload4 (pc := 10) d_R_chance_10 ?_
    refine jx_iconst (pc := 12) (v := 0) d_R_chance_12 (by decide) ?_
    refine jx_iconst (pc := 13) (v := 1) d_R_chance_13 (by decide) ?_
    refine jx_callS3 (pc := 14) (d' := 0) so_R_in lk_R_95 d_R_chance_14 (by omega) (Nat.le_of_ble_eq_true rfl) ?_
    refine c_R_in ?_
    refine jx_r1 ?_
    refine jx_if_eq (pc := 17) 32 d_R_chance_17 (by decide) (fun c17 => ?_) (fun c17 => ?_)
    refine jx_bipush (pc := 32) (v := (-2)) d_R_chance_32 (by decide) ?_
    refine jx_callS1 (pc := 34) (d' := 0) so_R_no lk_R_189 d_R_chance_34 (by omega) (Nat.le_of_ble_eq_true rfl) ?_
    refine c_R_no ?_
    refine jx_r1 ?_
    refine jx_lret (pc := 37) hX rfl d_R_chance_37 ?_
    rotate_left
    rotate_left
    · exact k M2 (ScrR.offF hO2)
    · exact k M2 (ScrR.offF hO2)
    · have g := z01n c7
      exact absurd ⟨g.1, g.2.1, g.2.2, in2.mp (z01n c17)⟩ hb
theorem c_R_heardOf {d c h t last : Nat} {s : Sg} {M : j_M} {Q : Option Value → j_M → Prop} (hw : WF s) (hR : RepR s M) (hc : c ≤ 16) (hh : h < g_hn s) (ht : t < 3) (hl : last < 10)
    (k : ∀ M', ScrR M M' → RdR s M' → Q (some (.int (nI (hdB s c h t last (last + 1))))) M') : j_Ct (d + 4) I_R_heardOf [.ref 79, .int (nI c), .int (nI h), .int (nI t), .int (nI last)] M Q := by
  refine j_met (by decide +kernel) co_R_heardOf (Nat.le_of_ble_eq_true rfl) (fun X hX => ?_)
  show j_W (d + 4) I_R_heardOf X 0 [some (.ref 79), some (.int (nI c)), some (.int (nI h)), some (.int (nI t)), some (.int (nI last)), none, none, none, none, none, none] [] M
  have hn6 : g_hn s ≤ 6 := hnB_le hw.1
  have hp := p16 (n := last + 1) (by omega)
  have loop : ∀ (r i : Nat) (M2 : j_M) (b : Int32) (g : Int64) (e9 e10 : Option Value), i + r = last + 1 → ScrR M M2 → RdR s M2 → (b = if i = 0 then -1 else nI (hdB s c h t last i)) → (g = if i = 0 then 0 else lN (hdW s c h t last (hdB s c h t last i))) → j_W (d + 4) I_R_heardOf X 13 [some (.ref 79), some (.int (nI c)), some (.int (nI h)), some (.int (nI t)), some (.int (nI last)), some (.int b), some (.long g), none, some (.int (nI i)), e9, e10] [] M2 := by
    intro r
    induction r with
    | zero =>
      intro i M2 b g e9 e10 hi hS hr hb hg
      have hi' : i = last + 1 := by omega
      subst hi'
      rw [if_neg (by omega)] at hb
      subst hb
      refine jx_iload8 (pc := 13) d_R_heardOf_13 ?_
      refine jx_iload4 (pc := 15) d_R_heardOf_15 ?_
      refine jx_icmp_gt (pc := 17) 87 d_R_heardOf_17 (by decide) (fun c17 => ?_) (fun c17 => absurd c17 (fun q => q (nI_lt (by omega) (by omega))))
      refine jx_iload5 (pc := 87) d_R_heardOf_87 ?_
      refine jx_iret (pc := 89) hX rfl d_R_heardOf_89 ?_
      rotate_left
      exact k M2 hS hr
    | succ r ih =>
      intro i M2 b g e9 e10 hi hS hr hb hg
      have hngt : ¬ nI last < nI i := nI_nlt (by omega) (by omega)
      have b1 : hdW s c h t last i ≤ 16 ^ (last + 1) := wgF_le s h i t hc (last + 1) 0 mo0
      have b2 : hdW s c h t last (hdB s c h t last i) ≤ 16 ^ (last + 1) := wgF_le s h _ t hc (last + 1) 0 mo0
      have hBl := hdB_lt s c h t last i
      by_cases h0 : i = 0
      · rw [if_pos h0] at hb hg
        have hB : hdB s c h t last (i + 1) = i := by rw [hdB]; split; rfl; omega
        refine jx_iload8 (pc := 13) d_R_heardOf_13 ?_
        refine jx_iload4 (pc := 15) d_R_heardOf_15 ?_
        refine jx_icmp_gt (pc := 17) 87 d_R_heardOf_17 (by decide) (fun c17 => absurd c17 hngt) (fun c17 => ?_)
        refine jx_aload0 (pc := 20) d_R_heardOf_20 ?_
        refine jx_callV0 (pc := 21) (d' := 0) vo_R_asTold lk_R_172 d_R_heardOf_21 ad_79 sh_79 rfl (by omega) (Nat.le_of_ble_eq_true rfl) ?_
        refine c_R_asTold (hS.rep hR).v (fun M3 h14 h18 h19 hb3 hq3 => ?_)
        have hS3 : ScrR M M3 := hS.tr (scr_told hb3 hq3)
        have hr3 : RdR s M3 := hr.of (hq3 2 (by omega) (by omega) (by omega)) (hb3 81 (by omega))
        refine jx_r0 ?_
        refine jx_aload0 (pc := 24) d_R_heardOf_24 ?_
        refine jx_iload8 (pc := 25) d_R_heardOf_25 ?_
        refine jx_iload2 (pc := 27) d_R_heardOf_27 ?_
        refine jx_iload3 (pc := 28) d_R_heardOf_28 ?_
        refine jx_callV3 (pc := 29) (d' := 0) vo_R_adds lk_R_216 d_R_heardOf_29 ad_79 sh_79 rfl (by omega) (Nat.le_of_ble_eq_true rfl) ?_
        refine c_R_addsN (NMo.zero h14) (by show (0 : Nat) < 30; omega) (show i < 30 by omega) (show h < 6 by omega) ht (fun M4 hN4 hb4 hq4 => ?_)
        have hS4 : ScrR M M4 := hS3.tr (scr_adds hb4 hq4)
        have hr4 : RdR s M4 := hr3.of (hq4 2 (by omega)) (hb4 81 (by omega) (by omega) (by omega) (by omega))
        refine jx_r0 ?_
        refine jx_aload0 (pc := 32) d_R_heardOf_32 ?_
        refine jx_iload1 (pc := 33) d_R_heardOf_33 ?_
        refine jx_iload2 (pc := 34) d_R_heardOf_34 ?_
        refine jx_iload4 (pc := 35) d_R_heardOf_35 ?_
        refine jx_callV3 (pc := 37) (d' := d + 3) vo_R_chanceBy lk_R_272 d_R_heardOf_37 ad_79 sh_79 rfl (by omega) (Nat.le_of_ble_eq_true rfl) ?_
        refine c_R_chanceBy (md := i) (mt := t) hw (hS4.rep hR) hr4 hN4 (by rw [hq4 19 (by omega)]; exact h19) (fun dd hdd => by rw [dl_aN, show dl V0 dd = [] from rfl, List.nil_append]; by_cases hc2 : i = dd; rw [if_pos hc2, if_pos hc2.symm]; rw [if_neg hc2, if_neg (fun q => hc2 q.symm)]) hc hh hl (fun M5 hS5 hr5 => ?_)
        have hS9 := hS4.tr hS5
        refine jx_r1 ?_
        refine jx_lstore9 (pc := 40) d_R_heardOf_40 rfl (Nat.le_of_ble_eq_true rfl) ?_
        refine jx_iload5 (pc := 42) d_R_heardOf_42 ?_
        refine jx_iconst (pc := 44) (v := (-1)) d_R_heardOf_44 (by decide) ?_
        refine jx_icmp_eq (pc := 45) 56 d_R_heardOf_45 (by decide) (fun c45 => ?_) (fun c45 => absurd c45 (fun q => q hb))
        refine jx_iload8 (pc := 56) d_R_heardOf_56 ?_
        refine jx_goto (pc := 58) 63 d_R_heardOf_58 (by decide) ?_
        refine jx_istore5 (pc := 63) d_R_heardOf_63 rfl (Nat.le_of_ble_eq_true rfl) ?_
        refine jx_iload5 (pc := 65) d_R_heardOf_65 ?_
        refine jx_iload8 (pc := 67) d_R_heardOf_67 ?_
        refine jx_icmp_ne (pc := 69) 77 d_R_heardOf_69 (by decide) (fun c69 => absurd c69 (fun q => q rfl)) (fun c69 => ?_)
        refine jx_lload9 (pc := 72) d_R_heardOf_72 ?_
        refine jx_goto (pc := 74) 79 d_R_heardOf_74 (by decide) ?_
        refine jx_lstore6 (pc := 79) d_R_heardOf_79 rfl (Nat.le_of_ble_eq_true rfl) ?_
        refine jx_iinc8 (pc := 81) d_R_heardOf_81 rfl (Nat.le_of_ble_eq_true rfl) ?_
        refine jx_goto (pc := 84) 13 d_R_heardOf_84 (by decide) ?_
        rotate_left
        rw [nI_add1]
        exact ih (i + 1) M5 _ _ _ _ (by omega) hS9 hr5 (by rw [if_neg (by omega), hB]) (by rw [if_neg (by omega), hB]; rfl)
      · rw [if_neg h0] at hb hg
        have hbm : ¬ b = -1 := by rw [hb]; exact nI_ne_m1 (by omega)
        have hlt : lN (hdW s c h t last i) ≤ g ↔ hdW s c h t last i ≤ hdW s c h t last (hdB s c h t last i) := by rw [hg]; exact pk_lLE (by omega) (by omega)
        have hBi : hdB s c h t last i ≠ i := by
          obtain ⟨i', rfl⟩ : ∃ i', i = i' + 1 := ⟨i - 1, by omega⟩
          have := hdB_lt s c h t last i'
          rw [hdB]; split <;> omega
        by_cases hq : hdW s c h t last (hdB s c h t last i) < hdW s c h t last i
        · have hB : hdB s c h t last (i + 1) = i := by rw [hdB, if_pos hq]
          refine jx_iload8 (pc := 13) d_R_heardOf_13 ?_
          refine jx_iload4 (pc := 15) d_R_heardOf_15 ?_
          refine jx_icmp_gt (pc := 17) 87 d_R_heardOf_17 (by decide) (fun c17 => absurd c17 hngt) (fun c17 => ?_)
          refine jx_aload0 (pc := 20) d_R_heardOf_20 ?_
          refine jx_callV0 (pc := 21) (d' := 0) vo_R_asTold lk_R_172 d_R_heardOf_21 ad_79 sh_79 rfl (by omega) (Nat.le_of_ble_eq_true rfl) ?_
          refine c_R_asTold (hS.rep hR).v (fun M3 h14 h18 h19 hb3 hq3 => ?_)
          have hS3 : ScrR M M3 := hS.tr (scr_told hb3 hq3)
          have hr3 : RdR s M3 := hr.of (hq3 2 (by omega) (by omega) (by omega)) (hb3 81 (by omega))
          refine jx_r0 ?_
          refine jx_aload0 (pc := 24) d_R_heardOf_24 ?_
          refine jx_iload8 (pc := 25) d_R_heardOf_25 ?_
          refine jx_iload2 (pc := 27) d_R_heardOf_27 ?_
          refine jx_iload3 (pc := 28) d_R_heardOf_28 ?_
          refine jx_callV3 (pc := 29) (d' := 0) vo_R_adds lk_R_216 d_R_heardOf_29 ad_79 sh_79 rfl (by omega) (Nat.le_of_ble_eq_true rfl) ?_
          refine c_R_addsN (NMo.zero h14) (by show (0 : Nat) < 30; omega) (show i < 30 by omega) (show h < 6 by omega) ht (fun M4 hN4 hb4 hq4 => ?_)
          have hS4 : ScrR M M4 := hS3.tr (scr_adds hb4 hq4)
          have hr4 : RdR s M4 := hr3.of (hq4 2 (by omega)) (hb4 81 (by omega) (by omega) (by omega) (by omega))
          refine jx_r0 ?_
          refine jx_aload0 (pc := 32) d_R_heardOf_32 ?_
          refine jx_iload1 (pc := 33) d_R_heardOf_33 ?_
          refine jx_iload2 (pc := 34) d_R_heardOf_34 ?_
          refine jx_iload4 (pc := 35) d_R_heardOf_35 ?_
          refine jx_callV3 (pc := 37) (d' := d + 3) vo_R_chanceBy lk_R_272 d_R_heardOf_37 ad_79 sh_79 rfl (by omega) (Nat.le_of_ble_eq_true rfl) ?_
          refine c_R_chanceBy (md := i) (mt := t) hw (hS4.rep hR) hr4 hN4 (by rw [hq4 19 (by omega)]; exact h19) (fun dd hdd => by rw [dl_aN, show dl V0 dd = [] from rfl, List.nil_append]; by_cases hc2 : i = dd; rw [if_pos hc2, if_pos hc2.symm]; rw [if_neg hc2, if_neg (fun q => hc2 q.symm)]) hc hh hl (fun M5 hS5 hr5 => ?_)
          have hS9 := hS4.tr hS5
          refine jx_r1 ?_
          refine jx_lstore9 (pc := 40) d_R_heardOf_40 rfl (Nat.le_of_ble_eq_true rfl) ?_
          refine jx_iload5 (pc := 42) d_R_heardOf_42 ?_
          refine jx_iconst (pc := 44) (v := (-1)) d_R_heardOf_44 (by decide) ?_
          refine jx_icmp_eq (pc := 45) 56 d_R_heardOf_45 (by decide) (fun c45 => absurd c45 hbm) (fun c45 => ?_)
          refine jx_lload9 (pc := 48) d_R_heardOf_48 ?_
          refine jx_lload6 (pc := 50) d_R_heardOf_50 ?_
          refine jx_lcmp (pc := 52) d_R_heardOf_52 ?_
          refine jx_if_le (pc := 53) 61 d_R_heardOf_53 (by decide) (fun c53 => absurd c53 (fun q => absurd (hlt.mp ((lg_cmp_le _ _).mp q)) (by omega))) (fun c53 => ?_)
          refine jx_iload8 (pc := 56) d_R_heardOf_56 ?_
          refine jx_goto (pc := 58) 63 d_R_heardOf_58 (by decide) ?_
          refine jx_istore5 (pc := 63) d_R_heardOf_63 rfl (Nat.le_of_ble_eq_true rfl) ?_
          refine jx_iload5 (pc := 65) d_R_heardOf_65 ?_
          refine jx_iload8 (pc := 67) d_R_heardOf_67 ?_
          refine jx_icmp_ne (pc := 69) 77 d_R_heardOf_69 (by decide) (fun c69 => absurd c69 (fun q => q rfl)) (fun c69 => ?_)
          refine jx_lload9 (pc := 72) d_R_heardOf_72 ?_
          refine jx_goto (pc := 74) 79 d_R_heardOf_74 (by decide) ?_
          refine jx_lstore6 (pc := 79) d_R_heardOf_79 rfl (Nat.le_of_ble_eq_true rfl) ?_
          refine jx_iinc8 (pc := 81) d_R_heardOf_81 rfl (Nat.le_of_ble_eq_true rfl) ?_
          refine jx_goto (pc := 84) 13 d_R_heardOf_84 (by decide) ?_
          rotate_left
          rw [nI_add1]
          exact ih (i + 1) M5 _ _ _ _ (by omega) hS9 hr5 (by rw [if_neg (by omega), hB]) (by rw [if_neg (by omega), hB]; rfl)
        · have hB : hdB s c h t last (i + 1) = hdB s c h t last i := by rw [hdB, if_neg hq]
          have hne : ¬ b = nI i := by rw [hb]; exact fun q => hBi ((nI_eq (by omega) (by omega)).mp q)
          refine jx_iload8 (pc := 13) d_R_heardOf_13 ?_
          refine jx_iload4 (pc := 15) d_R_heardOf_15 ?_
          refine jx_icmp_gt (pc := 17) 87 d_R_heardOf_17 (by decide) (fun c17 => absurd c17 hngt) (fun c17 => ?_)
          refine jx_aload0 (pc := 20) d_R_heardOf_20 ?_
          refine jx_callV0 (pc := 21) (d' := 0) vo_R_asTold lk_R_172 d_R_heardOf_21 ad_79 sh_79 rfl (by omega) (Nat.le_of_ble_eq_true rfl) ?_
          refine c_R_asTold (hS.rep hR).v (fun M3 h14 h18 h19 hb3 hq3 => ?_)
          have hS3 : ScrR M M3 := hS.tr (scr_told hb3 hq3)
          have hr3 : RdR s M3 := hr.of (hq3 2 (by omega) (by omega) (by omega)) (hb3 81 (by omega))
          refine jx_r0 ?_
          refine jx_aload0 (pc := 24) d_R_heardOf_24 ?_
          refine jx_iload8 (pc := 25) d_R_heardOf_25 ?_
          refine jx_iload2 (pc := 27) d_R_heardOf_27 ?_
          refine jx_iload3 (pc := 28) d_R_heardOf_28 ?_
          refine jx_callV3 (pc := 29) (d' := 0) vo_R_adds lk_R_216 d_R_heardOf_29 ad_79 sh_79 rfl (by omega) (Nat.le_of_ble_eq_true rfl) ?_
          refine c_R_addsN (NMo.zero h14) (by show (0 : Nat) < 30; omega) (show i < 30 by omega) (show h < 6 by omega) ht (fun M4 hN4 hb4 hq4 => ?_)
          have hS4 : ScrR M M4 := hS3.tr (scr_adds hb4 hq4)
          have hr4 : RdR s M4 := hr3.of (hq4 2 (by omega)) (hb4 81 (by omega) (by omega) (by omega) (by omega))
          refine jx_r0 ?_
          refine jx_aload0 (pc := 32) d_R_heardOf_32 ?_
          refine jx_iload1 (pc := 33) d_R_heardOf_33 ?_
          refine jx_iload2 (pc := 34) d_R_heardOf_34 ?_
          refine jx_iload4 (pc := 35) d_R_heardOf_35 ?_
          refine jx_callV3 (pc := 37) (d' := d + 3) vo_R_chanceBy lk_R_272 d_R_heardOf_37 ad_79 sh_79 rfl (by omega) (Nat.le_of_ble_eq_true rfl) ?_
          refine c_R_chanceBy (md := i) (mt := t) hw (hS4.rep hR) hr4 hN4 (by rw [hq4 19 (by omega)]; exact h19) (fun dd hdd => by rw [dl_aN, show dl V0 dd = [] from rfl, List.nil_append]; by_cases hc2 : i = dd; rw [if_pos hc2, if_pos hc2.symm]; rw [if_neg hc2, if_neg (fun q => hc2 q.symm)]) hc hh hl (fun M5 hS5 hr5 => ?_)
          have hS9 := hS4.tr hS5
          refine jx_r1 ?_
          refine jx_lstore9 (pc := 40) d_R_heardOf_40 rfl (Nat.le_of_ble_eq_true rfl) ?_
          refine jx_iload5 (pc := 42) d_R_heardOf_42 ?_
          refine jx_iconst (pc := 44) (v := (-1)) d_R_heardOf_44 (by decide) ?_
          refine jx_icmp_eq (pc := 45) 56 d_R_heardOf_45 (by decide) (fun c45 => absurd c45 hbm) (fun c45 => ?_)
          refine jx_lload9 (pc := 48) d_R_heardOf_48 ?_
          refine jx_lload6 (pc := 50) d_R_heardOf_50 ?_
          refine jx_lcmp (pc := 52) d_R_heardOf_52 ?_
          refine jx_if_le (pc := 53) 61 d_R_heardOf_53 (by decide) (fun c53 => ?_) (fun c53 => absurd c53 (fun q => q ((lg_cmp_le _ _).mpr (hlt.mpr (by omega)))))
          refine jx_iload5 (pc := 61) d_R_heardOf_61 ?_
          refine jx_istore5 (pc := 63) d_R_heardOf_63 rfl (Nat.le_of_ble_eq_true rfl) ?_
          refine jx_iload5 (pc := 65) d_R_heardOf_65 ?_
          refine jx_iload8 (pc := 67) d_R_heardOf_67 ?_
          refine jx_icmp_ne (pc := 69) 77 d_R_heardOf_69 (by decide) (fun c69 => ?_) (fun c69 => absurd c69 hne)
          refine jx_lload6 (pc := 77) d_R_heardOf_77 ?_
          refine jx_lstore6 (pc := 79) d_R_heardOf_79 rfl (Nat.le_of_ble_eq_true rfl) ?_
          refine jx_iinc8 (pc := 81) d_R_heardOf_81 rfl (Nat.le_of_ble_eq_true rfl) ?_
          refine jx_goto (pc := 84) 13 d_R_heardOf_84 (by decide) ?_
          rotate_left
          rw [nI_add1]
          exact ih (i + 1) M5 _ _ _ _ (by omega) hS9 hr5 (by rw [if_neg (by omega), hB, hb]) (by rw [if_neg (by omega), hB, hg])
  refine jx_aload0 (pc := 0) d_R_heardOf_0 ?_
  refine jx_callV0 (pc := 1) (d' := d + 3) vo_R_reads lk_R_109 d_R_heardOf_1 ad_79 sh_79 rfl (by omega) (Nat.le_of_ble_eq_true rfl) ?_
  refine c_R_reads (d := d + 1) hw hR (fun M1 hr1 hO1 => ?_)
  refine jx_r0 ?_
  refine jx_iconst (pc := 4) (v := (-1)) d_R_heardOf_4 (by decide) ?_
  refine jx_istore5 (pc := 5) d_R_heardOf_5 rfl (Nat.le_of_ble_eq_true rfl) ?_
  refine jx_lconst (pc := 7) (v := 0) d_R_heardOf_7 (by decide) ?_
  refine jx_lstore6 (pc := 8) d_R_heardOf_8 rfl (Nat.le_of_ble_eq_true rfl) ?_
  refine jx_iconst (pc := 10) (v := 0) d_R_heardOf_10 (by decide) ?_
  refine jx_istore8 (pc := 11) d_R_heardOf_11 rfl (Nat.le_of_ble_eq_true rfl) ?_
  rotate_left
  exact loop (last + 1) 0 M1 _ _ _ _ (by omega) (ScrR.offF hO1) hr1 rfl rfl
theorem c_R_heard {d : Nat} {c h t dy : Int32} {s : Sg} {M : j_M} {Q : Option Value → j_M → Prop} (hw : WF s) (hR : RepR s M) (k : ∀ M', ScrR M M' → Q (some (.int (r_heard s c h t dy))) M') : j_Ct (d + 5) I_R_heard [.ref 79, .int c, .int h, .int t, .int dy] M Q := by
  refine j_met (by decide +kernel) co_R_heard (Nat.le_of_ble_eq_true rfl) (fun X hX => ?_)
  show j_W (d + 5) I_R_heard X 0 [some (.ref 79), some (.int c), some (.int h), some (.int t), some (.int dy)] [] M
  have hn6 : g_hn s ≤ 6 := hnB_le hw.1
  by_cases hb : okHrd s c h t dy
  · obtain ⟨g1, g2, g4, g3⟩ := id hb
    have g123 : (0 ≤ c ∧ c ≤ 16) ∧ (0 ≤ h ∧ h < nI (g_hn s)) ∧ (0 ≤ dy ∧ dy < 10) := ⟨g1, g2, g3⟩
    have g4' := g4
    have hr : r_heard s c h t dy = nI (hdB s (cl c) (cl h) (cl t) (cl dy) (cl dy + 1)) := by unfold r_heard; rw [if_pos hb]
    rw [hr] at k
    obtain ⟨x, hx, rfl⟩ := le_of (n := 16) (by omega) g1.1 g1.2
    obtain ⟨y, hy, rfl, ey⟩ := okd h _ (by omega) g2
    obtain ⟨z, hz, rfl, ez⟩ := okd dy 10 (by omega) g3
    obtain ⟨u, hu, rfl, eu⟩ := okd t 3 (by omega) g4
    rw [show cl (nI x) = x from nI_cl (by omega), ey, ez, eu] at k
    refine jx_aload0 (pc := 0) d_R_heard_0 ?_
    refine jx_iload1 (pc := 1) d_R_heard_1 ?_
    refine jx_iload2 (pc := 2) d_R_heard_2 ?_
    refine jx_iload4 (pc := 3) d_R_heard_3 ?_
    refine jx_callV3 (pc := 5) (d' := d + 4) vo_R_isChance lk_R_275 d_R_heard_5 ad_79 sh_79 rfl (by omega) (Nat.le_of_ble_eq_true rfl) ?_
    refine c_R_isChance hw hR (fun M2 hO2 => ?_)
    refine jx_r1 ?_
    refine jx_if_eq (pc := 8) 30 d_R_heard_8 (by decide) (fun c8 => absurd c8 (z01p g123)) (fun c8 => ?_)
    refine jx_iload3 (pc := 11) d_R_heard_11 ?_
    refine jx_callS1 (pc := 12) (d' := 1) so_R_isThing lk_R_116 d_R_heard_12 (by omega) (Nat.le_of_ble_eq_true rfl) ?_
    refine c_R_isThing ?_
    refine jx_r1 ?_
    refine jx_if_eq (pc := 15) 30 d_R_heard_15 (by decide) (fun c15 => absurd c15 (z01p g4')) (fun c15 => ?_)
    refine jx_aload0 (pc := 18) d_R_heard_18 ?_
    refine jx_iload1 (pc := 19) d_R_heard_19 ?_
    refine jx_iload2 (pc := 20) d_R_heard_20 ?_
    refine jx_iload3 (pc := 21) d_R_heard_21 ?_
    refine jx_iload4 (pc := 22) d_R_heard_22 ?_
    refine jx_callV4 (pc := 24) (d' := d + 4) vo_R_heardOf lk_R_282 d_R_heard_24 ad_79 sh_79 rfl (by omega) (Nat.le_of_ble_eq_true rfl) ?_
    refine c_R_heardOf hw (hR.offF hO2) hx hy hu hz (fun M3 hS3 hr3 => ?_)
    refine jx_r1 ?_
    refine jx_goto (pc := 27) 32 d_R_heard_27 (by decide) ?_
    refine jx_iret (pc := 32) hX rfl d_R_heard_32 ?_
    rotate_left
    exact k M3 ((ScrR.offF hO2).tr hS3)
  · have hr : r_heard s c h t dy = -2 := by unfold r_heard; rw [if_neg hb]
    rw [hr] at k
    refine jx_aload0 (pc := 0) d_R_heard_0 ?_
    refine jx_iload1 (pc := 1) d_R_heard_1 ?_
    refine jx_iload2 (pc := 2) d_R_heard_2 ?_
    refine jx_iload4 (pc := 3) d_R_heard_3 ?_
    refine jx_callV3 (pc := 5) (d' := d + 4) vo_R_isChance lk_R_275 d_R_heard_5 ad_79 sh_79 rfl (by omega) (Nat.le_of_ble_eq_true rfl) ?_
    refine c_R_isChance hw hR (fun M2 hO2 => ?_)
    refine jx_r1 ?_
    refine jx_if_eq (pc := 8) 30 d_R_heard_8 (by decide) (fun c8 => ?_) (fun c8 => ?_)
    refine jx_bipush (pc := 30) (v := (-2)) d_R_heard_30 (by decide) ?_
    refine jx_iret (pc := 32) hX rfl d_R_heard_32 ?_
    rotate_left
    refine jx_iload3 (pc := 11) d_R_heard_11 ?_
    refine jx_callS1 (pc := 12) (d' := 1) so_R_isThing lk_R_116 d_R_heard_12 (by omega) (Nat.le_of_ble_eq_true rfl) ?_
    refine c_R_isThing ?_
    refine jx_r1 ?_
    refine jx_if_eq (pc := 15) 30 d_R_heard_15 (by decide) (fun c15 => ?_) (fun c15 => ?_)
    refine jx_bipush (pc := 30) (v := (-2)) d_R_heard_30 (by decide) ?_
    refine jx_iret (pc := 32) hX rfl d_R_heard_32 ?_
    rotate_left
    rotate_left
    · exact k M2 (ScrR.offF hO2)
    · exact k M2 (ScrR.offF hO2)
    · have g := z01n c8
      exact absurd ⟨g.1, g.2.1, z01n c15, g.2.2⟩ hb
