/-! OPERATIONS of the reference, eleven: shares -/
theorem c_R_no {d : Nat} {x : Int32} {M : j_M} {Q : Option Value → j_M → Prop} (k : Q (some (.long (refL x))) M) : j_Ct d I_R_no [.int x] M Q := by
  refine j_met (by decide +kernel) co_R_no (Nat.le_of_ble_eq_true rfl) (fun X hX => ?_)
  show j_W d I_R_no X 0 [some (.int x)] [] M
  refine jx_ldc2 (pc := 0) d_R_no_0 lc_R_93 ?_
  refine jx_iload0 (pc := 3) d_R_no_3 ?_
  refine jx_i2l (pc := 4) d_R_no_4 ?_
  refine jx_lsub (pc := 5) d_R_no_5 ?_
  refine jx_lret (pc := 6) hX rfl d_R_no_6 ?_
  rotate_left
  exact k
theorem c_R_lowest {d a b : Nat} {w : Int32} {M : j_M} {Q : Option Value → j_M → Prop} (ha : a < 2 ^ 62) (hb : b < 2 ^ 62) (hb0 : 0 < b) (k : Q (some (.long (lN (frcN a b w)))) M) : j_Ct d I_R_lowest [.long (lN a), .long (lN b), .int w] M Q := by
  refine j_met (by decide +kernel) co_R_lowest (Nat.le_of_ble_eq_true rfl) (fun X hX => ?_)
  show j_W d I_R_lowest X 0 [some (.long (lN a)), none, some (.long (lN b)), none, some (.int w), none, none, none, none, none, none] [] M
  have hg0 : 0 < Nat.gcd a b := Nat.gcd_pos_of_pos_right _ hb0
  have hgb : Nat.gcd a b ≤ b := Nat.gcd_le_right _ hb0
  have loop : ∀ (n x y : Nat), y ≤ n → x < 2 ^ 62 → y < 2 ^ 62 → Nat.gcd x y = Nat.gcd a b → ∀ (e1 e2 : Option Value), j_W d I_R_lowest X 6 [some (.long (lN a)), none, some (.long (lN b)), none, some (.int w), some (.long (lN x)), none, some (.long (lN y)), none, e1, e2] [] M := by
    have fin : ∀ (x : Nat), x < 2 ^ 62 → Nat.gcd x 0 = Nat.gcd a b → ∀ (e1 e2 : Option Value), j_W d I_R_lowest X 6 [some (.long (lN a)), none, some (.long (lN b)), none, some (.int w), some (.long (lN x)), none, some (.long (lN 0)), none, e1, e2] [] M := by
      intro x hx hg e1 e2
      rw [Nat.gcd_zero_right] at hg
      subst hg
      by_cases hw : w = 0
      · have hf : frcN a b w = a / Nat.gcd a b := by unfold frcN; rw [if_pos hw]
        rw [hf] at k
        refine jx_lload7 (pc := 6) d_R_lowest_6 ?_
        refine jx_lconst (pc := 8) (v := 0) d_R_lowest_8 (by decide) ?_
        refine jx_lcmp (pc := 9) d_R_lowest_9 ?_
        refine jx_if_eq (pc := 10) 31 d_R_lowest_10 (by decide) (fun c10 => ?_) (fun c10 => absurd c10 (fun z => z ((lcz (by omega)).mpr rfl)))
        refine jx_iload4 (pc := 31) d_R_lowest_31 ?_
        refine jx_if_ne (pc := 33) 43 d_R_lowest_33 (by decide) (fun c33 => absurd c33 (fun z => z hw)) (fun c33 => ?_)
        refine jx_lload0 (pc := 36) d_R_lowest_36 ?_
        refine jx_lload5 (pc := 37) d_R_lowest_37 ?_
        refine jx_ldiv (pc := 39) d_R_lowest_39 (lnz (by omega) (by omega)) ?_
        refine jx_goto (pc := 40) 47 d_R_lowest_40 (by decide) ?_
        refine jx_lret (pc := 47) hX rfl d_R_lowest_47 ?_
        rotate_left
        rw [pk_lDiv (by omega) hg0 (by omega)]
        exact k
      · have hf : frcN a b w = b / Nat.gcd a b := by unfold frcN; rw [if_neg hw]
        rw [hf] at k
        refine jx_lload7 (pc := 6) d_R_lowest_6 ?_
        refine jx_lconst (pc := 8) (v := 0) d_R_lowest_8 (by decide) ?_
        refine jx_lcmp (pc := 9) d_R_lowest_9 ?_
        refine jx_if_eq (pc := 10) 31 d_R_lowest_10 (by decide) (fun c10 => ?_) (fun c10 => absurd c10 (fun z => z ((lcz (by omega)).mpr rfl)))
        refine jx_iload4 (pc := 31) d_R_lowest_31 ?_
        refine jx_if_ne (pc := 33) 43 d_R_lowest_33 (by decide) (fun c33 => ?_) (fun c33 => absurd c33 hw)
        refine jx_lload2 (pc := 43) d_R_lowest_43 ?_
        refine jx_lload5 (pc := 44) d_R_lowest_44 ?_
        refine jx_ldiv (pc := 46) d_R_lowest_46 (lnz (by omega) (by omega)) ?_
        refine jx_lret (pc := 47) hX rfl d_R_lowest_47 ?_
        rotate_left
        rw [pk_lDiv (by omega) hg0 (by omega)]
        exact k
    intro n
    induction n with
    | zero =>
      intro x y hy hx hy2 hg e1 e2
      have hy0 : y = 0 := by omega
      subst hy0
      exact fin x hx hg e1 e2
    | succ n ih =>
      intro x y hy hx hy2 hg e1 e2
      by_cases hy0 : y = 0
      · subst hy0
        exact fin x hx hg e1 e2
      · have em1 : lN x - lN x / lN y * lN y = lN (x % y) := pk_lRem (by omega) (by omega) (by omega)
        have hxy : x % y < y := Nat.mod_lt _ (by omega)
        refine jx_lload7 (pc := 6) d_R_lowest_6 ?_
        refine jx_lconst (pc := 8) (v := 0) d_R_lowest_8 (by decide) ?_
        refine jx_lcmp (pc := 9) d_R_lowest_9 ?_
        refine jx_if_eq (pc := 10) 31 d_R_lowest_10 (by decide) (fun c10 => absurd c10 (fun z => hy0 ((lcz hy2).mp z))) (fun c10 => ?_)
        refine jx_lload5 (pc := 13) d_R_lowest_13 ?_
        refine jx_lload7 (pc := 15) d_R_lowest_15 ?_
        refine jx_lrem (pc := 17) d_R_lowest_17 (lnz hy2 hy0) ?_
        refine jx_lstore9 (pc := 18) d_R_lowest_18 rfl (Nat.le_of_ble_eq_true rfl) ?_
        refine jx_lload7 (pc := 20) d_R_lowest_20 ?_
        refine jx_lstore5 (pc := 22) d_R_lowest_22 rfl (Nat.le_of_ble_eq_true rfl) ?_
        refine jx_lload9 (pc := 24) d_R_lowest_24 ?_
        refine jx_lstore7 (pc := 26) d_R_lowest_26 rfl (Nat.le_of_ble_eq_true rfl) ?_
        refine jx_goto (pc := 28) 6 d_R_lowest_28 (by decide) ?_
        rotate_left
        rw [em1]
        exact ih y (x % y) (by omega) hy2 (by omega) (by rw [← hg, Nat.gcd_comm x y, Nat.gcd_rec y x, Nat.gcd_comm]) _ _
  refine jx_lload0 (pc := 0) d_R_lowest_0 ?_
  refine jx_lstore5 (pc := 1) d_R_lowest_1 rfl (Nat.le_of_ble_eq_true rfl) ?_
  refine jx_lload2 (pc := 3) d_R_lowest_3 ?_
  refine jx_lstore7 (pc := 4) d_R_lowest_4 rfl (Nat.le_of_ble_eq_true rfl) ?_
  rotate_left
  exact loop b a b (Nat.le_refl _) ha hb rfl _ _
theorem c_R_shareOf {d a c : Nat} {w : Int32} {s : Sg} {M : j_M} {Q : Option Value → j_M → Prop} (hw : WF s) (hR : RepR s M) (ha : a < 30) (hc : c < g_hn s) (k : ∀ M', ScrR M M' → RdR s M' → Q (some (.long (if allN s a = 0 then refL (-3) else lN (frcN (lkA s 0 a c) (allN s a) w)))) M') : j_Ct (d + 4) I_R_shareOf [.ref 79, .int (nI a), .int (nI c), .int w] M Q := by
  refine j_met (by decide +kernel) co_R_shareOf (Nat.le_of_ble_eq_true rfl) (fun X hX => ?_)
  show j_W (d + 4) I_R_shareOf X 0 [some (.ref 79), some (.int (nI a)), some (.int (nI c)), some (.int w), none, none] [] M
  have hn6 : g_hn s ≤ 6 := hnB_le hw.1
  have hA := allN_le hw ha
  have hlk := lkA_le hw 0 ha c
  have loop : ∀ (M2 : j_M), ScrR M M2 → RdR s M2 → (∀ i, i < 6 → M2 89 i = nI (lkA s 0 a i)) → ∀ (r i : Nat), i + r = g_hn s → j_W (d + 4) I_R_shareOf X 12 [some (.ref 79), some (.int (nI a)), some (.int (nI c)), some (.int w), some (.int (nI (sumN (lkA s 0 a) i))), some (.int (nI i))] [] M2 := by
    intro M2 hS hr2 hml r
    induction r with
    | zero =>
      intro i hi
      have hi' : i = g_hn s := by omega
      subst hi'
      have e1 : (nI c).toNatClampNeg = c := nI_cl (by omega)
      have hz : nI (sumN (lkA s 0 a) (g_hn s)) = 0 ↔ allN s a = 0 := nI_eq (b := 0) (by show allN s a < _; omega) (by omega)
      by_cases h0 : allN s a = 0
      · rw [if_pos h0] at k
        refine jx_iload5 (pc := 12) d_R_shareOf_12 ?_
        refine jx_aload0 (pc := 14) d_R_shareOf_14 ?_
        refine jx_getI (pc := 15) gf_R_102 d_R_shareOf_15 ad_79 sh_79 rfl ?_
        refine jx_icmp_ge (pc := 18) 39 d_R_shareOf_18 (by decide) (fun c18 => ?_) (fun c18 => absurd c18 (fun q => q (by rw [hr2.1]; exact Int32.le_refl _)))
        refine jx_iload4 (pc := 39) d_R_shareOf_39 ?_
        refine jx_if_ne (pc := 41) 52 d_R_shareOf_41 (by decide) (fun c41 => absurd c41 (fun z => z (hz.mpr h0))) (fun c41 => ?_)
        refine jx_bipush (pc := 44) (v := (-3)) d_R_shareOf_44 (by decide) ?_
        refine jx_callS1 (pc := 46) (d' := 0) so_R_no lk_R_189 d_R_shareOf_46 (by omega) (Nat.le_of_ble_eq_true rfl) ?_
        refine c_R_no ?_
        refine jx_r1 ?_
        refine jx_goto (pc := 49) 66 d_R_shareOf_49 (by decide) ?_
        refine jx_lret (pc := 66) hX rfl d_R_shareOf_66 ?_
        rotate_left
        exact k M2 hS hr2
      · rw [if_neg h0] at k
        refine jx_iload5 (pc := 12) d_R_shareOf_12 ?_
        refine jx_aload0 (pc := 14) d_R_shareOf_14 ?_
        refine jx_getI (pc := 15) gf_R_102 d_R_shareOf_15 ad_79 sh_79 rfl ?_
        refine jx_icmp_ge (pc := 18) 39 d_R_shareOf_18 (by decide) (fun c18 => ?_) (fun c18 => absurd c18 (fun q => q (by rw [hr2.1]; exact Int32.le_refl _)))
        refine jx_iload4 (pc := 39) d_R_shareOf_39 ?_
        refine jx_if_ne (pc := 41) 52 d_R_shareOf_41 (by decide) (fun c41 => ?_) (fun c41 => absurd c41 (fun z => h0 (hz.mp z)))
        refine jx_aload0 (pc := 52) d_R_shareOf_52 ?_
        refine jx_getR (pc := 53) gf_R_37 d_R_shareOf_53 ad_79 sh_79 rfl ?_
        refine jx_iload2 (pc := 56) d_R_shareOf_56 ?_
        refine jx_iald (pc := 57) d_R_shareOf_57 ad_89 sh_89 (vp_in_nI (show c < 6 by omega) (by omega)) ?_
        refine jx_i2l (pc := 58) d_R_shareOf_58 ?_
        refine jx_iload4 (pc := 59) d_R_shareOf_59 ?_
        refine jx_i2l (pc := 61) d_R_shareOf_61 ?_
        refine jx_iload3 (pc := 62) d_R_shareOf_62 ?_
        refine jx_callS3 (pc := 63) (d' := 0) so_R_lowest lk_R_193 d_R_shareOf_63 (by omega) (Nat.le_of_ble_eq_true rfl) ?_
        rw [e1, hml c (by omega), nI_l (show lkA s 0 a c < 2 ^ 31 by omega), nI_l (show sumN (lkA s 0 a) (g_hn s) < 2 ^ 31 by show allN s a < _; omega)]
        refine c_R_lowest (show lkA s 0 a c < 2 ^ 62 by omega) (show allN s a < 2 ^ 62 by omega) (show 0 < allN s a by omega) ?_
        refine jx_r1 ?_
        refine jx_lret (pc := 66) hX rfl d_R_shareOf_66 ?_
        rotate_left
        exact k M2 hS hr2
    | succ r ih =>
      intro i hi
      have h0 := ih (i + 1) (by omega)
      have e1 : (nI i).toNatClampNeg = i := nI_cl (by omega)
      refine jx_iload5 (pc := 12) d_R_shareOf_12 ?_
      refine jx_aload0 (pc := 14) d_R_shareOf_14 ?_
      refine jx_getI (pc := 15) gf_R_102 d_R_shareOf_15 ad_79 sh_79 rfl ?_
      refine jx_icmp_ge (pc := 18) 39 d_R_shareOf_18 (by decide) (fun c18 => absurd c18 (by rw [hr2.1]; exact nI_ge (by omega) (by omega))) (fun c18 => ?_)
      refine jx_iload4 (pc := 21) d_R_shareOf_21 ?_
      refine jx_aload0 (pc := 23) d_R_shareOf_23 ?_
      refine jx_getR (pc := 24) gf_R_37 d_R_shareOf_24 ad_79 sh_79 rfl ?_
      refine jx_iload5 (pc := 27) d_R_shareOf_27 ?_
      refine jx_iald (pc := 29) d_R_shareOf_29 ad_89 sh_89 (vp_in_nI (show i < 6 by omega) (by omega)) ?_
      refine jx_iadd (pc := 30) d_R_shareOf_30 ?_
      refine jx_istore4 (pc := 31) d_R_shareOf_31 rfl (Nat.le_of_ble_eq_true rfl) ?_
      refine jx_iinc5 (pc := 33) d_R_shareOf_33 rfl (Nat.le_of_ble_eq_true rfl) ?_
      refine jx_goto (pc := 36) 12 d_R_shareOf_36 (by decide) ?_
      rotate_left
      rw [nI_add1, e1, hml i (by omega), nI_add]
      exact h0
  refine jx_aload0 (pc := 0) d_R_shareOf_0 ?_
  refine jx_iconst (pc := 1) (v := 0) d_R_shareOf_1 (by decide) ?_
  refine jx_iload1 (pc := 2) d_R_shareOf_2 ?_
  refine jx_callV2 (pc := 3) (d' := d + 3) vo_R_runsTold lk_R_179 d_R_shareOf_3 ad_79 sh_79 rfl (by omega) (Nat.le_of_ble_eq_true rfl) ?_
  refine c_R_runsTold (dog := 0) hw hR (by omega) ha (fun M2 hS2 hr2 h91 h89 hbb2 => ?_)
  refine jx_r0 ?_
  refine jx_iconst (pc := 6) (v := 0) d_R_shareOf_6 (by decide) ?_
  refine jx_istore4 (pc := 7) d_R_shareOf_7 rfl (Nat.le_of_ble_eq_true rfl) ?_
  refine jx_iconst (pc := 9) (v := 0) d_R_shareOf_9 (by decide) ?_
  refine jx_istore5 (pc := 10) d_R_shareOf_10 rfl (Nat.le_of_ble_eq_true rfl) ?_
  rotate_left
  exact loop M2 hS2 hr2 h89 (g_hn s) 0 (by omega)
theorem c_R_share {d : Nat} {dy h w : Int32} {s : Sg} {M : j_M} {Q : Option Value → j_M → Prop} (hw : WF s) (hR : RepR s M) (k : ∀ M', ScrR M M' → Q (some (.long (r_share s dy h w))) M') : j_Ct (d + 5) I_R_share [.ref 79, .int dy, .int h, .int w] M Q := by
  refine j_met (by decide +kernel) co_R_share (Nat.le_of_ble_eq_true rfl) (fun X hX => ?_)
  show j_W (d + 5) I_R_share X 0 [some (.ref 79), some (.int dy), some (.int h), some (.int w)] [] M
  have hn6 : g_hn s ≤ 6 := hnB_le hw.1
  by_cases hb : okSha s dy h w
  · obtain ⟨g1, g2, g3⟩ := id hb
    have hp2 := g2
    have g3' := in2.mpr g3
    obtain ⟨a, ha, rfl, ea⟩ := okd dy 30 (by omega) g1
    obtain ⟨c, hc, rfl, ec⟩ := okd h _ (by omega) g2
    have hr : r_share s (nI a) (nI c) w = if allN s a = 0 then refL (-3) else lN (frcN (lkA s 0 a c) (allN s a) w) := by unfold r_share; rw [if_pos hb, ea, ec]
    rw [hr] at k
    refine jx_iload1 (pc := 0) d_R_share_0 ?_
    refine jx_callS1 (pc := 1) (d' := 1) so_R_isDay lk_R_126 d_R_share_1 (by omega) (Nat.le_of_ble_eq_true rfl) ?_
    refine c_R_isDay ?_
    refine jx_r1 ?_
    refine jx_if_eq (pc := 4) 34 d_R_share_4 (by decide) (fun c4 => absurd c4 (z01p g1)) (fun c4 => ?_)
    refine jx_aload0 (pc := 7) d_R_share_7 ?_
    refine jx_iload2 (pc := 8) d_R_share_8 ?_
    refine jx_callV1 (pc := 9) (d' := d + 4) vo_R_isHeir lk_R_112 d_R_share_9 ad_79 sh_79 rfl (by omega) (Nat.le_of_ble_eq_true rfl) ?_
    refine c_R_isHeir hw hR (fun M2 hr2 hO2 => ?_)
    refine jx_r1 ?_
    refine jx_if_eq (pc := 12) 34 d_R_share_12 (by decide) (fun c12 => absurd c12 (z01p hp2)) (fun c12 => ?_)
    refine jx_iload3 (pc := 15) d_R_share_15 ?_
    refine jx_iconst (pc := 16) (v := 0) d_R_share_16 (by decide) ?_
    refine jx_iconst (pc := 17) (v := 1) d_R_share_17 (by decide) ?_
    refine jx_callS3 (pc := 18) (d' := 0) so_R_in lk_R_95 d_R_share_18 (by omega) (Nat.le_of_ble_eq_true rfl) ?_
    refine c_R_in ?_
    refine jx_r1 ?_
    refine jx_if_eq (pc := 21) 34 d_R_share_21 (by decide) (fun c21 => absurd c21 (z01p g3')) (fun c21 => ?_)
    refine jx_aload0 (pc := 24) d_R_share_24 ?_
    refine jx_iload1 (pc := 25) d_R_share_25 ?_
    refine jx_iload2 (pc := 26) d_R_share_26 ?_
    refine jx_iload3 (pc := 27) d_R_share_27 ?_
    refine jx_callV3 (pc := 28) (d' := d + 4) vo_R_shareOf lk_R_197 d_R_share_28 ad_79 sh_79 rfl (by omega) (Nat.le_of_ble_eq_true rfl) ?_
    refine c_R_shareOf hw (hR.offF hO2) ha hc (fun M3 hS3 hr3 => ?_)
    refine jx_r1 ?_
    refine jx_goto (pc := 31) 39 d_R_share_31 (by decide) ?_
    refine jx_lret (pc := 39) hX rfl d_R_share_39 ?_
    rotate_left
    exact k M3 ((ScrR.offF hO2).tr hS3)
  · have hr : r_share s dy h w = refL (-2) := by unfold r_share; rw [if_neg hb]
    rw [hr] at k
    refine jx_iload1 (pc := 0) d_R_share_0 ?_
    refine jx_callS1 (pc := 1) (d' := 1) so_R_isDay lk_R_126 d_R_share_1 (by omega) (Nat.le_of_ble_eq_true rfl) ?_
    refine c_R_isDay ?_
    refine jx_r1 ?_
    refine jx_if_eq (pc := 4) 34 d_R_share_4 (by decide) (fun c4 => ?_) (fun c4 => ?_)
    refine jx_bipush (pc := 34) (v := (-2)) d_R_share_34 (by decide) ?_
    refine jx_callS1 (pc := 36) (d' := 0) so_R_no lk_R_189 d_R_share_36 (by omega) (Nat.le_of_ble_eq_true rfl) ?_
    refine c_R_no ?_
    refine jx_r1 ?_
    refine jx_lret (pc := 39) hX rfl d_R_share_39 ?_
    rotate_left
    refine jx_aload0 (pc := 7) d_R_share_7 ?_
    refine jx_iload2 (pc := 8) d_R_share_8 ?_
    refine jx_callV1 (pc := 9) (d' := d + 4) vo_R_isHeir lk_R_112 d_R_share_9 ad_79 sh_79 rfl (by omega) (Nat.le_of_ble_eq_true rfl) ?_
    refine c_R_isHeir hw hR (fun M2 hr2 hO2 => ?_)
    refine jx_r1 ?_
    refine jx_if_eq (pc := 12) 34 d_R_share_12 (by decide) (fun c12 => ?_) (fun c12 => ?_)
    refine jx_bipush (pc := 34) (v := (-2)) d_R_share_34 (by decide) ?_
    refine jx_callS1 (pc := 36) (d' := 0) so_R_no lk_R_189 d_R_share_36 (by omega) (Nat.le_of_ble_eq_true rfl) ?_
    refine c_R_no ?_
    refine jx_r1 ?_
    refine jx_lret (pc := 39) hX rfl d_R_share_39 ?_
    rotate_left
    refine jx_iload3 (pc := 15) d_R_share_15 ?_
    refine jx_iconst (pc := 16) (v := 0) d_R_share_16 (by decide) ?_
    refine jx_iconst (pc := 17) (v := 1) d_R_share_17 (by decide) ?_
    refine jx_callS3 (pc := 18) (d' := 0) so_R_in lk_R_95 d_R_share_18 (by omega) (Nat.le_of_ble_eq_true rfl) ?_
    refine c_R_in ?_
    refine jx_r1 ?_
    refine jx_if_eq (pc := 21) 34 d_R_share_21 (by decide) (fun c21 => ?_) (fun c21 => ?_)
    refine jx_bipush (pc := 34) (v := (-2)) d_R_share_34 (by decide) ?_
    refine jx_callS1 (pc := 36) (d' := 0) so_R_no lk_R_189 d_R_share_36 (by omega) (Nat.le_of_ble_eq_true rfl) ?_
    refine c_R_no ?_
    refine jx_r1 ?_
    refine jx_lret (pc := 39) hX rfl d_R_share_39 ?_
    rotate_left
    rotate_left
    · exact k M ScrR.rf
    · exact k M2 (ScrR.offF hO2)
    · exact k M2 (ScrR.offF hO2)
    · exact absurd ⟨z01n c4, z01n c12, in2.mp (z01n c21)⟩ hb
