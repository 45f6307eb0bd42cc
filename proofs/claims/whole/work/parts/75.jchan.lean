/-! OPERATIONS of the component, seventeen: heard -/
abbrev okHrd (s : Sg) (c h t dy : Int32) : Prop := (0 ≤ c ∧ c ≤ 16) ∧ (0 ≤ h ∧ h < nI (g_hn s)) ∧ (0 ≤ t ∧ t < 3) ∧ (0 ≤ dy ∧ dy < 10)
def hdW (s : Sg) (c h t last i : Nat) : Nat := wgF s c h i t (last + 1) 0 mo0
def hdB (s : Sg) (c h t last : Nat) : Nat → Nat
  | 0 => 0
  | i + 1 => if hdW s c h t last (hdB s c h t last i) < hdW s c h t last i then i else hdB s c h t last i
def r_heard (s : Sg) (c h t dy : Int32) : Int32 := if okHrd s c h t dy then nI (hdB s (cl c) (cl h) (cl t) (cl dy) (cl dy + 1)) else -2
theorem hdB_lt (s : Sg) (c h t last : Nat) : ∀ i, hdB s c h t last i ≤ i
  | 0 => Nat.le_refl _
  | i + 1 => by have := hdB_lt s c h t last i; unfold hdB; split <;> omega
theorem c_J_heard {d : Nat} {c h t dy : Int32} {s : Sg} {M : j_M} {Q : Option Value → j_M → Prop} (hw : WF s) (hR : RepC s M) (k : ∀ M', Scr M M' → Q (some (.int (r_heard s c h t dy))) M') : j_Ct (d + 21) I_J_heard [.ref 0, .int c, .int h, .int t, .int dy] M Q := by
  refine j_met (by decide +kernel) co_J_heard (Nat.le_of_ble_eq_true rfl) (fun X hX => ?_)
  show j_W (d + 21) I_J_heard X 0 [some (.ref 0), some (.int c), some (.int h), some (.int t), some (.int dy), none, none, none, none, none, none] [] M
  have h13 : M 1 3 = nI (g_hn s) := hR.1.2.1
  have hn6 : g_hn s ≤ 6 := hnB_le hw.1
  by_cases hb : okHrd s c h t dy
  · obtain ⟨g1, g2, g4, g3⟩ := id hb
    have p2 : 0 ≤ h ∧ h < M 1 3 := by rw [h13]; exact g2
    have hr : r_heard s c h t dy = nI (hdB s (cl c) (cl h) (cl t) (cl dy) (cl dy + 1)) := by unfold r_heard; rw [if_pos hb]
    rw [hr] at k
    obtain ⟨x, hx, rfl⟩ := le_of (n := 16) (by omega) g1.1 g1.2
    obtain ⟨y, hy, rfl, ey⟩ := okd h _ (by omega) g2
    obtain ⟨z, hz, rfl, ez⟩ := okd dy 10 (by omega) g3
    obtain ⟨u, hu, rfl, eu⟩ := okd t 3 (by omega) g4
    rw [show cl (nI x) = x from nI_cl (by omega), ey, ez, eu] at k
    have hS3 : Scr M (j_set (j_set (j_set M 22 1 (nI x)) 22 2 (nI y)) 22 3 (nI z)) := fun b hb => by
      have : b ≠ 22 := by unfold PC at hb; omega
      rw [j_set_n _ _ _ this, j_set_n _ _ _ this, j_set_n _ _ _ this]
    generalize hM2 : j_set (j_set (j_set M 22 1 (nI x)) 22 2 (nI y)) 22 3 (nI z) = M2 at hS3
    have q1 : M2 22 1 = nI x := by rw [← hM2]; simp [j_set_s, upd]
    have q2 : M2 22 2 = nI y := by rw [← hM2]; simp [j_set_s, upd]
    have q3 : M2 22 3 = nI z := by rw [← hM2]; simp [j_set_s, upd]
    have loop : ∀ (r i : Nat) (M3 : j_M) (g : Int64) (e9 e10 : Option Value), i + r = z + 1 → Scr M M3 → (M3 22 1 = nI x ∧ M3 22 2 = nI y ∧ M3 22 3 = nI z) → (g = if i = 0 then -1 else lN (hdW s x y u z (hdB s x y u z i))) → j_W (d + 21) I_J_heard X 58 [some (.ref 0), some (.int (nI x)), some (.int (nI y)), some (.int (nI u)), some (.int (nI z)), some (.int (nI (hdB s x y u z i))), some (.long g), none, some (.int (nI i)), e9, e10] [] M3 := by
      intro r
      induction r with
      | zero =>
        intro i M3 g e9 e10 hi hS hT hg
        have hi' : i = z + 1 := by omega
        subst hi'
        refine jx_iload8 (pc := 58) d_J_heard_58 ?_
        refine jx_iload4 (pc := 60) d_J_heard_60 ?_
        refine jx_icmp_gt (pc := 62) 105 d_J_heard_62 (by decide) (fun c62 => ?_) (fun c62 => absurd c62 (fun q => q (nI_lt (by omega) (by omega))))
        refine jx_iload5 (pc := 105) d_J_heard_105 ?_
        refine jx_iret (pc := 107) hX rfl d_J_heard_107 ?_
        rotate_left
        exact k M3 hS
      | succ r ih =>
        intro i M3 g e9 e10 hi hS hT hg
        have hp := p16 (n := z + 1) (by omega)
        have b1 : hdW s x y u z i ≤ 16 ^ (z + 1) := wgF_le s y i u hx (z + 1) 0 mo0
        have b2 : hdW s x y u z (hdB s x y u z i) ≤ 16 ^ (z + 1) := wgF_le s y _ u hx (z + 1) 0 mo0
        have hlt : g < lN (hdW s x y u z i) ↔ (i = 0 ∨ hdW s x y u z (hdB s x y u z i) < hdW s x y u z i) := by
          by_cases h0 : i = 0
          · rw [hg, if_pos h0]
            refine ⟨fun _ => Or.inl h0, fun _ => ?_⟩
            rw [Int64.lt_iff_toInt_lt, pk_lT (by omega), show (-1 : Int64).toInt = -1 from rfl]
            omega
          · rw [hg, if_neg h0, pk_lLT (by omega) (by omega)]
            exact ⟨Or.inr, fun q => q.resolve_left h0⟩
        by_cases hq : i = 0 ∨ hdW s x y u z (hdB s x y u z i) < hdW s x y u z i
        · have hB : hdB s x y u z (i + 1) = i := by
            rw [hdB]
            by_cases h9 : hdW s x y u z (hdB s x y u z i) < hdW s x y u z i
            · rw [if_pos h9]
            · rw [if_neg h9]; have h0 := hq.resolve_right h9; subst h0; rfl
          refine jx_iload8 (pc := 58) d_J_heard_58 ?_
          refine jx_iload4 (pc := 60) d_J_heard_60 ?_
          refine jx_icmp_gt (pc := 62) 105 d_J_heard_62 (by decide) (fun c62 => absurd c62 (nI_nlt (by omega) (by omega))) (fun c62 => ?_)
          refine jx_aload0 (pc := 65) d_J_heard_65 ?_
          refine jx_getR (pc := 66) gf_J_70 d_J_heard_66 ad_0 sh_0 rfl ?_
          refine jx_aload0 (pc := 69) d_J_heard_69 ?_
          refine jx_getR (pc := 70) gf_J_28 d_J_heard_70 ad_0 sh_0 rfl ?_
          refine jx_iconst (pc := 73) (v := 0) d_J_heard_73 (by decide) ?_
          refine jx_aald (pc := 74) (b := 12) d_J_heard_74 ad_11 (Or.inr rfl) sh_11 (by unfold vp_in; decide) (by decide) ?_
          refine jx_iload8 (pc := 75) d_J_heard_75 ?_
          refine jx_iload3 (pc := 77) d_J_heard_77 ?_
          refine jx_callV3 (pc := 78) (d' := d + 20) vo_Ch_weigh lk_J_231 d_J_heard_78 ad_22 sh_22 rfl (by omega) (Nat.le_of_ble_eq_true rfl) ?_
          refine c_Ch_weigh (d := d) hw (c := x) (h := y) (last := z) (md := i) (mt := u) (hS.rep hR) hz hx hy hu hT.1 hT.2.1 hT.2.2 (fun dd hdd => ⟨fun q => ((nI_eq (by omega) (by omega)).mp q).symm, fun q => by rw [q]⟩) (fun _ => rfl) (fun M4 hS4 hT4 => ?_)
          refine jx_r1 ?_
          refine jx_lstore9 (pc := 81) d_J_heard_81 rfl (Nat.le_of_ble_eq_true rfl) ?_
          refine jx_lload9 (pc := 83) d_J_heard_83 ?_
          refine jx_lload6 (pc := 85) d_J_heard_85 ?_
          refine jx_lcmp (pc := 87) d_J_heard_87 ?_
          refine jx_if_le (pc := 88) 99 d_J_heard_88 (by decide) (fun c88 => absurd c88 (fun q => absurd ((lg_cmp_le _ _).mp q) (Int64.not_le.mpr (hlt.mpr hq)))) (fun c88 => ?_)
          refine jx_lload9 (pc := 91) d_J_heard_91 ?_
          refine jx_lstore6 (pc := 93) d_J_heard_93 rfl (Nat.le_of_ble_eq_true rfl) ?_
          refine jx_iload8 (pc := 95) d_J_heard_95 ?_
          refine jx_istore5 (pc := 97) d_J_heard_97 rfl (Nat.le_of_ble_eq_true rfl) ?_
          refine jx_iinc8 (pc := 99) d_J_heard_99 rfl (Nat.le_of_ble_eq_true rfl) ?_
          refine jx_goto (pc := 102) 58 d_J_heard_102 (by decide) ?_
          rotate_left
          have nx := ih (i + 1) M4 (lN (hdW s x y u z i)) (some (.long (lN (hdW s x y u z i)))) none (by omega) (hS.tr hS4) hT4 (by rw [if_neg (by omega), hB])
          rw [hB] at nx
          rw [nI_add1]
          exact nx
        · have hB : hdB s x y u z (i + 1) = hdB s x y u z i := by rw [hdB, if_neg (fun q => hq (Or.inr q))]
          refine jx_iload8 (pc := 58) d_J_heard_58 ?_
          refine jx_iload4 (pc := 60) d_J_heard_60 ?_
          refine jx_icmp_gt (pc := 62) 105 d_J_heard_62 (by decide) (fun c62 => absurd c62 (nI_nlt (by omega) (by omega))) (fun c62 => ?_)
          refine jx_aload0 (pc := 65) d_J_heard_65 ?_
          refine jx_getR (pc := 66) gf_J_70 d_J_heard_66 ad_0 sh_0 rfl ?_
          refine jx_aload0 (pc := 69) d_J_heard_69 ?_
          refine jx_getR (pc := 70) gf_J_28 d_J_heard_70 ad_0 sh_0 rfl ?_
          refine jx_iconst (pc := 73) (v := 0) d_J_heard_73 (by decide) ?_
          refine jx_aald (pc := 74) (b := 12) d_J_heard_74 ad_11 (Or.inr rfl) sh_11 (by unfold vp_in; decide) (by decide) ?_
          refine jx_iload8 (pc := 75) d_J_heard_75 ?_
          refine jx_iload3 (pc := 77) d_J_heard_77 ?_
          refine jx_callV3 (pc := 78) (d' := d + 20) vo_Ch_weigh lk_J_231 d_J_heard_78 ad_22 sh_22 rfl (by omega) (Nat.le_of_ble_eq_true rfl) ?_
          refine c_Ch_weigh (d := d) hw (c := x) (h := y) (last := z) (md := i) (mt := u) (hS.rep hR) hz hx hy hu hT.1 hT.2.1 hT.2.2 (fun dd hdd => ⟨fun q => ((nI_eq (by omega) (by omega)).mp q).symm, fun q => by rw [q]⟩) (fun _ => rfl) (fun M4 hS4 hT4 => ?_)
          refine jx_r1 ?_
          refine jx_lstore9 (pc := 81) d_J_heard_81 rfl (Nat.le_of_ble_eq_true rfl) ?_
          refine jx_lload9 (pc := 83) d_J_heard_83 ?_
          refine jx_lload6 (pc := 85) d_J_heard_85 ?_
          refine jx_lcmp (pc := 87) d_J_heard_87 ?_
          refine jx_if_le (pc := 88) 99 d_J_heard_88 (by decide) (fun c88 => ?_) (fun c88 => absurd c88 (fun q => q ((lg_cmp_le _ _).mpr (Int64.not_lt.mp (fun w => hq (hlt.mp w))))))
          refine jx_iinc8 (pc := 99) d_J_heard_99 rfl (Nat.le_of_ble_eq_true rfl) ?_
          refine jx_goto (pc := 102) 58 d_J_heard_102 (by decide) ?_
          rotate_left
          have nx := ih (i + 1) M4 g (some (.long (lN (hdW s x y u z i)))) none (by omega) (hS.tr hS4) hT4 (by rw [if_neg (by omega), hB, hg, if_neg (fun q => hq (Or.inl q))])
          rw [hB] at nx
          rw [nI_add1]
          exact nx
    refine jx_iload1 (pc := 0) d_J_heard_0 ?_
    refine jx_callS1 (pc := 1) (d' := 0) so_J_isChance lk_J_223 d_J_heard_1 (by omega) (Nat.le_of_ble_eq_true rfl) ?_
    refine c_J_isChance ?_
    refine jx_r1 ?_
    refine jx_if_eq (pc := 4) 33 d_J_heard_4 (by decide) (fun c4 => absurd c4 (z01p g1)) (fun c4 => ?_)
    refine jx_aload0 (pc := 7) d_J_heard_7 ?_
    refine jx_getR (pc := 8) gf_J_12 d_J_heard_8 ad_0 sh_0 rfl ?_
    refine jx_iload2 (pc := 11) d_J_heard_11 ?_
    refine jx_callV1 (pc := 12) (d' := 0) vo_He_has lk_J_101 d_J_heard_12 ad_1 sh_1 rfl (by omega) (Nat.le_of_ble_eq_true rfl) ?_
    refine c_He_has ?_
    refine jx_r1 ?_
    refine jx_if_eq (pc := 15) 33 d_J_heard_15 (by decide) (fun c15 => absurd c15 (z01p p2)) (fun c15 => ?_)
    refine jx_iload3 (pc := 18) d_J_heard_18 ?_
    refine jx_callS1 (pc := 19) (d' := 0) so_J_isThing lk_J_105 d_J_heard_19 (by omega) (Nat.le_of_ble_eq_true rfl) ?_
    refine c_J_isThing ?_
    refine jx_r1 ?_
    refine jx_if_eq (pc := 22) 33 d_J_heard_22 (by decide) (fun c22 => absurd c22 (z01p g4)) (fun c22 => ?_)
    refine jx_iload4 (pc := 25) d_J_heard_25 ?_
    refine jx_callS1 (pc := 27) (d' := 0) so_J_isSearchDay lk_J_184 d_J_heard_27 (by omega) (Nat.le_of_ble_eq_true rfl) ?_
    refine c_J_isSearchDay ?_
    refine jx_r1 ?_
    refine jx_if_ne (pc := 30) 36 d_J_heard_30 (by decide) (fun c30 => ?_) (fun c30 => absurd c30 (z01p g3))
    refine jx_aload0 (pc := 36) d_J_heard_36 ?_
    refine jx_getR (pc := 37) gf_J_70 d_J_heard_37 ad_0 sh_0 rfl ?_
    refine jx_iload1 (pc := 40) d_J_heard_40 ?_
    refine jx_iload2 (pc := 41) d_J_heard_41 ?_
    refine jx_iload4 (pc := 42) d_J_heard_42 ?_
    refine jx_callV3 (pc := 44) (d' := 0) vo_Ch_ask lk_J_226 d_J_heard_44 ad_22 sh_22 rfl (by omega) (Nat.le_of_ble_eq_true rfl) ?_
    refine c_Ch_ask ?_
    rw [hM2]
    refine jx_r0 ?_
    refine jx_iconst (pc := 47) (v := 0) d_J_heard_47 (by decide) ?_
    refine jx_istore5 (pc := 48) d_J_heard_48 rfl (Nat.le_of_ble_eq_true rfl) ?_
    refine jx_ldc2 (pc := 50) d_J_heard_50 lc_J_235 ?_
    refine jx_lstore6 (pc := 53) d_J_heard_53 rfl (Nat.le_of_ble_eq_true rfl) ?_
    refine jx_iconst (pc := 55) (v := 0) d_J_heard_55 (by decide) ?_
    refine jx_istore8 (pc := 56) d_J_heard_56 rfl (Nat.le_of_ble_eq_true rfl) ?_
    rotate_left
    exact loop (z + 1) 0 M2 _ _ _ (by omega) hS3 ⟨q1, q2, q3⟩ rfl
  · have hr : r_heard s c h t dy = -2 := by unfold r_heard; rw [if_neg hb]
    rw [hr] at k
    refine jx_iload1 (pc := 0) d_J_heard_0 ?_
    refine jx_callS1 (pc := 1) (d' := 0) so_J_isChance lk_J_223 d_J_heard_1 (by omega) (Nat.le_of_ble_eq_true rfl) ?_
    refine c_J_isChance ?_
    refine jx_r1 ?_
    refine jx_if_eq (pc := 4) 33 d_J_heard_4 (by decide) (fun c4 => ?_) (fun c4 => ?_)
    refine jx_bipush (pc := 33) (v := (-2)) d_J_heard_33 (by decide) ?_
    refine jx_iret (pc := 35) hX rfl d_J_heard_35 ?_
    rotate_left
    refine jx_aload0 (pc := 7) d_J_heard_7 ?_
    refine jx_getR (pc := 8) gf_J_12 d_J_heard_8 ad_0 sh_0 rfl ?_
    refine jx_iload2 (pc := 11) d_J_heard_11 ?_
    refine jx_callV1 (pc := 12) (d' := 0) vo_He_has lk_J_101 d_J_heard_12 ad_1 sh_1 rfl (by omega) (Nat.le_of_ble_eq_true rfl) ?_
    refine c_He_has ?_
    refine jx_r1 ?_
    refine jx_if_eq (pc := 15) 33 d_J_heard_15 (by decide) (fun c15 => ?_) (fun c15 => ?_)
    refine jx_bipush (pc := 33) (v := (-2)) d_J_heard_33 (by decide) ?_
    refine jx_iret (pc := 35) hX rfl d_J_heard_35 ?_
    rotate_left
    refine jx_iload3 (pc := 18) d_J_heard_18 ?_
    refine jx_callS1 (pc := 19) (d' := 0) so_J_isThing lk_J_105 d_J_heard_19 (by omega) (Nat.le_of_ble_eq_true rfl) ?_
    refine c_J_isThing ?_
    refine jx_r1 ?_
    refine jx_if_eq (pc := 22) 33 d_J_heard_22 (by decide) (fun c22 => ?_) (fun c22 => ?_)
    refine jx_bipush (pc := 33) (v := (-2)) d_J_heard_33 (by decide) ?_
    refine jx_iret (pc := 35) hX rfl d_J_heard_35 ?_
    rotate_left
    refine jx_iload4 (pc := 25) d_J_heard_25 ?_
    refine jx_callS1 (pc := 27) (d' := 0) so_J_isSearchDay lk_J_184 d_J_heard_27 (by omega) (Nat.le_of_ble_eq_true rfl) ?_
    refine c_J_isSearchDay ?_
    refine jx_r1 ?_
    refine jx_if_ne (pc := 30) 36 d_J_heard_30 (by decide) (fun c30 => ?_) (fun c30 => ?_)
    rotate_left
    refine jx_bipush (pc := 33) (v := (-2)) d_J_heard_33 (by decide) ?_
    refine jx_iret (pc := 35) hX rfl d_J_heard_35 ?_
    rotate_left
    · exact k M Scr.rf
    · exact k M Scr.rf
    · exact k M Scr.rf
    · have g2 := z01n c15
      rw [h13] at g2
      exact absurd ⟨z01n c4, g2, z01n c22, z01n c30⟩ hb
    · exact k M Scr.rf
