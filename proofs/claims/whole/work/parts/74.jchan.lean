/-! OPERATIONS of the component, sixteen: chance -/
abbrev okCha (s : Sg) (c h dy w : Int32) : Prop := (0 ≤ c ∧ c ≤ 16) ∧ (0 ≤ h ∧ h < nI (g_hn s)) ∧ (0 ≤ dy ∧ dy < 10) ∧ (0 ≤ w ∧ w < 2)
def r_chance (s : Sg) (c h dy w : Int32) : Int64 := if okCha s c h dy w then lN (frcN (wgF s (cl c) (cl h) 99 0 (cl dy + 1) 0 mo0) (16 ^ (cl dy + 1)) w) else refL (-2)
theorem p16 {n : Nat} (h : n ≤ 10) : 16 ^ n ≤ 2 ^ 40 := by
  have := Nat.pow_le_pow_right (n := 16) (by omega) h
  exact Nat.le_trans this (by decide)
theorem c_J_chance {d : Nat} {c h dy w : Int32} {s : Sg} {M : j_M} {Q : Option Value → j_M → Prop} (hw : WF s) (hR : RepC s M) (k : ∀ M', Scr M M' → Q (some (.long (r_chance s c h dy w))) M') : j_Ct (d + 21) I_J_chance [.ref 0, .int c, .int h, .int dy, .int w] M Q := by
  refine j_met (by decide +kernel) co_J_chance (Nat.le_of_ble_eq_true rfl) (fun X hX => ?_)
  show j_W (d + 21) I_J_chance X 0 [some (.ref 0), some (.int c), some (.int h), some (.int dy), some (.int w), none, none, none] [] M
  have h13 : M 1 3 = nI (g_hn s) := hR.1.2.1
  have hn6 : g_hn s ≤ 6 := hnB_le hw.1
  by_cases hb : okCha s c h dy w
  · obtain ⟨g1, g2, g3, g4⟩ := id hb
    have p2 : 0 ≤ h ∧ h < M 1 3 := by rw [h13]; exact g2
    have hr : r_chance s c h dy w = lN (frcN (wgF s (cl c) (cl h) 99 0 (cl dy + 1) 0 mo0) (16 ^ (cl dy + 1)) w) := by unfold r_chance; rw [if_pos hb]
    rw [hr] at k
    obtain ⟨x, hx, rfl⟩ := le_of (n := 16) (by omega) g1.1 g1.2
    obtain ⟨y, hy, rfl, ey⟩ := okd h _ (by omega) g2
    obtain ⟨z, hz, rfl, ez⟩ := okd dy 10 (by omega) g3
    rw [show cl (nI x) = x from nI_cl (by omega), ey, ez] at k
    have hS3 : Scr M (j_set (j_set (j_set M 22 1 (nI x)) 22 2 (nI y)) 22 3 (nI z)) := fun b hb => by
      have : b ≠ 22 := by unfold PC at hb; omega
      rw [j_set_n _ _ _ this, j_set_n _ _ _ this, j_set_n _ _ _ this]
    generalize hM2 : j_set (j_set (j_set M 22 1 (nI x)) 22 2 (nI y)) 22 3 (nI z) = M2 at hS3
    have q1 : M2 22 1 = nI x := by rw [← hM2]; simp [j_set_s, upd]
    have q2 : M2 22 2 = nI y := by rw [← hM2]; simp [j_set_s, upd]
    have q3 : M2 22 3 = nI z := by rw [← hM2]; simp [j_set_s, upd]
    have loop : ∀ (r i : Nat), i + r = z + 1 → j_W (d + 21) I_J_chance X 55 [some (.ref 0), some (.int (nI x)), some (.int (nI y)), some (.int (nI z)), some (.int w), some (.long (lN (16 ^ i))), none, some (.int (nI i))] [] M2 := by
      intro r
      induction r with
      | zero =>
        intro i hi
        have hi' : i = z + 1 := by omega
        subst hi'
        have hle := wgF_le s y 99 0 hx (z + 1) 0 mo0
        have hp := p16 (n := z + 1) (by omega)
        have hpos : 0 < 16 ^ (z + 1) := Nat.pow_pos (by omega)
        refine jx_iload7 (pc := 55) d_J_chance_55 ?_
        refine jx_iload3 (pc := 57) d_J_chance_57 ?_
        refine jx_icmp_gt (pc := 58) 75 d_J_chance_58 (by decide) (fun c58 => ?_) (fun c58 => absurd c58 (fun q => q (nI_lt (by omega) (by omega))))
        refine jx_aload0 (pc := 75) d_J_chance_75 ?_
        refine jx_getR (pc := 76) gf_J_70 d_J_chance_76 ad_0 sh_0 rfl ?_
        refine jx_aload0 (pc := 79) d_J_chance_79 ?_
        refine jx_getR (pc := 80) gf_J_28 d_J_chance_80 ad_0 sh_0 rfl ?_
        refine jx_iconst (pc := 83) (v := 0) d_J_chance_83 (by decide) ?_
        refine jx_aald (pc := 84) (b := 12) d_J_chance_84 ad_11 (Or.inr rfl) sh_11 (by unfold vp_in; decide) (by decide) ?_
        refine jx_iconst (pc := 85) (v := (-1)) d_J_chance_85 (by decide) ?_
        refine jx_iconst (pc := 86) (v := (-1)) d_J_chance_86 (by decide) ?_
        refine jx_callV3 (pc := 87) (d' := d + 20) vo_Ch_weigh lk_J_231 d_J_chance_87 ad_22 sh_22 rfl (by omega) (Nat.le_of_ble_eq_true rfl) ?_
        refine c_Ch_weigh (d := d) hw (c := x) (h := y) (last := z) (md := 99) (mt := 0) (hS3.rep hR) hz hx hy (by omega) q1 q2 q3 (fun dd hdd => ⟨fun q => absurd q.symm (nI_ne_m1 (by omega)), fun q => absurd q (by omega)⟩) (fun q => absurd q (by omega)) (fun M3 hS4 hT3 => ?_)
        refine jx_r1 ?_
        refine jx_lload5 (pc := 90) d_J_chance_90 ?_
        refine jx_iload4 (pc := 92) d_J_chance_92 ?_
        refine jx_callS3 (pc := 94) (d' := 1) so_J_fraction lk_J_172 d_J_chance_94 (by omega) (Nat.le_of_ble_eq_true rfl) ?_
        refine c_J_fraction (by omega) (by omega) hpos ?_
        refine jx_r1 ?_
        refine jx_lret (pc := 97) hX rfl d_J_chance_97 ?_
        rotate_left
        exact k M3 (hS3.tr hS4)
      | succ r ih =>
        intro i hi
        have h9 := ih (i + 1) (by omega)
        refine jx_iload7 (pc := 55) d_J_chance_55 ?_
        refine jx_iload3 (pc := 57) d_J_chance_57 ?_
        refine jx_icmp_gt (pc := 58) 75 d_J_chance_58 (by decide) (fun c58 => absurd c58 (nI_nlt (by omega) (by omega))) (fun c58 => ?_)
        refine jx_lload5 (pc := 61) d_J_chance_61 ?_
        refine jx_ldc2 (pc := 63) d_J_chance_63 lc_J_229 ?_
        refine jx_lmul (pc := 66) d_J_chance_66 ?_
        refine jx_lstore5 (pc := 67) d_J_chance_67 rfl (Nat.le_of_ble_eq_true rfl) ?_
        refine jx_iinc7 (pc := 69) d_J_chance_69 rfl (Nat.le_of_ble_eq_true rfl) ?_
        refine jx_goto (pc := 72) 55 d_J_chance_72 (by decide) ?_
        rotate_left
        rw [nI_add1, show lN (16 ^ i) * 16 = lN (16 ^ (i + 1)) from lN_mul _ 16]
        exact h9
    refine jx_iload1 (pc := 0) d_J_chance_0 ?_
    refine jx_callS1 (pc := 1) (d' := 0) so_J_isChance lk_J_223 d_J_chance_1 (by omega) (Nat.le_of_ble_eq_true rfl) ?_
    refine c_J_isChance ?_
    refine jx_r1 ?_
    refine jx_if_eq (pc := 4) 33 d_J_chance_4 (by decide) (fun c4 => absurd c4 (z01p g1)) (fun c4 => ?_)
    refine jx_aload0 (pc := 7) d_J_chance_7 ?_
    refine jx_getR (pc := 8) gf_J_12 d_J_chance_8 ad_0 sh_0 rfl ?_
    refine jx_iload2 (pc := 11) d_J_chance_11 ?_
    refine jx_callV1 (pc := 12) (d' := 0) vo_He_has lk_J_101 d_J_chance_12 ad_1 sh_1 rfl (by omega) (Nat.le_of_ble_eq_true rfl) ?_
    refine c_He_has ?_
    refine jx_r1 ?_
    refine jx_if_eq (pc := 15) 33 d_J_chance_15 (by decide) (fun c15 => absurd c15 (z01p p2)) (fun c15 => ?_)
    refine jx_iload3 (pc := 18) d_J_chance_18 ?_
    refine jx_callS1 (pc := 19) (d' := 0) so_J_isSearchDay lk_J_184 d_J_chance_19 (by omega) (Nat.le_of_ble_eq_true rfl) ?_
    refine c_J_isSearchDay ?_
    refine jx_r1 ?_
    refine jx_if_eq (pc := 22) 33 d_J_chance_22 (by decide) (fun c22 => absurd c22 (z01p g3)) (fun c22 => ?_)
    refine jx_iload4 (pc := 25) d_J_chance_25 ?_
    refine jx_callS1 (pc := 27) (d' := 0) so_J_isOneOfTwo lk_J_162 d_J_chance_27 (by omega) (Nat.le_of_ble_eq_true rfl) ?_
    refine c_J_isOneOfTwo ?_
    refine jx_r1 ?_
    refine jx_if_ne (pc := 30) 39 d_J_chance_30 (by decide) (fun c30 => ?_) (fun c30 => absurd c30 (z01p g4))
    refine jx_aload0 (pc := 39) d_J_chance_39 ?_
    refine jx_getR (pc := 40) gf_J_70 d_J_chance_40 ad_0 sh_0 rfl ?_
    refine jx_iload1 (pc := 43) d_J_chance_43 ?_
    refine jx_iload2 (pc := 44) d_J_chance_44 ?_
    refine jx_iload3 (pc := 45) d_J_chance_45 ?_
    refine jx_callV3 (pc := 46) (d' := 0) vo_Ch_ask lk_J_226 d_J_chance_46 ad_22 sh_22 rfl (by omega) (Nat.le_of_ble_eq_true rfl) ?_
    refine c_Ch_ask ?_
    rw [hM2]
    refine jx_r0 ?_
    refine jx_lconst (pc := 49) (v := 1) d_J_chance_49 (by decide) ?_
    refine jx_lstore5 (pc := 50) d_J_chance_50 rfl (Nat.le_of_ble_eq_true rfl) ?_
    refine jx_iconst (pc := 52) (v := 0) d_J_chance_52 (by decide) ?_
    refine jx_istore7 (pc := 53) d_J_chance_53 rfl (Nat.le_of_ble_eq_true rfl) ?_
    rotate_left
    exact loop (z + 1) 0 (by omega)
  · have hr : r_chance s c h dy w = refL (-2) := by unfold r_chance; rw [if_neg hb]
    rw [hr] at k
    refine jx_iload1 (pc := 0) d_J_chance_0 ?_
    refine jx_callS1 (pc := 1) (d' := 0) so_J_isChance lk_J_223 d_J_chance_1 (by omega) (Nat.le_of_ble_eq_true rfl) ?_
    refine c_J_isChance ?_
    refine jx_r1 ?_
    refine jx_if_eq (pc := 4) 33 d_J_chance_4 (by decide) (fun c4 => ?_) (fun c4 => ?_)
    refine jx_bipush (pc := 33) (v := (-2)) d_J_chance_33 (by decide) ?_
    refine jx_callS1 (pc := 35) (d' := 0) so_J_refusal lk_J_165 d_J_chance_35 (by omega) (Nat.le_of_ble_eq_true rfl) ?_
    refine c_J_refusal ?_
    refine jx_r1 ?_
    refine jx_lret (pc := 38) hX rfl d_J_chance_38 ?_
    rotate_left
    refine jx_aload0 (pc := 7) d_J_chance_7 ?_
    refine jx_getR (pc := 8) gf_J_12 d_J_chance_8 ad_0 sh_0 rfl ?_
    refine jx_iload2 (pc := 11) d_J_chance_11 ?_
    refine jx_callV1 (pc := 12) (d' := 0) vo_He_has lk_J_101 d_J_chance_12 ad_1 sh_1 rfl (by omega) (Nat.le_of_ble_eq_true rfl) ?_
    refine c_He_has ?_
    refine jx_r1 ?_
    refine jx_if_eq (pc := 15) 33 d_J_chance_15 (by decide) (fun c15 => ?_) (fun c15 => ?_)
    refine jx_bipush (pc := 33) (v := (-2)) d_J_chance_33 (by decide) ?_
    refine jx_callS1 (pc := 35) (d' := 0) so_J_refusal lk_J_165 d_J_chance_35 (by omega) (Nat.le_of_ble_eq_true rfl) ?_
    refine c_J_refusal ?_
    refine jx_r1 ?_
    refine jx_lret (pc := 38) hX rfl d_J_chance_38 ?_
    rotate_left
    refine jx_iload3 (pc := 18) d_J_chance_18 ?_
    refine jx_callS1 (pc := 19) (d' := 0) so_J_isSearchDay lk_J_184 d_J_chance_19 (by omega) (Nat.le_of_ble_eq_true rfl) ?_
    refine c_J_isSearchDay ?_
    refine jx_r1 ?_
    refine jx_if_eq (pc := 22) 33 d_J_chance_22 (by decide) (fun c22 => ?_) (fun c22 => ?_)
    refine jx_bipush (pc := 33) (v := (-2)) d_J_chance_33 (by decide) ?_
    refine jx_callS1 (pc := 35) (d' := 0) so_J_refusal lk_J_165 d_J_chance_35 (by omega) (Nat.le_of_ble_eq_true rfl) ?_
    refine c_J_refusal ?_
    refine jx_r1 ?_
    refine jx_lret (pc := 38) hX rfl d_J_chance_38 ?_
    rotate_left
    refine jx_iload4 (pc := 25) d_J_chance_25 ?_
    refine jx_callS1 (pc := 27) (d' := 0) so_J_isOneOfTwo lk_J_162 d_J_chance_27 (by omega) (Nat.le_of_ble_eq_true rfl) ?_
    refine c_J_isOneOfTwo ?_
    refine jx_r1 ?_
    refine jx_if_ne (pc := 30) 39 d_J_chance_30 (by decide) (fun c30 => ?_) (fun c30 => ?_)
    rotate_left
    refine jx_bipush (pc := 33) (v := (-2)) d_J_chance_33 (by decide) ?_
    refine jx_callS1 (pc := 35) (d' := 0) so_J_refusal lk_J_165 d_J_chance_35 (by omega) (Nat.le_of_ble_eq_true rfl) ?_
    refine c_J_refusal ?_
    refine jx_r1 ?_
    refine jx_lret (pc := 38) hX rfl d_J_chance_38 ?_
    rotate_left
    · exact k M Scr.rf
    · exact k M Scr.rf
    · exact k M Scr.rf
    · have g2 := z01n c15
      rw [h13] at g2
      exact absurd ⟨z01n c4, g2, z01n c22, z01n c30⟩ hb
    · exact k M Scr.rf
