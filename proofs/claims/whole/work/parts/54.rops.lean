/-! OPERATIONS of the reference, two -/
theorem RepR.ta {s : Sg} {M M' : j_M} (h : RepR s M) {ta : Nat → Nat → Nat} (h2 : ∀ d t, d < 2 → t < 3 → M' 82 (3 * d + t) = nI (ta d t)) (hb : ∀ b, b ≠ 82 → M' b = M b) : RepR (s_ta s ta) M' := by
  obtain ⟨a1, a2, a3, a4, a5, a6, a7⟩ := h
  exact ⟨⟨by rw [hb _ (by omega)]; exact a1.1, fun i hi => by rw [hb _ (by omega)]; exact a1.2 i hi⟩, h2, fun k hk2 => by rw [hb _ (by omega)]; exact a3 k hk2, ⟨by rw [hb _ (by omega)]; exact a4.1, fun k hk2 => by rw [hb _ (by omega), hb _ (by omega), hb _ (by omega)]; exact a4.2 k hk2⟩, ⟨by rw [hb _ (by omega)]; exact a5.1, fun k hk2 => by rw [hb _ (by omega), hb _ (by omega)]; exact a5.2 k hk2⟩, fun q hq => by rw [hb _ (by omega), hb _ (by omega), hb _ (by omega), hb _ (by omega)]; exact a6 q hq, by rw [hb _ (by omega)]; exact a7⟩
theorem RepR.wy {s : Sg} {M M' : j_M} (h : RepR s M) {wy : Nat → Nat} (h2 : ∀ k, k < 5 → M' 79 (5 + k) = nI (wy k)) (hb : ∀ b, b ≠ 79 → M' b = M b) (hk : ∀ k, (k < 5 ∨ 9 < k) → M' 79 k = M 79 k) : RepR (s_wy s wy) M' := by
  obtain ⟨a1, a2, a3, a4, a5, a6, a7⟩ := h
  exact ⟨⟨by rw [hk _ (by omega)]; exact a1.1, fun i hi => by rw [hb _ (by omega)]; exact a1.2 i hi⟩, fun d t hd ht => by rw [hb _ (by omega)]; exact a2 d t hd ht, h2, ⟨by rw [hk _ (by omega)]; exact a4.1, fun k hk2 => by rw [hb _ (by omega), hb _ (by omega), hb _ (by omega)]; exact a4.2 k hk2⟩, ⟨by rw [hk _ (by omega)]; exact a5.1, fun k hk2 => by rw [hb _ (by omega), hb _ (by omega)]; exact a5.2 k hk2⟩, fun q hq => by rw [hb _ (by omega), hb _ (by omega), hb _ (by omega), hb _ (by omega)]; exact a6 q hq, by rw [hk _ (by omega)]; exact a7⟩
theorem RepR.vi {s : Sg} {M M' : j_M} (h : RepR s M) {nv : Nat} {vd vh vt : Nat → Nat} (h2 : M' 79 10 = nI nv) (h3 : ∀ k, k < nv → M' 83 k = nI (vd k) ∧ M' 84 k = nI (vh k) ∧ M' 85 k = nI (vt k)) (hb : ∀ b, b ≠ 79 → b ≠ 83 → b ≠ 84 → b ≠ 85 → M' b = M b) (hk : ∀ k, k ≠ 10 → M' 79 k = M 79 k) : RepR (s_vi s nv vd vh vt) M' := by
  obtain ⟨a1, a2, a3, a4, a5, a6, a7⟩ := h
  exact ⟨⟨by rw [hk _ (by omega)]; exact a1.1, fun i hi => by rw [hb _ (by omega) (by omega) (by omega) (by omega)]; exact a1.2 i hi⟩, fun d t hd ht => by rw [hb _ (by omega) (by omega) (by omega) (by omega)]; exact a2 d t hd ht, fun k hk2 => by rw [hk _ (by omega)]; exact a3 k hk2, ⟨h2, h3⟩, ⟨by rw [hk _ (by omega)]; exact a5.1, fun k hk2 => by rw [hb _ (by omega) (by omega) (by omega) (by omega), hb _ (by omega) (by omega) (by omega) (by omega)]; exact a5.2 k hk2⟩, fun q hq => by rw [hb _ (by omega) (by omega) (by omega) (by omega), hb _ (by omega) (by omega) (by omega) (by omega), hb _ (by omega) (by omega) (by omega) (by omega), hb _ (by omega) (by omega) (by omega) (by omega)]; exact a6 q hq, by rw [hk _ (by omega)]; exact a7⟩
theorem RepR.se {s : Sg} {M M' : j_M} (h : RepR s M) {ns : Nat} {sd sh : Nat → Nat} (h2 : M' 79 28 = nI ns) (h3 : ∀ k, k < ns → M' 95 k = nI (sd k) ∧ M' 96 k = em (sh k)) (hb : ∀ b, b ≠ 79 → b ≠ 95 → b ≠ 96 → M' b = M b) (hk : ∀ k, k ≠ 28 → M' 79 k = M 79 k) : RepR (s_se s ns sd sh) M' := by
  obtain ⟨a1, a2, a3, a4, a5, a6, a7⟩ := h
  exact ⟨⟨by rw [hk _ (by omega)]; exact a1.1, fun i hi => by rw [hb _ (by omega) (by omega) (by omega)]; exact a1.2 i hi⟩, fun d t hd ht => by rw [hb _ (by omega) (by omega) (by omega)]; exact a2 d t hd ht, fun k hk2 => by rw [hk _ (by omega)]; exact a3 k hk2, ⟨by rw [hk _ (by omega)]; exact a4.1, fun k hk2 => by rw [hb _ (by omega) (by omega) (by omega), hb _ (by omega) (by omega) (by omega), hb _ (by omega) (by omega) (by omega)]; exact a4.2 k hk2⟩, ⟨h2, h3⟩, fun q hq => by rw [hb _ (by omega) (by omega) (by omega), hb _ (by omega) (by omega) (by omega), hb _ (by omega) (by omega) (by omega), hb _ (by omega) (by omega) (by omega)]; exact a6 q hq, by rw [hk _ (by omega)]; exact a7⟩
theorem in2 {x : Int32} : (0 ≤ x ∧ x ≤ 1) ↔ (0 ≤ x ∧ x < 2) := in_s (n := 1) (by omega)
theorem in10 {x : Int32} : (0 ≤ x ∧ x ≤ 9) ↔ (0 ≤ x ∧ x < 10) := in_s (n := 9) (by omega)
theorem c_R_taste {d : Nat} {dog t v : Int32} {s : Sg} {M : j_M} {Q : Option Value → j_M → Prop} (hR : RepR s M) (k : ∀ M', RepR (n_taste s dog t v) M' → Lo M M' → Q (some (.int (r_taste s dog t v))) M') : j_Ct (d + 2) I_R_taste [.ref 79, .int dog, .int t, .int v] M Q := by
  refine j_met (by decide +kernel) co_R_taste (Nat.le_of_ble_eq_true rfl) (fun X hX => ?_)
  show j_W (d + 2) I_R_taste X 0 [some (.ref 79), some (.int dog), some (.int t), some (.int v), none] [] M
  by_cases hb : okTaste dog t v
  · have hr : r_taste s dog t v = nI (g_ta s (cl dog) (cl t)) := by unfold r_taste; rw [if_pos hb]
    have hnx : n_taste s dog t v = s_ta s (upT (g_ta s) (cl dog) (cl t) (cl v)) := by unfold n_taste; rw [if_pos hb]
    rw [hr, hnx] at k
    obtain ⟨g1, g2, g3, g4⟩ := hb
    obtain ⟨a, ha, rfl, ea⟩ := okd dog 2 (by omega) g1
    obtain ⟨b, hbt, rfl, eb⟩ := okd t 3 (by omega) g2
    obtain ⟨c, hc, rfl⟩ := le_of (n := 9) (by omega) g3 g4
    have ec : cl (nI c) = c := nI_cl (by omega)
    have e3 : (3 : Int32) * nI a + nI b = nI (3 * a + b) := by rw [show (3 : Int32) = nI 3 from rfl, nI_mul, nI_add]
    have v3 : vp_in ((3 : Int32) * nI a + nI b) 6 := by rw [e3]; exact vp_in_nI (by omega) (by omega)
    have e4 : (nI (3 * a + b)).toNatClampNeg = 3 * a + b := nI_cl (by omega)
    refine jx_iload1 (pc := 0) d_R_taste_0 ?_
    refine jx_iconst (pc := 1) (v := 0) d_R_taste_1 (by decide) ?_
    refine jx_iconst (pc := 2) (v := 1) d_R_taste_2 (by decide) ?_
    refine jx_callS3 (pc := 3) (d' := 0) so_R_in lk_R_95 d_R_taste_3 (by omega) (Nat.le_of_ble_eq_true rfl) ?_
    refine c_R_in ?_
    refine jx_r1 ?_
    refine jx_if_eq (pc := 6) 26 d_R_taste_6 (by decide) (fun c6 => absurd c6 (z01p (in2.mpr g1))) (fun c6 => ?_)
    refine jx_iload2 (pc := 9) d_R_taste_9 ?_
    refine jx_callS1 (pc := 10) (d' := 1) so_R_isThing lk_R_116 d_R_taste_10 (by omega) (Nat.le_of_ble_eq_true rfl) ?_
    refine c_R_isThing ?_
    refine jx_r1 ?_
    refine jx_if_eq (pc := 13) 26 d_R_taste_13 (by decide) (fun c13 => absurd c13 (z01p g2)) (fun c13 => ?_)
    refine jx_iload3 (pc := 16) d_R_taste_16 ?_
    refine jx_iconst (pc := 17) (v := 0) d_R_taste_17 (by decide) ?_
    refine jx_bipush (pc := 18) (v := 9) d_R_taste_18 (by decide) ?_
    refine jx_callS3 (pc := 20) (d' := 0) so_R_in lk_R_95 d_R_taste_20 (by omega) (Nat.le_of_ble_eq_true rfl) ?_
    refine c_R_in ?_
    refine jx_r1 ?_
    refine jx_if_ne (pc := 23) 29 d_R_taste_23 (by decide) (fun c23 => ?_) (fun c23 => absurd c23 (z01p (And.intro g3 g4)))
    refine jx_aload0 (pc := 29) d_R_taste_29 ?_
    refine jx_getR (pc := 30) gf_R_16 d_R_taste_30 ad_79 sh_79 rfl ?_
    refine jx_iconst (pc := 33) (v := 3) d_R_taste_33 (by decide) ?_
    refine jx_iload1 (pc := 34) d_R_taste_34 ?_
    refine jx_imul (pc := 35) d_R_taste_35 ?_
    refine jx_iload2 (pc := 36) d_R_taste_36 ?_
    refine jx_iadd (pc := 37) d_R_taste_37 ?_
    refine jx_iald (pc := 38) d_R_taste_38 ad_82 sh_82 (by first | assumption | exact vp_in_nI (by omega) (by omega)) ?_
    refine jx_istore4 (pc := 39) d_R_taste_39 rfl (Nat.le_of_ble_eq_true rfl) ?_
    refine jx_aload0 (pc := 41) d_R_taste_41 ?_
    refine jx_getR (pc := 42) gf_R_16 d_R_taste_42 ad_79 sh_79 rfl ?_
    refine jx_iconst (pc := 45) (v := 3) d_R_taste_45 (by decide) ?_
    refine jx_iload1 (pc := 46) d_R_taste_46 ?_
    refine jx_imul (pc := 47) d_R_taste_47 ?_
    refine jx_iload2 (pc := 48) d_R_taste_48 ?_
    refine jx_iadd (pc := 49) d_R_taste_49 ?_
    refine jx_iload3 (pc := 50) d_R_taste_50 ?_
    refine jx_iast (pc := 51) d_R_taste_51 ad_82 sh_82 (by first | assumption | exact vp_in_nI (by omega) (by omega)) ?_
    refine jx_iload4 (pc := 52) d_R_taste_52 ?_
    refine jx_iret (pc := 54) hX rfl d_R_taste_54 ?_
    rotate_left
    rw [ea, eb, ec] at k
    rw [e3, e4, hR.2.1 a b ha hbt]
    refine k _ (hR.ta (fun d' t' hd' ht' => ?_) (fun q h1 => j_set_n _ _ _ h1)) (fun q hq => j_set_n _ _ _ (by omega))
    rw [j_set_s]
    unfold upT upd
    by_cases hc2 : 3 * d' + t' = 3 * a + b
    · rw [if_pos hc2, if_pos ⟨by omega, by omega⟩]
    · rw [if_neg hc2, if_neg (fun q => hc2 (by rw [q.1, q.2]))]; exact hR.2.1 d' t' hd' ht'
  · have hr : r_taste s dog t v = -2 := by unfold r_taste; rw [if_neg hb]
    have hnx : n_taste s dog t v = s := by unfold n_taste; rw [if_neg hb]
    rw [hr, hnx] at k
    refine jx_iload1 (pc := 0) d_R_taste_0 ?_
    refine jx_iconst (pc := 1) (v := 0) d_R_taste_1 (by decide) ?_
    refine jx_iconst (pc := 2) (v := 1) d_R_taste_2 (by decide) ?_
    refine jx_callS3 (pc := 3) (d' := 0) so_R_in lk_R_95 d_R_taste_3 (by omega) (Nat.le_of_ble_eq_true rfl) ?_
    refine c_R_in ?_
    refine jx_r1 ?_
    refine jx_if_eq (pc := 6) 26 d_R_taste_6 (by decide) (fun c6 => ?_) (fun c6 => ?_)
    refine jx_bipush (pc := 26) (v := (-2)) d_R_taste_26 (by decide) ?_
    refine jx_iret (pc := 28) hX rfl d_R_taste_28 ?_
    rotate_left
    refine jx_iload2 (pc := 9) d_R_taste_9 ?_
    refine jx_callS1 (pc := 10) (d' := 1) so_R_isThing lk_R_116 d_R_taste_10 (by omega) (Nat.le_of_ble_eq_true rfl) ?_
    refine c_R_isThing ?_
    refine jx_r1 ?_
    refine jx_if_eq (pc := 13) 26 d_R_taste_13 (by decide) (fun c13 => ?_) (fun c13 => ?_)
    refine jx_bipush (pc := 26) (v := (-2)) d_R_taste_26 (by decide) ?_
    refine jx_iret (pc := 28) hX rfl d_R_taste_28 ?_
    rotate_left
    refine jx_iload3 (pc := 16) d_R_taste_16 ?_
    refine jx_iconst (pc := 17) (v := 0) d_R_taste_17 (by decide) ?_
    refine jx_bipush (pc := 18) (v := 9) d_R_taste_18 (by decide) ?_
    refine jx_callS3 (pc := 20) (d' := 0) so_R_in lk_R_95 d_R_taste_20 (by omega) (Nat.le_of_ble_eq_true rfl) ?_
    refine c_R_in ?_
    refine jx_r1 ?_
    refine jx_if_ne (pc := 23) 29 d_R_taste_23 (by decide) (fun c23 => ?_) (fun c23 => ?_)
    rotate_left
    refine jx_bipush (pc := 26) (v := (-2)) d_R_taste_26 (by decide) ?_
    refine jx_iret (pc := 28) hX rfl d_R_taste_28 ?_
    rotate_left
    · exact k M hR (fun _ _ => rfl)
    · exact k M hR (fun _ _ => rfl)
    · exact absurd ⟨in2.mp (z01n c6), z01n c13, z01n c23⟩ hb
    · exact k M hR (fun _ _ => rfl)
theorem c_R_visit {d : Nat} {dy h t : Int32} {s : Sg} {M : j_M} {Q : Option Value → j_M → Prop} (hw : WF s) (hR : RepR s M) (k : ∀ M', RepR (n_visit s dy h t) M' → Lo M M' → Q (some (.int (r_visit s dy h t))) M') : j_Ct (d + 2) I_R_visit [.ref 79, .int dy, .int h, .int t] M Q := by
  refine j_met (by decide +kernel) co_R_visit (Nat.le_of_ble_eq_true rfl) (fun X hX => ?_)
  show j_W (d + 2) I_R_visit X 0 [some (.ref 79), some (.int dy), some (.int h), some (.int t)] [] M
  have hnv : M 79 10 = nI (g_nv s) := hR.2.2.2.1.1
  have hn24 := hw.2.2.2.2.2.1
  have z24 : nI (g_nv s) = 24 ↔ g_nv s = 24 := nI_eq (b := 24) (by omega) (by omega)
  by_cases hb : okVis dy h t
  · obtain ⟨g1, g2, g3⟩ := id hb
    by_cases hn : g_nv s < 24
    · have hr : r_visit s dy h t = nI (g_nv s + 1) := by unfold r_visit; rw [if_pos hb, if_pos hn]
      have hnx : n_visit s dy h t = s_vi s (g_nv s + 1) (upN (g_vd s) (g_nv s) (cl dy)) (upN (g_vh s) (g_nv s) (cl h)) (upN (g_vt s) (g_nv s) (cl t)) := by unfold n_visit; rw [if_pos ⟨hb, hn⟩]
      rw [hr, hnx] at k
      obtain ⟨a, ha, rfl, ea⟩ := okd dy 30 (by omega) g1
      obtain ⟨b, hbt, rfl, eb⟩ := okd h 6 (by omega) g2
      obtain ⟨c, hc, rfl, ec⟩ := okd t 3 (by omega) g3
      rw [ea, eb, ec] at k
      have en : (nI (g_nv s)).toNatClampNeg = g_nv s := nI_cl (by omega)
      have hv : vp_in (M 79 10) 24 := by rw [hnv]; exact vp_in_nI hn (by omega)
      refine jx_iload1 (pc := 0) d_R_visit_0 ?_
      refine jx_callS1 (pc := 1) (d' := 1) so_R_isDay lk_R_126 d_R_visit_1 (by omega) (Nat.le_of_ble_eq_true rfl) ?_
      refine c_R_isDay ?_
      refine jx_r1 ?_
      refine jx_if_eq (pc := 4) 21 d_R_visit_4 (by decide) (fun c4 => absurd c4 (z01p g1)) (fun c4 => ?_)
      refine jx_iload2 (pc := 7) d_R_visit_7 ?_
      refine jx_callS1 (pc := 8) (d' := 1) so_R_isSix lk_R_129 d_R_visit_8 (by omega) (Nat.le_of_ble_eq_true rfl) ?_
      refine c_R_isSix ?_
      refine jx_r1 ?_
      refine jx_if_eq (pc := 11) 21 d_R_visit_11 (by decide) (fun c11 => absurd c11 (z01p g2)) (fun c11 => ?_)
      refine jx_iload3 (pc := 14) d_R_visit_14 ?_
      refine jx_callS1 (pc := 15) (d' := 1) so_R_isThing lk_R_116 d_R_visit_15 (by omega) (Nat.le_of_ble_eq_true rfl) ?_
      refine c_R_isThing ?_
      refine jx_r1 ?_
      refine jx_if_ne (pc := 18) 24 d_R_visit_18 (by decide) (fun c18 => ?_) (fun c18 => absurd c18 (z01p g3))
      refine jx_aload0 (pc := 24) d_R_visit_24 ?_
      refine jx_getI (pc := 25) gf_R_132 d_R_visit_25 ad_79 sh_79 rfl ?_
      refine jx_bipush (pc := 28) (v := 24) d_R_visit_28 (by decide) ?_
      refine jx_icmp_ne (pc := 30) 36 d_R_visit_30 (by decide) (fun c30 => ?_) (fun c30 => absurd c30 (fun q => absurd (z24.mp (hnv ▸ q)) (by omega)))
      refine jx_aload0 (pc := 36) d_R_visit_36 ?_
      refine jx_getR (pc := 37) gf_R_19 d_R_visit_37 ad_79 sh_79 rfl ?_
      refine jx_aload0 (pc := 40) d_R_visit_40 ?_
      refine jx_getI (pc := 41) gf_R_132 d_R_visit_41 ad_79 sh_79 rfl ?_
      refine jx_iload1 (pc := 44) d_R_visit_44 ?_
      refine jx_iast (pc := 45) d_R_visit_45 ad_83 sh_83 hv ?_
      refine jx_aload0 (pc := 46) d_R_visit_46 ?_
      refine jx_getR (pc := 47) gf_R_22 d_R_visit_47 ad_79 sh_79 rfl ?_
      refine jx_aload0 (pc := 50) d_R_visit_50 ?_
      refine jx_getI (pc := 51) gf_R_132 d_R_visit_51 ad_79 sh_79 rfl ?_
      refine jx_iload2 (pc := 54) d_R_visit_54 ?_
      refine jx_iast (pc := 55) d_R_visit_55 ad_84 sh_84 hv ?_
      refine jx_aload0 (pc := 56) d_R_visit_56 ?_
      refine jx_getR (pc := 57) gf_R_25 d_R_visit_57 ad_79 sh_79 rfl ?_
      refine jx_aload0 (pc := 60) d_R_visit_60 ?_
      refine jx_getI (pc := 61) gf_R_132 d_R_visit_61 ad_79 sh_79 rfl ?_
      refine jx_iload3 (pc := 64) d_R_visit_64 ?_
      refine jx_iast (pc := 65) d_R_visit_65 ad_85 sh_85 hv ?_
      refine jx_aload0 (pc := 66) d_R_visit_66 ?_
      refine jx_dupr (pc := 67) d_R_visit_67 ?_
      refine jx_getI (pc := 68) gf_R_132 d_R_visit_68 ad_79 sh_79 rfl ?_
      refine jx_iconst (pc := 71) (v := 1) d_R_visit_71 (by decide) ?_
      refine jx_iadd (pc := 72) d_R_visit_72 ?_
      refine jx_putI (pc := 73) pf_R_132 d_R_visit_73 ad_79 sh_79 rfl ?_
      refine jx_aload0 (pc := 76) d_R_visit_76 ?_
      refine jx_getI (pc := 77) gf_R_132 d_R_visit_77 ad_79 sh_79 rfl ?_
      refine jx_iret (pc := 80) hX rfl d_R_visit_80 ?_
      rotate_left
      simp only [j_set_n (b := 79) (a := 83) _ _ _ (by omega), j_set_n (b := 79) (a := 84) _ _ _ (by omega), j_set_n (b := 79) (a := 85) _ _ _ (by omega), hnv, en, nI_1]
      rw [j_set_s]
      rw [show ∀ f : Nat → Int32, upd f 10 (nI (g_nv s + 1)) 10 = nI (g_nv s + 1) from fun f => by simp [upd]]
      refine k _ (hR.vi (by simp [j_set_s, upd]) (fun i hi => ?_) (fun q g1 g2 g3 g4 => by rw [j_set_n _ _ _ g1, j_set_n _ _ _ g4, j_set_n _ _ _ g3, j_set_n _ _ _ g2]) (fun q g1 => ?_)) (fun q hq => by rw [j_set_n _ _ _ (by omega), j_set_n _ _ _ (by omega), j_set_n _ _ _ (by omega), j_set_n _ _ _ (by omega)])
      · rw [j_set_n (b := 83) _ _ _ (by omega), j_set_n (b := 83) _ _ _ (by omega), j_set_n (b := 83) _ _ _ (by omega), j_set_s, j_set_n (b := 84) _ _ _ (by omega), j_set_n (b := 84) _ _ _ (by omega), j_set_s, j_set_n (b := 84) _ _ _ (by omega), j_set_n (b := 85) _ _ _ (by omega), j_set_s, j_set_n (b := 85) _ _ _ (by omega), j_set_n (b := 85) _ _ _ (by omega)]
        unfold upd upN
        by_cases hc2 : i = g_nv s
        · simp [hc2]
        · simp only [if_neg hc2]; exact hR.2.2.2.1.2 i (by omega)
      · rw [j_set_s]; unfold upd; rw [if_neg g1, j_set_n _ _ _ (by omega), j_set_n _ _ _ (by omega), j_set_n _ _ _ (by omega)]
    · have hr : r_visit s dy h t = -4 := by unfold r_visit; rw [if_pos hb, if_neg hn]
      have hnx : n_visit s dy h t = s := by unfold n_visit; rw [if_neg (fun q => hn q.2)]
      rw [hr, hnx] at k
      refine jx_iload1 (pc := 0) d_R_visit_0 ?_
      refine jx_callS1 (pc := 1) (d' := 1) so_R_isDay lk_R_126 d_R_visit_1 (by omega) (Nat.le_of_ble_eq_true rfl) ?_
      refine c_R_isDay ?_
      refine jx_r1 ?_
      refine jx_if_eq (pc := 4) 21 d_R_visit_4 (by decide) (fun c4 => absurd c4 (z01p g1)) (fun c4 => ?_)
      refine jx_iload2 (pc := 7) d_R_visit_7 ?_
      refine jx_callS1 (pc := 8) (d' := 1) so_R_isSix lk_R_129 d_R_visit_8 (by omega) (Nat.le_of_ble_eq_true rfl) ?_
      refine c_R_isSix ?_
      refine jx_r1 ?_
      refine jx_if_eq (pc := 11) 21 d_R_visit_11 (by decide) (fun c11 => absurd c11 (z01p g2)) (fun c11 => ?_)
      refine jx_iload3 (pc := 14) d_R_visit_14 ?_
      refine jx_callS1 (pc := 15) (d' := 1) so_R_isThing lk_R_116 d_R_visit_15 (by omega) (Nat.le_of_ble_eq_true rfl) ?_
      refine c_R_isThing ?_
      refine jx_r1 ?_
      refine jx_if_ne (pc := 18) 24 d_R_visit_18 (by decide) (fun c18 => ?_) (fun c18 => absurd c18 (z01p g3))
      refine jx_aload0 (pc := 24) d_R_visit_24 ?_
      refine jx_getI (pc := 25) gf_R_132 d_R_visit_25 ad_79 sh_79 rfl ?_
      refine jx_bipush (pc := 28) (v := 24) d_R_visit_28 (by decide) ?_
      refine jx_icmp_ne (pc := 30) 36 d_R_visit_30 (by decide) (fun c30 => absurd c30 (fun q => q (hnv.trans (z24.mpr (by omega))))) (fun c30 => ?_)
      refine jx_bipush (pc := 33) (v := (-4)) d_R_visit_33 (by decide) ?_
      refine jx_iret (pc := 35) hX rfl d_R_visit_35 ?_
      rotate_left
      exact k M hR (fun _ _ => rfl)
  · have hr : r_visit s dy h t = -2 := by unfold r_visit; rw [if_neg hb]
    have hnx : n_visit s dy h t = s := by unfold n_visit; rw [if_neg (fun q => hb q.1)]
    rw [hr, hnx] at k
    refine jx_iload1 (pc := 0) d_R_visit_0 ?_
    refine jx_callS1 (pc := 1) (d' := 1) so_R_isDay lk_R_126 d_R_visit_1 (by omega) (Nat.le_of_ble_eq_true rfl) ?_
    refine c_R_isDay ?_
    refine jx_r1 ?_
    refine jx_if_eq (pc := 4) 21 d_R_visit_4 (by decide) (fun c4 => ?_) (fun c4 => ?_)
    refine jx_bipush (pc := 21) (v := (-2)) d_R_visit_21 (by decide) ?_
    refine jx_iret (pc := 23) hX rfl d_R_visit_23 ?_
    rotate_left
    refine jx_iload2 (pc := 7) d_R_visit_7 ?_
    refine jx_callS1 (pc := 8) (d' := 1) so_R_isSix lk_R_129 d_R_visit_8 (by omega) (Nat.le_of_ble_eq_true rfl) ?_
    refine c_R_isSix ?_
    refine jx_r1 ?_
    refine jx_if_eq (pc := 11) 21 d_R_visit_11 (by decide) (fun c11 => ?_) (fun c11 => ?_)
    refine jx_bipush (pc := 21) (v := (-2)) d_R_visit_21 (by decide) ?_
    refine jx_iret (pc := 23) hX rfl d_R_visit_23 ?_
    rotate_left
    refine jx_iload3 (pc := 14) d_R_visit_14 ?_
    refine jx_callS1 (pc := 15) (d' := 1) so_R_isThing lk_R_116 d_R_visit_15 (by omega) (Nat.le_of_ble_eq_true rfl) ?_
    refine c_R_isThing ?_
    refine jx_r1 ?_
    refine jx_if_ne (pc := 18) 24 d_R_visit_18 (by decide) (fun c18 => ?_) (fun c18 => ?_)
    rotate_left
    refine jx_bipush (pc := 21) (v := (-2)) d_R_visit_21 (by decide) ?_
    refine jx_iret (pc := 23) hX rfl d_R_visit_23 ?_
    rotate_left
    · exact k M hR (fun _ _ => rfl)
    · exact k M hR (fun _ _ => rfl)
    · exact absurd ⟨z01n c4, z01n c11, z01n c18⟩ hb
    · exact k M hR (fun _ _ => rfl)
theorem c_R_back {d : Nat} {s : Sg} {M : j_M} {Q : Option Value → j_M → Prop} (hw : WF s) (hR : RepR s M) (k : ∀ M', RepR (n_back s) M' → Lo M M' → Q (some (.int (r_back s))) M') : j_Ct d I_R_back [.ref 79] M Q := by
  refine j_met (by decide +kernel) co_R_back (Nat.le_of_ble_eq_true rfl) (fun X hX => ?_)
  show j_W d I_R_back X 0 [some (.ref 79)] [] M
  have h1 : M 79 10 = nI (g_nv s) := hR.2.2.2.1.1
  have hn := hw.2.2.2.2.2.1
  have z0 : nI (g_nv s) = 0 ↔ g_nv s = 0 := nI_eq (b := 0) (by omega) (by omega)
  by_cases h0 : g_nv s = 0
  · have hr : r_back s = -3 := by unfold r_back; rw [if_pos h0]
    have hnx : n_back s = s := by unfold n_back; rw [if_pos h0]
    rw [hr, hnx] at k
    refine jx_aload0 (pc := 0) d_R_back_0 ?_
    refine jx_getI (pc := 1) gf_R_132 d_R_back_1 ad_79 sh_79 rfl ?_
    refine jx_if_ne (pc := 4) 10 d_R_back_4 (by decide) (fun c4 => absurd c4 (fun q => q (h1.trans (z0.mpr h0)))) (fun c4 => ?_)
    refine jx_bipush (pc := 7) (v := (-3)) d_R_back_7 (by decide) ?_
    refine jx_iret (pc := 9) hX rfl d_R_back_9 ?_
    rotate_left
    exact k M hR (fun _ _ => rfl)
  · have hr : r_back s = nI (g_nv s - 1) := by unfold r_back; rw [if_neg h0]
    have hnx : n_back s = s_vi s (g_nv s - 1) (g_vd s) (g_vh s) (g_vt s) := by unfold n_back; rw [if_neg h0]
    rw [hr, hnx] at k
    have e1 : M 79 10 - 1 = nI (g_nv s - 1) := by rw [h1]; exact nI_sub (b := 1) (by omega)
    refine jx_aload0 (pc := 0) d_R_back_0 ?_
    refine jx_getI (pc := 1) gf_R_132 d_R_back_1 ad_79 sh_79 rfl ?_
    refine jx_if_ne (pc := 4) 10 d_R_back_4 (by decide) (fun c4 => ?_) (fun c4 => absurd c4 (fun q => h0 (z0.mp (h1 ▸ q))))
    refine jx_aload0 (pc := 10) d_R_back_10 ?_
    refine jx_dupr (pc := 11) d_R_back_11 ?_
    refine jx_getI (pc := 12) gf_R_132 d_R_back_12 ad_79 sh_79 rfl ?_
    refine jx_iconst (pc := 15) (v := 1) d_R_back_15 (by decide) ?_
    refine jx_isub (pc := 16) d_R_back_16 ?_
    refine jx_putI (pc := 17) pf_R_132 d_R_back_17 ad_79 sh_79 rfl ?_
    refine jx_aload0 (pc := 20) d_R_back_20 ?_
    refine jx_getI (pc := 21) gf_R_132 d_R_back_21 ad_79 sh_79 rfl ?_
    refine jx_iret (pc := 24) hX rfl d_R_back_24 ?_
    rotate_left
    rw [e1, j_set_s]
    rw [show upd (M 79) 10 (nI (g_nv s - 1)) 10 = nI (g_nv s - 1) by simp [upd]]
    refine k _ (hR.vi (by simp [j_set_s, upd]) (fun i hi => by rw [j_set_n _ _ _ (by omega), j_set_n _ _ _ (by omega), j_set_n _ _ _ (by omega)]; exact hR.2.2.2.1.2 i (by omega)) (fun q g1 g2 g3 g4 => j_set_n _ _ _ g1) (fun q g1 => by rw [j_set_s]; unfold upd; rw [if_neg g1])) (fun q hq => j_set_n _ _ _ (by omega))
theorem c_R_likingOf {d dog day h : Nat} {s : Sg} {M : j_M} {Q : Option Value → j_M → Prop} (hw : WF s) (hR : RepR s M) (hdog : dog < 2) (hday : day < 30) (hh : h < 6) (k : ∀ M', ScrR M M' → RdR s M' → Q (some (.int (nI (lkA s dog day h)))) M') : j_Ct (d + 4) I_R_likingOf [.ref 79, .int (nI dog), .int (nI day), .int (nI h)] M Q := by
  refine j_met (by decide +kernel) co_R_likingOf (Nat.le_of_ble_eq_true rfl) (fun X hX => ?_)
  show j_W (d + 4) I_R_likingOf X 0 [some (.ref 79), some (.int (nI dog)), some (.int (nI day)), some (.int (nI h))] [] M
  refine jx_aload0 (pc := 0) d_R_likingOf_0 ?_
  refine jx_iload1 (pc := 1) d_R_likingOf_1 ?_
  refine jx_iload2 (pc := 2) d_R_likingOf_2 ?_
  refine jx_callV2 (pc := 3) (d' := d + 3) vo_R_runsTold lk_R_179 d_R_likingOf_3 ad_79 sh_79 rfl (by omega) (Nat.le_of_ble_eq_true rfl) ?_
  refine c_R_runsTold hw hR hdog hday (fun M2 hS2 hr2 h91 h89 hbb2 => ?_)
  refine jx_r0 ?_
  refine jx_aload0 (pc := 6) d_R_likingOf_6 ?_
  refine jx_getR (pc := 7) gf_R_37 d_R_likingOf_7 ad_79 sh_79 rfl ?_
  refine jx_iload3 (pc := 10) d_R_likingOf_10 ?_
  refine jx_iald (pc := 11) d_R_likingOf_11 ad_89 sh_89 (vp_in_nI hh (by omega)) ?_
  refine jx_iret (pc := 12) hX rfl d_R_likingOf_12 ?_
  rotate_left
  rw [nI_cl (n := h) (by omega), h89 h hh]
  exact k M2 hS2 hr2
theorem c_R_liking {d : Nat} {dog dy h : Int32} {s : Sg} {M : j_M} {Q : Option Value → j_M → Prop} (hw : WF s) (hR : RepR s M) (k : ∀ M', ScrR M M' → Q (some (.int (r_liking s dog dy h))) M') : j_Ct (d + 5) I_R_liking [.ref 79, .int dog, .int dy, .int h] M Q := by
  refine j_met (by decide +kernel) co_R_liking (Nat.le_of_ble_eq_true rfl) (fun X hX => ?_)
  show j_W (d + 5) I_R_liking X 0 [some (.ref 79), some (.int dog), some (.int dy), some (.int h)] [] M
  have hn6 : g_hn s ≤ 6 := hnB_le hw.1
  by_cases hb : okLik s dog dy h
  · have hb0 := hb
    obtain ⟨g1, g2, g3⟩ := id hb
    have hr : r_liking s dog dy h = nI (lkA s (cl dog) (cl dy) (cl h)) := by unfold r_liking; rw [if_pos hb]
    rw [hr] at k
    obtain ⟨a, ha, rfl, ea⟩ := okd dog 2 (by omega) g1
    obtain ⟨b, hbb, rfl, eb⟩ := okd dy 30 (by omega) g2
    obtain ⟨c, hc, rfl, ec⟩ := okd h _ (by omega) g3
    rw [ea, eb, ec] at k
    refine jx_iload1 (pc := 0) d_R_liking_0 ?_
    refine jx_iconst (pc := 1) (v := 0) d_R_liking_1 (by decide) ?_
    refine jx_iconst (pc := 2) (v := 1) d_R_liking_2 (by decide) ?_
    refine jx_callS3 (pc := 3) (d' := 0) so_R_in lk_R_95 d_R_liking_3 (by omega) (Nat.le_of_ble_eq_true rfl) ?_
    refine c_R_in ?_
    refine jx_r1 ?_
    refine jx_if_eq (pc := 6) 34 d_R_liking_6 (by decide) (fun c6 => absurd c6 (z01p (in2.mpr g1))) (fun c6 => ?_)
    refine jx_iload2 (pc := 9) d_R_liking_9 ?_
    refine jx_callS1 (pc := 10) (d' := 1) so_R_isDay lk_R_126 d_R_liking_10 (by omega) (Nat.le_of_ble_eq_true rfl) ?_
    refine c_R_isDay ?_
    refine jx_r1 ?_
    refine jx_if_eq (pc := 13) 34 d_R_liking_13 (by decide) (fun c13 => absurd c13 (z01p g2)) (fun c13 => ?_)
    refine jx_aload0 (pc := 16) d_R_liking_16 ?_
    refine jx_iload3 (pc := 17) d_R_liking_17 ?_
    refine jx_callV1 (pc := 18) (d' := d + 4) vo_R_isHeir lk_R_112 d_R_liking_18 ad_79 sh_79 rfl (by omega) (Nat.le_of_ble_eq_true rfl) ?_
    refine c_R_isHeir hw hR (fun M2 hr2 hO2 => ?_)
    refine jx_r1 ?_
    refine jx_if_eq (pc := 21) 34 d_R_liking_21 (by decide) (fun c21 => absurd c21 (z01p hb0.2.2)) (fun c21 => ?_)
    refine jx_aload0 (pc := 24) d_R_liking_24 ?_
    refine jx_iload1 (pc := 25) d_R_liking_25 ?_
    refine jx_iload2 (pc := 26) d_R_liking_26 ?_
    refine jx_iload3 (pc := 27) d_R_liking_27 ?_
    refine jx_callV3 (pc := 28) (d' := d + 4) vo_R_likingOf lk_R_182 d_R_liking_28 ad_79 sh_79 rfl (by omega) (Nat.le_of_ble_eq_true rfl) ?_
    refine c_R_likingOf hw (hR.offF hO2) ha hbb (by omega) (fun M3 hS3 hr3 => ?_)
    refine jx_r1 ?_
    refine jx_goto (pc := 31) 36 d_R_liking_31 (by decide) ?_
    refine jx_iret (pc := 36) hX rfl d_R_liking_36 ?_
    rotate_left
    exact k M3 ((ScrR.offF hO2).tr hS3)
  · have hr : r_liking s dog dy h = -2 := by unfold r_liking; rw [if_neg hb]
    rw [hr] at k
    refine jx_iload1 (pc := 0) d_R_liking_0 ?_
    refine jx_iconst (pc := 1) (v := 0) d_R_liking_1 (by decide) ?_
    refine jx_iconst (pc := 2) (v := 1) d_R_liking_2 (by decide) ?_
    refine jx_callS3 (pc := 3) (d' := 0) so_R_in lk_R_95 d_R_liking_3 (by omega) (Nat.le_of_ble_eq_true rfl) ?_
    refine c_R_in ?_
    refine jx_r1 ?_
    refine jx_if_eq (pc := 6) 34 d_R_liking_6 (by decide) (fun c6 => ?_) (fun c6 => ?_)
    refine jx_bipush (pc := 34) (v := (-2)) d_R_liking_34 (by decide) ?_
    refine jx_iret (pc := 36) hX rfl d_R_liking_36 ?_
    rotate_left
    refine jx_iload2 (pc := 9) d_R_liking_9 ?_
    refine jx_callS1 (pc := 10) (d' := 1) so_R_isDay lk_R_126 d_R_liking_10 (by omega) (Nat.le_of_ble_eq_true rfl) ?_
    refine c_R_isDay ?_
    refine jx_r1 ?_
    refine jx_if_eq (pc := 13) 34 d_R_liking_13 (by decide) (fun c13 => ?_) (fun c13 => ?_)
    refine jx_bipush (pc := 34) (v := (-2)) d_R_liking_34 (by decide) ?_
    refine jx_iret (pc := 36) hX rfl d_R_liking_36 ?_
    rotate_left
    refine jx_aload0 (pc := 16) d_R_liking_16 ?_
    refine jx_iload3 (pc := 17) d_R_liking_17 ?_
    refine jx_callV1 (pc := 18) (d' := d + 4) vo_R_isHeir lk_R_112 d_R_liking_18 ad_79 sh_79 rfl (by omega) (Nat.le_of_ble_eq_true rfl) ?_
    refine c_R_isHeir hw hR (fun M2 hr2 hO2 => ?_)
    refine jx_r1 ?_
    refine jx_if_eq (pc := 21) 34 d_R_liking_21 (by decide) (fun c21 => ?_) (fun c21 => ?_)
    refine jx_bipush (pc := 34) (v := (-2)) d_R_liking_34 (by decide) ?_
    refine jx_iret (pc := 36) hX rfl d_R_liking_36 ?_
    rotate_left
    rotate_left
    · exact k M ScrR.rf
    · exact k M ScrR.rf
    · exact k M2 (ScrR.offF hO2)
    · exact absurd ⟨in2.mp (z01n c6), z01n c13, z01n c21⟩ hb
theorem c_R_foundOf {d dog day : Nat} {s : Sg} {M : j_M} {Q : Option Value → j_M → Prop} (hw : WF s) (hR : RepR s M) (hdog : dog < 2) (hday : day < 30) (k : ∀ M', ScrR M M' → RdR s M' → Q (some (.int (em (fdD s dog day)))) M') : j_Ct (d + 4) I_R_foundOf [.ref 79, .int (nI dog), .int (nI day)] M Q := by
  refine j_met (by decide +kernel) co_R_foundOf (Nat.le_of_ble_eq_true rfl) (fun X hX => ?_)
  show j_W (d + 4) I_R_foundOf X 0 [some (.ref 79), some (.int (nI dog)), some (.int (nI day))] [] M
  refine jx_aload0 (pc := 0) d_R_foundOf_0 ?_
  refine jx_iload1 (pc := 1) d_R_foundOf_1 ?_
  refine jx_iload2 (pc := 2) d_R_foundOf_2 ?_
  refine jx_callV2 (pc := 3) (d' := d + 3) vo_R_runsTold lk_R_179 d_R_foundOf_3 ad_79 sh_79 rfl (by omega) (Nat.le_of_ble_eq_true rfl) ?_
  refine c_R_runsTold hw hR hdog hday (fun M2 hS2 hr2 h91 h89 hbb2 => ?_)
  refine jx_r0 ?_
  refine jx_aload0 (pc := 6) d_R_foundOf_6 ?_
  refine jx_getR (pc := 7) gf_R_43 d_R_foundOf_7 ad_79 sh_79 rfl ?_
  refine jx_iload2 (pc := 10) d_R_foundOf_10 ?_
  refine jx_iald (pc := 11) d_R_foundOf_11 ad_91 sh_91 (vp_in_nI hday (by omega)) ?_
  refine jx_iret (pc := 12) hX rfl d_R_foundOf_12 ?_
  rotate_left
  rw [nI_cl (n := day) (by omega), h91 day (Nat.le_refl _)]
  exact k M2 hS2 hr2
theorem c_R_found {d : Nat} {dog dy : Int32} {s : Sg} {M : j_M} {Q : Option Value → j_M → Prop} (hw : WF s) (hR : RepR s M) (k : ∀ M', ScrR M M' → Q (some (.int (r_found s dog dy))) M') : j_Ct (d + 5) I_R_found [.ref 79, .int dog, .int dy] M Q := by
  refine j_met (by decide +kernel) co_R_found (Nat.le_of_ble_eq_true rfl) (fun X hX => ?_)
  show j_W (d + 5) I_R_found X 0 [some (.ref 79), some (.int dog), some (.int dy)] [] M
  by_cases hb : okFou dog dy
  · obtain ⟨g1, g2⟩ := id hb
    have hr : r_found s dog dy = em (fdD s (cl dog) (cl dy)) := by unfold r_found; rw [if_pos hb]
    rw [hr] at k
    obtain ⟨a, ha, rfl, ea⟩ := okd dog 2 (by omega) g1
    obtain ⟨b, hbb, rfl, eb⟩ := okd dy 30 (by omega) g2
    rw [ea, eb] at k
    refine jx_iload1 (pc := 0) d_R_found_0 ?_
    refine jx_iconst (pc := 1) (v := 0) d_R_found_1 (by decide) ?_
    refine jx_iconst (pc := 2) (v := 1) d_R_found_2 (by decide) ?_
    refine jx_callS3 (pc := 3) (d' := 0) so_R_in lk_R_95 d_R_found_3 (by omega) (Nat.le_of_ble_eq_true rfl) ?_
    refine c_R_in ?_
    refine jx_r1 ?_
    refine jx_if_eq (pc := 6) 25 d_R_found_6 (by decide) (fun c6 => absurd c6 (z01p (in2.mpr g1))) (fun c6 => ?_)
    refine jx_iload2 (pc := 9) d_R_found_9 ?_
    refine jx_callS1 (pc := 10) (d' := 1) so_R_isDay lk_R_126 d_R_found_10 (by omega) (Nat.le_of_ble_eq_true rfl) ?_
    refine c_R_isDay ?_
    refine jx_r1 ?_
    refine jx_if_eq (pc := 13) 25 d_R_found_13 (by decide) (fun c13 => absurd c13 (z01p g2)) (fun c13 => ?_)
    refine jx_aload0 (pc := 16) d_R_found_16 ?_
    refine jx_iload1 (pc := 17) d_R_found_17 ?_
    refine jx_iload2 (pc := 18) d_R_found_18 ?_
    refine jx_callV2 (pc := 19) (d' := d + 4) vo_R_foundOf lk_R_185 d_R_found_19 ad_79 sh_79 rfl (by omega) (Nat.le_of_ble_eq_true rfl) ?_
    refine c_R_foundOf hw hR ha hbb (fun M3 hS3 hr3 => ?_)
    refine jx_r1 ?_
    refine jx_goto (pc := 22) 27 d_R_found_22 (by decide) ?_
    refine jx_iret (pc := 27) hX rfl d_R_found_27 ?_
    rotate_left
    exact k M3 hS3
  · have hr : r_found s dog dy = -2 := by unfold r_found; rw [if_neg hb]
    rw [hr] at k
    refine jx_iload1 (pc := 0) d_R_found_0 ?_
    refine jx_iconst (pc := 1) (v := 0) d_R_found_1 (by decide) ?_
    refine jx_iconst (pc := 2) (v := 1) d_R_found_2 (by decide) ?_
    refine jx_callS3 (pc := 3) (d' := 0) so_R_in lk_R_95 d_R_found_3 (by omega) (Nat.le_of_ble_eq_true rfl) ?_
    refine c_R_in ?_
    refine jx_r1 ?_
    refine jx_if_eq (pc := 6) 25 d_R_found_6 (by decide) (fun c6 => ?_) (fun c6 => ?_)
    refine jx_bipush (pc := 25) (v := (-2)) d_R_found_25 (by decide) ?_
    refine jx_iret (pc := 27) hX rfl d_R_found_27 ?_
    rotate_left
    refine jx_iload2 (pc := 9) d_R_found_9 ?_
    refine jx_callS1 (pc := 10) (d' := 1) so_R_isDay lk_R_126 d_R_found_10 (by omega) (Nat.le_of_ble_eq_true rfl) ?_
    refine c_R_isDay ?_
    refine jx_r1 ?_
    refine jx_if_eq (pc := 13) 25 d_R_found_13 (by decide) (fun c13 => ?_) (fun c13 => ?_)
    refine jx_bipush (pc := 25) (v := (-2)) d_R_found_25 (by decide) ?_
    refine jx_iret (pc := 27) hX rfl d_R_found_27 ?_
    rotate_left
    rotate_left
    · exact k M ScrR.rf
    · exact k M ScrR.rf
    · exact absurd ⟨in2.mp (z01n c6), z01n c13⟩ hb
theorem c_R_dissentNow {d : Nat} {s : Sg} {M : j_M} {Q : Option Value → j_M → Prop} (hw : WF s) (hR : RepR s M) (k : ∀ M', ScrR M M' → RdR s M' → Q (some (.int (nI (disB s 30)))) M') : j_Ct (d + 4) I_R_dissentNow [.ref 79] M Q := by
  refine j_met (by decide +kernel) co_R_dissentNow (Nat.le_of_ble_eq_true rfl) (fun X hX => ?_)
  show j_W (d + 4) I_R_dissentNow X 0 [some (.ref 79), none, none] [] M
  have loop2 : ∀ (M2 : j_M), ScrR M M2 → RdR s M2 → (∀ q, q < 30 → M2 92 q = em (fdD s 0 q)) → (∀ q, q < 30 → M2 91 q = em (fdD s 1 q)) → ∀ (r i : Nat), i + r = 30 → j_W (d + 4) I_R_dissentNow X 44 [some (.ref 79), some (.int (nI (disB s i))), some (.int (nI i))] [] M2 := by
    intro M2 hS hr2 f0 f1 r
    induction r with
    | zero =>
      intro i hi
      refine jx_iload2 (pc := 44) d_R_dissentNow_44 ?_
      refine jx_bipush (pc := 45) (v := 30) d_R_dissentNow_45 (by decide) ?_
      refine jx_icmp_ge (pc := 47) 81 d_R_dissentNow_47 (by decide) (fun c47 => ?_) (fun c47 => absurd c47 (fun q => q (show nI 30 ≤ nI i from nI_le (by omega) (by omega))))
      refine jx_iload1 (pc := 81) d_R_dissentNow_81 ?_
      refine jx_iret (pc := 82) hX rfl d_R_dissentNow_82 ?_
      rotate_left
      rw [show i = 30 by omega]
      exact k M2 hS hr2
    | succ r ih =>
      intro i hi
      have e1 : (nI i).toNatClampNeg = i := nI_cl (by omega)
      have hv : vp_in (nI i) 30 := vp_in_nI (by omega) (by omega)
      have hl0 := fdD_lt hw 0 (show i < 30 by omega)
      have hl1 := fdD_lt hw 1 (show i < 30 by omega)
      refine jx_iload2 (pc := 44) d_R_dissentNow_44 ?_
      refine jx_bipush (pc := 45) (v := 30) d_R_dissentNow_45 (by decide) ?_
      refine jx_icmp_ge (pc := 47) 81 d_R_dissentNow_47 (by decide) (fun c47 => absurd c47 (show ¬ nI 30 ≤ nI i from nI_ge (by omega) (by omega))) (fun c47 => ?_)
      refine jx_iload1 (pc := 50) d_R_dissentNow_50 ?_
      refine jx_aload0 (pc := 51) d_R_dissentNow_51 ?_
      refine jx_getR (pc := 52) gf_R_46 d_R_dissentNow_52 ad_79 sh_79 rfl ?_
      refine jx_iload2 (pc := 55) d_R_dissentNow_55 ?_
      refine jx_iald (pc := 56) d_R_dissentNow_56 ad_92 sh_92 (by first | assumption | exact vp_in_nI (by omega) (by omega)) ?_
      refine jx_aload0 (pc := 57) d_R_dissentNow_57 ?_
      refine jx_getR (pc := 58) gf_R_43 d_R_dissentNow_58 ad_79 sh_79 rfl ?_
      refine jx_iload2 (pc := 61) d_R_dissentNow_61 ?_
      refine jx_iald (pc := 62) d_R_dissentNow_62 ad_91 sh_91 (by first | assumption | exact vp_in_nI (by omega) (by omega)) ?_
      refine jx_icmp_eq (pc := 63) 72 d_R_dissentNow_63 (by decide) (fun c63 => ?_) (fun c63 => ?_)
      refine jx_iconst (pc := 72) (v := 0) d_R_dissentNow_72 (by decide) ?_
      refine jx_ior (pc := 73) d_R_dissentNow_73 ?_
      refine jx_istore1 (pc := 74) d_R_dissentNow_74 rfl (Nat.le_of_ble_eq_true rfl) ?_
      refine jx_iinc2 (pc := 75) d_R_dissentNow_75 rfl (Nat.le_of_ble_eq_true rfl) ?_
      refine jx_goto (pc := 78) 44 d_R_dissentNow_78 (by decide) ?_
      rotate_left
      refine jx_iconst (pc := 66) (v := 1) d_R_dissentNow_66 (by decide) ?_
      refine jx_iload2 (pc := 67) d_R_dissentNow_67 ?_
      refine jx_ishl (pc := 68) d_R_dissentNow_68 ?_
      refine jx_goto (pc := 69) 73 d_R_dissentNow_69 (by decide) ?_
      refine jx_ior (pc := 73) d_R_dissentNow_73 ?_
      refine jx_istore1 (pc := 74) d_R_dissentNow_74 rfl (Nat.le_of_ble_eq_true rfl) ?_
      refine jx_iinc2 (pc := 75) d_R_dissentNow_75 rfl (Nat.le_of_ble_eq_true rfl) ?_
      refine jx_goto (pc := 78) 44 d_R_dissentNow_78 (by decide) ?_
      rotate_left
      · rw [e1, f0 i (by omega), f1 i (by omega)] at c63
        have heq : fdD s 0 i = fdD s 1 i := (em_inj (by omega) (by omega)).mp c63
        rw [nI_add1, show nI (disB s i) ||| 0 = nI (disB s i) by rw [← nI_0, fa_or, Nat.or_zero]]
        have h9 := ih (i + 1) (by omega)
        rw [show disB s (i + 1) = disB s i by rw [disB, if_pos heq]] at h9
        exact h9
      · rw [e1, f0 i (by omega), f1 i (by omega)] at c63
        have hne : ¬ fdD s 0 i = fdD s 1 i := fun q => c63 (by rw [q])
        rw [nI_add1, or_bit (by omega)]
        have h9 := ih (i + 1) (by omega)
        rw [show disB s (i + 1) = disB s i ||| 2 ^ i by rw [disB, if_neg hne]] at h9
        exact h9
  have loop1 : ∀ (r i : Nat) (M2 : j_M), i + r = 30 → ScrR M M2 → (∀ q, q < 30 → M2 91 q = em (fdD s 0 q)) → (∀ q, q < i → M2 92 q = em (fdD s 0 q)) → j_W (d + 4) I_R_dissentNow X 9 [some (.ref 79), some (.int (nI i)), none] [] M2 := by
    intro r
    induction r with
    | zero =>
      intro i M2 hi hS f1 f2
      refine jx_iload1 (pc := 9) d_R_dissentNow_9 ?_
      refine jx_bipush (pc := 10) (v := 30) d_R_dissentNow_10 (by decide) ?_
      refine jx_icmp_ge (pc := 12) 33 d_R_dissentNow_12 (by decide) (fun c12 => ?_) (fun c12 => absurd c12 (fun q => q (show nI 30 ≤ nI i from nI_le (by omega) (by omega))))
      refine jx_aload0 (pc := 33) d_R_dissentNow_33 ?_
      refine jx_iconst (pc := 34) (v := 1) d_R_dissentNow_34 (by decide) ?_
      refine jx_bipush (pc := 35) (v := 29) d_R_dissentNow_35 (by decide) ?_
      refine jx_callV2 (pc := 37) (d' := d + 3) vo_R_runsTold lk_R_179 d_R_dissentNow_37 ad_79 sh_79 rfl (by omega) (Nat.le_of_ble_eq_true rfl) ?_
      refine c_R_runsTold (dog := 1) (last := 29) hw (hS.rep hR) (by omega) (by omega) (fun M3 hS3 hr3 h91 h89 hbb3 => ?_)
      refine jx_r0 ?_
      refine jx_iconst (pc := 40) (v := 0) d_R_dissentNow_40 (by decide) ?_
      refine jx_istore1 (pc := 41) d_R_dissentNow_41 rfl (Nat.le_of_ble_eq_true rfl) ?_
      refine jx_iconst (pc := 42) (v := 0) d_R_dissentNow_42 (by decide) ?_
      refine jx_istore2 (pc := 43) d_R_dissentNow_43 rfl (Nat.le_of_ble_eq_true rfl) ?_
      rotate_left
      refine loop2 M3 (hS.tr hS3) hr3 (fun q hq => ?_) (fun q hq => h91 q (by omega)) 30 0 (by omega)
      rw [hbb3 92 (by omega) (by omega) (by omega) (by omega) (by omega)]; exact f2 q (by omega)
    | succ r ih =>
      intro i M2 hi hS f1 f2
      have e1 : (nI i).toNatClampNeg = i := nI_cl (by omega)
      have hv : vp_in (nI i) 30 := vp_in_nI (by omega) (by omega)
      refine jx_iload1 (pc := 9) d_R_dissentNow_9 ?_
      refine jx_bipush (pc := 10) (v := 30) d_R_dissentNow_10 (by decide) ?_
      refine jx_icmp_ge (pc := 12) 33 d_R_dissentNow_12 (by decide) (fun c12 => absurd c12 (show ¬ nI 30 ≤ nI i from nI_ge (by omega) (by omega))) (fun c12 => ?_)
      refine jx_aload0 (pc := 15) d_R_dissentNow_15 ?_
      refine jx_getR (pc := 16) gf_R_46 d_R_dissentNow_16 ad_79 sh_79 rfl ?_
      refine jx_iload1 (pc := 19) d_R_dissentNow_19 ?_
      refine jx_aload0 (pc := 20) d_R_dissentNow_20 ?_
      refine jx_getR (pc := 21) gf_R_43 d_R_dissentNow_21 ad_79 sh_79 rfl ?_
      refine jx_iload1 (pc := 24) d_R_dissentNow_24 ?_
      refine jx_iald (pc := 25) d_R_dissentNow_25 ad_91 sh_91 (by first | assumption | exact vp_in_nI (by omega) (by omega)) ?_
      refine jx_iast (pc := 26) d_R_dissentNow_26 ad_92 sh_92 (by first | assumption | exact vp_in_nI (by omega) (by omega)) ?_
      refine jx_iinc1 (pc := 27) d_R_dissentNow_27 rfl (Nat.le_of_ble_eq_true rfl) ?_
      refine jx_goto (pc := 30) 9 d_R_dissentNow_30 (by decide) ?_
      rotate_left
      rw [nI_add1, e1]
      refine ih (i + 1) _ (by omega) (hS.tr (ScrR.arr ⟨by omega, by unfold PR; omega⟩)) (fun q hq => by rw [j_set_n _ _ _ (by omega)]; exact f1 q hq) (fun q hq => ?_)
      rw [j_set_s]
      unfold upd
      by_cases hc : q = i
      · rw [if_pos hc, f1 i (by omega), hc]
      · rw [if_neg hc]; exact f2 q (by omega)
  refine jx_aload0 (pc := 0) d_R_dissentNow_0 ?_
  refine jx_iconst (pc := 1) (v := 0) d_R_dissentNow_1 (by decide) ?_
  refine jx_bipush (pc := 2) (v := 29) d_R_dissentNow_2 (by decide) ?_
  refine jx_callV2 (pc := 4) (d' := d + 3) vo_R_runsTold lk_R_179 d_R_dissentNow_4 ad_79 sh_79 rfl (by omega) (Nat.le_of_ble_eq_true rfl) ?_
  refine c_R_runsTold (dog := 0) (last := 29) hw hR (by omega) (by omega) (fun M3 hS3 hr3 h91 h89 hbb3 => ?_)
  refine jx_r0 ?_
  refine jx_iconst (pc := 7) (v := 0) d_R_dissentNow_7 (by decide) ?_
  refine jx_istore1 (pc := 8) d_R_dissentNow_8 rfl (Nat.le_of_ble_eq_true rfl) ?_
  rotate_left
  exact loop1 30 0 M3 (by omega) hS3 (fun q hq => h91 q (by omega)) (fun q hq => absurd hq (by omega))
