/-! OPERATIONS of the component, five: read -/
theorem r_visit_neg {s : Sg} {a b c : Int32} (hw : WF s) : (r_visit s a b c < 0 ↔ ¬ (okVis a b c ∧ g_nv s < 24)) ∧ (r_visit s a b c ≤ 0 ↔ ¬ (okVis a b c ∧ g_nv s < 24)) := by
  have hn := hw.2.2.2.2.2.1
  unfold r_visit
  by_cases h1 : okVis a b c
  · rw [if_pos h1]
    by_cases h2 : g_nv s < 24
    · rw [if_pos h2]
      refine ⟨⟨fun h => absurd h (nI_nlt (b := 0) (by omega) (by omega)), fun h => absurd ⟨h1, h2⟩ h⟩, ⟨fun h => absurd h (nI_ge (a := 0) (by omega) (by omega)), fun h => absurd ⟨h1, h2⟩ h⟩⟩
    · rw [if_neg h2]
      exact ⟨⟨fun _ h => h2 h.2, fun _ => by decide⟩, ⟨fun _ h => h2 h.2, fun _ => by decide⟩⟩
  · rw [if_neg h1]
    exact ⟨⟨fun _ h => h1 h.1, fun _ => by decide⟩, ⟨fun _ h => h1 h.1, fun _ => by decide⟩⟩
/-- visits told from a sheet's items: how many, and the state behind them -/
def rdS (q : Nat) : Nat → Nat → Sg → Nat × Sg
  | 0, i, s => (i, s)
  | r + 1, i, s => if 3 * i + 2 < g_si s q ∧ (okVis (g_it s q (3 * i)) (g_it s q (3 * i + 1)) (g_it s q (3 * i + 2)) ∧ g_nv s < 24) then rdS q r (i + 1) (n_visit s (g_it s q (3 * i)) (g_it s q (3 * i + 1)) (g_it s q (3 * i + 2))) else (i, s)
def r_read (s : Sg) (a : Int32) : Int32 := if okPl a then (if g_fo s (cl a) = 9 then -10 - 1 else nI (rdS (cl a) 17 0 s).1) else -2
def n_read (s : Sg) (a : Int32) : Sg := if okPl a then (if g_fo s (cl a) = 9 then s_fi s 1 else (rdS (cl a) 17 0 s).2) else s
theorem WF.visit {s : Sg} (hw : WF s) (a b c : Int32) : WF (n_visit s a b c) := by
  unfold n_visit
  by_cases h : okVis a b c ∧ g_nv s < 24
  · rw [if_pos h]
    obtain ⟨⟨g1, g2, g3⟩, g4⟩ := h
    obtain ⟨w1, w2, w3, w4, w5, w6, w7, w8, w9, w10⟩ := hw
    obtain ⟨x, hx, rfl, ex⟩ := okd a 30 (by omega) g1
    obtain ⟨y, hy, rfl, ey⟩ := okd b 6 (by omega) g2
    obtain ⟨z, hz, rfl, ez⟩ := okd c 3 (by omega) g3
    rw [ex, ey, ez]
    refine ⟨w1, w2, w3, w4, w5, show g_nv s + 1 ≤ 24 by omega, fun k => ?_, w8, w9, w10⟩
    show upN (g_vd s) (g_nv s) x k < 30 ∧ upN (g_vh s) (g_nv s) y k < 6 ∧ upN (g_vt s) (g_nv s) z k < 3
    unfold upN
    by_cases hc : k = g_nv s
    · rw [if_pos hc, if_pos hc, if_pos hc]; exact ⟨hx, hy, hz⟩
    · rw [if_neg hc, if_neg hc, if_neg hc]; exact w7 k
  · rw [if_neg h]; exact hw
theorem n_visit_sh (s : Sg) (a b c : Int32) : g_fo (n_visit s a b c) = g_fo s ∧ g_si (n_visit s a b c) = g_si s ∧ g_it (n_visit s a b c) = g_it s := by
  unfold n_visit
  split
  · exact ⟨rfl, rfl, rfl⟩
  · exact ⟨rfl, rfl, rfl⟩
theorem c_J_read {d : Nat} {a : Int32} {s : Sg} {M : j_M} {Q : Option Value → j_M → Prop} (hw : WF s) (hR : RepC s M) (k : ∀ M', RepC (n_read s a) M' → WF (n_read s a) → Hi M M' → Q (some (.int (r_read s a))) M') : j_Ct (d + 2) I_J_read [.ref 0, .int a] M Q := by
  refine j_met (by decide +kernel) co_J_read (Nat.le_of_ble_eq_true rfl) (fun X hX => ?_)
  show j_W (d + 2) I_J_read X 0 [some (.ref 0), some (.int a), none, none, none] [] M
  by_cases hb : okPl a
  · obtain ⟨q, hq, rfl, ea⟩ := okd a 4 (by omega) hb
    have hvq : vp_in (nI q) 4 := vp_in_nI hq (by omega)
    have h6 := hR.2.2.2.2.2
    obtain ⟨q1, q2, q3⟩ := h6.1 q hq
    have hfq := fo_lt hw q
    have Lq : M 24 (nI q).toNatClampNeg = -1 ↔ g_fo s q = 9 := by rw [show (nI q).toNatClampNeg = q from ea, q1]; exact em_m1 (by omega)
    by_cases h9 : g_fo s q = 9
    · have hr : r_read s (nI q) = -10 - 1 := by unfold r_read; rw [if_pos hb, ea, if_pos h9]
      have hnx : n_read s (nI q) = s_fi s 1 := by unfold n_read; rw [if_pos hb, ea, if_pos h9]
      rw [hr, hnx] at k
      have hLq := Lq.mpr h9
      refine jx_aload0 (pc := 0) d_J_read_0 ?_
      refine jx_getR (pc := 1) gf_J_77 d_J_read_1 ad_0 sh_0 rfl ?_
      refine jx_iload1 (pc := 4) d_J_read_4 ?_
      refine jx_callV1 (pc := 5) (d' := d) vo_Sh_isPlace lk_J_130 d_J_read_5 ad_23 sh_23 rfl (by omega) (Nat.le_of_ble_eq_true rfl) ?_
      refine c_Sh_isPlace ?_
      refine jx_r1 ?_
      refine jx_if_ne (pc := 8) 14 d_J_read_8 (by decide) (fun c8 => ?_) (fun c8 => absurd c8 (z01p hb))
      refine jx_aload0 (pc := 14) d_J_read_14 ?_
      refine jx_getR (pc := 15) gf_J_77 d_J_read_15 ad_0 sh_0 rfl ?_
      refine jx_iload1 (pc := 18) d_J_read_18 ?_
      refine jx_callV1 (pc := 19) (d' := d) vo_Sh_isLost lk_J_133 d_J_read_19 ad_23 sh_23 rfl (by omega) (Nat.le_of_ble_eq_true rfl) ?_
      refine c_Sh_isLost hvq ?_
      refine jx_r1 ?_
      refine jx_if_eq (pc := 22) 34 d_J_read_22 (by decide) (fun c22 => absurd c22 (z01p hLq)) (fun c22 => ?_)
      refine jx_aload0 (pc := 25) d_J_read_25 ?_
      refine jx_getR (pc := 26) gf_J_77 d_J_read_26 ad_0 sh_0 rfl ?_
      refine jx_iconst (pc := 29) (v := 1) d_J_read_29 (by decide) ?_
      refine jx_callV1 (pc := 30) (d' := d) vo_Sh_find lk_J_136 d_J_read_30 ad_23 sh_23 rfl (by omega) (Nat.le_of_ble_eq_true rfl) ?_
      refine c_Sh_find ?_
      refine jx_r1 ?_
      refine jx_iret (pc := 33) hX rfl d_J_read_33 ?_
      rotate_left
      exact k _ (hR.fi 1) hw hi_fi
    · have hr : r_read s (nI q) = nI (rdS q 17 0 s).1 := by unfold r_read; rw [if_pos hb, ea, if_neg h9]
      have hnx : n_read s (nI q) = (rdS q 17 0 s).2 := by unfold n_read; rw [if_pos hb, ea, if_neg h9]
      rw [hr, hnx] at k
      have hLq : ¬ M 24 (nI q).toNatClampNeg = -1 := fun z => h9 (Lq.mp z)
      have hsq := sr_s hq
      have haq := sr_a hq
      have loop : ∀ (r i : Nat) (s2 : Sg) (M2 : j_M), i + r = 17 → WF s2 → RepC s2 M2 → Hi M M2 → rdS q 17 0 s = rdS q r i s2 → j_W (d + 2) I_J_read X 49 [some (.ref 0), some (.int (nI q)), some (.ref (27 + q)), some (.int (nI i)), some (.int (nI (3 * i)))] [] M2 := by
        intro r
        induction r with
        | zero =>
          intro i s2 M2 hi hw2 hR2 hH hrd
          have hsi := (fo_lt hw2 q).2
          have h25 : M2 25 (nI q).toNatClampNeg = nI (g_si s2 q) := by rw [show (nI q).toNatClampNeg = q from ea]; exact (hR2.2.2.2.2.2.1 q hq).2.1
          refine jx_iload4 (pc := 49) d_J_read_49 ?_
          refine jx_iconst (pc := 51) (v := 2) d_J_read_51 (by decide) ?_
          refine jx_iadd (pc := 52) d_J_read_52 ?_
          refine jx_aload0 (pc := 53) d_J_read_53 ?_
          refine jx_getR (pc := 54) gf_J_77 d_J_read_54 ad_0 sh_0 rfl ?_
          refine jx_getR (pc := 57) gf_J_143 d_J_read_57 ad_23 sh_23 rfl ?_
          refine jx_iload1 (pc := 60) d_J_read_60 ?_
          refine jx_iald (pc := 61) d_J_read_61 ad_25 sh_25 hvq ?_
          refine jx_icmp_ge (pc := 62) 109 d_J_read_62 (by decide) (fun c62 => ?_) (fun c62 => absurd c62 (fun z => z (by rw [h25, show nI (3 * i) + 2 = nI (3 * i + 2) from nI_add _ 2]; exact nI_le (by omega) (by omega))))
          refine jx_iload3 (pc := 109) d_J_read_109 ?_
          refine jx_iret (pc := 110) hX rfl d_J_read_110 ?_
          rotate_left
          have h9 := k M2
          rw [hrd, rdS] at h9
          exact h9 hR2 hw2 hH
        | succ r ih =>
          intro i s2 M2 hi hw2 hR2 hH hrd
          have hsi := (fo_lt hw2 q).2
          obtain ⟨p1, p2, p3⟩ := hR2.2.2.2.2.2.1 q hq
          have h25 : M2 25 (nI q).toNatClampNeg = nI (g_si s2 q) := by rw [show (nI q).toNatClampNeg = q from ea]; exact p2
          have e2 : nI (3 * i) + 2 = nI (3 * i + 2) := nI_add _ 2
          have e1 : nI (3 * i) + 1 = nI (3 * i + 1) := nI_add _ 1
          by_cases hlt : 3 * i + 2 < g_si s2 q
          · have hv0 : vp_in (nI (3 * i)) 48 := vp_in_nI (by omega) (by omega)
            have hv1 : vp_in (nI (3 * i) + 1) 48 := by rw [e1]; exact vp_in_nI (by omega) (by omega)
            have hv2 : vp_in (nI (3 * i) + 2) 48 := by rw [e2]; exact vp_in_nI (by omega) (by omega)
            have m0 : M2 (27 + q) (nI (3 * i)).toNatClampNeg = g_it s2 q (3 * i) := by rw [nI_cl (by omega)]; exact p3 _ (by omega)
            have m1 : M2 (27 + q) (nI (3 * i) + 1).toNatClampNeg = g_it s2 q (3 * i + 1) := by rw [e1, nI_cl (by omega)]; exact p3 _ (by omega)
            have m2 : M2 (27 + q) (nI (3 * i) + 2).toNatClampNeg = g_it s2 q (3 * i + 2) := by rw [e2, nI_cl (by omega)]; exact p3 _ (by omega)
            have hng := (r_visit_neg (a := g_it s2 q (3 * i)) (b := g_it s2 q (3 * i + 1)) (c := g_it s2 q (3 * i + 2)) hw2).1
            by_cases hok : okVis (g_it s2 q (3 * i)) (g_it s2 q (3 * i + 1)) (g_it s2 q (3 * i + 2)) ∧ g_nv s2 < 24
            · have hnn : ¬ r_visit s2 (g_it s2 q (3 * i)) (g_it s2 q (3 * i + 1)) (g_it s2 q (3 * i + 2)) < 0 := fun z => hng.mp z hok
              rw [show rdS q (r + 1) i s2 = rdS q r (i + 1) (n_visit s2 (g_it s2 q (3 * i)) (g_it s2 q (3 * i + 1)) (g_it s2 q (3 * i + 2))) by rw [rdS, if_pos ⟨hlt, hok⟩]] at hrd
              refine jx_iload4 (pc := 49) d_J_read_49 ?_
              refine jx_iconst (pc := 51) (v := 2) d_J_read_51 (by decide) ?_
              refine jx_iadd (pc := 52) d_J_read_52 ?_
              refine jx_aload0 (pc := 53) d_J_read_53 ?_
              refine jx_getR (pc := 54) gf_J_77 d_J_read_54 ad_0 sh_0 rfl ?_
              refine jx_getR (pc := 57) gf_J_143 d_J_read_57 ad_23 sh_23 rfl ?_
              refine jx_iload1 (pc := 60) d_J_read_60 ?_
              refine jx_iald (pc := 61) d_J_read_61 ad_25 sh_25 hvq ?_
              refine jx_icmp_ge (pc := 62) 109 d_J_read_62 (by decide) (fun c62 => absurd c62 (by rw [h25, e2]; exact nI_ge (by omega) (by omega))) (fun c62 => ?_)
              refine jx_iload4 (pc := 65) d_J_read_65 ?_
              refine jx_iconst (pc := 67) (v := 2) d_J_read_67 (by decide) ?_
              refine jx_iadd (pc := 68) d_J_read_68 ?_
              refine jx_aload2 (pc := 69) d_J_read_69 ?_
              refine jx_alen (pc := 70) d_J_read_70 haq (Or.inl rfl) hsq rfl ?_
              refine jx_icmp_ge (pc := 71) 109 d_J_read_71 (by decide) (fun c71 => absurd c71 (by rw [e2]; exact nI_ge (b := 48) (by omega) (by omega))) (fun c71 => ?_)
              refine jx_aload0 (pc := 74) d_J_read_74 ?_
              refine jx_aload2 (pc := 75) d_J_read_75 ?_
              refine jx_iload4 (pc := 76) d_J_read_76 ?_
              refine jx_iald (pc := 78) d_J_read_78 haq hsq hv0 ?_
              refine jx_aload2 (pc := 79) d_J_read_79 ?_
              refine jx_iload4 (pc := 80) d_J_read_80 ?_
              refine jx_iconst (pc := 82) (v := 1) d_J_read_82 (by decide) ?_
              refine jx_iadd (pc := 83) d_J_read_83 ?_
              refine jx_iald (pc := 84) d_J_read_84 haq hsq hv1 ?_
              refine jx_aload2 (pc := 85) d_J_read_85 ?_
              refine jx_iload4 (pc := 86) d_J_read_86 ?_
              refine jx_iconst (pc := 88) (v := 2) d_J_read_88 (by decide) ?_
              refine jx_iadd (pc := 89) d_J_read_89 ?_
              refine jx_iald (pc := 90) d_J_read_90 haq hsq hv2 ?_
              refine jx_callV3 (pc := 91) (d' := d + 1) vo_J_visit lk_J_146 d_J_read_91 ad_0 sh_0 rfl (by omega) (Nat.le_of_ble_eq_true rfl) ?_
              rw [m0, m1, m2]
              refine c_J_visit hw2 hR2 (fun M3 hR3 hH3 => ?_)
              refine jx_r1 ?_
              refine jx_if_ge (pc := 94) 100 d_J_read_94 (by decide) (fun c94 => ?_) (fun c94 => absurd c94 (fun z => z (Int32.not_lt.mp hnn)))
              refine jx_iinc3 (pc := 100) d_J_read_100 rfl (Nat.le_of_ble_eq_true rfl) ?_
              refine jx_iinc4 (pc := 103) d_J_read_103 rfl (Nat.le_of_ble_eq_true rfl) ?_
              refine jx_goto (pc := 106) 49 d_J_read_106 (by decide) ?_
              rotate_left
              rw [nI_add1, show nI (3 * i) + Int32.ofInt 3 = nI (3 * (i + 1)) from nI_add _ 3]
              exact ih (i + 1) _ M3 (by omega) (hw2.visit _ _ _) hR3 (fun b hb => (hH3 b hb).trans (hH b hb)) hrd
            · have hnn : r_visit s2 (g_it s2 q (3 * i)) (g_it s2 q (3 * i + 1)) (g_it s2 q (3 * i + 2)) < 0 := hng.mpr hok
              have hsame : n_visit s2 (g_it s2 q (3 * i)) (g_it s2 q (3 * i + 1)) (g_it s2 q (3 * i + 2)) = s2 := by unfold n_visit; rw [if_neg hok]
              rw [show rdS q (r + 1) i s2 = (i, s2) by rw [rdS, if_neg (fun z => hok z.2)]] at hrd
              refine jx_iload4 (pc := 49) d_J_read_49 ?_
              refine jx_iconst (pc := 51) (v := 2) d_J_read_51 (by decide) ?_
              refine jx_iadd (pc := 52) d_J_read_52 ?_
              refine jx_aload0 (pc := 53) d_J_read_53 ?_
              refine jx_getR (pc := 54) gf_J_77 d_J_read_54 ad_0 sh_0 rfl ?_
              refine jx_getR (pc := 57) gf_J_143 d_J_read_57 ad_23 sh_23 rfl ?_
              refine jx_iload1 (pc := 60) d_J_read_60 ?_
              refine jx_iald (pc := 61) d_J_read_61 ad_25 sh_25 hvq ?_
              refine jx_icmp_ge (pc := 62) 109 d_J_read_62 (by decide) (fun c62 => absurd c62 (by rw [h25, e2]; exact nI_ge (by omega) (by omega))) (fun c62 => ?_)
              refine jx_iload4 (pc := 65) d_J_read_65 ?_
              refine jx_iconst (pc := 67) (v := 2) d_J_read_67 (by decide) ?_
              refine jx_iadd (pc := 68) d_J_read_68 ?_
              refine jx_aload2 (pc := 69) d_J_read_69 ?_
              refine jx_alen (pc := 70) d_J_read_70 haq (Or.inl rfl) hsq rfl ?_
              refine jx_icmp_ge (pc := 71) 109 d_J_read_71 (by decide) (fun c71 => absurd c71 (by rw [e2]; exact nI_ge (b := 48) (by omega) (by omega))) (fun c71 => ?_)
              refine jx_aload0 (pc := 74) d_J_read_74 ?_
              refine jx_aload2 (pc := 75) d_J_read_75 ?_
              refine jx_iload4 (pc := 76) d_J_read_76 ?_
              refine jx_iald (pc := 78) d_J_read_78 haq hsq hv0 ?_
              refine jx_aload2 (pc := 79) d_J_read_79 ?_
              refine jx_iload4 (pc := 80) d_J_read_80 ?_
              refine jx_iconst (pc := 82) (v := 1) d_J_read_82 (by decide) ?_
              refine jx_iadd (pc := 83) d_J_read_83 ?_
              refine jx_iald (pc := 84) d_J_read_84 haq hsq hv1 ?_
              refine jx_aload2 (pc := 85) d_J_read_85 ?_
              refine jx_iload4 (pc := 86) d_J_read_86 ?_
              refine jx_iconst (pc := 88) (v := 2) d_J_read_88 (by decide) ?_
              refine jx_iadd (pc := 89) d_J_read_89 ?_
              refine jx_iald (pc := 90) d_J_read_90 haq hsq hv2 ?_
              refine jx_callV3 (pc := 91) (d' := d + 1) vo_J_visit lk_J_146 d_J_read_91 ad_0 sh_0 rfl (by omega) (Nat.le_of_ble_eq_true rfl) ?_
              rw [m0, m1, m2]
              refine c_J_visit hw2 hR2 (fun M3 hR3 hH3 => ?_)
              refine jx_r1 ?_
              refine jx_if_ge (pc := 94) 100 d_J_read_94 (by decide) (fun c94 => absurd c94 (Int32.not_le.mpr hnn)) (fun c94 => ?_)
              refine jx_goto (pc := 97) 109 d_J_read_97 (by decide) ?_
              refine jx_iload3 (pc := 109) d_J_read_109 ?_
              refine jx_iret (pc := 110) hX rfl d_J_read_110 ?_
              rotate_left
              rw [hsame] at hR3
              have h9 := k M3
              rw [hrd] at h9
              exact h9 hR3 hw2 (fun b hb => (hH3 b hb).trans (hH b hb))
          · rw [show rdS q (r + 1) i s2 = (i, s2) by rw [rdS, if_neg (fun z => hlt z.1)]] at hrd
            refine jx_iload4 (pc := 49) d_J_read_49 ?_
            refine jx_iconst (pc := 51) (v := 2) d_J_read_51 (by decide) ?_
            refine jx_iadd (pc := 52) d_J_read_52 ?_
            refine jx_aload0 (pc := 53) d_J_read_53 ?_
            refine jx_getR (pc := 54) gf_J_77 d_J_read_54 ad_0 sh_0 rfl ?_
            refine jx_getR (pc := 57) gf_J_143 d_J_read_57 ad_23 sh_23 rfl ?_
            refine jx_iload1 (pc := 60) d_J_read_60 ?_
            refine jx_iald (pc := 61) d_J_read_61 ad_25 sh_25 hvq ?_
            refine jx_icmp_ge (pc := 62) 109 d_J_read_62 (by decide) (fun c62 => ?_) (fun c62 => absurd c62 (fun z => z (by rw [h25, e2]; exact nI_le (by omega) (by omega))))
            refine jx_iload3 (pc := 109) d_J_read_109 ?_
            refine jx_iret (pc := 110) hX rfl d_J_read_110 ?_
            rotate_left
            have h9 := k M2
            rw [hrd] at h9
            exact h9 hR2 hw2 hH
      refine jx_aload0 (pc := 0) d_J_read_0 ?_
      refine jx_getR (pc := 1) gf_J_77 d_J_read_1 ad_0 sh_0 rfl ?_
      refine jx_iload1 (pc := 4) d_J_read_4 ?_
      refine jx_callV1 (pc := 5) (d' := d) vo_Sh_isPlace lk_J_130 d_J_read_5 ad_23 sh_23 rfl (by omega) (Nat.le_of_ble_eq_true rfl) ?_
      refine c_Sh_isPlace ?_
      refine jx_r1 ?_
      refine jx_if_ne (pc := 8) 14 d_J_read_8 (by decide) (fun c8 => ?_) (fun c8 => absurd c8 (z01p hb))
      refine jx_aload0 (pc := 14) d_J_read_14 ?_
      refine jx_getR (pc := 15) gf_J_77 d_J_read_15 ad_0 sh_0 rfl ?_
      refine jx_iload1 (pc := 18) d_J_read_18 ?_
      refine jx_callV1 (pc := 19) (d' := d) vo_Sh_isLost lk_J_133 d_J_read_19 ad_23 sh_23 rfl (by omega) (Nat.le_of_ble_eq_true rfl) ?_
      refine c_Sh_isLost hvq ?_
      refine jx_r1 ?_
      refine jx_if_eq (pc := 22) 34 d_J_read_22 (by decide) (fun c22 => ?_) (fun c22 => absurd c22 (fun q => q (z01.mpr hLq)))
      refine jx_aload0 (pc := 34) d_J_read_34 ?_
      refine jx_getR (pc := 35) gf_J_77 d_J_read_35 ad_0 sh_0 rfl ?_
      refine jx_getR (pc := 38) gf_J_140 d_J_read_38 ad_23 sh_23 rfl ?_
      refine jx_iload1 (pc := 41) d_J_read_41 ?_
      refine jx_aald (pc := 42) d_J_read_42 ad_26 (Or.inr rfl) sh_26 hvq (sr_r hq) ?_
      refine jx_astore2 (pc := 43) d_J_read_43 rfl (Nat.le_of_ble_eq_true rfl) ?_
      refine jx_iconst (pc := 44) (v := 0) d_J_read_44 (by decide) ?_
      refine jx_istore3 (pc := 45) d_J_read_45 rfl (Nat.le_of_ble_eq_true rfl) ?_
      refine jx_iconst (pc := 46) (v := 0) d_J_read_46 (by decide) ?_
      refine jx_istore4 (pc := 47) d_J_read_47 rfl (Nat.le_of_ble_eq_true rfl) ?_
      rotate_left
      exact loop 17 0 s M (by omega) hw hR (fun _ _ => rfl) rfl
  · have hr : r_read s a = -2 := by unfold r_read; rw [if_neg hb]
    have hnx : n_read s a = s := by unfold n_read; rw [if_neg hb]
    rw [hr, hnx] at k
    refine jx_aload0 (pc := 0) d_J_read_0 ?_
    refine jx_getR (pc := 1) gf_J_77 d_J_read_1 ad_0 sh_0 rfl ?_
    refine jx_iload1 (pc := 4) d_J_read_4 ?_
    refine jx_callV1 (pc := 5) (d' := d) vo_Sh_isPlace lk_J_130 d_J_read_5 ad_23 sh_23 rfl (by omega) (Nat.le_of_ble_eq_true rfl) ?_
    refine c_Sh_isPlace ?_
    refine jx_r1 ?_
    refine jx_if_ne (pc := 8) 14 d_J_read_8 (by decide) (fun c8 => absurd c8 (fun q => q (z01.mpr hb))) (fun c8 => ?_)
    refine jx_bipush (pc := 11) (v := (-2)) d_J_read_11 (by decide) ?_
    refine jx_iret (pc := 13) hX rfl d_J_read_13 ?_
    rotate_left
    exact k M hR hw (fun _ _ => rfl)
