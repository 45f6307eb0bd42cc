/-! OPERATIONS of the component, four: write, count -/
theorem c_J_write {d : Nat} {dog a : Int32} {s : Sg} {M : j_M} {Q : Option Value → j_M → Prop} (hw : WF s) (hR : RepC s M) (k : ∀ M', RepC (n_write s dog a) M' → Hi M M' → Q (some (.int (r_write s dog a))) M') : j_Ct (d + 4) I_J_write [.ref 0, .int dog, .int a] M Q := by
  refine j_met (by decide +kernel) co_J_write (Nat.le_of_ble_eq_true rfl) (fun X hX => ?_)
  show j_W (d + 4) I_J_write X 0 [some (.ref 0), some (.int dog), some (.int a), none, none] [] M
  by_cases hb : (0 ≤ dog ∧ dog < 2) ∧ okPl a
  · obtain ⟨g1, g2⟩ := id hb
    obtain ⟨e, he, rfl, ee⟩ := okd dog 2 (by omega) g1
    obtain ⟨q, hq, rfl, ea⟩ := okd a 4 (by omega) g2
    have hvq : vp_in (nI q) 4 := vp_in_nI hq (by omega)
    have h6 := hR.2.2.2.2.2
    obtain ⟨q1, q2, q3⟩ := h6.1 q hq
    have hfq := fo_lt hw q
    have Lq : M 24 (nI q).toNatClampNeg = -1 ↔ g_fo s q = 9 := by rw [show (nI q).toNatClampNeg = q from ea, q1]; exact em_m1 (by omega)
    by_cases h9 : g_fo s q = 9
    · have hr : r_write s (nI e) (nI q) = -10 - 1 := by unfold r_write; rw [if_pos hb, ea, if_pos h9]
      have hnx : n_write s (nI e) (nI q) = s_fi s 1 := by unfold n_write; rw [if_pos hb, ea, if_pos h9]
      rw [hr, hnx] at k
      have hLq := Lq.mpr h9
      refine jx_iload1 (pc := 0) d_J_write_0 ?_
      refine jx_callS1 (pc := 1) (d' := d) so_J_isDog lk_J_111 d_J_write_1 (by omega) (Nat.le_of_ble_eq_true rfl) ?_
      refine c_J_isDog ?_
      refine jx_r1 ?_
      refine jx_if_eq (pc := 4) 18 d_J_write_4 (by decide) (fun c4 => absurd c4 (z01p g1)) (fun c4 => ?_)
      refine jx_aload0 (pc := 7) d_J_write_7 ?_
      refine jx_getR (pc := 8) gf_J_77 d_J_write_8 ad_0 sh_0 rfl ?_
      refine jx_iload2 (pc := 11) d_J_write_11 ?_
      refine jx_callV1 (pc := 12) (d' := d) vo_Sh_isPlace lk_J_130 d_J_write_12 ad_23 sh_23 rfl (by omega) (Nat.le_of_ble_eq_true rfl) ?_
      refine c_Sh_isPlace ?_
      refine jx_r1 ?_
      refine jx_if_ne (pc := 15) 21 d_J_write_15 (by decide) (fun c15 => ?_) (fun c15 => absurd c15 (z01p g2))
      refine jx_aload0 (pc := 21) d_J_write_21 ?_
      refine jx_getR (pc := 22) gf_J_77 d_J_write_22 ad_0 sh_0 rfl ?_
      refine jx_iload2 (pc := 25) d_J_write_25 ?_
      refine jx_callV1 (pc := 26) (d' := d) vo_Sh_isLost lk_J_133 d_J_write_26 ad_23 sh_23 rfl (by omega) (Nat.le_of_ble_eq_true rfl) ?_
      refine c_Sh_isLost hvq ?_
      refine jx_r1 ?_
      refine jx_if_eq (pc := 29) 41 d_J_write_29 (by decide) (fun c29 => absurd c29 (z01p hLq)) (fun c29 => ?_)
      refine jx_aload0 (pc := 32) d_J_write_32 ?_
      refine jx_getR (pc := 33) gf_J_77 d_J_write_33 ad_0 sh_0 rfl ?_
      refine jx_iconst (pc := 36) (v := 1) d_J_write_36 (by decide) ?_
      refine jx_callV1 (pc := 37) (d' := d) vo_Sh_find lk_J_136 d_J_write_37 ad_23 sh_23 rfl (by omega) (Nat.le_of_ble_eq_true rfl) ?_
      refine c_Sh_find ?_
      refine jx_r1 ?_
      refine jx_iret (pc := 40) hX rfl d_J_write_40 ?_
      rotate_left
      exact k _ (hR.fi 1) hi_fi
    · have hr : r_write s (nI e) (nI q) = nI (min (g_si s q) 30) := by unfold r_write; rw [if_pos hb, ea, if_neg h9]
      have hnx : n_write s (nI e) (nI q) = s_sh s (g_fo s) (g_si s) (wrI s e q (min (g_si s q) 30)) := by unfold n_write; rw [if_pos hb, ea, ee, if_neg h9]
      rw [hr, hnx] at k
      have hLq : ¬ M 24 (nI q).toNatClampNeg = -1 := fun z => h9 (Lq.mp z)
      have hsq := sr_s hq
      have haq := sr_a hq
      have hfa := fr_a he
      have hfs := fr_s he
      have hmin : min (g_si s q) 30 ≤ 30 := Nat.min_le_right _ _
      generalize hmm : min (g_si s q) 30 = mm at k hmin
      have loop : ∀ (r i : Nat) (M2 : j_M), i + r = mm → (∀ b, b < 79 → b ≠ 27 + q → (PC b ∨ b = 32 + e) → (b = 32 + e → ∀ day, day < 30 → M2 b day = em (fdD s e day)) ∧ (PC b → M2 b = M b)) → (∀ b, 79 ≤ b → M2 b = M b) → (∀ m, m < i → M2 (27 + q) m = fitF (g_fo s q) (em (fdD s e m))) → (∀ m, i ≤ m → M2 (27 + q) m = M (27 + q) m) → j_W (d + 4) I_J_write X 64 [some (.ref 0), some (.int (nI e)), some (.int (nI q)), some (.int (nI mm)), some (.int (nI i))] [] M2 := by
        intro r
        induction r with
        | zero =>
          intro i M2 hi f1 f2 f3 f4
          have hi' : i = mm := by omega
          subst hi'
          refine jx_iload4 (pc := 64) d_J_write_64 ?_
          refine jx_iload3 (pc := 66) d_J_write_66 ?_
          refine jx_icmp_ge (pc := 67) 113 d_J_write_67 (by decide) (fun c67 => ?_) (fun c67 => absurd c67 (fun q => q (Int32.le_refl _)))
          refine jx_iload3 (pc := 113) d_J_write_113 ?_
          refine jx_iret (pc := 114) hX rfl d_J_write_114 ?_
          rotate_left
          have g : ∀ b, b ≠ 27 + q → PC b → M2 b = M b := fun b h1 h2 => (f1 b (by unfold PC at h2; omega) h1 (Or.inl h2)).2 h2
          refine k M2 ?_ f2
          have hS : RepC s (j_seta M2 (27 + q) (M (27 + q))) := Scr.rep (s := s) (M := M) (fun b hb => by
            by_cases hc : b = 27 + q
            · subst hc; rw [j_seta_s]
            · rw [j_seta_n _ _ hc]
              rcases hb with hb | hb
              · exact g b hc hb
              · exact f2 b hb) hR
          have h7 := hS.2.2.2.2.2
          refine hS.sh0 ⟨fun z hz => ⟨?_, ?_, fun m hm => ?_⟩, ?_⟩ (fun b hb => by rw [j_seta_n _ _ (by omega)])
          · have := (h7.1 z hz).1; rw [j_seta_n _ _ (by omega)] at this; exact this
          · have := (h7.1 z hz).2.1; rw [j_seta_n _ _ (by omega)] at this; exact this
          · unfold wrI
            by_cases hz2 : z = q
            · subst hz2
              by_cases hm2 : m < i
              · rw [if_pos ⟨rfl, hm2⟩]; exact f3 m hm2
              · rw [if_neg (fun w => hm2 w.2), f4 m (by omega)]; exact q3 m hm
            · rw [if_neg (fun w => hz2 w.1)]
              have := (h7.1 z hz).2.2 m hm
              rw [j_seta_n _ _ (by omega)] at this
              exact this
          · have := h7.2; rw [j_seta_n _ _ (by omega)] at this; exact this
        | succ r ih =>
          intro i M2 hi f1 f2 f3 f4
          have e1 : (nI i).toNatClampNeg = i := nI_cl (by omega)
          have h24 : M2 24 (nI q).toNatClampNeg = nI (g_fo s q) := by rw [show (nI q).toNatClampNeg = q from ea, (f1 24 (by omega) (by omega) (Or.inl (by unfold PC; omega))).2 (by unfold PC; omega), q1, em_lt (by omega)]
          have h32 : M2 (32 + e) (nI i).toNatClampNeg = em (fdD s e i) := by rw [e1]; exact (f1 (32 + e) (by omega) (by omega) (Or.inr rfl)).1 rfl i (by omega)
          have hve : vp_in (nI e) 2 := vp_in_nI he (by omega)
          refine jx_iload4 (pc := 64) d_J_write_64 ?_
          refine jx_iload3 (pc := 66) d_J_write_66 ?_
          refine jx_icmp_ge (pc := 67) 113 d_J_write_67 (by decide) (fun c67 => absurd c67 (nI_ge (by omega) (by omega))) (fun c67 => ?_)
          refine jx_aload0 (pc := 70) d_J_write_70 ?_
          refine jx_getR (pc := 71) gf_J_77 d_J_write_71 ad_0 sh_0 rfl ?_
          refine jx_getR (pc := 74) gf_J_140 d_J_write_74 ad_23 sh_23 rfl ?_
          refine jx_iload2 (pc := 77) d_J_write_77 ?_
          refine jx_aald (pc := 78) d_J_write_78 ad_26 (Or.inr rfl) sh_26 hvq (sr_r hq) ?_
          refine jx_iload4 (pc := 79) d_J_write_79 ?_
          refine jx_aload0 (pc := 81) d_J_write_81 ?_
          refine jx_getR (pc := 82) gf_J_77 d_J_write_82 ad_0 sh_0 rfl ?_
          refine jx_aload0 (pc := 85) d_J_write_85 ?_
          refine jx_getR (pc := 86) gf_J_77 d_J_write_86 ad_0 sh_0 rfl ?_
          refine jx_getR (pc := 89) gf_J_269 d_J_write_89 ad_23 sh_23 rfl ?_
          refine jx_iload2 (pc := 92) d_J_write_92 ?_
          refine jx_iald (pc := 93) d_J_write_93 ad_24 sh_24 (by first | assumption | exact vp_in_nI (by omega) (by omega)) ?_
          refine jx_aload0 (pc := 94) d_J_write_94 ?_
          refine jx_getR (pc := 95) gf_J_82 d_J_write_95 ad_0 sh_0 rfl ?_
          refine jx_iload1 (pc := 98) d_J_write_98 ?_
          refine jx_aald (pc := 99) d_J_write_99 ad_31 (Or.inr rfl) sh_31 hve (fr_r he) ?_
          refine jx_iload4 (pc := 100) d_J_write_100 ?_
          refine jx_iald (pc := 102) d_J_write_102 hfa hfs (vp_in_nI (by omega) (by omega)) ?_
          refine jx_callV2 (pc := 103) (d' := d) vo_Sh_fit lk_J_275 d_J_write_103 ad_23 sh_23 rfl (by omega) (Nat.le_of_ble_eq_true rfl) ?_
          rw [h24, h32]
          refine c_Sh_fit (by omega) ?_
          refine jx_r1 ?_
          refine jx_iast (pc := 106) d_J_write_106 haq hsq (vp_in_nI (by omega) (by omega)) ?_
          refine jx_iinc4 (pc := 107) d_J_write_107 rfl (Nat.le_of_ble_eq_true rfl) ?_
          refine jx_goto (pc := 110) 64 d_J_write_110 (by decide) ?_
          rotate_left
          rw [nI_add1, e1]
          refine ih (i + 1) _ (by omega) (fun b h1 h2 h3 => by rw [j_set_n _ _ _ h2]; exact f1 b h1 h2 h3) (fun b hb => by rw [j_set_n _ _ _ (by omega)]; exact f2 b hb) (fun m hm => ?_) (fun m hm => ?_)
          · rw [j_set_s]; unfold upd
            by_cases hc : m = i
            · rw [if_pos hc, hc]
            · rw [if_neg hc]; exact f3 m (by omega)
          · rw [j_set_s]; unfold upd; rw [if_neg (by omega)]; exact f4 m (by omega)
      refine jx_iload1 (pc := 0) d_J_write_0 ?_
      refine jx_callS1 (pc := 1) (d' := d) so_J_isDog lk_J_111 d_J_write_1 (by omega) (Nat.le_of_ble_eq_true rfl) ?_
      refine c_J_isDog ?_
      refine jx_r1 ?_
      refine jx_if_eq (pc := 4) 18 d_J_write_4 (by decide) (fun c4 => absurd c4 (z01p g1)) (fun c4 => ?_)
      refine jx_aload0 (pc := 7) d_J_write_7 ?_
      refine jx_getR (pc := 8) gf_J_77 d_J_write_8 ad_0 sh_0 rfl ?_
      refine jx_iload2 (pc := 11) d_J_write_11 ?_
      refine jx_callV1 (pc := 12) (d' := d) vo_Sh_isPlace lk_J_130 d_J_write_12 ad_23 sh_23 rfl (by omega) (Nat.le_of_ble_eq_true rfl) ?_
      refine c_Sh_isPlace ?_
      refine jx_r1 ?_
      refine jx_if_ne (pc := 15) 21 d_J_write_15 (by decide) (fun c15 => ?_) (fun c15 => absurd c15 (z01p g2))
      refine jx_aload0 (pc := 21) d_J_write_21 ?_
      refine jx_getR (pc := 22) gf_J_77 d_J_write_22 ad_0 sh_0 rfl ?_
      refine jx_iload2 (pc := 25) d_J_write_25 ?_
      refine jx_callV1 (pc := 26) (d' := d) vo_Sh_isLost lk_J_133 d_J_write_26 ad_23 sh_23 rfl (by omega) (Nat.le_of_ble_eq_true rfl) ?_
      refine c_Sh_isLost hvq ?_
      refine jx_r1 ?_
      refine jx_if_eq (pc := 29) 41 d_J_write_29 (by decide) (fun c29 => ?_) (fun c29 => absurd c29 (fun q => q (z01.mpr hLq)))
      refine jx_aload0 (pc := 41) d_J_write_41 ?_
      refine jx_iload1 (pc := 42) d_J_write_42 ?_
      refine jx_callV1 (pc := 43) (d' := d + 3) vo_J_noteFound lk_J_176 d_J_write_43 ad_0 sh_0 rfl (by omega) (Nat.le_of_ble_eq_true rfl) ?_
      refine c_J_noteFound hw hR he (fun M1 hS1 hf1 hb1 => ?_)
      refine jx_r0 ?_
      refine jx_aload0 (pc := 46) d_J_write_46 ?_
      refine jx_getR (pc := 47) gf_J_77 d_J_write_47 ad_0 sh_0 rfl ?_
      refine jx_getR (pc := 50) gf_J_143 d_J_write_50 ad_23 sh_23 rfl ?_
      refine jx_iload2 (pc := 53) d_J_write_53 ?_
      refine jx_iald (pc := 54) d_J_write_54 ad_25 sh_25 hvq ?_
      refine jx_bipush (pc := 55) (v := 30) d_J_write_55 (by decide) ?_
      refine jx_mmin (pc := 57) lk_J_292 mm_min_1 mm_ini mm_min_3 (by omega) (Nat.le_of_ble_eq_true rfl) d_J_write_57 ?_
      refine jx_istore3 (pc := 60) d_J_write_60 rfl (Nat.le_of_ble_eq_true rfl) ?_
      refine jx_iconst (pc := 61) (v := 0) d_J_write_61 (by decide) ?_
      refine jx_istore4 (pc := 62) d_J_write_62 rfl (Nat.le_of_ble_eq_true rfl) ?_
      rotate_left
      have h25 : M1 25 (nI q).toNatClampNeg = nI (g_si s q) := by rw [show (nI q).toNatClampNeg = q from ea, hS1 25 (Or.inl (by unfold PC; omega))]; exact q2
      rw [h25, show (if (30 : Int32) < nI (g_si s q) then (30 : Int32) else nI (g_si s q)) = nI mm by
        rw [← hmm]
        by_cases hlt : 30 < g_si s q
        · rw [if_pos (show (30 : Int32) < nI (g_si s q) from nI_lt (a := 30) hlt (by omega)), Nat.min_eq_right (by omega)]; rfl
        · rw [if_neg (show ¬ (30 : Int32) < nI (g_si s q) from nI_nlt (a := 30) (by omega) (by omega)), Nat.min_eq_left (by omega)]]
      exact loop mm 0 M1 (by omega) (fun b h1 h2 h3 => ⟨fun hbe day hd => by rw [hbe]; exact hf1 day hd, fun hp => hS1 b (Or.inl hp)⟩) (fun b hb => hS1 b (Or.inr hb)) (fun m hm => absurd hm (Nat.not_lt_zero _)) (fun m hm => by rw [hS1 (27 + q) (Or.inl (by unfold PC; omega))])
  · have hr : r_write s dog a = -2 := by unfold r_write; rw [if_neg hb]
    have hnx : n_write s dog a = s := by unfold n_write; rw [if_neg hb]
    rw [hr, hnx] at k
    refine jx_iload1 (pc := 0) d_J_write_0 ?_
    refine jx_callS1 (pc := 1) (d' := d) so_J_isDog lk_J_111 d_J_write_1 (by omega) (Nat.le_of_ble_eq_true rfl) ?_
    refine c_J_isDog ?_
    refine jx_r1 ?_
    refine jx_if_eq (pc := 4) 18 d_J_write_4 (by decide) (fun c4 => ?_) (fun c4 => ?_)
    refine jx_bipush (pc := 18) (v := (-2)) d_J_write_18 (by decide) ?_
    refine jx_iret (pc := 20) hX rfl d_J_write_20 ?_
    rotate_left
    refine jx_aload0 (pc := 7) d_J_write_7 ?_
    refine jx_getR (pc := 8) gf_J_77 d_J_write_8 ad_0 sh_0 rfl ?_
    refine jx_iload2 (pc := 11) d_J_write_11 ?_
    refine jx_callV1 (pc := 12) (d' := d) vo_Sh_isPlace lk_J_130 d_J_write_12 ad_23 sh_23 rfl (by omega) (Nat.le_of_ble_eq_true rfl) ?_
    refine c_Sh_isPlace ?_
    refine jx_r1 ?_
    refine jx_if_ne (pc := 15) 21 d_J_write_15 (by decide) (fun c15 => ?_) (fun c15 => ?_)
    rotate_left
    refine jx_bipush (pc := 18) (v := (-2)) d_J_write_18 (by decide) ?_
    refine jx_iret (pc := 20) hX rfl d_J_write_20 ?_
    rotate_left
    · exact k M hR (fun _ _ => rfl)
    · exact absurd ⟨z01n c4, z01n c15⟩ hb
    · exact k M hR (fun _ _ => rfl)
def cmS (s : Sg) (day : Nat) : Nat := ((g_bs s day).filter (fun q => decide (q.1 < g_hn s))).length
def vtS (s : Sg) : Nat → Nat
  | 0 => 0
  | n + 1 => if (g_wy s 3).testBit n then vtS s n else vtS s n + cmS s n
theorem cmS_le {s : Sg} (hw : WF s) (day : Nat) : cmS s day ≤ 24 := Nat.le_trans (List.length_filter_le _ _) (g_bs_len hw day)
theorem vtS_le {s : Sg} (hw : WF s) : ∀ n, vtS s n ≤ 24 * n
  | 0 => by unfold vtS; omega
  | n + 1 => by
    have h1 := vtS_le hw n
    have h2 := cmS_le hw n
    unfold vtS
    split <;> omega
theorem c_Co_comersOn {d day : Nat} {s : Sg} {M : j_M} {Q : Option Value → j_M → Prop} (hw : WF s) (hC : CE (g_en s) (g_wy s 3) (g_bs s) M) (h13 : M 1 3 = nI (g_hn s)) (hday : day < 30) (k : Q (some (.int (nI (cmS s day)))) M) : j_Ct (d + 1) I_Co_comersOn [.ref 15, .int (nI day)] M Q := by
  refine j_met (by decide +kernel) co_Co_comersOn (Nat.le_of_ble_eq_true rfl) (fun X hX => ?_)
  show j_W (d + 1) I_Co_comersOn X 0 [some (.ref 15), some (.int (nI day)), none, none] [] M
  have hwf := hC.2.1.wf hday
  have hn6 : g_hn s ≤ 6 := hnB_le hw.1
  obtain ⟨S, h1, h2, h3⟩ := id hC.2.1
  have hS0 := h1 day (by omega)
  have hS1 := h1 (day + 1) (by omega)
  have hS := h2 day hday
  have ed : (nI day).toNatClampNeg = day := nI_cl (by omega)
  have ed1 : nI day + 1 = nI (day + 1) := nI_1 day
  have ed2 : (nI (day + 1)).toNatClampNeg = day + 1 := nI_cl (by omega)
  have hv0 : vp_in (nI day) 31 := vp_in_nI (by omega) (by omega)
  have hv1 : vp_in (nI day + 1) 31 := by rw [ed1]; exact vp_in_nI (by omega) (by omega)
  have h9 : M 9 (nI day + 1).toNatClampNeg = nI (S (day + 1)) := by rw [ed1, ed2]; exact hS1.1
  have loop : ∀ (r j : Nat), j + r = (g_bs s day).length → j_W (d + 1) I_Co_comersOn X 12 [some (.ref 15), some (.int (nI day)), some (.int (nI (((g_bs s day).take j).filter (fun q => decide (q.1 < g_hn s))).length)), some (.int (nI (S day + j)))] [] M := by
    intro r
    induction r with
    | zero =>
      intro j hj
      refine jx_iload3 (pc := 12) d_Co_comersOn_12 ?_
      refine jx_aload0 (pc := 13) d_Co_comersOn_13 ?_
      refine jx_getR (pc := 14) gf_Co_15 d_Co_comersOn_14 ad_15 sh_15 rfl ?_
      refine jx_getR (pc := 17) gf_Co_30 d_Co_comersOn_17 ad_4 sh_4 rfl ?_
      refine jx_iload1 (pc := 20) d_Co_comersOn_20 ?_
      refine jx_iconst (pc := 21) (v := 1) d_Co_comersOn_21 (by decide) ?_
      refine jx_iadd (pc := 22) d_Co_comersOn_22 ?_
      refine jx_iald (pc := 23) d_Co_comersOn_23 ad_9 sh_9 (by first | assumption | exact vp_in_nI (by omega) (by omega)) ?_
      refine jx_icmp_ge (pc := 24) 54 d_Co_comersOn_24 (by decide) (fun c24 => ?_) (fun c24 => absurd c24 (fun q => q (by rw [h9]; exact nI_le (by omega) (by omega))))
      refine jx_iload2 (pc := 54) d_Co_comersOn_54 ?_
      refine jx_iret (pc := 55) hX rfl d_Co_comersOn_55 ?_
      rotate_left
      rw [show j = (g_bs s day).length by omega, List.take_length]
      exact k
    | succ r ih =>
      intro j hj
      obtain ⟨q, hq⟩ : ∃ q, (g_bs s day)[j]? = some q := ⟨(g_bs s day)[j]'(by omega), List.getElem?_eq_getElem (by omega)⟩
      obtain ⟨v, hv, g8, g6, g7, hq1, hq2⟩ := h3 day hday j q hq
      have hp : S day + j < 24 := by omega
      have hT : (g_bs s day).take (j + 1) = (g_bs s day).take j ++ [q] := by rw [List.take_add_one, hq]; rfl
      have h0 := ih (j + 1) (by omega)
      rw [hT, List.filter_append, List.length_append] at h0
      refine jx_iload3 (pc := 12) d_Co_comersOn_12 ?_
      refine jx_aload0 (pc := 13) d_Co_comersOn_13 ?_
      refine jx_getR (pc := 14) gf_Co_15 d_Co_comersOn_14 ad_15 sh_15 rfl ?_
      refine jx_getR (pc := 17) gf_Co_30 d_Co_comersOn_17 ad_4 sh_4 rfl ?_
      refine jx_iload1 (pc := 20) d_Co_comersOn_20 ?_
      refine jx_iconst (pc := 21) (v := 1) d_Co_comersOn_21 (by decide) ?_
      refine jx_iadd (pc := 22) d_Co_comersOn_22 ?_
      refine jx_iald (pc := 23) d_Co_comersOn_23 ad_9 sh_9 (by first | assumption | exact vp_in_nI (by omega) (by omega)) ?_
      refine jx_icmp_ge (pc := 24) 54 d_Co_comersOn_24 (by decide) (fun c24 => absurd c24 (by rw [h9]; exact nI_ge (by omega) (by omega))) (fun c24 => ?_)
      refine jx_aload0 (pc := 27) d_Co_comersOn_27 ?_
      refine jx_getR (pc := 28) gf_Co_9 d_Co_comersOn_28 ad_15 sh_15 rfl ?_
      refine jx_aload0 (pc := 31) d_Co_comersOn_31 ?_
      refine jx_getR (pc := 32) gf_Co_15 d_Co_comersOn_32 ad_15 sh_15 rfl ?_
      refine jx_iload3 (pc := 35) d_Co_comersOn_35 ?_
      refine jx_callV1 (pc := 36) (d' := d) vo_Vi_heirAt lk_Co_35 d_Co_comersOn_36 ad_4 sh_4 rfl (by omega) (Nat.le_of_ble_eq_true rfl) ?_
      refine c_Vi_heirAt hp hv g8 ?_
      rw [g6]
      refine jx_r1 ?_
      refine jx_callV1 (pc := 39) (d' := d) vo_He_has lk_Co_39 d_Co_comersOn_39 ad_1 sh_1 rfl (by omega) (Nat.le_of_ble_eq_true rfl) ?_
      refine c_He_has ?_
      refine jx_r1 ?_
      refine jx_if_eq (pc := 42) 48 d_Co_comersOn_42 (by decide) (fun c42 => ?_) (fun c42 => ?_)
      refine jx_iinc3 (pc := 48) d_Co_comersOn_48 rfl (Nat.le_of_ble_eq_true rfl) ?_
      refine jx_goto (pc := 51) 12 d_Co_comersOn_51 (by decide) ?_
      rotate_left
      refine jx_iinc2 (pc := 45) d_Co_comersOn_45 rfl (Nat.le_of_ble_eq_true rfl) ?_
      refine jx_iinc3 (pc := 48) d_Co_comersOn_48 rfl (Nat.le_of_ble_eq_true rfl) ?_
      refine jx_goto (pc := 51) 12 d_Co_comersOn_51 (by decide) ?_
      rotate_left
      · have hno := z01.mp c42
        have hlt : ¬ q.1 < g_hn s := fun z => hno ⟨nI_pos' (by omega), by rw [h13]; exact nI_lt z (by omega)⟩
        rw [nI_add1]
        rw [show ([q].filter (fun q => decide (q.1 < g_hn s))) = [] by simp [hlt]] at h0
        exact h0
      · have hyes := z01n c42
        have hlt : q.1 < g_hn s := by
          have := hyes.2
          rw [h13] at this
          exact (nI_ltI (by omega) (by omega)).mp this
        rw [nI_add1, nI_add1]
        rw [show ([q].filter (fun q => decide (q.1 < g_hn s))) = [q] by simp [hlt]] at h0
        exact h0
  refine jx_iconst (pc := 0) (v := 0) d_Co_comersOn_0 (by decide) ?_
  refine jx_istore2 (pc := 1) d_Co_comersOn_1 rfl (Nat.le_of_ble_eq_true rfl) ?_
  refine jx_aload0 (pc := 2) d_Co_comersOn_2 ?_
  refine jx_getR (pc := 3) gf_Co_15 d_Co_comersOn_3 ad_15 sh_15 rfl ?_
  refine jx_getR (pc := 6) gf_Co_30 d_Co_comersOn_6 ad_4 sh_4 rfl ?_
  refine jx_iload1 (pc := 9) d_Co_comersOn_9 ?_
  refine jx_iald (pc := 10) d_Co_comersOn_10 ad_9 sh_9 (by first | assumption | exact vp_in_nI (by omega) (by omega)) ?_
  refine jx_istore3 (pc := 11) d_Co_comersOn_11 rfl (Nat.le_of_ble_eq_true rfl) ?_
  rotate_left
  rw [ed, hS0.1]
  exact loop (g_bs s day).length 0 (Nat.zero_add _)
theorem c_J_visitsThatCount {d : Nat} {s : Sg} {M : j_M} {Q : Option Value → j_M → Prop} (hw : WF s) (hR : RepC s M) (k : Q (some (.int (nI (vtS s 30)))) M) : j_Ct (d + 2) I_J_visitsThatCount [.ref 0] M Q := by
  refine j_met (by decide +kernel) co_J_visitsThatCount (Nat.le_of_ble_eq_true rfl) (fun X hX => ?_)
  show j_W (d + 2) I_J_visitsThatCount X 0 [some (.ref 0), none, none] [] M
  have hce := hR.ce hw
  have loop : ∀ (r i : Nat), i + r = 30 → j_W (d + 2) I_J_visitsThatCount X 4 [some (.ref 0), some (.int (nI (vtS s i))), some (.int (nI i))] [] M := by
    intro r
    induction r with
    | zero =>
      intro i hi
      refine jx_iload2 (pc := 4) d_J_visitsThatCount_4 ?_
      refine jx_bipush (pc := 5) (v := 30) d_J_visitsThatCount_5 (by decide) ?_
      refine jx_icmp_ge (pc := 7) 38 d_J_visitsThatCount_7 (by decide) (fun c7 => ?_) (fun c7 => absurd c7 (fun q => q (show nI 30 ≤ nI i from nI_le (by omega) (by omega))))
      refine jx_iload1 (pc := 38) d_J_visitsThatCount_38 ?_
      refine jx_iret (pc := 39) hX rfl d_J_visitsThatCount_39 ?_
      rotate_left
      rw [show i = 30 by omega]
      exact k
    | succ r ih =>
      intro i hi
      have h0 := ih (i + 1) (by omega)
      by_cases hs : (g_wy s 3).testBit i = true
      · rw [vtS, if_pos hs] at h0
        refine jx_iload2 (pc := 4) d_J_visitsThatCount_4 ?_
        refine jx_bipush (pc := 5) (v := 30) d_J_visitsThatCount_5 (by decide) ?_
        refine jx_icmp_ge (pc := 7) 38 d_J_visitsThatCount_7 (by decide) (fun c7 => absurd c7 (show ¬ nI 30 ≤ nI i from nI_ge (by omega) (by omega))) (fun c7 => ?_)
        refine jx_aload0 (pc := 10) d_J_visitsThatCount_10 ?_
        refine jx_getR (pc := 11) gf_J_40 d_J_visitsThatCount_11 ad_0 sh_0 rfl ?_
        refine jx_iload2 (pc := 14) d_J_visitsThatCount_14 ?_
        refine jx_callV1 (pc := 15) (d' := d + 1) vo_Co_isAwake lk_J_245 d_J_visitsThatCount_15 ad_15 sh_15 rfl (by omega) (Nat.le_of_ble_eq_true rfl) ?_
        refine c_Co_awake hce.2.2.1 hw.2.2.2.2.1 (by omega) ?_
        refine jx_r1 ?_
        refine jx_if_eq (pc := 18) 32 d_J_visitsThatCount_18 (by decide) (fun c18 => ?_) (fun c18 => absurd c18 (fun q => q (by rw [if_pos hs])))
        refine jx_iinc2 (pc := 32) d_J_visitsThatCount_32 rfl (Nat.le_of_ble_eq_true rfl) ?_
        refine jx_goto (pc := 35) 4 d_J_visitsThatCount_35 (by decide) ?_
        rotate_left
        rw [nI_add1]
        exact h0
      · rw [vtS, if_neg hs] at h0
        refine jx_iload2 (pc := 4) d_J_visitsThatCount_4 ?_
        refine jx_bipush (pc := 5) (v := 30) d_J_visitsThatCount_5 (by decide) ?_
        refine jx_icmp_ge (pc := 7) 38 d_J_visitsThatCount_7 (by decide) (fun c7 => absurd c7 (show ¬ nI 30 ≤ nI i from nI_ge (by omega) (by omega))) (fun c7 => ?_)
        refine jx_aload0 (pc := 10) d_J_visitsThatCount_10 ?_
        refine jx_getR (pc := 11) gf_J_40 d_J_visitsThatCount_11 ad_0 sh_0 rfl ?_
        refine jx_iload2 (pc := 14) d_J_visitsThatCount_14 ?_
        refine jx_callV1 (pc := 15) (d' := d + 1) vo_Co_isAwake lk_J_245 d_J_visitsThatCount_15 ad_15 sh_15 rfl (by omega) (Nat.le_of_ble_eq_true rfl) ?_
        refine c_Co_awake hce.2.2.1 hw.2.2.2.2.1 (by omega) ?_
        refine jx_r1 ?_
        refine jx_if_eq (pc := 18) 32 d_J_visitsThatCount_18 (by decide) (fun c18 => absurd c18 (by rw [if_neg hs]; decide)) (fun c18 => ?_)
        refine jx_iload1 (pc := 21) d_J_visitsThatCount_21 ?_
        refine jx_aload0 (pc := 22) d_J_visitsThatCount_22 ?_
        refine jx_getR (pc := 23) gf_J_40 d_J_visitsThatCount_23 ad_0 sh_0 rfl ?_
        refine jx_iload2 (pc := 26) d_J_visitsThatCount_26 ?_
        refine jx_callV1 (pc := 27) (d' := d + 1) vo_Co_comersOn lk_J_389 d_J_visitsThatCount_27 ad_15 sh_15 rfl (by omega) (Nat.le_of_ble_eq_true rfl) ?_
        refine c_Co_comersOn hw hce hR.1.2.1 (by omega) ?_
        refine jx_r1 ?_
        refine jx_iadd (pc := 30) d_J_visitsThatCount_30 ?_
        refine jx_istore1 (pc := 31) d_J_visitsThatCount_31 rfl (Nat.le_of_ble_eq_true rfl) ?_
        refine jx_iinc2 (pc := 32) d_J_visitsThatCount_32 rfl (Nat.le_of_ble_eq_true rfl) ?_
        refine jx_goto (pc := 35) 4 d_J_visitsThatCount_35 (by decide) ?_
        rotate_left
        rw [nI_add1, nI_add]
        exact h0
  refine jx_iconst (pc := 0) (v := 0) d_J_visitsThatCount_0 (by decide) ?_
  refine jx_istore1 (pc := 1) d_J_visitsThatCount_1 rfl (Nat.le_of_ble_eq_true rfl) ?_
  refine jx_iconst (pc := 2) (v := 0) d_J_visitsThatCount_2 (by decide) ?_
  refine jx_istore2 (pc := 3) d_J_visitsThatCount_3 rfl (Nat.le_of_ble_eq_true rfl) ?_
  rotate_left
  exact loop 30 0 (by omega)
def cntF (s : Sg) : Nat → Int32
  | 0 => nI (g_hn s)
  | 1 => nI (g_nb s)
  | 2 => nI (g_nv s)
  | 3 => nI (vtS s 30)
  | 4 => nI (g_ns s)
  | 5 => nI (g_wy s 0)
  | 6 => nI (g_wy s 1)
  | 7 => nI (g_wy s 3)
  | _ => g_fi s
def r_count (s : Sg) (w : Int32) : Int32 := if 0 ≤ w ∧ w < 9 then cntF s (cl w) else -2
theorem c_J_count {d : Nat} {w : Int32} {s : Sg} {M : j_M} {Q : Option Value → j_M → Prop} (hw : WF s) (hR : RepC s M) (k : Q (some (.int (r_count s w))) M) : j_Ct (d + 3) I_J_count [.ref 0, .int w] M Q := by
  refine j_met (by decide +kernel) co_J_count (Nat.le_of_ble_eq_true rfl) (fun X hX => ?_)
  show j_W (d + 3) I_J_count X 0 [some (.ref 0), some (.int w)] [] M
  refine jx_iload1 (pc := 0) d_J_count_0 ?_
  by_cases hb : 0 ≤ w ∧ w < 9
  · have hr : ∀ v, r_count s w = v → Q (some (.int v)) M := fun v hv => hv ▸ k
    obtain ⟨c, hc, rfl, ec⟩ := okd w 9 (by omega) hb
    have hrc : r_count s (nI c) = cntF s c := by unfold r_count; rw [if_pos hb, ec]
    have h9 : c = 0 ∨ c = 1 ∨ c = 2 ∨ c = 3 ∨ c = 4 ∨ c = 5 ∨ c = 6 ∨ c = 7 ∨ c = 8 := by omega
    rcases h9 with rfl | rfl | rfl | rfl | rfl | rfl | rfl | rfl | rfl
    · refine jx_tableIn (pc := 1) 52 d_J_count_1 (by decide) (by decide) (off := 51) (by decide) (by decide) ?_
      refine jx_aload0 (pc := 52) d_J_count_52 ?_
      refine jx_getR (pc := 53) gf_J_12 d_J_count_53 ad_0 sh_0 rfl ?_
      refine jx_getI (pc := 56) gf_J_169 d_J_count_56 ad_1 sh_1 rfl ?_
      refine jx_iret (pc := 59) hX rfl d_J_count_59 ?_
      rotate_left
      rw [hR.1.2.1]
      exact hr _ hrc
    · refine jx_tableIn (pc := 1) 60 d_J_count_1 (by decide) (by decide) (off := 59) (by decide) (by decide) ?_
      refine jx_aload0 (pc := 60) d_J_count_60 ?_
      refine jx_getR (pc := 61) gf_J_12 d_J_count_61 ad_0 sh_0 rfl ?_
      refine jx_getI (pc := 64) gf_J_88 d_J_count_64 ad_1 sh_1 rfl ?_
      refine jx_iret (pc := 67) hX rfl d_J_count_67 ?_
      rotate_left
      rw [hR.1.1]
      exact hr _ hrc
    · refine jx_tableIn (pc := 1) 68 d_J_count_1 (by decide) (by decide) (off := 67) (by decide) (by decide) ?_
      refine jx_aload0 (pc := 68) d_J_count_68 ?_
      refine jx_getR (pc := 69) gf_J_19 d_J_count_69 ad_0 sh_0 rfl ?_
      refine jx_getI (pc := 72) gf_J_120 d_J_count_72 ad_4 sh_4 rfl ?_
      refine jx_iret (pc := 75) hX rfl d_J_count_75 ?_
      rotate_left
      rw [hR.2.2.2.1.1]
      exact hr _ hrc
    · refine jx_tableIn (pc := 1) 76 d_J_count_1 (by decide) (by decide) (off := 75) (by decide) (by decide) ?_
      refine jx_aload0 (pc := 76) d_J_count_76 ?_
      refine jx_callV0 (pc := 77) (d' := d + 2) vo_J_visitsThatCount lk_J_297 d_J_count_77 ad_0 sh_0 rfl (by omega) (Nat.le_of_ble_eq_true rfl) ?_
      refine c_J_visitsThatCount hw hR ?_
      refine jx_r1 ?_
      refine jx_iret (pc := 80) hX rfl d_J_count_80 ?_
      rotate_left
      exact hr _ hrc
    · refine jx_tableIn (pc := 1) 81 d_J_count_1 (by decide) (by decide) (off := 80) (by decide) (by decide) ?_
      refine jx_aload0 (pc := 81) d_J_count_81 ?_
      refine jx_getR (pc := 82) gf_J_47 d_J_count_82 ad_0 sh_0 rfl ?_
      refine jx_getI (pc := 85) gf_J_202 d_J_count_85 ad_17 sh_17 rfl ?_
      refine jx_iret (pc := 88) hX rfl d_J_count_88 ?_
      rotate_left
      rw [hR.2.2.2.2.1.1]
      exact hr _ hrc
    · refine jx_tableIn (pc := 1) 89 d_J_count_1 (by decide) (by decide) (off := 88) (by decide) (by decide) ?_
      refine jx_aload0 (pc := 89) d_J_count_89 ?_
      refine jx_getR (pc := 90) gf_J_23 d_J_count_90 ad_0 sh_0 rfl ?_
      refine jx_iconst (pc := 93) (v := 0) d_J_count_93 (by decide) ?_
      refine jx_ialdK (pc := 94) 0 d_J_count_94 ad_10 sh_10 (by decide) (by unfold vp_in; decide) ?_
      refine jx_iret (pc := 95) hX rfl d_J_count_95 ?_
      rotate_left
      rw [(show M 10 0 = nI (g_wy s 0) from hR.2.2.1 0 (by omega))]
      exact hr _ hrc
    · refine jx_tableIn (pc := 1) 96 d_J_count_1 (by decide) (by decide) (off := 95) (by decide) (by decide) ?_
      refine jx_aload0 (pc := 96) d_J_count_96 ?_
      refine jx_getR (pc := 97) gf_J_23 d_J_count_97 ad_0 sh_0 rfl ?_
      refine jx_iconst (pc := 100) (v := 1) d_J_count_100 (by decide) ?_
      refine jx_ialdK (pc := 101) 1 d_J_count_101 ad_10 sh_10 (by decide) (by unfold vp_in; decide) ?_
      refine jx_iret (pc := 102) hX rfl d_J_count_102 ?_
      rotate_left
      rw [(show M 10 1 = nI (g_wy s 1) from hR.2.2.1 1 (by omega))]
      exact hr _ hrc
    · refine jx_tableIn (pc := 1) 103 d_J_count_1 (by decide) (by decide) (off := 102) (by decide) (by decide) ?_
      refine jx_aload0 (pc := 103) d_J_count_103 ?_
      refine jx_getR (pc := 104) gf_J_23 d_J_count_104 ad_0 sh_0 rfl ?_
      refine jx_iconst (pc := 107) (v := 3) d_J_count_107 (by decide) ?_
      refine jx_ialdK (pc := 108) 3 d_J_count_108 ad_10 sh_10 (by decide) (by unfold vp_in; decide) ?_
      refine jx_iret (pc := 109) hX rfl d_J_count_109 ?_
      rotate_left
      rw [(show M 10 3 = nI (g_wy s 3) from hR.2.2.1 3 (by omega))]
      exact hr _ hrc
    · refine jx_tableIn (pc := 1) 110 d_J_count_1 (by decide) (by decide) (off := 109) (by decide) (by decide) ?_
      refine jx_aload0 (pc := 110) d_J_count_110 ?_
      refine jx_getR (pc := 111) gf_J_77 d_J_count_111 ad_0 sh_0 rfl ?_
      refine jx_getI (pc := 114) gf_J_301 d_J_count_114 ad_23 sh_23 rfl ?_
      refine jx_iret (pc := 117) hX rfl d_J_count_117 ?_
      rotate_left
      rw [hR.2.2.2.2.2.2]
      exact hr _ hrc
  · have hr : r_count s w = -2 := by unfold r_count; rw [if_neg hb]
    rw [hr] at k
    refine jx_tableOut (pc := 1) 118 d_J_count_1 ?_ (by decide) ?_
    · simp only [fa_le, fa_lt, Int32.reduceToInt] at hb; omega
    refine jx_bipush (pc := 118) (v := (-2)) d_J_count_118 (by decide) ?_
    refine jx_iret (pc := 120) hX rfl d_J_count_120 ?_
    rotate_left
    exact k
