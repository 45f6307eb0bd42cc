/-! OPERATIONS of the reference, thirteen: weeks -/
theorem run_congr {e : En} {ts : Nat → Nat} {tr sl K : Nat} {bs bs' : Nat → List (Nat × Nat)} (h : ∀ k, k < K → bs k = bs' k) : ∀ k, k ≤ K → run e ts tr sl bs k = run e ts tr sl bs' k
  | 0, _ => rfl
  | k + 1, hk => by
    unfold run
    rw [run_congr h k (by omega), h k (by omega)]
theorem ixV_id (d : Nat) : ∀ n, ixV n (fun k => k) d = if d < n then [d] else []
  | 0 => by simp [ixV]
  | n + 1 => by
    rw [ixV_succ, ixV_id d n]
    by_cases h1 : d < n
    · rw [if_pos h1, if_neg (by omega), if_pos (by omega)]; rfl
    · rw [if_neg h1]
      by_cases h2 : n = d
      · rw [if_pos h2, if_pos (by omega), h2]; rfl
      · rw [if_neg h2, if_neg (by omega)]; rfl
theorem c_R_adds {d n day h t : Nat} {M : j_M} {Q : Option Value → j_M → Prop} (hn : n < 30) (h14 : M 79 14 = nI n) (k : ∀ M', M' 79 14 = nI (n + 1) → M' 86 = upd (M 86) n (nI day) → M' 87 = upd (M 87) n (nI h) → M' 88 = upd (M 88) n (nI t) → (∀ b, b ≠ 79 → b ≠ 86 → b ≠ 87 → b ≠ 88 → M' b = M b) → (∀ q, q ≠ 14 → M' 79 q = M 79 q) → Q none M') : j_Ct d I_R_adds [.ref 79, .int (nI day), .int (nI h), .int (nI t)] M Q := by
  refine j_met (by decide +kernel) co_R_adds (Nat.le_of_ble_eq_true rfl) (fun X hX => ?_)
  show j_W d I_R_adds X 0 [some (.ref 79), some (.int (nI day)), some (.int (nI h)), some (.int (nI t))] [] M
  have e1 : (nI n).toNatClampNeg = n := nI_cl (by omega)
  have hv : vp_in (M 79 14) 30 := by rw [h14]; exact vp_in_nI hn (by omega)
  refine jx_aload0 (pc := 0) d_R_adds_0 ?_
  refine jx_getR (pc := 1) gf_R_28 d_R_adds_1 ad_79 sh_79 rfl ?_
  refine jx_aload0 (pc := 4) d_R_adds_4 ?_
  refine jx_getI (pc := 5) gf_R_146 d_R_adds_5 ad_79 sh_79 rfl ?_
  refine jx_iload1 (pc := 8) d_R_adds_8 ?_
  refine jx_iast (pc := 9) d_R_adds_9 ad_86 sh_86 hv ?_
  refine jx_aload0 (pc := 10) d_R_adds_10 ?_
  refine jx_getR (pc := 11) gf_R_31 d_R_adds_11 ad_79 sh_79 rfl ?_
  refine jx_aload0 (pc := 14) d_R_adds_14 ?_
  refine jx_getI (pc := 15) gf_R_146 d_R_adds_15 ad_79 sh_79 rfl ?_
  refine jx_iload2 (pc := 18) d_R_adds_18 ?_
  refine jx_iast (pc := 19) d_R_adds_19 ad_87 sh_87 hv ?_
  refine jx_aload0 (pc := 20) d_R_adds_20 ?_
  refine jx_getR (pc := 21) gf_R_34 d_R_adds_21 ad_79 sh_79 rfl ?_
  refine jx_aload0 (pc := 24) d_R_adds_24 ?_
  refine jx_getI (pc := 25) gf_R_146 d_R_adds_25 ad_79 sh_79 rfl ?_
  refine jx_iload3 (pc := 28) d_R_adds_28 ?_
  refine jx_iast (pc := 29) d_R_adds_29 ad_88 sh_88 hv ?_
  refine jx_aload0 (pc := 30) d_R_adds_30 ?_
  refine jx_dupr (pc := 31) d_R_adds_31 ?_
  refine jx_getI (pc := 32) gf_R_146 d_R_adds_32 ad_79 sh_79 rfl ?_
  refine jx_iconst (pc := 35) (v := 1) d_R_adds_35 (by decide) ?_
  refine jx_iadd (pc := 36) d_R_adds_36 ?_
  refine jx_putI (pc := 37) pf_R_146 d_R_adds_37 ad_79 sh_79 rfl ?_
  refine jx_vret (pc := 40) hX rfl d_R_adds_40 ?_
  rotate_left
  simp only [j_set_n (b := 79) (a := 86) _ _ _ (by omega), j_set_n (b := 79) (a := 87) _ _ _ (by omega), j_set_n (b := 79) (a := 88) _ _ _ (by omega), h14, e1, nI_1]
  refine k _ (by simp [j_set_s, upd]) ?_ ?_ ?_ (fun b b1 b2 b3 b4 => by rw [j_set_n _ _ _ b1, j_set_n _ _ _ b4, j_set_n _ _ _ b3, j_set_n _ _ _ b2]) (fun q hq => ?_)
  · rw [j_set_n _ _ _ (by omega), j_set_n _ _ _ (by omega), j_set_n _ _ _ (by omega), j_set_s]
  · rw [j_set_n _ _ _ (by omega), j_set_n _ _ _ (by omega), j_set_s, j_set_n _ _ _ (by omega)]
  · rw [j_set_n _ _ _ (by omega), j_set_s, j_set_n _ _ _ (by omega), j_set_n _ _ _ (by omega)]
  · rw [j_set_s]; unfold upd; rw [if_neg hq, j_set_n _ _ _ (by omega), j_set_n _ _ _ (by omega), j_set_n _ _ _ (by omega)]
theorem c_R_weeksOf {d c : Nat} {x h : Int32} {s : Sg} {M : j_M} {Q : Option Value → j_M → Prop} (hw : WF s) (hR : RepR s M) (hc1 : 1 ≤ c) (hc : c ≤ 30) (hu : h = em (unem h) ∧ unem h < 10) (k : ∀ M', ScrR M M' → RdR s M' → Q (some (.int (if h = -1 then em (fdW s x (c - 1)) else nI (cnW s x (unem h) c)))) M') : j_Ct (d + 3) I_R_weeksOf [.ref 79, .int x, .int (nI c), .int h] M Q := by
  refine j_met (by decide +kernel) co_R_weeksOf (Nat.le_of_ble_eq_true rfl) (fun X hX => ?_)
  show j_W (d + 3) I_R_weeksOf X 0 [some (.ref 79), some (.int x), some (.int (nI c)), some (.int h), none, none, none] [] M
  have hn6 : g_hn s ≤ 6 := hnB_le hw.1
  have ecm : nI c - 1 = nI (c - 1) := nI_sub (b := 1) hc1
  have last : ∀ (M3 : j_M) (e4 : Int32), ScrR M M3 → RdR s M3 → (∀ q, q < c → M3 91 q = em (fdW s x q)) → ∀ (r i : Nat), i + r = c → j_W (d + 3) I_R_weeksOf X 98 [some (.ref 79), some (.int x), some (.int (nI c)), some (.int h), some (.int e4), some (.int (nI (cnW s x (unem h) i))), some (.int (nI i))] [] M3 := by
    intro M3 e4 hS hr3 hf r
    induction r with
    | zero =>
      intro i hi
      have hi' : i = c := by omega
      subst hi'
      by_cases hm : h = -1
      · rw [if_pos hm] at k
        refine jx_iload6 (pc := 98) d_R_weeksOf_98 ?_
        refine jx_iload2 (pc := 100) d_R_weeksOf_100 ?_
        refine jx_icmp_ge (pc := 101) 131 d_R_weeksOf_101 (by decide) (fun c101 => ?_) (fun c101 => absurd c101 (fun q => q (Int32.le_refl _)))
        refine jx_iload3 (pc := 131) d_R_weeksOf_131 ?_
        refine jx_iconst (pc := 132) (v := (-1)) d_R_weeksOf_132 (by decide) ?_
        refine jx_icmp_ne (pc := 133) 147 d_R_weeksOf_133 (by decide) (fun c133 => absurd c133 (fun q => q hm)) (fun c133 => ?_)
        refine jx_aload0 (pc := 136) d_R_weeksOf_136 ?_
        refine jx_getR (pc := 137) gf_R_43 d_R_weeksOf_137 ad_79 sh_79 rfl ?_
        refine jx_iload2 (pc := 140) d_R_weeksOf_140 ?_
        refine jx_iconst (pc := 141) (v := 1) d_R_weeksOf_141 (by decide) ?_
        refine jx_isub (pc := 142) d_R_weeksOf_142 ?_
        refine jx_iald (pc := 143) d_R_weeksOf_143 ad_91 sh_91 (by rw [ecm]; exact vp_in_nI (by omega) (by omega)) ?_
        refine jx_goto (pc := 144) 149 d_R_weeksOf_144 (by decide) ?_
        refine jx_iret (pc := 149) hX rfl d_R_weeksOf_149 ?_
        rotate_left
        rw [ecm, nI_cl (n := i - 1) (by omega), hf (i - 1) (by omega)]
        exact k M3 hS hr3
      · rw [if_neg hm] at k
        refine jx_iload6 (pc := 98) d_R_weeksOf_98 ?_
        refine jx_iload2 (pc := 100) d_R_weeksOf_100 ?_
        refine jx_icmp_ge (pc := 101) 131 d_R_weeksOf_101 (by decide) (fun c101 => ?_) (fun c101 => absurd c101 (fun q => q (Int32.le_refl _)))
        refine jx_iload3 (pc := 131) d_R_weeksOf_131 ?_
        refine jx_iconst (pc := 132) (v := (-1)) d_R_weeksOf_132 (by decide) ?_
        refine jx_icmp_ne (pc := 133) 147 d_R_weeksOf_133 (by decide) (fun c133 => ?_) (fun c133 => absurd c133 hm)
        refine jx_iload5 (pc := 147) d_R_weeksOf_147 ?_
        refine jx_iret (pc := 149) hX rfl d_R_weeksOf_149 ?_
        rotate_left
        exact k M3 hS hr3
    | succ r ih =>
      intro i hi
      have h9 := ih (i + 1) (by omega)
      rw [cnW] at h9
      have e1 : (nI i).toNatClampNeg = i := nI_cl (by omega)
      have hlt := fdW_lt hw x (show i < 30 by omega)
      have hfd : M3 91 (nI i).toNatClampNeg = em (fdW s x i) := by rw [e1]; exact hf i (by omega)
      by_cases hq : fdW s x i = unem h
      · rw [if_pos hq] at h9
        refine jx_iload6 (pc := 98) d_R_weeksOf_98 ?_
        refine jx_iload2 (pc := 100) d_R_weeksOf_100 ?_
        refine jx_icmp_ge (pc := 101) 131 d_R_weeksOf_101 (by decide) (fun c101 => absurd c101 (nI_ge (by omega) (by omega))) (fun c101 => ?_)
        refine jx_iload5 (pc := 104) d_R_weeksOf_104 ?_
        refine jx_aload0 (pc := 106) d_R_weeksOf_106 ?_
        refine jx_getR (pc := 107) gf_R_43 d_R_weeksOf_107 ad_79 sh_79 rfl ?_
        refine jx_iload6 (pc := 110) d_R_weeksOf_110 ?_
        refine jx_iald (pc := 112) d_R_weeksOf_112 ad_91 sh_91 (vp_in_nI (show i < 30 by omega) (by omega)) ?_
        refine jx_iload3 (pc := 113) d_R_weeksOf_113 ?_
        refine jx_icmp_ne (pc := 114) 121 d_R_weeksOf_114 (by decide) (fun c114 => absurd c114 (fun q => q (by rw [hfd, hq]; exact hu.1.symm))) (fun c114 => ?_)
        refine jx_iconst (pc := 117) (v := 1) d_R_weeksOf_117 (by decide) ?_
        refine jx_goto (pc := 118) 122 d_R_weeksOf_118 (by decide) ?_
        refine jx_iadd (pc := 122) d_R_weeksOf_122 ?_
        refine jx_istore5 (pc := 123) d_R_weeksOf_123 rfl (Nat.le_of_ble_eq_true rfl) ?_
        refine jx_iinc6 (pc := 125) d_R_weeksOf_125 rfl (Nat.le_of_ble_eq_true rfl) ?_
        refine jx_goto (pc := 128) 98 d_R_weeksOf_128 (by decide) ?_
        rotate_left
        rw [nI_add1, nI_1]
        exact h9
      · rw [if_neg hq] at h9
        refine jx_iload6 (pc := 98) d_R_weeksOf_98 ?_
        refine jx_iload2 (pc := 100) d_R_weeksOf_100 ?_
        refine jx_icmp_ge (pc := 101) 131 d_R_weeksOf_101 (by decide) (fun c101 => absurd c101 (nI_ge (by omega) (by omega))) (fun c101 => ?_)
        refine jx_iload5 (pc := 104) d_R_weeksOf_104 ?_
        refine jx_aload0 (pc := 106) d_R_weeksOf_106 ?_
        refine jx_getR (pc := 107) gf_R_43 d_R_weeksOf_107 ad_79 sh_79 rfl ?_
        refine jx_iload6 (pc := 110) d_R_weeksOf_110 ?_
        refine jx_iald (pc := 112) d_R_weeksOf_112 ad_91 sh_91 (vp_in_nI (show i < 30 by omega) (by omega)) ?_
        refine jx_iload3 (pc := 113) d_R_weeksOf_113 ?_
        refine jx_icmp_ne (pc := 114) 121 d_R_weeksOf_114 (by decide) (fun c114 => ?_) (fun c114 => absurd c114 (fun q => hq (by rw [hfd, hu.1] at q; exact (em_inj (by omega) (by have := hu.2; omega)).mp q)))
        refine jx_iconst (pc := 121) (v := 0) d_R_weeksOf_121 (by decide) ?_
        refine jx_iadd (pc := 122) d_R_weeksOf_122 ?_
        refine jx_istore5 (pc := 123) d_R_weeksOf_123 rfl (Nat.le_of_ble_eq_true rfl) ?_
        refine jx_iinc6 (pc := 125) d_R_weeksOf_125 rfl (Nat.le_of_ble_eq_true rfl) ?_
        refine jx_goto (pc := 128) 98 d_R_weeksOf_128 (by decide) ?_
        rotate_left
        rw [nI_add1, show nI (cnW s x (unem h) i) + 0 = nI (cnW s x (unem h) i + 0) from nI_add _ 0]
        exact h9
  refine jx_aload0 (pc := 0) d_R_weeksOf_0 ?_
  refine jx_callV0 (pc := 1) (d' := d + 2) vo_R_reads lk_R_109 d_R_weeksOf_1 ad_79 sh_79 rfl (by omega) (Nat.le_of_ble_eq_true rfl) ?_
  refine c_R_reads hw hR (fun M1 hr1 hO1 => ?_)
  refine jx_r0 ?_
  refine jx_aload0 (pc := 4) d_R_weeksOf_4 ?_
  refine jx_callV0 (pc := 5) (d' := 0) vo_R_asTold lk_R_172 d_R_weeksOf_5 ad_79 sh_79 rfl (by omega) (Nat.le_of_ble_eq_true rfl) ?_
  refine c_R_asTold (hR.offF hO1).v (fun M2 h14 h18 h19 hb hq => ?_)
  refine jx_r0 ?_
  refine jx_iload1 (pc := 8) d_R_weeksOf_8 ?_
  refine jx_istore4 (pc := 9) d_R_weeksOf_9 rfl (Nat.le_of_ble_eq_true rfl) ?_
  refine jx_iconst (pc := 11) (v := 0) d_R_weeksOf_11 (by decide) ?_
  refine jx_istore5 (pc := 12) d_R_weeksOf_12 rfl (Nat.le_of_ble_eq_true rfl) ?_
  rotate_left
  have hr2 : RdR s M2 := hr1.of (hq 2 (by omega) (by omega) (by omega)) (hb 81 (by omega))
  have hS2 : ScrR M M2 := (ScrR.offF hO1).tr ⟨fun b g => hb b (by unfold PR at g; omega), fun q g => hq q (by unfold P79 at g; omega) (by unfold P79 at g; omega) (by unfold P79 at g; omega)⟩
  have hR2 := hS2.rep hR
  have afterRuns : ∀ (N : Nat) (M3 : j_M) (e4 : Int32) (e5 : Int32) (e6 : Option Value), (N = if g_hn s = 0 then 0 else c) → (∀ b, b ≠ 79 → b ≠ 86 → b ≠ 87 → b ≠ 88 → M3 b = M2 b) → (∀ q, q ≠ 14 → M3 79 q = M2 79 q) → M3 79 14 = nI N → (∀ q, q < N → M3 86 q = nI q ∧ M3 87 q = nI (whoW s x q) ∧ M3 88 q = nI (thgW x q)) → j_W (d + 3) I_R_weeksOf X 84 [some (.ref 79), some (.int x), some (.int (nI c)), some (.int h), some (.int e4), some (.int e5), e6] [] M3 := by
    intro N M3 e4 e5 e6 hN gb gq g14 gN
    have hV3 : RepV s M3 := hR2.v.of (fun q h1 h2 => gq q (by omega)) (fun b h1 h2 => gb b (by omega) (by omega) (by omega) (by omega))
    have hr3 : RdR s M3 := hr2.of (gq 2 (by omega)) (gb 81 (by omega) (by omega) (by omega) (by omega))
    have hN0 : N ≤ 30 := by rw [hN]; split <;> omega
    have hE : ER (g_en s) 0 (g_ta s 0) 9 (g_wy s 3) (g_V s) (N, fun q => q, whoW s x, thgW x) M3 := er_of hw hV3 hr3 (hw.2.2.1 0) (fun t ht => by rw [gb 82 (by omega) (by omega) (by omega) (by omega)]; exact hR2.2.1 0 t (by omega) ht) (by rw [gq 18 (by omega)]; exact h18) hw.2.2.2.2.1 (by rw [gq 19 (by omega)]; exact h19) ⟨g14, hN0, fun q hq2 => by
      have hq3 : q < N := hq2
      have hne : g_hn s ≠ 0 := fun z => by rw [hN, if_pos z] at hq3; omega
      have a1 : whoW s x q < g_hn s := Nat.mod_lt _ (by omega)
      have a2 : thgW x q < 3 := Nat.mod_lt _ (by omega)
      exact ⟨(gN q hq3).1, (gN q hq3).2.1, (gN q hq3).2.2, by show q < 30; omega, by show whoW s x q < 6; omega, a2⟩⟩
    have hbs : ∀ q, q < c → bsR (g_V s) (N, fun q => q, whoW s x, thgW x) q = wkB s x q := by
      intro q hqc
      unfold bsR wkB
      rw [show dl (g_V s) q = g_bs s q from rfl]
      congr 1
      show (ixV N (fun q => q) q).map _ = _
      rw [ixV_id]
      by_cases h0 : g_hn s = 0
      · rw [if_neg (show ¬ 0 < g_hn s by omega), hN, if_pos h0, if_neg (by omega)]; rfl
      · rw [if_pos (show 0 < g_hn s by omega), hN, if_neg h0, if_pos hqc]; rfl
    have hlast : c - 1 < 30 := by omega
    refine jx_aload0 (pc := 84) d_R_weeksOf_84 ?_
    refine jx_iconst (pc := 85) (v := 0) d_R_weeksOf_85 (by decide) ?_
    refine jx_iload2 (pc := 86) d_R_weeksOf_86 ?_
    refine jx_iconst (pc := 87) (v := 1) d_R_weeksOf_87 (by decide) ?_
    refine jx_isub (pc := 88) d_R_weeksOf_88 ?_
    refine jx_callV2 (pc := 89) (d' := d + 2) vo_R_runs lk_R_175 d_R_weeksOf_89 ad_79 sh_79 rfl (by omega) (Nat.le_of_ble_eq_true rfl) ?_
    rw [ecm]
    refine c_R_runs (dog := 0) (by omega) hlast hE (Or.inr rfl) (fun M4 h91 h89 hO4 => ?_)
    refine jx_r0 ?_
    refine jx_iconst (pc := 92) (v := 0) d_R_weeksOf_92 (by decide) ?_
    refine jx_istore5 (pc := 93) d_R_weeksOf_93 rfl (Nat.le_of_ble_eq_true rfl) ?_
    refine jx_iconst (pc := 95) (v := 0) d_R_weeksOf_95 (by decide) ?_
    refine jx_istore6 (pc := 96) d_R_weeksOf_96 rfl (Nat.le_of_ble_eq_true rfl) ?_
    rotate_left
    refine last M4 e4 ?_ (hr3.of (hO4.2 2 (by omega) (by omega)) (hO4.1 81 (by omega) (by omega) (by omega) (by omega))) (fun q hqc => ?_) c 0 (by omega)
    · exact (hS2.tr (M2 := M3) ⟨fun b g => gb b (by unfold PR at g; omega) (by unfold PR at g; omega) (by unfold PR at g; omega) (by unfold PR at g; omega), fun q g => gq q (by unfold P79 at g; omega)⟩).tr (ScrR.offR hO4)
    · rw [h91 q (by omega), run_congr hbs (q + 1) (by omega)]; rfl
  have loop : ∀ (r i : Nat) (M3 : j_M) (e6 : Option Value), 0 < g_hn s → i + r = c → (∀ b, b ≠ 79 → b ≠ 86 → b ≠ 87 → b ≠ 88 → M3 b = M2 b) → (∀ q, q ≠ 14 → M3 79 q = M2 79 q) → M3 79 14 = nI i → (∀ q, q < i → M3 86 q = nI q ∧ M3 87 q = nI (whoW s x q) ∧ M3 88 q = nI (thgW x q)) → j_W (d + 3) I_R_weeksOf X 14 [some (.ref 79), some (.int x), some (.int (nI c)), some (.int h), some (.int (lotW x i)), some (.int (nI i)), e6] [] M3 := by
    intro r
    induction r with
    | zero =>
      intro i M3 e6 h0 hi gb gq g14 gN
      have hi' : i = c := by omega
      subst hi'
      refine jx_iload5 (pc := 14) d_R_weeksOf_14 ?_
      refine jx_iload2 (pc := 16) d_R_weeksOf_16 ?_
      refine jx_icmp_ge (pc := 17) 84 d_R_weeksOf_17 (by decide) (fun c17 => ?_) (fun c17 => absurd c17 (fun q => q (Int32.le_refl _)))
      rotate_left
      exact afterRuns i M3 _ _ _ (by rw [if_neg (by omega)]) gb gq g14 gN
    | succ r ih =>
      intro i M3 e6 h0 hi gb gq g14 gN
      have h2 : M3 79 2 = nI (g_hn s) := by rw [gq 2 (by omega)]; exact hr2.1
      have hgt : ¬ M3 79 2 ≤ 0 := by rw [h2]; exact nI_ge (a := 0) (by omega) (by omega)
      have hnz : ¬ M3 79 2 = 0 := fun z => hgt (by rw [z]; exact Int32.le_refl _)
      have hl : (1103515245 : Int32) * (1103515245 * lotW x i + 12345) + 12345 = lotW x (i + 1) := rfl
      have r1 : ((1103515245 : Int32) * lotW x i + 12345).toUInt32 >>> (Int32.toUInt32 16 &&& Int32.toUInt32 31) |>.toInt32 |> fun y => y - y / nI (g_hn s) * nI (g_hn s) = nI (whoW s x i) := by
        show ((nxt (lotW x i)).toUInt32 >>> (Int32.toUInt32 16 &&& Int32.toUInt32 31)).toInt32 - ((nxt (lotW x i)).toUInt32 >>> (Int32.toUInt32 16 &&& Int32.toUInt32 31)).toInt32 / nI (g_hn s) * nI (g_hn s) = nI (whoW s x i)
        rw [hi_eq]
        exact pk_rem (d := g_hn s) (by have := hi_lt (nxt (lotW x i)); omega) (by omega) (by omega)
      have r2 : (lotW x (i + 1)).toUInt32 >>> (Int32.toUInt32 16 &&& Int32.toUInt32 31) |>.toInt32 |> fun y => y - y / 3 * 3 = nI (thgW x i) := by
        show ((nxt (nxt (lotW x i))).toUInt32 >>> (Int32.toUInt32 16 &&& Int32.toUInt32 31)).toInt32 - ((nxt (nxt (lotW x i))).toUInt32 >>> (Int32.toUInt32 16 &&& Int32.toUInt32 31)).toInt32 / 3 * 3 = nI (thgW x i)
        rw [hi_eq]
        exact pk_rem (d := 3) (by have := hi_lt (nxt (nxt (lotW x i))); omega) (by omega) (by omega)
      refine jx_iload5 (pc := 14) d_R_weeksOf_14 ?_
      refine jx_iload2 (pc := 16) d_R_weeksOf_16 ?_
      refine jx_icmp_ge (pc := 17) 84 d_R_weeksOf_17 (by decide) (fun c17 => absurd c17 (nI_ge (by omega) (by omega))) (fun c17 => ?_)
      refine jx_aload0 (pc := 20) d_R_weeksOf_20 ?_
      refine jx_getI (pc := 21) gf_R_102 d_R_weeksOf_21 ad_79 sh_79 rfl ?_
      refine jx_if_le (pc := 24) 84 d_R_weeksOf_24 (by decide) (fun c24 => absurd c24 hgt) (fun c24 => ?_)
      refine jx_ldcw (pc := 27) d_R_weeksOf_27 lc_R_285 ?_
      refine jx_iload4 (pc := 30) d_R_weeksOf_30 ?_
      refine jx_imul (pc := 32) d_R_weeksOf_32 ?_
      refine jx_sipush (pc := 33) (v := 12345) d_R_weeksOf_33 (by decide) ?_
      refine jx_iadd (pc := 36) d_R_weeksOf_36 ?_
      refine jx_istore4 (pc := 37) d_R_weeksOf_37 rfl (Nat.le_of_ble_eq_true rfl) ?_
      refine jx_iload4 (pc := 39) d_R_weeksOf_39 ?_
      refine jx_bipush (pc := 41) (v := 16) d_R_weeksOf_41 (by decide) ?_
      refine jx_iushr (pc := 43) d_R_weeksOf_43 ?_
      refine jx_aload0 (pc := 44) d_R_weeksOf_44 ?_
      refine jx_getI (pc := 45) gf_R_102 d_R_weeksOf_45 ad_79 sh_79 rfl ?_
      refine jx_irem (pc := 48) d_R_weeksOf_48 hnz ?_
      refine jx_istore6 (pc := 49) d_R_weeksOf_49 rfl (Nat.le_of_ble_eq_true rfl) ?_
      refine jx_ldcw (pc := 51) d_R_weeksOf_51 lc_R_285 ?_
      refine jx_iload4 (pc := 54) d_R_weeksOf_54 ?_
      refine jx_imul (pc := 56) d_R_weeksOf_56 ?_
      refine jx_sipush (pc := 57) (v := 12345) d_R_weeksOf_57 (by decide) ?_
      refine jx_iadd (pc := 60) d_R_weeksOf_60 ?_
      refine jx_istore4 (pc := 61) d_R_weeksOf_61 rfl (Nat.le_of_ble_eq_true rfl) ?_
      refine jx_aload0 (pc := 63) d_R_weeksOf_63 ?_
      refine jx_iload5 (pc := 64) d_R_weeksOf_64 ?_
      refine jx_iload6 (pc := 66) d_R_weeksOf_66 ?_
      refine jx_iload4 (pc := 68) d_R_weeksOf_68 ?_
      refine jx_bipush (pc := 70) (v := 16) d_R_weeksOf_70 (by decide) ?_
      refine jx_iushr (pc := 72) d_R_weeksOf_72 ?_
      refine jx_iconst (pc := 73) (v := 3) d_R_weeksOf_73 (by decide) ?_
      refine jx_irem (pc := 74) d_R_weeksOf_74 (by decide) ?_
      refine jx_callV3 (pc := 75) (d' := 0) vo_R_adds lk_R_216 d_R_weeksOf_75 ad_79 sh_79 rfl (by omega) (Nat.le_of_ble_eq_true rfl) ?_
      rw [hl, h2, r1, r2]
      refine c_R_adds (n := i) (by omega) g14 (fun M4 q14 q86 q87 q88 qb qq => ?_)
      refine jx_r0 ?_
      refine jx_iinc5 (pc := 78) d_R_weeksOf_78 rfl (Nat.le_of_ble_eq_true rfl) ?_
      refine jx_goto (pc := 81) 14 d_R_weeksOf_81 (by decide) ?_
      rotate_left
      rw [nI_add1]
      refine ih (i + 1) M4 _ h0 (by omega) (fun b b1 b2 b3 b4 => by rw [qb b b1 b2 b3 b4]; exact gb b b1 b2 b3 b4) (fun q hq2 => by rw [qq q hq2]; exact gq q hq2) q14 (fun q hq2 => ?_)
      rw [q86, q87, q88]
      unfold upd
      by_cases hc2 : q = i
      · rw [if_pos hc2, if_pos hc2, if_pos hc2, hc2]; exact ⟨rfl, rfl, rfl⟩
      · rw [if_neg hc2, if_neg hc2, if_neg hc2]; exact gN q (by omega)
  by_cases h0 : g_hn s = 0
  · have hle : M2 79 2 ≤ 0 := by rw [hr2.1, h0]; exact Int32.le_refl _
    refine jx_iload5 (pc := 14) d_R_weeksOf_14 ?_
    refine jx_iload2 (pc := 16) d_R_weeksOf_16 ?_
    refine jx_icmp_ge (pc := 17) 84 d_R_weeksOf_17 (by decide) (fun c17 => absurd c17 (show ¬ nI c ≤ nI 0 from nI_ge (by omega) (by omega))) (fun c17 => ?_)
    refine jx_aload0 (pc := 20) d_R_weeksOf_20 ?_
    refine jx_getI (pc := 21) gf_R_102 d_R_weeksOf_21 ad_79 sh_79 rfl ?_
    refine jx_if_le (pc := 24) 84 d_R_weeksOf_24 (by decide) (fun c24 => ?_) (fun c24 => absurd c24 (fun q => q hle))
    rotate_left
    exact afterRuns 0 M2 _ _ _ (by rw [if_pos h0]) (fun _ _ _ _ _ => rfl) (fun _ _ => rfl) h14 (fun q hq2 => absurd hq2 (by omega))
  · exact loop c 0 M2 _ (by omega) (by omega) (fun _ _ _ _ _ => rfl) (fun _ _ => rfl) h14 (fun q hq2 => absurd hq2 (by omega))
theorem c_R_weeks {d : Nat} {x n h : Int32} {s : Sg} {M : j_M} {Q : Option Value → j_M → Prop} (hw : WF s) (hR : RepR s M) (k : ∀ M', ScrR M M' → Q (some (.int (r_weeks s x n h))) M') : j_Ct (d + 4) I_R_weeks [.ref 79, .int x, .int n, .int h] M Q := by
  refine j_met (by decide +kernel) co_R_weeks (Nat.le_of_ble_eq_true rfl) (fun X hX => ?_)
  show j_W (d + 4) I_R_weeks X 0 [some (.ref 79), some (.int x), some (.int n), some (.int h)] [] M
  have hn6 : g_hn s ≤ 6 := hnB_le hw.1
  by_cases hb : okWee s n h
  · obtain ⟨⟨g1, g2⟩, g3⟩ := id hb
    have g12 : 1 ≤ n ∧ n ≤ 30 := ⟨g1, g2⟩
    obtain ⟨c, hc, rfl⟩ := le_of (n := 30) (by omega) (show 0 ≤ n by rw [fa_le] at g1 ⊢; simp only [Int32.reduceToInt] at *; omega) g2
    have hc1 : 1 ≤ c := (nI_leI (a := 1) (by omega) (by omega)).mp g1
    have ec : cl (nI c) = c := nI_cl (by omega)
    have hu : h = em (unem h) ∧ unem h < 10 := by
      unfold unem
      by_cases hm : h = -1
      · rw [if_pos hm]; exact ⟨hm, by omega⟩
      · rw [if_neg hm]
        obtain ⟨j, hj, rfl, ej⟩ := okd h _ (by omega) (g3.resolve_left hm)
        rw [ej]
        exact ⟨(em_lt (by omega)).symm, by omega⟩
    have hr : r_weeks s x (nI c) h = if h = -1 then em (fdW s x (c - 1)) else nI (cnW s x (unem h) c) := by
      unfold r_weeks
      rw [if_pos hb, ec]
      by_cases hm : h = -1
      · rw [if_pos hm, if_pos hm]
      · rw [if_neg hm, if_neg hm, show unem h = cl h by unfold unem; rw [if_neg hm]]
    rw [hr] at k
    by_cases hm : h = -1
    · -- nobody is asked for
      refine jx_iload2 (pc := 0) d_R_weeks_0 ?_
      refine jx_iconst (pc := 1) (v := 1) d_R_weeks_1 (by decide) ?_
      refine jx_bipush (pc := 2) (v := 30) d_R_weeks_2 (by decide) ?_
      refine jx_callS3 (pc := 4) (d' := 0) so_R_in lk_R_95 d_R_weeks_4 (by omega) (Nat.le_of_ble_eq_true rfl) ?_
      refine c_R_in ?_
      refine jx_r1 ?_
      refine jx_if_eq (pc := 7) 33 d_R_weeks_7 (by decide) (fun c7 => absurd c7 (z01p g12)) (fun c7 => ?_)
      refine jx_iload3 (pc := 10) d_R_weeks_10 ?_
      refine jx_iconst (pc := 11) (v := (-1)) d_R_weeks_11 (by decide) ?_
      refine jx_icmp_eq (pc := 12) 23 d_R_weeks_12 (by decide) (fun c12 => ?_) (fun c12 => absurd c12 (fun q => q hm))
      refine jx_aload0 (pc := 23) d_R_weeks_23 ?_
      refine jx_iload1 (pc := 24) d_R_weeks_24 ?_
      refine jx_iload2 (pc := 25) d_R_weeks_25 ?_
      refine jx_iload3 (pc := 26) d_R_weeks_26 ?_
      refine jx_callV3 (pc := 27) (d' := d + 3) vo_R_weeksOf lk_R_286 d_R_weeks_27 ad_79 sh_79 rfl (by omega) (Nat.le_of_ble_eq_true rfl) ?_
      refine c_R_weeksOf hw hR hc1 hc hu (fun M3 hS3 hr3 => ?_)
      refine jx_r1 ?_
      refine jx_goto (pc := 30) 35 d_R_weeks_30 (by decide) ?_
      refine jx_iret (pc := 35) hX rfl d_R_weeks_35 ?_
      rotate_left
      exact k M3 hS3
    · have g3' := g3.resolve_left hm
      refine jx_iload2 (pc := 0) d_R_weeks_0 ?_
      refine jx_iconst (pc := 1) (v := 1) d_R_weeks_1 (by decide) ?_
      refine jx_bipush (pc := 2) (v := 30) d_R_weeks_2 (by decide) ?_
      refine jx_callS3 (pc := 4) (d' := 0) so_R_in lk_R_95 d_R_weeks_4 (by omega) (Nat.le_of_ble_eq_true rfl) ?_
      refine c_R_in ?_
      refine jx_r1 ?_
      refine jx_if_eq (pc := 7) 33 d_R_weeks_7 (by decide) (fun c7 => absurd c7 (z01p g12)) (fun c7 => ?_)
      refine jx_iload3 (pc := 10) d_R_weeks_10 ?_
      refine jx_iconst (pc := 11) (v := (-1)) d_R_weeks_11 (by decide) ?_
      refine jx_icmp_eq (pc := 12) 23 d_R_weeks_12 (by decide) (fun c12 => absurd c12 hm) (fun c12 => ?_)
      refine jx_aload0 (pc := 15) d_R_weeks_15 ?_
      refine jx_iload3 (pc := 16) d_R_weeks_16 ?_
      refine jx_callV1 (pc := 17) (d' := d + 3) vo_R_isHeir lk_R_112 d_R_weeks_17 ad_79 sh_79 rfl (by omega) (Nat.le_of_ble_eq_true rfl) ?_
      refine c_R_isHeir hw hR (fun M2 hr2 hO2 => ?_)
      refine jx_r1 ?_
      refine jx_if_eq (pc := 20) 33 d_R_weeks_20 (by decide) (fun c20 => absurd c20 (z01p g3')) (fun c20 => ?_)
      refine jx_aload0 (pc := 23) d_R_weeks_23 ?_
      refine jx_iload1 (pc := 24) d_R_weeks_24 ?_
      refine jx_iload2 (pc := 25) d_R_weeks_25 ?_
      refine jx_iload3 (pc := 26) d_R_weeks_26 ?_
      refine jx_callV3 (pc := 27) (d' := d + 3) vo_R_weeksOf lk_R_286 d_R_weeks_27 ad_79 sh_79 rfl (by omega) (Nat.le_of_ble_eq_true rfl) ?_
      refine c_R_weeksOf hw (hR.offF hO2) hc1 hc hu (fun M3 hS3 hr3 => ?_)
      refine jx_r1 ?_
      refine jx_goto (pc := 30) 35 d_R_weeks_30 (by decide) ?_
      refine jx_iret (pc := 35) hX rfl d_R_weeks_35 ?_
      rotate_left
      exact k M3 ((ScrR.offF hO2).tr hS3)
  · have hr : r_weeks s x n h = -2 := by unfold r_weeks; rw [if_neg hb]
    rw [hr] at k
    refine jx_iload2 (pc := 0) d_R_weeks_0 ?_
    refine jx_iconst (pc := 1) (v := 1) d_R_weeks_1 (by decide) ?_
    refine jx_bipush (pc := 2) (v := 30) d_R_weeks_2 (by decide) ?_
    refine jx_callS3 (pc := 4) (d' := 0) so_R_in lk_R_95 d_R_weeks_4 (by omega) (Nat.le_of_ble_eq_true rfl) ?_
    refine c_R_in ?_
    refine jx_r1 ?_
    refine jx_if_eq (pc := 7) 33 d_R_weeks_7 (by decide) (fun c7 => ?_) (fun c7 => ?_)
    refine jx_bipush (pc := 33) (v := (-2)) d_R_weeks_33 (by decide) ?_
    refine jx_iret (pc := 35) hX rfl d_R_weeks_35 ?_
    rotate_left
    refine jx_iload3 (pc := 10) d_R_weeks_10 ?_
    refine jx_iconst (pc := 11) (v := (-1)) d_R_weeks_11 (by decide) ?_
    refine jx_icmp_eq (pc := 12) 23 d_R_weeks_12 (by decide) (fun c12 => ?_) (fun c12 => ?_)
    rotate_left
    refine jx_aload0 (pc := 15) d_R_weeks_15 ?_
    refine jx_iload3 (pc := 16) d_R_weeks_16 ?_
    refine jx_callV1 (pc := 17) (d' := d + 3) vo_R_isHeir lk_R_112 d_R_weeks_17 ad_79 sh_79 rfl (by omega) (Nat.le_of_ble_eq_true rfl) ?_
    refine c_R_isHeir hw hR (fun M2 hr2 hO2 => ?_)
    refine jx_r1 ?_
    refine jx_if_eq (pc := 20) 33 d_R_weeks_20 (by decide) (fun c20 => ?_) (fun c20 => ?_)
    refine jx_bipush (pc := 33) (v := (-2)) d_R_weeks_33 (by decide) ?_
    refine jx_iret (pc := 35) hX rfl d_R_weeks_35 ?_
    rotate_left
    rotate_left
    · exact k M ScrR.rf
    · exact absurd ⟨z01n c7, Or.inl c12⟩ hb
    · exact k M2 (ScrR.offF hO2)
    · exact absurd ⟨z01n c7, Or.inr (z01n c20)⟩ hb
