/-! OPERATIONS of the reference, one -/
def PR (b : Nat) : Prop := b = 80 ∨ b = 82 ∨ (83 ≤ b ∧ b ≤ 85) ∨ b = 95 ∨ b = 96 ∨ (99 ≤ b ∧ b ≤ 102)
def P79 (k : Nat) : Prop := k = 1 ∨ (5 ≤ k ∧ k ≤ 10) ∨ k = 28 ∨ k = 40
/-- only working cells of the reference changed -/
def ScrR (M M' : j_M) : Prop := (∀ b, b < 79 ∨ PR b → M' b = M b) ∧ ∀ k, P79 k → M' 79 k = M 79 k
theorem ScrR.rf {M : j_M} : ScrR M M := ⟨fun _ _ => rfl, fun _ _ => rfl⟩
theorem ScrR.tr {M M1 M2 : j_M} (h : ScrR M M1) (h2 : ScrR M1 M2) : ScrR M M2 := ⟨fun b g => (h2.1 b g).trans (h.1 b g), fun k g => (h2.2 k g).trans (h.2 k g)⟩
theorem ScrR.lo {M M' : j_M} (h : ScrR M M') : Lo M M' := fun b hb => h.1 b (Or.inl hb)
theorem ScrR.offF {M M' : j_M} (h : OffF M M') : ScrR M M' := ⟨fun b g => h.1 b (by unfold PR at g; omega) (by unfold PR at g; omega), fun k g => h.2 k (by unfold P79 at g; omega)⟩
theorem ScrR.offR {M M' : j_M} (h : OffR M M') : ScrR M M' := ⟨fun b g => h.1 b (by unfold PR at g; omega) (by unfold PR at g; omega) (by unfold PR at g; omega) (by unfold PR at g; omega), fun k g => h.2 k (by unfold P79 at g; omega) (by unfold P79 at g; omega)⟩
theorem ScrR.s79 {M : j_M} {k : Nat} {x : Int32} (h : ¬ P79 k) : ScrR M (j_set M 79 k x) := ⟨fun b g => j_set_n _ _ _ (by unfold PR at g; omega), fun q g => by rw [j_set_s]; unfold upd; rw [if_neg (show ¬ q = k from fun z => h (z ▸ g))]⟩
theorem ScrR.arr {M : j_M} {a k : Nat} {x : Int32} (h : 80 ≤ a ∧ ¬ PR a) : ScrR M (j_set M a k x) := ⟨fun b g => j_set_n _ _ _ (by intro z; subst z; rcases g with g | g; omega; exact h.2 g), fun q g => by rw [j_set_n _ _ _ (by omega)]⟩
theorem ScrR.rep {s : Sg} {M M' : j_M} (hO : ScrR M M') (h : RepR s M) : RepR s M' := by
  obtain ⟨a1, a2, a3, a4, a5, a6, a7⟩ := h
  have g : ∀ b, PR b → M' b = M b := fun b hb => hO.1 b (Or.inr hb)
  have f : ∀ k, P79 k → M' 79 k = M 79 k := hO.2
  refine ⟨⟨by rw [f _ (by unfold P79; omega)]; exact a1.1, fun i hi => by rw [g _ (by unfold PR; omega)]; exact a1.2 i hi⟩, fun d t hd ht => by rw [g _ (by unfold PR; omega)]; exact a2 d t hd ht, fun k hk => by rw [f _ (by unfold P79; omega)]; exact a3 k hk, ⟨by rw [f _ (by unfold P79; omega)]; exact a4.1, fun k hk => by rw [g _ (by unfold PR; omega), g _ (by unfold PR; omega), g _ (by unfold PR; omega)]; exact a4.2 k hk⟩, ⟨by rw [f _ (by unfold P79; omega)]; exact a5.1, fun k hk => by rw [g _ (by unfold PR; omega), g _ (by unfold PR; omega)]; exact a5.2 k hk⟩, fun q hq => by rw [g _ (by unfold PR; omega), g _ (by unfold PR; omega), g _ (by unfold PR; omega), g _ (by unfold PR; omega)]; exact a6 q hq, by rw [f _ (by unfold P79; omega)]; exact a7⟩
/-- the state's ways and visits alone -/
def RepV (s : Sg) (M : j_M) : Prop := (∀ k, k < 5 → M 79 (5 + k) = nI (g_wy s k)) ∧ (M 79 10 = nI (g_nv s) ∧ ∀ k, k < g_nv s → M 83 k = nI (g_vd s k) ∧ M 84 k = nI (g_vh s k) ∧ M 85 k = nI (g_vt s k))
theorem RepR.v {s : Sg} {M : j_M} (h : RepR s M) : RepV s M := ⟨h.2.2.1, h.2.2.2.1⟩
abbrev g_V (s : Sg) : VS := (g_nv s, g_vd s, g_vh s, g_vt s)
abbrev V0 : VS := (0, fun _ => 0, fun _ => 0, fun _ => 0)
theorem er_of {s : Sg} {M : j_M} {dog : Nat} {ts : Nat → Nat} {tr sl : Nat} {N : VS} (hw : WF s) (hV : RepV s M) (hr : RdR s M) (hts : ∀ t, ts t ≤ 9) (hta : ∀ t, t < 3 → M 82 (3 * dog + t) = nI (ts t)) (h18 : M 79 18 = nI sl) (hsl : sl < 2 ^ 30) (h19 : M 79 19 = em tr)
    (hN : M 79 14 = nI N.1 ∧ N.1 ≤ 30 ∧ ∀ k, k < N.1 → M 86 k = nI (N.2.1 k) ∧ M 87 k = nI (N.2.2.1 k) ∧ M 88 k = nI (N.2.2.2 k) ∧ N.2.1 k < 30 ∧ N.2.2.1 k < 6 ∧ N.2.2.2 k < 3) : ER (g_en s) dog ts tr sl (g_V s) N M :=
  ⟨hw.en, hts, hr.1, hr.2, hta, hV.1 0 (by omega), hV.1 1 (by omega), hV.1 2 (by omega), hV.1 4 (by omega), h18, hsl, h19, ⟨hV.2.1, hw.2.2.2.2.2.1, fun k hk => ⟨(hV.2.2 k hk).1, (hV.2.2 k hk).2.1, (hV.2.2 k hk).2.2, hw.2.2.2.2.2.2.1 k⟩⟩, hN⟩
theorem bsR_told (s : Sg) : bsR (g_V s) V0 = g_bs s := by
  funext d
  unfold bsR g_bs
  rw [show dl V0 d = [] from rfl, List.append_nil]
  rfl
theorem c_R_asTold {d : Nat} {s : Sg} {M : j_M} {Q : Option Value → j_M → Prop} (hV : RepV s M) (k : ∀ M', M' 79 14 = 0 → M' 79 18 = nI (g_wy s 3) → M' 79 19 = -1 → (∀ b, b ≠ 79 → M' b = M b) → (∀ q, q ≠ 14 → q ≠ 18 → q ≠ 19 → M' 79 q = M 79 q) → Q none M') : j_Ct d I_R_asTold [.ref 79] M Q := by
  refine j_met (by decide +kernel) co_R_asTold (Nat.le_of_ble_eq_true rfl) (fun X hX => ?_)
  show j_W d I_R_asTold X 0 [some (.ref 79)] [] M
  refine jx_aload0 (pc := 0) d_R_asTold_0 ?_
  refine jx_iconst (pc := 1) (v := 0) d_R_asTold_1 (by decide) ?_
  refine jx_putI (pc := 2) pf_R_146 d_R_asTold_2 ad_79 sh_79 rfl ?_
  refine jx_aload0 (pc := 5) d_R_asTold_5 ?_
  refine jx_aload0 (pc := 6) d_R_asTold_6 ?_
  refine jx_getI (pc := 7) gf_R_123 d_R_asTold_7 ad_79 sh_79 rfl ?_
  refine jx_putI (pc := 10) pf_R_149 d_R_asTold_10 ad_79 sh_79 rfl ?_
  refine jx_aload0 (pc := 13) d_R_asTold_13 ?_
  refine jx_iconst (pc := 14) (v := (-1)) d_R_asTold_14 (by decide) ?_
  refine jx_putI (pc := 15) pf_R_152 d_R_asTold_15 ad_79 sh_79 rfl ?_
  refine jx_vret (pc := 18) hX rfl d_R_asTold_18 ?_
  rotate_left
  refine k _ (by simp [j_set_s, upd]) ?_ (by simp [j_set_s, upd]) (fun b hb => by rw [j_set_n _ _ _ hb, j_set_n _ _ _ hb, j_set_n _ _ _ hb]) (fun q h1 h2 h3 => ?_)
  · have := hV.1 3 (by omega)
    simp only [j_set_s, upd]
    simpa using this
  · simp only [j_set_s, upd]
    rw [if_neg h3, if_neg h2, if_neg h1]
theorem c_R_runsTold {d dog last : Nat} {s : Sg} {M : j_M} {Q : Option Value → j_M → Prop} (hw : WF s) (hR : RepR s M) (hdog : dog < 2) (hlast : last < 30)
    (k : ∀ M', ScrR M M' → RdR s M' → (∀ q, q ≤ last → M' 91 q = em (fdD s dog q)) → (∀ i, i < 6 → M' 89 i = nI (lkA s dog last i)) → (∀ b, b ≠ 79 → b ≠ 81 → b ≠ 89 → b ≠ 90 → b ≠ 91 → M' b = M b) → Q none M') : j_Ct (d + 3) I_R_runsTold [.ref 79, .int (nI dog), .int (nI last)] M Q := by
  refine j_met (by decide +kernel) co_R_runsTold (Nat.le_of_ble_eq_true rfl) (fun X hX => ?_)
  show j_W (d + 3) I_R_runsTold X 0 [some (.ref 79), some (.int (nI dog)), some (.int (nI last))] [] M
  refine jx_aload0 (pc := 0) d_R_runsTold_0 ?_
  refine jx_callV0 (pc := 1) (d' := d + 2) vo_R_reads lk_R_109 d_R_runsTold_1 ad_79 sh_79 rfl (by omega) (Nat.le_of_ble_eq_true rfl) ?_
  refine c_R_reads hw hR (fun M1 hr1 hO1 => ?_)
  refine jx_r0 ?_
  have hR1 := hR.offF hO1
  refine jx_aload0 (pc := 4) d_R_runsTold_4 ?_
  refine jx_callV0 (pc := 5) (d' := 0) vo_R_asTold lk_R_172 d_R_runsTold_5 ad_79 sh_79 rfl (by omega) (Nat.le_of_ble_eq_true rfl) ?_
  refine c_R_asTold hR1.v (fun M2 h14 h18 h19 hb hq => ?_)
  refine jx_r0 ?_
  have hS2 : ScrR M1 M2 := ⟨fun b g => hb b (by unfold PR at g; omega), fun q g => hq q (by unfold P79 at g; omega) (by unfold P79 at g; omega) (by unfold P79 at g; omega)⟩
  have hR2 := hS2.rep hR1
  have hr2 : RdR s M2 := ⟨by rw [hq 2 (by omega) (by omega) (by omega)]; exact hr1.1, fun h t hh ht => by rw [hb 81 (by omega)]; exact hr1.2 h t hh ht⟩
  have hER : ER (g_en s) dog (g_ta s dog) 9 (g_wy s 3) (g_V s) V0 M2 := er_of hw hR2.v hr2 (hw.2.2.1 dog) (fun t ht => hR2.2.1 dog t hdog ht) h18 hw.2.2.2.2.1 h19 ⟨h14, by show (0 : Nat) ≤ 30; omega, fun q hq => absurd hq (by show ¬ q < 0; omega)⟩
  refine jx_aload0 (pc := 8) d_R_runsTold_8 ?_
  refine jx_iload1 (pc := 9) d_R_runsTold_9 ?_
  refine jx_iload2 (pc := 10) d_R_runsTold_10 ?_
  refine jx_callV2 (pc := 11) (d' := d + 2) vo_R_runs lk_R_175 d_R_runsTold_11 ad_79 sh_79 rfl (by omega) (Nat.le_of_ble_eq_true rfl) ?_
  refine c_R_runs hdog hlast hER (Or.inr rfl) (fun M3 h91 h89 hO3 => ?_)
  refine jx_r0 ?_
  refine jx_vret (pc := 14) hX rfl d_R_runsTold_14 ?_
  rotate_left
  rw [bsR_told] at h91 h89
  refine k M3 ((ScrR.offF hO1).tr (hS2.tr (ScrR.offR hO3))) ⟨by rw [hO3.2 2 (by omega) (by omega)]; exact hr2.1, fun h t hh ht => by rw [hO3.1 81 (by omega) (by omega) (by omega) (by omega)]; exact hr2.2 h t hh ht⟩ h91 h89 (fun b b1 b2 b3 b4 b5 => by rw [hO3.1 b b1 b3 b4 b5, hb b b1, hO1.1 b b1 b2])
theorem c_R_meets {d : Nat} {x : Int32} {M : j_M} {Q : Option Value → j_M → Prop} (k : Q (some (.int (-10 - x))) (j_set M 79 40 x)) : j_Ct d I_R_meets [.ref 79, .int x] M Q := by
  refine j_met (by decide +kernel) co_R_meets (Nat.le_of_ble_eq_true rfl) (fun X hX => ?_)
  show j_W d I_R_meets X 0 [some (.ref 79), some (.int x)] [] M
  refine jx_aload0 (pc := 0) d_R_meets_0 ?_
  refine jx_iload1 (pc := 1) d_R_meets_1 ?_
  refine jx_putI (pc := 2) pf_R_289 d_R_meets_2 ad_79 sh_79 rfl ?_
  refine jx_bipush (pc := 5) (v := (-10)) d_R_meets_5 (by decide) ?_
  refine jx_iload1 (pc := 7) d_R_meets_7 ?_
  refine jx_isub (pc := 8) d_R_meets_8 ?_
  refine jx_iret (pc := 9) hX rfl d_R_meets_9 ?_
  rotate_left
  exact k
-- parts of the reference's face
theorem RepR.he {s : Sg} {M M' : j_M} (h : RepR s M) {nb : Nat} {tx : Nat → Nat} (h1 : M' 79 1 = nI nb) (h2 : ∀ i, i < nb → M' 80 i = nI (tx i)) (hb : ∀ b, b ≠ 79 → b ≠ 80 → M' b = M b) (hk : ∀ k, k ≠ 1 → M' 79 k = M 79 k) : RepR (s_tx s nb tx) M' := by
  obtain ⟨a1, a2, a3, a4, a5, a6, a7⟩ := h
  exact ⟨⟨h1, h2⟩, fun d t hd ht => by rw [hb _ (by omega) (by omega)]; exact a2 d t hd ht, fun k hk2 => by rw [hk _ (by omega)]; exact a3 k hk2, ⟨by rw [hk _ (by omega)]; exact a4.1, fun k hk2 => by rw [hb _ (by omega) (by omega), hb _ (by omega) (by omega), hb _ (by omega) (by omega)]; exact a4.2 k hk2⟩, ⟨by rw [hk _ (by omega)]; exact a5.1, fun k hk2 => by rw [hb _ (by omega) (by omega), hb _ (by omega) (by omega)]; exact a5.2 k hk2⟩, fun q hq => by rw [hb _ (by omega) (by omega), hb _ (by omega) (by omega), hb _ (by omega) (by omega), hb _ (by omega) (by omega)]; exact a6 q hq, by rw [hk _ (by omega)]; exact a7⟩
theorem c_R_type {d : Nat} {b : Int32} {s : Sg} {M : j_M} {Q : Option Value → j_M → Prop} (hw : WF s) (hR : RepR s M) (k : ∀ M', RepR (n_type s b) M' → Lo M M' → Q (some (.int (r_type s b))) M') : j_Ct (d + 1) I_R_type [.ref 79, .int b] M Q := by
  refine j_met (by decide +kernel) co_R_type (Nat.le_of_ble_eq_true rfl) (fun X hX => ?_)
  show j_W (d + 1) I_R_type X 0 [some (.ref 79), some (.int b)] [] M
  have h1 := hR.1.1
  by_cases hb : 0 ≤ b ∧ b ≤ 255
  · obtain ⟨j, hj, rfl⟩ := byte_of hb
    have z23 : nI (g_nb s) = 23 ↔ g_nb s = 23 := nI_eq (b := 23) (by have := hw.1; omega) (by omega)
    by_cases hn : g_nb s < 23
    · have en : (M 79 1).toNatClampNeg = g_nb s := by rw [h1]; exact nI_cl (by omega)
      have hv : vp_in (M 79 1) 23 := by rw [h1]; exact vp_in_nI hn (by omega)
      have hr : r_type s (nI j) = nI (g_nb s + 1) := by unfold r_type; rw [if_pos hb, if_pos hn]
      have hnx : n_type s (nI j) = s_tx s (g_nb s + 1) (upN (g_tx s) (g_nb s) j) := by unfold n_type; rw [if_pos ⟨hb, hn⟩, show cl (nI j) = j from nI_cl (by omega)]
      rw [hr, hnx] at k
      refine jx_iload1 (pc := 0) d_R_type_0 ?_
      refine jx_iconst (pc := 1) (v := 0) d_R_type_1 (by decide) ?_
      refine jx_sipush (pc := 2) (v := 255) d_R_type_2 (by decide) ?_
      refine jx_callS3 (pc := 5) (d' := 0) so_R_in lk_R_95 d_R_type_5 (by omega) (Nat.le_of_ble_eq_true rfl) ?_
      refine c_R_in ?_
      refine jx_r1 ?_
      refine jx_if_ne (pc := 8) 14 d_R_type_8 (by decide) (fun c8 => ?_) (fun c8 => absurd c8 (z01p hb))
      refine jx_aload0 (pc := 14) d_R_type_14 ?_
      refine jx_getI (pc := 15) gf_R_99 d_R_type_15 ad_79 sh_79 rfl ?_
      refine jx_bipush (pc := 18) (v := 23) d_R_type_18 (by decide) ?_
      refine jx_icmp_ne (pc := 20) 26 d_R_type_20 (by decide) (fun c20 => ?_) (fun c20 => absurd c20 (fun q => absurd (z23.mp (h1 ▸ q)) (by omega)))
      refine jx_aload0 (pc := 26) d_R_type_26 ?_
      refine jx_getR (pc := 27) gf_R_7 d_R_type_27 ad_79 sh_79 rfl ?_
      refine jx_aload0 (pc := 30) d_R_type_30 ?_
      refine jx_getI (pc := 31) gf_R_99 d_R_type_31 ad_79 sh_79 rfl ?_
      refine jx_iload1 (pc := 34) d_R_type_34 ?_
      refine jx_iast (pc := 35) d_R_type_35 ad_80 sh_80 hv ?_
      refine jx_aload0 (pc := 36) d_R_type_36 ?_
      refine jx_dupr (pc := 37) d_R_type_37 ?_
      refine jx_getI (pc := 38) gf_R_99 d_R_type_38 ad_79 sh_79 rfl ?_
      refine jx_iconst (pc := 41) (v := 1) d_R_type_41 (by decide) ?_
      refine jx_iadd (pc := 42) d_R_type_42 ?_
      refine jx_putI (pc := 43) pf_R_99 d_R_type_43 ad_79 sh_79 rfl ?_
      refine jx_aload0 (pc := 46) d_R_type_46 ?_
      refine jx_getI (pc := 47) gf_R_99 d_R_type_47 ad_79 sh_79 rfl ?_
      refine jx_iret (pc := 50) hX rfl d_R_type_50 ?_
      rotate_left
      have e79 : j_set M 80 (M 79 1).toNatClampNeg (nI j) 79 1 + 1 = nI (g_nb s + 1) := by rw [j_set_n _ _ _ (by omega), h1, nI_1]
      rw [e79, j_set_s]
      show Q (some (.int (upd _ 1 _ 1))) _
      rw [show upd (j_set M 80 (M 79 1).toNatClampNeg (nI j) 79) 1 (nI (g_nb s + 1)) 1 = nI (g_nb s + 1) by simp [upd]]
      refine k _ (hR.he (by simp [j_set_s, upd]) (fun i hi => ?_) (fun q g1 g2 => by rw [j_set_n _ _ _ g1, j_set_n _ _ _ g2]) (fun q g1 => ?_)) (fun q hq => by rw [j_set_n _ _ _ (by omega), j_set_n _ _ _ (by omega)])
      · rw [j_set_n _ _ _ (by omega), j_set_s, en]
        unfold upd upN
        by_cases hc : i = g_nb s
        · rw [if_pos hc, if_pos hc]
        · rw [if_neg hc, if_neg hc]; exact hR.1.2 i (by omega)
      · rw [j_set_s]; unfold upd; rw [if_neg g1, j_set_n _ _ _ (by omega)]
    · have hr : r_type s (nI j) = -4 := by unfold r_type; rw [if_pos hb, if_neg hn]
      have hnx : n_type s (nI j) = s := by unfold n_type; rw [if_neg (fun q => hn q.2)]
      rw [hr, hnx] at k
      have h23 : g_nb s = 23 := by have := hw.1; omega
      refine jx_iload1 (pc := 0) d_R_type_0 ?_
      refine jx_iconst (pc := 1) (v := 0) d_R_type_1 (by decide) ?_
      refine jx_sipush (pc := 2) (v := 255) d_R_type_2 (by decide) ?_
      refine jx_callS3 (pc := 5) (d' := 0) so_R_in lk_R_95 d_R_type_5 (by omega) (Nat.le_of_ble_eq_true rfl) ?_
      refine c_R_in ?_
      refine jx_r1 ?_
      refine jx_if_ne (pc := 8) 14 d_R_type_8 (by decide) (fun c8 => ?_) (fun c8 => absurd c8 (z01p hb))
      refine jx_aload0 (pc := 14) d_R_type_14 ?_
      refine jx_getI (pc := 15) gf_R_99 d_R_type_15 ad_79 sh_79 rfl ?_
      refine jx_bipush (pc := 18) (v := 23) d_R_type_18 (by decide) ?_
      refine jx_icmp_ne (pc := 20) 26 d_R_type_20 (by decide) (fun c20 => absurd c20 (fun q => q (h1.trans (z23.mpr h23)))) (fun c20 => ?_)
      refine jx_bipush (pc := 23) (v := (-4)) d_R_type_23 (by decide) ?_
      refine jx_iret (pc := 25) hX rfl d_R_type_25 ?_
      rotate_left
      exact k M hR (fun _ _ => rfl)
  · have hr : r_type s b = -2 := by unfold r_type; rw [if_neg hb]
    have hnx : n_type s b = s := by unfold n_type; rw [if_neg (fun q => hb q.1)]
    rw [hr, hnx] at k
    refine jx_iload1 (pc := 0) d_R_type_0 ?_
    refine jx_iconst (pc := 1) (v := 0) d_R_type_1 (by decide) ?_
    refine jx_sipush (pc := 2) (v := 255) d_R_type_2 (by decide) ?_
    refine jx_callS3 (pc := 5) (d' := 0) so_R_in lk_R_95 d_R_type_5 (by omega) (Nat.le_of_ble_eq_true rfl) ?_
    refine c_R_in ?_
    refine jx_r1 ?_
    refine jx_if_ne (pc := 8) 14 d_R_type_8 (by decide) (fun c8 => absurd c8 (fun q => q (z01.mpr hb))) (fun c8 => ?_)
    refine jx_bipush (pc := 11) (v := (-2)) d_R_type_11 (by decide) ?_
    refine jx_iret (pc := 13) hX rfl d_R_type_13 ?_
    rotate_left
    exact k M hR (fun _ _ => rfl)
theorem c_R_wipe {d : Nat} {s : Sg} {M : j_M} {Q : Option Value → j_M → Prop} (hR : RepR s M) (k : ∀ M', RepR (n_wipe s) M' → Lo M M' → Q (some (.int (nI (g_nb s)))) M') : j_Ct d I_R_wipe [.ref 79] M Q := by
  refine j_met (by decide +kernel) co_R_wipe (Nat.le_of_ble_eq_true rfl) (fun X hX => ?_)
  show j_W d I_R_wipe X 0 [some (.ref 79), none] [] M
  refine jx_aload0 (pc := 0) d_R_wipe_0 ?_
  refine jx_getI (pc := 1) gf_R_99 d_R_wipe_1 ad_79 sh_79 rfl ?_
  refine jx_istore1 (pc := 4) d_R_wipe_4 rfl (Nat.le_of_ble_eq_true rfl) ?_
  refine jx_aload0 (pc := 5) d_R_wipe_5 ?_
  refine jx_iconst (pc := 6) (v := 0) d_R_wipe_6 (by decide) ?_
  refine jx_putI (pc := 7) pf_R_99 d_R_wipe_7 ad_79 sh_79 rfl ?_
  refine jx_iload1 (pc := 10) d_R_wipe_10 ?_
  refine jx_iret (pc := 11) hX rfl d_R_wipe_11 ?_
  rotate_left
  rw [hR.1.1]
  refine k _ (hR.he (by simp [j_set_s, upd]; rfl) (fun i hi => absurd hi (by omega)) (fun q g1 g2 => j_set_n _ _ _ g1) (fun q g1 => by rw [j_set_s]; unfold upd; rw [if_neg g1])) (fun q hq => j_set_n _ _ _ (by omega))
theorem c_R_undo {d : Nat} {s : Sg} {M : j_M} {Q : Option Value → j_M → Prop} (hw : WF s) (hR : RepR s M) (k : ∀ M', RepR (n_undo s) M' → Lo M M' → Q (some (.int (r_undo s))) M') : j_Ct d I_R_undo [.ref 79] M Q := by
  refine j_met (by decide +kernel) co_R_undo (Nat.le_of_ble_eq_true rfl) (fun X hX => ?_)
  show j_W d I_R_undo X 0 [some (.ref 79)] [] M
  have h1 := hR.1.1
  have hn := hw.1
  have z0 : nI (g_nb s) = 0 ↔ g_nb s = 0 := nI_eq (b := 0) (by omega) (by omega)
  by_cases h0 : g_nb s = 0
  · have hr : r_undo s = -3 := by unfold r_undo; rw [if_pos h0]
    have hnx : n_undo s = s := by unfold n_undo; rw [if_pos h0]
    rw [hr, hnx] at k
    refine jx_aload0 (pc := 0) d_R_undo_0 ?_
    refine jx_getI (pc := 1) gf_R_99 d_R_undo_1 ad_79 sh_79 rfl ?_
    refine jx_if_ne (pc := 4) 10 d_R_undo_4 (by decide) (fun c4 => absurd c4 (fun q => q (h1.trans (z0.mpr h0)))) (fun c4 => ?_)
    refine jx_bipush (pc := 7) (v := (-3)) d_R_undo_7 (by decide) ?_
    refine jx_iret (pc := 9) hX rfl d_R_undo_9 ?_
    rotate_left
    exact k M hR (fun _ _ => rfl)
  · have hr : r_undo s = nI (g_nb s - 1) := by unfold r_undo; rw [if_neg h0]
    have hnx : n_undo s = s_tx s (g_nb s - 1) (g_tx s) := by unfold n_undo; rw [if_neg h0]
    rw [hr, hnx] at k
    have e1 : M 79 1 - 1 = nI (g_nb s - 1) := by rw [h1]; exact nI_sub (b := 1) (by omega)
    refine jx_aload0 (pc := 0) d_R_undo_0 ?_
    refine jx_getI (pc := 1) gf_R_99 d_R_undo_1 ad_79 sh_79 rfl ?_
    refine jx_if_ne (pc := 4) 10 d_R_undo_4 (by decide) (fun c4 => ?_) (fun c4 => absurd c4 (fun q => h0 (z0.mp (h1 ▸ q))))
    refine jx_aload0 (pc := 10) d_R_undo_10 ?_
    refine jx_dupr (pc := 11) d_R_undo_11 ?_
    refine jx_getI (pc := 12) gf_R_99 d_R_undo_12 ad_79 sh_79 rfl ?_
    refine jx_iconst (pc := 15) (v := 1) d_R_undo_15 (by decide) ?_
    refine jx_isub (pc := 16) d_R_undo_16 ?_
    refine jx_putI (pc := 17) pf_R_99 d_R_undo_17 ad_79 sh_79 rfl ?_
    refine jx_aload0 (pc := 20) d_R_undo_20 ?_
    refine jx_getI (pc := 21) gf_R_99 d_R_undo_21 ad_79 sh_79 rfl ?_
    refine jx_iret (pc := 24) hX rfl d_R_undo_24 ?_
    rotate_left
    rw [e1, j_set_s]
    rw [show upd (M 79) 1 (nI (g_nb s - 1)) 1 = nI (g_nb s - 1) by simp [upd]]
    refine k _ (hR.he (by simp [j_set_s, upd]) (fun i hi => by rw [j_set_n _ _ _ (by omega)]; exact hR.1.2 i (by omega)) (fun q g1 g2 => j_set_n _ _ _ g1) (fun q g1 => by rw [j_set_s]; unfold upd; rw [if_neg g1])) (fun q hq => j_set_n _ _ _ (by omega))
theorem c_R_fault {d : Nat} {s : Sg} {M : j_M} {Q : Option Value → j_M → Prop} (hw : WF s) (hR : RepR s M) (k : ∀ M', ScrR M M' → Q (some (.int (fl99 (fltB (g_nb s) (g_tx s))))) M') : j_Ct (d + 2) I_R_fault [.ref 79] M Q := by
  refine j_met (by decide +kernel) co_R_fault (Nat.le_of_ble_eq_true rfl) (fun X hX => ?_)
  show j_W (d + 2) I_R_fault X 0 [some (.ref 79)] [] M
  refine jx_aload0 (pc := 0) d_R_fault_0 ?_
  refine jx_callV0 (pc := 1) (d' := d + 1) vo_R_faultNow lk_R_105 d_R_fault_1 ad_79 sh_79 rfl (by omega) (Nat.le_of_ble_eq_true rfl) ?_
  refine c_R_faultNow hw.1 hw.2.1 hR.1.1 hR.1.2 (fun M2 h1 h2 hO => ?_)
  refine jx_r1 ?_
  refine jx_iret (pc := 4) hX rfl d_R_fault_4 ?_
  rotate_left
  exact k M2 (ScrR.offF hO)
theorem c_R_good {d : Nat} {h t : Int32} {s : Sg} {M : j_M} {Q : Option Value → j_M → Prop} (hw : WF s) (hR : RepR s M) (k : ∀ M', ScrR M M' → Q (some (.int (r_good s h t))) M') : j_Ct (d + 4) I_R_good [.ref 79, .int h, .int t] M Q := by
  refine j_met (by decide +kernel) co_R_good (Nat.le_of_ble_eq_true rfl) (fun X hX => ?_)
  show j_W (d + 4) I_R_good X 0 [some (.ref 79), some (.int h), some (.int t)] [] M
  have hn6 : g_hn s ≤ 6 := hnB_le hw.1
  by_cases hb : (0 ≤ h ∧ h < nI (g_hn s)) ∧ (0 ≤ t ∧ t < 3)
  · have hb0 := hb
    obtain ⟨a, ha, rfl, ea⟩ := okd h _ (by omega) hb.1
    obtain ⟨b, hbt, rfl, eb⟩ := okd t 3 (by omega) hb.2
    have e3 : (3 : Int32) * nI a + nI b = nI (3 * a + b) := by rw [show (3 : Int32) = nI 3 from rfl, nI_mul, nI_add]
    have v3 : vp_in ((3 : Int32) * nI a + nI b) 21 := by rw [e3]; exact vp_in_nI (by omega) (by omega)
    have hr : r_good s (nI a) (nI b) = nI (gdB (g_nb s) (g_tx s) a b) := by unfold r_good; rw [if_pos hb, ea, eb]
    refine jx_aload0 (pc := 0) d_R_good_0 ?_
    refine jx_iload1 (pc := 1) d_R_good_1 ?_
    refine jx_callV1 (pc := 2) (d' := d + 3) vo_R_isHeir lk_R_112 d_R_good_2 ad_79 sh_79 rfl (by omega) (Nat.le_of_ble_eq_true rfl) ?_
    refine c_R_isHeir hw hR (fun M2 hr2 hO2 => ?_)
    refine jx_r1 ?_
    refine jx_if_eq (pc := 5) 28 d_R_good_5 (by decide) (fun c5 => absurd c5 (z01p hb0.1)) (fun c5 => ?_)
    refine jx_iload2 (pc := 8) d_R_good_8 ?_
    refine jx_callS1 (pc := 9) (d' := 1) so_R_isThing lk_R_116 d_R_good_9 (by omega) (Nat.le_of_ble_eq_true rfl) ?_
    refine c_R_isThing ?_
    refine jx_r1 ?_
    refine jx_if_eq (pc := 12) 28 d_R_good_12 (by decide) (fun c12 => absurd c12 (z01p hb0.2)) (fun c12 => ?_)
    refine jx_aload0 (pc := 15) d_R_good_15 ?_
    refine jx_getR (pc := 16) gf_R_13 d_R_good_16 ad_79 sh_79 rfl ?_
    refine jx_iconst (pc := 19) (v := 3) d_R_good_19 (by decide) ?_
    refine jx_iload1 (pc := 20) d_R_good_20 ?_
    refine jx_imul (pc := 21) d_R_good_21 ?_
    refine jx_iload2 (pc := 22) d_R_good_22 ?_
    refine jx_iadd (pc := 23) d_R_good_23 ?_
    refine jx_iald (pc := 24) d_R_good_24 ad_81 sh_81 (by first | assumption | exact vp_in_nI (by omega) (by omega)) ?_
    refine jx_goto (pc := 25) 30 d_R_good_25 (by decide) ?_
    refine jx_iret (pc := 30) hX rfl d_R_good_30 ?_
    rotate_left
    rw [hr] at k
    rw [e3, nI_cl (n := 3 * a + b) (by omega), hr2.2 a b ha hbt]
    exact k M2 (ScrR.offF hO2)
  · have hr : r_good s h t = -2 := by unfold r_good; rw [if_neg hb]
    rw [hr] at k
    refine jx_aload0 (pc := 0) d_R_good_0 ?_
    refine jx_iload1 (pc := 1) d_R_good_1 ?_
    refine jx_callV1 (pc := 2) (d' := d + 3) vo_R_isHeir lk_R_112 d_R_good_2 ad_79 sh_79 rfl (by omega) (Nat.le_of_ble_eq_true rfl) ?_
    refine c_R_isHeir hw hR (fun M2 hr2 hO2 => ?_)
    refine jx_r1 ?_
    refine jx_if_eq (pc := 5) 28 d_R_good_5 (by decide) (fun c5 => ?_) (fun c5 => ?_)
    refine jx_bipush (pc := 28) (v := (-2)) d_R_good_28 (by decide) ?_
    refine jx_iret (pc := 30) hX rfl d_R_good_30 ?_
    rotate_left
    refine jx_iload2 (pc := 8) d_R_good_8 ?_
    refine jx_callS1 (pc := 9) (d' := 1) so_R_isThing lk_R_116 d_R_good_9 (by omega) (Nat.le_of_ble_eq_true rfl) ?_
    refine c_R_isThing ?_
    refine jx_r1 ?_
    refine jx_if_eq (pc := 12) 28 d_R_good_12 (by decide) (fun c12 => ?_) (fun c12 => ?_)
    refine jx_bipush (pc := 28) (v := (-2)) d_R_good_28 (by decide) ?_
    refine jx_iret (pc := 30) hX rfl d_R_good_30 ?_
    rotate_left
    rotate_left
    · exact k M2 (ScrR.offF hO2)
    · exact k M2 (ScrR.offF hO2)
    · exact absurd ⟨z01n c5, z01n c12⟩ hb
