/-! OPERATIONS of the reference: suit -/
def rvC (row : List Nat) (i : Nat) : Int32 := if i < row.length then nI (row.getD i 0) else -1
def nN (h : Nat) (row : List Nat) : VS := row.foldl (fun N c => aN N (c / 3) h (c % 3)) V0
theorem dl_foldl (h d : Nat) : ∀ (row : List Nat) (N : VS), dl (row.foldl (fun N c => aN N (c / 3) h (c % 3)) N) d = dl N d ++ bsX h row d
  | [], N => by rw [bsX_nil, List.append_nil]; rfl
  | c :: row, N => by
    rw [List.foldl_cons, dl_foldl h d row, dl_aN, bsX_cons, List.append_assoc]
theorem bsR_nN (s : Sg) (h : Nat) (row : List Nat) : bsR (g_V s) (nN h row) = bsS s h row := by
  funext d
  unfold bsR bsS nN
  rw [dl_foldl]
  rfl
theorem c_R_wins0 {d h last  : Nat} {s : Sg} {M : j_M} {Q : Option Value → j_M → Prop} (hw : WF s) (hR : RepR s M) (hr : RdR s M) (hh : h < g_hn s) (hl : last < 10) 
    (k : ∀ M', ScrR M M' → RdR s M' → (∀ i, i < 0 → M' 93 i = nI ([].getD i 0)) → Q (some (.int (if suW s h last [] then 1 else 0))) M') : j_Ct (d + 3) I_R_wins [.ref 79, .int (nI h), .int (nI last), .int (-1), .int (-1), .int (-1)] M Q := by
  refine j_met (by decide +kernel) co_R_wins (Nat.le_of_ble_eq_true rfl) (fun X hX => ?_)
  show j_W (d + 3) I_R_wins X 0 [some (.ref 79), some (.int (nI h)), some (.int (nI last)), some (.int (-1)), some (.int (-1)), some (.int (-1))] [] M
  have hn6 : g_hn s ≤ 6 := hnB_le hw.1
  have hvl : vp_in (nI last) 30 := vp_in_nI (by omega) (by omega)
  have el : (nI last).toNatClampNeg = last := nI_cl (by omega)
  have fin : ∀ (M9 : j_M) (v : Int32), ScrR M M9 → RdR s M9 → v = (if suW s h last [] then 1 else 0) → Q (some (.int v)) (j_set (j_set (j_set M9 93 0 (-1)) 93 1 (-1)) 93 2 (-1)) := by
    intro M9 v hS9 hr9 hv
    rw [hv]
    refine k _ (hS9.tr ((ScrR.arr (by unfold PR; omega)).tr ((ScrR.arr (by unfold PR; omega)).tr (ScrR.arr (by unfold PR; omega))))) (hr9.of (by rw [j_set_n _ _ _ (by omega), j_set_n _ _ _ (by omega), j_set_n _ _ _ (by omega)]) (by rw [j_set_n _ _ _ (by omega), j_set_n _ _ _ (by omega), j_set_n _ _ _ (by omega)])) (fun i hi => ?_)
    exact absurd hi (by omega)
  refine jx_aload0 (pc := 0) d_R_wins_0 ?_
  refine jx_callV0 (pc := 1) (d' := 0) vo_R_asTold lk_R_172 d_R_wins_1 ad_79 sh_79 rfl (by omega) (Nat.le_of_ble_eq_true rfl) ?_
  refine c_R_asTold hR.v (fun M1 h14 h18 h19 hb1 hq1 => ?_)
  have hS0 : ScrR M M1 := scr_told hb1 hq1
  have hr0 : RdR s M1 := hr.of (hq1 2 (by omega) (by omega) (by omega)) (hb1 81 (by omega))
  have hN0 : NMo V0 M1 := NMo.zero h14
  refine jx_r0 ?_
  refine jx_iload3 (pc := 4) d_R_wins_4 ?_
  refine jx_iconst (pc := 5) (v := (-1)) d_R_wins_5 (by decide) ?_
  refine jx_icmp_eq (pc := 6) 20 d_R_wins_6 (by decide) (fun c6 => ?_) (fun c6 => absurd c6 (fun z => z rfl))
  refine jx_iload4 (pc := 20) d_R_wins_20 ?_
  refine jx_iconst (pc := 22) (v := (-1)) d_R_wins_22 (by decide) ?_
  refine jx_icmp_eq (pc := 23) 39 d_R_wins_23 (by decide) (fun c23 => ?_) (fun c23 => absurd c23 (fun z => z rfl))
  refine jx_iload5 (pc := 39) d_R_wins_39 ?_
  refine jx_iconst (pc := 41) (v := (-1)) d_R_wins_41 (by decide) ?_
  refine jx_icmp_eq (pc := 42) 58 d_R_wins_42 (by decide) (fun c42 => ?_) (fun c42 => absurd c42 (fun z => z rfl))
  refine jx_aload0 (pc := 58) d_R_wins_58 ?_
  refine jx_iconst (pc := 59) (v := 0) d_R_wins_59 (by decide) ?_
  refine jx_iload2 (pc := 60) d_R_wins_60 ?_
  refine jx_callV2 (pc := 61) (d' := d + 2) vo_R_runs lk_R_175 d_R_wins_61 ad_79 sh_79 rfl (by omega) (Nat.le_of_ble_eq_true rfl) ?_
  have hE := er_N hw (hS0.rep hR) hr0 (show NMo (nN h []) M1 from hN0) h18 hw.2.2.2.2.1 h19
  have hfl := fdN_lt hw hE (k := last + 1) (by omega)
  refine c_R_runs (dog := 0) (by omega) (show last < 30 by omega) hE (Or.inr rfl) (fun M9 h91 h89 hO9 => ?_)
  have hf := h91 last (Nat.le_refl _)
  rw [bsR_nN] at hf hfl
  have hS9 := hS0.tr (ScrR.offR hO9)
  have hr9 : RdR s M9 := hr0.of (hO9.2 2 (by omega) (by omega)) (hO9.1 81 (by omega) (by omega) (by omega) (by omega))
  refine jx_r0 ?_
  refine jx_aload0 (pc := 64) d_R_wins_64 ?_
  refine jx_getR (pc := 65) gf_R_49 d_R_wins_65 ad_79 sh_79 rfl ?_
  refine jx_iconst (pc := 68) (v := 0) d_R_wins_68 (by decide) ?_
  refine jx_iload3 (pc := 69) d_R_wins_69 ?_
  refine jx_iastK (pc := 70) 0 d_R_wins_70 ad_93 sh_93 (by decide) (by unfold vp_in; decide) ?_
  refine jx_aload0 (pc := 71) d_R_wins_71 ?_
  refine jx_getR (pc := 72) gf_R_49 d_R_wins_72 ad_79 sh_79 rfl ?_
  refine jx_iconst (pc := 75) (v := 1) d_R_wins_75 (by decide) ?_
  refine jx_iload4 (pc := 76) d_R_wins_76 ?_
  refine jx_iastK (pc := 78) 1 d_R_wins_78 ad_93 sh_93 (by decide) (by unfold vp_in; decide) ?_
  refine jx_aload0 (pc := 79) d_R_wins_79 ?_
  refine jx_getR (pc := 80) gf_R_49 d_R_wins_80 ad_79 sh_79 rfl ?_
  refine jx_iconst (pc := 83) (v := 2) d_R_wins_83 (by decide) ?_
  refine jx_iload5 (pc := 84) d_R_wins_84 ?_
  refine jx_iastK (pc := 86) 2 d_R_wins_86 ad_93 sh_93 (by decide) (by unfold vp_in; decide) ?_
  refine jx_aload0 (pc := 87) d_R_wins_87 ?_
  refine jx_getR (pc := 88) gf_R_43 d_R_wins_88 ad_79 sh_79 rfl ?_
  refine jx_iload2 (pc := 91) d_R_wins_91 ?_
  refine jx_iald (pc := 92) d_R_wins_92 ad_91 sh_91 (by first | exact hvl | (rw [j_set_n _ _ _ (by omega)]; exact hvl)) ?_
  refine jx_iload1 (pc := 93) d_R_wins_93 ?_
  refine jx_icmp_ne (pc := 94) 101 d_R_wins_94 (by decide) (fun c94 => ?_) (fun c94 => ?_)
  refine jx_iconst (pc := 101) (v := 0) d_R_wins_101 (by decide) ?_
  refine jx_zret (pc := 102) hX rfl (by first | exact Or.inl rfl | exact Or.inr rfl) d_R_wins_102 ?_
  rotate_left
  refine jx_iconst (pc := 97) (v := 1) d_R_wins_97 (by decide) ?_
  refine jx_goto (pc := 98) 102 d_R_wins_98 (by decide) ?_
  refine jx_zret (pc := 102) hX rfl (by first | exact Or.inl rfl | exact Or.inr rfl) d_R_wins_102 ?_
  rotate_left
  · rw [j_set_n _ _ _ (by omega), j_set_n _ _ _ (by omega), j_set_n _ _ _ (by omega), el, hf, em_eq (by omega) (by omega)] at c94
    refine fin M9 0 hS9 hr9 ?_
    unfold suW ruS
    simp [c94]
  · rw [j_set_n _ _ _ (by omega), j_set_n _ _ _ (by omega), j_set_n _ _ _ (by omega), el, hf, em_eq (by omega) (by omega)] at c94
    refine fin M9 1 hS9 hr9 ?_
    unfold suW ruS
    simp [c94]
theorem c_R_wins1 {d h last a : Nat} {s : Sg} {M : j_M} {Q : Option Value → j_M → Prop} (hw : WF s) (hR : RepR s M) (hr : RdR s M) (hh : h < g_hn s) (hl : last < 10) (ha : a < 30)
    (k : ∀ M', ScrR M M' → RdR s M' → (∀ i, i < 1 → M' 93 i = nI ([a].getD i 0)) → Q (some (.int (if suW s h last [a] then 1 else 0))) M') : j_Ct (d + 3) I_R_wins [.ref 79, .int (nI h), .int (nI last), .int (nI a), .int (-1), .int (-1)] M Q := by
  refine j_met (by decide +kernel) co_R_wins (Nat.le_of_ble_eq_true rfl) (fun X hX => ?_)
  show j_W (d + 3) I_R_wins X 0 [some (.ref 79), some (.int (nI h)), some (.int (nI last)), some (.int (nI a)), some (.int (-1)), some (.int (-1))] [] M
  have hn6 : g_hn s ≤ 6 := hnB_le hw.1
  have hvl : vp_in (nI last) 30 := vp_in_nI (by omega) (by omega)
  have el : (nI last).toNatClampNeg = last := nI_cl (by omega)
  have ea3 : nI a / 3 = nI (a / 3) := pk_div (d := 3) (by omega) (by omega) (by omega)
  have ear : nI a - nI a / 3 * 3 = nI (a % 3) := pk_rem (d := 3) (by omega) (by omega) (by omega)
  have fin : ∀ (M9 : j_M) (v : Int32), ScrR M M9 → RdR s M9 → v = (if suW s h last [a] then 1 else 0) → Q (some (.int v)) (j_set (j_set (j_set M9 93 0 (nI a)) 93 1 (-1)) 93 2 (-1)) := by
    intro M9 v hS9 hr9 hv
    rw [hv]
    refine k _ (hS9.tr ((ScrR.arr (by unfold PR; omega)).tr ((ScrR.arr (by unfold PR; omega)).tr (ScrR.arr (by unfold PR; omega))))) (hr9.of (by rw [j_set_n _ _ _ (by omega), j_set_n _ _ _ (by omega), j_set_n _ _ _ (by omega)]) (by rw [j_set_n _ _ _ (by omega), j_set_n _ _ _ (by omega), j_set_n _ _ _ (by omega)])) (fun i hi => ?_)
    have h1 : i = 0 := by omega
    subst h1
    simp [j_set_s, upd]
  refine jx_aload0 (pc := 0) d_R_wins_0 ?_
  refine jx_callV0 (pc := 1) (d' := 0) vo_R_asTold lk_R_172 d_R_wins_1 ad_79 sh_79 rfl (by omega) (Nat.le_of_ble_eq_true rfl) ?_
  refine c_R_asTold hR.v (fun M1 h14 h18 h19 hb1 hq1 => ?_)
  have hS0 : ScrR M M1 := scr_told hb1 hq1
  have hr0 : RdR s M1 := hr.of (hq1 2 (by omega) (by omega) (by omega)) (hb1 81 (by omega))
  have hN0 : NMo V0 M1 := NMo.zero h14
  refine jx_r0 ?_
  refine jx_iload3 (pc := 4) d_R_wins_4 ?_
  refine jx_iconst (pc := 5) (v := (-1)) d_R_wins_5 (by decide) ?_
  refine jx_icmp_eq (pc := 6) 20 d_R_wins_6 (by decide) (fun c6 => absurd c6 (nI_ne_m1 (show a < 2 ^ 31 by omega))) (fun c6 => ?_)
  refine jx_aload0 (pc := 9) d_R_wins_9 ?_
  refine jx_iload3 (pc := 10) d_R_wins_10 ?_
  refine jx_iconst (pc := 11) (v := 3) d_R_wins_11 (by decide) ?_
  refine jx_idiv (pc := 12) d_R_wins_12 (by decide) ?_
  refine jx_iload1 (pc := 13) d_R_wins_13 ?_
  refine jx_iload3 (pc := 14) d_R_wins_14 ?_
  refine jx_iconst (pc := 15) (v := 3) d_R_wins_15 (by decide) ?_
  refine jx_irem (pc := 16) d_R_wins_16 (by decide) ?_
  refine jx_callV3 (pc := 17) (d' := 0) vo_R_adds lk_R_216 d_R_wins_17 ad_79 sh_79 rfl (by omega) (Nat.le_of_ble_eq_true rfl) ?_
  rw [ear, ea3]
  refine c_R_addsN hN0 (by show 0 < 30; omega) (show a / 3 < 30 by omega) (show h < 6 by omega) (Nat.mod_lt _ (by omega)) (fun M2 hN1 hb2 hq2 => ?_)
  have hS1 : ScrR M M2 := hS0.tr (scr_adds hb2 hq2)
  have hr1 : RdR s M2 := hr0.of (hq2 2 (by omega)) (hb2 81 (by omega) (by omega) (by omega) (by omega))
  have h181 : M2 79 18 = nI (g_wy s 3) := by rw [hq2 18 (by omega)]; exact h18
  have h191 : M2 79 19 = -1 := by rw [hq2 19 (by omega)]; exact h19
  refine jx_r0 ?_
  refine jx_iload4 (pc := 20) d_R_wins_20 ?_
  refine jx_iconst (pc := 22) (v := (-1)) d_R_wins_22 (by decide) ?_
  refine jx_icmp_eq (pc := 23) 39 d_R_wins_23 (by decide) (fun c23 => ?_) (fun c23 => absurd c23 (fun z => z rfl))
  refine jx_iload5 (pc := 39) d_R_wins_39 ?_
  refine jx_iconst (pc := 41) (v := (-1)) d_R_wins_41 (by decide) ?_
  refine jx_icmp_eq (pc := 42) 58 d_R_wins_42 (by decide) (fun c42 => ?_) (fun c42 => absurd c42 (fun z => z rfl))
  refine jx_aload0 (pc := 58) d_R_wins_58 ?_
  refine jx_iconst (pc := 59) (v := 0) d_R_wins_59 (by decide) ?_
  refine jx_iload2 (pc := 60) d_R_wins_60 ?_
  refine jx_callV2 (pc := 61) (d' := d + 2) vo_R_runs lk_R_175 d_R_wins_61 ad_79 sh_79 rfl (by omega) (Nat.le_of_ble_eq_true rfl) ?_
  have hE := er_N hw (hS1.rep hR) hr1 (show NMo (nN h [a]) M2 from hN1) h181 hw.2.2.2.2.1 h191
  have hfl := fdN_lt hw hE (k := last + 1) (by omega)
  refine c_R_runs (dog := 0) (by omega) (show last < 30 by omega) hE (Or.inr rfl) (fun M9 h91 h89 hO9 => ?_)
  have hf := h91 last (Nat.le_refl _)
  rw [bsR_nN] at hf hfl
  have hS9 := hS1.tr (ScrR.offR hO9)
  have hr9 : RdR s M9 := hr1.of (hO9.2 2 (by omega) (by omega)) (hO9.1 81 (by omega) (by omega) (by omega) (by omega))
  refine jx_r0 ?_
  refine jx_aload0 (pc := 64) d_R_wins_64 ?_
  refine jx_getR (pc := 65) gf_R_49 d_R_wins_65 ad_79 sh_79 rfl ?_
  refine jx_iconst (pc := 68) (v := 0) d_R_wins_68 (by decide) ?_
  refine jx_iload3 (pc := 69) d_R_wins_69 ?_
  refine jx_iastK (pc := 70) 0 d_R_wins_70 ad_93 sh_93 (by decide) (by unfold vp_in; decide) ?_
  refine jx_aload0 (pc := 71) d_R_wins_71 ?_
  refine jx_getR (pc := 72) gf_R_49 d_R_wins_72 ad_79 sh_79 rfl ?_
  refine jx_iconst (pc := 75) (v := 1) d_R_wins_75 (by decide) ?_
  refine jx_iload4 (pc := 76) d_R_wins_76 ?_
  refine jx_iastK (pc := 78) 1 d_R_wins_78 ad_93 sh_93 (by decide) (by unfold vp_in; decide) ?_
  refine jx_aload0 (pc := 79) d_R_wins_79 ?_
  refine jx_getR (pc := 80) gf_R_49 d_R_wins_80 ad_79 sh_79 rfl ?_
  refine jx_iconst (pc := 83) (v := 2) d_R_wins_83 (by decide) ?_
  refine jx_iload5 (pc := 84) d_R_wins_84 ?_
  refine jx_iastK (pc := 86) 2 d_R_wins_86 ad_93 sh_93 (by decide) (by unfold vp_in; decide) ?_
  refine jx_aload0 (pc := 87) d_R_wins_87 ?_
  refine jx_getR (pc := 88) gf_R_43 d_R_wins_88 ad_79 sh_79 rfl ?_
  refine jx_iload2 (pc := 91) d_R_wins_91 ?_
  refine jx_iald (pc := 92) d_R_wins_92 ad_91 sh_91 (by first | exact hvl | (rw [j_set_n _ _ _ (by omega)]; exact hvl)) ?_
  refine jx_iload1 (pc := 93) d_R_wins_93 ?_
  refine jx_icmp_ne (pc := 94) 101 d_R_wins_94 (by decide) (fun c94 => ?_) (fun c94 => ?_)
  refine jx_iconst (pc := 101) (v := 0) d_R_wins_101 (by decide) ?_
  refine jx_zret (pc := 102) hX rfl (by first | exact Or.inl rfl | exact Or.inr rfl) d_R_wins_102 ?_
  rotate_left
  refine jx_iconst (pc := 97) (v := 1) d_R_wins_97 (by decide) ?_
  refine jx_goto (pc := 98) 102 d_R_wins_98 (by decide) ?_
  refine jx_zret (pc := 102) hX rfl (by first | exact Or.inl rfl | exact Or.inr rfl) d_R_wins_102 ?_
  rotate_left
  · rw [j_set_n _ _ _ (by omega), j_set_n _ _ _ (by omega), j_set_n _ _ _ (by omega), el, hf, em_eq (by omega) (by omega)] at c94
    refine fin M9 0 hS9 hr9 ?_
    unfold suW ruS
    simp [c94]
  · rw [j_set_n _ _ _ (by omega), j_set_n _ _ _ (by omega), j_set_n _ _ _ (by omega), el, hf, em_eq (by omega) (by omega)] at c94
    refine fin M9 1 hS9 hr9 ?_
    unfold suW ruS
    simp [c94]
theorem c_R_wins2 {d h last a b : Nat} {s : Sg} {M : j_M} {Q : Option Value → j_M → Prop} (hw : WF s) (hR : RepR s M) (hr : RdR s M) (hh : h < g_hn s) (hl : last < 10) (ha : a < 30) (hb : b < 30)
    (k : ∀ M', ScrR M M' → RdR s M' → (∀ i, i < 2 → M' 93 i = nI ([a, b].getD i 0)) → Q (some (.int (if suW s h last [a, b] then 1 else 0))) M') : j_Ct (d + 3) I_R_wins [.ref 79, .int (nI h), .int (nI last), .int (nI a), .int (nI b), .int (-1)] M Q := by
  refine j_met (by decide +kernel) co_R_wins (Nat.le_of_ble_eq_true rfl) (fun X hX => ?_)
  show j_W (d + 3) I_R_wins X 0 [some (.ref 79), some (.int (nI h)), some (.int (nI last)), some (.int (nI a)), some (.int (nI b)), some (.int (-1))] [] M
  have hn6 : g_hn s ≤ 6 := hnB_le hw.1
  have hvl : vp_in (nI last) 30 := vp_in_nI (by omega) (by omega)
  have el : (nI last).toNatClampNeg = last := nI_cl (by omega)
  have ea3 : nI a / 3 = nI (a / 3) := pk_div (d := 3) (by omega) (by omega) (by omega)
  have ear : nI a - nI a / 3 * 3 = nI (a % 3) := pk_rem (d := 3) (by omega) (by omega) (by omega)
  have eb3 : nI b / 3 = nI (b / 3) := pk_div (d := 3) (by omega) (by omega) (by omega)
  have ebr : nI b - nI b / 3 * 3 = nI (b % 3) := pk_rem (d := 3) (by omega) (by omega) (by omega)
  have fin : ∀ (M9 : j_M) (v : Int32), ScrR M M9 → RdR s M9 → v = (if suW s h last [a, b] then 1 else 0) → Q (some (.int v)) (j_set (j_set (j_set M9 93 0 (nI a)) 93 1 (nI b)) 93 2 (-1)) := by
    intro M9 v hS9 hr9 hv
    rw [hv]
    refine k _ (hS9.tr ((ScrR.arr (by unfold PR; omega)).tr ((ScrR.arr (by unfold PR; omega)).tr (ScrR.arr (by unfold PR; omega))))) (hr9.of (by rw [j_set_n _ _ _ (by omega), j_set_n _ _ _ (by omega), j_set_n _ _ _ (by omega)]) (by rw [j_set_n _ _ _ (by omega), j_set_n _ _ _ (by omega), j_set_n _ _ _ (by omega)])) (fun i hi => ?_)
    have h2 : i = 0 ∨ i = 1 := by omega
    rcases h2 with rfl | rfl <;> simp [j_set_s, upd]
  refine jx_aload0 (pc := 0) d_R_wins_0 ?_
  refine jx_callV0 (pc := 1) (d' := 0) vo_R_asTold lk_R_172 d_R_wins_1 ad_79 sh_79 rfl (by omega) (Nat.le_of_ble_eq_true rfl) ?_
  refine c_R_asTold hR.v (fun M1 h14 h18 h19 hb1 hq1 => ?_)
  have hS0 : ScrR M M1 := scr_told hb1 hq1
  have hr0 : RdR s M1 := hr.of (hq1 2 (by omega) (by omega) (by omega)) (hb1 81 (by omega))
  have hN0 : NMo V0 M1 := NMo.zero h14
  refine jx_r0 ?_
  refine jx_iload3 (pc := 4) d_R_wins_4 ?_
  refine jx_iconst (pc := 5) (v := (-1)) d_R_wins_5 (by decide) ?_
  refine jx_icmp_eq (pc := 6) 20 d_R_wins_6 (by decide) (fun c6 => absurd c6 (nI_ne_m1 (show a < 2 ^ 31 by omega))) (fun c6 => ?_)
  refine jx_aload0 (pc := 9) d_R_wins_9 ?_
  refine jx_iload3 (pc := 10) d_R_wins_10 ?_
  refine jx_iconst (pc := 11) (v := 3) d_R_wins_11 (by decide) ?_
  refine jx_idiv (pc := 12) d_R_wins_12 (by decide) ?_
  refine jx_iload1 (pc := 13) d_R_wins_13 ?_
  refine jx_iload3 (pc := 14) d_R_wins_14 ?_
  refine jx_iconst (pc := 15) (v := 3) d_R_wins_15 (by decide) ?_
  refine jx_irem (pc := 16) d_R_wins_16 (by decide) ?_
  refine jx_callV3 (pc := 17) (d' := 0) vo_R_adds lk_R_216 d_R_wins_17 ad_79 sh_79 rfl (by omega) (Nat.le_of_ble_eq_true rfl) ?_
  rw [ear, ea3]
  refine c_R_addsN hN0 (by show 0 < 30; omega) (show a / 3 < 30 by omega) (show h < 6 by omega) (Nat.mod_lt _ (by omega)) (fun M2 hN1 hb2 hq2 => ?_)
  have hS1 : ScrR M M2 := hS0.tr (scr_adds hb2 hq2)
  have hr1 : RdR s M2 := hr0.of (hq2 2 (by omega)) (hb2 81 (by omega) (by omega) (by omega) (by omega))
  have h181 : M2 79 18 = nI (g_wy s 3) := by rw [hq2 18 (by omega)]; exact h18
  have h191 : M2 79 19 = -1 := by rw [hq2 19 (by omega)]; exact h19
  refine jx_r0 ?_
  refine jx_iload4 (pc := 20) d_R_wins_20 ?_
  refine jx_iconst (pc := 22) (v := (-1)) d_R_wins_22 (by decide) ?_
  refine jx_icmp_eq (pc := 23) 39 d_R_wins_23 (by decide) (fun c23 => absurd c23 (nI_ne_m1 (show b < 2 ^ 31 by omega))) (fun c23 => ?_)
  refine jx_aload0 (pc := 26) d_R_wins_26 ?_
  refine jx_iload4 (pc := 27) d_R_wins_27 ?_
  refine jx_iconst (pc := 29) (v := 3) d_R_wins_29 (by decide) ?_
  refine jx_idiv (pc := 30) d_R_wins_30 (by decide) ?_
  refine jx_iload1 (pc := 31) d_R_wins_31 ?_
  refine jx_iload4 (pc := 32) d_R_wins_32 ?_
  refine jx_iconst (pc := 34) (v := 3) d_R_wins_34 (by decide) ?_
  refine jx_irem (pc := 35) d_R_wins_35 (by decide) ?_
  refine jx_callV3 (pc := 36) (d' := 0) vo_R_adds lk_R_216 d_R_wins_36 ad_79 sh_79 rfl (by omega) (Nat.le_of_ble_eq_true rfl) ?_
  rw [ebr, eb3]
  refine c_R_addsN hN1 (by show 1 < 30; omega) (show b / 3 < 30 by omega) (show h < 6 by omega) (Nat.mod_lt _ (by omega)) (fun M3 hN2 hb3 hq3 => ?_)
  have hS2 : ScrR M M3 := hS1.tr (scr_adds hb3 hq3)
  have hr2 : RdR s M3 := hr1.of (hq3 2 (by omega)) (hb3 81 (by omega) (by omega) (by omega) (by omega))
  have h182 : M3 79 18 = nI (g_wy s 3) := by rw [hq3 18 (by omega)]; exact h181
  have h192 : M3 79 19 = -1 := by rw [hq3 19 (by omega)]; exact h191
  refine jx_r0 ?_
  refine jx_iload5 (pc := 39) d_R_wins_39 ?_
  refine jx_iconst (pc := 41) (v := (-1)) d_R_wins_41 (by decide) ?_
  refine jx_icmp_eq (pc := 42) 58 d_R_wins_42 (by decide) (fun c42 => ?_) (fun c42 => absurd c42 (fun z => z rfl))
  refine jx_aload0 (pc := 58) d_R_wins_58 ?_
  refine jx_iconst (pc := 59) (v := 0) d_R_wins_59 (by decide) ?_
  refine jx_iload2 (pc := 60) d_R_wins_60 ?_
  refine jx_callV2 (pc := 61) (d' := d + 2) vo_R_runs lk_R_175 d_R_wins_61 ad_79 sh_79 rfl (by omega) (Nat.le_of_ble_eq_true rfl) ?_
  have hE := er_N hw (hS2.rep hR) hr2 (show NMo (nN h [a, b]) M3 from hN2) h182 hw.2.2.2.2.1 h192
  have hfl := fdN_lt hw hE (k := last + 1) (by omega)
  refine c_R_runs (dog := 0) (by omega) (show last < 30 by omega) hE (Or.inr rfl) (fun M9 h91 h89 hO9 => ?_)
  have hf := h91 last (Nat.le_refl _)
  rw [bsR_nN] at hf hfl
  have hS9 := hS2.tr (ScrR.offR hO9)
  have hr9 : RdR s M9 := hr2.of (hO9.2 2 (by omega) (by omega)) (hO9.1 81 (by omega) (by omega) (by omega) (by omega))
  refine jx_r0 ?_
  refine jx_aload0 (pc := 64) d_R_wins_64 ?_
  refine jx_getR (pc := 65) gf_R_49 d_R_wins_65 ad_79 sh_79 rfl ?_
  refine jx_iconst (pc := 68) (v := 0) d_R_wins_68 (by decide) ?_
  refine jx_iload3 (pc := 69) d_R_wins_69 ?_
  refine jx_iastK (pc := 70) 0 d_R_wins_70 ad_93 sh_93 (by decide) (by unfold vp_in; decide) ?_
  refine jx_aload0 (pc := 71) d_R_wins_71 ?_
  refine jx_getR (pc := 72) gf_R_49 d_R_wins_72 ad_79 sh_79 rfl ?_
  refine jx_iconst (pc := 75) (v := 1) d_R_wins_75 (by decide) ?_
  refine jx_iload4 (pc := 76) d_R_wins_76 ?_
  refine jx_iastK (pc := 78) 1 d_R_wins_78 ad_93 sh_93 (by decide) (by unfold vp_in; decide) ?_
  refine jx_aload0 (pc := 79) d_R_wins_79 ?_
  refine jx_getR (pc := 80) gf_R_49 d_R_wins_80 ad_79 sh_79 rfl ?_
  refine jx_iconst (pc := 83) (v := 2) d_R_wins_83 (by decide) ?_
  refine jx_iload5 (pc := 84) d_R_wins_84 ?_
  refine jx_iastK (pc := 86) 2 d_R_wins_86 ad_93 sh_93 (by decide) (by unfold vp_in; decide) ?_
  refine jx_aload0 (pc := 87) d_R_wins_87 ?_
  refine jx_getR (pc := 88) gf_R_43 d_R_wins_88 ad_79 sh_79 rfl ?_
  refine jx_iload2 (pc := 91) d_R_wins_91 ?_
  refine jx_iald (pc := 92) d_R_wins_92 ad_91 sh_91 (by first | exact hvl | (rw [j_set_n _ _ _ (by omega)]; exact hvl)) ?_
  refine jx_iload1 (pc := 93) d_R_wins_93 ?_
  refine jx_icmp_ne (pc := 94) 101 d_R_wins_94 (by decide) (fun c94 => ?_) (fun c94 => ?_)
  refine jx_iconst (pc := 101) (v := 0) d_R_wins_101 (by decide) ?_
  refine jx_zret (pc := 102) hX rfl (by first | exact Or.inl rfl | exact Or.inr rfl) d_R_wins_102 ?_
  rotate_left
  refine jx_iconst (pc := 97) (v := 1) d_R_wins_97 (by decide) ?_
  refine jx_goto (pc := 98) 102 d_R_wins_98 (by decide) ?_
  refine jx_zret (pc := 102) hX rfl (by first | exact Or.inl rfl | exact Or.inr rfl) d_R_wins_102 ?_
  rotate_left
  · rw [j_set_n _ _ _ (by omega), j_set_n _ _ _ (by omega), j_set_n _ _ _ (by omega), el, hf, em_eq (by omega) (by omega)] at c94
    refine fin M9 0 hS9 hr9 ?_
    unfold suW ruS
    simp [c94]
  · rw [j_set_n _ _ _ (by omega), j_set_n _ _ _ (by omega), j_set_n _ _ _ (by omega), el, hf, em_eq (by omega) (by omega)] at c94
    refine fin M9 1 hS9 hr9 ?_
    unfold suW ruS
    simp [c94]
theorem c_R_wins3 {d h last a b c : Nat} {s : Sg} {M : j_M} {Q : Option Value → j_M → Prop} (hw : WF s) (hR : RepR s M) (hr : RdR s M) (hh : h < g_hn s) (hl : last < 10) (ha : a < 30) (hb : b < 30) (hc : c < 30)
    (k : ∀ M', ScrR M M' → RdR s M' → (∀ i, i < 3 → M' 93 i = nI ([a, b, c].getD i 0)) → Q (some (.int (if suW s h last [a, b, c] then 1 else 0))) M') : j_Ct (d + 3) I_R_wins [.ref 79, .int (nI h), .int (nI last), .int (nI a), .int (nI b), .int (nI c)] M Q := by
  refine j_met (by decide +kernel) co_R_wins (Nat.le_of_ble_eq_true rfl) (fun X hX => ?_)
  show j_W (d + 3) I_R_wins X 0 [some (.ref 79), some (.int (nI h)), some (.int (nI last)), some (.int (nI a)), some (.int (nI b)), some (.int (nI c))] [] M
  have hn6 : g_hn s ≤ 6 := hnB_le hw.1
  have hvl : vp_in (nI last) 30 := vp_in_nI (by omega) (by omega)
  have el : (nI last).toNatClampNeg = last := nI_cl (by omega)
  have ea3 : nI a / 3 = nI (a / 3) := pk_div (d := 3) (by omega) (by omega) (by omega)
  have ear : nI a - nI a / 3 * 3 = nI (a % 3) := pk_rem (d := 3) (by omega) (by omega) (by omega)
  have eb3 : nI b / 3 = nI (b / 3) := pk_div (d := 3) (by omega) (by omega) (by omega)
  have ebr : nI b - nI b / 3 * 3 = nI (b % 3) := pk_rem (d := 3) (by omega) (by omega) (by omega)
  have ec3 : nI c / 3 = nI (c / 3) := pk_div (d := 3) (by omega) (by omega) (by omega)
  have ecr : nI c - nI c / 3 * 3 = nI (c % 3) := pk_rem (d := 3) (by omega) (by omega) (by omega)
  have fin : ∀ (M9 : j_M) (v : Int32), ScrR M M9 → RdR s M9 → v = (if suW s h last [a, b, c] then 1 else 0) → Q (some (.int v)) (j_set (j_set (j_set M9 93 0 (nI a)) 93 1 (nI b)) 93 2 (nI c)) := by
    intro M9 v hS9 hr9 hv
    rw [hv]
    refine k _ (hS9.tr ((ScrR.arr (by unfold PR; omega)).tr ((ScrR.arr (by unfold PR; omega)).tr (ScrR.arr (by unfold PR; omega))))) (hr9.of (by rw [j_set_n _ _ _ (by omega), j_set_n _ _ _ (by omega), j_set_n _ _ _ (by omega)]) (by rw [j_set_n _ _ _ (by omega), j_set_n _ _ _ (by omega), j_set_n _ _ _ (by omega)])) (fun i hi => ?_)
    have h3 : i = 0 ∨ i = 1 ∨ i = 2 := by omega
    rcases h3 with rfl | rfl | rfl <;> simp [j_set_s, upd]
  refine jx_aload0 (pc := 0) d_R_wins_0 ?_
  refine jx_callV0 (pc := 1) (d' := 0) vo_R_asTold lk_R_172 d_R_wins_1 ad_79 sh_79 rfl (by omega) (Nat.le_of_ble_eq_true rfl) ?_
  refine c_R_asTold hR.v (fun M1 h14 h18 h19 hb1 hq1 => ?_)
  have hS0 : ScrR M M1 := scr_told hb1 hq1
  have hr0 : RdR s M1 := hr.of (hq1 2 (by omega) (by omega) (by omega)) (hb1 81 (by omega))
  have hN0 : NMo V0 M1 := NMo.zero h14
  refine jx_r0 ?_
  refine jx_iload3 (pc := 4) d_R_wins_4 ?_
  refine jx_iconst (pc := 5) (v := (-1)) d_R_wins_5 (by decide) ?_
  refine jx_icmp_eq (pc := 6) 20 d_R_wins_6 (by decide) (fun c6 => absurd c6 (nI_ne_m1 (show a < 2 ^ 31 by omega))) (fun c6 => ?_)
  refine jx_aload0 (pc := 9) d_R_wins_9 ?_
  refine jx_iload3 (pc := 10) d_R_wins_10 ?_
  refine jx_iconst (pc := 11) (v := 3) d_R_wins_11 (by decide) ?_
  refine jx_idiv (pc := 12) d_R_wins_12 (by decide) ?_
  refine jx_iload1 (pc := 13) d_R_wins_13 ?_
  refine jx_iload3 (pc := 14) d_R_wins_14 ?_
  refine jx_iconst (pc := 15) (v := 3) d_R_wins_15 (by decide) ?_
  refine jx_irem (pc := 16) d_R_wins_16 (by decide) ?_
  refine jx_callV3 (pc := 17) (d' := 0) vo_R_adds lk_R_216 d_R_wins_17 ad_79 sh_79 rfl (by omega) (Nat.le_of_ble_eq_true rfl) ?_
  rw [ear, ea3]
  refine c_R_addsN hN0 (by show 0 < 30; omega) (show a / 3 < 30 by omega) (show h < 6 by omega) (Nat.mod_lt _ (by omega)) (fun M2 hN1 hb2 hq2 => ?_)
  have hS1 : ScrR M M2 := hS0.tr (scr_adds hb2 hq2)
  have hr1 : RdR s M2 := hr0.of (hq2 2 (by omega)) (hb2 81 (by omega) (by omega) (by omega) (by omega))
  have h181 : M2 79 18 = nI (g_wy s 3) := by rw [hq2 18 (by omega)]; exact h18
  have h191 : M2 79 19 = -1 := by rw [hq2 19 (by omega)]; exact h19
  refine jx_r0 ?_
  refine jx_iload4 (pc := 20) d_R_wins_20 ?_
  refine jx_iconst (pc := 22) (v := (-1)) d_R_wins_22 (by decide) ?_
  refine jx_icmp_eq (pc := 23) 39 d_R_wins_23 (by decide) (fun c23 => absurd c23 (nI_ne_m1 (show b < 2 ^ 31 by omega))) (fun c23 => ?_)
  refine jx_aload0 (pc := 26) d_R_wins_26 ?_
  refine jx_iload4 (pc := 27) d_R_wins_27 ?_
  refine jx_iconst (pc := 29) (v := 3) d_R_wins_29 (by decide) ?_
  refine jx_idiv (pc := 30) d_R_wins_30 (by decide) ?_
  refine jx_iload1 (pc := 31) d_R_wins_31 ?_
  refine jx_iload4 (pc := 32) d_R_wins_32 ?_
  refine jx_iconst (pc := 34) (v := 3) d_R_wins_34 (by decide) ?_
  refine jx_irem (pc := 35) d_R_wins_35 (by decide) ?_
  refine jx_callV3 (pc := 36) (d' := 0) vo_R_adds lk_R_216 d_R_wins_36 ad_79 sh_79 rfl (by omega) (Nat.le_of_ble_eq_true rfl) ?_
  rw [ebr, eb3]
  refine c_R_addsN hN1 (by show 1 < 30; omega) (show b / 3 < 30 by omega) (show h < 6 by omega) (Nat.mod_lt _ (by omega)) (fun M3 hN2 hb3 hq3 => ?_)
  have hS2 : ScrR M M3 := hS1.tr (scr_adds hb3 hq3)
  have hr2 : RdR s M3 := hr1.of (hq3 2 (by omega)) (hb3 81 (by omega) (by omega) (by omega) (by omega))
  have h182 : M3 79 18 = nI (g_wy s 3) := by rw [hq3 18 (by omega)]; exact h181
  have h192 : M3 79 19 = -1 := by rw [hq3 19 (by omega)]; exact h191
  refine jx_r0 ?_
  refine jx_iload5 (pc := 39) d_R_wins_39 ?_
  refine jx_iconst (pc := 41) (v := (-1)) d_R_wins_41 (by decide) ?_
  refine jx_icmp_eq (pc := 42) 58 d_R_wins_42 (by decide) (fun c42 => absurd c42 (nI_ne_m1 (show c < 2 ^ 31 by omega))) (fun c42 => ?_)
  refine jx_aload0 (pc := 45) d_R_wins_45 ?_
  refine jx_iload5 (pc := 46) d_R_wins_46 ?_
  refine jx_iconst (pc := 48) (v := 3) d_R_wins_48 (by decide) ?_
  refine jx_idiv (pc := 49) d_R_wins_49 (by decide) ?_
  refine jx_iload1 (pc := 50) d_R_wins_50 ?_
  refine jx_iload5 (pc := 51) d_R_wins_51 ?_
  refine jx_iconst (pc := 53) (v := 3) d_R_wins_53 (by decide) ?_
  refine jx_irem (pc := 54) d_R_wins_54 (by decide) ?_
  refine jx_callV3 (pc := 55) (d' := 0) vo_R_adds lk_R_216 d_R_wins_55 ad_79 sh_79 rfl (by omega) (Nat.le_of_ble_eq_true rfl) ?_
  rw [ecr, ec3]
  refine c_R_addsN hN2 (by show 2 < 30; omega) (show c / 3 < 30 by omega) (show h < 6 by omega) (Nat.mod_lt _ (by omega)) (fun M4 hN3 hb4 hq4 => ?_)
  have hS3 : ScrR M M4 := hS2.tr (scr_adds hb4 hq4)
  have hr3 : RdR s M4 := hr2.of (hq4 2 (by omega)) (hb4 81 (by omega) (by omega) (by omega) (by omega))
  have h183 : M4 79 18 = nI (g_wy s 3) := by rw [hq4 18 (by omega)]; exact h182
  have h193 : M4 79 19 = -1 := by rw [hq4 19 (by omega)]; exact h192
  refine jx_r0 ?_
  refine jx_aload0 (pc := 58) d_R_wins_58 ?_
  refine jx_iconst (pc := 59) (v := 0) d_R_wins_59 (by decide) ?_
  refine jx_iload2 (pc := 60) d_R_wins_60 ?_
  refine jx_callV2 (pc := 61) (d' := d + 2) vo_R_runs lk_R_175 d_R_wins_61 ad_79 sh_79 rfl (by omega) (Nat.le_of_ble_eq_true rfl) ?_
  have hE := er_N hw (hS3.rep hR) hr3 (show NMo (nN h [a, b, c]) M4 from hN3) h183 hw.2.2.2.2.1 h193
  have hfl := fdN_lt hw hE (k := last + 1) (by omega)
  refine c_R_runs (dog := 0) (by omega) (show last < 30 by omega) hE (Or.inr rfl) (fun M9 h91 h89 hO9 => ?_)
  have hf := h91 last (Nat.le_refl _)
  rw [bsR_nN] at hf hfl
  have hS9 := hS3.tr (ScrR.offR hO9)
  have hr9 : RdR s M9 := hr3.of (hO9.2 2 (by omega) (by omega)) (hO9.1 81 (by omega) (by omega) (by omega) (by omega))
  refine jx_r0 ?_
  refine jx_aload0 (pc := 64) d_R_wins_64 ?_
  refine jx_getR (pc := 65) gf_R_49 d_R_wins_65 ad_79 sh_79 rfl ?_
  refine jx_iconst (pc := 68) (v := 0) d_R_wins_68 (by decide) ?_
  refine jx_iload3 (pc := 69) d_R_wins_69 ?_
  refine jx_iastK (pc := 70) 0 d_R_wins_70 ad_93 sh_93 (by decide) (by unfold vp_in; decide) ?_
  refine jx_aload0 (pc := 71) d_R_wins_71 ?_
  refine jx_getR (pc := 72) gf_R_49 d_R_wins_72 ad_79 sh_79 rfl ?_
  refine jx_iconst (pc := 75) (v := 1) d_R_wins_75 (by decide) ?_
  refine jx_iload4 (pc := 76) d_R_wins_76 ?_
  refine jx_iastK (pc := 78) 1 d_R_wins_78 ad_93 sh_93 (by decide) (by unfold vp_in; decide) ?_
  refine jx_aload0 (pc := 79) d_R_wins_79 ?_
  refine jx_getR (pc := 80) gf_R_49 d_R_wins_80 ad_79 sh_79 rfl ?_
  refine jx_iconst (pc := 83) (v := 2) d_R_wins_83 (by decide) ?_
  refine jx_iload5 (pc := 84) d_R_wins_84 ?_
  refine jx_iastK (pc := 86) 2 d_R_wins_86 ad_93 sh_93 (by decide) (by unfold vp_in; decide) ?_
  refine jx_aload0 (pc := 87) d_R_wins_87 ?_
  refine jx_getR (pc := 88) gf_R_43 d_R_wins_88 ad_79 sh_79 rfl ?_
  refine jx_iload2 (pc := 91) d_R_wins_91 ?_
  refine jx_iald (pc := 92) d_R_wins_92 ad_91 sh_91 (by first | exact hvl | (rw [j_set_n _ _ _ (by omega)]; exact hvl)) ?_
  refine jx_iload1 (pc := 93) d_R_wins_93 ?_
  refine jx_icmp_ne (pc := 94) 101 d_R_wins_94 (by decide) (fun c94 => ?_) (fun c94 => ?_)
  refine jx_iconst (pc := 101) (v := 0) d_R_wins_101 (by decide) ?_
  refine jx_zret (pc := 102) hX rfl (by first | exact Or.inl rfl | exact Or.inr rfl) d_R_wins_102 ?_
  rotate_left
  refine jx_iconst (pc := 97) (v := 1) d_R_wins_97 (by decide) ?_
  refine jx_goto (pc := 98) 102 d_R_wins_98 (by decide) ?_
  refine jx_zret (pc := 102) hX rfl (by first | exact Or.inl rfl | exact Or.inr rfl) d_R_wins_102 ?_
  rotate_left
  · rw [j_set_n _ _ _ (by omega), j_set_n _ _ _ (by omega), j_set_n _ _ _ (by omega), el, hf, em_eq (by omega) (by omega)] at c94
    refine fin M9 0 hS9 hr9 ?_
    unfold suW ruS
    simp [c94]
  · rw [j_set_n _ _ _ (by omega), j_set_n _ _ _ (by omega), j_set_n _ _ _ (by omega), el, hf, em_eq (by omega) (by omega)] at c94
    refine fin M9 1 hS9 hr9 ?_
    unfold suW ruS
    simp [c94]
