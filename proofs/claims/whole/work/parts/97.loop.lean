theorem lw_le {i N : Nat} (hi : i ≤ N) (hN : N ≤ 3072) (h : ¬ nI N - 6 < nI i) : i + 6 ≤ N := by
  have h1 : (nI N - 6).toInt = (N : Int) - 6 := by
    rw [Int32.toInt_sub, nI_toInt (by omega)]
    have : (6 : Int32).toInt = 6 := rfl
    rw [this, Int.bmod_eq_of_le (by omega) (by omega)]
  rw [fa_lt, h1, nI_toInt (by omega)] at h
  omega
theorem law_loop {X : j_X} {N : Nat} {xs : Nat → Int32} (hsc : l_Scr X N xs) (hN : N ≤ 3072) (hE : ∀ L M, j_W 60 I_L_law X 1266 L [.int 1] M) : ∀ (n i : Nat), N + 1 ≤ i + n → i ≤ N → ∀ (s : Sg) (M : j_M), WF s → RepC s M → RepR s M → j_W 60 I_L_law X 18 (l_L (nI i)) [] M := by
  intro n
  induction n with
  | zero => intro i h1 h2; omega
  | succ n ih =>
    intro i h1 h2 s M hw hC hR
    show j_W 60 I_L_law X 18 [some (.ref 106), some (.ref 0), some (.ref 79), some (.int (nI i))] [] M
    refine jx_iload3 (pc := 18) d_L_law_18 ?_
    refine jx_aload0 (pc := 19) d_L_law_19 ?_
    refine jx_slen (pc := 20) hsc d_L_law_20 ?_
    refine jx_bipush (pc := 21) (v := 6) d_L_law_21 (by decide) ?_
    refine jx_isub (pc := 23) d_L_law_23 ?_
    refine jx_icmp_gt (pc := 24) 1265 d_L_law_24 (by decide) (fun c24 => ?_) (fun c24 => ?_)
    refine jx_iconst (pc := 1265) (v := 1) d_L_law_1265 (by decide) ?_
    rotate_left
    rotate_left
    · exact hE _ _
    · have h6 := lw_le h2 hN c24
      have hv0 : vp_in (nI i) N := vp_in_nI (by omega) (by omega)
      have hv1 : vp_in (nI i + 1) N := by rw [show nI i + 1 = nI (i + 1) from nI_add i 1]; exact vp_in_nI (by omega) (by omega)
      have hv2 : vp_in (nI i + 2) N := by rw [show nI i + 2 = nI (i + 2) from nI_add i 2]; exact vp_in_nI (by omega) (by omega)
      have hv3 : vp_in (nI i + 3) N := by rw [show nI i + 3 = nI (i + 3) from nI_add i 3]; exact vp_in_nI (by omega) (by omega)
      have hv4 : vp_in (nI i + 4) N := by rw [show nI i + 4 = nI (i + 4) from nI_add i 4]; exact vp_in_nI (by omega) (by omega)
      have hv5 : vp_in (nI i + 5) N := by rw [show nI i + 5 = nI (i + 5) from nI_add i 5]; exact vp_in_nI (by omega) (by omega)
      have kn : ∀ s2 M2, WF s2 → RepC s2 M2 → RepR s2 M2 → j_W 60 I_L_law X 1259 (l_L (nI i)) [] M2 := by
        intro s2 M2 w2 C2 R2
        show j_W 60 I_L_law X 1259 [some (.ref 106), some (.ref 0), some (.ref 79), some (.int (nI i))] [] M2
        refine jx_iinc3 (pc := 1259) d_L_law_1259 rfl (Nat.le_of_ble_eq_true rfl) ?_
        refine jx_goto (pc := 1262) 18 d_L_law_1262 (by decide) ?_
        rw [show nI i + Int32.ofInt 6 = nI (i + 6) from nI_add i 6]; exact ih (i + 6) (by omega) h6 s2 M2 w2 C2 R2
      refine jx_aload0 (pc := 27) d_L_law_27 ?_
      refine jx_iload3 (pc := 28) d_L_law_28 ?_
      refine jx_sld (pc := 29) hsc d_L_law_29 (by first | assumption | exact vp_in_nI (by omega) (by omega)) ?_
      refine jx_bipush (pc := 30) (v := 63) d_L_law_30 (by decide) ?_
      refine jx_iand (pc := 32) d_L_law_32 ?_
      generalize xs (nI i).toNatClampNeg &&& 63 = v
      by_cases hv : v.toInt < 0 ∨ 33 < v.toInt
      · exact jx_tableOut (pc := 33) 1259 d_L_law_33 hv (by decide) (kn s M hw hC hR)
      · have hc : v.toInt = 0 ∨ v.toInt = 1 ∨ v.toInt = 2 ∨ v.toInt = 3 ∨ v.toInt = 4 ∨ v.toInt = 5 ∨ v.toInt = 6 ∨ v.toInt = 7 ∨ v.toInt = 8 ∨ v.toInt = 9 ∨ v.toInt = 10 ∨ v.toInt = 11 ∨ v.toInt = 12 ∨ v.toInt = 13 ∨ v.toInt = 14 ∨ v.toInt = 15 ∨ v.toInt = 16 ∨ v.toInt = 17 ∨ v.toInt = 18 ∨ v.toInt = 19 ∨ v.toInt = 20 ∨ v.toInt = 21 ∨ v.toInt = 22 ∨ v.toInt = 23 ∨ v.toInt = 24 ∨ v.toInt = 25 ∨ v.toInt = 26 ∨ v.toInt = 27 ∨ v.toInt = 28 ∨ v.toInt = 29 ∨ v.toInt = 30 ∨ v.toInt = 31 ∨ v.toInt = 32 ∨ v.toInt = 33 := by omega
        rcases hc with hc | hc | hc | hc | hc | hc | hc | hc | hc | hc | hc | hc | hc | hc | hc | hc | hc | hc | hc | hc | hc | hc | hc | hc | hc | hc | hc | hc | hc | hc | hc | hc | hc | hc
        · exact jx_tableIn (pc := 33) 184 d_L_law_33 (by omega) (by omega) (off := 151) (by rw [hc]; rfl) (by decide) (lc_type hsc hv1 hv2 hv3 hv4 hv5 hw hC hR kn)
        · exact jx_tableIn (pc := 33) 207 d_L_law_33 (by omega) (by omega) (off := 174) (by rw [hc]; rfl) (by decide) (lc_wipe hsc hv1 hv2 hv3 hv4 hv5 hw hC hR kn)
        · exact jx_tableIn (pc := 33) 220 d_L_law_33 (by omega) (by omega) (off := 187) (by rw [hc]; rfl) (by decide) (lc_undo hsc hv1 hv2 hv3 hv4 hv5 hw hC hR kn)
        · exact jx_tableIn (pc := 33) 233 d_L_law_33 (by omega) (by omega) (off := 200) (by rw [hc]; rfl) (by decide) (lc_fault hsc hv1 hv2 hv3 hv4 hv5 hw hC hR kn)
        · exact jx_tableIn (pc := 33) 246 d_L_law_33 (by omega) (by omega) (off := 213) (by rw [hc]; rfl) (by decide) (lc_good hsc hv1 hv2 hv3 hv4 hv5 hw hC hR kn)
        · exact jx_tableIn (pc := 33) 279 d_L_law_33 (by omega) (by omega) (off := 246) (by rw [hc]; rfl) (by decide) (lc_taste hsc hv1 hv2 hv3 hv4 hv5 hw hC hR kn)
        · exact jx_tableIn (pc := 33) 322 d_L_law_33 (by omega) (by omega) (off := 289) (by rw [hc]; rfl) (by decide) (lc_set hsc hv1 hv2 hv3 hv4 hv5 hw hC hR kn)
        · exact jx_tableIn (pc := 33) 355 d_L_law_33 (by omega) (by omega) (off := 322) (by rw [hc]; rfl) (by decide) (lc_visit hsc hv1 hv2 hv3 hv4 hv5 hw hC hR kn)
        · exact jx_tableIn (pc := 33) 398 d_L_law_33 (by omega) (by omega) (off := 365) (by rw [hc]; rfl) (by decide) (lc_back hsc hv1 hv2 hv3 hv4 hv5 hw hC hR kn)
        · exact jx_tableIn (pc := 33) 411 d_L_law_33 (by omega) (by omega) (off := 378) (by rw [hc]; rfl) (by decide) (lc_read hsc hv1 hv2 hv3 hv4 hv5 hw hC hR kn)
        · exact jx_tableIn (pc := 33) 434 d_L_law_33 (by omega) (by omega) (off := 401) (by rw [hc]; rfl) (by decide) (lc_liking hsc hv1 hv2 hv3 hv4 hv5 hw hC hR kn)
        · exact jx_tableIn (pc := 33) 477 d_L_law_33 (by omega) (by omega) (off := 444) (by rw [hc]; rfl) (by decide) (lc_found hsc hv1 hv2 hv3 hv4 hv5 hw hC hR kn)
        · exact jx_tableIn (pc := 33) 510 d_L_law_33 (by omega) (by omega) (off := 477) (by rw [hc]; rfl) (by decide) (lc_share hsc hv1 hv2 hv3 hv4 hv5 hw hC hR kn)
        · exact jx_tableIn (pc := 33) 554 d_L_law_33 (by omega) (by omega) (off := 521) (by rw [hc]; rfl) (by decide) (lc_quarrel hsc hv1 hv2 hv3 hv4 hv5 hw hC hR kn)
        · exact jx_tableIn (pc := 33) 577 d_L_law_33 (by omega) (by omega) (off := 544) (by rw [hc]; rfl) (by decide) (lc_dissent hsc hv1 hv2 hv3 hv4 hv5 hw hC hR kn)
        · exact jx_tableIn (pc := 33) 590 d_L_law_33 (by omega) (by omega) (off := 557) (by rw [hc]; rfl) (by decide) (lc_changes hsc hv1 hv2 hv3 hv4 hv5 hw hC hR kn)
        · exact jx_tableIn (pc := 33) 603 d_L_law_33 (by omega) (by omega) (off := 570) (by rw [hc]; rfl) (by decide) (lc_suit hsc hv1 hv2 hv3 hv4 hv5 hw hC hR kn)
        · exact jx_tableIn (pc := 33) 646 d_L_law_33 (by omega) (by omega) (off := 613) (by rw [hc]; rfl) (by decide) (lc_replies hsc hv1 hv2 hv3 hv4 hv5 hw hC hR kn)
        · exact jx_tableIn (pc := 33) 699 d_L_law_33 (by omega) (by omega) (off := 666) (by rw [hc]; rfl) (by decide) (lc_seen hsc hv1 hv2 hv3 hv4 hv5 hw hC hR kn)
        · exact jx_tableIn (pc := 33) 732 d_L_law_33 (by omega) (by omega) (off := 699) (by rw [hc]; rfl) (by decide) (lc_forget hsc hv1 hv2 hv3 hv4 hv5 hw hC hR kn)
        · exact jx_tableIn (pc := 33) 745 d_L_law_33 (by omega) (by omega) (off := 712) (by rw [hc]; rfl) (by decide) (lc_tastes hsc hv1 hv2 hv3 hv4 hv5 hw hC hR kn)
        · exact jx_tableIn (pc := 33) 768 d_L_law_33 (by omega) (by omega) (off := 735) (by rw [hc]; rfl) (by decide) (lc_tells hsc hv1 hv2 hv3 hv4 hv5 hw hC hR kn)
        · exact jx_tableIn (pc := 33) 801 d_L_law_33 (by omega) (by omega) (off := 768) (by rw [hc]; rfl) (by decide) (lc_trainer hsc hv1 hv2 hv3 hv4 hv5 hw hC hR kn)
        · exact jx_tableIn (pc := 33) 814 d_L_law_33 (by omega) (by omega) (off := 781) (by rw [hc]; rfl) (by decide) (lc_chance hsc hv1 hv2 hv3 hv4 hv5 hw hC hR kn)
        · exact jx_tableIn (pc := 33) 868 d_L_law_33 (by omega) (by omega) (off := 835) (by rw [hc]; rfl) (by decide) (lc_heard hsc hv1 hv2 hv3 hv4 hv5 hw hC hR kn)
        · exact jx_tableIn (pc := 33) 921 d_L_law_33 (by omega) (by omega) (off := 888) (by rw [hc]; rfl) (by decide) (lc_weeks hsc hv1 hv2 hv3 hv4 hv5 hw hC hR kn)
        · exact jx_tableIn (pc := 33) 964 d_L_law_33 (by omega) (by omega) (off := 931) (by rw [hc]; rfl) (by decide) (lc_sheet hsc hv1 hv2 hv3 hv4 hv5 hw hC hR kn)
        · exact jx_tableIn (pc := 33) 1007 d_L_law_33 (by omega) (by omega) (off := 974) (by rw [hc]; rfl) (by decide) (lc_lose hsc hv1 hv2 hv3 hv4 hv5 hw hC hR kn)
        · exact jx_tableIn (pc := 33) 1030 d_L_law_33 (by omega) (by omega) (off := 997) (by rw [hc]; rfl) (by decide) (lc_put hsc hv1 hv2 hv3 hv4 hv5 hw hC hR kn)
        · exact jx_tableIn (pc := 33) 1083 d_L_law_33 (by omega) (by omega) (off := 1050) (by rw [hc]; rfl) (by decide) (lc_get hsc hv1 hv2 hv3 hv4 hv5 hw hC hR kn)
        · exact jx_tableIn (pc := 33) 1126 d_L_law_33 (by omega) (by omega) (off := 1093) (by rw [hc]; rfl) (by decide) (lc_copy hsc hv1 hv2 hv3 hv4 hv5 hw hC hR kn)
        · exact jx_tableIn (pc := 33) 1189 d_L_law_33 (by omega) (by omega) (off := 1156) (by rw [hc]; rfl) (by decide) (lc_write hsc hv1 hv2 hv3 hv4 hv5 hw hC hR kn)
        · exact jx_tableIn (pc := 33) 1222 d_L_law_33 (by omega) (by omega) (off := 1189) (by rw [hc]; rfl) (by decide) (lc_count hsc hv1 hv2 hv3 hv4 hv5 hw hC hR kn)
        · exact jx_tableIn (pc := 33) 1245 d_L_law_33 (by omega) (by omega) (off := 1212) (by rw [hc]; rfl) (by decide) (lc_digest hsc hv1 hv2 hv3 hv4 hv5 hw hC hR kn)
