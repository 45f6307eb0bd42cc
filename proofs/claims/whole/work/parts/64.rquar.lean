/-! OPERATIONS of the reference, twelve: the quarrel -/
def ofP (s : Sg) (day x n : Nat) : Nat := if (g_wy s 3).testBit day then 0 else ((ixV n (g_vd s) day).filter (fun k => ixQ (g_vh s k, g_vt s k) == x)).length
theorem ofP_nv (s : Sg) (day x : Nat) : ofP s day x (g_nv s) = ofX s day x := by
  unfold ofP ofX cnX g_bs
  rw [List.filter_map, List.length_map]
  rfl
theorem ofP_0 (s : Sg) (day x : Nat) : ofP s day x 0 = 0 := by unfold ofP; split; rfl; simp [ixV]
theorem ofP_s (s : Sg) (day x n : Nat) : ofP s day x (n + 1) = ofP s day x n + (if (g_wy s 3).testBit day = false ∧ g_vd s n = day ∧ ixQ (g_vh s n, g_vt s n) = x then 1 else 0) := by
  unfold ofP
  by_cases hs : (g_wy s 3).testBit day = true
  · rw [if_pos hs, if_pos hs, if_neg (fun z => by rw [hs] at z; exact absurd z.1 (by decide))]
  · rw [if_neg hs, if_neg hs, ixV_succ, List.filter_append, List.length_append]
    have hs' : (g_wy s 3).testBit day = false := by simpa using hs
    by_cases hd : g_vd s n = day
    · rw [if_pos hd]
      by_cases hx : ixQ (g_vh s n, g_vt s n) = x
      · rw [if_pos ⟨hs', hd, hx⟩]; simp [hx]
      · rw [if_neg (fun z => hx z.2.2)]; simp [hx]
    · rw [if_neg hd, if_neg (fun z => hd z.2.1)]; rfl
theorem ofP_le (s : Sg) (day x : Nat) : ∀ n, ofP s day x n ≤ n
  | 0 => by rw [ofP_0]; exact Nat.le_refl _
  | n + 1 => by have := ofP_le s day x n; rw [ofP_s]; split <;> omega
theorem c_R_often {d day h t : Nat} {s : Sg} {M : j_M} {Q : Option Value → j_M → Prop} (hw : WF s) (hR : RepR s M) (hr : RdR s M) (hday : day < 30) (hh : h < g_hn s) (ht : t < 3) (k : Q (some (.int (nI (ofX s day (3 * h + t))))) M) : j_Ct (d + 1) I_R_often [.ref 79, .int (nI day), .int (nI h), .int (nI t)] M Q := by
  refine j_met (by decide +kernel) co_R_often (Nat.le_of_ble_eq_true rfl) (fun X hX => ?_)
  show j_W (d + 1) I_R_often X 0 [some (.ref 79), some (.int (nI day)), some (.int (nI h)), some (.int (nI t)), none, none] [] M
  have hn6 : g_hn s ≤ 6 := hnB_le hw.1
  have hn24 := hw.2.2.2.2.2.1
  have h10 : M 79 10 = nI (g_nv s) := hR.2.2.2.1.1
  have h8 : M 79 8 = nI (g_wy s 3) := hR.2.2.1 3 (by omega)
  have hge : ¬ M 79 2 ≤ nI h := by rw [hr.1]; exact nI_ge hh (by omega)
  have loop : ∀ (r i : Nat), i + r = g_nv s → j_W (d + 1) I_R_often X 6 [some (.ref 79), some (.int (nI day)), some (.int (nI h)), some (.int (nI t)), some (.int (nI (ofP s day (3 * h + t) i))), some (.int (nI i))] [] M := by
    intro r
    induction r with
    | zero =>
      intro i hi
      have hi' : i = g_nv s := by omega
      subst hi'
      refine jx_iload5 (pc := 6) d_R_often_6 ?_
      refine jx_aload0 (pc := 8) d_R_often_8 ?_
      refine jx_getI (pc := 9) gf_R_132 d_R_often_9 ad_79 sh_79 rfl ?_
      refine jx_icmp_ge (pc := 12) 83 d_R_often_12 (by decide) (fun c12 => ?_) (fun c12 => absurd c12 (fun q => q (by rw [h10]; exact Int32.le_refl _)))
      refine jx_iload4 (pc := 83) d_R_often_83 ?_
      refine jx_iret (pc := 85) hX rfl d_R_often_85 ?_
      rotate_left
      rw [ofP_nv]
      exact k
    | succ r ih =>
      intro i hi
      have e1 : (nI i).toNatClampNeg = i := nI_cl (by omega)
      have hv : vp_in (nI i) 24 := vp_in_nI (by omega) (by omega)
      obtain ⟨g1, g2, g3⟩ := hw.2.2.2.2.2.2.1 i
      obtain ⟨m1, m2, m3⟩ := hR.2.2.2.1.2 i (by omega)
      have h0 := ih (i + 1) (by omega)
      have q1 : M 83 (nI i).toNatClampNeg = nI day ↔ g_vd s i = day := by rw [e1, m1]; exact nI_eq (by omega) (by omega)
      have q2 : M 84 (nI i).toNatClampNeg = nI h ↔ g_vh s i = h := by rw [e1, m2]; exact nI_eq (by omega) (by omega)
      have q3 : M 85 (nI i).toNatClampNeg = nI t ↔ g_vt s i = t := by rw [e1, m3]; exact nI_eq (by omega) (by omega)
      have hno : ∀ (hh : ¬ ((g_wy s 3).testBit day = false ∧ g_vd s i = day ∧ ixQ (g_vh s i, g_vt s i) = 3 * h + t)), j_W (d + 1) I_R_often X 73 [some (.ref 79), some (.int (nI day)), some (.int (nI h)), some (.int (nI t)), some (.int (nI (ofP s day (3 * h + t) i))), some (.int (nI i))] [.int (nI (ofP s day (3 * h + t) i))] M := by
        intro hh
        rw [ofP_s, if_neg hh] at h0
        refine jx_iconst (pc := 73) (v := 0) d_R_often_73 (by decide) ?_
        refine jx_iadd (pc := 74) d_R_often_74 ?_
        refine jx_istore4 (pc := 75) d_R_often_75 rfl (Nat.le_of_ble_eq_true rfl) ?_
        refine jx_iinc5 (pc := 77) d_R_often_77 rfl (Nat.le_of_ble_eq_true rfl) ?_
        refine jx_goto (pc := 80) 6 d_R_often_80 (by decide) ?_
        rotate_left
        rw [nI_add1, show nI (ofP s day (3 * h + t) i) + 0 = nI (ofP s day (3 * h + t) i + 0) from nI_add _ 0]
        exact h0
      by_cases p1 : g_vd s i = day
      · by_cases p2 : g_vh s i = h
        · by_cases p3 : g_vt s i = t
          · by_cases hs : (g_wy s 3).testBit day = true
            · -- asleep
              refine jx_iload5 (pc := 6) d_R_often_6 ?_
              refine jx_aload0 (pc := 8) d_R_often_8 ?_
              refine jx_getI (pc := 9) gf_R_132 d_R_often_9 ad_79 sh_79 rfl ?_
              refine jx_icmp_ge (pc := 12) 83 d_R_often_12 (by decide) (fun c12 => absurd c12 (by rw [h10]; exact nI_ge (by omega) (by omega))) (fun c12 => ?_)
              refine jx_iload4 (pc := 15) d_R_often_15 ?_
              refine jx_aload0 (pc := 17) d_R_often_17 ?_
              refine jx_getR (pc := 18) gf_R_19 d_R_often_18 ad_79 sh_79 rfl ?_
              refine jx_iload5 (pc := 21) d_R_often_21 ?_
              refine jx_iald (pc := 23) d_R_often_23 ad_83 sh_83 (by first | assumption | exact vp_in_nI (by omega) (by omega)) ?_
              refine jx_iload1 (pc := 24) d_R_often_24 ?_
              refine jx_icmp_ne (pc := 25) 73 d_R_often_25 (by decide) (fun c25 => absurd c25 (fun z => z (q1.mpr p1))) (fun c25 => ?_)
              refine jx_aload0 (pc := 28) d_R_often_28 ?_
              refine jx_getR (pc := 29) gf_R_22 d_R_often_29 ad_79 sh_79 rfl ?_
              refine jx_iload5 (pc := 32) d_R_often_32 ?_
              refine jx_iald (pc := 34) d_R_often_34 ad_84 sh_84 (by first | assumption | exact vp_in_nI (by omega) (by omega)) ?_
              refine jx_iload2 (pc := 35) d_R_often_35 ?_
              refine jx_icmp_ne (pc := 36) 73 d_R_often_36 (by decide) (fun c36 => absurd c36 (fun z => z (q2.mpr p2))) (fun c36 => ?_)
              refine jx_aload0 (pc := 39) d_R_often_39 ?_
              refine jx_getR (pc := 40) gf_R_25 d_R_often_40 ad_79 sh_79 rfl ?_
              refine jx_iload5 (pc := 43) d_R_often_43 ?_
              refine jx_iald (pc := 45) d_R_often_45 ad_85 sh_85 (by first | assumption | exact vp_in_nI (by omega) (by omega)) ?_
              refine jx_iload3 (pc := 46) d_R_often_46 ?_
              refine jx_icmp_ne (pc := 47) 73 d_R_often_47 (by decide) (fun c47 => absurd c47 (fun z => z (q3.mpr p3))) (fun c47 => ?_)
              refine jx_iload2 (pc := 50) d_R_often_50 ?_
              refine jx_aload0 (pc := 51) d_R_often_51 ?_
              refine jx_getI (pc := 52) gf_R_102 d_R_often_52 ad_79 sh_79 rfl ?_
              refine jx_icmp_ge (pc := 55) 73 d_R_often_55 (by decide) (fun c55 => absurd c55 hge) (fun c55 => ?_)
              refine jx_aload0 (pc := 58) d_R_often_58 ?_
              refine jx_getI (pc := 59) gf_R_123 d_R_often_59 ad_79 sh_79 rfl ?_
              refine jx_iload1 (pc := 62) d_R_often_62 ?_
              refine jx_callS2 (pc := 63) (d' := 0) so_R_isIn lk_R_155 d_R_often_63 (by omega) (Nat.le_of_ble_eq_true rfl) ?_
              rw [h8]
              refine c_R_bit (by have := hw.2.2.2.2.1; omega) (by omega) ?_
              refine jx_r1 ?_
              refine jx_if_ne (pc := 66) 73 d_R_often_66 (by decide) (fun c66 => ?_) (fun c66 => absurd c66 (by rw [if_pos hs]; decide))
              rotate_left
              exact hno (fun z => by rw [hs] at z; exact absurd z.1 (by decide))
            · -- it counts
              refine jx_iload5 (pc := 6) d_R_often_6 ?_
              refine jx_aload0 (pc := 8) d_R_often_8 ?_
              refine jx_getI (pc := 9) gf_R_132 d_R_often_9 ad_79 sh_79 rfl ?_
              refine jx_icmp_ge (pc := 12) 83 d_R_often_12 (by decide) (fun c12 => absurd c12 (by rw [h10]; exact nI_ge (by omega) (by omega))) (fun c12 => ?_)
              refine jx_iload4 (pc := 15) d_R_often_15 ?_
              refine jx_aload0 (pc := 17) d_R_often_17 ?_
              refine jx_getR (pc := 18) gf_R_19 d_R_often_18 ad_79 sh_79 rfl ?_
              refine jx_iload5 (pc := 21) d_R_often_21 ?_
              refine jx_iald (pc := 23) d_R_often_23 ad_83 sh_83 (by first | assumption | exact vp_in_nI (by omega) (by omega)) ?_
              refine jx_iload1 (pc := 24) d_R_often_24 ?_
              refine jx_icmp_ne (pc := 25) 73 d_R_often_25 (by decide) (fun c25 => absurd c25 (fun z => z (q1.mpr p1))) (fun c25 => ?_)
              refine jx_aload0 (pc := 28) d_R_often_28 ?_
              refine jx_getR (pc := 29) gf_R_22 d_R_often_29 ad_79 sh_79 rfl ?_
              refine jx_iload5 (pc := 32) d_R_often_32 ?_
              refine jx_iald (pc := 34) d_R_often_34 ad_84 sh_84 (by first | assumption | exact vp_in_nI (by omega) (by omega)) ?_
              refine jx_iload2 (pc := 35) d_R_often_35 ?_
              refine jx_icmp_ne (pc := 36) 73 d_R_often_36 (by decide) (fun c36 => absurd c36 (fun z => z (q2.mpr p2))) (fun c36 => ?_)
              refine jx_aload0 (pc := 39) d_R_often_39 ?_
              refine jx_getR (pc := 40) gf_R_25 d_R_often_40 ad_79 sh_79 rfl ?_
              refine jx_iload5 (pc := 43) d_R_often_43 ?_
              refine jx_iald (pc := 45) d_R_often_45 ad_85 sh_85 (by first | assumption | exact vp_in_nI (by omega) (by omega)) ?_
              refine jx_iload3 (pc := 46) d_R_often_46 ?_
              refine jx_icmp_ne (pc := 47) 73 d_R_often_47 (by decide) (fun c47 => absurd c47 (fun z => z (q3.mpr p3))) (fun c47 => ?_)
              refine jx_iload2 (pc := 50) d_R_often_50 ?_
              refine jx_aload0 (pc := 51) d_R_often_51 ?_
              refine jx_getI (pc := 52) gf_R_102 d_R_often_52 ad_79 sh_79 rfl ?_
              refine jx_icmp_ge (pc := 55) 73 d_R_often_55 (by decide) (fun c55 => absurd c55 hge) (fun c55 => ?_)
              refine jx_aload0 (pc := 58) d_R_often_58 ?_
              refine jx_getI (pc := 59) gf_R_123 d_R_often_59 ad_79 sh_79 rfl ?_
              refine jx_iload1 (pc := 62) d_R_often_62 ?_
              refine jx_callS2 (pc := 63) (d' := 0) so_R_isIn lk_R_155 d_R_often_63 (by omega) (Nat.le_of_ble_eq_true rfl) ?_
              rw [h8]
              refine c_R_bit (by have := hw.2.2.2.2.1; omega) (by omega) ?_
              refine jx_r1 ?_
              refine jx_if_ne (pc := 66) 73 d_R_often_66 (by decide) (fun c66 => absurd c66 (fun z => z (by rw [if_neg hs]))) (fun c66 => ?_)
              refine jx_iconst (pc := 69) (v := 1) d_R_often_69 (by decide) ?_
              refine jx_goto (pc := 70) 74 d_R_often_70 (by decide) ?_
              refine jx_iadd (pc := 74) d_R_often_74 ?_
              refine jx_istore4 (pc := 75) d_R_often_75 rfl (Nat.le_of_ble_eq_true rfl) ?_
              refine jx_iinc5 (pc := 77) d_R_often_77 rfl (Nat.le_of_ble_eq_true rfl) ?_
              refine jx_goto (pc := 80) 6 d_R_often_80 (by decide) ?_
              rotate_left
              rw [ofP_s, if_pos ⟨by simpa using hs, p1, by rw [p2, p3]; rfl⟩] at h0
              rw [nI_add1, nI_1]
              exact h0
          · -- another thing
            refine jx_iload5 (pc := 6) d_R_often_6 ?_
            refine jx_aload0 (pc := 8) d_R_often_8 ?_
            refine jx_getI (pc := 9) gf_R_132 d_R_often_9 ad_79 sh_79 rfl ?_
            refine jx_icmp_ge (pc := 12) 83 d_R_often_12 (by decide) (fun c12 => absurd c12 (by rw [h10]; exact nI_ge (by omega) (by omega))) (fun c12 => ?_)
            refine jx_iload4 (pc := 15) d_R_often_15 ?_
            refine jx_aload0 (pc := 17) d_R_often_17 ?_
            refine jx_getR (pc := 18) gf_R_19 d_R_often_18 ad_79 sh_79 rfl ?_
            refine jx_iload5 (pc := 21) d_R_often_21 ?_
            refine jx_iald (pc := 23) d_R_often_23 ad_83 sh_83 (by first | assumption | exact vp_in_nI (by omega) (by omega)) ?_
            refine jx_iload1 (pc := 24) d_R_often_24 ?_
            refine jx_icmp_ne (pc := 25) 73 d_R_often_25 (by decide) (fun c25 => absurd c25 (fun z => z (q1.mpr p1))) (fun c25 => ?_)
            refine jx_aload0 (pc := 28) d_R_often_28 ?_
            refine jx_getR (pc := 29) gf_R_22 d_R_often_29 ad_79 sh_79 rfl ?_
            refine jx_iload5 (pc := 32) d_R_often_32 ?_
            refine jx_iald (pc := 34) d_R_often_34 ad_84 sh_84 (by first | assumption | exact vp_in_nI (by omega) (by omega)) ?_
            refine jx_iload2 (pc := 35) d_R_often_35 ?_
            refine jx_icmp_ne (pc := 36) 73 d_R_often_36 (by decide) (fun c36 => absurd c36 (fun z => z (q2.mpr p2))) (fun c36 => ?_)
            refine jx_aload0 (pc := 39) d_R_often_39 ?_
            refine jx_getR (pc := 40) gf_R_25 d_R_often_40 ad_79 sh_79 rfl ?_
            refine jx_iload5 (pc := 43) d_R_often_43 ?_
            refine jx_iald (pc := 45) d_R_often_45 ad_85 sh_85 (by first | assumption | exact vp_in_nI (by omega) (by omega)) ?_
            refine jx_iload3 (pc := 46) d_R_often_46 ?_
            refine jx_icmp_ne (pc := 47) 73 d_R_often_47 (by decide) (fun c47 => ?_) (fun c47 => absurd c47 (fun z => p3 (q3.mp z)))
            rotate_left
            exact hno (fun z => by have := z.2.2; unfold ixQ at this; simp only [] at this; omega)
        · -- another heir
          refine jx_iload5 (pc := 6) d_R_often_6 ?_
          refine jx_aload0 (pc := 8) d_R_often_8 ?_
          refine jx_getI (pc := 9) gf_R_132 d_R_often_9 ad_79 sh_79 rfl ?_
          refine jx_icmp_ge (pc := 12) 83 d_R_often_12 (by decide) (fun c12 => absurd c12 (by rw [h10]; exact nI_ge (by omega) (by omega))) (fun c12 => ?_)
          refine jx_iload4 (pc := 15) d_R_often_15 ?_
          refine jx_aload0 (pc := 17) d_R_often_17 ?_
          refine jx_getR (pc := 18) gf_R_19 d_R_often_18 ad_79 sh_79 rfl ?_
          refine jx_iload5 (pc := 21) d_R_often_21 ?_
          refine jx_iald (pc := 23) d_R_often_23 ad_83 sh_83 (by first | assumption | exact vp_in_nI (by omega) (by omega)) ?_
          refine jx_iload1 (pc := 24) d_R_often_24 ?_
          refine jx_icmp_ne (pc := 25) 73 d_R_often_25 (by decide) (fun c25 => absurd c25 (fun z => z (q1.mpr p1))) (fun c25 => ?_)
          refine jx_aload0 (pc := 28) d_R_often_28 ?_
          refine jx_getR (pc := 29) gf_R_22 d_R_often_29 ad_79 sh_79 rfl ?_
          refine jx_iload5 (pc := 32) d_R_often_32 ?_
          refine jx_iald (pc := 34) d_R_often_34 ad_84 sh_84 (by first | assumption | exact vp_in_nI (by omega) (by omega)) ?_
          refine jx_iload2 (pc := 35) d_R_often_35 ?_
          refine jx_icmp_ne (pc := 36) 73 d_R_often_36 (by decide) (fun c36 => ?_) (fun c36 => absurd c36 (fun z => p2 (q2.mp z)))
          rotate_left
          exact hno (fun z => by have := z.2.2; unfold ixQ at this; simp only [] at this; omega)
      · -- another day
        refine jx_iload5 (pc := 6) d_R_often_6 ?_
        refine jx_aload0 (pc := 8) d_R_often_8 ?_
        refine jx_getI (pc := 9) gf_R_132 d_R_often_9 ad_79 sh_79 rfl ?_
        refine jx_icmp_ge (pc := 12) 83 d_R_often_12 (by decide) (fun c12 => absurd c12 (by rw [h10]; exact nI_ge (by omega) (by omega))) (fun c12 => ?_)
        refine jx_iload4 (pc := 15) d_R_often_15 ?_
        refine jx_aload0 (pc := 17) d_R_often_17 ?_
        refine jx_getR (pc := 18) gf_R_19 d_R_often_18 ad_79 sh_79 rfl ?_
        refine jx_iload5 (pc := 21) d_R_often_21 ?_
        refine jx_iald (pc := 23) d_R_often_23 ad_83 sh_83 (by first | assumption | exact vp_in_nI (by omega) (by omega)) ?_
        refine jx_iload1 (pc := 24) d_R_often_24 ?_
        refine jx_icmp_ne (pc := 25) 73 d_R_often_25 (by decide) (fun c25 => ?_) (fun c25 => absurd c25 (fun z => p1 (q1.mp z)))
        rotate_left
        exact hno (fun z => p1 z.2.1)
  refine jx_iconst (pc := 0) (v := 0) d_R_often_0 (by decide) ?_
  refine jx_istore4 (pc := 1) d_R_often_1 rfl (Nat.le_of_ble_eq_true rfl) ?_
  refine jx_iconst (pc := 3) (v := 0) d_R_often_3 (by decide) ?_
  refine jx_istore5 (pc := 4) d_R_often_4 rfl (Nat.le_of_ble_eq_true rfl) ?_
  rotate_left
  have h0 := loop (g_nv s) 0 (by omega)
  rw [ofP_0] at h0
  exact h0
theorem ofX_le (s : Sg) {day x : Nat} (hw : WF s) : ofX s day x ≤ 24 := by
  rw [← ofP_nv]; exact Nat.le_trans (ofP_le s day x _) hw.2.2.2.2.2.1
theorem c_R_areAlike {d a b : Nat} {s : Sg} {M : j_M} {Q : Option Value → j_M → Prop} (hw : WF s) (hR : RepR s M) (hr : RdR s M) (ha : a < 30) (hb : b < 30) (k : Q (some (.int (if alk s a b then 1 else 0))) M) : j_Ct (d + 2) I_R_areAlike [.ref 79, .int (nI a), .int (nI b)] M Q := by
  refine j_met (by decide +kernel) co_R_areAlike (Nat.le_of_ble_eq_true rfl) (fun X hX => ?_)
  show j_W (d + 2) I_R_areAlike X 0 [some (.ref 79), some (.int (nI a)), some (.int (nI b)), none, none, none, none] [] M
  have hn6 : g_hn s ≤ 6 := hnB_le hw.1
  let fl : Nat → Bool := fun x => (List.range x).all (fun y => ofX s a y == ofX s b y)
  have fl_s : ∀ x, fl (x + 1) = (fl x && (ofX s a x == ofX s b x)) := fun x => by show (List.range (x + 1)).all _ = _; rw [List.range_succ, List.all_append]; simp [fl]
  have fl_i : ∀ x, fl x = true ↔ ∀ y, y < x → ofX s a y = ofX s b y := fun x => by simp [fl]
  have sm : ∀ x, x ≤ 18 → sumN (ofX s a) x ≤ 500 := fun x hx => by
    have h1 := sumN_le (f := ofX s a) (b := 24) (fun i => ofX_le s hw) x
    have h2 := Nat.mul_le_mul_right 24 hx
    omega
  have outer : ∀ (r h : Nat) (e : Option Value), h + r = g_hn s → j_W (d + 2) I_R_areAlike X 8 [some (.ref 79), some (.int (nI a)), some (.int (nI b)), some (.int (nI (sumN (ofX s a) (3 * h)))), some (.int (if fl (3 * h) then 1 else 0)), some (.int (nI h)), e] [] M := by
    intro r
    induction r with
    | zero =>
      intro h e hh
      have hh' : h = g_hn s := by omega
      subst hh'
      have hs5 := sm (3 * g_hn s) (by omega)
      by_cases hfl : fl (3 * g_hn s) = true
      · by_cases h0 : sumN (ofX s a) (3 * g_hn s) = 0
        · have hy : ¬ alk s a b = true := fun z => (alk_iff.mp z).2 h0
          rw [if_neg hy] at k
          refine jx_iload5 (pc := 8) d_R_areAlike_8 ?_
          refine jx_aload0 (pc := 10) d_R_areAlike_10 ?_
          refine jx_getI (pc := 11) gf_R_102 d_R_areAlike_11 ad_79 sh_79 rfl ?_
          refine jx_icmp_ge (pc := 14) 83 d_R_areAlike_14 (by decide) (fun c14 => ?_) (fun c14 => absurd c14 (fun q => q (by rw [hr.1]; exact Int32.le_refl _)))
          refine jx_iload4 (pc := 83) d_R_areAlike_83 ?_
          refine jx_if_eq (pc := 85) 96 d_R_areAlike_85 (by decide) (fun c85 => absurd c85 (z01p hfl)) (fun c85 => ?_)
          refine jx_iload3 (pc := 88) d_R_areAlike_88 ?_
          refine jx_if_le (pc := 89) 96 d_R_areAlike_89 (by decide) (fun c89 => ?_) (fun c89 => absurd c89 (fun q => q (nI_le (b := 0) (by omega) (by omega))))
          refine jx_iconst (pc := 96) (v := 0) d_R_areAlike_96 (by decide) ?_
          refine jx_zret (pc := 97) hX rfl (by first | exact Or.inl rfl | exact Or.inr rfl) d_R_areAlike_97 ?_
          rotate_left
          exact k
        · have hy : alk s a b = true := alk_iff.mpr ⟨(fl_i _).mp hfl, h0⟩
          rw [if_pos hy] at k
          refine jx_iload5 (pc := 8) d_R_areAlike_8 ?_
          refine jx_aload0 (pc := 10) d_R_areAlike_10 ?_
          refine jx_getI (pc := 11) gf_R_102 d_R_areAlike_11 ad_79 sh_79 rfl ?_
          refine jx_icmp_ge (pc := 14) 83 d_R_areAlike_14 (by decide) (fun c14 => ?_) (fun c14 => absurd c14 (fun q => q (by rw [hr.1]; exact Int32.le_refl _)))
          refine jx_iload4 (pc := 83) d_R_areAlike_83 ?_
          refine jx_if_eq (pc := 85) 96 d_R_areAlike_85 (by decide) (fun c85 => absurd c85 (z01p hfl)) (fun c85 => ?_)
          refine jx_iload3 (pc := 88) d_R_areAlike_88 ?_
          refine jx_if_le (pc := 89) 96 d_R_areAlike_89 (by decide) (fun c89 => absurd c89 (nI_ge (a := 0) (by omega) (by omega))) (fun c89 => ?_)
          refine jx_iconst (pc := 92) (v := 1) d_R_areAlike_92 (by decide) ?_
          refine jx_goto (pc := 93) 97 d_R_areAlike_93 (by decide) ?_
          refine jx_zret (pc := 97) hX rfl (by first | exact Or.inl rfl | exact Or.inr rfl) d_R_areAlike_97 ?_
          rotate_left
          exact k
      · have hy : ¬ alk s a b = true := fun z => hfl ((fl_i _).mpr (alk_iff.mp z).1)
        rw [if_neg hy] at k
        refine jx_iload5 (pc := 8) d_R_areAlike_8 ?_
        refine jx_aload0 (pc := 10) d_R_areAlike_10 ?_
        refine jx_getI (pc := 11) gf_R_102 d_R_areAlike_11 ad_79 sh_79 rfl ?_
        refine jx_icmp_ge (pc := 14) 83 d_R_areAlike_14 (by decide) (fun c14 => ?_) (fun c14 => absurd c14 (fun q => q (by rw [hr.1]; exact Int32.le_refl _)))
        refine jx_iload4 (pc := 83) d_R_areAlike_83 ?_
        refine jx_if_eq (pc := 85) 96 d_R_areAlike_85 (by decide) (fun c85 => ?_) (fun c85 => absurd c85 (fun q => q (z01.mpr hfl)))
        refine jx_iconst (pc := 96) (v := 0) d_R_areAlike_96 (by decide) ?_
        refine jx_zret (pc := 97) hX rfl (by first | exact Or.inl rfl | exact Or.inr rfl) d_R_areAlike_97 ?_
        rotate_left
        exact k
    | succ r ih =>
      intro h e hh
      have inner : ∀ (u t : Nat), t + u = 3 → j_W (d + 2) I_R_areAlike X 20 [some (.ref 79), some (.int (nI a)), some (.int (nI b)), some (.int (nI (sumN (ofX s a) (3 * h + t)))), some (.int (if fl (3 * h + t) then 1 else 0)), some (.int (nI h)), some (.int (nI t))] [] M := by
        intro u
        induction u with
        | zero =>
          intro t ht
          have ht' : t = 3 := by omega
          subst ht'
          have h9 := ih (h + 1) (some (.int (nI 3))) (by omega)
          refine jx_iload6 (pc := 20) d_R_areAlike_20 ?_
          refine jx_iconst (pc := 22) (v := 3) d_R_areAlike_22 (by decide) ?_
          refine jx_icmp_ge (pc := 23) 77 d_R_areAlike_23 (by decide) (fun c23 => ?_) (fun c23 => absurd c23 (fun q => q (show nI 3 ≤ nI 3 from Int32.le_refl _)))
          refine jx_iinc5 (pc := 77) d_R_areAlike_77 rfl (Nat.le_of_ble_eq_true rfl) ?_
          refine jx_goto (pc := 80) 8 d_R_areAlike_80 (by decide) ?_
          rotate_left
          rw [nI_add1]
          exact h9
        | succ u ihu =>
          intro t ht
          have h9 := ihu (t + 1) (by omega)
          have hx : 3 * h + (t + 1) = 3 * h + t + 1 := by omega
          rw [hx, fl_s, sumN] at h9
          have l1 := ofX_le s (day := a) (x := 3 * h + t) hw
          have l2 := ofX_le s (day := b) (x := 3 * h + t) hw
          have hst : ¬ (3 : Int32) ≤ nI t := (show ¬ nI 3 ≤ nI t from nI_ge (by omega) (by omega))
          by_cases hfl : fl (3 * h + t) = true
          · by_cases he : ofX s a (3 * h + t) = ofX s b (3 * h + t)
            · -- alike so far
              refine jx_iload6 (pc := 20) d_R_areAlike_20 ?_
              refine jx_iconst (pc := 22) (v := 3) d_R_areAlike_22 (by decide) ?_
              refine jx_icmp_ge (pc := 23) 77 d_R_areAlike_23 (by decide) (fun c23 => absurd c23 hst) (fun c23 => ?_)
              refine jx_iload4 (pc := 26) d_R_areAlike_26 ?_
              refine jx_if_eq (pc := 28) 56 d_R_areAlike_28 (by decide) (fun c28 => absurd c28 (z01p hfl)) (fun c28 => ?_)
              refine jx_aload0 (pc := 31) d_R_areAlike_31 ?_
              refine jx_iload1 (pc := 32) d_R_areAlike_32 ?_
              refine jx_iload5 (pc := 33) d_R_areAlike_33 ?_
              refine jx_iload6 (pc := 35) d_R_areAlike_35 ?_
              refine jx_callV3 (pc := 37) (d' := d + 1) vo_R_often lk_R_201 d_R_areAlike_37 ad_79 sh_79 rfl (by omega) (Nat.le_of_ble_eq_true rfl) ?_
              refine c_R_often hw hR hr ha (show h < g_hn s by omega) (show t < 3 by omega) ?_
              refine jx_r1 ?_
              refine jx_aload0 (pc := 40) d_R_areAlike_40 ?_
              refine jx_iload2 (pc := 41) d_R_areAlike_41 ?_
              refine jx_iload5 (pc := 42) d_R_areAlike_42 ?_
              refine jx_iload6 (pc := 44) d_R_areAlike_44 ?_
              refine jx_callV3 (pc := 46) (d' := d + 1) vo_R_often lk_R_201 d_R_areAlike_46 ad_79 sh_79 rfl (by omega) (Nat.le_of_ble_eq_true rfl) ?_
              refine c_R_often hw hR hr hb (show h < g_hn s by omega) (show t < 3 by omega) ?_
              refine jx_r1 ?_
              refine jx_icmp_ne (pc := 49) 56 d_R_areAlike_49 (by decide) (fun c49 => absurd c49 (fun q => q (by rw [he]))) (fun c49 => ?_)
              refine jx_iconst (pc := 52) (v := 1) d_R_areAlike_52 (by decide) ?_
              refine jx_goto (pc := 53) 57 d_R_areAlike_53 (by decide) ?_
              refine jx_istore4 (pc := 57) d_R_areAlike_57 rfl (Nat.le_of_ble_eq_true rfl) ?_
              refine jx_iload3 (pc := 59) d_R_areAlike_59 ?_
              refine jx_aload0 (pc := 60) d_R_areAlike_60 ?_
              refine jx_iload1 (pc := 61) d_R_areAlike_61 ?_
              refine jx_iload5 (pc := 62) d_R_areAlike_62 ?_
              refine jx_iload6 (pc := 64) d_R_areAlike_64 ?_
              refine jx_callV3 (pc := 66) (d' := d + 1) vo_R_often lk_R_201 d_R_areAlike_66 ad_79 sh_79 rfl (by omega) (Nat.le_of_ble_eq_true rfl) ?_
              refine c_R_often hw hR hr ha (show h < g_hn s by omega) (show t < 3 by omega) ?_
              refine jx_r1 ?_
              refine jx_iadd (pc := 69) d_R_areAlike_69 ?_
              refine jx_istore3 (pc := 70) d_R_areAlike_70 rfl (Nat.le_of_ble_eq_true rfl) ?_
              refine jx_iinc6 (pc := 71) d_R_areAlike_71 rfl (Nat.le_of_ble_eq_true rfl) ?_
              refine jx_goto (pc := 74) 20 d_R_areAlike_74 (by decide) ?_
              rotate_left
              rw [nI_add1, nI_add]
              rw [if_pos (show (fl (3 * h + t) && (ofX s a (3 * h + t) == ofX s b (3 * h + t))) = true by simp [hfl, he])] at h9
              exact h9
            · have hne : nI (ofX s a (3 * h + t)) ≠ nI (ofX s b (3 * h + t)) := fun z => he ((nI_eq (by omega) (by omega)).mp z)
              refine jx_iload6 (pc := 20) d_R_areAlike_20 ?_
              refine jx_iconst (pc := 22) (v := 3) d_R_areAlike_22 (by decide) ?_
              refine jx_icmp_ge (pc := 23) 77 d_R_areAlike_23 (by decide) (fun c23 => absurd c23 hst) (fun c23 => ?_)
              refine jx_iload4 (pc := 26) d_R_areAlike_26 ?_
              refine jx_if_eq (pc := 28) 56 d_R_areAlike_28 (by decide) (fun c28 => absurd c28 (z01p hfl)) (fun c28 => ?_)
              refine jx_aload0 (pc := 31) d_R_areAlike_31 ?_
              refine jx_iload1 (pc := 32) d_R_areAlike_32 ?_
              refine jx_iload5 (pc := 33) d_R_areAlike_33 ?_
              refine jx_iload6 (pc := 35) d_R_areAlike_35 ?_
              refine jx_callV3 (pc := 37) (d' := d + 1) vo_R_often lk_R_201 d_R_areAlike_37 ad_79 sh_79 rfl (by omega) (Nat.le_of_ble_eq_true rfl) ?_
              refine c_R_often hw hR hr ha (show h < g_hn s by omega) (show t < 3 by omega) ?_
              refine jx_r1 ?_
              refine jx_aload0 (pc := 40) d_R_areAlike_40 ?_
              refine jx_iload2 (pc := 41) d_R_areAlike_41 ?_
              refine jx_iload5 (pc := 42) d_R_areAlike_42 ?_
              refine jx_iload6 (pc := 44) d_R_areAlike_44 ?_
              refine jx_callV3 (pc := 46) (d' := d + 1) vo_R_often lk_R_201 d_R_areAlike_46 ad_79 sh_79 rfl (by omega) (Nat.le_of_ble_eq_true rfl) ?_
              refine c_R_often hw hR hr hb (show h < g_hn s by omega) (show t < 3 by omega) ?_
              refine jx_r1 ?_
              refine jx_icmp_ne (pc := 49) 56 d_R_areAlike_49 (by decide) (fun c49 => ?_) (fun c49 => absurd c49 hne)
              refine jx_iconst (pc := 56) (v := 0) d_R_areAlike_56 (by decide) ?_
              refine jx_istore4 (pc := 57) d_R_areAlike_57 rfl (Nat.le_of_ble_eq_true rfl) ?_
              refine jx_iload3 (pc := 59) d_R_areAlike_59 ?_
              refine jx_aload0 (pc := 60) d_R_areAlike_60 ?_
              refine jx_iload1 (pc := 61) d_R_areAlike_61 ?_
              refine jx_iload5 (pc := 62) d_R_areAlike_62 ?_
              refine jx_iload6 (pc := 64) d_R_areAlike_64 ?_
              refine jx_callV3 (pc := 66) (d' := d + 1) vo_R_often lk_R_201 d_R_areAlike_66 ad_79 sh_79 rfl (by omega) (Nat.le_of_ble_eq_true rfl) ?_
              refine c_R_often hw hR hr ha (show h < g_hn s by omega) (show t < 3 by omega) ?_
              refine jx_r1 ?_
              refine jx_iadd (pc := 69) d_R_areAlike_69 ?_
              refine jx_istore3 (pc := 70) d_R_areAlike_70 rfl (Nat.le_of_ble_eq_true rfl) ?_
              refine jx_iinc6 (pc := 71) d_R_areAlike_71 rfl (Nat.le_of_ble_eq_true rfl) ?_
              refine jx_goto (pc := 74) 20 d_R_areAlike_74 (by decide) ?_
              rotate_left
              rw [nI_add1, nI_add]
              rw [if_neg (show ¬ (fl (3 * h + t) && (ofX s a (3 * h + t) == ofX s b (3 * h + t))) = true by simp [he])] at h9
              exact h9
          · -- no more
            refine jx_iload6 (pc := 20) d_R_areAlike_20 ?_
            refine jx_iconst (pc := 22) (v := 3) d_R_areAlike_22 (by decide) ?_
            refine jx_icmp_ge (pc := 23) 77 d_R_areAlike_23 (by decide) (fun c23 => absurd c23 hst) (fun c23 => ?_)
            refine jx_iload4 (pc := 26) d_R_areAlike_26 ?_
            refine jx_if_eq (pc := 28) 56 d_R_areAlike_28 (by decide) (fun c28 => ?_) (fun c28 => absurd c28 (fun q => q (z01.mpr hfl)))
            refine jx_iconst (pc := 56) (v := 0) d_R_areAlike_56 (by decide) ?_
            refine jx_istore4 (pc := 57) d_R_areAlike_57 rfl (Nat.le_of_ble_eq_true rfl) ?_
            refine jx_iload3 (pc := 59) d_R_areAlike_59 ?_
            refine jx_aload0 (pc := 60) d_R_areAlike_60 ?_
            refine jx_iload1 (pc := 61) d_R_areAlike_61 ?_
            refine jx_iload5 (pc := 62) d_R_areAlike_62 ?_
            refine jx_iload6 (pc := 64) d_R_areAlike_64 ?_
            refine jx_callV3 (pc := 66) (d' := d + 1) vo_R_often lk_R_201 d_R_areAlike_66 ad_79 sh_79 rfl (by omega) (Nat.le_of_ble_eq_true rfl) ?_
            refine c_R_often hw hR hr ha (show h < g_hn s by omega) (show t < 3 by omega) ?_
            refine jx_r1 ?_
            refine jx_iadd (pc := 69) d_R_areAlike_69 ?_
            refine jx_istore3 (pc := 70) d_R_areAlike_70 rfl (Nat.le_of_ble_eq_true rfl) ?_
            refine jx_iinc6 (pc := 71) d_R_areAlike_71 rfl (Nat.le_of_ble_eq_true rfl) ?_
            refine jx_goto (pc := 74) 20 d_R_areAlike_74 (by decide) ?_
            rotate_left
            rw [nI_add1, nI_add]
            rw [if_neg (show ¬ (fl (3 * h + t) && (ofX s a (3 * h + t) == ofX s b (3 * h + t))) = true by simp [hfl])] at h9
            exact h9
      refine jx_iload5 (pc := 8) d_R_areAlike_8 ?_
      refine jx_aload0 (pc := 10) d_R_areAlike_10 ?_
      refine jx_getI (pc := 11) gf_R_102 d_R_areAlike_11 ad_79 sh_79 rfl ?_
      refine jx_icmp_ge (pc := 14) 83 d_R_areAlike_14 (by decide) (fun c14 => absurd c14 (by rw [hr.1]; exact nI_ge (by omega) (by omega))) (fun c14 => ?_)
      refine jx_iconst (pc := 17) (v := 0) d_R_areAlike_17 (by decide) ?_
      refine jx_istore6 (pc := 18) d_R_areAlike_18 rfl (Nat.le_of_ble_eq_true rfl) ?_
      rotate_left
      exact inner 3 0 (by omega)
  refine jx_iconst (pc := 0) (v := 0) d_R_areAlike_0 (by decide) ?_
  refine jx_istore3 (pc := 1) d_R_areAlike_1 rfl (Nat.le_of_ble_eq_true rfl) ?_
  refine jx_iconst (pc := 2) (v := 1) d_R_areAlike_2 (by decide) ?_
  refine jx_istore4 (pc := 3) d_R_areAlike_3 rfl (Nat.le_of_ble_eq_true rfl) ?_
  refine jx_iconst (pc := 5) (v := 0) d_R_areAlike_5 (by decide) ?_
  refine jx_istore5 (pc := 6) d_R_areAlike_6 rfl (Nat.le_of_ble_eq_true rfl) ?_
  rotate_left
  exact outer (g_hn s) 0 none (by omega)
theorem c_R_quarrelOf {d w : Nat} {s : Sg} {M : j_M} {Q : Option Value → j_M → Prop} (hw : WF s) (hR : RepR s M) (hw2 : w < 2) (k : ∀ M', ScrR M M' → RdR s M' → Q (some (.int (r_quarrel s (nI w)))) M') : j_Ct (d + 4) I_R_quarrelOf [.ref 79, .int (nI w)] M Q := by
  refine j_met (by decide +kernel) co_R_quarrelOf (Nat.le_of_ble_eq_true rfl) (fun X hX => ?_)
  show j_W (d + 4) I_R_quarrelOf X 0 [some (.ref 79), some (.int (nI w)), none, none] [] M
  have hb : 0 ≤ nI w ∧ nI w < 2 := ⟨nI_pos' (by omega), nI_lt (b := 2) hw2 (by omega)⟩
  have fin : ∀ (o : Option (Nat × Nat)), qout s 30 = o → r_quarrel s (nI w) = (match o with
    | none => -1
    | some p => if nI w = 0 then nI p.1 else nI p.2) := fun o ho => by unfold r_quarrel; rw [if_pos hb, ho]; all_goals (cases o <;> rfl)
  have loop : ∀ (M2 : j_M), ScrR M M2 → RdR s M2 → (∀ q, q < 30 → M2 91 q = em (fdD s 0 q)) → ∀ (r r2 day ahd : Nat), day + r = 30 → ahd + r2 = day → qout s day = none → qin s day ahd = none → (ahd ≤ day) → day < 30 → j_W (d + 4) I_R_quarrelOf X 17 [some (.ref 79), some (.int (nI w)), some (.int (nI day)), some (.int (nI ahd))] [] M2 := by
    intro M2 hS hr2 hf r
    have hR2 := hS.rep hR
    induction r with
    | zero => intro r2 day ahd h1 h2 hq1 hq2 hle hlt; omega
    | succ r ih =>
      intro r2
      induction r2 with
      | zero =>
        intro day ahd h1 h2 hq1 hq2 hle hlt
        have h3 : ahd = day := by omega
        subst h3
        have hq3 : qout s (ahd + 1) = none := by rw [qout_s hq1, hq2]; rfl
        by_cases h29 : ahd + 1 = 30
        · rw [h29] at hq3
          rw [fin none hq3] at k
          refine jx_iload3 (pc := 17) d_R_quarrelOf_17 ?_
          refine jx_iload2 (pc := 18) d_R_quarrelOf_18 ?_
          refine jx_icmp_ge (pc := 19) 62 d_R_quarrelOf_19 (by decide) (fun c19 => ?_) (fun c19 => absurd c19 (fun q => q (Int32.le_refl _)))
          refine jx_iinc2 (pc := 62) d_R_quarrelOf_62 rfl (Nat.le_of_ble_eq_true rfl) ?_
          refine jx_goto (pc := 65) 9 d_R_quarrelOf_65 (by decide) ?_
          refine jx_iload2 (pc := 9) d_R_quarrelOf_9 ?_
          refine jx_bipush (pc := 10) (v := 30) d_R_quarrelOf_10 (by decide) ?_
          refine jx_icmp_ge (pc := 12) 68 d_R_quarrelOf_12 (by decide) (fun c12 => ?_) (fun c12 => absurd c12 (fun q => q (by rw [nI_add1, h29]; exact Int32.le_refl _)))
          refine jx_iconst (pc := 68) (v := (-1)) d_R_quarrelOf_68 (by decide) ?_
          refine jx_iret (pc := 69) hX rfl d_R_quarrelOf_69 ?_
          rotate_left
          exact k M2 hS hr2
        · have := ih (ahd + 1) (ahd + 1) 0 (by omega) (by omega) hq3 rfl (by omega) (by omega)
          refine jx_iload3 (pc := 17) d_R_quarrelOf_17 ?_
          refine jx_iload2 (pc := 18) d_R_quarrelOf_18 ?_
          refine jx_icmp_ge (pc := 19) 62 d_R_quarrelOf_19 (by decide) (fun c19 => ?_) (fun c19 => absurd c19 (fun q => q (Int32.le_refl _)))
          refine jx_iinc2 (pc := 62) d_R_quarrelOf_62 rfl (Nat.le_of_ble_eq_true rfl) ?_
          refine jx_goto (pc := 65) 9 d_R_quarrelOf_65 (by decide) ?_
          refine jx_iload2 (pc := 9) d_R_quarrelOf_9 ?_
          refine jx_bipush (pc := 10) (v := 30) d_R_quarrelOf_10 (by decide) ?_
          refine jx_icmp_ge (pc := 12) 68 d_R_quarrelOf_12 (by decide) (fun c12 => absurd c12 (by rw [nI_add1]; exact (show ¬ nI 30 ≤ nI (ahd + 1) from nI_ge (by omega) (by omega)))) (fun c12 => ?_)
          refine jx_iconst (pc := 15) (v := 0) d_R_quarrelOf_15 (by decide) ?_
          refine jx_istore3 (pc := 16) d_R_quarrelOf_16 rfl (Nat.le_of_ble_eq_true rfl) ?_
          rotate_left
          rw [nI_add1]
          exact this
      | succ r2 ih2 =>
        intro day ahd h1 h2 hq1 hq2 hle hlt
        have e1 : (nI day).toNatClampNeg = day := nI_cl (by omega)
        have e2 : (nI ahd).toNatClampNeg = ahd := nI_cl (by omega)
        have l1 := fdD_lt hw 0 (show day < 30 by omega)
        have l2 := fdD_lt hw 0 (show ahd < 30 by omega)
        have hfd : M2 91 (nI ahd).toNatClampNeg = M2 91 (nI day).toNatClampNeg ↔ fdD s 0 day = fdD s 0 ahd := by rw [e1, e2, hf day (by omega), hf ahd (by omega)]; exact ⟨fun z => ((em_inj (by omega) (by omega)).mp z).symm, fun z => by rw [z]⟩
        by_cases hne : fdD s 0 day = fdD s 0 ahd
        · have hq3 : qin s day (ahd + 1) = none := by rw [qin_s hq2, if_neg (by unfold qrC; simp [hne])]
          have h9 := ih2 day (ahd + 1) h1 (by omega) hq1 hq3 (by omega) hlt
          refine jx_iload3 (pc := 17) d_R_quarrelOf_17 ?_
          refine jx_iload2 (pc := 18) d_R_quarrelOf_18 ?_
          refine jx_icmp_ge (pc := 19) 62 d_R_quarrelOf_19 (by decide) (fun c19 => absurd c19 (nI_ge (by omega) (by omega))) (fun c19 => ?_)
          refine jx_aload0 (pc := 22) d_R_quarrelOf_22 ?_
          refine jx_getR (pc := 23) gf_R_43 d_R_quarrelOf_23 ad_79 sh_79 rfl ?_
          refine jx_iload3 (pc := 26) d_R_quarrelOf_26 ?_
          refine jx_iald (pc := 27) d_R_quarrelOf_27 ad_91 sh_91 (vp_in_nI (show ahd < 30 by omega) (by omega)) ?_
          refine jx_aload0 (pc := 28) d_R_quarrelOf_28 ?_
          refine jx_getR (pc := 29) gf_R_43 d_R_quarrelOf_29 ad_79 sh_79 rfl ?_
          refine jx_iload2 (pc := 32) d_R_quarrelOf_32 ?_
          refine jx_iald (pc := 33) d_R_quarrelOf_33 ad_91 sh_91 (vp_in_nI (show day < 30 by omega) (by omega)) ?_
          refine jx_icmp_eq (pc := 34) 56 d_R_quarrelOf_34 (by decide) (fun c34 => ?_) (fun c34 => absurd c34 (fun q => q (hfd.mpr hne)))
          refine jx_iinc3 (pc := 56) d_R_quarrelOf_56 rfl (Nat.le_of_ble_eq_true rfl) ?_
          refine jx_goto (pc := 59) 17 d_R_quarrelOf_59 (by decide) ?_
          rotate_left
          rw [nI_add1]
          exact h9
        · by_cases ha : alk s day ahd = true
          · have ha2 := alk_symm.mp ha
            have hq3 : qin s day (ahd + 1) = some ahd := by rw [qin_s hq2, if_pos (by unfold qrC; simp [hne, ha])]
            have hq4 : qout s (day + 1) = some (day, ahd) := by rw [qout_s hq1, qin_mono hq3 (by omega)]; rfl
            rw [fin _ (qout_mono hq4 (by omega))] at k
            by_cases hw0 : nI w = 0
            · have k2 : ∀ M', ScrR M M' → RdR s M' → Q (some (.int (nI day))) M' := fun M' h h' => by have := k M' h h'; simp only [if_pos hw0] at this; exact this
              refine jx_iload3 (pc := 17) d_R_quarrelOf_17 ?_
              refine jx_iload2 (pc := 18) d_R_quarrelOf_18 ?_
              refine jx_icmp_ge (pc := 19) 62 d_R_quarrelOf_19 (by decide) (fun c19 => absurd c19 (nI_ge (by omega) (by omega))) (fun c19 => ?_)
              refine jx_aload0 (pc := 22) d_R_quarrelOf_22 ?_
              refine jx_getR (pc := 23) gf_R_43 d_R_quarrelOf_23 ad_79 sh_79 rfl ?_
              refine jx_iload3 (pc := 26) d_R_quarrelOf_26 ?_
              refine jx_iald (pc := 27) d_R_quarrelOf_27 ad_91 sh_91 (vp_in_nI (show ahd < 30 by omega) (by omega)) ?_
              refine jx_aload0 (pc := 28) d_R_quarrelOf_28 ?_
              refine jx_getR (pc := 29) gf_R_43 d_R_quarrelOf_29 ad_79 sh_79 rfl ?_
              refine jx_iload2 (pc := 32) d_R_quarrelOf_32 ?_
              refine jx_iald (pc := 33) d_R_quarrelOf_33 ad_91 sh_91 (vp_in_nI (show day < 30 by omega) (by omega)) ?_
              refine jx_icmp_eq (pc := 34) 56 d_R_quarrelOf_34 (by decide) (fun c34 => absurd c34 (fun q => hne (hfd.mp q))) (fun c34 => ?_)
              refine jx_aload0 (pc := 37) d_R_quarrelOf_37 ?_
              refine jx_iload3 (pc := 38) d_R_quarrelOf_38 ?_
              refine jx_iload2 (pc := 39) d_R_quarrelOf_39 ?_
              refine jx_callV2 (pc := 40) (d' := d + 3) vo_R_areAlike lk_R_204 d_R_quarrelOf_40 ad_79 sh_79 rfl (by omega) (Nat.le_of_ble_eq_true rfl) ?_
              refine c_R_areAlike (d := d + 1) hw hR2 hr2 (show ahd < 30 by omega) (show day < 30 by omega) ?_
              refine jx_r1 ?_
              refine jx_if_eq (pc := 43) 56 d_R_quarrelOf_43 (by decide) (fun c43 => absurd c43 (by rw [if_pos ha2]; decide)) (fun c43 => ?_)
              refine jx_iload1 (pc := 46) d_R_quarrelOf_46 ?_
              refine jx_if_ne (pc := 47) 54 d_R_quarrelOf_47 (by decide) (fun c47 => absurd c47 (fun q => q hw0)) (fun c47 => ?_)
              refine jx_iload2 (pc := 50) d_R_quarrelOf_50 ?_
              refine jx_goto (pc := 51) 55 d_R_quarrelOf_51 (by decide) ?_
              refine jx_iret (pc := 55) hX rfl d_R_quarrelOf_55 ?_
              rotate_left
              exact k2 M2 hS hr2
            · have k2 : ∀ M', ScrR M M' → RdR s M' → Q (some (.int (nI ahd))) M' := fun M' h h' => by have := k M' h h'; simp only [if_neg hw0] at this; exact this
              refine jx_iload3 (pc := 17) d_R_quarrelOf_17 ?_
              refine jx_iload2 (pc := 18) d_R_quarrelOf_18 ?_
              refine jx_icmp_ge (pc := 19) 62 d_R_quarrelOf_19 (by decide) (fun c19 => absurd c19 (nI_ge (by omega) (by omega))) (fun c19 => ?_)
              refine jx_aload0 (pc := 22) d_R_quarrelOf_22 ?_
              refine jx_getR (pc := 23) gf_R_43 d_R_quarrelOf_23 ad_79 sh_79 rfl ?_
              refine jx_iload3 (pc := 26) d_R_quarrelOf_26 ?_
              refine jx_iald (pc := 27) d_R_quarrelOf_27 ad_91 sh_91 (vp_in_nI (show ahd < 30 by omega) (by omega)) ?_
              refine jx_aload0 (pc := 28) d_R_quarrelOf_28 ?_
              refine jx_getR (pc := 29) gf_R_43 d_R_quarrelOf_29 ad_79 sh_79 rfl ?_
              refine jx_iload2 (pc := 32) d_R_quarrelOf_32 ?_
              refine jx_iald (pc := 33) d_R_quarrelOf_33 ad_91 sh_91 (vp_in_nI (show day < 30 by omega) (by omega)) ?_
              refine jx_icmp_eq (pc := 34) 56 d_R_quarrelOf_34 (by decide) (fun c34 => absurd c34 (fun q => hne (hfd.mp q))) (fun c34 => ?_)
              refine jx_aload0 (pc := 37) d_R_quarrelOf_37 ?_
              refine jx_iload3 (pc := 38) d_R_quarrelOf_38 ?_
              refine jx_iload2 (pc := 39) d_R_quarrelOf_39 ?_
              refine jx_callV2 (pc := 40) (d' := d + 3) vo_R_areAlike lk_R_204 d_R_quarrelOf_40 ad_79 sh_79 rfl (by omega) (Nat.le_of_ble_eq_true rfl) ?_
              refine c_R_areAlike (d := d + 1) hw hR2 hr2 (show ahd < 30 by omega) (show day < 30 by omega) ?_
              refine jx_r1 ?_
              refine jx_if_eq (pc := 43) 56 d_R_quarrelOf_43 (by decide) (fun c43 => absurd c43 (by rw [if_pos ha2]; decide)) (fun c43 => ?_)
              refine jx_iload1 (pc := 46) d_R_quarrelOf_46 ?_
              refine jx_if_ne (pc := 47) 54 d_R_quarrelOf_47 (by decide) (fun c47 => ?_) (fun c47 => absurd c47 hw0)
              refine jx_iload3 (pc := 54) d_R_quarrelOf_54 ?_
              refine jx_iret (pc := 55) hX rfl d_R_quarrelOf_55 ?_
              rotate_left
              exact k2 M2 hS hr2
          · have ha2 : ¬ alk s ahd day = true := fun z => ha (alk_symm.mp z)
            have hq3 : qin s day (ahd + 1) = none := by rw [qin_s hq2, if_neg (by unfold qrC; simp [ha])]
            have h9 := ih2 day (ahd + 1) h1 (by omega) hq1 hq3 (by omega) hlt
            refine jx_iload3 (pc := 17) d_R_quarrelOf_17 ?_
            refine jx_iload2 (pc := 18) d_R_quarrelOf_18 ?_
            refine jx_icmp_ge (pc := 19) 62 d_R_quarrelOf_19 (by decide) (fun c19 => absurd c19 (nI_ge (by omega) (by omega))) (fun c19 => ?_)
            refine jx_aload0 (pc := 22) d_R_quarrelOf_22 ?_
            refine jx_getR (pc := 23) gf_R_43 d_R_quarrelOf_23 ad_79 sh_79 rfl ?_
            refine jx_iload3 (pc := 26) d_R_quarrelOf_26 ?_
            refine jx_iald (pc := 27) d_R_quarrelOf_27 ad_91 sh_91 (vp_in_nI (show ahd < 30 by omega) (by omega)) ?_
            refine jx_aload0 (pc := 28) d_R_quarrelOf_28 ?_
            refine jx_getR (pc := 29) gf_R_43 d_R_quarrelOf_29 ad_79 sh_79 rfl ?_
            refine jx_iload2 (pc := 32) d_R_quarrelOf_32 ?_
            refine jx_iald (pc := 33) d_R_quarrelOf_33 ad_91 sh_91 (vp_in_nI (show day < 30 by omega) (by omega)) ?_
            refine jx_icmp_eq (pc := 34) 56 d_R_quarrelOf_34 (by decide) (fun c34 => absurd c34 (fun q => hne (hfd.mp q))) (fun c34 => ?_)
            refine jx_aload0 (pc := 37) d_R_quarrelOf_37 ?_
            refine jx_iload3 (pc := 38) d_R_quarrelOf_38 ?_
            refine jx_iload2 (pc := 39) d_R_quarrelOf_39 ?_
            refine jx_callV2 (pc := 40) (d' := d + 3) vo_R_areAlike lk_R_204 d_R_quarrelOf_40 ad_79 sh_79 rfl (by omega) (Nat.le_of_ble_eq_true rfl) ?_
            refine c_R_areAlike (d := d + 1) hw hR2 hr2 (show ahd < 30 by omega) (show day < 30 by omega) ?_
            refine jx_r1 ?_
            refine jx_if_eq (pc := 43) 56 d_R_quarrelOf_43 (by decide) (fun c43 => ?_) (fun c43 => absurd c43 (fun q => q (by rw [if_neg ha2])))
            refine jx_iinc3 (pc := 56) d_R_quarrelOf_56 rfl (Nat.le_of_ble_eq_true rfl) ?_
            refine jx_goto (pc := 59) 17 d_R_quarrelOf_59 (by decide) ?_
            rotate_left
            rw [nI_add1]
            exact h9
  refine jx_aload0 (pc := 0) d_R_quarrelOf_0 ?_
  refine jx_iconst (pc := 1) (v := 0) d_R_quarrelOf_1 (by decide) ?_
  refine jx_bipush (pc := 2) (v := 29) d_R_quarrelOf_2 (by decide) ?_
  refine jx_callV2 (pc := 4) (d' := d + 3) vo_R_runsTold lk_R_179 d_R_quarrelOf_4 ad_79 sh_79 rfl (by omega) (Nat.le_of_ble_eq_true rfl) ?_
  refine c_R_runsTold (dog := 0) (last := 29) hw hR (by omega) (by omega) (fun M3 hS3 hr3 h91 h89 hbb3 => ?_)
  refine jx_r0 ?_
  refine jx_iconst (pc := 7) (v := 1) d_R_quarrelOf_7 (by decide) ?_
  refine jx_istore2 (pc := 8) d_R_quarrelOf_8 rfl (Nat.le_of_ble_eq_true rfl) ?_
  refine jx_iload2 (pc := 9) d_R_quarrelOf_9 ?_
  refine jx_bipush (pc := 10) (v := 30) d_R_quarrelOf_10 (by decide) ?_
  refine jx_icmp_ge (pc := 12) 68 d_R_quarrelOf_12 (by decide) (fun c12 => absurd c12 (by decide)) (fun c12 => ?_)
  refine jx_iconst (pc := 15) (v := 0) d_R_quarrelOf_15 (by decide) ?_
  refine jx_istore3 (pc := 16) d_R_quarrelOf_16 rfl (Nat.le_of_ble_eq_true rfl) ?_
  rotate_left
  have q1 : qout s 1 = none := by rw [qout_s rfl]; rfl
  exact loop M3 hS3 hr3 (fun q hq => h91 q (by omega)) 29 1 1 0 (by omega) (by omega) q1 rfl (by omega) (by omega)
theorem c_R_quarrel {d : Nat} {w : Int32} {s : Sg} {M : j_M} {Q : Option Value → j_M → Prop} (hw : WF s) (hR : RepR s M) (k : ∀ M', ScrR M M' → Q (some (.int (r_quarrel s w))) M') : j_Ct (d + 5) I_R_quarrel [.ref 79, .int w] M Q := by
  refine j_met (by decide +kernel) co_R_quarrel (Nat.le_of_ble_eq_true rfl) (fun X hX => ?_)
  show j_W (d + 5) I_R_quarrel X 0 [some (.ref 79), some (.int w)] [] M
  by_cases hb : 0 ≤ w ∧ w < 2
  · have hb1 : 0 ≤ w ∧ w ≤ 1 := in2.mpr hb
    obtain ⟨a, ha, rfl, ea⟩ := okd w 2 (by omega) hb
    refine jx_iload1 (pc := 0) d_R_quarrel_0 ?_
    refine jx_iconst (pc := 1) (v := 0) d_R_quarrel_1 (by decide) ?_
    refine jx_iconst (pc := 2) (v := 1) d_R_quarrel_2 (by decide) ?_
    refine jx_callS3 (pc := 3) (d' := 0) so_R_in lk_R_95 d_R_quarrel_3 (by omega) (Nat.le_of_ble_eq_true rfl) ?_
    refine c_R_in ?_
    refine jx_r1 ?_
    refine jx_if_eq (pc := 6) 17 d_R_quarrel_6 (by decide) (fun c6 => absurd c6 (z01p hb1)) (fun c6 => ?_)
    refine jx_aload0 (pc := 9) d_R_quarrel_9 ?_
    refine jx_iload1 (pc := 10) d_R_quarrel_10 ?_
    refine jx_callV1 (pc := 11) (d' := d + 4) vo_R_quarrelOf lk_R_207 d_R_quarrel_11 ad_79 sh_79 rfl (by omega) (Nat.le_of_ble_eq_true rfl) ?_
    refine c_R_quarrelOf hw hR ha (fun M2 hS hr2 => ?_)
    refine jx_r1 ?_
    refine jx_goto (pc := 14) 19 d_R_quarrel_14 (by decide) ?_
    refine jx_iret (pc := 19) hX rfl d_R_quarrel_19 ?_
    rotate_left
    exact k M2 hS
  · have hb1 : ¬ (0 ≤ w ∧ w ≤ 1) := fun q => hb (in2.mp q)
    have hr : r_quarrel s w = -2 := by unfold r_quarrel; rw [if_neg hb]
    rw [hr] at k
    refine jx_iload1 (pc := 0) d_R_quarrel_0 ?_
    refine jx_iconst (pc := 1) (v := 0) d_R_quarrel_1 (by decide) ?_
    refine jx_iconst (pc := 2) (v := 1) d_R_quarrel_2 (by decide) ?_
    refine jx_callS3 (pc := 3) (d' := 0) so_R_in lk_R_95 d_R_quarrel_3 (by omega) (Nat.le_of_ble_eq_true rfl) ?_
    refine c_R_in ?_
    refine jx_r1 ?_
    refine jx_if_eq (pc := 6) 17 d_R_quarrel_6 (by decide) (fun c6 => ?_) (fun c6 => absurd c6 (fun q => q (z01.mpr hb1)))
    refine jx_bipush (pc := 17) (v := (-2)) d_R_quarrel_17 (by decide) ?_
    refine jx_iret (pc := 19) hX rfl d_R_quarrel_19 ?_
    rotate_left
    exact k M ScrR.rf
