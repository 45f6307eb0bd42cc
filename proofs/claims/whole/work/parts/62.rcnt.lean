/-! OPERATIONS of the reference, ten: count, read -/
def vtG (s : Sg) (n : Nat) : Nat → Nat
  | 0 => 0
  | D + 1 => if (g_wy s 3).testBit D then vtG s n D else vtG s n D + ((ixV n (g_vd s) D).filter (fun k => decide (g_vh s k < g_hn s))).length
def cvN (s : Sg) : Nat → Nat
  | 0 => 0
  | n + 1 => if g_vh s n < g_hn s ∧ (g_wy s 3).testBit (g_vd s n) = false then cvN s n + 1 else cvN s n
theorem vtG_vtS (s : Sg) : ∀ D, vtG s (g_nv s) D = vtS s D
  | 0 => rfl
  | D + 1 => by
    unfold vtG vtS
    rw [vtG_vtS s D]
    unfold cmS g_bs
    rw [List.filter_map, List.length_map]
    rfl
theorem vtG_0 (s : Sg) : ∀ D, vtG s 0 D = 0
  | 0 => rfl
  | D + 1 => by
    unfold vtG
    rw [vtG_0 s D]
    simp [ixV]
theorem vtG_1 (s : Sg) (n : Nat) : ∀ D, vtG s (n + 1) D = vtG s n D + (if g_vd s n < D ∧ g_vh s n < g_hn s ∧ (g_wy s 3).testBit (g_vd s n) = false then 1 else 0)
  | 0 => by unfold vtG; rw [if_neg (fun z => absurd z.1 (Nat.not_lt_zero _))]
  | D + 1 => by
    have ih := vtG_1 s n D
    unfold vtG
    by_cases hs : (g_wy s 3).testBit D = true
    · rw [if_pos hs, if_pos hs, ih]
      by_cases hc : g_vd s n < D ∧ g_vh s n < g_hn s ∧ (g_wy s 3).testBit (g_vd s n) = false
      · rw [if_pos hc, if_pos ⟨by omega, hc.2⟩]
      · rw [if_neg hc, if_neg (fun z => hc ⟨by
          have h1 := z.1
          have h2 : g_vd s n ≠ D := fun e => by rw [e, hs] at z; exact absurd z.2.2 (by decide)
          omega, z.2⟩)]
    · rw [if_neg hs, if_neg hs, ih, ixV_succ, List.filter_append, List.length_append]
      by_cases hd : g_vd s n = D
      · rw [if_pos hd]
        have h0 : ¬ (g_vd s n < D ∧ g_vh s n < g_hn s ∧ (g_wy s 3).testBit (g_vd s n) = false) := fun z => by have := z.1; omega
        rw [if_neg h0]
        by_cases hh : g_vh s n < g_hn s
        · rw [if_pos ⟨by omega, hh, by rw [hd]; simpa using hs⟩]
          simp [hh, Nat.add_assoc]
        · rw [if_neg (fun z => hh z.2.1)]
          simp [hh]
      · rw [if_neg hd]
        by_cases hc : g_vd s n < D ∧ g_vh s n < g_hn s ∧ (g_wy s 3).testBit (g_vd s n) = false
        · rw [if_pos hc, if_pos ⟨by omega, hc.2⟩]; simp; omega
        · rw [if_neg hc, if_neg (fun z => hc ⟨by have := z.1; omega, z.2⟩)]; simp
theorem cv_vt {s : Sg} (hw : WF s) : cvN s (g_nv s) = vtS s 30 := by
  rw [← vtG_vtS]
  generalize g_nv s = n
  induction n with
  | zero => rw [vtG_0]; rfl
  | succ n ih =>
    rw [vtG_1, ← ih, cvN]
    have h30 := (hw.2.2.2.2.2.2.1 n).1
    by_cases hc : g_vh s n < g_hn s ∧ (g_wy s 3).testBit (g_vd s n) = false
    · rw [if_pos hc, if_pos ⟨h30, hc⟩]
    · rw [if_neg hc, if_neg (fun z => hc z.2), Nat.add_zero]
theorem c_R_countsMany {d : Nat} {w : Int32} {s : Sg} {M : j_M} {Q : Option Value → j_M → Prop} (hw : WF s) (hR : RepR s M) (k : ∀ M', ScrR M M' → Q (some (.int (if w = 0 then nI (g_hn s) else nI (vtS s 30)))) M') : j_Ct (d + 3) I_R_countsMany [.ref 79, .int w] M Q := by
  refine j_met (by decide +kernel) co_R_countsMany (Nat.le_of_ble_eq_true rfl) (fun X hX => ?_)
  show j_W (d + 3) I_R_countsMany X 0 [some (.ref 79), some (.int w), none, none] [] M
  have hn6 : g_hn s ≤ 6 := hnB_le hw.1
  have hn24 := hw.2.2.2.2.2.1
  have loop : ∀ (M1 : j_M), RdR s M1 → OffF M M1 → ∀ (r i : Nat), i + r = g_nv s → j_W (d + 3) I_R_countsMany X 8 [some (.ref 79), some (.int w), some (.int (nI (cvN s i))), some (.int (nI i))] [] M1 := by
    intro M1 hr1 hO r
    have hR1 := hR.offF hO
    have h10 : M1 79 10 = nI (g_nv s) := hR1.2.2.2.1.1
    have h8 : M1 79 8 = nI (g_wy s 3) := hR1.2.2.1 3 (by omega)
    induction r with
    | zero =>
      intro i hi
      have hi' : i = g_nv s := by omega
      subst hi'
      rw [cv_vt hw]
      by_cases hw0 : w = 0
      · rw [if_pos hw0] at k
        refine jx_iload3 (pc := 8) d_R_countsMany_8 ?_
        refine jx_aload0 (pc := 9) d_R_countsMany_9 ?_
        refine jx_getI (pc := 10) gf_R_132 d_R_countsMany_10 ad_79 sh_79 rfl ?_
        refine jx_icmp_ge (pc := 13) 59 d_R_countsMany_13 (by decide) (fun c13 => ?_) (fun c13 => absurd c13 (fun q => q (by rw [h10]; exact Int32.le_refl _)))
        refine jx_iload1 (pc := 59) d_R_countsMany_59 ?_
        refine jx_if_ne (pc := 60) 70 d_R_countsMany_60 (by decide) (fun c60 => absurd c60 (fun q => q hw0)) (fun c60 => ?_)
        refine jx_aload0 (pc := 63) d_R_countsMany_63 ?_
        refine jx_getI (pc := 64) gf_R_102 d_R_countsMany_64 ad_79 sh_79 rfl ?_
        refine jx_goto (pc := 67) 71 d_R_countsMany_67 (by decide) ?_
        refine jx_iret (pc := 71) hX rfl d_R_countsMany_71 ?_
        rotate_left
        rw [hr1.1]
        exact k M1 (ScrR.offF hO)
      · rw [if_neg hw0] at k
        refine jx_iload3 (pc := 8) d_R_countsMany_8 ?_
        refine jx_aload0 (pc := 9) d_R_countsMany_9 ?_
        refine jx_getI (pc := 10) gf_R_132 d_R_countsMany_10 ad_79 sh_79 rfl ?_
        refine jx_icmp_ge (pc := 13) 59 d_R_countsMany_13 (by decide) (fun c13 => ?_) (fun c13 => absurd c13 (fun q => q (by rw [h10]; exact Int32.le_refl _)))
        refine jx_iload1 (pc := 59) d_R_countsMany_59 ?_
        refine jx_if_ne (pc := 60) 70 d_R_countsMany_60 (by decide) (fun c60 => ?_) (fun c60 => absurd c60 hw0)
        refine jx_iload2 (pc := 70) d_R_countsMany_70 ?_
        refine jx_iret (pc := 71) hX rfl d_R_countsMany_71 ?_
        rotate_left
        exact k M1 (ScrR.offF hO)
    | succ r ih =>
      intro i hi
      have e1 : (nI i).toNatClampNeg = i := nI_cl (by omega)
      have hv : vp_in (nI i) 24 := vp_in_nI (by omega) (by omega)
      obtain ⟨g1, g2, g3⟩ := hw.2.2.2.2.2.2.1 i
      obtain ⟨m1, m2, m3⟩ := hR1.2.2.2.1.2 i (by omega)
      have h0 := ih (i + 1) (by omega)
      have hno : ∀ (h : ¬ (g_vh s i < g_hn s ∧ (g_wy s 3).testBit (g_vd s i) = false)), j_W (d + 3) I_R_countsMany X 50 [some (.ref 79), some (.int w), some (.int (nI (cvN s i))), some (.int (nI i))] [.int (nI (cvN s i))] M1 := by
        intro h
        rw [cvN, if_neg h] at h0
        refine jx_iconst (pc := 50) (v := 0) d_R_countsMany_50 (by decide) ?_
        refine jx_iadd (pc := 51) d_R_countsMany_51 ?_
        refine jx_istore2 (pc := 52) d_R_countsMany_52 rfl (Nat.le_of_ble_eq_true rfl) ?_
        refine jx_iinc3 (pc := 53) d_R_countsMany_53 rfl (Nat.le_of_ble_eq_true rfl) ?_
        refine jx_goto (pc := 56) 8 d_R_countsMany_56 (by decide) ?_
        rotate_left
        rw [nI_add1, show nI (cvN s i) + 0 = nI (cvN s i) by rw [← nI_0, nI_add, Nat.add_zero]]
        exact h0
      by_cases hh : g_vh s i < g_hn s
      · have hge : ¬ M1 79 2 ≤ M1 84 (nI i).toNatClampNeg := by rw [hr1.1, e1, m2]; exact nI_ge hh (by omega)
        by_cases hs : (g_wy s 3).testBit (g_vd s i) = true
        · -- asleep
          refine jx_iload3 (pc := 8) d_R_countsMany_8 ?_
          refine jx_aload0 (pc := 9) d_R_countsMany_9 ?_
          refine jx_getI (pc := 10) gf_R_132 d_R_countsMany_10 ad_79 sh_79 rfl ?_
          refine jx_icmp_ge (pc := 13) 59 d_R_countsMany_13 (by decide) (fun c13 => absurd c13 (by rw [h10]; exact nI_ge (by omega) (by omega))) (fun c13 => ?_)
          refine jx_iload2 (pc := 16) d_R_countsMany_16 ?_
          refine jx_aload0 (pc := 17) d_R_countsMany_17 ?_
          refine jx_getR (pc := 18) gf_R_22 d_R_countsMany_18 ad_79 sh_79 rfl ?_
          refine jx_iload3 (pc := 21) d_R_countsMany_21 ?_
          refine jx_iald (pc := 22) d_R_countsMany_22 ad_84 sh_84 (by first | assumption | exact vp_in_nI (by omega) (by omega)) ?_
          refine jx_aload0 (pc := 23) d_R_countsMany_23 ?_
          refine jx_getI (pc := 24) gf_R_102 d_R_countsMany_24 ad_79 sh_79 rfl ?_
          refine jx_icmp_ge (pc := 27) 50 d_R_countsMany_27 (by decide) (fun c27 => absurd c27 hge) (fun c27 => ?_)
          refine jx_aload0 (pc := 30) d_R_countsMany_30 ?_
          refine jx_getI (pc := 31) gf_R_123 d_R_countsMany_31 ad_79 sh_79 rfl ?_
          refine jx_aload0 (pc := 34) d_R_countsMany_34 ?_
          refine jx_getR (pc := 35) gf_R_19 d_R_countsMany_35 ad_79 sh_79 rfl ?_
          refine jx_iload3 (pc := 38) d_R_countsMany_38 ?_
          refine jx_iald (pc := 39) d_R_countsMany_39 ad_83 sh_83 (by first | assumption | exact vp_in_nI (by omega) (by omega)) ?_
          refine jx_callS2 (pc := 40) (d' := 0) so_R_isIn lk_R_155 d_R_countsMany_40 (by omega) (Nat.le_of_ble_eq_true rfl) ?_
          rw [h8, e1, m1]
          refine c_R_bit (by have := hw.2.2.2.2.1; omega) (by omega) ?_
          refine jx_r1 ?_
          refine jx_if_ne (pc := 43) 50 d_R_countsMany_43 (by decide) (fun c43 => ?_) (fun c43 => absurd c43 (by rw [if_pos hs]; decide))
          rotate_left
          exact hno (fun z => by rw [hs] at z; exact absurd z.2 (by decide))
        · -- it counts
          refine jx_iload3 (pc := 8) d_R_countsMany_8 ?_
          refine jx_aload0 (pc := 9) d_R_countsMany_9 ?_
          refine jx_getI (pc := 10) gf_R_132 d_R_countsMany_10 ad_79 sh_79 rfl ?_
          refine jx_icmp_ge (pc := 13) 59 d_R_countsMany_13 (by decide) (fun c13 => absurd c13 (by rw [h10]; exact nI_ge (by omega) (by omega))) (fun c13 => ?_)
          refine jx_iload2 (pc := 16) d_R_countsMany_16 ?_
          refine jx_aload0 (pc := 17) d_R_countsMany_17 ?_
          refine jx_getR (pc := 18) gf_R_22 d_R_countsMany_18 ad_79 sh_79 rfl ?_
          refine jx_iload3 (pc := 21) d_R_countsMany_21 ?_
          refine jx_iald (pc := 22) d_R_countsMany_22 ad_84 sh_84 (by first | assumption | exact vp_in_nI (by omega) (by omega)) ?_
          refine jx_aload0 (pc := 23) d_R_countsMany_23 ?_
          refine jx_getI (pc := 24) gf_R_102 d_R_countsMany_24 ad_79 sh_79 rfl ?_
          refine jx_icmp_ge (pc := 27) 50 d_R_countsMany_27 (by decide) (fun c27 => absurd c27 hge) (fun c27 => ?_)
          refine jx_aload0 (pc := 30) d_R_countsMany_30 ?_
          refine jx_getI (pc := 31) gf_R_123 d_R_countsMany_31 ad_79 sh_79 rfl ?_
          refine jx_aload0 (pc := 34) d_R_countsMany_34 ?_
          refine jx_getR (pc := 35) gf_R_19 d_R_countsMany_35 ad_79 sh_79 rfl ?_
          refine jx_iload3 (pc := 38) d_R_countsMany_38 ?_
          refine jx_iald (pc := 39) d_R_countsMany_39 ad_83 sh_83 (by first | assumption | exact vp_in_nI (by omega) (by omega)) ?_
          refine jx_callS2 (pc := 40) (d' := 0) so_R_isIn lk_R_155 d_R_countsMany_40 (by omega) (Nat.le_of_ble_eq_true rfl) ?_
          rw [h8, e1, m1]
          refine c_R_bit (by have := hw.2.2.2.2.1; omega) (by omega) ?_
          refine jx_r1 ?_
          refine jx_if_ne (pc := 43) 50 d_R_countsMany_43 (by decide) (fun c43 => absurd c43 (fun q => q (by rw [if_neg hs]))) (fun c43 => ?_)
          refine jx_iconst (pc := 46) (v := 1) d_R_countsMany_46 (by decide) ?_
          refine jx_goto (pc := 47) 51 d_R_countsMany_47 (by decide) ?_
          refine jx_iadd (pc := 51) d_R_countsMany_51 ?_
          refine jx_istore2 (pc := 52) d_R_countsMany_52 rfl (Nat.le_of_ble_eq_true rfl) ?_
          refine jx_iinc3 (pc := 53) d_R_countsMany_53 rfl (Nat.le_of_ble_eq_true rfl) ?_
          refine jx_goto (pc := 56) 8 d_R_countsMany_56 (by decide) ?_
          rotate_left
          rw [cvN, if_pos ⟨hh, by simpa using hs⟩] at h0
          rw [nI_add1, nI_1]
          exact h0
      · have hge : M1 79 2 ≤ M1 84 (nI i).toNatClampNeg := by rw [hr1.1, e1, m2]; exact nI_le (by omega) (by omega)
        refine jx_iload3 (pc := 8) d_R_countsMany_8 ?_
        refine jx_aload0 (pc := 9) d_R_countsMany_9 ?_
        refine jx_getI (pc := 10) gf_R_132 d_R_countsMany_10 ad_79 sh_79 rfl ?_
        refine jx_icmp_ge (pc := 13) 59 d_R_countsMany_13 (by decide) (fun c13 => absurd c13 (by rw [h10]; exact nI_ge (by omega) (by omega))) (fun c13 => ?_)
        refine jx_iload2 (pc := 16) d_R_countsMany_16 ?_
        refine jx_aload0 (pc := 17) d_R_countsMany_17 ?_
        refine jx_getR (pc := 18) gf_R_22 d_R_countsMany_18 ad_79 sh_79 rfl ?_
        refine jx_iload3 (pc := 21) d_R_countsMany_21 ?_
        refine jx_iald (pc := 22) d_R_countsMany_22 ad_84 sh_84 (by first | assumption | exact vp_in_nI (by omega) (by omega)) ?_
        refine jx_aload0 (pc := 23) d_R_countsMany_23 ?_
        refine jx_getI (pc := 24) gf_R_102 d_R_countsMany_24 ad_79 sh_79 rfl ?_
        refine jx_icmp_ge (pc := 27) 50 d_R_countsMany_27 (by decide) (fun c27 => ?_) (fun c27 => absurd c27 (fun q => q hge))
        rotate_left
        exact hno (fun z => hh z.1)
  refine jx_aload0 (pc := 0) d_R_countsMany_0 ?_
  refine jx_callV0 (pc := 1) (d' := d + 2) vo_R_reads lk_R_109 d_R_countsMany_1 ad_79 sh_79 rfl (by omega) (Nat.le_of_ble_eq_true rfl) ?_
  refine c_R_reads hw hR (fun M1 hr1 hO1 => ?_)
  refine jx_r0 ?_
  refine jx_iconst (pc := 4) (v := 0) d_R_countsMany_4 (by decide) ?_
  refine jx_istore2 (pc := 5) d_R_countsMany_5 rfl (Nat.le_of_ble_eq_true rfl) ?_
  refine jx_iconst (pc := 6) (v := 0) d_R_countsMany_6 (by decide) ?_
  refine jx_istore3 (pc := 7) d_R_countsMany_7 rfl (Nat.le_of_ble_eq_true rfl) ?_
  rotate_left
  exact loop M1 hr1 hO1 (g_nv s) 0 (by omega)
theorem c_R_count {d : Nat} {w : Int32} {s : Sg} {M : j_M} {Q : Option Value → j_M → Prop} (hw : WF s) (hR : RepR s M) (k : ∀ M', ScrR M M' → Q (some (.int (r_count s w))) M') : j_Ct (d + 4) I_R_count [.ref 79, .int w] M Q := by
  refine j_met (by decide +kernel) co_R_count (Nat.le_of_ble_eq_true rfl) (fun X hX => ?_)
  show j_W (d + 4) I_R_count X 0 [some (.ref 79), some (.int w)] [] M
  refine jx_iload1 (pc := 0) d_R_count_0 ?_
  by_cases hb : 0 ≤ w ∧ w < 9
  · obtain ⟨c, hc, rfl, ec⟩ := okd w 9 (by omega) hb
    have hrc : r_count s (nI c) = cntF s c := by unfold r_count; rw [if_pos hb, ec]
    rw [hrc] at k
    have h9 : c = 0 ∨ c = 1 ∨ c = 2 ∨ c = 3 ∨ c = 4 ∨ c = 5 ∨ c = 6 ∨ c = 7 ∨ c = 8 := by omega
    rcases h9 with rfl | rfl | rfl | rfl | rfl | rfl | rfl | rfl | rfl
    · refine jx_tableIn (pc := 1) 52 d_R_count_1 (by decide) (by decide) (off := 51) (by decide) (by decide) ?_
      refine jx_aload0 (pc := 52) d_R_count_52 ?_
      refine jx_iload1 (pc := 53) d_R_count_53 ?_
      refine jx_callV1 (pc := 54) (d' := d + 3) vo_R_countsMany lk_R_299 d_R_count_54 ad_79 sh_79 rfl (by omega) (Nat.le_of_ble_eq_true rfl) ?_
      refine c_R_countsMany hw hR (fun M2 hS => ?_)
      rw [if_pos (show nI 0 = 0 from rfl)]
      refine jx_r1 ?_
      refine jx_iret (pc := 57) hX rfl d_R_count_57 ?_
      rotate_left
      exact k M2 hS
    · refine jx_tableIn (pc := 1) 58 d_R_count_1 (by decide) (by decide) (off := 57) (by decide) (by decide) ?_
      refine jx_aload0 (pc := 58) d_R_count_58 ?_
      refine jx_getI (pc := 59) gf_R_99 d_R_count_59 ad_79 sh_79 rfl ?_
      refine jx_iret (pc := 62) hX rfl d_R_count_62 ?_
      rotate_left
      rw [hR.1.1]
      exact k M ScrR.rf
    · refine jx_tableIn (pc := 1) 63 d_R_count_1 (by decide) (by decide) (off := 62) (by decide) (by decide) ?_
      refine jx_aload0 (pc := 63) d_R_count_63 ?_
      refine jx_getI (pc := 64) gf_R_132 d_R_count_64 ad_79 sh_79 rfl ?_
      refine jx_iret (pc := 67) hX rfl d_R_count_67 ?_
      rotate_left
      rw [hR.2.2.2.1.1]
      exact k M ScrR.rf
    · refine jx_tableIn (pc := 1) 52 d_R_count_1 (by decide) (by decide) (off := 51) (by decide) (by decide) ?_
      refine jx_aload0 (pc := 52) d_R_count_52 ?_
      refine jx_iload1 (pc := 53) d_R_count_53 ?_
      refine jx_callV1 (pc := 54) (d' := d + 3) vo_R_countsMany lk_R_299 d_R_count_54 ad_79 sh_79 rfl (by omega) (Nat.le_of_ble_eq_true rfl) ?_
      refine c_R_countsMany hw hR (fun M2 hS => ?_)
      rw [if_neg (show ¬ nI 3 = 0 by decide)]
      refine jx_r1 ?_
      refine jx_iret (pc := 57) hX rfl d_R_count_57 ?_
      rotate_left
      exact k M2 hS
    · refine jx_tableIn (pc := 1) 68 d_R_count_1 (by decide) (by decide) (off := 67) (by decide) (by decide) ?_
      refine jx_aload0 (pc := 68) d_R_count_68 ?_
      refine jx_getI (pc := 69) gf_R_240 d_R_count_69 ad_79 sh_79 rfl ?_
      refine jx_iret (pc := 72) hX rfl d_R_count_72 ?_
      rotate_left
      rw [hR.2.2.2.2.1.1]
      exact k M ScrR.rf
    · refine jx_tableIn (pc := 1) 73 d_R_count_1 (by decide) (by decide) (off := 72) (by decide) (by decide) ?_
      refine jx_aload0 (pc := 73) d_R_count_73 ?_
      refine jx_getI (pc := 74) gf_R_83 d_R_count_74 ad_79 sh_79 rfl ?_
      refine jx_iret (pc := 77) hX rfl d_R_count_77 ?_
      rotate_left
      rw [(show M 79 5 = nI (g_wy s 0) from hR.2.2.1 0 (by omega))]
      exact k M ScrR.rf
    · refine jx_tableIn (pc := 1) 78 d_R_count_1 (by decide) (by decide) (off := 77) (by decide) (by decide) ?_
      refine jx_aload0 (pc := 78) d_R_count_78 ?_
      refine jx_getI (pc := 79) gf_R_87 d_R_count_79 ad_79 sh_79 rfl ?_
      refine jx_iret (pc := 82) hX rfl d_R_count_82 ?_
      rotate_left
      rw [(show M 79 6 = nI (g_wy s 1) from hR.2.2.1 1 (by omega))]
      exact k M ScrR.rf
    · refine jx_tableIn (pc := 1) 83 d_R_count_1 (by decide) (by decide) (off := 82) (by decide) (by decide) ?_
      refine jx_aload0 (pc := 83) d_R_count_83 ?_
      refine jx_getI (pc := 84) gf_R_123 d_R_count_84 ad_79 sh_79 rfl ?_
      refine jx_iret (pc := 87) hX rfl d_R_count_87 ?_
      rotate_left
      rw [(show M 79 8 = nI (g_wy s 3) from hR.2.2.1 3 (by omega))]
      exact k M ScrR.rf
    · refine jx_tableIn (pc := 1) 88 d_R_count_1 (by decide) (by decide) (off := 87) (by decide) (by decide) ?_
      refine jx_aload0 (pc := 88) d_R_count_88 ?_
      refine jx_getI (pc := 89) gf_R_289 d_R_count_89 ad_79 sh_79 rfl ?_
      refine jx_iret (pc := 92) hX rfl d_R_count_92 ?_
      rotate_left
      rw [hR.2.2.2.2.2.2]
      exact k M ScrR.rf
  · have hr : r_count s w = -2 := by unfold r_count; rw [if_neg hb]
    rw [hr] at k
    refine jx_tableOut (pc := 1) 93 d_R_count_1 ?_ (by decide) ?_
    · simp only [fa_le, fa_lt, Int32.reduceToInt] at hb; omega
    refine jx_bipush (pc := 93) (v := (-2)) d_R_count_93 (by decide) ?_
    refine jx_iret (pc := 95) hX rfl d_R_count_95 ?_
    rotate_left
    exact k M ScrR.rf
theorem c_R_read {d : Nat} {a : Int32} {s : Sg} {M : j_M} {Q : Option Value → j_M → Prop} (hw : WF s) (hR : RepR s M) (k : ∀ M', RepR (n_read s a) M' → WF (n_read s a) → Lo M M' → Q (some (.int (r_read s a))) M') : j_Ct (d + 3) I_R_read [.ref 79, .int a] M Q := by
  refine j_met (by decide +kernel) co_R_read (Nat.le_of_ble_eq_true rfl) (fun X hX => ?_)
  show j_W (d + 3) I_R_read X 0 [some (.ref 79), some (.int a), none] [] M
  by_cases hb : okPl a
  · obtain ⟨q, hq, rfl, ea⟩ := okd a 4 (by omega) hb
    have hvq : vp_in (nI q) 4 := vp_in_nI hq (by omega)
    have hL := lostR hR hq
    have hfq := fo_lt hw q
    have eq1 : (nI q).toNatClampNeg = q := ea
    by_cases h9 : g_fo s q = 9
    · have hr : r_read s (nI q) = -10 - 1 := by unfold r_read; rw [if_pos hb, ea, if_pos h9]
      have hnx : n_read s (nI q) = s_fi s 1 := by unfold n_read; rw [if_pos hb, ea, if_pos h9]
      rw [hr, hnx] at k
      have hL9 : M 99 (nI q).toNatClampNeg = 0 := by rw [eq1]; exact hL.mpr h9
      refine jx_iload1 (pc := 0) d_R_read_0 ?_
      refine jx_callS1 (pc := 1) (d' := 1) so_R_isSheet lk_R_135 d_R_read_1 (by omega) (Nat.le_of_ble_eq_true rfl) ?_
      refine c_R_isSheet ?_
      refine jx_r1 ?_
      refine jx_if_ne (pc := 4) 10 d_R_read_4 (by decide) (fun c4 => ?_) (fun c4 => absurd c4 (z01p hb))
      refine jx_aload0 (pc := 10) d_R_read_10 ?_
      refine jx_getR (pc := 11) gf_R_68 d_R_read_11 ad_79 sh_79 rfl ?_
      refine jx_iload1 (pc := 14) d_R_read_14 ?_
      refine jx_zald (pc := 15) d_R_read_15 ad_99 sh_99 (by first | assumption | exact vp_in_nI (by omega) (by omega)) ?_
      refine jx_if_ne (pc := 16) 25 d_R_read_16 (by decide) (fun c16 => absurd c16 (fun z => z hL9)) (fun c16 => ?_)
      refine jx_aload0 (pc := 19) d_R_read_19 ?_
      refine jx_iconst (pc := 20) (v := 1) d_R_read_20 (by decide) ?_
      refine jx_callV1 (pc := 21) (d' := 0) vo_R_meets lk_R_138 d_R_read_21 ad_79 sh_79 rfl (by omega) (Nat.le_of_ble_eq_true rfl) ?_
      refine c_R_meets ?_
      refine jx_r1 ?_
      refine jx_iret (pc := 24) hX rfl d_R_read_24 ?_
      rotate_left
      exact k _ (hR.fi 1) hw lo_fi
    · have hr : r_read s (nI q) = nI (rdS q 17 0 s).1 := by unfold r_read; rw [if_pos hb, ea, if_neg h9]
      have hnx : n_read s (nI q) = (rdS q 17 0 s).2 := by unfold n_read; rw [if_pos hb, ea, if_neg h9]
      rw [hr, hnx] at k
      have hL9 : ¬ M 99 (nI q).toNatClampNeg = 0 := by rw [eq1]; exact fun z => h9 (hL.mp z)
      have loop : ∀ (r i : Nat) (s2 : Sg) (M2 : j_M), i + r = 17 → WF s2 → RepR s2 M2 → Lo M M2 → rdS q 17 0 s = rdS q r i s2 → j_W (d + 3) I_R_read X 27 [some (.ref 79), some (.int (nI q)), some (.int (nI i))] [] M2 := by
        intro r
        induction r with
        | zero =>
          intro i s2 M2 hi hw2 hR2 hH hrd
          have hsi := (fo_lt hw2 q).2
          have h25 : M2 101 (nI q).toNatClampNeg = nI (g_si s2 q) := by rw [eq1]; exact (hR2.h q hq).2.2.1
          refine jx_iconst (pc := 27) (v := 3) d_R_read_27 (by decide) ?_
          refine jx_iload2 (pc := 28) d_R_read_28 ?_
          refine jx_imul (pc := 29) d_R_read_29 ?_
          refine jx_iconst (pc := 30) (v := 2) d_R_read_30 (by decide) ?_
          refine jx_iadd (pc := 31) d_R_read_31 ?_
          refine jx_aload0 (pc := 32) d_R_read_32 ?_
          refine jx_getR (pc := 33) gf_R_74 d_R_read_33 ad_79 sh_79 rfl ?_
          refine jx_iload1 (pc := 36) d_R_read_36 ?_
          refine jx_iald (pc := 37) d_R_read_37 ad_101 sh_101 hvq ?_
          refine jx_icmp_ge (pc := 38) 97 d_R_read_38 (by decide) (fun c38 => ?_) (fun c38 => absurd c38 (fun z => z (by rw [h25, show (3 : Int32) * nI i + 2 = nI (3 * i + 2) by rw [show (3 : Int32) = nI 3 from rfl, nI_mul]; exact nI_add _ 2]; exact nI_le (by omega) (by omega))))
          refine jx_iload2 (pc := 97) d_R_read_97 ?_
          refine jx_iret (pc := 98) hX rfl d_R_read_98 ?_
          rotate_left
          have h9 := k M2
          rw [hrd, rdS] at h9
          exact h9 hR2 hw2 hH
        | succ r ih =>
          intro i s2 M2 hi hw2 hR2 hH hrd
          have hsi := (fo_lt hw2 q).2
          obtain ⟨p0, p1, p2, p3⟩ := hR2.h q hq
          have h25 : M2 101 (nI q).toNatClampNeg = nI (g_si s2 q) := by rw [eq1]; exact p2
          have e3 : (3 : Int32) * nI i = nI (3 * i) := by rw [show (3 : Int32) = nI 3 from rfl, nI_mul]
          have e2 : nI (3 * i) + 2 = nI (3 * i + 2) := nI_add _ 2
          by_cases hlt : 3 * i + 2 < g_si s2 q
          · have x0 : (48 : Int32) * nI q + 3 * nI i = nI (48 * q + 3 * i) := by rw [e3, x48]
            have x1 : (48 : Int32) * nI q + 3 * nI i + 1 = nI (48 * q + (3 * i + 1)) := by rw [x0]; exact nI_add _ 1
            have x2 : (48 : Int32) * nI q + 3 * nI i + 2 = nI (48 * q + (3 * i + 2)) := by rw [x0]; exact nI_add _ 2
            have hv0 : vp_in ((48 : Int32) * nI q + 3 * nI i) 192 := by rw [x0]; exact vp_in_nI (by omega) (by omega)
            have hv1 : vp_in ((48 : Int32) * nI q + 3 * nI i + 1) 192 := by rw [x1]; exact vp_in_nI (by omega) (by omega)
            have hv2 : vp_in ((48 : Int32) * nI q + 3 * nI i + 2) 192 := by rw [x2]; exact vp_in_nI (by omega) (by omega)
            have m0 : M2 102 ((48 : Int32) * nI q + 3 * nI i).toNatClampNeg = g_it s2 q (3 * i) := by rw [x0, nI_cl (by omega)]; exact p3 _ (by omega)
            have m1 : M2 102 ((48 : Int32) * nI q + 3 * nI i + 1).toNatClampNeg = g_it s2 q (3 * i + 1) := by rw [x1, nI_cl (by omega)]; exact p3 _ (by omega)
            have m2 : M2 102 ((48 : Int32) * nI q + 3 * nI i + 2).toNatClampNeg = g_it s2 q (3 * i + 2) := by rw [x2, nI_cl (by omega)]; exact p3 _ (by omega)
            have hng := (r_visit_neg (a := g_it s2 q (3 * i)) (b := g_it s2 q (3 * i + 1)) (c := g_it s2 q (3 * i + 2)) hw2).2
            by_cases hok : okVis (g_it s2 q (3 * i)) (g_it s2 q (3 * i + 1)) (g_it s2 q (3 * i + 2)) ∧ g_nv s2 < 24
            · have hnn : ¬ r_visit s2 (g_it s2 q (3 * i)) (g_it s2 q (3 * i + 1)) (g_it s2 q (3 * i + 2)) ≤ 0 := fun z => hng.mp z hok
              rw [show rdS q (r + 1) i s2 = rdS q r (i + 1) (n_visit s2 (g_it s2 q (3 * i)) (g_it s2 q (3 * i + 1)) (g_it s2 q (3 * i + 2))) by rw [rdS, if_pos ⟨hlt, hok⟩]] at hrd
              refine jx_iconst (pc := 27) (v := 3) d_R_read_27 (by decide) ?_
              refine jx_iload2 (pc := 28) d_R_read_28 ?_
              refine jx_imul (pc := 29) d_R_read_29 ?_
              refine jx_iconst (pc := 30) (v := 2) d_R_read_30 (by decide) ?_
              refine jx_iadd (pc := 31) d_R_read_31 ?_
              refine jx_aload0 (pc := 32) d_R_read_32 ?_
              refine jx_getR (pc := 33) gf_R_74 d_R_read_33 ad_79 sh_79 rfl ?_
              refine jx_iload1 (pc := 36) d_R_read_36 ?_
              refine jx_iald (pc := 37) d_R_read_37 ad_101 sh_101 hvq ?_
              refine jx_icmp_ge (pc := 38) 97 d_R_read_38 (by decide) (fun c38 => absurd c38 (by rw [h25, e3, e2]; exact nI_ge (by omega) (by omega))) (fun c38 => ?_)
              refine jx_aload0 (pc := 41) d_R_read_41 ?_
              refine jx_aload0 (pc := 42) d_R_read_42 ?_
              refine jx_getR (pc := 43) gf_R_77 d_R_read_43 ad_79 sh_79 rfl ?_
              refine jx_bipush (pc := 46) (v := 48) d_R_read_46 (by decide) ?_
              refine jx_iload1 (pc := 48) d_R_read_48 ?_
              refine jx_imul (pc := 49) d_R_read_49 ?_
              refine jx_iconst (pc := 50) (v := 3) d_R_read_50 (by decide) ?_
              refine jx_iload2 (pc := 51) d_R_read_51 ?_
              refine jx_imul (pc := 52) d_R_read_52 ?_
              refine jx_iadd (pc := 53) d_R_read_53 ?_
              refine jx_iald (pc := 54) d_R_read_54 ad_102 sh_102 hv0 ?_
              refine jx_aload0 (pc := 55) d_R_read_55 ?_
              refine jx_getR (pc := 56) gf_R_77 d_R_read_56 ad_79 sh_79 rfl ?_
              refine jx_bipush (pc := 59) (v := 48) d_R_read_59 (by decide) ?_
              refine jx_iload1 (pc := 61) d_R_read_61 ?_
              refine jx_imul (pc := 62) d_R_read_62 ?_
              refine jx_iconst (pc := 63) (v := 3) d_R_read_63 (by decide) ?_
              refine jx_iload2 (pc := 64) d_R_read_64 ?_
              refine jx_imul (pc := 65) d_R_read_65 ?_
              refine jx_iadd (pc := 66) d_R_read_66 ?_
              refine jx_iconst (pc := 67) (v := 1) d_R_read_67 (by decide) ?_
              refine jx_iadd (pc := 68) d_R_read_68 ?_
              refine jx_iald (pc := 69) d_R_read_69 ad_102 sh_102 hv1 ?_
              refine jx_aload0 (pc := 70) d_R_read_70 ?_
              refine jx_getR (pc := 71) gf_R_77 d_R_read_71 ad_79 sh_79 rfl ?_
              refine jx_bipush (pc := 74) (v := 48) d_R_read_74 (by decide) ?_
              refine jx_iload1 (pc := 76) d_R_read_76 ?_
              refine jx_imul (pc := 77) d_R_read_77 ?_
              refine jx_iconst (pc := 78) (v := 3) d_R_read_78 (by decide) ?_
              refine jx_iload2 (pc := 79) d_R_read_79 ?_
              refine jx_imul (pc := 80) d_R_read_80 ?_
              refine jx_iadd (pc := 81) d_R_read_81 ?_
              refine jx_iconst (pc := 82) (v := 2) d_R_read_82 (by decide) ?_
              refine jx_iadd (pc := 83) d_R_read_83 ?_
              refine jx_iald (pc := 84) d_R_read_84 ad_102 sh_102 hv2 ?_
              refine jx_callV3 (pc := 85) (d' := d + 2) vo_R_visit lk_R_142 d_R_read_85 ad_79 sh_79 rfl (by omega) (Nat.le_of_ble_eq_true rfl) ?_
              rw [m0, m1, m2]
              refine c_R_visit hw2 hR2 (fun M3 hR3 hH3 => ?_)
              refine jx_r1 ?_
              refine jx_if_le (pc := 88) 97 d_R_read_88 (by decide) (fun c88 => absurd c88 hnn) (fun c88 => ?_)
              refine jx_iinc2 (pc := 91) d_R_read_91 rfl (Nat.le_of_ble_eq_true rfl) ?_
              refine jx_goto (pc := 94) 27 d_R_read_94 (by decide) ?_
              rotate_left
              rw [nI_add1]
              exact ih (i + 1) _ M3 (by omega) (hw2.visit _ _ _) hR3 (fun b hb => (hH3 b hb).trans (hH b hb)) hrd
            · have hnn : r_visit s2 (g_it s2 q (3 * i)) (g_it s2 q (3 * i + 1)) (g_it s2 q (3 * i + 2)) ≤ 0 := hng.mpr hok
              have hsame : n_visit s2 (g_it s2 q (3 * i)) (g_it s2 q (3 * i + 1)) (g_it s2 q (3 * i + 2)) = s2 := by unfold n_visit; rw [if_neg hok]
              rw [show rdS q (r + 1) i s2 = (i, s2) by rw [rdS, if_neg (fun z => hok z.2)]] at hrd
              refine jx_iconst (pc := 27) (v := 3) d_R_read_27 (by decide) ?_
              refine jx_iload2 (pc := 28) d_R_read_28 ?_
              refine jx_imul (pc := 29) d_R_read_29 ?_
              refine jx_iconst (pc := 30) (v := 2) d_R_read_30 (by decide) ?_
              refine jx_iadd (pc := 31) d_R_read_31 ?_
              refine jx_aload0 (pc := 32) d_R_read_32 ?_
              refine jx_getR (pc := 33) gf_R_74 d_R_read_33 ad_79 sh_79 rfl ?_
              refine jx_iload1 (pc := 36) d_R_read_36 ?_
              refine jx_iald (pc := 37) d_R_read_37 ad_101 sh_101 hvq ?_
              refine jx_icmp_ge (pc := 38) 97 d_R_read_38 (by decide) (fun c38 => absurd c38 (by rw [h25, e3, e2]; exact nI_ge (by omega) (by omega))) (fun c38 => ?_)
              refine jx_aload0 (pc := 41) d_R_read_41 ?_
              refine jx_aload0 (pc := 42) d_R_read_42 ?_
              refine jx_getR (pc := 43) gf_R_77 d_R_read_43 ad_79 sh_79 rfl ?_
              refine jx_bipush (pc := 46) (v := 48) d_R_read_46 (by decide) ?_
              refine jx_iload1 (pc := 48) d_R_read_48 ?_
              refine jx_imul (pc := 49) d_R_read_49 ?_
              refine jx_iconst (pc := 50) (v := 3) d_R_read_50 (by decide) ?_
              refine jx_iload2 (pc := 51) d_R_read_51 ?_
              refine jx_imul (pc := 52) d_R_read_52 ?_
              refine jx_iadd (pc := 53) d_R_read_53 ?_
              refine jx_iald (pc := 54) d_R_read_54 ad_102 sh_102 hv0 ?_
              refine jx_aload0 (pc := 55) d_R_read_55 ?_
              refine jx_getR (pc := 56) gf_R_77 d_R_read_56 ad_79 sh_79 rfl ?_
              refine jx_bipush (pc := 59) (v := 48) d_R_read_59 (by decide) ?_
              refine jx_iload1 (pc := 61) d_R_read_61 ?_
              refine jx_imul (pc := 62) d_R_read_62 ?_
              refine jx_iconst (pc := 63) (v := 3) d_R_read_63 (by decide) ?_
              refine jx_iload2 (pc := 64) d_R_read_64 ?_
              refine jx_imul (pc := 65) d_R_read_65 ?_
              refine jx_iadd (pc := 66) d_R_read_66 ?_
              refine jx_iconst (pc := 67) (v := 1) d_R_read_67 (by decide) ?_
              refine jx_iadd (pc := 68) d_R_read_68 ?_
              refine jx_iald (pc := 69) d_R_read_69 ad_102 sh_102 hv1 ?_
              refine jx_aload0 (pc := 70) d_R_read_70 ?_
              refine jx_getR (pc := 71) gf_R_77 d_R_read_71 ad_79 sh_79 rfl ?_
              refine jx_bipush (pc := 74) (v := 48) d_R_read_74 (by decide) ?_
              refine jx_iload1 (pc := 76) d_R_read_76 ?_
              refine jx_imul (pc := 77) d_R_read_77 ?_
              refine jx_iconst (pc := 78) (v := 3) d_R_read_78 (by decide) ?_
              refine jx_iload2 (pc := 79) d_R_read_79 ?_
              refine jx_imul (pc := 80) d_R_read_80 ?_
              refine jx_iadd (pc := 81) d_R_read_81 ?_
              refine jx_iconst (pc := 82) (v := 2) d_R_read_82 (by decide) ?_
              refine jx_iadd (pc := 83) d_R_read_83 ?_
              refine jx_iald (pc := 84) d_R_read_84 ad_102 sh_102 hv2 ?_
              refine jx_callV3 (pc := 85) (d' := d + 2) vo_R_visit lk_R_142 d_R_read_85 ad_79 sh_79 rfl (by omega) (Nat.le_of_ble_eq_true rfl) ?_
              rw [m0, m1, m2]
              refine c_R_visit hw2 hR2 (fun M3 hR3 hH3 => ?_)
              refine jx_r1 ?_
              refine jx_if_le (pc := 88) 97 d_R_read_88 (by decide) (fun c88 => ?_) (fun c88 => absurd c88 (fun z => z hnn))
              refine jx_iload2 (pc := 97) d_R_read_97 ?_
              refine jx_iret (pc := 98) hX rfl d_R_read_98 ?_
              rotate_left
              rw [hsame] at hR3
              have h9 := k M3
              rw [hrd] at h9
              exact h9 hR3 hw2 (fun b hb => (hH3 b hb).trans (hH b hb))
          · rw [show rdS q (r + 1) i s2 = (i, s2) by rw [rdS, if_neg (fun z => hlt z.1)]] at hrd
            refine jx_iconst (pc := 27) (v := 3) d_R_read_27 (by decide) ?_
            refine jx_iload2 (pc := 28) d_R_read_28 ?_
            refine jx_imul (pc := 29) d_R_read_29 ?_
            refine jx_iconst (pc := 30) (v := 2) d_R_read_30 (by decide) ?_
            refine jx_iadd (pc := 31) d_R_read_31 ?_
            refine jx_aload0 (pc := 32) d_R_read_32 ?_
            refine jx_getR (pc := 33) gf_R_74 d_R_read_33 ad_79 sh_79 rfl ?_
            refine jx_iload1 (pc := 36) d_R_read_36 ?_
            refine jx_iald (pc := 37) d_R_read_37 ad_101 sh_101 hvq ?_
            refine jx_icmp_ge (pc := 38) 97 d_R_read_38 (by decide) (fun c38 => ?_) (fun c38 => absurd c38 (fun z => z (by rw [h25, e3, e2]; exact nI_le (by omega) (by omega))))
            refine jx_iload2 (pc := 97) d_R_read_97 ?_
            refine jx_iret (pc := 98) hX rfl d_R_read_98 ?_
            rotate_left
            have h9 := k M2
            rw [hrd] at h9
            exact h9 hR2 hw2 hH
      refine jx_iload1 (pc := 0) d_R_read_0 ?_
      refine jx_callS1 (pc := 1) (d' := 1) so_R_isSheet lk_R_135 d_R_read_1 (by omega) (Nat.le_of_ble_eq_true rfl) ?_
      refine c_R_isSheet ?_
      refine jx_r1 ?_
      refine jx_if_ne (pc := 4) 10 d_R_read_4 (by decide) (fun c4 => ?_) (fun c4 => absurd c4 (z01p hb))
      refine jx_aload0 (pc := 10) d_R_read_10 ?_
      refine jx_getR (pc := 11) gf_R_68 d_R_read_11 ad_79 sh_79 rfl ?_
      refine jx_iload1 (pc := 14) d_R_read_14 ?_
      refine jx_zald (pc := 15) d_R_read_15 ad_99 sh_99 (by first | assumption | exact vp_in_nI (by omega) (by omega)) ?_
      refine jx_if_ne (pc := 16) 25 d_R_read_16 (by decide) (fun c16 => ?_) (fun c16 => absurd c16 hL9)
      refine jx_iconst (pc := 25) (v := 0) d_R_read_25 (by decide) ?_
      refine jx_istore2 (pc := 26) d_R_read_26 rfl (Nat.le_of_ble_eq_true rfl) ?_
      rotate_left
      exact loop 17 0 s M (by omega) hw hR (fun _ _ => rfl) rfl
  · have hr : r_read s a = -2 := by unfold r_read; rw [if_neg hb]
    have hnx : n_read s a = s := by unfold n_read; rw [if_neg hb]
    rw [hr, hnx] at k
    refine jx_iload1 (pc := 0) d_R_read_0 ?_
    refine jx_callS1 (pc := 1) (d' := 1) so_R_isSheet lk_R_135 d_R_read_1 (by omega) (Nat.le_of_ble_eq_true rfl) ?_
    refine c_R_isSheet ?_
    refine jx_r1 ?_
    refine jx_if_ne (pc := 4) 10 d_R_read_4 (by decide) (fun c4 => absurd c4 (fun q => q (z01.mpr hb))) (fun c4 => ?_)
    refine jx_bipush (pc := 7) (v := (-2)) d_R_read_7 (by decide) ?_
    refine jx_iret (pc := 9) hX rfl d_R_read_9 ?_
    rotate_left
    exact k M hR hw (fun _ _ => rfl)
