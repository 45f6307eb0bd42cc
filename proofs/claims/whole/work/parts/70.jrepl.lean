/-! OPERATIONS of the component, twelve: replies -/
abbrev okRep (s : Sg) (a b n w : Int32) : Prop := ((0 ≤ a ∧ a < nI (g_hn s)) ∧ (0 ≤ b ∧ b < nI (g_hn s)) ∧ a ≠ b) ∧ (1 ≤ n ∧ n ≤ 4) ∧ (0 ≤ w ∧ w < 2)
def r_replies (s : Sg) (a b n w : Int32) : Int32 := if okRep s a b n w then (if w = 1 then em (lwT s (cl a) (cl b) (cl n)) else if lwT s (cl a) (cl b) (cl n) = 9 then 0 else 1) else -2
theorem lwT_lt (s : Sg) (a b n : Nat) : lwT s a b n < 10 := by unfold lwT; split; omega; split; omega; split; omega; split <;> omega
theorem c_J_replies {d : Nat} {a b n w : Int32} {s : Sg} {M : j_M} {Q : Option Value → j_M → Prop} (hw : WF s) (hR : RepC s M) (k : ∀ M', Scr M M' → Q (some (.int (r_replies s a b n w))) M') : j_Ct (d + 11) I_J_replies [.ref 0, .int a, .int b, .int n, .int w] M Q := by
  refine j_met (by decide +kernel) co_J_replies (Nat.le_of_ble_eq_true rfl) (fun X hX => ?_)
  show j_W (d + 11) I_J_replies X 0 [some (.ref 0), some (.int a), some (.int b), some (.int n), some (.int w), none] [] M
  have h13 : M 1 3 = nI (g_hn s) := hR.1.2.1
  have hn6 : g_hn s ≤ 6 := hnB_le hw.1
  by_cases hb : okRep s a b n w
  · obtain ⟨⟨g1, g2, g3⟩, ⟨g4, g5⟩, g6⟩ := id hb
    have p1 : 0 ≤ a ∧ a < M 1 3 := by rw [h13]; exact g1
    have p2 : 0 ≤ b ∧ b < M 1 3 := by rw [h13]; exact g2
    have hr : r_replies s a b n w = if w = 1 then em (lwT s (cl a) (cl b) (cl n)) else if lwT s (cl a) (cl b) (cl n) = 9 then 0 else 1 := by unfold r_replies; rw [if_pos hb]
    rw [hr] at k
    obtain ⟨x, hx, rfl, ex⟩ := okd a _ (by omega) g1
    obtain ⟨y, hy, rfl, ey⟩ := okd b _ (by omega) g2
    obtain ⟨c, hc, rfl⟩ := le_of (n := 4) (by omega) (show 0 ≤ n by rw [fa_le] at g4 ⊢; simp only [Int32.reduceToInt] at *; omega) g5
    have hc1 : 1 ≤ c := (nI_leI (a := 1) (by omega) (by omega)).mp g4
    rw [ex, ey, show cl (nI c) = c from nI_cl (by omega)] at k
    have hl := lwT_lt s x y c
    have q1 : ¬ nI c < 1 := nI_nlt (b := 1) (by omega) (by omega)
    have q2 : ¬ (4 : Int32) < nI c := (show ¬ nI 4 < nI c from nI_nlt (by omega) (by omega))
    by_cases hw1 : w = 1
    · rw [if_pos hw1] at k
      refine jx_aload0 (pc := 0) d_J_replies_0 ?_
      refine jx_getR (pc := 1) gf_J_12 d_J_replies_1 ad_0 sh_0 rfl ?_
      refine jx_iload1 (pc := 4) d_J_replies_4 ?_
      refine jx_callV1 (pc := 5) (d' := 0) vo_He_has lk_J_101 d_J_replies_5 ad_1 sh_1 rfl (by omega) (Nat.le_of_ble_eq_true rfl) ?_
      refine c_He_has ?_
      refine jx_r1 ?_
      refine jx_if_eq (pc := 8) 27 d_J_replies_8 (by decide) (fun c8 => absurd c8 (z01p p1)) (fun c8 => ?_)
      refine jx_aload0 (pc := 11) d_J_replies_11 ?_
      refine jx_getR (pc := 12) gf_J_12 d_J_replies_12 ad_0 sh_0 rfl ?_
      refine jx_iload2 (pc := 15) d_J_replies_15 ?_
      refine jx_callV1 (pc := 16) (d' := 0) vo_He_has lk_J_101 d_J_replies_16 ad_1 sh_1 rfl (by omega) (Nat.le_of_ble_eq_true rfl) ?_
      refine c_He_has ?_
      refine jx_r1 ?_
      refine jx_if_eq (pc := 19) 27 d_J_replies_19 (by decide) (fun c19 => absurd c19 (z01p p2)) (fun c19 => ?_)
      refine jx_iload1 (pc := 22) d_J_replies_22 ?_
      refine jx_iload2 (pc := 23) d_J_replies_23 ?_
      refine jx_icmp_ne (pc := 24) 30 d_J_replies_24 (by decide) (fun c24 => ?_) (fun c24 => absurd c24 g3)
      refine jx_iload3 (pc := 30) d_J_replies_30 ?_
      refine jx_iconst (pc := 31) (v := 1) d_J_replies_31 (by decide) ?_
      refine jx_icmp_lt (pc := 32) 48 d_J_replies_32 (by decide) (fun c32 => absurd c32 q1) (fun c32 => ?_)
      refine jx_iload3 (pc := 35) d_J_replies_35 ?_
      refine jx_iconst (pc := 36) (v := 4) d_J_replies_36 (by decide) ?_
      refine jx_icmp_gt (pc := 37) 48 d_J_replies_37 (by decide) (fun c37 => absurd c37 q2) (fun c37 => ?_)
      refine jx_iload4 (pc := 40) d_J_replies_40 ?_
      refine jx_callS1 (pc := 42) (d' := 0) so_J_isOneOfTwo lk_J_162 d_J_replies_42 (by omega) (Nat.le_of_ble_eq_true rfl) ?_
      refine c_J_isOneOfTwo ?_
      refine jx_r1 ?_
      refine jx_if_ne (pc := 45) 51 d_J_replies_45 (by decide) (fun c45 => ?_) (fun c45 => absurd c45 (z01p g6))
      refine jx_aload0 (pc := 51) d_J_replies_51 ?_
      refine jx_getR (pc := 52) gf_J_63 d_J_replies_52 ad_0 sh_0 rfl ?_
      refine jx_aload0 (pc := 55) d_J_replies_55 ?_
      refine jx_getR (pc := 56) gf_J_28 d_J_replies_56 ad_0 sh_0 rfl ?_
      refine jx_iconst (pc := 59) (v := 0) d_J_replies_59 (by decide) ?_
      refine jx_aald (pc := 60) (b := 12) d_J_replies_60 ad_11 (Or.inr rfl) sh_11 (by unfold vp_in; decide) (by decide) ?_
      refine jx_iload1 (pc := 61) d_J_replies_61 ?_
      refine jx_iload2 (pc := 62) d_J_replies_62 ?_
      refine jx_iload3 (pc := 63) d_J_replies_63 ?_
      refine jx_callV4 (pc := 64) (d' := d + 10) vo_Tu_leastThatWins lk_J_198 d_J_replies_64 ad_21 sh_21 rfl (by omega) (Nat.le_of_ble_eq_true rfl) ?_
      refine c_Tu_leastThatWins hw hR hc1 hc hx hy (fun M2 hS2 => ?_)
      refine jx_r1 ?_
      refine jx_istore5 (pc := 67) d_J_replies_67 rfl (Nat.le_of_ble_eq_true rfl) ?_
      refine jx_iload4 (pc := 69) d_J_replies_69 ?_
      refine jx_iconst (pc := 71) (v := 1) d_J_replies_71 (by decide) ?_
      refine jx_icmp_ne (pc := 72) 78 d_J_replies_72 (by decide) (fun c72 => absurd c72 (fun z => z hw1)) (fun c72 => ?_)
      refine jx_iload5 (pc := 75) d_J_replies_75 ?_
      refine jx_iret (pc := 77) hX rfl d_J_replies_77 ?_
      rotate_left
      exact k M2 hS2
    · rw [if_neg hw1] at k
      by_cases h9 : lwT s x y c = 9
      · rw [if_pos h9] at k
        refine jx_aload0 (pc := 0) d_J_replies_0 ?_
        refine jx_getR (pc := 1) gf_J_12 d_J_replies_1 ad_0 sh_0 rfl ?_
        refine jx_iload1 (pc := 4) d_J_replies_4 ?_
        refine jx_callV1 (pc := 5) (d' := 0) vo_He_has lk_J_101 d_J_replies_5 ad_1 sh_1 rfl (by omega) (Nat.le_of_ble_eq_true rfl) ?_
        refine c_He_has ?_
        refine jx_r1 ?_
        refine jx_if_eq (pc := 8) 27 d_J_replies_8 (by decide) (fun c8 => absurd c8 (z01p p1)) (fun c8 => ?_)
        refine jx_aload0 (pc := 11) d_J_replies_11 ?_
        refine jx_getR (pc := 12) gf_J_12 d_J_replies_12 ad_0 sh_0 rfl ?_
        refine jx_iload2 (pc := 15) d_J_replies_15 ?_
        refine jx_callV1 (pc := 16) (d' := 0) vo_He_has lk_J_101 d_J_replies_16 ad_1 sh_1 rfl (by omega) (Nat.le_of_ble_eq_true rfl) ?_
        refine c_He_has ?_
        refine jx_r1 ?_
        refine jx_if_eq (pc := 19) 27 d_J_replies_19 (by decide) (fun c19 => absurd c19 (z01p p2)) (fun c19 => ?_)
        refine jx_iload1 (pc := 22) d_J_replies_22 ?_
        refine jx_iload2 (pc := 23) d_J_replies_23 ?_
        refine jx_icmp_ne (pc := 24) 30 d_J_replies_24 (by decide) (fun c24 => ?_) (fun c24 => absurd c24 g3)
        refine jx_iload3 (pc := 30) d_J_replies_30 ?_
        refine jx_iconst (pc := 31) (v := 1) d_J_replies_31 (by decide) ?_
        refine jx_icmp_lt (pc := 32) 48 d_J_replies_32 (by decide) (fun c32 => absurd c32 q1) (fun c32 => ?_)
        refine jx_iload3 (pc := 35) d_J_replies_35 ?_
        refine jx_iconst (pc := 36) (v := 4) d_J_replies_36 (by decide) ?_
        refine jx_icmp_gt (pc := 37) 48 d_J_replies_37 (by decide) (fun c37 => absurd c37 q2) (fun c37 => ?_)
        refine jx_iload4 (pc := 40) d_J_replies_40 ?_
        refine jx_callS1 (pc := 42) (d' := 0) so_J_isOneOfTwo lk_J_162 d_J_replies_42 (by omega) (Nat.le_of_ble_eq_true rfl) ?_
        refine c_J_isOneOfTwo ?_
        refine jx_r1 ?_
        refine jx_if_ne (pc := 45) 51 d_J_replies_45 (by decide) (fun c45 => ?_) (fun c45 => absurd c45 (z01p g6))
        refine jx_aload0 (pc := 51) d_J_replies_51 ?_
        refine jx_getR (pc := 52) gf_J_63 d_J_replies_52 ad_0 sh_0 rfl ?_
        refine jx_aload0 (pc := 55) d_J_replies_55 ?_
        refine jx_getR (pc := 56) gf_J_28 d_J_replies_56 ad_0 sh_0 rfl ?_
        refine jx_iconst (pc := 59) (v := 0) d_J_replies_59 (by decide) ?_
        refine jx_aald (pc := 60) (b := 12) d_J_replies_60 ad_11 (Or.inr rfl) sh_11 (by unfold vp_in; decide) (by decide) ?_
        refine jx_iload1 (pc := 61) d_J_replies_61 ?_
        refine jx_iload2 (pc := 62) d_J_replies_62 ?_
        refine jx_iload3 (pc := 63) d_J_replies_63 ?_
        refine jx_callV4 (pc := 64) (d' := d + 10) vo_Tu_leastThatWins lk_J_198 d_J_replies_64 ad_21 sh_21 rfl (by omega) (Nat.le_of_ble_eq_true rfl) ?_
        refine c_Tu_leastThatWins hw hR hc1 hc hx hy (fun M2 hS2 => ?_)
        refine jx_r1 ?_
        refine jx_istore5 (pc := 67) d_J_replies_67 rfl (Nat.le_of_ble_eq_true rfl) ?_
        refine jx_iload4 (pc := 69) d_J_replies_69 ?_
        refine jx_iconst (pc := 71) (v := 1) d_J_replies_71 (by decide) ?_
        refine jx_icmp_ne (pc := 72) 78 d_J_replies_72 (by decide) (fun c72 => ?_) (fun c72 => absurd c72 hw1)
        refine jx_iload5 (pc := 78) d_J_replies_78 ?_
        refine jx_iconst (pc := 80) (v := (-1)) d_J_replies_80 (by decide) ?_
        refine jx_icmp_ne (pc := 81) 88 d_J_replies_81 (by decide) (fun c81 => absurd c81 (fun z => z ((em_m1 (by omega)).mpr h9))) (fun c81 => ?_)
        refine jx_iconst (pc := 84) (v := 0) d_J_replies_84 (by decide) ?_
        refine jx_goto (pc := 85) 89 d_J_replies_85 (by decide) ?_
        refine jx_iret (pc := 89) hX rfl d_J_replies_89 ?_
        rotate_left
        exact k M2 hS2
      · rw [if_neg h9] at k
        refine jx_aload0 (pc := 0) d_J_replies_0 ?_
        refine jx_getR (pc := 1) gf_J_12 d_J_replies_1 ad_0 sh_0 rfl ?_
        refine jx_iload1 (pc := 4) d_J_replies_4 ?_
        refine jx_callV1 (pc := 5) (d' := 0) vo_He_has lk_J_101 d_J_replies_5 ad_1 sh_1 rfl (by omega) (Nat.le_of_ble_eq_true rfl) ?_
        refine c_He_has ?_
        refine jx_r1 ?_
        refine jx_if_eq (pc := 8) 27 d_J_replies_8 (by decide) (fun c8 => absurd c8 (z01p p1)) (fun c8 => ?_)
        refine jx_aload0 (pc := 11) d_J_replies_11 ?_
        refine jx_getR (pc := 12) gf_J_12 d_J_replies_12 ad_0 sh_0 rfl ?_
        refine jx_iload2 (pc := 15) d_J_replies_15 ?_
        refine jx_callV1 (pc := 16) (d' := 0) vo_He_has lk_J_101 d_J_replies_16 ad_1 sh_1 rfl (by omega) (Nat.le_of_ble_eq_true rfl) ?_
        refine c_He_has ?_
        refine jx_r1 ?_
        refine jx_if_eq (pc := 19) 27 d_J_replies_19 (by decide) (fun c19 => absurd c19 (z01p p2)) (fun c19 => ?_)
        refine jx_iload1 (pc := 22) d_J_replies_22 ?_
        refine jx_iload2 (pc := 23) d_J_replies_23 ?_
        refine jx_icmp_ne (pc := 24) 30 d_J_replies_24 (by decide) (fun c24 => ?_) (fun c24 => absurd c24 g3)
        refine jx_iload3 (pc := 30) d_J_replies_30 ?_
        refine jx_iconst (pc := 31) (v := 1) d_J_replies_31 (by decide) ?_
        refine jx_icmp_lt (pc := 32) 48 d_J_replies_32 (by decide) (fun c32 => absurd c32 q1) (fun c32 => ?_)
        refine jx_iload3 (pc := 35) d_J_replies_35 ?_
        refine jx_iconst (pc := 36) (v := 4) d_J_replies_36 (by decide) ?_
        refine jx_icmp_gt (pc := 37) 48 d_J_replies_37 (by decide) (fun c37 => absurd c37 q2) (fun c37 => ?_)
        refine jx_iload4 (pc := 40) d_J_replies_40 ?_
        refine jx_callS1 (pc := 42) (d' := 0) so_J_isOneOfTwo lk_J_162 d_J_replies_42 (by omega) (Nat.le_of_ble_eq_true rfl) ?_
        refine c_J_isOneOfTwo ?_
        refine jx_r1 ?_
        refine jx_if_ne (pc := 45) 51 d_J_replies_45 (by decide) (fun c45 => ?_) (fun c45 => absurd c45 (z01p g6))
        refine jx_aload0 (pc := 51) d_J_replies_51 ?_
        refine jx_getR (pc := 52) gf_J_63 d_J_replies_52 ad_0 sh_0 rfl ?_
        refine jx_aload0 (pc := 55) d_J_replies_55 ?_
        refine jx_getR (pc := 56) gf_J_28 d_J_replies_56 ad_0 sh_0 rfl ?_
        refine jx_iconst (pc := 59) (v := 0) d_J_replies_59 (by decide) ?_
        refine jx_aald (pc := 60) (b := 12) d_J_replies_60 ad_11 (Or.inr rfl) sh_11 (by unfold vp_in; decide) (by decide) ?_
        refine jx_iload1 (pc := 61) d_J_replies_61 ?_
        refine jx_iload2 (pc := 62) d_J_replies_62 ?_
        refine jx_iload3 (pc := 63) d_J_replies_63 ?_
        refine jx_callV4 (pc := 64) (d' := d + 10) vo_Tu_leastThatWins lk_J_198 d_J_replies_64 ad_21 sh_21 rfl (by omega) (Nat.le_of_ble_eq_true rfl) ?_
        refine c_Tu_leastThatWins hw hR hc1 hc hx hy (fun M2 hS2 => ?_)
        refine jx_r1 ?_
        refine jx_istore5 (pc := 67) d_J_replies_67 rfl (Nat.le_of_ble_eq_true rfl) ?_
        refine jx_iload4 (pc := 69) d_J_replies_69 ?_
        refine jx_iconst (pc := 71) (v := 1) d_J_replies_71 (by decide) ?_
        refine jx_icmp_ne (pc := 72) 78 d_J_replies_72 (by decide) (fun c72 => ?_) (fun c72 => absurd c72 hw1)
        refine jx_iload5 (pc := 78) d_J_replies_78 ?_
        refine jx_iconst (pc := 80) (v := (-1)) d_J_replies_80 (by decide) ?_
        refine jx_icmp_ne (pc := 81) 88 d_J_replies_81 (by decide) (fun c81 => ?_) (fun c81 => absurd c81 (fun z => h9 ((em_m1 (by omega)).mp z)))
        refine jx_iconst (pc := 88) (v := 1) d_J_replies_88 (by decide) ?_
        refine jx_iret (pc := 89) hX rfl d_J_replies_89 ?_
        rotate_left
        exact k M2 hS2
  · have hr : r_replies s a b n w = -2 := by unfold r_replies; rw [if_neg hb]
    rw [hr] at k
    refine jx_aload0 (pc := 0) d_J_replies_0 ?_
    refine jx_getR (pc := 1) gf_J_12 d_J_replies_1 ad_0 sh_0 rfl ?_
    refine jx_iload1 (pc := 4) d_J_replies_4 ?_
    refine jx_callV1 (pc := 5) (d' := 0) vo_He_has lk_J_101 d_J_replies_5 ad_1 sh_1 rfl (by omega) (Nat.le_of_ble_eq_true rfl) ?_
    refine c_He_has ?_
    refine jx_r1 ?_
    refine jx_if_eq (pc := 8) 27 d_J_replies_8 (by decide) (fun c8 => ?_) (fun c8 => ?_)
    refine jx_bipush (pc := 27) (v := (-2)) d_J_replies_27 (by decide) ?_
    refine jx_iret (pc := 29) hX rfl d_J_replies_29 ?_
    rotate_left
    refine jx_aload0 (pc := 11) d_J_replies_11 ?_
    refine jx_getR (pc := 12) gf_J_12 d_J_replies_12 ad_0 sh_0 rfl ?_
    refine jx_iload2 (pc := 15) d_J_replies_15 ?_
    refine jx_callV1 (pc := 16) (d' := 0) vo_He_has lk_J_101 d_J_replies_16 ad_1 sh_1 rfl (by omega) (Nat.le_of_ble_eq_true rfl) ?_
    refine c_He_has ?_
    refine jx_r1 ?_
    refine jx_if_eq (pc := 19) 27 d_J_replies_19 (by decide) (fun c19 => ?_) (fun c19 => ?_)
    refine jx_bipush (pc := 27) (v := (-2)) d_J_replies_27 (by decide) ?_
    refine jx_iret (pc := 29) hX rfl d_J_replies_29 ?_
    rotate_left
    refine jx_iload1 (pc := 22) d_J_replies_22 ?_
    refine jx_iload2 (pc := 23) d_J_replies_23 ?_
    refine jx_icmp_ne (pc := 24) 30 d_J_replies_24 (by decide) (fun c24 => ?_) (fun c24 => ?_)
    refine jx_iload3 (pc := 30) d_J_replies_30 ?_
    refine jx_iconst (pc := 31) (v := 1) d_J_replies_31 (by decide) ?_
    refine jx_icmp_lt (pc := 32) 48 d_J_replies_32 (by decide) (fun c32 => ?_) (fun c32 => ?_)
    refine jx_bipush (pc := 48) (v := (-2)) d_J_replies_48 (by decide) ?_
    refine jx_iret (pc := 50) hX rfl d_J_replies_50 ?_
    rotate_left
    refine jx_iload3 (pc := 35) d_J_replies_35 ?_
    refine jx_iconst (pc := 36) (v := 4) d_J_replies_36 (by decide) ?_
    refine jx_icmp_gt (pc := 37) 48 d_J_replies_37 (by decide) (fun c37 => ?_) (fun c37 => ?_)
    refine jx_bipush (pc := 48) (v := (-2)) d_J_replies_48 (by decide) ?_
    refine jx_iret (pc := 50) hX rfl d_J_replies_50 ?_
    rotate_left
    refine jx_iload4 (pc := 40) d_J_replies_40 ?_
    refine jx_callS1 (pc := 42) (d' := 0) so_J_isOneOfTwo lk_J_162 d_J_replies_42 (by omega) (Nat.le_of_ble_eq_true rfl) ?_
    refine c_J_isOneOfTwo ?_
    refine jx_r1 ?_
    refine jx_if_ne (pc := 45) 51 d_J_replies_45 (by decide) (fun c45 => ?_) (fun c45 => ?_)
    rotate_left
    refine jx_bipush (pc := 48) (v := (-2)) d_J_replies_48 (by decide) ?_
    refine jx_iret (pc := 50) hX rfl d_J_replies_50 ?_
    rotate_left
    refine jx_bipush (pc := 27) (v := (-2)) d_J_replies_27 (by decide) ?_
    refine jx_iret (pc := 29) hX rfl d_J_replies_29 ?_
    rotate_left
    · exact k M Scr.rf
    · exact k M Scr.rf
    · exact k M Scr.rf
    · exact k M Scr.rf
    · have g1 := z01n c8
      have g2 := z01n c19
      rw [h13] at g1 g2
      exact absurd ⟨⟨g1, g2, c24⟩, ⟨Int32.not_lt.mp c32, Int32.not_lt.mp c37⟩, z01n c45⟩ hb
    · exact k M Scr.rf
    · exact k M Scr.rf
