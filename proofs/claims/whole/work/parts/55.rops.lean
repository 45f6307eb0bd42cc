/-! OPERATIONS of the reference, three -/
theorem c_R_set {d : Nat} {w v : Int32} {s : Sg} {M : j_M} {Q : Option Value → j_M → Prop} (hR : RepR s M) (k : ∀ M', RepR (n_set s w v) M' → Lo M M' → Q (some (.int (r_set s w v))) M') : j_Ct (d + 1) I_R_set [.ref 79, .int w, .int v] M Q := by
  refine j_met (by decide +kernel) co_R_set (Nat.le_of_ble_eq_true rfl) (fun X hX => ?_)
  show j_W (d + 1) I_R_set X 0 [some (.ref 79), some (.int w), some (.int v), none] [] M
  have f0 : M 79 5 = nI (g_wy s 0) := hR.2.2.1 0 (by omega)
  have f1 : M 79 6 = nI (g_wy s 1) := hR.2.2.1 1 (by omega)
  have f2 : M 79 7 = nI (g_wy s 2) := hR.2.2.1 2 (by omega)
  have f3 : M 79 8 = nI (g_wy s 3) := hR.2.2.1 3 (by omega)
  have f4 : M 79 9 = nI (g_wy s 4) := hR.2.2.1 4 (by omega)
  have in5 : ∀ x : Int32, (0 ≤ x ∧ x ≤ 4) ↔ (0 ≤ x ∧ x < 5) := fun x => in_s (n := 4) (by omega)
  by_cases hw5 : 0 ≤ w ∧ w < 5
  · have hr5 : 0 ≤ w ∧ w ≤ 4 := (in5 w).mpr hw5
    obtain ⟨a, ha, rfl, ea⟩ := okd w 5 (by omega) hw5
    have h5 : a = 0 ∨ a = 1 ∨ a = 2 ∨ a = 3 ∨ a = 4 := by omega
    by_cases hb : okSet (nI a) v
    · have hr : r_set s (nI a) v = nI (g_wy s a) := by unfold r_set; rw [if_pos hb, ea]
      have hnx : n_set s (nI a) v = s_wy s (upN (g_wy s) a (cl v)) := by unfold n_set; rw [if_pos hb, ea]
      rw [hr, hnx] at k
      obtain ⟨g1, g3, g4⟩ := hb
      rw [ea] at g4
      have hev : ∃ c : Nat, c < 2 ^ 31 ∧ v = nI c := nI_of (Int32.not_lt.mpr g3)
      obtain ⟨c, hc, rfl⟩ := hev
      rw [show cl (nI c) = c from nI_cl hc] at k
      rcases h5 with rfl | rfl | rfl | rfl | rfl
      · have hv5 : 0 ≤ nI c ∧ nI c ≤ 9 := ⟨g3, g4⟩
        refine jx_iload1 (pc := 0) d_R_set_0 ?_
        refine jx_iconst (pc := 1) (v := 0) d_R_set_1 (by decide) ?_
        refine jx_iconst (pc := 2) (v := 4) d_R_set_2 (by decide) ?_
        refine jx_callS3 (pc := 3) (d' := 0) so_R_in lk_R_95 d_R_set_3 (by omega) (Nat.le_of_ble_eq_true rfl) ?_
        refine c_R_in ?_
        refine jx_r1 ?_
        refine jx_if_eq (pc := 6) 29 d_R_set_6 (by decide) (fun c6 => absurd c6 (z01p hr5)) (fun c6 => ?_)
        refine jx_iload2 (pc := 9) d_R_set_9 ?_
        refine jx_iconst (pc := 10) (v := 0) d_R_set_10 (by decide) ?_
        refine jx_iload1 (pc := 11) d_R_set_11 ?_
        refine jx_iconst (pc := 12) (v := 3) d_R_set_12 (by decide) ?_
        refine jx_icmp_ne (pc := 13) 21 d_R_set_13 (by decide) (fun c13 => ?_) (fun c13 => absurd c13 (show nI 0 ≠ 3 by decide))
        refine jx_bipush (pc := 21) (v := 9) d_R_set_21 (by decide) ?_
        refine jx_callS3 (pc := 23) (d' := 0) so_R_in lk_R_95 d_R_set_23 (by omega) (Nat.le_of_ble_eq_true rfl) ?_
        refine c_R_in ?_
        refine jx_r1 ?_
        refine jx_if_ne (pc := 26) 32 d_R_set_26 (by decide) (fun c26 => ?_) (fun c26 => absurd c26 (z01p hv5))
        refine jx_iload1 (pc := 32) d_R_set_32 ?_
        refine jx_if_ne (pc := 33) 43 d_R_set_33 (by decide) (fun c33 => absurd c33 (fun q => q rfl)) (fun c33 => ?_)
        refine jx_aload0 (pc := 36) d_R_set_36 ?_
        refine jx_getI (pc := 37) gf_R_83 d_R_set_37 ad_79 sh_79 rfl ?_
        refine jx_goto (pc := 40) 83 d_R_set_40 (by decide) ?_
        refine jx_istore3 (pc := 83) d_R_set_83 rfl (Nat.le_of_ble_eq_true rfl) ?_
        refine jx_aload0 (pc := 84) d_R_set_84 ?_
        refine jx_iload1 (pc := 85) d_R_set_85 ?_
        refine jx_if_ne (pc := 86) 93 d_R_set_86 (by decide) (fun c86 => absurd c86 (fun q => q rfl)) (fun c86 => ?_)
        refine jx_iload2 (pc := 89) d_R_set_89 ?_
        refine jx_goto (pc := 90) 97 d_R_set_90 (by decide) ?_
        refine jx_putI (pc := 97) pf_R_83 d_R_set_97 ad_79 sh_79 rfl ?_
        refine jx_aload0 (pc := 100) d_R_set_100 ?_
        refine jx_iload1 (pc := 101) d_R_set_101 ?_
        refine jx_iconst (pc := 102) (v := 1) d_R_set_102 (by decide) ?_
        refine jx_icmp_ne (pc := 103) 110 d_R_set_103 (by decide) (fun c103 => ?_) (fun c103 => absurd c103 (show nI 0 ≠ 1 by decide))
        refine jx_aload0 (pc := 110) d_R_set_110 ?_
        refine jx_getI (pc := 111) gf_R_87 d_R_set_111 ad_79 sh_79 rfl ?_
        refine jx_putI (pc := 114) pf_R_87 d_R_set_114 ad_79 sh_79 rfl ?_
        refine jx_aload0 (pc := 117) d_R_set_117 ?_
        refine jx_iload1 (pc := 118) d_R_set_118 ?_
        refine jx_iconst (pc := 119) (v := 2) d_R_set_119 (by decide) ?_
        refine jx_icmp_ne (pc := 120) 127 d_R_set_120 (by decide) (fun c120 => ?_) (fun c120 => absurd c120 (show nI 0 ≠ 2 by decide))
        refine jx_aload0 (pc := 127) d_R_set_127 ?_
        refine jx_getI (pc := 128) gf_R_120 d_R_set_128 ad_79 sh_79 rfl ?_
        refine jx_putI (pc := 131) pf_R_120 d_R_set_131 ad_79 sh_79 rfl ?_
        refine jx_aload0 (pc := 134) d_R_set_134 ?_
        refine jx_iload1 (pc := 135) d_R_set_135 ?_
        refine jx_iconst (pc := 136) (v := 3) d_R_set_136 (by decide) ?_
        refine jx_icmp_ne (pc := 137) 144 d_R_set_137 (by decide) (fun c137 => ?_) (fun c137 => absurd c137 (show nI 0 ≠ 3 by decide))
        refine jx_aload0 (pc := 144) d_R_set_144 ?_
        refine jx_getI (pc := 145) gf_R_123 d_R_set_145 ad_79 sh_79 rfl ?_
        refine jx_putI (pc := 148) pf_R_123 d_R_set_148 ad_79 sh_79 rfl ?_
        refine jx_aload0 (pc := 151) d_R_set_151 ?_
        refine jx_iload1 (pc := 152) d_R_set_152 ?_
        refine jx_iconst (pc := 153) (v := 4) d_R_set_153 (by decide) ?_
        refine jx_icmp_ne (pc := 154) 161 d_R_set_154 (by decide) (fun c154 => ?_) (fun c154 => absurd c154 (show nI 0 ≠ 4 by decide))
        refine jx_aload0 (pc := 161) d_R_set_161 ?_
        refine jx_getI (pc := 162) gf_R_90 d_R_set_162 ad_79 sh_79 rfl ?_
        refine jx_putI (pc := 165) pf_R_90 d_R_set_165 ad_79 sh_79 rfl ?_
        refine jx_iload3 (pc := 168) d_R_set_168 ?_
        refine jx_iret (pc := 169) hX rfl d_R_set_169 ?_
        rotate_left
        rw [f0]
        refine k _ (hR.wy (fun q hq => ?_) (fun q h1 => by rw [j_set_n _ _ _ h1, j_set_n _ _ _ h1, j_set_n _ _ _ h1, j_set_n _ _ _ h1, j_set_n _ _ _ h1]) (fun q h1 => ?_)) (fun q hq => by rw [j_set_n _ _ _ (by omega), j_set_n _ _ _ (by omega), j_set_n _ _ _ (by omega), j_set_n _ _ _ (by omega), j_set_n _ _ _ (by omega)])
        · have h55 : q = 0 ∨ q = 1 ∨ q = 2 ∨ q = 3 ∨ q = 4 := by omega
          rcases h55 with rfl | rfl | rfl | rfl | rfl <;> simp [j_set_s, upd, upN, f0, f1, f2, f3, f4]
        · simp only [j_set_s]
          unfold upd
          rw [if_neg (by omega), if_neg (by omega), if_neg (by omega), if_neg (by omega), if_neg (by omega)]
      · have hv5 : 0 ≤ nI c ∧ nI c ≤ 9 := ⟨g3, g4⟩
        refine jx_iload1 (pc := 0) d_R_set_0 ?_
        refine jx_iconst (pc := 1) (v := 0) d_R_set_1 (by decide) ?_
        refine jx_iconst (pc := 2) (v := 4) d_R_set_2 (by decide) ?_
        refine jx_callS3 (pc := 3) (d' := 0) so_R_in lk_R_95 d_R_set_3 (by omega) (Nat.le_of_ble_eq_true rfl) ?_
        refine c_R_in ?_
        refine jx_r1 ?_
        refine jx_if_eq (pc := 6) 29 d_R_set_6 (by decide) (fun c6 => absurd c6 (z01p hr5)) (fun c6 => ?_)
        refine jx_iload2 (pc := 9) d_R_set_9 ?_
        refine jx_iconst (pc := 10) (v := 0) d_R_set_10 (by decide) ?_
        refine jx_iload1 (pc := 11) d_R_set_11 ?_
        refine jx_iconst (pc := 12) (v := 3) d_R_set_12 (by decide) ?_
        refine jx_icmp_ne (pc := 13) 21 d_R_set_13 (by decide) (fun c13 => ?_) (fun c13 => absurd c13 (show nI 1 ≠ 3 by decide))
        refine jx_bipush (pc := 21) (v := 9) d_R_set_21 (by decide) ?_
        refine jx_callS3 (pc := 23) (d' := 0) so_R_in lk_R_95 d_R_set_23 (by omega) (Nat.le_of_ble_eq_true rfl) ?_
        refine c_R_in ?_
        refine jx_r1 ?_
        refine jx_if_ne (pc := 26) 32 d_R_set_26 (by decide) (fun c26 => ?_) (fun c26 => absurd c26 (z01p hv5))
        refine jx_iload1 (pc := 32) d_R_set_32 ?_
        refine jx_if_ne (pc := 33) 43 d_R_set_33 (by decide) (fun c33 => ?_) (fun c33 => absurd c33 (show nI 1 ≠ 0 by decide))
        refine jx_iload1 (pc := 43) d_R_set_43 ?_
        refine jx_iconst (pc := 44) (v := 1) d_R_set_44 (by decide) ?_
        refine jx_icmp_ne (pc := 45) 55 d_R_set_45 (by decide) (fun c45 => absurd c45 (fun q => q rfl)) (fun c45 => ?_)
        refine jx_aload0 (pc := 48) d_R_set_48 ?_
        refine jx_getI (pc := 49) gf_R_87 d_R_set_49 ad_79 sh_79 rfl ?_
        refine jx_goto (pc := 52) 83 d_R_set_52 (by decide) ?_
        refine jx_istore3 (pc := 83) d_R_set_83 rfl (Nat.le_of_ble_eq_true rfl) ?_
        refine jx_aload0 (pc := 84) d_R_set_84 ?_
        refine jx_iload1 (pc := 85) d_R_set_85 ?_
        refine jx_if_ne (pc := 86) 93 d_R_set_86 (by decide) (fun c86 => ?_) (fun c86 => absurd c86 (show nI 1 ≠ 0 by decide))
        refine jx_aload0 (pc := 93) d_R_set_93 ?_
        refine jx_getI (pc := 94) gf_R_83 d_R_set_94 ad_79 sh_79 rfl ?_
        refine jx_putI (pc := 97) pf_R_83 d_R_set_97 ad_79 sh_79 rfl ?_
        refine jx_aload0 (pc := 100) d_R_set_100 ?_
        refine jx_iload1 (pc := 101) d_R_set_101 ?_
        refine jx_iconst (pc := 102) (v := 1) d_R_set_102 (by decide) ?_
        refine jx_icmp_ne (pc := 103) 110 d_R_set_103 (by decide) (fun c103 => absurd c103 (fun q => q rfl)) (fun c103 => ?_)
        refine jx_iload2 (pc := 106) d_R_set_106 ?_
        refine jx_goto (pc := 107) 114 d_R_set_107 (by decide) ?_
        refine jx_putI (pc := 114) pf_R_87 d_R_set_114 ad_79 sh_79 rfl ?_
        refine jx_aload0 (pc := 117) d_R_set_117 ?_
        refine jx_iload1 (pc := 118) d_R_set_118 ?_
        refine jx_iconst (pc := 119) (v := 2) d_R_set_119 (by decide) ?_
        refine jx_icmp_ne (pc := 120) 127 d_R_set_120 (by decide) (fun c120 => ?_) (fun c120 => absurd c120 (show nI 1 ≠ 2 by decide))
        refine jx_aload0 (pc := 127) d_R_set_127 ?_
        refine jx_getI (pc := 128) gf_R_120 d_R_set_128 ad_79 sh_79 rfl ?_
        refine jx_putI (pc := 131) pf_R_120 d_R_set_131 ad_79 sh_79 rfl ?_
        refine jx_aload0 (pc := 134) d_R_set_134 ?_
        refine jx_iload1 (pc := 135) d_R_set_135 ?_
        refine jx_iconst (pc := 136) (v := 3) d_R_set_136 (by decide) ?_
        refine jx_icmp_ne (pc := 137) 144 d_R_set_137 (by decide) (fun c137 => ?_) (fun c137 => absurd c137 (show nI 1 ≠ 3 by decide))
        refine jx_aload0 (pc := 144) d_R_set_144 ?_
        refine jx_getI (pc := 145) gf_R_123 d_R_set_145 ad_79 sh_79 rfl ?_
        refine jx_putI (pc := 148) pf_R_123 d_R_set_148 ad_79 sh_79 rfl ?_
        refine jx_aload0 (pc := 151) d_R_set_151 ?_
        refine jx_iload1 (pc := 152) d_R_set_152 ?_
        refine jx_iconst (pc := 153) (v := 4) d_R_set_153 (by decide) ?_
        refine jx_icmp_ne (pc := 154) 161 d_R_set_154 (by decide) (fun c154 => ?_) (fun c154 => absurd c154 (show nI 1 ≠ 4 by decide))
        refine jx_aload0 (pc := 161) d_R_set_161 ?_
        refine jx_getI (pc := 162) gf_R_90 d_R_set_162 ad_79 sh_79 rfl ?_
        refine jx_putI (pc := 165) pf_R_90 d_R_set_165 ad_79 sh_79 rfl ?_
        refine jx_iload3 (pc := 168) d_R_set_168 ?_
        refine jx_iret (pc := 169) hX rfl d_R_set_169 ?_
        rotate_left
        rw [f1]
        refine k _ (hR.wy (fun q hq => ?_) (fun q h1 => by rw [j_set_n _ _ _ h1, j_set_n _ _ _ h1, j_set_n _ _ _ h1, j_set_n _ _ _ h1, j_set_n _ _ _ h1]) (fun q h1 => ?_)) (fun q hq => by rw [j_set_n _ _ _ (by omega), j_set_n _ _ _ (by omega), j_set_n _ _ _ (by omega), j_set_n _ _ _ (by omega), j_set_n _ _ _ (by omega)])
        · have h55 : q = 0 ∨ q = 1 ∨ q = 2 ∨ q = 3 ∨ q = 4 := by omega
          rcases h55 with rfl | rfl | rfl | rfl | rfl <;> simp [j_set_s, upd, upN, f0, f1, f2, f3, f4]
        · simp only [j_set_s]
          unfold upd
          rw [if_neg (by omega), if_neg (by omega), if_neg (by omega), if_neg (by omega), if_neg (by omega)]
      · have hv5 : 0 ≤ nI c ∧ nI c ≤ 9 := ⟨g3, g4⟩
        refine jx_iload1 (pc := 0) d_R_set_0 ?_
        refine jx_iconst (pc := 1) (v := 0) d_R_set_1 (by decide) ?_
        refine jx_iconst (pc := 2) (v := 4) d_R_set_2 (by decide) ?_
        refine jx_callS3 (pc := 3) (d' := 0) so_R_in lk_R_95 d_R_set_3 (by omega) (Nat.le_of_ble_eq_true rfl) ?_
        refine c_R_in ?_
        refine jx_r1 ?_
        refine jx_if_eq (pc := 6) 29 d_R_set_6 (by decide) (fun c6 => absurd c6 (z01p hr5)) (fun c6 => ?_)
        refine jx_iload2 (pc := 9) d_R_set_9 ?_
        refine jx_iconst (pc := 10) (v := 0) d_R_set_10 (by decide) ?_
        refine jx_iload1 (pc := 11) d_R_set_11 ?_
        refine jx_iconst (pc := 12) (v := 3) d_R_set_12 (by decide) ?_
        refine jx_icmp_ne (pc := 13) 21 d_R_set_13 (by decide) (fun c13 => ?_) (fun c13 => absurd c13 (show nI 2 ≠ 3 by decide))
        refine jx_bipush (pc := 21) (v := 9) d_R_set_21 (by decide) ?_
        refine jx_callS3 (pc := 23) (d' := 0) so_R_in lk_R_95 d_R_set_23 (by omega) (Nat.le_of_ble_eq_true rfl) ?_
        refine c_R_in ?_
        refine jx_r1 ?_
        refine jx_if_ne (pc := 26) 32 d_R_set_26 (by decide) (fun c26 => ?_) (fun c26 => absurd c26 (z01p hv5))
        refine jx_iload1 (pc := 32) d_R_set_32 ?_
        refine jx_if_ne (pc := 33) 43 d_R_set_33 (by decide) (fun c33 => ?_) (fun c33 => absurd c33 (show nI 2 ≠ 0 by decide))
        refine jx_iload1 (pc := 43) d_R_set_43 ?_
        refine jx_iconst (pc := 44) (v := 1) d_R_set_44 (by decide) ?_
        refine jx_icmp_ne (pc := 45) 55 d_R_set_45 (by decide) (fun c45 => ?_) (fun c45 => absurd c45 (show nI 2 ≠ 1 by decide))
        refine jx_iload1 (pc := 55) d_R_set_55 ?_
        refine jx_iconst (pc := 56) (v := 2) d_R_set_56 (by decide) ?_
        refine jx_icmp_ne (pc := 57) 67 d_R_set_57 (by decide) (fun c57 => absurd c57 (fun q => q rfl)) (fun c57 => ?_)
        refine jx_aload0 (pc := 60) d_R_set_60 ?_
        refine jx_getI (pc := 61) gf_R_120 d_R_set_61 ad_79 sh_79 rfl ?_
        refine jx_goto (pc := 64) 83 d_R_set_64 (by decide) ?_
        refine jx_istore3 (pc := 83) d_R_set_83 rfl (Nat.le_of_ble_eq_true rfl) ?_
        refine jx_aload0 (pc := 84) d_R_set_84 ?_
        refine jx_iload1 (pc := 85) d_R_set_85 ?_
        refine jx_if_ne (pc := 86) 93 d_R_set_86 (by decide) (fun c86 => ?_) (fun c86 => absurd c86 (show nI 2 ≠ 0 by decide))
        refine jx_aload0 (pc := 93) d_R_set_93 ?_
        refine jx_getI (pc := 94) gf_R_83 d_R_set_94 ad_79 sh_79 rfl ?_
        refine jx_putI (pc := 97) pf_R_83 d_R_set_97 ad_79 sh_79 rfl ?_
        refine jx_aload0 (pc := 100) d_R_set_100 ?_
        refine jx_iload1 (pc := 101) d_R_set_101 ?_
        refine jx_iconst (pc := 102) (v := 1) d_R_set_102 (by decide) ?_
        refine jx_icmp_ne (pc := 103) 110 d_R_set_103 (by decide) (fun c103 => ?_) (fun c103 => absurd c103 (show nI 2 ≠ 1 by decide))
        refine jx_aload0 (pc := 110) d_R_set_110 ?_
        refine jx_getI (pc := 111) gf_R_87 d_R_set_111 ad_79 sh_79 rfl ?_
        refine jx_putI (pc := 114) pf_R_87 d_R_set_114 ad_79 sh_79 rfl ?_
        refine jx_aload0 (pc := 117) d_R_set_117 ?_
        refine jx_iload1 (pc := 118) d_R_set_118 ?_
        refine jx_iconst (pc := 119) (v := 2) d_R_set_119 (by decide) ?_
        refine jx_icmp_ne (pc := 120) 127 d_R_set_120 (by decide) (fun c120 => absurd c120 (fun q => q rfl)) (fun c120 => ?_)
        refine jx_iload2 (pc := 123) d_R_set_123 ?_
        refine jx_goto (pc := 124) 131 d_R_set_124 (by decide) ?_
        refine jx_putI (pc := 131) pf_R_120 d_R_set_131 ad_79 sh_79 rfl ?_
        refine jx_aload0 (pc := 134) d_R_set_134 ?_
        refine jx_iload1 (pc := 135) d_R_set_135 ?_
        refine jx_iconst (pc := 136) (v := 3) d_R_set_136 (by decide) ?_
        refine jx_icmp_ne (pc := 137) 144 d_R_set_137 (by decide) (fun c137 => ?_) (fun c137 => absurd c137 (show nI 2 ≠ 3 by decide))
        refine jx_aload0 (pc := 144) d_R_set_144 ?_
        refine jx_getI (pc := 145) gf_R_123 d_R_set_145 ad_79 sh_79 rfl ?_
        refine jx_putI (pc := 148) pf_R_123 d_R_set_148 ad_79 sh_79 rfl ?_
        refine jx_aload0 (pc := 151) d_R_set_151 ?_
        refine jx_iload1 (pc := 152) d_R_set_152 ?_
        refine jx_iconst (pc := 153) (v := 4) d_R_set_153 (by decide) ?_
        refine jx_icmp_ne (pc := 154) 161 d_R_set_154 (by decide) (fun c154 => ?_) (fun c154 => absurd c154 (show nI 2 ≠ 4 by decide))
        refine jx_aload0 (pc := 161) d_R_set_161 ?_
        refine jx_getI (pc := 162) gf_R_90 d_R_set_162 ad_79 sh_79 rfl ?_
        refine jx_putI (pc := 165) pf_R_90 d_R_set_165 ad_79 sh_79 rfl ?_
        refine jx_iload3 (pc := 168) d_R_set_168 ?_
        refine jx_iret (pc := 169) hX rfl d_R_set_169 ?_
        rotate_left
        rw [f2]
        refine k _ (hR.wy (fun q hq => ?_) (fun q h1 => by rw [j_set_n _ _ _ h1, j_set_n _ _ _ h1, j_set_n _ _ _ h1, j_set_n _ _ _ h1, j_set_n _ _ _ h1]) (fun q h1 => ?_)) (fun q hq => by rw [j_set_n _ _ _ (by omega), j_set_n _ _ _ (by omega), j_set_n _ _ _ (by omega), j_set_n _ _ _ (by omega), j_set_n _ _ _ (by omega)])
        · have h55 : q = 0 ∨ q = 1 ∨ q = 2 ∨ q = 3 ∨ q = 4 := by omega
          rcases h55 with rfl | rfl | rfl | rfl | rfl <;> simp [j_set_s, upd, upN, f0, f1, f2, f3, f4]
        · simp only [j_set_s]
          unfold upd
          rw [if_neg (by omega), if_neg (by omega), if_neg (by omega), if_neg (by omega), if_neg (by omega)]
      · have hv5 : 0 ≤ nI c ∧ nI c ≤ 1073741823 := ⟨g3, g4⟩
        refine jx_iload1 (pc := 0) d_R_set_0 ?_
        refine jx_iconst (pc := 1) (v := 0) d_R_set_1 (by decide) ?_
        refine jx_iconst (pc := 2) (v := 4) d_R_set_2 (by decide) ?_
        refine jx_callS3 (pc := 3) (d' := 0) so_R_in lk_R_95 d_R_set_3 (by omega) (Nat.le_of_ble_eq_true rfl) ?_
        refine c_R_in ?_
        refine jx_r1 ?_
        refine jx_if_eq (pc := 6) 29 d_R_set_6 (by decide) (fun c6 => absurd c6 (z01p hr5)) (fun c6 => ?_)
        refine jx_iload2 (pc := 9) d_R_set_9 ?_
        refine jx_iconst (pc := 10) (v := 0) d_R_set_10 (by decide) ?_
        refine jx_iload1 (pc := 11) d_R_set_11 ?_
        refine jx_iconst (pc := 12) (v := 3) d_R_set_12 (by decide) ?_
        refine jx_icmp_ne (pc := 13) 21 d_R_set_13 (by decide) (fun c13 => absurd c13 (fun q => q rfl)) (fun c13 => ?_)
        refine jx_ldc (pc := 16) d_R_set_16 lc_R_119 ?_
        refine jx_goto (pc := 18) 23 d_R_set_18 (by decide) ?_
        refine jx_callS3 (pc := 23) (d' := 0) so_R_in lk_R_95 d_R_set_23 (by omega) (Nat.le_of_ble_eq_true rfl) ?_
        refine c_R_in ?_
        refine jx_r1 ?_
        refine jx_if_ne (pc := 26) 32 d_R_set_26 (by decide) (fun c26 => ?_) (fun c26 => absurd c26 (z01p hv5))
        refine jx_iload1 (pc := 32) d_R_set_32 ?_
        refine jx_if_ne (pc := 33) 43 d_R_set_33 (by decide) (fun c33 => ?_) (fun c33 => absurd c33 (show nI 3 ≠ 0 by decide))
        refine jx_iload1 (pc := 43) d_R_set_43 ?_
        refine jx_iconst (pc := 44) (v := 1) d_R_set_44 (by decide) ?_
        refine jx_icmp_ne (pc := 45) 55 d_R_set_45 (by decide) (fun c45 => ?_) (fun c45 => absurd c45 (show nI 3 ≠ 1 by decide))
        refine jx_iload1 (pc := 55) d_R_set_55 ?_
        refine jx_iconst (pc := 56) (v := 2) d_R_set_56 (by decide) ?_
        refine jx_icmp_ne (pc := 57) 67 d_R_set_57 (by decide) (fun c57 => ?_) (fun c57 => absurd c57 (show nI 3 ≠ 2 by decide))
        refine jx_iload1 (pc := 67) d_R_set_67 ?_
        refine jx_iconst (pc := 68) (v := 3) d_R_set_68 (by decide) ?_
        refine jx_icmp_ne (pc := 69) 79 d_R_set_69 (by decide) (fun c69 => absurd c69 (fun q => q rfl)) (fun c69 => ?_)
        refine jx_aload0 (pc := 72) d_R_set_72 ?_
        refine jx_getI (pc := 73) gf_R_123 d_R_set_73 ad_79 sh_79 rfl ?_
        refine jx_goto (pc := 76) 83 d_R_set_76 (by decide) ?_
        refine jx_istore3 (pc := 83) d_R_set_83 rfl (Nat.le_of_ble_eq_true rfl) ?_
        refine jx_aload0 (pc := 84) d_R_set_84 ?_
        refine jx_iload1 (pc := 85) d_R_set_85 ?_
        refine jx_if_ne (pc := 86) 93 d_R_set_86 (by decide) (fun c86 => ?_) (fun c86 => absurd c86 (show nI 3 ≠ 0 by decide))
        refine jx_aload0 (pc := 93) d_R_set_93 ?_
        refine jx_getI (pc := 94) gf_R_83 d_R_set_94 ad_79 sh_79 rfl ?_
        refine jx_putI (pc := 97) pf_R_83 d_R_set_97 ad_79 sh_79 rfl ?_
        refine jx_aload0 (pc := 100) d_R_set_100 ?_
        refine jx_iload1 (pc := 101) d_R_set_101 ?_
        refine jx_iconst (pc := 102) (v := 1) d_R_set_102 (by decide) ?_
        refine jx_icmp_ne (pc := 103) 110 d_R_set_103 (by decide) (fun c103 => ?_) (fun c103 => absurd c103 (show nI 3 ≠ 1 by decide))
        refine jx_aload0 (pc := 110) d_R_set_110 ?_
        refine jx_getI (pc := 111) gf_R_87 d_R_set_111 ad_79 sh_79 rfl ?_
        refine jx_putI (pc := 114) pf_R_87 d_R_set_114 ad_79 sh_79 rfl ?_
        refine jx_aload0 (pc := 117) d_R_set_117 ?_
        refine jx_iload1 (pc := 118) d_R_set_118 ?_
        refine jx_iconst (pc := 119) (v := 2) d_R_set_119 (by decide) ?_
        refine jx_icmp_ne (pc := 120) 127 d_R_set_120 (by decide) (fun c120 => ?_) (fun c120 => absurd c120 (show nI 3 ≠ 2 by decide))
        refine jx_aload0 (pc := 127) d_R_set_127 ?_
        refine jx_getI (pc := 128) gf_R_120 d_R_set_128 ad_79 sh_79 rfl ?_
        refine jx_putI (pc := 131) pf_R_120 d_R_set_131 ad_79 sh_79 rfl ?_
        refine jx_aload0 (pc := 134) d_R_set_134 ?_
        refine jx_iload1 (pc := 135) d_R_set_135 ?_
        refine jx_iconst (pc := 136) (v := 3) d_R_set_136 (by decide) ?_
        refine jx_icmp_ne (pc := 137) 144 d_R_set_137 (by decide) (fun c137 => absurd c137 (fun q => q rfl)) (fun c137 => ?_)
        refine jx_iload2 (pc := 140) d_R_set_140 ?_
        refine jx_goto (pc := 141) 148 d_R_set_141 (by decide) ?_
        refine jx_putI (pc := 148) pf_R_123 d_R_set_148 ad_79 sh_79 rfl ?_
        refine jx_aload0 (pc := 151) d_R_set_151 ?_
        refine jx_iload1 (pc := 152) d_R_set_152 ?_
        refine jx_iconst (pc := 153) (v := 4) d_R_set_153 (by decide) ?_
        refine jx_icmp_ne (pc := 154) 161 d_R_set_154 (by decide) (fun c154 => ?_) (fun c154 => absurd c154 (show nI 3 ≠ 4 by decide))
        refine jx_aload0 (pc := 161) d_R_set_161 ?_
        refine jx_getI (pc := 162) gf_R_90 d_R_set_162 ad_79 sh_79 rfl ?_
        refine jx_putI (pc := 165) pf_R_90 d_R_set_165 ad_79 sh_79 rfl ?_
        refine jx_iload3 (pc := 168) d_R_set_168 ?_
        refine jx_iret (pc := 169) hX rfl d_R_set_169 ?_
        rotate_left
        rw [f3]
        refine k _ (hR.wy (fun q hq => ?_) (fun q h1 => by rw [j_set_n _ _ _ h1, j_set_n _ _ _ h1, j_set_n _ _ _ h1, j_set_n _ _ _ h1, j_set_n _ _ _ h1]) (fun q h1 => ?_)) (fun q hq => by rw [j_set_n _ _ _ (by omega), j_set_n _ _ _ (by omega), j_set_n _ _ _ (by omega), j_set_n _ _ _ (by omega), j_set_n _ _ _ (by omega)])
        · have h55 : q = 0 ∨ q = 1 ∨ q = 2 ∨ q = 3 ∨ q = 4 := by omega
          rcases h55 with rfl | rfl | rfl | rfl | rfl <;> simp [j_set_s, upd, upN, f0, f1, f2, f3, f4]
        · simp only [j_set_s]
          unfold upd
          rw [if_neg (by omega), if_neg (by omega), if_neg (by omega), if_neg (by omega), if_neg (by omega)]
      · have hv5 : 0 ≤ nI c ∧ nI c ≤ 9 := ⟨g3, g4⟩
        refine jx_iload1 (pc := 0) d_R_set_0 ?_
        refine jx_iconst (pc := 1) (v := 0) d_R_set_1 (by decide) ?_
        refine jx_iconst (pc := 2) (v := 4) d_R_set_2 (by decide) ?_
        refine jx_callS3 (pc := 3) (d' := 0) so_R_in lk_R_95 d_R_set_3 (by omega) (Nat.le_of_ble_eq_true rfl) ?_
        refine c_R_in ?_
        refine jx_r1 ?_
        refine jx_if_eq (pc := 6) 29 d_R_set_6 (by decide) (fun c6 => absurd c6 (z01p hr5)) (fun c6 => ?_)
        refine jx_iload2 (pc := 9) d_R_set_9 ?_
        refine jx_iconst (pc := 10) (v := 0) d_R_set_10 (by decide) ?_
        refine jx_iload1 (pc := 11) d_R_set_11 ?_
        refine jx_iconst (pc := 12) (v := 3) d_R_set_12 (by decide) ?_
        refine jx_icmp_ne (pc := 13) 21 d_R_set_13 (by decide) (fun c13 => ?_) (fun c13 => absurd c13 (show nI 4 ≠ 3 by decide))
        refine jx_bipush (pc := 21) (v := 9) d_R_set_21 (by decide) ?_
        refine jx_callS3 (pc := 23) (d' := 0) so_R_in lk_R_95 d_R_set_23 (by omega) (Nat.le_of_ble_eq_true rfl) ?_
        refine c_R_in ?_
        refine jx_r1 ?_
        refine jx_if_ne (pc := 26) 32 d_R_set_26 (by decide) (fun c26 => ?_) (fun c26 => absurd c26 (z01p hv5))
        refine jx_iload1 (pc := 32) d_R_set_32 ?_
        refine jx_if_ne (pc := 33) 43 d_R_set_33 (by decide) (fun c33 => ?_) (fun c33 => absurd c33 (show nI 4 ≠ 0 by decide))
        refine jx_iload1 (pc := 43) d_R_set_43 ?_
        refine jx_iconst (pc := 44) (v := 1) d_R_set_44 (by decide) ?_
        refine jx_icmp_ne (pc := 45) 55 d_R_set_45 (by decide) (fun c45 => ?_) (fun c45 => absurd c45 (show nI 4 ≠ 1 by decide))
        refine jx_iload1 (pc := 55) d_R_set_55 ?_
        refine jx_iconst (pc := 56) (v := 2) d_R_set_56 (by decide) ?_
        refine jx_icmp_ne (pc := 57) 67 d_R_set_57 (by decide) (fun c57 => ?_) (fun c57 => absurd c57 (show nI 4 ≠ 2 by decide))
        refine jx_iload1 (pc := 67) d_R_set_67 ?_
        refine jx_iconst (pc := 68) (v := 3) d_R_set_68 (by decide) ?_
        refine jx_icmp_ne (pc := 69) 79 d_R_set_69 (by decide) (fun c69 => ?_) (fun c69 => absurd c69 (show nI 4 ≠ 3 by decide))
        refine jx_aload0 (pc := 79) d_R_set_79 ?_
        refine jx_getI (pc := 80) gf_R_90 d_R_set_80 ad_79 sh_79 rfl ?_
        refine jx_istore3 (pc := 83) d_R_set_83 rfl (Nat.le_of_ble_eq_true rfl) ?_
        refine jx_aload0 (pc := 84) d_R_set_84 ?_
        refine jx_iload1 (pc := 85) d_R_set_85 ?_
        refine jx_if_ne (pc := 86) 93 d_R_set_86 (by decide) (fun c86 => ?_) (fun c86 => absurd c86 (show nI 4 ≠ 0 by decide))
        refine jx_aload0 (pc := 93) d_R_set_93 ?_
        refine jx_getI (pc := 94) gf_R_83 d_R_set_94 ad_79 sh_79 rfl ?_
        refine jx_putI (pc := 97) pf_R_83 d_R_set_97 ad_79 sh_79 rfl ?_
        refine jx_aload0 (pc := 100) d_R_set_100 ?_
        refine jx_iload1 (pc := 101) d_R_set_101 ?_
        refine jx_iconst (pc := 102) (v := 1) d_R_set_102 (by decide) ?_
        refine jx_icmp_ne (pc := 103) 110 d_R_set_103 (by decide) (fun c103 => ?_) (fun c103 => absurd c103 (show nI 4 ≠ 1 by decide))
        refine jx_aload0 (pc := 110) d_R_set_110 ?_
        refine jx_getI (pc := 111) gf_R_87 d_R_set_111 ad_79 sh_79 rfl ?_
        refine jx_putI (pc := 114) pf_R_87 d_R_set_114 ad_79 sh_79 rfl ?_
        refine jx_aload0 (pc := 117) d_R_set_117 ?_
        refine jx_iload1 (pc := 118) d_R_set_118 ?_
        refine jx_iconst (pc := 119) (v := 2) d_R_set_119 (by decide) ?_
        refine jx_icmp_ne (pc := 120) 127 d_R_set_120 (by decide) (fun c120 => ?_) (fun c120 => absurd c120 (show nI 4 ≠ 2 by decide))
        refine jx_aload0 (pc := 127) d_R_set_127 ?_
        refine jx_getI (pc := 128) gf_R_120 d_R_set_128 ad_79 sh_79 rfl ?_
        refine jx_putI (pc := 131) pf_R_120 d_R_set_131 ad_79 sh_79 rfl ?_
        refine jx_aload0 (pc := 134) d_R_set_134 ?_
        refine jx_iload1 (pc := 135) d_R_set_135 ?_
        refine jx_iconst (pc := 136) (v := 3) d_R_set_136 (by decide) ?_
        refine jx_icmp_ne (pc := 137) 144 d_R_set_137 (by decide) (fun c137 => ?_) (fun c137 => absurd c137 (show nI 4 ≠ 3 by decide))
        refine jx_aload0 (pc := 144) d_R_set_144 ?_
        refine jx_getI (pc := 145) gf_R_123 d_R_set_145 ad_79 sh_79 rfl ?_
        refine jx_putI (pc := 148) pf_R_123 d_R_set_148 ad_79 sh_79 rfl ?_
        refine jx_aload0 (pc := 151) d_R_set_151 ?_
        refine jx_iload1 (pc := 152) d_R_set_152 ?_
        refine jx_iconst (pc := 153) (v := 4) d_R_set_153 (by decide) ?_
        refine jx_icmp_ne (pc := 154) 161 d_R_set_154 (by decide) (fun c154 => absurd c154 (fun q => q rfl)) (fun c154 => ?_)
        refine jx_iload2 (pc := 157) d_R_set_157 ?_
        refine jx_goto (pc := 158) 165 d_R_set_158 (by decide) ?_
        refine jx_putI (pc := 165) pf_R_90 d_R_set_165 ad_79 sh_79 rfl ?_
        refine jx_iload3 (pc := 168) d_R_set_168 ?_
        refine jx_iret (pc := 169) hX rfl d_R_set_169 ?_
        rotate_left
        rw [f4]
        refine k _ (hR.wy (fun q hq => ?_) (fun q h1 => by rw [j_set_n _ _ _ h1, j_set_n _ _ _ h1, j_set_n _ _ _ h1, j_set_n _ _ _ h1, j_set_n _ _ _ h1]) (fun q h1 => ?_)) (fun q hq => by rw [j_set_n _ _ _ (by omega), j_set_n _ _ _ (by omega), j_set_n _ _ _ (by omega), j_set_n _ _ _ (by omega), j_set_n _ _ _ (by omega)])
        · have h55 : q = 0 ∨ q = 1 ∨ q = 2 ∨ q = 3 ∨ q = 4 := by omega
          rcases h55 with rfl | rfl | rfl | rfl | rfl <;> simp [j_set_s, upd, upN, f0, f1, f2, f3, f4]
        · simp only [j_set_s]
          unfold upd
          rw [if_neg (by omega), if_neg (by omega), if_neg (by omega), if_neg (by omega), if_neg (by omega)]
    · have hr : r_set s (nI a) v = -2 := by unfold r_set; rw [if_neg hb]
      have hnx : n_set s (nI a) v = s := by unfold n_set; rw [if_neg hb]
      rw [hr, hnx] at k
      have hb2 : ¬ (0 ≤ v ∧ v ≤ j_wm a) := fun q => hb ⟨hw5, q.1, by rw [ea]; exact q.2⟩
      rcases h5 with rfl | rfl | rfl | rfl | rfl
      · have hv5 : ¬ (0 ≤ v ∧ v ≤ 9) := hb2
        refine jx_iload1 (pc := 0) d_R_set_0 ?_
        refine jx_iconst (pc := 1) (v := 0) d_R_set_1 (by decide) ?_
        refine jx_iconst (pc := 2) (v := 4) d_R_set_2 (by decide) ?_
        refine jx_callS3 (pc := 3) (d' := 0) so_R_in lk_R_95 d_R_set_3 (by omega) (Nat.le_of_ble_eq_true rfl) ?_
        refine c_R_in ?_
        refine jx_r1 ?_
        refine jx_if_eq (pc := 6) 29 d_R_set_6 (by decide) (fun c6 => absurd c6 (z01p hr5)) (fun c6 => ?_)
        refine jx_iload2 (pc := 9) d_R_set_9 ?_
        refine jx_iconst (pc := 10) (v := 0) d_R_set_10 (by decide) ?_
        refine jx_iload1 (pc := 11) d_R_set_11 ?_
        refine jx_iconst (pc := 12) (v := 3) d_R_set_12 (by decide) ?_
        refine jx_icmp_ne (pc := 13) 21 d_R_set_13 (by decide) (fun c13 => ?_) (fun c13 => absurd c13 (show nI 0 ≠ 3 by decide))
        refine jx_bipush (pc := 21) (v := 9) d_R_set_21 (by decide) ?_
        refine jx_callS3 (pc := 23) (d' := 0) so_R_in lk_R_95 d_R_set_23 (by omega) (Nat.le_of_ble_eq_true rfl) ?_
        refine c_R_in ?_
        refine jx_r1 ?_
        refine jx_if_ne (pc := 26) 32 d_R_set_26 (by decide) (fun c26 => absurd c26 (fun q => q (z01.mpr hv5))) (fun c26 => ?_)
        refine jx_bipush (pc := 29) (v := (-2)) d_R_set_29 (by decide) ?_
        refine jx_iret (pc := 31) hX rfl d_R_set_31 ?_
        rotate_left
        exact k M hR (fun _ _ => rfl)
      · have hv5 : ¬ (0 ≤ v ∧ v ≤ 9) := hb2
        refine jx_iload1 (pc := 0) d_R_set_0 ?_
        refine jx_iconst (pc := 1) (v := 0) d_R_set_1 (by decide) ?_
        refine jx_iconst (pc := 2) (v := 4) d_R_set_2 (by decide) ?_
        refine jx_callS3 (pc := 3) (d' := 0) so_R_in lk_R_95 d_R_set_3 (by omega) (Nat.le_of_ble_eq_true rfl) ?_
        refine c_R_in ?_
        refine jx_r1 ?_
        refine jx_if_eq (pc := 6) 29 d_R_set_6 (by decide) (fun c6 => absurd c6 (z01p hr5)) (fun c6 => ?_)
        refine jx_iload2 (pc := 9) d_R_set_9 ?_
        refine jx_iconst (pc := 10) (v := 0) d_R_set_10 (by decide) ?_
        refine jx_iload1 (pc := 11) d_R_set_11 ?_
        refine jx_iconst (pc := 12) (v := 3) d_R_set_12 (by decide) ?_
        refine jx_icmp_ne (pc := 13) 21 d_R_set_13 (by decide) (fun c13 => ?_) (fun c13 => absurd c13 (show nI 1 ≠ 3 by decide))
        refine jx_bipush (pc := 21) (v := 9) d_R_set_21 (by decide) ?_
        refine jx_callS3 (pc := 23) (d' := 0) so_R_in lk_R_95 d_R_set_23 (by omega) (Nat.le_of_ble_eq_true rfl) ?_
        refine c_R_in ?_
        refine jx_r1 ?_
        refine jx_if_ne (pc := 26) 32 d_R_set_26 (by decide) (fun c26 => absurd c26 (fun q => q (z01.mpr hv5))) (fun c26 => ?_)
        refine jx_bipush (pc := 29) (v := (-2)) d_R_set_29 (by decide) ?_
        refine jx_iret (pc := 31) hX rfl d_R_set_31 ?_
        rotate_left
        exact k M hR (fun _ _ => rfl)
      · have hv5 : ¬ (0 ≤ v ∧ v ≤ 9) := hb2
        refine jx_iload1 (pc := 0) d_R_set_0 ?_
        refine jx_iconst (pc := 1) (v := 0) d_R_set_1 (by decide) ?_
        refine jx_iconst (pc := 2) (v := 4) d_R_set_2 (by decide) ?_
        refine jx_callS3 (pc := 3) (d' := 0) so_R_in lk_R_95 d_R_set_3 (by omega) (Nat.le_of_ble_eq_true rfl) ?_
        refine c_R_in ?_
        refine jx_r1 ?_
        refine jx_if_eq (pc := 6) 29 d_R_set_6 (by decide) (fun c6 => absurd c6 (z01p hr5)) (fun c6 => ?_)
        refine jx_iload2 (pc := 9) d_R_set_9 ?_
        refine jx_iconst (pc := 10) (v := 0) d_R_set_10 (by decide) ?_
        refine jx_iload1 (pc := 11) d_R_set_11 ?_
        refine jx_iconst (pc := 12) (v := 3) d_R_set_12 (by decide) ?_
        refine jx_icmp_ne (pc := 13) 21 d_R_set_13 (by decide) (fun c13 => ?_) (fun c13 => absurd c13 (show nI 2 ≠ 3 by decide))
        refine jx_bipush (pc := 21) (v := 9) d_R_set_21 (by decide) ?_
        refine jx_callS3 (pc := 23) (d' := 0) so_R_in lk_R_95 d_R_set_23 (by omega) (Nat.le_of_ble_eq_true rfl) ?_
        refine c_R_in ?_
        refine jx_r1 ?_
        refine jx_if_ne (pc := 26) 32 d_R_set_26 (by decide) (fun c26 => absurd c26 (fun q => q (z01.mpr hv5))) (fun c26 => ?_)
        refine jx_bipush (pc := 29) (v := (-2)) d_R_set_29 (by decide) ?_
        refine jx_iret (pc := 31) hX rfl d_R_set_31 ?_
        rotate_left
        exact k M hR (fun _ _ => rfl)
      · have hv5 : ¬ (0 ≤ v ∧ v ≤ 1073741823) := hb2
        refine jx_iload1 (pc := 0) d_R_set_0 ?_
        refine jx_iconst (pc := 1) (v := 0) d_R_set_1 (by decide) ?_
        refine jx_iconst (pc := 2) (v := 4) d_R_set_2 (by decide) ?_
        refine jx_callS3 (pc := 3) (d' := 0) so_R_in lk_R_95 d_R_set_3 (by omega) (Nat.le_of_ble_eq_true rfl) ?_
        refine c_R_in ?_
        refine jx_r1 ?_
        refine jx_if_eq (pc := 6) 29 d_R_set_6 (by decide) (fun c6 => absurd c6 (z01p hr5)) (fun c6 => ?_)
        refine jx_iload2 (pc := 9) d_R_set_9 ?_
        refine jx_iconst (pc := 10) (v := 0) d_R_set_10 (by decide) ?_
        refine jx_iload1 (pc := 11) d_R_set_11 ?_
        refine jx_iconst (pc := 12) (v := 3) d_R_set_12 (by decide) ?_
        refine jx_icmp_ne (pc := 13) 21 d_R_set_13 (by decide) (fun c13 => absurd c13 (fun q => q rfl)) (fun c13 => ?_)
        refine jx_ldc (pc := 16) d_R_set_16 lc_R_119 ?_
        refine jx_goto (pc := 18) 23 d_R_set_18 (by decide) ?_
        refine jx_callS3 (pc := 23) (d' := 0) so_R_in lk_R_95 d_R_set_23 (by omega) (Nat.le_of_ble_eq_true rfl) ?_
        refine c_R_in ?_
        refine jx_r1 ?_
        refine jx_if_ne (pc := 26) 32 d_R_set_26 (by decide) (fun c26 => absurd c26 (fun q => q (z01.mpr hv5))) (fun c26 => ?_)
        refine jx_bipush (pc := 29) (v := (-2)) d_R_set_29 (by decide) ?_
        refine jx_iret (pc := 31) hX rfl d_R_set_31 ?_
        rotate_left
        exact k M hR (fun _ _ => rfl)
      · have hv5 : ¬ (0 ≤ v ∧ v ≤ 9) := hb2
        refine jx_iload1 (pc := 0) d_R_set_0 ?_
        refine jx_iconst (pc := 1) (v := 0) d_R_set_1 (by decide) ?_
        refine jx_iconst (pc := 2) (v := 4) d_R_set_2 (by decide) ?_
        refine jx_callS3 (pc := 3) (d' := 0) so_R_in lk_R_95 d_R_set_3 (by omega) (Nat.le_of_ble_eq_true rfl) ?_
        refine c_R_in ?_
        refine jx_r1 ?_
        refine jx_if_eq (pc := 6) 29 d_R_set_6 (by decide) (fun c6 => absurd c6 (z01p hr5)) (fun c6 => ?_)
        refine jx_iload2 (pc := 9) d_R_set_9 ?_
        refine jx_iconst (pc := 10) (v := 0) d_R_set_10 (by decide) ?_
        refine jx_iload1 (pc := 11) d_R_set_11 ?_
        refine jx_iconst (pc := 12) (v := 3) d_R_set_12 (by decide) ?_
        refine jx_icmp_ne (pc := 13) 21 d_R_set_13 (by decide) (fun c13 => ?_) (fun c13 => absurd c13 (show nI 4 ≠ 3 by decide))
        refine jx_bipush (pc := 21) (v := 9) d_R_set_21 (by decide) ?_
        refine jx_callS3 (pc := 23) (d' := 0) so_R_in lk_R_95 d_R_set_23 (by omega) (Nat.le_of_ble_eq_true rfl) ?_
        refine c_R_in ?_
        refine jx_r1 ?_
        refine jx_if_ne (pc := 26) 32 d_R_set_26 (by decide) (fun c26 => absurd c26 (fun q => q (z01.mpr hv5))) (fun c26 => ?_)
        refine jx_bipush (pc := 29) (v := (-2)) d_R_set_29 (by decide) ?_
        refine jx_iret (pc := 31) hX rfl d_R_set_31 ?_
        rotate_left
        exact k M hR (fun _ _ => rfl)
  · have hr : r_set s w v = -2 := by unfold r_set; rw [if_neg (fun q => hw5 q.1)]
    have hnx : n_set s w v = s := by unfold n_set; rw [if_neg (fun q => hw5 q.1)]
    rw [hr, hnx] at k
    have hz5 : ¬ (0 ≤ w ∧ w ≤ 4) := fun q => hw5 ((in5 w).mp q)
    refine jx_iload1 (pc := 0) d_R_set_0 ?_
    refine jx_iconst (pc := 1) (v := 0) d_R_set_1 (by decide) ?_
    refine jx_iconst (pc := 2) (v := 4) d_R_set_2 (by decide) ?_
    refine jx_callS3 (pc := 3) (d' := 0) so_R_in lk_R_95 d_R_set_3 (by omega) (Nat.le_of_ble_eq_true rfl) ?_
    refine c_R_in ?_
    refine jx_r1 ?_
    refine jx_if_eq (pc := 6) 29 d_R_set_6 (by decide) (fun c6 => ?_) (fun c6 => absurd c6 (fun q => q (z01.mpr hz5)))
    refine jx_bipush (pc := 29) (v := (-2)) d_R_set_29 (by decide) ?_
    refine jx_iret (pc := 31) hX rfl d_R_set_31 ?_
    rotate_left
    exact k M hR (fun _ _ => rfl)
theorem c_R_changesNow {d : Nat} {s : Sg} {M : j_M} {Q : Option Value → j_M → Prop} (hw : WF s) (hR : RepR s M) (k : ∀ M', ScrR M M' → RdR s M' → Q (some (.int (nI (chgB s 30)))) M') : j_Ct (d + 4) I_R_changesNow [.ref 79] M Q := by
  refine j_met (by decide +kernel) co_R_changesNow (Nat.le_of_ble_eq_true rfl) (fun X hX => ?_)
  show j_W (d + 4) I_R_changesNow X 0 [some (.ref 79), none, none] [] M
  have loop : ∀ (M2 : j_M), ScrR M M2 → RdR s M2 → (∀ q, q < 30 → M2 91 q = em (fdD s 0 q)) → ∀ (r i : Nat), i + r = 30 → j_W (d + 4) I_R_changesNow X 11 [some (.ref 79), some (.int (nI (chgB s i))), some (.int (nI i))] [] M2 := by
    intro M2 hS hr2 f0 r
    induction r with
    | zero =>
      intro i hi
      refine jx_iload2 (pc := 11) d_R_changesNow_11 ?_
      refine jx_bipush (pc := 12) (v := 30) d_R_changesNow_12 (by decide) ?_
      refine jx_icmp_ge (pc := 14) 56 d_R_changesNow_14 (by decide) (fun c14 => ?_) (fun c14 => absurd c14 (fun q => q (show nI 30 ≤ nI i from nI_le (by omega) (by omega))))
      refine jx_iload1 (pc := 56) d_R_changesNow_56 ?_
      refine jx_iret (pc := 57) hX rfl d_R_changesNow_57 ?_
      rotate_left
      rw [show i = 30 by omega]
      exact k M2 hS hr2
    | succ r ih =>
      intro i hi
      have e1 : (nI i).toNatClampNeg = i := nI_cl (by omega)
      have hv : vp_in (nI i) 30 := vp_in_nI (by omega) (by omega)
      have hl0 := fdD_lt hw 0 (show i < 30 by omega)
      have hpl := prv_lt hw (show i ≤ 30 by omega)
      have hk47 : ¬ fdD s 0 i = prv s i → j_W (d + 4) I_R_changesNow X 48 [some (.ref 79), some (.int (nI (chgB s i))), some (.int (nI i))] [.int 1, .int (nI (chgB s i))] M2 := by
        intro hne
        refine jx_iadd (pc := 48) d_R_changesNow_48 ?_
        refine jx_istore1 (pc := 49) d_R_changesNow_49 rfl (Nat.le_of_ble_eq_true rfl) ?_
        refine jx_iinc2 (pc := 50) d_R_changesNow_50 rfl (Nat.le_of_ble_eq_true rfl) ?_
        refine jx_goto (pc := 53) 11 d_R_changesNow_53 (by decide) ?_
        rotate_left
        rw [nI_add1, nI_1]
        have h9 := ih (i + 1) (by omega)
        rw [show chgB s (i + 1) = chgB s i + 1 by rw [chgB, if_neg hne]] at h9
        exact h9
      have hk0 : fdD s 0 i = prv s i → j_W (d + 4) I_R_changesNow X 48 [some (.ref 79), some (.int (nI (chgB s i))), some (.int (nI i))] [.int 0, .int (nI (chgB s i))] M2 := by
        intro heq
        refine jx_iadd (pc := 48) d_R_changesNow_48 ?_
        refine jx_istore1 (pc := 49) d_R_changesNow_49 rfl (Nat.le_of_ble_eq_true rfl) ?_
        refine jx_iinc2 (pc := 50) d_R_changesNow_50 rfl (Nat.le_of_ble_eq_true rfl) ?_
        refine jx_goto (pc := 53) 11 d_R_changesNow_53 (by decide) ?_
        rotate_left
        rw [nI_add1, show nI (chgB s i) + 0 = nI (chgB s i) by rw [← nI_0, nI_add, Nat.add_zero]]
        have h9 := ih (i + 1) (by omega)
        rw [show chgB s (i + 1) = chgB s i by rw [chgB, if_pos heq]] at h9
        exact h9
      by_cases hi0 : i = 0
      · subst hi0
        refine jx_iload2 (pc := 11) d_R_changesNow_11 ?_
        refine jx_bipush (pc := 12) (v := 30) d_R_changesNow_12 (by decide) ?_
        refine jx_icmp_ge (pc := 14) 56 d_R_changesNow_14 (by decide) (fun c14 => absurd c14 (show ¬ nI 30 ≤ nI 0 from nI_ge (by omega) (by omega))) (fun c14 => ?_)
        refine jx_iload1 (pc := 17) d_R_changesNow_17 ?_
        refine jx_aload0 (pc := 18) d_R_changesNow_18 ?_
        refine jx_getR (pc := 19) gf_R_43 d_R_changesNow_19 ad_79 sh_79 rfl ?_
        refine jx_iload2 (pc := 22) d_R_changesNow_22 ?_
        refine jx_iald (pc := 23) d_R_changesNow_23 ad_91 sh_91 (by first | assumption | exact vp_in_nI (by omega) (by omega)) ?_
        refine jx_iload2 (pc := 24) d_R_changesNow_24 ?_
        refine jx_if_ne (pc := 25) 32 d_R_changesNow_25 (by decide) (fun c25 => absurd c25 (fun q => q rfl)) (fun c25 => ?_)
        refine jx_iconst (pc := 28) (v := (-1)) d_R_changesNow_28 (by decide) ?_
        refine jx_goto (pc := 29) 40 d_R_changesNow_29 (by decide) ?_
        refine jx_icmp_eq (pc := 40) 47 d_R_changesNow_40 (by decide) (fun c40 => ?_) (fun c40 => ?_)
        refine jx_iconst (pc := 47) (v := 0) d_R_changesNow_47 (by decide) ?_
        rotate_left
        refine jx_iconst (pc := 43) (v := 1) d_R_changesNow_43 (by decide) ?_
        refine jx_goto (pc := 44) 48 d_R_changesNow_44 (by decide) ?_
        rotate_left
        · rw [e1, f0 0 (by omega)] at c40
          exact hk0 ((em_inj (by omega) (by omega)).mp (c40 : em (fdD s 0 0) = em 9))
        · rw [e1, f0 0 (by omega)] at c40
          exact hk47 (fun q => c40 (by rw [q]; rfl))
      · obtain ⟨j, rfl⟩ : ∃ j, i = j + 1 := ⟨i - 1, by omega⟩
        have ej : nI (j + 1) - 1 = nI j := nI_sub (b := 1) (by omega)
        have hvj : vp_in (nI (j + 1) - 1) 30 := by rw [ej]; exact vp_in_nI (by omega) (by omega)
        have hne0 : nI (j + 1) ≠ 0 := fun q => absurd ((nI_eq (b := 0) (by omega) (by omega)).mp q) (by omega)
        refine jx_iload2 (pc := 11) d_R_changesNow_11 ?_
        refine jx_bipush (pc := 12) (v := 30) d_R_changesNow_12 (by decide) ?_
        refine jx_icmp_ge (pc := 14) 56 d_R_changesNow_14 (by decide) (fun c14 => absurd c14 (show ¬ nI 30 ≤ nI (j + 1) from nI_ge (by omega) (by omega))) (fun c14 => ?_)
        refine jx_iload1 (pc := 17) d_R_changesNow_17 ?_
        refine jx_aload0 (pc := 18) d_R_changesNow_18 ?_
        refine jx_getR (pc := 19) gf_R_43 d_R_changesNow_19 ad_79 sh_79 rfl ?_
        refine jx_iload2 (pc := 22) d_R_changesNow_22 ?_
        refine jx_iald (pc := 23) d_R_changesNow_23 ad_91 sh_91 (by first | assumption | exact vp_in_nI (by omega) (by omega)) ?_
        refine jx_iload2 (pc := 24) d_R_changesNow_24 ?_
        refine jx_if_ne (pc := 25) 32 d_R_changesNow_25 (by decide) (fun c25 => ?_) (fun c25 => absurd c25 hne0)
        refine jx_aload0 (pc := 32) d_R_changesNow_32 ?_
        refine jx_getR (pc := 33) gf_R_43 d_R_changesNow_33 ad_79 sh_79 rfl ?_
        refine jx_iload2 (pc := 36) d_R_changesNow_36 ?_
        refine jx_iconst (pc := 37) (v := 1) d_R_changesNow_37 (by decide) ?_
        refine jx_isub (pc := 38) d_R_changesNow_38 ?_
        refine jx_iald (pc := 39) d_R_changesNow_39 ad_91 sh_91 hvj ?_
        refine jx_icmp_eq (pc := 40) 47 d_R_changesNow_40 (by decide) (fun c40 => ?_) (fun c40 => ?_)
        refine jx_iconst (pc := 47) (v := 0) d_R_changesNow_47 (by decide) ?_
        rotate_left
        refine jx_iconst (pc := 43) (v := 1) d_R_changesNow_43 (by decide) ?_
        refine jx_goto (pc := 44) 48 d_R_changesNow_44 (by decide) ?_
        rotate_left
        · rw [e1, ej, nI_cl (n := j) (by omega), f0 _ (by omega), f0 j (by omega)] at c40
          exact hk0 ((em_inj (by omega) (Nat.lt_of_lt_of_le hpl (by omega))).mp c40)
        · rw [e1, ej, nI_cl (n := j) (by omega), f0 _ (by omega), f0 j (by omega)] at c40
          exact hk47 (fun q => c40 (by rw [q]; rfl))
  refine jx_aload0 (pc := 0) d_R_changesNow_0 ?_
  refine jx_iconst (pc := 1) (v := 0) d_R_changesNow_1 (by decide) ?_
  refine jx_bipush (pc := 2) (v := 29) d_R_changesNow_2 (by decide) ?_
  refine jx_callV2 (pc := 4) (d' := d + 3) vo_R_runsTold lk_R_179 d_R_changesNow_4 ad_79 sh_79 rfl (by omega) (Nat.le_of_ble_eq_true rfl) ?_
  refine c_R_runsTold (dog := 0) (last := 29) hw hR (by omega) (by omega) (fun M3 hS3 hr3 h91 h89 hbb3 => ?_)
  refine jx_r0 ?_
  refine jx_iconst (pc := 7) (v := 0) d_R_changesNow_7 (by decide) ?_
  refine jx_istore1 (pc := 8) d_R_changesNow_8 rfl (Nat.le_of_ble_eq_true rfl) ?_
  refine jx_iconst (pc := 9) (v := 0) d_R_changesNow_9 (by decide) ?_
  refine jx_istore2 (pc := 10) d_R_changesNow_10 rfl (Nat.le_of_ble_eq_true rfl) ?_
  rotate_left
  exact loop M3 hS3 hr3 (fun q hq => h91 q (by omega)) 30 0 (by omega)
theorem c_R_changes {d : Nat} {s : Sg} {M : j_M} {Q : Option Value → j_M → Prop} (hw : WF s) (hR : RepR s M) (k : ∀ M', ScrR M M' → Q (some (.int (nI (chgB s 30)))) M') : j_Ct (d + 5) I_R_changes [.ref 79] M Q := by
  refine j_met (by decide +kernel) co_R_changes (Nat.le_of_ble_eq_true rfl) (fun X hX => ?_)
  show j_W (d + 5) I_R_changes X 0 [some (.ref 79)] [] M
  refine jx_aload0 (pc := 0) d_R_changes_0 ?_
  refine jx_callV0 (pc := 1) (d' := d + 4) vo_R_changesNow lk_R_213 d_R_changes_1 ad_79 sh_79 rfl (by omega) (Nat.le_of_ble_eq_true rfl) ?_
  refine c_R_changesNow hw hR (fun M2 hS hr2 => ?_)
  refine jx_r1 ?_
  refine jx_iret (pc := 4) hX rfl d_R_changes_4 ?_
  rotate_left
  exact k M2 hS
theorem c_R_dissent {d : Nat} {s : Sg} {M : j_M} {Q : Option Value → j_M → Prop} (hw : WF s) (hR : RepR s M) (k : ∀ M', ScrR M M' → Q (some (.int (nI (disB s 30)))) M') : j_Ct (d + 5) I_R_dissent [.ref 79] M Q := by
  refine j_met (by decide +kernel) co_R_dissent (Nat.le_of_ble_eq_true rfl) (fun X hX => ?_)
  show j_W (d + 5) I_R_dissent X 0 [some (.ref 79)] [] M
  refine jx_aload0 (pc := 0) d_R_dissent_0 ?_
  refine jx_callV0 (pc := 1) (d' := d + 4) vo_R_dissentNow lk_R_210 d_R_dissent_1 ad_79 sh_79 rfl (by omega) (Nat.le_of_ble_eq_true rfl) ?_
  refine c_R_dissentNow hw hR (fun M2 hS hr2 => ?_)
  refine jx_r1 ?_
  refine jx_iret (pc := 4) hX rfl d_R_dissent_4 ?_
  rotate_left
  exact k M2 hS
theorem in6m {h : Int32} : (-1 ≤ h ∧ h ≤ 5) ↔ (-1 ≤ h ∧ h < 6) := by
  simp only [fa_le, fa_lt, Int32.reduceToInt]
  omega
theorem c_R_seen {d : Nat} {dy h : Int32} {s : Sg} {M : j_M} {Q : Option Value → j_M → Prop} (hw : WF s) (hR : RepR s M) (k : ∀ M', RepR (n_seen s dy h) M' → Lo M M' → Q (some (.int (r_seen s dy h))) M') : j_Ct (d + 2) I_R_seen [.ref 79, .int dy, .int h] M Q := by
  refine j_met (by decide +kernel) co_R_seen (Nat.le_of_ble_eq_true rfl) (fun X hX => ?_)
  show j_W (d + 2) I_R_seen X 0 [some (.ref 79), some (.int dy), some (.int h)] [] M
  have hns : M 79 28 = nI (g_ns s) := hR.2.2.2.2.1.1
  have hn8 := hw.2.2.2.2.2.2.2.1
  have z8 : nI (g_ns s) = 8 ↔ g_ns s = 8 := nI_eq (b := 8) (by omega) (by omega)
  by_cases hb : okSeen dy h
  · obtain ⟨g1, g2⟩ := id hb
    by_cases hn : g_ns s < 8
    · have hr : r_seen s dy h = nI (g_ns s + 1) := by unfold r_seen; rw [if_pos hb, if_pos hn]
      have hnx : n_seen s dy h = s_se s (g_ns s + 1) (upN (g_sd s) (g_ns s) (cl dy)) (upN (g_sh s) (g_ns s) (unem h)) := by unfold n_seen; rw [if_pos ⟨hb, hn⟩]
      rw [hr, hnx] at k
      obtain ⟨a, ha, rfl, ea⟩ := okd dy 30 (by omega) g1
      obtain ⟨hu, he⟩ := seen_of g2.1 g2.2
      have hg2 := in6m.mpr g2
      rw [ea] at k
      have en : (nI (g_ns s)).toNatClampNeg = g_ns s := nI_cl (by omega)
      have hv : vp_in (M 79 28) 8 := by rw [hns]; exact vp_in_nI hn (by omega)
      refine jx_iload1 (pc := 0) d_R_seen_0 ?_
      refine jx_callS1 (pc := 1) (d' := 1) so_R_isDay lk_R_126 d_R_seen_1 (by omega) (Nat.le_of_ble_eq_true rfl) ?_
      refine c_R_isDay ?_
      refine jx_r1 ?_
      refine jx_if_eq (pc := 4) 16 d_R_seen_4 (by decide) (fun c4 => absurd c4 (z01p g1)) (fun c4 => ?_)
      refine jx_iload2 (pc := 7) d_R_seen_7 ?_
      refine jx_iconst (pc := 8) (v := (-1)) d_R_seen_8 (by decide) ?_
      refine jx_iconst (pc := 9) (v := 5) d_R_seen_9 (by decide) ?_
      refine jx_callS3 (pc := 10) (d' := 0) so_R_in lk_R_95 d_R_seen_10 (by omega) (Nat.le_of_ble_eq_true rfl) ?_
      refine c_R_in ?_
      refine jx_r1 ?_
      refine jx_if_ne (pc := 13) 19 d_R_seen_13 (by decide) (fun c13 => ?_) (fun c13 => absurd c13 (z01p hg2))
      refine jx_aload0 (pc := 19) d_R_seen_19 ?_
      refine jx_getI (pc := 20) gf_R_240 d_R_seen_20 ad_79 sh_79 rfl ?_
      refine jx_bipush (pc := 23) (v := 8) d_R_seen_23 (by decide) ?_
      refine jx_icmp_ne (pc := 25) 31 d_R_seen_25 (by decide) (fun c25 => ?_) (fun c25 => absurd c25 (fun q => absurd (z8.mp (hns ▸ q)) (by omega)))
      refine jx_aload0 (pc := 31) d_R_seen_31 ?_
      refine jx_getR (pc := 32) gf_R_56 d_R_seen_32 ad_79 sh_79 rfl ?_
      refine jx_aload0 (pc := 35) d_R_seen_35 ?_
      refine jx_getI (pc := 36) gf_R_240 d_R_seen_36 ad_79 sh_79 rfl ?_
      refine jx_iload1 (pc := 39) d_R_seen_39 ?_
      refine jx_iast (pc := 40) d_R_seen_40 ad_95 sh_95 hv ?_
      refine jx_aload0 (pc := 41) d_R_seen_41 ?_
      refine jx_getR (pc := 42) gf_R_59 d_R_seen_42 ad_79 sh_79 rfl ?_
      refine jx_aload0 (pc := 45) d_R_seen_45 ?_
      refine jx_getI (pc := 46) gf_R_240 d_R_seen_46 ad_79 sh_79 rfl ?_
      refine jx_iload2 (pc := 49) d_R_seen_49 ?_
      refine jx_iast (pc := 50) d_R_seen_50 ad_96 sh_96 hv ?_
      refine jx_aload0 (pc := 51) d_R_seen_51 ?_
      refine jx_dupr (pc := 52) d_R_seen_52 ?_
      refine jx_getI (pc := 53) gf_R_240 d_R_seen_53 ad_79 sh_79 rfl ?_
      refine jx_iconst (pc := 56) (v := 1) d_R_seen_56 (by decide) ?_
      refine jx_iadd (pc := 57) d_R_seen_57 ?_
      refine jx_putI (pc := 58) pf_R_240 d_R_seen_58 ad_79 sh_79 rfl ?_
      refine jx_aload0 (pc := 61) d_R_seen_61 ?_
      refine jx_getI (pc := 62) gf_R_240 d_R_seen_62 ad_79 sh_79 rfl ?_
      refine jx_iret (pc := 65) hX rfl d_R_seen_65 ?_
      rotate_left
      simp only [j_set_n (b := 79) (a := 95) _ _ _ (by omega), j_set_n (b := 79) (a := 96) _ _ _ (by omega), hns, en, nI_1]
      rw [j_set_s]
      rw [show ∀ f : Nat → Int32, upd f 28 (nI (g_ns s + 1)) 28 = nI (g_ns s + 1) from fun f => by simp [upd]]
      refine k _ (hR.se (by simp [j_set_s, upd]) (fun i hi => ?_) (fun q g1 g2 g3 => by rw [j_set_n _ _ _ g1, j_set_n _ _ _ g3, j_set_n _ _ _ g2]) (fun q g1 => ?_)) (fun q hq => by rw [j_set_n _ _ _ (by omega), j_set_n _ _ _ (by omega), j_set_n _ _ _ (by omega)])
      · rw [j_set_n (b := 95) _ _ _ (by omega), j_set_n (b := 95) _ _ _ (by omega), j_set_s, j_set_n (b := 96) _ _ _ (by omega), j_set_s, j_set_n (b := 96) _ _ _ (by omega)]
        unfold upd upN
        by_cases hc2 : i = g_ns s
        · simp [hc2, ← he]
        · simp only [if_neg hc2]; exact hR.2.2.2.2.1.2 i (by omega)
      · rw [j_set_s]; unfold upd; rw [if_neg g1, j_set_n _ _ _ (by omega), j_set_n _ _ _ (by omega)]
    · have hr : r_seen s dy h = -4 := by unfold r_seen; rw [if_pos hb, if_neg hn]
      have hnx : n_seen s dy h = s := by unfold n_seen; rw [if_neg (fun q => hn q.2)]
      rw [hr, hnx] at k
      have hg2 := in6m.mpr g2
      refine jx_iload1 (pc := 0) d_R_seen_0 ?_
      refine jx_callS1 (pc := 1) (d' := 1) so_R_isDay lk_R_126 d_R_seen_1 (by omega) (Nat.le_of_ble_eq_true rfl) ?_
      refine c_R_isDay ?_
      refine jx_r1 ?_
      refine jx_if_eq (pc := 4) 16 d_R_seen_4 (by decide) (fun c4 => absurd c4 (z01p g1)) (fun c4 => ?_)
      refine jx_iload2 (pc := 7) d_R_seen_7 ?_
      refine jx_iconst (pc := 8) (v := (-1)) d_R_seen_8 (by decide) ?_
      refine jx_iconst (pc := 9) (v := 5) d_R_seen_9 (by decide) ?_
      refine jx_callS3 (pc := 10) (d' := 0) so_R_in lk_R_95 d_R_seen_10 (by omega) (Nat.le_of_ble_eq_true rfl) ?_
      refine c_R_in ?_
      refine jx_r1 ?_
      refine jx_if_ne (pc := 13) 19 d_R_seen_13 (by decide) (fun c13 => ?_) (fun c13 => absurd c13 (z01p hg2))
      refine jx_aload0 (pc := 19) d_R_seen_19 ?_
      refine jx_getI (pc := 20) gf_R_240 d_R_seen_20 ad_79 sh_79 rfl ?_
      refine jx_bipush (pc := 23) (v := 8) d_R_seen_23 (by decide) ?_
      refine jx_icmp_ne (pc := 25) 31 d_R_seen_25 (by decide) (fun c25 => absurd c25 (fun q => q (hns.trans (z8.mpr (by omega))))) (fun c25 => ?_)
      refine jx_bipush (pc := 28) (v := (-4)) d_R_seen_28 (by decide) ?_
      refine jx_iret (pc := 30) hX rfl d_R_seen_30 ?_
      rotate_left
      exact k M hR (fun _ _ => rfl)
  · have hr : r_seen s dy h = -2 := by unfold r_seen; rw [if_neg hb]
    have hnx : n_seen s dy h = s := by unfold n_seen; rw [if_neg (fun q => hb q.1)]
    rw [hr, hnx] at k
    refine jx_iload1 (pc := 0) d_R_seen_0 ?_
    refine jx_callS1 (pc := 1) (d' := 1) so_R_isDay lk_R_126 d_R_seen_1 (by omega) (Nat.le_of_ble_eq_true rfl) ?_
    refine c_R_isDay ?_
    refine jx_r1 ?_
    refine jx_if_eq (pc := 4) 16 d_R_seen_4 (by decide) (fun c4 => ?_) (fun c4 => ?_)
    refine jx_bipush (pc := 16) (v := (-2)) d_R_seen_16 (by decide) ?_
    refine jx_iret (pc := 18) hX rfl d_R_seen_18 ?_
    rotate_left
    refine jx_iload2 (pc := 7) d_R_seen_7 ?_
    refine jx_iconst (pc := 8) (v := (-1)) d_R_seen_8 (by decide) ?_
    refine jx_iconst (pc := 9) (v := 5) d_R_seen_9 (by decide) ?_
    refine jx_callS3 (pc := 10) (d' := 0) so_R_in lk_R_95 d_R_seen_10 (by omega) (Nat.le_of_ble_eq_true rfl) ?_
    refine c_R_in ?_
    refine jx_r1 ?_
    refine jx_if_ne (pc := 13) 19 d_R_seen_13 (by decide) (fun c13 => ?_) (fun c13 => ?_)
    rotate_left
    refine jx_bipush (pc := 16) (v := (-2)) d_R_seen_16 (by decide) ?_
    refine jx_iret (pc := 18) hX rfl d_R_seen_18 ?_
    rotate_left
    · exact k M hR (fun _ _ => rfl)
    · exact absurd ⟨z01n c4, in6m.mp (z01n c13)⟩ hb
    · exact k M hR (fun _ _ => rfl)
theorem c_R_forget {d : Nat} {s : Sg} {M : j_M} {Q : Option Value → j_M → Prop} (hR : RepR s M) (k : ∀ M', RepR (n_forget s) M' → Lo M M' → Q (some (.int (nI (g_ns s)))) M') : j_Ct d I_R_forget [.ref 79] M Q := by
  refine j_met (by decide +kernel) co_R_forget (Nat.le_of_ble_eq_true rfl) (fun X hX => ?_)
  show j_W d I_R_forget X 0 [some (.ref 79), none] [] M
  have hns : M 79 28 = nI (g_ns s) := hR.2.2.2.2.1.1
  refine jx_aload0 (pc := 0) d_R_forget_0 ?_
  refine jx_getI (pc := 1) gf_R_240 d_R_forget_1 ad_79 sh_79 rfl ?_
  refine jx_istore1 (pc := 4) d_R_forget_4 rfl (Nat.le_of_ble_eq_true rfl) ?_
  refine jx_aload0 (pc := 5) d_R_forget_5 ?_
  refine jx_iconst (pc := 6) (v := 0) d_R_forget_6 (by decide) ?_
  refine jx_putI (pc := 7) pf_R_240 d_R_forget_7 ad_79 sh_79 rfl ?_
  refine jx_iload1 (pc := 10) d_R_forget_10 ?_
  refine jx_iret (pc := 11) hX rfl d_R_forget_11 ?_
  rotate_left
  rw [hns]
  refine k _ (hR.se (ns := 0) (by simp [j_set_s, upd]; rfl) (fun i hi => absurd hi (by omega)) (fun q g1 g2 g3 => j_set_n _ _ _ g1) (fun q g1 => by rw [j_set_s]; unfold upd; rw [if_neg g1])) (fun q hq => j_set_n _ _ _ (by omega))
