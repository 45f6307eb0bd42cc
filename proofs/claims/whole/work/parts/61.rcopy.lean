/-! OPERATIONS of the reference, nine: copy, count, read -/
theorem lsum {a b z : Nat} (ha : a < 2 ^ 31) (hb : b < 2 ^ 31) (hz : z ≤ 48) : ((nI a).toInt64 + (nI b).toInt64 ≤ (nI z).toInt64) ↔ a + b ≤ z := by
  rw [nI_l ha, nI_l hb, nI_l (by omega), lN_add]
  exact pk_lLE (by omega) (by omega)
theorem c_R_copy {d : Nat} {a i b j n : Int32} {s : Sg} {M : j_M} {Q : Option Value → j_M → Prop} (hw : WF s) (hR : RepR s M) (k : ∀ M', RepR (n_copy s a i b j n) M' → Lo M M' → Q (some (.int (r_copy s a i b j n))) M') : j_Ct (d + 2) I_R_copy [.ref 79, .int a, .int i, .int b, .int j, .int n] M Q := by
  refine j_met (by decide +kernel) co_R_copy (Nat.le_of_ble_eq_true rfl) (fun X hX => ?_)
  show j_W (d + 2) I_R_copy X 0 [some (.ref 79), some (.int a), some (.int i), some (.int b), some (.int j), some (.int n), none] [] M
  by_cases hb : okPl a ∧ okPl b
  · obtain ⟨g1, g2⟩ := id hb
    obtain ⟨q, hq, rfl, ea⟩ := okd a 4 (by omega) g1
    obtain ⟨p, hp, rfl, eb⟩ := okd b 4 (by omega) g2
    have hvq : vp_in (nI q) 4 := vp_in_nI hq (by omega)
    have hvp : vp_in (nI p) 4 := vp_in_nI hp (by omega)
    obtain ⟨q1, q2, q3, q4⟩ := hR.h q hq
    obtain ⟨p1, p2, p3, p4⟩ := hR.h p hp
    have hfq := fo_lt hw q
    have hfp := fo_lt hw p
    have eq1 : (nI q).toNatClampNeg = q := ea
    have ep1 : (nI p).toNatClampNeg = p := eb
    have Lq : M 99 (nI q).toNatClampNeg = 0 ↔ g_fo s q = 9 := by rw [eq1]; exact lostR hR hq
    have Lp : M 99 (nI p).toNatClampNeg = 0 ↔ g_fo s p = 9 := by rw [ep1]; exact lostR hR hp
    by_cases h9 : g_fo s q = 9 ∨ g_fo s p = 9
    · have hr : r_copy s (nI q) i (nI p) j n = -10 - 1 := by unfold r_copy; rw [if_pos hb, ea, eb, if_pos h9]
      have hnx : n_copy s (nI q) i (nI p) j n = s_fi s 1 := by unfold n_copy; rw [if_pos hb, ea, eb, if_pos h9]
      rw [hr, hnx] at k
      by_cases h9q : g_fo s q = 9
      · have hLq := Lq.mpr h9q
        refine jx_iload1 (pc := 0) d_R_copy_0 ?_
        refine jx_callS1 (pc := 1) (d' := 1) so_R_isSheet lk_R_135 d_R_copy_1 (by omega) (Nat.le_of_ble_eq_true rfl) ?_
        refine c_R_isSheet ?_
        refine jx_r1 ?_
        refine jx_if_eq (pc := 4) 14 d_R_copy_4 (by decide) (fun c4 => absurd c4 (z01p hb.1)) (fun c4 => ?_)
        refine jx_iload3 (pc := 7) d_R_copy_7 ?_
        refine jx_callS1 (pc := 8) (d' := 1) so_R_isSheet lk_R_135 d_R_copy_8 (by omega) (Nat.le_of_ble_eq_true rfl) ?_
        refine c_R_isSheet ?_
        refine jx_r1 ?_
        refine jx_if_ne (pc := 11) 17 d_R_copy_11 (by decide) (fun c11 => ?_) (fun c11 => absurd c11 (z01p hb.2))
        refine jx_aload0 (pc := 17) d_R_copy_17 ?_
        refine jx_getR (pc := 18) gf_R_68 d_R_copy_18 ad_79 sh_79 rfl ?_
        refine jx_iload1 (pc := 21) d_R_copy_21 ?_
        refine jx_zald (pc := 22) d_R_copy_22 ad_99 sh_99 hvq ?_
        refine jx_if_eq (pc := 23) 35 d_R_copy_23 (by decide) (fun c23 => ?_) (fun c23 => absurd c23 (fun z => z hLq))
        refine jx_aload0 (pc := 35) d_R_copy_35 ?_
        refine jx_iconst (pc := 36) (v := 1) d_R_copy_36 (by decide) ?_
        refine jx_callV1 (pc := 37) (d' := 0) vo_R_meets lk_R_138 d_R_copy_37 ad_79 sh_79 rfl (by omega) (Nat.le_of_ble_eq_true rfl) ?_
        refine c_R_meets ?_
        refine jx_r1 ?_
        refine jx_iret (pc := 40) hX rfl d_R_copy_40 ?_
        rotate_left
        exact k _ (hR.fi 1) lo_fi
      · have hLq : ¬ M 99 (nI q).toNatClampNeg = 0 := fun z => h9q (Lq.mp z)
        have hLp := Lp.mpr (h9.resolve_left h9q)
        refine jx_iload1 (pc := 0) d_R_copy_0 ?_
        refine jx_callS1 (pc := 1) (d' := 1) so_R_isSheet lk_R_135 d_R_copy_1 (by omega) (Nat.le_of_ble_eq_true rfl) ?_
        refine c_R_isSheet ?_
        refine jx_r1 ?_
        refine jx_if_eq (pc := 4) 14 d_R_copy_4 (by decide) (fun c4 => absurd c4 (z01p hb.1)) (fun c4 => ?_)
        refine jx_iload3 (pc := 7) d_R_copy_7 ?_
        refine jx_callS1 (pc := 8) (d' := 1) so_R_isSheet lk_R_135 d_R_copy_8 (by omega) (Nat.le_of_ble_eq_true rfl) ?_
        refine c_R_isSheet ?_
        refine jx_r1 ?_
        refine jx_if_ne (pc := 11) 17 d_R_copy_11 (by decide) (fun c11 => ?_) (fun c11 => absurd c11 (z01p hb.2))
        refine jx_aload0 (pc := 17) d_R_copy_17 ?_
        refine jx_getR (pc := 18) gf_R_68 d_R_copy_18 ad_79 sh_79 rfl ?_
        refine jx_iload1 (pc := 21) d_R_copy_21 ?_
        refine jx_zald (pc := 22) d_R_copy_22 ad_99 sh_99 hvq ?_
        refine jx_if_eq (pc := 23) 35 d_R_copy_23 (by decide) (fun c23 => absurd c23 hLq) (fun c23 => ?_)
        refine jx_aload0 (pc := 26) d_R_copy_26 ?_
        refine jx_getR (pc := 27) gf_R_68 d_R_copy_27 ad_79 sh_79 rfl ?_
        refine jx_iload3 (pc := 30) d_R_copy_30 ?_
        refine jx_zald (pc := 31) d_R_copy_31 ad_99 sh_99 hvp ?_
        refine jx_if_ne (pc := 32) 41 d_R_copy_32 (by decide) (fun c32 => absurd c32 (fun z => z hLp)) (fun c32 => ?_)
        refine jx_aload0 (pc := 35) d_R_copy_35 ?_
        refine jx_iconst (pc := 36) (v := 1) d_R_copy_36 (by decide) ?_
        refine jx_callV1 (pc := 37) (d' := 0) vo_R_meets lk_R_138 d_R_copy_37 ad_79 sh_79 rfl (by omega) (Nat.le_of_ble_eq_true rfl) ?_
        refine c_R_meets ?_
        refine jx_r1 ?_
        refine jx_iret (pc := 40) hX rfl d_R_copy_40 ?_
        rotate_left
        exact k _ (hR.fi 1) lo_fi
    · have hLq : ¬ M 99 (nI q).toNatClampNeg = 0 := fun z => h9 (Or.inl (Lq.mp z))
      have hLp : ¬ M 99 (nI p).toNatClampNeg = 0 := fun z => h9 (Or.inr (Lp.mp z))
      have f1 : M 100 (nI q).toNatClampNeg = nI (g_fo s q) := by rw [eq1]; exact q2 (fun z => h9 (Or.inl z))
      have f2 : M 100 (nI p).toNatClampNeg = nI (g_fo s p) := by rw [ep1]; exact p2 (fun z => h9 (Or.inr z))
      have Lf : M 100 (nI q).toNatClampNeg = M 100 (nI p).toNatClampNeg ↔ g_fo s q = g_fo s p := by rw [f1, f2]; exact nI_eq (by omega) (by omega)
      by_cases hf : g_fo s q = g_fo s p
      · have hLf := Lf.mpr hf
        by_cases hrun : runS s q i n ∧ runS s p j n
        · have hr : r_copy s (nI q) i (nI p) j n = 1 := by unfold r_copy; rw [if_pos hb, ea, eb, if_neg h9, if_pos hf, if_pos hrun]
          have hnx : n_copy s (nI q) i (nI p) j n = s_sh s (g_fo s) (g_si s) (cpI (g_it s) q (cl i) p (cl j) (cl n)) := by unfold n_copy; rw [if_pos hb, ea, eb, if_neg h9, if_pos hf, if_pos hrun]
          rw [hr, hnx] at k
          obtain ⟨⟨⟨u1, u2⟩, u3⟩, ⟨⟨v1, v2⟩, v3⟩⟩ := id hrun
          obtain ⟨x, hx, rfl⟩ := nI_of (Int32.not_lt.mpr u1)
          obtain ⟨y, hy, rfl⟩ := nI_of (Int32.not_lt.mpr v1)
          obtain ⟨m, hm, rfl⟩ := nI_of (Int32.not_lt.mpr u2)
          have ex : cl (nI x) = x := nI_cl hx
          have ey : cl (nI y) = y := nI_cl hy
          have em1 : cl (nI m) = m := nI_cl hm
          rw [ex, em1] at u3
          rw [ey, em1] at v3
          rw [ex, ey, em1] at k
          have w1 : (nI x).toInt64 + (nI m).toInt64 ≤ (M 101 (nI q).toNatClampNeg).toInt64 := by rw [eq1, q3]; exact (lsum hx hm hfq.2).mpr u3
          have w2 : (nI y).toInt64 + (nI m).toInt64 ≤ (M 101 (nI p).toNatClampNeg).toInt64 := by rw [ep1, p3]; exact (lsum hy hm hfp.2).mpr v3
          have loop2 : ∀ (r t : Nat) (M2 : j_M), t + r = m → (∀ z, z < m → M2 103 z = g_it s q (x + z)) → Lo M M2 → RepR (s_sh s (g_fo s) (g_si s) (cpI (g_it s) q x p y t)) M2 → j_W (d + 2) I_R_copy X 157 [some (.ref 79), some (.int (nI q)), some (.int (nI x)), some (.int (nI p)), some (.int (nI y)), some (.int (nI m)), some (.int (nI t))] [] M2 := by
            intro r
            induction r with
            | zero =>
              intro t M2 ht f0 hl hR2
              have ht' : t = m := by omega
              subst ht'
              refine jx_iload6 (pc := 157) d_R_copy_157 ?_
              refine jx_iload5 (pc := 159) d_R_copy_159 ?_
              refine jx_icmp_ge (pc := 161) 192 d_R_copy_161 (by decide) (fun c161 => ?_) (fun c161 => absurd c161 (fun z => z (Int32.le_refl _)))
              refine jx_iconst (pc := 192) (v := 1) d_R_copy_192 (by decide) ?_
              refine jx_iret (pc := 193) hX rfl d_R_copy_193 ?_
              rotate_left
              exact k M2 hR2 hl
            | succ r ih =>
              intro t M2 ht f0 hl hR2
              have et : (nI t).toNatClampNeg = t := nI_cl (by omega)
              have e3 : (48 : Int32) * nI p + nI y + nI t = nI (48 * p + (y + t)) := by rw [x48, nI_add, Nat.add_assoc]
              have e4 : ((48 : Int32) * nI p + nI y + nI t).toNatClampNeg = 48 * p + (y + t) := by rw [e3]; exact nI_cl (by omega)
              have hv3 : vp_in ((48 : Int32) * nI p + nI y + nI t) 192 := by rw [e3]; exact vp_in_nI (by omega) (by omega)
              refine jx_iload6 (pc := 157) d_R_copy_157 ?_
              refine jx_iload5 (pc := 159) d_R_copy_159 ?_
              refine jx_icmp_ge (pc := 161) 192 d_R_copy_161 (by decide) (fun c161 => absurd c161 (nI_ge (by omega) (by omega))) (fun c161 => ?_)
              refine jx_aload0 (pc := 164) d_R_copy_164 ?_
              refine jx_getR (pc := 165) gf_R_77 d_R_copy_165 ad_79 sh_79 rfl ?_
              refine jx_bipush (pc := 168) (v := 48) d_R_copy_168 (by decide) ?_
              refine jx_iload3 (pc := 170) d_R_copy_170 ?_
              refine jx_imul (pc := 171) d_R_copy_171 ?_
              refine jx_iload4 (pc := 172) d_R_copy_172 ?_
              refine jx_iadd (pc := 174) d_R_copy_174 ?_
              refine jx_iload6 (pc := 175) d_R_copy_175 ?_
              refine jx_iadd (pc := 177) d_R_copy_177 ?_
              refine jx_aload0 (pc := 178) d_R_copy_178 ?_
              refine jx_getR (pc := 179) gf_R_80 d_R_copy_179 ad_79 sh_79 rfl ?_
              refine jx_iload6 (pc := 182) d_R_copy_182 ?_
              refine jx_iald (pc := 184) d_R_copy_184 ad_103 sh_103 (vp_in_nI (by omega) (by omega)) ?_
              refine jx_iast (pc := 185) d_R_copy_185 ad_102 sh_102 hv3 ?_
              refine jx_iinc6 (pc := 186) d_R_copy_186 rfl (Nat.le_of_ble_eq_true rfl) ?_
              refine jx_goto (pc := 189) 157 d_R_copy_189 (by decide) ?_
              rotate_left
              rw [nI_add1, et, e4, f0 t (by omega)]
              refine ih (t + 1) _ (by omega) (fun z hz => by rw [j_set_n _ _ _ (by omega)]; exact f0 z hz) (fun b hb => by rw [j_set_n _ _ _ (by omega)]; exact hl b hb) ?_
              have h7 := hR2.sh (ShR.put hR2 hp (show y + t < 48 by omega) (g_it s q (x + t))) (fun b hb => j_set_n _ _ _ (by omega))
              have hE : upI (g_it (s_sh s (g_fo s) (g_si s) (cpI (g_it s) q x p y t))) p (y + t) (g_it s q (x + t)) = cpI (g_it s) q x p y (t + 1) := by
                funext z w
                show (if z = p ∧ w = y + t then _ else cpI (g_it s) q x p y t z w) = cpI (g_it s) q x p y (t + 1) z w
                unfold cpI
                by_cases hc : z = p ∧ w = y + t
                · rw [if_pos hc, if_pos ⟨hc.1, by omega, by omega⟩, show x + (w - y) = x + t by omega]
                · rw [if_neg hc]
                  by_cases hc2 : z = p ∧ y ≤ w ∧ w < y + t
                  · rw [if_pos hc2, if_pos ⟨hc2.1, hc2.2.1, by omega⟩]
                  · rw [if_neg hc2, if_neg (fun v => hc2 ⟨v.1, v.2.1, by have h1 := v.2; have : ¬ w = y + t := fun u => hc ⟨v.1, u⟩; omega⟩)]
              rw [hE] at h7
              exact h7
          have loop1 : ∀ (r t : Nat) (M2 : j_M), t + r = m → (∀ z, z < t → M2 103 z = g_it s q (x + z)) → (∀ b, b ≠ 103 → M2 b = M b) → j_W (d + 2) I_R_copy X 120 [some (.ref 79), some (.int (nI q)), some (.int (nI x)), some (.int (nI p)), some (.int (nI y)), some (.int (nI m)), some (.int (nI t))] [] M2 := by
            intro r
            induction r with
            | zero =>
              intro t M2 ht f0 hl
              have ht' : t = m := by omega
              subst ht'
              refine jx_iload6 (pc := 120) d_R_copy_120 ?_
              refine jx_iload5 (pc := 122) d_R_copy_122 ?_
              refine jx_icmp_ge (pc := 124) 154 d_R_copy_124 (by decide) (fun c124 => ?_) (fun c124 => absurd c124 (fun z => z (Int32.le_refl _)))
              refine jx_iconst (pc := 154) (v := 0) d_R_copy_154 (by decide) ?_
              refine jx_istore6 (pc := 155) d_R_copy_155 rfl (Nat.le_of_ble_eq_true rfl) ?_
              rotate_left
              refine loop2 t 0 M2 (by omega) f0 (fun b hb => hl b (by omega)) ?_
              have hE : s_sh s (g_fo s) (g_si s) (cpI (g_it s) q x p y 0) = s := by
                have : cpI (g_it s) q x p y 0 = g_it s := by funext z w; unfold cpI; rw [if_neg (fun v => absurd v.2 (by omega))]
                rw [this]; rfl
              rw [hE]
              exact ScrR.rep ⟨fun b hb => hl b (by unfold PR at hb; omega), fun z _ => by rw [hl 79 (by omega)]⟩ hR
            | succ r ih =>
              intro t M2 ht f0 hl
              have et : (nI t).toNatClampNeg = t := nI_cl (by omega)
              have e3 : (48 : Int32) * nI q + nI x + nI t = nI (48 * q + (x + t)) := by rw [x48, nI_add, Nat.add_assoc]
              have e4 : ((48 : Int32) * nI q + nI x + nI t).toNatClampNeg = 48 * q + (x + t) := by rw [e3]; exact nI_cl (by omega)
              have hv3 : vp_in ((48 : Int32) * nI q + nI x + nI t) 192 := by rw [e3]; exact vp_in_nI (by omega) (by omega)
              refine jx_iload6 (pc := 120) d_R_copy_120 ?_
              refine jx_iload5 (pc := 122) d_R_copy_122 ?_
              refine jx_icmp_ge (pc := 124) 154 d_R_copy_124 (by decide) (fun c124 => absurd c124 (nI_ge (by omega) (by omega))) (fun c124 => ?_)
              refine jx_aload0 (pc := 127) d_R_copy_127 ?_
              refine jx_getR (pc := 128) gf_R_80 d_R_copy_128 ad_79 sh_79 rfl ?_
              refine jx_iload6 (pc := 131) d_R_copy_131 ?_
              refine jx_aload0 (pc := 133) d_R_copy_133 ?_
              refine jx_getR (pc := 134) gf_R_77 d_R_copy_134 ad_79 sh_79 rfl ?_
              refine jx_bipush (pc := 137) (v := 48) d_R_copy_137 (by decide) ?_
              refine jx_iload1 (pc := 139) d_R_copy_139 ?_
              refine jx_imul (pc := 140) d_R_copy_140 ?_
              refine jx_iload2 (pc := 141) d_R_copy_141 ?_
              refine jx_iadd (pc := 142) d_R_copy_142 ?_
              refine jx_iload6 (pc := 143) d_R_copy_143 ?_
              refine jx_iadd (pc := 145) d_R_copy_145 ?_
              refine jx_iald (pc := 146) d_R_copy_146 ad_102 sh_102 hv3 ?_
              refine jx_iast (pc := 147) d_R_copy_147 ad_103 sh_103 (vp_in_nI (by omega) (by omega)) ?_
              refine jx_iinc6 (pc := 148) d_R_copy_148 rfl (Nat.le_of_ble_eq_true rfl) ?_
              refine jx_goto (pc := 151) 120 d_R_copy_151 (by decide) ?_
              rotate_left
              rw [nI_add1, et, e4, hl 102 (by omega), q4 (x + t) (by omega)]
              refine ih (t + 1) _ (by omega) (fun z hz => ?_) (fun b hb => by rw [j_set_n _ _ _ hb]; exact hl b hb)
              rw [j_set_s]; unfold upd
              by_cases hc : z = t
              · rw [if_pos hc, hc]
              · rw [if_neg hc]; exact f0 z (by omega)
          refine jx_iload1 (pc := 0) d_R_copy_0 ?_
          refine jx_callS1 (pc := 1) (d' := 1) so_R_isSheet lk_R_135 d_R_copy_1 (by omega) (Nat.le_of_ble_eq_true rfl) ?_
          refine c_R_isSheet ?_
          refine jx_r1 ?_
          refine jx_if_eq (pc := 4) 14 d_R_copy_4 (by decide) (fun c4 => absurd c4 (z01p hb.1)) (fun c4 => ?_)
          refine jx_iload3 (pc := 7) d_R_copy_7 ?_
          refine jx_callS1 (pc := 8) (d' := 1) so_R_isSheet lk_R_135 d_R_copy_8 (by omega) (Nat.le_of_ble_eq_true rfl) ?_
          refine c_R_isSheet ?_
          refine jx_r1 ?_
          refine jx_if_ne (pc := 11) 17 d_R_copy_11 (by decide) (fun c11 => ?_) (fun c11 => absurd c11 (z01p hb.2))
          refine jx_aload0 (pc := 17) d_R_copy_17 ?_
          refine jx_getR (pc := 18) gf_R_68 d_R_copy_18 ad_79 sh_79 rfl ?_
          refine jx_iload1 (pc := 21) d_R_copy_21 ?_
          refine jx_zald (pc := 22) d_R_copy_22 ad_99 sh_99 hvq ?_
          refine jx_if_eq (pc := 23) 35 d_R_copy_23 (by decide) (fun c23 => absurd c23 hLq) (fun c23 => ?_)
          refine jx_aload0 (pc := 26) d_R_copy_26 ?_
          refine jx_getR (pc := 27) gf_R_68 d_R_copy_27 ad_79 sh_79 rfl ?_
          refine jx_iload3 (pc := 30) d_R_copy_30 ?_
          refine jx_zald (pc := 31) d_R_copy_31 ad_99 sh_99 hvp ?_
          refine jx_if_ne (pc := 32) 41 d_R_copy_32 (by decide) (fun c32 => ?_) (fun c32 => absurd c32 hLp)
          refine jx_aload0 (pc := 41) d_R_copy_41 ?_
          refine jx_getR (pc := 42) gf_R_71 d_R_copy_42 ad_79 sh_79 rfl ?_
          refine jx_iload1 (pc := 45) d_R_copy_45 ?_
          refine jx_iald (pc := 46) d_R_copy_46 ad_100 sh_100 hvq ?_
          refine jx_aload0 (pc := 47) d_R_copy_47 ?_
          refine jx_getR (pc := 48) gf_R_71 d_R_copy_48 ad_79 sh_79 rfl ?_
          refine jx_iload3 (pc := 51) d_R_copy_51 ?_
          refine jx_iald (pc := 52) d_R_copy_52 ad_100 sh_100 hvp ?_
          refine jx_icmp_eq (pc := 53) 62 d_R_copy_53 (by decide) (fun c53 => ?_) (fun c53 => absurd c53 (fun z => z hLf))
          refine jx_iload2 (pc := 62) d_R_copy_62 ?_
          refine jx_if_lt (pc := 63) 111 d_R_copy_63 (by decide) (fun c63 => absurd c63 (Int32.not_lt.mpr u1)) (fun c63 => ?_)
          refine jx_iload4 (pc := 66) d_R_copy_66 ?_
          refine jx_if_lt (pc := 68) 111 d_R_copy_68 (by decide) (fun c68 => absurd c68 (Int32.not_lt.mpr v1)) (fun c68 => ?_)
          refine jx_iload5 (pc := 71) d_R_copy_71 ?_
          refine jx_if_lt (pc := 73) 111 d_R_copy_73 (by decide) (fun c73 => absurd c73 (Int32.not_lt.mpr u2)) (fun c73 => ?_)
          refine jx_iload2 (pc := 76) d_R_copy_76 ?_
          refine jx_i2l (pc := 77) d_R_copy_77 ?_
          refine jx_iload5 (pc := 78) d_R_copy_78 ?_
          refine jx_i2l (pc := 80) d_R_copy_80 ?_
          refine jx_ladd (pc := 81) d_R_copy_81 ?_
          refine jx_aload0 (pc := 82) d_R_copy_82 ?_
          refine jx_getR (pc := 83) gf_R_74 d_R_copy_83 ad_79 sh_79 rfl ?_
          refine jx_iload1 (pc := 86) d_R_copy_86 ?_
          refine jx_iald (pc := 87) d_R_copy_87 ad_101 sh_101 hvq ?_
          refine jx_i2l (pc := 88) d_R_copy_88 ?_
          refine jx_lcmp (pc := 89) d_R_copy_89 ?_
          refine jx_if_gt (pc := 90) 111 d_R_copy_90 (by decide) (fun c90 => absurd c90 (fun z => absurd ((lg_cmp_gt _ _).mp z) (Int64.not_lt.mpr w1))) (fun c90 => ?_)
          refine jx_iload4 (pc := 93) d_R_copy_93 ?_
          refine jx_i2l (pc := 95) d_R_copy_95 ?_
          refine jx_iload5 (pc := 96) d_R_copy_96 ?_
          refine jx_i2l (pc := 98) d_R_copy_98 ?_
          refine jx_ladd (pc := 99) d_R_copy_99 ?_
          refine jx_aload0 (pc := 100) d_R_copy_100 ?_
          refine jx_getR (pc := 101) gf_R_74 d_R_copy_101 ad_79 sh_79 rfl ?_
          refine jx_iload3 (pc := 104) d_R_copy_104 ?_
          refine jx_iald (pc := 105) d_R_copy_105 ad_101 sh_101 hvp ?_
          refine jx_i2l (pc := 106) d_R_copy_106 ?_
          refine jx_lcmp (pc := 107) d_R_copy_107 ?_
          refine jx_if_le (pc := 108) 117 d_R_copy_108 (by decide) (fun c108 => ?_) (fun c108 => absurd c108 (fun z => z ((lg_cmp_le _ _).mpr w2)))
          refine jx_iconst (pc := 117) (v := 0) d_R_copy_117 (by decide) ?_
          refine jx_istore6 (pc := 118) d_R_copy_118 rfl (Nat.le_of_ble_eq_true rfl) ?_
          rotate_left
          exact loop1 m 0 M (by omega) (fun z hz => absurd hz (by omega)) (fun _ _ => rfl)
        · have hr : r_copy s (nI q) i (nI p) j n = -10 - 2 := by unfold r_copy; rw [if_pos hb, ea, eb, if_neg h9, if_pos hf, if_neg hrun]
          have hnx : n_copy s (nI q) i (nI p) j n = s_fi s 2 := by unfold n_copy; rw [if_pos hb, ea, eb, if_neg h9, if_pos hf, if_neg hrun]
          rw [hr, hnx] at k
          refine jx_iload1 (pc := 0) d_R_copy_0 ?_
          refine jx_callS1 (pc := 1) (d' := 1) so_R_isSheet lk_R_135 d_R_copy_1 (by omega) (Nat.le_of_ble_eq_true rfl) ?_
          refine c_R_isSheet ?_
          refine jx_r1 ?_
          refine jx_if_eq (pc := 4) 14 d_R_copy_4 (by decide) (fun c4 => absurd c4 (z01p hb.1)) (fun c4 => ?_)
          refine jx_iload3 (pc := 7) d_R_copy_7 ?_
          refine jx_callS1 (pc := 8) (d' := 1) so_R_isSheet lk_R_135 d_R_copy_8 (by omega) (Nat.le_of_ble_eq_true rfl) ?_
          refine c_R_isSheet ?_
          refine jx_r1 ?_
          refine jx_if_ne (pc := 11) 17 d_R_copy_11 (by decide) (fun c11 => ?_) (fun c11 => absurd c11 (z01p hb.2))
          refine jx_aload0 (pc := 17) d_R_copy_17 ?_
          refine jx_getR (pc := 18) gf_R_68 d_R_copy_18 ad_79 sh_79 rfl ?_
          refine jx_iload1 (pc := 21) d_R_copy_21 ?_
          refine jx_zald (pc := 22) d_R_copy_22 ad_99 sh_99 hvq ?_
          refine jx_if_eq (pc := 23) 35 d_R_copy_23 (by decide) (fun c23 => absurd c23 hLq) (fun c23 => ?_)
          refine jx_aload0 (pc := 26) d_R_copy_26 ?_
          refine jx_getR (pc := 27) gf_R_68 d_R_copy_27 ad_79 sh_79 rfl ?_
          refine jx_iload3 (pc := 30) d_R_copy_30 ?_
          refine jx_zald (pc := 31) d_R_copy_31 ad_99 sh_99 hvp ?_
          refine jx_if_ne (pc := 32) 41 d_R_copy_32 (by decide) (fun c32 => ?_) (fun c32 => absurd c32 hLp)
          refine jx_aload0 (pc := 41) d_R_copy_41 ?_
          refine jx_getR (pc := 42) gf_R_71 d_R_copy_42 ad_79 sh_79 rfl ?_
          refine jx_iload1 (pc := 45) d_R_copy_45 ?_
          refine jx_iald (pc := 46) d_R_copy_46 ad_100 sh_100 hvq ?_
          refine jx_aload0 (pc := 47) d_R_copy_47 ?_
          refine jx_getR (pc := 48) gf_R_71 d_R_copy_48 ad_79 sh_79 rfl ?_
          refine jx_iload3 (pc := 51) d_R_copy_51 ?_
          refine jx_iald (pc := 52) d_R_copy_52 ad_100 sh_100 hvp ?_
          refine jx_icmp_eq (pc := 53) 62 d_R_copy_53 (by decide) (fun c53 => ?_) (fun c53 => absurd c53 (fun z => z hLf))
          refine jx_iload2 (pc := 62) d_R_copy_62 ?_
          refine jx_if_lt (pc := 63) 111 d_R_copy_63 (by decide) (fun c63 => ?_) (fun c63 => ?_)
          refine jx_aload0 (pc := 111) d_R_copy_111 ?_
          refine jx_iconst (pc := 112) (v := 2) d_R_copy_112 (by decide) ?_
          refine jx_callV1 (pc := 113) (d' := 0) vo_R_meets lk_R_138 d_R_copy_113 ad_79 sh_79 rfl (by omega) (Nat.le_of_ble_eq_true rfl) ?_
          refine c_R_meets ?_
          refine jx_r1 ?_
          refine jx_iret (pc := 116) hX rfl d_R_copy_116 ?_
          rotate_left
          refine jx_iload4 (pc := 66) d_R_copy_66 ?_
          refine jx_if_lt (pc := 68) 111 d_R_copy_68 (by decide) (fun c68 => ?_) (fun c68 => ?_)
          refine jx_aload0 (pc := 111) d_R_copy_111 ?_
          refine jx_iconst (pc := 112) (v := 2) d_R_copy_112 (by decide) ?_
          refine jx_callV1 (pc := 113) (d' := 0) vo_R_meets lk_R_138 d_R_copy_113 ad_79 sh_79 rfl (by omega) (Nat.le_of_ble_eq_true rfl) ?_
          refine c_R_meets ?_
          refine jx_r1 ?_
          refine jx_iret (pc := 116) hX rfl d_R_copy_116 ?_
          rotate_left
          refine jx_iload5 (pc := 71) d_R_copy_71 ?_
          refine jx_if_lt (pc := 73) 111 d_R_copy_73 (by decide) (fun c73 => ?_) (fun c73 => ?_)
          refine jx_aload0 (pc := 111) d_R_copy_111 ?_
          refine jx_iconst (pc := 112) (v := 2) d_R_copy_112 (by decide) ?_
          refine jx_callV1 (pc := 113) (d' := 0) vo_R_meets lk_R_138 d_R_copy_113 ad_79 sh_79 rfl (by omega) (Nat.le_of_ble_eq_true rfl) ?_
          refine c_R_meets ?_
          refine jx_r1 ?_
          refine jx_iret (pc := 116) hX rfl d_R_copy_116 ?_
          rotate_left
          refine jx_iload2 (pc := 76) d_R_copy_76 ?_
          refine jx_i2l (pc := 77) d_R_copy_77 ?_
          refine jx_iload5 (pc := 78) d_R_copy_78 ?_
          refine jx_i2l (pc := 80) d_R_copy_80 ?_
          refine jx_ladd (pc := 81) d_R_copy_81 ?_
          refine jx_aload0 (pc := 82) d_R_copy_82 ?_
          refine jx_getR (pc := 83) gf_R_74 d_R_copy_83 ad_79 sh_79 rfl ?_
          refine jx_iload1 (pc := 86) d_R_copy_86 ?_
          refine jx_iald (pc := 87) d_R_copy_87 ad_101 sh_101 hvq ?_
          refine jx_i2l (pc := 88) d_R_copy_88 ?_
          refine jx_lcmp (pc := 89) d_R_copy_89 ?_
          refine jx_if_gt (pc := 90) 111 d_R_copy_90 (by decide) (fun c90 => ?_) (fun c90 => ?_)
          refine jx_aload0 (pc := 111) d_R_copy_111 ?_
          refine jx_iconst (pc := 112) (v := 2) d_R_copy_112 (by decide) ?_
          refine jx_callV1 (pc := 113) (d' := 0) vo_R_meets lk_R_138 d_R_copy_113 ad_79 sh_79 rfl (by omega) (Nat.le_of_ble_eq_true rfl) ?_
          refine c_R_meets ?_
          refine jx_r1 ?_
          refine jx_iret (pc := 116) hX rfl d_R_copy_116 ?_
          rotate_left
          refine jx_iload4 (pc := 93) d_R_copy_93 ?_
          refine jx_i2l (pc := 95) d_R_copy_95 ?_
          refine jx_iload5 (pc := 96) d_R_copy_96 ?_
          refine jx_i2l (pc := 98) d_R_copy_98 ?_
          refine jx_ladd (pc := 99) d_R_copy_99 ?_
          refine jx_aload0 (pc := 100) d_R_copy_100 ?_
          refine jx_getR (pc := 101) gf_R_74 d_R_copy_101 ad_79 sh_79 rfl ?_
          refine jx_iload3 (pc := 104) d_R_copy_104 ?_
          refine jx_iald (pc := 105) d_R_copy_105 ad_101 sh_101 hvp ?_
          refine jx_i2l (pc := 106) d_R_copy_106 ?_
          refine jx_lcmp (pc := 107) d_R_copy_107 ?_
          refine jx_if_le (pc := 108) 117 d_R_copy_108 (by decide) (fun c108 => ?_) (fun c108 => ?_)
          rotate_left
          refine jx_aload0 (pc := 111) d_R_copy_111 ?_
          refine jx_iconst (pc := 112) (v := 2) d_R_copy_112 (by decide) ?_
          refine jx_callV1 (pc := 113) (d' := 0) vo_R_meets lk_R_138 d_R_copy_113 ad_79 sh_79 rfl (by omega) (Nat.le_of_ble_eq_true rfl) ?_
          refine c_R_meets ?_
          refine jx_r1 ?_
          refine jx_iret (pc := 116) hX rfl d_R_copy_116 ?_
          rotate_left
          · exact k _ (hR.fi 2) lo_fi
          · exact k _ (hR.fi 2) lo_fi
          · exact k _ (hR.fi 2) lo_fi
          · exact k _ (hR.fi 2) lo_fi
          · refine absurd ?_ hrun
            have u1 := Int32.not_lt.mp c63
            have v1 := Int32.not_lt.mp c68
            have u2 := Int32.not_lt.mp c73
            have w1 := Int64.not_lt.mp (fun z => c90 ((lg_cmp_gt _ _).mpr z))
            have w2 := (lg_cmp_le _ _).mp c108
            obtain ⟨x, hx, rfl⟩ := nI_of (Int32.not_lt.mpr u1)
            obtain ⟨y, hy, rfl⟩ := nI_of (Int32.not_lt.mpr v1)
            obtain ⟨m, hm, rfl⟩ := nI_of (Int32.not_lt.mpr u2)
            rw [eq1, q3] at w1
            rw [ep1, p3] at w2
            refine ⟨⟨⟨u1, u2⟩, ?_⟩, ⟨⟨v1, u2⟩, ?_⟩⟩
            · rw [show cl (nI x) = x from nI_cl hx, show cl (nI m) = m from nI_cl hm]; exact (lsum hx hm hfq.2).mp w1
            · rw [show cl (nI y) = y from nI_cl hy, show cl (nI m) = m from nI_cl hm]; exact (lsum hy hm hfp.2).mp w2
          · exact k _ (hR.fi 2) lo_fi
      · have hr : r_copy s (nI q) i (nI p) j n = -10 - 4 := by unfold r_copy; rw [if_pos hb, ea, eb, if_neg h9, if_neg hf]
        have hnx : n_copy s (nI q) i (nI p) j n = s_fi s 4 := by unfold n_copy; rw [if_pos hb, ea, eb, if_neg h9, if_neg hf]
        rw [hr, hnx] at k
        have hLf : ¬ M 100 (nI q).toNatClampNeg = M 100 (nI p).toNatClampNeg := fun z => hf (Lf.mp z)
        refine jx_iload1 (pc := 0) d_R_copy_0 ?_
        refine jx_callS1 (pc := 1) (d' := 1) so_R_isSheet lk_R_135 d_R_copy_1 (by omega) (Nat.le_of_ble_eq_true rfl) ?_
        refine c_R_isSheet ?_
        refine jx_r1 ?_
        refine jx_if_eq (pc := 4) 14 d_R_copy_4 (by decide) (fun c4 => absurd c4 (z01p hb.1)) (fun c4 => ?_)
        refine jx_iload3 (pc := 7) d_R_copy_7 ?_
        refine jx_callS1 (pc := 8) (d' := 1) so_R_isSheet lk_R_135 d_R_copy_8 (by omega) (Nat.le_of_ble_eq_true rfl) ?_
        refine c_R_isSheet ?_
        refine jx_r1 ?_
        refine jx_if_ne (pc := 11) 17 d_R_copy_11 (by decide) (fun c11 => ?_) (fun c11 => absurd c11 (z01p hb.2))
        refine jx_aload0 (pc := 17) d_R_copy_17 ?_
        refine jx_getR (pc := 18) gf_R_68 d_R_copy_18 ad_79 sh_79 rfl ?_
        refine jx_iload1 (pc := 21) d_R_copy_21 ?_
        refine jx_zald (pc := 22) d_R_copy_22 ad_99 sh_99 hvq ?_
        refine jx_if_eq (pc := 23) 35 d_R_copy_23 (by decide) (fun c23 => absurd c23 hLq) (fun c23 => ?_)
        refine jx_aload0 (pc := 26) d_R_copy_26 ?_
        refine jx_getR (pc := 27) gf_R_68 d_R_copy_27 ad_79 sh_79 rfl ?_
        refine jx_iload3 (pc := 30) d_R_copy_30 ?_
        refine jx_zald (pc := 31) d_R_copy_31 ad_99 sh_99 hvp ?_
        refine jx_if_ne (pc := 32) 41 d_R_copy_32 (by decide) (fun c32 => ?_) (fun c32 => absurd c32 hLp)
        refine jx_aload0 (pc := 41) d_R_copy_41 ?_
        refine jx_getR (pc := 42) gf_R_71 d_R_copy_42 ad_79 sh_79 rfl ?_
        refine jx_iload1 (pc := 45) d_R_copy_45 ?_
        refine jx_iald (pc := 46) d_R_copy_46 ad_100 sh_100 hvq ?_
        refine jx_aload0 (pc := 47) d_R_copy_47 ?_
        refine jx_getR (pc := 48) gf_R_71 d_R_copy_48 ad_79 sh_79 rfl ?_
        refine jx_iload3 (pc := 51) d_R_copy_51 ?_
        refine jx_iald (pc := 52) d_R_copy_52 ad_100 sh_100 hvp ?_
        refine jx_icmp_eq (pc := 53) 62 d_R_copy_53 (by decide) (fun c53 => absurd c53 hLf) (fun c53 => ?_)
        refine jx_aload0 (pc := 56) d_R_copy_56 ?_
        refine jx_iconst (pc := 57) (v := 4) d_R_copy_57 (by decide) ?_
        refine jx_callV1 (pc := 58) (d' := 0) vo_R_meets lk_R_138 d_R_copy_58 ad_79 sh_79 rfl (by omega) (Nat.le_of_ble_eq_true rfl) ?_
        refine c_R_meets ?_
        refine jx_r1 ?_
        refine jx_iret (pc := 61) hX rfl d_R_copy_61 ?_
        rotate_left
        exact k _ (hR.fi 4) lo_fi
  · have hr : r_copy s a i b j n = -2 := by unfold r_copy; rw [if_neg hb]
    have hnx : n_copy s a i b j n = s := by unfold n_copy; rw [if_neg hb]
    rw [hr, hnx] at k
    refine jx_iload1 (pc := 0) d_R_copy_0 ?_
    refine jx_callS1 (pc := 1) (d' := 1) so_R_isSheet lk_R_135 d_R_copy_1 (by omega) (Nat.le_of_ble_eq_true rfl) ?_
    refine c_R_isSheet ?_
    refine jx_r1 ?_
    refine jx_if_eq (pc := 4) 14 d_R_copy_4 (by decide) (fun c4 => ?_) (fun c4 => ?_)
    refine jx_bipush (pc := 14) (v := (-2)) d_R_copy_14 (by decide) ?_
    refine jx_iret (pc := 16) hX rfl d_R_copy_16 ?_
    rotate_left
    refine jx_iload3 (pc := 7) d_R_copy_7 ?_
    refine jx_callS1 (pc := 8) (d' := 1) so_R_isSheet lk_R_135 d_R_copy_8 (by omega) (Nat.le_of_ble_eq_true rfl) ?_
    refine c_R_isSheet ?_
    refine jx_r1 ?_
    refine jx_if_ne (pc := 11) 17 d_R_copy_11 (by decide) (fun c11 => ?_) (fun c11 => ?_)
    rotate_left
    refine jx_bipush (pc := 14) (v := (-2)) d_R_copy_14 (by decide) ?_
    refine jx_iret (pc := 16) hX rfl d_R_copy_16 ?_
    rotate_left
    · exact k M hR (fun _ _ => rfl)
    · exact absurd ⟨z01n c4, z01n c11⟩ hb
    · exact k M hR (fun _ _ => rfl)
