/-! OPERATIONS of the component, one -/
theorem z01 {P : Prop} [Decidable P] : ((if P then (1 : Int32) else 0) = 0) ↔ ¬ P := by
  constructor
  · intro h hp; rw [if_pos hp] at h; exact absurd h (by decide)
  · intro h; rw [if_neg h]
theorem z01n {P : Prop} [Decidable P] (h : ¬ ((if P then (1 : Int32) else 0) = 0)) : P := Decidable.not_not.mp (fun q => h (z01.mpr q))
theorem z01p {P : Prop} [Decidable P] (h : P) : ¬ ((if P then (1 : Int32) else 0) = 0) := fun q => z01.mp q h
theorem c_J_good {d : Nat} {h t : Int32} {s : Sg} {M : j_M} {Q : Option Value → j_M → Prop} (hw : WF s) (hR : RepC s M) (k : Q (some (.int (r_good s h t))) M) : j_Ct (d + 1) I_J_good [.ref 0, .int h, .int t] M Q := by
  refine j_met (by decide +kernel) co_J_good (Nat.le_of_ble_eq_true rfl) (fun X hX => ?_)
  show j_W (d + 1) I_J_good X 0 [some (.ref 0), some (.int h), some (.int t)] [] M
  obtain ⟨h1, h2, h3, h4, h5⟩ := id hR.1
  have hn6 : g_hn s ≤ 6 := hnB_le hw.1
  by_cases hb : (0 ≤ h ∧ h < nI (g_hn s)) ∧ (0 ≤ t ∧ t < 3)
  · have hp1 : 0 ≤ h ∧ h < M 1 3 := by rw [h2]; exact hb.1
    obtain ⟨a, ha, rfl⟩ := in_of (by omega) hb.1.1 hb.1.2
    obtain ⟨b, hbt, rfl⟩ := in_of (n := 3) (by omega) hb.2.1 hb.2.2
    have e3 : nI a * 3 + nI b = nI (3 * a + b) := by rw [show (3 : Int32) = nI 3 from rfl, nI_mul, nI_add, Nat.mul_comm]
    have v3 : vp_in (nI a * 3 + nI b) 18 := by rw [e3]; exact vp_in_nI (by omega) (by omega)
    have hr : r_good s (nI a) (nI b) = nI (gdB (g_nb s) (g_tx s) a b) := by unfold r_good; rw [if_pos hb, show cl (nI a) = a from nI_cl (by omega), show cl (nI b) = b from nI_cl (by omega)]
    refine jx_aload0 (pc := 0) d_J_good_0 ?_
    refine jx_getR (pc := 1) gf_J_12 d_J_good_1 ad_0 sh_0 rfl ?_
    refine jx_iload1 (pc := 4) d_J_good_4 ?_
    refine jx_callV1 (pc := 5) (d' := 0) vo_He_has lk_J_101 d_J_good_5 ad_1 sh_1 rfl (by omega) (Nat.le_of_ble_eq_true rfl) ?_
    refine c_He_has ?_
    refine jx_r1 ?_
    refine jx_if_eq (pc := 8) 18 d_J_good_8 (by decide) (fun c8 => absurd c8 (z01p hp1)) (fun c8 => ?_)
    refine jx_iload2 (pc := 11) d_J_good_11 ?_
    refine jx_callS1 (pc := 12) (d' := 0) so_J_isThing lk_J_105 d_J_good_12 (by omega) (Nat.le_of_ble_eq_true rfl) ?_
    refine c_J_isThing ?_
    refine jx_r1 ?_
    refine jx_if_ne (pc := 15) 21 d_J_good_15 (by decide) (fun c15 => ?_) (fun c15 => absurd c15 (z01p hb.2))
    refine jx_aload0 (pc := 21) d_J_good_21 ?_
    refine jx_getR (pc := 22) gf_J_12 d_J_good_22 ad_0 sh_0 rfl ?_
    refine jx_getR (pc := 25) gf_J_108 d_J_good_25 ad_1 sh_1 rfl ?_
    refine jx_iload1 (pc := 28) d_J_good_28 ?_
    refine jx_iconst (pc := 29) (v := 3) d_J_good_29 (by decide) ?_
    refine jx_imul (pc := 30) d_J_good_30 ?_
    refine jx_iload2 (pc := 31) d_J_good_31 ?_
    refine jx_iadd (pc := 32) d_J_good_32 ?_
    refine jx_iald (pc := 33) d_J_good_33 ad_3 sh_3 (by first | assumption | exact vp_in_nI (by omega) (by omega)) ?_
    refine jx_iret (pc := 34) hX rfl d_J_good_34 ?_
    rotate_left
    rw [hr] at k
    rw [e3, nI_cl (n := 3 * a + b) (by omega), h5 a b ha hbt]
    exact k
  · have hr : r_good s h t = -2 := by unfold r_good; rw [if_neg hb]
    rw [hr] at k
    refine jx_aload0 (pc := 0) d_J_good_0 ?_
    refine jx_getR (pc := 1) gf_J_12 d_J_good_1 ad_0 sh_0 rfl ?_
    refine jx_iload1 (pc := 4) d_J_good_4 ?_
    refine jx_callV1 (pc := 5) (d' := 0) vo_He_has lk_J_101 d_J_good_5 ad_1 sh_1 rfl (by omega) (Nat.le_of_ble_eq_true rfl) ?_
    refine c_He_has ?_
    refine jx_r1 ?_
    refine jx_if_eq (pc := 8) 18 d_J_good_8 (by decide) (fun c8 => ?_) (fun c8 => ?_)
    refine jx_bipush (pc := 18) (v := (-2)) d_J_good_18 (by decide) ?_
    refine jx_iret (pc := 20) hX rfl d_J_good_20 ?_
    rotate_left
    refine jx_iload2 (pc := 11) d_J_good_11 ?_
    refine jx_callS1 (pc := 12) (d' := 0) so_J_isThing lk_J_105 d_J_good_12 (by omega) (Nat.le_of_ble_eq_true rfl) ?_
    refine c_J_isThing ?_
    refine jx_r1 ?_
    refine jx_if_ne (pc := 15) 21 d_J_good_15 (by decide) (fun c15 => ?_) (fun c15 => ?_)
    rotate_left
    refine jx_bipush (pc := 18) (v := (-2)) d_J_good_18 (by decide) ?_
    refine jx_iret (pc := 20) hX rfl d_J_good_20 ?_
    rotate_left
    · exact k
    · have g1 := z01n c8
      rw [h2] at g1
      exact absurd ⟨g1, z01n c15⟩ hb
    · exact k
abbrev okTaste (dog t v : Int32) : Prop := (0 ≤ dog ∧ dog < 2) ∧ (0 ≤ t ∧ t < 3) ∧ 0 ≤ v ∧ v ≤ 9
abbrev okSet (w v : Int32) : Prop := (0 ≤ w ∧ w < 5) ∧ 0 ≤ v ∧ v ≤ j_wm (cl w)
abbrev okVis (d h t : Int32) : Prop := (0 ≤ d ∧ d < 30) ∧ (0 ≤ h ∧ h < 6) ∧ (0 ≤ t ∧ t < 3)
def r_taste (s : Sg) (dog t v : Int32) : Int32 := if okTaste dog t v then nI (g_ta s (cl dog) (cl t)) else -2
def n_taste (s : Sg) (dog t v : Int32) : Sg := if okTaste dog t v then s_ta s (upT (g_ta s) (cl dog) (cl t) (cl v)) else s
def r_set (s : Sg) (w v : Int32) : Int32 := if okSet w v then nI (g_wy s (cl w)) else -2
def n_set (s : Sg) (w v : Int32) : Sg := if okSet w v then s_wy s (upN (g_wy s) (cl w) (cl v)) else s
def r_visit (s : Sg) (d h t : Int32) : Int32 := if okVis d h t then (if g_nv s < 24 then nI (g_nv s + 1) else -4) else -2
def n_visit (s : Sg) (d h t : Int32) : Sg := if okVis d h t ∧ g_nv s < 24 then s_vi s (g_nv s + 1) (upN (g_vd s) (g_nv s) (cl d)) (upN (g_vh s) (g_nv s) (cl h)) (upN (g_vt s) (g_nv s) (cl t)) else s
def r_back (s : Sg) : Int32 := if g_nv s = 0 then -3 else nI (g_nv s - 1)
def n_back (s : Sg) : Sg := if g_nv s = 0 then s else s_vi s (g_nv s - 1) (g_vd s) (g_vh s) (g_vt s)
theorem c_J_taste {d : Nat} {dog t v : Int32} {s : Sg} {M : j_M} {Q : Option Value → j_M → Prop} (hR : RepC s M) (k : ∀ M', RepC (n_taste s dog t v) M' → Hi M M' → Q (some (.int (r_taste s dog t v))) M') : j_Ct (d + 1) I_J_taste [.ref 0, .int dog, .int t, .int v] M Q := by
  refine j_met (by decide +kernel) co_J_taste (Nat.le_of_ble_eq_true rfl) (fun X hX => ?_)
  show j_W (d + 1) I_J_taste X 0 [some (.ref 0), some (.int dog), some (.int t), some (.int v), none] [] M
  by_cases hb : okTaste dog t v
  · have hr : r_taste s dog t v = nI (g_ta s (cl dog) (cl t)) := by unfold r_taste; rw [if_pos hb]
    have hnx : n_taste s dog t v = s_ta s (upT (g_ta s) (cl dog) (cl t) (cl v)) := by unfold n_taste; rw [if_pos hb]
    rw [hr, hnx] at k
    have hb0 := hb
    obtain ⟨g1, g2, g3, g4⟩ := hb
    obtain ⟨a, ha, rfl⟩ := in_of (n := 2) (by omega) g1.1 g1.2
    obtain ⟨b, hbt, rfl⟩ := in_of (n := 3) (by omega) g2.1 g2.2
    obtain ⟨c, hc, rfl⟩ := le_of (n := 9) (by omega) g3 g4
    have hta := ta_a ha
    have hsh := ta_s ha
    have ea : cl (nI a) = a := nI_cl (by omega)
    have eb : cl (nI b) = b := nI_cl (by omega)
    have ec : cl (nI c) = c := nI_cl (by omega)
    refine jx_iload1 (pc := 0) d_J_taste_0 ?_
    refine jx_callS1 (pc := 1) (d' := 0) so_J_isDog lk_J_111 d_J_taste_1 (by omega) (Nat.le_of_ble_eq_true rfl) ?_
    refine c_J_isDog ?_
    refine jx_r1 ?_
    refine jx_if_eq (pc := 4) 24 d_J_taste_4 (by decide) (fun c4 => absurd c4 (z01p g1)) (fun c4 => ?_)
    refine jx_iload2 (pc := 7) d_J_taste_7 ?_
    refine jx_callS1 (pc := 8) (d' := 0) so_J_isThing lk_J_105 d_J_taste_8 (by omega) (Nat.le_of_ble_eq_true rfl) ?_
    refine c_J_isThing ?_
    refine jx_r1 ?_
    refine jx_if_eq (pc := 11) 24 d_J_taste_11 (by decide) (fun c11 => absurd c11 (z01p g2)) (fun c11 => ?_)
    refine jx_iload3 (pc := 14) d_J_taste_14 ?_
    refine jx_if_lt (pc := 15) 24 d_J_taste_15 (by decide) (fun c15 => absurd c15 (Int32.not_lt.mpr g3)) (fun c15 => ?_)
    refine jx_iload3 (pc := 18) d_J_taste_18 ?_
    refine jx_bipush (pc := 19) (v := 9) d_J_taste_19 (by decide) ?_
    refine jx_icmp_le (pc := 21) 27 d_J_taste_21 (by decide) (fun c21 => ?_) (fun c21 => absurd c21 (fun q => q g4))
    refine jx_aload0 (pc := 27) d_J_taste_27 ?_
    refine jx_getR (pc := 28) gf_J_28 d_J_taste_28 ad_0 sh_0 rfl ?_
    refine jx_iload1 (pc := 31) d_J_taste_31 ?_
    refine jx_aald (pc := 32) d_J_taste_32 ad_11 (Or.inr rfl) sh_11 (vp_in_nI ha (by omega)) (ta_r ha) ?_
    refine jx_iload2 (pc := 33) d_J_taste_33 ?_
    refine jx_iald (pc := 34) d_J_taste_34 hta hsh (vp_in_nI hbt (by omega)) ?_
    refine jx_istore4 (pc := 35) d_J_taste_35 rfl (Nat.le_of_ble_eq_true rfl) ?_
    refine jx_aload0 (pc := 37) d_J_taste_37 ?_
    refine jx_getR (pc := 38) gf_J_28 d_J_taste_38 ad_0 sh_0 rfl ?_
    refine jx_iload1 (pc := 41) d_J_taste_41 ?_
    refine jx_aald (pc := 42) d_J_taste_42 ad_11 (Or.inr rfl) sh_11 (vp_in_nI ha (by omega)) (ta_r ha) ?_
    refine jx_iload2 (pc := 43) d_J_taste_43 ?_
    refine jx_iload3 (pc := 44) d_J_taste_44 ?_
    refine jx_iast (pc := 45) d_J_taste_45 hta hsh (vp_in_nI hbt (by omega)) ?_
    refine jx_iload4 (pc := 46) d_J_taste_46 ?_
    refine jx_iret (pc := 48) hX rfl d_J_taste_48 ?_
    rotate_left
    rw [ea, eb, ec] at k
    rw [show (nI b).toNatClampNeg = b from eb, hR.2.1 a b ha hbt]
    refine k _ (hR.ta (fun d' t' hd' ht' => ?_) (fun q h1 h2 h3 => j_set_n _ _ _ (by omega))) (fun q hq => j_set_n _ _ _ (by omega))
    unfold upT
    by_cases hda : d' = a
    · subst hda
      rw [j_set_s]
      unfold upd
      by_cases hta2 : t' = b
      · rw [if_pos hta2, if_pos ⟨rfl, hta2⟩]
      · rw [if_neg hta2, if_neg (fun q => hta2 q.2)]; exact hR.2.1 d' t' hd' ht'
    · rw [j_set_n _ _ _ (by omega), if_neg (fun q => hda q.1)]; exact hR.2.1 d' t' hd' ht'
  · have hr : r_taste s dog t v = -2 := by unfold r_taste; rw [if_neg hb]
    have hnx : n_taste s dog t v = s := by unfold n_taste; rw [if_neg hb]
    rw [hr, hnx] at k
    refine jx_iload1 (pc := 0) d_J_taste_0 ?_
    refine jx_callS1 (pc := 1) (d' := 0) so_J_isDog lk_J_111 d_J_taste_1 (by omega) (Nat.le_of_ble_eq_true rfl) ?_
    refine c_J_isDog ?_
    refine jx_r1 ?_
    refine jx_if_eq (pc := 4) 24 d_J_taste_4 (by decide) (fun c4 => ?_) (fun c4 => ?_)
    refine jx_bipush (pc := 24) (v := (-2)) d_J_taste_24 (by decide) ?_
    refine jx_iret (pc := 26) hX rfl d_J_taste_26 ?_
    rotate_left
    refine jx_iload2 (pc := 7) d_J_taste_7 ?_
    refine jx_callS1 (pc := 8) (d' := 0) so_J_isThing lk_J_105 d_J_taste_8 (by omega) (Nat.le_of_ble_eq_true rfl) ?_
    refine c_J_isThing ?_
    refine jx_r1 ?_
    refine jx_if_eq (pc := 11) 24 d_J_taste_11 (by decide) (fun c11 => ?_) (fun c11 => ?_)
    refine jx_bipush (pc := 24) (v := (-2)) d_J_taste_24 (by decide) ?_
    refine jx_iret (pc := 26) hX rfl d_J_taste_26 ?_
    rotate_left
    refine jx_iload3 (pc := 14) d_J_taste_14 ?_
    refine jx_if_lt (pc := 15) 24 d_J_taste_15 (by decide) (fun c15 => ?_) (fun c15 => ?_)
    refine jx_bipush (pc := 24) (v := (-2)) d_J_taste_24 (by decide) ?_
    refine jx_iret (pc := 26) hX rfl d_J_taste_26 ?_
    rotate_left
    refine jx_iload3 (pc := 18) d_J_taste_18 ?_
    refine jx_bipush (pc := 19) (v := 9) d_J_taste_19 (by decide) ?_
    refine jx_icmp_le (pc := 21) 27 d_J_taste_21 (by decide) (fun c21 => ?_) (fun c21 => ?_)
    rotate_left
    refine jx_bipush (pc := 24) (v := (-2)) d_J_taste_24 (by decide) ?_
    refine jx_iret (pc := 26) hX rfl d_J_taste_26 ?_
    rotate_left
    · exact k M hR (fun _ _ => rfl)
    · exact k M hR (fun _ _ => rfl)
    · exact k M hR (fun _ _ => rfl)
    · exact absurd ⟨z01n c4, z01n c11, Int32.not_lt.mp c15, c21⟩ hb
    · exact k M hR (fun _ _ => rfl)
theorem c_J_set {d : Nat} {w v : Int32} {s : Sg} {M : j_M} {Q : Option Value → j_M → Prop} (hR : RepC s M) (k : ∀ M', RepC (n_set s w v) M' → Hi M M' → Q (some (.int (r_set s w v))) M') : j_Ct d I_J_set [.ref 0, .int w, .int v] M Q := by
  refine j_met (by decide +kernel) co_J_set (Nat.le_of_ble_eq_true rfl) (fun X hX => ?_)
  show j_W d I_J_set X 0 [some (.ref 0), some (.int w), some (.int v), none] [] M
  by_cases hb : okSet w v
  · have hr : r_set s w v = nI (g_wy s (cl w)) := by unfold r_set; rw [if_pos hb]
    have hnx : n_set s w v = s_wy s (upN (g_wy s) (cl w) (cl v)) := by unfold n_set; rw [if_pos hb]
    rw [hr, hnx] at k
    obtain ⟨g1, g3, g4⟩ := hb
    obtain ⟨a, ha, rfl⟩ := in_of (n := 5) (by omega) g1.1 g1.2
    have hv5 : vp_in (nI a) 5 := vp_in_nI ha (by omega)
    have ea : cl (nI a) = a := nI_cl (by omega)
    have hev : ∃ c : Nat, c < 2 ^ 31 ∧ v = nI c := nI_of (Int32.not_lt.mpr g3)
    obtain ⟨c, hc, rfl⟩ := hev
    have ec : cl (nI c) = c := nI_cl hc
    refine jx_iload1 (pc := 0) d_J_set_0 ?_
    refine jx_if_lt (pc := 1) 22 d_J_set_1 (by decide) (fun c1 => absurd c1 (Int32.not_lt.mpr g1.1)) (fun c1 => ?_)
    refine jx_iload1 (pc := 4) d_J_set_4 ?_
    refine jx_iconst (pc := 5) (v := 5) d_J_set_5 (by decide) ?_
    refine jx_icmp_ge (pc := 6) 22 d_J_set_6 (by decide) (fun c6 => absurd c6 (Int32.not_le.mpr g1.2)) (fun c6 => ?_)
    refine jx_iload2 (pc := 9) d_J_set_9 ?_
    refine jx_if_lt (pc := 10) 22 d_J_set_10 (by decide) (fun c10 => absurd c10 (Int32.not_lt.mpr g3)) (fun c10 => ?_)
    refine jx_iload2 (pc := 13) d_J_set_13 ?_
    refine jx_getsW (pc := 14) ls_J_114 d_J_set_14 ?_
    refine jx_iload1 (pc := 17) d_J_set_17 ?_
    refine jx_ialdW (pc := 18) d_J_set_18 hv5 ?_
    refine jx_icmp_le (pc := 19) 25 d_J_set_19 (by decide) (fun c19 => ?_) (fun c19 => absurd c19 (fun q => q g4))
    refine jx_aload0 (pc := 25) d_J_set_25 ?_
    refine jx_getR (pc := 26) gf_J_23 d_J_set_26 ad_0 sh_0 rfl ?_
    refine jx_iload1 (pc := 29) d_J_set_29 ?_
    refine jx_iald (pc := 30) d_J_set_30 ad_10 sh_10 hv5 ?_
    refine jx_istore3 (pc := 31) d_J_set_31 rfl (Nat.le_of_ble_eq_true rfl) ?_
    refine jx_aload0 (pc := 32) d_J_set_32 ?_
    refine jx_getR (pc := 33) gf_J_23 d_J_set_33 ad_0 sh_0 rfl ?_
    refine jx_iload1 (pc := 36) d_J_set_36 ?_
    refine jx_iload2 (pc := 37) d_J_set_37 ?_
    refine jx_iast (pc := 38) d_J_set_38 ad_10 sh_10 hv5 ?_
    refine jx_iload3 (pc := 39) d_J_set_39 ?_
    refine jx_iret (pc := 40) hX rfl d_J_set_40 ?_
    rotate_left
    rw [ea, ec] at k
    rw [show (nI a).toNatClampNeg = a from ea, hR.2.2.1 a ha]
    refine k _ (hR.wy (fun q hq => ?_) (fun q h1 h2 => j_set_n _ _ _ h1)) (fun q hq => j_set_n _ _ _ (by omega))
    rw [j_set_s]
    unfold upd upN
    by_cases hc2 : q = a
    · rw [if_pos hc2, if_pos hc2]
    · rw [if_neg hc2, if_neg hc2]; exact hR.2.2.1 q hq
  · have hr : r_set s w v = -2 := by unfold r_set; rw [if_neg hb]
    have hnx : n_set s w v = s := by unfold n_set; rw [if_neg hb]
    rw [hr, hnx] at k
    by_cases hw5 : 0 ≤ w ∧ w < 5
    · obtain ⟨a, ha, rfl⟩ := in_of (n := 5) (by omega) hw5.1 hw5.2
      have hv5 : vp_in (nI a) 5 := vp_in_nI ha (by omega)
      refine jx_iload1 (pc := 0) d_J_set_0 ?_
      refine jx_if_lt (pc := 1) 22 d_J_set_1 (by decide) (fun c1 => absurd c1 (Int32.not_lt.mpr hw5.1)) (fun c1 => ?_)
      refine jx_iload1 (pc := 4) d_J_set_4 ?_
      refine jx_iconst (pc := 5) (v := 5) d_J_set_5 (by decide) ?_
      refine jx_icmp_ge (pc := 6) 22 d_J_set_6 (by decide) (fun c6 => absurd c6 (Int32.not_le.mpr hw5.2)) (fun c6 => ?_)
      refine jx_iload2 (pc := 9) d_J_set_9 ?_
      refine jx_if_lt (pc := 10) 22 d_J_set_10 (by decide) (fun c10 => ?_) (fun c10 => ?_)
      refine jx_bipush (pc := 22) (v := (-2)) d_J_set_22 (by decide) ?_
      refine jx_iret (pc := 24) hX rfl d_J_set_24 ?_
      rotate_left
      refine jx_iload2 (pc := 13) d_J_set_13 ?_
      refine jx_getsW (pc := 14) ls_J_114 d_J_set_14 ?_
      refine jx_iload1 (pc := 17) d_J_set_17 ?_
      refine jx_ialdW (pc := 18) d_J_set_18 hv5 ?_
      refine jx_icmp_le (pc := 19) 25 d_J_set_19 (by decide) (fun c19 => ?_) (fun c19 => ?_)
      rotate_left
      refine jx_bipush (pc := 22) (v := (-2)) d_J_set_22 (by decide) ?_
      refine jx_iret (pc := 24) hX rfl d_J_set_24 ?_
      rotate_left
      · exact k M hR (fun _ _ => rfl)
      · exact absurd ⟨hw5, Int32.not_lt.mp c10, c19⟩ hb
      · exact k M hR (fun _ _ => rfl)
    · by_cases hw0 : w < 0
      · have hw1 := hw0
        refine jx_iload1 (pc := 0) d_J_set_0 ?_
        refine jx_if_lt (pc := 1) 22 d_J_set_1 (by decide) (fun c1 => ?_) (fun c1 => absurd c1 (fun q => q hw1))
        refine jx_bipush (pc := 22) (v := (-2)) d_J_set_22 (by decide) ?_
        refine jx_iret (pc := 24) hX rfl d_J_set_24 ?_
        rotate_left
        exact k M hR (fun _ _ => rfl)
      · have hw1 : 5 ≤ w := Int32.not_lt.mp (fun q => hw5 ⟨Int32.not_lt.mp hw0, q⟩)
        refine jx_iload1 (pc := 0) d_J_set_0 ?_
        refine jx_if_lt (pc := 1) 22 d_J_set_1 (by decide) (fun c1 => absurd c1 hw0) (fun c1 => ?_)
        refine jx_iload1 (pc := 4) d_J_set_4 ?_
        refine jx_iconst (pc := 5) (v := 5) d_J_set_5 (by decide) ?_
        refine jx_icmp_ge (pc := 6) 22 d_J_set_6 (by decide) (fun c6 => ?_) (fun c6 => absurd c6 (fun q => q hw1))
        refine jx_bipush (pc := 22) (v := (-2)) d_J_set_22 (by decide) ?_
        refine jx_iret (pc := 24) hX rfl d_J_set_24 ?_
        rotate_left
        exact k M hR (fun _ _ => rfl)
theorem c_J_visit {d : Nat} {dy h t : Int32} {s : Sg} {M : j_M} {Q : Option Value → j_M → Prop} (hw : WF s) (hR : RepC s M) (k : ∀ M', RepC (n_visit s dy h t) M' → Hi M M' → Q (some (.int (r_visit s dy h t))) M') : j_Ct (d + 1) I_J_visit [.ref 0, .int dy, .int h, .int t] M Q := by
  refine j_met (by decide +kernel) co_J_visit (Nat.le_of_ble_eq_true rfl) (fun X hX => ?_)
  show j_W (d + 1) I_J_visit X 0 [some (.ref 0), some (.int dy), some (.int h), some (.int t)] [] M
  have hV := hR.2.2.2.1
  have hnv : M 4 5 = nI (g_nv s) := hV.1
  by_cases hb : okVis dy h t
  · obtain ⟨g1, g2, g3⟩ := id hb
    by_cases hn : g_nv s < 24
    · have hr : r_visit s dy h t = nI (g_nv s + 1) := by unfold r_visit; rw [if_pos hb, if_pos hn]
      have hnx : n_visit s dy h t = s_vi s (g_nv s + 1) (upN (g_vd s) (g_nv s) (cl dy)) (upN (g_vh s) (g_nv s) (cl h)) (upN (g_vt s) (g_nv s) (cl t)) := by unfold n_visit; rw [if_pos ⟨hb, hn⟩]
      rw [hr, hnx] at k
      obtain ⟨a, ha, rfl⟩ := in_of (n := 30) (by omega) g1.1 g1.2
      obtain ⟨b, hbt, rfl⟩ := in_of (n := 6) (by omega) g2.1 g2.2
      obtain ⟨c, hc, rfl⟩ := in_of (n := 3) (by omega) g3.1 g3.2
      rw [show cl (nI a) = a from nI_cl (by omega), show cl (nI b) = b from nI_cl (by omega), show cl (nI c) = c from nI_cl (by omega)] at k
      refine jx_iload1 (pc := 0) d_J_visit_0 ?_
      refine jx_callS1 (pc := 1) (d' := 0) so_J_isDay lk_J_117 d_J_visit_1 (by omega) (Nat.le_of_ble_eq_true rfl) ?_
      refine c_J_isDay ?_
      refine jx_r1 ?_
      refine jx_if_eq (pc := 4) 24 d_J_visit_4 (by decide) (fun c4 => absurd c4 (z01p g1)) (fun c4 => ?_)
      refine jx_iload2 (pc := 7) d_J_visit_7 ?_
      refine jx_if_lt (pc := 8) 24 d_J_visit_8 (by decide) (fun c8 => absurd c8 (Int32.not_lt.mpr g2.1)) (fun c8 => ?_)
      refine jx_iload2 (pc := 11) d_J_visit_11 ?_
      refine jx_bipush (pc := 12) (v := 6) d_J_visit_12 (by decide) ?_
      refine jx_icmp_ge (pc := 14) 24 d_J_visit_14 (by decide) (fun c14 => absurd c14 (Int32.not_le.mpr g2.2)) (fun c14 => ?_)
      refine jx_iload3 (pc := 17) d_J_visit_17 ?_
      refine jx_callS1 (pc := 18) (d' := 0) so_J_isThing lk_J_105 d_J_visit_18 (by omega) (Nat.le_of_ble_eq_true rfl) ?_
      refine c_J_isThing ?_
      refine jx_r1 ?_
      refine jx_if_ne (pc := 21) 27 d_J_visit_21 (by decide) (fun c21 => ?_) (fun c21 => absurd c21 (z01p g3))
      refine jx_aload0 (pc := 27) d_J_visit_27 ?_
      refine jx_getR (pc := 28) gf_J_19 d_J_visit_28 ad_0 sh_0 rfl ?_
      refine jx_getI (pc := 31) gf_J_120 d_J_visit_31 ad_4 sh_4 rfl ?_
      refine jx_bipush (pc := 34) (v := 24) d_J_visit_34 (by decide) ?_
      refine jx_icmp_lt (pc := 36) 42 d_J_visit_36 (by decide) (fun c36 => ?_) (fun c36 => absurd c36 (fun q => q (by rw [hnv]; exact nI_lt (b := 24) hn (by omega))))
      refine jx_aload0 (pc := 42) d_J_visit_42 ?_
      refine jx_getR (pc := 43) gf_J_19 d_J_visit_43 ad_0 sh_0 rfl ?_
      refine jx_iload1 (pc := 46) d_J_visit_46 ?_
      refine jx_iload2 (pc := 47) d_J_visit_47 ?_
      refine jx_iload3 (pc := 48) d_J_visit_48 ?_
      refine jx_callV3 (pc := 49) (d' := 0) vo_Vi_tell lk_J_123 d_J_visit_49 ad_4 sh_4 rfl (by omega) (Nat.le_of_ble_eq_true rfl) ?_
      refine c_Vi_tell hn ha hV (fun M2 hM2 hO2 => ?_)
      refine jx_r0 ?_
      refine jx_aload0 (pc := 52) d_J_visit_52 ?_
      refine jx_getR (pc := 53) gf_J_19 d_J_visit_53 ad_0 sh_0 rfl ?_
      refine jx_getI (pc := 56) gf_J_120 d_J_visit_56 ad_4 sh_4 rfl ?_
      refine jx_iret (pc := 59) hX rfl d_J_visit_59 ?_
      rotate_left
      rw [hM2.1]
      exact k M2 (hR.vi hM2 (fun q h1 h2 => hO2 q h1)) (fun q hq => hO2 q (by omega))
    · have hr : r_visit s dy h t = -4 := by unfold r_visit; rw [if_pos hb, if_neg hn]
      have hnx : n_visit s dy h t = s := by unfold n_visit; rw [if_neg (fun q => hn q.2)]
      rw [hr, hnx] at k
      refine jx_iload1 (pc := 0) d_J_visit_0 ?_
      refine jx_callS1 (pc := 1) (d' := 0) so_J_isDay lk_J_117 d_J_visit_1 (by omega) (Nat.le_of_ble_eq_true rfl) ?_
      refine c_J_isDay ?_
      refine jx_r1 ?_
      refine jx_if_eq (pc := 4) 24 d_J_visit_4 (by decide) (fun c4 => absurd c4 (z01p g1)) (fun c4 => ?_)
      refine jx_iload2 (pc := 7) d_J_visit_7 ?_
      refine jx_if_lt (pc := 8) 24 d_J_visit_8 (by decide) (fun c8 => absurd c8 (Int32.not_lt.mpr g2.1)) (fun c8 => ?_)
      refine jx_iload2 (pc := 11) d_J_visit_11 ?_
      refine jx_bipush (pc := 12) (v := 6) d_J_visit_12 (by decide) ?_
      refine jx_icmp_ge (pc := 14) 24 d_J_visit_14 (by decide) (fun c14 => absurd c14 (Int32.not_le.mpr g2.2)) (fun c14 => ?_)
      refine jx_iload3 (pc := 17) d_J_visit_17 ?_
      refine jx_callS1 (pc := 18) (d' := 0) so_J_isThing lk_J_105 d_J_visit_18 (by omega) (Nat.le_of_ble_eq_true rfl) ?_
      refine c_J_isThing ?_
      refine jx_r1 ?_
      refine jx_if_ne (pc := 21) 27 d_J_visit_21 (by decide) (fun c21 => ?_) (fun c21 => absurd c21 (z01p g3))
      refine jx_aload0 (pc := 27) d_J_visit_27 ?_
      refine jx_getR (pc := 28) gf_J_19 d_J_visit_28 ad_0 sh_0 rfl ?_
      refine jx_getI (pc := 31) gf_J_120 d_J_visit_31 ad_4 sh_4 rfl ?_
      refine jx_bipush (pc := 34) (v := 24) d_J_visit_34 (by decide) ?_
      refine jx_icmp_lt (pc := 36) 42 d_J_visit_36 (by decide) (fun c36 => absurd c36 (by rw [hnv]; exact nI_nlt (a := g_nv s) (b := 24) (by omega) (by have := hw.2.2.2.2.2.1; omega))) (fun c36 => ?_)
      refine jx_bipush (pc := 39) (v := (-4)) d_J_visit_39 (by decide) ?_
      refine jx_iret (pc := 41) hX rfl d_J_visit_41 ?_
      rotate_left
      exact k M hR (fun _ _ => rfl)
  · have hr : r_visit s dy h t = -2 := by unfold r_visit; rw [if_neg hb]
    have hnx : n_visit s dy h t = s := by unfold n_visit; rw [if_neg (fun q => hb q.1)]
    rw [hr, hnx] at k
    refine jx_iload1 (pc := 0) d_J_visit_0 ?_
    refine jx_callS1 (pc := 1) (d' := 0) so_J_isDay lk_J_117 d_J_visit_1 (by omega) (Nat.le_of_ble_eq_true rfl) ?_
    refine c_J_isDay ?_
    refine jx_r1 ?_
    refine jx_if_eq (pc := 4) 24 d_J_visit_4 (by decide) (fun c4 => ?_) (fun c4 => ?_)
    refine jx_bipush (pc := 24) (v := (-2)) d_J_visit_24 (by decide) ?_
    refine jx_iret (pc := 26) hX rfl d_J_visit_26 ?_
    rotate_left
    refine jx_iload2 (pc := 7) d_J_visit_7 ?_
    refine jx_if_lt (pc := 8) 24 d_J_visit_8 (by decide) (fun c8 => ?_) (fun c8 => ?_)
    refine jx_bipush (pc := 24) (v := (-2)) d_J_visit_24 (by decide) ?_
    refine jx_iret (pc := 26) hX rfl d_J_visit_26 ?_
    rotate_left
    refine jx_iload2 (pc := 11) d_J_visit_11 ?_
    refine jx_bipush (pc := 12) (v := 6) d_J_visit_12 (by decide) ?_
    refine jx_icmp_ge (pc := 14) 24 d_J_visit_14 (by decide) (fun c14 => ?_) (fun c14 => ?_)
    refine jx_bipush (pc := 24) (v := (-2)) d_J_visit_24 (by decide) ?_
    refine jx_iret (pc := 26) hX rfl d_J_visit_26 ?_
    rotate_left
    refine jx_iload3 (pc := 17) d_J_visit_17 ?_
    refine jx_callS1 (pc := 18) (d' := 0) so_J_isThing lk_J_105 d_J_visit_18 (by omega) (Nat.le_of_ble_eq_true rfl) ?_
    refine c_J_isThing ?_
    refine jx_r1 ?_
    refine jx_if_ne (pc := 21) 27 d_J_visit_21 (by decide) (fun c21 => ?_) (fun c21 => ?_)
    rotate_left
    refine jx_bipush (pc := 24) (v := (-2)) d_J_visit_24 (by decide) ?_
    refine jx_iret (pc := 26) hX rfl d_J_visit_26 ?_
    rotate_left
    · exact k M hR (fun _ _ => rfl)
    · exact k M hR (fun _ _ => rfl)
    · exact k M hR (fun _ _ => rfl)
    · exact absurd ⟨z01n c4, ⟨Int32.not_lt.mp c8, Int32.not_le.mp c14⟩, z01n c21⟩ hb
    · exact k M hR (fun _ _ => rfl)
theorem c_J_back {d : Nat} {s : Sg} {M : j_M} {Q : Option Value → j_M → Prop} (hw : WF s) (hR : RepC s M) (k : ∀ M', RepC (n_back s) M' → Hi M M' → Q (some (.int (r_back s))) M') : j_Ct (d + 1) I_J_back [.ref 0] M Q := by
  refine j_met (by decide +kernel) co_J_back (Nat.le_of_ble_eq_true rfl) (fun X hX => ?_)
  show j_W (d + 1) I_J_back X 0 [some (.ref 0)] [] M
  have hV := hR.2.2.2.1
  have hnv : M 4 5 = nI (g_nv s) := hV.1
  have hn := hw.2.2.2.2.2.1
  by_cases h0 : g_nv s = 0
  · have hr : r_back s = -3 := by unfold r_back; rw [if_pos h0]
    have hnx : n_back s = s := by unfold n_back; rw [if_pos h0]
    rw [hr, hnx] at k
    refine jx_aload0 (pc := 0) d_J_back_0 ?_
    refine jx_getR (pc := 1) gf_J_19 d_J_back_1 ad_0 sh_0 rfl ?_
    refine jx_getI (pc := 4) gf_J_120 d_J_back_4 ad_4 sh_4 rfl ?_
    refine jx_if_gt (pc := 7) 13 d_J_back_7 (by decide) (fun c7 => absurd c7 (by rw [hnv, h0]; decide)) (fun c7 => ?_)
    refine jx_bipush (pc := 10) (v := (-3)) d_J_back_10 (by decide) ?_
    refine jx_iret (pc := 12) hX rfl d_J_back_12 ?_
    rotate_left
    exact k M hR (fun _ _ => rfl)
  · have hr : r_back s = nI (g_nv s - 1) := by unfold r_back; rw [if_neg h0]
    have hnx : n_back s = s_vi s (g_nv s - 1) (g_vd s) (g_vh s) (g_vt s) := by unfold n_back; rw [if_neg h0]
    rw [hr, hnx] at k
    have hV1 : ViC (g_nv s - 1 + 1) (g_vd s) (g_vh s) (g_vt s) M := by rw [show g_nv s - 1 + 1 = g_nv s by omega]; exact hV
    refine jx_aload0 (pc := 0) d_J_back_0 ?_
    refine jx_getR (pc := 1) gf_J_19 d_J_back_1 ad_0 sh_0 rfl ?_
    refine jx_getI (pc := 4) gf_J_120 d_J_back_4 ad_4 sh_4 rfl ?_
    refine jx_if_gt (pc := 7) 13 d_J_back_7 (by decide) (fun c7 => ?_) (fun c7 => absurd c7 (fun q => q (by rw [hnv]; exact nI_lt (a := 0) (by omega) (by omega))))
    refine jx_aload0 (pc := 13) d_J_back_13 ?_
    refine jx_getR (pc := 14) gf_J_19 d_J_back_14 ad_0 sh_0 rfl ?_
    refine jx_callV0 (pc := 17) (d' := 0) vo_Vi_untell lk_J_127 d_J_back_17 ad_4 sh_4 rfl (by omega) (Nat.le_of_ble_eq_true rfl) ?_
    refine c_Vi_untell (by omega) (hw.2.2.2.2.2.2.1 _).1 hV1 (fun M2 hM2 hO2 => ?_)
    refine jx_r0 ?_
    refine jx_aload0 (pc := 20) d_J_back_20 ?_
    refine jx_getR (pc := 21) gf_J_19 d_J_back_21 ad_0 sh_0 rfl ?_
    refine jx_getI (pc := 24) gf_J_120 d_J_back_24 ad_4 sh_4 rfl ?_
    refine jx_iret (pc := 27) hX rfl d_J_back_27 ?_
    rotate_left
    rw [hM2.1]
    exact k M2 (hR.vi hM2 (fun q h1 h2 => hO2 q h1)) (fun q hq => hO2 q (by omega))
