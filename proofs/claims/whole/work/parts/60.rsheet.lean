/-! OPERATIONS of the reference, eight: put, get, copy, write -/
theorem lk_pos {s : Sg} {q : Nat} {f i : Int32} (h : ¬ lkS s q f i = 0) : ¬ lkS s q f i ≤ 0 := by
  unfold lkS at *
  by_cases h9 : g_fo s q = 9
  · rw [if_pos h9]; decide
  · rw [if_neg h9] at *
    by_cases hf : f = nI (g_fo s q)
    · rw [if_pos hf] at *
      by_cases hi : i < 0 ∨ nI (g_si s q) ≤ i
      · rw [if_pos hi]; decide
      · rw [if_neg hi] at h; exact absurd rfl h
    · rw [if_neg hf]; decide
theorem ShR.put {s : Sg} {M : j_M} (hR : RepR s M) {q i : Nat} (hq : q < 4) (hi : i < 48) (v : Int32) : ShR (g_fo s) (g_si s) (upI (g_it s) q i v) (j_set M 102 (48 * q + i) v) := by
  intro z hz
  obtain ⟨p1, p2, p3, p4⟩ := hR.h z hz
  rw [j_set_n _ _ _ (by omega), j_set_n _ _ _ (by omega), j_set_n _ _ _ (by omega)]
  refine ⟨p1, p2, p3, fun m hm => ?_⟩
  rw [j_set_s]; unfold upd upI
  by_cases hz2 : z = q ∧ m = i
  · rw [if_pos (by rw [hz2.1, hz2.2]), if_pos hz2]
  · rw [if_neg (by omega), if_neg hz2]; exact p4 m hm
theorem c_R_put {d : Nat} {a f i v : Int32} {s : Sg} {M : j_M} {Q : Option Value → j_M → Prop} (hw : WF s) (hR : RepR s M) (k : ∀ M', RepR (n_put s a f i v) M' → Lo M M' → Q (some (.int (r_put s a f i v))) M') : j_Ct (d + 2) I_R_put [.ref 79, .int a, .int f, .int i, .int v] M Q := by
  refine j_met (by decide +kernel) co_R_put (Nat.le_of_ble_eq_true rfl) (fun X hX => ?_)
  show j_W (d + 2) I_R_put X 0 [some (.ref 79), some (.int a), some (.int f), some (.int i), some (.int v), none] [] M
  by_cases hb : okPl a ∧ okFm f
  · obtain ⟨g1, g2⟩ := id hb
    have g2' := in3.mpr g2
    obtain ⟨q, hq, rfl, ea⟩ := okd a 4 (by omega) g1
    by_cases hl : lkS s q f i = 0
    · have hr : r_put s (nI q) f i v = 1 := by unfold r_put; rw [if_pos hb, ea, if_pos hl]
      have hnx : n_put s (nI q) f i v = s_sh s (g_fo s) (g_si s) (upI (g_it s) q (cl i) (fitF (cl f) v)) := by unfold n_put; rw [if_pos hb, ea, if_pos hl]
      rw [hr, hnx] at k
      obtain ⟨h7, hfe, j, hj, rfl, ej⟩ := lk_0 hw hl
      have hsi := (fo_lt hw q).2
      have h10 := (hR.h q hq).2.1 (by omega)
      rw [ej, hfe, show cl (nI (g_fo s q)) = g_fo s q from nI_cl (by omega)] at k
      refine jx_iload1 (pc := 0) d_R_put_0 ?_
      refine jx_callS1 (pc := 1) (d' := 1) so_R_isSheet lk_R_135 d_R_put_1 (by omega) (Nat.le_of_ble_eq_true rfl) ?_
      refine c_R_isSheet ?_
      refine jx_r1 ?_
      refine jx_if_eq (pc := 4) 16 d_R_put_4 (by decide) (fun c4 => absurd c4 (z01p g1)) (fun c4 => ?_)
      refine jx_iload2 (pc := 7) d_R_put_7 ?_
      refine jx_iconst (pc := 8) (v := 0) d_R_put_8 (by decide) ?_
      refine jx_iconst (pc := 9) (v := 2) d_R_put_9 (by decide) ?_
      refine jx_callS3 (pc := 10) (d' := 0) so_R_in lk_R_95 d_R_put_10 (by omega) (Nat.le_of_ble_eq_true rfl) ?_
      refine c_R_in ?_
      refine jx_r1 ?_
      refine jx_if_ne (pc := 13) 19 d_R_put_13 (by decide) (fun c13 => ?_) (fun c13 => absurd c13 (z01p g2'))
      refine jx_aload0 (pc := 19) d_R_put_19 ?_
      refine jx_iload1 (pc := 20) d_R_put_20 ?_
      refine jx_iload2 (pc := 21) d_R_put_21 ?_
      refine jx_iload3 (pc := 22) d_R_put_22 ?_
      refine jx_callV3 (pc := 23) (d' := d + 1) vo_R_lacks lk_R_292 d_R_put_23 ad_79 sh_79 rfl (by omega) (Nat.le_of_ble_eq_true rfl) ?_
      refine c_R_lacks hw hR hq ?_
      refine jx_r1 ?_
      refine jx_istore5 (pc := 26) d_R_put_26 rfl (Nat.le_of_ble_eq_true rfl) ?_
      refine jx_iload5 (pc := 28) d_R_put_28 ?_
      refine jx_if_le (pc := 30) 40 d_R_put_30 (by decide) (fun c30 => ?_) (fun c30 => absurd c30 (fun z => z (by rw [hl]; exact Int32.le_refl _)))
      refine jx_aload0 (pc := 40) d_R_put_40 ?_
      refine jx_iload1 (pc := 41) d_R_put_41 ?_
      refine jx_iload3 (pc := 42) d_R_put_42 ?_
      refine jx_iload4 (pc := 43) d_R_put_43 ?_
      refine jx_callV3 (pc := 45) (d' := 0) vo_R_keep lk_R_295 d_R_put_45 ad_79 sh_79 rfl (by omega) (Nat.le_of_ble_eq_true rfl) ?_
      refine c_R_keep hq (show j < 48 by omega) h7 h10 ?_
      refine jx_r0 ?_
      refine jx_iconst (pc := 48) (v := 1) d_R_put_48 (by decide) ?_
      refine jx_iret (pc := 49) hX rfl d_R_put_49 ?_
      rotate_left
      exact k _ (hR.sh (ShR.put hR hq (by omega) _) (fun b hb => j_set_n _ _ _ (by omega))) (fun b hb => j_set_n _ _ _ (by omega))
    · have hr : r_put s (nI q) f i v = -10 - lkS s q f i := by unfold r_put; rw [if_pos hb, ea, if_neg hl]
      have hnx : n_put s (nI q) f i v = s_fi s (lkS s q f i) := by unfold n_put; rw [if_pos hb, ea, if_neg hl]
      rw [hr, hnx] at k
      refine jx_iload1 (pc := 0) d_R_put_0 ?_
      refine jx_callS1 (pc := 1) (d' := 1) so_R_isSheet lk_R_135 d_R_put_1 (by omega) (Nat.le_of_ble_eq_true rfl) ?_
      refine c_R_isSheet ?_
      refine jx_r1 ?_
      refine jx_if_eq (pc := 4) 16 d_R_put_4 (by decide) (fun c4 => absurd c4 (z01p g1)) (fun c4 => ?_)
      refine jx_iload2 (pc := 7) d_R_put_7 ?_
      refine jx_iconst (pc := 8) (v := 0) d_R_put_8 (by decide) ?_
      refine jx_iconst (pc := 9) (v := 2) d_R_put_9 (by decide) ?_
      refine jx_callS3 (pc := 10) (d' := 0) so_R_in lk_R_95 d_R_put_10 (by omega) (Nat.le_of_ble_eq_true rfl) ?_
      refine c_R_in ?_
      refine jx_r1 ?_
      refine jx_if_ne (pc := 13) 19 d_R_put_13 (by decide) (fun c13 => ?_) (fun c13 => absurd c13 (z01p g2'))
      refine jx_aload0 (pc := 19) d_R_put_19 ?_
      refine jx_iload1 (pc := 20) d_R_put_20 ?_
      refine jx_iload2 (pc := 21) d_R_put_21 ?_
      refine jx_iload3 (pc := 22) d_R_put_22 ?_
      refine jx_callV3 (pc := 23) (d' := d + 1) vo_R_lacks lk_R_292 d_R_put_23 ad_79 sh_79 rfl (by omega) (Nat.le_of_ble_eq_true rfl) ?_
      refine c_R_lacks hw hR hq ?_
      refine jx_r1 ?_
      refine jx_istore5 (pc := 26) d_R_put_26 rfl (Nat.le_of_ble_eq_true rfl) ?_
      refine jx_iload5 (pc := 28) d_R_put_28 ?_
      refine jx_if_le (pc := 30) 40 d_R_put_30 (by decide) (fun c30 => absurd c30 (lk_pos hl)) (fun c30 => ?_)
      refine jx_aload0 (pc := 33) d_R_put_33 ?_
      refine jx_iload5 (pc := 34) d_R_put_34 ?_
      refine jx_callV1 (pc := 36) (d' := 0) vo_R_meets lk_R_138 d_R_put_36 ad_79 sh_79 rfl (by omega) (Nat.le_of_ble_eq_true rfl) ?_
      refine c_R_meets ?_
      refine jx_r1 ?_
      refine jx_iret (pc := 39) hX rfl d_R_put_39 ?_
      rotate_left
      exact k _ (hR.fi _) lo_fi
  · have hr : r_put s a f i v = -2 := by unfold r_put; rw [if_neg hb]
    have hnx : n_put s a f i v = s := by unfold n_put; rw [if_neg hb]
    rw [hr, hnx] at k
    refine jx_iload1 (pc := 0) d_R_put_0 ?_
    refine jx_callS1 (pc := 1) (d' := 1) so_R_isSheet lk_R_135 d_R_put_1 (by omega) (Nat.le_of_ble_eq_true rfl) ?_
    refine c_R_isSheet ?_
    refine jx_r1 ?_
    refine jx_if_eq (pc := 4) 16 d_R_put_4 (by decide) (fun c4 => ?_) (fun c4 => ?_)
    refine jx_bipush (pc := 16) (v := (-2)) d_R_put_16 (by decide) ?_
    refine jx_iret (pc := 18) hX rfl d_R_put_18 ?_
    rotate_left
    refine jx_iload2 (pc := 7) d_R_put_7 ?_
    refine jx_iconst (pc := 8) (v := 0) d_R_put_8 (by decide) ?_
    refine jx_iconst (pc := 9) (v := 2) d_R_put_9 (by decide) ?_
    refine jx_callS3 (pc := 10) (d' := 0) so_R_in lk_R_95 d_R_put_10 (by omega) (Nat.le_of_ble_eq_true rfl) ?_
    refine c_R_in ?_
    refine jx_r1 ?_
    refine jx_if_ne (pc := 13) 19 d_R_put_13 (by decide) (fun c13 => ?_) (fun c13 => ?_)
    rotate_left
    refine jx_bipush (pc := 16) (v := (-2)) d_R_put_16 (by decide) ?_
    refine jx_iret (pc := 18) hX rfl d_R_put_18 ?_
    rotate_left
    · exact k M hR (fun _ _ => rfl)
    · exact absurd ⟨z01n c4, in3.mp (z01n c13)⟩ hb
    · exact k M hR (fun _ _ => rfl)
theorem c_R_get {d : Nat} {a f i : Int32} {s : Sg} {M : j_M} {Q : Option Value → j_M → Prop} (hw : WF s) (hR : RepR s M) (k : ∀ M', RepR (n_get s a f i) M' → Lo M M' → Q (some (.int (r_get s a f i))) M') : j_Ct (d + 2) I_R_get [.ref 79, .int a, .int f, .int i] M Q := by
  refine j_met (by decide +kernel) co_R_get (Nat.le_of_ble_eq_true rfl) (fun X hX => ?_)
  show j_W (d + 2) I_R_get X 0 [some (.ref 79), some (.int a), some (.int f), some (.int i), none] [] M
  by_cases hb : okPl a ∧ okFm f
  · obtain ⟨g1, g2⟩ := id hb
    have g2' := in3.mpr g2
    obtain ⟨q, hq, rfl, ea⟩ := okd a 4 (by omega) g1
    by_cases hl : lkS s q f i = 0
    · have hr : r_get s (nI q) f i = g_it s q (cl i) := by unfold r_get; rw [if_pos hb, ea, if_pos hl]
      have hnx : n_get s (nI q) f i = s := by unfold n_get; rw [if_pos hb, ea, if_pos hl]
      rw [hr, hnx] at k
      obtain ⟨h7, hfe, j, hj, rfl, ej⟩ := lk_0 hw hl
      have hsi := (fo_lt hw q).2
      rw [ej] at k
      have ex : ((48 : Int32) * nI q + nI j).toNatClampNeg = 48 * q + j := by rw [x48]; exact nI_cl (by omega)
      have hvx : vp_in ((48 : Int32) * nI q + nI j) 192 := by rw [x48]; exact vp_in_nI (by omega) (by omega)
      refine jx_iload1 (pc := 0) d_R_get_0 ?_
      refine jx_callS1 (pc := 1) (d' := 1) so_R_isSheet lk_R_135 d_R_get_1 (by omega) (Nat.le_of_ble_eq_true rfl) ?_
      refine c_R_isSheet ?_
      refine jx_r1 ?_
      refine jx_if_eq (pc := 4) 16 d_R_get_4 (by decide) (fun c4 => absurd c4 (z01p g1)) (fun c4 => ?_)
      refine jx_iload2 (pc := 7) d_R_get_7 ?_
      refine jx_iconst (pc := 8) (v := 0) d_R_get_8 (by decide) ?_
      refine jx_iconst (pc := 9) (v := 2) d_R_get_9 (by decide) ?_
      refine jx_callS3 (pc := 10) (d' := 0) so_R_in lk_R_95 d_R_get_10 (by omega) (Nat.le_of_ble_eq_true rfl) ?_
      refine c_R_in ?_
      refine jx_r1 ?_
      refine jx_if_ne (pc := 13) 20 d_R_get_13 (by decide) (fun c13 => ?_) (fun c13 => absurd c13 (z01p g2'))
      refine jx_aload0 (pc := 20) d_R_get_20 ?_
      refine jx_iload1 (pc := 21) d_R_get_21 ?_
      refine jx_iload2 (pc := 22) d_R_get_22 ?_
      refine jx_iload3 (pc := 23) d_R_get_23 ?_
      refine jx_callV3 (pc := 24) (d' := d + 1) vo_R_lacks lk_R_292 d_R_get_24 ad_79 sh_79 rfl (by omega) (Nat.le_of_ble_eq_true rfl) ?_
      refine c_R_lacks hw hR hq ?_
      refine jx_r1 ?_
      refine jx_istore4 (pc := 27) d_R_get_27 rfl (Nat.le_of_ble_eq_true rfl) ?_
      refine jx_iload4 (pc := 29) d_R_get_29 ?_
      refine jx_if_le (pc := 31) 44 d_R_get_31 (by decide) (fun c31 => ?_) (fun c31 => absurd c31 (fun z => z (by rw [hl]; exact Int32.le_refl _)))
      refine jx_aload0 (pc := 44) d_R_get_44 ?_
      refine jx_getR (pc := 45) gf_R_77 d_R_get_45 ad_79 sh_79 rfl ?_
      refine jx_bipush (pc := 48) (v := 48) d_R_get_48 (by decide) ?_
      refine jx_iload1 (pc := 50) d_R_get_50 ?_
      refine jx_imul (pc := 51) d_R_get_51 ?_
      refine jx_iload3 (pc := 52) d_R_get_52 ?_
      refine jx_iadd (pc := 53) d_R_get_53 ?_
      refine jx_iald (pc := 54) d_R_get_54 ad_102 sh_102 hvx ?_
      refine jx_iret (pc := 55) hX rfl d_R_get_55 ?_
      rotate_left
      rw [ex, (hR.h q hq).2.2.2 j (by omega)]
      exact k M hR (fun _ _ => rfl)
    · have hr : r_get s (nI q) f i = -2147483648 := by unfold r_get; rw [if_pos hb, ea, if_neg hl]
      have hnx : n_get s (nI q) f i = s_fi s (lkS s q f i) := by unfold n_get; rw [if_pos hb, ea, if_neg hl]
      rw [hr, hnx] at k
      refine jx_iload1 (pc := 0) d_R_get_0 ?_
      refine jx_callS1 (pc := 1) (d' := 1) so_R_isSheet lk_R_135 d_R_get_1 (by omega) (Nat.le_of_ble_eq_true rfl) ?_
      refine c_R_isSheet ?_
      refine jx_r1 ?_
      refine jx_if_eq (pc := 4) 16 d_R_get_4 (by decide) (fun c4 => absurd c4 (z01p g1)) (fun c4 => ?_)
      refine jx_iload2 (pc := 7) d_R_get_7 ?_
      refine jx_iconst (pc := 8) (v := 0) d_R_get_8 (by decide) ?_
      refine jx_iconst (pc := 9) (v := 2) d_R_get_9 (by decide) ?_
      refine jx_callS3 (pc := 10) (d' := 0) so_R_in lk_R_95 d_R_get_10 (by omega) (Nat.le_of_ble_eq_true rfl) ?_
      refine c_R_in ?_
      refine jx_r1 ?_
      refine jx_if_ne (pc := 13) 20 d_R_get_13 (by decide) (fun c13 => ?_) (fun c13 => absurd c13 (z01p g2'))
      refine jx_aload0 (pc := 20) d_R_get_20 ?_
      refine jx_iload1 (pc := 21) d_R_get_21 ?_
      refine jx_iload2 (pc := 22) d_R_get_22 ?_
      refine jx_iload3 (pc := 23) d_R_get_23 ?_
      refine jx_callV3 (pc := 24) (d' := d + 1) vo_R_lacks lk_R_292 d_R_get_24 ad_79 sh_79 rfl (by omega) (Nat.le_of_ble_eq_true rfl) ?_
      refine c_R_lacks hw hR hq ?_
      refine jx_r1 ?_
      refine jx_istore4 (pc := 27) d_R_get_27 rfl (Nat.le_of_ble_eq_true rfl) ?_
      refine jx_iload4 (pc := 29) d_R_get_29 ?_
      refine jx_if_le (pc := 31) 44 d_R_get_31 (by decide) (fun c31 => absurd c31 (lk_pos hl)) (fun c31 => ?_)
      refine jx_aload0 (pc := 34) d_R_get_34 ?_
      refine jx_iload4 (pc := 35) d_R_get_35 ?_
      refine jx_putI (pc := 37) pf_R_289 d_R_get_37 ad_79 sh_79 rfl ?_
      refine jx_ldcw (pc := 40) d_R_get_40 lc_R_298 ?_
      refine jx_iret (pc := 43) hX rfl d_R_get_43 ?_
      rotate_left
      exact k _ (hR.fi _) lo_fi
  · have hr : r_get s a f i = -2147483648 := by unfold r_get; rw [if_neg hb]
    have hnx : n_get s a f i = s := by unfold n_get; rw [if_neg hb]
    rw [hr, hnx] at k
    refine jx_iload1 (pc := 0) d_R_get_0 ?_
    refine jx_callS1 (pc := 1) (d' := 1) so_R_isSheet lk_R_135 d_R_get_1 (by omega) (Nat.le_of_ble_eq_true rfl) ?_
    refine c_R_isSheet ?_
    refine jx_r1 ?_
    refine jx_if_eq (pc := 4) 16 d_R_get_4 (by decide) (fun c4 => ?_) (fun c4 => ?_)
    refine jx_ldcw (pc := 16) d_R_get_16 lc_R_298 ?_
    refine jx_iret (pc := 19) hX rfl d_R_get_19 ?_
    rotate_left
    refine jx_iload2 (pc := 7) d_R_get_7 ?_
    refine jx_iconst (pc := 8) (v := 0) d_R_get_8 (by decide) ?_
    refine jx_iconst (pc := 9) (v := 2) d_R_get_9 (by decide) ?_
    refine jx_callS3 (pc := 10) (d' := 0) so_R_in lk_R_95 d_R_get_10 (by omega) (Nat.le_of_ble_eq_true rfl) ?_
    refine c_R_in ?_
    refine jx_r1 ?_
    refine jx_if_ne (pc := 13) 20 d_R_get_13 (by decide) (fun c13 => ?_) (fun c13 => ?_)
    rotate_left
    refine jx_ldcw (pc := 16) d_R_get_16 lc_R_298 ?_
    refine jx_iret (pc := 19) hX rfl d_R_get_19 ?_
    rotate_left
    · exact k M hR (fun _ _ => rfl)
    · exact absurd ⟨z01n c4, in3.mp (z01n c13)⟩ hb
    · exact k M hR (fun _ _ => rfl)
theorem c_R_write {d : Nat} {dog a : Int32} {s : Sg} {M : j_M} {Q : Option Value → j_M → Prop} (hw : WF s) (hR : RepR s M) (k : ∀ M', RepR (n_write s dog a) M' → Lo M M' → Q (some (.int (r_write s dog a))) M') : j_Ct (d + 4) I_R_write [.ref 79, .int dog, .int a] M Q := by
  refine j_met (by decide +kernel) co_R_write (Nat.le_of_ble_eq_true rfl) (fun X hX => ?_)
  show j_W (d + 4) I_R_write X 0 [some (.ref 79), some (.int dog), some (.int a), none] [] M
  by_cases hb : (0 ≤ dog ∧ dog < 2) ∧ okPl a
  · obtain ⟨g1, g2⟩ := id hb
    have g1' := in2.mpr g1
    obtain ⟨e, he, rfl, ee⟩ := okd dog 2 (by omega) g1
    obtain ⟨q, hq, rfl, ea⟩ := okd a 4 (by omega) g2
    have hvq : vp_in (nI q) 4 := vp_in_nI hq (by omega)
    have hL := lostR hR hq
    have hfq := fo_lt hw q
    have eq1 : (nI q).toNatClampNeg = q := ea
    by_cases h9 : g_fo s q = 9
    · have hr : r_write s (nI e) (nI q) = -10 - 1 := by unfold r_write; rw [if_pos hb, ea, if_pos h9]
      have hnx : n_write s (nI e) (nI q) = s_fi s 1 := by unfold n_write; rw [if_pos hb, ea, if_pos h9]
      rw [hr, hnx] at k
      have hL9 : M 99 (nI q).toNatClampNeg = 0 := by rw [eq1]; exact hL.mpr h9
      refine jx_iload1 (pc := 0) d_R_write_0 ?_
      refine jx_iconst (pc := 1) (v := 0) d_R_write_1 (by decide) ?_
      refine jx_iconst (pc := 2) (v := 1) d_R_write_2 (by decide) ?_
      refine jx_callS3 (pc := 3) (d' := 0) so_R_in lk_R_95 d_R_write_3 (by omega) (Nat.le_of_ble_eq_true rfl) ?_
      refine c_R_in ?_
      refine jx_r1 ?_
      refine jx_if_eq (pc := 6) 16 d_R_write_6 (by decide) (fun c6 => absurd c6 (z01p g1')) (fun c6 => ?_)
      refine jx_iload2 (pc := 9) d_R_write_9 ?_
      refine jx_callS1 (pc := 10) (d' := 1) so_R_isSheet lk_R_135 d_R_write_10 (by omega) (Nat.le_of_ble_eq_true rfl) ?_
      refine c_R_isSheet ?_
      refine jx_r1 ?_
      refine jx_if_ne (pc := 13) 19 d_R_write_13 (by decide) (fun c13 => ?_) (fun c13 => absurd c13 (z01p g2))
      refine jx_aload0 (pc := 19) d_R_write_19 ?_
      refine jx_getR (pc := 20) gf_R_68 d_R_write_20 ad_79 sh_79 rfl ?_
      refine jx_iload2 (pc := 23) d_R_write_23 ?_
      refine jx_zald (pc := 24) d_R_write_24 ad_99 sh_99 (by first | assumption | exact vp_in_nI (by omega) (by omega)) ?_
      refine jx_if_ne (pc := 25) 34 d_R_write_25 (by decide) (fun c25 => absurd c25 (fun z => z hL9)) (fun c25 => ?_)
      refine jx_aload0 (pc := 28) d_R_write_28 ?_
      refine jx_iconst (pc := 29) (v := 1) d_R_write_29 (by decide) ?_
      refine jx_callV1 (pc := 30) (d' := 0) vo_R_meets lk_R_138 d_R_write_30 ad_79 sh_79 rfl (by omega) (Nat.le_of_ble_eq_true rfl) ?_
      refine c_R_meets ?_
      refine jx_r1 ?_
      refine jx_iret (pc := 33) hX rfl d_R_write_33 ?_
      rotate_left
      exact k _ (hR.fi 1) lo_fi
    · have hr : r_write s (nI e) (nI q) = nI (min (g_si s q) 30) := by unfold r_write; rw [if_pos hb, ea, if_neg h9]
      have hnx : n_write s (nI e) (nI q) = s_sh s (g_fo s) (g_si s) (wrI s e q (min (g_si s q) 30)) := by unfold n_write; rw [if_pos hb, ea, ee, if_neg h9]
      rw [hr, hnx] at k
      have hL9 : ¬ M 99 (nI q).toNatClampNeg = 0 := by rw [eq1]; exact fun z => h9 (hL.mp z)
      have loop : ∀ (r i : Nat) (M2 : j_M), i + r = min (g_si s q) 30 → RepR (s_sh s (g_fo s) (g_si s) (wrI s e q i)) M2 → Lo M M2 → (∀ m, m < 30 → M2 91 m = em (fdD s e m)) → j_W (d + 4) I_R_write X 43 [some (.ref 79), some (.int (nI e)), some (.int (nI q)), some (.int (nI i))] [] M2 := by
        intro r
        induction r with
        | zero =>
          intro i M2 hi f0 f1 f2
          have h3 : M2 101 (nI q).toNatClampNeg = nI (g_si s q) := by rw [eq1]; exact (f0.h q hq).2.2.1
          by_cases hlt : g_si s q ≤ i
          · -- the sheet is full
            refine jx_iload3 (pc := 43) d_R_write_43 ?_
            refine jx_aload0 (pc := 44) d_R_write_44 ?_
            refine jx_getR (pc := 45) gf_R_74 d_R_write_45 ad_79 sh_79 rfl ?_
            refine jx_iload2 (pc := 48) d_R_write_48 ?_
            refine jx_iald (pc := 49) d_R_write_49 ad_101 sh_101 hvq ?_
            refine jx_icmp_ge (pc := 50) 77 d_R_write_50 (by decide) (fun c50 => ?_) (fun c50 => absurd c50 (fun z => z (by rw [h3]; exact nI_le hlt (by omega))))
            refine jx_iload3 (pc := 77) d_R_write_77 ?_
            refine jx_iret (pc := 78) hX rfl d_R_write_78 ?_
            rotate_left
            rw [show min (g_si s q) 30 = i by omega] at k
            exact k M2 f0 f1
          · -- the days are over
            refine jx_iload3 (pc := 43) d_R_write_43 ?_
            refine jx_aload0 (pc := 44) d_R_write_44 ?_
            refine jx_getR (pc := 45) gf_R_74 d_R_write_45 ad_79 sh_79 rfl ?_
            refine jx_iload2 (pc := 48) d_R_write_48 ?_
            refine jx_iald (pc := 49) d_R_write_49 ad_101 sh_101 hvq ?_
            refine jx_icmp_ge (pc := 50) 77 d_R_write_50 (by decide) (fun c50 => absurd c50 (by rw [h3]; exact nI_ge (by omega) (by omega))) (fun c50 => ?_)
            refine jx_iload3 (pc := 53) d_R_write_53 ?_
            refine jx_bipush (pc := 54) (v := 30) d_R_write_54 (by decide) ?_
            refine jx_icmp_ge (pc := 56) 77 d_R_write_56 (by decide) (fun c56 => ?_) (fun c56 => absurd c56 (fun z => z (show nI 30 ≤ nI i from nI_le (by omega) (by omega))))
            refine jx_iload3 (pc := 77) d_R_write_77 ?_
            refine jx_iret (pc := 78) hX rfl d_R_write_78 ?_
            rotate_left
            rw [show min (g_si s q) 30 = i by omega] at k
            exact k M2 f0 f1
        | succ r ih =>
          intro i M2 hi f0 f1 f2
          have e1 : (nI i).toNatClampNeg = i := nI_cl (by omega)
          have h3 : M2 101 (nI q).toNatClampNeg = nI (g_si s q) := by rw [eq1]; exact (f0.h q hq).2.2.1
          have h10 : M2 100 q = nI (g_fo s q) := (f0.h q hq).2.1 h9
          refine jx_iload3 (pc := 43) d_R_write_43 ?_
          refine jx_aload0 (pc := 44) d_R_write_44 ?_
          refine jx_getR (pc := 45) gf_R_74 d_R_write_45 ad_79 sh_79 rfl ?_
          refine jx_iload2 (pc := 48) d_R_write_48 ?_
          refine jx_iald (pc := 49) d_R_write_49 ad_101 sh_101 hvq ?_
          refine jx_icmp_ge (pc := 50) 77 d_R_write_50 (by decide) (fun c50 => absurd c50 (by rw [h3]; exact nI_ge (by omega) (by omega))) (fun c50 => ?_)
          refine jx_iload3 (pc := 53) d_R_write_53 ?_
          refine jx_bipush (pc := 54) (v := 30) d_R_write_54 (by decide) ?_
          refine jx_icmp_ge (pc := 56) 77 d_R_write_56 (by decide) (fun c56 => absurd c56 (show ¬ nI 30 ≤ nI i from nI_ge (by omega) (by omega))) (fun c56 => ?_)
          refine jx_aload0 (pc := 59) d_R_write_59 ?_
          refine jx_iload2 (pc := 60) d_R_write_60 ?_
          refine jx_iload3 (pc := 61) d_R_write_61 ?_
          refine jx_aload0 (pc := 62) d_R_write_62 ?_
          refine jx_getR (pc := 63) gf_R_43 d_R_write_63 ad_79 sh_79 rfl ?_
          refine jx_iload3 (pc := 66) d_R_write_66 ?_
          refine jx_iald (pc := 67) d_R_write_67 ad_91 sh_91 (vp_in_nI (by omega) (by omega)) ?_
          refine jx_callV3 (pc := 68) (d' := 0) vo_R_keep lk_R_295 d_R_write_68 ad_79 sh_79 rfl (by omega) (Nat.le_of_ble_eq_true rfl) ?_
          rw [e1, f2 i (by omega)]
          refine c_R_keep hq (show i < 48 by omega) (show g_fo s q < 3 by omega) h10 ?_
          refine jx_r0 ?_
          refine jx_iinc3 (pc := 71) d_R_write_71 rfl (Nat.le_of_ble_eq_true rfl) ?_
          refine jx_goto (pc := 74) 43 d_R_write_74 (by decide) ?_
          rotate_left
          rw [nI_add1]
          refine ih (i + 1) _ (by omega) ?_ (fun b hb => by rw [j_set_n _ _ _ (by omega)]; exact f1 b hb) (fun m hm => by rw [j_set_n _ _ _ (by omega)]; exact f2 m hm)
          have h7 := f0.sh (ShR.put f0 hq (show i < 48 by omega) (fitF (g_fo s q) (em (fdD s e i)))) (fun b hb => j_set_n _ _ _ (by omega))
          have hE : upI (g_it (s_sh s (g_fo s) (g_si s) (wrI s e q i))) q i (fitF (g_fo s q) (em (fdD s e i))) = wrI s e q (i + 1) := by
            funext z m
            show (if z = q ∧ m = i then _ else wrI s e q i z m) = wrI s e q (i + 1) z m
            unfold wrI
            by_cases hc : z = q ∧ m = i
            · rw [if_pos hc, if_pos ⟨hc.1, by omega⟩, hc.2]
            · rw [if_neg hc]
              by_cases hc2 : z = q ∧ m < i
              · rw [if_pos hc2, if_pos ⟨hc2.1, by omega⟩]
              · rw [if_neg hc2, if_neg (fun w => hc2 ⟨w.1, by have := w.2; have : ¬ m = i := fun v => hc ⟨w.1, v⟩; omega⟩)]
          rw [hE] at h7
          exact h7
      refine jx_iload1 (pc := 0) d_R_write_0 ?_
      refine jx_iconst (pc := 1) (v := 0) d_R_write_1 (by decide) ?_
      refine jx_iconst (pc := 2) (v := 1) d_R_write_2 (by decide) ?_
      refine jx_callS3 (pc := 3) (d' := 0) so_R_in lk_R_95 d_R_write_3 (by omega) (Nat.le_of_ble_eq_true rfl) ?_
      refine c_R_in ?_
      refine jx_r1 ?_
      refine jx_if_eq (pc := 6) 16 d_R_write_6 (by decide) (fun c6 => absurd c6 (z01p g1')) (fun c6 => ?_)
      refine jx_iload2 (pc := 9) d_R_write_9 ?_
      refine jx_callS1 (pc := 10) (d' := 1) so_R_isSheet lk_R_135 d_R_write_10 (by omega) (Nat.le_of_ble_eq_true rfl) ?_
      refine c_R_isSheet ?_
      refine jx_r1 ?_
      refine jx_if_ne (pc := 13) 19 d_R_write_13 (by decide) (fun c13 => ?_) (fun c13 => absurd c13 (z01p g2))
      refine jx_aload0 (pc := 19) d_R_write_19 ?_
      refine jx_getR (pc := 20) gf_R_68 d_R_write_20 ad_79 sh_79 rfl ?_
      refine jx_iload2 (pc := 23) d_R_write_23 ?_
      refine jx_zald (pc := 24) d_R_write_24 ad_99 sh_99 (by first | assumption | exact vp_in_nI (by omega) (by omega)) ?_
      refine jx_if_ne (pc := 25) 34 d_R_write_25 (by decide) (fun c25 => ?_) (fun c25 => absurd c25 hL9)
      refine jx_aload0 (pc := 34) d_R_write_34 ?_
      refine jx_iload1 (pc := 35) d_R_write_35 ?_
      refine jx_bipush (pc := 36) (v := 29) d_R_write_36 (by decide) ?_
      refine jx_callV2 (pc := 38) (d' := d + 3) vo_R_runsTold lk_R_179 d_R_write_38 ad_79 sh_79 rfl (by omega) (Nat.le_of_ble_eq_true rfl) ?_
      refine c_R_runsTold (dog := e) (last := 29) hw hR he (by omega) (fun M3 hS3 hr3 h91 h89 hbb3 => ?_)
      refine jx_r0 ?_
      refine jx_iconst (pc := 41) (v := 0) d_R_write_41 (by decide) ?_
      refine jx_istore3 (pc := 42) d_R_write_42 rfl (Nat.le_of_ble_eq_true rfl) ?_
      rotate_left
      refine loop (min (g_si s q) 30) 0 M3 (by omega) ?_ hS3.lo (fun m hm => h91 m (by omega))
      have hE : s_sh s (g_fo s) (g_si s) (wrI s e q 0) = s := by
        have : wrI s e q 0 = g_it s := by funext z m; unfold wrI; rw [if_neg (fun w => absurd w.2 (by omega))]
        rw [this]; rfl
      rw [hE]
      exact hS3.rep hR
  · have hr : r_write s dog a = -2 := by unfold r_write; rw [if_neg hb]
    have hnx : n_write s dog a = s := by unfold n_write; rw [if_neg hb]
    rw [hr, hnx] at k
    refine jx_iload1 (pc := 0) d_R_write_0 ?_
    refine jx_iconst (pc := 1) (v := 0) d_R_write_1 (by decide) ?_
    refine jx_iconst (pc := 2) (v := 1) d_R_write_2 (by decide) ?_
    refine jx_callS3 (pc := 3) (d' := 0) so_R_in lk_R_95 d_R_write_3 (by omega) (Nat.le_of_ble_eq_true rfl) ?_
    refine c_R_in ?_
    refine jx_r1 ?_
    refine jx_if_eq (pc := 6) 16 d_R_write_6 (by decide) (fun c6 => ?_) (fun c6 => ?_)
    refine jx_bipush (pc := 16) (v := (-2)) d_R_write_16 (by decide) ?_
    refine jx_iret (pc := 18) hX rfl d_R_write_18 ?_
    rotate_left
    refine jx_iload2 (pc := 9) d_R_write_9 ?_
    refine jx_callS1 (pc := 10) (d' := 1) so_R_isSheet lk_R_135 d_R_write_10 (by omega) (Nat.le_of_ble_eq_true rfl) ?_
    refine c_R_isSheet ?_
    refine jx_r1 ?_
    refine jx_if_ne (pc := 13) 19 d_R_write_13 (by decide) (fun c13 => ?_) (fun c13 => ?_)
    rotate_left
    refine jx_bipush (pc := 16) (v := (-2)) d_R_write_16 (by decide) ?_
    refine jx_iret (pc := 18) hX rfl d_R_write_18 ?_
    rotate_left
    · exact k M hR (fun _ _ => rfl)
    · exact absurd ⟨in2.mp (z01n c6), z01n c13⟩ hb
    · exact k M hR (fun _ _ => rfl)
