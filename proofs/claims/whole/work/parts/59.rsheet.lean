/-! OPERATIONS of the reference, seven: sheets -/
def ShR (fo si : Nat → Nat) (it : Nat → Nat → Int32) (M : j_M) : Prop := ∀ q, q < 4 → (M 99 q = if fo q = 9 then 0 else 1) ∧ (fo q ≠ 9 → M 100 q = nI (fo q)) ∧ M 101 q = nI (si q) ∧ ∀ i, i < 48 → M 102 (48 * q + i) = it q i
theorem RepR.h {s : Sg} {M : j_M} (h : RepR s M) : ShR (g_fo s) (g_si s) (g_it s) M := h.2.2.2.2.2.1
theorem RepR.sh {s : Sg} {M M' : j_M} (h : RepR s M) {fo si : Nat → Nat} {it : Nat → Nat → Int32} (h2 : ShR fo si it M') (hb : ∀ b, b < 99 → M' b = M b) : RepR (s_sh s fo si it) M' := by
  obtain ⟨a1, a2, a3, a4, a5, a6, a7⟩ := h
  exact ⟨⟨by rw [hb _ (by omega)]; exact a1.1, fun i hi => by rw [hb _ (by omega)]; exact a1.2 i hi⟩, fun d t hd ht => by rw [hb _ (by omega)]; exact a2 d t hd ht, fun k hk2 => by rw [hb _ (by omega)]; exact a3 k hk2, ⟨by rw [hb _ (by omega)]; exact a4.1, fun k hk2 => by rw [hb _ (by omega), hb _ (by omega), hb _ (by omega)]; exact a4.2 k hk2⟩, ⟨by rw [hb _ (by omega)]; exact a5.1, fun k hk2 => by rw [hb _ (by omega), hb _ (by omega)]; exact a5.2 k hk2⟩, h2, by rw [hb _ (by omega)]; exact a7⟩
theorem RepR.fi {s : Sg} {M : j_M} (h : RepR s M) (f : Int32) : RepR (s_fi s f) (j_set M 79 40 f) := by
  obtain ⟨a1, a2, a3, a4, a5, a6, a7⟩ := h
  have g : ∀ b, b ≠ 79 → j_set M 79 40 f b = M b := fun b hb => j_set_n _ _ _ hb
  have u : ∀ q, q ≠ 40 → j_set M 79 40 f 79 q = M 79 q := fun q hq => by rw [j_set_s]; unfold upd; rw [if_neg hq]
  exact ⟨⟨by rw [u _ (by omega)]; exact a1.1, fun i hi => by rw [g _ (by omega)]; exact a1.2 i hi⟩, fun d t hd ht => by rw [g _ (by omega)]; exact a2 d t hd ht, fun k hk2 => by rw [u _ (by omega)]; exact a3 k hk2, ⟨by rw [u _ (by omega)]; exact a4.1, fun k hk2 => by rw [g _ (by omega), g _ (by omega), g _ (by omega)]; exact a4.2 k hk2⟩, ⟨by rw [u _ (by omega)]; exact a5.1, fun k hk2 => by rw [g _ (by omega), g _ (by omega)]; exact a5.2 k hk2⟩, fun q hq => by rw [g _ (by omega), g _ (by omega), g _ (by omega), g _ (by omega)]; exact a6 q hq, by rw [j_set_s]; unfold upd; rw [if_pos rfl]; rfl⟩
theorem lo_fi {M : j_M} {x : Int32} : Lo M (j_set M 79 40 x) := fun b hb => j_set_n _ _ _ (by omega)
theorem in3 {f : Int32} : (0 ≤ f ∧ f ≤ 2) ↔ okFm f := in_s (n := 2) (by omega)
theorem x48 (q i : Nat) : (48 : Int32) * nI q + nI i = nI (48 * q + i) := by rw [show (48 : Int32) = nI 48 from rfl, nI_mul, nI_add]
theorem c_R_sheet {d : Nat} {a f n : Int32} {s : Sg} {M : j_M} {Q : Option Value → j_M → Prop} (hR : RepR s M) (k : ∀ M', RepR (n_sheet s a f n) M' → Lo M M' → Q (some (.int (r_sheet s a f n))) M') : j_Ct (d + 2) I_R_sheet [.ref 79, .int a, .int f, .int n] M Q := by
  refine j_met (by decide +kernel) co_R_sheet (Nat.le_of_ble_eq_true rfl) (fun X hX => ?_)
  show j_W (d + 2) I_R_sheet X 0 [some (.ref 79), some (.int a), some (.int f), some (.int n), none] [] M
  by_cases hb : okShe a f n
  · obtain ⟨g1, g2, g3⟩ := id hb
    have g2' := in3.mpr g2
    by_cases hn : n < 0
    · have hr : r_sheet s a f n = -10 - 5 := by unfold r_sheet; rw [if_pos hb, if_pos hn]
      have hnx : n_sheet s a f n = s_fi s 5 := by unfold n_sheet; rw [if_pos hb, if_pos hn]
      rw [hr, hnx] at k
      refine jx_iload1 (pc := 0) d_R_sheet_0 ?_
      refine jx_callS1 (pc := 1) (d' := 1) so_R_isSheet lk_R_135 d_R_sheet_1 (by omega) (Nat.le_of_ble_eq_true rfl) ?_
      refine c_R_isSheet ?_
      refine jx_r1 ?_
      refine jx_if_eq (pc := 4) 22 d_R_sheet_4 (by decide) (fun c4 => absurd c4 (z01p g1)) (fun c4 => ?_)
      refine jx_iload2 (pc := 7) d_R_sheet_7 ?_
      refine jx_iconst (pc := 8) (v := 0) d_R_sheet_8 (by decide) ?_
      refine jx_iconst (pc := 9) (v := 2) d_R_sheet_9 (by decide) ?_
      refine jx_callS3 (pc := 10) (d' := 0) so_R_in lk_R_95 d_R_sheet_10 (by omega) (Nat.le_of_ble_eq_true rfl) ?_
      refine c_R_in ?_
      refine jx_r1 ?_
      refine jx_if_eq (pc := 13) 22 d_R_sheet_13 (by decide) (fun c13 => absurd c13 (z01p g2')) (fun c13 => ?_)
      refine jx_iload3 (pc := 16) d_R_sheet_16 ?_
      refine jx_bipush (pc := 17) (v := 48) d_R_sheet_17 (by decide) ?_
      refine jx_icmp_le (pc := 19) 25 d_R_sheet_19 (by decide) (fun c19 => ?_) (fun c19 => absurd c19 (fun q => q g3))
      refine jx_iload3 (pc := 25) d_R_sheet_25 ?_
      refine jx_if_ge (pc := 26) 35 d_R_sheet_26 (by decide) (fun c26 => absurd c26 (Int32.not_le.mpr hn)) (fun c26 => ?_)
      refine jx_aload0 (pc := 29) d_R_sheet_29 ?_
      refine jx_iconst (pc := 30) (v := 5) d_R_sheet_30 (by decide) ?_
      refine jx_callV1 (pc := 31) (d' := 0) vo_R_meets lk_R_138 d_R_sheet_31 ad_79 sh_79 rfl (by omega) (Nat.le_of_ble_eq_true rfl) ?_
      refine c_R_meets ?_
      refine jx_r1 ?_
      refine jx_iret (pc := 34) hX rfl d_R_sheet_34 ?_
      rotate_left
      exact k _ (hR.fi 5) lo_fi
    · have hr : r_sheet s a f n = n := by unfold r_sheet; rw [if_pos hb, if_neg hn]
      have hnx : n_sheet s a f n = s_sh s (upN (g_fo s) (cl a) (cl f)) (upN (g_si s) (cl a) (cl n)) (fun q i => if q = cl a then 0 else g_it s q i) := by unfold n_sheet; rw [if_pos hb, if_neg hn]
      rw [hr, hnx] at k
      obtain ⟨q, hq, rfl, ea⟩ := okd a 4 (by omega) g1
      obtain ⟨c, hc, rfl, ec⟩ := okd f 3 (by omega) g2
      obtain ⟨m, hm, rfl⟩ := le_of (n := 48) (by omega) (Int32.not_lt.mp hn) g3
      rw [ea, ec, show cl (nI m) = m from nI_cl (by omega)] at k
      have hvq : vp_in (nI q) 4 := vp_in_nI hq (by omega)
      have eq1 : (nI q).toNatClampNeg = q := ea
      have loop : ∀ (r i : Nat) (M2 : j_M), i + r = 48 → (∀ b, b < 99 → M2 b = M b) → M2 99 = upd (M 99) q 1 → M2 100 = upd (M 100) q (nI c) → M2 101 = upd (M 101) q (nI m) → (∀ z, M2 102 z = if 48 * q ≤ z ∧ z < 48 * q + i then 0 else M 102 z) → j_W (d + 2) I_R_sheet X 59 [some (.ref 79), some (.int (nI q)), some (.int (nI c)), some (.int (nI m)), some (.int (nI i))] [] M2 := by
        intro r
        induction r with
        | zero =>
          intro i M2 hi f0 f1 f2 f3 f4
          have hi' : i = 48 := by omega
          subst hi'
          refine jx_iload4 (pc := 59) d_R_sheet_59 ?_
          refine jx_bipush (pc := 61) (v := 48) d_R_sheet_61 (by decide) ?_
          refine jx_icmp_ge (pc := 63) 85 d_R_sheet_63 (by decide) (fun c63 => ?_) (fun c63 => absurd c63 (fun q => q (show nI 48 ≤ nI 48 from Int32.le_refl _)))
          refine jx_iload3 (pc := 85) d_R_sheet_85 ?_
          refine jx_iret (pc := 86) hX rfl d_R_sheet_86 ?_
          rotate_left
          refine k M2 (hR.sh (fun z hz => ?_) f0) (fun b hb => f0 b (by omega))
          obtain ⟨p1, p2, p3, p4⟩ := hR.h z hz
          rw [f1, f2, f3]
          unfold upd upN
          by_cases hz2 : z = q
          · subst hz2
            rw [if_pos rfl, if_pos rfl, if_pos rfl, if_pos rfl, if_pos rfl]
            refine ⟨by rw [if_neg (by omega)], fun _ => rfl, rfl, fun i hi => ?_⟩
            rw [f4, if_pos ⟨by omega, by omega⟩]
            show (0 : Int32) = if z = z then 0 else g_it s z i
            rw [if_pos rfl]
          · rw [if_neg hz2, if_neg hz2, if_neg hz2, if_neg hz2, if_neg hz2]
            refine ⟨p1, p2, p3, fun i hi => ?_⟩
            rw [f4, if_neg (by omega)]
            show M 102 (48 * z + i) = if z = q then 0 else g_it s z i
            rw [if_neg hz2]; exact p4 i hi
        | succ r ih =>
          intro i M2 hi f0 f1 f2 f3 f4
          have ex : ((48 : Int32) * nI q + nI i).toNatClampNeg = 48 * q + i := by rw [x48]; exact nI_cl (by omega)
          have hvx : vp_in ((48 : Int32) * nI q + nI i) 192 := by rw [x48]; exact vp_in_nI (by omega) (by omega)
          refine jx_iload4 (pc := 59) d_R_sheet_59 ?_
          refine jx_bipush (pc := 61) (v := 48) d_R_sheet_61 (by decide) ?_
          refine jx_icmp_ge (pc := 63) 85 d_R_sheet_63 (by decide) (fun c63 => absurd c63 (show ¬ nI 48 ≤ nI i from nI_ge (by omega) (by omega))) (fun c63 => ?_)
          refine jx_aload0 (pc := 66) d_R_sheet_66 ?_
          refine jx_getR (pc := 67) gf_R_77 d_R_sheet_67 ad_79 sh_79 rfl ?_
          refine jx_bipush (pc := 70) (v := 48) d_R_sheet_70 (by decide) ?_
          refine jx_iload1 (pc := 72) d_R_sheet_72 ?_
          refine jx_imul (pc := 73) d_R_sheet_73 ?_
          refine jx_iload4 (pc := 74) d_R_sheet_74 ?_
          refine jx_iadd (pc := 76) d_R_sheet_76 ?_
          refine jx_iconst (pc := 77) (v := 0) d_R_sheet_77 (by decide) ?_
          refine jx_iast (pc := 78) d_R_sheet_78 ad_102 sh_102 hvx ?_
          refine jx_iinc4 (pc := 79) d_R_sheet_79 rfl (Nat.le_of_ble_eq_true rfl) ?_
          refine jx_goto (pc := 82) 59 d_R_sheet_82 (by decide) ?_
          rotate_left
          rw [nI_add1, ex]
          refine ih (i + 1) _ (by omega) (fun b hb => by rw [j_set_n _ _ _ (by omega)]; exact f0 b hb) (by rw [j_set_n _ _ _ (by omega)]; exact f1) (by rw [j_set_n _ _ _ (by omega)]; exact f2) (by rw [j_set_n _ _ _ (by omega)]; exact f3) (fun z => ?_)
          rw [j_set_s]; unfold upd
          by_cases hz : z = 48 * q + i
          · rw [if_pos hz, if_pos (by omega)]
          · rw [if_neg hz, f4]
            by_cases hz2 : 48 * q ≤ z ∧ z < 48 * q + i
            · rw [if_pos hz2, if_pos (by omega)]
            · rw [if_neg hz2, if_neg (by omega)]
      refine jx_iload1 (pc := 0) d_R_sheet_0 ?_
      refine jx_callS1 (pc := 1) (d' := 1) so_R_isSheet lk_R_135 d_R_sheet_1 (by omega) (Nat.le_of_ble_eq_true rfl) ?_
      refine c_R_isSheet ?_
      refine jx_r1 ?_
      refine jx_if_eq (pc := 4) 22 d_R_sheet_4 (by decide) (fun c4 => absurd c4 (z01p g1)) (fun c4 => ?_)
      refine jx_iload2 (pc := 7) d_R_sheet_7 ?_
      refine jx_iconst (pc := 8) (v := 0) d_R_sheet_8 (by decide) ?_
      refine jx_iconst (pc := 9) (v := 2) d_R_sheet_9 (by decide) ?_
      refine jx_callS3 (pc := 10) (d' := 0) so_R_in lk_R_95 d_R_sheet_10 (by omega) (Nat.le_of_ble_eq_true rfl) ?_
      refine c_R_in ?_
      refine jx_r1 ?_
      refine jx_if_eq (pc := 13) 22 d_R_sheet_13 (by decide) (fun c13 => absurd c13 (z01p g2')) (fun c13 => ?_)
      refine jx_iload3 (pc := 16) d_R_sheet_16 ?_
      refine jx_bipush (pc := 17) (v := 48) d_R_sheet_17 (by decide) ?_
      refine jx_icmp_le (pc := 19) 25 d_R_sheet_19 (by decide) (fun c19 => ?_) (fun c19 => absurd c19 (fun q => q g3))
      refine jx_iload3 (pc := 25) d_R_sheet_25 ?_
      refine jx_if_ge (pc := 26) 35 d_R_sheet_26 (by decide) (fun c26 => ?_) (fun c26 => absurd c26 (fun q => q (Int32.not_lt.mp hn)))
      refine jx_aload0 (pc := 35) d_R_sheet_35 ?_
      refine jx_getR (pc := 36) gf_R_68 d_R_sheet_36 ad_79 sh_79 rfl ?_
      refine jx_iload1 (pc := 39) d_R_sheet_39 ?_
      refine jx_iconst (pc := 40) (v := 1) d_R_sheet_40 (by decide) ?_
      refine jx_zast (pc := 41) (by first | exact Or.inl rfl | exact Or.inr rfl) d_R_sheet_41 ad_99 sh_99 hvq ?_
      refine jx_aload0 (pc := 42) d_R_sheet_42 ?_
      refine jx_getR (pc := 43) gf_R_71 d_R_sheet_43 ad_79 sh_79 rfl ?_
      refine jx_iload1 (pc := 46) d_R_sheet_46 ?_
      refine jx_iload2 (pc := 47) d_R_sheet_47 ?_
      refine jx_iast (pc := 48) d_R_sheet_48 ad_100 sh_100 hvq ?_
      refine jx_aload0 (pc := 49) d_R_sheet_49 ?_
      refine jx_getR (pc := 50) gf_R_74 d_R_sheet_50 ad_79 sh_79 rfl ?_
      refine jx_iload1 (pc := 53) d_R_sheet_53 ?_
      refine jx_iload3 (pc := 54) d_R_sheet_54 ?_
      refine jx_iast (pc := 55) d_R_sheet_55 ad_101 sh_101 hvq ?_
      refine jx_iconst (pc := 56) (v := 0) d_R_sheet_56 (by decide) ?_
      refine jx_istore4 (pc := 57) d_R_sheet_57 rfl (Nat.le_of_ble_eq_true rfl) ?_
      rotate_left
      rw [eq1]
      exact loop 48 0 _ (by omega) (fun b hb => by rw [j_set_n _ _ _ (by omega), j_set_n _ _ _ (by omega), j_set_n _ _ _ (by omega)]) (by rw [j_set_n _ _ _ (by omega), j_set_n _ _ _ (by omega), j_set_s]) (by rw [j_set_n _ _ _ (by omega), j_set_s, j_set_n _ _ _ (by omega)]) (by rw [j_set_s, j_set_n _ _ _ (by omega), j_set_n _ _ _ (by omega)]) (fun z => by rw [j_set_n _ _ _ (by omega), j_set_n _ _ _ (by omega), j_set_n _ _ _ (by omega), if_neg (by omega)])
  · have hr : r_sheet s a f n = -2 := by unfold r_sheet; rw [if_neg hb]
    have hnx : n_sheet s a f n = s := by unfold n_sheet; rw [if_neg hb]
    rw [hr, hnx] at k
    refine jx_iload1 (pc := 0) d_R_sheet_0 ?_
    refine jx_callS1 (pc := 1) (d' := 1) so_R_isSheet lk_R_135 d_R_sheet_1 (by omega) (Nat.le_of_ble_eq_true rfl) ?_
    refine c_R_isSheet ?_
    refine jx_r1 ?_
    refine jx_if_eq (pc := 4) 22 d_R_sheet_4 (by decide) (fun c4 => ?_) (fun c4 => ?_)
    refine jx_bipush (pc := 22) (v := (-2)) d_R_sheet_22 (by decide) ?_
    refine jx_iret (pc := 24) hX rfl d_R_sheet_24 ?_
    rotate_left
    refine jx_iload2 (pc := 7) d_R_sheet_7 ?_
    refine jx_iconst (pc := 8) (v := 0) d_R_sheet_8 (by decide) ?_
    refine jx_iconst (pc := 9) (v := 2) d_R_sheet_9 (by decide) ?_
    refine jx_callS3 (pc := 10) (d' := 0) so_R_in lk_R_95 d_R_sheet_10 (by omega) (Nat.le_of_ble_eq_true rfl) ?_
    refine c_R_in ?_
    refine jx_r1 ?_
    refine jx_if_eq (pc := 13) 22 d_R_sheet_13 (by decide) (fun c13 => ?_) (fun c13 => ?_)
    refine jx_bipush (pc := 22) (v := (-2)) d_R_sheet_22 (by decide) ?_
    refine jx_iret (pc := 24) hX rfl d_R_sheet_24 ?_
    rotate_left
    refine jx_iload3 (pc := 16) d_R_sheet_16 ?_
    refine jx_bipush (pc := 17) (v := 48) d_R_sheet_17 (by decide) ?_
    refine jx_icmp_le (pc := 19) 25 d_R_sheet_19 (by decide) (fun c19 => ?_) (fun c19 => ?_)
    rotate_left
    refine jx_bipush (pc := 22) (v := (-2)) d_R_sheet_22 (by decide) ?_
    refine jx_iret (pc := 24) hX rfl d_R_sheet_24 ?_
    rotate_left
    · exact k M hR (fun _ _ => rfl)
    · exact k M hR (fun _ _ => rfl)
    · exact absurd ⟨z01n c4, in3.mp (z01n c13), c19⟩ hb
    · exact k M hR (fun _ _ => rfl)
theorem lostR {s : Sg} {M : j_M} (hR : RepR s M) {q : Nat} (hq : q < 4) : M 99 q = 0 ↔ g_fo s q = 9 := by
  have := (hR.h q hq).1
  rw [this]
  split
  · rename_i h; exact ⟨fun _ => h, fun _ => rfl⟩
  · rename_i h; exact ⟨fun z => absurd z (by decide), fun z => absurd z h⟩
theorem c_R_lose {d : Nat} {a : Int32} {s : Sg} {M : j_M} {Q : Option Value → j_M → Prop} (hR : RepR s M) (k : ∀ M', RepR (n_lose s a) M' → Lo M M' → Q (some (.int (r_lose s a))) M') : j_Ct (d + 2) I_R_lose [.ref 79, .int a] M Q := by
  refine j_met (by decide +kernel) co_R_lose (Nat.le_of_ble_eq_true rfl) (fun X hX => ?_)
  show j_W (d + 2) I_R_lose X 0 [some (.ref 79), some (.int a)] [] M
  by_cases hb : okPl a
  · obtain ⟨q, hq, rfl, ea⟩ := okd a 4 (by omega) hb
    have hvq : vp_in (nI q) 4 := vp_in_nI hq (by omega)
    obtain ⟨h1, h2, h3, h4⟩ := hR.h q hq
    have hL := lostR hR hq
    have eq1 : (nI q).toNatClampNeg = q := ea
    by_cases h9 : g_fo s q = 9
    · have hr : r_lose s (nI q) = -10 - 1 := by unfold r_lose; rw [if_pos hb, ea, if_pos h9]
      have hnx : n_lose s (nI q) = s_fi s 1 := by unfold n_lose; rw [if_pos hb, ea, if_pos h9]
      rw [hr, hnx] at k
      have hL9 : M 99 (nI q).toNatClampNeg = 0 := by rw [eq1]; exact hL.mpr h9
      refine jx_iload1 (pc := 0) d_R_lose_0 ?_
      refine jx_callS1 (pc := 1) (d' := 1) so_R_isSheet lk_R_135 d_R_lose_1 (by omega) (Nat.le_of_ble_eq_true rfl) ?_
      refine c_R_isSheet ?_
      refine jx_r1 ?_
      refine jx_if_ne (pc := 4) 10 d_R_lose_4 (by decide) (fun c4 => ?_) (fun c4 => absurd c4 (z01p hb))
      refine jx_aload0 (pc := 10) d_R_lose_10 ?_
      refine jx_getR (pc := 11) gf_R_68 d_R_lose_11 ad_79 sh_79 rfl ?_
      refine jx_iload1 (pc := 14) d_R_lose_14 ?_
      refine jx_zald (pc := 15) d_R_lose_15 ad_99 sh_99 (by first | assumption | exact vp_in_nI (by omega) (by omega)) ?_
      refine jx_if_ne (pc := 16) 25 d_R_lose_16 (by decide) (fun c16 => absurd c16 (fun z => z hL9)) (fun c16 => ?_)
      refine jx_aload0 (pc := 19) d_R_lose_19 ?_
      refine jx_iconst (pc := 20) (v := 1) d_R_lose_20 (by decide) ?_
      refine jx_callV1 (pc := 21) (d' := 0) vo_R_meets lk_R_138 d_R_lose_21 ad_79 sh_79 rfl (by omega) (Nat.le_of_ble_eq_true rfl) ?_
      refine c_R_meets ?_
      refine jx_r1 ?_
      refine jx_iret (pc := 24) hX rfl d_R_lose_24 ?_
      rotate_left
      exact k _ (hR.fi 1) lo_fi
    · have hr : r_lose s (nI q) = nI (g_si s q) := by unfold r_lose; rw [if_pos hb, ea, if_neg h9]
      have hnx : n_lose s (nI q) = s_sh s (upN (g_fo s) q 9) (g_si s) (g_it s) := by unfold n_lose; rw [if_pos hb, ea, if_neg h9]
      rw [hr, hnx] at k
      have hL9 : ¬ M 99 (nI q).toNatClampNeg = 0 := by rw [eq1]; exact fun z => h9 (hL.mp z)
      refine jx_iload1 (pc := 0) d_R_lose_0 ?_
      refine jx_callS1 (pc := 1) (d' := 1) so_R_isSheet lk_R_135 d_R_lose_1 (by omega) (Nat.le_of_ble_eq_true rfl) ?_
      refine c_R_isSheet ?_
      refine jx_r1 ?_
      refine jx_if_ne (pc := 4) 10 d_R_lose_4 (by decide) (fun c4 => ?_) (fun c4 => absurd c4 (z01p hb))
      refine jx_aload0 (pc := 10) d_R_lose_10 ?_
      refine jx_getR (pc := 11) gf_R_68 d_R_lose_11 ad_79 sh_79 rfl ?_
      refine jx_iload1 (pc := 14) d_R_lose_14 ?_
      refine jx_zald (pc := 15) d_R_lose_15 ad_99 sh_99 (by first | assumption | exact vp_in_nI (by omega) (by omega)) ?_
      refine jx_if_ne (pc := 16) 25 d_R_lose_16 (by decide) (fun c16 => ?_) (fun c16 => absurd c16 hL9)
      refine jx_aload0 (pc := 25) d_R_lose_25 ?_
      refine jx_getR (pc := 26) gf_R_68 d_R_lose_26 ad_79 sh_79 rfl ?_
      refine jx_iload1 (pc := 29) d_R_lose_29 ?_
      refine jx_iconst (pc := 30) (v := 0) d_R_lose_30 (by decide) ?_
      refine jx_zast (pc := 31) (by first | exact Or.inl rfl | exact Or.inr rfl) d_R_lose_31 ad_99 sh_99 (by first | assumption | exact vp_in_nI (by omega) (by omega)) ?_
      refine jx_aload0 (pc := 32) d_R_lose_32 ?_
      refine jx_getR (pc := 33) gf_R_74 d_R_lose_33 ad_79 sh_79 rfl ?_
      refine jx_iload1 (pc := 36) d_R_lose_36 ?_
      refine jx_iald (pc := 37) d_R_lose_37 ad_101 sh_101 (by first | assumption | exact vp_in_nI (by omega) (by omega)) ?_
      refine jx_iret (pc := 38) hX rfl d_R_lose_38 ?_
      rotate_left
      rw [eq1, j_set_n _ _ _ (by omega), h3]
      refine k _ (hR.sh (fun z hz => ?_) (fun b hb => j_set_n _ _ _ (by omega))) (fun b hb => j_set_n _ _ _ (by omega))
      obtain ⟨p1, p2, p3, p4⟩ := hR.h z hz
      rw [j_set_s, j_set_n _ _ _ (by omega), j_set_n _ _ _ (by omega), j_set_n _ _ _ (by omega)]
      unfold upd upN
      by_cases hz2 : z = q
      · rw [if_pos hz2, if_pos hz2]; exact ⟨by rw [if_pos rfl], fun w => absurd rfl w, p3, p4⟩
      · rw [if_neg hz2, if_neg hz2]; exact ⟨p1, p2, p3, p4⟩
  · have hr : r_lose s a = -2 := by unfold r_lose; rw [if_neg hb]
    have hnx : n_lose s a = s := by unfold n_lose; rw [if_neg hb]
    rw [hr, hnx] at k
    refine jx_iload1 (pc := 0) d_R_lose_0 ?_
    refine jx_callS1 (pc := 1) (d' := 1) so_R_isSheet lk_R_135 d_R_lose_1 (by omega) (Nat.le_of_ble_eq_true rfl) ?_
    refine c_R_isSheet ?_
    refine jx_r1 ?_
    refine jx_if_ne (pc := 4) 10 d_R_lose_4 (by decide) (fun c4 => absurd c4 (fun q => q (z01.mpr hb))) (fun c4 => ?_)
    refine jx_bipush (pc := 7) (v := (-2)) d_R_lose_7 (by decide) ?_
    refine jx_iret (pc := 9) hX rfl d_R_lose_9 ?_
    rotate_left
    exact k M hR (fun _ _ => rfl)
theorem c_R_lacks {d q : Nat} {f i : Int32} {s : Sg} {M : j_M} {Q : Option Value → j_M → Prop} (hw : WF s) (hR : RepR s M) (hq : q < 4) (k : Q (some (.int (lkS s q f i))) M) : j_Ct (d + 1) I_R_lacks [.ref 79, .int (nI q), .int f, .int i] M Q := by
  refine j_met (by decide +kernel) co_R_lacks (Nat.le_of_ble_eq_true rfl) (fun X hX => ?_)
  show j_W (d + 1) I_R_lacks X 0 [some (.ref 79), some (.int (nI q)), some (.int f), some (.int i)] [] M
  have hvq : vp_in (nI q) 4 := vp_in_nI hq (by omega)
  obtain ⟨h1, h2, h3, h4⟩ := hR.h q hq
  have hL := lostR hR hq
  have hfo := fo_lt hw q
  have eq1 : (nI q).toNatClampNeg = q := nI_cl (by omega)
  by_cases h9 : g_fo s q = 9
  · have hl : lkS s q f i = 1 := by unfold lkS; rw [if_pos h9]
    rw [hl] at k
    have hL9 : M 99 (nI q).toNatClampNeg = 0 := by rw [eq1]; exact hL.mpr h9
    refine jx_aload0 (pc := 0) d_R_lacks_0 ?_
    refine jx_getR (pc := 1) gf_R_68 d_R_lacks_1 ad_79 sh_79 rfl ?_
    refine jx_iload1 (pc := 4) d_R_lacks_4 ?_
    refine jx_zald (pc := 5) d_R_lacks_5 ad_99 sh_99 (by first | assumption | exact vp_in_nI (by omega) (by omega)) ?_
    refine jx_if_ne (pc := 6) 13 d_R_lacks_6 (by decide) (fun c6 => absurd c6 (fun z => z hL9)) (fun c6 => ?_)
    refine jx_iconst (pc := 9) (v := 1) d_R_lacks_9 (by decide) ?_
    refine jx_goto (pc := 10) 48 d_R_lacks_10 (by decide) ?_
    refine jx_iret (pc := 48) hX rfl d_R_lacks_48 ?_
    rotate_left
    exact k
  · have hL9 : ¬ M 99 (nI q).toNatClampNeg = 0 := by rw [eq1]; exact fun z => h9 (hL.mp z)
    have h10 : M 100 (nI q).toNatClampNeg = nI (g_fo s q) := by rw [eq1]; exact h2 h9
    by_cases hf : f = nI (g_fo s q)
    · have e := le_m1 (h := i) (n := g_si s q) (by omega)
      by_cases hi : 0 ≤ i ∧ i < nI (g_si s q)
      · have hl : lkS s q f i = 0 := by unfold lkS; rw [if_neg h9, if_pos hf, if_neg (fun z => by rcases z with z | z; exact absurd hi.1 (Int32.not_le.mpr z); exact absurd hi.2 (Int32.not_lt.mpr z))]
        rw [hl] at k
        have hi2 := e.mpr hi
        rw [← h3, ← eq1] at hi2
        refine jx_aload0 (pc := 0) d_R_lacks_0 ?_
        refine jx_getR (pc := 1) gf_R_68 d_R_lacks_1 ad_79 sh_79 rfl ?_
        refine jx_iload1 (pc := 4) d_R_lacks_4 ?_
        refine jx_zald (pc := 5) d_R_lacks_5 ad_99 sh_99 (by first | assumption | exact vp_in_nI (by omega) (by omega)) ?_
        refine jx_if_ne (pc := 6) 13 d_R_lacks_6 (by decide) (fun c6 => ?_) (fun c6 => absurd c6 hL9)
        refine jx_aload0 (pc := 13) d_R_lacks_13 ?_
        refine jx_getR (pc := 14) gf_R_71 d_R_lacks_14 ad_79 sh_79 rfl ?_
        refine jx_iload1 (pc := 17) d_R_lacks_17 ?_
        refine jx_iald (pc := 18) d_R_lacks_18 ad_100 sh_100 (by first | assumption | exact vp_in_nI (by omega) (by omega)) ?_
        refine jx_iload2 (pc := 19) d_R_lacks_19 ?_
        refine jx_icmp_eq (pc := 20) 27 d_R_lacks_20 (by decide) (fun c20 => ?_) (fun c20 => absurd c20 (fun z => z (h10.trans hf.symm)))
        refine jx_iload3 (pc := 27) d_R_lacks_27 ?_
        refine jx_iconst (pc := 28) (v := 0) d_R_lacks_28 (by decide) ?_
        refine jx_aload0 (pc := 29) d_R_lacks_29 ?_
        refine jx_getR (pc := 30) gf_R_74 d_R_lacks_30 ad_79 sh_79 rfl ?_
        refine jx_iload1 (pc := 33) d_R_lacks_33 ?_
        refine jx_iald (pc := 34) d_R_lacks_34 ad_101 sh_101 (by first | assumption | exact vp_in_nI (by omega) (by omega)) ?_
        refine jx_iconst (pc := 35) (v := 1) d_R_lacks_35 (by decide) ?_
        refine jx_isub (pc := 36) d_R_lacks_36 ?_
        refine jx_callS3 (pc := 37) (d' := 0) so_R_in lk_R_95 d_R_lacks_37 (by omega) (Nat.le_of_ble_eq_true rfl) ?_
        refine c_R_in ?_
        refine jx_r1 ?_
        refine jx_if_eq (pc := 40) 47 d_R_lacks_40 (by decide) (fun c40 => absurd c40 (z01p hi2)) (fun c40 => ?_)
        refine jx_iconst (pc := 43) (v := 0) d_R_lacks_43 (by decide) ?_
        refine jx_goto (pc := 44) 48 d_R_lacks_44 (by decide) ?_
        refine jx_iret (pc := 48) hX rfl d_R_lacks_48 ?_
        rotate_left
        exact k
      · have hl : lkS s q f i = 2 := by unfold lkS; rw [if_neg h9, if_pos hf, if_pos (by
          by_cases hi0 : i < 0
          · exact Or.inl hi0
          · exact Or.inr (Int32.not_lt.mp (fun z => hi ⟨Int32.not_lt.mp hi0, z⟩)))]
        rw [hl] at k
        have hi2 : ¬ (0 ≤ i ∧ i ≤ nI (g_si s q) - 1) := fun z => hi (e.mp z)
        rw [← h3, ← eq1] at hi2
        refine jx_aload0 (pc := 0) d_R_lacks_0 ?_
        refine jx_getR (pc := 1) gf_R_68 d_R_lacks_1 ad_79 sh_79 rfl ?_
        refine jx_iload1 (pc := 4) d_R_lacks_4 ?_
        refine jx_zald (pc := 5) d_R_lacks_5 ad_99 sh_99 (by first | assumption | exact vp_in_nI (by omega) (by omega)) ?_
        refine jx_if_ne (pc := 6) 13 d_R_lacks_6 (by decide) (fun c6 => ?_) (fun c6 => absurd c6 hL9)
        refine jx_aload0 (pc := 13) d_R_lacks_13 ?_
        refine jx_getR (pc := 14) gf_R_71 d_R_lacks_14 ad_79 sh_79 rfl ?_
        refine jx_iload1 (pc := 17) d_R_lacks_17 ?_
        refine jx_iald (pc := 18) d_R_lacks_18 ad_100 sh_100 (by first | assumption | exact vp_in_nI (by omega) (by omega)) ?_
        refine jx_iload2 (pc := 19) d_R_lacks_19 ?_
        refine jx_icmp_eq (pc := 20) 27 d_R_lacks_20 (by decide) (fun c20 => ?_) (fun c20 => absurd c20 (fun z => z (h10.trans hf.symm)))
        refine jx_iload3 (pc := 27) d_R_lacks_27 ?_
        refine jx_iconst (pc := 28) (v := 0) d_R_lacks_28 (by decide) ?_
        refine jx_aload0 (pc := 29) d_R_lacks_29 ?_
        refine jx_getR (pc := 30) gf_R_74 d_R_lacks_30 ad_79 sh_79 rfl ?_
        refine jx_iload1 (pc := 33) d_R_lacks_33 ?_
        refine jx_iald (pc := 34) d_R_lacks_34 ad_101 sh_101 (by first | assumption | exact vp_in_nI (by omega) (by omega)) ?_
        refine jx_iconst (pc := 35) (v := 1) d_R_lacks_35 (by decide) ?_
        refine jx_isub (pc := 36) d_R_lacks_36 ?_
        refine jx_callS3 (pc := 37) (d' := 0) so_R_in lk_R_95 d_R_lacks_37 (by omega) (Nat.le_of_ble_eq_true rfl) ?_
        refine c_R_in ?_
        refine jx_r1 ?_
        refine jx_if_eq (pc := 40) 47 d_R_lacks_40 (by decide) (fun c40 => ?_) (fun c40 => absurd c40 (fun z => z (z01.mpr hi2)))
        refine jx_iconst (pc := 47) (v := 2) d_R_lacks_47 (by decide) ?_
        refine jx_iret (pc := 48) hX rfl d_R_lacks_48 ?_
        rotate_left
        exact k
    · have hl : lkS s q f i = 3 := by unfold lkS; rw [if_neg h9, if_neg hf]
      rw [hl] at k
      refine jx_aload0 (pc := 0) d_R_lacks_0 ?_
      refine jx_getR (pc := 1) gf_R_68 d_R_lacks_1 ad_79 sh_79 rfl ?_
      refine jx_iload1 (pc := 4) d_R_lacks_4 ?_
      refine jx_zald (pc := 5) d_R_lacks_5 ad_99 sh_99 (by first | assumption | exact vp_in_nI (by omega) (by omega)) ?_
      refine jx_if_ne (pc := 6) 13 d_R_lacks_6 (by decide) (fun c6 => ?_) (fun c6 => absurd c6 hL9)
      refine jx_aload0 (pc := 13) d_R_lacks_13 ?_
      refine jx_getR (pc := 14) gf_R_71 d_R_lacks_14 ad_79 sh_79 rfl ?_
      refine jx_iload1 (pc := 17) d_R_lacks_17 ?_
      refine jx_iald (pc := 18) d_R_lacks_18 ad_100 sh_100 (by first | assumption | exact vp_in_nI (by omega) (by omega)) ?_
      refine jx_iload2 (pc := 19) d_R_lacks_19 ?_
      refine jx_icmp_eq (pc := 20) 27 d_R_lacks_20 (by decide) (fun c20 => absurd c20 (fun z => hf (z.symm.trans h10))) (fun c20 => ?_)
      refine jx_iconst (pc := 23) (v := 3) d_R_lacks_23 (by decide) ?_
      refine jx_goto (pc := 24) 48 d_R_lacks_24 (by decide) ?_
      refine jx_iret (pc := 48) hX rfl d_R_lacks_48 ?_
      rotate_left
      exact k
theorem c_R_keep {d q i fo : Nat} {v : Int32} {M : j_M} {Q : Option Value → j_M → Prop} (hq : q < 4) (hi : i < 48) (hfo : fo < 3) (h10 : M 100 q = nI fo) (k : Q none (j_set M 102 (48 * q + i) (fitF fo v))) : j_Ct d I_R_keep [.ref 79, .int (nI q), .int (nI i), .int v] M Q := by
  refine j_met (by decide +kernel) co_R_keep (Nat.le_of_ble_eq_true rfl) (fun X hX => ?_)
  show j_W d I_R_keep X 0 [some (.ref 79), some (.int (nI q)), some (.int (nI i)), some (.int v)] [] M
  have hvq : vp_in (nI q) 4 := vp_in_nI hq (by omega)
  have eq1 : (nI q).toNatClampNeg = q := nI_cl (by omega)
  have ex : ((48 : Int32) * nI q + nI i).toNatClampNeg = 48 * q + i := by rw [x48]; exact nI_cl (by omega)
  have hvx : vp_in ((48 : Int32) * nI q + nI i) 192 := by rw [x48]; exact vp_in_nI (by omega) (by omega)
  have h11 : M 100 (nI q).toNatClampNeg = nI fo := by rw [eq1]; exact h10
  have h3 : fo = 0 ∨ fo = 1 ∨ fo = 2 := by omega
  rcases h3 with rfl | rfl | rfl
  · -- bytes
    refine jx_aload0 (pc := 0) d_R_keep_0 ?_
    refine jx_getR (pc := 1) gf_R_77 d_R_keep_1 ad_79 sh_79 rfl ?_
    refine jx_bipush (pc := 4) (v := 48) d_R_keep_4 (by decide) ?_
    refine jx_iload1 (pc := 6) d_R_keep_6 ?_
    refine jx_imul (pc := 7) d_R_keep_7 ?_
    refine jx_iload2 (pc := 8) d_R_keep_8 ?_
    refine jx_iadd (pc := 9) d_R_keep_9 ?_
    refine jx_aload0 (pc := 10) d_R_keep_10 ?_
    refine jx_getR (pc := 11) gf_R_71 d_R_keep_11 ad_79 sh_79 rfl ?_
    refine jx_iload1 (pc := 14) d_R_keep_14 ?_
    refine jx_iald (pc := 15) d_R_keep_15 ad_100 sh_100 (by first | assumption | exact vp_in_nI (by omega) (by omega)) ?_
    refine jx_if_ne (pc := 16) 24 d_R_keep_16 (by decide) (fun c16 => absurd c16 (fun z => z h11)) (fun c16 => ?_)
    refine jx_iload3 (pc := 19) d_R_keep_19 ?_
    refine jx_i2b (pc := 20) d_R_keep_20 ?_
    refine jx_goto (pc := 21) 40 d_R_keep_21 (by decide) ?_
    refine jx_iast (pc := 40) d_R_keep_40 ad_102 sh_102 hvx ?_
    refine jx_vret (pc := 41) hX rfl d_R_keep_41 ?_
    rotate_left
    rw [ex]; exact k
  · -- shorts
    refine jx_aload0 (pc := 0) d_R_keep_0 ?_
    refine jx_getR (pc := 1) gf_R_77 d_R_keep_1 ad_79 sh_79 rfl ?_
    refine jx_bipush (pc := 4) (v := 48) d_R_keep_4 (by decide) ?_
    refine jx_iload1 (pc := 6) d_R_keep_6 ?_
    refine jx_imul (pc := 7) d_R_keep_7 ?_
    refine jx_iload2 (pc := 8) d_R_keep_8 ?_
    refine jx_iadd (pc := 9) d_R_keep_9 ?_
    refine jx_aload0 (pc := 10) d_R_keep_10 ?_
    refine jx_getR (pc := 11) gf_R_71 d_R_keep_11 ad_79 sh_79 rfl ?_
    refine jx_iload1 (pc := 14) d_R_keep_14 ?_
    refine jx_iald (pc := 15) d_R_keep_15 ad_100 sh_100 (by first | assumption | exact vp_in_nI (by omega) (by omega)) ?_
    refine jx_if_ne (pc := 16) 24 d_R_keep_16 (by decide) (fun c16 => ?_) (fun c16 => absurd c16 (by rw [h11]; decide))
    refine jx_aload0 (pc := 24) d_R_keep_24 ?_
    refine jx_getR (pc := 25) gf_R_71 d_R_keep_25 ad_79 sh_79 rfl ?_
    refine jx_iload1 (pc := 28) d_R_keep_28 ?_
    refine jx_iald (pc := 29) d_R_keep_29 ad_100 sh_100 (by first | assumption | exact vp_in_nI (by omega) (by omega)) ?_
    refine jx_iconst (pc := 30) (v := 1) d_R_keep_30 (by decide) ?_
    refine jx_icmp_ne (pc := 31) 39 d_R_keep_31 (by decide) (fun c31 => absurd c31 (fun z => z h11)) (fun c31 => ?_)
    refine jx_iload3 (pc := 34) d_R_keep_34 ?_
    refine jx_i2s (pc := 35) d_R_keep_35 ?_
    refine jx_goto (pc := 36) 40 d_R_keep_36 (by decide) ?_
    refine jx_iast (pc := 40) d_R_keep_40 ad_102 sh_102 hvx ?_
    refine jx_vret (pc := 41) hX rfl d_R_keep_41 ?_
    rotate_left
    rw [ex]; exact k
  · -- ints
    refine jx_aload0 (pc := 0) d_R_keep_0 ?_
    refine jx_getR (pc := 1) gf_R_77 d_R_keep_1 ad_79 sh_79 rfl ?_
    refine jx_bipush (pc := 4) (v := 48) d_R_keep_4 (by decide) ?_
    refine jx_iload1 (pc := 6) d_R_keep_6 ?_
    refine jx_imul (pc := 7) d_R_keep_7 ?_
    refine jx_iload2 (pc := 8) d_R_keep_8 ?_
    refine jx_iadd (pc := 9) d_R_keep_9 ?_
    refine jx_aload0 (pc := 10) d_R_keep_10 ?_
    refine jx_getR (pc := 11) gf_R_71 d_R_keep_11 ad_79 sh_79 rfl ?_
    refine jx_iload1 (pc := 14) d_R_keep_14 ?_
    refine jx_iald (pc := 15) d_R_keep_15 ad_100 sh_100 (by first | assumption | exact vp_in_nI (by omega) (by omega)) ?_
    refine jx_if_ne (pc := 16) 24 d_R_keep_16 (by decide) (fun c16 => ?_) (fun c16 => absurd c16 (by rw [h11]; decide))
    refine jx_aload0 (pc := 24) d_R_keep_24 ?_
    refine jx_getR (pc := 25) gf_R_71 d_R_keep_25 ad_79 sh_79 rfl ?_
    refine jx_iload1 (pc := 28) d_R_keep_28 ?_
    refine jx_iald (pc := 29) d_R_keep_29 ad_100 sh_100 (by first | assumption | exact vp_in_nI (by omega) (by omega)) ?_
    refine jx_iconst (pc := 30) (v := 1) d_R_keep_30 (by decide) ?_
    refine jx_icmp_ne (pc := 31) 39 d_R_keep_31 (by decide) (fun c31 => ?_) (fun c31 => absurd c31 (by rw [h11]; decide))
    refine jx_iload3 (pc := 39) d_R_keep_39 ?_
    refine jx_iast (pc := 40) d_R_keep_40 ad_102 sh_102 hvx ?_
    refine jx_vret (pc := 41) hX rfl d_R_keep_41 ?_
    rotate_left
    rw [ex]; exact k
