/-! OPERATIONS on the state, and the parts of its faces -/
abbrev cl (x : Int32) : Nat := x.toNatClampNeg
def s_tx (s : Sg) (nb : Nat) (tx : Nat → Nat) : Sg := ((nb, tx), s.2)
def s_ta (s : Sg) (ta : Nat → Nat → Nat) : Sg := (s.1, (ta, s.2.1.2), s.2.2)
def s_wy (s : Sg) (wy : Nat → Nat) : Sg := (s.1, (s.2.1.1, wy), s.2.2)
def s_vi (s : Sg) (nv : Nat) (vd vh vt : Nat → Nat) : Sg := (s.1, s.2.1, (nv, vd, vh, vt), s.2.2.2)
def s_se (s : Sg) (ns : Nat) (sd sh : Nat → Nat) : Sg := (s.1, s.2.1, s.2.2.1, (ns, sd, sh), s.2.2.2.2)
def s_sh (s : Sg) (fo si : Nat → Nat) (it : Nat → Nat → Int32) : Sg := (s.1, s.2.1, s.2.2.1, s.2.2.2.1, (fo, si, it), s.2.2.2.2.2)
def s_fi (s : Sg) (f : Int32) : Sg := (s.1, s.2.1, s.2.2.1, s.2.2.2.1, s.2.2.2.2.1, f)
theorem HeC.cong {nb : Nat} {tx : Nat → Nat} {M M' : j_M} (h : HeC nb tx M) (h1 : M' 1 = M 1) (h2 : M' 2 = M 2) (h3 : M' 3 = M 3) : HeC nb tx M' := by unfold HeC at *; rw [h1, h2, h3]; exact h
theorem ViC.cong {nv : Nat} {vd vh vt : Nat → Nat} {M M' : j_M} (h : ViC nv vd vh vt M) (hc : ∀ b, 4 ≤ b → b ≤ 9 → M' b = M b) : ViC nv vd vh vt M' := by
  unfold ViC at *; rw [hc 4 (by omega) (by omega), hc 5 (by omega) (by omega), hc 6 (by omega) (by omega), hc 7 (by omega) (by omega), hc 8 (by omega) (by omega), hc 9 (by omega) (by omega)]; exact h
theorem SeenC.cong {ns : Nat} {sd sh : Nat → Nat} {M M' : j_M} (h : SeenC ns sd sh M) (h1 : M' 17 = M 17) (h2 : M' 18 = M 18) : SeenC ns sd sh M' := by unfold SeenC at *; rw [h1, h2]; exact h
theorem ShC.cong {fo si : Nat → Nat} {it : Nat → Nat → Int32} {fi : Int32} {M M' : j_M} (h : ShC fo si it fi M) (hc : ∀ b, 23 ≤ b → b ≤ 30 → M' b = M b) : ShC fo si it fi M' := by
  unfold ShC at *
  refine ⟨fun q hq => ?_, ?_⟩
  · rw [hc 24 (by omega) (by omega), hc 25 (by omega) (by omega), hc (27 + q) (by omega) (by omega)]; exact h.1 q hq
  · rw [hc 23 (by omega) (by omega)]; exact h.2
theorem RepC.he {s : Sg} {M M' : j_M} (h : RepC s M) {nb : Nat} {tx : Nat → Nat} (h2 : HeC nb tx M') (ho : ∀ b, b ≠ 1 → b ≠ 2 → b ≠ 3 → b < 31 → M' b = M b) : RepC (s_tx s nb tx) M' := by
  obtain ⟨a1, a2, a3, a4, a5, a6⟩ := h
  exact ⟨h2, fun d t hd ht => by rw [ho _ (by omega) (by omega) (by omega) (by omega)]; exact a2 d t hd ht, fun k hk => by rw [ho _ (by omega) (by omega) (by omega) (by omega)]; exact a3 k hk, a4.cong (fun b h1 h2 => ho b (by omega) (by omega) (by omega) (by omega)), a5.cong (ho _ (by omega) (by omega) (by omega) (by omega)) (ho _ (by omega) (by omega) (by omega) (by omega)), a6.cong (fun b h1 h2 => ho b (by omega) (by omega) (by omega) (by omega))⟩
theorem RepC.ta {s : Sg} {M M' : j_M} (h : RepC s M) {ta : Nat → Nat → Nat} (h2 : ∀ d t, d < 2 → t < 3 → M' (12 + d) t = nI (ta d t)) (ho : ∀ b, b ≠ 12 → b ≠ 13 → b < 31 → M' b = M b) : RepC (s_ta s ta) M' := by
  obtain ⟨a1, a2, a3, a4, a5, a6⟩ := h
  exact ⟨a1.cong (ho _ (by omega) (by omega) (by omega)) (ho _ (by omega) (by omega) (by omega)) (ho _ (by omega) (by omega) (by omega)), h2, fun k hk => by rw [ho _ (by omega) (by omega) (by omega)]; exact a3 k hk, a4.cong (fun b h1 h2 => ho b (by omega) (by omega) (by omega)), a5.cong (ho _ (by omega) (by omega) (by omega)) (ho _ (by omega) (by omega) (by omega)), a6.cong (fun b h1 h2 => ho b (by omega) (by omega) (by omega))⟩
theorem RepC.wy {s : Sg} {M M' : j_M} (h : RepC s M) {wy : Nat → Nat} (h2 : ∀ k, k < 5 → M' 10 k = nI (wy k)) (ho : ∀ b, b ≠ 10 → b < 31 → M' b = M b) : RepC (s_wy s wy) M' := by
  obtain ⟨a1, a2, a3, a4, a5, a6⟩ := h
  exact ⟨a1.cong (ho _ (by omega) (by omega)) (ho _ (by omega) (by omega)) (ho _ (by omega) (by omega)), fun d t hd ht => by rw [ho _ (by omega) (by omega)]; exact a2 d t hd ht, h2, a4.cong (fun b h1 h2 => ho b (by omega) (by omega)), a5.cong (ho _ (by omega) (by omega)) (ho _ (by omega) (by omega)), a6.cong (fun b h1 h2 => ho b (by omega) (by omega))⟩
theorem RepC.vi {s : Sg} {M M' : j_M} (h : RepC s M) {nv : Nat} {vd vh vt : Nat → Nat} (h2 : ViC nv vd vh vt M') (ho : ∀ b, b < 4 ∨ 9 < b → b < 31 → M' b = M b) : RepC (s_vi s nv vd vh vt) M' := by
  obtain ⟨a1, a2, a3, a4, a5, a6⟩ := h
  exact ⟨a1.cong (ho _ (by omega) (by omega)) (ho _ (by omega) (by omega)) (ho _ (by omega) (by omega)), fun d t hd ht => by rw [ho _ (by omega) (by omega)]; exact a2 d t hd ht, fun k hk => by rw [ho _ (by omega) (by omega)]; exact a3 k hk, h2, a5.cong (ho _ (by omega) (by omega)) (ho _ (by omega) (by omega)), a6.cong (fun b h1 h2 => ho b (by omega) (by omega))⟩
theorem RepC.se {s : Sg} {M M' : j_M} (h : RepC s M) {ns : Nat} {sd sh : Nat → Nat} (h2 : SeenC ns sd sh M') (ho : ∀ b, b ≠ 17 → b ≠ 18 → b < 31 → M' b = M b) : RepC (s_se s ns sd sh) M' := by
  obtain ⟨a1, a2, a3, a4, a5, a6⟩ := h
  exact ⟨a1.cong (ho _ (by omega) (by omega) (by omega)) (ho _ (by omega) (by omega) (by omega)) (ho _ (by omega) (by omega) (by omega)), fun d t hd ht => by rw [ho _ (by omega) (by omega) (by omega)]; exact a2 d t hd ht, fun k hk => by rw [ho _ (by omega) (by omega) (by omega)]; exact a3 k hk, a4.cong (fun b h1 h2 => ho b (by omega) (by omega) (by omega)), h2, a6.cong (fun b h1 h2 => ho b (by omega) (by omega) (by omega))⟩
theorem RepC.sh {s : Sg} {M M' : j_M} (h : RepC s M) {fo si : Nat → Nat} {it : Nat → Nat → Int32} {fi : Int32} (h2 : ShC fo si it fi M') (ho : ∀ b, b < 23 → M' b = M b) : RepC (s_fi (s_sh s fo si it) fi) M' := by
  obtain ⟨a1, a2, a3, a4, a5, a6⟩ := h
  exact ⟨a1.cong (ho _ (by omega)) (ho _ (by omega)) (ho _ (by omega)), fun d t hd ht => by rw [ho _ (by omega)]; exact a2 d t hd ht, fun k hk => by rw [ho _ (by omega)]; exact a3 k hk, a4.cong (fun b h1 h2 => ho b (by omega)), a5.cong (ho _ (by omega)) (ho _ (by omega)), h2⟩
theorem RepC.fi {s : Sg} {M : j_M} (h : RepC s M) (f : Int32) : RepC (s_fi s f) (j_set M 23 3 f) := by
  have h6 := h.2.2.2.2.2
  have := h.sh (fo := g_fo s) (si := g_si s) (it := g_it s) (fi := f) (M' := j_set M 23 3 f) ⟨fun q hq => by rw [j_set_n _ _ _ (by omega), j_set_n _ _ _ (by omega), j_set_n _ _ _ (by omega)]; exact h6.1 q hq, by simp [j_set_s, upd]⟩ (fun b hb => j_set_n _ _ _ (by omega))
  exact this
-- the operations: what they answer, what they leave

def r_type (s : Sg) (b : Int32) : Int32 := if 0 ≤ b ∧ b ≤ 255 then (if g_nb s < 23 then nI (g_nb s + 1) else -4) else -2
def n_type (s : Sg) (b : Int32) : Sg := if (0 ≤ b ∧ b ≤ 255) ∧ g_nb s < 23 then s_tx s (g_nb s + 1) (upN (g_tx s) (g_nb s) (cl b)) else s
def n_wipe (s : Sg) : Sg := s_tx s 0 (g_tx s)
def r_undo (s : Sg) : Int32 := if g_nb s = 0 then -3 else nI (g_nb s - 1)
def n_undo (s : Sg) : Sg := if g_nb s = 0 then s else s_tx s (g_nb s - 1) (g_tx s)
def r_good (s : Sg) (h t : Int32) : Int32 := if (0 ≤ h ∧ h < nI (g_hn s)) ∧ (0 ≤ t ∧ t < 3) then nI (gdB (g_nb s) (g_tx s) (cl h) (cl t)) else -2
def tasteOk (dog t v : Int32) : Prop := (0 ≤ dog ∧ dog < 2) ∧ (0 ≤ t ∧ t < 3) ∧ 0 ≤ v ∧ v ≤ 9
def upT (ta : Nat → Nat → Nat) (d t v : Nat) : Nat → Nat → Nat := fun d' t' => if d' = d ∧ t' = t then v else ta d' t'
def setOk (w v : Int32) : Prop := (0 ≤ w ∧ w < 5) ∧ 0 ≤ v ∧ v ≤ j_wm (cl w)
def visOk (d h t : Int32) : Prop := (0 ≤ d ∧ d < 30) ∧ (0 ≤ h ∧ h < 6) ∧ (0 ≤ t ∧ t < 3)
theorem byte_of {b : Int32} (h : 0 ≤ b ∧ b ≤ 255) : ∃ j : Nat, j ≤ 255 ∧ b = nI j := by
  obtain ⟨j, hj, rfl⟩ := nI_of (x := b) (Int32.not_lt.mpr h.1)
  exact ⟨j, (nI_leI (b := 255) hj (by omega)).mp h.2, rfl⟩
theorem le_of {b : Int32} {n : Nat} (hn : n < 2 ^ 31) (h : 0 ≤ b) (h2 : b ≤ nI n) : ∃ j : Nat, j ≤ n ∧ b = nI j := by
  obtain ⟨j, hj, rfl⟩ := nI_of (x := b) (Int32.not_lt.mpr h)
  exact ⟨j, (nI_leI hj hn).mp h2, rfl⟩
theorem c_J_type {d : Nat} {b : Int32} {s : Sg} {M : j_M} {Q : Option Value → j_M → Prop} (hw : WF s) (hR : RepC s M) (k : ∀ M', RepC (n_type s b) M' → Hi M M' → Q (some (.int (r_type s b))) M') : j_Ct (d + 2) I_J_type [.ref 0, .int b] M Q := by
  refine j_met (by decide +kernel) co_J_type (Nat.le_of_ble_eq_true rfl) (fun X hX => ?_)
  show j_W (d + 2) I_J_type X 0 [some (.ref 0), some (.int b)] [] M
  obtain ⟨h1, h2, h3, h4, h5⟩ := id hR.1
  by_cases hb : 0 ≤ b ∧ b ≤ 255
  · obtain ⟨j, hj, rfl⟩ := byte_of hb
    have hb8 : ¬ nI j < 0 := nI_pos (by omega)
    by_cases hn : g_nb s < 23
    · have en : (M 1 2).toNatClampNeg = g_nb s := by rw [h1]; exact nI_cl (by omega)
      have hv : vp_in (M 1 2) 23 := by rw [h1]; exact vp_in_nI hn (by omega)
      have hr : r_type s (nI j) = nI (g_nb s + 1) := by unfold r_type; rw [if_pos hb, if_pos hn]
      have hnx : n_type s (nI j) = s_tx s (g_nb s + 1) (upN (g_tx s) (g_nb s) j) := by unfold n_type; rw [if_pos ⟨hb, hn⟩, show cl (nI j) = j from nI_cl (by omega)]
      rw [hr, hnx] at k
      refine jx_iload1 (pc := 0) d_J_type_0 ?_
      refine jx_if_lt (pc := 1) 11 d_J_type_1 (by decide) (fun c1 => absurd c1 hb8) (fun c1 => ?_)
      refine jx_iload1 (pc := 4) d_J_type_4 ?_
      refine jx_sipush (pc := 5) (v := 255) d_J_type_5 (by decide) ?_
      refine jx_icmp_le (pc := 8) 14 d_J_type_8 (by decide) (fun c8 => ?_) (fun c8 => absurd c8 (fun q => q hb.2))
      refine jx_aload0 (pc := 14) d_J_type_14 ?_
      refine jx_getR (pc := 15) gf_J_12 d_J_type_15 ad_0 sh_0 rfl ?_
      refine jx_getI (pc := 18) gf_J_88 d_J_type_18 ad_1 sh_1 rfl ?_
      refine jx_bipush (pc := 21) (v := 23) d_J_type_21 (by decide) ?_
      refine jx_icmp_lt (pc := 23) 29 d_J_type_23 (by decide) (fun c23 => ?_) (fun c23 => absurd c23 (fun q => q (by rw [h1]; exact nI_lt (b := 23) hn (by omega))))
      refine jx_aload0 (pc := 29) d_J_type_29 ?_
      refine jx_getR (pc := 30) gf_J_12 d_J_type_30 ad_0 sh_0 rfl ?_
      refine jx_getR (pc := 33) gf_J_92 d_J_type_33 ad_1 sh_1 rfl ?_
      refine jx_aload0 (pc := 36) d_J_type_36 ?_
      refine jx_getR (pc := 37) gf_J_12 d_J_type_37 ad_0 sh_0 rfl ?_
      refine jx_getI (pc := 40) gf_J_88 d_J_type_40 ad_1 sh_1 rfl ?_
      refine jx_iload1 (pc := 43) d_J_type_43 ?_
      refine jx_iast (pc := 44) d_J_type_44 ad_2 sh_2 hv ?_
      refine jx_aload0 (pc := 45) d_J_type_45 ?_
      refine jx_getR (pc := 46) gf_J_12 d_J_type_46 ad_0 sh_0 rfl ?_
      refine jx_dupr (pc := 49) d_J_type_49 ?_
      refine jx_getI (pc := 50) gf_J_88 d_J_type_50 ad_1 sh_1 rfl ?_
      refine jx_iconst (pc := 53) (v := 1) d_J_type_53 (by decide) ?_
      refine jx_iadd (pc := 54) d_J_type_54 ?_
      refine jx_putI (pc := 55) pf_J_88 d_J_type_55 ad_1 sh_1 rfl ?_
      refine jx_aload0 (pc := 58) d_J_type_58 ?_
      refine jx_getR (pc := 59) gf_J_12 d_J_type_59 ad_0 sh_0 rfl ?_
      refine jx_callV0 (pc := 62) (d' := d + 1) vo_He_understand lk_J_95 d_J_type_62 ad_1 sh_1 rfl (by omega) (Nat.le_of_ble_eq_true rfl) ?_
      refine c_He_understand (nb := g_nb s + 1) (tx := upN (g_tx s) (g_nb s) j) (by omega) (fun q => ?_) ?_ (fun i hi => ?_) (fun M2 hM2 hO2 => ?_)
      rotate_right
      refine jx_r0 ?_
      refine jx_aload0 (pc := 65) d_J_type_65 ?_
      refine jx_getR (pc := 66) gf_J_12 d_J_type_66 ad_0 sh_0 rfl ?_
      refine jx_getI (pc := 69) gf_J_88 d_J_type_69 ad_1 sh_1 rfl ?_
      refine jx_iret (pc := 72) hX rfl d_J_type_72 ?_
      rotate_left
      · unfold upN; split
        · exact hj
        · exact hw.2.1 q
      · simp only [j_set_s, upd, if_pos]
        rw [j_set_n _ _ _ (by omega), h1, nI_1]
      · rw [j_set_n _ _ _ (by omega), j_set_s, en]
        unfold upd upN
        by_cases hc : i = g_nb s
        · rw [if_pos hc, if_pos hc]
        · rw [if_neg hc, if_neg hc]; exact h4 i (by omega)
      · have e2 : M2 1 2 = nI (g_nb s + 1) := hM2.1
        rw [e2]
        refine k M2 (hR.he hM2 (fun q g1 g2 g3 g4 => ?_)) (fun q hq => ?_)
        · rw [hO2 q g1 g3, j_set_n _ _ _ g1, j_set_n _ _ _ g2]
        · rw [hO2 q (by omega) (by omega), j_set_n _ _ _ (by omega), j_set_n _ _ _ (by omega)]
    · have hr : r_type s (nI j) = -4 := by unfold r_type; rw [if_pos hb, if_neg hn]
      have hnx : n_type s (nI j) = s := by unfold n_type; rw [if_neg (fun q => hn q.2)]
      rw [hr, hnx] at k
      refine jx_iload1 (pc := 0) d_J_type_0 ?_
      refine jx_if_lt (pc := 1) 11 d_J_type_1 (by decide) (fun c1 => absurd c1 hb8) (fun c1 => ?_)
      refine jx_iload1 (pc := 4) d_J_type_4 ?_
      refine jx_sipush (pc := 5) (v := 255) d_J_type_5 (by decide) ?_
      refine jx_icmp_le (pc := 8) 14 d_J_type_8 (by decide) (fun c8 => ?_) (fun c8 => absurd c8 (fun q => q hb.2))
      refine jx_aload0 (pc := 14) d_J_type_14 ?_
      refine jx_getR (pc := 15) gf_J_12 d_J_type_15 ad_0 sh_0 rfl ?_
      refine jx_getI (pc := 18) gf_J_88 d_J_type_18 ad_1 sh_1 rfl ?_
      refine jx_bipush (pc := 21) (v := 23) d_J_type_21 (by decide) ?_
      refine jx_icmp_lt (pc := 23) 29 d_J_type_23 (by decide) (fun c23 => absurd c23 (by rw [h1]; exact nI_nlt (a := g_nb s) (b := 23) (by omega) (by have := hw.1; omega))) (fun c23 => ?_)
      refine jx_bipush (pc := 26) (v := (-4)) d_J_type_26 (by decide) ?_
      refine jx_iret (pc := 28) hX rfl d_J_type_28 ?_
      rotate_left
      exact k M hR (fun _ _ => rfl)
  · have hr : r_type s b = -2 := by unfold r_type; rw [if_neg hb]
    have hnx : n_type s b = s := by unfold n_type; rw [if_neg (fun q => hb q.1)]
    rw [hr, hnx] at k
    refine jx_iload1 (pc := 0) d_J_type_0 ?_
    refine jx_if_lt (pc := 1) 11 d_J_type_1 (by decide) (fun c1 => ?_) (fun c1 => ?_)
    refine jx_bipush (pc := 11) (v := (-2)) d_J_type_11 (by decide) ?_
    refine jx_iret (pc := 13) hX rfl d_J_type_13 ?_
    rotate_left
    refine jx_iload1 (pc := 4) d_J_type_4 ?_
    refine jx_sipush (pc := 5) (v := 255) d_J_type_5 (by decide) ?_
    refine jx_icmp_le (pc := 8) 14 d_J_type_8 (by decide) (fun c8 => ?_) (fun c8 => ?_)
    rotate_left
    refine jx_bipush (pc := 11) (v := (-2)) d_J_type_11 (by decide) ?_
    refine jx_iret (pc := 13) hX rfl d_J_type_13 ?_
    rotate_left
    · exact k M hR (fun _ _ => rfl)
    · exact absurd ⟨Int32.not_lt.mp c1, c8⟩ hb
    · exact k M hR (fun _ _ => rfl)
theorem c_J_wipe {d : Nat} {s : Sg} {M : j_M} {Q : Option Value → j_M → Prop} (hw : WF s) (hR : RepC s M) (k : ∀ M', RepC (n_wipe s) M' → Hi M M' → Q (some (.int (nI (g_nb s)))) M') : j_Ct (d + 2) I_J_wipe [.ref 0] M Q := by
  refine j_met (by decide +kernel) co_J_wipe (Nat.le_of_ble_eq_true rfl) (fun X hX => ?_)
  show j_W (d + 2) I_J_wipe X 0 [some (.ref 0), none] [] M
  obtain ⟨h1, h2, h3, h4, h5⟩ := id hR.1
  refine jx_aload0 (pc := 0) d_J_wipe_0 ?_
  refine jx_getR (pc := 1) gf_J_12 d_J_wipe_1 ad_0 sh_0 rfl ?_
  refine jx_getI (pc := 4) gf_J_88 d_J_wipe_4 ad_1 sh_1 rfl ?_
  refine jx_istore1 (pc := 7) d_J_wipe_7 rfl (Nat.le_of_ble_eq_true rfl) ?_
  refine jx_aload0 (pc := 8) d_J_wipe_8 ?_
  refine jx_getR (pc := 9) gf_J_12 d_J_wipe_9 ad_0 sh_0 rfl ?_
  refine jx_iconst (pc := 12) (v := 0) d_J_wipe_12 (by decide) ?_
  refine jx_putI (pc := 13) pf_J_88 d_J_wipe_13 ad_1 sh_1 rfl ?_
  refine jx_aload0 (pc := 16) d_J_wipe_16 ?_
  refine jx_getR (pc := 17) gf_J_12 d_J_wipe_17 ad_0 sh_0 rfl ?_
  refine jx_callV0 (pc := 20) (d' := d + 1) vo_He_understand lk_J_95 d_J_wipe_20 ad_1 sh_1 rfl (by omega) (Nat.le_of_ble_eq_true rfl) ?_
  refine c_He_understand (nb := 0) (tx := g_tx s) (by omega) hw.2.1 (by simp [j_set_s, upd]; rfl) (fun i hi => absurd hi (by omega)) (fun M2 hM2 hO2 => ?_)
  refine jx_r0 ?_
  refine jx_iload1 (pc := 23) d_J_wipe_23 ?_
  refine jx_iret (pc := 24) hX rfl d_J_wipe_24 ?_
  rotate_left
  rw [h1]
  refine k M2 (hR.he hM2 (fun q g1 g2 g3 g4 => ?_)) (fun q hq => ?_)
  · rw [hO2 q g1 g3, j_set_n _ _ _ g1]
  · rw [hO2 q (by omega) (by omega), j_set_n _ _ _ (by omega)]
theorem c_J_undo {d : Nat} {s : Sg} {M : j_M} {Q : Option Value → j_M → Prop} (hw : WF s) (hR : RepC s M) (k : ∀ M', RepC (n_undo s) M' → Hi M M' → Q (some (.int (r_undo s))) M') : j_Ct (d + 2) I_J_undo [.ref 0] M Q := by
  refine j_met (by decide +kernel) co_J_undo (Nat.le_of_ble_eq_true rfl) (fun X hX => ?_)
  show j_W (d + 2) I_J_undo X 0 [some (.ref 0)] [] M
  obtain ⟨h1, h2, h3, h4, h5⟩ := id hR.1
  have hn := hw.1
  by_cases h0 : g_nb s = 0
  · have hr : r_undo s = -3 := by unfold r_undo; rw [if_pos h0]
    have hnx : n_undo s = s := by unfold n_undo; rw [if_pos h0]
    rw [hr, hnx] at k
    refine jx_aload0 (pc := 0) d_J_undo_0 ?_
    refine jx_getR (pc := 1) gf_J_12 d_J_undo_1 ad_0 sh_0 rfl ?_
    refine jx_getI (pc := 4) gf_J_88 d_J_undo_4 ad_1 sh_1 rfl ?_
    refine jx_if_gt (pc := 7) 13 d_J_undo_7 (by decide) (fun c7 => absurd c7 (by rw [h1, h0]; decide)) (fun c7 => ?_)
    refine jx_bipush (pc := 10) (v := (-3)) d_J_undo_10 (by decide) ?_
    refine jx_iret (pc := 12) hX rfl d_J_undo_12 ?_
    rotate_left
    exact k M hR (fun _ _ => rfl)
  · have hr : r_undo s = nI (g_nb s - 1) := by unfold r_undo; rw [if_neg h0]
    have hnx : n_undo s = s_tx s (g_nb s - 1) (g_tx s) := by unfold n_undo; rw [if_neg h0]
    rw [hr, hnx] at k
    have e1 : M 1 2 - 1 = nI (g_nb s - 1) := by rw [h1]; exact nI_sub (b := 1) (by omega)
    refine jx_aload0 (pc := 0) d_J_undo_0 ?_
    refine jx_getR (pc := 1) gf_J_12 d_J_undo_1 ad_0 sh_0 rfl ?_
    refine jx_getI (pc := 4) gf_J_88 d_J_undo_4 ad_1 sh_1 rfl ?_
    refine jx_if_gt (pc := 7) 13 d_J_undo_7 (by decide) (fun c7 => ?_) (fun c7 => absurd c7 (fun q => q (by rw [h1]; exact nI_lt (a := 0) (by omega) (by omega))))
    refine jx_aload0 (pc := 13) d_J_undo_13 ?_
    refine jx_getR (pc := 14) gf_J_12 d_J_undo_14 ad_0 sh_0 rfl ?_
    refine jx_dupr (pc := 17) d_J_undo_17 ?_
    refine jx_getI (pc := 18) gf_J_88 d_J_undo_18 ad_1 sh_1 rfl ?_
    refine jx_iconst (pc := 21) (v := 1) d_J_undo_21 (by decide) ?_
    refine jx_isub (pc := 22) d_J_undo_22 ?_
    refine jx_putI (pc := 23) pf_J_88 d_J_undo_23 ad_1 sh_1 rfl ?_
    refine jx_aload0 (pc := 26) d_J_undo_26 ?_
    refine jx_getR (pc := 27) gf_J_12 d_J_undo_27 ad_0 sh_0 rfl ?_
    refine jx_callV0 (pc := 30) (d' := d + 1) vo_He_understand lk_J_95 d_J_undo_30 ad_1 sh_1 rfl (by omega) (Nat.le_of_ble_eq_true rfl) ?_
    refine c_He_understand (nb := g_nb s - 1) (tx := g_tx s) (by omega) hw.2.1 (by simp [j_set_s, upd, e1]) (fun i hi => by rw [j_set_n _ _ _ (by omega)]; exact h4 i (by omega)) (fun M2 hM2 hO2 => ?_)
    refine jx_r0 ?_
    refine jx_aload0 (pc := 33) d_J_undo_33 ?_
    refine jx_getR (pc := 34) gf_J_12 d_J_undo_34 ad_0 sh_0 rfl ?_
    refine jx_getI (pc := 37) gf_J_88 d_J_undo_37 ad_1 sh_1 rfl ?_
    refine jx_iret (pc := 40) hX rfl d_J_undo_40 ?_
    rotate_left
    have e2 : M2 1 2 = nI (g_nb s - 1) := hM2.1
    rw [e2]
    refine k M2 (hR.he hM2 (fun q g1 g2 g3 g4 => ?_)) (fun q hq => ?_)
    · rw [hO2 q g1 g3, j_set_n _ _ _ g1]
    · rw [hO2 q (by omega) (by omega), j_set_n _ _ _ (by omega)]
theorem c_J_fault {d : Nat} {s : Sg} {M : j_M} {Q : Option Value → j_M → Prop} (hR : RepC s M) (k : Q (some (.int (fl99 (fltB (g_nb s) (g_tx s))))) M) : j_Ct d I_J_fault [.ref 0] M Q := by
  refine j_met (by decide +kernel) co_J_fault (Nat.le_of_ble_eq_true rfl) (fun X hX => ?_)
  show j_W d I_J_fault X 0 [some (.ref 0)] [] M
  refine jx_aload0 (pc := 0) d_J_fault_0 ?_
  refine jx_getR (pc := 1) gf_J_12 d_J_fault_1 ad_0 sh_0 rfl ?_
  refine jx_getI (pc := 4) gf_J_98 d_J_fault_4 ad_1 sh_1 rfl ?_
  refine jx_iret (pc := 7) hX rfl d_J_fault_7 ?_
  rotate_left
  rw [hR.1.2.2.1]; exact k
