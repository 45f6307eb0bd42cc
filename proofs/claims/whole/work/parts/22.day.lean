/-! THE COURT: how a mood begins, becomes another's; a day as told -/
def VisC (bs : Nat → List (Nat × Nat)) (M : j_M) : Prop := ∃ S : Nat → Nat, (∀ d, d ≤ 30 → M 9 d = nI (S d) ∧ S d ≤ 24) ∧ (∀ d, d < 30 → S (d + 1) = S d + (bs d).length) ∧ ∀ d, d < 30 → ∀ (j : Nat) (q : Nat × Nat), (bs d)[j]? = some q → ∃ v, v < 24 ∧ M 8 (S d + j) = nI v ∧ M 6 v = nI q.1 ∧ M 7 v = nI q.2 ∧ q.1 < 6 ∧ q.2 < 3
theorem VisC.cong {bs : Nat → List (Nat × Nat)} {M M' : j_M} (h : VisC bs M) (h6 : M' 6 = M 6) (h7 : M' 7 = M 7) (h8 : M' 8 = M 8) (h9 : M' 9 = M 9) : VisC bs M' := by
  unfold VisC at *
  rw [h6, h7, h8, h9]; exact h
theorem VisC.wf {bs : Nat → List (Nat × Nat)} {M : j_M} (h : VisC bs M) {d : Nat} (hd : d < 30) : (bs d).length ≤ 24 ∧ ∀ q ∈ bs d, q.1 < 6 ∧ q.2 < 3 := by
  obtain ⟨S, h1, h2, h3⟩ := h
  refine ⟨by have := (h1 (d + 1) (by omega)).2; have := h2 d hd; omega, fun q hq => ?_⟩
  obtain ⟨j, hj⟩ := List.getElem?_of_mem hq
  obtain ⟨v, -, -, -, -, h4, h5⟩ := h3 d hd j q hj
  exact ⟨h4, h5⟩
/-- all that a day asks of the memory -/
def CE (e : En) (sl : Nat) (bs : Nat → List (Nat × Nat)) (M : j_M) : Prop := EnvC e M ∧ VisC bs M ∧ M 10 3 = nI sl ∧ sl < 2 ^ 30
theorem CE.cong {e : En} {sl : Nat} {bs : Nat → List (Nat × Nat)} {M M' : j_M} (h : CE e sl bs M) (hc : ∀ b, b = 1 ∨ b = 3 ∨ b = 6 ∨ b = 7 ∨ b = 8 ∨ b = 9 ∨ b = 10 → M' b = M b) : CE e sl bs M' :=
  ⟨h.1.cong (hc 1 (by omega)) (hc 3 (by omega)) (hc 10 (by omega)), h.2.1.cong (hc 6 (by omega)) (hc 7 (by omega)) (hc 8 (by omega)) (hc 9 (by omega)), by rw [hc 10 (by omega)]; exact h.2.2.1, h.2.2.2⟩
theorem CE.off {e : En} {sl a : Nat} {bs : Nat → List (Nat × Nat)} {M M' : j_M} (hm : j_mo a) (h : CE e sl bs M) (hO : Off1 a M M') : CE e sl bs M' := by
  have hg := mo_ge hm
  exact h.cong (fun b hb => hO b (by omega) (by omega) (by omega) (by omega))
theorem c_Vi_heirAt {d p v : Nat} {M : j_M} {Q : Option Value → j_M → Prop} (hp : p < 24) (hv : v < 24) (h8 : M 8 p = nI v) (k : Q (some (.int (M 6 v))) M) : j_Ct d I_Vi_heirAt [.ref 4, .int (nI p)] M Q := by
  refine j_met (by decide +kernel) co_Vi_heirAt (Nat.le_of_ble_eq_true rfl) (fun X hX => ?_)
  show j_W d I_Vi_heirAt X 0 [some (.ref 4), some (.int (nI p))] [] M
  have e1 : (nI p).toNatClampNeg = p := nI_cl (by omega)
  have e2 : (nI v).toNatClampNeg = v := nI_cl (by omega)
  have v1 : vp_in (nI p) 24 := vp_in_nI hp (by omega)
  have v2 : vp_in (M 8 (nI p).toNatClampNeg) 24 := by rw [e1, h8]; exact vp_in_nI hv (by omega)
  refine jx_aload0 (pc := 0) d_Vi_heirAt_0 ?_
  refine jx_getR (pc := 1) gf_Vi_15 d_Vi_heirAt_1 ad_4 sh_4 rfl ?_
  refine jx_aload0 (pc := 4) d_Vi_heirAt_4 ?_
  refine jx_getR (pc := 5) gf_Vi_21 d_Vi_heirAt_5 ad_4 sh_4 rfl ?_
  refine jx_iload1 (pc := 8) d_Vi_heirAt_8 ?_
  refine jx_iald (pc := 9) d_Vi_heirAt_9 ad_8 sh_8 (by first | assumption | exact vp_in_nI (by omega) (by omega)) ?_
  refine jx_iald (pc := 10) d_Vi_heirAt_10 ad_6 sh_6 (by first | assumption | exact vp_in_nI (by omega) (by omega)) ?_
  refine jx_iret (pc := 11) hX rfl d_Vi_heirAt_11 ?_
  rotate_left
  rw [e1, h8, e2]; exact k
theorem c_Vi_thingAt {d p v : Nat} {M : j_M} {Q : Option Value → j_M → Prop} (hp : p < 24) (hv : v < 24) (h8 : M 8 p = nI v) (k : Q (some (.int (M 7 v))) M) : j_Ct d I_Vi_thingAt [.ref 4, .int (nI p)] M Q := by
  refine j_met (by decide +kernel) co_Vi_thingAt (Nat.le_of_ble_eq_true rfl) (fun X hX => ?_)
  show j_W d I_Vi_thingAt X 0 [some (.ref 4), some (.int (nI p))] [] M
  have e1 : (nI p).toNatClampNeg = p := nI_cl (by omega)
  have e2 : (nI v).toNatClampNeg = v := nI_cl (by omega)
  have v1 : vp_in (nI p) 24 := vp_in_nI hp (by omega)
  have v2 : vp_in (M 8 (nI p).toNatClampNeg) 24 := by rw [e1, h8]; exact vp_in_nI hv (by omega)
  refine jx_aload0 (pc := 0) d_Vi_thingAt_0 ?_
  refine jx_getR (pc := 1) gf_Vi_18 d_Vi_thingAt_1 ad_4 sh_4 rfl ?_
  refine jx_aload0 (pc := 4) d_Vi_thingAt_4 ?_
  refine jx_getR (pc := 5) gf_Vi_21 d_Vi_thingAt_5 ad_4 sh_4 rfl ?_
  refine jx_iload1 (pc := 8) d_Vi_thingAt_8 ?_
  refine jx_iald (pc := 9) d_Vi_thingAt_9 ad_8 sh_8 (by first | assumption | exact vp_in_nI (by omega) (by omega)) ?_
  refine jx_iald (pc := 10) d_Vi_thingAt_10 ad_7 sh_7 (by first | assumption | exact vp_in_nI (by omega) (by omega)) ?_
  refine jx_iret (pc := 11) hX rfl d_Vi_thingAt_11 ?_
  rotate_left
  rw [e1, h8, e2]; exact k
theorem c_Mo_begin {d a ta : Nat} {ts : Nat → Nat} {tr : Nat} {M : j_M} {Q : Option Value → j_M → Prop} (hm : j_mo a) (hta : ta < 35) (hts : j_sh ta = (1, 3, [])) (hM : ∀ t, t < 3 → M ta t = nI (ts t))
    (k : ∀ M', MoodAt M' a ts tr mo0 → Off1 a M M' → Q none M') : j_Ct d I_Mo_begin [.ref a, .ref ta, .int (em tr)] M Q := by
  refine j_met (by decide +kernel) co_Mo_begin (Nat.le_of_ble_eq_true rfl) (fun X hX => ?_)
  show j_W d I_Mo_begin X 0 [some (.ref a), some (.ref ta), some (.int (em tr)), none] [] M
  have hta' : ta < j_NA := by show ta < 104; omega
  have hge := mo_ge hm
  have loop2 : ∀ (r i : Nat) (M1 : j_M), i + r = 6 → Off1 a M M1 → M1 a 3 = em tr → M1 a 4 = 0 → M1 a 5 = -100 → M1 a 6 = -1 → (∀ t, t < 3 → M1 (a + 3) t = nI (ts t)) → (∀ j, j < i → M1 (a + 1) j = 0 ∧ M1 (a + 2) j = -1) → j_W d I_Mo_begin X 45 [some (.ref a), some (.ref ta), some (.int (em tr)), some (.int (nI i))] [] M1 := by
    intro r
    induction r with
    | zero =>
      intro i M1 hi hO g3 g4 g5 g6 gt gl
      refine jx_iload3 (pc := 45) d_Mo_begin_45 ?_
      refine jx_bipush (pc := 46) (v := 6) d_Mo_begin_46 (by decide) ?_
      refine jx_icmp_ge (pc := 48) 71 d_Mo_begin_48 (by decide) (fun c48 => ?_) (fun c48 => absurd c48 (fun q => q (show nI 6 ≤ nI i from nI_le (by omega) (by omega))))
      refine jx_vret (pc := 71) hX rfl d_Mo_begin_71 ?_
      rotate_left
      exact k M1 ⟨fun j hj => (gl j (by omega)).1, fun j hj => (gl j (by omega)).2, gt, g3, g4, g5, g6⟩ hO
    | succ r ih =>
      intro i M1 hi hO g3 g4 g5 g6 gt gl
      have e1 : (nI i).toNatClampNeg = i := nI_cl (by omega)
      have hv : vp_in (nI i) 6 := vp_in_nI (by omega) (by omega)
      refine jx_iload3 (pc := 45) d_Mo_begin_45 ?_
      refine jx_bipush (pc := 46) (v := 6) d_Mo_begin_46 (by decide) ?_
      refine jx_icmp_ge (pc := 48) 71 d_Mo_begin_48 (by decide) (fun c48 => absurd c48 (show ¬ nI 6 ≤ nI i from nI_ge (by omega) (by omega))) (fun c48 => ?_)
      refine jx_aload0 (pc := 51) d_Mo_begin_51 ?_
      refine jx_getR (pc := 52) gf_Mo_9 d_Mo_begin_52 (mo_a hm) (mo_s hm) rfl ?_
      refine jx_iload3 (pc := 55) d_Mo_begin_55 ?_
      refine jx_iconst (pc := 56) (v := 0) d_Mo_begin_56 (by decide) ?_
      refine jx_iast (pc := 57) d_Mo_begin_57 (mo_a1 hm) (mo_s1 hm) (by first | assumption | exact vp_in_nI (by omega) (by omega)) ?_
      refine jx_aload0 (pc := 58) d_Mo_begin_58 ?_
      refine jx_getR (pc := 59) gf_Mo_15 d_Mo_begin_59 (mo_a hm) (mo_s hm) rfl ?_
      refine jx_iload3 (pc := 62) d_Mo_begin_62 ?_
      refine jx_iconst (pc := 63) (v := (-1)) d_Mo_begin_63 (by decide) ?_
      refine jx_iast (pc := 64) d_Mo_begin_64 (mo_a2 hm) (mo_s2 hm) (by first | assumption | exact vp_in_nI (by omega) (by omega)) ?_
      refine jx_iinc3 (pc := 65) d_Mo_begin_65 rfl (Nat.le_of_ble_eq_true rfl) ?_
      refine jx_goto (pc := 68) 45 d_Mo_begin_68 (by decide) ?_
      rotate_left
      rw [nI_add1, e1]
      refine ih (i + 1) _ (by omega) (hO.tr ((Off1.set (Or.inr (Or.inl rfl))).tr (Off1.set (Or.inr (Or.inr (Or.inl rfl)))))) ?_ ?_ ?_ ?_ (fun t ht => ?_) (fun j hj => ?_)
      · rw [j_set_n _ _ _ (by omega), j_set_n _ _ _ (by omega)]; exact g3
      · rw [j_set_n _ _ _ (by omega), j_set_n _ _ _ (by omega)]; exact g4
      · rw [j_set_n _ _ _ (by omega), j_set_n _ _ _ (by omega)]; exact g5
      · rw [j_set_n _ _ _ (by omega), j_set_n _ _ _ (by omega)]; exact g6
      · rw [j_set_n _ _ _ (by omega), j_set_n _ _ _ (by omega)]; exact gt t ht
      · rw [j_set_n _ _ _ (show a + 1 ≠ a + 2 by omega), j_set_s, j_set_s, j_set_n _ _ _ (show a + 2 ≠ a + 1 by omega)]
        unfold upd
        by_cases h : j = i
        · rw [if_pos h, if_pos h]; exact ⟨rfl, rfl⟩
        · rw [if_neg h, if_neg h]; exact gl j (by omega)
  have loop1 : ∀ (r i : Nat) (M1 : j_M), i + r = 3 → Off1 a M M1 → M1 a 3 = em tr → M1 a 4 = 0 → M1 a 5 = -100 → M1 a 6 = -1 → (∀ j, j < i → M1 (a + 3) j = nI (ts j)) → j_W d I_Mo_begin X 23 [some (.ref a), some (.ref ta), some (.int (em tr)), some (.int (nI i))] [] M1 := by
    intro r
    induction r with
    | zero =>
      intro i M1 hi hO g3 g4 g5 g6 gt
      refine jx_iload3 (pc := 23) d_Mo_begin_23 ?_
      refine jx_iconst (pc := 24) (v := 3) d_Mo_begin_24 (by decide) ?_
      refine jx_icmp_ge (pc := 25) 43 d_Mo_begin_25 (by decide) (fun c25 => ?_) (fun c25 => absurd c25 (fun q => q (show nI 3 ≤ nI i from nI_le (by omega) (by omega))))
      refine jx_iconst (pc := 43) (v := 0) d_Mo_begin_43 (by decide) ?_
      refine jx_istore3 (pc := 44) d_Mo_begin_44 rfl (Nat.le_of_ble_eq_true rfl) ?_
      rotate_left
      exact loop2 6 0 M1 (by omega) hO g3 g4 g5 g6 (fun t ht => gt t (by omega)) (fun j hj => absurd hj (by omega))
    | succ r ih =>
      intro i M1 hi hO g3 g4 g5 g6 gt
      have e1 : (nI i).toNatClampNeg = i := nI_cl (by omega)
      have hv : vp_in (nI i) 3 := vp_in_nI (by omega) (by omega)
      refine jx_iload3 (pc := 23) d_Mo_begin_23 ?_
      refine jx_iconst (pc := 24) (v := 3) d_Mo_begin_24 (by decide) ?_
      refine jx_icmp_ge (pc := 25) 43 d_Mo_begin_25 (by decide) (fun c25 => absurd c25 (show ¬ nI 3 ≤ nI i from nI_ge (by omega) (by omega))) (fun c25 => ?_)
      refine jx_aload0 (pc := 28) d_Mo_begin_28 ?_
      refine jx_getR (pc := 29) gf_Mo_18 d_Mo_begin_29 (mo_a hm) (mo_s hm) rfl ?_
      refine jx_iload3 (pc := 32) d_Mo_begin_32 ?_
      refine jx_aload1 (pc := 33) d_Mo_begin_33 ?_
      refine jx_iload3 (pc := 34) d_Mo_begin_34 ?_
      refine jx_iald (pc := 35) d_Mo_begin_35 hta' hts (by first | assumption | exact vp_in_nI (by omega) (by omega)) ?_
      refine jx_iast (pc := 36) d_Mo_begin_36 (mo_a3 hm) (mo_s3 hm) (by first | assumption | exact vp_in_nI (by omega) (by omega)) ?_
      refine jx_iinc3 (pc := 37) d_Mo_begin_37 rfl (Nat.le_of_ble_eq_true rfl) ?_
      refine jx_goto (pc := 40) 23 d_Mo_begin_40 (by decide) ?_
      rotate_left
      rw [nI_add1, e1]
      refine ih (i + 1) _ (by omega) (hO.tr (Off1.set (Or.inr (Or.inr (Or.inr rfl))))) ?_ ?_ ?_ ?_ (fun j hj => ?_)
      · rw [j_set_n _ _ _ (by omega)]; exact g3
      · rw [j_set_n _ _ _ (by omega)]; exact g4
      · rw [j_set_n _ _ _ (by omega)]; exact g5
      · rw [j_set_n _ _ _ (by omega)]; exact g6
      · rw [j_set_s]
        unfold upd
        by_cases h : j = i
        · rw [if_pos h, hO ta (by omega) (by omega) (by omega) (by omega), hM i (by omega), h]
        · rw [if_neg h]; exact gt j (by omega)
  refine jx_aload0 (pc := 0) d_Mo_begin_0 ?_
  refine jx_iload2 (pc := 1) d_Mo_begin_1 ?_
  refine jx_putI (pc := 2) pf_Mo_21 d_Mo_begin_2 (mo_a hm) (mo_s hm) rfl ?_
  refine jx_aload0 (pc := 5) d_Mo_begin_5 ?_
  refine jx_iconst (pc := 6) (v := 0) d_Mo_begin_6 (by decide) ?_
  refine jx_putI (pc := 7) pf_Mo_25 d_Mo_begin_7 (mo_a hm) (mo_s hm) rfl ?_
  refine jx_aload0 (pc := 10) d_Mo_begin_10 ?_
  refine jx_bipush (pc := 11) (v := (-100)) d_Mo_begin_11 (by decide) ?_
  refine jx_putI (pc := 13) pf_Mo_28 d_Mo_begin_13 (mo_a hm) (mo_s hm) rfl ?_
  refine jx_aload0 (pc := 16) d_Mo_begin_16 ?_
  refine jx_iconst (pc := 17) (v := (-1)) d_Mo_begin_17 (by decide) ?_
  refine jx_putI (pc := 18) pf_Mo_31 d_Mo_begin_18 (mo_a hm) (mo_s hm) rfl ?_
  refine jx_iconst (pc := 21) (v := 0) d_Mo_begin_21 (by decide) ?_
  refine jx_istore3 (pc := 22) d_Mo_begin_22 rfl (Nat.le_of_ble_eq_true rfl) ?_
  rotate_left
  refine loop1 3 0 _ (by omega) ((Off1.set (Or.inl rfl)).tr ((Off1.set (Or.inl rfl)).tr ((Off1.set (Or.inl rfl)).tr (Off1.set (Or.inl rfl))))) ?_ ?_ ?_ ?_ (fun j hj => absurd hj (by omega)) <;> simp [j_set_s, upd]
theorem c_Mo_become {d a c : Nat} {ts : Nat → Nat} {tr : Nat} {m : Mo} {M : j_M} {Q : Option Value → j_M → Prop} (hm : j_mo a) (hm2 : j_mo c) (hne : a ≠ c) (hM : MoodAt M c ts tr m)
    (k : ∀ M', MoodAt M' a ts tr m → Off1 a M M' → Q none M') : j_Ct (d + 2) I_Mo_become [.ref a, .ref c] M Q := by
  refine j_met (by decide +kernel) co_Mo_become (Nat.le_of_ble_eq_true rfl) (fun X hX => ?_)
  show j_W (d + 2) I_Mo_become X 0 [some (.ref a), some (.ref c)] [] M
  have hap := mo_apart hm hm2
  have c0 : (0 : Int32).toNatClampNeg = 0 := by decide
  have c3 : (3 : Int32).toNatClampNeg = 3 := by decide
  have c6 : (6 : Int32).toNatClampNeg = 6 := by decide
  obtain ⟨m1, m2, m3, m4, m5, m6, m7⟩ := hM
  refine jx_aload0 (pc := 0) d_Mo_become_0 ?_
  refine jx_aload1 (pc := 1) d_Mo_become_1 ?_
  refine jx_getI (pc := 2) gf_Mo_21 d_Mo_become_2 (mo_a hm2) (mo_s hm2) rfl ?_
  refine jx_putI (pc := 5) pf_Mo_21 d_Mo_become_5 (mo_a hm) (mo_s hm) rfl ?_
  refine jx_aload0 (pc := 8) d_Mo_become_8 ?_
  refine jx_aload1 (pc := 9) d_Mo_become_9 ?_
  refine jx_getI (pc := 10) gf_Mo_25 d_Mo_become_10 (mo_a hm2) (mo_s hm2) rfl ?_
  refine jx_putI (pc := 13) pf_Mo_25 d_Mo_become_13 (mo_a hm) (mo_s hm) rfl ?_
  refine jx_aload0 (pc := 16) d_Mo_become_16 ?_
  refine jx_aload1 (pc := 17) d_Mo_become_17 ?_
  refine jx_getI (pc := 18) gf_Mo_28 d_Mo_become_18 (mo_a hm2) (mo_s hm2) rfl ?_
  refine jx_putI (pc := 21) pf_Mo_28 d_Mo_become_21 (mo_a hm) (mo_s hm) rfl ?_
  refine jx_aload0 (pc := 24) d_Mo_become_24 ?_
  refine jx_aload1 (pc := 25) d_Mo_become_25 ?_
  refine jx_getI (pc := 26) gf_Mo_31 d_Mo_become_26 (mo_a hm2) (mo_s hm2) rfl ?_
  refine jx_putI (pc := 29) pf_Mo_31 d_Mo_become_29 (mo_a hm) (mo_s hm) rfl ?_
  refine jx_aload1 (pc := 32) d_Mo_become_32 ?_
  refine jx_getR (pc := 33) gf_Mo_18 d_Mo_become_33 (mo_a hm2) (mo_s hm2) rfl ?_
  refine jx_iconst (pc := 36) (v := 0) d_Mo_become_36 (by decide) ?_
  refine jx_aload0 (pc := 37) d_Mo_become_37 ?_
  refine jx_getR (pc := 38) gf_Mo_18 d_Mo_become_38 (mo_a hm) (mo_s hm) rfl ?_
  refine jx_iconst (pc := 41) (v := 0) d_Mo_become_41 (by decide) ?_
  refine jx_iconst (pc := 42) (v := 3) d_Mo_become_42 (by decide) ?_
  refine jx_acopy (pc := 43) lk_Mo_34 ac_1 ac_2 ac_3 (by omega) (Nat.le_of_ble_eq_true rfl) d_Mo_become_43 (mo_a3 hm2) (mo_a3 hm) (mo_s3 hm2) (mo_s3 hm) (by decide) (by decide) (by decide) (by decide) (by decide) ?_
  refine jx_aload1 (pc := 46) d_Mo_become_46 ?_
  refine jx_getR (pc := 47) gf_Mo_9 d_Mo_become_47 (mo_a hm2) (mo_s hm2) rfl ?_
  refine jx_iconst (pc := 50) (v := 0) d_Mo_become_50 (by decide) ?_
  refine jx_aload0 (pc := 51) d_Mo_become_51 ?_
  refine jx_getR (pc := 52) gf_Mo_9 d_Mo_become_52 (mo_a hm) (mo_s hm) rfl ?_
  refine jx_iconst (pc := 55) (v := 0) d_Mo_become_55 (by decide) ?_
  refine jx_bipush (pc := 56) (v := 6) d_Mo_become_56 (by decide) ?_
  refine jx_acopy (pc := 58) lk_Mo_34 ac_1 ac_2 ac_3 (by omega) (Nat.le_of_ble_eq_true rfl) d_Mo_become_58 (mo_a1 hm2) (mo_a1 hm) (mo_s1 hm2) (mo_s1 hm) (by decide) (by decide) (by decide) (by decide) (by decide) ?_
  refine jx_aload1 (pc := 61) d_Mo_become_61 ?_
  refine jx_getR (pc := 62) gf_Mo_15 d_Mo_become_62 (mo_a hm2) (mo_s hm2) rfl ?_
  refine jx_iconst (pc := 65) (v := 0) d_Mo_become_65 (by decide) ?_
  refine jx_aload0 (pc := 66) d_Mo_become_66 ?_
  refine jx_getR (pc := 67) gf_Mo_15 d_Mo_become_67 (mo_a hm) (mo_s hm) rfl ?_
  refine jx_iconst (pc := 70) (v := 0) d_Mo_become_70 (by decide) ?_
  refine jx_bipush (pc := 71) (v := 6) d_Mo_become_71 (by decide) ?_
  refine jx_acopy (pc := 73) lk_Mo_34 ac_1 ac_2 ac_3 (by omega) (Nat.le_of_ble_eq_true rfl) d_Mo_become_73 (mo_a2 hm2) (mo_a2 hm) (mo_s2 hm2) (mo_s2 hm) (by decide) (by decide) (by decide) (by decide) (by decide) ?_
  refine jx_vret (pc := 76) hX rfl d_Mo_become_76 ?_
  rotate_left
  rw [c0, c3, c6]
  refine k _ ⟨fun i hi => ?_, fun i hi => ?_, fun i hi => ?_, ?_, ?_, ?_, ?_⟩ (fun b h0 h1 h2 h3 => ?_)
  · rw [j_seta_n _ _ (by omega), j_seta_s, pk_cpy_in (Nat.zero_le _) (by omega)]
    simp only [Nat.sub_zero, Nat.zero_add]
    rw [j_seta_n _ _ (by omega), j_set_n _ _ _ (by omega), j_set_n _ _ _ (by omega), j_set_n _ _ _ (by omega), j_set_n _ _ _ (by omega)]
    exact m1 i hi
  · rw [j_seta_s, pk_cpy_in (Nat.zero_le _) (by omega)]
    simp only [Nat.sub_zero, Nat.zero_add]
    rw [j_seta_n _ _ (by omega), j_seta_n _ _ (by omega), j_set_n _ _ _ (by omega), j_set_n _ _ _ (by omega), j_set_n _ _ _ (by omega), j_set_n _ _ _ (by omega)]
    exact m2 i hi
  · rw [j_seta_n _ _ (by omega), j_seta_n _ _ (by omega), j_seta_s, pk_cpy_in (Nat.zero_le _) (by omega)]
    simp only [Nat.sub_zero, Nat.zero_add]
    rw [j_set_n _ _ _ (by omega), j_set_n _ _ _ (by omega), j_set_n _ _ _ (by omega), j_set_n _ _ _ (by omega)]
    exact m3 i hi
  · rw [j_seta_n _ _ (by omega), j_seta_n _ _ (by omega), j_seta_n _ _ (by omega)]
    have hca : c ≠ a := fun q => hne q.symm
    simp only [j_set_s, j_set_n _ _ _ hca, upd]
    simpa using m4
  · rw [j_seta_n _ _ (by omega), j_seta_n _ _ (by omega), j_seta_n _ _ (by omega)]
    have hca : c ≠ a := fun q => hne q.symm
    simp only [j_set_s, j_set_n _ _ _ hca, upd]
    simpa using m5
  · rw [j_seta_n _ _ (by omega), j_seta_n _ _ (by omega), j_seta_n _ _ (by omega)]
    have hca : c ≠ a := fun q => hne q.symm
    simp only [j_set_s, j_set_n _ _ _ hca, upd]
    simpa using m6
  · rw [j_seta_n _ _ (by omega), j_seta_n _ _ (by omega), j_seta_n _ _ (by omega)]
    have hca : c ≠ a := fun q => hne q.symm
    simp only [j_set_s, j_set_n _ _ _ hca, upd]
    simpa using m7
  · rw [j_seta_n _ _ h2, j_seta_n _ _ h1, j_seta_n _ _ h3, j_set_n _ _ _ h0, j_set_n _ _ _ h0, j_set_n _ _ _ h0, j_set_n _ _ _ h0]
theorem brgs_take {e : En} {ts : Nat → Nat} {day j : Nat} {l : List (Nat × Nat)} {q : Nat × Nat} (m : Mo) (h : l[j]? = some q) : brgs e ts day (l.take (j + 1)) m = brg e ts day q.1 q.2 (brgs e ts day (l.take j) m) := by
  rw [List.take_add_one, h]
  simp [brgs, List.foldl_append]
theorem c_Co_comeAsTold {d a day : Nat} {e : En} {sl : Nat} {bs : Nat → List (Nat × Nat)} {ts : Nat → Nat} {tr b : Nat} {m : Mo} {M : j_M} {Q : Option Value → j_M → Prop} (hm : j_mo a) (hE : CE e sl bs M) (hts : ∀ t, ts t ≤ 9) (hM : MoodAt M a ts tr m) (hw : MoW e b m) (hb : b ≤ 900000) (hday : day < 30)
    (k : ∀ M', MoodAt M' a ts tr (brgs e ts day (bs day) m) → Off1 a M M' → Q none M') : j_Ct (d + 1) I_Co_comeAsTold [.ref 15, .ref a, .int (nI day)] M Q := by
  refine j_met (by decide +kernel) co_Co_comeAsTold (Nat.le_of_ble_eq_true rfl) (fun X hX => ?_)
  show j_W (d + 1) I_Co_comeAsTold X 0 [some (.ref 15), some (.ref a), some (.int (nI day)), none] [] M
  have hwf := hE.2.1.wf hday
  have hEW := hE.1.1
  have hge := mo_ge hm
  obtain ⟨S, h1, h2, h3⟩ := id hE.2.1
  have hS0 := h1 day (by omega)
  have hS1 := h1 (day + 1) (by omega)
  have hS := h2 day hday
  have ed : (nI day).toNatClampNeg = day := nI_cl (by omega)
  have ed1 : nI day + 1 = nI (day + 1) := nI_1 day
  have ed2 : (nI (day + 1)).toNatClampNeg = day + 1 := nI_cl (by omega)
  have hv0 : vp_in (nI day) 31 := vp_in_nI (by omega) (by omega)
  have hv1 : vp_in (nI day + 1) 31 := by rw [ed1]; exact vp_in_nI (by omega) (by omega)
  have loop : ∀ (r j : Nat) (M1 : j_M), j + r = (bs day).length → MoodAt M1 a ts tr (brgs e ts day ((bs day).take j) m) → Off1 a M M1 → j_W (d + 1) I_Co_comeAsTold X 10 [some (.ref 15), some (.ref a), some (.int (nI day)), some (.int (nI (S day + j)))] [] M1 := by
    intro r
    induction r with
    | zero =>
      intro j M1 hj hM1 hO
      have h9 : M1 9 (nI day + 1).toNatClampNeg = nI (S (day + 1)) := by rw [ed1, ed2, hO 9 (by omega) (by omega) (by omega) (by omega)]; exact hS1.1
      refine jx_iload3 (pc := 10) d_Co_comeAsTold_10 ?_
      refine jx_aload0 (pc := 11) d_Co_comeAsTold_11 ?_
      refine jx_getR (pc := 12) gf_Co_15 d_Co_comeAsTold_12 ad_15 sh_15 rfl ?_
      refine jx_getR (pc := 15) gf_Co_30 d_Co_comeAsTold_15 ad_4 sh_4 rfl ?_
      refine jx_iload2 (pc := 18) d_Co_comeAsTold_18 ?_
      refine jx_iconst (pc := 19) (v := 1) d_Co_comeAsTold_19 (by decide) ?_
      refine jx_iadd (pc := 20) d_Co_comeAsTold_20 ?_
      refine jx_iald (pc := 21) d_Co_comeAsTold_21 ad_9 sh_9 (by first | assumption | exact vp_in_nI (by omega) (by omega)) ?_
      refine jx_icmp_ge (pc := 22) 53 d_Co_comeAsTold_22 (by decide) (fun c22 => ?_) (fun c22 => absurd c22 (fun q => q (by rw [h9]; exact nI_le (by omega) (by omega))))
      refine jx_vret (pc := 53) hX rfl d_Co_comeAsTold_53 ?_
      rotate_left
      rw [show j = (bs day).length by omega, List.take_length] at hM1
      exact k M1 hM1 hO
    | succ r ih =>
      intro j M1 hj hM1 hO
      have h9 : M1 9 (nI day + 1).toNatClampNeg = nI (S (day + 1)) := by rw [ed1, ed2, hO 9 (by omega) (by omega) (by omega) (by omega)]; exact hS1.1
      obtain ⟨q, hq⟩ : ∃ q, (bs day)[j]? = some q := ⟨(bs day)[j]'(by omega), List.getElem?_eq_getElem (by omega)⟩
      obtain ⟨v, hv, g8, g6, g7, hq1, hq2⟩ := h3 day hday j q hq
      have hE1 := hE.off hm hO
      rw [← hO 8 (by omega) (by omega) (by omega) (by omega)] at g8
      rw [← hO 6 (by omega) (by omega) (by omega) (by omega)] at g6
      rw [← hO 7 (by omega) (by omega) (by omega) (by omega)] at g7
      have hwj : MoW e (b + 162 * ((bs day).take j).length) (brgs e ts day ((bs day).take j) m) := brgsW hEW hts hday _ b m (fun x hx => (hwf.2 x (List.mem_of_mem_take hx)).2) hw
      have hlen : ((bs day).take j).length ≤ 24 := by rw [List.length_take]; omega
      have hp : S day + j < 24 := by omega
      have hq' := brgs_take (e := e) (ts := ts) (day := day) m hq
      refine jx_iload3 (pc := 10) d_Co_comeAsTold_10 ?_
      refine jx_aload0 (pc := 11) d_Co_comeAsTold_11 ?_
      refine jx_getR (pc := 12) gf_Co_15 d_Co_comeAsTold_12 ad_15 sh_15 rfl ?_
      refine jx_getR (pc := 15) gf_Co_30 d_Co_comeAsTold_15 ad_4 sh_4 rfl ?_
      refine jx_iload2 (pc := 18) d_Co_comeAsTold_18 ?_
      refine jx_iconst (pc := 19) (v := 1) d_Co_comeAsTold_19 (by decide) ?_
      refine jx_iadd (pc := 20) d_Co_comeAsTold_20 ?_
      refine jx_iald (pc := 21) d_Co_comeAsTold_21 ad_9 sh_9 (by first | assumption | exact vp_in_nI (by omega) (by omega)) ?_
      refine jx_icmp_ge (pc := 22) 53 d_Co_comeAsTold_22 (by decide) (fun c22 => absurd c22 (by rw [h9]; exact nI_ge (by omega) (by omega))) (fun c22 => ?_)
      refine jx_aload0 (pc := 25) d_Co_comeAsTold_25 ?_
      refine jx_aload1 (pc := 26) d_Co_comeAsTold_26 ?_
      refine jx_iload2 (pc := 27) d_Co_comeAsTold_27 ?_
      refine jx_aload0 (pc := 28) d_Co_comeAsTold_28 ?_
      refine jx_getR (pc := 29) gf_Co_15 d_Co_comeAsTold_29 ad_15 sh_15 rfl ?_
      refine jx_iload3 (pc := 32) d_Co_comeAsTold_32 ?_
      refine jx_callV1 (pc := 33) (d' := d) vo_Vi_heirAt lk_Co_35 d_Co_comeAsTold_33 ad_4 sh_4 rfl (by omega) (Nat.le_of_ble_eq_true rfl) ?_
      refine c_Vi_heirAt hp hv g8 ?_
      refine jx_r1 ?_
      refine jx_aload0 (pc := 36) d_Co_comeAsTold_36 ?_
      refine jx_getR (pc := 37) gf_Co_15 d_Co_comeAsTold_37 ad_15 sh_15 rfl ?_
      refine jx_iload3 (pc := 40) d_Co_comeAsTold_40 ?_
      refine jx_callV1 (pc := 41) (d' := d) vo_Vi_thingAt lk_Co_56 d_Co_comeAsTold_41 ad_4 sh_4 rfl (by omega) (Nat.le_of_ble_eq_true rfl) ?_
      refine c_Vi_thingAt hp hv g8 ?_
      refine jx_r1 ?_
      refine jx_callV4 (pc := 44) (d' := d) vo_Co_bring lk_Co_59 d_Co_comeAsTold_44 ad_15 sh_15 rfl (by omega) (Nat.le_of_ble_eq_true rfl) ?_
      rw [g6, g7]
      refine c_Co_bring hm hE1.1 hts hM1 hwj (by omega) hday hq1 hq2 (fun M2 hM2 hO2 => ?_)
      refine jx_r0 ?_
      refine jx_iinc3 (pc := 47) d_Co_comeAsTold_47 rfl (Nat.le_of_ble_eq_true rfl) ?_
      refine jx_goto (pc := 50) 10 d_Co_comeAsTold_50 (by decide) ?_
      rotate_left
      rw [nI_add1]
      rw [← hq'] at hM2
      exact ih (j + 1) M2 (by omega) hM2 (hO.tr hO2)
  refine jx_aload0 (pc := 0) d_Co_comeAsTold_0 ?_
  refine jx_getR (pc := 1) gf_Co_15 d_Co_comeAsTold_1 ad_15 sh_15 rfl ?_
  refine jx_getR (pc := 4) gf_Co_30 d_Co_comeAsTold_4 ad_4 sh_4 rfl ?_
  refine jx_iload2 (pc := 7) d_Co_comeAsTold_7 ?_
  refine jx_iald (pc := 8) d_Co_comeAsTold_8 ad_9 sh_9 (by first | assumption | exact vp_in_nI (by omega) (by omega)) ?_
  refine jx_istore3 (pc := 9) d_Co_comeAsTold_9 rfl (Nat.le_of_ble_eq_true rfl) ?_
  rotate_left
  rw [ed, hS0.1]
  exact loop (bs day).length 0 M (Nat.zero_add _) (by simpa [brgs] using hM) Off1.rf
theorem c_Co_awake {d day sl : Nat} {M : j_M} {Q : Option Value → j_M → Prop} (h : M 10 3 = nI sl) (hsl : sl < 2 ^ 30) (hd : day < 30) (k : Q (some (.int (if sl.testBit day then 0 else 1))) M) : j_Ct d I_Co_isAwake [.ref 15, .int (nI day)] M Q := by
  refine c_Co_isAwake (jq k ?_)
  rw [h]
  have hb := bt_u0 (n := sl) (k := day) (by omega) (by omega)
  by_cases hs : sl.testBit day
  · rw [if_pos hs, if_neg (fun q => by have := hb.mp q; rw [hs] at this; cases this)]
  · rw [if_neg hs, if_pos (hb.mpr (by simpa using hs))]
theorem c_Co_liveDay {d a day : Nat} {e : En} {sl : Nat} {bs : Nat → List (Nat × Nat)} {ts : Nat → Nat} {tr b : Nat} {m : Mo} {M : j_M} {Q : Option Value → j_M → Prop} (hm : j_mo a) (hE : CE e sl bs M) (hts : ∀ t, ts t ≤ 9) (hM : MoodAt M a ts tr m) (hw : MoW e b m) (hb : b ≤ 900000) (hday : day < 30) (htr : tr < e.1.1 ∨ tr = 9)
    (k : ∀ M', MoodAt M' a ts tr (dayS e ts tr sl (bs day) day m) → Off1 a M M' → Q none M') : j_Ct (d + 2) I_Co_liveDay [.ref 15, .ref a, .int (nI day)] M Q := by
  refine j_met (by decide +kernel) co_Co_liveDay (Nat.le_of_ble_eq_true rfl) (fun X hX => ?_)
  show j_W (d + 2) I_Co_liveDay X 0 [some (.ref 15), some (.ref a), some (.int (nI day))] [] M
  have hwf := hE.2.1.wf hday
  by_cases hs : sl.testBit day
  · have hday' : dayS e ts tr sl (bs day) day m = eve e tr m := by unfold dayS; rw [if_pos hs]
    rw [hday'] at k
    refine jx_aload0 (pc := 0) d_Co_liveDay_0 ?_
    refine jx_iload2 (pc := 1) d_Co_liveDay_1 ?_
    refine jx_callV1 (pc := 2) (d' := d) vo_Co_isAwake lk_Co_45 d_Co_liveDay_2 ad_15 sh_15 rfl (by omega) (Nat.le_of_ble_eq_true rfl) ?_
    refine c_Co_awake hE.2.2.1 hE.2.2.2 hday ?_
    refine jx_r1 ?_
    refine jx_if_eq (pc := 5) 14 d_Co_liveDay_5 (by decide) (fun c5 => ?_) (fun c5 => absurd c5 (by rw [if_pos hs]; exact fun q => q rfl))
    refine jx_aload0 (pc := 14) d_Co_liveDay_14 ?_
    refine jx_aload1 (pc := 15) d_Co_liveDay_15 ?_
    refine jx_callV1 (pc := 16) (d' := d+1) vo_Co_evening lk_Co_52 d_Co_liveDay_16 ad_15 sh_15 rfl (by omega) (Nat.le_of_ble_eq_true rfl) ?_
    refine c_Co_evening hm hE.1 hM hw (by omega) htr (fun M2 hM2 hO2 => ?_)
    refine jx_r0 ?_
    refine jx_vret (pc := 19) hX rfl d_Co_liveDay_19 ?_
    rotate_left
    exact k M2 hM2 hO2
  · have hday' : dayS e ts tr sl (bs day) day m = eve e tr (brgs e ts day (bs day) m) := by unfold dayS; rw [if_neg hs]
    rw [hday'] at k
    have hw1 : MoW e (b + 162 * (bs day).length) (brgs e ts day (bs day) m) := brgsW hE.1.1 hts hday _ b m (fun x hx => (hwf.2 x hx).2) hw
    refine jx_aload0 (pc := 0) d_Co_liveDay_0 ?_
    refine jx_iload2 (pc := 1) d_Co_liveDay_1 ?_
    refine jx_callV1 (pc := 2) (d' := d) vo_Co_isAwake lk_Co_45 d_Co_liveDay_2 ad_15 sh_15 rfl (by omega) (Nat.le_of_ble_eq_true rfl) ?_
    refine c_Co_awake hE.2.2.1 hE.2.2.2 hday ?_
    refine jx_r1 ?_
    refine jx_if_eq (pc := 5) 14 d_Co_liveDay_5 (by decide) (fun c5 => absurd c5 (by rw [if_neg hs]; decide)) (fun c5 => ?_)
    refine jx_aload0 (pc := 8) d_Co_liveDay_8 ?_
    refine jx_aload1 (pc := 9) d_Co_liveDay_9 ?_
    refine jx_iload2 (pc := 10) d_Co_liveDay_10 ?_
    refine jx_callV2 (pc := 11) (d' := d+1) vo_Co_comeAsTold lk_Co_48 d_Co_liveDay_11 ad_15 sh_15 rfl (by omega) (Nat.le_of_ble_eq_true rfl) ?_
    refine c_Co_comeAsTold hm hE hts hM hw (by omega) hday (fun M1 hM1 hO1 => ?_)
    refine jx_r0 ?_
    refine jx_aload0 (pc := 14) d_Co_liveDay_14 ?_
    refine jx_aload1 (pc := 15) d_Co_liveDay_15 ?_
    refine jx_callV1 (pc := 16) (d' := d+1) vo_Co_evening lk_Co_52 d_Co_liveDay_16 ad_15 sh_15 rfl (by omega) (Nat.le_of_ble_eq_true rfl) ?_
    refine c_Co_evening hm (hE.off hm hO1).1 hM1 hw1 (by omega) htr (fun M2 hM2 hO2 => ?_)
    refine jx_r0 ?_
    refine jx_vret (pc := 19) hX rfl d_Co_liveDay_19 ?_
    rotate_left
    exact k M2 hM2 (hO1.tr hO2)
