/-! LEAVES: seen, sheets -/
theorem c_Se_clear {d : Nat} {M : j_M} {Q : Option Value → j_M → Prop} (k : ∀ M', M' 17 1 = 0 → M' 17 2 = -1 → M' 17 3 = 0 → (∀ q, q < 30 → M' 18 q = -2) → (∀ b, b ≠ 17 → b ≠ 18 → M' b = M b) → Q none M') : j_Ct d I_Se_clear [.ref 17] M Q := by
  refine j_met (by decide +kernel) co_Se_clear (Nat.le_of_ble_eq_true rfl) (fun X hX => ?_)
  show j_W d I_Se_clear X 0 [some (.ref 17), none] [] M
  have loop : ∀ (r i : Nat) (M1 : j_M), i + r = 30 → M1 17 1 = 0 → M1 17 2 = -1 → M1 17 3 = 0 → (∀ q, q < i → M1 18 q = -2) → (∀ b, b ≠ 17 → b ≠ 18 → M1 b = M b) → j_W d I_Se_clear X 17 [some (.ref 17), some (.int (nI i))] [] M1 := by
    intro r
    induction r with
    | zero =>
      intro i M1 hi g1 g2 g3 g4 g5
      refine jx_iload1 (pc := 17) d_Se_clear_17 ?_
      refine jx_bipush (pc := 18) (v := 30) d_Se_clear_18 (by decide) ?_
      refine jx_icmp_ge (pc := 20) 37 d_Se_clear_20 (by decide) (fun c20 => ?_) (fun c20 => absurd c20 (fun q => q (show nI 30 ≤ nI i from nI_le (by omega) (by omega))))
      refine jx_vret (pc := 37) hX rfl d_Se_clear_37 ?_
      rotate_left
      exact k M1 g1 g2 g3 (fun q hq => g4 q (by omega)) g5
    | succ r ih =>
      intro i M1 hi g1 g2 g3 g4 g5
      have e1 : (nI i).toNatClampNeg = i := nI_cl (by omega)
      refine jx_iload1 (pc := 17) d_Se_clear_17 ?_
      refine jx_bipush (pc := 18) (v := 30) d_Se_clear_18 (by decide) ?_
      refine jx_icmp_ge (pc := 20) 37 d_Se_clear_20 (by decide) (fun c20 => absurd c20 (show ¬ nI 30 ≤ nI i from nI_ge (by omega) (by omega))) (fun c20 => ?_)
      refine jx_aload0 (pc := 23) d_Se_clear_23 ?_
      refine jx_getR (pc := 24) gf_Se_9 d_Se_clear_24 ad_17 sh_17 rfl ?_
      refine jx_iload1 (pc := 27) d_Se_clear_27 ?_
      refine jx_bipush (pc := 28) (v := (-2)) d_Se_clear_28 (by decide) ?_
      refine jx_iast (pc := 30) d_Se_clear_30 ad_18 sh_18 (vp_in_nI (by omega) (by omega)) ?_
      refine jx_iinc1 (pc := 31) d_Se_clear_31 rfl (Nat.le_of_ble_eq_true rfl) ?_
      refine jx_goto (pc := 34) 17 d_Se_clear_34 (by decide) ?_
      rotate_left
      rw [nI_add1, e1]
      refine ih (i + 1) _ (by omega) (by rw [j_set_n _ _ _ (by omega)]; exact g1) (by rw [j_set_n _ _ _ (by omega)]; exact g2) (by rw [j_set_n _ _ _ (by omega)]; exact g3) (fun q hq => ?_) (fun b h1 h2 => by rw [j_set_n _ _ _ h2]; exact g5 b h1 h2)
      rw [j_set_s]
      unfold upd
      by_cases hc : q = i
      · rw [if_pos hc]
      · rw [if_neg hc]; exact g4 q (by omega)
  refine jx_aload0 (pc := 0) d_Se_clear_0 ?_
  refine jx_iconst (pc := 1) (v := 0) d_Se_clear_1 (by decide) ?_
  refine jx_putI (pc := 2) pf_Se_18 d_Se_clear_2 ad_17 sh_17 rfl ?_
  refine jx_aload0 (pc := 5) d_Se_clear_5 ?_
  refine jx_iconst (pc := 6) (v := (-1)) d_Se_clear_6 (by decide) ?_
  refine jx_putI (pc := 7) pf_Se_22 d_Se_clear_7 ad_17 sh_17 rfl ?_
  refine jx_aload0 (pc := 10) d_Se_clear_10 ?_
  refine jx_iconst (pc := 11) (v := 0) d_Se_clear_11 (by decide) ?_
  refine jx_putZ (pc := 12) pf_Se_25 (by first | exact Or.inl rfl | exact Or.inr rfl) d_Se_clear_12 ad_17 sh_17 rfl ?_
  refine jx_iconst (pc := 15) (v := 0) d_Se_clear_15 (by decide) ?_
  refine jx_istore1 (pc := 16) d_Se_clear_16 rfl (Nat.le_of_ble_eq_true rfl) ?_
  rotate_left
  exact loop 30 0 _ (by omega) (by simp [j_set_s, upd]) (by simp [j_set_s, upd]) (by simp [j_set_s, upd]) (fun q hq => absurd hq (by omega)) (fun b h1 h2 => by rw [j_set_n _ _ _ h1, j_set_n _ _ _ h1, j_set_n _ _ _ h1])
theorem c_Se_add {d ns day h : Nat} {sd sh : Nat → Nat} {M : j_M} {Q : Option Value → j_M → Prop} (hn : ns < 8) (hday : day < 30) (hh : h < 6 ∨ h = 9) (hsh : ∀ k, sh k < 6 ∨ sh k = 9) (hS : SeenC ns sd sh M)
    (k : ∀ M', SeenC (ns + 1) (upN sd ns day) (upN sh ns h) M' → (∀ b, b ≠ 17 → b ≠ 18 → M' b = M b) → Q none M') : j_Ct (d + 1) I_Se_add [.ref 17, .int (nI day), .int (em h)] M Q := by
  refine j_met (by decide +kernel) co_Se_add (Nat.le_of_ble_eq_true rfl) (fun X hX => ?_)
  show j_W (d + 1) I_Se_add X 0 [some (.ref 17), some (.int (nI day)), some (.int (em h))] [] M
  obtain ⟨s1, ⟨ld, hld, s2, s3⟩, s4⟩ := hS
  have ed : (nI day).toNatClampNeg = day := nI_cl (by omega)
  have hv : vp_in (nI day) 30 := vp_in_nI hday (by omega)
  have hup : ∀ q, q < ns + 1 → upN sd ns day q = (if q = ns then day else sd q) := fun q _ => rfl
  have hmax : (if nI ld - 1 < nI day then nI day else nI ld - 1) = nI (max ld (day + 1)) - 1 := by
    have hlt : nI ld - 1 < nI day ↔ ld ≤ day := by
      rw [fa_lt, show (1 : Int32) = nI 1 from rfl, pk_sub_toInt (by omega) (by omega), nI_toInt (by omega)]; omega
    by_cases hc : ld ≤ day
    · rw [if_pos (hlt.mpr hc), Nat.max_eq_right (by omega), nI_pred]
    · rw [if_neg (fun q => hc (hlt.mp q)), Nat.max_eq_left (by omega)]
  -- what the end holds
  have fin : ∀ (M1 : j_M), M1 17 1 = nI ns → M1 17 2 = M 17 2 → M1 18 = M 18 → (∀ b, b ≠ 17 → b ≠ 18 → M1 b = M b) → ((M1 17 3 = 1 ∧ ∃ i j, i < ns + 1 ∧ j < ns + 1 ∧ upN sd ns day i = upN sd ns day j ∧ upN sh ns h i ≠ upN sh ns h j) ∨ (M1 17 3 = 0 ∧ (M 17 3 = 0) ∧ (M 18 day = -2 ∨ M 18 day = em h))) → j_W (d + 1) I_Se_add X 14 [some (.ref 17), some (.int (nI day)), some (.int (em h))] [] M1 := by
    intro M1 g1 g2 g3 g4 g5
    refine jx_aload0 (pc := 14) d_Se_add_14 ?_
    refine jx_getR (pc := 15) gf_Se_9 d_Se_add_15 ad_17 sh_17 rfl ?_
    refine jx_iload1 (pc := 18) d_Se_add_18 ?_
    refine jx_iload2 (pc := 19) d_Se_add_19 ?_
    refine jx_iast (pc := 20) d_Se_add_20 ad_18 sh_18 (by first | assumption | exact vp_in_nI (by omega) (by omega)) ?_
    refine jx_aload0 (pc := 21) d_Se_add_21 ?_
    refine jx_aload0 (pc := 22) d_Se_add_22 ?_
    refine jx_getI (pc := 23) gf_Se_22 d_Se_add_23 ad_17 sh_17 rfl ?_
    refine jx_iload1 (pc := 26) d_Se_add_26 ?_
    refine jx_mmax (pc := 27) lk_Se_33 mm_max_1 mm_ini mm_max_3 (by omega) (Nat.le_of_ble_eq_true rfl) d_Se_add_27 ?_
    refine jx_putI (pc := 30) pf_Se_22 d_Se_add_30 ad_17 sh_17 rfl ?_
    refine jx_aload0 (pc := 33) d_Se_add_33 ?_
    refine jx_dupr (pc := 34) d_Se_add_34 ?_
    refine jx_getI (pc := 35) gf_Se_18 d_Se_add_35 ad_17 sh_17 rfl ?_
    refine jx_iconst (pc := 38) (v := 1) d_Se_add_38 (by decide) ?_
    refine jx_iadd (pc := 39) d_Se_add_39 ?_
    refine jx_putI (pc := 40) pf_Se_18 d_Se_add_40 ad_17 sh_17 rfl ?_
    refine jx_vret (pc := 43) hX rfl d_Se_add_43 ?_
    rotate_left
    rw [ed, j_set_n (b := 17) _ _ _ (by omega), g2, s2, hmax]
    refine k _ ⟨?_, ⟨max ld (day + 1), by omega, ?_, fun q hq => ?_⟩, ?_⟩ (fun b h1 h2 => ?_)
    · simp only [j_set_s, upd, if_pos]
      rw [if_neg (by omega), j_set_n _ _ _ (by omega), g1, nI_1]
    · simp only [j_set_s, upd]; simp
    · unfold upN; split
      · omega
      · have := s3 q (by omega); omega
    · rcases g5 with ⟨h1, h2⟩ | ⟨h1, h0, h2⟩
      · left
        refine ⟨?_, h2⟩
        simp only [j_set_s, upd]; simp [j_set_n (b := 17) (a := 18), h1]
      · right
        refine ⟨by simp only [j_set_s, upd]; simp [j_set_n (b := 17) (a := 18), h1], fun q hq => ?_⟩
        rw [j_set_n _ _ _ (by omega), j_set_n _ _ _ (by omega), j_set_s, g3]
        rcases s4 with ⟨h3, -⟩ | ⟨-, hwd⟩
        · rw [h0] at h3; exact absurd h3 (by decide)
        · unfold upd
          by_cases hc : q = day
          · right
            refine ⟨h, by rw [if_pos hc], hh, ⟨ns, by omega, by rw [upN_self, hc]⟩, fun q2 hq2 hq3 => ?_⟩
            unfold upN at hq3 ⊢
            by_cases hc2 : q2 = ns
            · rw [if_pos hc2]
            · rw [if_neg hc2] at hq3 ⊢
              rcases hwd q hq with ⟨h3, h4⟩ | ⟨w, h3, h4, -, h5⟩
              · exact absurd hq3 (h4 q2 (by omega))
              · rw [hc] at h3
                rcases h2 with h2 | h2
                · rw [h3] at h2; exact absurd h2 (em_ne2 (by omega))
                · rw [h3] at h2
                  rw [h5 q2 (by omega) hq3]
                  exact (em_inj (by omega) (by omega)).mp h2
          · rw [if_neg hc]
            rcases hwd q hq with ⟨h3, h4⟩ | ⟨w, h3, h4, ⟨q1, h6, h7⟩, h5⟩
            · left
              refine ⟨h3, fun q2 hq2 hq3 => ?_⟩
              unfold upN at hq3
              by_cases hc2 : q2 = ns
              · rw [if_pos hc2] at hq3; exact hc hq3.symm
              · rw [if_neg hc2] at hq3; exact h4 q2 (by omega) hq3
            · right
              refine ⟨w, h3, h4, ⟨q1, by omega, by rw [upN_lt h6]; exact h7⟩, fun q2 hq2 hq3 => ?_⟩
              unfold upN at hq3 ⊢
              by_cases hc2 : q2 = ns
              · rw [if_pos hc2] at hq3; exact absurd hq3.symm hc
              · rw [if_neg hc2] at hq3 ⊢; exact h5 q2 (by omega) hq3
    · rw [j_set_n _ _ _ h1, j_set_n _ _ _ h1, j_set_n _ _ _ h2]; exact g4 b h1 h2
  refine jx_aload0 (pc := 0) d_Se_add_0 ?_
  refine jx_iload1 (pc := 1) d_Se_add_1 ?_
  refine jx_iload2 (pc := 2) d_Se_add_2 ?_
  refine jx_callV2 (pc := 3) (d' := d) vo_Se_allows lk_Se_29 d_Se_add_3 ad_17 sh_17 rfl (by omega) (Nat.le_of_ble_eq_true rfl) ?_
  refine c_Se_allows hv ?_
  refine jx_r1 ?_
  refine jx_if_ne (pc := 6) 14 d_Se_add_6 (by decide) (fun c6 => ?_) (fun c6 => ?_)
  rotate_left
  refine jx_aload0 (pc := 9) d_Se_add_9 ?_
  refine jx_iconst (pc := 10) (v := 1) d_Se_add_10 (by decide) ?_
  refine jx_putZ (pc := 11) pf_Se_25 (by first | exact Or.inl rfl | exact Or.inr rfl) d_Se_add_11 ad_17 sh_17 rfl ?_
  rotate_left
  · rw [ed] at c6
    have hcond : M 18 day = -2 ∨ M 18 day = em h := Decidable.not_not.mp (fun q => c6 (by rw [if_neg q]))
    refine fin M s1 rfl rfl (fun _ _ _ => rfl) ?_
    rcases s4 with ⟨h3, i, j, hi, hj, hij, hne⟩ | ⟨h3, -⟩
    · left
      exact ⟨h3, i, j, by omega, by omega, by rw [upN_lt hi, upN_lt hj]; exact hij, by rw [upN_lt hi, upN_lt hj]; exact hne⟩
    · right
      exact ⟨h3, h3, hcond⟩
  · rw [ed] at c6
    have hcond : ¬ (M 18 day = -2 ∨ M 18 day = em h) := fun q => by rw [if_pos q] at c6; exact absurd c6 (by decide)
    refine fin _ (by simp [j_set_s, upd, s1]) (by simp [j_set_s, upd]) (j_set_n _ _ _ (by omega)) (fun b h1 h2 => j_set_n _ _ _ h1) (Or.inl ⟨by simp [j_set_s, upd], ?_⟩)
    rcases s4 with ⟨h3, i, j, hi, hj, hij, hne⟩ | ⟨h3, hwd⟩
    · exact ⟨i, j, by omega, by omega, by rw [upN_lt hi, upN_lt hj]; exact hij, by rw [upN_lt hi, upN_lt hj]; exact hne⟩
    · rcases hwd day hday with ⟨h4, h5⟩ | ⟨w, h4, h5, ⟨q1, h6, h7⟩, h8⟩
      · exact absurd (Or.inl h4) hcond
      · refine ⟨q1, ns, by omega, by omega, by rw [upN_lt h6, upN_self]; exact h7, ?_⟩
        rw [upN_lt h6, upN_self, h8 q1 h6 h7]
        intro q
        exact hcond (Or.inr (by rw [h4, q]))
theorem c_Sh_find {d : Nat} {x : Int32} {M : j_M} {Q : Option Value → j_M → Prop} (k : Q (some (.int (-10 - x))) (j_set M 23 3 x)) : j_Ct d I_Sh_find [.ref 23, .int x] M Q := by
  refine j_met (by decide +kernel) co_Sh_find (Nat.le_of_ble_eq_true rfl) (fun X hX => ?_)
  show j_W d I_Sh_find X 0 [some (.ref 23), some (.int x)] [] M
  refine jx_aload0 (pc := 0) d_Sh_find_0 ?_
  refine jx_iload1 (pc := 1) d_Sh_find_1 ?_
  refine jx_putI (pc := 2) pf_Sh_23 d_Sh_find_2 ad_23 sh_23 rfl ?_
  refine jx_bipush (pc := 5) (v := (-10)) d_Sh_find_5 (by decide) ?_
  refine jx_iload1 (pc := 7) d_Sh_find_7 ?_
  refine jx_isub (pc := 8) d_Sh_find_8 ?_
  refine jx_iret (pc := 9) hX rfl d_Sh_find_9 ?_
  rotate_left
  exact k
theorem sr_s {q : Nat} (h : q < 4) : j_sh (27 + q) = (1, 48, []) := by
  have h2 : q = 0 ∨ q = 1 ∨ q = 2 ∨ q = 3 := by omega
  rcases h2 with rfl | rfl | rfl | rfl <;> rfl
theorem sr_a {q : Nat} (h : q < 4) : 27 + q < j_NA := by show _ < 104; omega
theorem sr_r {q : Nat} (h : q < 4) : ([some 27, some 28, some 29, some 30] : List (Option Nat)).getD (nI q).toNatClampNeg none = some (27 + q) := by
  rw [nI_cl (by omega)]
  have h2 : q = 0 ∨ q = 1 ∨ q = 2 ∨ q = 3 := by omega
  rcases h2 with rfl | rfl | rfl | rfl <;> rfl
theorem c_Sh_renew {d q : Nat} {fo n : Int32} {M : j_M} {Q : Option Value → j_M → Prop} (hq : q < 4)
    (k : ∀ M', M' 24 = upd (M 24) q fo → M' 25 = upd (M 25) q n → (∀ i, i < 48 → M' (27 + q) i = 0) → (∀ b, b ≠ 24 → b ≠ 25 → b ≠ 27 + q → M' b = M b) → Q none M') : j_Ct d I_Sh_renew [.ref 23, .int (nI q), .int fo, .int n] M Q := by
  refine j_met (by decide +kernel) co_Sh_renew (Nat.le_of_ble_eq_true rfl) (fun X hX => ?_)
  show j_W d I_Sh_renew X 0 [some (.ref 23), some (.int (nI q)), some (.int fo), some (.int n), none] [] M
  have eq1 : (nI q).toNatClampNeg = q := nI_cl (by omega)
  have hvq : vp_in (nI q) 4 := vp_in_nI hq (by omega)
  have hsa := sr_a hq
  have hss := sr_s hq
  have loop : ∀ (r i : Nat) (M1 : j_M), i + r = 48 → M1 24 = upd (M 24) q fo → M1 25 = upd (M 25) q n → (∀ j, j < i → M1 (27 + q) j = 0) → (∀ b, b ≠ 24 → b ≠ 25 → b ≠ 27 + q → M1 b = M b) → j_W d I_Sh_renew X 17 [some (.ref 23), some (.int (nI q)), some (.int fo), some (.int n), some (.int (nI i))] [] M1 := by
    intro r
    induction r with
    | zero =>
      intro i M1 hi g1 g2 g3 g4
      refine jx_iload4 (pc := 17) d_Sh_renew_17 ?_
      refine jx_bipush (pc := 19) (v := 48) d_Sh_renew_19 (by decide) ?_
      refine jx_icmp_ge (pc := 21) 40 d_Sh_renew_21 (by decide) (fun c21 => ?_) (fun c21 => absurd c21 (fun z => z (show nI 48 ≤ nI i from nI_le (by omega) (by omega))))
      refine jx_vret (pc := 40) hX rfl d_Sh_renew_40 ?_
      rotate_left
      exact k M1 g1 g2 (fun j hj => g3 j (by omega)) g4
    | succ r ih =>
      intro i M1 hi g1 g2 g3 g4
      have e1 : (nI i).toNatClampNeg = i := nI_cl (by omega)
      refine jx_iload4 (pc := 17) d_Sh_renew_17 ?_
      refine jx_bipush (pc := 19) (v := 48) d_Sh_renew_19 (by decide) ?_
      refine jx_icmp_ge (pc := 21) 40 d_Sh_renew_21 (by decide) (fun c21 => absurd c21 (show ¬ nI 48 ≤ nI i from nI_ge (by omega) (by omega))) (fun c21 => ?_)
      refine jx_aload0 (pc := 24) d_Sh_renew_24 ?_
      refine jx_getR (pc := 25) gf_Sh_20 d_Sh_renew_25 ad_23 sh_23 rfl ?_
      refine jx_iload1 (pc := 28) d_Sh_renew_28 ?_
      refine jx_aald (pc := 29) d_Sh_renew_29 ad_26 (Or.inr rfl) sh_26 hvq (sr_r hq) ?_
      refine jx_iload4 (pc := 30) d_Sh_renew_30 ?_
      refine jx_iconst (pc := 32) (v := 0) d_Sh_renew_32 (by decide) ?_
      refine jx_iast (pc := 33) d_Sh_renew_33 hsa hss (vp_in_nI (by omega) (by omega)) ?_
      refine jx_iinc4 (pc := 34) d_Sh_renew_34 rfl (Nat.le_of_ble_eq_true rfl) ?_
      refine jx_goto (pc := 37) 17 d_Sh_renew_37 (by decide) ?_
      rotate_left
      rw [nI_add1, e1]
      refine ih (i + 1) _ (by omega) (by rw [j_set_n _ _ _ (by omega)]; exact g1) (by rw [j_set_n _ _ _ (by omega)]; exact g2) (fun j hj => ?_) (fun b h1 h2 h3 => by rw [j_set_n _ _ _ h3]; exact g4 b h1 h2 h3)
      rw [j_set_s]
      unfold upd
      by_cases hc : j = i
      · rw [if_pos hc]
      · rw [if_neg hc]; exact g3 j (by omega)
  refine jx_aload0 (pc := 0) d_Sh_renew_0 ?_
  refine jx_getR (pc := 1) gf_Sh_11 d_Sh_renew_1 ad_23 sh_23 rfl ?_
  refine jx_iload1 (pc := 4) d_Sh_renew_4 ?_
  refine jx_iload2 (pc := 5) d_Sh_renew_5 ?_
  refine jx_iast (pc := 6) d_Sh_renew_6 ad_24 sh_24 (by first | assumption | exact vp_in_nI (by omega) (by omega)) ?_
  refine jx_aload0 (pc := 7) d_Sh_renew_7 ?_
  refine jx_getR (pc := 8) gf_Sh_15 d_Sh_renew_8 ad_23 sh_23 rfl ?_
  refine jx_iload1 (pc := 11) d_Sh_renew_11 ?_
  refine jx_iload3 (pc := 12) d_Sh_renew_12 ?_
  refine jx_iast (pc := 13) d_Sh_renew_13 ad_25 sh_25 (by first | assumption | exact vp_in_nI (by omega) (by omega)) ?_
  refine jx_iconst (pc := 14) (v := 0) d_Sh_renew_14 (by decide) ?_
  refine jx_istore4 (pc := 15) d_Sh_renew_15 rfl (Nat.le_of_ble_eq_true rfl) ?_
  rotate_left
  rw [eq1]
  exact loop 48 0 _ (by omega) (by rw [j_set_n _ _ _ (by omega), j_set_s]) (by rw [j_set_s, j_set_n _ _ _ (by omega)]) (fun j hj => absurd hj (by omega)) (fun b h1 h2 h3 => by rw [j_set_n _ _ _ h2, j_set_n _ _ _ h1])
/-- which finding an item's place is: 0 for none -/
def lackN (M : j_M) (q : Nat) (form i : Int32) : Int32 := if M 24 q = -1 then 1 else if M 24 q = form then (if i < 0 ∨ M 25 q ≤ i then 2 else 0) else 3
theorem c_Sh_findingAt {d q : Nat} {form i : Int32} {M : j_M} {Q : Option Value → j_M → Prop} (hq : q < 4) (k : Q (some (.int (lackN M q form i))) M) : j_Ct (d + 1) I_Sh_findingAt [.ref 23, .int (nI q), .int form, .int i] M Q := by
  refine j_met (by decide +kernel) co_Sh_findingAt (Nat.le_of_ble_eq_true rfl) (fun X hX => ?_)
  show j_W (d + 1) I_Sh_findingAt X 0 [some (.ref 23), some (.int (nI q)), some (.int form), some (.int i)] [] M
  have eq1 : (nI q).toNatClampNeg = q := nI_cl (by omega)
  have hvq : vp_in (nI q) 4 := vp_in_nI hq (by omega)
  refine jx_aload0 (pc := 0) d_Sh_findingAt_0 ?_
  refine jx_iload1 (pc := 1) d_Sh_findingAt_1 ?_
  refine jx_callV1 (pc := 2) (d' := d) vo_Sh_isLost lk_Sh_27 d_Sh_findingAt_2 ad_23 sh_23 rfl (by omega) (Nat.le_of_ble_eq_true rfl) ?_
  refine c_Sh_isLost hvq ?_
  refine jx_r1 ?_
  refine jx_if_eq (pc := 5) 10 d_Sh_findingAt_5 (by decide) (fun c5 => ?_) (fun c5 => ?_)
  refine jx_aload0 (pc := 10) d_Sh_findingAt_10 ?_
  refine jx_getR (pc := 11) gf_Sh_11 d_Sh_findingAt_11 ad_23 sh_23 rfl ?_
  refine jx_iload1 (pc := 14) d_Sh_findingAt_14 ?_
  refine jx_iald (pc := 15) d_Sh_findingAt_15 ad_24 sh_24 (by first | assumption | exact vp_in_nI (by omega) (by omega)) ?_
  refine jx_iload2 (pc := 16) d_Sh_findingAt_16 ?_
  refine jx_icmp_eq (pc := 17) 22 d_Sh_findingAt_17 (by decide) (fun c17 => ?_) (fun c17 => ?_)
  refine jx_iload3 (pc := 22) d_Sh_findingAt_22 ?_
  refine jx_if_lt (pc := 23) 36 d_Sh_findingAt_23 (by decide) (fun c23 => ?_) (fun c23 => ?_)
  refine jx_iconst (pc := 36) (v := 2) d_Sh_findingAt_36 (by decide) ?_
  refine jx_goto (pc := 37) 41 d_Sh_findingAt_37 (by decide) ?_
  refine jx_iret (pc := 41) hX rfl d_Sh_findingAt_41 ?_
  rotate_left
  refine jx_iload3 (pc := 26) d_Sh_findingAt_26 ?_
  refine jx_aload0 (pc := 27) d_Sh_findingAt_27 ?_
  refine jx_getR (pc := 28) gf_Sh_15 d_Sh_findingAt_28 ad_23 sh_23 rfl ?_
  refine jx_iload1 (pc := 31) d_Sh_findingAt_31 ?_
  refine jx_iald (pc := 32) d_Sh_findingAt_32 ad_25 sh_25 (by first | assumption | exact vp_in_nI (by omega) (by omega)) ?_
  refine jx_icmp_lt (pc := 33) 40 d_Sh_findingAt_33 (by decide) (fun c33 => ?_) (fun c33 => ?_)
  refine jx_iconst (pc := 40) (v := 0) d_Sh_findingAt_40 (by decide) ?_
  refine jx_iret (pc := 41) hX rfl d_Sh_findingAt_41 ?_
  rotate_left
  refine jx_iconst (pc := 36) (v := 2) d_Sh_findingAt_36 (by decide) ?_
  refine jx_goto (pc := 37) 41 d_Sh_findingAt_37 (by decide) ?_
  refine jx_iret (pc := 41) hX rfl d_Sh_findingAt_41 ?_
  rotate_left
  refine jx_iconst (pc := 20) (v := 3) d_Sh_findingAt_20 (by decide) ?_
  refine jx_iret (pc := 21) hX rfl d_Sh_findingAt_21 ?_
  rotate_left
  refine jx_iconst (pc := 8) (v := 1) d_Sh_findingAt_8 (by decide) ?_
  refine jx_iret (pc := 9) hX rfl d_Sh_findingAt_9 ?_
  rotate_left
  · rw [eq1] at c5 c17
    refine jq k ?_
    unfold lackN
    rw [if_neg (fun z => by rw [if_pos z] at c5; exact absurd c5 (by decide)), if_pos c17, if_pos (Or.inl c23)]
  · rw [eq1] at c5 c17 c33
    refine jq k ?_
    unfold lackN
    rw [if_neg (fun z => by rw [if_pos z] at c5; exact absurd c5 (by decide)), if_pos c17, if_neg (fun z => by rcases z with z | z; exact c23 z; exact absurd c33 (Int32.not_lt.mpr z))]
  · rw [eq1] at c5 c17 c33
    refine jq k ?_
    unfold lackN
    rw [if_neg (fun z => by rw [if_pos z] at c5; exact absurd c5 (by decide)), if_pos c17, if_pos (Or.inr (Int32.not_lt.mp c33))]
  · rw [eq1] at c5 c17
    refine jq k ?_
    unfold lackN
    rw [if_neg (fun z => by rw [if_pos z] at c5; exact absurd c5 (by decide)), if_neg c17]
  · rw [eq1] at c5
    refine jq k ?_
    unfold lackN
    rw [if_pos (Decidable.not_not.mp (fun z => c5 (by rw [if_neg z])))]
theorem c_Sh_hasRun {d q : Nat} {i n : Int32} {M : j_M} {Q : Option Value → j_M → Prop} (hq : q < 4) (k : Q (some (.int (if 0 ≤ i ∧ 0 ≤ n ∧ n ≤ M 25 q ∧ i ≤ M 25 q - n then 1 else 0))) M) : j_Ct d I_Sh_hasRun [.ref 23, .int (nI q), .int i, .int n] M Q := by
  refine j_met (by decide +kernel) co_Sh_hasRun (Nat.le_of_ble_eq_true rfl) (fun X hX => ?_)
  show j_W d I_Sh_hasRun X 0 [some (.ref 23), some (.int (nI q)), some (.int i), some (.int n)] [] M
  have eq1 : (nI q).toNatClampNeg = q := nI_cl (by omega)
  have hvq : vp_in (nI q) 4 := vp_in_nI hq (by omega)
  refine jx_iload2 (pc := 0) d_Sh_hasRun_0 ?_
  refine jx_if_lt (pc := 1) 34 d_Sh_hasRun_1 (by decide) (fun c1 => ?_) (fun c1 => ?_)
  refine jx_iconst (pc := 34) (v := 0) d_Sh_hasRun_34 (by decide) ?_
  refine jx_zret (pc := 35) hX rfl (by first | exact Or.inl rfl | exact Or.inr rfl) d_Sh_hasRun_35 ?_
  rotate_left
  refine jx_iload3 (pc := 4) d_Sh_hasRun_4 ?_
  refine jx_if_lt (pc := 5) 34 d_Sh_hasRun_5 (by decide) (fun c5 => ?_) (fun c5 => ?_)
  refine jx_iconst (pc := 34) (v := 0) d_Sh_hasRun_34 (by decide) ?_
  refine jx_zret (pc := 35) hX rfl (by first | exact Or.inl rfl | exact Or.inr rfl) d_Sh_hasRun_35 ?_
  rotate_left
  refine jx_iload3 (pc := 8) d_Sh_hasRun_8 ?_
  refine jx_aload0 (pc := 9) d_Sh_hasRun_9 ?_
  refine jx_getR (pc := 10) gf_Sh_15 d_Sh_hasRun_10 ad_23 sh_23 rfl ?_
  refine jx_iload1 (pc := 13) d_Sh_hasRun_13 ?_
  refine jx_iald (pc := 14) d_Sh_hasRun_14 ad_25 sh_25 (by first | assumption | exact vp_in_nI (by omega) (by omega)) ?_
  refine jx_icmp_gt (pc := 15) 34 d_Sh_hasRun_15 (by decide) (fun c15 => ?_) (fun c15 => ?_)
  refine jx_iconst (pc := 34) (v := 0) d_Sh_hasRun_34 (by decide) ?_
  refine jx_zret (pc := 35) hX rfl (by first | exact Or.inl rfl | exact Or.inr rfl) d_Sh_hasRun_35 ?_
  rotate_left
  refine jx_iload2 (pc := 18) d_Sh_hasRun_18 ?_
  refine jx_aload0 (pc := 19) d_Sh_hasRun_19 ?_
  refine jx_getR (pc := 20) gf_Sh_15 d_Sh_hasRun_20 ad_23 sh_23 rfl ?_
  refine jx_iload1 (pc := 23) d_Sh_hasRun_23 ?_
  refine jx_iald (pc := 24) d_Sh_hasRun_24 ad_25 sh_25 (by first | assumption | exact vp_in_nI (by omega) (by omega)) ?_
  refine jx_iload3 (pc := 25) d_Sh_hasRun_25 ?_
  refine jx_isub (pc := 26) d_Sh_hasRun_26 ?_
  refine jx_icmp_gt (pc := 27) 34 d_Sh_hasRun_27 (by decide) (fun c27 => ?_) (fun c27 => ?_)
  refine jx_iconst (pc := 34) (v := 0) d_Sh_hasRun_34 (by decide) ?_
  refine jx_zret (pc := 35) hX rfl (by first | exact Or.inl rfl | exact Or.inr rfl) d_Sh_hasRun_35 ?_
  rotate_left
  refine jx_iconst (pc := 30) (v := 1) d_Sh_hasRun_30 (by decide) ?_
  refine jx_goto (pc := 31) 35 d_Sh_hasRun_31 (by decide) ?_
  refine jx_zret (pc := 35) hX rfl (by first | exact Or.inl rfl | exact Or.inr rfl) d_Sh_hasRun_35 ?_
  rotate_left
  · refine jq k ?_
    rw [if_neg (fun z => absurd c1 (Int32.not_lt.mpr z.1))]
  · refine jq k ?_
    rw [if_neg (fun z => absurd c5 (Int32.not_lt.mpr z.2.1))]
  · refine jq k ?_
    rw [eq1] at c15
    rw [if_neg (fun z => absurd c15 (Int32.not_lt.mpr z.2.2.1))]
  · refine jq k ?_
    rw [eq1] at c15 c27
    rw [if_neg (fun z => absurd c27 (Int32.not_lt.mpr z.2.2.2))]
  · refine jq k ?_
    rw [eq1] at c15 c27
    rw [if_pos ⟨Int32.not_lt.mp c1, Int32.not_lt.mp c5, Int32.not_lt.mp c15, Int32.not_lt.mp c27⟩]
/-- an item as a form keeps it -/
def fitF (fo : Nat) (v : Int32) : Int32 := if fo = 0 then v.toInt8.toInt32 else if fo = 1 then v.toInt16.toInt32 else v
theorem c_Sh_fit {d fo : Nat} {v : Int32} {M : j_M} {Q : Option Value → j_M → Prop} (hf : fo < 3) (k : Q (some (.int (fitF fo v))) M) : j_Ct d I_Sh_fit [.ref 23, .int (nI fo), .int v] M Q := by
  refine j_met (by decide +kernel) co_Sh_fit (Nat.le_of_ble_eq_true rfl) (fun X hX => ?_)
  show j_W d I_Sh_fit X 0 [some (.ref 23), some (.int (nI fo)), some (.int v)] [] M
  have h3 : fo = 0 ∨ fo = 1 ∨ fo = 2 := by omega
  refine jx_iload1 (pc := 0) d_Sh_fit_0 ?_
  rcases h3 with rfl | rfl | rfl
  · refine jx_lookup (pc := 1) 28 d_Sh_fit_1 (by decide) (off := 27) (by decide) (by decide) ?_
    refine jx_iload2 (pc := 28) d_Sh_fit_28 ?_
    refine jx_i2b (pc := 29) d_Sh_fit_29 ?_
    refine jx_iret (pc := 30) hX rfl d_Sh_fit_30 ?_
    rotate_left
    exact k
  · refine jx_lookup (pc := 1) 31 d_Sh_fit_1 (by decide) (off := 30) (by decide) (by decide) ?_
    refine jx_iload2 (pc := 31) d_Sh_fit_31 ?_
    refine jx_i2s (pc := 32) d_Sh_fit_32 ?_
    refine jx_iret (pc := 33) hX rfl d_Sh_fit_33 ?_
    rotate_left
    exact k
  · refine jx_lookup (pc := 1) 34 d_Sh_fit_1 (by decide) (off := 33) (by decide) (by decide) ?_
    refine jx_iload2 (pc := 34) d_Sh_fit_34 ?_
    refine jx_iret (pc := 35) hX rfl d_Sh_fit_35 ?_
    rotate_left
    exact k
