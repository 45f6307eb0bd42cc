/-! THE REFERENCE: leaves, the text, a visit, who is found -/
theorem in_s {v : Int32} {n : Nat} (hn : n + 1 < 2 ^ 31) : (0 ≤ v ∧ v ≤ nI n) ↔ (0 ≤ v ∧ v < nI (n + 1)) := by
  constructor
  · intro h; obtain ⟨j, hj, rfl⟩ := le_of (by omega) h.1 h.2; exact ⟨h.1, nI_lt (by omega) (by omega)⟩
  · intro h; obtain ⟨j, hj, rfl⟩ := in_of (by omega) h.1 h.2; exact ⟨h.1, nI_le (by omega) (by omega)⟩
theorem c_R_isSix {d : Nat} {x : Int32} {M : j_M} {Q : Option Value → j_M → Prop} (k : Q (some (.int (if 0 ≤ x ∧ x < 6 then 1 else 0))) M) : j_Ct (d + 1) I_R_isSix [.int x] M Q := by
  refine j_met (by decide +kernel) co_R_isSix (Nat.le_of_ble_eq_true rfl) (fun X hX => ?_)
  show j_W (d + 1) I_R_isSix X 0 [some (.int x)] [] M
  refine jx_iload0 (pc := 0) d_R_isSix_0 ?_
  refine jx_iconst (pc := 1) (v := 0) d_R_isSix_1 (by decide) ?_
  refine jx_iconst (pc := 2) (v := 5) d_R_isSix_2 (by decide) ?_
  refine jx_callS3 (pc := 3) (d' := 0) so_R_in lk_R_95 d_R_isSix_3 (by omega) (Nat.le_of_ble_eq_true rfl) ?_
  refine c_R_in ?_
  refine jx_r1 ?_
  refine jx_zret (pc := 6) hX rfl (by split; exact Or.inr rfl; exact Or.inl rfl) d_R_isSix_6 ?_
  rotate_left
  have e : (0 ≤ x ∧ x ≤ (5 : Int32)) ↔ (0 ≤ x ∧ x < 6) := in_s (n := 5) (by omega)
  refine jq k ?_
  by_cases h : 0 ≤ x ∧ x < 6
  · rw [if_pos h, if_pos (e.mpr h)]
  · rw [if_neg h, if_neg (fun q => h (e.mp q))]
theorem c_R_isDay {d : Nat} {x : Int32} {M : j_M} {Q : Option Value → j_M → Prop} (k : Q (some (.int (if 0 ≤ x ∧ x < 30 then 1 else 0))) M) : j_Ct (d + 1) I_R_isDay [.int x] M Q := by
  refine j_met (by decide +kernel) co_R_isDay (Nat.le_of_ble_eq_true rfl) (fun X hX => ?_)
  show j_W (d + 1) I_R_isDay X 0 [some (.int x)] [] M
  refine jx_iload0 (pc := 0) d_R_isDay_0 ?_
  refine jx_iconst (pc := 1) (v := 0) d_R_isDay_1 (by decide) ?_
  refine jx_bipush (pc := 2) (v := 29) d_R_isDay_2 (by decide) ?_
  refine jx_callS3 (pc := 4) (d' := 0) so_R_in lk_R_95 d_R_isDay_4 (by omega) (Nat.le_of_ble_eq_true rfl) ?_
  refine c_R_in ?_
  refine jx_r1 ?_
  refine jx_zret (pc := 7) hX rfl (by split; exact Or.inr rfl; exact Or.inl rfl) d_R_isDay_7 ?_
  rotate_left
  have e : (0 ≤ x ∧ x ≤ (29 : Int32)) ↔ (0 ≤ x ∧ x < 30) := in_s (n := 29) (by omega)
  refine jq k ?_
  by_cases h : 0 ≤ x ∧ x < 30
  · rw [if_pos h, if_pos (e.mpr h)]
  · rw [if_neg h, if_neg (fun q => h (e.mp q))]
theorem c_R_isThing {d : Nat} {x : Int32} {M : j_M} {Q : Option Value → j_M → Prop} (k : Q (some (.int (if 0 ≤ x ∧ x < 3 then 1 else 0))) M) : j_Ct (d + 1) I_R_isThing [.int x] M Q := by
  refine j_met (by decide +kernel) co_R_isThing (Nat.le_of_ble_eq_true rfl) (fun X hX => ?_)
  show j_W (d + 1) I_R_isThing X 0 [some (.int x)] [] M
  refine jx_iload0 (pc := 0) d_R_isThing_0 ?_
  refine jx_iconst (pc := 1) (v := 0) d_R_isThing_1 (by decide) ?_
  refine jx_iconst (pc := 2) (v := 2) d_R_isThing_2 (by decide) ?_
  refine jx_callS3 (pc := 3) (d' := 0) so_R_in lk_R_95 d_R_isThing_3 (by omega) (Nat.le_of_ble_eq_true rfl) ?_
  refine c_R_in ?_
  refine jx_r1 ?_
  refine jx_zret (pc := 6) hX rfl (by split; exact Or.inr rfl; exact Or.inl rfl) d_R_isThing_6 ?_
  rotate_left
  have e : (0 ≤ x ∧ x ≤ (2 : Int32)) ↔ (0 ≤ x ∧ x < 3) := in_s (n := 2) (by omega)
  refine jq k ?_
  by_cases h : 0 ≤ x ∧ x < 3
  · rw [if_pos h, if_pos (e.mpr h)]
  · rw [if_neg h, if_neg (fun q => h (e.mp q))]
theorem c_R_isSheet {d : Nat} {x : Int32} {M : j_M} {Q : Option Value → j_M → Prop} (k : Q (some (.int (if 0 ≤ x ∧ x < 4 then 1 else 0))) M) : j_Ct (d + 1) I_R_isSheet [.int x] M Q := by
  refine j_met (by decide +kernel) co_R_isSheet (Nat.le_of_ble_eq_true rfl) (fun X hX => ?_)
  show j_W (d + 1) I_R_isSheet X 0 [some (.int x)] [] M
  refine jx_iload0 (pc := 0) d_R_isSheet_0 ?_
  refine jx_iconst (pc := 1) (v := 0) d_R_isSheet_1 (by decide) ?_
  refine jx_iconst (pc := 2) (v := 3) d_R_isSheet_2 (by decide) ?_
  refine jx_callS3 (pc := 3) (d' := 0) so_R_in lk_R_95 d_R_isSheet_3 (by omega) (Nat.le_of_ble_eq_true rfl) ?_
  refine c_R_in ?_
  refine jx_r1 ?_
  refine jx_zret (pc := 6) hX rfl (by split; exact Or.inr rfl; exact Or.inl rfl) d_R_isSheet_6 ?_
  rotate_left
  have e : (0 ≤ x ∧ x ≤ (3 : Int32)) ↔ (0 ≤ x ∧ x < 4) := in_s (n := 3) (by omega)
  refine jq k ?_
  by_cases h : 0 ≤ x ∧ x < 4
  · rw [if_pos h, if_pos (e.mpr h)]
  · rw [if_neg h, if_neg (fun q => h (e.mp q))]
theorem c_R_bit {d n i : Nat} {M : j_M} {Q : Option Value → j_M → Prop} (h : n < 2 ^ 31) (hi : i < 32) (k : Q (some (.int (if n.testBit i then 1 else 0))) M) : j_Ct d I_R_isIn [.int (nI n), .int (nI i)] M Q := by
  refine c_R_isIn (jq k ?_)
  have hb := bt_s1 h hi
  by_cases hs : n.testBit i = true
  · rw [if_pos hs, if_pos (hb.mpr hs)]
  · rw [if_neg hs, if_neg (fun q => hs (hb.mp q))]
/-- what reading the text may change -/
def OffF (M M' : j_M) : Prop := (∀ b, b ≠ 79 → b ≠ 81 → M' b = M b) ∧ ∀ k, k ≠ 2 → M' 79 k = M 79 k
theorem OffF.rf {M : j_M} : OffF M M := ⟨fun _ _ _ => rfl, fun _ _ => rfl⟩
theorem OffF.tr {M M1 M2 : j_M} (h : OffF M M1) (h2 : OffF M1 M2) : OffF M M2 := ⟨fun b g1 g2 => (h2.1 b g1 g2).trans (h.1 b g1 g2), fun k g => (h2.2 k g).trans (h.2 k g)⟩
theorem OffF.s79 {M : j_M} {x : Int32} : OffF M (j_set M 79 2 x) := ⟨fun b g1 _ => j_set_n _ _ _ g1, fun k g => by rw [j_set_s]; unfold upd; rw [if_neg g]⟩
theorem OffF.s81 {M : j_M} {k : Nat} {x : Int32} : OffF M (j_set M 81 k x) := ⟨fun b _ g2 => j_set_n _ _ _ g2, fun k g => by rw [j_set_n _ _ _ (by omega)]⟩
theorem c_R_faultNow {d nb : Nat} {tx : Nat → Nat} {M : j_M} {Q : Option Value → j_M → Prop} (hn : nb ≤ 23) (htx : ∀ k, tx k ≤ 255) (h1 : M 79 1 = nI nb) (ht : ∀ i, i < nb → M 80 i = nI (tx i))
    (k : ∀ M', M' 79 2 = nI (hnB nb tx) → (∀ h t, h < hnB nb tx → t < 3 → M' 81 (3 * h + t) = nI (gdB nb tx h t)) → OffF M M' → Q (some (.int (fl99 (fltB nb tx)))) M') : j_Ct (d + 1) I_R_faultNow [.ref 79] M Q := by
  refine j_met (by decide +kernel) co_R_faultNow (Nat.le_of_ble_eq_true rfl) (fun X hX => ?_)
  show j_W (d + 1) I_R_faultNow X 0 [some (.ref 79), none, none, none] [] M
  -- an end with a fault at p
  have bad : ∀ (p : Nat) (M1 : j_M), OffF M M1 → M1 79 2 = 0 → fltB nb tx = p → p ≤ 23 → Q (some (.int (nI p))) M1 := by
    intro p M1 hO h2 hf hp
    have hh : hnB nb tx = 0 := by unfold hnB; rw [if_neg (by omega)]
    have := k M1 (by rw [hh]; exact h2) (fun h t hlt => absurd hlt (by omega)) hO
    rw [hf] at this
    unfold fl99 at this
    rw [if_neg (by omega)] at this
    exact this
  have loop : ∀ (r n : Nat) (M1 : j_M), n + r = 7 → 4 * n ≤ nb → (∀ j, j < 4 * n → fitB tx j = true) → OffF M M1 → M1 79 2 = 0 → (∀ h t, h < n → t < 3 → M1 81 (3 * h + t) = nI (tx (4 * h + t) - 48)) → j_W (d + 1) I_R_faultNow X 9 [some (.ref 79), some (.int (nI n)), some (.int (nI (4 * n))), none] [] M1 := by
    intro r
    induction r with
    | zero => intro n M1 hr h4; exact absurd h4 (by omega)
    | succ r ih =>
      intro n M1 hr h4 hfit hO h2 hg
      have inner : ∀ (q g : Nat) (M2 : j_M), g + q = 3 → (0 < 4 * n ∨ 4 * n < nb) → (∀ j, j < 4 * n + g → fitB tx j = true) → 4 * n + g ≤ nb → OffF M M2 → M2 79 2 = 0 → (∀ h t, (h < n ∧ t < 3) ∨ (h = n ∧ t < g) → M2 81 (3 * h + t) = nI (tx (4 * h + t) - 48)) → j_W (d + 1) I_R_faultNow X 23 [some (.ref 79), some (.int (nI n)), some (.int (nI (4 * n))), some (.int (nI g))] [] M2 := by
        intro q
        induction q with
        | zero =>
          intro g M2 hq hpos hf2 hgn hO2 h22 hg2
          have hg3 : g = 3 := by omega
          subst hg3
          have e1 : M2 79 1 = nI nb := by rw [hO2.2 1 (by omega)]; exact h1
          have e3 : nI (4 * n) + Int32.ofInt 3 = nI (4 * n + 3) := nI_add (4 * n) 3
          have en : nI n + Int32.ofInt 1 = nI (n + 1) := nI_add1 n
          have e4 : (nI (4 * n + 3)).toNatClampNeg = 4 * n + 3 := nI_cl (by omega)
          have zeq : nI (4 * n + 3) = nI nb ↔ 4 * n + 3 = nb := nI_eq (by omega) (by omega)
          by_cases hend : 4 * n + 3 = nb
          · have hff : ffB tx nb = nb := ffB_all (fun j hj => hf2 j (by omega))
            have hflt : fltB nb tx = 99 := by unfold fltB; rw [hff, if_neg (by omega), if_pos (by omega)]
            have hhn : hnB nb tx = n + 1 := by unfold hnB; rw [if_pos hflt]; omega
            refine jx_iload1 (pc := 23) d_R_faultNow_23 ?_
            refine jx_bipush (pc := 24) (v := 6) d_R_faultNow_24 (by decide) ?_
            refine jx_icmp_ge (pc := 26) 89 d_R_faultNow_26 (by decide) (fun c26 => absurd c26 (show ¬ nI 6 ≤ nI n from nI_ge (by omega) (by omega))) (fun c26 => ?_)
            refine jx_iload3 (pc := 29) d_R_faultNow_29 ?_
            refine jx_iconst (pc := 30) (v := 3) d_R_faultNow_30 (by decide) ?_
            refine jx_icmp_ge (pc := 31) 89 d_R_faultNow_31 (by decide) (fun c31 => ?_) (fun c31 => absurd c31 (fun z => z (show nI 3 ≤ nI 3 from Int32.le_refl _)))
            refine jx_iload3 (pc := 89) d_R_faultNow_89 ?_
            refine jx_iconst (pc := 90) (v := 3) d_R_faultNow_90 (by decide) ?_
            refine jx_icmp_ge (pc := 91) 98 d_R_faultNow_91 (by decide) (fun c91 => ?_) (fun c91 => absurd c91 (fun z => z (show nI 3 ≤ nI 3 from Int32.le_refl _)))
            refine jx_iinc1 (pc := 98) d_R_faultNow_98 rfl (Nat.le_of_ble_eq_true rfl) ?_
            refine jx_iinc2 (pc := 101) d_R_faultNow_101 rfl (Nat.le_of_ble_eq_true rfl) ?_
            refine jx_iload2 (pc := 104) d_R_faultNow_104 ?_
            refine jx_aload0 (pc := 105) d_R_faultNow_105 ?_
            refine jx_getI (pc := 106) gf_R_99 d_R_faultNow_106 ad_79 sh_79 rfl ?_
            refine jx_icmp_ne (pc := 109) 119 d_R_faultNow_109 (by decide) (fun c109 => absurd c109 (fun z => z (by rw [e3, e1]; exact zeq.mpr hend))) (fun c109 => ?_)
            refine jx_aload0 (pc := 112) d_R_faultNow_112 ?_
            refine jx_iload1 (pc := 113) d_R_faultNow_113 ?_
            refine jx_putI (pc := 114) pf_R_102 d_R_faultNow_114 ad_79 sh_79 rfl ?_
            refine jx_iconst (pc := 117) (v := (-1)) d_R_faultNow_117 (by decide) ?_
            refine jx_iret (pc := 118) hX rfl d_R_faultNow_118 ?_
            rotate_left
            rw [en]
            have := k (j_set M2 79 2 (nI (n + 1))) (by rw [hhn]; simp [j_set_s, upd]) (fun h t hlt ht3 => by
              rw [j_set_n _ _ _ (by omega), hg2 h t (by by_cases z : h = n; exact Or.inr ⟨z, ht3⟩; exact Or.inl ⟨by omega, ht3⟩)]
              unfold gdB; rw [if_pos ⟨hlt, ht3⟩]) (hO2.tr OffF.s79)
            rw [hflt] at this
            exact this
          · have hv : vp_in (nI (4 * n) + Int32.ofInt 3) 23 := by rw [e3]; exact vp_in_nI (by omega) (by omega)
            have hbyte : M2 80 (nI (4 * n) + Int32.ofInt 3).toNatClampNeg = nI (tx (4 * n + 3)) := by rw [e3, e4, hO2.1 80 (by omega) (by omega)]; exact ht _ (by omega)
            have h255 := htx (4 * n + 3)
            have z59 : nI (tx (4 * n + 3)) = 59 ↔ tx (4 * n + 3) = 59 := nI_eq (b := 59) (by omega) (by omega)
            refine jx_iload1 (pc := 23) d_R_faultNow_23 ?_
            refine jx_bipush (pc := 24) (v := 6) d_R_faultNow_24 (by decide) ?_
            refine jx_icmp_ge (pc := 26) 89 d_R_faultNow_26 (by decide) (fun c26 => absurd c26 (show ¬ nI 6 ≤ nI n from nI_ge (by omega) (by omega))) (fun c26 => ?_)
            refine jx_iload3 (pc := 29) d_R_faultNow_29 ?_
            refine jx_iconst (pc := 30) (v := 3) d_R_faultNow_30 (by decide) ?_
            refine jx_icmp_ge (pc := 31) 89 d_R_faultNow_31 (by decide) (fun c31 => ?_) (fun c31 => absurd c31 (fun z => z (show nI 3 ≤ nI 3 from Int32.le_refl _)))
            refine jx_iload3 (pc := 89) d_R_faultNow_89 ?_
            refine jx_iconst (pc := 90) (v := 3) d_R_faultNow_90 (by decide) ?_
            refine jx_icmp_ge (pc := 91) 98 d_R_faultNow_91 (by decide) (fun c91 => ?_) (fun c91 => absurd c91 (fun z => z (show nI 3 ≤ nI 3 from Int32.le_refl _)))
            refine jx_iinc1 (pc := 98) d_R_faultNow_98 rfl (Nat.le_of_ble_eq_true rfl) ?_
            refine jx_iinc2 (pc := 101) d_R_faultNow_101 rfl (Nat.le_of_ble_eq_true rfl) ?_
            refine jx_iload2 (pc := 104) d_R_faultNow_104 ?_
            refine jx_aload0 (pc := 105) d_R_faultNow_105 ?_
            refine jx_getI (pc := 106) gf_R_99 d_R_faultNow_106 ad_79 sh_79 rfl ?_
            refine jx_icmp_ne (pc := 109) 119 d_R_faultNow_109 (by decide) (fun c109 => ?_) (fun c109 => absurd c109 (fun z => hend (by rw [e3, e1] at z; exact zeq.mp z)))
            refine jx_aload0 (pc := 119) d_R_faultNow_119 ?_
            refine jx_getR (pc := 120) gf_R_7 d_R_faultNow_120 ad_79 sh_79 rfl ?_
            refine jx_iload2 (pc := 123) d_R_faultNow_123 ?_
            refine jx_iald (pc := 124) d_R_faultNow_124 ad_80 sh_80 hv ?_
            refine jx_bipush (pc := 125) (v := 59) d_R_faultNow_125 (by decide) ?_
            refine jx_icmp_eq (pc := 127) 132 d_R_faultNow_127 (by decide) (fun c127 => ?_) (fun c127 => ?_)
            refine jx_iinc2 (pc := 132) d_R_faultNow_132 rfl (Nat.le_of_ble_eq_true rfl) ?_
            refine jx_goto (pc := 135) 9 d_R_faultNow_135 (by decide) ?_
            rotate_left
            refine jx_iload2 (pc := 130) d_R_faultNow_130 ?_
            refine jx_iret (pc := 131) hX rfl d_R_faultNow_131 ?_
            rotate_left
            · rw [hbyte, z59] at c127
              rw [en, e3, nI_add1]
              refine jx_sub (L' := [some (.ref 79), some (.int (nI (n + 1))), some (.int (nI (4 * (n + 1)))), none]) (fun j v => by rcases j with _ | _ | _ | _ | j <;> simp [show 4 * n + 3 + 1 = 4 * (n + 1) by omega]) (ih (n + 1) M2 (by omega) (by omega) (fun j hj => ?_) hO2 h22 (fun h t hh ht3 => hg2 h t ?_))
              · by_cases hj3 : j = 4 * n + 3
                · rw [hj3]; unfold fitB; rw [if_pos (by omega)]; simp [c127]
                · exact hf2 j (by omega)
              · by_cases z : h = n
                · exact Or.inr ⟨z, ht3⟩
                · exact Or.inl ⟨by omega, ht3⟩
            · rw [hbyte, z59] at c127
              rw [e3]
              refine bad _ M2 hO2 h22 ?_ (by omega)
              unfold fltB
              rw [ffB_eq (k := 4 * n + 3) (by omega) (fun j hj => hf2 j (by omega)) (by unfold fitB; rw [if_pos (by omega)]; simp [c127]), if_pos (by omega)]
        | succ q ihq =>
          intro g M2 hq hpos hf2 hgn hO2 h22 hg2
          have e1 : M2 79 1 = nI nb := by rw [hO2.2 1 (by omega)]; exact h1
          have e2 : nI (4 * n) + nI g = nI (4 * n + g) := nI_add _ _
          have e4 : (nI (4 * n + g)).toNatClampNeg = 4 * n + g := nI_cl (by omega)
          have e5 : (3 : Int32) * nI n + nI g = nI (3 * n + g) := by rw [show (3 : Int32) = nI 3 from rfl, nI_mul, nI_add]
          have e6 : (nI (3 * n + g)).toNatClampNeg = 3 * n + g := nI_cl (by omega)
          by_cases hend : 4 * n + g = nb
          · -- the text ends here
            have hff : ffB tx nb = nb := ffB_all (fun j hj => hf2 j (by omega))
            have hflt : fltB nb tx = 4 * n + g := by unfold fltB; rw [hff, if_neg (by omega), if_neg (by omega)]; omega
            refine jx_iload1 (pc := 23) d_R_faultNow_23 ?_
            refine jx_bipush (pc := 24) (v := 6) d_R_faultNow_24 (by decide) ?_
            refine jx_icmp_ge (pc := 26) 89 d_R_faultNow_26 (by decide) (fun c26 => absurd c26 (show ¬ nI 6 ≤ nI n from nI_ge (by omega) (by omega))) (fun c26 => ?_)
            refine jx_iload3 (pc := 29) d_R_faultNow_29 ?_
            refine jx_iconst (pc := 30) (v := 3) d_R_faultNow_30 (by decide) ?_
            refine jx_icmp_ge (pc := 31) 89 d_R_faultNow_31 (by decide) (fun c31 => absurd c31 (show ¬ nI 3 ≤ nI g from nI_ge (by omega) (by omega))) (fun c31 => ?_)
            refine jx_iload2 (pc := 34) d_R_faultNow_34 ?_
            refine jx_iload3 (pc := 35) d_R_faultNow_35 ?_
            refine jx_iadd (pc := 36) d_R_faultNow_36 ?_
            refine jx_aload0 (pc := 37) d_R_faultNow_37 ?_
            refine jx_getI (pc := 38) gf_R_99 d_R_faultNow_38 ad_79 sh_79 rfl ?_
            refine jx_icmp_ge (pc := 41) 89 d_R_faultNow_41 (by decide) (fun c41 => ?_) (fun c41 => absurd c41 (fun z => z (by rw [e2, e1]; exact nI_le (by omega) (by omega))))
            refine jx_iload3 (pc := 89) d_R_faultNow_89 ?_
            refine jx_iconst (pc := 90) (v := 3) d_R_faultNow_90 (by decide) ?_
            refine jx_icmp_ge (pc := 91) 98 d_R_faultNow_91 (by decide) (fun c91 => absurd c91 (show ¬ nI 3 ≤ nI g from nI_ge (by omega) (by omega))) (fun c91 => ?_)
            refine jx_iload2 (pc := 94) d_R_faultNow_94 ?_
            refine jx_iload3 (pc := 95) d_R_faultNow_95 ?_
            refine jx_iadd (pc := 96) d_R_faultNow_96 ?_
            refine jx_iret (pc := 97) hX rfl d_R_faultNow_97 ?_
            rotate_left
            rw [e2]
            exact bad _ M2 hO2 h22 hflt (by omega)
          · have hv : vp_in (nI (4 * n) + nI g) 23 := by rw [e2]; exact vp_in_nI (by omega) (by omega)
            have hv2 : vp_in ((3 : Int32) * nI n + nI g) 21 := by rw [e5]; exact vp_in_nI (by omega) (by omega)
            have hbyte : M2 80 (nI (4 * n) + nI g).toNatClampNeg = nI (tx (4 * n + g)) := by rw [e2, e4, hO2.1 80 (by omega) (by omega)]; exact ht _ (by omega)
            have h255 := htx (4 * n + g)
            have hin : (48 ≤ nI (tx (4 * n + g)) ∧ nI (tx (4 * n + g)) ≤ 57) ↔ fitB tx (4 * n + g) = true := by
              unfold fitB
              rw [if_neg (by omega)]
              simp only [Bool.and_eq_true, decide_eq_true_eq]
              constructor
              · intro z; exact ⟨(nI_leI (a := 48) (by omega) (by omega)).mp z.1, (nI_leI (b := 57) (by omega) (by omega)).mp z.2⟩
              · intro z; exact ⟨(nI_leI (a := 48) (by omega) (by omega)).mpr z.1, (nI_leI (b := 57) (by omega) (by omega)).mpr z.2⟩
            by_cases hfb : fitB tx (4 * n + g) = true
            · have h48 := (hin.mpr hfb)
              have h48' : 48 ≤ tx (4 * n + g) := (nI_leI (a := 48) (by omega) (by omega)).mp h48.1
              refine jx_iload1 (pc := 23) d_R_faultNow_23 ?_
              refine jx_bipush (pc := 24) (v := 6) d_R_faultNow_24 (by decide) ?_
              refine jx_icmp_ge (pc := 26) 89 d_R_faultNow_26 (by decide) (fun c26 => absurd c26 (show ¬ nI 6 ≤ nI n from nI_ge (by omega) (by omega))) (fun c26 => ?_)
              refine jx_iload3 (pc := 29) d_R_faultNow_29 ?_
              refine jx_iconst (pc := 30) (v := 3) d_R_faultNow_30 (by decide) ?_
              refine jx_icmp_ge (pc := 31) 89 d_R_faultNow_31 (by decide) (fun c31 => absurd c31 (show ¬ nI 3 ≤ nI g from nI_ge (by omega) (by omega))) (fun c31 => ?_)
              refine jx_iload2 (pc := 34) d_R_faultNow_34 ?_
              refine jx_iload3 (pc := 35) d_R_faultNow_35 ?_
              refine jx_iadd (pc := 36) d_R_faultNow_36 ?_
              refine jx_aload0 (pc := 37) d_R_faultNow_37 ?_
              refine jx_getI (pc := 38) gf_R_99 d_R_faultNow_38 ad_79 sh_79 rfl ?_
              refine jx_icmp_ge (pc := 41) 89 d_R_faultNow_41 (by decide) (fun c41 => absurd c41 (by rw [e2, e1]; exact nI_ge (by omega) (by omega))) (fun c41 => ?_)
              refine jx_aload0 (pc := 44) d_R_faultNow_44 ?_
              refine jx_getR (pc := 45) gf_R_7 d_R_faultNow_45 ad_79 sh_79 rfl ?_
              refine jx_iload2 (pc := 48) d_R_faultNow_48 ?_
              refine jx_iload3 (pc := 49) d_R_faultNow_49 ?_
              refine jx_iadd (pc := 50) d_R_faultNow_50 ?_
              refine jx_iald (pc := 51) d_R_faultNow_51 ad_80 sh_80 hv ?_
              refine jx_bipush (pc := 52) (v := 48) d_R_faultNow_52 (by decide) ?_
              refine jx_bipush (pc := 54) (v := 57) d_R_faultNow_54 (by decide) ?_
              refine jx_callS3 (pc := 56) (d' := 0) so_R_in lk_R_95 d_R_faultNow_56 (by omega) (Nat.le_of_ble_eq_true rfl) ?_
              refine c_R_in ?_
              refine jx_r1 ?_
              refine jx_if_eq (pc := 59) 89 d_R_faultNow_59 (by decide) (fun c59 => absurd c59 (by rw [hbyte]; exact z01p h48)) (fun c59 => ?_)
              refine jx_aload0 (pc := 62) d_R_faultNow_62 ?_
              refine jx_getR (pc := 63) gf_R_13 d_R_faultNow_63 ad_79 sh_79 rfl ?_
              refine jx_iconst (pc := 66) (v := 3) d_R_faultNow_66 (by decide) ?_
              refine jx_iload1 (pc := 67) d_R_faultNow_67 ?_
              refine jx_imul (pc := 68) d_R_faultNow_68 ?_
              refine jx_iload3 (pc := 69) d_R_faultNow_69 ?_
              refine jx_iadd (pc := 70) d_R_faultNow_70 ?_
              refine jx_aload0 (pc := 71) d_R_faultNow_71 ?_
              refine jx_getR (pc := 72) gf_R_7 d_R_faultNow_72 ad_79 sh_79 rfl ?_
              refine jx_iload2 (pc := 75) d_R_faultNow_75 ?_
              refine jx_iload3 (pc := 76) d_R_faultNow_76 ?_
              refine jx_iadd (pc := 77) d_R_faultNow_77 ?_
              refine jx_iald (pc := 78) d_R_faultNow_78 ad_80 sh_80 hv ?_
              refine jx_bipush (pc := 79) (v := 48) d_R_faultNow_79 (by decide) ?_
              refine jx_isub (pc := 81) d_R_faultNow_81 ?_
              refine jx_iast (pc := 82) d_R_faultNow_82 ad_81 sh_81 hv2 ?_
              refine jx_iinc3 (pc := 83) d_R_faultNow_83 rfl (Nat.le_of_ble_eq_true rfl) ?_
              refine jx_goto (pc := 86) 23 d_R_faultNow_86 (by decide) ?_
              rotate_left
              rw [hbyte, e5, e6, nI_add1, show (48 : Int32) = nI 48 from rfl, nI_sub h48']
              refine ihq (g + 1) _ (by omega) hpos (fun j hj => ?_) (by omega) (hO2.tr OffF.s81) (by rw [j_set_n _ _ _ (by omega)]; exact h22) (fun h t hht => ?_)
              · by_cases hj3 : j = 4 * n + g
                · rw [hj3]; exact hfb
                · exact hf2 j (by omega)
              · rw [j_set_s]
                unfold upd
                by_cases hc : 3 * h + t = 3 * n + g
                · have ht3 : t < 3 := by rcases hht with z | z <;> omega
                  rw [if_pos hc, show h = n by omega, show t = g by omega]
                · rw [if_neg hc]
                  exact hg2 h t (by rcases hht with z | z; exact Or.inl z; exact Or.inr ⟨z.1, by omega⟩)
            · have hflt : fltB nb tx = 4 * n + g := by
                unfold fltB
                rw [ffB_eq (k := 4 * n + g) (by omega) hf2 (by simpa using hfb), if_pos (by omega)]
              refine jx_iload1 (pc := 23) d_R_faultNow_23 ?_
              refine jx_bipush (pc := 24) (v := 6) d_R_faultNow_24 (by decide) ?_
              refine jx_icmp_ge (pc := 26) 89 d_R_faultNow_26 (by decide) (fun c26 => absurd c26 (show ¬ nI 6 ≤ nI n from nI_ge (by omega) (by omega))) (fun c26 => ?_)
              refine jx_iload3 (pc := 29) d_R_faultNow_29 ?_
              refine jx_iconst (pc := 30) (v := 3) d_R_faultNow_30 (by decide) ?_
              refine jx_icmp_ge (pc := 31) 89 d_R_faultNow_31 (by decide) (fun c31 => absurd c31 (show ¬ nI 3 ≤ nI g from nI_ge (by omega) (by omega))) (fun c31 => ?_)
              refine jx_iload2 (pc := 34) d_R_faultNow_34 ?_
              refine jx_iload3 (pc := 35) d_R_faultNow_35 ?_
              refine jx_iadd (pc := 36) d_R_faultNow_36 ?_
              refine jx_aload0 (pc := 37) d_R_faultNow_37 ?_
              refine jx_getI (pc := 38) gf_R_99 d_R_faultNow_38 ad_79 sh_79 rfl ?_
              refine jx_icmp_ge (pc := 41) 89 d_R_faultNow_41 (by decide) (fun c41 => absurd c41 (by rw [e2, e1]; exact nI_ge (by omega) (by omega))) (fun c41 => ?_)
              refine jx_aload0 (pc := 44) d_R_faultNow_44 ?_
              refine jx_getR (pc := 45) gf_R_7 d_R_faultNow_45 ad_79 sh_79 rfl ?_
              refine jx_iload2 (pc := 48) d_R_faultNow_48 ?_
              refine jx_iload3 (pc := 49) d_R_faultNow_49 ?_
              refine jx_iadd (pc := 50) d_R_faultNow_50 ?_
              refine jx_iald (pc := 51) d_R_faultNow_51 ad_80 sh_80 hv ?_
              refine jx_bipush (pc := 52) (v := 48) d_R_faultNow_52 (by decide) ?_
              refine jx_bipush (pc := 54) (v := 57) d_R_faultNow_54 (by decide) ?_
              refine jx_callS3 (pc := 56) (d' := 0) so_R_in lk_R_95 d_R_faultNow_56 (by omega) (Nat.le_of_ble_eq_true rfl) ?_
              refine c_R_in ?_
              refine jx_r1 ?_
              refine jx_if_eq (pc := 59) 89 d_R_faultNow_59 (by decide) (fun c59 => ?_) (fun c59 => absurd c59 (fun z => z (by rw [hbyte]; exact z01.mpr (fun y => hfb (hin.mp y)))))
              refine jx_iload3 (pc := 89) d_R_faultNow_89 ?_
              refine jx_iconst (pc := 90) (v := 3) d_R_faultNow_90 (by decide) ?_
              refine jx_icmp_ge (pc := 91) 98 d_R_faultNow_91 (by decide) (fun c91 => absurd c91 (show ¬ nI 3 ≤ nI g from nI_ge (by omega) (by omega))) (fun c91 => ?_)
              refine jx_iload2 (pc := 94) d_R_faultNow_94 ?_
              refine jx_iload3 (pc := 95) d_R_faultNow_95 ?_
              refine jx_iadd (pc := 96) d_R_faultNow_96 ?_
              refine jx_iret (pc := 97) hX rfl d_R_faultNow_97 ?_
              rotate_left
              rw [e2]
              exact bad _ M2 hO2 h22 hflt (by omega)
      have e1 : M1 79 1 = nI nb := by rw [hO.2 1 (by omega)]; exact h1
      have hin3 : (0 < 4 * n ∨ 4 * n < nb) → j_W (d + 1) I_R_faultNow X 23 [some (.ref 79), some (.int (nI n)), some (.int (nI (4 * n))), some (.int 0)] [] M1 := fun hp => inner 3 0 M1 (by omega) hp hfit (by omega) hO h2 (fun h t hht => hg h t (by rcases hht with z | z <;> omega) (by rcases hht with z | z <;> omega))
      by_cases hlt : 4 * n < nb
      · skip
        refine jx_iload2 (pc := 9) d_R_faultNow_9 ?_
        refine jx_aload0 (pc := 10) d_R_faultNow_10 ?_
        refine jx_getI (pc := 11) gf_R_99 d_R_faultNow_11 ad_79 sh_79 rfl ?_
        refine jx_icmp_lt (pc := 14) 21 d_R_faultNow_14 (by decide) (fun c14 => ?_) (fun c14 => absurd c14 (fun z => z (by rw [e1]; exact nI_lt hlt (by omega))))
        refine jx_iconst (pc := 21) (v := 0) d_R_faultNow_21 (by decide) ?_
        refine jx_istore3 (pc := 22) d_R_faultNow_22 rfl (Nat.le_of_ble_eq_true rfl) ?_
        rotate_left
        exact hin3 (Or.inr hlt)
      by_cases hp : 0 < 4 * n
      · skip
        refine jx_iload2 (pc := 9) d_R_faultNow_9 ?_
        refine jx_aload0 (pc := 10) d_R_faultNow_10 ?_
        refine jx_getI (pc := 11) gf_R_99 d_R_faultNow_11 ad_79 sh_79 rfl ?_
        refine jx_icmp_lt (pc := 14) 21 d_R_faultNow_14 (by decide) (fun c14 => absurd c14 (by rw [e1]; exact nI_nlt (by omega) (by omega))) (fun c14 => ?_)
        refine jx_iload2 (pc := 17) d_R_faultNow_17 ?_
        refine jx_if_le (pc := 18) 138 d_R_faultNow_18 (by decide) (fun c18 => absurd c18 (Int32.not_le.mpr (show nI 0 < nI (4 * n) from nI_lt hp (by omega)))) (fun c18 => ?_)
        refine jx_iconst (pc := 21) (v := 0) d_R_faultNow_21 (by decide) ?_
        refine jx_istore3 (pc := 22) d_R_faultNow_22 rfl (Nat.le_of_ble_eq_true rfl) ?_
        rotate_left
        exact hin3 (Or.inl hp)
      · have hnb : nb = 0 := by omega
        have hflt : fltB nb tx = 99 := by unfold fltB; rw [hnb]; rfl
        have hhn : hnB nb tx = 0 := by unfold hnB; rw [if_pos hflt, hnb]
        refine jx_iload2 (pc := 9) d_R_faultNow_9 ?_
        refine jx_aload0 (pc := 10) d_R_faultNow_10 ?_
        refine jx_getI (pc := 11) gf_R_99 d_R_faultNow_11 ad_79 sh_79 rfl ?_
        refine jx_icmp_lt (pc := 14) 21 d_R_faultNow_14 (by decide) (fun c14 => absurd c14 (by rw [e1]; exact nI_nlt (by omega) (by omega))) (fun c14 => ?_)
        refine jx_iload2 (pc := 17) d_R_faultNow_17 ?_
        refine jx_if_le (pc := 18) 138 d_R_faultNow_18 (by decide) (fun c18 => ?_) (fun c18 => absurd c18 (fun z => z (show nI (4 * n) ≤ nI 0 from nI_le (by omega) (by omega))))
        refine jx_iconst (pc := 138) (v := (-1)) d_R_faultNow_138 (by decide) ?_
        refine jx_iret (pc := 139) hX rfl d_R_faultNow_139 ?_
        rotate_left
        have := k M1 (by rw [hhn]; exact h2) (fun h t hlt => absurd hlt (by omega)) hO
        rw [hflt] at this
        exact this
  refine jx_aload0 (pc := 0) d_R_faultNow_0 ?_
  refine jx_iconst (pc := 1) (v := 0) d_R_faultNow_1 (by decide) ?_
  refine jx_putI (pc := 2) pf_R_102 d_R_faultNow_2 ad_79 sh_79 rfl ?_
  refine jx_iconst (pc := 5) (v := 0) d_R_faultNow_5 (by decide) ?_
  refine jx_istore1 (pc := 6) d_R_faultNow_6 rfl (Nat.le_of_ble_eq_true rfl) ?_
  refine jx_iconst (pc := 7) (v := 0) d_R_faultNow_7 (by decide) ?_
  refine jx_istore2 (pc := 8) d_R_faultNow_8 rfl (Nat.le_of_ble_eq_true rfl) ?_
  rotate_left
  exact loop 7 0 _ (by omega) (by omega) (fun j hj => absurd hj (by omega)) OffF.s79 (by simp [j_set_s, upd]) (fun h t hh => absurd hh (by omega))
