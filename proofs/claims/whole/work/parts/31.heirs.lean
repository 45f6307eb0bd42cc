/-! HEIRS: the text is read -/
theorem rem4 {i : Nat} (h : i < 2 ^ 31) : nI i - nI i / 4 * 4 = nI (i % 4) := pk_rem (a := i) (d := 4) h (by omega) (by omega)
theorem c_He_firstFault {d nb : Nat} {tx : Nat → Nat} {M : j_M} {Q : Option Value → j_M → Prop} (hn : nb ≤ 23) (htx : ∀ k, tx k ≤ 255) (h2 : M 1 2 = nI nb) (ht : ∀ i, i < nb → M 2 i = nI (tx i)) (k : Q (some (.int (fl99 (fltB nb tx)))) M) : j_Ct d I_He_firstFault [.ref 1] M Q := by
  refine j_met (by decide +kernel) co_He_firstFault (Nat.le_of_ble_eq_true rfl) (fun X hX => ?_)
  show j_W d I_He_firstFault X 0 [some (.ref 1), none, none, none] [] M
  have loop : ∀ (r i : Nat), i + r = nb → (∀ j, j < i → fitB tx j = true) → j_W d I_He_firstFault X 2 [some (.ref 1), some (.int (nI i)), none, none] [] M := by
    intro r
    induction r with
    | zero =>
      intro i hi hf
      have hi' : i = nb := by omega
      subst hi'
      have hff : ffB tx i = i := ffB_all hf
      have hrem := rem4 (i := i) (by omega)
      have S108 : ∀ v : Int32, (if i = 0 ∨ i % 4 = 3 then (1 : Int32) else 0) = v → j_W d I_He_firstFault X 108 [some (.ref 1), some (.int (nI i)), none, none] [.int v] M := by
        intro v hv
        refine jx_istore1 (pc := 108) d_He_firstFault_108 rfl (Nat.le_of_ble_eq_true rfl) ?_
        refine jx_iload1 (pc := 109) d_He_firstFault_109 ?_
        refine jx_if_eq (pc := 110) 117 d_He_firstFault_110 (by decide) (fun c110 => ?_) (fun c110 => ?_)
        refine jx_aload0 (pc := 117) d_He_firstFault_117 ?_
        refine jx_getI (pc := 118) gf_He_29 d_He_firstFault_118 ad_1 sh_1 rfl ?_
        refine jx_iret (pc := 121) hX rfl d_He_firstFault_121 ?_
        rotate_left
        refine jx_iconst (pc := 113) (v := (-1)) d_He_firstFault_113 (by decide) ?_
        refine jx_goto (pc := 114) 121 d_He_firstFault_114 (by decide) ?_
        refine jx_iret (pc := 121) hX rfl d_He_firstFault_121 ?_
        rotate_left
        · have hc : ¬ (i = 0 ∨ i % 4 = 3) := fun q => by rw [if_pos q] at hv; rw [← hv] at c110; exact absurd c110 (by decide)
          have : fltB i tx = i := by unfold fltB; rw [hff, if_neg (by omega), if_neg hc]
          rw [this] at k
          rw [h2]
          unfold fl99 at k; rw [if_neg (by omega)] at k
          exact k
        · have hc : (i = 0 ∨ i % 4 = 3) := Decidable.not_not.mp (fun q => by rw [if_neg q] at hv; exact c110 hv.symm)
          have : fltB i tx = 99 := by unfold fltB; rw [hff, if_neg (by omega), if_pos hc]
          rw [this] at k
          exact k
      have z0 : nI i = 0 ↔ i = 0 := by rw [← nI_0]; exact nI_eq (by omega) (by omega)
      have z3 : nI (i % 4) = 3 ↔ i % 4 = 3 := nI_eq (b := 3) (by omega) (by omega)
      refine jx_iload1 (pc := 2) d_He_firstFault_2 ?_
      refine jx_aload0 (pc := 3) d_He_firstFault_3 ?_
      refine jx_getI (pc := 4) gf_He_29 d_He_firstFault_4 ad_1 sh_1 rfl ?_
      refine jx_icmp_ge (pc := 7) 86 d_He_firstFault_7 (by decide) (fun c7 => ?_) (fun c7 => absurd c7 (fun q => q (by rw [h2]; exact Int32.le_refl _)))
      refine jx_aload0 (pc := 86) d_He_firstFault_86 ?_
      refine jx_getI (pc := 87) gf_He_29 d_He_firstFault_87 ad_1 sh_1 rfl ?_
      refine jx_if_eq (pc := 90) 103 d_He_firstFault_90 (by decide) (fun c90 => ?_) (fun c90 => ?_)
      refine jx_iconst (pc := 103) (v := 1) d_He_firstFault_103 (by decide) ?_
      refine jx_goto (pc := 104) 108 d_He_firstFault_104 (by decide) ?_
      rotate_left
      refine jx_aload0 (pc := 93) d_He_firstFault_93 ?_
      refine jx_getI (pc := 94) gf_He_29 d_He_firstFault_94 ad_1 sh_1 rfl ?_
      refine jx_iconst (pc := 97) (v := 4) d_He_firstFault_97 (by decide) ?_
      refine jx_irem (pc := 98) d_He_firstFault_98 (by decide) ?_
      refine jx_iconst (pc := 99) (v := 3) d_He_firstFault_99 (by decide) ?_
      refine jx_icmp_ne (pc := 100) 107 d_He_firstFault_100 (by decide) (fun c100 => ?_) (fun c100 => ?_)
      refine jx_iconst (pc := 107) (v := 0) d_He_firstFault_107 (by decide) ?_
      rotate_left
      refine jx_iconst (pc := 103) (v := 1) d_He_firstFault_103 (by decide) ?_
      refine jx_goto (pc := 104) 108 d_He_firstFault_104 (by decide) ?_
      rotate_left
      · rw [h2, z0] at c90
        exact S108 1 (by rw [if_pos (Or.inl c90)])
      · rw [h2, z0] at c90
        rw [h2, hrem, z3] at c100
        exact S108 0 (by rw [if_neg (fun q => by rcases q with q | q; exact c90 q; exact c100 q)])
      · rw [h2, hrem, z3] at c100
        exact S108 1 (by rw [if_pos (Or.inr c100)])
    | succ r ih =>
      intro i hi hf
      have e1 : (nI i).toNatClampNeg = i := nI_cl (by omega)
      have hv : vp_in (nI i) 23 := vp_in_nI (by omega) (by omega)
      have hrem := rem4 (i := i) (by omega)
      have hti : M 2 (nI i).toNatClampNeg = nI (tx i) := by rw [e1]; exact ht i (by omega)
      have h255 := htx i
      have z3 : nI (i % 4) = 3 ↔ i % 4 = 3 := nI_eq (b := 3) (by omega) (by omega)
      have S73 : ∀ (v w : Int32), (if fitB tx i then (1 : Int32) else 0) = v → j_W d I_He_firstFault X 73 [some (.ref 1), some (.int (nI i)), some (.int w), none] [.int v] M := by
        intro v w hv
        refine jx_istore3 (pc := 73) d_He_firstFault_73 rfl (Nat.le_of_ble_eq_true rfl) ?_
        refine jx_iload3 (pc := 74) d_He_firstFault_74 ?_
        refine jx_if_ne (pc := 75) 80 d_He_firstFault_75 (by decide) (fun c75 => ?_) (fun c75 => ?_)
        refine jx_iinc1 (pc := 80) d_He_firstFault_80 rfl (Nat.le_of_ble_eq_true rfl) ?_
        refine jx_goto (pc := 83) 2 d_He_firstFault_83 (by decide) ?_
        rotate_left
        refine jx_iload1 (pc := 78) d_He_firstFault_78 ?_
        refine jx_iret (pc := 79) hX rfl d_He_firstFault_79 ?_
        rotate_left
        · have hfi : fitB tx i = true := by
            rcases h : fitB tx i with _ | _
            · rw [h] at hv; exact absurd hv.symm c75
            · rfl
          rw [nI_add1]
          refine jx_sub (L' := [some (.ref 1), some (.int (nI (i + 1))), none, none]) (fun j v => by rcases j with _ | _ | _ | _ | j <;> simp) (ih (i + 1) (by omega) (fun j hj => ?_))
          by_cases h : j = i
          · rw [h]; exact hfi
          · exact hf j (by omega)
        · have hfi : fitB tx i = false := by
            rcases h : fitB tx i with _ | _
            · rfl
            · rw [h] at hv; exact absurd (hv.trans (Decidable.not_not.mp (fun q => q c75))) (by decide)
          have hflt : fltB nb tx = i := by
            unfold fltB
            rw [ffB_eq (show i < nb by omega) hf hfi, if_pos (by omega)]
          rw [hflt] at k
          unfold fl99 at k; rw [if_neg (by omega)] at k
          exact k
      refine jx_iload1 (pc := 2) d_He_firstFault_2 ?_
      refine jx_aload0 (pc := 3) d_He_firstFault_3 ?_
      refine jx_getI (pc := 4) gf_He_29 d_He_firstFault_4 ad_1 sh_1 rfl ?_
      refine jx_icmp_ge (pc := 7) 86 d_He_firstFault_7 (by decide) (fun c7 => absurd c7 (by rw [h2]; exact nI_ge (by omega) (by omega))) (fun c7 => ?_)
      refine jx_iload1 (pc := 10) d_He_firstFault_10 ?_
      refine jx_iconst (pc := 11) (v := 4) d_He_firstFault_11 (by decide) ?_
      refine jx_irem (pc := 12) d_He_firstFault_12 (by decide) ?_
      refine jx_iconst (pc := 13) (v := 3) d_He_firstFault_13 (by decide) ?_
      refine jx_icmp_ne (pc := 14) 21 d_He_firstFault_14 (by decide) (fun c14 => ?_) (fun c14 => ?_)
      refine jx_iconst (pc := 21) (v := 0) d_He_firstFault_21 (by decide) ?_
      rotate_left
      refine jx_iconst (pc := 17) (v := 1) d_He_firstFault_17 (by decide) ?_
      refine jx_goto (pc := 18) 22 d_He_firstFault_18 (by decide) ?_
      rotate_left
      · rw [hrem, z3] at c14
        refine jx_istore2 (pc := 22) d_He_firstFault_22 rfl (Nat.le_of_ble_eq_true rfl) ?_
        refine jx_iload2 (pc := 23) d_He_firstFault_23 ?_
        refine jx_if_eq (pc := 24) 46 d_He_firstFault_24 (by decide) (fun c24 => ?_) (fun c24 => absurd c24 (fun q => q rfl))
        refine jx_aload0 (pc := 46) d_He_firstFault_46 ?_
        refine jx_getR (pc := 47) gf_He_9 d_He_firstFault_47 ad_1 sh_1 rfl ?_
        refine jx_iload1 (pc := 50) d_He_firstFault_50 ?_
        refine jx_iald (pc := 51) d_He_firstFault_51 ad_2 sh_2 (by first | assumption | exact vp_in_nI (by omega) (by omega)) ?_
        refine jx_bipush (pc := 52) (v := 48) d_He_firstFault_52 (by decide) ?_
        refine jx_icmp_lt (pc := 54) 72 d_He_firstFault_54 (by decide) (fun c54 => ?_) (fun c54 => ?_)
        refine jx_iconst (pc := 72) (v := 0) d_He_firstFault_72 (by decide) ?_
        rotate_left
        refine jx_aload0 (pc := 57) d_He_firstFault_57 ?_
        refine jx_getR (pc := 58) gf_He_9 d_He_firstFault_58 ad_1 sh_1 rfl ?_
        refine jx_iload1 (pc := 61) d_He_firstFault_61 ?_
        refine jx_iald (pc := 62) d_He_firstFault_62 ad_2 sh_2 (by first | assumption | exact vp_in_nI (by omega) (by omega)) ?_
        refine jx_bipush (pc := 63) (v := 57) d_He_firstFault_63 (by decide) ?_
        refine jx_icmp_gt (pc := 65) 72 d_He_firstFault_65 (by decide) (fun c65 => ?_) (fun c65 => ?_)
        refine jx_iconst (pc := 72) (v := 0) d_He_firstFault_72 (by decide) ?_
        rotate_left
        refine jx_iconst (pc := 68) (v := 1) d_He_firstFault_68 (by decide) ?_
        refine jx_goto (pc := 69) 73 d_He_firstFault_69 (by decide) ?_
        rotate_left
        · rw [hti] at c54
          refine S73 0 0 ?_
          have : ¬ 48 ≤ tx i := fun q => absurd (nI_leI (a := 48) (b := tx i) (by omega) (by omega) |>.mpr q) (Int32.not_le.mpr c54)
          unfold fitB; rw [if_neg c14]; simp [this]
        · rw [hti] at c54 c65
          refine S73 0 0 ?_
          have : ¬ tx i ≤ 57 := fun q => absurd (nI_leI (a := tx i) (b := 57) (by omega) (by omega) |>.mpr q) (Int32.not_le.mpr c65)
          unfold fitB; rw [if_neg c14]; simp [this]
        · rw [hti] at c54 c65
          refine S73 1 0 ?_
          have g1 : 48 ≤ tx i := (nI_leI (a := 48) (b := tx i) (by omega) (by omega)).mp (Int32.not_lt.mp c54)
          have g2 : tx i ≤ 57 := (nI_leI (a := tx i) (b := 57) (by omega) (by omega)).mp (Int32.not_lt.mp c65)
          unfold fitB; rw [if_neg c14]; simp [g1, g2]
      · rw [hrem, z3] at c14
        have z59 : nI (tx i) = 59 ↔ tx i = 59 := nI_eq (b := 59) (by omega) (by omega)
        refine jx_istore2 (pc := 22) d_He_firstFault_22 rfl (Nat.le_of_ble_eq_true rfl) ?_
        refine jx_iload2 (pc := 23) d_He_firstFault_23 ?_
        refine jx_if_eq (pc := 24) 46 d_He_firstFault_24 (by decide) (fun c24 => absurd c24 (by decide)) (fun c24 => ?_)
        refine jx_aload0 (pc := 27) d_He_firstFault_27 ?_
        refine jx_getR (pc := 28) gf_He_9 d_He_firstFault_28 ad_1 sh_1 rfl ?_
        refine jx_iload1 (pc := 31) d_He_firstFault_31 ?_
        refine jx_iald (pc := 32) d_He_firstFault_32 ad_2 sh_2 (by first | assumption | exact vp_in_nI (by omega) (by omega)) ?_
        refine jx_bipush (pc := 33) (v := 59) d_He_firstFault_33 (by decide) ?_
        refine jx_icmp_ne (pc := 35) 42 d_He_firstFault_35 (by decide) (fun c35 => ?_) (fun c35 => ?_)
        refine jx_iconst (pc := 42) (v := 0) d_He_firstFault_42 (by decide) ?_
        refine jx_goto (pc := 43) 73 d_He_firstFault_43 (by decide) ?_
        rotate_left
        refine jx_iconst (pc := 38) (v := 1) d_He_firstFault_38 (by decide) ?_
        refine jx_goto (pc := 39) 73 d_He_firstFault_39 (by decide) ?_
        rotate_left
        · rw [hti, z59] at c35
          refine S73 0 1 ?_
          unfold fitB; rw [if_pos (Decidable.not_not.mp (fun q => q c14))]; simp [c35]
        · rw [hti, z59] at c35
          refine S73 1 1 ?_
          unfold fitB; rw [if_pos (Decidable.not_not.mp (fun q => q c14))]; simp [c35]
  refine jx_iconst (pc := 0) (v := 0) d_He_firstFault_0 (by decide) ?_
  refine jx_istore1 (pc := 1) d_He_firstFault_1 rfl (Nat.le_of_ble_eq_true rfl) ?_
  rotate_left
  exact loop nb 0 (by omega) (fun j hj => absurd hj (by omega))
theorem c_He_understand {d nb : Nat} {tx : Nat → Nat} {M : j_M} {Q : Option Value → j_M → Prop} (hn : nb ≤ 23) (htx : ∀ k, tx k ≤ 255) (h2 : M 1 2 = nI nb) (ht : ∀ i, i < nb → M 2 i = nI (tx i))
    (k : ∀ M', HeC nb tx M' → (∀ b, b ≠ 1 → b ≠ 3 → M' b = M b) → Q none M') : j_Ct (d + 1) I_He_understand [.ref 1] M Q := by
  refine j_met (by decide +kernel) co_He_understand (Nat.le_of_ble_eq_true rfl) (fun X hX => ?_)
  show j_W (d + 1) I_He_understand X 0 [some (.ref 1), none, none] [] M
  have hhn := hnB_le (tx := tx) hn
  have loop : ∀ (r i : Nat) (M1 : j_M), i + r = hnB nb tx → M1 1 2 = nI nb → M1 1 3 = nI (hnB nb tx) → M1 1 4 = fl99 (fltB nb tx) → (∀ b, b ≠ 1 → b ≠ 3 → M1 b = M b) → (∀ h t, h < i → t < 3 → M1 3 (3 * h + t) = nI (gdB nb tx h t)) → j_W (d + 1) I_He_understand X 34 [some (.ref 1), some (.int (nI i)), none] [] M1 := by
    intro r
    induction r with
    | zero =>
      intro i M1 hi g2 g3 g4 gb gg
      refine jx_iload1 (pc := 34) d_He_understand_34 ?_
      refine jx_aload0 (pc := 35) d_He_understand_35 ?_
      refine jx_getI (pc := 36) gf_He_22 d_He_understand_36 ad_1 sh_1 rfl ?_
      refine jx_icmp_ge (pc := 39) 84 d_He_understand_39 (by decide) (fun c39 => ?_) (fun c39 => absurd c39 (fun q => q (by rw [g3]; exact nI_le (by omega) (by omega))))
      refine jx_vret (pc := 84) hX rfl d_He_understand_84 ?_
      rotate_left
      refine k M1 ⟨g2, g3, g4, fun j hj => by rw [gb 2 (by omega) (by omega)]; exact ht j hj, fun h t hh ht => gg h t (by omega) ht⟩ gb
    | succ r ih =>
      intro i M1 hi g2 g3 g4 gb gg
      have inner : ∀ (q t : Nat) (M2 : j_M), t + q = 3 → M2 1 2 = nI nb → M2 1 3 = nI (hnB nb tx) → M2 1 4 = fl99 (fltB nb tx) → (∀ b, b ≠ 1 → b ≠ 3 → M2 b = M b) → (∀ h u, (h < i ∧ u < 3) ∨ (h = i ∧ u < t) → M2 3 (3 * h + u) = nI (gdB nb tx h u)) → j_W (d + 1) I_He_understand X 44 [some (.ref 1), some (.int (nI i)), some (.int (nI t))] [] M2 := by
        intro q
        induction q with
        | zero =>
          intro t M2 hq f2 f3 f4 fb fg
          refine jx_iload2 (pc := 44) d_He_understand_44 ?_
          refine jx_iconst (pc := 45) (v := 3) d_He_understand_45 (by decide) ?_
          refine jx_icmp_ge (pc := 46) 78 d_He_understand_46 (by decide) (fun c46 => ?_) (fun c46 => absurd c46 (fun q => q (show nI 3 ≤ nI t from nI_le (by omega) (by omega))))
          refine jx_iinc1 (pc := 78) d_He_understand_78 rfl (Nat.le_of_ble_eq_true rfl) ?_
          refine jx_goto (pc := 81) 34 d_He_understand_81 (by decide) ?_
          rotate_left
          rw [nI_add1]
          refine jx_sub (L' := [some (.ref 1), some (.int (nI (i + 1))), none]) (fun j v => by rcases j with _ | _ | _ | j <;> simp) (ih (i + 1) M2 (by omega) f2 f3 f4 fb (fun h u hh hu => ?_))
          by_cases hq2 : h = i
          · exact fg h u (Or.inr ⟨hq2, by omega⟩)
          · exact fg h u (Or.inl ⟨by omega, hu⟩)
        | succ q ihq =>
          intro t M2 hq f2 f3 f4 fb fg
          have ht3 : t < 3 := by omega
          have hfit := hnB_fit (tx := tx) (h := i) (t := t) hn (by omega) ht3
          have e3 : nI i * 3 + nI t = nI (3 * i + t) := by rw [show (3 : Int32) = nI 3 from rfl, nI_mul, nI_add, Nat.mul_comm]
          have e4 : nI i * 4 + nI t = nI (4 * i + t) := by rw [show (4 : Int32) = nI 4 from rfl, nI_mul, nI_add, Nat.mul_comm]
          have v3 : vp_in (nI i * 3 + nI t) 18 := by rw [e3]; exact vp_in_nI (by omega) (by omega)
          have v4 : vp_in (nI i * 4 + nI t) 23 := by rw [e4]; exact vp_in_nI (by omega) (by omega)
          refine jx_iload2 (pc := 44) d_He_understand_44 ?_
          refine jx_iconst (pc := 45) (v := 3) d_He_understand_45 (by decide) ?_
          refine jx_icmp_ge (pc := 46) 78 d_He_understand_46 (by decide) (fun c46 => absurd c46 (show ¬ nI 3 ≤ nI t from nI_ge (by omega) (by omega))) (fun c46 => ?_)
          refine jx_aload0 (pc := 49) d_He_understand_49 ?_
          refine jx_getR (pc := 50) gf_He_15 d_He_understand_50 ad_1 sh_1 rfl ?_
          refine jx_iload1 (pc := 53) d_He_understand_53 ?_
          refine jx_iconst (pc := 54) (v := 3) d_He_understand_54 (by decide) ?_
          refine jx_imul (pc := 55) d_He_understand_55 ?_
          refine jx_iload2 (pc := 56) d_He_understand_56 ?_
          refine jx_iadd (pc := 57) d_He_understand_57 ?_
          refine jx_aload0 (pc := 58) d_He_understand_58 ?_
          refine jx_getR (pc := 59) gf_He_9 d_He_understand_59 ad_1 sh_1 rfl ?_
          refine jx_iload1 (pc := 62) d_He_understand_62 ?_
          refine jx_iconst (pc := 63) (v := 4) d_He_understand_63 (by decide) ?_
          refine jx_imul (pc := 64) d_He_understand_64 ?_
          refine jx_iload2 (pc := 65) d_He_understand_65 ?_
          refine jx_iadd (pc := 66) d_He_understand_66 ?_
          refine jx_iald (pc := 67) d_He_understand_67 ad_2 sh_2 (by first | assumption | exact vp_in_nI (by omega) (by omega)) ?_
          refine jx_bipush (pc := 68) (v := 48) d_He_understand_68 (by decide) ?_
          refine jx_isub (pc := 70) d_He_understand_70 ?_
          refine jx_iast (pc := 71) d_He_understand_71 ad_3 sh_3 (by first | assumption | exact vp_in_nI (by omega) (by omega)) ?_
          refine jx_iinc2 (pc := 72) d_He_understand_72 rfl (Nat.le_of_ble_eq_true rfl) ?_
          refine jx_goto (pc := 75) 44 d_He_understand_75 (by decide) ?_
          rotate_left
          rw [nI_add1, e3, e4, nI_cl (n := 4 * i + t) (by omega), nI_cl (n := 3 * i + t) (by omega), fb 2 (by omega) (by omega), ht _ hfit.1, show (48 : Int32) = nI 48 from rfl, nI_sub hfit.2.1]
          have hgd : gdB nb tx i t = tx (4 * i + t) - 48 := by unfold gdB; rw [if_pos ⟨by omega, ht3⟩]
          refine ihq (t + 1) _ (by omega) (by rw [j_set_n _ _ _ (by omega)]; exact f2) (by rw [j_set_n _ _ _ (by omega)]; exact f3) (by rw [j_set_n _ _ _ (by omega)]; exact f4) (fun b h1 h3 => by rw [j_set_n _ _ _ h3]; exact fb b h1 h3) (fun h u hu => ?_)
          rw [j_set_s]
          unfold upd
          by_cases hq2 : 3 * h + u = 3 * i + t
          · rw [if_pos hq2]
            have hu3 : u < 3 := by rcases hu with hu | hu <;> omega
            rw [show h = i by omega, show u = t by omega, hgd]
          · rw [if_neg hq2]
            exact fg h u (by rcases hu with hu | hu; exact Or.inl hu; exact Or.inr ⟨hu.1, by omega⟩)
      refine jx_iload1 (pc := 34) d_He_understand_34 ?_
      refine jx_aload0 (pc := 35) d_He_understand_35 ?_
      refine jx_getI (pc := 36) gf_He_22 d_He_understand_36 ad_1 sh_1 rfl ?_
      refine jx_icmp_ge (pc := 39) 84 d_He_understand_39 (by decide) (fun c39 => absurd c39 (by rw [g3]; exact nI_ge (by omega) (by omega))) (fun c39 => ?_)
      refine jx_iconst (pc := 42) (v := 0) d_He_understand_42 (by decide) ?_
      refine jx_istore2 (pc := 43) d_He_understand_43 rfl (Nat.le_of_ble_eq_true rfl) ?_
      rotate_left
      exact inner 3 0 M1 (by omega) g2 g3 g4 gb (fun h u hu => by rcases hu with hu | hu; exact gg h u hu.1 hu.2; exact absurd hu.2 (by omega))
  have S29 : ∀ (M1 : j_M), M1 = j_set M 1 4 (fl99 (fltB nb tx)) → j_W (d + 1) I_He_understand X 29 [some (.ref 1), none, none] [.int (nI (hnB nb tx)), .ref 1] M1 := by
    intro M1 hM1
    refine jx_putI (pc := 29) pf_He_22 d_He_understand_29 ad_1 sh_1 rfl ?_
    refine jx_iconst (pc := 32) (v := 0) d_He_understand_32 (by decide) ?_
    refine jx_istore1 (pc := 33) d_He_understand_33 rfl (Nat.le_of_ble_eq_true rfl) ?_
    rotate_left
    refine loop (hnB nb tx) 0 _ (Nat.zero_add _) ?_ ?_ ?_ (fun b h1 h3 => ?_) (fun h t hh => absurd hh (by omega))
    · rw [hM1]; simp [j_set_s, upd, h2]
    · rw [hM1]; simp [j_set_s, upd]
    · rw [hM1]; simp [j_set_s, upd]
    · rw [hM1, j_set_n _ _ _ h1, j_set_n _ _ _ h1]
  have hfl : fl99 (fltB nb tx) = -1 ↔ fltB nb tx = 99 := by
    unfold fl99
    split
    · rename_i h; simp [h]
    · rename_i h
      constructor
      · intro q; exact absurd q (nI_ne_m1 (by unfold fltB; have := ffB_le tx nb; split; omega; split <;> omega))
      · intro q; exact absurd q h
  refine jx_aload0 (pc := 0) d_He_understand_0 ?_
  refine jx_aload0 (pc := 1) d_He_understand_1 ?_
  refine jx_callV0 (pc := 2) (d' := d) vo_He_firstFault lk_He_25 d_He_understand_2 ad_1 sh_1 rfl (by omega) (Nat.le_of_ble_eq_true rfl) ?_
  refine c_He_firstFault hn htx h2 ht ?_
  refine jx_r1 ?_
  refine jx_putI (pc := 5) pf_He_18 d_He_understand_5 ad_1 sh_1 rfl ?_
  refine jx_aload0 (pc := 8) d_He_understand_8 ?_
  refine jx_aload0 (pc := 9) d_He_understand_9 ?_
  refine jx_getI (pc := 10) gf_He_18 d_He_understand_10 ad_1 sh_1 rfl ?_
  refine jx_iconst (pc := 13) (v := (-1)) d_He_understand_13 (by decide) ?_
  refine jx_icmp_ne (pc := 14) 28 d_He_understand_14 (by decide) (fun c14 => ?_) (fun c14 => ?_)
  refine jx_iconst (pc := 28) (v := 0) d_He_understand_28 (by decide) ?_
  rotate_left
  refine jx_aload0 (pc := 17) d_He_understand_17 ?_
  refine jx_getI (pc := 18) gf_He_29 d_He_understand_18 ad_1 sh_1 rfl ?_
  refine jx_iconst (pc := 21) (v := 1) d_He_understand_21 (by decide) ?_
  refine jx_iadd (pc := 22) d_He_understand_22 ?_
  refine jx_iconst (pc := 23) (v := 4) d_He_understand_23 (by decide) ?_
  refine jx_idiv (pc := 24) d_He_understand_24 (by decide) ?_
  refine jx_goto (pc := 25) 29 d_He_understand_25 (by decide) ?_
  rotate_left
  · have h9 : ¬ fltB nb tx = 99 := fun q => c14 (by simp [j_set_s, upd]; exact hfl.mpr q)
    have : hnB nb tx = 0 := by unfold hnB; rw [if_neg h9]
    have := S29 _ rfl
    rw [show nI (hnB nb tx) = 0 by rw [‹hnB nb tx = 0›]; rfl] at this
    exact this
  · have h9 : fltB nb tx = 99 := hfl.mp (by simpa [j_set_s, upd] using c14)
    have hh : hnB nb tx = (nb + 1) / 4 := by unfold hnB; rw [if_pos h9]
    have e : (j_set M 1 4 (fl99 (fltB nb tx)) 1 2 + 1) / 4 = nI (hnB nb tx) := by
      rw [hh, j_set_s]
      show (upd _ _ _ _ + 1) / nI 4 = _
      rw [show upd (M 1) 4 (fl99 (fltB nb tx)) 2 = nI nb by simp [upd, h2], nI_1]
      exact pk_div (by omega) (by omega) (by omega)
    rw [e]
    exact S29 _ rfl
