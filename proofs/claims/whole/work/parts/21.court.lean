/-! THE COURT: a visit, an evening, a day -/
/-- the environment in the component's memory -/
def EnvC (e : En) (M : j_M) : Prop := EnW e ∧ M 1 3 = nI e.1.1 ∧ (∀ h t, h < e.1.1 → t < 3 → M 3 (3 * h + t) = nI (e.1.2 h t)) ∧ M 10 0 = nI e.2.1.1 ∧ M 10 1 = nI e.2.1.2.1 ∧ M 10 2 = nI e.2.1.2.2 ∧ M 10 4 = nI e.2.2
theorem EnvC.cong {e : En} {M M' : j_M} (h : EnvC e M) (h1 : M' 1 = M 1) (h3 : M' 3 = M 3) (h10 : M' 10 = M 10) : EnvC e M' := by
  unfold EnvC at *
  rw [h1, h3, h10]; exact h
def Off1 (a : Nat) (M M' : j_M) : Prop := ∀ b, b ≠ a → b ≠ a + 1 → b ≠ a + 2 → b ≠ a + 3 → M' b = M b
theorem Off1.rf {a : Nat} {M : j_M} : Off1 a M M := fun _ _ _ _ _ => rfl
theorem Off1.tr {a : Nat} {M M' M2 : j_M} (h : Off1 a M M') (h2 : Off1 a M' M2) : Off1 a M M2 := fun b g1 g2 g3 g4 => (h2 b g1 g2 g3 g4).trans (h b g1 g2 g3 g4)
theorem Off1.set {a k : Nat} {x : Int32} {M : j_M} {a' : Nat} (h : a' = a ∨ a' = a + 1 ∨ a' = a + 2 ∨ a' = a + 3) : Off1 a M (j_set M a' k x) := fun b g1 g2 g3 g4 => j_set_n _ _ _ (by rcases h with rfl | rfl | rfl | rfl <;> assumption)
theorem Off1.env {e : En} {a : Nat} {M M' : j_M} (hm : j_mo a) (h : Off1 a M M') (hE : EnvC e M) : EnvC e M' := by
  have := mo_ge hm
  exact hE.cong (h 1 (by omega) (by omega) (by omega) (by omega)) (h 3 (by omega) (by omega) (by omega) (by omega)) (h 10 (by omega) (by omega) (by omega) (by omega))
theorem c_Co_bring {d a day h t : Nat} {e : En} {ts : Nat → Nat} {tr b : Nat} {m : Mo} {M : j_M} {Q : Option Value → j_M → Prop} (hm : j_mo a) (hE : EnvC e M) (hts : ∀ t, ts t ≤ 9) (hM : MoodAt M a ts tr m) (hw : MoW e b m) (hb : b ≤ 1000000) (hday : day < 30) (hh : h < 6) (ht : t < 3)
    (k : ∀ M', MoodAt M' a ts tr (brg e ts day h t m) → Off1 a M M' → Q none M') : j_Ct d I_Co_bring [.ref 15, .ref a, .int (nI day), .int (nI h), .int (nI t)] M Q := by
  refine j_met (by decide +kernel) co_Co_bring (Nat.le_of_ble_eq_true rfl) (fun X hX => ?_)
  show j_W d I_Co_bring X 0 [some (.ref 15), some (.ref a), some (.int (nI day)), some (.int (nI h)), some (.int (nI t)), none] [] M
  obtain ⟨hEW, hn, hg, hhb, hhu, hfa, hnt⟩ := id hE
  obtain ⟨lk, la, sg, cm, fd⟩ := m
  obtain ⟨m1, m2, m3, m4, m5, m6, m7⟩ := id hM
  obtain ⟨w1, w2, w3, w4, w5, w6⟩ := id hw
  simp only [] at m1 m2 m3 m4 m5 m6 m7 w1 w2 w3 w4 w5 w6
  have hn6 : e.1.1 ≤ 6 := hEW.1
  by_cases hhn : h < e.1.1
  · -- it counts
    have hgb : ts t * e.1.2 h t ≤ 81 := Nat.mul_le_mul (hts t) (hEW.2.1 h t)
    have hhb9 := hEW.2.2.1
    have hhu9 := hEW.2.2.2.1
    have S120 : ∀ (M1 : j_M) (x : Int32) (lk' : Nat → Nat) (sg' : Nat), MoodAt M1 a ts tr (lk', la, sg', cm, fd) → Off1 a M M1 → (fun i => if i = h then lk h + grw e ts day h t (lk, la, sg, cm, fd) else lk i) = lk' → (if t = 0 then day else sg) = sg' → j_W d I_Co_bring X 120 [some (.ref 15), some (.ref a), some (.int (nI day)), some (.int (nI h)), some (.int (nI t)), some (.int x)] [] M1 := by
      intro M1 x lk' sg' hM1 hO hlk hsg
      refine jx_aload1 (pc := 120) d_Co_bring_120 ?_
      refine jx_getR (pc := 121) gf_Co_76 d_Co_bring_121 (mo_a hm) (mo_s hm) rfl ?_
      refine jx_iload3 (pc := 124) d_Co_bring_124 ?_
      refine jx_iload4 (pc := 125) d_Co_bring_125 ?_
      refine jx_iast (pc := 127) d_Co_bring_127 (mo_a2 hm) (mo_s2 hm) (by first | assumption | exact vp_in_nI (by omega) (by omega)) ?_
      refine jx_aload1 (pc := 128) d_Co_bring_128 ?_
      refine jx_dupr (pc := 129) d_Co_bring_129 ?_
      refine jx_getI (pc := 130) gf_Co_82 d_Co_bring_130 (mo_a hm) (mo_s hm) rfl ?_
      refine jx_iconst (pc := 133) (v := 1) d_Co_bring_133 (by decide) ?_
      refine jx_iload3 (pc := 134) d_Co_bring_134 ?_
      refine jx_ishl (pc := 135) d_Co_bring_135 ?_
      refine jx_ior (pc := 136) d_Co_bring_136 ?_
      refine jx_putI (pc := 137) pf_Co_82 d_Co_bring_137 (mo_a hm) (mo_s hm) rfl ?_
      refine jx_vret (pc := 140) hX rfl d_Co_bring_140 ?_
      rotate_left
      have hA := md_la (i := h) (x := t) (v := nI t) hM1 (em_lt (by omega)).symm
      have e1 : (nI h).toNatClampNeg = h := nI_cl (by omega)
      rw [e1]
      refine k _ ?_ (hO.tr ((Off1.set (Or.inr (Or.inr (Or.inl rfl)))).tr (Off1.set (Or.inl rfl))))
      have hC := md_cm (x := cm ||| 2 ^ h) (v := j_set M1 (a + 2) h (nI t) a 4 ||| ((1 : Int32) <<< (nI h &&& 31))) hA (by
        rw [j_set_n _ _ _ (by omega), hM1.2.2.2.2.1]; exact or_bit (by omega))
      have hbr : brg e ts day h t (lk, la, sg, cm, fd) = (lk', fun j => if j = h then t else la j, sg', cm ||| 2 ^ h, fd) := by
        unfold brg
        rw [if_pos hhn, ← hlk, ← hsg]
      rw [hbr]
      exact hC
    have S104 : ∀ (M1 : j_M) (G H9 sg' : Nat), MoodAt M1 a ts tr (lk, la, sg', cm, fd) → Off1 a M M1 → G - H9 = grw e ts day h t (lk, la, sg, cm, fd) → G ≤ 162 → H9 ≤ 9 → (if t = 0 then day else sg) = sg' → j_W d I_Co_bring X 104 [some (.ref 15), some (.ref a), some (.int (nI day)), some (.int (nI h)), some (.int (nI t)), some (.int (nI G - nI H9))] [] M1 := by
      intro M1 G H9 sg' hM1 hO hG hG1 hH1 hsg
      have e1 : (nI h).toNatClampNeg = h := nI_cl (by omega)
      have hv6 : vp_in (nI h) 6 := vp_in_nI hh (by omega)
      refine jx_iload5 (pc := 104) d_Co_bring_104 ?_
      refine jx_if_le (pc := 106) 120 d_Co_bring_106 (by decide) (fun c106 => ?_) (fun c106 => ?_)
      rotate_left
      refine jx_aload1 (pc := 109) d_Co_bring_109 ?_
      refine jx_getR (pc := 110) gf_Co_79 d_Co_bring_110 (mo_a hm) (mo_s hm) rfl ?_
      refine jx_iload3 (pc := 113) d_Co_bring_113 ?_
      refine jx_dup2ri (pc := 114) d_Co_bring_114 ?_
      refine jx_iald (pc := 115) d_Co_bring_115 (mo_a1 hm) (mo_s1 hm) (by first | assumption | exact vp_in_nI (by omega) (by omega)) ?_
      refine jx_iload5 (pc := 116) d_Co_bring_116 ?_
      refine jx_iadd (pc := 118) d_Co_bring_118 ?_
      refine jx_iast (pc := 119) d_Co_bring_119 (mo_a1 hm) (mo_s1 hm) (by first | assumption | exact vp_in_nI (by omega) (by omega)) ?_
      rotate_left
      · refine S120 _ _ _ sg' hM1 hO ?_ hsg
        funext i
        have : ¬ H9 < G := fun q => absurd ((nI_sub_le (by omega) (by omega)).mpr q) (Int32.not_lt.mpr c106)
        split
        · rename_i hi; rw [hi, ← hG]; omega
        · rfl
      · have hlt : H9 < G := (nI_sub_le (by omega) (by omega)).mp (Int32.not_le.mp c106)
        rw [e1]
        refine S120 _ _ _ sg' (md_lk (i := h) (x := lk h + (G - H9)) hM1 (by rw [hM1.1 h hh, nI_sub (by omega), nI_add])) (hO.tr (Off1.set (Or.inr (Or.inl rfl)))) ?_ hsg
        rw [hG]
    have S82 : ∀ (M1 : j_M) (G sg' : Nat), MoodAt M1 a ts tr (lk, la, sg', cm, fd) → Off1 a M M1 → (G - (if la h = t then e.2.1.1 else 0)) = grw e ts day h t (lk, la, sg, cm, fd) → G ≤ 162 → (if t = 0 then day else sg) = sg' → j_W d I_Co_bring X 82 [some (.ref 15), some (.ref a), some (.int (nI day)), some (.int (nI h)), some (.int (nI t)), some (.int (nI G))] [] M1 := by
      intro M1 G sg' hM1 hO hG hG1 hsg
      have e1 : (nI h).toNatClampNeg = h := nI_cl (by omega)
      have hv6 : vp_in (nI h) 6 := vp_in_nI hh (by omega)
      have hla : M1 (a + 2) h = em (la h) := hM1.2.1 h hh
      have hE1 : M1 10 0 = nI e.2.1.1 := (hO.env hm hE).2.2.2.1
      refine jx_aload1 (pc := 82) d_Co_bring_82 ?_
      refine jx_getR (pc := 83) gf_Co_76 d_Co_bring_83 (mo_a hm) (mo_s hm) rfl ?_
      refine jx_iload3 (pc := 86) d_Co_bring_86 ?_
      refine jx_iald (pc := 87) d_Co_bring_87 (mo_a2 hm) (mo_s2 hm) (by first | assumption | exact vp_in_nI (by omega) (by omega)) ?_
      refine jx_iload4 (pc := 88) d_Co_bring_88 ?_
      refine jx_icmp_ne (pc := 90) 104 d_Co_bring_90 (by decide) (fun c90 => ?_) (fun c90 => ?_)
      rotate_left
      refine jx_iload5 (pc := 93) d_Co_bring_93 ?_
      refine jx_aload0 (pc := 95) d_Co_bring_95 ?_
      refine jx_getR (pc := 96) gf_Co_19 d_Co_bring_96 ad_15 sh_15 rfl ?_
      refine jx_iconst (pc := 99) (v := 0) d_Co_bring_99 (by decide) ?_
      refine jx_ialdK (pc := 100) 0 d_Co_bring_100 ad_10 sh_10 (by decide) (by unfold vp_in; decide) ?_
      refine jx_isub (pc := 101) d_Co_bring_101 ?_
      refine jx_istore5 (pc := 102) d_Co_bring_102 rfl (Nat.le_of_ble_eq_true rfl) ?_
      rotate_left
      · have hne : ¬ la h = t := by
          rw [e1, hla] at c90
          exact fun q => c90 ((em_eq (by have := w2 h; omega) (by omega)).mpr q)
        have := S104 M1 G 0 sg' hM1 hO (by rw [← hG, if_neg hne]) hG1 (by omega) hsg
        rw [nI_0, Int32.sub_zero] at this
        exact this
      · have heq : la h = t := by
          rw [e1, hla] at c90
          exact (em_eq (by have := w2 h; omega) (by omega)).mp c90
        rw [hE1]
        exact S104 M1 G _ sg' hM1 hO (by rw [← hG, if_pos heq]) hG1 hhb9 hsg
    have S77 : ∀ (G : Nat), (G - (if la h = t then e.2.1.1 else 0)) = grw e ts day h t (lk, la, sg, cm, fd) → G ≤ 162 → t = 0 → j_W d I_Co_bring X 77 [some (.ref 15), some (.ref a), some (.int (nI day)), some (.int (nI h)), some (.int (nI t)), some (.int (nI G))] [] M := by
      intro G hG hG1 ht0
      refine jx_aload1 (pc := 77) d_Co_bring_77 ?_
      refine jx_iload2 (pc := 78) d_Co_bring_78 ?_
      refine jx_putI (pc := 79) pf_Co_73 d_Co_bring_79 (mo_a hm) (mo_s hm) rfl ?_
      rotate_left
      exact S82 _ G day (md_sg hM (by rw [if_neg (by omega)])) (Off1.set (Or.inl rfl)) hG hG1 (by rw [if_pos ht0])
    have hsau : (if sg = 99 then (-100 : Int32) else nI sg) < nI day - nI e.2.1.2.1 ↔ sg = 99 ∨ e.2.1.2.1 < day - sg := by
      rw [fa_lt, pk_sub_toInt (by omega) (by omega)]
      rcases w3 with h3 | h3
      · rw [if_neg (by omega), nI_toInt (by omega)]; omega
      · rw [if_pos h3]
        show ((-100 : Int) < _) ↔ _
        omega
    have e1 : (nI h).toNatClampNeg = h := nI_cl (by omega)
    have e2 : (nI t).toNatClampNeg = t := nI_cl (by omega)
    have e3 : nI h * 3 + nI t = nI (3 * h + t) := by rw [show (3 : Int32) = nI 3 from rfl, nI_mul, nI_add, Nat.mul_comm]
    have e4 : (nI (3 * h + t)).toNatClampNeg = 3 * h + t := nI_cl (by omega)
    have hv3 : vp_in (nI t) 3 := vp_in_nI ht (by omega)
    have hv18 : vp_in (nI h * 3 + nI t) 18 := by rw [e3]; exact vp_in_nI (by omega) (by omega)
    have hprod : M (a + 3) (nI t).toNatClampNeg * M 3 (nI h * 3 + nI t).toNatClampNeg = nI (ts t * e.1.2 h t) := by
      rw [e3, e4, e2, m3 t ht, hg h t hhn ht, nI_mul]
    refine jx_iload3 (pc := 0) d_Co_bring_0 ?_
    refine jx_if_lt (pc := 1) 26 d_Co_bring_1 (by decide) (fun c1 => absurd c1 (nI_pos (by omega))) (fun c1 => ?_)
    refine jx_iload3 (pc := 4) d_Co_bring_4 ?_
    refine jx_aload0 (pc := 5) d_Co_bring_5 ?_
    refine jx_getR (pc := 6) gf_Co_9 d_Co_bring_6 ad_15 sh_15 rfl ?_
    refine jx_getI (pc := 9) gf_Co_63 d_Co_bring_9 ad_1 sh_1 rfl ?_
    refine jx_icmp_ge (pc := 12) 26 d_Co_bring_12 (by decide) (fun c12 => absurd c12 (by rw [hn]; exact nI_ge hhn (by omega))) (fun c12 => ?_)
    refine jx_iload4 (pc := 15) d_Co_bring_15 ?_
    refine jx_if_lt (pc := 17) 26 d_Co_bring_17 (by decide) (fun c17 => absurd c17 (nI_pos (by omega))) (fun c17 => ?_)
    refine jx_iload4 (pc := 20) d_Co_bring_20 ?_
    refine jx_iconst (pc := 22) (v := 3) d_Co_bring_22 (by decide) ?_
    refine jx_icmp_lt (pc := 23) 27 d_Co_bring_23 (by decide) (fun c23 => ?_) (fun c23 => absurd c23 (fun q => q (show nI t < nI 3 from nI_lt ht (by omega))))
    refine jx_aload1 (pc := 27) d_Co_bring_27 ?_
    refine jx_getR (pc := 28) gf_Co_67 d_Co_bring_28 (mo_a hm) (mo_s hm) rfl ?_
    refine jx_iload4 (pc := 31) d_Co_bring_31 ?_
    refine jx_iald (pc := 33) d_Co_bring_33 (mo_a3 hm) (mo_s3 hm) (by first | assumption | exact vp_in_nI (by omega) (by omega)) ?_
    refine jx_aload0 (pc := 34) d_Co_bring_34 ?_
    refine jx_getR (pc := 35) gf_Co_9 d_Co_bring_35 ad_15 sh_15 rfl ?_
    refine jx_getR (pc := 38) gf_Co_70 d_Co_bring_38 ad_1 sh_1 rfl ?_
    refine jx_iload3 (pc := 41) d_Co_bring_41 ?_
    refine jx_iconst (pc := 42) (v := 3) d_Co_bring_42 (by decide) ?_
    refine jx_imul (pc := 43) d_Co_bring_43 ?_
    refine jx_iload4 (pc := 44) d_Co_bring_44 ?_
    refine jx_iadd (pc := 46) d_Co_bring_46 ?_
    refine jx_iald (pc := 47) d_Co_bring_47 ad_3 sh_3 (by first | assumption | exact vp_in_nI (by omega) (by omega)) ?_
    refine jx_imul (pc := 48) d_Co_bring_48 ?_
    refine jx_istore5 (pc := 49) d_Co_bring_49 rfl (Nat.le_of_ble_eq_true rfl) ?_
    refine jx_iload4 (pc := 51) d_Co_bring_51 ?_
    refine jx_if_ne (pc := 53) 82 d_Co_bring_53 (by decide) (fun c53 => ?_) (fun c53 => ?_)
    rotate_left
    refine jx_aload1 (pc := 56) d_Co_bring_56 ?_
    refine jx_getI (pc := 57) gf_Co_73 d_Co_bring_57 (mo_a hm) (mo_s hm) rfl ?_
    refine jx_iload2 (pc := 60) d_Co_bring_60 ?_
    refine jx_aload0 (pc := 61) d_Co_bring_61 ?_
    refine jx_getR (pc := 62) gf_Co_19 d_Co_bring_62 ad_15 sh_15 rfl ?_
    refine jx_iconst (pc := 65) (v := 1) d_Co_bring_65 (by decide) ?_
    refine jx_ialdK (pc := 66) 1 d_Co_bring_66 ad_10 sh_10 (by decide) (by unfold vp_in; decide) ?_
    refine jx_isub (pc := 67) d_Co_bring_67 ?_
    refine jx_icmp_ge (pc := 68) 77 d_Co_bring_68 (by decide) (fun c68 => ?_) (fun c68 => ?_)
    rotate_left
    refine jx_iload5 (pc := 71) d_Co_bring_71 ?_
    refine jx_iconst (pc := 73) (v := 2) d_Co_bring_73 (by decide) ?_
    refine jx_imul (pc := 74) d_Co_bring_74 ?_
    refine jx_istore5 (pc := 75) d_Co_bring_75 rfl (Nat.le_of_ble_eq_true rfl) ?_
    rotate_left
    · -- not a sausage
      have ht0 : ¬ t = 0 := fun q => c53 (by rw [q]; rfl)
      rw [hprod]
      refine S82 M _ sg hM Off1.rf ?_ (by omega) (by rw [if_neg ht0])
      unfold grw
      simp only [ht0, false_and, if_false]
    · have ht0 : t = 0 := (nI_eq (by omega) (by omega)).mp c53
      rw [hprod]
      refine S77 _ ?_ (by omega) ht0
      unfold grw
      rw [hhu, m6] at c68
      simp only [ht0, true_and]
      rw [if_neg (fun q => absurd c68 (Int32.not_le.mpr ((hsau).mpr q)))]
    · have ht0 : t = 0 := (nI_eq (by omega) (by omega)).mp c53
      rw [hprod]
      have e9 : nI (ts t * e.1.2 h t) * 2 = nI (ts t * e.1.2 h t * 2) := by rw [show (2 : Int32) = nI 2 from rfl, nI_mul]
      rw [e9]
      refine S77 _ ?_ (by omega) ht0
      unfold grw
      rw [hhu, m6] at c68
      simp only [ht0, true_and]
      rw [if_pos (hsau.mp (Int32.not_le.mp c68))]
  · -- nobody is there
    have hlast : brg e ts day h t (lk, la, sg, cm, fd) = (lk, la, sg, cm, fd) := by unfold brg; rw [if_neg hhn]
    rw [hlast] at k
    refine jx_iload3 (pc := 0) d_Co_bring_0 ?_
    refine jx_if_lt (pc := 1) 26 d_Co_bring_1 (by decide) (fun c1 => absurd c1 (nI_pos (by omega))) (fun c1 => ?_)
    refine jx_iload3 (pc := 4) d_Co_bring_4 ?_
    refine jx_aload0 (pc := 5) d_Co_bring_5 ?_
    refine jx_getR (pc := 6) gf_Co_9 d_Co_bring_6 ad_15 sh_15 rfl ?_
    refine jx_getI (pc := 9) gf_Co_63 d_Co_bring_9 ad_1 sh_1 rfl ?_
    refine jx_icmp_ge (pc := 12) 26 d_Co_bring_12 (by decide) (fun c12 => ?_) (fun c12 => absurd c12 (fun q => q (by rw [hn]; exact nI_le (by omega) (by omega))))
    refine jx_vret (pc := 26) hX rfl d_Co_bring_26 ?_
    rotate_left
    exact k M hM Off1.rf

theorem c_Co_mostLiked {d a : Nat} {e : En} {ts : Nat → Nat} {tr b : Nat} {m : Mo} {M : j_M} {Q : Option Value → j_M → Prop} (hm : j_mo a) (hE : EnvC e M) (hM : MoodAt M a ts tr m) (hw1 : ∀ i, m.1 i ≤ b) (hfd : m.2.2.2.2 < e.1.1 ∨ m.2.2.2.2 = 9) (hb : b ≤ 2000000)
    (k : Q (some (.int (em (pick m.1 e.1.1 m.2.2.2.2)))) M) : j_Ct d I_Co_mostLiked [.ref 15, .ref a] M Q := by
  refine j_met (by decide +kernel) co_Co_mostLiked (Nat.le_of_ble_eq_true rfl) (fun X hX => ?_)
  show j_W d I_Co_mostLiked X 0 [some (.ref 15), some (.ref a), none, none, none] [] M
  obtain ⟨hEW, hn, hg, hhb, hhu, hfa, hnt⟩ := id hE
  obtain ⟨lk, la, sg, cm, fd⟩ := m
  obtain ⟨m1, m2, m3, m4, m5, m6, m7⟩ := id hM
  simp only [] at m1 m2 m3 m4 m5 m6 m7 hw1 hfd k
  have hn6 : e.1.1 ≤ 6 := hEW.1
  have loop : ∀ (r i : Nat), i + r = e.1.1 → j_W d I_Co_mostLiked X 7 [some (.ref 15), some (.ref a), some (.int (nI (fnd lk i).2)), some (.int (em (fnd lk i).1)), some (.int (nI i))] [] M := by
    intro r
    induction r with
    | zero =>
      intro i hi
      have hi' : i = e.1.1 := by omega
      have hf9 := fnd_lt lk i
      have hfl : (fnd lk i).2 ≤ b := fnd_le lk hw1 i
      have c1 : em (fnd lk i).1 = -1 ↔ (fnd lk i).1 = 9 := em_m1 (by omega)
      have c2 : em fd = -1 ↔ fd = 9 := em_m1 (by omega)
      have hfd2 : ∀ (_ : fd < e.1.1), (em fd).toNatClampNeg = fd ∧ vp_in (em fd) 6 := fun q => by rw [em_lt (by omega)]; exact ⟨nI_cl (by omega), vp_in_nI (by omega) (by omega)⟩
      refine jx_iload4 (pc := 7) d_Co_mostLiked_7 ?_
      refine jx_aload0 (pc := 9) d_Co_mostLiked_9 ?_
      refine jx_getR (pc := 10) gf_Co_9 d_Co_mostLiked_10 ad_15 sh_15 rfl ?_
      refine jx_getI (pc := 13) gf_Co_63 d_Co_mostLiked_13 ad_1 sh_1 rfl ?_
      refine jx_icmp_ge (pc := 16) 47 d_Co_mostLiked_16 (by decide) (fun c16 => ?_) (fun c16 => absurd c16 (fun q => q (by rw [hn, hi']; exact Int32.le_refl _)))
      refine jx_iload3 (pc := 47) d_Co_mostLiked_47 ?_
      refine jx_iconst (pc := 48) (v := (-1)) d_Co_mostLiked_48 (by decide) ?_
      refine jx_icmp_eq (pc := 49) 60 d_Co_mostLiked_49 (by decide) (fun c49 => ?_) (fun c49 => ?_)
      refine jx_iload3 (pc := 60) d_Co_mostLiked_60 ?_
      refine jx_iret (pc := 61) hX rfl d_Co_mostLiked_61 ?_
      rotate_left
      refine jx_aload1 (pc := 52) d_Co_mostLiked_52 ?_
      refine jx_getI (pc := 53) gf_Co_98 d_Co_mostLiked_53 (mo_a hm) (mo_s hm) rfl ?_
      refine jx_iconst (pc := 56) (v := (-1)) d_Co_mostLiked_56 (by decide) ?_
      refine jx_icmp_ne (pc := 57) 62 d_Co_mostLiked_57 (by decide) (fun c57 => ?_) (fun c57 => ?_)
      rotate_left
      refine jx_iload3 (pc := 60) d_Co_mostLiked_60 ?_
      refine jx_iret (pc := 61) hX rfl d_Co_mostLiked_61 ?_
      rotate_left
      · have h9 := c1.mp c49
        unfold pick at k
        rw [← hi', if_neg (fun q => q.1 h9)] at k
        exact k
      · -- 62: both are there
        rw [m7] at c57
        have hfdn : fd < e.1.1 := by
          rcases hfd with q | q
          · exact q
          · exact absurd (c2.mpr q) c57
        have hv : vp_in (M a 6) 6 := by rw [m7]; exact (hfd2 hfdn).2
        refine jx_aload1 (pc := 62) d_Co_mostLiked_62 ?_
        refine jx_getR (pc := 63) gf_Co_79 d_Co_mostLiked_63 (mo_a hm) (mo_s hm) rfl ?_
        refine jx_aload1 (pc := 66) d_Co_mostLiked_66 ?_
        refine jx_getI (pc := 67) gf_Co_98 d_Co_mostLiked_67 (mo_a hm) (mo_s hm) rfl ?_
        refine jx_iald (pc := 70) d_Co_mostLiked_70 (mo_a1 hm) (mo_s1 hm) (by first | assumption | exact vp_in_nI (by omega) (by omega)) ?_
        refine jx_iload2 (pc := 71) d_Co_mostLiked_71 ?_
        refine jx_icmp_ne (pc := 72) 82 d_Co_mostLiked_72 (by decide) (fun c72 => ?_) (fun c72 => ?_)
        refine jx_iload3 (pc := 82) d_Co_mostLiked_82 ?_
        refine jx_iret (pc := 83) hX rfl d_Co_mostLiked_83 ?_
        rotate_left
        refine jx_aload1 (pc := 75) d_Co_mostLiked_75 ?_
        refine jx_getI (pc := 76) gf_Co_98 d_Co_mostLiked_76 (mo_a hm) (mo_s hm) rfl ?_
        refine jx_goto (pc := 79) 83 d_Co_mostLiked_79 (by decide) ?_
        refine jx_iret (pc := 83) hX rfl d_Co_mostLiked_83 ?_
        rotate_left
        · rw [m7, (hfd2 hfdn).1, m1 fd (by omega)] at c72
          unfold pick at k
          rw [← hi', if_neg (fun q => c72 (by rw [q.2.2]))] at k
          exact k
        · rw [m7, (hfd2 hfdn).1, m1 fd (by omega)] at c72
          have c72' := (nI_eq (by have := hw1 fd; omega) (by omega)).mp c72
          unfold pick at k
          rw [← hi', if_pos ⟨fun q => c49 (c1.mpr q), fun q => by omega, c72'⟩] at k
          rw [m7]
          exact k
      · rw [m7] at c57
        have h9 := c2.mp (Decidable.not_not.mp (fun q => q c57))
        unfold pick at k
        rw [← hi', if_neg (fun q => q.2.1 h9)] at k
        exact k
    | succ r ih =>
      intro i hi
      have e1 : (nI i).toNatClampNeg = i := nI_cl (by omega)
      have hv6 : vp_in (nI i) 6 := vp_in_nI (by omega) (by omega)
      have hli : M (a + 1) (nI i).toNatClampNeg = nI (lk i) := by rw [e1]; exact m1 i (by omega)
      have hfl : (fnd lk i).2 ≤ b := fnd_le lk hw1 i
      have hlb := hw1 i
      refine jx_iload4 (pc := 7) d_Co_mostLiked_7 ?_
      refine jx_aload0 (pc := 9) d_Co_mostLiked_9 ?_
      refine jx_getR (pc := 10) gf_Co_9 d_Co_mostLiked_10 ad_15 sh_15 rfl ?_
      refine jx_getI (pc := 13) gf_Co_63 d_Co_mostLiked_13 ad_1 sh_1 rfl ?_
      refine jx_icmp_ge (pc := 16) 47 d_Co_mostLiked_16 (by decide) (fun c16 => absurd c16 (by rw [hn]; exact nI_ge (by omega) (by omega))) (fun c16 => ?_)
      refine jx_aload1 (pc := 19) d_Co_mostLiked_19 ?_
      refine jx_getR (pc := 20) gf_Co_79 d_Co_mostLiked_20 (mo_a hm) (mo_s hm) rfl ?_
      refine jx_iload4 (pc := 23) d_Co_mostLiked_23 ?_
      refine jx_iald (pc := 25) d_Co_mostLiked_25 (mo_a1 hm) (mo_s1 hm) (by first | assumption | exact vp_in_nI (by omega) (by omega)) ?_
      refine jx_iload2 (pc := 26) d_Co_mostLiked_26 ?_
      refine jx_icmp_le (pc := 27) 41 d_Co_mostLiked_27 (by decide) (fun c27 => ?_) (fun c27 => ?_)
      refine jx_iinc4 (pc := 41) d_Co_mostLiked_41 rfl (Nat.le_of_ble_eq_true rfl) ?_
      refine jx_goto (pc := 44) 7 d_Co_mostLiked_44 (by decide) ?_
      rotate_left
      refine jx_aload1 (pc := 30) d_Co_mostLiked_30 ?_
      refine jx_getR (pc := 31) gf_Co_79 d_Co_mostLiked_31 (mo_a hm) (mo_s hm) rfl ?_
      refine jx_iload4 (pc := 34) d_Co_mostLiked_34 ?_
      refine jx_iald (pc := 36) d_Co_mostLiked_36 (mo_a1 hm) (mo_s1 hm) (by first | assumption | exact vp_in_nI (by omega) (by omega)) ?_
      refine jx_istore2 (pc := 37) d_Co_mostLiked_37 rfl (Nat.le_of_ble_eq_true rfl) ?_
      refine jx_iload4 (pc := 38) d_Co_mostLiked_38 ?_
      refine jx_istore3 (pc := 40) d_Co_mostLiked_40 rfl (Nat.le_of_ble_eq_true rfl) ?_
      refine jx_iinc4 (pc := 41) d_Co_mostLiked_41 rfl (Nat.le_of_ble_eq_true rfl) ?_
      refine jx_goto (pc := 44) 7 d_Co_mostLiked_44 (by decide) ?_
      rotate_left
      · rw [hli] at c27
        have h2 := (nI_leI (by omega) (by omega)).mp c27
        have h3 := ih (i + 1) (by omega)
        rw [show fnd lk (i + 1) = fnd lk i by rw [fnd, if_neg (by omega)]] at h3
        rw [nI_add1]
        exact h3
      · rw [hli] at c27
        have h2 : (fnd lk i).2 < lk i := Nat.lt_of_not_le (fun q => c27 ((nI_leI (by omega) (by omega)).mpr q))
        have h3 := ih (i + 1) (by omega)
        rw [show fnd lk (i + 1) = (i, lk i) by rw [fnd, if_pos h2], em_lt (by omega)] at h3
        rw [nI_add1, hli]
        exact h3
  refine jx_iconst (pc := 0) (v := 0) d_Co_mostLiked_0 (by decide) ?_
  refine jx_istore2 (pc := 1) d_Co_mostLiked_1 rfl (Nat.le_of_ble_eq_true rfl) ?_
  refine jx_iconst (pc := 2) (v := (-1)) d_Co_mostLiked_2 (by decide) ?_
  refine jx_istore3 (pc := 3) d_Co_mostLiked_3 rfl (Nat.le_of_ble_eq_true rfl) ?_
  refine jx_iconst (pc := 4) (v := 0) d_Co_mostLiked_4 (by decide) ?_
  refine jx_istore4 (pc := 5) d_Co_mostLiked_5 rfl (Nat.le_of_ble_eq_true rfl) ?_
  rotate_left
  exact loop e.1.1 0 (by omega)
theorem c_Co_evening {d a : Nat} {e : En} {ts : Nat → Nat} {tr b : Nat} {m : Mo} {M : j_M} {Q : Option Value → j_M → Prop} (hm : j_mo a) (hE : EnvC e M) (hM : MoodAt M a ts tr m) (hw : MoW e b m) (hb : b ≤ 1000000) (htr : tr < e.1.1 ∨ tr = 9)
    (k : ∀ M', MoodAt M' a ts tr (eve e tr m) → Off1 a M M' → Q none M') : j_Ct (d + 1) I_Co_evening [.ref 15, .ref a] M Q := by
  refine j_met (by decide +kernel) co_Co_evening (Nat.le_of_ble_eq_true rfl) (fun X hX => ?_)
  show j_W (d + 1) I_Co_evening X 0 [some (.ref 15), some (.ref a), none, none, none] [] M
  obtain ⟨hEW, hn, hg, hhb, hhu, hfa, hnt⟩ := id hE
  have hw0 := hw
  obtain ⟨lk, la, sg, cm, fd⟩ := m
  have hM0 := hM
  obtain ⟨m1, m2, m3, m4, m5, m6, m7⟩ := id hM
  obtain ⟨w1, w2, w3, w4, w5, w6⟩ := id hw
  simp only [] at m1 m2 m3 m4 m5 m6 m7 w1 w2 w3 w4 w5 w6
  have hn6 : e.1.1 ≤ 6 := hEW.1
  have hfa9 := hEW.2.2.2.2.1
  have hnt9 := hEW.2.2.2.2.2
  -- the loop
  have loop : ∀ (N : Nat), (if tr = 9 then 0 else e.2.2) = N → ∀ (r i : Nat) (M1 : j_M), i + r = e.1.1 → MoodAt M1 a ts tr (fun j => if j < i then fadL e tr (lk, la, sg, cm, fd) j else lk j, la, sg, cm, fd) → Off1 a M M1 → j_W (d + 1) I_Co_evening X 42 [some (.ref 15), some (.ref a), some (.int (nI N)), some (.int (nI i)), none] [] M1 := by
    intro N hN r
    induction r with
    | zero =>
      intro i M1 hi hM1 hO
      have hi' : i = e.1.1 := by omega
      have hn1 : M1 1 3 = nI e.1.1 := (hO.env hm hE).2.1
      have hlk : (fun j => if j < i then fadL e tr (lk, la, sg, cm, fd) j else lk j) = fadL e tr (lk, la, sg, cm, fd) := by
        funext j
        split
        · rfl
        · unfold fadL; rw [if_neg (by omega)]
      rw [hlk] at hM1
      have hC := md_cm (x := 0) (v := 0) hM1 rfl
      have hO2 : Off1 a M (j_set M1 a 4 0) := hO.tr (Off1.set (Or.inl rfl))
      have hfw := (eveW (tr := tr) hEW hw0).1
      refine jx_iload3 (pc := 42) d_Co_evening_42 ?_
      refine jx_aload0 (pc := 43) d_Co_evening_43 ?_
      refine jx_getR (pc := 44) gf_Co_9 d_Co_evening_44 ad_15 sh_15 rfl ?_
      refine jx_getI (pc := 47) gf_Co_63 d_Co_evening_47 ad_1 sh_1 rfl ?_
      refine jx_icmp_ge (pc := 50) 123 d_Co_evening_50 (by decide) (fun c50 => ?_) (fun c50 => absurd c50 (fun q => q (by rw [hn1, hi']; exact Int32.le_refl _)))
      refine jx_aload1 (pc := 123) d_Co_evening_123 ?_
      refine jx_iconst (pc := 124) (v := 0) d_Co_evening_124 (by decide) ?_
      refine jx_putI (pc := 125) pf_Co_82 d_Co_evening_125 (mo_a hm) (mo_s hm) rfl ?_
      refine jx_aload1 (pc := 128) d_Co_evening_128 ?_
      refine jx_aload0 (pc := 129) d_Co_evening_129 ?_
      refine jx_aload1 (pc := 130) d_Co_evening_130 ?_
      refine jx_callV1 (pc := 131) (d' := d) vo_Co_mostLiked lk_Co_94 d_Co_evening_131 ad_15 sh_15 rfl (by omega) (Nat.le_of_ble_eq_true rfl) ?_
      refine c_Co_mostLiked (b := b + 9) hm (hO2.env hm hE) hC hfw w5 (by omega) ?_
      refine jx_r1 ?_
      refine jx_putI (pc := 134) pf_Co_98 d_Co_evening_134 (mo_a hm) (mo_s hm) rfl ?_
      refine jx_vret (pc := 137) hX rfl d_Co_evening_137 ?_
      rotate_left
      exact k _ (md_fd hC rfl) (hO2.tr (Off1.set (Or.inl rfl)))
    | succ r ih =>
      intro i M1 hi hM1 hO
      have hE1 := hO.env hm hE
      have hn1 : M1 1 3 = nI e.1.1 := hE1.2.1
      have e1 : (nI i).toNatClampNeg = i := nI_cl (by omega)
      have hv6 : vp_in (nI i) 6 := vp_in_nI (by omega) (by omega)
      have hlb := w1 i
      have S99 : ∀ (M2 : j_M) (y : Nat) (v4 : Int32), y = (if cm.testBit i then lk i else lk i - e.2.1.2.2) → MoodAt M2 a ts tr (fun j => if j = i then y else if j < i then fadL e tr (lk, la, sg, cm, fd) j else lk j, la, sg, cm, fd) → Off1 a M M2 → j_W (d + 1) I_Co_evening X 99 [some (.ref 15), some (.ref a), some (.int (nI N)), some (.int (nI i)), some (.int v4)] [] M2 := by
        intro M2 y v4 hy hM2 hO2
        have htri : em tr = nI i ↔ tr = i := em_eq (by omega) (by omega)
        refine jx_iload3 (pc := 99) d_Co_evening_99 ?_
        refine jx_aload1 (pc := 100) d_Co_evening_100 ?_
        refine jx_getI (pc := 101) gf_Co_85 d_Co_evening_101 (mo_a hm) (mo_s hm) rfl ?_
        refine jx_icmp_ne (pc := 104) 117 d_Co_evening_104 (by decide) (fun c104 => ?_) (fun c104 => ?_)
        refine jx_iinc3 (pc := 117) d_Co_evening_117 rfl (Nat.le_of_ble_eq_true rfl) ?_
        refine jx_goto (pc := 120) 42 d_Co_evening_120 (by decide) ?_
        rotate_left
        refine jx_aload1 (pc := 107) d_Co_evening_107 ?_
        refine jx_getR (pc := 108) gf_Co_79 d_Co_evening_108 (mo_a hm) (mo_s hm) rfl ?_
        refine jx_iload3 (pc := 111) d_Co_evening_111 ?_
        refine jx_dup2ri (pc := 112) d_Co_evening_112 ?_
        refine jx_iald (pc := 113) d_Co_evening_113 (mo_a1 hm) (mo_s1 hm) (by first | assumption | exact vp_in_nI (by omega) (by omega)) ?_
        refine jx_iload2 (pc := 114) d_Co_evening_114 ?_
        refine jx_iadd (pc := 115) d_Co_evening_115 ?_
        refine jx_iast (pc := 116) d_Co_evening_116 (mo_a1 hm) (mo_s1 hm) (by first | assumption | exact vp_in_nI (by omega) (by omega)) ?_
        refine jx_iinc3 (pc := 117) d_Co_evening_117 rfl (Nat.le_of_ble_eq_true rfl) ?_
        refine jx_goto (pc := 120) 42 d_Co_evening_120 (by decide) ?_
        rotate_left
        · rw [hM2.2.2.2.1] at c104
          have hne : ¬ tr = i := fun q => c104 (htri.mpr q).symm
          rw [nI_add1]
          refine jx_sub (L' := [some (.ref 15), some (.ref a), some (.int (nI N)), some (.int (nI (i + 1))), none]) (fun j v => by rcases j with _ | _ | _ | _ | _ | j <;> simp) (ih (i + 1) M2 (by omega) ?_ hO2)
          have hfun : (fun j => if j < i + 1 then fadL e tr (lk, la, sg, cm, fd) j else lk j) = (fun j => if j = i then y else if j < i then fadL e tr (lk, la, sg, cm, fd) j else lk j) := by
            funext j
            by_cases h1 : j = i
            · rw [if_pos (by omega), if_pos h1, hy, h1]
              unfold fadL
              simp only []
              rw [if_pos (show i < e.1.1 by omega)]
              simp [show ¬ i = tr from fun q => hne q.symm]
            · rw [if_neg h1]
              by_cases h2 : j < i
              · rw [if_pos (by omega), if_pos h2]
              · rw [if_neg (by omega), if_neg h2]
          rw [hfun]; exact hM2
        · rw [hM2.2.2.2.1] at c104
          have heq : tr = i := htri.mp (Decidable.not_not.mp (fun q => q c104.symm))
          have hNn : N = e.2.2 := by rw [← hN, if_neg (by omega)]
          rw [nI_add1, e1]
          have hM3 := md_lk (i := i) (x := y + N) (v := M2 (a + 1) i + nI N) hM2 (by
            rw [hM2.1 i (by omega)]
            show nI (if i = i then y else _) + _ = _
            rw [if_pos rfl, nI_add])
          refine jx_sub (L' := [some (.ref 15), some (.ref a), some (.int (nI N)), some (.int (nI (i + 1))), none]) (fun j v => by rcases j with _ | _ | _ | _ | _ | j <;> simp) (ih (i + 1) _ (by omega) ?_ (hO2.tr (Off1.set (Or.inr (Or.inl rfl)))))
          have hfun : (fun j => if j < i + 1 then fadL e tr (lk, la, sg, cm, fd) j else lk j) = (fun j => if j = i then y + N else if j = i then y else if j < i then fadL e tr (lk, la, sg, cm, fd) j else lk j) := by
            funext j
            by_cases h1 : j = i
            · rw [if_pos (by omega), if_pos h1, hy, h1, hNn]
              unfold fadL
              simp only []
              rw [if_pos (by omega), if_pos heq.symm]
            · rw [if_neg h1, if_neg h1]
              by_cases h2 : j < i
              · rw [if_pos (by omega), if_pos h2]
              · rw [if_neg (by omega), if_neg h2]
          rw [hfun]; exact hM3
      have hlk1 : M1 (a + 1) i = nI (lk i) := by
        have := hM1.1 i (by omega)
        simpa using this
      have same : (fun j => if j < i then fadL e tr (lk, la, sg, cm, fd) j else lk j) = (fun j => if j = i then lk i else if j < i then fadL e tr (lk, la, sg, cm, fd) j else lk j) := by
        funext j
        by_cases h1 : j = i
        · rw [if_pos h1, if_neg (by omega), h1]
        · rw [if_neg h1]
      have S69 : ∀ v : Int32, (v = 0 ↔ cm.testBit i = false) → j_W (d + 1) I_Co_evening X 69 [some (.ref 15), some (.ref a), some (.int (nI N)), some (.int (nI i)), none] [.int v] M1 := by
        intro v hv
        refine jx_istore4 (pc := 69) d_Co_evening_69 rfl (Nat.le_of_ble_eq_true rfl) ?_
        refine jx_iload4 (pc := 71) d_Co_evening_71 ?_
        refine jx_if_ne (pc := 73) 99 d_Co_evening_73 (by decide) (fun c73 => ?_) (fun c73 => ?_)
        rotate_left
        refine jx_aload1 (pc := 76) d_Co_evening_76 ?_
        refine jx_getR (pc := 77) gf_Co_79 d_Co_evening_77 (mo_a hm) (mo_s hm) rfl ?_
        refine jx_iload3 (pc := 80) d_Co_evening_80 ?_
        refine jx_iconst (pc := 81) (v := 0) d_Co_evening_81 (by decide) ?_
        refine jx_aload1 (pc := 82) d_Co_evening_82 ?_
        refine jx_getR (pc := 83) gf_Co_79 d_Co_evening_83 (mo_a hm) (mo_s hm) rfl ?_
        refine jx_iload3 (pc := 86) d_Co_evening_86 ?_
        refine jx_iald (pc := 87) d_Co_evening_87 (mo_a1 hm) (mo_s1 hm) (by first | assumption | exact vp_in_nI (by omega) (by omega)) ?_
        refine jx_aload0 (pc := 88) d_Co_evening_88 ?_
        refine jx_getR (pc := 89) gf_Co_19 d_Co_evening_89 ad_15 sh_15 rfl ?_
        refine jx_iconst (pc := 92) (v := 2) d_Co_evening_92 (by decide) ?_
        refine jx_ialdK (pc := 93) 2 d_Co_evening_93 ad_10 sh_10 (by decide) (by unfold vp_in; decide) ?_
        refine jx_isub (pc := 94) d_Co_evening_94 ?_
        refine jx_mmax (pc := 95) lk_Co_88 mm_max_1 mm_ini mm_max_3 (by omega) (Nat.le_of_ble_eq_true rfl) d_Co_evening_95 ?_
        refine jx_iast (pc := 98) d_Co_evening_98 (mo_a1 hm) (mo_s1 hm) (by first | assumption | exact vp_in_nI (by omega) (by omega)) ?_
        rotate_left
        · have hbt : cm.testBit i = true := by
            rcases h : cm.testBit i with _ | _
            · exact absurd (hv.mpr h) c73
            · rfl
          refine S99 M1 (lk i) v (by rw [hbt]; rfl) ?_ hO
          rw [← same]; exact hM1
        · have hbt : cm.testBit i = false := hv.mp (Decidable.not_not.mp (fun q => q c73))
          rw [e1, hlk1, hE1.2.2.2.2.2.1]
          refine S99 _ (lk i - e.2.1.2.2) v (by rw [hbt]; simp) (?_ : MoodAt _ a ts tr _) (hO.tr (Off1.set (Or.inr (Or.inl rfl))))
          have hmax : (if (0 : Int32) < nI (lk i) - nI e.2.1.2.2 then nI (lk i) - nI e.2.1.2.2 else 0) = nI (lk i - e.2.1.2.2) := by
            split
            · rename_i h
              exact nI_sub (Nat.le_of_lt ((nI_sub_le (by omega) (by omega)).mp h))
            · rename_i h
              have : ¬ e.2.1.2.2 < lk i := fun q => h ((nI_sub_le (by omega) (by omega)).mpr q)
              rw [show lk i - e.2.1.2.2 = 0 by omega, nI_0]
          have hM3 := md_lk (i := i) (x := lk i - e.2.1.2.2) hM1 hmax
          have hfun : (fun j => if j = i then lk i - e.2.1.2.2 else if j < i then fadL e tr (lk, la, sg, cm, fd) j else lk j) = (fun j => if j = i then lk i - e.2.1.2.2 else (fun j => if j < i then fadL e tr (lk, la, sg, cm, fd) j else lk j) j) := rfl
          rw [hfun]; exact hM3
      have hbit := bt_u0 (n := cm) (k := i) (by omega) (by omega)
      refine jx_iload3 (pc := 42) d_Co_evening_42 ?_
      refine jx_aload0 (pc := 43) d_Co_evening_43 ?_
      refine jx_getR (pc := 44) gf_Co_9 d_Co_evening_44 ad_15 sh_15 rfl ?_
      refine jx_getI (pc := 47) gf_Co_63 d_Co_evening_47 ad_1 sh_1 rfl ?_
      refine jx_icmp_ge (pc := 50) 123 d_Co_evening_50 (by decide) (fun c50 => absurd c50 (by rw [hn1]; exact nI_ge (by omega) (by omega))) (fun c50 => ?_)
      refine jx_aload1 (pc := 53) d_Co_evening_53 ?_
      refine jx_getI (pc := 54) gf_Co_82 d_Co_evening_54 (mo_a hm) (mo_s hm) rfl ?_
      refine jx_iload3 (pc := 57) d_Co_evening_57 ?_
      refine jx_iushr (pc := 58) d_Co_evening_58 ?_
      refine jx_iconst (pc := 59) (v := 1) d_Co_evening_59 (by decide) ?_
      refine jx_iand (pc := 60) d_Co_evening_60 ?_
      refine jx_if_eq (pc := 61) 68 d_Co_evening_61 (by decide) (fun c61 => ?_) (fun c61 => ?_)
      refine jx_iconst (pc := 68) (v := 0) d_Co_evening_68 (by decide) ?_
      rotate_left
      refine jx_iconst (pc := 64) (v := 1) d_Co_evening_64 (by decide) ?_
      refine jx_goto (pc := 65) 69 d_Co_evening_65 (by decide) ?_
      rotate_left
      · rw [hM1.2.2.2.2.1] at c61
        exact S69 0 ⟨fun _ => hbit.mp c61, fun _ => rfl⟩
      · rw [hM1.2.2.2.2.1] at c61
        exact S69 1 ⟨fun q => absurd q (by decide), fun q => absurd (hbit.mpr q) c61⟩
  -- the night
  have S18 : ∀ (N : Nat), (if tr = 9 then 0 else e.2.2) = N → j_W (d + 1) I_Co_evening X 18 [some (.ref 15), some (.ref a), none, none, none] [.int (nI N)] M := by
    intro N hN
    have z0 : ∀ x : Nat, x < 2 ^ 31 → (nI x = 0 ↔ x = 0) := fun x hx => by rw [← nI_0]; exact nI_eq hx (by omega)
    have fin := loop N hN e.1.1 0 M (by omega) (by simpa using hM) Off1.rf
    refine jx_istore2 (pc := 18) d_Co_evening_18 rfl (Nat.le_of_ble_eq_true rfl) ?_
    refine jx_aload1 (pc := 19) d_Co_evening_19 ?_
    refine jx_getI (pc := 20) gf_Co_82 d_Co_evening_20 (mo_a hm) (mo_s hm) rfl ?_
    refine jx_if_ne (pc := 23) 40 d_Co_evening_23 (by decide) (fun c23 => ?_) (fun c23 => ?_)
    refine jx_iconst (pc := 40) (v := 0) d_Co_evening_40 (by decide) ?_
    refine jx_istore3 (pc := 41) d_Co_evening_41 rfl (Nat.le_of_ble_eq_true rfl) ?_
    rotate_left
    refine jx_aload0 (pc := 26) d_Co_evening_26 ?_
    refine jx_getR (pc := 27) gf_Co_19 d_Co_evening_27 ad_15 sh_15 rfl ?_
    refine jx_iconst (pc := 30) (v := 2) d_Co_evening_30 (by decide) ?_
    refine jx_ialdK (pc := 31) 2 d_Co_evening_31 ad_10 sh_10 (by decide) (by unfold vp_in; decide) ?_
    refine jx_if_ne (pc := 32) 40 d_Co_evening_32 (by decide) (fun c32 => ?_) (fun c32 => ?_)
    refine jx_iconst (pc := 40) (v := 0) d_Co_evening_40 (by decide) ?_
    refine jx_istore3 (pc := 41) d_Co_evening_41 rfl (Nat.le_of_ble_eq_true rfl) ?_
    rotate_left
    refine jx_iload2 (pc := 35) d_Co_evening_35 ?_
    refine jx_if_ne (pc := 36) 40 d_Co_evening_36 (by decide) (fun c36 => ?_) (fun c36 => ?_)
    refine jx_iconst (pc := 40) (v := 0) d_Co_evening_40 (by decide) ?_
    refine jx_istore3 (pc := 41) d_Co_evening_41 rfl (Nat.le_of_ble_eq_true rfl) ?_
    rotate_left
    refine jx_vret (pc := 39) hX rfl d_Co_evening_39 ?_
    rotate_left
    · exact fin
    · exact fin
    · exact fin
    · rw [m5] at c23
      rw [hfa] at c32
      have hN9 : N ≤ 9 := by rw [← hN]; split <;> omega
      have h1 := (z0 cm (by omega)).mp (Decidable.not_not.mp (fun q => q c23))
      have h2 := (z0 _ (by omega)).mp (Decidable.not_not.mp (fun q => q c32))
      have h3 := (z0 _ (by omega)).mp (Decidable.not_not.mp (fun q => q c36))
      have hs := eve_same (tr := tr) hw0 h1 h2 (by
        by_cases h9 : tr = 9
        · left; omega
        · right; rw [if_neg h9] at hN; omega)
      exact k M (by rw [hs]; exact hM0) Off1.rf
  have ctr : em tr = -1 ↔ tr = 9 := em_m1 (by omega)
  refine jx_aload1 (pc := 0) d_Co_evening_0 ?_
  refine jx_getI (pc := 1) gf_Co_85 d_Co_evening_1 (mo_a hm) (mo_s hm) rfl ?_
  refine jx_iconst (pc := 4) (v := (-1)) d_Co_evening_4 (by decide) ?_
  refine jx_icmp_ne (pc := 5) 12 d_Co_evening_5 (by decide) (fun c5 => ?_) (fun c5 => ?_)
  refine jx_aload0 (pc := 12) d_Co_evening_12 ?_
  refine jx_getR (pc := 13) gf_Co_19 d_Co_evening_13 ad_15 sh_15 rfl ?_
  refine jx_iconst (pc := 16) (v := 4) d_Co_evening_16 (by decide) ?_
  refine jx_ialdK (pc := 17) 4 d_Co_evening_17 ad_10 sh_10 (by decide) (by unfold vp_in; decide) ?_
  rotate_left
  refine jx_iconst (pc := 8) (v := 0) d_Co_evening_8 (by decide) ?_
  refine jx_goto (pc := 9) 18 d_Co_evening_9 (by decide) ?_
  rotate_left
  · rw [m4] at c5
    rw [hnt]
    exact S18 _ (by rw [if_neg (fun q => c5 (ctr.mpr q))])
  · rw [m4] at c5
    have h9 := ctr.mp (Decidable.not_not.mp (fun q => q c5))
    exact S18 0 (by rw [if_pos h9])
