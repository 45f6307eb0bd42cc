/-! OPERATIONS of the reference: replies, the plays laid out -/
theorem dg_v {p n i : Nat} (hp : p < 2 ^ 20) (hn : n ≤ 4) (hi : i < n) : (nI p >>> ((2 : Int32) * (nI n - 1 - nI i) &&& 31)) &&& 3 = nI (p / 4 ^ (n - 1 - i) % 4) := by
  have e1 : nI n - 1 = nI (n - 1) := nI_sub (b := 1) (by omega)
  have e2 : nI (n - 1) - nI i = nI (n - 1 - i) := nI_sub (by omega)
  have e3 : (2 : Int32) * nI (n - 1 - i) = nI (2 * (n - 1 - i)) := by rw [show (2 : Int32) = nI 2 from rfl, nI_mul]
  rw [e1, e2, e3, pk_shrN (by omega) _ (2 * (n - 1 - i)) (sh_l _ (by omega)), Nat.pow_mul, show (2 : Nat) ^ 2 = 4 from rfl]
  exact pk_andN (m := 3) (by have := Nat.div_le_self p (4 ^ (n - 1 - i)); omega) 2 (by decide)
theorem c_R_laysOuts {d a b n : Nat} {s : Sg} {M : j_M} {Q : Option Value → j_M → Prop} (hw : WF s) (hR : RepR s M) (ha : a < g_hn s) (hb : b < g_hn s) (hn1 : 1 ≤ n) (hn4 : n ≤ 4)
    (k : ∀ M', ScrR M M' → RdR s M' → (∀ p, p < 4 ^ n → M' 94 p = if outc s a b n p then 1 else 0) → Q none M') : j_Ct (d + 3) I_R_laysOuts [.ref 79, .int (nI a), .int (nI b), .int (nI n)] M Q := by
  refine j_met (by decide +kernel) co_R_laysOuts (Nat.le_of_ble_eq_true rfl) (fun X hX => ?_)
  show j_W (d + 3) I_R_laysOuts X 0 [some (.ref 79), some (.int (nI a)), some (.int (nI b)), some (.int (nI n)), none, none, none] [] M
  have hn6 : g_hn s ≤ 6 := hnB_le hw.1
  have ecm : nI n - 1 = nI (n - 1) := nI_sub (b := 1) hn1
  have e2n : (1 : Int32) <<< ((2 : Int32) * nI n &&& 31) = nI (4 ^ n) := by
    rw [show (2 : Int32) * nI n = nI (2 * n) by rw [show (2 : Int32) = nI 2 from rfl, nI_mul], shl1 (by omega), Nat.pow_mul]
  have hT : 4 ^ n ≤ 256 := Nat.le_trans (Nat.pow_le_pow_right (by omega) hn4) (by decide)
  obtain ⟨T, hTe⟩ : ∃ T, T = 4 ^ n := ⟨_, rfl⟩
  rw [← hTe] at k e2n hT
  have inner : ∀ (p : Nat), p < T → ∀ (r i : Nat) (M2 : j_M) (N : VS) (e6 : Option Value), i + r = n → N.1 ≤ i → ScrR M M2 → RdR s M2 → NMo N M2 → M2 79 18 = nI (g_wy s 3) → M2 79 19 = -1 → (∀ q, q < p → M2 94 q = if outc s a b n q then 1 else 0) → (∀ dd, dl N dd = if dd < i ∧ p / 4 ^ (n - 1 - dd) % 4 < 3 then [(if dd % 2 = 0 then a else b, p / 4 ^ (n - 1 - dd) % 4)] else []) →
      (∀ (M3 : j_M) (e5 e6 : Option Value), ScrR M M3 → RdR s M3 → (∀ q, q < p + 1 → M3 94 q = if outc s a b n q then 1 else 0) → j_W (d + 3) I_R_laysOuts X 7 [some (.ref 79), some (.int (nI a)), some (.int (nI b)), some (.int (nI n)), some (.int (nI (p + 1))), e5, e6] [] M3) →
      j_W (d + 3) I_R_laysOuts X 24 [some (.ref 79), some (.int (nI a)), some (.int (nI b)), some (.int (nI n)), some (.int (nI p)), some (.int (nI i)), e6] [] M2 := by
    intro p hp r
    have e1 : (nI p).toNatClampNeg = p := nI_cl (by omega)
    induction r with
    | zero =>
      intro i M2 N e6 hi hNi hS hr hN h18 h19 h94 hdl next
      have hi' : i = n := by omega
      subst hi'
      have hE := er_N hw (hS.rep hR) hr hN h18 hw.2.2.2.2.1 h19
      have hbs : bsR (g_V s) N = plB s a b i p := by
        funext dd
        unfold bsR plB
        rw [hdl dd]
        rfl
      have hfl := fdN_lt hw hE (k := i) (by omega)
      rw [hbs] at hfl
      have fin : ∀ (M4 : j_M) (v : Int32), OffR M2 M4 → v = (if outc s a b i p then 1 else 0) → j_W (d + 3) I_R_laysOuts X 7 [some (.ref 79), some (.int (nI a)), some (.int (nI b)), some (.int (nI i)), some (.int (nI p + Int32.ofInt 1)), some (.int (nI i)), e6] [] (j_set M4 94 p v) := by
        intro M4 v hO hv
        rw [nI_add1]
        refine next _ _ _ (hS.tr ((ScrR.offR hO).tr (ScrR.arr (by unfold PR; omega)))) (hr.of (by rw [j_set_n _ _ _ (by omega), hO.2 2 (by omega) (by omega)]) (by rw [j_set_n _ _ _ (by omega), hO.1 81 (by omega) (by omega) (by omega) (by omega)])) (fun q hq => ?_)
        rw [j_set_s]
        unfold upd
        by_cases hc : q = p
        · rw [if_pos hc, hv, hc]
        · rw [if_neg hc, hO.1 94 (by omega) (by omega) (by omega) (by omega)]; exact h94 q (by omega)
      refine jx_iload5 (pc := 24) d_R_laysOuts_24 ?_
      refine jx_iload3 (pc := 26) d_R_laysOuts_26 ?_
      refine jx_icmp_ge (pc := 27) 77 d_R_laysOuts_27 (by decide) (fun c27 => ?_) (fun c27 => absurd c27 (fun q => q (Int32.le_refl _)))
      refine jx_aload0 (pc := 77) d_R_laysOuts_77 ?_
      refine jx_iconst (pc := 78) (v := 0) d_R_laysOuts_78 (by decide) ?_
      refine jx_iload3 (pc := 79) d_R_laysOuts_79 ?_
      refine jx_iconst (pc := 80) (v := 1) d_R_laysOuts_80 (by decide) ?_
      refine jx_isub (pc := 81) d_R_laysOuts_81 ?_
      refine jx_callV2 (pc := 82) (d' := d + 2) vo_R_runs lk_R_175 d_R_laysOuts_82 ad_79 sh_79 rfl (by omega) (Nat.le_of_ble_eq_true rfl) ?_
      rw [ecm]
      refine c_R_runs (dog := 0) (by omega) (show i - 1 < 30 by omega) hE (Or.inr rfl) (fun M4 h91 h89 hO4 => ?_)
      have hf := h91 (i - 1) (Nat.le_refl _)
      rw [hbs, show i - 1 + 1 = i by omega] at hf
      refine jx_r0 ?_
      refine jx_aload0 (pc := 85) d_R_laysOuts_85 ?_
      refine jx_getR (pc := 86) gf_R_52 d_R_laysOuts_86 ad_79 sh_79 rfl ?_
      refine jx_iload4 (pc := 89) d_R_laysOuts_89 ?_
      refine jx_aload0 (pc := 91) d_R_laysOuts_91 ?_
      refine jx_getR (pc := 92) gf_R_43 d_R_laysOuts_92 ad_79 sh_79 rfl ?_
      refine jx_iload3 (pc := 95) d_R_laysOuts_95 ?_
      refine jx_iconst (pc := 96) (v := 1) d_R_laysOuts_96 (by decide) ?_
      refine jx_isub (pc := 97) d_R_laysOuts_97 ?_
      refine jx_iald (pc := 98) d_R_laysOuts_98 ad_91 sh_91 (by rw [ecm]; exact vp_in_nI (show i - 1 < 30 by omega) (by omega)) ?_
      refine jx_iload1 (pc := 99) d_R_laysOuts_99 ?_
      refine jx_icmp_ne (pc := 100) 107 d_R_laysOuts_100 (by decide) (fun c100 => ?_) (fun c100 => ?_)
      refine jx_iconst (pc := 107) (v := 0) d_R_laysOuts_107 (by decide) ?_
      refine jx_zast (pc := 108) (by first | exact Or.inl rfl | exact Or.inr rfl) d_R_laysOuts_108 ad_94 sh_94 (vp_in_nI (show p < 256 by omega) (by omega)) ?_
      refine jx_iinc4 (pc := 109) d_R_laysOuts_109 rfl (Nat.le_of_ble_eq_true rfl) ?_
      refine jx_goto (pc := 112) 7 d_R_laysOuts_112 (by decide) ?_
      rotate_left
      refine jx_iconst (pc := 103) (v := 1) d_R_laysOuts_103 (by decide) ?_
      refine jx_goto (pc := 104) 108 d_R_laysOuts_104 (by decide) ?_
      refine jx_zast (pc := 108) (by first | exact Or.inl rfl | exact Or.inr rfl) d_R_laysOuts_108 ad_94 sh_94 (vp_in_nI (show p < 256 by omega) (by omega)) ?_
      refine jx_iinc4 (pc := 109) d_R_laysOuts_109 rfl (Nat.le_of_ble_eq_true rfl) ?_
      refine jx_goto (pc := 112) 7 d_R_laysOuts_112 (by decide) ?_
      rotate_left
      · rw [e1]
        rw [ecm, nI_cl (n := i - 1) (by omega), hf, em_eq (by omega) (by omega)] at c100
        refine fin M4 0 hO4 ?_
        unfold outc
        simp [c100]
      · rw [e1]
        rw [ecm, nI_cl (n := i - 1) (by omega), hf, em_eq (by omega) (by omega)] at c100
        refine fin M4 1 hO4 ?_
        unfold outc
        simp [c100]
    | succ r ih =>
      intro i M2 N e6 hi hNi hS hr hN h18 h19 h94 hdl next
      have hdg := dg_v (p := p) (n := n) (i := i) (by omega) hn4 (by omega)
      have ei2 : nI i - nI i / 2 * 2 = nI (i % 2) := pk_rem (d := 2) (by omega) (by omega) (by omega)
      have hd4 : p / 4 ^ (n - 1 - i) % 4 < 4 := Nat.mod_lt _ (by omega)
      refine jx_iload5 (pc := 24) d_R_laysOuts_24 ?_
      refine jx_iload3 (pc := 26) d_R_laysOuts_26 ?_
      refine jx_icmp_ge (pc := 27) 77 d_R_laysOuts_27 (by decide) (fun c27 => absurd c27 (nI_ge (by omega) (by omega))) (fun c27 => ?_)
      refine jx_iload4 (pc := 30) d_R_laysOuts_30 ?_
      refine jx_iconst (pc := 32) (v := 2) d_R_laysOuts_32 (by decide) ?_
      refine jx_iload3 (pc := 33) d_R_laysOuts_33 ?_
      refine jx_iconst (pc := 34) (v := 1) d_R_laysOuts_34 (by decide) ?_
      refine jx_isub (pc := 35) d_R_laysOuts_35 ?_
      refine jx_iload5 (pc := 36) d_R_laysOuts_36 ?_
      refine jx_isub (pc := 38) d_R_laysOuts_38 ?_
      refine jx_imul (pc := 39) d_R_laysOuts_39 ?_
      refine jx_ishr (pc := 40) d_R_laysOuts_40 ?_
      refine jx_iconst (pc := 41) (v := 3) d_R_laysOuts_41 (by decide) ?_
      refine jx_iand (pc := 42) d_R_laysOuts_42 ?_
      refine jx_istore6 (pc := 43) d_R_laysOuts_43 rfl (Nat.le_of_ble_eq_true rfl) ?_
      rotate_left
      rw [hdg]
      by_cases h3 : p / 4 ^ (n - 1 - i) % 4 < 3
      · have step : ∀ who, who = (if i % 2 = 0 then a else b) → ∀ M3, NMo (aN N i who (p / 4 ^ (n - 1 - i) % 4)) M3 → (∀ b, b ≠ 79 → b ≠ 86 → b ≠ 87 → b ≠ 88 → M3 b = M2 b) → (∀ q, q ≠ 14 → M3 79 q = M2 79 q) → j_W (d + 3) I_R_laysOuts X 24 [some (.ref 79), some (.int (nI a)), some (.int (nI b)), some (.int (nI n)), some (.int (nI p)), some (.int (nI i + Int32.ofInt 1)), some (.int (nI (p / 4 ^ (n - 1 - i) % 4)))] [] M3 := by
          intro who hwho M3 hN3 hb3 hq3
          rw [nI_add1]
          refine ih (i + 1) M3 _ _ (by omega) (by show N.1 + 1 ≤ i + 1; omega) (hS.tr (scr_adds hb3 hq3)) (hr.of (hq3 2 (by omega)) (hb3 81 (by omega) (by omega) (by omega) (by omega))) hN3 (by rw [hq3 18 (by omega)]; exact h18) (by rw [hq3 19 (by omega)]; exact h19) (fun q hq => by rw [hb3 94 (by omega) (by omega) (by omega) (by omega)]; exact h94 q hq) (fun dd => ?_) next
          rw [dl_aN, hdl dd]
          by_cases hc : i = dd
          · subst hc
            rw [if_pos rfl, if_neg (by omega), if_pos ⟨by omega, h3⟩, hwho]; rfl
          · rw [if_neg hc, List.append_nil]
            by_cases hd2 : dd < i ∧ p / 4 ^ (n - 1 - dd) % 4 < 3
            · rw [if_pos hd2, if_pos (show dd < i + 1 ∧ p / 4 ^ (n - 1 - dd) % 4 < 3 from ⟨by omega, hd2.2⟩)]
            · rw [if_neg hd2, if_neg (fun q => hd2 ⟨by omega, q.2⟩)]
        have h3' : ¬ (3 : Int32) ≤ nI (p / 4 ^ (n - 1 - i) % 4) := (show ¬ nI 3 ≤ nI _ from nI_ge h3 (by omega))
        by_cases h2 : i % 2 = 0
        · -- the first one
          refine jx_iload6 (pc := 45) d_R_laysOuts_45 ?_
          refine jx_iconst (pc := 47) (v := 3) d_R_laysOuts_47 (by decide) ?_
          refine jx_icmp_ge (pc := 48) 71 d_R_laysOuts_48 (by decide) (fun c48 => absurd c48 h3') (fun c48 => ?_)
          refine jx_aload0 (pc := 51) d_R_laysOuts_51 ?_
          refine jx_iload5 (pc := 52) d_R_laysOuts_52 ?_
          refine jx_iload5 (pc := 54) d_R_laysOuts_54 ?_
          refine jx_iconst (pc := 56) (v := 2) d_R_laysOuts_56 (by decide) ?_
          refine jx_irem (pc := 57) d_R_laysOuts_57 (by decide) ?_
          refine jx_if_ne (pc := 58) 65 d_R_laysOuts_58 (by decide) (fun c58 => absurd c58 (fun q => q (by rw [ei2, h2]; rfl))) (fun c58 => ?_)
          refine jx_iload1 (pc := 61) d_R_laysOuts_61 ?_
          refine jx_goto (pc := 62) 66 d_R_laysOuts_62 (by decide) ?_
          refine jx_iload6 (pc := 66) d_R_laysOuts_66 ?_
          refine jx_callV3 (pc := 68) (d' := 0) vo_R_adds lk_R_216 d_R_laysOuts_68 ad_79 sh_79 rfl (by omega) (Nat.le_of_ble_eq_true rfl) ?_
          refine c_R_addsN hN (by omega) (by omega) (show a < 6 by omega) h3 (fun M3 hN3 hb3 hq3 => ?_)
          refine jx_r0 ?_
          refine jx_iinc5 (pc := 71) d_R_laysOuts_71 rfl (Nat.le_of_ble_eq_true rfl) ?_
          refine jx_goto (pc := 74) 24 d_R_laysOuts_74 (by decide) ?_
          rotate_left
          exact step a (by rw [if_pos h2]) M3 hN3 hb3 hq3
        · -- the other one
          refine jx_iload6 (pc := 45) d_R_laysOuts_45 ?_
          refine jx_iconst (pc := 47) (v := 3) d_R_laysOuts_47 (by decide) ?_
          refine jx_icmp_ge (pc := 48) 71 d_R_laysOuts_48 (by decide) (fun c48 => absurd c48 h3') (fun c48 => ?_)
          refine jx_aload0 (pc := 51) d_R_laysOuts_51 ?_
          refine jx_iload5 (pc := 52) d_R_laysOuts_52 ?_
          refine jx_iload5 (pc := 54) d_R_laysOuts_54 ?_
          refine jx_iconst (pc := 56) (v := 2) d_R_laysOuts_56 (by decide) ?_
          refine jx_irem (pc := 57) d_R_laysOuts_57 (by decide) ?_
          refine jx_if_ne (pc := 58) 65 d_R_laysOuts_58 (by decide) (fun c58 => ?_) (fun c58 => absurd c58 (by rw [ei2, show i % 2 = 1 by omega]; decide))
          refine jx_iload2 (pc := 65) d_R_laysOuts_65 ?_
          refine jx_iload6 (pc := 66) d_R_laysOuts_66 ?_
          refine jx_callV3 (pc := 68) (d' := 0) vo_R_adds lk_R_216 d_R_laysOuts_68 ad_79 sh_79 rfl (by omega) (Nat.le_of_ble_eq_true rfl) ?_
          refine c_R_addsN hN (by omega) (by omega) (show b < 6 by omega) h3 (fun M3 hN3 hb3 hq3 => ?_)
          refine jx_r0 ?_
          refine jx_iinc5 (pc := 71) d_R_laysOuts_71 rfl (Nat.le_of_ble_eq_true rfl) ?_
          refine jx_goto (pc := 74) 24 d_R_laysOuts_74 (by decide) ?_
          rotate_left
          exact step b (by rw [if_neg h2]) M3 hN3 hb3 hq3
      · have h3' : (3 : Int32) ≤ nI (p / 4 ^ (n - 1 - i) % 4) := (show nI 3 ≤ nI _ from nI_le (by omega) (by omega))
        refine jx_iload6 (pc := 45) d_R_laysOuts_45 ?_
        refine jx_iconst (pc := 47) (v := 3) d_R_laysOuts_47 (by decide) ?_
        refine jx_icmp_ge (pc := 48) 71 d_R_laysOuts_48 (by decide) (fun c48 => ?_) (fun c48 => absurd c48 (fun q => q h3'))
        refine jx_iinc5 (pc := 71) d_R_laysOuts_71 rfl (Nat.le_of_ble_eq_true rfl) ?_
        refine jx_goto (pc := 74) 24 d_R_laysOuts_74 (by decide) ?_
        rotate_left
        rw [nI_add1]
        refine ih (i + 1) M2 N _ (by omega) (by omega) hS hr hN h18 h19 h94 (fun dd => ?_) next
        rw [hdl dd]
        by_cases hd2 : dd < i ∧ p / 4 ^ (n - 1 - dd) % 4 < 3
        · rw [if_pos hd2, if_pos (show dd < i + 1 ∧ p / 4 ^ (n - 1 - dd) % 4 < 3 from ⟨by omega, hd2.2⟩)]
        · rw [if_neg hd2, if_neg (fun q => by
            by_cases hc : dd = i
            · subst hc; exact h3 q.2
            · exact hd2 ⟨by omega, q.2⟩)]
  have outer : ∀ (r p : Nat) (M2 : j_M) (e5 e6 : Option Value), p + r = T → ScrR M M2 → RdR s M2 → (∀ q, q < p → M2 94 q = if outc s a b n q then 1 else 0) → j_W (d + 3) I_R_laysOuts X 7 [some (.ref 79), some (.int (nI a)), some (.int (nI b)), some (.int (nI n)), some (.int (nI p)), e5, e6] [] M2 := by
    intro r
    induction r with
    | zero =>
      intro p M2 e5 e6 hp hS hr h94
      have hp' : p = T := by omega
      subst hp'
      refine jx_iload4 (pc := 7) d_R_laysOuts_7 ?_
      refine jx_iconst (pc := 9) (v := 1) d_R_laysOuts_9 (by decide) ?_
      refine jx_iconst (pc := 10) (v := 2) d_R_laysOuts_10 (by decide) ?_
      refine jx_iload3 (pc := 11) d_R_laysOuts_11 ?_
      refine jx_imul (pc := 12) d_R_laysOuts_12 ?_
      refine jx_ishl (pc := 13) d_R_laysOuts_13 ?_
      refine jx_icmp_ge (pc := 14) 115 d_R_laysOuts_14 (by decide) (fun c14 => ?_) (fun c14 => absurd c14 (fun q => q (by rw [e2n]; exact Int32.le_refl _)))
      refine jx_vret (pc := 115) hX rfl d_R_laysOuts_115 ?_
      rotate_left
      exact k M2 hS hr h94
    | succ r ih =>
      intro p M2 e5 e6 hp hS hr h94
      refine jx_iload4 (pc := 7) d_R_laysOuts_7 ?_
      refine jx_iconst (pc := 9) (v := 1) d_R_laysOuts_9 (by decide) ?_
      refine jx_iconst (pc := 10) (v := 2) d_R_laysOuts_10 (by decide) ?_
      refine jx_iload3 (pc := 11) d_R_laysOuts_11 ?_
      refine jx_imul (pc := 12) d_R_laysOuts_12 ?_
      refine jx_ishl (pc := 13) d_R_laysOuts_13 ?_
      refine jx_icmp_ge (pc := 14) 115 d_R_laysOuts_14 (by decide) (fun c14 => absurd c14 (by rw [e2n]; exact nI_ge (by omega) (by omega))) (fun c14 => ?_)
      refine jx_aload0 (pc := 17) d_R_laysOuts_17 ?_
      refine jx_callV0 (pc := 18) (d' := 0) vo_R_asTold lk_R_172 d_R_laysOuts_18 ad_79 sh_79 rfl (by omega) (Nat.le_of_ble_eq_true rfl) ?_
      refine c_R_asTold (hS.rep hR).v (fun M3 h14 h18 h19 hb3 hq3 => ?_)
      refine jx_r0 ?_
      refine jx_iconst (pc := 21) (v := 0) d_R_laysOuts_21 (by decide) ?_
      refine jx_istore5 (pc := 22) d_R_laysOuts_22 rfl (Nat.le_of_ble_eq_true rfl) ?_
      rotate_left
      refine inner p (by omega) n 0 M3 V0 _ (by omega) (Nat.le_refl _) (hS.tr (scr_told hb3 hq3)) (hr.of (hq3 2 (by omega) (by omega) (by omega)) (hb3 81 (by omega))) (NMo.zero h14) h18 h19 (fun q hq => by rw [hb3 94 (by omega)]; exact h94 q hq) (fun dd => ?_) (fun M4 e5 e6 hS4 hr4 h4 => ih (p + 1) M4 e5 e6 (by omega) hS4 hr4 h4)
      rw [if_neg (by omega)]
      rfl
  refine jx_aload0 (pc := 0) d_R_laysOuts_0 ?_
  refine jx_callV0 (pc := 1) (d' := d + 2) vo_R_reads lk_R_109 d_R_laysOuts_1 ad_79 sh_79 rfl (by omega) (Nat.le_of_ble_eq_true rfl) ?_
  refine c_R_reads hw hR (fun M1 hr1 hO1 => ?_)
  refine jx_r0 ?_
  refine jx_iconst (pc := 4) (v := 0) d_R_laysOuts_4 (by decide) ?_
  refine jx_istore4 (pc := 5) d_R_laysOuts_5 rfl (Nat.le_of_ble_eq_true rfl) ?_
  rotate_left
  exact outer T 0 M1 _ _ (by omega) (ScrR.offF hO1) hr1 (fun q hq => absurd hq (by omega))
