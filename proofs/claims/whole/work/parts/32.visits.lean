/-! VISITS: one more, one less -/
def upN {α : Type} (f : Nat → α) (n : Nat) (x : α) : Nat → α := fun k => if k = n then x else f k
theorem ixV_succ (n : Nat) (vd : Nat → Nat) (d : Nat) : ixV (n + 1) vd d = ixV n vd d ++ (if vd n = d then [n] else []) := by
  unfold ixV
  rw [List.range_succ, List.filter_append]
  congr 1
  by_cases h : vd n = d <;> simp [h]
theorem stV_one (n : Nat) (vd : Nat → Nat) (d : Nat) : stV (n + 1) vd d = stV n vd d + (if vd n < d then 1 else 0) := by
  unfold stV
  rw [List.range_succ, List.filter_append, List.length_append]
  congr 1
  by_cases h : vd n < d <;> simp [h]
theorem ixV_cong {n : Nat} {vd vd' : Nat → Nat} (h : ∀ k, k < n → vd' k = vd k) (d : Nat) : ixV n vd' d = ixV n vd d := by
  unfold ixV
  apply List.filter_congr
  intro k hk
  rw [h k (by simpa using hk)]
theorem stV_cong {n : Nat} {vd vd' : Nat → Nat} (h : ∀ k, k < n → vd' k = vd k) (d : Nat) : stV n vd' d = stV n vd d := by
  unfold stV
  congr 1
  apply List.filter_congr
  intro k hk
  rw [h k (by simpa using hk)]
theorem upN_lt {α : Type} {f : Nat → α} {n k : Nat} {x : α} (h : k < n) : upN f n x k = f k := by unfold upN; rw [if_neg (by omega)]
theorem upN_self {α : Type} {f : Nat → α} {n : Nat} {x : α} : upN f n x n = x := by unfold upN; rw [if_pos rfl]
theorem c_Vi_tell {d nv day h t : Nat} {vd vh vt : Nat → Nat} {M : j_M} {Q : Option Value → j_M → Prop} (hn : nv < 24) (hday : day < 30) (hV : ViC nv vd vh vt M)
    (k : ∀ M', ViC (nv + 1) (upN vd nv day) (upN vh nv h) (upN vt nv t) M' → (∀ b, b < 4 ∨ 9 < b → M' b = M b) → Q none M') : j_Ct d I_Vi_tell [.ref 4, .int (nI day), .int (nI h), .int (nI t)] M Q := by
  refine j_met (by decide +kernel) co_Vi_tell (Nat.le_of_ble_eq_true rfl) (fun X hX => ?_)
  show j_W d I_Vi_tell X 0 [some (.ref 4), some (.int (nI day)), some (.int (nI h)), some (.int (nI t)), none, none] [] M
  obtain ⟨g1, g2, g3, g4⟩ := hV
  have hat : M 9 (day + 1) = nI (stV nv vd (day + 1)) := g3 (day + 1) (by omega)
  have hatn : stV nv vd (day + 1) ≤ nv := stV_le _ _ _
  generalize hAT : stV nv vd (day + 1) = at0 at hat hatn
  have en : (nI nv).toNatClampNeg = nv := nI_cl (by omega)
  -- the end: starts
  have loop2 : ∀ (r dd : Nat) (M2 : j_M), dd + r = 31 → day + 1 ≤ dd → (∀ b, b < 4 ∨ 9 < b → M2 b = M b) → M2 4 5 = nI nv → (∀ k, k < nv + 1 → M2 5 k = nI (upN vd nv day k) ∧ M2 6 k = nI (upN vh nv h k) ∧ M2 7 k = nI (upN vt nv t k)) → (∀ q, q ≤ 30 → M2 9 q = if day + 1 ≤ q ∧ q < dd then nI (stV nv vd q + 1) else nI (stV nv vd q)) → (∀ q, q < 24 → M2 8 q = if q < at0 then M 8 q else if q = at0 then nI nv else if q ≤ nv then M 8 (q - 1) else M 8 q) →
      j_W d I_Vi_tell X 91 [some (.ref 4), some (.int (nI day)), some (.int (nI h)), some (.int (nI t)), some (.int (nI at0)), some (.int (nI dd))] [] M2 := by
    intro r
    induction r with
    | zero =>
      intro dd M2 hr hdd f0 f1 f2 f3 f4
      refine jx_iload5 (pc := 91) d_Vi_tell_91 ?_
      refine jx_bipush (pc := 93) (v := 30) d_Vi_tell_93 (by decide) ?_
      refine jx_icmp_gt (pc := 95) 115 d_Vi_tell_95 (by decide) (fun c95 => ?_) (fun c95 => absurd c95 (fun q => q (show nI 30 < nI dd from nI_lt (by omega) (by omega))))
      refine jx_aload0 (pc := 115) d_Vi_tell_115 ?_
      refine jx_dupr (pc := 116) d_Vi_tell_116 ?_
      refine jx_getI (pc := 117) gf_Vi_27 d_Vi_tell_117 ad_4 sh_4 rfl ?_
      refine jx_iconst (pc := 120) (v := 1) d_Vi_tell_120 (by decide) ?_
      refine jx_iadd (pc := 121) d_Vi_tell_121 ?_
      refine jx_putI (pc := 122) pf_Vi_27 d_Vi_tell_122 ad_4 sh_4 rfl ?_
      refine jx_vret (pc := 125) hX rfl d_Vi_tell_125 ?_
      rotate_left
      refine k _ ⟨?_, fun q hq => ?_, fun q hq => ?_, fun q hq j v hj => ?_⟩ (fun b hb => by rw [j_set_n _ _ _ (by omega)]; exact f0 b hb)
      · rw [j_set_s]; simp only [upd, if_pos]; rw [f1, nI_1]
      · rw [j_set_n _ _ _ (by omega), j_set_n _ _ _ (by omega), j_set_n _ _ _ (by omega)]; exact f2 q hq
      · rw [j_set_n _ _ _ (by omega), f3 q hq, stV_one, stV_cong (vd := vd) (fun k hk => upN_lt hk), upN_self]
        by_cases hc : day + 1 ≤ q
        · rw [if_pos ⟨hc, by omega⟩, if_pos (by omega)]
        · rw [if_neg (by omega), if_neg (by omega)]; rfl
      · rw [j_set_n _ _ _ (by omega), stV_one, stV_cong (vd := vd) (fun k hk => upN_lt hk), upN_self]
        rw [ixV_succ, ixV_cong (vd := vd) (fun k hk => upN_lt hk), upN_self] at hj
        have hsq := stV_succ nv vd q
        have hs24 := stV_le nv vd (q + 1)
        have hsd := stV_succ nv vd day
        by_cases hjl : j < (ixV nv vd q).length
        · rw [List.getElem?_append_left hjl] at hj
          have hg := g4 q hq j v hj
          by_cases hc : day < q
          · rw [if_pos hc, f4 _ (by omega)]
            have hmono := stV_mono nv vd (show day + 1 ≤ q by omega)
            rw [if_neg (by omega), if_neg (by omega), if_pos (by omega), show stV nv vd q + 1 + j - 1 = stV nv vd q + j by omega]
            exact hg
          · rw [if_neg hc, Nat.add_zero, f4 _ (by omega)]
            have hmono := stV_mono nv vd (show q + 1 ≤ day + 1 by omega)
            rw [if_pos (by omega)]
            exact hg
        · rw [List.getElem?_append_right (by omega)] at hj
          by_cases hc : day = q
          · rw [if_pos hc] at hj
            have hj0 : j - (ixV nv vd q).length = 0 := by
              have := (List.getElem?_eq_some_iff.mp hj).1
              simpa using this
            rw [hj0] at hj
            cases hj
            subst hc
            rw [if_neg (by omega), Nat.add_zero, f4 _ (by omega), if_neg (by omega), if_pos (by omega)]
          · rw [if_neg hc] at hj; simp at hj
    | succ r ih =>
      intro dd M2 hr hdd f0 f1 f2 f3 f4
      have e1 : (nI dd).toNatClampNeg = dd := nI_cl (by omega)
      have hv : vp_in (nI dd) 31 := vp_in_nI (by omega) (by omega)
      refine jx_iload5 (pc := 91) d_Vi_tell_91 ?_
      refine jx_bipush (pc := 93) (v := 30) d_Vi_tell_93 (by decide) ?_
      refine jx_icmp_gt (pc := 95) 115 d_Vi_tell_95 (by decide) (fun c95 => absurd c95 (show ¬ nI 30 < nI dd from nI_nlt (by omega) (by omega))) (fun c95 => ?_)
      refine jx_aload0 (pc := 98) d_Vi_tell_98 ?_
      refine jx_getR (pc := 99) gf_Vi_24 d_Vi_tell_99 ad_4 sh_4 rfl ?_
      refine jx_iload5 (pc := 102) d_Vi_tell_102 ?_
      refine jx_dup2ri (pc := 104) d_Vi_tell_104 ?_
      refine jx_iald (pc := 105) d_Vi_tell_105 ad_9 sh_9 (by first | assumption | exact vp_in_nI (by omega) (by omega)) ?_
      refine jx_iconst (pc := 106) (v := 1) d_Vi_tell_106 (by decide) ?_
      refine jx_iadd (pc := 107) d_Vi_tell_107 ?_
      refine jx_iast (pc := 108) d_Vi_tell_108 ad_9 sh_9 (by first | assumption | exact vp_in_nI (by omega) (by omega)) ?_
      refine jx_iinc5 (pc := 109) d_Vi_tell_109 rfl (Nat.le_of_ble_eq_true rfl) ?_
      refine jx_goto (pc := 112) 91 d_Vi_tell_112 (by decide) ?_
      rotate_left
      rw [nI_add1, e1]
      refine ih (dd + 1) _ (by omega) (by omega) (fun b hb => by rw [j_set_n _ _ _ (by omega)]; exact f0 b hb) (by rw [j_set_n _ _ _ (by omega)]; exact f1) (fun q hq => by rw [j_set_n _ _ _ (by omega), j_set_n _ _ _ (by omega), j_set_n _ _ _ (by omega)]; exact f2 q hq) (fun q hq => ?_) (fun q hq => by rw [j_set_n _ _ _ (by omega)]; exact f4 q hq)
      rw [j_set_s]
      unfold upd
      by_cases hc : q = dd
      · rw [if_pos hc, f3 dd (by omega), if_neg (by omega), nI_1, hc, if_pos (by omega)]
      · rw [if_neg hc, f3 q hq]
        by_cases hc2 : day + 1 ≤ q ∧ q < dd
        · rw [if_pos hc2, if_pos (by omega)]
        · rw [if_neg hc2, if_neg (by omega)]
  -- the shift
  have loop1 : ∀ (r p : Nat) (M1 : j_M), p = at0 + r → p ≤ nv → (∀ b, b < 4 ∨ 9 < b → M1 b = M b) → M1 4 5 = nI nv → M1 9 = M 9 → (∀ k, k < nv + 1 → M1 5 k = nI (upN vd nv day k) ∧ M1 6 k = nI (upN vh nv h k) ∧ M1 7 k = nI (upN vt nv t k)) → (∀ q, q < 24 → M1 8 q = if p < q ∧ q ≤ nv then M 8 (q - 1) else M 8 q) →
      j_W d I_Vi_tell X 46 [some (.ref 4), some (.int (nI day)), some (.int (nI h)), some (.int (nI t)), some (.int (nI at0)), some (.int (nI p))] [] M1 := by
    intro r
    induction r with
    | zero =>
      intro p M1 hp hpn f0 f1 f9 f2 f4
      have e1 : (nI at0).toNatClampNeg = at0 := nI_cl (by omega)
      have hv : vp_in (nI at0) 24 := vp_in_nI (by omega) (by omega)
      refine jx_iload5 (pc := 46) d_Vi_tell_46 ?_
      refine jx_iload4 (pc := 48) d_Vi_tell_48 ?_
      refine jx_icmp_le (pc := 50) 75 d_Vi_tell_50 (by decide) (fun c50 => ?_) (fun c50 => absurd c50 (fun q => q (nI_le (by omega) (by omega))))
      refine jx_aload0 (pc := 75) d_Vi_tell_75 ?_
      refine jx_getR (pc := 76) gf_Vi_21 d_Vi_tell_76 ad_4 sh_4 rfl ?_
      refine jx_iload4 (pc := 79) d_Vi_tell_79 ?_
      refine jx_aload0 (pc := 81) d_Vi_tell_81 ?_
      refine jx_getI (pc := 82) gf_Vi_27 d_Vi_tell_82 ad_4 sh_4 rfl ?_
      refine jx_iast (pc := 85) d_Vi_tell_85 ad_8 sh_8 (by first | assumption | exact vp_in_nI (by omega) (by omega)) ?_
      refine jx_iload1 (pc := 86) d_Vi_tell_86 ?_
      refine jx_iconst (pc := 87) (v := 1) d_Vi_tell_87 (by decide) ?_
      refine jx_iadd (pc := 88) d_Vi_tell_88 ?_
      refine jx_istore5 (pc := 89) d_Vi_tell_89 rfl (Nat.le_of_ble_eq_true rfl) ?_
      rotate_left
      rw [e1, f1, nI_1]
      refine loop2 (30 - day) (day + 1) _ (by omega) (by omega) (fun b hb => by rw [j_set_n _ _ _ (by omega)]; exact f0 b hb) (by rw [j_set_n _ _ _ (by omega)]; exact f1) (fun q hq => by rw [j_set_n _ _ _ (by omega), j_set_n _ _ _ (by omega), j_set_n _ _ _ (by omega)]; exact f2 q hq) (fun q hq => ?_) (fun q hq => ?_)
      · rw [j_set_n _ _ _ (by omega), f9, g3 q hq, if_neg (by omega)]
      · rw [j_set_s]
        unfold upd
        by_cases hc : q = at0
        · rw [if_pos hc, if_neg (by omega), if_pos hc]
        · rw [if_neg hc, if_neg hc, f4 q hq]
          by_cases hc2 : q < at0
          · rw [if_neg (by omega), if_pos hc2]
          · rw [if_neg hc2]
            by_cases hc3 : q ≤ nv
            · rw [if_pos (by omega), if_pos hc3]
            · rw [if_neg (by omega), if_neg hc3]
    | succ r ih =>
      intro p M1 hp hpn f0 f1 f9 f2 f4
      have e1 : (nI p).toNatClampNeg = p := nI_cl (by omega)
      have e2 : nI p - 1 = nI (p - 1) := nI_sub (b := 1) (by omega)
      have e3 : (nI (p - 1)).toNatClampNeg = p - 1 := nI_cl (by omega)
      have e5 : nI p + Int32.ofInt (-1) = nI (p - 1) := by rw [show Int32.ofInt (-1) = (-1 : Int32) by decide, show p = (p - 1) + 1 by omega, pk_m1]; rfl
      have hv : vp_in (nI p) 24 := vp_in_nI (by omega) (by omega)
      have hv2 : vp_in (nI p - 1) 24 := by rw [e2]; exact vp_in_nI (by omega) (by omega)
      refine jx_iload5 (pc := 46) d_Vi_tell_46 ?_
      refine jx_iload4 (pc := 48) d_Vi_tell_48 ?_
      refine jx_icmp_le (pc := 50) 75 d_Vi_tell_50 (by decide) (fun c50 => absurd c50 (nI_ge (by omega) (by omega))) (fun c50 => ?_)
      refine jx_aload0 (pc := 53) d_Vi_tell_53 ?_
      refine jx_getR (pc := 54) gf_Vi_21 d_Vi_tell_54 ad_4 sh_4 rfl ?_
      refine jx_iload5 (pc := 57) d_Vi_tell_57 ?_
      refine jx_aload0 (pc := 59) d_Vi_tell_59 ?_
      refine jx_getR (pc := 60) gf_Vi_21 d_Vi_tell_60 ad_4 sh_4 rfl ?_
      refine jx_iload5 (pc := 63) d_Vi_tell_63 ?_
      refine jx_iconst (pc := 65) (v := 1) d_Vi_tell_65 (by decide) ?_
      refine jx_isub (pc := 66) d_Vi_tell_66 ?_
      refine jx_iald (pc := 67) d_Vi_tell_67 ad_8 sh_8 (by first | assumption | exact vp_in_nI (by omega) (by omega)) ?_
      refine jx_iast (pc := 68) d_Vi_tell_68 ad_8 sh_8 (by first | assumption | exact vp_in_nI (by omega) (by omega)) ?_
      refine jx_iinc5 (pc := 69) d_Vi_tell_69 rfl (Nat.le_of_ble_eq_true rfl) ?_
      refine jx_goto (pc := 72) 46 d_Vi_tell_72 (by decide) ?_
      rotate_left
      rw [e5, e2, e3, e1]
      refine ih (p - 1) _ (by omega) (by omega) (fun b hb => by rw [j_set_n _ _ _ (by omega)]; exact f0 b hb) (by rw [j_set_n _ _ _ (by omega)]; exact f1) (by rw [j_set_n _ _ _ (by omega)]; exact f9) (fun q hq => by rw [j_set_n _ _ _ (by omega), j_set_n _ _ _ (by omega), j_set_n _ _ _ (by omega)]; exact f2 q hq) (fun q hq => ?_)
      rw [j_set_s]
      unfold upd
      by_cases hc : q = p
      · rw [if_pos hc, f4 _ (by omega), if_neg (by omega), if_pos (by omega), hc]
      · rw [if_neg hc, f4 q hq]
        by_cases hc2 : p < q ∧ q ≤ nv
        · rw [if_pos hc2, if_pos (by omega)]
        · rw [if_neg hc2, if_neg (by omega)]
  have ed1 : nI day + 1 = nI (day + 1) := nI_1 day
  have ed2 : (nI (day + 1)).toNatClampNeg = day + 1 := nI_cl (by omega)
  have hvn : vp_in (M 4 5) 24 := by rw [g1]; exact vp_in_nI hn (by omega)
  have hvd : vp_in (nI day + 1) 31 := by rw [ed1]; exact vp_in_nI (by omega) (by omega)
  refine jx_aload0 (pc := 0) d_Vi_tell_0 ?_
  refine jx_getR (pc := 1) gf_Vi_9 d_Vi_tell_1 ad_4 sh_4 rfl ?_
  refine jx_aload0 (pc := 4) d_Vi_tell_4 ?_
  refine jx_getI (pc := 5) gf_Vi_27 d_Vi_tell_5 ad_4 sh_4 rfl ?_
  refine jx_iload1 (pc := 8) d_Vi_tell_8 ?_
  refine jx_iast (pc := 9) d_Vi_tell_9 ad_5 sh_5 hvn ?_
  refine jx_aload0 (pc := 10) d_Vi_tell_10 ?_
  refine jx_getR (pc := 11) gf_Vi_15 d_Vi_tell_11 ad_4 sh_4 rfl ?_
  refine jx_aload0 (pc := 14) d_Vi_tell_14 ?_
  refine jx_getI (pc := 15) gf_Vi_27 d_Vi_tell_15 ad_4 sh_4 rfl ?_
  refine jx_iload2 (pc := 18) d_Vi_tell_18 ?_
  refine jx_iast (pc := 19) d_Vi_tell_19 ad_6 sh_6 hvn ?_
  refine jx_aload0 (pc := 20) d_Vi_tell_20 ?_
  refine jx_getR (pc := 21) gf_Vi_18 d_Vi_tell_21 ad_4 sh_4 rfl ?_
  refine jx_aload0 (pc := 24) d_Vi_tell_24 ?_
  refine jx_getI (pc := 25) gf_Vi_27 d_Vi_tell_25 ad_4 sh_4 rfl ?_
  refine jx_iload3 (pc := 28) d_Vi_tell_28 ?_
  refine jx_iast (pc := 29) d_Vi_tell_29 ad_7 sh_7 hvn ?_
  refine jx_aload0 (pc := 30) d_Vi_tell_30 ?_
  refine jx_getR (pc := 31) gf_Vi_24 d_Vi_tell_31 ad_4 sh_4 rfl ?_
  refine jx_iload1 (pc := 34) d_Vi_tell_34 ?_
  refine jx_iconst (pc := 35) (v := 1) d_Vi_tell_35 (by decide) ?_
  refine jx_iadd (pc := 36) d_Vi_tell_36 ?_
  refine jx_iald (pc := 37) d_Vi_tell_37 ad_9 sh_9 hvd ?_
  refine jx_istore4 (pc := 38) d_Vi_tell_38 rfl (Nat.le_of_ble_eq_true rfl) ?_
  refine jx_aload0 (pc := 40) d_Vi_tell_40 ?_
  refine jx_getI (pc := 41) gf_Vi_27 d_Vi_tell_41 ad_4 sh_4 rfl ?_
  refine jx_istore5 (pc := 44) d_Vi_tell_44 rfl (Nat.le_of_ble_eq_true rfl) ?_
  rotate_left
  have hM4 : ∀ (a1 a2 a3 k1 k2 k3 : Nat) (x1 x2 x3 : Int32), 4 ≠ a1 → 4 ≠ a2 → 4 ≠ a3 → j_set (j_set (j_set M a1 k1 x1) a2 k2 x2) a3 k3 x3 4 5 = nI nv := by
    intro a1 a2 a3 k1 k2 k3 x1 x2 x3 h1 h2 h3
    rw [j_set_n _ _ _ h3, j_set_n _ _ _ h2, j_set_n _ _ _ h1, g1]
  rw [hM4 _ _ _ _ _ _ _ _ _ (by omega) (by omega) (by omega), ed1, ed2]
  rw [j_set_n (b := 9) _ _ _ (by omega), j_set_n (b := 9) _ _ _ (by omega), j_set_n (b := 9) _ _ _ (by omega), hat]
  simp only [j_set_n (b := 4) (a := 5) _ _ _ (by omega), j_set_n (b := 4) (a := 6) _ _ _ (by omega), g1, en]
  refine loop1 (nv - at0) nv _ (by omega) (Nat.le_refl _) (fun b hb => ?_) ?_ ?_ (fun q hq => ?_) (fun q hq => ?_)
  · rw [j_set_n _ _ _ (by omega), j_set_n _ _ _ (by omega), j_set_n _ _ _ (by omega)]
  · rw [j_set_n _ _ _ (by omega), j_set_n _ _ _ (by omega), j_set_n _ _ _ (by omega), g1]
  · rw [j_set_n _ _ _ (by omega), j_set_n _ _ _ (by omega), j_set_n _ _ _ (by omega)]
  · rw [j_set_n (b := 5) _ _ _ (by omega), j_set_n (b := 5) _ _ _ (by omega), j_set_s, j_set_n (b := 6) _ _ _ (by omega), j_set_s, j_set_n (b := 6) _ _ _ (by omega), j_set_s, j_set_n (b := 7) _ _ _ (by omega), j_set_n (b := 7) _ _ _ (by omega)]
    unfold upd upN
    by_cases hc : q = nv
    · simp [hc]
    · simp only [if_neg hc]
      exact g2 q (by omega)
  · rw [j_set_n _ _ _ (by omega), j_set_n _ _ _ (by omega), j_set_n _ _ _ (by omega), if_neg (by omega)]
theorem c_Vi_untell {d n : Nat} {vd vh vt : Nat → Nat} {M : j_M} {Q : Option Value → j_M → Prop} (hn : n < 24) (hday : vd n < 30) (hV : ViC (n + 1) vd vh vt M)
    (k : ∀ M', ViC n vd vh vt M' → (∀ b, b < 4 ∨ 9 < b → M' b = M b) → Q none M') : j_Ct d I_Vi_untell [.ref 4] M Q := by
  refine j_met (by decide +kernel) co_Vi_untell (Nat.le_of_ble_eq_true rfl) (fun X hX => ?_)
  show j_W d I_Vi_untell X 0 [some (.ref 4), none, none] [] M
  obtain ⟨g1, g2, g3, g4⟩ := hV
  generalize hDY : vd n = day at hday
  have en : (nI n).toNatClampNeg = n := nI_cl (by omega)
  have en1 : nI (n + 1) - 1 = nI n := nI_pred n
  have hAT : ∀ q, stV (n + 1) vd q = stV n vd q + (if day < q then 1 else 0) := fun q => by rw [stV_one, hDY]
  have hatn : stV n vd (day + 1) ≤ n := stV_le _ _ _
  generalize hA0 : stV n vd (day + 1) = at0 at hatn
  have loop2 : ∀ (r p : Nat) (M1 : j_M), p + r = n → at0 ≤ p → (∀ b, b < 4 ∨ 9 < b → M1 b = M b) → M1 4 5 = nI n → (∀ k, k < n → M1 5 k = nI (vd k) ∧ M1 6 k = nI (vh k) ∧ M1 7 k = nI (vt k)) → (∀ q, q ≤ 30 → M1 9 q = nI (stV n vd q)) → (∀ q, q < 24 → M1 8 q = if at0 ≤ q ∧ q < p then M 8 (q + 1) else M 8 q) →
      j_W d I_Vi_untell X 55 [some (.ref 4), some (.int (nI day)), some (.int (nI p))] [] M1 := by
    intro r
    induction r with
    | zero =>
      intro p M1 hp hap f0 f1 f2 f3 f4
      refine jx_iload2 (pc := 55) d_Vi_untell_55 ?_
      refine jx_aload0 (pc := 56) d_Vi_untell_56 ?_
      refine jx_getI (pc := 57) gf_Vi_27 d_Vi_untell_57 ad_4 sh_4 rfl ?_
      refine jx_icmp_ge (pc := 60) 83 d_Vi_untell_60 (by decide) (fun c60 => ?_) (fun c60 => absurd c60 (fun q => q (by rw [f1]; exact nI_le (by omega) (by omega))))
      refine jx_vret (pc := 83) hX rfl d_Vi_untell_83 ?_
      rotate_left
      refine k _ ⟨f1, f2, f3, fun q hq j v hj => ?_⟩ f0
      have hsq := stV_succ n vd q
      have hs24 := stV_le n vd (q + 1)
      have hjl : j < (ixV n vd q).length := (List.getElem?_eq_some_iff.mp hj).1
      have hg := g4 q hq j v (by rw [ixV_succ, List.getElem?_append_left hjl]; exact hj)
      rw [hAT] at hg
      rw [f4 _ (by omega)]
      by_cases hc : day < q
      · have hmono := stV_mono n vd (show day + 1 ≤ q by omega)
        rw [if_pos (by omega)]
        rw [if_pos hc, show stV n vd q + 1 + j = stV n vd q + j + 1 by omega] at hg
        exact hg
      · have hmono := stV_mono n vd (show q + 1 ≤ day + 1 by omega)
        rw [if_neg (by omega)]
        rw [if_neg hc, Nat.add_zero] at hg
        exact hg
    | succ r ih =>
      intro p M1 hp hap f0 f1 f2 f3 f4
      have e1 : (nI p).toNatClampNeg = p := nI_cl (by omega)
      have e2 : nI p + 1 = nI (p + 1) := nI_1 p
      have e3 : (nI (p + 1)).toNatClampNeg = p + 1 := nI_cl (by omega)
      have hv : vp_in (nI p) 24 := vp_in_nI (by omega) (by omega)
      have hv2 : vp_in (nI p + 1) 24 := by rw [e2]; exact vp_in_nI (by omega) (by omega)
      refine jx_iload2 (pc := 55) d_Vi_untell_55 ?_
      refine jx_aload0 (pc := 56) d_Vi_untell_56 ?_
      refine jx_getI (pc := 57) gf_Vi_27 d_Vi_untell_57 ad_4 sh_4 rfl ?_
      refine jx_icmp_ge (pc := 60) 83 d_Vi_untell_60 (by decide) (fun c60 => absurd c60 (by rw [f1]; exact nI_ge (by omega) (by omega))) (fun c60 => ?_)
      refine jx_aload0 (pc := 63) d_Vi_untell_63 ?_
      refine jx_getR (pc := 64) gf_Vi_21 d_Vi_untell_64 ad_4 sh_4 rfl ?_
      refine jx_iload2 (pc := 67) d_Vi_untell_67 ?_
      refine jx_aload0 (pc := 68) d_Vi_untell_68 ?_
      refine jx_getR (pc := 69) gf_Vi_21 d_Vi_untell_69 ad_4 sh_4 rfl ?_
      refine jx_iload2 (pc := 72) d_Vi_untell_72 ?_
      refine jx_iconst (pc := 73) (v := 1) d_Vi_untell_73 (by decide) ?_
      refine jx_iadd (pc := 74) d_Vi_untell_74 ?_
      refine jx_iald (pc := 75) d_Vi_untell_75 ad_8 sh_8 (by first | assumption | exact vp_in_nI (by omega) (by omega)) ?_
      refine jx_iast (pc := 76) d_Vi_untell_76 ad_8 sh_8 (by first | assumption | exact vp_in_nI (by omega) (by omega)) ?_
      refine jx_iinc2 (pc := 77) d_Vi_untell_77 rfl (Nat.le_of_ble_eq_true rfl) ?_
      refine jx_goto (pc := 80) 55 d_Vi_untell_80 (by decide) ?_
      rotate_left
      rw [nI_add1, e2, e3, e1]
      refine ih (p + 1) _ (by omega) (by omega) (fun b hb => by rw [j_set_n _ _ _ (by omega)]; exact f0 b hb) (by rw [j_set_n _ _ _ (by omega)]; exact f1) (fun q hq => by rw [j_set_n _ _ _ (by omega), j_set_n _ _ _ (by omega), j_set_n _ _ _ (by omega)]; exact f2 q hq) (fun q hq => by rw [j_set_n _ _ _ (by omega)]; exact f3 q hq) (fun q hq => ?_)
      rw [j_set_s]
      unfold upd
      by_cases hc : q = p
      · rw [if_pos hc, f4 _ (by omega), if_neg (by omega), if_pos (by omega), hc]
      · rw [if_neg hc, f4 q hq]
        by_cases hc2 : at0 ≤ q ∧ q < p
        · rw [if_pos hc2, if_pos (by omega)]
        · rw [if_neg hc2, if_neg (by omega)]
  have loop1 : ∀ (r dd : Nat) (M2 : j_M), dd + r = 31 → day + 1 ≤ dd → (∀ b, b < 4 ∨ 9 < b → M2 b = M b) → M2 4 5 = nI n → (∀ k, k < n → M2 5 k = nI (vd k) ∧ M2 6 k = nI (vh k) ∧ M2 7 k = nI (vt k)) → (∀ q, q ≤ 30 → M2 9 q = if day + 1 ≤ q ∧ q < dd then nI (stV n vd q) else nI (stV (n + 1) vd q)) → M2 8 = M 8 →
      j_W d I_Vi_untell X 24 [some (.ref 4), some (.int (nI day)), some (.int (nI dd))] [] M2 := by
    intro r
    induction r with
    | zero =>
      intro dd M2 hr hdd f0 f1 f2 f3 f8
      have ed1 : nI day + 1 = nI (day + 1) := nI_1 day
      have ed2 : (nI (day + 1)).toNatClampNeg = day + 1 := nI_cl (by omega)
      have hvd : vp_in (nI day + 1) 31 := by rw [ed1]; exact vp_in_nI (by omega) (by omega)
      refine jx_iload2 (pc := 24) d_Vi_untell_24 ?_
      refine jx_bipush (pc := 25) (v := 30) d_Vi_untell_25 (by decide) ?_
      refine jx_icmp_gt (pc := 27) 46 d_Vi_untell_27 (by decide) (fun c27 => ?_) (fun c27 => absurd c27 (fun q => q (show nI 30 < nI dd from nI_lt (by omega) (by omega))))
      refine jx_aload0 (pc := 46) d_Vi_untell_46 ?_
      refine jx_getR (pc := 47) gf_Vi_24 d_Vi_untell_47 ad_4 sh_4 rfl ?_
      refine jx_iload1 (pc := 50) d_Vi_untell_50 ?_
      refine jx_iconst (pc := 51) (v := 1) d_Vi_untell_51 (by decide) ?_
      refine jx_iadd (pc := 52) d_Vi_untell_52 ?_
      refine jx_iald (pc := 53) d_Vi_untell_53 ad_9 sh_9 (by first | assumption | exact vp_in_nI (by omega) (by omega)) ?_
      refine jx_istore2 (pc := 54) d_Vi_untell_54 rfl (Nat.le_of_ble_eq_true rfl) ?_
      rotate_left
      rw [ed1, ed2, f3 (day + 1) (by omega), if_pos (by omega), hA0]
      refine loop2 (n - at0) at0 M2 (by omega) (Nat.le_refl _) f0 f1 f2 (fun q hq => ?_) (fun q hq => by rw [f8, if_neg (by omega)])
      rw [f3 q hq]
      by_cases hc : day + 1 ≤ q
      · rw [if_pos (by omega)]
      · rw [if_neg (by omega), hAT, if_neg (by omega)]; rfl
    | succ r ih =>
      intro dd M2 hr hdd f0 f1 f2 f3 f8
      have e1 : (nI dd).toNatClampNeg = dd := nI_cl (by omega)
      have hv : vp_in (nI dd) 31 := vp_in_nI (by omega) (by omega)
      refine jx_iload2 (pc := 24) d_Vi_untell_24 ?_
      refine jx_bipush (pc := 25) (v := 30) d_Vi_untell_25 (by decide) ?_
      refine jx_icmp_gt (pc := 27) 46 d_Vi_untell_27 (by decide) (fun c27 => absurd c27 (show ¬ nI 30 < nI dd from nI_nlt (by omega) (by omega))) (fun c27 => ?_)
      refine jx_aload0 (pc := 30) d_Vi_untell_30 ?_
      refine jx_getR (pc := 31) gf_Vi_24 d_Vi_untell_31 ad_4 sh_4 rfl ?_
      refine jx_iload2 (pc := 34) d_Vi_untell_34 ?_
      refine jx_dup2ri (pc := 35) d_Vi_untell_35 ?_
      refine jx_iald (pc := 36) d_Vi_untell_36 ad_9 sh_9 (by first | assumption | exact vp_in_nI (by omega) (by omega)) ?_
      refine jx_iconst (pc := 37) (v := 1) d_Vi_untell_37 (by decide) ?_
      refine jx_isub (pc := 38) d_Vi_untell_38 ?_
      refine jx_iast (pc := 39) d_Vi_untell_39 ad_9 sh_9 (by first | assumption | exact vp_in_nI (by omega) (by omega)) ?_
      refine jx_iinc2 (pc := 40) d_Vi_untell_40 rfl (Nat.le_of_ble_eq_true rfl) ?_
      refine jx_goto (pc := 43) 24 d_Vi_untell_43 (by decide) ?_
      rotate_left
      rw [nI_add1, e1]
      refine ih (dd + 1) _ (by omega) (by omega) (fun b hb => by rw [j_set_n _ _ _ (by omega)]; exact f0 b hb) (by rw [j_set_n _ _ _ (by omega)]; exact f1) (fun q hq => by rw [j_set_n _ _ _ (by omega), j_set_n _ _ _ (by omega), j_set_n _ _ _ (by omega)]; exact f2 q hq) (fun q hq => ?_) (by rw [j_set_n _ _ _ (by omega)]; exact f8)
      rw [j_set_s]
      unfold upd
      by_cases hc : q = dd
      · rw [if_pos hc, f3 dd (by omega), if_neg (by omega), hAT, if_pos (by omega), nI_pred, hc, if_pos (by omega)]
      · rw [if_neg hc, f3 q hq]
        by_cases hc2 : day + 1 ≤ q ∧ q < dd
        · rw [if_pos hc2, if_pos (by omega)]
        · rw [if_neg hc2, if_neg (by omega)]
  have hvn : vp_in (j_set M 4 5 (M 4 5 - 1) 4 5) 24 := by rw [j_set_s]; simp only [upd, if_pos]; rw [g1, en1]; exact vp_in_nI hn (by omega)
  refine jx_aload0 (pc := 0) d_Vi_untell_0 ?_
  refine jx_dupr (pc := 1) d_Vi_untell_1 ?_
  refine jx_getI (pc := 2) gf_Vi_27 d_Vi_untell_2 ad_4 sh_4 rfl ?_
  refine jx_iconst (pc := 5) (v := 1) d_Vi_untell_5 (by decide) ?_
  refine jx_isub (pc := 6) d_Vi_untell_6 ?_
  refine jx_putI (pc := 7) pf_Vi_27 d_Vi_untell_7 ad_4 sh_4 rfl ?_
  refine jx_aload0 (pc := 10) d_Vi_untell_10 ?_
  refine jx_getR (pc := 11) gf_Vi_9 d_Vi_untell_11 ad_4 sh_4 rfl ?_
  refine jx_aload0 (pc := 14) d_Vi_untell_14 ?_
  refine jx_getI (pc := 15) gf_Vi_27 d_Vi_untell_15 ad_4 sh_4 rfl ?_
  refine jx_iald (pc := 18) d_Vi_untell_18 ad_5 sh_5 hvn ?_
  refine jx_istore1 (pc := 19) d_Vi_untell_19 rfl (Nat.le_of_ble_eq_true rfl) ?_
  refine jx_iload1 (pc := 20) d_Vi_untell_20 ?_
  refine jx_iconst (pc := 21) (v := 1) d_Vi_untell_21 (by decide) ?_
  refine jx_iadd (pc := 22) d_Vi_untell_22 ?_
  refine jx_istore2 (pc := 23) d_Vi_untell_23 rfl (Nat.le_of_ble_eq_true rfl) ?_
  rotate_left
  have h45 : j_set M 4 5 (M 4 5 - 1) 4 5 = nI n := by rw [j_set_s]; simp only [upd, if_pos]; rw [g1, en1]
  rw [h45, en, j_set_n _ _ _ (by omega), (g2 n (by omega)).1, hDY, nI_1]
  refine loop1 (30 - day) (day + 1) _ (by omega) (by omega) (fun b hb => by rw [j_set_n _ _ _ (by omega)]) h45 (fun q hq => by rw [j_set_n _ _ _ (by omega), j_set_n _ _ _ (by omega), j_set_n _ _ _ (by omega)]; exact g2 q (by omega)) (fun q hq => by rw [j_set_n _ _ _ (by omega), g3 q hq, if_neg (by omega)]) (by rw [j_set_n _ _ _ (by omega)])
