/-! OPERATIONS of the reference: chance -/
def sm (f : Nat → Nat) : Nat → Nat
  | 0 => 0
  | n + 1 => sm f n + f n
theorem sm_2 (f : Nat → Nat) : ∀ n, sm f (2 * n) = sm (fun y => f (2 * y) + f (2 * y + 1)) n
  | 0 => rfl
  | n + 1 => by
    have ih := sm_2 f n
    rw [show 2 * (n + 1) = 2 * n + 1 + 1 by omega, sm, sm, ih, sm]
    omega
theorem sm_c {f g : Nat → Nat} : ∀ n, (∀ x, x < n → f x = g x) → sm f n = sm g n
  | 0, _ => rfl
  | n + 1, h => by rw [sm, sm, sm_c n (fun x hx => h x (by omega)), h n (by omega)]
theorem sm_lin (a b : Nat) (f g : Nat → Nat) : ∀ n, sm (fun y => a * f y + b * g y) n = a * sm f n + b * sm g n
  | 0 => by simp [sm]
  | n + 1 => by
    rw [sm, sm_lin a b f g n, sm, sm, Nat.mul_add, Nat.mul_add]
    omega
theorem sm_mono (f : Nat → Nat) {n : Nat} : ∀ m, n ≤ m → sm f n ≤ sm f m
  | 0, h => by rw [show n = 0 by omega]; exact Nat.le_refl _
  | m + 1, h => by
    by_cases hc : n = m + 1
    · rw [hc]; exact Nat.le_refl _
    · have := sm_mono f m (show n ≤ m by omega)
      rw [sm]; omega
def wtB (c : Nat) : Nat → Nat → Nat
  | 0, _ => 1
  | r + 1, x => (if x % 2 = 1 then c else 16 - c) * wtB c r (x / 2)
def fldB (s : Sg) (h md mt : Nat) : Nat → Nat → Nat → Mo → Mo
  | 0, _, _, m => m
  | r + 1, day, x, m => fldB s h md mt r (day + 1) (x / 2) (if x % 2 = 1 then eve (g_en s) 9 m else eve (g_en s) 9 (awk s h day md mt m))
theorem wgF_sm (s : Sg) (c h md mt : Nat) : ∀ r day m, wgF s c h md mt r day m = sm (fun x => if (fldB s h md mt r day x m).2.2.2.2 = h then wtB c r x else 0) (2 ^ r)
  | 0, day, m => by
    show (if m.2.2.2.2 = h then 1 else 0) = 0 + (if m.2.2.2.2 = h then 1 else 0)
    omega
  | r + 1, day, m => by
    rw [wgF, wgF_sm s c h md mt r, wgF_sm s c h md mt r, Nat.pow_succ, Nat.mul_comm (2 ^ r) 2, sm_2, ← sm_lin]
    refine sm_c _ (fun y _ => ?_)
    have e0 : (2 * y) % 2 = 0 := by omega
    have e1 : (2 * y + 1) % 2 = 1 := by omega
    have e2 : (2 * y) / 2 = y := by omega
    have e3 : (2 * y + 1) / 2 = y := by omega
    simp only [fldB, wtB, e0, e1, e2, e3]
    simp only [if_true, show ¬ (0 : Nat) = 1 by omega, if_false]
    by_cases g1 : (fldB s h md mt r (day + 1) y (eve (g_en s) 9 m)).2.2.2.2 = h
    · by_cases g2 : (fldB s h md mt r (day + 1) y (eve (g_en s) 9 (awk s h day md mt m))).2.2.2.2 = h
      · simp only [if_pos g1, if_pos g2]; omega
      · simp only [if_pos g1, if_neg g2]; omega
    · by_cases g2 : (fldB s h md mt r (day + 1) y (eve (g_en s) 9 (awk s h day md mt m))).2.2.2.2 = h
      · simp only [if_neg g1, if_pos g2]; omega
      · simp only [if_neg g1, if_neg g2, Nat.mul_zero, Nat.add_zero]
def wtU (c x : Nat) : Nat → Nat
  | 0 => 1
  | k + 1 => wtU c x k * (if x.testBit k then c else 16 - c)
theorem wtU_le {c : Nat} (x : Nat) (hc : c ≤ 16) : ∀ k, wtU c x k ≤ 16 ^ k
  | 0 => Nat.le_refl _
  | k + 1 => by
    have := wtU_le x hc k
    rw [wtU, Nat.pow_succ]
    refine Nat.mul_le_mul this ?_
    split <;> omega
theorem wtU_B (c x : Nat) : ∀ r k, wtU c x (k + r) = wtU c x k * wtB c r (x / 2 ^ k)
  | 0, k => by rw [wtB, Nat.mul_one]; rfl
  | r + 1, k => by
    have ih := wtU_B c x r (k + 1)
    rw [show k + (r + 1) = k + 1 + r by omega, ih, wtU, wtB, Nat.div_div_eq_div_mul, show 2 ^ k * 2 = 2 ^ (k + 1) from (Nat.pow_succ ..).symm, Nat.mul_assoc]
    congr 2
    by_cases h : x.testBit k = true
    · rw [if_pos h, if_pos ((bt_iff x k).mp h)]
    · rw [if_neg h, if_neg (fun q => h ((bt_iff x k).mpr q))]
def bsM (s : Sg) (h md mt : Nat) : Nat → List (Nat × Nat) := fun day => g_bs s day ++ (if day = md then [(h, mt)] else [])
theorem awk_bsM (s : Sg) (h day md mt : Nat) (m : Mo) : awk s h day md mt m = brgs (g_en s) (g_ta s 0) day (bsM s h md mt day) m := by
  unfold awk bsM
  by_cases hd : day = md
  · rw [if_pos hd, if_pos hd, brgs_app]; rfl
  · rw [if_neg hd, if_neg hd, List.append_nil]
theorem run_fldB (s : Sg) (h md mt x : Nat) : ∀ r k, run (g_en s) (g_ta s 0) 9 x (bsM s h md mt) (k + r) = fldB s h md mt r k (x / 2 ^ k) (run (g_en s) (g_ta s 0) 9 x (bsM s h md mt) k)
  | 0, k => rfl
  | r + 1, k => by
    have ih := run_fldB s h md mt x r (k + 1)
    rw [show k + (r + 1) = k + 1 + r by omega, ih, fldB, Nat.div_div_eq_div_mul, show 2 ^ k * 2 = 2 ^ (k + 1) from (Nat.pow_succ ..).symm]
    congr 1
    rw [run]
    unfold dayS
    by_cases hb : x.testBit k = true
    · rw [if_pos hb, if_pos ((bt_iff x k).mp hb)]
    · rw [if_neg hb, if_neg (fun q => hb ((bt_iff x k).mpr q)), awk_bsM]
def chT (s : Sg) (c h md mt last x : Nat) : Nat := if (run (g_en s) (g_ta s 0) 9 x (bsM s h md mt) (last + 1)).2.2.2.2 = h then wtU c x (last + 1) else 0
theorem wgF_chT (s : Sg) (c h md mt last : Nat) : wgF s c h md mt (last + 1) 0 mo0 = sm (chT s c h md mt last) (2 ^ (last + 1)) := by
  rw [wgF_sm]
  refine sm_c _ (fun x _ => ?_)
  unfold chT
  have e1 := run_fldB s h md mt x (last + 1) 0
  have e2 := wtU_B c x (last + 1) 0
  rw [Nat.zero_add, Nat.pow_zero, Nat.div_one] at e1 e2
  rw [e1, e2, wtU, Nat.one_mul]
  rfl
theorem shl2 {k : Nat} (hk : k < 30) : (2 : Int32) <<< (nI k &&& 31) = nI (2 ^ (k + 1)) := by
  have hp : 2 * 2 ^ k < 2 ^ 32 := by
    have := Nat.pow_lt_pow_right (a := 2) (by decide) hk
    omega
  have h := pk_shlN (n := 2) (nI k &&& 31) k (sh_l k (by omega)) hp
  rw [Nat.pow_succ, Nat.mul_comm]; exact h
theorem c_R_chanceBy {d c h last md mt : Nat} {N : VS} {s : Sg} {M : j_M} {Q : Option Value → j_M → Prop} (hw : WF s) (hR : RepR s M) (hr : RdR s M) (hN : NMo N M) (h19 : M 79 19 = -1) (hdl : ∀ dd, dd < 30 → dl N dd = if dd = md then [(h, mt)] else []) (hc : c ≤ 16) (hh : h < g_hn s) (hl : last < 10)
    (k : ∀ M', ScrR M M' → RdR s M' → Q (some (.long (lN (wgF s c h md mt (last + 1) 0 mo0)))) M') : j_Ct (d + 3) I_R_chanceBy [.ref 79, .int (nI c), .int (nI h), .int (nI last)] M Q := by
  refine j_met (by decide +kernel) co_R_chanceBy (Nat.le_of_ble_eq_true rfl) (fun X hX => ?_)
  show j_W (d + 3) I_R_chanceBy X 0 [some (.ref 79), some (.int (nI c)), some (.int (nI h)), some (.int (nI last)), none, none, none, none, none, none] [] M
  have hn6 : g_hn s ≤ 6 := hnB_le hw.1
  have hT : 2 ^ (last + 1) ≤ 1024 := Nat.le_trans (Nat.pow_le_pow_right (n := 2) (by omega) (show last + 1 ≤ 10 by omega)) (by decide)
  have e2n := shl2 (k := last) (by omega)
  have hwg := wgF_chT s c h md mt last
  have hp40 := p16 (n := last + 1) (by omega)
  obtain ⟨T, hTe⟩ : ∃ T, T = 2 ^ (last + 1) := ⟨_, rfl⟩
  rw [← hTe] at hT e2n hwg
  rw [hwg] at k
  have outer : ∀ (r x : Nat) (M2 : j_M) (e7 e8 e9 : Option Value), x + r = T → ScrR M M2 → RdR s M2 → NMo N M2 → M2 79 19 = -1 → j_W (d + 3) I_R_chanceBy X 6 [some (.ref 79), some (.int (nI c)), some (.int (nI h)), some (.int (nI last)), some (.long (lN (sm (chT s c h md mt last) x))), none, some (.int (nI x)), e7, e8, e9] [] M2 := by
    intro r
    induction r with
    | zero =>
      intro x M2 e7 e8 e9 hx hS hr2 hN2 h192
      have hx' : x = T := by omega
      subst hx'
      refine jx_iload6 (pc := 6) d_R_chanceBy_6 ?_
      refine jx_iconst (pc := 8) (v := 2) d_R_chanceBy_8 (by decide) ?_
      refine jx_iload3 (pc := 9) d_R_chanceBy_9 ?_
      refine jx_ishl (pc := 10) d_R_chanceBy_10 ?_
      refine jx_icmp_ge (pc := 11) 103 d_R_chanceBy_11 (by decide) (fun c11 => ?_) (fun c11 => absurd c11 (fun q => q (by rw [e2n]; exact Int32.le_refl _)))
      refine jx_lload4 (pc := 103) d_R_chanceBy_103 ?_
      refine jx_lret (pc := 105) hX rfl d_R_chanceBy_105 ?_
      rotate_left
      exact k M2 hS hr2
    | succ r ih =>
      intro x M2 e7 e8 e9 hx hS hr2 hN2 h192
      have hw16 := wtU_le x hc (last + 1)
      have fin : ∀ (M3 : j_M) (e9 : Option Value) (v : Int64), ScrR M M3 → RdR s M3 → NMo N M3 → M3 79 19 = -1 → v = lN (chT s c h md mt last x) → j_W (d + 3) I_R_chanceBy X 6 [some (.ref 79), some (.int (nI c)), some (.int (nI h)), some (.int (nI last)), some (.long (lN (sm (chT s c h md mt last) x) + v)), none, some (.int (nI x + Int32.ofInt 1)), some (.long (lN (wtU c x (last + 1)))), none, e9] [] M3 := by
        intro M3 e9 v hS3 hr3 hN3 h193 hv
        have nx := ih (x + 1) M3 (some (.long (lN (wtU c x (last + 1))))) none e9 (by omega) hS3 hr3 hN3 h193
        rw [sm] at nx
        rw [hv, lN_add, nI_add1]
        exact nx
      have inner : ∀ (q i : Nat), i + q = last + 1 → j_W (d + 3) I_R_chanceBy X 20 [some (.ref 79), some (.int (nI c)), some (.int (nI h)), some (.int (nI last)), some (.long (lN (sm (chT s c h md mt last) x))), none, some (.int (nI x)), some (.long (lN (wtU c x i))), none, some (.int (nI i))] [] M2 := by
        intro q
        induction q with
        | zero =>
          intro i hi
          have hi' : i = last + 1 := by omega
          subst hi'
          have hgt : nI last < nI (last + 1) := nI_lt (by omega) (by omega)
          by_cases h0 : wtU c x (last + 1) = 0
          · have hle : lN (wtU c x (last + 1)) ≤ 0 := (pk_lLE (b := 0) (by omega) (by omega)).mpr (by omega)
            refine jx_iload9 (pc := 20) d_R_chanceBy_20 ?_
            refine jx_iload3 (pc := 22) d_R_chanceBy_22 ?_
            refine jx_icmp_gt (pc := 23) 57 d_R_chanceBy_23 (by decide) (fun c23 => ?_) (fun c23 => absurd c23 (fun q => q hgt))
            refine jx_lload7 (pc := 57) d_R_chanceBy_57 ?_
            refine jx_lconst (pc := 59) (v := 0) d_R_chanceBy_59 (by decide) ?_
            refine jx_lcmp (pc := 60) d_R_chanceBy_60 ?_
            refine jx_if_le (pc := 61) 97 d_R_chanceBy_61 (by decide) (fun c61 => ?_) (fun c61 => absurd c61 (fun q => q ((lg_cmp_le _ _).mpr hle)))
            refine jx_iinc6 (pc := 97) d_R_chanceBy_97 rfl (Nat.le_of_ble_eq_true rfl) ?_
            refine jx_goto (pc := 100) 6 d_R_chanceBy_100 (by decide) ?_
            rotate_left
            have hz : chT s c h md mt last x = 0 := by unfold chT; rw [h0]; split <;> rfl
            have f := fin M2 (some (.int (nI (last + 1)))) 0 hS hr2 hN2 h192 (by rw [hz]; rfl)
            rw [show lN (sm (chT s c h md mt last) x) + 0 = lN (sm (chT s c h md mt last) x) from lN_add _ 0] at f
            exact f
          · have hgt2 : ¬ lN (wtU c x (last + 1)) ≤ 0 := fun q => h0 (by have := (pk_lLE (b := 0) (by omega) (by omega)).mp q; omega)
            have hbs : ∀ dd, dd < last + 1 → bsR (g_V s) N dd = bsM s h md mt dd := fun dd hdd => by
              unfold bsR bsM
              rw [hdl dd (by omega)]
              rfl
            have hvl : vp_in (nI last) 30 := vp_in_nI (by omega) (by omega)
            have el : (nI last).toNatClampNeg = last := nI_cl (by omega)
            have hS2x : ScrR M (j_set M2 79 18 (nI x)) := hS.tr (ScrR.s79 (by unfold P79; omega))
            have hr2x : RdR s (j_set M2 79 18 (nI x)) := hr2.of (by simp [j_set_s, upd]) (j_set_n _ _ _ (by omega))
            have hN2x : NMo N (j_set M2 79 18 (nI x)) := hN2.of (by simp [j_set_s, upd]) (j_set_n _ _ _ (by omega)) (j_set_n _ _ _ (by omega)) (j_set_n _ _ _ (by omega))
            have h192x : j_set M2 79 18 (nI x) 79 19 = -1 := by rw [j_set_s]; unfold upd; rw [if_neg (by omega)]; exact h192
            have hE := er_N hw (hS2x.rep hR) hr2x hN2x (sl := x) (by simp [j_set_s, upd]) (by omega) h192x
            have hfl := fdN_lt hw hE (k := last + 1) (by omega)
            rw [run_congr hbs (last + 1) (Nat.le_refl _)] at hfl
            refine jx_iload9 (pc := 20) d_R_chanceBy_20 ?_
            refine jx_iload3 (pc := 22) d_R_chanceBy_22 ?_
            refine jx_icmp_gt (pc := 23) 57 d_R_chanceBy_23 (by decide) (fun c23 => ?_) (fun c23 => absurd c23 (fun q => q hgt))
            refine jx_lload7 (pc := 57) d_R_chanceBy_57 ?_
            refine jx_lconst (pc := 59) (v := 0) d_R_chanceBy_59 (by decide) ?_
            refine jx_lcmp (pc := 60) d_R_chanceBy_60 ?_
            refine jx_if_le (pc := 61) 97 d_R_chanceBy_61 (by decide) (fun c61 => absurd c61 (fun q => hgt2 ((lg_cmp_le _ _).mp q))) (fun c61 => ?_)
            refine jx_aload0 (pc := 64) d_R_chanceBy_64 ?_
            refine jx_iload6 (pc := 65) d_R_chanceBy_65 ?_
            refine jx_putI (pc := 67) pf_R_149 d_R_chanceBy_67 ad_79 sh_79 rfl ?_
            refine jx_aload0 (pc := 70) d_R_chanceBy_70 ?_
            refine jx_iconst (pc := 71) (v := 0) d_R_chanceBy_71 (by decide) ?_
            refine jx_iload3 (pc := 72) d_R_chanceBy_72 ?_
            refine jx_callV2 (pc := 73) (d' := d + 2) vo_R_runs lk_R_175 d_R_chanceBy_73 ad_79 sh_79 rfl (by omega) (Nat.le_of_ble_eq_true rfl) ?_
            refine c_R_runs (dog := 0) (by omega) (show last < 30 by omega) hE (Or.inr rfl) (fun M4 h91 h89 hO4 => ?_)
            have hf := h91 last (Nat.le_refl _)
            rw [run_congr hbs (last + 1) (Nat.le_refl _)] at hf
            have hS4 := hS2x.tr (ScrR.offR hO4)
            have hr4 : RdR s M4 := hr2x.of (hO4.2 2 (by omega) (by omega)) (hO4.1 81 (by omega) (by omega) (by omega) (by omega))
            have hN4 : NMo N M4 := hN2x.of (hO4.2 14 (by omega) (by omega)) (hO4.1 86 (by omega) (by omega) (by omega) (by omega)) (hO4.1 87 (by omega) (by omega) (by omega) (by omega)) (hO4.1 88 (by omega) (by omega) (by omega) (by omega))
            have h194 : M4 79 19 = -1 := by rw [hO4.2 19 (by omega) (by omega)]; exact h192x
            refine jx_r0 ?_
            refine jx_lload4 (pc := 76) d_R_chanceBy_76 ?_
            refine jx_aload0 (pc := 78) d_R_chanceBy_78 ?_
            refine jx_getR (pc := 79) gf_R_43 d_R_chanceBy_79 ad_79 sh_79 rfl ?_
            refine jx_iload3 (pc := 82) d_R_chanceBy_82 ?_
            refine jx_iald (pc := 83) d_R_chanceBy_83 ad_91 sh_91 hvl ?_
            refine jx_iload2 (pc := 84) d_R_chanceBy_84 ?_
            refine jx_icmp_ne (pc := 85) 93 d_R_chanceBy_85 (by decide) (fun c85 => ?_) (fun c85 => ?_)
            refine jx_lconst (pc := 93) (v := 0) d_R_chanceBy_93 (by decide) ?_
            refine jx_ladd (pc := 94) d_R_chanceBy_94 ?_
            refine jx_lstore4 (pc := 95) d_R_chanceBy_95 rfl (Nat.le_of_ble_eq_true rfl) ?_
            refine jx_iinc6 (pc := 97) d_R_chanceBy_97 rfl (Nat.le_of_ble_eq_true rfl) ?_
            refine jx_goto (pc := 100) 6 d_R_chanceBy_100 (by decide) ?_
            rotate_left
            refine jx_lload7 (pc := 88) d_R_chanceBy_88 ?_
            refine jx_goto (pc := 90) 94 d_R_chanceBy_90 (by decide) ?_
            refine jx_ladd (pc := 94) d_R_chanceBy_94 ?_
            refine jx_lstore4 (pc := 95) d_R_chanceBy_95 rfl (Nat.le_of_ble_eq_true rfl) ?_
            refine jx_iinc6 (pc := 97) d_R_chanceBy_97 rfl (Nat.le_of_ble_eq_true rfl) ?_
            refine jx_goto (pc := 100) 6 d_R_chanceBy_100 (by decide) ?_
            rotate_left
            · rw [el, hf, em_eq (by omega) (by omega)] at c85
              exact fin M4 _ 0 hS4 hr4 hN4 h194 (by unfold chT; rw [if_neg c85]; rfl)
            · rw [el, hf, em_eq (by omega) (by omega)] at c85
              exact fin M4 _ _ hS4 hr4 hN4 h194 (by unfold chT; rw [if_pos c85])
        | succ q ihq =>
          intro i hi
          have hngt : ¬ nI last < nI i := nI_nlt (by omega) (by omega)
          have nx := ihq (i + 1) (by omega)
          rw [wtU] at nx
          by_cases hb : x.testBit i = true
          · rw [if_pos hb] at nx
            refine jx_iload9 (pc := 20) d_R_chanceBy_20 ?_
            refine jx_iload3 (pc := 22) d_R_chanceBy_22 ?_
            refine jx_icmp_gt (pc := 23) 57 d_R_chanceBy_23 (by decide) (fun c23 => absurd c23 hngt) (fun c23 => ?_)
            refine jx_lload7 (pc := 26) d_R_chanceBy_26 ?_
            refine jx_iload6 (pc := 28) d_R_chanceBy_28 ?_
            refine jx_iload9 (pc := 30) d_R_chanceBy_30 ?_
            refine jx_callS2 (pc := 32) (d' := 0) so_R_isIn lk_R_155 d_R_chanceBy_32 (by omega) (Nat.le_of_ble_eq_true rfl) ?_
            refine c_R_bit (by omega) (by omega) ?_
            refine jx_r1 ?_
            refine jx_if_eq (pc := 35) 43 d_R_chanceBy_35 (by decide) (fun c35 => absurd c35 (by rw [if_pos hb]; decide)) (fun c35 => ?_)
            refine jx_iload1 (pc := 38) d_R_chanceBy_38 ?_
            refine jx_i2l (pc := 39) d_R_chanceBy_39 ?_
            refine jx_goto (pc := 40) 48 d_R_chanceBy_40 (by decide) ?_
            refine jx_lmul (pc := 48) d_R_chanceBy_48 ?_
            refine jx_lstore7 (pc := 49) d_R_chanceBy_49 rfl (Nat.le_of_ble_eq_true rfl) ?_
            refine jx_iinc9 (pc := 51) d_R_chanceBy_51 rfl (Nat.le_of_ble_eq_true rfl) ?_
            refine jx_goto (pc := 54) 20 d_R_chanceBy_54 (by decide) ?_
            rotate_left
            rw [nI_add1, nI_l (show c < 2 ^ 31 by omega), lN_mul]
            exact nx
          · rw [if_neg hb] at nx
            refine jx_iload9 (pc := 20) d_R_chanceBy_20 ?_
            refine jx_iload3 (pc := 22) d_R_chanceBy_22 ?_
            refine jx_icmp_gt (pc := 23) 57 d_R_chanceBy_23 (by decide) (fun c23 => absurd c23 hngt) (fun c23 => ?_)
            refine jx_lload7 (pc := 26) d_R_chanceBy_26 ?_
            refine jx_iload6 (pc := 28) d_R_chanceBy_28 ?_
            refine jx_iload9 (pc := 30) d_R_chanceBy_30 ?_
            refine jx_callS2 (pc := 32) (d' := 0) so_R_isIn lk_R_155 d_R_chanceBy_32 (by omega) (Nat.le_of_ble_eq_true rfl) ?_
            refine c_R_bit (by omega) (by omega) ?_
            refine jx_r1 ?_
            refine jx_if_eq (pc := 35) 43 d_R_chanceBy_35 (by decide) (fun c35 => ?_) (fun c35 => absurd c35 (fun q => q (by rw [if_neg hb])))
            refine jx_bipush (pc := 43) (v := 16) d_R_chanceBy_43 (by decide) ?_
            refine jx_iload1 (pc := 45) d_R_chanceBy_45 ?_
            refine jx_isub (pc := 46) d_R_chanceBy_46 ?_
            refine jx_i2l (pc := 47) d_R_chanceBy_47 ?_
            refine jx_lmul (pc := 48) d_R_chanceBy_48 ?_
            refine jx_lstore7 (pc := 49) d_R_chanceBy_49 rfl (Nat.le_of_ble_eq_true rfl) ?_
            refine jx_iinc9 (pc := 51) d_R_chanceBy_51 rfl (Nat.le_of_ble_eq_true rfl) ?_
            refine jx_goto (pc := 54) 20 d_R_chanceBy_54 (by decide) ?_
            rotate_left
            rw [nI_add1, show (16 : Int32) - nI c = nI (16 - c) from nI_sub (a := 16) hc, nI_l (show 16 - c < 2 ^ 31 by omega), lN_mul]
            exact nx
      refine jx_iload6 (pc := 6) d_R_chanceBy_6 ?_
      refine jx_iconst (pc := 8) (v := 2) d_R_chanceBy_8 (by decide) ?_
      refine jx_iload3 (pc := 9) d_R_chanceBy_9 ?_
      refine jx_ishl (pc := 10) d_R_chanceBy_10 ?_
      refine jx_icmp_ge (pc := 11) 103 d_R_chanceBy_11 (by decide) (fun c11 => absurd c11 (by rw [e2n]; exact nI_ge (by omega) (by omega))) (fun c11 => ?_)
      refine jx_lconst (pc := 14) (v := 1) d_R_chanceBy_14 (by decide) ?_
      refine jx_lstore7 (pc := 15) d_R_chanceBy_15 rfl (Nat.le_of_ble_eq_true rfl) ?_
      refine jx_iconst (pc := 17) (v := 0) d_R_chanceBy_17 (by decide) ?_
      refine jx_istore9 (pc := 18) d_R_chanceBy_18 rfl (Nat.le_of_ble_eq_true rfl) ?_
      rotate_left
      exact inner (last + 1) 0 (by omega)
  refine jx_lconst (pc := 0) (v := 0) d_R_chanceBy_0 (by decide) ?_
  refine jx_lstore4 (pc := 1) d_R_chanceBy_1 rfl (Nat.le_of_ble_eq_true rfl) ?_
  refine jx_iconst (pc := 3) (v := 0) d_R_chanceBy_3 (by decide) ?_
  refine jx_istore6 (pc := 4) d_R_chanceBy_4 rfl (Nat.le_of_ble_eq_true rfl) ?_
  rotate_left
  exact outer T 0 M none none none (by omega) ScrR.rf hr hN h19
