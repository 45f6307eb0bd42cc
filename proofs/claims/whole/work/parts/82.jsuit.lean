/-! OPERATIONS of the component, eighteen: suit -/
def SU (h last : Nat) (M : j_M) : Prop := M 19 2 = nI h ∧ M 19 3 = nI last
theorem c_Su_isFoundAfter {d a day h last : Nat} {row : List Nat} {s : Sg} {M : j_M} {Q : Option Value → j_M → Prop} (hws : WF s) (hm : j_mo a) (hR : RepC s M) (hU : SU h last M) (hh : h < g_hn s) (hl : last < 10) (hd : day ≤ last) (hrl : row.length ≤ 3) (hrc : ∀ x, x ∈ row → x / 3 ≤ day) (hM : MoodAt M a (g_ta s 0) 9 (hlf s h row day))
    (k : ∀ M', Off1 a M M' → Q (some (.int (if suW s h last row then 1 else 0))) M') : j_Ct (d + 3) I_Su_isFoundAfter [.ref 19, .ref a, .int (nI day)] M Q := by
  refine j_met (by decide +kernel) co_Su_isFoundAfter (Nat.le_of_ble_eq_true rfl) (fun X hX => ?_)
  show j_W (d + 3) I_Su_isFoundAfter X 0 [some (.ref 19), some (.ref a), some (.int (nI day)), none] [] M
  have hn6 : g_hn s ≤ 6 := hnB_le hws.1
  have hts := hws.2.2.1 0
  have hag := mo_ge hm
  have loop : ∀ (q i : Nat) (M1 : j_M), i + q = last + 1 → day < i → Off1 a M M1 → MoodAt M1 a (g_ta s 0) 9 (ruS s h row i) → j_W (d + 3) I_Su_isFoundAfter X 12 [some (.ref 19), some (.ref a), some (.int (nI day)), some (.int (nI i))] [] M1 := by
    intro q
    induction q with
    | zero =>
      intro i M1 hi hdi hO hM1
      have hi' : i = last + 1 := by omega
      subst hi'
      have h19 : M1 19 = M 19 := hO 19 (by omega) (by omega) (by omega) (by omega)
      have hgt : M1 19 3 < nI (last + 1) := by rw [h19, hU.2]; exact nI_lt (by omega) (by omega)
      have hfl : (ruS s h row (last + 1)).2.2.2.2 < g_hn s ∨ (ruS s h row (last + 1)).2.2.2.2 = 9 := (ruSW hws h hrl (k := last + 1) (by omega)).2.2.2.2.1
      have hfe : M1 a 6 = M1 19 2 ↔ (ruS s h row (last + 1)).2.2.2.2 = h := by rw [hM1.2.2.2.2.2.2, h19, hU.1]; exact em_eq (by omega) (by omega)
      have kk := k M1 hO
      by_cases hq : (ruS s h row (last + 1)).2.2.2.2 = h
      · have hv : suW s h last row = true := by unfold suW; simp [hq]
        rw [hv] at kk
        refine jx_iload3 (pc := 12) d_Su_isFoundAfter_12 ?_
        refine jx_aload0 (pc := 13) d_Su_isFoundAfter_13 ?_
        refine jx_getI (pc := 14) gf_Su_23 d_Su_isFoundAfter_14 ad_19 sh_19 rfl ?_
        refine jx_icmp_gt (pc := 17) 35 d_Su_isFoundAfter_17 (by decide) (fun c17 => ?_) (fun c17 => absurd c17 (fun z => z hgt))
        refine jx_aload1 (pc := 35) d_Su_isFoundAfter_35 ?_
        refine jx_getI (pc := 36) gf_Su_68 d_Su_isFoundAfter_36 (mo_a hm) (mo_s hm) rfl ?_
        refine jx_aload0 (pc := 39) d_Su_isFoundAfter_39 ?_
        refine jx_getI (pc := 40) gf_Su_19 d_Su_isFoundAfter_40 ad_19 sh_19 rfl ?_
        refine jx_icmp_ne (pc := 43) 50 d_Su_isFoundAfter_43 (by decide) (fun c43 => absurd c43 (fun z => z (hfe.mpr hq))) (fun c43 => ?_)
        refine jx_iconst (pc := 46) (v := 1) d_Su_isFoundAfter_46 (by decide) ?_
        refine jx_goto (pc := 47) 51 d_Su_isFoundAfter_47 (by decide) ?_
        refine jx_zret (pc := 51) hX rfl (by first | exact Or.inl rfl | exact Or.inr rfl) d_Su_isFoundAfter_51 ?_
        rotate_left
        exact kk
      · have hv : suW s h last row = false := by unfold suW; simp [hq]
        rw [hv] at kk
        refine jx_iload3 (pc := 12) d_Su_isFoundAfter_12 ?_
        refine jx_aload0 (pc := 13) d_Su_isFoundAfter_13 ?_
        refine jx_getI (pc := 14) gf_Su_23 d_Su_isFoundAfter_14 ad_19 sh_19 rfl ?_
        refine jx_icmp_gt (pc := 17) 35 d_Su_isFoundAfter_17 (by decide) (fun c17 => ?_) (fun c17 => absurd c17 (fun z => z hgt))
        refine jx_aload1 (pc := 35) d_Su_isFoundAfter_35 ?_
        refine jx_getI (pc := 36) gf_Su_68 d_Su_isFoundAfter_36 (mo_a hm) (mo_s hm) rfl ?_
        refine jx_aload0 (pc := 39) d_Su_isFoundAfter_39 ?_
        refine jx_getI (pc := 40) gf_Su_19 d_Su_isFoundAfter_40 ad_19 sh_19 rfl ?_
        refine jx_icmp_ne (pc := 43) 50 d_Su_isFoundAfter_43 (by decide) (fun c43 => ?_) (fun c43 => absurd c43 (fun z => hq (hfe.mp z)))
        refine jx_iconst (pc := 50) (v := 0) d_Su_isFoundAfter_50 (by decide) ?_
        refine jx_zret (pc := 51) hX rfl (by first | exact Or.inl rfl | exact Or.inr rfl) d_Su_isFoundAfter_51 ?_
        rotate_left
        exact kk
    | succ q ih =>
      intro i M1 hi hdi hO hM1
      have h19 : M1 19 = M 19 := hO 19 (by omega) (by omega) (by omega) (by omega)
      have hngt : ¬ M1 19 3 < nI i := by rw [h19, hU.2]; exact nI_nlt (by omega) (by omega)
      have hC1 := ((Scr.off hm hO).rep hR).ce hws
      have hw1 := ruSW hws h hrl (k := i) (by omega)
      refine jx_iload3 (pc := 12) d_Su_isFoundAfter_12 ?_
      refine jx_aload0 (pc := 13) d_Su_isFoundAfter_13 ?_
      refine jx_getI (pc := 14) gf_Su_23 d_Su_isFoundAfter_14 ad_19 sh_19 rfl ?_
      refine jx_icmp_gt (pc := 17) 35 d_Su_isFoundAfter_17 (by decide) (fun c17 => absurd c17 hngt) (fun c17 => ?_)
      refine jx_aload0 (pc := 20) d_Su_isFoundAfter_20 ?_
      refine jx_getR (pc := 21) gf_Su_15 d_Su_isFoundAfter_21 ad_19 sh_19 rfl ?_
      refine jx_aload1 (pc := 24) d_Su_isFoundAfter_24 ?_
      refine jx_iload3 (pc := 25) d_Su_isFoundAfter_25 ?_
      refine jx_callV2 (pc := 26) (d' := d + 2) vo_Co_liveDay lk_Su_65 d_Su_isFoundAfter_26 ad_15 sh_15 rfl (by omega) (Nat.le_of_ble_eq_true rfl) ?_
      refine c_Co_liveDay (d := d) hm hC1 hts hM1 hw1 (by omega) (by omega) (Or.inr rfl) (fun M2 hM2 hO2 => ?_)
      rw [ruS_next (fun x hx => by have := hrc x hx; omega)] at hM2
      refine jx_r0 ?_
      refine jx_iinc3 (pc := 29) d_Su_isFoundAfter_29 rfl (Nat.le_of_ble_eq_true rfl) ?_
      refine jx_goto (pc := 32) 12 d_Su_isFoundAfter_32 (by decide) ?_
      rotate_left
      rw [nI_add1]
      exact ih (i + 1) M2 (by omega) (by omega) (hO.tr hO2) hM2
  have hE := (hR.ce hws).1
  have hw0 := hlfW hws h hrl (day := day) (by omega)
  refine jx_aload0 (pc := 0) d_Su_isFoundAfter_0 ?_
  refine jx_getR (pc := 1) gf_Su_15 d_Su_isFoundAfter_1 ad_19 sh_19 rfl ?_
  refine jx_aload1 (pc := 4) d_Su_isFoundAfter_4 ?_
  refine jx_callV1 (pc := 5) (d' := d + 2) vo_Co_evening lk_Su_50 d_Su_isFoundAfter_5 ad_15 sh_15 rfl (by omega) (Nat.le_of_ble_eq_true rfl) ?_
  refine c_Co_evening (d := d + 1) hm hE hM hw0 (by omega) (Or.inr rfl) (fun M2 hM2 hO2 => ?_)
  rw [hlf_eve] at hM2
  refine jx_r0 ?_
  refine jx_iload2 (pc := 8) d_Su_isFoundAfter_8 ?_
  refine jx_iconst (pc := 9) (v := 1) d_Su_isFoundAfter_9 (by decide) ?_
  refine jx_iadd (pc := 10) d_Su_isFoundAfter_10 ?_
  refine jx_istore3 (pc := 11) d_Su_isFoundAfter_11 rfl (Nat.le_of_ble_eq_true rfl) ?_
  rotate_left
  rw [show nI day + 1 = nI (day + 1) from nI_1 day]
  exact loop (last - day) (day + 1) M2 (by omega) (by omega) hO2 hM2
/-- what seek keeps, at a depth -/
def KS (n : Nat) (M M' : j_M) : Prop := (∀ b, (b < 35 + 4 * n ∨ 79 ≤ b) → b ≠ 20 → M' b = M b) ∧ ∀ i, i < n → M' 20 i = M 20 i
theorem KS.rf {n : Nat} {M : j_M} : KS n M M := ⟨fun _ _ _ => rfl, fun _ _ => rfl⟩
theorem KS.tr {n : Nat} {M M1 M2 : j_M} (h : KS n M M1) (h2 : KS n M1 M2) : KS n M M2 := ⟨fun b hb hc => (h2.1 b hb hc).trans (h.1 b hb hc), fun i hi => (h2.2 i hi).trans (h.2 i hi)⟩
theorem KS.up {n : Nat} {M M1 : j_M} (h : KS (n + 1) M M1) : KS n M M1 := ⟨fun b hb hc => h.1 b (by omega) hc, fun i hi => h.2 i (by omega)⟩
theorem KS.scr {n : Nat} {M M' : j_M} (h : KS n M M') : Scr M M' := fun b hb => h.1 b (by unfold PC at hb; omega) (by unfold PC at hb; omega)
theorem KS.off {n a : Nat} {M M' : j_M} (h : Off1 a M M') (ha : 35 + 4 * n ≤ a) (ha2 : a + 3 < 79) : KS n M M' := ⟨fun b hb hc => h b (by omega) (by omega) (by omega) (by omega), fun i hi => by rw [h 20 (by omega) (by omega) (by omega) (by omega)]⟩
theorem KS.row {n : Nat} {M : j_M} {x : Int32} : KS n M (j_set M 20 n x) := ⟨fun b hb hc => j_set_n _ _ _ hc, fun i hi => by rw [j_set_s]; unfold upd; rw [if_neg (by omega)]⟩
theorem KS.su {n h last : Nat} {M M' : j_M} (hK : KS n M M') (hU : SU h last M) : SU h last M' := by
  unfold SU at *; rw [hK.1 19 (by omega) (by omega)]; exact hU
def SKC (s : Sg) (h last l d' : Nat) : Prop := ∀ (pre : List Nat) (code : Nat) (M : j_M) (Q : Option Value → j_M → Prop), pre.length + l ≤ 3 → code < 3 * last + 3 → (∀ x, x ∈ pre → x ≤ code) → RepC s M → SU h last M → MoodAt M (35 + 4 * pre.length) (g_ta s 0) 9 (hlf s h pre (code / 3)) → (∀ i, i < pre.length → M 20 i = nI (pre.getD i 0)) →
  (skC (suW s h last) (aslp s) (3 * last + 3) l pre code = none → ∀ M', KS pre.length M M' → Q (some (.int 0)) M') →
  (∀ r, skC (suW s h last) (aslp s) (3 * last + 3) l pre code = some r → ∀ M', KS pre.length M M' → (∀ i, i < r.length → M' 20 i = nI (r.getD i 0)) → Q (some (.int 1)) M') → j_Ct d' I_Su_seek [.ref 19, .int (nI pre.length), .int (nI code), .int (nI l)] M Q
theorem c_Su_seek {s : Sg} (hws : WF s) {h last : Nat} (hl : last < 10) (hh : h < g_hn s) {d : Nat} : ∀ l, SKC s h last l (d + 4 + l) := by
  have hn6 : g_hn s ≤ 6 := hnB_le hws.1
  have hts := hws.2.2.1 0
  intro l
  induction l with
  | zero =>
    intro pre code M Q hpl hcode hpc hR hU hM hrow k0 k1
    refine j_met (by decide +kernel) co_Su_seek (Nat.le_of_ble_eq_true rfl) (fun X hX => ?_)
    show j_W (d + 4 + 0) I_Su_seek X 0 [some (.ref 19), some (.int (nI pre.length)), some (.int (nI code)), some (.int 0), none, none, none, none] [] M
    have hm0 : j_mo (35 + 4 * pre.length) := ⟨pre.length, by omega, rfl⟩
    have hple : nI pre.length + nI 0 ≤ nI 3 := by rw [nI_add]; exact nI_le (by omega) (by omega)
    have e3 : nI code / 3 = nI (code / 3) := pk_div (d := 3) (by omega) (by omega) (by omega)
    have hsk : skC (suW s h last) (aslp s) (3 * last + 3) 0 pre code = if suW s h last pre then some pre else none := rfl
    refine jx_iload1 (pc := 0) d_Su_seek_0 ?_
    refine jx_iload3 (pc := 1) d_Su_seek_1 ?_
    refine jx_iadd (pc := 2) d_Su_seek_2 ?_
    refine jx_iconst (pc := 3) (v := 3) d_Su_seek_3 (by decide) ?_
    refine jx_icmp_le (pc := 4) 9 d_Su_seek_4 (by decide) (fun c4 => ?_) (fun c4 => absurd c4 (fun z => z hple))
    refine jx_aload0 (pc := 9) d_Su_seek_9 ?_
    refine jx_getR (pc := 10) gf_Su_15 d_Su_seek_10 ad_19 sh_19 rfl ?_
    refine jx_astore4 (pc := 13) d_Su_seek_13 rfl (Nat.le_of_ble_eq_true rfl) ?_
    refine jx_aload4 (pc := 15) d_Su_seek_15 ?_
    refine jx_getR (pc := 17) gf_Su_26 d_Su_seek_17 ad_15 sh_15 rfl ?_
    refine jx_iload1 (pc := 20) d_Su_seek_20 ?_
    refine jx_aald (pc := 21) d_Su_seek_21 ad_16 (Or.inl rfl) sh_16 (vp_in_nI (show pre.length < 11 by omega) (by omega)) (mo_r (by omega)) ?_
    refine jx_astore5 (pc := 22) d_Su_seek_22 rfl (Nat.le_of_ble_eq_true rfl) ?_
    refine jx_iload3 (pc := 24) d_Su_seek_24 ?_
    refine jx_if_ne (pc := 25) 38 d_Su_seek_25 (by decide) (fun c25 => absurd c25 (fun z => z rfl)) (fun c25 => ?_)
    refine jx_aload0 (pc := 28) d_Su_seek_28 ?_
    refine jx_aload5 (pc := 29) d_Su_seek_29 ?_
    refine jx_iload2 (pc := 31) d_Su_seek_31 ?_
    refine jx_iconst (pc := 32) (v := 3) d_Su_seek_32 (by decide) ?_
    refine jx_idiv (pc := 33) d_Su_seek_33 (by decide) ?_
    refine jx_callV2 (pc := 34) (d' := d + 3) vo_Su_isFoundAfter lk_Su_46 d_Su_seek_34 ad_19 sh_19 rfl (by omega) (Nat.le_of_ble_eq_true rfl) ?_
    rw [e3]
    refine c_Su_isFoundAfter (d := d) (row := pre) hws hm0 hR hU hh hl (by omega) (by omega) (fun x hx => by have := hpc x hx; omega) hM (fun M2 hO2 => ?_)
    have hK2 : KS pre.length M M2 := KS.off hO2 (Nat.le_refl _) (by omega)
    refine jx_r1 ?_
    refine jx_zret (pc := 37) hX rfl (if_01 _) d_Su_seek_37 ?_
    rotate_left
    by_cases hW : suW s h last pre = true
    · rw [hW]
      rw [if_pos hW] at hsk
      exact k1 pre hsk M2 hK2 (fun i hi => by rw [hK2.2 i hi]; exact hrow i hi)
    · rw [if_neg hW] at hsk
      rw [if_neg hW]
      exact k0 hsk M2 hK2
  | succ l ihl =>
    intro pre code M Q hpl hcode hpc hR hU hM hrow k0 k1
    refine j_met (by decide +kernel) co_Su_seek (Nat.le_of_ble_eq_true rfl) (fun X hX => ?_)
    show j_W (d + 4 + (l + 1)) I_Su_seek X 0 [some (.ref 19), some (.int (nI pre.length)), some (.int (nI code)), some (.int (nI (l + 1))), none, none, none, none] [] M
    have hm0 : j_mo (35 + 4 * pre.length) := ⟨pre.length, by omega, rfl⟩
    have hm1 : j_mo (35 + 4 * (pre.length + 1)) := ⟨pre.length + 1, by omega, rfl⟩
    have hlz : ¬ nI (l + 1) = 0 := fun z => absurd ((nI_eq (b := 0) (by omega) (by omega)).mp z) (by omega)
    have hple : nI pre.length + nI (l + 1) ≤ nI 3 := by rw [nI_add]; exact nI_le (by omega) (by omega)
    have hsk : skC (suW s h last) (aslp s) (3 * last + 3) (l + 1) pre code = fstS (fun nx => if aslp s nx then none else skC (suW s h last) (aslp s) (3 * last + 3) l (pre ++ [nx]) nx) (3 * last + 3 - code) code := rfl
    rw [hsk] at k0 k1
    have hp1 : nI pre.length + 1 = nI (pre.length + 1) := nI_1 _
    have hi1 : vp_in (nI pre.length + 1) 11 := by rw [hp1]; exact vp_in_nI (by omega) (by omega)
    have hi0 : vp_in (nI pre.length) 11 := vp_in_nI (by omega) (by omega)
    have hi3 : vp_in (nI pre.length) 3 := vp_in_nI (by omega) (by omega)
    have hr1 : ([some 35, some 39, some 43, some 47, some 51, some 55, some 59, some 63, some 67, some 71, some 75] : List (Option Nat)).getD (nI pre.length + 1).toNatClampNeg none = some (35 + 4 * (pre.length + 1)) := by rw [hp1]; exact mo_r (by omega)
    have epl : (nI pre.length).toNatClampNeg = pre.length := nI_cl (by omega)
    have loop : ∀ (n nx : Nat) (M1 : j_M) (e6 : Option Value), nx + n = 3 * last + 3 → code ≤ nx → KS pre.length M M1 → MoodAt M1 (35 + 4 * pre.length) (g_ta s 0) 9 (hlf s h pre (if nx = code then code / 3 else (nx - 1) / 3)) →
        (fstS (fun nx => if aslp s nx then none else skC (suW s h last) (aslp s) (3 * last + 3) l (pre ++ [nx]) nx) n nx = none → ∀ M', KS pre.length M M' → Q (some (.int 0)) M') →
        (∀ r, fstS (fun nx => if aslp s nx then none else skC (suW s h last) (aslp s) (3 * last + 3) l (pre ++ [nx]) nx) n nx = some r → ∀ M', KS pre.length M M' → (∀ i, i < r.length → M' 20 i = nI (r.getD i 0)) → Q (some (.int 1)) M') →
        j_W (d + 4 + (l + 1)) I_Su_seek X 41 [some (.ref 19), some (.int (nI pre.length)), some (.int (nI code)), some (.int (nI (l + 1))), some (.ref 15), some (.ref (35 + 4 * pre.length)), some (.int (nI nx)), e6] [] M1 := by
      intro n
      induction n with
      | zero =>
        intro nx M1 e6 hn hcn hK hM1 q0 q1
        have hU1 := hK.su hU
        have hge : (M1 19 3 + 1) * 3 ≤ nI nx := by
          rw [hU1.2, nI_1, show nI (last + 1) * 3 = nI ((last + 1) * 3) from nI_mul _ 3]; exact nI_le (by omega) (by omega)
        refine jx_iload6 (pc := 41) d_Su_seek_41 ?_
        refine jx_aload0 (pc := 43) d_Su_seek_43 ?_
        refine jx_getI (pc := 44) gf_Su_23 d_Su_seek_44 ad_19 sh_19 rfl ?_
        refine jx_iconst (pc := 47) (v := 1) d_Su_seek_47 (by decide) ?_
        refine jx_iadd (pc := 48) d_Su_seek_48 ?_
        refine jx_iconst (pc := 49) (v := 3) d_Su_seek_49 (by decide) ?_
        refine jx_imul (pc := 50) d_Su_seek_50 ?_
        refine jx_icmp_ge (pc := 51) 181 d_Su_seek_51 (by decide) (fun c51 => ?_) (fun c51 => absurd c51 (fun z => z hge))
        refine jx_iconst (pc := 181) (v := 0) d_Su_seek_181 (by decide) ?_
        refine jx_zret (pc := 182) hX rfl (by first | exact Or.inl rfl | exact Or.inr rfl) d_Su_seek_182 ?_
        rotate_left
        exact q0 rfl M1 hK
      | succ n ih =>
        intro nx M1 e6 hn hcn hK hM1 q0 q1
        have hlt : ∀ {M9 : j_M}, KS pre.length M M9 → ¬ (M9 19 3 + 1) * 3 ≤ nI nx := fun hK9 => by
          rw [(hK9.su hU).2, nI_1, show nI (last + 1) * 3 = nI ((last + 1) * 3) from nI_mul _ 3]; exact nI_ge (by omega) (by omega)
        have e3 : nI nx / 3 = nI (nx / 3) := pk_div (d := 3) (by omega) (by omega) (by omega)
        have er : nI nx - nI nx / 3 * 3 = nI (nx % 3) := pk_rem (d := 3) (by omega) (by omega) (by omega)
        rw [fstS] at q0 q1
        -- behind the day's visits as told
        have S99 : ∀ (M2 : j_M), KS pre.length M M2 → MoodAt M2 (35 + 4 * pre.length) (g_ta s 0) 9 (hlf s h pre (nx / 3)) → j_W (d + 4 + (l + 1)) I_Su_seek X 99 [some (.ref 19), some (.int (nI pre.length)), some (.int (nI code)), some (.int (nI (l + 1))), some (.ref 15), some (.ref (35 + 4 * pre.length)), some (.int (nI nx)), some (.int (nI (nx / 3)))] [] M2 := by
          intro M2 hK2 hM2
          have hC2 := (hK2.scr.rep hR).ce hws
          have hnx1 : (if nx + 1 = code then code / 3 else (nx + 1 - 1) / 3) = nx / 3 := by rw [if_neg (by omega), Nat.add_sub_cancel]
          by_cases hs : aslp s nx = true
          · rw [if_pos hs] at q0 q1
            have hs' : (g_wy s 3).testBit (nx / 3) = true := hs
            refine jx_aload4 (pc := 99) d_Su_seek_99 ?_
            refine jx_iload7 (pc := 101) d_Su_seek_101 ?_
            refine jx_callV1 (pc := 103) (d' := d) vo_Co_isAwake lk_Su_38 d_Su_seek_103 ad_15 sh_15 rfl (by omega) (Nat.le_of_ble_eq_true rfl) ?_
            refine c_Co_awake hC2.2.2.1 hC2.2.2.2 (by omega) ?_
            refine jx_r1 ?_
            refine jx_if_ne (pc := 106) 112 d_Su_seek_106 (by decide) (fun c106 => absurd c106 (fun z => z (by rw [if_pos hs']))) (fun c106 => ?_)
            refine jx_goto (pc := 109) 175 d_Su_seek_109 (by decide) ?_
            refine jx_iinc6 (pc := 175) d_Su_seek_175 rfl (Nat.le_of_ble_eq_true rfl) ?_
            refine jx_goto (pc := 178) 41 d_Su_seek_178 (by decide) ?_
            rotate_left
            rw [nI_add1]
            exact ih (nx + 1) M2 _ (by omega) (by omega) hK2 (by rw [hnx1]; exact hM2) q0 q1
          · rw [if_neg hs] at q0 q1
            have hs' : (g_wy s 3).testBit (nx / 3) = false := by unfold aslp at hs; simpa using hs
            have hwH := hlfW hws h (row := pre) (by omega) (day := nx / 3) (by omega)
            have hpn : ∀ x, x ∈ pre → x / 3 ≤ nx / 3 := fun x hx => by have := hpc x hx; omega
            have hadd := hlf_add (s := s) (h := h) (nx := nx) (row := pre) hpn hs'
            have hlen1 : (pre ++ [nx]).length = pre.length + 1 := by rw [List.length_append, List.length_singleton]
            have hsub : nI (l + 1) - 1 = nI l := nI_sub (b := 1) (by omega)
            cases hf : skC (suW s h last) (aslp s) (3 * last + 3) l (pre ++ [nx]) nx with
            | none =>
              rw [hf] at q0 q1
              refine jx_aload4 (pc := 99) d_Su_seek_99 ?_
              refine jx_iload7 (pc := 101) d_Su_seek_101 ?_
              refine jx_callV1 (pc := 103) (d' := d) vo_Co_isAwake lk_Su_38 d_Su_seek_103 ad_15 sh_15 rfl (by omega) (Nat.le_of_ble_eq_true rfl) ?_
              refine c_Co_awake hC2.2.2.1 hC2.2.2.2 (by omega) ?_
              refine jx_r1 ?_
              refine jx_if_ne (pc := 106) 112 d_Su_seek_106 (by decide) (fun c106 => ?_) (fun c106 => absurd c106 (by rw [hs']; decide))
              refine jx_aload0 (pc := 112) d_Su_seek_112 ?_
              refine jx_getR (pc := 113) gf_Su_9 d_Su_seek_113 ad_19 sh_19 rfl ?_
              refine jx_iload1 (pc := 116) d_Su_seek_116 ?_
              refine jx_iload6 (pc := 117) d_Su_seek_117 ?_
              skip
              refine jx_iast (pc := 119) d_Su_seek_119 ad_20 sh_20 hi3 ?_
              refine jx_aload4 (pc := 120) d_Su_seek_120 ?_
              refine jx_getR (pc := 122) gf_Su_26 d_Su_seek_122 ad_15 sh_15 rfl ?_
              refine jx_iload1 (pc := 125) d_Su_seek_125 ?_
              refine jx_iconst (pc := 126) (v := 1) d_Su_seek_126 (by decide) ?_
              refine jx_iadd (pc := 127) d_Su_seek_127 ?_
              refine jx_aald (pc := 128) d_Su_seek_128 ad_16 (Or.inl rfl) sh_16 hi1 hr1 ?_
              refine jx_aload5 (pc := 129) d_Su_seek_129 ?_
              refine jx_callV1 (pc := 131) (d' := d + 2) vo_Mo_become lk_Su_54 d_Su_seek_131 (mo_a hm1) (mo_s hm1) rfl (by omega) (Nat.le_of_ble_eq_true rfl) ?_
              rw [epl]
              refine c_Mo_become (d := d) hm1 hm0 (by omega) (hM2.cong (j_set_n _ _ _ (by omega)) (j_set_n _ _ _ (by omega)) (j_set_n _ _ _ (by omega)) (j_set_n _ _ _ (by omega))) (fun M3 hM3 hO3 => ?_)
              have hK3 : KS pre.length M M3 := (hK2.tr KS.row).tr (KS.off hO3 (by omega) (by omega))
              have hE3 := ((hK3.scr.rep hR).ce hws).1
              have hU3 := hK3.su hU
              refine jx_r0 ?_
              refine jx_aload4 (pc := 134) d_Su_seek_134 ?_
              refine jx_aload4 (pc := 136) d_Su_seek_136 ?_
              refine jx_getR (pc := 138) gf_Su_26 d_Su_seek_138 ad_15 sh_15 rfl ?_
              refine jx_iload1 (pc := 141) d_Su_seek_141 ?_
              refine jx_iconst (pc := 142) (v := 1) d_Su_seek_142 (by decide) ?_
              refine jx_iadd (pc := 143) d_Su_seek_143 ?_
              refine jx_aald (pc := 144) d_Su_seek_144 ad_16 (Or.inl rfl) sh_16 hi1 hr1 ?_
              refine jx_iload7 (pc := 145) d_Su_seek_145 ?_
              refine jx_aload0 (pc := 147) d_Su_seek_147 ?_
              refine jx_getI (pc := 148) gf_Su_19 d_Su_seek_148 ad_19 sh_19 rfl ?_
              refine jx_iload6 (pc := 151) d_Su_seek_151 ?_
              refine jx_iconst (pc := 153) (v := 3) d_Su_seek_153 (by decide) ?_
              refine jx_irem (pc := 154) d_Su_seek_154 (by decide) ?_
              refine jx_callV4 (pc := 155) (d' := d) vo_Co_bring lk_Su_57 d_Su_seek_155 ad_15 sh_15 rfl (by omega) (Nat.le_of_ble_eq_true rfl) ?_
              rw [er, hU3.1]
              refine c_Co_bring hm1 hE3 hts hM3 hwH (by omega) (show nx / 3 < 30 by omega) (show h < 6 by omega) (Nat.mod_lt _ (by omega)) (fun M4 hM4 hO4 => ?_)
              rw [← hadd] at hM4
              have hK4 : KS pre.length M M4 := hK3.tr (KS.off hO4 (by omega) (by omega))
              have hrow4 : ∀ i, i < pre.length + 1 → M4 20 i = nI ((pre ++ [nx]).getD i 0) := fun i hi => by
                rw [hO4 20 (by omega) (by omega) (by omega) (by omega), hO3 20 (by omega) (by omega) (by omega) (by omega), j_set_s]
                unfold upd
                by_cases hc : i = pre.length
                · rw [if_pos hc, hc]; simp
                · rw [if_neg hc, hK2.2 i (by omega), hrow i (by omega)]
                  congr 1
                  simp [List.getElem?_append, show i < pre.length by omega]
              have hM0 : MoodAt M4 (35 + 4 * pre.length) (g_ta s 0) 9 (hlf s h pre (nx / 3)) := by
                have e : ∀ b, b ≠ 20 → b < 35 + 4 * (pre.length + 1) → M4 b = M2 b := fun b h1 h2 => by rw [hO4 b (by omega) (by omega) (by omega) (by omega), hO3 b (by omega) (by omega) (by omega) (by omega), j_set_n _ _ _ h1]
                exact hM2.cong (e _ (by omega) (by omega)) (e _ (by omega) (by omega)) (e _ (by omega) (by omega)) (e _ (by omega) (by omega))
              refine jx_r0 ?_
              refine jx_aload0 (pc := 158) d_Su_seek_158 ?_
              refine jx_iload1 (pc := 159) d_Su_seek_159 ?_
              refine jx_iconst (pc := 160) (v := 1) d_Su_seek_160 (by decide) ?_
              refine jx_iadd (pc := 161) d_Su_seek_161 ?_
              refine jx_iload6 (pc := 162) d_Su_seek_162 ?_
              refine jx_iload3 (pc := 164) d_Su_seek_164 ?_
              refine jx_iconst (pc := 165) (v := 1) d_Su_seek_165 (by decide) ?_
              refine jx_isub (pc := 166) d_Su_seek_166 ?_
              refine jx_callS4 (pc := 167) (d' := d + 4 + l) so_Su_seek lk_Su_61 d_Su_seek_167 (by omega) (Nat.le_of_ble_eq_true rfl) ?_
              rw [hp1, hsub, ← hlen1]
              refine ihl (pre ++ [nx]) nx M4 _ (by omega) (by omega) (fun x hx => by rcases List.mem_append.mp hx with z | z; have := hpc x z; omega; rw [List.mem_singleton.mp z]; exact Nat.le_refl _) (hK4.scr.rep hR) (hK4.su hU) (by rw [hlen1]; exact hM4) (by rw [hlen1]; exact hrow4) (fun _ M5 hK5 => ?_) (fun r hr => absurd (hf.symm.trans hr) (by simp))
              rw [hlen1] at hK5
              refine jx_r1 ?_
              refine jx_if_eq (pc := 170) 175 d_Su_seek_170 (by decide) (fun c170 => ?_) (fun c170 => absurd c170 (fun z => z rfl))
              refine jx_iinc6 (pc := 175) d_Su_seek_175 rfl (Nat.le_of_ble_eq_true rfl) ?_
              refine jx_goto (pc := 178) 41 d_Su_seek_178 (by decide) ?_
              rotate_left
              rw [nI_add1]
              refine ih (nx + 1) M5 _ (by omega) (by omega) (hK4.tr hK5.up) (by rw [hnx1]; exact hM0.cong (hK5.1 _ (by omega) (by omega)) (hK5.1 _ (by omega) (by omega)) (hK5.1 _ (by omega) (by omega)) (hK5.1 _ (by omega) (by omega))) q0 q1
            | some r =>
              rw [hf] at q0 q1
              refine jx_aload4 (pc := 99) d_Su_seek_99 ?_
              refine jx_iload7 (pc := 101) d_Su_seek_101 ?_
              refine jx_callV1 (pc := 103) (d' := d) vo_Co_isAwake lk_Su_38 d_Su_seek_103 ad_15 sh_15 rfl (by omega) (Nat.le_of_ble_eq_true rfl) ?_
              refine c_Co_awake hC2.2.2.1 hC2.2.2.2 (by omega) ?_
              refine jx_r1 ?_
              refine jx_if_ne (pc := 106) 112 d_Su_seek_106 (by decide) (fun c106 => ?_) (fun c106 => absurd c106 (by rw [hs']; decide))
              refine jx_aload0 (pc := 112) d_Su_seek_112 ?_
              refine jx_getR (pc := 113) gf_Su_9 d_Su_seek_113 ad_19 sh_19 rfl ?_
              refine jx_iload1 (pc := 116) d_Su_seek_116 ?_
              refine jx_iload6 (pc := 117) d_Su_seek_117 ?_
              refine jx_iast (pc := 119) d_Su_seek_119 ad_20 sh_20 hi3 ?_
              refine jx_aload4 (pc := 120) d_Su_seek_120 ?_
              refine jx_getR (pc := 122) gf_Su_26 d_Su_seek_122 ad_15 sh_15 rfl ?_
              refine jx_iload1 (pc := 125) d_Su_seek_125 ?_
              refine jx_iconst (pc := 126) (v := 1) d_Su_seek_126 (by decide) ?_
              refine jx_iadd (pc := 127) d_Su_seek_127 ?_
              refine jx_aald (pc := 128) d_Su_seek_128 ad_16 (Or.inl rfl) sh_16 hi1 hr1 ?_
              refine jx_aload5 (pc := 129) d_Su_seek_129 ?_
              refine jx_callV1 (pc := 131) (d' := d + 2) vo_Mo_become lk_Su_54 d_Su_seek_131 (mo_a hm1) (mo_s hm1) rfl (by omega) (Nat.le_of_ble_eq_true rfl) ?_
              rw [epl]
              refine c_Mo_become (d := d) hm1 hm0 (by omega) (hM2.cong (j_set_n _ _ _ (by omega)) (j_set_n _ _ _ (by omega)) (j_set_n _ _ _ (by omega)) (j_set_n _ _ _ (by omega))) (fun M3 hM3 hO3 => ?_)
              have hK3 : KS pre.length M M3 := (hK2.tr KS.row).tr (KS.off hO3 (by omega) (by omega))
              have hE3 := ((hK3.scr.rep hR).ce hws).1
              have hU3 := hK3.su hU
              refine jx_r0 ?_
              refine jx_aload4 (pc := 134) d_Su_seek_134 ?_
              refine jx_aload4 (pc := 136) d_Su_seek_136 ?_
              refine jx_getR (pc := 138) gf_Su_26 d_Su_seek_138 ad_15 sh_15 rfl ?_
              refine jx_iload1 (pc := 141) d_Su_seek_141 ?_
              refine jx_iconst (pc := 142) (v := 1) d_Su_seek_142 (by decide) ?_
              refine jx_iadd (pc := 143) d_Su_seek_143 ?_
              refine jx_aald (pc := 144) d_Su_seek_144 ad_16 (Or.inl rfl) sh_16 hi1 hr1 ?_
              refine jx_iload7 (pc := 145) d_Su_seek_145 ?_
              refine jx_aload0 (pc := 147) d_Su_seek_147 ?_
              refine jx_getI (pc := 148) gf_Su_19 d_Su_seek_148 ad_19 sh_19 rfl ?_
              refine jx_iload6 (pc := 151) d_Su_seek_151 ?_
              refine jx_iconst (pc := 153) (v := 3) d_Su_seek_153 (by decide) ?_
              refine jx_irem (pc := 154) d_Su_seek_154 (by decide) ?_
              refine jx_callV4 (pc := 155) (d' := d) vo_Co_bring lk_Su_57 d_Su_seek_155 ad_15 sh_15 rfl (by omega) (Nat.le_of_ble_eq_true rfl) ?_
              rw [er, hU3.1]
              refine c_Co_bring hm1 hE3 hts hM3 hwH (by omega) (show nx / 3 < 30 by omega) (show h < 6 by omega) (Nat.mod_lt _ (by omega)) (fun M4 hM4 hO4 => ?_)
              rw [← hadd] at hM4
              have hK4 : KS pre.length M M4 := hK3.tr (KS.off hO4 (by omega) (by omega))
              have hrow4 : ∀ i, i < pre.length + 1 → M4 20 i = nI ((pre ++ [nx]).getD i 0) := fun i hi => by
                rw [hO4 20 (by omega) (by omega) (by omega) (by omega), hO3 20 (by omega) (by omega) (by omega) (by omega), j_set_s]
                unfold upd
                by_cases hc : i = pre.length
                · rw [if_pos hc, hc]; simp
                · rw [if_neg hc, hK2.2 i (by omega), hrow i (by omega)]
                  congr 1
                  simp [List.getElem?_append, show i < pre.length by omega]
              have hM0 : MoodAt M4 (35 + 4 * pre.length) (g_ta s 0) 9 (hlf s h pre (nx / 3)) := by
                have e : ∀ b, b ≠ 20 → b < 35 + 4 * (pre.length + 1) → M4 b = M2 b := fun b h1 h2 => by rw [hO4 b (by omega) (by omega) (by omega) (by omega), hO3 b (by omega) (by omega) (by omega) (by omega), j_set_n _ _ _ h1]
                exact hM2.cong (e _ (by omega) (by omega)) (e _ (by omega) (by omega)) (e _ (by omega) (by omega)) (e _ (by omega) (by omega))
              refine jx_r0 ?_
              refine jx_aload0 (pc := 158) d_Su_seek_158 ?_
              refine jx_iload1 (pc := 159) d_Su_seek_159 ?_
              refine jx_iconst (pc := 160) (v := 1) d_Su_seek_160 (by decide) ?_
              refine jx_iadd (pc := 161) d_Su_seek_161 ?_
              refine jx_iload6 (pc := 162) d_Su_seek_162 ?_
              refine jx_iload3 (pc := 164) d_Su_seek_164 ?_
              refine jx_iconst (pc := 165) (v := 1) d_Su_seek_165 (by decide) ?_
              refine jx_isub (pc := 166) d_Su_seek_166 ?_
              refine jx_callS4 (pc := 167) (d' := d + 4 + l) so_Su_seek lk_Su_61 d_Su_seek_167 (by omega) (Nat.le_of_ble_eq_true rfl) ?_
              rw [hp1, hsub, ← hlen1]
              refine ihl (pre ++ [nx]) nx M4 _ (by omega) (by omega) (fun x hx => by rcases List.mem_append.mp hx with z | z; have := hpc x z; omega; rw [List.mem_singleton.mp z]; exact Nat.le_refl _) (hK4.scr.rep hR) (hK4.su hU) (by rw [hlen1]; exact hM4) (by rw [hlen1]; exact hrow4) (fun hr => absurd (hf.symm.trans hr) (by simp)) (fun r2 hr2 M5 hK5 hrow5 => ?_)
              rw [hlen1] at hK5
              refine jx_r1 ?_
              refine jx_if_eq (pc := 170) 175 d_Su_seek_170 (by decide) (fun c170 => absurd c170 (by decide)) (fun c170 => ?_)
              refine jx_iconst (pc := 173) (v := 1) d_Su_seek_173 (by decide) ?_
              refine jx_zret (pc := 174) hX rfl (by first | exact Or.inl rfl | exact Or.inr rfl) d_Su_seek_174 ?_
              rotate_left
              rw [hf] at hr2
              cases hr2
              exact q1 r rfl M5 (hK4.tr hK5.up) hrow5
        by_cases hcode2 : nx = code
        · subst hcode2
          rw [if_pos rfl] at hM1
          refine jx_iload6 (pc := 41) d_Su_seek_41 ?_
          refine jx_aload0 (pc := 43) d_Su_seek_43 ?_
          refine jx_getI (pc := 44) gf_Su_23 d_Su_seek_44 ad_19 sh_19 rfl ?_
          refine jx_iconst (pc := 47) (v := 1) d_Su_seek_47 (by decide) ?_
          refine jx_iadd (pc := 48) d_Su_seek_48 ?_
          refine jx_iconst (pc := 49) (v := 3) d_Su_seek_49 (by decide) ?_
          refine jx_imul (pc := 50) d_Su_seek_50 ?_
          refine jx_icmp_ge (pc := 51) 181 d_Su_seek_51 (by decide) (fun c51 => absurd c51 (hlt hK)) (fun c51 => ?_)
          refine jx_iload6 (pc := 54) d_Su_seek_54 ?_
          refine jx_iconst (pc := 56) (v := 3) d_Su_seek_56 (by decide) ?_
          refine jx_idiv (pc := 57) d_Su_seek_57 (by decide) ?_
          refine jx_istore7 (pc := 58) d_Su_seek_58 rfl (Nat.le_of_ble_eq_true rfl) ?_
          refine jx_iload6 (pc := 60) d_Su_seek_60 ?_
          refine jx_iload2 (pc := 62) d_Su_seek_62 ?_
          refine jx_icmp_le (pc := 63) 99 d_Su_seek_63 (by decide) (fun c63 => ?_) (fun c63 => absurd c63 (fun z => z (Int32.le_refl _)))
          rotate_left
          rw [e3]
          exact S99 M1 hK hM1
        · rw [if_neg hcode2] at hM1
          have hgt : ¬ nI nx ≤ nI code := nI_ge (by omega) (by omega)
          by_cases h3 : nx % 3 = 0
          · have hday : nx / 3 = (nx - 1) / 3 + 1 := by omega
            have hwH := hlfW hws h (row := pre) (by omega) (day := (nx - 1) / 3) (by omega)
            have hwE := eveW (tr := 9) hws.en hwH
            have hE1 := ((hK.scr.rep hR).ce hws).1
            have hnext := hlf_next (s := s) (h := h) (d := (nx - 1) / 3) (row := pre) (fun x hx => by have := hpc x hx; omega)
            rw [← hday] at hnext
            by_cases hs : (g_wy s 3).testBit (nx / 3) = true
            · rw [if_pos hs] at hnext
              refine jx_iload6 (pc := 41) d_Su_seek_41 ?_
              refine jx_aload0 (pc := 43) d_Su_seek_43 ?_
              refine jx_getI (pc := 44) gf_Su_23 d_Su_seek_44 ad_19 sh_19 rfl ?_
              refine jx_iconst (pc := 47) (v := 1) d_Su_seek_47 (by decide) ?_
              refine jx_iadd (pc := 48) d_Su_seek_48 ?_
              refine jx_iconst (pc := 49) (v := 3) d_Su_seek_49 (by decide) ?_
              refine jx_imul (pc := 50) d_Su_seek_50 ?_
              refine jx_icmp_ge (pc := 51) 181 d_Su_seek_51 (by decide) (fun c51 => absurd c51 (hlt hK)) (fun c51 => ?_)
              refine jx_iload6 (pc := 54) d_Su_seek_54 ?_
              refine jx_iconst (pc := 56) (v := 3) d_Su_seek_56 (by decide) ?_
              refine jx_idiv (pc := 57) d_Su_seek_57 (by decide) ?_
              refine jx_istore7 (pc := 58) d_Su_seek_58 rfl (Nat.le_of_ble_eq_true rfl) ?_
              refine jx_iload6 (pc := 60) d_Su_seek_60 ?_
              refine jx_iload2 (pc := 62) d_Su_seek_62 ?_
              refine jx_icmp_le (pc := 63) 99 d_Su_seek_63 (by decide) (fun c63 => absurd c63 hgt) (fun c63 => ?_)
              refine jx_iload6 (pc := 66) d_Su_seek_66 ?_
              refine jx_iconst (pc := 68) (v := 3) d_Su_seek_68 (by decide) ?_
              refine jx_irem (pc := 69) d_Su_seek_69 (by decide) ?_
              refine jx_if_ne (pc := 70) 99 d_Su_seek_70 (by decide) (fun c70 => absurd c70 (fun z => z (by rw [er, h3]; rfl))) (fun c70 => ?_)
              refine jx_aload4 (pc := 73) d_Su_seek_73 ?_
              refine jx_aload5 (pc := 75) d_Su_seek_75 ?_
              refine jx_callV1 (pc := 77) (d' := d + 2) vo_Co_evening lk_Su_50 d_Su_seek_77 ad_15 sh_15 rfl (by omega) (Nat.le_of_ble_eq_true rfl) ?_
              refine c_Co_evening (d := d + 1) hm0 hE1 hM1 hwH (by omega) (Or.inr rfl) (fun M2 hM2 hO2 => ?_)
              have hK2 : KS pre.length M M2 := hK.tr (KS.off hO2 (Nat.le_refl _) (by omega))
              have hC2 := (hK2.scr.rep hR).ce hws
              refine jx_r0 ?_
              refine jx_aload4 (pc := 80) d_Su_seek_80 ?_
              refine jx_iload7 (pc := 82) d_Su_seek_82 ?_
              refine jx_callV1 (pc := 84) (d' := d) vo_Co_isAwake lk_Su_38 d_Su_seek_84 ad_15 sh_15 rfl (by omega) (Nat.le_of_ble_eq_true rfl) ?_
              rw [e3]
              refine c_Co_awake hC2.2.2.1 hC2.2.2.2 (show nx / 3 < 30 by omega) ?_
              refine jx_r1 ?_
              refine jx_if_eq (pc := 87) 99 d_Su_seek_87 (by decide) (fun c87 => ?_) (fun c87 => absurd c87 (fun z => z (by rw [if_pos hs])))
              rotate_left
              exact S99 M2 hK2 (by rw [hnext]; exact hM2)
            · rw [if_neg hs] at hnext
              refine jx_iload6 (pc := 41) d_Su_seek_41 ?_
              refine jx_aload0 (pc := 43) d_Su_seek_43 ?_
              refine jx_getI (pc := 44) gf_Su_23 d_Su_seek_44 ad_19 sh_19 rfl ?_
              refine jx_iconst (pc := 47) (v := 1) d_Su_seek_47 (by decide) ?_
              refine jx_iadd (pc := 48) d_Su_seek_48 ?_
              refine jx_iconst (pc := 49) (v := 3) d_Su_seek_49 (by decide) ?_
              refine jx_imul (pc := 50) d_Su_seek_50 ?_
              refine jx_icmp_ge (pc := 51) 181 d_Su_seek_51 (by decide) (fun c51 => absurd c51 (hlt hK)) (fun c51 => ?_)
              refine jx_iload6 (pc := 54) d_Su_seek_54 ?_
              refine jx_iconst (pc := 56) (v := 3) d_Su_seek_56 (by decide) ?_
              refine jx_idiv (pc := 57) d_Su_seek_57 (by decide) ?_
              refine jx_istore7 (pc := 58) d_Su_seek_58 rfl (Nat.le_of_ble_eq_true rfl) ?_
              refine jx_iload6 (pc := 60) d_Su_seek_60 ?_
              refine jx_iload2 (pc := 62) d_Su_seek_62 ?_
              refine jx_icmp_le (pc := 63) 99 d_Su_seek_63 (by decide) (fun c63 => absurd c63 hgt) (fun c63 => ?_)
              refine jx_iload6 (pc := 66) d_Su_seek_66 ?_
              refine jx_iconst (pc := 68) (v := 3) d_Su_seek_68 (by decide) ?_
              refine jx_irem (pc := 69) d_Su_seek_69 (by decide) ?_
              refine jx_if_ne (pc := 70) 99 d_Su_seek_70 (by decide) (fun c70 => absurd c70 (fun z => z (by rw [er, h3]; rfl))) (fun c70 => ?_)
              refine jx_aload4 (pc := 73) d_Su_seek_73 ?_
              refine jx_aload5 (pc := 75) d_Su_seek_75 ?_
              refine jx_callV1 (pc := 77) (d' := d + 2) vo_Co_evening lk_Su_50 d_Su_seek_77 ad_15 sh_15 rfl (by omega) (Nat.le_of_ble_eq_true rfl) ?_
              refine c_Co_evening (d := d + 1) hm0 hE1 hM1 hwH (by omega) (Or.inr rfl) (fun M2 hM2 hO2 => ?_)
              have hK2 : KS pre.length M M2 := hK.tr (KS.off hO2 (Nat.le_refl _) (by omega))
              have hC2 := (hK2.scr.rep hR).ce hws
              refine jx_r0 ?_
              refine jx_aload4 (pc := 80) d_Su_seek_80 ?_
              refine jx_iload7 (pc := 82) d_Su_seek_82 ?_
              refine jx_callV1 (pc := 84) (d' := d) vo_Co_isAwake lk_Su_38 d_Su_seek_84 ad_15 sh_15 rfl (by omega) (Nat.le_of_ble_eq_true rfl) ?_
              rw [e3]
              refine c_Co_awake hC2.2.2.1 hC2.2.2.2 (show nx / 3 < 30 by omega) ?_
              refine jx_r1 ?_
              refine jx_if_eq (pc := 87) 99 d_Su_seek_87 (by decide) (fun c87 => absurd c87 (by rw [if_neg hs]; decide)) (fun c87 => ?_)
              refine jx_aload4 (pc := 90) d_Su_seek_90 ?_
              refine jx_aload5 (pc := 92) d_Su_seek_92 ?_
              refine jx_iload7 (pc := 94) d_Su_seek_94 ?_
              refine jx_callV2 (pc := 96) (d' := d + 1) vo_Co_comeAsTold lk_Su_42 d_Su_seek_96 ad_15 sh_15 rfl (by omega) (Nat.le_of_ble_eq_true rfl) ?_
              refine c_Co_comeAsTold (d := d) hm0 hC2 hts hM2 hwE (by omega) (show nx / 3 < 30 by omega) (fun M3 hM3 hO3 => ?_)
              refine jx_r0 ?_
              rotate_left
              exact S99 M3 (hK2.tr (KS.off hO3 (Nat.le_refl _) (by omega))) (by rw [hnext]; exact hM3)
          · have hday : (nx - 1) / 3 = nx / 3 := by omega
            rw [hday] at hM1
            refine jx_iload6 (pc := 41) d_Su_seek_41 ?_
            refine jx_aload0 (pc := 43) d_Su_seek_43 ?_
            refine jx_getI (pc := 44) gf_Su_23 d_Su_seek_44 ad_19 sh_19 rfl ?_
            refine jx_iconst (pc := 47) (v := 1) d_Su_seek_47 (by decide) ?_
            refine jx_iadd (pc := 48) d_Su_seek_48 ?_
            refine jx_iconst (pc := 49) (v := 3) d_Su_seek_49 (by decide) ?_
            refine jx_imul (pc := 50) d_Su_seek_50 ?_
            refine jx_icmp_ge (pc := 51) 181 d_Su_seek_51 (by decide) (fun c51 => absurd c51 (hlt hK)) (fun c51 => ?_)
            refine jx_iload6 (pc := 54) d_Su_seek_54 ?_
            refine jx_iconst (pc := 56) (v := 3) d_Su_seek_56 (by decide) ?_
            refine jx_idiv (pc := 57) d_Su_seek_57 (by decide) ?_
            refine jx_istore7 (pc := 58) d_Su_seek_58 rfl (Nat.le_of_ble_eq_true rfl) ?_
            refine jx_iload6 (pc := 60) d_Su_seek_60 ?_
            refine jx_iload2 (pc := 62) d_Su_seek_62 ?_
            refine jx_icmp_le (pc := 63) 99 d_Su_seek_63 (by decide) (fun c63 => absurd c63 hgt) (fun c63 => ?_)
            refine jx_iload6 (pc := 66) d_Su_seek_66 ?_
            refine jx_iconst (pc := 68) (v := 3) d_Su_seek_68 (by decide) ?_
            refine jx_irem (pc := 69) d_Su_seek_69 (by decide) ?_
            refine jx_if_ne (pc := 70) 99 d_Su_seek_70 (by decide) (fun c70 => ?_) (fun c70 => absurd c70 (fun z => h3 ((nI_eq (b := 0) (by omega) (by omega)).mp (by rw [er] at z; exact z))))
            rotate_left
            rw [e3]
            exact S99 M1 hK hM1
    refine jx_iload1 (pc := 0) d_Su_seek_0 ?_
    refine jx_iload3 (pc := 1) d_Su_seek_1 ?_
    refine jx_iadd (pc := 2) d_Su_seek_2 ?_
    refine jx_iconst (pc := 3) (v := 3) d_Su_seek_3 (by decide) ?_
    refine jx_icmp_le (pc := 4) 9 d_Su_seek_4 (by decide) (fun c4 => ?_) (fun c4 => absurd c4 (fun z => z hple))
    refine jx_aload0 (pc := 9) d_Su_seek_9 ?_
    refine jx_getR (pc := 10) gf_Su_15 d_Su_seek_10 ad_19 sh_19 rfl ?_
    refine jx_astore4 (pc := 13) d_Su_seek_13 rfl (Nat.le_of_ble_eq_true rfl) ?_
    refine jx_aload4 (pc := 15) d_Su_seek_15 ?_
    refine jx_getR (pc := 17) gf_Su_26 d_Su_seek_17 ad_15 sh_15 rfl ?_
    refine jx_iload1 (pc := 20) d_Su_seek_20 ?_
    refine jx_aald (pc := 21) d_Su_seek_21 ad_16 (Or.inl rfl) sh_16 hi0 (mo_r (by omega)) ?_
    refine jx_astore5 (pc := 22) d_Su_seek_22 rfl (Nat.le_of_ble_eq_true rfl) ?_
    refine jx_iload3 (pc := 24) d_Su_seek_24 ?_
    refine jx_if_ne (pc := 25) 38 d_Su_seek_25 (by decide) (fun c25 => ?_) (fun c25 => absurd c25 hlz)
    refine jx_iload2 (pc := 38) d_Su_seek_38 ?_
    refine jx_istore6 (pc := 39) d_Su_seek_39 rfl (Nat.le_of_ble_eq_true rfl) ?_
    rotate_left
    exact loop (3 * last + 3 - code) code M _ (by omega) (Nat.le_refl _) KS.rf (by rw [if_pos rfl]; exact hM) k0 k1
theorem c_Su_plead {d h last : Nat} {s : Sg} {M : j_M} {Q : Option Value → j_M → Prop} (hws : WF s) (hR : RepC s M) (k : ∀ M', Scr M M' → SU h last M' → MoodAt M' 35 (g_ta s 0) 9 (hlf s h [] 0) → Q none M') : j_Ct (d + 2) I_Su_plead [.ref 19, .ref 12, .int (nI h), .int (nI last)] M Q := by
  refine j_met (by decide +kernel) co_Su_plead (Nat.le_of_ble_eq_true rfl) (fun X hX => ?_)
  show j_W (d + 2) I_Su_plead X 0 [some (.ref 19), some (.ref 12), some (.int (nI h)), some (.int (nI last)), none] [] M
  have hts := hws.2.2.1 0
  have hS2 : Scr M (j_set (j_set M 19 2 (nI h)) 19 3 (nI last)) := fun b hb => by
    have : b ≠ 19 := by unfold PC at hb; omega
    rw [j_set_n _ _ _ this, j_set_n _ _ _ this]
  have h12 : ∀ t, t < 3 → j_set (j_set M 19 2 (nI h)) 19 3 (nI last) 12 t = nI (g_ta s 0 t) := fun t ht => by rw [j_set_n _ _ _ (by omega), j_set_n _ _ _ (by omega)]; exact hR.2.1 0 t (by omega) ht
  have hv : ∀ M1, Off1 35 (j_set (j_set M 19 2 (nI h)) 19 3 (nI last)) M1 → SU h last M1 := fun M1 hO => by
    unfold SU
    rw [hO 19 (by omega) (by omega) (by omega) (by omega)]
    simp [j_set_s, upd]
  have h0 := hlf_0 s h
  by_cases hs : (g_wy s 3).testBit 0 = true
  · rw [if_pos hs] at h0
    refine jx_aload0 (pc := 0) d_Su_plead_0 ?_
    refine jx_iload2 (pc := 1) d_Su_plead_1 ?_
    refine jx_putI (pc := 2) pf_Su_19 d_Su_plead_2 ad_19 sh_19 rfl ?_
    refine jx_aload0 (pc := 5) d_Su_plead_5 ?_
    refine jx_iload3 (pc := 6) d_Su_plead_6 ?_
    refine jx_putI (pc := 7) pf_Su_23 d_Su_plead_7 ad_19 sh_19 rfl ?_
    refine jx_aload0 (pc := 10) d_Su_plead_10 ?_
    refine jx_getR (pc := 11) gf_Su_15 d_Su_plead_11 ad_19 sh_19 rfl ?_
    refine jx_getR (pc := 14) gf_Su_26 d_Su_plead_14 ad_15 sh_15 rfl ?_
    refine jx_iconst (pc := 17) (v := 0) d_Su_plead_17 (by decide) ?_
    refine jx_aald (pc := 18) (b := 35) d_Su_plead_18 ad_16 (Or.inl rfl) sh_16 (by unfold vp_in; decide) (by decide) ?_
    refine jx_astore4 (pc := 19) d_Su_plead_19 rfl (Nat.le_of_ble_eq_true rfl) ?_
    refine jx_aload4 (pc := 21) d_Su_plead_21 ?_
    refine jx_aload1 (pc := 23) d_Su_plead_23 ?_
    refine jx_iconst (pc := 24) (v := (-1)) d_Su_plead_24 (by decide) ?_
    refine jx_callV2 (pc := 25) (d' := d) vo_Mo_begin lk_Su_32 d_Su_plead_25 (mo_a mo_35) (mo_s mo_35) rfl (by omega) (Nat.le_of_ble_eq_true rfl) ?_
    refine c_Mo_begin (ts := g_ta s 0) (tr := 9) mo_35 (by omega) sh_12 h12 (fun M1 hM1 hO1 => ?_)
    have hS1 := hS2.tr (Scr.off mo_35 hO1)
    have hC1 := (hS1.rep hR).ce hws
    refine jx_r0 ?_
    refine jx_aload0 (pc := 28) d_Su_plead_28 ?_
    refine jx_getR (pc := 29) gf_Su_15 d_Su_plead_29 ad_19 sh_19 rfl ?_
    refine jx_iconst (pc := 32) (v := 0) d_Su_plead_32 (by decide) ?_
    refine jx_callV1 (pc := 33) (d' := d) vo_Co_isAwake lk_Su_38 d_Su_plead_33 ad_15 sh_15 rfl (by omega) (Nat.le_of_ble_eq_true rfl) ?_
    refine c_Co_awake (day := 0) hC1.2.2.1 hC1.2.2.2 (by omega) ?_
    refine jx_r1 ?_
    refine jx_if_eq (pc := 36) 49 d_Su_plead_36 (by decide) (fun c36 => ?_) (fun c36 => absurd c36 (fun z => z (by rw [if_pos hs])))
    refine jx_vret (pc := 49) hX rfl d_Su_plead_49 ?_
    rotate_left
    exact k M1 hS1 (hv M1 hO1) (by rw [h0]; exact hM1)
  · rw [if_neg hs] at h0
    refine jx_aload0 (pc := 0) d_Su_plead_0 ?_
    refine jx_iload2 (pc := 1) d_Su_plead_1 ?_
    refine jx_putI (pc := 2) pf_Su_19 d_Su_plead_2 ad_19 sh_19 rfl ?_
    refine jx_aload0 (pc := 5) d_Su_plead_5 ?_
    refine jx_iload3 (pc := 6) d_Su_plead_6 ?_
    refine jx_putI (pc := 7) pf_Su_23 d_Su_plead_7 ad_19 sh_19 rfl ?_
    refine jx_aload0 (pc := 10) d_Su_plead_10 ?_
    refine jx_getR (pc := 11) gf_Su_15 d_Su_plead_11 ad_19 sh_19 rfl ?_
    refine jx_getR (pc := 14) gf_Su_26 d_Su_plead_14 ad_15 sh_15 rfl ?_
    refine jx_iconst (pc := 17) (v := 0) d_Su_plead_17 (by decide) ?_
    refine jx_aald (pc := 18) (b := 35) d_Su_plead_18 ad_16 (Or.inl rfl) sh_16 (by unfold vp_in; decide) (by decide) ?_
    refine jx_astore4 (pc := 19) d_Su_plead_19 rfl (Nat.le_of_ble_eq_true rfl) ?_
    refine jx_aload4 (pc := 21) d_Su_plead_21 ?_
    refine jx_aload1 (pc := 23) d_Su_plead_23 ?_
    refine jx_iconst (pc := 24) (v := (-1)) d_Su_plead_24 (by decide) ?_
    refine jx_callV2 (pc := 25) (d' := d) vo_Mo_begin lk_Su_32 d_Su_plead_25 (mo_a mo_35) (mo_s mo_35) rfl (by omega) (Nat.le_of_ble_eq_true rfl) ?_
    refine c_Mo_begin (ts := g_ta s 0) (tr := 9) mo_35 (by omega) sh_12 h12 (fun M1 hM1 hO1 => ?_)
    have hS1 := hS2.tr (Scr.off mo_35 hO1)
    have hC1 := (hS1.rep hR).ce hws
    refine jx_r0 ?_
    refine jx_aload0 (pc := 28) d_Su_plead_28 ?_
    refine jx_getR (pc := 29) gf_Su_15 d_Su_plead_29 ad_19 sh_19 rfl ?_
    refine jx_iconst (pc := 32) (v := 0) d_Su_plead_32 (by decide) ?_
    refine jx_callV1 (pc := 33) (d' := d) vo_Co_isAwake lk_Su_38 d_Su_plead_33 ad_15 sh_15 rfl (by omega) (Nat.le_of_ble_eq_true rfl) ?_
    refine c_Co_awake (day := 0) hC1.2.2.1 hC1.2.2.2 (by omega) ?_
    refine jx_r1 ?_
    refine jx_if_eq (pc := 36) 49 d_Su_plead_36 (by decide) (fun c36 => absurd c36 (by rw [if_neg hs]; decide)) (fun c36 => ?_)
    refine jx_aload0 (pc := 39) d_Su_plead_39 ?_
    refine jx_getR (pc := 40) gf_Su_15 d_Su_plead_40 ad_19 sh_19 rfl ?_
    refine jx_aload4 (pc := 43) d_Su_plead_43 ?_
    refine jx_iconst (pc := 45) (v := 0) d_Su_plead_45 (by decide) ?_
    refine jx_callV2 (pc := 46) (d' := d + 1) vo_Co_comeAsTold lk_Su_42 d_Su_plead_46 ad_15 sh_15 rfl (by omega) (Nat.le_of_ble_eq_true rfl) ?_
    refine c_Co_comeAsTold (d := d) (day := 0) mo_35 hC1 hts hM1 (mo0W (g_en s) 0) (by omega) (by omega) (fun M2 hM2 hO2 => ?_)
    refine jx_r0 ?_
    refine jx_vret (pc := 49) hX rfl d_Su_plead_49 ?_
    rotate_left
    exact k M2 (hS1.tr (Scr.off mo_35 hO2)) (hv M2 (hO1.tr hO2)) (by rw [h0]; exact hM2)
theorem c_J_suit {d : Nat} {h dy i : Int32} {s : Sg} {M : j_M} {Q : Option Value → j_M → Prop} (hws : WF s) (hR : RepC s M) (k : ∀ M', Scr M M' → Q (some (.int (r_suit s h dy i))) M') : j_Ct (d + 9) I_J_suit [.ref 0, .int h, .int dy, .int i] M Q := by
  refine j_met (by decide +kernel) co_J_suit (Nat.le_of_ble_eq_true rfl) (fun X hX => ?_)
  show j_W (d + 9) I_J_suit X 0 [some (.ref 0), some (.int h), some (.int dy), some (.int i), none] [] M
  have h13 : M 1 3 = nI (g_hn s) := hR.1.2.1
  have hn6 : g_hn s ≤ 6 := hnB_le hws.1
  by_cases hb : okSui s h dy i
  · obtain ⟨g1, g2, g3⟩ := id hb
    have p1 : 0 ≤ h ∧ h < M 1 3 := by rw [h13]; exact g1
    have hr : r_suit s h dy i = suN (suB s (cl h) (cl dy)) i := by unfold r_suit; rw [if_pos hb]
    rw [hr] at k
    have p2 := g2
    obtain ⟨x, hx, rfl, ex⟩ := okd h _ (by omega) g1
    obtain ⟨y, hy, rfl, ey⟩ := okd dy 10 (by omega) g2
    rw [ex, ey] at k
    have loop : ∀ (q m : Nat) (M1 : j_M), m + q = 4 → Scr M M1 → (∀ u, u < m → skS (suW s x y) (3 * y + 3) u [] 0 = none) → j_W (d + 9) I_J_suit X 34 [some (.ref 0), some (.int (nI x)), some (.int (nI y)), some (.int i), some (.int (nI m))] [] M1 := by
      intro q
      induction q with
      | zero =>
        intro m M1 hm hS hu
        have hm' : m = 4 := by omega
        subst hm'
        have kk := k M1 hS
        rw [suB_no hu, suN_n] at kk
        refine jx_iload4 (pc := 34) d_J_suit_34 ?_
        refine jx_iconst (pc := 36) (v := 3) d_J_suit_36 (by decide) ?_
        refine jx_icmp_gt (pc := 37) 103 d_J_suit_37 (by decide) (fun c37 => ?_) (fun c37 => absurd c37 (fun z => z (show nI 3 < nI 4 from nI_lt (by omega) (by omega))))
        refine jx_iconst (pc := 103) (v := (-1)) d_J_suit_103 (by decide) ?_
        refine jx_iret (pc := 104) hX rfl d_J_suit_104 ?_
        rotate_left
        exact kk
      | succ q ih =>
        intro m M1 hm hS hu
        have hng : ¬ (3 : Int32) < nI m := (show ¬ nI 3 < nI m from nI_nlt (by omega) (by omega))
        have hCS : skC (suW s x y) (aslp s) (3 * y + 3) m [] 0 = skS (suW s x y) (3 * y + 3) m [] 0 := by
          cases m with
          | zero => rfl
          | succ m => exact skC_min (fun l1 c l2 hA => suW_del s x y l1 c l2 hA) (hu m (by omega))
        cases hf : skS (suW s x y) (3 * y + 3) m [] 0 with
        | none =>
          refine jx_iload4 (pc := 34) d_J_suit_34 ?_
          refine jx_iconst (pc := 36) (v := 3) d_J_suit_36 (by decide) ?_
          refine jx_icmp_gt (pc := 37) 103 d_J_suit_37 (by decide) (fun c37 => absurd c37 hng) (fun c37 => ?_)
          refine jx_aload0 (pc := 40) d_J_suit_40 ?_
          refine jx_getR (pc := 41) gf_J_56 d_J_suit_41 ad_0 sh_0 rfl ?_
          refine jx_aload0 (pc := 44) d_J_suit_44 ?_
          refine jx_getR (pc := 45) gf_J_28 d_J_suit_45 ad_0 sh_0 rfl ?_
          refine jx_iconst (pc := 48) (v := 0) d_J_suit_48 (by decide) ?_
          refine jx_aald (pc := 49) (b := 12) d_J_suit_49 ad_11 (Or.inr rfl) sh_11 (by unfold vp_in; decide) (by decide) ?_
          refine jx_iload1 (pc := 50) d_J_suit_50 ?_
          refine jx_iload2 (pc := 51) d_J_suit_51 ?_
          refine jx_callV3 (pc := 52) (d' := d + 2) vo_Su_plead lk_J_187 d_J_suit_52 ad_19 sh_19 rfl (by omega) (Nat.le_of_ble_eq_true rfl) ?_
          refine c_Su_plead (d := d) hws (hS.rep hR) (fun M2 hS2 hU2 hM2 => ?_)
          refine jx_r0 ?_
          refine jx_aload0 (pc := 55) d_J_suit_55 ?_
          refine jx_getR (pc := 56) gf_J_56 d_J_suit_56 ad_0 sh_0 rfl ?_
          refine jx_iconst (pc := 59) (v := 0) d_J_suit_59 (by decide) ?_
          refine jx_iconst (pc := 60) (v := 0) d_J_suit_60 (by decide) ?_
          refine jx_iload4 (pc := 61) d_J_suit_61 ?_
          refine jx_callSN4 (pc := 63) (d' := d + 4 + m) rfl rfl rfl so_Su_seek d_J_suit_63 (by omega) (Nat.le_of_ble_eq_true rfl) ?_
          refine c_Su_seek hws hy hx (d := d) m [] 0 M2 _ (by show 0 + m ≤ 3; omega) (by omega) (fun _ h9 => absurd h9 List.not_mem_nil) ((hS.tr hS2).rep hR) hU2 hM2 (fun i h9 => absurd h9 (Nat.not_lt_zero _)) (fun _ M3 hK3 => ?_) (fun r h9 => absurd ((hCS.trans hf).symm.trans h9) (by simp))
          refine jx_r1 ?_
          refine jx_if_eq (pc := 66) 97 d_J_suit_66 (by decide) (fun c66 => ?_) (fun c66 => absurd c66 (fun z => z rfl))
          refine jx_iinc4 (pc := 97) d_J_suit_97 rfl (Nat.le_of_ble_eq_true rfl) ?_
          refine jx_goto (pc := 100) 34 d_J_suit_100 (by decide) ?_
          rotate_left
          rw [nI_add1]
          refine ih (m + 1) M3 (by omega) ((hS.tr hS2).tr hK3.scr) (fun u hu2 => ?_)
          by_cases hc : u = m
          · rw [hc]; exact hf
          · exact hu u (by omega)
        | some r =>
          have hB := suB_at (by omega) hu hf
          have hlen := skS_len _ _ _ hf
          have hlen' : r.length = m := by simpa using hlen
          have hbase : ∀ M3, Scr M M3 → Q (some (.int (if i = -1 then nI m else if i < nI m then nI (r.getD i.toNatClampNeg 0) else -1))) M3 := fun M3 hS3 => by
            have kk := k M3 hS3
            rw [hB, suN_s, hlen'] at kk
            exact kk
          by_cases hm1 : i = -1
          · skip
            refine jx_iload4 (pc := 34) d_J_suit_34 ?_
            refine jx_iconst (pc := 36) (v := 3) d_J_suit_36 (by decide) ?_
            refine jx_icmp_gt (pc := 37) 103 d_J_suit_37 (by decide) (fun c37 => absurd c37 hng) (fun c37 => ?_)
            refine jx_aload0 (pc := 40) d_J_suit_40 ?_
            refine jx_getR (pc := 41) gf_J_56 d_J_suit_41 ad_0 sh_0 rfl ?_
            refine jx_aload0 (pc := 44) d_J_suit_44 ?_
            refine jx_getR (pc := 45) gf_J_28 d_J_suit_45 ad_0 sh_0 rfl ?_
            refine jx_iconst (pc := 48) (v := 0) d_J_suit_48 (by decide) ?_
            refine jx_aald (pc := 49) (b := 12) d_J_suit_49 ad_11 (Or.inr rfl) sh_11 (by unfold vp_in; decide) (by decide) ?_
            refine jx_iload1 (pc := 50) d_J_suit_50 ?_
            refine jx_iload2 (pc := 51) d_J_suit_51 ?_
            refine jx_callV3 (pc := 52) (d' := d + 2) vo_Su_plead lk_J_187 d_J_suit_52 ad_19 sh_19 rfl (by omega) (Nat.le_of_ble_eq_true rfl) ?_
            refine c_Su_plead (d := d) hws (hS.rep hR) (fun M2 hS2 hU2 hM2 => ?_)
            refine jx_r0 ?_
            refine jx_aload0 (pc := 55) d_J_suit_55 ?_
            refine jx_getR (pc := 56) gf_J_56 d_J_suit_56 ad_0 sh_0 rfl ?_
            refine jx_iconst (pc := 59) (v := 0) d_J_suit_59 (by decide) ?_
            refine jx_iconst (pc := 60) (v := 0) d_J_suit_60 (by decide) ?_
            refine jx_iload4 (pc := 61) d_J_suit_61 ?_
            refine jx_callSN4 (pc := 63) (d' := d + 4 + m) rfl rfl rfl so_Su_seek d_J_suit_63 (by omega) (Nat.le_of_ble_eq_true rfl) ?_
            refine c_Su_seek hws hy hx (d := d) m [] 0 M2 _ (by show 0 + m ≤ 3; omega) (by omega) (fun _ h9 => absurd h9 List.not_mem_nil) ((hS.tr hS2).rep hR) hU2 hM2 (fun i h9 => absurd h9 (Nat.not_lt_zero _)) (fun h9 => absurd ((hCS.trans hf).symm.trans h9) (by simp)) (fun r2 h9 M3 hK3 hrow3 => ?_)
            have her : r2 = r := Option.some.inj (h9.symm.trans (hCS.trans hf))
            subst her
            refine jx_r1 ?_
            refine jx_if_eq (pc := 66) 97 d_J_suit_66 (by decide) (fun c66 => absurd c66 (by decide)) (fun c66 => ?_)
            refine jx_iload3 (pc := 69) d_J_suit_69 ?_
            refine jx_iconst (pc := 70) (v := (-1)) d_J_suit_70 (by decide) ?_
            refine jx_icmp_ne (pc := 71) 77 d_J_suit_71 (by decide) (fun c71 => absurd c71 (fun z => z hm1)) (fun c71 => ?_)
            refine jx_iload4 (pc := 74) d_J_suit_74 ?_
            refine jx_iret (pc := 76) hX rfl d_J_suit_76 ?_
            rotate_left
            have kk := hbase M3 ((hS.tr hS2).tr hK3.scr)
            rw [if_pos hm1] at kk
            exact kk
          · have hi0 : 0 ≤ i := by
              have g := g3.1
              rw [fa_le] at g ⊢
              rw [fa_eq] at hm1
              simp only [Int32.reduceToInt] at *
              omega
            by_cases hlt : i < nI m
            · obtain ⟨j, hj, rfl⟩ := in_of (n := m) (by omega) hi0 hlt
              have ej : (nI j).toNatClampNeg = j := nI_cl (by omega)
              refine jx_iload4 (pc := 34) d_J_suit_34 ?_
              refine jx_iconst (pc := 36) (v := 3) d_J_suit_36 (by decide) ?_
              refine jx_icmp_gt (pc := 37) 103 d_J_suit_37 (by decide) (fun c37 => absurd c37 hng) (fun c37 => ?_)
              refine jx_aload0 (pc := 40) d_J_suit_40 ?_
              refine jx_getR (pc := 41) gf_J_56 d_J_suit_41 ad_0 sh_0 rfl ?_
              refine jx_aload0 (pc := 44) d_J_suit_44 ?_
              refine jx_getR (pc := 45) gf_J_28 d_J_suit_45 ad_0 sh_0 rfl ?_
              refine jx_iconst (pc := 48) (v := 0) d_J_suit_48 (by decide) ?_
              refine jx_aald (pc := 49) (b := 12) d_J_suit_49 ad_11 (Or.inr rfl) sh_11 (by unfold vp_in; decide) (by decide) ?_
              refine jx_iload1 (pc := 50) d_J_suit_50 ?_
              refine jx_iload2 (pc := 51) d_J_suit_51 ?_
              refine jx_callV3 (pc := 52) (d' := d + 2) vo_Su_plead lk_J_187 d_J_suit_52 ad_19 sh_19 rfl (by omega) (Nat.le_of_ble_eq_true rfl) ?_
              refine c_Su_plead (d := d) hws (hS.rep hR) (fun M2 hS2 hU2 hM2 => ?_)
              refine jx_r0 ?_
              refine jx_aload0 (pc := 55) d_J_suit_55 ?_
              refine jx_getR (pc := 56) gf_J_56 d_J_suit_56 ad_0 sh_0 rfl ?_
              refine jx_iconst (pc := 59) (v := 0) d_J_suit_59 (by decide) ?_
              refine jx_iconst (pc := 60) (v := 0) d_J_suit_60 (by decide) ?_
              refine jx_iload4 (pc := 61) d_J_suit_61 ?_
              refine jx_callSN4 (pc := 63) (d' := d + 4 + m) rfl rfl rfl so_Su_seek d_J_suit_63 (by omega) (Nat.le_of_ble_eq_true rfl) ?_
              refine c_Su_seek hws hy hx (d := d) m [] 0 M2 _ (by show 0 + m ≤ 3; omega) (by omega) (fun _ h9 => absurd h9 List.not_mem_nil) ((hS.tr hS2).rep hR) hU2 hM2 (fun i h9 => absurd h9 (Nat.not_lt_zero _)) (fun h9 => absurd ((hCS.trans hf).symm.trans h9) (by simp)) (fun r2 h9 M3 hK3 hrow3 => ?_)
              have her : r2 = r := Option.some.inj (h9.symm.trans (hCS.trans hf))
              subst her
              refine jx_r1 ?_
              refine jx_if_eq (pc := 66) 97 d_J_suit_66 (by decide) (fun c66 => absurd c66 (by decide)) (fun c66 => ?_)
              refine jx_iload3 (pc := 69) d_J_suit_69 ?_
              refine jx_iconst (pc := 70) (v := (-1)) d_J_suit_70 (by decide) ?_
              refine jx_icmp_ne (pc := 71) 77 d_J_suit_71 (by decide) (fun c71 => ?_) (fun c71 => absurd c71 hm1)
              refine jx_iload3 (pc := 77) d_J_suit_77 ?_
              refine jx_iload4 (pc := 78) d_J_suit_78 ?_
              refine jx_icmp_ge (pc := 80) 95 d_J_suit_80 (by decide) (fun c80 => absurd c80 (Int32.not_le.mpr hlt)) (fun c80 => ?_)
              refine jx_aload0 (pc := 83) d_J_suit_83 ?_
              refine jx_getR (pc := 84) gf_J_56 d_J_suit_84 ad_0 sh_0 rfl ?_
              refine jx_getR (pc := 87) gf_J_195 d_J_suit_87 ad_19 sh_19 rfl ?_
              refine jx_iload3 (pc := 90) d_J_suit_90 ?_
              refine jx_iald (pc := 91) d_J_suit_91 ad_20 sh_20 (vp_in_nI (show j < 3 by omega) (by omega)) ?_
              refine jx_goto (pc := 92) 96 d_J_suit_92 (by decide) ?_
              refine jx_iret (pc := 96) hX rfl d_J_suit_96 ?_
              rotate_left
              have kk := hbase M3 ((hS.tr hS2).tr hK3.scr)
              rw [if_neg hm1, if_pos hlt, ej] at kk
              rw [ej, hrow3 j (by omega)]
              exact kk
            · skip
              refine jx_iload4 (pc := 34) d_J_suit_34 ?_
              refine jx_iconst (pc := 36) (v := 3) d_J_suit_36 (by decide) ?_
              refine jx_icmp_gt (pc := 37) 103 d_J_suit_37 (by decide) (fun c37 => absurd c37 hng) (fun c37 => ?_)
              refine jx_aload0 (pc := 40) d_J_suit_40 ?_
              refine jx_getR (pc := 41) gf_J_56 d_J_suit_41 ad_0 sh_0 rfl ?_
              refine jx_aload0 (pc := 44) d_J_suit_44 ?_
              refine jx_getR (pc := 45) gf_J_28 d_J_suit_45 ad_0 sh_0 rfl ?_
              refine jx_iconst (pc := 48) (v := 0) d_J_suit_48 (by decide) ?_
              refine jx_aald (pc := 49) (b := 12) d_J_suit_49 ad_11 (Or.inr rfl) sh_11 (by unfold vp_in; decide) (by decide) ?_
              refine jx_iload1 (pc := 50) d_J_suit_50 ?_
              refine jx_iload2 (pc := 51) d_J_suit_51 ?_
              refine jx_callV3 (pc := 52) (d' := d + 2) vo_Su_plead lk_J_187 d_J_suit_52 ad_19 sh_19 rfl (by omega) (Nat.le_of_ble_eq_true rfl) ?_
              refine c_Su_plead (d := d) hws (hS.rep hR) (fun M2 hS2 hU2 hM2 => ?_)
              refine jx_r0 ?_
              refine jx_aload0 (pc := 55) d_J_suit_55 ?_
              refine jx_getR (pc := 56) gf_J_56 d_J_suit_56 ad_0 sh_0 rfl ?_
              refine jx_iconst (pc := 59) (v := 0) d_J_suit_59 (by decide) ?_
              refine jx_iconst (pc := 60) (v := 0) d_J_suit_60 (by decide) ?_
              refine jx_iload4 (pc := 61) d_J_suit_61 ?_
              refine jx_callSN4 (pc := 63) (d' := d + 4 + m) rfl rfl rfl so_Su_seek d_J_suit_63 (by omega) (Nat.le_of_ble_eq_true rfl) ?_
              refine c_Su_seek hws hy hx (d := d) m [] 0 M2 _ (by show 0 + m ≤ 3; omega) (by omega) (fun _ h9 => absurd h9 List.not_mem_nil) ((hS.tr hS2).rep hR) hU2 hM2 (fun i h9 => absurd h9 (Nat.not_lt_zero _)) (fun h9 => absurd ((hCS.trans hf).symm.trans h9) (by simp)) (fun r2 h9 M3 hK3 hrow3 => ?_)
              have her : r2 = r := Option.some.inj (h9.symm.trans (hCS.trans hf))
              subst her
              refine jx_r1 ?_
              refine jx_if_eq (pc := 66) 97 d_J_suit_66 (by decide) (fun c66 => absurd c66 (by decide)) (fun c66 => ?_)
              refine jx_iload3 (pc := 69) d_J_suit_69 ?_
              refine jx_iconst (pc := 70) (v := (-1)) d_J_suit_70 (by decide) ?_
              refine jx_icmp_ne (pc := 71) 77 d_J_suit_71 (by decide) (fun c71 => ?_) (fun c71 => absurd c71 hm1)
              refine jx_iload3 (pc := 77) d_J_suit_77 ?_
              refine jx_iload4 (pc := 78) d_J_suit_78 ?_
              refine jx_icmp_ge (pc := 80) 95 d_J_suit_80 (by decide) (fun c80 => ?_) (fun c80 => absurd c80 (fun z => z (Int32.not_lt.mp hlt)))
              refine jx_iconst (pc := 95) (v := (-1)) d_J_suit_95 (by decide) ?_
              refine jx_iret (pc := 96) hX rfl d_J_suit_96 ?_
              rotate_left
              have kk := hbase M3 ((hS.tr hS2).tr hK3.scr)
              rw [if_neg hm1, if_neg hlt] at kk
              exact kk
    refine jx_aload0 (pc := 0) d_J_suit_0 ?_
    refine jx_getR (pc := 1) gf_J_12 d_J_suit_1 ad_0 sh_0 rfl ?_
    refine jx_iload1 (pc := 4) d_J_suit_4 ?_
    refine jx_callV1 (pc := 5) (d' := 0) vo_He_has lk_J_101 d_J_suit_5 ad_1 sh_1 rfl (by omega) (Nat.le_of_ble_eq_true rfl) ?_
    refine c_He_has ?_
    refine jx_r1 ?_
    refine jx_if_eq (pc := 8) 28 d_J_suit_8 (by decide) (fun c8 => absurd c8 (z01p p1)) (fun c8 => ?_)
    refine jx_iload2 (pc := 11) d_J_suit_11 ?_
    refine jx_callS1 (pc := 12) (d' := 0) so_J_isSearchDay lk_J_184 d_J_suit_12 (by omega) (Nat.le_of_ble_eq_true rfl) ?_
    refine c_J_isSearchDay ?_
    refine jx_r1 ?_
    refine jx_if_eq (pc := 15) 28 d_J_suit_15 (by decide) (fun c15 => absurd c15 (z01p p2)) (fun c15 => ?_)
    refine jx_iload3 (pc := 18) d_J_suit_18 ?_
    refine jx_iconst (pc := 19) (v := (-1)) d_J_suit_19 (by decide) ?_
    refine jx_icmp_lt (pc := 20) 28 d_J_suit_20 (by decide) (fun c20 => absurd c20 (Int32.not_lt.mpr g3.1)) (fun c20 => ?_)
    refine jx_iload3 (pc := 23) d_J_suit_23 ?_
    refine jx_iconst (pc := 24) (v := 3) d_J_suit_24 (by decide) ?_
    refine jx_icmp_lt (pc := 25) 31 d_J_suit_25 (by decide) (fun c25 => ?_) (fun c25 => absurd c25 (fun z => z g3.2))
    refine jx_iconst (pc := 31) (v := 0) d_J_suit_31 (by decide) ?_
    refine jx_istore4 (pc := 32) d_J_suit_32 rfl (Nat.le_of_ble_eq_true rfl) ?_
    rotate_left
    exact loop 4 0 M (by omega) Scr.rf (fun u hu => absurd hu (by omega))
  · have hr : r_suit s h dy i = -2 := by unfold r_suit; rw [if_neg hb]
    rw [hr] at k
    refine jx_aload0 (pc := 0) d_J_suit_0 ?_
    refine jx_getR (pc := 1) gf_J_12 d_J_suit_1 ad_0 sh_0 rfl ?_
    refine jx_iload1 (pc := 4) d_J_suit_4 ?_
    refine jx_callV1 (pc := 5) (d' := 0) vo_He_has lk_J_101 d_J_suit_5 ad_1 sh_1 rfl (by omega) (Nat.le_of_ble_eq_true rfl) ?_
    refine c_He_has ?_
    refine jx_r1 ?_
    refine jx_if_eq (pc := 8) 28 d_J_suit_8 (by decide) (fun c8 => ?_) (fun c8 => ?_)
    refine jx_bipush (pc := 28) (v := (-2)) d_J_suit_28 (by decide) ?_
    refine jx_iret (pc := 30) hX rfl d_J_suit_30 ?_
    rotate_left
    refine jx_iload2 (pc := 11) d_J_suit_11 ?_
    refine jx_callS1 (pc := 12) (d' := 0) so_J_isSearchDay lk_J_184 d_J_suit_12 (by omega) (Nat.le_of_ble_eq_true rfl) ?_
    refine c_J_isSearchDay ?_
    refine jx_r1 ?_
    refine jx_if_eq (pc := 15) 28 d_J_suit_15 (by decide) (fun c15 => ?_) (fun c15 => ?_)
    refine jx_bipush (pc := 28) (v := (-2)) d_J_suit_28 (by decide) ?_
    refine jx_iret (pc := 30) hX rfl d_J_suit_30 ?_
    rotate_left
    refine jx_iload3 (pc := 18) d_J_suit_18 ?_
    refine jx_iconst (pc := 19) (v := (-1)) d_J_suit_19 (by decide) ?_
    refine jx_icmp_lt (pc := 20) 28 d_J_suit_20 (by decide) (fun c20 => ?_) (fun c20 => ?_)
    refine jx_bipush (pc := 28) (v := (-2)) d_J_suit_28 (by decide) ?_
    refine jx_iret (pc := 30) hX rfl d_J_suit_30 ?_
    rotate_left
    refine jx_iload3 (pc := 23) d_J_suit_23 ?_
    refine jx_iconst (pc := 24) (v := 3) d_J_suit_24 (by decide) ?_
    refine jx_icmp_lt (pc := 25) 31 d_J_suit_25 (by decide) (fun c25 => ?_) (fun c25 => ?_)
    rotate_left
    refine jx_bipush (pc := 28) (v := (-2)) d_J_suit_28 (by decide) ?_
    refine jx_iret (pc := 30) hX rfl d_J_suit_30 ?_
    rotate_left
    · exact k M Scr.rf
    · exact k M Scr.rf
    · exact k M Scr.rf
    · have g1 := z01n c8
      rw [h13] at g1
      exact absurd ⟨g1, z01n c15, Int32.not_lt.mp c20, c25⟩ hb
    · exact k M Scr.rf
