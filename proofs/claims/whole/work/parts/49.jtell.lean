/-! OPERATIONS of the component, nine: tells -/
def bsT (s : Sg) (day h t : Nat) : Nat → List (Nat × Nat) := fun d => g_bs s d ++ (if d = day then [(h, t)] else [])
def fdT (s : Sg) (row day h t : Nat) : Nat := (run (g_en s) (trow row) 9 (g_wy s 3) (bsT s day h t) (day + 1)).2.2.2.2
def e1F (f : Nat) : Nat := if f = 9 then 0 else f + 1
def tlN (s : Sg) (day h t x : Nat) : Nat → Nat
  | 0 => 0
  | n + 1 => if outB s (trow n) 9 = true ∧ e1F (fdT s n day h t) = x then tlN s day h t x n + 1 else tlN s day h t x n
theorem tlN_le (s : Sg) (day h t x : Nat) : ∀ n, tlN s day h t x n ≤ n
  | 0 => Nat.le_refl _
  | n + 1 => by have := tlN_le s day h t x n; unfold tlN; split <;> omega
def mxF (f : Nat → Nat) : Nat → Nat
  | 0 => 0
  | n + 1 => if f n ≤ mxF f n then mxF f n else f n
theorem mxF_le {f : Nat → Nat} {b : Nat} (h : ∀ x, f x ≤ b) : ∀ n, mxF f n ≤ b
  | 0 => Nat.zero_le _
  | n + 1 => by have := mxF_le h n; have := h n; unfold mxF; split <;> omega
def grT (s : Sg) (day h t : Nat) : Nat := mxF (fun x => tlN s day h t x 1000) 7
def lstT (s : Sg) (day h : Nat) : Nat := if grT s day h 2 < grT s day h (if grT s day h 1 < grT s day h 0 then 1 else 0) then 2 else if grT s day h 1 < grT s day h 0 then 1 else 0
abbrev okTel (s : Sg) (dy h : Int32) : Prop := (0 ≤ dy ∧ dy < 30) ∧ (0 ≤ h ∧ h < nI (g_hn s))
def r_tells (s : Sg) (dy h : Int32) : Int32 := if okTel s dy h then nI (lstT s (cl dy) (cl h)) else -2
theorem grT_le (s : Sg) (day h t : Nat) : grT s day h t ≤ 1000 := mxF_le (fun x => tlN_le s day h t x 1000) 7
theorem runJ_congr {e : En} {ts : Nat → Nat} {tr sl K : Nat} {bs bs' : Nat → List (Nat × Nat)} (h : ∀ k, k < K → bs k = bs' k) : ∀ k, k ≤ K → run e ts tr sl bs k = run e ts tr sl bs' k
  | 0, _ => rfl
  | k + 1, hk => by
    unfold run
    rw [runJ_congr h k (by omega), h k (by omega)]
theorem fdT_eq (s : Sg) (row day h t : Nat) : fdT s row day h t = (eve (g_en s) 9 (if (g_wy s 3).testBit day then g_run s (trow row) 9 day else brg (g_en s) (trow row) day h t (brgs (g_en s) (trow row) day (g_bs s day) (g_run s (trow row) 9 day)))).2.2.2.2 := by
  unfold fdT
  rw [run, dayS]
  rw [runJ_congr (bs' := g_bs s) (K := day) (fun k hk => by unfold bsT; rw [if_neg (by omega), List.append_nil]) day (Nat.le_refl _)]
  rw [show bsT s day h t day = g_bs s day ++ [(h, t)] by unfold bsT; rw [if_pos rfl]]
  rw [show brgs (g_en s) (trow row) day (g_bs s day ++ [(h, t)]) (run (g_en s) (trow row) 9 (g_wy s 3) (g_bs s) day) = brg (g_en s) (trow row) day h t (brgs (g_en s) (trow row) day (g_bs s day) (run (g_en s) (trow row) 9 (g_wy s 3) (g_bs s) day)) by unfold brgs; rw [List.foldl_append]; rfl]
theorem fdT_lt {s : Sg} (hw : WF s) {row day h t : Nat} (hrow : row < 1000) (hd : day < 30) (ht : t < 3) : fdT s row day h t < g_hn s ∨ fdT s row day h t = 9 := by
  refine (runW hw.en (ts := trow row) (fun t => trow_le hrow t) (bs := bsT s day h t) (fun k q hq => ?_) (fun k => ?_) (day + 1) (by omega)).2.2.2.2.1
  · unfold bsT at hq
    rcases List.mem_append.mp hq with hq | hq
    · exact (g_bs_wf hw k q hq).2
    · by_cases hk : k = day
      · rw [if_pos hk] at hq
        have : q = (h, t) := by simpa using hq
        rw [this]; exact ht
      · rw [if_neg hk] at hq; exact absurd hq List.not_mem_nil
  · unfold bsT
    have := g_bs_len hw k
    rw [List.length_append]
    split <;> simp <;> omega
theorem c_J_tallyFindings {d day h row : Nat} {cc : Nat → Nat} {s : Sg} {M : j_M} {Q : Option Value → j_M → Prop} (hw : WF s) (hR : RepC s M) (hday : day < 30) (hh : h < g_hn s) (hrow : row < 1000) (hta : ∀ t, t < 3 → M 14 t = nI (trow row t)) (hcc : ∀ y, y < 21 → M 34 y = nI (cc y))
    (k : ∀ M', Scr M M' → (∀ y, y < 21 → M' 34 y = nI (cc y + (if e1F (fdT s row day h (y / 7)) = y % 7 then 1 else 0))) → Q none M') : j_Ct (d + 3) I_J_tallyFindings [.ref 0, .int (nI day), .int (nI h)] M Q := by
  refine j_met (by decide +kernel) co_J_tallyFindings (Nat.le_of_ble_eq_true rfl) (fun X hX => ?_)
  show j_W (d + 3) I_J_tallyFindings X 0 [some (.ref 0), some (.int (nI day)), some (.int (nI h)), none, none, none, none] [] M
  have hn6 : g_hn s ≤ 6 := hnB_le hw.1
  have hts : ∀ t, trow row t ≤ 9 := fun t => trow_le hrow t
  have hwd := g_runW hw hts 9 (show day ≤ 30 by omega)
  have tail : ∀ (m1 : Mo) (b : Nat) (sl : Int32), MoW (g_en s) b m1 → b ≤ 900000 → (sl = if (g_wy s 3).testBit day then 0 else 1) → (∀ t, fdT s row day h t = (eve (g_en s) 9 (if (g_wy s 3).testBit day then m1 else brg (g_en s) (trow row) day h t m1)).2.2.2.2) → ∀ (r t : Nat) (M1 : j_M), t + r = 3 → Scr M M1 → MoodAt M1 35 (trow row) 9 m1 → (∀ y, y < 21 → M1 34 y = nI (cc y + (if y / 7 < t ∧ e1F (fdT s row day h (y / 7)) = y % 7 then 1 else 0))) → j_W (d + 3) I_J_tallyFindings X 82 [some (.ref 0), some (.int (nI day)), some (.int (nI h)), some (.ref 35), some (.ref 39), some (.int sl), some (.int (nI t))] [] M1 := by
    intro m1 b sl hw1 hb1 hsl hfd r
    induction r with
    | zero =>
      intro t M1 ht hS hM hy
      have ht' : t = 3 := by omega
      subst ht'
      refine jx_iload6 (pc := 82) d_J_tallyFindings_82 ?_
      refine jx_iconst (pc := 84) (v := 3) d_J_tallyFindings_84 (by decide) ?_
      refine jx_icmp_ge (pc := 85) 149 d_J_tallyFindings_85 (by decide) (fun c85 => ?_) (fun c85 => absurd c85 (fun q => q (show nI 3 ≤ nI 3 from Int32.le_refl _)))
      refine jx_vret (pc := 149) hX rfl d_J_tallyFindings_149 ?_
      rotate_left
      refine k M1 hS (fun y hy2 => ?_)
      rw [hy y hy2]
      by_cases hc : e1F (fdT s row day h (y / 7)) = y % 7
      · rw [if_pos hc, if_pos ⟨by omega, hc⟩]
      · rw [if_neg hc, if_neg (fun z => hc z.2)]
    | succ r ih =>
      intro t M1 ht hS hM hy
      have ht3 : t < 3 := by omega
      have hst : ¬ (3 : Int32) ≤ nI t := (show ¬ nI 3 ≤ nI t from nI_ge (by omega) (by omega))
      have hfl := fdT_lt hw (h := h) hrow hday ht3
      have he1 : em (fdT s row day h t) + 1 = nI (e1F (fdT s row day h t)) ∧ e1F (fdT s row day h t) < 7 := by
        unfold e1F
        rcases hfl with hf | hf
        · rw [if_neg (by omega), em_lt (by omega), nI_1]; exact ⟨rfl, by omega⟩
        · rw [if_pos hf, hf]; exact ⟨rfl, by omega⟩
      have S112 : ∀ (M2 : j_M) (m2 : Mo) (b2 : Nat), Scr M M2 → MoodAt M2 35 (trow row) 9 m1 → MoodAt M2 39 (trow row) 9 m2 → MoW (g_en s) b2 m2 → b2 ≤ 1000000 → M2 34 = M1 34 → (eve (g_en s) 9 m2).2.2.2.2 = fdT s row day h t → j_W (d + 3) I_J_tallyFindings X 112 [some (.ref 0), some (.int (nI day)), some (.int (nI h)), some (.ref 35), some (.ref 39), some (.int sl), some (.int (nI t))] [] M2 := by
        intro M2 m2 b2 hS2 hM35 hM2 hw2 hb2 h34 hev
        have hE2 := ((hS2.rep hR).ce hw).1
        have S121 : ∀ (M3 : j_M), Scr M M3 → MoodAt M3 35 (trow row) 9 m1 → M3 34 = M1 34 → M3 39 6 = em (fdT s row day h t) → j_W (d + 3) I_J_tallyFindings X 121 [some (.ref 0), some (.int (nI day)), some (.int (nI h)), some (.ref 35), some (.ref 39), some (.int sl), some (.int (nI t))] [] M3 := by
          intro M3 hS3 hM3 h343 h6
          have ex : nI t * 7 + M3 39 6 + 1 = nI (7 * t + e1F (fdT s row day h t)) := by
            rw [h6, Int32.add_assoc, he1.1, show (7 : Int32) = nI 7 from rfl, nI_mul, nI_add, Nat.mul_comm]
          have ec : (nI (7 * t + e1F (fdT s row day h t))).toNatClampNeg = 7 * t + e1F (fdT s row day h t) := nI_cl (by have := he1.2; omega)
          have hvx : vp_in (nI t * 7 + M3 39 6 + 1) 21 := by rw [ex]; exact vp_in_nI (by have := he1.2; omega) (by omega)
          refine jx_aload0 (pc := 121) d_J_tallyFindings_121 ?_
          refine jx_getR (pc := 122) gf_J_85 d_J_tallyFindings_122 ad_0 sh_0 rfl ?_
          refine jx_iload6 (pc := 125) d_J_tallyFindings_125 ?_
          refine jx_bipush (pc := 127) (v := 7) d_J_tallyFindings_127 (by decide) ?_
          refine jx_imul (pc := 129) d_J_tallyFindings_129 ?_
          refine jx_aload4 (pc := 130) d_J_tallyFindings_130 ?_
          refine jx_getI (pc := 132) gf_J_159 d_J_tallyFindings_132 (mo_a mo_39) (mo_s mo_39) rfl ?_
          refine jx_iadd (pc := 135) d_J_tallyFindings_135 ?_
          refine jx_iconst (pc := 136) (v := 1) d_J_tallyFindings_136 (by decide) ?_
          refine jx_iadd (pc := 137) d_J_tallyFindings_137 ?_
          refine jx_dup2ri (pc := 138) d_J_tallyFindings_138 ?_
          refine jx_iald (pc := 139) d_J_tallyFindings_139 ad_34 sh_34 hvx ?_
          refine jx_iconst (pc := 140) (v := 1) d_J_tallyFindings_140 (by decide) ?_
          refine jx_iadd (pc := 141) d_J_tallyFindings_141 ?_
          refine jx_iast (pc := 142) d_J_tallyFindings_142 ad_34 sh_34 hvx ?_
          refine jx_iinc6 (pc := 143) d_J_tallyFindings_143 rfl (Nat.le_of_ble_eq_true rfl) ?_
          refine jx_goto (pc := 146) 82 d_J_tallyFindings_146 (by decide) ?_
          rotate_left
          rw [nI_add1, ex, ec]
          refine ih (t + 1) _ (by omega) (hS3.tr (fun b hb => j_set_n _ _ _ (by unfold PC at hb; omega))) (hM3.cong (j_set_n _ _ _ (by omega)) (j_set_n _ _ _ (by omega)) (j_set_n _ _ _ (by omega)) (j_set_n _ _ _ (by omega))) (fun y hy2 => ?_)
          rw [j_set_s, h343]
          unfold upd
          have h7 := he1.2
          by_cases hc : y = 7 * t + e1F (fdT s row day h t)
          · rw [if_pos hc, ← hc, hy y hy2, nI_1]
            have hd7 : y / 7 = t := by omega
            rw [hd7, if_neg (fun z => by have := z.1; omega), if_pos ⟨by omega, by omega⟩]
          · rw [if_neg hc, hy y hy2]
            by_cases hc2 : y / 7 < t ∧ e1F (fdT s row day h (y / 7)) = y % 7
            · rw [if_pos hc2, if_pos ⟨by omega, hc2.2⟩]
            · rw [if_neg hc2, if_neg (fun z => hc2 ⟨by
                have h1 := z.1
                have : y / 7 ≠ t := fun e => by rw [e] at z; have := z.2; omega
                omega, z.2⟩)]
        refine jx_aload0 (pc := 112) d_J_tallyFindings_112 ?_
        refine jx_getR (pc := 113) gf_J_40 d_J_tallyFindings_113 ad_0 sh_0 rfl ?_
        refine jx_aload4 (pc := 116) d_J_tallyFindings_116 ?_
        refine jx_callV1 (pc := 118) (d' := d + 2) vo_Co_evening lk_J_259 d_J_tallyFindings_118 ad_15 sh_15 rfl (by omega) (Nat.le_of_ble_eq_true rfl) ?_
        refine c_Co_evening (d := d + 1) mo_39 hE2 hM2 hw2 hb2 (Or.inr rfl) (fun M3 hM3 hO3 => ?_)
        refine jx_r0 ?_
        rotate_left
        refine S121 M3 (hS2.tr (Scr.off mo_39 hO3)) (hM35.cong (hO3 35 (by omega) (by omega) (by omega) (by omega)) (hO3 36 (by omega) (by omega) (by omega) (by omega)) (hO3 37 (by omega) (by omega) (by omega) (by omega)) (hO3 38 (by omega) (by omega) (by omega) (by omega))) (by rw [hO3 34 (by omega) (by omega) (by omega) (by omega)]; exact h34) ?_
        rw [← hev]
        exact hM3.2.2.2.2.2.2
      have hfd2 := hfd t
      by_cases hs : (g_wy s 3).testBit day = true
      · rw [if_pos hs] at hfd2 hsl
        subst hsl
        refine jx_iload6 (pc := 82) d_J_tallyFindings_82 ?_
        refine jx_iconst (pc := 84) (v := 3) d_J_tallyFindings_84 (by decide) ?_
        refine jx_icmp_ge (pc := 85) 149 d_J_tallyFindings_85 (by decide) (fun c85 => absurd c85 hst) (fun c85 => ?_)
        refine jx_aload4 (pc := 88) d_J_tallyFindings_88 ?_
        refine jx_aload3 (pc := 90) d_J_tallyFindings_90 ?_
        refine jx_callV1 (pc := 91) (d' := d + 2) vo_Mo_become lk_J_402 d_J_tallyFindings_91 (mo_a mo_39) (mo_s mo_39) rfl (by omega) (Nat.le_of_ble_eq_true rfl) ?_
        refine c_Mo_become (d := d) mo_39 mo_35 (by omega) hM (fun M2 hM2 hO2 => ?_)
        have k35 : MoodAt M2 35 (trow row) 9 m1 := hM.cong (hO2 35 (by omega) (by omega) (by omega) (by omega)) (hO2 36 (by omega) (by omega) (by omega) (by omega)) (hO2 37 (by omega) (by omega) (by omega) (by omega)) (hO2 38 (by omega) (by omega) (by omega) (by omega))
        refine jx_r0 ?_
        refine jx_iload5 (pc := 94) d_J_tallyFindings_94 ?_
        refine jx_if_eq (pc := 96) 112 d_J_tallyFindings_96 (by decide) (fun c96 => ?_) (fun c96 => absurd c96 (fun q => q rfl))
        rotate_left
        exact S112 M2 m1 b (hS.tr (Scr.off mo_39 hO2)) k35 hM2 hw1 (by omega) (hO2 34 (by omega) (by omega) (by omega) (by omega)) hfd2.symm
      · rw [if_neg hs] at hfd2 hsl
        subst hsl
        have hw2 := brgW (h := h) hw.en hts hday ht3 hw1
        refine jx_iload6 (pc := 82) d_J_tallyFindings_82 ?_
        refine jx_iconst (pc := 84) (v := 3) d_J_tallyFindings_84 (by decide) ?_
        refine jx_icmp_ge (pc := 85) 149 d_J_tallyFindings_85 (by decide) (fun c85 => absurd c85 hst) (fun c85 => ?_)
        refine jx_aload4 (pc := 88) d_J_tallyFindings_88 ?_
        refine jx_aload3 (pc := 90) d_J_tallyFindings_90 ?_
        refine jx_callV1 (pc := 91) (d' := d + 2) vo_Mo_become lk_J_402 d_J_tallyFindings_91 (mo_a mo_39) (mo_s mo_39) rfl (by omega) (Nat.le_of_ble_eq_true rfl) ?_
        refine c_Mo_become (d := d) mo_39 mo_35 (by omega) hM (fun M2 hM2 hO2 => ?_)
        have k35 : MoodAt M2 35 (trow row) 9 m1 := hM.cong (hO2 35 (by omega) (by omega) (by omega) (by omega)) (hO2 36 (by omega) (by omega) (by omega) (by omega)) (hO2 37 (by omega) (by omega) (by omega) (by omega)) (hO2 38 (by omega) (by omega) (by omega) (by omega))
        refine jx_r0 ?_
        refine jx_iload5 (pc := 94) d_J_tallyFindings_94 ?_
        refine jx_if_eq (pc := 96) 112 d_J_tallyFindings_96 (by decide) (fun c96 => absurd c96 (by decide)) (fun c96 => ?_)
        refine jx_aload0 (pc := 99) d_J_tallyFindings_99 ?_
        refine jx_getR (pc := 100) gf_J_40 d_J_tallyFindings_100 ad_0 sh_0 rfl ?_
        refine jx_aload4 (pc := 103) d_J_tallyFindings_103 ?_
        refine jx_iload1 (pc := 105) d_J_tallyFindings_105 ?_
        refine jx_iload2 (pc := 106) d_J_tallyFindings_106 ?_
        refine jx_iload6 (pc := 107) d_J_tallyFindings_107 ?_
        refine jx_callV4 (pc := 109) (d' := d) vo_Co_bring lk_J_255 d_J_tallyFindings_109 ad_15 sh_15 rfl (by omega) (Nat.le_of_ble_eq_true rfl) ?_
        refine c_Co_bring mo_39 (((hS.tr (Scr.off mo_39 hO2)).rep hR).ce hw).1 hts hM2 hw1 (by omega) hday (by omega) ht3 (fun M3 hM3 hO3 => ?_)
        refine jx_r0 ?_
        rotate_left
        exact S112 M3 _ _ (hS.tr (Scr.off mo_39 (hO2.tr hO3))) (k35.cong (hO3 35 (by omega) (by omega) (by omega) (by omega)) (hO3 36 (by omega) (by omega) (by omega) (by omega)) (hO3 37 (by omega) (by omega) (by omega) (by omega)) (hO3 38 (by omega) (by omega) (by omega) (by omega))) hM3 hw2 (by omega) (by rw [hO3 34 (by omega) (by omega) (by omega) (by omega)]; exact hO2 34 (by omega) (by omega) (by omega) (by omega)) hfd2.symm
  have days : ∀ (r dd : Nat) (M1 : j_M) (sl : Int32), (sl = if (g_wy s 3).testBit day then 0 else 1) → dd + r = day → Scr M M1 → M1 34 = M 34 → MoodAt M1 35 (trow row) 9 (g_run s (trow row) 9 dd) → j_W (d + 3) I_J_tallyFindings X 43 [some (.ref 0), some (.int (nI day)), some (.int (nI h)), some (.ref 35), some (.ref 39), some (.int sl), some (.int (nI dd))] [] M1 := by
    intro r
    induction r with
    | zero =>
      intro dd M1 sl hsl hd hS h34 hM
      have hd' : dd = day := by omega
      subst hd'
      have hC := (hS.rep hR).ce hw
      have hfT := fdT_eq s row dd h
      by_cases hs : (g_wy s 3).testBit dd = true
      · have hsl2 := hsl
        rw [if_pos hs] at hsl2
        have hz : sl = 0 := hsl2
        refine jx_iload6 (pc := 43) d_J_tallyFindings_43 ?_
        refine jx_iload1 (pc := 45) d_J_tallyFindings_45 ?_
        refine jx_icmp_ge (pc := 46) 65 d_J_tallyFindings_46 (by decide) (fun c46 => ?_) (fun c46 => absurd c46 (fun q => q (Int32.le_refl _)))
        refine jx_iload5 (pc := 65) d_J_tallyFindings_65 ?_
        refine jx_if_eq (pc := 67) 79 d_J_tallyFindings_67 (by decide) (fun c67 => ?_) (fun c67 => absurd c67 (fun q => q hz))
        refine jx_iconst (pc := 79) (v := 0) d_J_tallyFindings_79 (by decide) ?_
        refine jx_istore6 (pc := 80) d_J_tallyFindings_80 rfl (Nat.le_of_ble_eq_true rfl) ?_
        rotate_left
        exact tail _ _ sl hwd (by omega) hsl (fun t => by rw [hfT t, if_pos hs, if_pos hs]) 3 0 M1 (by omega) hS hM (fun y hy => by rw [h34, hcc y hy, if_neg (fun z => absurd z.1 (by omega))]; rfl)
      · have hsl2 := hsl
        rw [if_neg hs] at hsl2
        have hz : ¬ sl = 0 := by rw [hsl2]; decide
        have hwf := hC.2.1.wf hday
        have hw1 := brgsW hw.en hts hday (g_bs s dd) _ _ (fun q hq => (hwf.2 q hq).2) hwd
        refine jx_iload6 (pc := 43) d_J_tallyFindings_43 ?_
        refine jx_iload1 (pc := 45) d_J_tallyFindings_45 ?_
        refine jx_icmp_ge (pc := 46) 65 d_J_tallyFindings_46 (by decide) (fun c46 => ?_) (fun c46 => absurd c46 (fun q => q (Int32.le_refl _)))
        refine jx_iload5 (pc := 65) d_J_tallyFindings_65 ?_
        refine jx_if_eq (pc := 67) 79 d_J_tallyFindings_67 (by decide) (fun c67 => absurd c67 hz) (fun c67 => ?_)
        refine jx_aload0 (pc := 70) d_J_tallyFindings_70 ?_
        refine jx_getR (pc := 71) gf_J_40 d_J_tallyFindings_71 ad_0 sh_0 rfl ?_
        refine jx_aload3 (pc := 74) d_J_tallyFindings_74 ?_
        refine jx_iload1 (pc := 75) d_J_tallyFindings_75 ?_
        refine jx_callV2 (pc := 76) (d' := d + 1) vo_Co_comeAsTold lk_J_248 d_J_tallyFindings_76 ad_15 sh_15 rfl (by omega) (Nat.le_of_ble_eq_true rfl) ?_
        refine c_Co_comeAsTold (d := d) mo_35 hC hts hM hwd (by omega) hday (fun M2 hM2 hO2 => ?_)
        refine jx_r0 ?_
        refine jx_iconst (pc := 79) (v := 0) d_J_tallyFindings_79 (by decide) ?_
        refine jx_istore6 (pc := 80) d_J_tallyFindings_80 rfl (Nat.le_of_ble_eq_true rfl) ?_
        rotate_left
        exact tail _ _ sl hw1 (by omega) hsl (fun t => by rw [hfT t, if_neg hs, if_neg hs]) 3 0 M2 (by omega) (hS.tr (Scr.off mo_35 hO2)) hM2 (fun y hy => by rw [hO2 34 (by omega) (by omega) (by omega) (by omega), h34, hcc y hy, if_neg (fun z => absurd z.1 (by omega))]; rfl)
    | succ r ih =>
      intro dd M1 sl hsl hd hS h34 hM
      have hC := (hS.rep hR).ce hw
      refine jx_iload6 (pc := 43) d_J_tallyFindings_43 ?_
      refine jx_iload1 (pc := 45) d_J_tallyFindings_45 ?_
      refine jx_icmp_ge (pc := 46) 65 d_J_tallyFindings_46 (by decide) (fun c46 => absurd c46 (nI_ge (by omega) (by omega))) (fun c46 => ?_)
      refine jx_aload0 (pc := 49) d_J_tallyFindings_49 ?_
      refine jx_getR (pc := 50) gf_J_40 d_J_tallyFindings_50 ad_0 sh_0 rfl ?_
      refine jx_aload3 (pc := 53) d_J_tallyFindings_53 ?_
      refine jx_iload6 (pc := 54) d_J_tallyFindings_54 ?_
      refine jx_callV2 (pc := 56) (d' := d + 2) vo_Co_liveDay lk_J_374 d_J_tallyFindings_56 ad_15 sh_15 rfl (by omega) (Nat.le_of_ble_eq_true rfl) ?_
      refine c_Co_liveDay (d := d) mo_35 hC hts hM (g_runW hw hts 9 (show dd ≤ 30 by omega)) (by omega) (show dd < 30 by omega) (Or.inr rfl) (fun M2 hM2 hO2 => ?_)
      refine jx_r0 ?_
      refine jx_iinc6 (pc := 59) d_J_tallyFindings_59 rfl (Nat.le_of_ble_eq_true rfl) ?_
      refine jx_goto (pc := 62) 43 d_J_tallyFindings_62 (by decide) ?_
      rotate_left
      rw [nI_add1]
      exact ih (dd + 1) M2 sl hsl (by omega) (hS.tr (Scr.off mo_35 hO2)) (by rw [hO2 34 (by omega) (by omega) (by omega) (by omega)]; exact h34) hM2
  have hC := hR.ce hw
  refine jx_aload0 (pc := 0) d_J_tallyFindings_0 ?_
  refine jx_getR (pc := 1) gf_J_40 d_J_tallyFindings_1 ad_0 sh_0 rfl ?_
  refine jx_getR (pc := 4) gf_J_237 d_J_tallyFindings_4 ad_15 sh_15 rfl ?_
  refine jx_iconst (pc := 7) (v := 0) d_J_tallyFindings_7 (by decide) ?_
  refine jx_aald (pc := 8) (b := 35) d_J_tallyFindings_8 ad_16 (Or.inl rfl) sh_16 (by unfold vp_in; decide) (by decide) ?_
  refine jx_astore3 (pc := 9) d_J_tallyFindings_9 rfl (Nat.le_of_ble_eq_true rfl) ?_
  refine jx_aload0 (pc := 10) d_J_tallyFindings_10 ?_
  refine jx_getR (pc := 11) gf_J_40 d_J_tallyFindings_11 ad_0 sh_0 rfl ?_
  refine jx_getR (pc := 14) gf_J_237 d_J_tallyFindings_14 ad_15 sh_15 rfl ?_
  refine jx_iconst (pc := 17) (v := 1) d_J_tallyFindings_17 (by decide) ?_
  refine jx_aald (pc := 18) (b := 39) d_J_tallyFindings_18 ad_16 (Or.inl rfl) sh_16 (by unfold vp_in; decide) (by decide) ?_
  refine jx_astore4 (pc := 19) d_J_tallyFindings_19 rfl (Nat.le_of_ble_eq_true rfl) ?_
  refine jx_aload0 (pc := 21) d_J_tallyFindings_21 ?_
  refine jx_getR (pc := 22) gf_J_40 d_J_tallyFindings_22 ad_0 sh_0 rfl ?_
  refine jx_iload1 (pc := 25) d_J_tallyFindings_25 ?_
  refine jx_callV1 (pc := 26) (d' := d) vo_Co_isAwake lk_J_245 d_J_tallyFindings_26 ad_15 sh_15 rfl (by omega) (Nat.le_of_ble_eq_true rfl) ?_
  refine c_Co_awake hC.2.2.1 hC.2.2.2 hday ?_
  refine jx_r1 ?_
  refine jx_istore5 (pc := 29) d_J_tallyFindings_29 rfl (Nat.le_of_ble_eq_true rfl) ?_
  refine jx_aload3 (pc := 31) d_J_tallyFindings_31 ?_
  refine jx_aload0 (pc := 32) d_J_tallyFindings_32 ?_
  refine jx_getR (pc := 33) gf_J_32 d_J_tallyFindings_33 ad_0 sh_0 rfl ?_
  refine jx_iconst (pc := 36) (v := (-1)) d_J_tallyFindings_36 (by decide) ?_
  refine jx_callV2 (pc := 37) (d' := d) vo_Mo_begin lk_J_241 d_J_tallyFindings_37 (mo_a mo_35) (mo_s mo_35) rfl (by omega) (Nat.le_of_ble_eq_true rfl) ?_
  refine c_Mo_begin (ts := trow row) (tr := 9) mo_35 (by omega) sh_14 hta (fun M1 hM1 hO1 => ?_)
  refine jx_r0 ?_
  refine jx_iconst (pc := 40) (v := 0) d_J_tallyFindings_40 (by decide) ?_
  refine jx_istore6 (pc := 41) d_J_tallyFindings_41 rfl (Nat.le_of_ble_eq_true rfl) ?_
  rotate_left
  exact days day 0 M1 _ rfl (by omega) (Scr.off mo_35 hO1) (hO1 34 (by omega) (by omega) (by omega) (by omega)) hM1

theorem c_J_greatestTally {d t : Nat} {cc : Nat → Nat} {M : j_M} {Q : Option Value → j_M → Prop} (ht : t < 3) (hle : ∀ x, cc x ≤ 1000) (hcc : ∀ x, x < 7 → M 34 (7 * t + x) = nI (cc x)) (k : Q (some (.int (nI (mxF cc 7)))) M) : j_Ct (d + 2) I_J_greatestTally [.ref 0, .int (nI t)] M Q := by
  refine j_met (by decide +kernel) co_J_greatestTally (Nat.le_of_ble_eq_true rfl) (fun X hX => ?_)
  show j_W (d + 2) I_J_greatestTally X 0 [some (.ref 0), some (.int (nI t)), none, none] [] M
  have loop : ∀ (r i : Nat), i + r = 7 → j_W (d + 2) I_J_greatestTally X 4 [some (.ref 0), some (.int (nI t)), some (.int (nI (mxF cc i))), some (.int (nI i))] [] M := by
    intro r
    induction r with
    | zero =>
      intro i hi
      have hi' : i = 7 := by omega
      subst hi'
      refine jx_iload3 (pc := 4) d_J_greatestTally_4 ?_
      refine jx_bipush (pc := 5) (v := 6) d_J_greatestTally_5 (by decide) ?_
      refine jx_icmp_gt (pc := 7) 32 d_J_greatestTally_7 (by decide) (fun c7 => ?_) (fun c7 => absurd c7 (fun q => q (show nI 6 < nI 7 from nI_lt (by omega) (by omega))))
      refine jx_iload2 (pc := 32) d_J_greatestTally_32 ?_
      refine jx_iret (pc := 33) hX rfl d_J_greatestTally_33 ?_
      rotate_left
      exact k
    | succ r ih =>
      intro i hi
      have h9 := ih (i + 1) (by omega)
      have ex : nI t * 7 + nI i = nI (7 * t + i) := by rw [show (7 : Int32) = nI 7 from rfl, nI_mul, nI_add, Nat.mul_comm]
      have ec : (nI (7 * t + i)).toNatClampNeg = 7 * t + i := nI_cl (by omega)
      have hvx : vp_in (nI t * 7 + nI i) 21 := by rw [ex]; exact vp_in_nI (by omega) (by omega)
      have l1 := hle i
      have l2 := mxF_le hle i
      refine jx_iload3 (pc := 4) d_J_greatestTally_4 ?_
      refine jx_bipush (pc := 5) (v := 6) d_J_greatestTally_5 (by decide) ?_
      refine jx_icmp_gt (pc := 7) 32 d_J_greatestTally_7 (by decide) (fun c7 => absurd c7 (show ¬ nI 6 < nI i from nI_nlt (by omega) (by omega))) (fun c7 => ?_)
      refine jx_iload2 (pc := 10) d_J_greatestTally_10 ?_
      refine jx_aload0 (pc := 11) d_J_greatestTally_11 ?_
      refine jx_getR (pc := 12) gf_J_85 d_J_greatestTally_12 ad_0 sh_0 rfl ?_
      refine jx_iload1 (pc := 15) d_J_greatestTally_15 ?_
      refine jx_bipush (pc := 16) (v := 7) d_J_greatestTally_16 (by decide) ?_
      refine jx_imul (pc := 18) d_J_greatestTally_18 ?_
      refine jx_iload3 (pc := 19) d_J_greatestTally_19 ?_
      refine jx_iadd (pc := 20) d_J_greatestTally_20 ?_
      refine jx_iald (pc := 21) d_J_greatestTally_21 ad_34 sh_34 hvx ?_
      refine jx_mmax (pc := 22) lk_J_405 mm_max_1 mm_ini mm_max_3 (by omega) (Nat.le_of_ble_eq_true rfl) d_J_greatestTally_22 ?_
      refine jx_istore2 (pc := 25) d_J_greatestTally_25 rfl (Nat.le_of_ble_eq_true rfl) ?_
      refine jx_iinc3 (pc := 26) d_J_greatestTally_26 rfl (Nat.le_of_ble_eq_true rfl) ?_
      refine jx_goto (pc := 29) 4 d_J_greatestTally_29 (by decide) ?_
      rotate_left
      rw [nI_add1, ex, ec, hcc i (by omega)]
      rw [mxF] at h9
      by_cases hc : cc i ≤ mxF cc i
      · rw [if_pos hc] at h9
        rw [if_neg (nI_nlt (by omega) (by omega))]
        exact h9
      · rw [if_neg hc] at h9
        rw [if_pos (nI_lt (by omega) (by omega))]
        exact h9
  refine jx_iconst (pc := 0) (v := 0) d_J_greatestTally_0 (by decide) ?_
  refine jx_istore2 (pc := 1) d_J_greatestTally_1 rfl (Nat.le_of_ble_eq_true rfl) ?_
  refine jx_iconst (pc := 2) (v := 0) d_J_greatestTally_2 (by decide) ?_
  refine jx_istore3 (pc := 3) d_J_greatestTally_3 rfl (Nat.le_of_ble_eq_true rfl) ?_
  rotate_left
  exact loop 7 0 (by omega)
theorem c_J_tells {d : Nat} {dy h : Int32} {s : Sg} {M : j_M} {Q : Option Value → j_M → Prop} (hw : WF s) (hR : RepC s M) (k : ∀ M', Scr M M' → Q (some (.int (r_tells s dy h))) M') : j_Ct (d + 5) I_J_tells [.ref 0, .int dy, .int h] M Q := by
  refine j_met (by decide +kernel) co_J_tells (Nat.le_of_ble_eq_true rfl) (fun X hX => ?_)
  show j_W (d + 5) I_J_tells X 0 [some (.ref 0), some (.int dy), some (.int h), none, none] [] M
  have h13 : M 1 3 = nI (g_hn s) := hR.1.2.1
  have hn6 : g_hn s ≤ 6 := hnB_le hw.1
  by_cases hb : okTel s dy h
  · obtain ⟨g1, g2⟩ := id hb
    have hp2 : 0 ≤ h ∧ h < M 1 3 := by rw [h13]; exact g2
    obtain ⟨a, ha, rfl, ea⟩ := okd dy 30 (by omega) g1
    obtain ⟨c, hc, rfl, ec⟩ := okd h _ (by omega) g2
    have hr : r_tells s (nI a) (nI c) = nI (lstT s a c) := by unfold r_tells; rw [if_pos hb, ea, ec]
    rw [hr] at k
    have pick : ∀ (M2 : j_M), Scr M M2 → (∀ y, y < 21 → M2 34 y = nI (tlN s a c (y / 7) (y % 7) 1000)) → j_W (d + 5) I_J_tells X 79 [some (.ref 0), some (.int (nI a)), some (.int (nI c)), some (.int (nI 0)), some (.int (nI 1))] [] M2 := by
      intro M2 hS hy
      have hg : ∀ t, t < 3 → ∀ x, x < 7 → M2 34 (7 * t + x) = nI (tlN s a c t x 1000) := fun t ht x hx => by
        rw [hy (7 * t + x) (by omega), show (7 * t + x) / 7 = t by omega, show (7 * t + x) % 7 = x by omega]
      have step : ∀ (t l : Nat), t < 3 → l < 3 → j_W (d + 5) I_J_tells X 79 [some (.ref 0), some (.int (nI a)), some (.int (nI c)), some (.int (nI (if grT s a c t < grT s a c l then t else l))), some (.int (nI (t + 1)))] [] M2 → j_W (d + 5) I_J_tells X 79 [some (.ref 0), some (.int (nI a)), some (.int (nI c)), some (.int (nI l)), some (.int (nI t))] [] M2 := by
        intro t l ht hl h9
        have k1 := grT_le s a c t
        have k2 := grT_le s a c l
        by_cases hc2 : grT s a c t < grT s a c l
        · rw [if_pos hc2] at h9
          refine jx_iload4 (pc := 79) d_J_tells_79 ?_
          refine jx_iconst (pc := 81) (v := 3) d_J_tells_81 (by decide) ?_
          refine jx_icmp_ge (pc := 82) 108 d_J_tells_82 (by decide) (fun c82 => absurd c82 (show ¬ nI 3 ≤ nI t from nI_ge (by omega) (by omega))) (fun c82 => ?_)
          refine jx_aload0 (pc := 85) d_J_tells_85 ?_
          refine jx_iload4 (pc := 86) d_J_tells_86 ?_
          refine jx_callV1 (pc := 88) (d' := d + 4) vo_J_greatestTally lk_J_216 d_J_tells_88 ad_0 sh_0 rfl (by omega) (Nat.le_of_ble_eq_true rfl) ?_
          refine c_J_greatestTally (d := d + 2) (cc := fun x => tlN s a c t x 1000) ht (fun x => tlN_le s a c t x 1000) (hg t ht) ?_
          refine jx_r1 ?_
          refine jx_aload0 (pc := 91) d_J_tells_91 ?_
          refine jx_iload3 (pc := 92) d_J_tells_92 ?_
          refine jx_callV1 (pc := 93) (d' := d + 4) vo_J_greatestTally lk_J_216 d_J_tells_93 ad_0 sh_0 rfl (by omega) (Nat.le_of_ble_eq_true rfl) ?_
          refine c_J_greatestTally (d := d + 2) (cc := fun x => tlN s a c l x 1000) hl (fun x => tlN_le s a c l x 1000) (hg l hl) ?_
          refine jx_r1 ?_
          refine jx_icmp_ge (pc := 96) 102 d_J_tells_96 (by decide) (fun c96 => absurd c96 (show ¬ nI (grT s a c l) ≤ nI (grT s a c t) from nI_ge hc2 (by omega))) (fun c96 => ?_)
          refine jx_iload4 (pc := 99) d_J_tells_99 ?_
          refine jx_istore3 (pc := 101) d_J_tells_101 rfl (Nat.le_of_ble_eq_true rfl) ?_
          refine jx_iinc4 (pc := 102) d_J_tells_102 rfl (Nat.le_of_ble_eq_true rfl) ?_
          refine jx_goto (pc := 105) 79 d_J_tells_105 (by decide) ?_
          rotate_left
          rw [nI_add1]
          exact h9
        · rw [if_neg hc2] at h9
          refine jx_iload4 (pc := 79) d_J_tells_79 ?_
          refine jx_iconst (pc := 81) (v := 3) d_J_tells_81 (by decide) ?_
          refine jx_icmp_ge (pc := 82) 108 d_J_tells_82 (by decide) (fun c82 => absurd c82 (show ¬ nI 3 ≤ nI t from nI_ge (by omega) (by omega))) (fun c82 => ?_)
          refine jx_aload0 (pc := 85) d_J_tells_85 ?_
          refine jx_iload4 (pc := 86) d_J_tells_86 ?_
          refine jx_callV1 (pc := 88) (d' := d + 4) vo_J_greatestTally lk_J_216 d_J_tells_88 ad_0 sh_0 rfl (by omega) (Nat.le_of_ble_eq_true rfl) ?_
          refine c_J_greatestTally (d := d + 2) (cc := fun x => tlN s a c t x 1000) ht (fun x => tlN_le s a c t x 1000) (hg t ht) ?_
          refine jx_r1 ?_
          refine jx_aload0 (pc := 91) d_J_tells_91 ?_
          refine jx_iload3 (pc := 92) d_J_tells_92 ?_
          refine jx_callV1 (pc := 93) (d' := d + 4) vo_J_greatestTally lk_J_216 d_J_tells_93 ad_0 sh_0 rfl (by omega) (Nat.le_of_ble_eq_true rfl) ?_
          refine c_J_greatestTally (d := d + 2) (cc := fun x => tlN s a c l x 1000) hl (fun x => tlN_le s a c l x 1000) (hg l hl) ?_
          refine jx_r1 ?_
          refine jx_icmp_ge (pc := 96) 102 d_J_tells_96 (by decide) (fun c96 => ?_) (fun c96 => absurd c96 (fun q => q (show nI (grT s a c l) ≤ nI (grT s a c t) from nI_le (by omega) (by omega))))
          refine jx_iinc4 (pc := 102) d_J_tells_102 rfl (Nat.le_of_ble_eq_true rfl) ?_
          refine jx_goto (pc := 105) 79 d_J_tells_105 (by decide) ?_
          rotate_left
          rw [nI_add1]
          exact h9
      refine step 1 0 (by omega) (by omega) ?_
      refine step 2 _ (by omega) (by split <;> omega) ?_
      refine jx_iload4 (pc := 79) d_J_tells_79 ?_
      refine jx_iconst (pc := 81) (v := 3) d_J_tells_81 (by decide) ?_
      refine jx_icmp_ge (pc := 82) 108 d_J_tells_82 (by decide) (fun c82 => ?_) (fun c82 => absurd c82 (fun q => q (show nI 3 ≤ nI 3 from Int32.le_refl _)))
      refine jx_iload3 (pc := 108) d_J_tells_108 ?_
      refine jx_iret (pc := 109) hX rfl d_J_tells_109 ?_
      rotate_left
      exact k M2 hS
    have rows : ∀ (r i : Nat) (M2 : j_M), i + r = 1000 → Scr M M2 → (∀ y, y < 21 → M2 34 y = nI (tlN s a c (y / 7) (y % 7) i)) → j_W (d + 5) I_J_tells X 47 [some (.ref 0), some (.int (nI a)), some (.int (nI c)), some (.int (nI i)), none] [] M2 := by
      intro r
      induction r with
      | zero =>
        intro i M2 hi hS hy
        have hi' : i = 1000 := by omega
        subst hi'
        refine jx_iload3 (pc := 47) d_J_tells_47 ?_
        refine jx_sipush (pc := 48) (v := 1000) d_J_tells_48 (by decide) ?_
        refine jx_icmp_ge (pc := 51) 74 d_J_tells_51 (by decide) (fun c51 => ?_) (fun c51 => absurd c51 (fun q => q (show nI 1000 ≤ nI 1000 from Int32.le_refl _)))
        refine jx_iconst (pc := 74) (v := 0) d_J_tells_74 (by decide) ?_
        refine jx_istore3 (pc := 75) d_J_tells_75 rfl (Nat.le_of_ble_eq_true rfl) ?_
        refine jx_iconst (pc := 76) (v := 1) d_J_tells_76 (by decide) ?_
        refine jx_istore4 (pc := 77) d_J_tells_77 rfl (Nat.le_of_ble_eq_true rfl) ?_
        rotate_left
        exact pick M2 hS hy
      | succ r ih =>
        intro i M2 hi hS hy
        have hR2 := hS.rep hR
        by_cases hout : outB s (trow i) 9 = true
        · -- it explains
          refine jx_iload3 (pc := 47) d_J_tells_47 ?_
          refine jx_sipush (pc := 48) (v := 1000) d_J_tells_48 (by decide) ?_
          refine jx_icmp_ge (pc := 51) 74 d_J_tells_51 (by decide) (fun c51 => absurd c51 (show ¬ nI 1000 ≤ nI i from nI_ge (by omega) (by omega))) (fun c51 => ?_)
          refine jx_aload0 (pc := 54) d_J_tells_54 ?_
          refine jx_iload3 (pc := 55) d_J_tells_55 ?_
          refine jx_callV1 (pc := 56) (d' := d + 4) vo_J_explains lk_J_210 d_J_tells_56 ad_0 sh_0 rfl (by omega) (Nat.le_of_ble_eq_true rfl) ?_
          refine c_J_explains hw hR2 (by omega) (fun M3 hS3 hL3 ht3 => ?_)
          refine jx_r1 ?_
          refine jx_if_eq (pc := 59) 68 d_J_tells_59 (by decide) (fun c59 => absurd c59 (z01p hout)) (fun c59 => ?_)
          refine jx_aload0 (pc := 62) d_J_tells_62 ?_
          refine jx_iload1 (pc := 63) d_J_tells_63 ?_
          refine jx_iload2 (pc := 64) d_J_tells_64 ?_
          refine jx_callV2 (pc := 65) (d' := d + 4) vo_J_tallyFindings lk_J_213 d_J_tells_65 ad_0 sh_0 rfl (by omega) (Nat.le_of_ble_eq_true rfl) ?_
          refine c_J_tallyFindings (d := d + 1) (row := i) (cc := fun y => tlN s a c (y / 7) (y % 7) i) hw (hS3.rep hR2) ha hc (by omega) ht3 (fun y hy2 => by rw [hL3 34 (by omega) (by omega)]; exact hy y hy2) (fun M4 hS4 hy4 => ?_)
          refine jx_r0 ?_
          refine jx_iinc3 (pc := 68) d_J_tells_68 rfl (Nat.le_of_ble_eq_true rfl) ?_
          refine jx_goto (pc := 71) 47 d_J_tells_71 (by decide) ?_
          rotate_left
          rw [nI_add1]
          refine ih (i + 1) M4 (by omega) ((hS.tr hS3).tr hS4) (fun y hy2 => ?_)
          rw [hy4 y hy2, tlN]
          by_cases hq : e1F (fdT s i a c (y / 7)) = y % 7
          · rw [if_pos hq, if_pos ⟨hout, hq⟩]
          · rw [if_neg hq, if_neg (fun z => hq z.2)]; rfl
        · -- it does not
          refine jx_iload3 (pc := 47) d_J_tells_47 ?_
          refine jx_sipush (pc := 48) (v := 1000) d_J_tells_48 (by decide) ?_
          refine jx_icmp_ge (pc := 51) 74 d_J_tells_51 (by decide) (fun c51 => absurd c51 (show ¬ nI 1000 ≤ nI i from nI_ge (by omega) (by omega))) (fun c51 => ?_)
          refine jx_aload0 (pc := 54) d_J_tells_54 ?_
          refine jx_iload3 (pc := 55) d_J_tells_55 ?_
          refine jx_callV1 (pc := 56) (d' := d + 4) vo_J_explains lk_J_210 d_J_tells_56 ad_0 sh_0 rfl (by omega) (Nat.le_of_ble_eq_true rfl) ?_
          refine c_J_explains hw hR2 (by omega) (fun M3 hS3 hL3 ht3 => ?_)
          refine jx_r1 ?_
          refine jx_if_eq (pc := 59) 68 d_J_tells_59 (by decide) (fun c59 => ?_) (fun c59 => absurd c59 (fun q => q (z01.mpr hout)))
          refine jx_iinc3 (pc := 68) d_J_tells_68 rfl (Nat.le_of_ble_eq_true rfl) ?_
          refine jx_goto (pc := 71) 47 d_J_tells_71 (by decide) ?_
          rotate_left
          rw [nI_add1]
          refine ih (i + 1) M3 (by omega) (hS.tr hS3) (fun y hy2 => ?_)
          rw [hL3 34 (by omega) (by omega), hy y hy2, tlN, if_neg (fun z => hout z.1)]
    have zero : ∀ (r i : Nat) (M2 : j_M), i + r = 21 → Scr M M2 → (∀ y, y < i → M2 34 y = 0) → j_W (d + 5) I_J_tells X 23 [some (.ref 0), some (.int (nI a)), some (.int (nI c)), some (.int (nI i)), none] [] M2 := by
      intro r
      induction r with
      | zero =>
        intro i M2 hi hS hy
        have hi' : i = 21 := by omega
        subst hi'
        refine jx_iload3 (pc := 23) d_J_tells_23 ?_
        refine jx_aload0 (pc := 24) d_J_tells_24 ?_
        refine jx_getR (pc := 25) gf_J_85 d_J_tells_25 ad_0 sh_0 rfl ?_
        refine jx_alen (pc := 28) d_J_tells_28 ad_34 (Or.inl rfl) sh_34 rfl ?_
        refine jx_icmp_ge (pc := 29) 45 d_J_tells_29 (by decide) (fun c29 => ?_) (fun c29 => absurd c29 (fun q => q (show nI 21 ≤ nI 21 from Int32.le_refl _)))
        refine jx_iconst (pc := 45) (v := 0) d_J_tells_45 (by decide) ?_
        refine jx_istore3 (pc := 46) d_J_tells_46 rfl (Nat.le_of_ble_eq_true rfl) ?_
        rotate_left
        exact rows 1000 0 M2 (by omega) hS (fun y hy2 => by rw [hy y hy2]; rfl)
      | succ r ih =>
        intro i M2 hi hS hy
        have e1 : (nI i).toNatClampNeg = i := nI_cl (by omega)
        refine jx_iload3 (pc := 23) d_J_tells_23 ?_
        refine jx_aload0 (pc := 24) d_J_tells_24 ?_
        refine jx_getR (pc := 25) gf_J_85 d_J_tells_25 ad_0 sh_0 rfl ?_
        refine jx_alen (pc := 28) d_J_tells_28 ad_34 (Or.inl rfl) sh_34 rfl ?_
        refine jx_icmp_ge (pc := 29) 45 d_J_tells_29 (by decide) (fun c29 => absurd c29 (show ¬ nI 21 ≤ nI i from nI_ge (by omega) (by omega))) (fun c29 => ?_)
        refine jx_aload0 (pc := 32) d_J_tells_32 ?_
        refine jx_getR (pc := 33) gf_J_85 d_J_tells_33 ad_0 sh_0 rfl ?_
        refine jx_iload3 (pc := 36) d_J_tells_36 ?_
        refine jx_iconst (pc := 37) (v := 0) d_J_tells_37 (by decide) ?_
        refine jx_iast (pc := 38) d_J_tells_38 ad_34 sh_34 (vp_in_nI (show i < 21 by omega) (by omega)) ?_
        refine jx_iinc3 (pc := 39) d_J_tells_39 rfl (Nat.le_of_ble_eq_true rfl) ?_
        refine jx_goto (pc := 42) 23 d_J_tells_42 (by decide) ?_
        rotate_left
        rw [nI_add1, e1]
        refine ih (i + 1) _ (by omega) (hS.tr (fun b hb => j_set_n _ _ _ (by unfold PC at hb; omega))) (fun y hy2 => ?_)
        rw [j_set_s]; unfold upd
        by_cases hc2 : y = i
        · rw [if_pos hc2]
        · rw [if_neg hc2]; exact hy y (by omega)
    refine jx_iload1 (pc := 0) d_J_tells_0 ?_
    refine jx_callS1 (pc := 1) (d' := 0) so_J_isDay lk_J_117 d_J_tells_1 (by omega) (Nat.le_of_ble_eq_true rfl) ?_
    refine c_J_isDay ?_
    refine jx_r1 ?_
    refine jx_if_eq (pc := 4) 18 d_J_tells_4 (by decide) (fun c4 => absurd c4 (z01p g1)) (fun c4 => ?_)
    refine jx_aload0 (pc := 7) d_J_tells_7 ?_
    refine jx_getR (pc := 8) gf_J_12 d_J_tells_8 ad_0 sh_0 rfl ?_
    refine jx_iload2 (pc := 11) d_J_tells_11 ?_
    refine jx_callV1 (pc := 12) (d' := 0) vo_He_has lk_J_101 d_J_tells_12 ad_1 sh_1 rfl (by omega) (Nat.le_of_ble_eq_true rfl) ?_
    refine c_He_has ?_
    refine jx_r1 ?_
    refine jx_if_ne (pc := 15) 21 d_J_tells_15 (by decide) (fun c15 => ?_) (fun c15 => absurd c15 (z01p hp2))
    refine jx_iconst (pc := 21) (v := 0) d_J_tells_21 (by decide) ?_
    refine jx_istore3 (pc := 22) d_J_tells_22 rfl (Nat.le_of_ble_eq_true rfl) ?_
    rotate_left
    exact zero 21 0 M (by omega) Scr.rf (fun y hy => absurd hy (by omega))
  · have hr : r_tells s dy h = -2 := by unfold r_tells; rw [if_neg hb]
    rw [hr] at k
    refine jx_iload1 (pc := 0) d_J_tells_0 ?_
    refine jx_callS1 (pc := 1) (d' := 0) so_J_isDay lk_J_117 d_J_tells_1 (by omega) (Nat.le_of_ble_eq_true rfl) ?_
    refine c_J_isDay ?_
    refine jx_r1 ?_
    refine jx_if_eq (pc := 4) 18 d_J_tells_4 (by decide) (fun c4 => ?_) (fun c4 => ?_)
    refine jx_bipush (pc := 18) (v := (-2)) d_J_tells_18 (by decide) ?_
    refine jx_iret (pc := 20) hX rfl d_J_tells_20 ?_
    rotate_left
    refine jx_aload0 (pc := 7) d_J_tells_7 ?_
    refine jx_getR (pc := 8) gf_J_12 d_J_tells_8 ad_0 sh_0 rfl ?_
    refine jx_iload2 (pc := 11) d_J_tells_11 ?_
    refine jx_callV1 (pc := 12) (d' := 0) vo_He_has lk_J_101 d_J_tells_12 ad_1 sh_1 rfl (by omega) (Nat.le_of_ble_eq_true rfl) ?_
    refine c_He_has ?_
    refine jx_r1 ?_
    refine jx_if_ne (pc := 15) 21 d_J_tells_15 (by decide) (fun c15 => ?_) (fun c15 => ?_)
    rotate_left
    refine jx_bipush (pc := 18) (v := (-2)) d_J_tells_18 (by decide) ?_
    refine jx_iret (pc := 20) hX rfl d_J_tells_20 ?_
    rotate_left
    · exact k M Scr.rf
    · have g3 := z01n c15
      rw [h13] at g3
      exact absurd ⟨z01n c4, g3⟩ hb
    · exact k M Scr.rf
