/-! THE REFERENCE: a run of days -/
def RdR (s : Sg) (M : j_M) : Prop := M 79 2 = nI (g_hn s) ∧ ∀ h t, h < g_hn s → t < 3 → M 81 (3 * h + t) = nI (gdB (g_nb s) (g_tx s) h t)
theorem c_R_reads {d : Nat} {s : Sg} {M : j_M} {Q : Option Value → j_M → Prop} (hw : WF s) (hR : RepR s M) (k : ∀ M', RdR s M' → OffF M M' → Q none M') : j_Ct (d + 2) I_R_reads [.ref 79] M Q := by
  refine j_met (by decide +kernel) co_R_reads (Nat.le_of_ble_eq_true rfl) (fun X hX => ?_)
  show j_W (d + 2) I_R_reads X 0 [some (.ref 79), none] [] M
  refine jx_aload0 (pc := 0) d_R_reads_0 ?_
  refine jx_callV0 (pc := 1) (d' := d + 1) vo_R_faultNow lk_R_105 d_R_reads_1 ad_79 sh_79 rfl (by omega) (Nat.le_of_ble_eq_true rfl) ?_
  refine c_R_faultNow hw.1 hw.2.1 hR.1.1 hR.1.2 (fun M2 h1 h2 hO => ?_)
  refine jx_r1 ?_
  refine jx_istore1 (pc := 4) d_R_reads_4 rfl (Nat.le_of_ble_eq_true rfl) ?_
  refine jx_vret (pc := 5) hX rfl d_R_reads_5 ?_
  rotate_left
  exact k M2 ⟨h1, h2⟩ hO
theorem RepR.offF {s : Sg} {M M' : j_M} (h : RepR s M) (hO : OffF M M') : RepR s M' := by
  obtain ⟨a1, a2, a3, a4, a5, a6, a7⟩ := h
  have g : ∀ b, b ≠ 79 → b ≠ 81 → M' b = M b := hO.1
  have f : ∀ k, k ≠ 2 → M' 79 k = M 79 k := hO.2
  refine ⟨⟨by rw [f _ (by omega)]; exact a1.1, fun i hi => by rw [g _ (by omega) (by omega)]; exact a1.2 i hi⟩, fun d t hd ht => by rw [g _ (by omega) (by omega)]; exact a2 d t hd ht, fun k hk => by rw [f _ (by omega)]; exact a3 k hk, ⟨by rw [f _ (by omega)]; exact a4.1, fun k hk => by rw [g _ (by omega) (by omega), g _ (by omega) (by omega), g _ (by omega) (by omega)]; exact a4.2 k hk⟩, ⟨by rw [f _ (by omega)]; exact a5.1, fun k hk => by rw [g _ (by omega) (by omega), g _ (by omega) (by omega)]; exact a5.2 k hk⟩, fun q hq => by rw [g _ (by omega) (by omega), g _ (by omega) (by omega), g _ (by omega) (by omega), g _ (by omega) (by omega)]; exact a6 q hq, by rw [f _ (by omega)]; exact a7⟩
theorem le_m1 {h : Int32} {n : Nat} (hn : n < 2 ^ 30) : (0 ≤ h ∧ h ≤ nI n - 1) ↔ (0 ≤ h ∧ h < nI n) := by
  have e : (nI n - 1).toInt = (n : Int) - 1 := pk_sub_toInt (b := 1) hn (by omega)
  rw [fa_le h, fa_lt, e, nI_toInt (by omega)]
  constructor <;> intro q <;> exact ⟨q.1, by omega⟩
theorem c_R_isHeir {d : Nat} {h : Int32} {s : Sg} {M : j_M} {Q : Option Value → j_M → Prop} (hw : WF s) (hR : RepR s M) (k : ∀ M', RdR s M' → OffF M M' → Q (some (.int (if 0 ≤ h ∧ h < nI (g_hn s) then 1 else 0))) M') : j_Ct (d + 3) I_R_isHeir [.ref 79, .int h] M Q := by
  refine j_met (by decide +kernel) co_R_isHeir (Nat.le_of_ble_eq_true rfl) (fun X hX => ?_)
  show j_W (d + 3) I_R_isHeir X 0 [some (.ref 79), some (.int h)] [] M
  have hn6 : g_hn s ≤ 6 := hnB_le hw.1
  refine jx_aload0 (pc := 0) d_R_isHeir_0 ?_
  refine jx_callV0 (pc := 1) (d' := d + 2) vo_R_reads lk_R_109 d_R_isHeir_1 ad_79 sh_79 rfl (by omega) (Nat.le_of_ble_eq_true rfl) ?_
  refine c_R_reads hw hR (fun M2 hr hO => ?_)
  refine jx_r0 ?_
  refine jx_iload1 (pc := 4) d_R_isHeir_4 ?_
  refine jx_iconst (pc := 5) (v := 0) d_R_isHeir_5 (by decide) ?_
  refine jx_aload0 (pc := 6) d_R_isHeir_6 ?_
  refine jx_getI (pc := 7) gf_R_102 d_R_isHeir_7 ad_79 sh_79 rfl ?_
  refine jx_iconst (pc := 10) (v := 1) d_R_isHeir_10 (by decide) ?_
  refine jx_isub (pc := 11) d_R_isHeir_11 ?_
  refine jx_callS3 (pc := 12) (d' := 0) so_R_in lk_R_95 d_R_isHeir_12 (by omega) (Nat.le_of_ble_eq_true rfl) ?_
  refine c_R_in ?_
  refine jx_r1 ?_
  refine jx_zret (pc := 15) hX rfl (by split; exact Or.inr rfl; exact Or.inl rfl) d_R_isHeir_15 ?_
  rotate_left
  have := k M2 hr hO
  have e := le_m1 (h := h) (n := g_hn s) (by omega)
  rw [hr.1]
  by_cases hc : 0 ≤ h ∧ h < nI (g_hn s)
  · rw [if_pos hc] at this; rw [if_pos (e.mpr hc)]; exact this
  · rw [if_neg hc] at this; rw [if_neg (fun q => hc (e.mp q))]; exact this
abbrev VS : Type := Nat × (Nat → Nat) × (Nat → Nat) × (Nat → Nat)
/-- a run's environment in the reference's memory: told visits V, visits more N -/
def ER (e : En) (dog : Nat) (ts : Nat → Nat) (tr sl : Nat) (V N : VS) (M : j_M) : Prop :=
  EnW e ∧ (∀ t, ts t ≤ 9) ∧ M 79 2 = nI e.1.1 ∧ (∀ h t, h < e.1.1 → t < 3 → M 81 (3 * h + t) = nI (e.1.2 h t)) ∧ (∀ t, t < 3 → M 82 (3 * dog + t) = nI (ts t)) ∧ M 79 5 = nI e.2.1.1 ∧ M 79 6 = nI e.2.1.2.1 ∧ M 79 7 = nI e.2.1.2.2 ∧ M 79 9 = nI e.2.2 ∧ M 79 18 = nI sl ∧ sl < 2 ^ 30 ∧ M 79 19 = em tr ∧
  (M 79 10 = nI V.1 ∧ V.1 ≤ 24 ∧ ∀ k, k < V.1 → M 83 k = nI (V.2.1 k) ∧ M 84 k = nI (V.2.2.1 k) ∧ M 85 k = nI (V.2.2.2 k) ∧ V.2.1 k < 30 ∧ V.2.2.1 k < 6 ∧ V.2.2.2 k < 3) ∧
  (M 79 14 = nI N.1 ∧ N.1 ≤ 30 ∧ ∀ k, k < N.1 → M 86 k = nI (N.2.1 k) ∧ M 87 k = nI (N.2.2.1 k) ∧ M 88 k = nI (N.2.2.2 k) ∧ N.2.1 k < 30 ∧ N.2.2.1 k < 6 ∧ N.2.2.2 k < 3)
def dl (V : VS) (d : Nat) : List (Nat × Nat) := (ixV V.1 V.2.1 d).map (fun k => (V.2.2.1 k, V.2.2.2 k))
def bsR (V N : VS) : Nat → List (Nat × Nat) := fun d => dl V d ++ dl N d
/-- what a run may change -/
def OffR (M M' : j_M) : Prop := (∀ b, b ≠ 79 → b ≠ 89 → b ≠ 90 → b ≠ 91 → M' b = M b) ∧ ∀ k, k ≠ 22 → k ≠ 23 → M' 79 k = M 79 k
theorem OffR.rf {M : j_M} : OffR M M := ⟨fun _ _ _ _ _ => rfl, fun _ _ _ => rfl⟩
theorem OffR.tr {M M1 M2 : j_M} (h : OffR M M1) (h2 : OffR M1 M2) : OffR M M2 := ⟨fun b g1 g2 g3 g4 => (h2.1 b g1 g2 g3 g4).trans (h.1 b g1 g2 g3 g4), fun k g g' => (h2.2 k g g').trans (h.2 k g g')⟩
theorem OffR.s79 {M : j_M} {k : Nat} {x : Int32} (h : k = 22 ∨ k = 23) : OffR M (j_set M 79 k x) := ⟨fun b g1 _ _ _ => j_set_n _ _ _ g1, fun q g g' => by rw [j_set_s]; unfold upd; rw [if_neg (by omega)]⟩
theorem OffR.arr {M : j_M} {a k : Nat} {x : Int32} (h : a = 89 ∨ a = 90 ∨ a = 91) : OffR M (j_set M a k x) := ⟨fun b _ g2 g3 g4 => j_set_n _ _ _ (by omega), fun q g g' => by rw [j_set_n _ _ _ (by omega)]⟩
theorem ER.off {e : En} {dog : Nat} {ts : Nat → Nat} {tr sl : Nat} {V N : VS} {M M' : j_M} (h : ER e dog ts tr sl V N M) (hO : OffR M M') : ER e dog ts tr sl V N M' := by
  have g := hO.1
  have f := hO.2
  unfold ER at *
  rw [f 2 (by omega) (by omega), f 5 (by omega) (by omega), f 6 (by omega) (by omega), f 7 (by omega) (by omega), f 9 (by omega) (by omega), f 18 (by omega) (by omega), f 19 (by omega) (by omega), f 10 (by omega) (by omega), f 14 (by omega) (by omega), g 81 (by omega) (by omega) (by omega) (by omega), g 82 (by omega) (by omega) (by omega) (by omega), g 83 (by omega) (by omega) (by omega) (by omega), g 84 (by omega) (by omega) (by omega) (by omega), g 85 (by omega) (by omega) (by omega) (by omega), g 86 (by omega) (by omega) (by omega) (by omega), g 87 (by omega) (by omega) (by omega) (by omega), g 88 (by omega) (by omega) (by omega) (by omega)]
  exact h
/-- a mood in the reference's memory (who was found is elsewhere) -/
def MoR (M : j_M) (m : Mo) : Prop := (∀ i, i < 6 → M 89 i = nI (m.1 i)) ∧ (∀ i, i < 6 → M 90 i = em (m.2.1 i)) ∧ M 79 22 = (if m.2.2.1 = 99 then -1 else nI m.2.2.1) ∧ M 79 23 = nI m.2.2.2.1
theorem c_R_comes {d dog day h t : Nat} {e : En} {ts : Nat → Nat} {tr sl b : Nat} {V N : VS} {m : Mo} {M : j_M} {Q : Option Value → j_M → Prop} (hdog : dog < 2) (hE : ER e dog ts tr sl V N M) (hM : MoR M m) (hw : MoW e b m) (hb : b ≤ 1000000) (hday : day < 30) (hh : h < 6) (ht : t < 3)
    (k : ∀ M', MoR M' (if sl.testBit day then m else brg e ts day h t m) → OffR M M' → M' 91 = M 91 → Q none M') : j_Ct (d + 1) I_R_comes [.ref 79, .int (nI dog), .int (nI day), .int (nI h), .int (nI t)] M Q := by
  refine j_met (by decide +kernel) co_R_comes (Nat.le_of_ble_eq_true rfl) (fun X hX => ?_)
  show j_W (d + 1) I_R_comes X 0 [some (.ref 79), some (.int (nI dog)), some (.int (nI day)), some (.int (nI h)), some (.int (nI t)), none] [] M
  obtain ⟨hEW, hts, hn, hg, hta, hhb, hhu, hfa, hnt, hsl, hsl30, htr, -, -⟩ := id hE
  obtain ⟨lk, la, sg, cm, fd⟩ := m
  obtain ⟨m1, m2, m3, m4⟩ := id hM
  obtain ⟨w1, w2, w3, w4, w5, w6⟩ := id hw
  simp only [] at m1 m2 m3 m4 w1 w2 w3 w4 w5 w6
  have hn6 : e.1.1 ≤ 6 := hEW.1
  by_cases hhn : h < e.1.1
  · by_cases hs : sl.testBit day = true
    · rw [if_pos hs] at k
      refine jx_iload3 (pc := 0) d_R_comes_0 ?_
      refine jx_aload0 (pc := 1) d_R_comes_1 ?_
      refine jx_getI (pc := 2) gf_R_102 d_R_comes_2 ad_79 sh_79 rfl ?_
      refine jx_icmp_ge (pc := 5) 19 d_R_comes_5 (by decide) (fun c5 => absurd c5 (by rw [hn]; exact nI_ge hhn (by omega))) (fun c5 => ?_)
      refine jx_aload0 (pc := 8) d_R_comes_8 ?_
      refine jx_getI (pc := 9) gf_R_149 d_R_comes_9 ad_79 sh_79 rfl ?_
      refine jx_iload2 (pc := 12) d_R_comes_12 ?_
      refine jx_callS2 (pc := 13) (d' := 0) so_R_isIn lk_R_155 d_R_comes_13 (by omega) (Nat.le_of_ble_eq_true rfl) ?_
      rw [hsl]
      refine c_R_bit (by omega) (by omega) ?_
      refine jx_r1 ?_
      refine jx_if_eq (pc := 16) 20 d_R_comes_16 (by decide) (fun c16 => absurd c16 (by rw [if_pos hs]; decide)) (fun c16 => ?_)
      refine jx_vret (pc := 19) hX rfl d_R_comes_19 ?_
      rotate_left
      exact k M hM OffR.rf rfl
    · rw [if_neg hs] at k
      have hgb : ts t * e.1.2 h t ≤ 81 := Nat.mul_le_mul (hts t) (hEW.2.1 h t)
      have hhb9 := hEW.2.2.1
      have hhu9 := hEW.2.2.2.1
      have eh : (nI h).toNatClampNeg = h := nI_cl (by omega)
      have hv6 : vp_in (nI h) 6 := vp_in_nI hh (by omega)
      have hbr : brg e ts day h t (lk, la, sg, cm, fd) = (fun i => if i = h then lk h + grw e ts day h t (lk, la, sg, cm, fd) else lk i, fun i => if i = h then t else la i, if t = 0 then day else sg, cm ||| 2 ^ h, fd) := by unfold brg; rw [if_pos hhn]
      have S87 : ∀ (M1 : j_M) (G sg' : Nat), MoR M1 (lk, la, sg', cm, fd) → OffR M M1 → M1 91 = M 91 → (G - (if la h = t then e.2.1.1 else 0)) = grw e ts day h t (lk, la, sg, cm, fd) → G ≤ 162 → (if t = 0 then day else sg) = sg' → j_W (d + 1) I_R_comes X 87 [some (.ref 79), some (.int (nI dog)), some (.int (nI day)), some (.int (nI h)), some (.int (nI t)), some (.int (nI G))] [] M1 := by
        intro M1 G sg' hM1 hO h91 hG hG1 hsg
        have hE1 := hE.off hO
        obtain ⟨n1, n2, n3, n4⟩ := id hM1
        simp only [] at n1 n2 n3 n4
        have S109 : ∀ (H9 : Nat), H9 = (if la h = t then e.2.1.1 else 0) → j_W (d + 1) I_R_comes X 109 [some (.ref 79), some (.int (nI dog)), some (.int (nI day)), some (.int (nI h)), some (.int (nI t)), some (.int (nI G))] [.int (nI G - nI H9)] M1 := by
          intro H9 hH
          have hH9 : H9 ≤ 9 := by rw [hH]; split <;> omega
          have fin : ∀ (v : Int32) (M2 : j_M), M2 = j_set M1 89 h (nI (lk h) + v) → v = nI (G - H9) → OffR M M2 ∧ (∀ i, i < 6 → M2 89 i = nI (if i = h then lk h + (G - H9) else lk i)) ∧ M2 90 = M1 90 ∧ M2 79 = M1 79 ∧ M2 91 = M 91 := by
            intro v M2 h1 h2
            refine ⟨by rw [h1]; exact hO.tr (OffR.arr (Or.inl rfl)), fun i hi => ?_, by rw [h1, j_set_n _ _ _ (by omega)], by rw [h1, j_set_n _ _ _ (by omega)], by rw [h1, j_set_n _ _ _ (by omega)]; exact h91⟩
            rw [h1, j_set_s]
            unfold upd
            by_cases hc : i = h
            · rw [if_pos hc, if_pos hc, h2, nI_add]
            · rw [if_neg hc, if_neg hc]; exact n1 i hi
          have ending : ∀ (M2 : j_M), OffR M M2 → (∀ i, i < 6 → M2 89 i = nI (if i = h then lk h + (G - H9) else lk i)) → M2 90 = M1 90 → M2 79 = M1 79 → M2 91 = M 91 → Q none (j_set (j_set M2 90 h (nI t)) 79 23 (j_set M2 90 h (nI t) 79 23 ||| (1 : Int32) <<< (nI h &&& 31))) := by
            intro M2 g0 g1 g2 g3 g4
            refine k _ ?_ (g0.tr ((OffR.arr (Or.inr (Or.inl rfl))).tr (OffR.s79 (Or.inr rfl)))) (by rw [j_set_n _ _ _ (by omega), j_set_n _ _ _ (by omega)]; exact g4)
            rw [hbr]
            refine ⟨fun i hi => ?_, fun i hi => ?_, ?_, ?_⟩
            · rw [j_set_n _ _ _ (by omega), j_set_n _ _ _ (by omega), g1 i hi, ← hG, ← hH]
            · rw [j_set_n _ _ _ (by omega), j_set_s, g2]
              show upd _ _ _ _ = em (if i = h then t else la i)
              unfold upd
              by_cases hc : i = h
              · rw [if_pos hc, if_pos hc, em_lt (by omega)]
              · rw [if_neg hc, if_neg hc]; exact n2 i hi
            · rw [j_set_s]
              show upd _ 23 _ 22 = if (if t = 0 then day else sg) = 99 then -1 else nI (if t = 0 then day else sg)
              rw [hsg]
              unfold upd
              rw [if_neg (by omega), j_set_n _ _ _ (by omega), g3]; exact n3
            · rw [j_set_s]
              show upd _ 23 _ 23 = nI (cm ||| 2 ^ h)
              unfold upd
              rw [if_pos rfl, j_set_n _ _ _ (by omega), g3, n4, or_bit (by omega)]
          have hlt : 0 < nI G - nI H9 ↔ H9 < G := nI_sub_le (by omega) (by omega)
          refine jx_istore5 (pc := 109) d_R_comes_109 rfl (Nat.le_of_ble_eq_true rfl) ?_
          refine jx_aload0 (pc := 111) d_R_comes_111 ?_
          refine jx_getR (pc := 112) gf_R_37 d_R_comes_112 ad_79 sh_79 rfl ?_
          refine jx_iload3 (pc := 115) d_R_comes_115 ?_
          refine jx_dup2ri (pc := 116) d_R_comes_116 ?_
          refine jx_iald (pc := 117) d_R_comes_117 ad_89 sh_89 (by first | assumption | exact vp_in_nI (by omega) (by omega)) ?_
          refine jx_iload5 (pc := 118) d_R_comes_118 ?_
          refine jx_if_le (pc := 120) 128 d_R_comes_120 (by decide) (fun c120 => ?_) (fun c120 => ?_)
          refine jx_iconst (pc := 128) (v := 0) d_R_comes_128 (by decide) ?_
          refine jx_iadd (pc := 129) d_R_comes_129 ?_
          refine jx_iast (pc := 130) d_R_comes_130 ad_89 sh_89 (by first | assumption | exact vp_in_nI (by omega) (by omega)) ?_
          refine jx_aload0 (pc := 131) d_R_comes_131 ?_
          refine jx_getR (pc := 132) gf_R_40 d_R_comes_132 ad_79 sh_79 rfl ?_
          refine jx_iload3 (pc := 135) d_R_comes_135 ?_
          refine jx_iload4 (pc := 136) d_R_comes_136 ?_
          refine jx_iast (pc := 138) d_R_comes_138 ad_90 sh_90 (by first | assumption | exact vp_in_nI (by omega) (by omega)) ?_
          refine jx_aload0 (pc := 139) d_R_comes_139 ?_
          refine jx_dupr (pc := 140) d_R_comes_140 ?_
          refine jx_getI (pc := 141) gf_R_162 d_R_comes_141 ad_79 sh_79 rfl ?_
          refine jx_iconst (pc := 144) (v := 1) d_R_comes_144 (by decide) ?_
          refine jx_iload3 (pc := 145) d_R_comes_145 ?_
          refine jx_ishl (pc := 146) d_R_comes_146 ?_
          refine jx_ior (pc := 147) d_R_comes_147 ?_
          refine jx_putI (pc := 148) pf_R_162 d_R_comes_148 ad_79 sh_79 rfl ?_
          refine jx_vret (pc := 151) hX rfl d_R_comes_151 ?_
          rotate_left
          refine jx_iload5 (pc := 123) d_R_comes_123 ?_
          refine jx_goto (pc := 125) 129 d_R_comes_125 (by decide) ?_
          refine jx_iadd (pc := 129) d_R_comes_129 ?_
          refine jx_iast (pc := 130) d_R_comes_130 ad_89 sh_89 (by first | assumption | exact vp_in_nI (by omega) (by omega)) ?_
          refine jx_aload0 (pc := 131) d_R_comes_131 ?_
          refine jx_getR (pc := 132) gf_R_40 d_R_comes_132 ad_79 sh_79 rfl ?_
          refine jx_iload3 (pc := 135) d_R_comes_135 ?_
          refine jx_iload4 (pc := 136) d_R_comes_136 ?_
          refine jx_iast (pc := 138) d_R_comes_138 ad_90 sh_90 (by first | assumption | exact vp_in_nI (by omega) (by omega)) ?_
          refine jx_aload0 (pc := 139) d_R_comes_139 ?_
          refine jx_dupr (pc := 140) d_R_comes_140 ?_
          refine jx_getI (pc := 141) gf_R_162 d_R_comes_141 ad_79 sh_79 rfl ?_
          refine jx_iconst (pc := 144) (v := 1) d_R_comes_144 (by decide) ?_
          refine jx_iload3 (pc := 145) d_R_comes_145 ?_
          refine jx_ishl (pc := 146) d_R_comes_146 ?_
          refine jx_ior (pc := 147) d_R_comes_147 ?_
          refine jx_putI (pc := 148) pf_R_162 d_R_comes_148 ad_79 sh_79 rfl ?_
          refine jx_vret (pc := 151) hX rfl d_R_comes_151 ?_
          rotate_left
          · have hle : ¬ H9 < G := fun q => absurd (hlt.mpr q) (Int32.not_lt.mpr c120)
            rw [eh, n1 h hh]
            obtain ⟨f1, f2, f3, f4, f5⟩ := fin 0 _ rfl (by rw [show G - H9 = 0 by omega]; rfl)
            exact ending _ f1 f2 f3 f4 f5
          · have hl : H9 < G := hlt.mp (Int32.not_le.mp c120)
            rw [eh, n1 h hh]
            obtain ⟨f1, f2, f3, f4, f5⟩ := fin (nI G - nI H9) _ rfl (nI_sub (by omega))
            exact ending _ f1 f2 f3 f4 f5
        have hla : em (la h) = nI t ↔ la h = t := em_eq (by have := w2 h; omega) (by omega)
        refine jx_iload5 (pc := 87) d_R_comes_87 ?_
        refine jx_aload0 (pc := 89) d_R_comes_89 ?_
        refine jx_getR (pc := 90) gf_R_40 d_R_comes_90 ad_79 sh_79 rfl ?_
        refine jx_iload3 (pc := 93) d_R_comes_93 ?_
        refine jx_iald (pc := 94) d_R_comes_94 ad_90 sh_90 (by first | assumption | exact vp_in_nI (by omega) (by omega)) ?_
        refine jx_iload4 (pc := 95) d_R_comes_95 ?_
        refine jx_icmp_ne (pc := 97) 107 d_R_comes_97 (by decide) (fun c97 => ?_) (fun c97 => ?_)
        refine jx_iconst (pc := 107) (v := 0) d_R_comes_107 (by decide) ?_
        refine jx_isub (pc := 108) d_R_comes_108 ?_
        rotate_left
        refine jx_aload0 (pc := 100) d_R_comes_100 ?_
        refine jx_getI (pc := 101) gf_R_83 d_R_comes_101 ad_79 sh_79 rfl ?_
        refine jx_goto (pc := 104) 108 d_R_comes_104 (by decide) ?_
        refine jx_isub (pc := 108) d_R_comes_108 ?_
        rotate_left
        · rw [eh, n2 h hh, hla] at c97
          have := S109 0 (by rw [if_neg c97])
          rw [nI_0] at this
          exact this
        · rw [eh, n2 h hh, hla] at c97
          rw [hE1.2.2.2.2.2.1]
          exact S109 _ (by rw [if_pos c97])
      have e3 : (3 : Int32) * nI h + nI t = nI (3 * h + t) := by rw [show (3 : Int32) = nI 3 from rfl, nI_mul, nI_add]
      have e4 : (nI (3 * h + t)).toNatClampNeg = 3 * h + t := nI_cl (by omega)
      have e5 : (3 : Int32) * nI dog + nI t = nI (3 * dog + t) := by rw [show (3 : Int32) = nI 3 from rfl, nI_mul, nI_add]
      have e6 : (nI (3 * dog + t)).toNatClampNeg = 3 * dog + t := nI_cl (by omega)
      have v1 : vp_in ((3 : Int32) * nI h + nI t) 21 := by rw [e3]; exact vp_in_nI (by omega) (by omega)
      have v2 : vp_in ((3 : Int32) * nI dog + nI t) 6 := by rw [e5]; exact vp_in_nI (by omega) (by omega)
      have hprod : M 82 ((3 : Int32) * nI dog + nI t).toNatClampNeg * M 81 ((3 : Int32) * nI h + nI t).toNatClampNeg = nI (ts t * e.1.2 h t) := by
        rw [e3, e4, e5, e6, hta t ht, hg h t hhn ht, nI_mul]
      have S80 : ∀ (G : Nat), (G - (if la h = t then e.2.1.1 else 0)) = grw e ts day h t (lk, la, sg, cm, fd) → G ≤ 162 → t = 0 → j_W (d + 1) I_R_comes X 80 [some (.ref 79), some (.int (nI dog)), some (.int (nI day)), some (.int (nI h)), some (.int (nI t)), some (.int (nI (ts t * e.1.2 h t)))] [.int (nI G)] M := by
        intro G hG hG1 ht0
        refine jx_istore5 (pc := 80) d_R_comes_80 rfl (Nat.le_of_ble_eq_true rfl) ?_
        refine jx_aload0 (pc := 82) d_R_comes_82 ?_
        refine jx_iload2 (pc := 83) d_R_comes_83 ?_
        refine jx_putI (pc := 84) pf_R_159 d_R_comes_84 ad_79 sh_79 rfl ?_
        rotate_left
        refine S87 _ G day ⟨fun i hi => by rw [j_set_n _ _ _ (by omega)]; exact m1 i hi, fun i hi => by rw [j_set_n _ _ _ (by omega)]; exact m2 i hi, ?_, ?_⟩ (OffR.s79 (Or.inl rfl)) (j_set_n _ _ _ (by omega)) hG hG1 (by rw [if_pos ht0])
        · rw [j_set_s]
          show upd _ 22 _ 22 = if day = 99 then -1 else nI day
          unfold upd; rw [if_pos rfl, if_neg (by omega)]
        · rw [j_set_s]
          show upd _ 22 _ 23 = nI cm
          unfold upd; rw [if_neg (by omega)]; exact m4
      have e9 : (2 : Int32) * nI (ts t * e.1.2 h t) = nI (ts t * e.1.2 h t * 2) := by rw [show (2 : Int32) = nI 2 from rfl, nI_mul, Nat.mul_comm]
      refine jx_iload3 (pc := 0) d_R_comes_0 ?_
      refine jx_aload0 (pc := 1) d_R_comes_1 ?_
      refine jx_getI (pc := 2) gf_R_102 d_R_comes_2 ad_79 sh_79 rfl ?_
      refine jx_icmp_ge (pc := 5) 19 d_R_comes_5 (by decide) (fun c5 => absurd c5 (by rw [hn]; exact nI_ge hhn (by omega))) (fun c5 => ?_)
      refine jx_aload0 (pc := 8) d_R_comes_8 ?_
      refine jx_getI (pc := 9) gf_R_149 d_R_comes_9 ad_79 sh_79 rfl ?_
      refine jx_iload2 (pc := 12) d_R_comes_12 ?_
      refine jx_callS2 (pc := 13) (d' := 0) so_R_isIn lk_R_155 d_R_comes_13 (by omega) (Nat.le_of_ble_eq_true rfl) ?_
      rw [hsl]
      refine c_R_bit (by omega) (by omega) ?_
      refine jx_r1 ?_
      refine jx_if_eq (pc := 16) 20 d_R_comes_16 (by decide) (fun c16 => ?_) (fun c16 => absurd c16 (fun q => q (by rw [if_neg hs])))
      refine jx_aload0 (pc := 20) d_R_comes_20 ?_
      refine jx_getR (pc := 21) gf_R_16 d_R_comes_21 ad_79 sh_79 rfl ?_
      refine jx_iconst (pc := 24) (v := 3) d_R_comes_24 (by decide) ?_
      refine jx_iload1 (pc := 25) d_R_comes_25 ?_
      refine jx_imul (pc := 26) d_R_comes_26 ?_
      refine jx_iload4 (pc := 27) d_R_comes_27 ?_
      refine jx_iadd (pc := 29) d_R_comes_29 ?_
      refine jx_iald (pc := 30) d_R_comes_30 ad_82 sh_82 v2 ?_
      refine jx_aload0 (pc := 31) d_R_comes_31 ?_
      refine jx_getR (pc := 32) gf_R_13 d_R_comes_32 ad_79 sh_79 rfl ?_
      refine jx_iconst (pc := 35) (v := 3) d_R_comes_35 (by decide) ?_
      refine jx_iload3 (pc := 36) d_R_comes_36 ?_
      refine jx_imul (pc := 37) d_R_comes_37 ?_
      refine jx_iload4 (pc := 38) d_R_comes_38 ?_
      refine jx_iadd (pc := 40) d_R_comes_40 ?_
      refine jx_iald (pc := 41) d_R_comes_41 ad_81 sh_81 v1 ?_
      refine jx_imul (pc := 42) d_R_comes_42 ?_
      refine jx_istore5 (pc := 43) d_R_comes_43 rfl (Nat.le_of_ble_eq_true rfl) ?_
      refine jx_iload4 (pc := 45) d_R_comes_45 ?_
      refine jx_if_ne (pc := 47) 87 d_R_comes_47 (by decide) (fun c47 => ?_) (fun c47 => ?_)
      rotate_left
      refine jx_aload0 (pc := 50) d_R_comes_50 ?_
      refine jx_getI (pc := 51) gf_R_159 d_R_comes_51 ad_79 sh_79 rfl ?_
      refine jx_iconst (pc := 54) (v := (-1)) d_R_comes_54 (by decide) ?_
      refine jx_icmp_eq (pc := 55) 71 d_R_comes_55 (by decide) (fun c55 => ?_) (fun c55 => ?_)
      refine jx_iconst (pc := 71) (v := 2) d_R_comes_71 (by decide) ?_
      refine jx_iload5 (pc := 72) d_R_comes_72 ?_
      refine jx_imul (pc := 74) d_R_comes_74 ?_
      refine jx_goto (pc := 75) 80 d_R_comes_75 (by decide) ?_
      rotate_left
      refine jx_iload2 (pc := 58) d_R_comes_58 ?_
      refine jx_aload0 (pc := 59) d_R_comes_59 ?_
      refine jx_getI (pc := 60) gf_R_159 d_R_comes_60 ad_79 sh_79 rfl ?_
      refine jx_isub (pc := 63) d_R_comes_63 ?_
      refine jx_aload0 (pc := 64) d_R_comes_64 ?_
      refine jx_getI (pc := 65) gf_R_87 d_R_comes_65 ad_79 sh_79 rfl ?_
      refine jx_icmp_le (pc := 68) 78 d_R_comes_68 (by decide) (fun c68 => ?_) (fun c68 => ?_)
      refine jx_iload5 (pc := 78) d_R_comes_78 ?_
      rotate_left
      refine jx_iconst (pc := 71) (v := 2) d_R_comes_71 (by decide) ?_
      refine jx_iload5 (pc := 72) d_R_comes_72 ?_
      refine jx_imul (pc := 74) d_R_comes_74 ?_
      refine jx_goto (pc := 75) 80 d_R_comes_75 (by decide) ?_
      rotate_left
      · have ht0 : ¬ t = 0 := fun q => c47 (by rw [q]; rfl)
        rw [hprod]
        refine S87 M _ sg hM OffR.rf rfl ?_ (by omega) (by rw [if_neg ht0])
        unfold grw
        simp only [ht0, false_and, if_false]
      · have ht0 : t = 0 := (nI_eq (by omega) (by omega)).mp (Decidable.not_not.mp (fun q => q c47) : nI t = nI 0)
        rw [hprod, e9]
        refine S80 _ ?_ (by omega) ht0
        rw [m3] at c55
        have h99 : sg = 99 := by
          rcases w3 with z | z
          · rw [if_neg (by omega)] at c55; exact absurd c55 (nI_ne_m1 (by omega))
          · exact z
        unfold grw
        simp only [ht0, true_and]
        rw [if_pos (Or.inl h99)]
      · have ht0 : t = 0 := (nI_eq (by omega) (by omega)).mp (Decidable.not_not.mp (fun q => q c47) : nI t = nI 0)
        rw [hprod]
        refine S80 _ ?_ (by omega) ht0
        rw [m3] at c55 c68
        have h99 : sg < 30 := by
          rcases w3 with z | z
          · exact z
          · rw [if_pos z] at c55; exact absurd rfl c55
        rw [if_neg (by omega), hhu] at c68
        rw [fa_le, pk_sub_toInt (by omega) (by omega), nI_toInt (by omega)] at c68
        unfold grw
        simp only [ht0, true_and]
        rw [if_neg (show ¬ (sg = 99 ∨ e.2.1.2.1 < day - sg) by omega)]
      · have ht0 : t = 0 := (nI_eq (by omega) (by omega)).mp (Decidable.not_not.mp (fun q => q c47) : nI t = nI 0)
        rw [hprod, e9]
        refine S80 _ ?_ (by omega) ht0
        rw [m3] at c55 c68
        have h99 : sg < 30 := by
          rcases w3 with z | z
          · exact z
          · rw [if_pos z] at c55; exact absurd rfl c55
        rw [if_neg (by omega), hhu] at c68
        rw [fa_le, pk_sub_toInt (by omega) (by omega), nI_toInt (by omega)] at c68
        unfold grw
        simp only [ht0, true_and]
        rw [if_pos (show (sg = 99 ∨ e.2.1.2.1 < day - sg) by omega)]
  · have hlast : (if sl.testBit day then (lk, la, sg, cm, fd) else brg e ts day h t (lk, la, sg, cm, fd)) = (lk, la, sg, cm, fd) := by
      unfold brg; rw [if_neg hhn]; split <;> rfl
    rw [hlast] at k
    refine jx_iload3 (pc := 0) d_R_comes_0 ?_
    refine jx_aload0 (pc := 1) d_R_comes_1 ?_
    refine jx_getI (pc := 2) gf_R_102 d_R_comes_2 ad_79 sh_79 rfl ?_
    refine jx_icmp_ge (pc := 5) 19 d_R_comes_5 (by decide) (fun c5 => ?_) (fun c5 => absurd c5 (fun q => q (by rw [hn]; exact nI_le (by omega) (by omega))))
    refine jx_vret (pc := 19) hX rfl d_R_comes_19 ?_
    rotate_left
    exact k M hM OffR.rf rfl
