/-! OPERATIONS of the reference, fourteen: tells -/
theorem mxF_ge {f : Nat → Nat} : ∀ {n x : Nat}, x < n → f x ≤ mxF f n
  | 0, x, h => absurd h (Nat.not_lt_zero _)
  | n + 1, x, h => by
    unfold mxF
    by_cases hx : x = n
    · subst hx; split <;> omega
    · have := mxF_ge (f := f) (show x < n by omega); split <;> omega
theorem mxF_lub {f : Nat → Nat} {b : Nat} : ∀ {n : Nat}, (∀ x, x < n → f x ≤ b) → mxF f n ≤ b
  | 0, _ => Nat.zero_le _
  | n + 1, h => by have := mxF_lub (n := n) (fun x hx => h x (by omega)); have := h n (by omega); unfold mxF; split <;> omega
theorem mxF_up {f g : Nat → Nat} {i n : Nat} (hi : i < n) (h1 : g i = f i + 1) (h2 : ∀ x, x ≠ i → g x = f x) : mxF g n = if f i + 1 ≤ mxF f n then mxF f n else f i + 1 := by
  have a1 : mxF g n ≤ if f i + 1 ≤ mxF f n then mxF f n else f i + 1 := mxF_lub (fun x hx => by
    by_cases hc : x = i
    · rw [hc, h1]; split <;> omega
    · rw [h2 x hc]; have := mxF_ge (f := f) hx; split <;> omega)
  have a2 : mxF f n ≤ mxF g n := mxF_lub (fun x hx => by
    have h3 := mxF_ge (f := g) hx
    by_cases hc : x = i
    · rw [hc] at h3 ⊢; omega
    · rw [h2 x hc] at h3; exact h3)
  have a3 : f i + 1 ≤ mxF g n := by rw [← h1]; exact mxF_ge hi
  split at a1 <;> split <;> omega
theorem bsR_T (s : Sg) (day h t : Nat) : bsR (g_V s) (1, fun _ => day, fun _ => h, fun _ => t) = bsT s day h t := by
  funext d
  unfold bsR bsT
  rw [show dl (g_V s) d = g_bs s d from rfl]
  congr 1
  show (ixV 1 (fun _ => day) d).map _ = _
  rw [show ixV 1 (fun _ => day) d = if day = d then [0] else [] by rw [ixV_succ]; simp [ixV]]
  by_cases hc : day = d
  · rw [if_pos hc, if_pos hc.symm]; rfl
  · rw [if_neg hc, if_neg (fun z => hc z.symm)]; rfl
/-- between the runs of tellsOf -/
def TL (s : Sg) (M M2 : j_M) : Prop := (∀ b, (b < 79 ∨ PR b) → b ≠ 82 → M2 b = M b) ∧ (∀ q, P79 q → M2 79 q = M 79 q) ∧ (∀ t, 3 ≤ t → M2 82 t = M 82 t) ∧ RdR s M2 ∧ (∀ q, q < 1000 → M2 97 q = if outB s (trow q) 9 then 1 else 0)
def TN (s : Sg) (day h t : Nat) (M2 : j_M) : Prop := (M2 79 14 = nI 1 ∧ M2 79 18 = nI (g_wy s 3) ∧ M2 79 19 = -1) ∧ M2 86 0 = nI day ∧ M2 87 0 = nI h ∧ M2 88 0 = nI t
theorem TL.v {s : Sg} {M M2 : j_M} (h : TL s M M2) (hR : RepR s M) : RepV s M2 := hR.v.of (fun q h1 h2 => h.2.1 q (by unfold P79; omega)) (fun b h1 h2 => h.1 b (by unfold PR; omega) (by omega))
theorem TL.put {s : Sg} {M M2 : j_M} (h : TL s M M2) (k : Nat) (x : Int32) : TL s M (j_set M2 98 k x) := by
  obtain ⟨a1, a2, a3, a4, a5⟩ := h
  have g : ∀ b, b ≠ 98 → j_set M2 98 k x b = M2 b := fun b hb => j_set_n _ _ _ hb
  exact ⟨fun b h1 h2 => by rw [g b (by unfold PR at h1; omega)]; exact a1 b h1 h2, fun q hq => by rw [g 79 (by omega)]; exact a2 q hq, fun t ht => by rw [g 82 (by omega)]; exact a3 t ht, a4.of (by rw [g 79 (by omega)]) (g 81 (by omega)), fun q hq => by rw [g 97 (by omega)]; exact a5 q hq⟩
theorem TN.put {s : Sg} {day h t : Nat} {M2 : j_M} (hh : TN s day h t M2) (k : Nat) (x : Int32) : TN s day h t (j_set M2 98 k x) := by
  unfold TN at *
  rw [j_set_n (b := 79) _ _ _ (by omega), j_set_n (b := 86) _ _ _ (by omega), j_set_n (b := 87) _ _ _ (by omega), j_set_n (b := 88) _ _ _ (by omega)]
  exact hh
theorem TL.run {s : Sg} {M M2 M3 M4 : j_M} (h : TL s M M2) (hb : ∀ b, b ≠ 82 → M3 b = M2 b) (h3 : ∀ t, 3 ≤ t → M3 82 t = M2 82 t) (hO : OffR M3 M4) : TL s M M4 := by
  obtain ⟨a1, a2, a3, a4, a5⟩ := h
  have g : ∀ b, b ≠ 79 → b ≠ 89 → b ≠ 90 → b ≠ 91 → b ≠ 82 → M4 b = M2 b := fun b b1 b2 b3 b4 b5 => by rw [hO.1 b b1 b2 b3 b4, hb b b5]
  have f : ∀ q, q ≠ 22 → q ≠ 23 → M4 79 q = M2 79 q := fun q q1 q2 => by rw [hO.2 q q1 q2, hb 79 (by omega)]
  exact ⟨fun b h1 h2 => by rw [g b (by unfold PR at h1; omega) (by unfold PR at h1; omega) (by unfold PR at h1; omega) (by unfold PR at h1; omega) h2]; exact a1 b h1 h2, fun q hq => by rw [f q (by unfold P79 at hq; omega) (by unfold P79 at hq; omega)]; exact a2 q hq, fun t ht => by rw [hO.1 82 (by omega) (by omega) (by omega) (by omega), h3 t ht]; exact a3 t ht, a4.of (f 2 (by omega) (by omega)) (g 81 (by omega) (by omega) (by omega) (by omega) (by omega)), fun q hq => by rw [g 97 (by omega) (by omega) (by omega) (by omega) (by omega)]; exact a5 q hq⟩
theorem TN.run {s : Sg} {day h t : Nat} {M2 M3 M4 : j_M} (hh : TN s day h t M2) (hb : ∀ b, b ≠ 82 → M3 b = M2 b) (hO : OffR M3 M4) : TN s day h t M4 := by
  have g : ∀ b, b ≠ 79 → b ≠ 89 → b ≠ 90 → b ≠ 91 → b ≠ 82 → M4 b = M2 b := fun b b1 b2 b3 b4 b5 => by rw [hO.1 b b1 b2 b3 b4, hb b b5]
  have f : ∀ q, q ≠ 22 → q ≠ 23 → M4 79 q = M2 79 q := fun q q1 q2 => by rw [hO.2 q q1 q2, hb 79 (by omega)]
  unfold TN at *
  rw [f 14 (by omega) (by omega), f 18 (by omega) (by omega), f 19 (by omega) (by omega), g 86 (by omega) (by omega) (by omega) (by omega) (by omega), g 87 (by omega) (by omega) (by omega) (by omega) (by omega), g 88 (by omega) (by omega) (by omega) (by omega) (by omega)]
  exact hh
theorem c_R_tellsOf {d a c : Nat} {s : Sg} {M : j_M} {Q : Option Value → j_M → Prop} (hw : WF s) (hR : RepR s M) (ha : a < 30) (hc : c < g_hn s) (k : ∀ M', ScrR M M' → RdR s M' → Q (some (.int (nI (lstT s a c)))) M') : j_Ct (d + 4) I_R_tellsOf [.ref 79, .int (nI a), .int (nI c)] M Q := by
  refine j_met (by decide +kernel) co_R_tellsOf (Nat.le_of_ble_eq_true rfl) (fun X hX => ?_)
  show j_W (d + 4) I_R_tellsOf X 0 [some (.ref 79), some (.int (nI a)), some (.int (nI c)), none, none, none, none, none, none] [] M
  have hn6 : g_hn s ≤ 6 := hnB_le hw.1
  have hts0 := hw.2.2.1 0
  have d0 := hts0 0
  have d1 := hts0 1
  have d2 := hts0 2
  have hrow : 100 * g_ta s 0 0 + 10 * g_ta s 0 1 + g_ta s 0 2 < 1000 := by omega
  have body : ∀ (t : Nat) (x3 x4 x5 : Int32), t < 3 → (∀ (M4 : j_M) (e8 : Int32), TL s M M4 → j_W (d + 4) I_R_tellsOf X 179 [some (.ref 79), some (.int (nI a)), some (.int (nI c)), some (.int x3), some (.int x4), some (.int x5), some (.int (nI t)), some (.int (nI (grT s a c t))), some (.int e8)] [] M4) → ∀ (M2 : j_M) (e7 e8 : Option Value), TL s M M2 → j_W (d + 4) I_R_tellsOf X 46 [some (.ref 79), some (.int (nI a)), some (.int (nI c)), some (.int x3), some (.int x4), some (.int x5), some (.int (nI t)), e7, e8] [] M2 := by
    intro t x3 x4 x5 ht kk M2 e7 e8 hT
    have rows : ∀ (r i : Nat) (M3 : j_M), i + r = 1000 → TL s M M3 → TN s a c t M3 → (∀ x, x < 7 → M3 98 x = nI (tlN s a c t x i)) → j_W (d + 4) I_R_tellsOf X 88 [some (.ref 79), some (.int (nI a)), some (.int (nI c)), some (.int x3), some (.int x4), some (.int x5), some (.int (nI t)), some (.int (nI (mxF (fun x => tlN s a c t x i) 7))), some (.int (nI i))] [] M3 := by
      intro r
      induction r with
      | zero =>
        intro i M3 hi hT3 hN3 hx
        have hi' : i = 1000 := by omega
        subst hi'
        refine jx_iload8 (pc := 88) d_R_tellsOf_88 ?_
        refine jx_sipush (pc := 90) (v := 1000) d_R_tellsOf_90 (by decide) ?_
        refine jx_icmp_ge (pc := 93) 179 d_R_tellsOf_93 (by decide) (fun c93 => ?_) (fun c93 => absurd c93 (fun q => q (show nI 1000 ≤ nI 1000 from Int32.le_refl _)))
        rotate_left
        exact kk M3 _ hT3
      | succ r ih =>
        intro i M3 hi hT3 hN3 hx
        have e1 : (nI i).toNatClampNeg = i := nI_cl (by omega)
        have hv : vp_in (nI i) 1000 := vp_in_nI (by omega) (by omega)
        have hfit : M3 97 (nI i).toNatClampNeg = if outB s (trow i) 9 then 1 else 0 := by rw [e1]; exact hT3.2.2.2.2 i (by omega)
        by_cases hout : outB s (trow i) 9 = true
        · have hfl := fdT_lt hw (h := c) (row := i) (by omega) ha ht
          have he1 : em (fdT s i a c t) + 1 = nI (e1F (fdT s i a c t)) ∧ e1F (fdT s i a c t) < 7 := by
            unfold e1F
            rcases hfl with hf | hf
            · rw [if_neg (by omega), em_lt (by omega), nI_1]; exact ⟨rfl, by omega⟩
            · rw [if_pos hf, hf]; exact ⟨rfl, by omega⟩
          have hup := mxF_up (f := fun x => tlN s a c t x i) (g := fun x => tlN s a c t x (i + 1)) (i := e1F (fdT s i a c t)) (n := 7) he1.2 (by show tlN s a c t _ (i + 1) = _; rw [tlN, if_pos ⟨hout, rfl⟩]) (fun x hxx => by show tlN s a c t x (i + 1) = _; rw [tlN, if_neg (fun z => hxx z.2.symm)])
          have hev : vp_in (nI a) 30 := vp_in_nI (by omega) (by omega)
          have ea : (nI a).toNatClampNeg = a := nI_cl (by omega)
          have fin : ∀ (M5 : j_M), TL s M M5 → TN s a c t M5 → M5 98 = M3 98 → M5 91 a = em (fdT s i a c t) → j_W (d + 4) I_R_tellsOf X 118 [some (.ref 79), some (.int (nI a)), some (.int (nI c)), some (.int x3), some (.int x4), some (.int x5), some (.int (nI t)), some (.int (nI (mxF (fun x => tlN s a c t x i) 7))), some (.int (nI i))] [] M5 := by
            intro M5 hT5 hN5 h98 h91
            have hix : M5 91 (nI a).toNatClampNeg + 1 = nI (e1F (fdT s i a c t)) := by rw [ea, h91]; exact he1.1
            have hec : (nI (e1F (fdT s i a c t))).toNatClampNeg = e1F (fdT s i a c t) := nI_cl (by have := he1.2; omega)
            have hvx : vp_in (M5 91 (nI a).toNatClampNeg + 1) 7 := by rw [hix]; exact vp_in_nI he1.2 (by omega)
            have hvy : ∀ (q : Nat) (v : Int32), vp_in (j_set M5 98 q v 91 (nI a).toNatClampNeg + 1) 7 := fun q v => by rw [j_set_n _ _ _ (by omega)]; exact hvx
            have hval : M5 98 (e1F (fdT s i a c t)) = nI (tlN s a c t (e1F (fdT s i a c t)) i) := by rw [h98]; exact hx _ he1.2
            have lt1 := tlN_le s a c t (e1F (fdT s i a c t)) i
            have lt2 : mxF (fun x => tlN s a c t x i) 7 ≤ i := mxF_le (fun x => tlN_le s a c t x i) 7
            have rd : j_set M5 98 (e1F (fdT s i a c t)) (nI (tlN s a c t (e1F (fdT s i a c t)) i + 1)) 98 (e1F (fdT s i a c t)) = nI (tlN s a c t (e1F (fdT s i a c t)) i + 1) := by rw [j_set_s]; unfold upd; rw [if_pos rfl]
            have nx := ih (i + 1) (j_set M5 98 (e1F (fdT s i a c t)) (nI (tlN s a c t (e1F (fdT s i a c t)) i + 1))) (by omega) (hT5.put _ _) (hN5.put _ _) (fun x hxx => by
              rw [j_set_s]; unfold upd
              by_cases hcx : x = e1F (fdT s i a c t)
              · rw [if_pos hcx, tlN, if_pos ⟨hout, hcx.symm⟩, hcx]
              · rw [if_neg hcx, h98, hx x hxx, tlN, if_neg (fun z => hcx z.2.symm)])
            rw [hup] at nx
            refine jx_aload0 (pc := 118) d_R_tellsOf_118 ?_
            refine jx_getR (pc := 119) gf_R_65 d_R_tellsOf_119 ad_79 sh_79 rfl ?_
            refine jx_aload0 (pc := 122) d_R_tellsOf_122 ?_
            refine jx_getR (pc := 123) gf_R_43 d_R_tellsOf_123 ad_79 sh_79 rfl ?_
            refine jx_iload1 (pc := 126) d_R_tellsOf_126 ?_
            refine jx_iald (pc := 127) d_R_tellsOf_127 ad_91 sh_91 hev ?_
            refine jx_iconst (pc := 128) (v := 1) d_R_tellsOf_128 (by decide) ?_
            refine jx_iadd (pc := 129) d_R_tellsOf_129 ?_
            refine jx_dup2ri (pc := 130) d_R_tellsOf_130 ?_
            refine jx_iald (pc := 131) d_R_tellsOf_131 ad_98 sh_98 hvx ?_
            refine jx_iconst (pc := 132) (v := 1) d_R_tellsOf_132 (by decide) ?_
            refine jx_iadd (pc := 133) d_R_tellsOf_133 ?_
            refine jx_iast (pc := 134) d_R_tellsOf_134 ad_98 sh_98 hvx ?_
            refine jx_aload0 (pc := 135) d_R_tellsOf_135 ?_
            refine jx_getR (pc := 136) gf_R_65 d_R_tellsOf_136 ad_79 sh_79 rfl ?_
            refine jx_aload0 (pc := 139) d_R_tellsOf_139 ?_
            refine jx_getR (pc := 140) gf_R_43 d_R_tellsOf_140 ad_79 sh_79 rfl ?_
            refine jx_iload1 (pc := 143) d_R_tellsOf_143 ?_
            refine jx_iald (pc := 144) d_R_tellsOf_144 ad_91 sh_91 hev ?_
            refine jx_iconst (pc := 145) (v := 1) d_R_tellsOf_145 (by decide) ?_
            refine jx_iadd (pc := 146) d_R_tellsOf_146 ?_
            refine jx_iald (pc := 147) d_R_tellsOf_147 ad_98 sh_98 (hvy _ _) ?_
            refine jx_iload7 (pc := 148) d_R_tellsOf_148 ?_
            refine jx_icmp_le (pc := 150) 169 d_R_tellsOf_150 (by decide) (fun c150 => ?_) (fun c150 => ?_)
            refine jx_iload7 (pc := 169) d_R_tellsOf_169 ?_
            refine jx_istore7 (pc := 171) d_R_tellsOf_171 rfl (Nat.le_of_ble_eq_true rfl) ?_
            refine jx_iinc8 (pc := 173) d_R_tellsOf_173 rfl (Nat.le_of_ble_eq_true rfl) ?_
            refine jx_goto (pc := 176) 88 d_R_tellsOf_176 (by decide) ?_
            rotate_left
            refine jx_aload0 (pc := 153) d_R_tellsOf_153 ?_
            refine jx_getR (pc := 154) gf_R_65 d_R_tellsOf_154 ad_79 sh_79 rfl ?_
            refine jx_aload0 (pc := 157) d_R_tellsOf_157 ?_
            refine jx_getR (pc := 158) gf_R_43 d_R_tellsOf_158 ad_79 sh_79 rfl ?_
            refine jx_iload1 (pc := 161) d_R_tellsOf_161 ?_
            refine jx_iald (pc := 162) d_R_tellsOf_162 ad_91 sh_91 hev ?_
            refine jx_iconst (pc := 163) (v := 1) d_R_tellsOf_163 (by decide) ?_
            refine jx_iadd (pc := 164) d_R_tellsOf_164 ?_
            refine jx_iald (pc := 165) d_R_tellsOf_165 ad_98 sh_98 (hvy _ _) ?_
            refine jx_goto (pc := 166) 171 d_R_tellsOf_166 (by decide) ?_
            refine jx_istore7 (pc := 171) d_R_tellsOf_171 rfl (Nat.le_of_ble_eq_true rfl) ?_
            refine jx_iinc8 (pc := 173) d_R_tellsOf_173 rfl (Nat.le_of_ble_eq_true rfl) ?_
            refine jx_goto (pc := 176) 88 d_R_tellsOf_176 (by decide) ?_
            rotate_left
            · rw [j_set_n (b := 91) _ _ _ (by omega), hix, hec, hval, nI_1, rd] at c150
              have hle : tlN s a c t (e1F (fdT s i a c t)) i + 1 ≤ mxF (fun x => tlN s a c t x i) 7 := (nI_leI (by omega) (by omega)).mp c150
              rw [if_pos hle] at nx
              rw [nI_add1, hix, hec, hval, nI_1]
              exact nx
            · rw [j_set_n (b := 91) _ _ _ (by omega), hix, hec, hval, nI_1, rd] at c150
              have hle : ¬ tlN s a c t (e1F (fdT s i a c t)) i + 1 ≤ mxF (fun x => tlN s a c t x i) 7 := fun z => c150 ((nI_leI (by omega) (by omega)).mpr z)
              rw [if_neg hle] at nx
              rw [nI_add1, j_set_n (b := 91) _ _ _ (by omega), hix, hec, hval, nI_1, rd]
              exact nx
          refine jx_iload8 (pc := 88) d_R_tellsOf_88 ?_
          refine jx_sipush (pc := 90) (v := 1000) d_R_tellsOf_90 (by decide) ?_
          refine jx_icmp_ge (pc := 93) 179 d_R_tellsOf_93 (by decide) (fun c93 => absurd c93 (show ¬ nI 1000 ≤ nI i from nI_ge (by omega) (by omega))) (fun c93 => ?_)
          refine jx_aload0 (pc := 96) d_R_tellsOf_96 ?_
          refine jx_getR (pc := 97) gf_R_62 d_R_tellsOf_97 ad_79 sh_79 rfl ?_
          refine jx_iload8 (pc := 100) d_R_tellsOf_100 ?_
          refine jx_zald (pc := 102) d_R_tellsOf_102 ad_97 sh_97 (by first | assumption | exact vp_in_nI (by omega) (by omega)) ?_
          refine jx_if_eq (pc := 103) 173 d_R_tellsOf_103 (by decide) (fun c103 => absurd c103 (by rw [hfit, if_pos hout]; decide)) (fun c103 => ?_)
          refine jx_aload0 (pc := 106) d_R_tellsOf_106 ?_
          refine jx_iload8 (pc := 107) d_R_tellsOf_107 ?_
          refine jx_callV1 (pc := 109) (d' := 0) vo_R_tastesBy lk_R_249 d_R_tellsOf_109 ad_79 sh_79 rfl (by omega) (Nat.le_of_ble_eq_true rfl) ?_
          refine c_R_tastesBy (row := i) (by omega) (fun M4 hb htt ht3 => ?_)
          refine jx_r0 ?_
          refine jx_aload0 (pc := 112) d_R_tellsOf_112 ?_
          refine jx_iconst (pc := 113) (v := 0) d_R_tellsOf_113 (by decide) ?_
          refine jx_iload1 (pc := 114) d_R_tellsOf_114 ?_
          refine jx_callV2 (pc := 115) (d' := d + 3) vo_R_runs lk_R_175 d_R_tellsOf_115 ad_79 sh_79 rfl (by omega) (Nat.le_of_ble_eq_true rfl) ?_
          refine c_R_runs (d := d + 1) (dog := 0) (ts := trow i) (tr := 9) (e := g_en s) (sl := g_wy s 3) (V := g_V s) (N := (1, fun _ => a, fun _ => c, fun _ => t)) (by omega) ha (er_of hw ((hT3.v hR).of (fun q h1 h2 => by rw [hb 79 (by omega)]) (fun b h1 h2 => hb b (by omega))) (hT3.2.2.2.1.of (by rw [hb 79 (by omega)]) (hb 81 (by omega))) (fun t => trow_le (by omega) t) (fun t h3 => by rw [show 3 * 0 + t = t by omega]; exact htt t h3) (by rw [hb 79 (by omega)]; exact hN3.1.2.1) hw.2.2.2.2.1 (by rw [hb 79 (by omega)]; exact hN3.1.2.2) ⟨by rw [hb 79 (by omega)]; exact hN3.1.1, (by omega : (1 : Nat) ≤ 30), fun q hq => by have hq1 : q < 1 := hq; have hq0 : q = 0 := (by omega); subst hq0; exact ⟨by rw [hb 86 (by omega)]; exact hN3.2.1, by rw [hb 87 (by omega)]; exact hN3.2.2.1, by rw [hb 88 (by omega)]; exact hN3.2.2.2, ha, (by omega : c < 6), ht⟩⟩) (Or.inr rfl) (fun M5 h91 h89 hO5 => ?_)
          rw [bsR_T] at h91
          refine jx_r0 ?_
          rotate_left
          exact fin M5 (hT3.run hb ht3 hO5) (hN3.run hb hO5) (by rw [hO5.1 98 (by omega) (by omega) (by omega) (by omega), hb 98 (by omega)]) (h91 a (Nat.le_refl _))
        · have nx := ih (i + 1) M3 (by omega) hT3 hN3 (fun x hxx => by rw [hx x hxx, tlN, if_neg (fun z => hout z.1)])
          have hsame : (fun x => tlN s a c t x (i + 1)) = fun x => tlN s a c t x i := by funext x; rw [tlN, if_neg (fun z => hout z.1)]
          rw [hsame] at nx
          refine jx_iload8 (pc := 88) d_R_tellsOf_88 ?_
          refine jx_sipush (pc := 90) (v := 1000) d_R_tellsOf_90 (by decide) ?_
          refine jx_icmp_ge (pc := 93) 179 d_R_tellsOf_93 (by decide) (fun c93 => absurd c93 (show ¬ nI 1000 ≤ nI i from nI_ge (by omega) (by omega))) (fun c93 => ?_)
          refine jx_aload0 (pc := 96) d_R_tellsOf_96 ?_
          refine jx_getR (pc := 97) gf_R_62 d_R_tellsOf_97 ad_79 sh_79 rfl ?_
          refine jx_iload8 (pc := 100) d_R_tellsOf_100 ?_
          refine jx_zald (pc := 102) d_R_tellsOf_102 ad_97 sh_97 (by first | assumption | exact vp_in_nI (by omega) (by omega)) ?_
          refine jx_if_eq (pc := 103) 173 d_R_tellsOf_103 (by decide) (fun c103 => ?_) (fun c103 => absurd c103 (fun q => q (by rw [hfit, if_neg hout])))
          refine jx_iinc8 (pc := 173) d_R_tellsOf_173 rfl (Nat.le_of_ble_eq_true rfl) ?_
          refine jx_goto (pc := 176) 88 d_R_tellsOf_176 (by decide) ?_
          rotate_left
          rw [nI_add1]
          exact nx
    have zero : ∀ (r i : Nat) (M3 : j_M), i + r = 7 → TL s M M3 → (∀ x, x < i → M3 98 x = 0) → j_W (d + 4) I_R_tellsOf X 52 [some (.ref 79), some (.int (nI a)), some (.int (nI c)), some (.int x3), some (.int x4), some (.int x5), some (.int (nI t)), some (.int (nI 0)), some (.int (nI i))] [] M3 := by
      intro r
      induction r with
      | zero =>
        intro i M3 hi hT3 hx
        have hi' : i = 7 := by omega
        subst hi'
        refine jx_iload8 (pc := 52) d_R_tellsOf_52 ?_
        refine jx_bipush (pc := 54) (v := 7) d_R_tellsOf_54 (by decide) ?_
        refine jx_icmp_ge (pc := 56) 73 d_R_tellsOf_56 (by decide) (fun c56 => ?_) (fun c56 => absurd c56 (fun q => q (show nI 7 ≤ nI 7 from Int32.le_refl _)))
        refine jx_aload0 (pc := 73) d_R_tellsOf_73 ?_
        refine jx_callV0 (pc := 74) (d' := 0) vo_R_asTold lk_R_172 d_R_tellsOf_74 ad_79 sh_79 rfl (by omega) (Nat.le_of_ble_eq_true rfl) ?_
        refine c_R_asTold (hT3.v hR) (fun M4 h14 h18 h19 hb hq => ?_)
        refine jx_r0 ?_
        refine jx_aload0 (pc := 77) d_R_tellsOf_77 ?_
        refine jx_iload1 (pc := 78) d_R_tellsOf_78 ?_
        refine jx_iload2 (pc := 79) d_R_tellsOf_79 ?_
        refine jx_iload6 (pc := 80) d_R_tellsOf_80 ?_
        refine jx_callV3 (pc := 82) (d' := 0) vo_R_adds lk_R_216 d_R_tellsOf_82 ad_79 sh_79 rfl (by omega) (Nat.le_of_ble_eq_true rfl) ?_
        refine c_R_adds (n := 0) (by omega) h14 (fun M5 q14 q86 q87 q88 qb qq => ?_)
        refine jx_r0 ?_
        refine jx_iconst (pc := 85) (v := 0) d_R_tellsOf_85 (by decide) ?_
        refine jx_istore8 (pc := 86) d_R_tellsOf_86 rfl (Nat.le_of_ble_eq_true rfl) ?_
        rotate_left
        have hT5 : TL s M M5 := by
          obtain ⟨a1, a2, a3, a4, a5⟩ := hT3
          have g : ∀ b, b ≠ 79 → b ≠ 86 → b ≠ 87 → b ≠ 88 → M5 b = M3 b := fun b b1 b2 b3 b4 => by rw [qb b b1 b2 b3 b4, hb b b1]
          have f : ∀ q, q ≠ 14 → q ≠ 18 → q ≠ 19 → M5 79 q = M3 79 q := fun q q1 q2 q3 => by rw [qq q q1, hq q q1 q2 q3]
          exact ⟨fun b h1 h2 => by rw [g b (by unfold PR at h1; omega) (by unfold PR at h1; omega) (by unfold PR at h1; omega) (by unfold PR at h1; omega)]; exact a1 b h1 h2, fun q hq2 => by rw [f q (by unfold P79 at hq2; omega) (by unfold P79 at hq2; omega) (by unfold P79 at hq2; omega)]; exact a2 q hq2, fun t ht => by rw [g 82 (by omega) (by omega) (by omega) (by omega)]; exact a3 t ht, a4.of (f 2 (by omega) (by omega) (by omega)) (g 81 (by omega) (by omega) (by omega) (by omega)), fun q hq2 => by rw [g 97 (by omega) (by omega) (by omega) (by omega)]; exact a5 q hq2⟩
        have hN5 : TN s a c t M5 := ⟨⟨q14, by rw [qq 18 (by omega)]; exact h18, by rw [qq 19 (by omega)]; exact h19⟩, by rw [q86]; unfold upd; rw [if_pos rfl], by rw [q87]; unfold upd; rw [if_pos rfl], by rw [q88]; unfold upd; rw [if_pos rfl]⟩
        have nx := rows 1000 0 M5 (by omega) hT5 hN5 (fun x hxx => by rw [qb 98 (by omega) (by omega) (by omega) (by omega), hb 98 (by omega), hx x hxx]; rfl)
        have h00 : mxF (fun x => tlN s a c t x 0) 7 = 0 := by have := mxF_lub (f := fun x => tlN s a c t x 0) (b := 0) (n := 7) (fun x _ => Nat.le_refl _); omega
        rw [h00] at nx
        exact nx
      | succ r ih =>
        intro i M3 hi hT3 hx
        have e1 : (nI i).toNatClampNeg = i := nI_cl (by omega)
        refine jx_iload8 (pc := 52) d_R_tellsOf_52 ?_
        refine jx_bipush (pc := 54) (v := 7) d_R_tellsOf_54 (by decide) ?_
        refine jx_icmp_ge (pc := 56) 73 d_R_tellsOf_56 (by decide) (fun c56 => absurd c56 (show ¬ nI 7 ≤ nI i from nI_ge (by omega) (by omega))) (fun c56 => ?_)
        refine jx_aload0 (pc := 59) d_R_tellsOf_59 ?_
        refine jx_getR (pc := 60) gf_R_65 d_R_tellsOf_60 ad_79 sh_79 rfl ?_
        refine jx_iload8 (pc := 63) d_R_tellsOf_63 ?_
        refine jx_iconst (pc := 65) (v := 0) d_R_tellsOf_65 (by decide) ?_
        refine jx_iast (pc := 66) d_R_tellsOf_66 ad_98 sh_98 (vp_in_nI (show i < 7 by omega) (by omega)) ?_
        refine jx_iinc8 (pc := 67) d_R_tellsOf_67 rfl (Nat.le_of_ble_eq_true rfl) ?_
        refine jx_goto (pc := 70) 52 d_R_tellsOf_70 (by decide) ?_
        rotate_left
        rw [nI_add1, e1]
        refine ih (i + 1) _ (by omega) (hT3.put _ _) (fun x hxx => ?_)
        rw [j_set_s]; unfold upd
        by_cases hcx : x = i
        · rw [if_pos hcx]
        · rw [if_neg hcx]; exact hx x (by omega)
    refine jx_iconst (pc := 46) (v := 0) d_R_tellsOf_46 (by decide) ?_
    refine jx_istore7 (pc := 47) d_R_tellsOf_47 rfl (Nat.le_of_ble_eq_true rfl) ?_
    refine jx_iconst (pc := 49) (v := 0) d_R_tellsOf_49 (by decide) ?_
    refine jx_istore8 (pc := 50) d_R_tellsOf_50 rfl (Nat.le_of_ble_eq_true rfl) ?_
    rotate_left
    exact zero 7 0 M2 (by omega) hT (fun x hx => absurd hx (by omega))
  let x3 : Int32 := nI (100 * g_ta s 0 0 + 10 * g_ta s 0 1 + g_ta s 0 2)
  have end40 : ∀ (M2 : j_M) (x5 : Int32) (e7 e8 : Option Value), TL s M M2 → j_W (d + 4) I_R_tellsOf X 40 [some (.ref 79), some (.int (nI a)), some (.int (nI c)), some (.int x3), some (.int (nI (lstT s a c))), some (.int x5), some (.int (nI 3)), e7, e8] [] M2 := by
    intro M2 x5 e7 e8 hT
    obtain ⟨a1, a2, a3, a4, a5⟩ := hT
    refine jx_iload6 (pc := 40) d_R_tellsOf_40 ?_
    refine jx_iconst (pc := 42) (v := 3) d_R_tellsOf_42 (by decide) ?_
    refine jx_icmp_ge (pc := 43) 229 d_R_tellsOf_43 (by decide) (fun c43 => ?_) (fun c43 => absurd c43 (fun q => q (show nI 3 ≤ nI 3 from Int32.le_refl _)))
    refine jx_aload0 (pc := 229) d_R_tellsOf_229 ?_
    refine jx_iload3 (pc := 230) d_R_tellsOf_230 ?_
    refine jx_callV1 (pc := 231) (d' := 0) vo_R_tastesBy lk_R_249 d_R_tellsOf_231 ad_79 sh_79 rfl (by omega) (Nat.le_of_ble_eq_true rfl) ?_
    refine c_R_tastesBy hrow (fun M3 hb ht ht3 => ?_)
    refine jx_r0 ?_
    refine jx_iload4 (pc := 234) d_R_tellsOf_234 ?_
    refine jx_iret (pc := 236) hX rfl d_R_tellsOf_236 ?_
    rotate_left
    refine k M3 ⟨fun b hh => ?_, fun q hq => by rw [hb 79 (by omega)]; exact a2 q hq⟩ (a4.of (by rw [hb 79 (by omega)]) (hb 81 (by omega)))
    by_cases h82 : b = 82
    · subst h82
      funext t
      by_cases h3 : t < 3
      · rw [ht t h3]
        have h4 := hR.2.1 0 t (by omega) h3
        rw [show 3 * 0 + t = t by omega] at h4
        rw [h4]
        have h5 : t = 0 ∨ t = 1 ∨ t = 2 := by omega
        rcases h5 with rfl | rfl | rfl
        · rw [show trow (100 * g_ta s 0 0 + 10 * g_ta s 0 1 + g_ta s 0 2) 0 = g_ta s 0 0 by unfold trow; rw [if_pos rfl]; omega]
        · rw [show trow (100 * g_ta s 0 0 + 10 * g_ta s 0 1 + g_ta s 0 2) 1 = g_ta s 0 1 by unfold trow; rw [if_neg (by omega), if_pos rfl]; omega]
        · rw [show trow (100 * g_ta s 0 0 + 10 * g_ta s 0 1 + g_ta s 0 2) 2 = g_ta s 0 2 by unfold trow; rw [if_neg (by omega), if_neg (by omega)]; omega]
      · rw [ht3 t (by omega)]; exact a3 t (by omega)
    · rw [hb b h82]; exact a1 b hh h82
  have stepG : ∀ (t b : Nat), t < 3 → b < 3 → (∀ (M4 : j_M) (e7 e8 : Option Value), TL s M M4 → j_W (d + 4) I_R_tellsOf X 40 [some (.ref 79), some (.int (nI a)), some (.int (nI c)), some (.int x3), some (.int (nI (if grT s a c t < grT s a c b then t else b))), some (.int (nI (grT s a c (if grT s a c t < grT s a c b then t else b)))), some (.int (nI (t + 1))), e7, e8] [] M4) → ∀ (M2 : j_M) (e7 e8 : Option Value), TL s M M2 → j_W (d + 4) I_R_tellsOf X 40 [some (.ref 79), some (.int (nI a)), some (.int (nI c)), some (.int x3), some (.int (nI b)), some (.int (nI (grT s a c b))), some (.int (nI t)), e7, e8] [] M2 := by
    intro t b ht hb2 kk M2 e7 e8 hT
    have g1 := grT_le s a c t
    have g2 := grT_le s a c b
    refine jx_iload6 (pc := 40) d_R_tellsOf_40 ?_
    refine jx_iconst (pc := 42) (v := 3) d_R_tellsOf_42 (by decide) ?_
    refine jx_icmp_ge (pc := 43) 229 d_R_tellsOf_43 (by decide) (fun c43 => absurd c43 (show ¬ nI 3 ≤ nI t from nI_ge (by omega) (by omega))) (fun c43 => ?_)
    rotate_left
    refine body t x3 (nI b) (nI (grT s a c b)) ht (fun M4 e8 hT4 => ?_) M2 _ _ hT
    have nx := kk M4 (some (.int (nI (grT s a c t)))) (some (.int e8)) hT4
    have hm1 : nI (grT s a c b) ≠ -1 := nI_ne_m1 (by omega)
    by_cases hlt : grT s a c t < grT s a c b
    · rw [if_pos hlt] at nx
      refine jx_iload5 (pc := 179) d_R_tellsOf_179 ?_
      refine jx_iconst (pc := 181) (v := (-1)) d_R_tellsOf_181 (by decide) ?_
      refine jx_icmp_eq (pc := 182) 192 d_R_tellsOf_182 (by decide) (fun c182 => absurd c182 (fun q => hm1 q)) (fun c182 => ?_)
      refine jx_iload7 (pc := 185) d_R_tellsOf_185 ?_
      refine jx_iload5 (pc := 187) d_R_tellsOf_187 ?_
      refine jx_icmp_ge (pc := 189) 197 d_R_tellsOf_189 (by decide) (fun c189 => absurd c189 (nI_ge hlt (by omega))) (fun c189 => ?_)
      refine jx_iload6 (pc := 192) d_R_tellsOf_192 ?_
      refine jx_goto (pc := 194) 199 d_R_tellsOf_194 (by decide) ?_
      refine jx_istore4 (pc := 199) d_R_tellsOf_199 rfl (Nat.le_of_ble_eq_true rfl) ?_
      refine jx_iload5 (pc := 201) d_R_tellsOf_201 ?_
      refine jx_iconst (pc := 203) (v := (-1)) d_R_tellsOf_203 (by decide) ?_
      refine jx_icmp_eq (pc := 204) 214 d_R_tellsOf_204 (by decide) (fun c204 => absurd c204 (fun q => hm1 q)) (fun c204 => ?_)
      refine jx_iload7 (pc := 207) d_R_tellsOf_207 ?_
      refine jx_iload5 (pc := 209) d_R_tellsOf_209 ?_
      refine jx_icmp_ge (pc := 211) 219 d_R_tellsOf_211 (by decide) (fun c211 => absurd c211 (nI_ge hlt (by omega))) (fun c211 => ?_)
      refine jx_iload7 (pc := 214) d_R_tellsOf_214 ?_
      refine jx_goto (pc := 216) 221 d_R_tellsOf_216 (by decide) ?_
      refine jx_istore5 (pc := 221) d_R_tellsOf_221 rfl (Nat.le_of_ble_eq_true rfl) ?_
      refine jx_iinc6 (pc := 223) d_R_tellsOf_223 rfl (Nat.le_of_ble_eq_true rfl) ?_
      refine jx_goto (pc := 226) 40 d_R_tellsOf_226 (by decide) ?_
      rotate_left
      rw [nI_add1]
      exact nx
    · rw [if_neg hlt] at nx
      refine jx_iload5 (pc := 179) d_R_tellsOf_179 ?_
      refine jx_iconst (pc := 181) (v := (-1)) d_R_tellsOf_181 (by decide) ?_
      refine jx_icmp_eq (pc := 182) 192 d_R_tellsOf_182 (by decide) (fun c182 => absurd c182 (fun q => hm1 q)) (fun c182 => ?_)
      refine jx_iload7 (pc := 185) d_R_tellsOf_185 ?_
      refine jx_iload5 (pc := 187) d_R_tellsOf_187 ?_
      refine jx_icmp_ge (pc := 189) 197 d_R_tellsOf_189 (by decide) (fun c189 => ?_) (fun c189 => absurd c189 (fun q => q (nI_le (by omega) (by omega))))
      refine jx_iload4 (pc := 197) d_R_tellsOf_197 ?_
      refine jx_istore4 (pc := 199) d_R_tellsOf_199 rfl (Nat.le_of_ble_eq_true rfl) ?_
      refine jx_iload5 (pc := 201) d_R_tellsOf_201 ?_
      refine jx_iconst (pc := 203) (v := (-1)) d_R_tellsOf_203 (by decide) ?_
      refine jx_icmp_eq (pc := 204) 214 d_R_tellsOf_204 (by decide) (fun c204 => absurd c204 (fun q => hm1 q)) (fun c204 => ?_)
      refine jx_iload7 (pc := 207) d_R_tellsOf_207 ?_
      refine jx_iload5 (pc := 209) d_R_tellsOf_209 ?_
      refine jx_icmp_ge (pc := 211) 219 d_R_tellsOf_211 (by decide) (fun c211 => ?_) (fun c211 => absurd c211 (fun q => q (nI_le (by omega) (by omega))))
      refine jx_iload5 (pc := 219) d_R_tellsOf_219 ?_
      refine jx_istore5 (pc := 221) d_R_tellsOf_221 rfl (Nat.le_of_ble_eq_true rfl) ?_
      refine jx_iinc6 (pc := 223) d_R_tellsOf_223 rfl (Nat.le_of_ble_eq_true rfl) ?_
      refine jx_goto (pc := 226) 40 d_R_tellsOf_226 (by decide) ?_
      rotate_left
      rw [nI_add1]
      exact nx
  have step0 : ∀ (M2 : j_M) (e7 e8 : Option Value), TL s M M2 → j_W (d + 4) I_R_tellsOf X 40 [some (.ref 79), some (.int (nI a)), some (.int (nI c)), some (.int x3), some (.int (nI 0)), some (.int (-1)), some (.int (nI 0)), e7, e8] [] M2 := by
    intro M2 e7 e8 hT
    refine jx_iload6 (pc := 40) d_R_tellsOf_40 ?_
    refine jx_iconst (pc := 42) (v := 3) d_R_tellsOf_42 (by decide) ?_
    refine jx_icmp_ge (pc := 43) 229 d_R_tellsOf_43 (by decide) (fun c43 => absurd c43 (by decide)) (fun c43 => ?_)
    rotate_left
    refine body 0 x3 (nI 0) (-1) (by omega) (fun M4 e8 hT4 => ?_) M2 _ _ hT
    refine jx_iload5 (pc := 179) d_R_tellsOf_179 ?_
    refine jx_iconst (pc := 181) (v := (-1)) d_R_tellsOf_181 (by decide) ?_
    refine jx_icmp_eq (pc := 182) 192 d_R_tellsOf_182 (by decide) (fun c182 => ?_) (fun c182 => absurd c182 (fun q => q rfl))
    refine jx_iload6 (pc := 192) d_R_tellsOf_192 ?_
    refine jx_goto (pc := 194) 199 d_R_tellsOf_194 (by decide) ?_
    refine jx_istore4 (pc := 199) d_R_tellsOf_199 rfl (Nat.le_of_ble_eq_true rfl) ?_
    refine jx_iload5 (pc := 201) d_R_tellsOf_201 ?_
    refine jx_iconst (pc := 203) (v := (-1)) d_R_tellsOf_203 (by decide) ?_
    refine jx_icmp_eq (pc := 204) 214 d_R_tellsOf_204 (by decide) (fun c204 => ?_) (fun c204 => absurd c204 (fun q => q rfl))
    refine jx_iload7 (pc := 214) d_R_tellsOf_214 ?_
    refine jx_goto (pc := 216) 221 d_R_tellsOf_216 (by decide) ?_
    refine jx_istore5 (pc := 221) d_R_tellsOf_221 rfl (Nat.le_of_ble_eq_true rfl) ?_
    refine jx_iinc6 (pc := 223) d_R_tellsOf_223 rfl (Nat.le_of_ble_eq_true rfl) ?_
    refine jx_goto (pc := 226) 40 d_R_tellsOf_226 (by decide) ?_
    rotate_left
    rw [nI_add1]
    refine stepG 1 0 (by omega) (by omega) (fun M5 e7 e8 hT5 => ?_) M4 _ _ hT4
    refine stepG 2 _ (by omega) (by split <;> omega) (fun M6 e7 e8 hT6 => ?_) M5 _ _ hT5
    exact end40 M6 _ _ _ hT6
  refine jx_aload0 (pc := 0) d_R_tellsOf_0 ?_
  refine jx_callV0 (pc := 1) (d' := d + 3) vo_R_laysFits lk_R_260 d_R_tellsOf_1 ad_79 sh_79 rfl (by omega) (Nat.le_of_ble_eq_true rfl) ?_
  refine c_R_laysFits hw hR (fun M1 hS1 hr1 h97 h32 h33 => ?_)
  refine jx_r0 ?_
  refine jx_bipush (pc := 4) (v := 100) d_R_tellsOf_4 (by decide) ?_
  refine jx_aload0 (pc := 6) d_R_tellsOf_6 ?_
  refine jx_getR (pc := 7) gf_R_16 d_R_tellsOf_7 ad_79 sh_79 rfl ?_
  refine jx_iconst (pc := 10) (v := 0) d_R_tellsOf_10 (by decide) ?_
  refine jx_ialdK (pc := 11) 0 d_R_tellsOf_11 ad_82 sh_82 (by decide) (by unfold vp_in; decide) ?_
  refine jx_imul (pc := 12) d_R_tellsOf_12 ?_
  refine jx_bipush (pc := 13) (v := 10) d_R_tellsOf_13 (by decide) ?_
  refine jx_aload0 (pc := 15) d_R_tellsOf_15 ?_
  refine jx_getR (pc := 16) gf_R_16 d_R_tellsOf_16 ad_79 sh_79 rfl ?_
  refine jx_iconst (pc := 19) (v := 1) d_R_tellsOf_19 (by decide) ?_
  refine jx_ialdK (pc := 20) 1 d_R_tellsOf_20 ad_82 sh_82 (by decide) (by unfold vp_in; decide) ?_
  refine jx_imul (pc := 21) d_R_tellsOf_21 ?_
  refine jx_iadd (pc := 22) d_R_tellsOf_22 ?_
  refine jx_aload0 (pc := 23) d_R_tellsOf_23 ?_
  refine jx_getR (pc := 24) gf_R_16 d_R_tellsOf_24 ad_79 sh_79 rfl ?_
  refine jx_iconst (pc := 27) (v := 2) d_R_tellsOf_27 (by decide) ?_
  refine jx_ialdK (pc := 28) 2 d_R_tellsOf_28 ad_82 sh_82 (by decide) (by unfold vp_in; decide) ?_
  refine jx_iadd (pc := 29) d_R_tellsOf_29 ?_
  refine jx_istore3 (pc := 30) d_R_tellsOf_30 rfl (Nat.le_of_ble_eq_true rfl) ?_
  refine jx_iconst (pc := 31) (v := 0) d_R_tellsOf_31 (by decide) ?_
  refine jx_istore4 (pc := 32) d_R_tellsOf_32 rfl (Nat.le_of_ble_eq_true rfl) ?_
  refine jx_iconst (pc := 34) (v := (-1)) d_R_tellsOf_34 (by decide) ?_
  refine jx_istore5 (pc := 35) d_R_tellsOf_35 rfl (Nat.le_of_ble_eq_true rfl) ?_
  refine jx_iconst (pc := 37) (v := 0) d_R_tellsOf_37 (by decide) ?_
  refine jx_istore6 (pc := 38) d_R_tellsOf_38 rfl (Nat.le_of_ble_eq_true rfl) ?_
  rotate_left
  have h82 : M1 82 = M 82 := hS1.1 82 (Or.inr (by unfold PR; omega))
  have t0 : M1 82 0 = nI (g_ta s 0 0) := by rw [h82]; exact hR.2.1 0 0 (by omega) (by omega)
  have t1 : M1 82 1 = nI (g_ta s 0 1) := by rw [h82]; exact hR.2.1 0 1 (by omega) (by omega)
  have t2 : M1 82 2 = nI (g_ta s 0 2) := by rw [h82]; exact hR.2.1 0 2 (by omega) (by omega)
  rw [show (100 : Int32) * M1 82 0 + 10 * M1 82 1 + M1 82 2 = x3 by rw [t0, t1, t2, show (100 : Int32) = nI 100 from rfl, show (10 : Int32) = nI 10 from rfl, nI_mul, nI_mul, nI_add, nI_add]]
  exact step0 M1 _ _ ⟨fun b h1 h2 => hS1.1 b h1, hS1.2, fun t ht => by rw [h82], hr1, h97⟩
theorem c_R_tells {d : Nat} {dy h : Int32} {s : Sg} {M : j_M} {Q : Option Value → j_M → Prop} (hw : WF s) (hR : RepR s M) (k : ∀ M', ScrR M M' → Q (some (.int (r_tells s dy h))) M') : j_Ct (d + 5) I_R_tells [.ref 79, .int dy, .int h] M Q := by
  refine j_met (by decide +kernel) co_R_tells (Nat.le_of_ble_eq_true rfl) (fun X hX => ?_)
  show j_W (d + 5) I_R_tells X 0 [some (.ref 79), some (.int dy), some (.int h)] [] M
  have hn6 : g_hn s ≤ 6 := hnB_le hw.1
  by_cases hb : okTel s dy h
  · obtain ⟨g1, g2⟩ := id hb
    have hp2 := g2
    obtain ⟨a, ha, rfl, ea⟩ := okd dy 30 (by omega) g1
    obtain ⟨c, hc, rfl, ec⟩ := okd h _ (by omega) g2
    have hr : r_tells s (nI a) (nI c) = nI (lstT s a c) := by unfold r_tells; rw [if_pos hb, ea, ec]
    rw [hr] at k
    refine jx_iload1 (pc := 0) d_R_tells_0 ?_
    refine jx_callS1 (pc := 1) (d' := 1) so_R_isDay lk_R_126 d_R_tells_1 (by omega) (Nat.le_of_ble_eq_true rfl) ?_
    refine c_R_isDay ?_
    refine jx_r1 ?_
    refine jx_if_eq (pc := 4) 24 d_R_tells_4 (by decide) (fun c4 => absurd c4 (z01p g1)) (fun c4 => ?_)
    refine jx_aload0 (pc := 7) d_R_tells_7 ?_
    refine jx_iload2 (pc := 8) d_R_tells_8 ?_
    refine jx_callV1 (pc := 9) (d' := d + 4) vo_R_isHeir lk_R_112 d_R_tells_9 ad_79 sh_79 rfl (by omega) (Nat.le_of_ble_eq_true rfl) ?_
    refine c_R_isHeir hw hR (fun M2 hr2 hO2 => ?_)
    refine jx_r1 ?_
    refine jx_if_eq (pc := 12) 24 d_R_tells_12 (by decide) (fun c12 => absurd c12 (z01p hp2)) (fun c12 => ?_)
    refine jx_aload0 (pc := 15) d_R_tells_15 ?_
    refine jx_iload1 (pc := 16) d_R_tells_16 ?_
    refine jx_iload2 (pc := 17) d_R_tells_17 ?_
    refine jx_callV2 (pc := 18) (d' := d + 4) vo_R_tellsOf lk_R_266 d_R_tells_18 ad_79 sh_79 rfl (by omega) (Nat.le_of_ble_eq_true rfl) ?_
    refine c_R_tellsOf hw (hR.offF hO2) ha hc (fun M3 hS3 hr3 => ?_)
    refine jx_r1 ?_
    refine jx_goto (pc := 21) 26 d_R_tells_21 (by decide) ?_
    refine jx_iret (pc := 26) hX rfl d_R_tells_26 ?_
    rotate_left
    exact k M3 ((ScrR.offF hO2).tr hS3)
  · have hr : r_tells s dy h = -2 := by unfold r_tells; rw [if_neg hb]
    rw [hr] at k
    refine jx_iload1 (pc := 0) d_R_tells_0 ?_
    refine jx_callS1 (pc := 1) (d' := 1) so_R_isDay lk_R_126 d_R_tells_1 (by omega) (Nat.le_of_ble_eq_true rfl) ?_
    refine c_R_isDay ?_
    refine jx_r1 ?_
    refine jx_if_eq (pc := 4) 24 d_R_tells_4 (by decide) (fun c4 => ?_) (fun c4 => ?_)
    refine jx_bipush (pc := 24) (v := (-2)) d_R_tells_24 (by decide) ?_
    refine jx_iret (pc := 26) hX rfl d_R_tells_26 ?_
    rotate_left
    refine jx_aload0 (pc := 7) d_R_tells_7 ?_
    refine jx_iload2 (pc := 8) d_R_tells_8 ?_
    refine jx_callV1 (pc := 9) (d' := d + 4) vo_R_isHeir lk_R_112 d_R_tells_9 ad_79 sh_79 rfl (by omega) (Nat.le_of_ble_eq_true rfl) ?_
    refine c_R_isHeir hw hR (fun M2 hr2 hO2 => ?_)
    refine jx_r1 ?_
    refine jx_if_eq (pc := 12) 24 d_R_tells_12 (by decide) (fun c12 => ?_) (fun c12 => ?_)
    refine jx_bipush (pc := 24) (v := (-2)) d_R_tells_24 (by decide) ?_
    refine jx_iret (pc := 26) hX rfl d_R_tells_26 ?_
    rotate_left
    rotate_left
    · exact k M ScrR.rf
    · exact k M2 (ScrR.offF hO2)
    · exact absurd ⟨z01n c4, z01n c12⟩ hb
