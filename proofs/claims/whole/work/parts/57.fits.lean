/-! OPERATIONS of the reference, five: tastes that fit, the trainer -/
theorem RepS.of {s : Sg} {M M' : j_M} (h : RepS s M) (h1 : M' 79 28 = M 79 28) (h2 : M' 95 = M 95) (h3 : M' 96 = M 96) : RepS s M' := by
  unfold RepS at *; rw [h1, h2, h3]; exact h
theorem RdR.of {s : Sg} {M M' : j_M} (h : RdR s M) (h1 : M' 79 2 = M 79 2) (h2 : M' 81 = M 81) : RdR s M' := by
  unfold RdR at *; rw [h1, h2]; exact h
theorem RepV.of {s : Sg} {M M' : j_M} (h : RepV s M) (h1 : ∀ q, 5 ≤ q → q ≤ 10 → M' 79 q = M 79 q) (h2 : ∀ b, 83 ≤ b → b ≤ 85 → M' b = M b) : RepV s M' := by
  refine ⟨fun q hq => by rw [h1 _ (by omega) (by omega)]; exact h.1 q hq, by rw [h1 _ (by omega) (by omega)]; exact h.2.1, fun q hq => ?_⟩
  rw [h2 _ (by omega) (by omega), h2 _ (by omega) (by omega), h2 _ (by omega) (by omega)]
  exact h.2.2 q hq
def LF (s : Sg) (M : j_M) (i : Nat) (M2 : j_M) : Prop := (∀ b, (b < 79 ∨ PR b) → b ≠ 82 → M2 b = M b) ∧ (∀ q, P79 q → M2 79 q = M 79 q) ∧ (∀ t, 3 ≤ t → M2 82 t = M 82 t) ∧ RdR s M2 ∧ (M2 79 14 = 0 ∧ M2 79 18 = nI (g_wy s 3) ∧ M2 79 19 = -1) ∧ (∀ q, q < i → M2 97 q = if outB s (trow q) 9 then 1 else 0) ∧ M2 79 32 = nI (tcnt s i) ∧ M2 79 33 = (if tfst s i = 9999 then -1 else nI (tfst s i))
theorem LF_step {s : Sg} {M M2 M3 M4 : j_M} {i : Nat} {v x y : Int32} (h : LF s M i M2) (hb : ∀ b, b ≠ 82 → M3 b = M2 b) (h3 : ∀ t, 3 ≤ t → M3 82 t = M2 82 t) (hO : OffR M3 M4) (hv : v = if outB s (trow i) 9 then 1 else 0) (hx : x = if tfst s (i + 1) = 9999 then -1 else nI (tfst s (i + 1))) (hy : y = nI (tcnt s (i + 1))) : LF s M (i + 1) (j_set (j_set (j_set M4 97 i v) 79 33 x) 79 32 y) := by
  obtain ⟨a1, a2, a3, a4, a5, a6, a7, a8⟩ := h
  have g : ∀ b, b ≠ 79 → b ≠ 97 → j_set (j_set (j_set M4 97 i v) 79 33 x) 79 32 y b = M4 b := fun b h1 h2 => by rw [j_set_n _ _ _ h1, j_set_n _ _ _ h1, j_set_n _ _ _ h2]
  have f : ∀ q, q ≠ 32 → q ≠ 33 → j_set (j_set (j_set M4 97 i v) 79 33 x) 79 32 y 79 q = M4 79 q := fun q h1 h2 => by
    simp only [j_set_s, j_set_n (b := 79) (a := 97) _ _ _ (by omega)]; unfold upd; rw [if_neg h1, if_neg h2]
  have e : ∀ q, q ≠ 22 → q ≠ 23 → M4 79 q = M2 79 q := fun q h1 h2 => by rw [hO.2 q h1 h2, hb 79 (by omega)]
  refine ⟨fun b h1 h2 => ?_, fun q hq => ?_, fun t ht => ?_, ?_, ⟨?_, ?_, ?_⟩, fun q hq => ?_, by simp [j_set_s, upd, hy], by simp [j_set_s, upd, hx]⟩
  · have h79 : b ≠ 79 := by unfold PR at h1; omega
    have h97 : b ≠ 97 := by unfold PR at h1; omega
    rw [g b h79 h97, hO.1 b h79 (by unfold PR at h1; omega) (by unfold PR at h1; omega) (by unfold PR at h1; omega), hb b h2, a1 b h1 h2]
  · rw [f q (by unfold P79 at hq; omega) (by unfold P79 at hq; omega), e q (by unfold P79 at hq; omega) (by unfold P79 at hq; omega), a2 q hq]
  · rw [g 82 (by omega) (by omega), hO.1 82 (by omega) (by omega) (by omega) (by omega), h3 t ht, a3 t ht]
  · exact a4.of (by rw [f 2 (by omega) (by omega), e 2 (by omega) (by omega)]) (by rw [g 81 (by omega) (by omega), hO.1 81 (by omega) (by omega) (by omega) (by omega), hb 81 (by omega)])
  · rw [f 14 (by omega) (by omega), e 14 (by omega) (by omega)]; exact a5.1
  · rw [f 18 (by omega) (by omega), e 18 (by omega) (by omega)]; exact a5.2.1
  · rw [f 19 (by omega) (by omega), e 19 (by omega) (by omega)]; exact a5.2.2
  · rw [j_set_n _ _ _ (by omega), j_set_n _ _ _ (by omega), j_set_s]
    unfold upd
    by_cases hc : q = i
    · rw [if_pos hc, hv, hc]
    · rw [if_neg hc, hO.1 97 (by omega) (by omega) (by omega) (by omega), hb 97 (by omega)]; exact a6 q (by omega)
theorem tfst_cases (s : Sg) : ∀ n, tfst s n = 9999 ∨ tfst s n < n
  | 0 => Or.inl rfl
  | n + 1 => by have := tfst_cases s n; unfold tfst; split <;> (try split) <;> omega
theorem c_R_laysFits {d : Nat} {s : Sg} {M : j_M} {Q : Option Value → j_M → Prop} (hw : WF s) (hR : RepR s M) (k : ∀ M', ScrR M M' → RdR s M' → (∀ q, q < 1000 → M' 97 q = if outB s (trow q) 9 then 1 else 0) → M' 79 32 = nI (tcnt s 1000) → M' 79 33 = (if tfst s 1000 = 9999 then -1 else nI (tfst s 1000)) → Q none M') : j_Ct (d + 3) I_R_laysFits [.ref 79] M Q := by
  refine j_met (by decide +kernel) co_R_laysFits (Nat.le_of_ble_eq_true rfl) (fun X hX => ?_)
  show j_W (d + 3) I_R_laysFits X 0 [some (.ref 79), none, none] [] M
  have hts0 := hw.2.2.1 0
  have d0 := hts0 0
  have d1 := hts0 1
  have d2 := hts0 2
  have hrow : 100 * g_ta s 0 0 + 10 * g_ta s 0 1 + g_ta s 0 2 < 1000 := by omega
  have loop : ∀ (r i : Nat) (M2 : j_M), i + r = 1000 → LF s M i M2 → j_W (d + 3) I_R_laysFits X 47 [some (.ref 79), some (.int (nI (100 * g_ta s 0 0 + 10 * g_ta s 0 1 + g_ta s 0 2))), some (.int (nI i))] [] M2 := by
    intro r
    induction r with
    | zero =>
      intro i M2 hi hL
      have hi' : i = 1000 := by omega
      subst hi'
      obtain ⟨a1, a2, a3, a4, a5, a6, a7, a8⟩ := hL
      refine jx_iload2 (pc := 47) d_R_laysFits_47 ?_
      refine jx_sipush (pc := 48) (v := 1000) d_R_laysFits_48 (by decide) ?_
      refine jx_icmp_ge (pc := 51) 136 d_R_laysFits_51 (by decide) (fun c51 => ?_) (fun c51 => absurd c51 (fun q => q (show nI 1000 ≤ nI 1000 from Int32.le_refl _)))
      refine jx_aload0 (pc := 136) d_R_laysFits_136 ?_
      refine jx_iload1 (pc := 137) d_R_laysFits_137 ?_
      refine jx_callV1 (pc := 138) (d' := 0) vo_R_tastesBy lk_R_249 d_R_laysFits_138 ad_79 sh_79 rfl (by omega) (Nat.le_of_ble_eq_true rfl) ?_
      refine c_R_tastesBy hrow (fun M3 hb ht ht3 => ?_)
      refine jx_r0 ?_
      refine jx_vret (pc := 141) hX rfl d_R_laysFits_141 ?_
      rotate_left
      refine k M3 ⟨fun b hh => ?_, fun q hq => by rw [hb 79 (by omega)]; exact a2 q hq⟩ (a4.of (by rw [hb 79 (by omega)]) (hb 81 (by omega))) (fun q hq => by rw [hb 97 (by omega)]; exact a6 q hq) (by rw [hb 79 (by omega)]; exact a7) (by rw [hb 79 (by omega)]; exact a8)
      by_cases h82 : b = 82
      · subst h82
        funext t
        by_cases h3 : t < 3
        · rw [ht t h3]
          have h4 := hR.2.1 0 t (by omega) h3
          rw [show 3 * 0 + t = t by omega] at h4
          rw [h4]
          have h5 : t = 0 ∨ t = 1 ∨ t = 2 := by omega
          rcases h5 with rfl | rfl | rfl
          · rw [show trow (100 * g_ta s 0 0 + 10 * g_ta s 0 1 + g_ta s 0 2) 0 = g_ta s 0 0 by unfold trow; rw [if_pos rfl]; omega]
          · rw [show trow (100 * g_ta s 0 0 + 10 * g_ta s 0 1 + g_ta s 0 2) 1 = g_ta s 0 1 by unfold trow; rw [if_neg (by omega), if_pos rfl]; omega]
          · rw [show trow (100 * g_ta s 0 0 + 10 * g_ta s 0 1 + g_ta s 0 2) 2 = g_ta s 0 2 by unfold trow; rw [if_neg (by omega), if_neg (by omega)]; omega]
        · rw [ht3 t (by omega)]; exact a3 t (by omega)
      · rw [hb b h82]; exact a1 b hh h82
    | succ r ih =>
      intro i M2 hi hL
      obtain ⟨a1, a2, a3, a4, a5, a6, a7, a8⟩ := id hL
      have e1 : (nI i).toNatClampNeg = i := nI_cl (by omega)
      have hv : vp_in (nI i) 1000 := vp_in_nI (by omega) (by omega)
      have S2 : RepS s M2 := hR.s.of (a2 28 (by unfold P79; omega)) (a1 95 (by unfold PR; omega) (by omega)) (a1 96 (by unfold PR; omega) (by omega))
      have V2 : RepV s M2 := hR.v.of (fun q h1 h2 => a2 q (by unfold P79; omega)) (fun b h1 h2 => a1 b (by unfold PR; omega) (by omega))
      have hfl : ∀ kk, kk < g_ns s → fdA s (trow i) 9 (g_sd s kk) < 10 := fun kk _ => by
        have hn6 : g_hn s ≤ 6 := hnB_le hw.1
        have := fdA_lt hw (ts := trow i) (fun t => trow_le (by omega) t) 9 (hw.2.2.2.2.2.2.2.2.1 kk).1
        omega
      have fin : ∀ (M3 M4 : j_M), (∀ b, b ≠ 82 → M3 b = M2 b) → (∀ t, 3 ≤ t → M3 82 t = M2 82 t) → OffR M3 M4 → j_W (d + 3) I_R_laysFits X 77 [some (.ref 79), some (.int (nI (100 * g_ta s 0 0 + 10 * g_ta s 0 1 + g_ta s 0 2))), some (.int (nI i))] [.int (if outB s (trow i) 9 then 1 else 0), .int (nI i), .ref 97] M4 := by
        intro M3 M4 hb h3 hO
        have h33 : M4 79 33 = (if tfst s i = 9999 then -1 else nI (tfst s i)) := by rw [hO.2 33 (by omega) (by omega), hb 79 (by omega)]; exact a8
        have h32 : M4 79 32 = nI (tcnt s i) := by rw [hO.2 32 (by omega) (by omega), hb 79 (by omega)]; exact a7
        have y32 : ∀ (a : Nat) (v x : Int32), j_set (j_set M4 97 a v) 79 33 x 79 32 = nI (tcnt s i) := fun a v x => by
          rw [j_set_s]; unfold upd; rw [if_neg (by omega), j_set_n _ _ _ (by omega), h32]
        have tc := tfst_cases s i
        by_cases hout : outB s (trow i) 9 = true
        · have hcn : tcnt s (i + 1) = tcnt s i + 1 := by rw [tcnt, if_pos hout]
          by_cases htf : tfst s i = 9999
          · have hfn : tfst s (i + 1) = i := by rw [tfst, if_pos htf, if_pos hout]
            rw [if_pos htf] at h33
            refine jx_zast (pc := 77) (by split <;> first | exact Or.inr rfl | exact Or.inl rfl) d_R_laysFits_77 ad_97 sh_97 (by first | assumption | exact vp_in_nI (by omega) (by omega)) ?_
            refine jx_aload0 (pc := 78) d_R_laysFits_78 ?_
            refine jx_aload0 (pc := 79) d_R_laysFits_79 ?_
            refine jx_getR (pc := 80) gf_R_62 d_R_laysFits_80 ad_79 sh_79 rfl ?_
            refine jx_iload2 (pc := 83) d_R_laysFits_83 ?_
            refine jx_zald (pc := 84) d_R_laysFits_84 ad_97 sh_97 (by first | assumption | exact vp_in_nI (by omega) (by omega)) ?_
            refine jx_if_eq (pc := 85) 100 d_R_laysFits_85 (by decide) (fun c85 => absurd c85 (by simp [j_set_s, upd, hout])) (fun c85 => ?_)
            refine jx_aload0 (pc := 88) d_R_laysFits_88 ?_
            refine jx_getI (pc := 89) gf_R_246 d_R_laysFits_89 ad_79 sh_79 rfl ?_
            refine jx_iconst (pc := 92) (v := (-1)) d_R_laysFits_92 (by decide) ?_
            refine jx_icmp_ne (pc := 93) 100 d_R_laysFits_93 (by decide) (fun c93 => absurd c93 (fun q => q (by rw [j_set_n _ _ _ (by omega)]; exact h33))) (fun c93 => ?_)
            refine jx_iload2 (pc := 96) d_R_laysFits_96 ?_
            refine jx_goto (pc := 97) 104 d_R_laysFits_97 (by decide) ?_
            refine jx_putI (pc := 104) pf_R_246 d_R_laysFits_104 ad_79 sh_79 rfl ?_
            refine jx_aload0 (pc := 107) d_R_laysFits_107 ?_
            refine jx_dupr (pc := 108) d_R_laysFits_108 ?_
            refine jx_getI (pc := 109) gf_R_243 d_R_laysFits_109 ad_79 sh_79 rfl ?_
            refine jx_aload0 (pc := 112) d_R_laysFits_112 ?_
            refine jx_getR (pc := 113) gf_R_62 d_R_laysFits_113 ad_79 sh_79 rfl ?_
            refine jx_iload2 (pc := 116) d_R_laysFits_116 ?_
            refine jx_zald (pc := 117) d_R_laysFits_117 ad_97 sh_97 (by first | assumption | exact vp_in_nI (by omega) (by omega)) ?_
            refine jx_if_eq (pc := 118) 125 d_R_laysFits_118 (by decide) (fun c118 => absurd c118 (by simp [j_set_s, j_set_n, upd, hout])) (fun c118 => ?_)
            refine jx_iconst (pc := 121) (v := 1) d_R_laysFits_121 (by decide) ?_
            refine jx_goto (pc := 122) 126 d_R_laysFits_122 (by decide) ?_
            refine jx_iadd (pc := 126) d_R_laysFits_126 ?_
            refine jx_putI (pc := 127) pf_R_243 d_R_laysFits_127 ad_79 sh_79 rfl ?_
            refine jx_iinc2 (pc := 130) d_R_laysFits_130 rfl (Nat.le_of_ble_eq_true rfl) ?_
            refine jx_goto (pc := 133) 47 d_R_laysFits_133 (by decide) ?_
            rotate_left
            rw [nI_add1, e1, y32, nI_1]
            exact ih (i + 1) _ (by omega) (LF_step hL hb h3 hO rfl (by rw [hfn, if_neg (by omega)]) (by rw [hcn]))
          · have hfn : tfst s (i + 1) = tfst s i := by rw [tfst, if_neg htf]
            rw [if_neg htf] at h33
            refine jx_zast (pc := 77) (by split <;> first | exact Or.inr rfl | exact Or.inl rfl) d_R_laysFits_77 ad_97 sh_97 (by first | assumption | exact vp_in_nI (by omega) (by omega)) ?_
            refine jx_aload0 (pc := 78) d_R_laysFits_78 ?_
            refine jx_aload0 (pc := 79) d_R_laysFits_79 ?_
            refine jx_getR (pc := 80) gf_R_62 d_R_laysFits_80 ad_79 sh_79 rfl ?_
            refine jx_iload2 (pc := 83) d_R_laysFits_83 ?_
            refine jx_zald (pc := 84) d_R_laysFits_84 ad_97 sh_97 (by first | assumption | exact vp_in_nI (by omega) (by omega)) ?_
            refine jx_if_eq (pc := 85) 100 d_R_laysFits_85 (by decide) (fun c85 => absurd c85 (by simp [j_set_s, upd, hout])) (fun c85 => ?_)
            refine jx_aload0 (pc := 88) d_R_laysFits_88 ?_
            refine jx_getI (pc := 89) gf_R_246 d_R_laysFits_89 ad_79 sh_79 rfl ?_
            refine jx_iconst (pc := 92) (v := (-1)) d_R_laysFits_92 (by decide) ?_
            refine jx_icmp_ne (pc := 93) 100 d_R_laysFits_93 (by decide) (fun c93 => ?_) (fun c93 => absurd c93 (by rw [j_set_n _ _ _ (by omega), h33]; exact nI_ne_m1 (by omega)))
            refine jx_aload0 (pc := 100) d_R_laysFits_100 ?_
            refine jx_getI (pc := 101) gf_R_246 d_R_laysFits_101 ad_79 sh_79 rfl ?_
            refine jx_putI (pc := 104) pf_R_246 d_R_laysFits_104 ad_79 sh_79 rfl ?_
            refine jx_aload0 (pc := 107) d_R_laysFits_107 ?_
            refine jx_dupr (pc := 108) d_R_laysFits_108 ?_
            refine jx_getI (pc := 109) gf_R_243 d_R_laysFits_109 ad_79 sh_79 rfl ?_
            refine jx_aload0 (pc := 112) d_R_laysFits_112 ?_
            refine jx_getR (pc := 113) gf_R_62 d_R_laysFits_113 ad_79 sh_79 rfl ?_
            refine jx_iload2 (pc := 116) d_R_laysFits_116 ?_
            refine jx_zald (pc := 117) d_R_laysFits_117 ad_97 sh_97 (by first | assumption | exact vp_in_nI (by omega) (by omega)) ?_
            refine jx_if_eq (pc := 118) 125 d_R_laysFits_118 (by decide) (fun c118 => absurd c118 (by simp [j_set_s, j_set_n, upd, hout])) (fun c118 => ?_)
            refine jx_iconst (pc := 121) (v := 1) d_R_laysFits_121 (by decide) ?_
            refine jx_goto (pc := 122) 126 d_R_laysFits_122 (by decide) ?_
            refine jx_iadd (pc := 126) d_R_laysFits_126 ?_
            refine jx_putI (pc := 127) pf_R_243 d_R_laysFits_127 ad_79 sh_79 rfl ?_
            refine jx_iinc2 (pc := 130) d_R_laysFits_130 rfl (Nat.le_of_ble_eq_true rfl) ?_
            refine jx_goto (pc := 133) 47 d_R_laysFits_133 (by decide) ?_
            rotate_left
            rw [nI_add1, e1, y32, nI_1]
            exact ih (i + 1) _ (by omega) (LF_step hL hb h3 hO rfl (by rw [hfn, if_neg htf, j_set_n _ _ _ (by omega), h33]) (by rw [hcn]))
        · have hcn : tcnt s (i + 1) = tcnt s i := by rw [tcnt, if_neg hout]
          have hfn : tfst s (i + 1) = tfst s i := by rcases tc with h | h; rw [tfst, if_pos h, if_neg hout, h]; rw [tfst, if_neg (by omega)]
          refine jx_zast (pc := 77) (by split <;> first | exact Or.inr rfl | exact Or.inl rfl) d_R_laysFits_77 ad_97 sh_97 (by first | assumption | exact vp_in_nI (by omega) (by omega)) ?_
          refine jx_aload0 (pc := 78) d_R_laysFits_78 ?_
          refine jx_aload0 (pc := 79) d_R_laysFits_79 ?_
          refine jx_getR (pc := 80) gf_R_62 d_R_laysFits_80 ad_79 sh_79 rfl ?_
          refine jx_iload2 (pc := 83) d_R_laysFits_83 ?_
          refine jx_zald (pc := 84) d_R_laysFits_84 ad_97 sh_97 (by first | assumption | exact vp_in_nI (by omega) (by omega)) ?_
          refine jx_if_eq (pc := 85) 100 d_R_laysFits_85 (by decide) (fun c85 => ?_) (fun c85 => absurd c85 (fun q => q (by simp [j_set_s, upd, hout])))
          refine jx_aload0 (pc := 100) d_R_laysFits_100 ?_
          refine jx_getI (pc := 101) gf_R_246 d_R_laysFits_101 ad_79 sh_79 rfl ?_
          refine jx_putI (pc := 104) pf_R_246 d_R_laysFits_104 ad_79 sh_79 rfl ?_
          refine jx_aload0 (pc := 107) d_R_laysFits_107 ?_
          refine jx_dupr (pc := 108) d_R_laysFits_108 ?_
          refine jx_getI (pc := 109) gf_R_243 d_R_laysFits_109 ad_79 sh_79 rfl ?_
          refine jx_aload0 (pc := 112) d_R_laysFits_112 ?_
          refine jx_getR (pc := 113) gf_R_62 d_R_laysFits_113 ad_79 sh_79 rfl ?_
          refine jx_iload2 (pc := 116) d_R_laysFits_116 ?_
          refine jx_zald (pc := 117) d_R_laysFits_117 ad_97 sh_97 (by first | assumption | exact vp_in_nI (by omega) (by omega)) ?_
          refine jx_if_eq (pc := 118) 125 d_R_laysFits_118 (by decide) (fun c118 => ?_) (fun c118 => absurd c118 (fun q => q (by simp [j_set_s, j_set_n, upd, hout])))
          refine jx_iconst (pc := 125) (v := 0) d_R_laysFits_125 (by decide) ?_
          refine jx_iadd (pc := 126) d_R_laysFits_126 ?_
          refine jx_putI (pc := 127) pf_R_243 d_R_laysFits_127 ad_79 sh_79 rfl ?_
          refine jx_iinc2 (pc := 130) d_R_laysFits_130 rfl (Nat.le_of_ble_eq_true rfl) ?_
          refine jx_goto (pc := 133) 47 d_R_laysFits_133 (by decide) ?_
          rotate_left
          rw [nI_add1, e1, y32]
          exact ih (i + 1) _ (by omega) (LF_step hL hb h3 hO rfl (by rw [hfn, j_set_n _ _ _ (by omega), h33]) (by rw [hcn, show nI (tcnt s i) + 0 = nI (tcnt s i) by rw [← nI_0, nI_add, Nat.add_zero]]))
      refine jx_iload2 (pc := 47) d_R_laysFits_47 ?_
      refine jx_sipush (pc := 48) (v := 1000) d_R_laysFits_48 (by decide) ?_
      refine jx_icmp_ge (pc := 51) 136 d_R_laysFits_51 (by decide) (fun c51 => absurd c51 (show ¬ nI 1000 ≤ nI i from nI_ge (by omega) (by omega))) (fun c51 => ?_)
      refine jx_aload0 (pc := 54) d_R_laysFits_54 ?_
      refine jx_iload2 (pc := 55) d_R_laysFits_55 ?_
      refine jx_callV1 (pc := 56) (d' := 0) vo_R_tastesBy lk_R_249 d_R_laysFits_56 ad_79 sh_79 rfl (by omega) (Nat.le_of_ble_eq_true rfl) ?_
      refine c_R_tastesBy (row := i) (by omega) (fun M3 hb ht ht3 => ?_)
      refine jx_r0 ?_
      refine jx_aload0 (pc := 59) d_R_laysFits_59 ?_
      refine jx_iconst (pc := 60) (v := 0) d_R_laysFits_60 (by decide) ?_
      refine jx_aload0 (pc := 61) d_R_laysFits_61 ?_
      refine jx_callV0 (pc := 62) (d' := 0) vo_R_lastSeen lk_R_253 d_R_laysFits_62 ad_79 sh_79 rfl (by omega) (Nat.le_of_ble_eq_true rfl) ?_
      refine c_R_lastSeen hw (S2.of (by rw [hb 79 (by omega)]) (hb 95 (by omega)) (hb 96 (by omega))) ?_
      refine jx_r1 ?_
      refine jx_callV2 (pc := 65) (d' := d + 2) vo_R_runs lk_R_175 d_R_laysFits_65 ad_79 sh_79 rfl (by omega) (Nat.le_of_ble_eq_true rfl) ?_
      refine c_R_runs (dog := 0) (ts := trow i) (tr := 9) (e := g_en s) (sl := g_wy s 3) (V := g_V s) (N := V0) (by omega) (lsN_lt hw _) (er_of hw (V2.of (fun q h1 h2 => by rw [hb 79 (by omega)]) (fun b h1 h2 => hb b (by omega))) (a4.of (by rw [hb 79 (by omega)]) (hb 81 (by omega))) (fun t => trow_le (by omega) t) (fun t h3 => by rw [show 3 * 0 + t = t by omega]; exact ht t h3) (by rw [hb 79 (by omega)]; exact a5.2.1) hw.2.2.2.2.1 (by rw [hb 79 (by omega)]; exact a5.2.2) ⟨by rw [hb 79 (by omega)]; exact a5.1, Nat.zero_le _, fun q hq => absurd hq (Nat.not_lt_zero _)⟩) (Or.inr rfl) (fun M4 h91 h89 hO4 => ?_)
      rw [bsR_told] at h91
      refine jx_r0 ?_
      refine jx_aload0 (pc := 68) d_R_laysFits_68 ?_
      refine jx_getR (pc := 69) gf_R_62 d_R_laysFits_69 ad_79 sh_79 rfl ?_
      refine jx_iload2 (pc := 72) d_R_laysFits_72 ?_
      refine jx_aload0 (pc := 73) d_R_laysFits_73 ?_
      refine jx_callV0 (pc := 74) (d' := 0) vo_R_isSeen lk_R_256 d_R_laysFits_74 ad_79 sh_79 rfl (by omega) (Nat.le_of_ble_eq_true rfl) ?_
      refine c_R_isSeen (f := fdA s (trow i) 9) hw (S2.of (by rw [hO4.2 28 (by omega) (by omega), hb 79 (by omega)]) (by rw [hO4.1 95 (by omega) (by omega) (by omega) (by omega), hb 95 (by omega)]) (by rw [hO4.1 96 (by omega) (by omega) (by omega) (by omega), hb 96 (by omega)])) (fun kk hk => ⟨hfl kk hk, h91 _ (lsN_ge s _ kk hk)⟩) ?_
      rw [outP_out]
      refine jx_r1 ?_
      rotate_left
      exact fin M3 M4 hb ht3 hO4
  refine jx_aload0 (pc := 0) d_R_laysFits_0 ?_
  refine jx_callV0 (pc := 1) (d' := d + 2) vo_R_reads lk_R_109 d_R_laysFits_1 ad_79 sh_79 rfl (by omega) (Nat.le_of_ble_eq_true rfl) ?_
  refine c_R_reads hw hR (fun M1 hr1 hO1 => ?_)
  refine jx_r0 ?_
  refine jx_aload0 (pc := 4) d_R_laysFits_4 ?_
  refine jx_callV0 (pc := 5) (d' := 0) vo_R_asTold lk_R_172 d_R_laysFits_5 ad_79 sh_79 rfl (by omega) (Nat.le_of_ble_eq_true rfl) ?_
  refine c_R_asTold (hR.offF hO1).v (fun M2 h14 h18 h19 hb hq => ?_)
  refine jx_r0 ?_
  refine jx_bipush (pc := 8) (v := 100) d_R_laysFits_8 (by decide) ?_
  refine jx_aload0 (pc := 10) d_R_laysFits_10 ?_
  refine jx_getR (pc := 11) gf_R_16 d_R_laysFits_11 ad_79 sh_79 rfl ?_
  refine jx_iconst (pc := 14) (v := 0) d_R_laysFits_14 (by decide) ?_
  refine jx_ialdK (pc := 15) 0 d_R_laysFits_15 ad_82 sh_82 (by decide) (by unfold vp_in; decide) ?_
  refine jx_imul (pc := 16) d_R_laysFits_16 ?_
  refine jx_bipush (pc := 17) (v := 10) d_R_laysFits_17 (by decide) ?_
  refine jx_aload0 (pc := 19) d_R_laysFits_19 ?_
  refine jx_getR (pc := 20) gf_R_16 d_R_laysFits_20 ad_79 sh_79 rfl ?_
  refine jx_iconst (pc := 23) (v := 1) d_R_laysFits_23 (by decide) ?_
  refine jx_ialdK (pc := 24) 1 d_R_laysFits_24 ad_82 sh_82 (by decide) (by unfold vp_in; decide) ?_
  refine jx_imul (pc := 25) d_R_laysFits_25 ?_
  refine jx_iadd (pc := 26) d_R_laysFits_26 ?_
  refine jx_aload0 (pc := 27) d_R_laysFits_27 ?_
  refine jx_getR (pc := 28) gf_R_16 d_R_laysFits_28 ad_79 sh_79 rfl ?_
  refine jx_iconst (pc := 31) (v := 2) d_R_laysFits_31 (by decide) ?_
  refine jx_ialdK (pc := 32) 2 d_R_laysFits_32 ad_82 sh_82 (by decide) (by unfold vp_in; decide) ?_
  refine jx_iadd (pc := 33) d_R_laysFits_33 ?_
  refine jx_istore1 (pc := 34) d_R_laysFits_34 rfl (Nat.le_of_ble_eq_true rfl) ?_
  refine jx_aload0 (pc := 35) d_R_laysFits_35 ?_
  refine jx_iconst (pc := 36) (v := 0) d_R_laysFits_36 (by decide) ?_
  refine jx_putI (pc := 37) pf_R_243 d_R_laysFits_37 ad_79 sh_79 rfl ?_
  refine jx_aload0 (pc := 40) d_R_laysFits_40 ?_
  refine jx_iconst (pc := 41) (v := (-1)) d_R_laysFits_41 (by decide) ?_
  refine jx_putI (pc := 42) pf_R_246 d_R_laysFits_42 ad_79 sh_79 rfl ?_
  refine jx_iconst (pc := 45) (v := 0) d_R_laysFits_45 (by decide) ?_
  refine jx_istore2 (pc := 46) d_R_laysFits_46 rfl (Nat.le_of_ble_eq_true rfl) ?_
  rotate_left
  have t0 : M2 82 0 = nI (g_ta s 0 0) := by rw [hb 82 (by omega)]; exact (hR.offF hO1).2.1 0 0 (by omega) (by omega)
  have t1 : M2 82 1 = nI (g_ta s 0 1) := by rw [hb 82 (by omega)]; exact (hR.offF hO1).2.1 0 1 (by omega) (by omega)
  have t2 : M2 82 2 = nI (g_ta s 0 2) := by rw [hb 82 (by omega)]; exact (hR.offF hO1).2.1 0 2 (by omega) (by omega)
  rw [show (100 : Int32) * M2 82 0 + 10 * M2 82 1 + M2 82 2 = nI (100 * g_ta s 0 0 + 10 * g_ta s 0 1 + g_ta s 0 2) by rw [t0, t1, t2, show (100 : Int32) = nI 100 from rfl, show (10 : Int32) = nI 10 from rfl, nI_mul, nI_mul, nI_add, nI_add]]
  have f : ∀ q, q ≠ 32 → q ≠ 33 → j_set (j_set M2 79 32 0) 79 33 (-1) 79 q = M2 79 q := fun q h1 h2 => by
    simp only [j_set_s]; unfold upd; rw [if_neg h2, if_neg h1]
  have g : ∀ b, b ≠ 79 → j_set (j_set M2 79 32 0) 79 33 (-1) b = M2 b := fun b h1 => by rw [j_set_n _ _ _ h1, j_set_n _ _ _ h1]
  refine loop 1000 0 _ (by omega) ⟨fun b h1 h2 => ?_, fun q hq2 => ?_, fun t ht => ?_, ?_, ⟨?_, ?_, ?_⟩, fun q hq => absurd hq (Nat.not_lt_zero _), by simp [j_set_s, upd, tcnt]; rfl, by simp [j_set_s, upd, tfst]⟩
  · rw [g b (by unfold PR at h1; omega), hb b (by unfold PR at h1; omega), hO1.1 b (by unfold PR at h1; omega) (by unfold PR at h1; omega)]
  · rw [f q (by unfold P79 at hq2; omega) (by unfold P79 at hq2; omega), hq q (by unfold P79 at hq2; omega) (by unfold P79 at hq2; omega) (by unfold P79 at hq2; omega), hO1.2 q (by unfold P79 at hq2; omega)]
  · rw [g 82 (by omega), hb 82 (by omega), hO1.1 82 (by omega) (by omega)]
  · exact hr1.of (by rw [f 2 (by omega) (by omega), hq 2 (by omega) (by omega) (by omega)]) (by rw [g 81 (by omega), hb 81 (by omega)])
  · rw [f 14 (by omega) (by omega)]; exact h14
  · rw [f 18 (by omega) (by omega)]; exact h18
  · rw [f 19 (by omega) (by omega)]; exact h19
theorem c_R_tastesOf {d w : Nat} {s : Sg} {M : j_M} {Q : Option Value → j_M → Prop} (hw : WF s) (hR : RepR s M) (hw2 : w < 2) (k : ∀ M', ScrR M M' → RdR s M' → Q (some (.int (r_tastes s (nI w)))) M') : j_Ct (d + 4) I_R_tastesOf [.ref 79, .int (nI w)] M Q := by
  refine j_met (by decide +kernel) co_R_tastesOf (Nat.le_of_ble_eq_true rfl) (fun X hX => ?_)
  show j_W (d + 4) I_R_tastesOf X 0 [some (.ref 79), some (.int (nI w))] [] M
  have hin : 0 ≤ nI w ∧ nI w < 2 := ⟨nI_pos' (by omega), nI_lt (b := 2) hw2 (by omega)⟩
  have h2 : w = 0 ∨ w = 1 := by omega
  rcases h2 with rfl | rfl
  · have hr : r_tastes s (nI 0) = nI (tcnt s 1000) := by unfold r_tastes; rw [if_pos hin, if_pos (show nI 0 = 0 from rfl)]
    rw [hr] at k
    refine jx_aload0 (pc := 0) d_R_tastesOf_0 ?_
    refine jx_callV0 (pc := 1) (d' := d + 3) vo_R_laysFits lk_R_260 d_R_tastesOf_1 ad_79 sh_79 rfl (by omega) (Nat.le_of_ble_eq_true rfl) ?_
    refine c_R_laysFits hw hR (fun M2 hS hr2 h97 h32 h33 => ?_)
    refine jx_r0 ?_
    refine jx_iload1 (pc := 4) d_R_tastesOf_4 ?_
    refine jx_if_ne (pc := 5) 15 d_R_tastesOf_5 (by decide) (fun c5 => absurd c5 (fun q => q rfl)) (fun c5 => ?_)
    refine jx_aload0 (pc := 8) d_R_tastesOf_8 ?_
    refine jx_getI (pc := 9) gf_R_243 d_R_tastesOf_9 ad_79 sh_79 rfl ?_
    refine jx_goto (pc := 12) 19 d_R_tastesOf_12 (by decide) ?_
    refine jx_iret (pc := 19) hX rfl d_R_tastesOf_19 ?_
    rotate_left
    rw [h32]
    exact k M2 hS hr2
  · have hr : r_tastes s (nI 1) = if tfst s 1000 = 9999 then -1 else nI (tfst s 1000) := by unfold r_tastes; rw [if_pos hin, if_neg (by decide)]
    rw [hr] at k
    refine jx_aload0 (pc := 0) d_R_tastesOf_0 ?_
    refine jx_callV0 (pc := 1) (d' := d + 3) vo_R_laysFits lk_R_260 d_R_tastesOf_1 ad_79 sh_79 rfl (by omega) (Nat.le_of_ble_eq_true rfl) ?_
    refine c_R_laysFits hw hR (fun M2 hS hr2 h97 h32 h33 => ?_)
    refine jx_r0 ?_
    refine jx_iload1 (pc := 4) d_R_tastesOf_4 ?_
    refine jx_if_ne (pc := 5) 15 d_R_tastesOf_5 (by decide) (fun c5 => ?_) (fun c5 => absurd c5 (show nI 1 ≠ 0 by decide))
    refine jx_aload0 (pc := 15) d_R_tastesOf_15 ?_
    refine jx_getI (pc := 16) gf_R_246 d_R_tastesOf_16 ad_79 sh_79 rfl ?_
    refine jx_iret (pc := 19) hX rfl d_R_tastesOf_19 ?_
    rotate_left
    rw [h33]
    exact k M2 hS hr2
theorem c_R_tastes {d : Nat} {w : Int32} {s : Sg} {M : j_M} {Q : Option Value → j_M → Prop} (hw : WF s) (hR : RepR s M) (k : ∀ M', ScrR M M' → Q (some (.int (r_tastes s w))) M') : j_Ct (d + 5) I_R_tastes [.ref 79, .int w] M Q := by
  refine j_met (by decide +kernel) co_R_tastes (Nat.le_of_ble_eq_true rfl) (fun X hX => ?_)
  show j_W (d + 5) I_R_tastes X 0 [some (.ref 79), some (.int w)] [] M
  by_cases hb : 0 ≤ w ∧ w < 2
  · have hb1 : 0 ≤ w ∧ w ≤ 1 := in2.mpr hb
    obtain ⟨a, ha, rfl, ea⟩ := okd w 2 (by omega) hb
    refine jx_iload1 (pc := 0) d_R_tastes_0 ?_
    refine jx_iconst (pc := 1) (v := 0) d_R_tastes_1 (by decide) ?_
    refine jx_iconst (pc := 2) (v := 1) d_R_tastes_2 (by decide) ?_
    refine jx_callS3 (pc := 3) (d' := 0) so_R_in lk_R_95 d_R_tastes_3 (by omega) (Nat.le_of_ble_eq_true rfl) ?_
    refine c_R_in ?_
    refine jx_r1 ?_
    refine jx_if_eq (pc := 6) 17 d_R_tastes_6 (by decide) (fun c6 => absurd c6 (z01p hb1)) (fun c6 => ?_)
    refine jx_aload0 (pc := 9) d_R_tastes_9 ?_
    refine jx_iload1 (pc := 10) d_R_tastes_10 ?_
    refine jx_callV1 (pc := 11) (d' := d + 4) vo_R_tastesOf lk_R_263 d_R_tastes_11 ad_79 sh_79 rfl (by omega) (Nat.le_of_ble_eq_true rfl) ?_
    refine c_R_tastesOf hw hR ha (fun M2 hS hr2 => ?_)
    refine jx_r1 ?_
    refine jx_goto (pc := 14) 19 d_R_tastes_14 (by decide) ?_
    refine jx_iret (pc := 19) hX rfl d_R_tastes_19 ?_
    rotate_left
    exact k M2 hS
  · have hb1 : ¬ (0 ≤ w ∧ w ≤ 1) := fun q => hb (in2.mp q)
    have hr : r_tastes s w = -2 := by unfold r_tastes; rw [if_neg hb]
    rw [hr] at k
    refine jx_iload1 (pc := 0) d_R_tastes_0 ?_
    refine jx_iconst (pc := 1) (v := 0) d_R_tastes_1 (by decide) ?_
    refine jx_iconst (pc := 2) (v := 1) d_R_tastes_2 (by decide) ?_
    refine jx_callS3 (pc := 3) (d' := 0) so_R_in lk_R_95 d_R_tastes_3 (by omega) (Nat.le_of_ble_eq_true rfl) ?_
    refine c_R_in ?_
    refine jx_r1 ?_
    refine jx_if_eq (pc := 6) 17 d_R_tastes_6 (by decide) (fun c6 => ?_) (fun c6 => absurd c6 (fun q => q (z01.mpr hb1)))
    refine jx_bipush (pc := 17) (v := (-2)) d_R_tastes_17 (by decide) ?_
    refine jx_iret (pc := 19) hX rfl d_R_tastes_19 ?_
    rotate_left
    exact k M ScrR.rf
