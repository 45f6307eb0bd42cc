/-! OPERATIONS of the component, fourteen: chances -/
def TC (c h last md mt : Nat) (M : j_M) : Prop := M 22 1 = nI c ∧ M 22 2 = nI h ∧ M 22 3 = nI last ∧ (∀ dd, dd < 10 → (M 22 4 = nI dd ↔ dd = md)) ∧ (md < 10 → M 22 5 = nI mt)
def WG (s : Sg) (c h last md mt r d' : Nat) : Prop := ∀ (day : Nat) (m : Mo) (M : j_M) (Q : Option Value → j_M → Prop), day + r = last + 1 → RepC s M → TC c h last md mt M → MoodAt M (35 + 4 * day) (g_ta s 0) 9 m → MoW (g_en s) (10000 * day) m → (∀ M', KK day M M' → Q (some (.long (lN (wgF s c h md mt r day m)))) M') → j_Ct d' I_Ch_weighFrom [.ref 22, .int (nI day)] M Q
theorem c_Ch_weighFrom {s : Sg} (hws : WF s) {c h last md mt : Nat} (hl : last < 10) (hc : c ≤ 16) (hh : h < g_hn s) (hmt : mt < 3) {d : Nat} : ∀ r, WG s c h last md mt r (d + 4 + r) := by
  have hn6 : g_hn s ≤ 6 := hnB_le hws.1
  have hts := hws.2.2.1 0
  intro r
  induction r with
  | zero =>
    intro day m M Q hn hR hT hM hw k
    refine j_met (by decide +kernel) co_Ch_weighFrom (Nat.le_of_ble_eq_true rfl) (fun X hX => ?_)
    show j_W (d + 4 + 0) I_Ch_weighFrom X 0 [some (.ref 22), some (.int (nI day)), none, none, none, none, none, none] [] M
    have hm0 : j_mo (35 + 4 * day) := ⟨day, by omega, rfl⟩
    have hfl : m.2.2.2.2 < g_hn s ∨ m.2.2.2.2 = 9 := hw.2.2.2.2.1
    have hfe : M (35 + 4 * day) 6 = M 22 2 ↔ m.2.2.2.2 = h := by rw [hM.2.2.2.2.2.2, hT.2.1]; exact em_eq (by omega) (by omega)
    have hgt : ¬ nI day ≤ M 22 3 := by rw [hT.2.2.1]; exact nI_ge (by omega) (by omega)
    by_cases hq : m.2.2.2.2 = h
    · have hv : wgF s c h md mt 0 day m = 1 := by unfold wgF; rw [if_pos hq]
      rw [hv] at k
      refine jx_aload0 (pc := 0) d_Ch_weighFrom_0 ?_
      refine jx_getR (pc := 1) gf_Ch_9 d_Ch_weighFrom_1 ad_22 sh_22 rfl ?_
      refine jx_getR (pc := 4) gf_Ch_31 d_Ch_weighFrom_4 ad_15 sh_15 rfl ?_
      refine jx_iload1 (pc := 7) d_Ch_weighFrom_7 ?_
      refine jx_aald (pc := 8) d_Ch_weighFrom_8 ad_16 (Or.inl rfl) sh_16 (vp_in_nI (by omega) (by omega)) (mo_r (by omega)) ?_
      refine jx_astore2 (pc := 9) d_Ch_weighFrom_9 rfl (Nat.le_of_ble_eq_true rfl) ?_
      refine jx_iload1 (pc := 10) d_Ch_weighFrom_10 ?_
      refine jx_aload0 (pc := 11) d_Ch_weighFrom_11 ?_
      refine jx_getI (pc := 12) gf_Ch_22 d_Ch_weighFrom_12 ad_22 sh_22 rfl ?_
      refine jx_icmp_le (pc := 15) 35 d_Ch_weighFrom_15 (by decide) (fun c15 => absurd c15 hgt) (fun c15 => ?_)
      refine jx_aload2 (pc := 18) d_Ch_weighFrom_18 ?_
      refine jx_getI (pc := 19) gf_Ch_47 d_Ch_weighFrom_19 (mo_a hm0) (mo_s hm0) rfl ?_
      refine jx_aload0 (pc := 22) d_Ch_weighFrom_22 ?_
      refine jx_getI (pc := 23) gf_Ch_19 d_Ch_weighFrom_23 ad_22 sh_22 rfl ?_
      refine jx_icmp_ne (pc := 26) 33 d_Ch_weighFrom_26 (by decide) (fun c26 => absurd c26 (fun z => z (hfe.mpr hq))) (fun c26 => ?_)
      refine jx_lconst (pc := 29) (v := 1) d_Ch_weighFrom_29 (by decide) ?_
      refine jx_goto (pc := 30) 34 d_Ch_weighFrom_30 (by decide) ?_
      refine jx_lret (pc := 34) hX rfl d_Ch_weighFrom_34 ?_
      rotate_left
      exact k M (fun _ _ => rfl)
    · have hv : wgF s c h md mt 0 day m = 0 := by unfold wgF; rw [if_neg hq]
      rw [hv] at k
      refine jx_aload0 (pc := 0) d_Ch_weighFrom_0 ?_
      refine jx_getR (pc := 1) gf_Ch_9 d_Ch_weighFrom_1 ad_22 sh_22 rfl ?_
      refine jx_getR (pc := 4) gf_Ch_31 d_Ch_weighFrom_4 ad_15 sh_15 rfl ?_
      refine jx_iload1 (pc := 7) d_Ch_weighFrom_7 ?_
      refine jx_aald (pc := 8) d_Ch_weighFrom_8 ad_16 (Or.inl rfl) sh_16 (vp_in_nI (by omega) (by omega)) (mo_r (by omega)) ?_
      refine jx_astore2 (pc := 9) d_Ch_weighFrom_9 rfl (Nat.le_of_ble_eq_true rfl) ?_
      refine jx_iload1 (pc := 10) d_Ch_weighFrom_10 ?_
      refine jx_aload0 (pc := 11) d_Ch_weighFrom_11 ?_
      refine jx_getI (pc := 12) gf_Ch_22 d_Ch_weighFrom_12 ad_22 sh_22 rfl ?_
      refine jx_icmp_le (pc := 15) 35 d_Ch_weighFrom_15 (by decide) (fun c15 => absurd c15 hgt) (fun c15 => ?_)
      refine jx_aload2 (pc := 18) d_Ch_weighFrom_18 ?_
      refine jx_getI (pc := 19) gf_Ch_47 d_Ch_weighFrom_19 (mo_a hm0) (mo_s hm0) rfl ?_
      refine jx_aload0 (pc := 22) d_Ch_weighFrom_22 ?_
      refine jx_getI (pc := 23) gf_Ch_19 d_Ch_weighFrom_23 ad_22 sh_22 rfl ?_
      refine jx_icmp_ne (pc := 26) 33 d_Ch_weighFrom_26 (by decide) (fun c26 => ?_) (fun c26 => absurd c26 (fun z => hq (hfe.mp z)))
      refine jx_lconst (pc := 33) (v := 0) d_Ch_weighFrom_33 (by decide) ?_
      refine jx_lret (pc := 34) hX rfl d_Ch_weighFrom_34 ?_
      rotate_left
      exact k M (fun _ _ => rfl)
  | succ r ih =>
    intro day m M Q hn hR hT hM hw k
    refine j_met (by decide +kernel) co_Ch_weighFrom (Nat.le_of_ble_eq_true rfl) (fun X hX => ?_)
    show j_W (d + 4 + (r + 1)) I_Ch_weighFrom X 0 [some (.ref 22), some (.int (nI day)), none, none, none, none, none, none] [] M
    have hm0 : j_mo (35 + 4 * day) := ⟨day, by omega, rfl⟩
    have hm1 : j_mo (35 + 4 * (day + 1)) := ⟨day + 1, by omega, rfl⟩
    have hd30 : day < 30 := by omega
    have eA : 35 + 4 * (day + 1) = 39 + 4 * day := by omega
    have hi1 : vp_in (nI day + 1) 11 := by rw [nI_1]; exact vp_in_nI (by omega) (by omega)
    have hi0 : vp_in (nI day) 11 := vp_in_nI (by omega) (by omega)
    have hr1 : ([some 35, some 39, some 43, some 47, some 51, some 55, some 59, some 63, some 67, some 71, some 75] : List (Option Nat)).getD (nI day + 1).toNatClampNeg none = some (35 + 4 * (day + 1)) := by rw [nI_1]; exact mo_r (by omega)
    have koff : ∀ {M1 M2 : j_M}, KK day M M1 → Off1 (35 + 4 * (day + 1)) M1 M2 → KK day M M2 := fun h1 h2 => h1.tr (KK.off h2 eA (by omega))
    have hle : nI day ≤ M 22 3 := by rw [hT.2.2.1]; exact nI_le (by omega) (by omega)
    have hTK : ∀ {M1 : j_M}, KK day M M1 → TC c h last md mt M1 := fun h1 => by unfold TC at *; rw [h1 22 (by omega)]; exact hT
    have hMK : ∀ {M1 : j_M}, KK day M M1 → MoodAt M1 (35 + 4 * day) (g_ta s 0) 9 m := fun h1 => hM.cong (h1 _ (by omega)) (h1 _ (by omega)) (h1 _ (by omega)) (h1 _ (by omega))
    have hwE : MoW (g_en s) (10000 * (day + 1)) (eve (g_en s) 9 m) := by
      have h1 := eveW (tr := 9) hws.en hw
      exact ⟨fun i => Nat.le_trans (h1.1 i) (by omega), h1.2⟩
    have hwB := brgsW hws.en hts hd30 (g_bs s day) _ _ (fun q hq => (g_bs_wf hws day q hq).2) hw
    have hlen := g_bs_len hws day
    have hwA : ∃ b, b ≤ 10000 * day + 4100 ∧ MoW (g_en s) b (awk s h day md mt m) := by
      unfold awk
      by_cases hd : day = md
      · rw [if_pos hd]; exact ⟨_, by omega, brgW hws.en hts hd30 hmt hwB⟩
      · rw [if_neg hd]; exact ⟨_, by omega, hwB⟩
    obtain ⟨bA, hbA, hwA1⟩ := hwA
    have hwAE : MoW (g_en s) (10000 * (day + 1)) (eve (g_en s) 9 (awk s h day md mt m)) := by
      have h1 := eveW (tr := 9) hws.en hwA1
      exact ⟨fun i => Nat.le_trans (h1.1 i) (by omega), h1.2⟩
    sorry
