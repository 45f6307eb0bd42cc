/-! OPERATIONS of the component, fifteen: a weight -/
theorem c_Ch_weigh {d : Nat} {s : Sg} (hws : WF s) {c h last md mt : Nat} {x y : Int32} {M : j_M} {Q : Option Value → j_M → Prop} (hR : RepC s M) (hl : last < 10) (hc : c ≤ 16) (hh : h < g_hn s) (hmt : mt < 3) (h1 : M 22 1 = nI c) (h2 : M 22 2 = nI h) (h3 : M 22 3 = nI last) (hx : ∀ dd, dd < 10 → (x = nI dd ↔ dd = md)) (hy : md < 10 → y = nI mt)
    (k : ∀ M', Scr M M' → (M' 22 1 = nI c ∧ M' 22 2 = nI h ∧ M' 22 3 = nI last) → Q (some (.long (lN (wgF s c h md mt (last + 1) 0 mo0)))) M') : j_Ct (d + 20) I_Ch_weigh [.ref 22, .ref 12, .int x, .int y] M Q := by
  refine j_met (by decide +kernel) co_Ch_weigh (Nat.le_of_ble_eq_true rfl) (fun X hX => ?_)
  show j_W (d + 20) I_Ch_weigh X 0 [some (.ref 22), some (.ref 12), some (.int x), some (.int y)] [] M
  have hS2 : Scr M (j_set (j_set M 22 4 x) 22 5 y) := fun b hb => by
    have : b ≠ 22 := by unfold PC at hb; omega
    rw [j_set_n _ _ _ this, j_set_n _ _ _ this]
  have h12 : ∀ t, t < 3 → j_set (j_set M 22 4 x) 22 5 y 12 t = nI (g_ta s 0 t) := fun t ht => by rw [j_set_n _ _ _ (by omega), j_set_n _ _ _ (by omega)]; exact hR.2.1 0 t (by omega) ht
  have hv : ∀ M1, Off1 35 (j_set (j_set M 22 4 x) 22 5 y) M1 → TC c h last md mt M1 := fun M1 hO => by
    unfold TC
    rw [hO 22 (by omega) (by omega) (by omega) (by omega)]
    simp only [j_set_s, upd]
    exact ⟨by simpa using h1, by simpa using h2, by simpa using h3, by simpa using hx, by simpa using hy⟩
  refine jx_aload0 (pc := 0) d_Ch_weigh_0 ?_
  refine jx_iload2 (pc := 1) d_Ch_weigh_1 ?_
  refine jx_putI (pc := 2) pf_Ch_25 d_Ch_weigh_2 ad_22 sh_22 rfl ?_
  refine jx_aload0 (pc := 5) d_Ch_weigh_5 ?_
  refine jx_iload3 (pc := 6) d_Ch_weigh_6 ?_
  refine jx_putI (pc := 7) pf_Ch_28 d_Ch_weigh_7 ad_22 sh_22 rfl ?_
  refine jx_aload0 (pc := 10) d_Ch_weigh_10 ?_
  refine jx_getR (pc := 11) gf_Ch_9 d_Ch_weigh_11 ad_22 sh_22 rfl ?_
  refine jx_getR (pc := 14) gf_Ch_31 d_Ch_weigh_14 ad_15 sh_15 rfl ?_
  refine jx_iconst (pc := 17) (v := 0) d_Ch_weigh_17 (by decide) ?_
  refine jx_aald (pc := 18) (b := 35) d_Ch_weigh_18 ad_16 (Or.inl rfl) sh_16 (by unfold vp_in; decide) (by decide) ?_
  refine jx_aload1 (pc := 19) d_Ch_weigh_19 ?_
  refine jx_iconst (pc := 20) (v := (-1)) d_Ch_weigh_20 (by decide) ?_
  refine jx_callV2 (pc := 21) (d' := d) vo_Mo_begin lk_Ch_37 d_Ch_weigh_21 (mo_a mo_35) (mo_s mo_35) rfl (by omega) (Nat.le_of_ble_eq_true rfl) ?_
  refine c_Mo_begin (ts := g_ta s 0) (tr := 9) mo_35 (by omega) sh_12 h12 (fun M1 hM1 hO1 => ?_)
  refine jx_r0 ?_
  refine jx_aload0 (pc := 24) d_Ch_weigh_24 ?_
  refine jx_iconst (pc := 25) (v := 0) d_Ch_weigh_25 (by decide) ?_
  refine jx_callS2 (pc := 26) (d' := d + 4 + (last + 1)) so_Ch_weighFrom lk_Ch_43 d_Ch_weigh_26 (by omega) (Nat.le_of_ble_eq_true rfl) ?_
  refine c_Ch_weighFrom hws hl hc hh hmt (d := d) (last + 1) 0 mo0 M1 _ (by omega) ((hS2.tr (Scr.off mo_35 hO1)).rep hR) (hv M1 hO1) hM1 (mo0W _ _) (fun M2 hK2 => ?_)
  refine jx_r1 ?_
  refine jx_lret (pc := 29) hX rfl d_Ch_weigh_29 ?_
  rotate_left
  have hT := hv M1 hO1
  refine k M2 ((hS2.tr (Scr.off mo_35 hO1)).tr hK2.scr) ?_
  rw [hK2 22 (by omega)]
  exact ⟨hT.1, hT.2.1, hT.2.2.1⟩
