/-! OPERATIONS of the component, three: sheets -/
abbrev okPl (a : Int32) : Prop := 0 ≤ a ∧ a < 4
abbrev okFm (f : Int32) : Prop := 0 ≤ f ∧ f < 3
def lkS (s : Sg) (q : Nat) (f i : Int32) : Int32 := if g_fo s q = 9 then 1 else if f = nI (g_fo s q) then (if i < 0 ∨ nI (g_si s q) ≤ i then 2 else 0) else 3
def upI (it : Nat → Nat → Int32) (q i : Nat) (v : Int32) : Nat → Nat → Int32 := fun q' i' => if q' = q ∧ i' = i then v else it q' i'
abbrev okShe (a f n : Int32) : Prop := okPl a ∧ okFm f ∧ n ≤ 48
def r_sheet (s : Sg) (a f n : Int32) : Int32 := if okShe a f n then (if n < 0 then -10 - 5 else n) else -2
def n_sheet (s : Sg) (a f n : Int32) : Sg := if okShe a f n then (if n < 0 then s_fi s 5 else s_sh s (upN (g_fo s) (cl a) (cl f)) (upN (g_si s) (cl a) (cl n)) (fun q i => if q = cl a then 0 else g_it s q i)) else s
def r_lose (s : Sg) (a : Int32) : Int32 := if okPl a then (if g_fo s (cl a) = 9 then -10 - 1 else nI (g_si s (cl a))) else -2
def n_lose (s : Sg) (a : Int32) : Sg := if okPl a then (if g_fo s (cl a) = 9 then s_fi s 1 else s_sh s (upN (g_fo s) (cl a) 9) (g_si s) (g_it s)) else s
def r_put (s : Sg) (a f i v : Int32) : Int32 := if okPl a ∧ okFm f then (if lkS s (cl a) f i = 0 then 1 else -10 - lkS s (cl a) f i) else -2
def n_put (s : Sg) (a f i v : Int32) : Sg := if okPl a ∧ okFm f then (if lkS s (cl a) f i = 0 then s_sh s (g_fo s) (g_si s) (upI (g_it s) (cl a) (cl i) (fitF (cl f) v)) else s_fi s (lkS s (cl a) f i)) else s
def r_get (s : Sg) (a f i : Int32) : Int32 := if okPl a ∧ okFm f then (if lkS s (cl a) f i = 0 then g_it s (cl a) (cl i) else -2147483648) else -2147483648
def n_get (s : Sg) (a f i : Int32) : Sg := if okPl a ∧ okFm f then (if lkS s (cl a) f i = 0 then s else s_fi s (lkS s (cl a) f i)) else s
abbrev runS (s : Sg) (q : Nat) (i n : Int32) : Prop := (0 ≤ i ∧ 0 ≤ n) ∧ cl i + cl n ≤ g_si s q
def cpI (it : Nat → Nat → Int32) (a i b j n : Nat) : Nat → Nat → Int32 := fun q k => if q = b ∧ j ≤ k ∧ k < j + n then it a (i + (k - j)) else it q k
def r_copy (s : Sg) (a i b j n : Int32) : Int32 := if okPl a ∧ okPl b then (if g_fo s (cl a) = 9 ∨ g_fo s (cl b) = 9 then -10 - 1 else if g_fo s (cl a) = g_fo s (cl b) then (if runS s (cl a) i n ∧ runS s (cl b) j n then 1 else -10 - 2) else -10 - 4) else -2
def n_copy (s : Sg) (a i b j n : Int32) : Sg := if okPl a ∧ okPl b then (if g_fo s (cl a) = 9 ∨ g_fo s (cl b) = 9 then s_fi s 1 else if g_fo s (cl a) = g_fo s (cl b) then (if runS s (cl a) i n ∧ runS s (cl b) j n then s_sh s (g_fo s) (g_si s) (cpI (g_it s) (cl a) (cl i) (cl b) (cl j) (cl n)) else s_fi s 2) else s_fi s 4) else s
def r_write (s : Sg) (dog a : Int32) : Int32 := if (0 ≤ dog ∧ dog < 2) ∧ okPl a then (if g_fo s (cl a) = 9 then -10 - 1 else nI (min (g_si s (cl a)) 30)) else -2
def wrI (s : Sg) (dog q : Nat) (m : Nat) : Nat → Nat → Int32 := fun q' k => if q' = q ∧ k < m then fitF (g_fo s q) (em (fdD s dog k)) else g_it s q' k
def n_write (s : Sg) (dog a : Int32) : Sg := if (0 ≤ dog ∧ dog < 2) ∧ okPl a then (if g_fo s (cl a) = 9 then s_fi s 1 else s_sh s (g_fo s) (g_si s) (wrI s (cl dog) (cl a) (min (g_si s (cl a)) 30))) else s
theorem fo_lt {s : Sg} (hw : WF s) (q : Nat) : (g_fo s q < 3 ∨ g_fo s q = 9) ∧ g_si s q ≤ 48 := hw.2.2.2.2.2.2.2.2.2 q
theorem lack_lk {s : Sg} {M : j_M} (hw : WF s) (hR : RepC s M) {q : Nat} (hq : q < 4) (f i : Int32) : lackN M q f i = lkS s q f i := by
  obtain ⟨h1, h2, h3⟩ := hR.2.2.2.2.2.1 q hq
  obtain ⟨h4, h5⟩ := fo_lt hw q
  unfold lackN lkS
  rw [h1, h2]
  by_cases h9 : g_fo s q = 9
  · rw [if_pos h9, if_pos (by rw [h9]; rfl)]
  · rw [if_neg h9, if_neg (fun z => h9 ((em_m1 (by omega)).mp z)), em_lt (by omega)]
    by_cases hf : f = nI (g_fo s q)
    · rw [if_pos hf, if_pos hf.symm]
    · rw [if_neg hf, if_neg (fun z => hf z.symm)]
theorem lk_0 {s : Sg} (hw : WF s) {q : Nat} {f i : Int32} (h : lkS s q f i = 0) : g_fo s q < 3 ∧ f = nI (g_fo s q) ∧ ∃ j, j < g_si s q ∧ i = nI j ∧ cl i = j := by
  obtain ⟨h4, h5⟩ := fo_lt hw q
  unfold lkS at h
  by_cases h9 : g_fo s q = 9
  · rw [if_pos h9] at h; exact absurd h (by decide)
  · rw [if_neg h9] at h
    by_cases hf : f = nI (g_fo s q)
    · rw [if_pos hf] at h
      by_cases hi : i < 0 ∨ nI (g_si s q) ≤ i
      · rw [if_pos hi] at h; exact absurd h (by decide)
      · exact ⟨by omega, hf, okd i _ (by omega) ⟨Int32.not_lt.mp (fun z => hi (Or.inl z)), Int32.not_le.mp (fun z => hi (Or.inr z))⟩⟩
    · rw [if_neg hf] at h; exact absurd h (by decide)
theorem run_iff {i n : Int32} {z : Nat} (hz : z ≤ 48) : (0 ≤ i ∧ 0 ≤ n ∧ n ≤ nI z ∧ i ≤ nI z - n) ↔ ((0 ≤ i ∧ 0 ≤ n) ∧ cl i + cl n ≤ z) := by
  by_cases h : 0 ≤ i ∧ 0 ≤ n
  · obtain ⟨h1, h2⟩ := h
    obtain ⟨a, ha, rfl⟩ := nI_of (Int32.not_lt.mpr h1)
    obtain ⟨b, hb, rfl⟩ := nI_of (Int32.not_lt.mpr h2)
    rw [show cl (nI a) = a from nI_cl ha, show cl (nI b) = b from nI_cl hb]
    constructor
    · rintro ⟨-, -, h3, h4⟩
      have h5 : b ≤ z := (nI_leI hb (by omega)).mp h3
      rw [nI_sub h5] at h4
      have h6 : a ≤ z - b := (nI_leI ha (by omega)).mp h4
      exact ⟨⟨h1, h2⟩, by omega⟩
    · rintro ⟨-, h3⟩
      refine ⟨h1, h2, (nI_leI hb (by omega)).mpr (by omega), ?_⟩
      rw [nI_sub (by omega)]
      exact (nI_leI ha (by omega)).mpr (by omega)
  · exact ⟨fun q => absurd ⟨q.1, q.2.1⟩ h, fun q => absurd q.1 h⟩
theorem RepC.sh0 {s : Sg} {M M' : j_M} (h : RepC s M) {fo si : Nat → Nat} {it : Nat → Nat → Int32} (h2 : ShC fo si it (g_fi s) M') (ho : ∀ b, b < 23 → M' b = M b) : RepC (s_sh s fo si it) M' := h.sh (fi := g_fi s) h2 ho
theorem hi_fi {M : j_M} {x : Int32} : Hi M (j_set M 23 3 x) := fun b hb => j_set_n _ _ _ (by omega)
theorem c_J_sheet {d : Nat} {a f n : Int32} {s : Sg} {M : j_M} {Q : Option Value → j_M → Prop} (hR : RepC s M) (k : ∀ M', RepC (n_sheet s a f n) M' → Hi M M' → Q (some (.int (r_sheet s a f n))) M') : j_Ct (d + 1) I_J_sheet [.ref 0, .int a, .int f, .int n] M Q := by
  refine j_met (by decide +kernel) co_J_sheet (Nat.le_of_ble_eq_true rfl) (fun X hX => ?_)
  show j_W (d + 1) I_J_sheet X 0 [some (.ref 0), some (.int a), some (.int f), some (.int n)] [] M
  by_cases hb : okShe a f n
  · obtain ⟨g1, g2, g3⟩ := id hb
    by_cases hn : n < 0
    · have hr : r_sheet s a f n = -10 - 5 := by unfold r_sheet; rw [if_pos hb, if_pos hn]
      have hnx : n_sheet s a f n = s_fi s 5 := by unfold n_sheet; rw [if_pos hb, if_pos hn]
      rw [hr, hnx] at k
      refine jx_aload0 (pc := 0) d_J_sheet_0 ?_
      refine jx_getR (pc := 1) gf_J_77 d_J_sheet_1 ad_0 sh_0 rfl ?_
      refine jx_iload1 (pc := 4) d_J_sheet_4 ?_
      refine jx_callV1 (pc := 5) (d' := d) vo_Sh_isPlace lk_J_130 d_J_sheet_5 ad_23 sh_23 rfl (by omega) (Nat.le_of_ble_eq_true rfl) ?_
      refine c_Sh_isPlace ?_
      refine jx_r1 ?_
      refine jx_if_eq (pc := 8) 28 d_J_sheet_8 (by decide) (fun c8 => absurd c8 (z01p g1)) (fun c8 => ?_)
      refine jx_aload0 (pc := 11) d_J_sheet_11 ?_
      refine jx_getR (pc := 12) gf_J_77 d_J_sheet_12 ad_0 sh_0 rfl ?_
      refine jx_iload2 (pc := 15) d_J_sheet_15 ?_
      refine jx_callV1 (pc := 16) (d' := d) vo_Sh_isForm lk_J_263 d_J_sheet_16 ad_23 sh_23 rfl (by omega) (Nat.le_of_ble_eq_true rfl) ?_
      refine c_Sh_isForm ?_
      refine jx_r1 ?_
      refine jx_if_eq (pc := 19) 28 d_J_sheet_19 (by decide) (fun c19 => absurd c19 (z01p g2)) (fun c19 => ?_)
      refine jx_iload3 (pc := 22) d_J_sheet_22 ?_
      refine jx_bipush (pc := 23) (v := 48) d_J_sheet_23 (by decide) ?_
      refine jx_icmp_le (pc := 25) 31 d_J_sheet_25 (by decide) (fun c25 => ?_) (fun c25 => absurd c25 (fun q => q g3))
      refine jx_iload3 (pc := 31) d_J_sheet_31 ?_
      refine jx_if_ge (pc := 32) 44 d_J_sheet_32 (by decide) (fun c32 => absurd c32 (Int32.not_le.mpr hn)) (fun c32 => ?_)
      refine jx_aload0 (pc := 35) d_J_sheet_35 ?_
      refine jx_getR (pc := 36) gf_J_77 d_J_sheet_36 ad_0 sh_0 rfl ?_
      refine jx_iconst (pc := 39) (v := 5) d_J_sheet_39 (by decide) ?_
      refine jx_callV1 (pc := 40) (d' := d) vo_Sh_find lk_J_136 d_J_sheet_40 ad_23 sh_23 rfl (by omega) (Nat.le_of_ble_eq_true rfl) ?_
      refine c_Sh_find ?_
      refine jx_r1 ?_
      refine jx_iret (pc := 43) hX rfl d_J_sheet_43 ?_
      rotate_left
      exact k _ (hR.fi 5) hi_fi
    · have hr : r_sheet s a f n = n := by unfold r_sheet; rw [if_pos hb, if_neg hn]
      have hnx : n_sheet s a f n = s_sh s (upN (g_fo s) (cl a) (cl f)) (upN (g_si s) (cl a) (cl n)) (fun q i => if q = cl a then 0 else g_it s q i) := by unfold n_sheet; rw [if_pos hb, if_neg hn]
      rw [hr, hnx] at k
      obtain ⟨q, hq, rfl, ea⟩ := okd a 4 (by omega) g1
      obtain ⟨c, hc, rfl, ec⟩ := okd f 3 (by omega) g2
      obtain ⟨m, hm, rfl⟩ := le_of (n := 48) (by omega) (Int32.not_lt.mp hn) g3
      rw [ea, ec, show cl (nI m) = m from nI_cl (by omega)] at k
      refine jx_aload0 (pc := 0) d_J_sheet_0 ?_
      refine jx_getR (pc := 1) gf_J_77 d_J_sheet_1 ad_0 sh_0 rfl ?_
      refine jx_iload1 (pc := 4) d_J_sheet_4 ?_
      refine jx_callV1 (pc := 5) (d' := d) vo_Sh_isPlace lk_J_130 d_J_sheet_5 ad_23 sh_23 rfl (by omega) (Nat.le_of_ble_eq_true rfl) ?_
      refine c_Sh_isPlace ?_
      refine jx_r1 ?_
      refine jx_if_eq (pc := 8) 28 d_J_sheet_8 (by decide) (fun c8 => absurd c8 (z01p g1)) (fun c8 => ?_)
      refine jx_aload0 (pc := 11) d_J_sheet_11 ?_
      refine jx_getR (pc := 12) gf_J_77 d_J_sheet_12 ad_0 sh_0 rfl ?_
      refine jx_iload2 (pc := 15) d_J_sheet_15 ?_
      refine jx_callV1 (pc := 16) (d' := d) vo_Sh_isForm lk_J_263 d_J_sheet_16 ad_23 sh_23 rfl (by omega) (Nat.le_of_ble_eq_true rfl) ?_
      refine c_Sh_isForm ?_
      refine jx_r1 ?_
      refine jx_if_eq (pc := 19) 28 d_J_sheet_19 (by decide) (fun c19 => absurd c19 (z01p g2)) (fun c19 => ?_)
      refine jx_iload3 (pc := 22) d_J_sheet_22 ?_
      refine jx_bipush (pc := 23) (v := 48) d_J_sheet_23 (by decide) ?_
      refine jx_icmp_le (pc := 25) 31 d_J_sheet_25 (by decide) (fun c25 => ?_) (fun c25 => absurd c25 (fun q => q g3))
      refine jx_iload3 (pc := 31) d_J_sheet_31 ?_
      refine jx_if_ge (pc := 32) 44 d_J_sheet_32 (by decide) (fun c32 => ?_) (fun c32 => absurd c32 (fun q => q (Int32.not_lt.mp hn)))
      refine jx_aload0 (pc := 44) d_J_sheet_44 ?_
      refine jx_getR (pc := 45) gf_J_77 d_J_sheet_45 ad_0 sh_0 rfl ?_
      refine jx_iload1 (pc := 48) d_J_sheet_48 ?_
      refine jx_iload2 (pc := 49) d_J_sheet_49 ?_
      refine jx_iload3 (pc := 50) d_J_sheet_50 ?_
      refine jx_callV3 (pc := 51) (d' := d) vo_Sh_renew lk_J_266 d_J_sheet_51 ad_23 sh_23 rfl (by omega) (Nat.le_of_ble_eq_true rfl) ?_
      refine c_Sh_renew hq (fun M2 m24 m25 m27 hO => ?_)
      refine jx_r0 ?_
      refine jx_iload3 (pc := 54) d_J_sheet_54 ?_
      refine jx_iret (pc := 55) hX rfl d_J_sheet_55 ?_
      rotate_left
      have h6 := hR.2.2.2.2.2
      refine k M2 (hR.sh0 ⟨fun p hp => ⟨?_, ?_, fun i hi => ?_⟩, by rw [hO 23 (by omega) (by omega) (by omega)]; exact h6.2⟩ (fun b hb => hO b (by omega) (by omega) (by omega))) (fun b hb => hO b (by omega) (by omega) (by omega))
      · rw [m24]; unfold upd upN
        by_cases hp2 : p = q
        · rw [if_pos hp2, if_pos hp2, em_lt (by omega)]
        · rw [if_neg hp2, if_neg hp2]; exact (h6.1 p hp).1
      · rw [m25]; unfold upd upN
        by_cases hp2 : p = q
        · rw [if_pos hp2, if_pos hp2]
        · rw [if_neg hp2, if_neg hp2]; exact (h6.1 p hp).2.1
      · show M2 (27 + p) i = if p = q then 0 else g_it s p i
        by_cases hp2 : p = q
        · rw [if_pos hp2, hp2]; exact m27 i hi
        · rw [if_neg hp2, hO _ (by omega) (by omega) (by omega)]; exact (h6.1 p hp).2.2 i hi
  · have hr : r_sheet s a f n = -2 := by unfold r_sheet; rw [if_neg hb]
    have hnx : n_sheet s a f n = s := by unfold n_sheet; rw [if_neg hb]
    rw [hr, hnx] at k
    refine jx_aload0 (pc := 0) d_J_sheet_0 ?_
    refine jx_getR (pc := 1) gf_J_77 d_J_sheet_1 ad_0 sh_0 rfl ?_
    refine jx_iload1 (pc := 4) d_J_sheet_4 ?_
    refine jx_callV1 (pc := 5) (d' := d) vo_Sh_isPlace lk_J_130 d_J_sheet_5 ad_23 sh_23 rfl (by omega) (Nat.le_of_ble_eq_true rfl) ?_
    refine c_Sh_isPlace ?_
    refine jx_r1 ?_
    refine jx_if_eq (pc := 8) 28 d_J_sheet_8 (by decide) (fun c8 => ?_) (fun c8 => ?_)
    refine jx_bipush (pc := 28) (v := (-2)) d_J_sheet_28 (by decide) ?_
    refine jx_iret (pc := 30) hX rfl d_J_sheet_30 ?_
    rotate_left
    refine jx_aload0 (pc := 11) d_J_sheet_11 ?_
    refine jx_getR (pc := 12) gf_J_77 d_J_sheet_12 ad_0 sh_0 rfl ?_
    refine jx_iload2 (pc := 15) d_J_sheet_15 ?_
    refine jx_callV1 (pc := 16) (d' := d) vo_Sh_isForm lk_J_263 d_J_sheet_16 ad_23 sh_23 rfl (by omega) (Nat.le_of_ble_eq_true rfl) ?_
    refine c_Sh_isForm ?_
    refine jx_r1 ?_
    refine jx_if_eq (pc := 19) 28 d_J_sheet_19 (by decide) (fun c19 => ?_) (fun c19 => ?_)
    refine jx_bipush (pc := 28) (v := (-2)) d_J_sheet_28 (by decide) ?_
    refine jx_iret (pc := 30) hX rfl d_J_sheet_30 ?_
    rotate_left
    refine jx_iload3 (pc := 22) d_J_sheet_22 ?_
    refine jx_bipush (pc := 23) (v := 48) d_J_sheet_23 (by decide) ?_
    refine jx_icmp_le (pc := 25) 31 d_J_sheet_25 (by decide) (fun c25 => ?_) (fun c25 => ?_)
    rotate_left
    refine jx_bipush (pc := 28) (v := (-2)) d_J_sheet_28 (by decide) ?_
    refine jx_iret (pc := 30) hX rfl d_J_sheet_30 ?_
    rotate_left
    · exact k M hR (fun _ _ => rfl)
    · exact k M hR (fun _ _ => rfl)
    · exact absurd ⟨z01n c8, z01n c19, c25⟩ hb
    · exact k M hR (fun _ _ => rfl)
theorem c_J_lose {d : Nat} {a : Int32} {s : Sg} {M : j_M} {Q : Option Value → j_M → Prop} (hw : WF s) (hR : RepC s M) (k : ∀ M', RepC (n_lose s a) M' → Hi M M' → Q (some (.int (r_lose s a))) M') : j_Ct (d + 1) I_J_lose [.ref 0, .int a] M Q := by
  refine j_met (by decide +kernel) co_J_lose (Nat.le_of_ble_eq_true rfl) (fun X hX => ?_)
  show j_W (d + 1) I_J_lose X 0 [some (.ref 0), some (.int a)] [] M
  by_cases hb : okPl a
  · obtain ⟨q, hq, rfl, ea⟩ := okd a 4 (by omega) hb
    have hvq : vp_in (nI q) 4 := vp_in_nI hq (by omega)
    have h6 := hR.2.2.2.2.2
    obtain ⟨h1, h2, h3⟩ := h6.1 q hq
    have hfo := fo_lt hw q
    by_cases h9 : g_fo s q = 9
    · have hr : r_lose s (nI q) = -10 - 1 := by unfold r_lose; rw [if_pos hb, ea, if_pos h9]
      have hnx : n_lose s (nI q) = s_fi s 1 := by unfold n_lose; rw [if_pos hb, ea, if_pos h9]
      rw [hr, hnx] at k
      have hL : M 24 (nI q).toNatClampNeg = -1 := by rw [show (nI q).toNatClampNeg = q from ea, h1, h9]; rfl
      refine jx_aload0 (pc := 0) d_J_lose_0 ?_
      refine jx_getR (pc := 1) gf_J_77 d_J_lose_1 ad_0 sh_0 rfl ?_
      refine jx_iload1 (pc := 4) d_J_lose_4 ?_
      refine jx_callV1 (pc := 5) (d' := d) vo_Sh_isPlace lk_J_130 d_J_lose_5 ad_23 sh_23 rfl (by omega) (Nat.le_of_ble_eq_true rfl) ?_
      refine c_Sh_isPlace ?_
      refine jx_r1 ?_
      refine jx_if_ne (pc := 8) 14 d_J_lose_8 (by decide) (fun c8 => ?_) (fun c8 => absurd c8 (z01p hb))
      refine jx_aload0 (pc := 14) d_J_lose_14 ?_
      refine jx_getR (pc := 15) gf_J_77 d_J_lose_15 ad_0 sh_0 rfl ?_
      refine jx_iload1 (pc := 18) d_J_lose_18 ?_
      refine jx_callV1 (pc := 19) (d' := d) vo_Sh_isLost lk_J_133 d_J_lose_19 ad_23 sh_23 rfl (by omega) (Nat.le_of_ble_eq_true rfl) ?_
      refine c_Sh_isLost hvq ?_
      refine jx_r1 ?_
      refine jx_if_eq (pc := 22) 34 d_J_lose_22 (by decide) (fun c22 => absurd c22 (z01p hL)) (fun c22 => ?_)
      refine jx_aload0 (pc := 25) d_J_lose_25 ?_
      refine jx_getR (pc := 26) gf_J_77 d_J_lose_26 ad_0 sh_0 rfl ?_
      refine jx_iconst (pc := 29) (v := 1) d_J_lose_29 (by decide) ?_
      refine jx_callV1 (pc := 30) (d' := d) vo_Sh_find lk_J_136 d_J_lose_30 ad_23 sh_23 rfl (by omega) (Nat.le_of_ble_eq_true rfl) ?_
      refine c_Sh_find ?_
      refine jx_r1 ?_
      refine jx_iret (pc := 33) hX rfl d_J_lose_33 ?_
      rotate_left
      exact k _ (hR.fi 1) hi_fi
    · have hr : r_lose s (nI q) = nI (g_si s q) := by unfold r_lose; rw [if_pos hb, ea, if_neg h9]
      have hnx : n_lose s (nI q) = s_sh s (upN (g_fo s) q 9) (g_si s) (g_it s) := by unfold n_lose; rw [if_pos hb, ea, if_neg h9]
      rw [hr, hnx] at k
      have hL : ¬ M 24 (nI q).toNatClampNeg = -1 := by rw [show (nI q).toNatClampNeg = q from ea, h1]; exact fun z => h9 ((em_m1 (by omega)).mp z)
      refine jx_aload0 (pc := 0) d_J_lose_0 ?_
      refine jx_getR (pc := 1) gf_J_77 d_J_lose_1 ad_0 sh_0 rfl ?_
      refine jx_iload1 (pc := 4) d_J_lose_4 ?_
      refine jx_callV1 (pc := 5) (d' := d) vo_Sh_isPlace lk_J_130 d_J_lose_5 ad_23 sh_23 rfl (by omega) (Nat.le_of_ble_eq_true rfl) ?_
      refine c_Sh_isPlace ?_
      refine jx_r1 ?_
      refine jx_if_ne (pc := 8) 14 d_J_lose_8 (by decide) (fun c8 => ?_) (fun c8 => absurd c8 (z01p hb))
      refine jx_aload0 (pc := 14) d_J_lose_14 ?_
      refine jx_getR (pc := 15) gf_J_77 d_J_lose_15 ad_0 sh_0 rfl ?_
      refine jx_iload1 (pc := 18) d_J_lose_18 ?_
      refine jx_callV1 (pc := 19) (d' := d) vo_Sh_isLost lk_J_133 d_J_lose_19 ad_23 sh_23 rfl (by omega) (Nat.le_of_ble_eq_true rfl) ?_
      refine c_Sh_isLost hvq ?_
      refine jx_r1 ?_
      refine jx_if_eq (pc := 22) 34 d_J_lose_22 (by decide) (fun c22 => ?_) (fun c22 => absurd c22 (fun q => q (z01.mpr hL)))
      refine jx_aload0 (pc := 34) d_J_lose_34 ?_
      refine jx_getR (pc := 35) gf_J_77 d_J_lose_35 ad_0 sh_0 rfl ?_
      refine jx_getR (pc := 38) gf_J_269 d_J_lose_38 ad_23 sh_23 rfl ?_
      refine jx_iload1 (pc := 41) d_J_lose_41 ?_
      refine jx_iconst (pc := 42) (v := (-1)) d_J_lose_42 (by decide) ?_
      refine jx_iast (pc := 43) d_J_lose_43 ad_24 sh_24 (by first | assumption | exact vp_in_nI (by omega) (by omega)) ?_
      refine jx_aload0 (pc := 44) d_J_lose_44 ?_
      refine jx_getR (pc := 45) gf_J_77 d_J_lose_45 ad_0 sh_0 rfl ?_
      refine jx_getR (pc := 48) gf_J_143 d_J_lose_48 ad_23 sh_23 rfl ?_
      refine jx_iload1 (pc := 51) d_J_lose_51 ?_
      refine jx_iald (pc := 52) d_J_lose_52 ad_25 sh_25 (by first | assumption | exact vp_in_nI (by omega) (by omega)) ?_
      refine jx_iret (pc := 53) hX rfl d_J_lose_53 ?_
      rotate_left
      rw [show (nI q).toNatClampNeg = q from ea, j_set_n _ _ _ (by omega), h2]
      refine k _ (hR.sh0 ⟨fun p hp => ⟨?_, ?_, fun i hi => ?_⟩, by rw [j_set_n _ _ _ (by omega)]; exact h6.2⟩ (fun b hb => j_set_n _ _ _ (by omega))) (fun b hb => j_set_n _ _ _ (by omega))
      · rw [j_set_s]; unfold upd upN
        by_cases hp2 : p = q
        · rw [if_pos hp2, if_pos hp2]; rfl
        · rw [if_neg hp2, if_neg hp2]; exact (h6.1 p hp).1
      · rw [j_set_n _ _ _ (by omega)]; exact (h6.1 p hp).2.1
      · rw [j_set_n _ _ _ (by omega)]; exact (h6.1 p hp).2.2 i hi
  · have hr : r_lose s a = -2 := by unfold r_lose; rw [if_neg hb]
    have hnx : n_lose s a = s := by unfold n_lose; rw [if_neg hb]
    rw [hr, hnx] at k
    refine jx_aload0 (pc := 0) d_J_lose_0 ?_
    refine jx_getR (pc := 1) gf_J_77 d_J_lose_1 ad_0 sh_0 rfl ?_
    refine jx_iload1 (pc := 4) d_J_lose_4 ?_
    refine jx_callV1 (pc := 5) (d' := d) vo_Sh_isPlace lk_J_130 d_J_lose_5 ad_23 sh_23 rfl (by omega) (Nat.le_of_ble_eq_true rfl) ?_
    refine c_Sh_isPlace ?_
    refine jx_r1 ?_
    refine jx_if_ne (pc := 8) 14 d_J_lose_8 (by decide) (fun c8 => absurd c8 (fun q => q (z01.mpr hb))) (fun c8 => ?_)
    refine jx_bipush (pc := 11) (v := (-2)) d_J_lose_11 (by decide) ?_
    refine jx_iret (pc := 13) hX rfl d_J_lose_13 ?_
    rotate_left
    exact k M hR (fun _ _ => rfl)
theorem c_J_put {d : Nat} {a f i v : Int32} {s : Sg} {M : j_M} {Q : Option Value → j_M → Prop} (hw : WF s) (hR : RepC s M) (k : ∀ M', RepC (n_put s a f i v) M' → Hi M M' → Q (some (.int (r_put s a f i v))) M') : j_Ct (d + 2) I_J_put [.ref 0, .int a, .int f, .int i, .int v] M Q := by
  refine j_met (by decide +kernel) co_J_put (Nat.le_of_ble_eq_true rfl) (fun X hX => ?_)
  show j_W (d + 2) I_J_put X 0 [some (.ref 0), some (.int a), some (.int f), some (.int i), some (.int v), none] [] M
  by_cases hb : okPl a ∧ okFm f
  · obtain ⟨g1, g2⟩ := id hb
    obtain ⟨q, hq, rfl, ea⟩ := okd a 4 (by omega) g1
    have hvq : vp_in (nI q) 4 := vp_in_nI hq (by omega)
    have h6 := hR.2.2.2.2.2
    have hsa := sr_a hq
    have hss := sr_s hq
    by_cases hl : lkS s q f i = 0
    · have hr : r_put s (nI q) f i v = 1 := by unfold r_put; rw [if_pos hb, ea, if_pos hl]
      have hnx : n_put s (nI q) f i v = s_sh s (g_fo s) (g_si s) (upI (g_it s) q (cl i) (fitF (cl f) v)) := by unfold n_put; rw [if_pos hb, ea, if_pos hl]
      rw [hr, hnx] at k
      obtain ⟨h7, hfe, j, hj, rfl, ej⟩ := lk_0 hw hl
      subst hfe
      have hsi := (fo_lt hw q).2
      rw [ej, show cl (nI (g_fo s q)) = g_fo s q from nI_cl (by omega)] at k
      refine jx_aload0 (pc := 0) d_J_put_0 ?_
      refine jx_getR (pc := 1) gf_J_77 d_J_put_1 ad_0 sh_0 rfl ?_
      refine jx_iload1 (pc := 4) d_J_put_4 ?_
      refine jx_callV1 (pc := 5) (d' := d) vo_Sh_isPlace lk_J_130 d_J_put_5 ad_23 sh_23 rfl (by omega) (Nat.le_of_ble_eq_true rfl) ?_
      refine c_Sh_isPlace ?_
      refine jx_r1 ?_
      refine jx_if_eq (pc := 8) 22 d_J_put_8 (by decide) (fun c8 => absurd c8 (z01p g1)) (fun c8 => ?_)
      refine jx_aload0 (pc := 11) d_J_put_11 ?_
      refine jx_getR (pc := 12) gf_J_77 d_J_put_12 ad_0 sh_0 rfl ?_
      refine jx_iload2 (pc := 15) d_J_put_15 ?_
      refine jx_callV1 (pc := 16) (d' := d) vo_Sh_isForm lk_J_263 d_J_put_16 ad_23 sh_23 rfl (by omega) (Nat.le_of_ble_eq_true rfl) ?_
      refine c_Sh_isForm ?_
      refine jx_r1 ?_
      refine jx_if_ne (pc := 19) 25 d_J_put_19 (by decide) (fun c19 => ?_) (fun c19 => absurd c19 (z01p g2))
      refine jx_aload0 (pc := 25) d_J_put_25 ?_
      refine jx_getR (pc := 26) gf_J_77 d_J_put_26 ad_0 sh_0 rfl ?_
      refine jx_iload1 (pc := 29) d_J_put_29 ?_
      refine jx_iload2 (pc := 30) d_J_put_30 ?_
      refine jx_iload3 (pc := 31) d_J_put_31 ?_
      refine jx_callV3 (pc := 32) (d' := d + 1) vo_Sh_findingAt lk_J_272 d_J_put_32 ad_23 sh_23 rfl (by omega) (Nat.le_of_ble_eq_true rfl) ?_
      refine c_Sh_findingAt hq ?_
      rw [lack_lk hw hR hq]
      refine jx_r1 ?_
      refine jx_istore5 (pc := 35) d_J_put_35 rfl (Nat.le_of_ble_eq_true rfl) ?_
      refine jx_iload5 (pc := 37) d_J_put_37 ?_
      refine jx_if_eq (pc := 39) 52 d_J_put_39 (by decide) (fun c39 => ?_) (fun c39 => absurd c39 (fun q => q hl))
      refine jx_aload0 (pc := 52) d_J_put_52 ?_
      refine jx_getR (pc := 53) gf_J_77 d_J_put_53 ad_0 sh_0 rfl ?_
      refine jx_getR (pc := 56) gf_J_140 d_J_put_56 ad_23 sh_23 rfl ?_
      refine jx_iload1 (pc := 59) d_J_put_59 ?_
      refine jx_aald (pc := 60) d_J_put_60 ad_26 (Or.inr rfl) sh_26 hvq (sr_r hq) ?_
      refine jx_iload3 (pc := 61) d_J_put_61 ?_
      refine jx_aload0 (pc := 62) d_J_put_62 ?_
      refine jx_getR (pc := 63) gf_J_77 d_J_put_63 ad_0 sh_0 rfl ?_
      refine jx_iload2 (pc := 66) d_J_put_66 ?_
      refine jx_iload4 (pc := 67) d_J_put_67 ?_
      refine jx_callV2 (pc := 69) (d' := d) vo_Sh_fit lk_J_275 d_J_put_69 ad_23 sh_23 rfl (by omega) (Nat.le_of_ble_eq_true rfl) ?_
      refine c_Sh_fit h7 ?_
      refine jx_r1 ?_
      refine jx_iast (pc := 72) d_J_put_72 hsa hss (vp_in_nI (by omega) (by omega)) ?_
      refine jx_iconst (pc := 73) (v := 1) d_J_put_73 (by decide) ?_
      refine jx_iret (pc := 74) hX rfl d_J_put_74 ?_
      rotate_left
      rw [show (nI j).toNatClampNeg = j from ej]
      refine k _ (hR.sh0 ⟨fun p hp => ⟨?_, ?_, fun m hm => ?_⟩, by rw [j_set_n _ _ _ (by omega)]; exact h6.2⟩ (fun b hb => j_set_n _ _ _ (by omega))) (fun b hb => j_set_n _ _ _ (by omega))
      · rw [j_set_n _ _ _ (by omega)]; exact (h6.1 p hp).1
      · rw [j_set_n _ _ _ (by omega)]; exact (h6.1 p hp).2.1
      · unfold upI
        by_cases hp2 : p = q
        · subst hp2
          rw [j_set_s]
          unfold upd
          by_cases hm2 : m = j
          · rw [if_pos hm2, if_pos ⟨rfl, hm2⟩]
          · rw [if_neg hm2, if_neg (fun z => hm2 z.2)]; exact (h6.1 p hp).2.2 m hm
        · rw [if_neg (fun z => hp2 z.1), j_set_n _ _ _ (by omega)]; exact (h6.1 p hp).2.2 m hm
    · have hr : r_put s (nI q) f i v = -10 - lkS s q f i := by unfold r_put; rw [if_pos hb, ea, if_neg hl]
      have hnx : n_put s (nI q) f i v = s_fi s (lkS s q f i) := by unfold n_put; rw [if_pos hb, ea, if_neg hl]
      rw [hr, hnx] at k
      refine jx_aload0 (pc := 0) d_J_put_0 ?_
      refine jx_getR (pc := 1) gf_J_77 d_J_put_1 ad_0 sh_0 rfl ?_
      refine jx_iload1 (pc := 4) d_J_put_4 ?_
      refine jx_callV1 (pc := 5) (d' := d) vo_Sh_isPlace lk_J_130 d_J_put_5 ad_23 sh_23 rfl (by omega) (Nat.le_of_ble_eq_true rfl) ?_
      refine c_Sh_isPlace ?_
      refine jx_r1 ?_
      refine jx_if_eq (pc := 8) 22 d_J_put_8 (by decide) (fun c8 => absurd c8 (z01p g1)) (fun c8 => ?_)
      refine jx_aload0 (pc := 11) d_J_put_11 ?_
      refine jx_getR (pc := 12) gf_J_77 d_J_put_12 ad_0 sh_0 rfl ?_
      refine jx_iload2 (pc := 15) d_J_put_15 ?_
      refine jx_callV1 (pc := 16) (d' := d) vo_Sh_isForm lk_J_263 d_J_put_16 ad_23 sh_23 rfl (by omega) (Nat.le_of_ble_eq_true rfl) ?_
      refine c_Sh_isForm ?_
      refine jx_r1 ?_
      refine jx_if_ne (pc := 19) 25 d_J_put_19 (by decide) (fun c19 => ?_) (fun c19 => absurd c19 (z01p g2))
      refine jx_aload0 (pc := 25) d_J_put_25 ?_
      refine jx_getR (pc := 26) gf_J_77 d_J_put_26 ad_0 sh_0 rfl ?_
      refine jx_iload1 (pc := 29) d_J_put_29 ?_
      refine jx_iload2 (pc := 30) d_J_put_30 ?_
      refine jx_iload3 (pc := 31) d_J_put_31 ?_
      refine jx_callV3 (pc := 32) (d' := d + 1) vo_Sh_findingAt lk_J_272 d_J_put_32 ad_23 sh_23 rfl (by omega) (Nat.le_of_ble_eq_true rfl) ?_
      refine c_Sh_findingAt hq ?_
      rw [lack_lk hw hR hq]
      refine jx_r1 ?_
      refine jx_istore5 (pc := 35) d_J_put_35 rfl (Nat.le_of_ble_eq_true rfl) ?_
      refine jx_iload5 (pc := 37) d_J_put_37 ?_
      refine jx_if_eq (pc := 39) 52 d_J_put_39 (by decide) (fun c39 => absurd c39 hl) (fun c39 => ?_)
      refine jx_aload0 (pc := 42) d_J_put_42 ?_
      refine jx_getR (pc := 43) gf_J_77 d_J_put_43 ad_0 sh_0 rfl ?_
      refine jx_iload5 (pc := 46) d_J_put_46 ?_
      refine jx_callV1 (pc := 48) (d' := d) vo_Sh_find lk_J_136 d_J_put_48 ad_23 sh_23 rfl (by omega) (Nat.le_of_ble_eq_true rfl) ?_
      refine c_Sh_find ?_
      refine jx_r1 ?_
      refine jx_iret (pc := 51) hX rfl d_J_put_51 ?_
      rotate_left
      exact k _ (hR.fi _) hi_fi
  · have hr : r_put s a f i v = -2 := by unfold r_put; rw [if_neg hb]
    have hnx : n_put s a f i v = s := by unfold n_put; rw [if_neg hb]
    rw [hr, hnx] at k
    refine jx_aload0 (pc := 0) d_J_put_0 ?_
    refine jx_getR (pc := 1) gf_J_77 d_J_put_1 ad_0 sh_0 rfl ?_
    refine jx_iload1 (pc := 4) d_J_put_4 ?_
    refine jx_callV1 (pc := 5) (d' := d) vo_Sh_isPlace lk_J_130 d_J_put_5 ad_23 sh_23 rfl (by omega) (Nat.le_of_ble_eq_true rfl) ?_
    refine c_Sh_isPlace ?_
    refine jx_r1 ?_
    refine jx_if_eq (pc := 8) 22 d_J_put_8 (by decide) (fun c8 => ?_) (fun c8 => ?_)
    refine jx_bipush (pc := 22) (v := (-2)) d_J_put_22 (by decide) ?_
    refine jx_iret (pc := 24) hX rfl d_J_put_24 ?_
    rotate_left
    refine jx_aload0 (pc := 11) d_J_put_11 ?_
    refine jx_getR (pc := 12) gf_J_77 d_J_put_12 ad_0 sh_0 rfl ?_
    refine jx_iload2 (pc := 15) d_J_put_15 ?_
    refine jx_callV1 (pc := 16) (d' := d) vo_Sh_isForm lk_J_263 d_J_put_16 ad_23 sh_23 rfl (by omega) (Nat.le_of_ble_eq_true rfl) ?_
    refine c_Sh_isForm ?_
    refine jx_r1 ?_
    refine jx_if_ne (pc := 19) 25 d_J_put_19 (by decide) (fun c19 => ?_) (fun c19 => ?_)
    rotate_left
    refine jx_bipush (pc := 22) (v := (-2)) d_J_put_22 (by decide) ?_
    refine jx_iret (pc := 24) hX rfl d_J_put_24 ?_
    rotate_left
    · exact k M hR (fun _ _ => rfl)
    · exact absurd ⟨z01n c8, z01n c19⟩ hb
    · exact k M hR (fun _ _ => rfl)
theorem c_J_get {d : Nat} {a f i : Int32} {s : Sg} {M : j_M} {Q : Option Value → j_M → Prop} (hw : WF s) (hR : RepC s M) (k : ∀ M', RepC (n_get s a f i) M' → Hi M M' → Q (some (.int (r_get s a f i))) M') : j_Ct (d + 2) I_J_get [.ref 0, .int a, .int f, .int i] M Q := by
  refine j_met (by decide +kernel) co_J_get (Nat.le_of_ble_eq_true rfl) (fun X hX => ?_)
  show j_W (d + 2) I_J_get X 0 [some (.ref 0), some (.int a), some (.int f), some (.int i), none] [] M
  by_cases hb : okPl a ∧ okFm f
  · obtain ⟨g1, g2⟩ := id hb
    obtain ⟨q, hq, rfl, ea⟩ := okd a 4 (by omega) g1
    have hvq : vp_in (nI q) 4 := vp_in_nI hq (by omega)
    have h6 := hR.2.2.2.2.2
    have hsa := sr_a hq
    have hss := sr_s hq
    by_cases hl : lkS s q f i = 0
    · have hr : r_get s (nI q) f i = g_it s q (cl i) := by unfold r_get; rw [if_pos hb, ea, if_pos hl]
      have hnx : n_get s (nI q) f i = s := by unfold n_get; rw [if_pos hb, ea, if_pos hl]
      rw [hr, hnx] at k
      obtain ⟨h7, hfe, j, hj, rfl, ej⟩ := lk_0 hw hl
      have hsi := (fo_lt hw q).2
      rw [ej] at k
      refine jx_aload0 (pc := 0) d_J_get_0 ?_
      refine jx_getR (pc := 1) gf_J_77 d_J_get_1 ad_0 sh_0 rfl ?_
      refine jx_iload1 (pc := 4) d_J_get_4 ?_
      refine jx_callV1 (pc := 5) (d' := d) vo_Sh_isPlace lk_J_130 d_J_get_5 ad_23 sh_23 rfl (by omega) (Nat.le_of_ble_eq_true rfl) ?_
      refine c_Sh_isPlace ?_
      refine jx_r1 ?_
      refine jx_if_eq (pc := 8) 22 d_J_get_8 (by decide) (fun c8 => absurd c8 (z01p g1)) (fun c8 => ?_)
      refine jx_aload0 (pc := 11) d_J_get_11 ?_
      refine jx_getR (pc := 12) gf_J_77 d_J_get_12 ad_0 sh_0 rfl ?_
      refine jx_iload2 (pc := 15) d_J_get_15 ?_
      refine jx_callV1 (pc := 16) (d' := d) vo_Sh_isForm lk_J_263 d_J_get_16 ad_23 sh_23 rfl (by omega) (Nat.le_of_ble_eq_true rfl) ?_
      refine c_Sh_isForm ?_
      refine jx_r1 ?_
      refine jx_if_ne (pc := 19) 26 d_J_get_19 (by decide) (fun c19 => ?_) (fun c19 => absurd c19 (z01p g2))
      refine jx_aload0 (pc := 26) d_J_get_26 ?_
      refine jx_getR (pc := 27) gf_J_77 d_J_get_27 ad_0 sh_0 rfl ?_
      refine jx_iload1 (pc := 30) d_J_get_30 ?_
      refine jx_iload2 (pc := 31) d_J_get_31 ?_
      refine jx_iload3 (pc := 32) d_J_get_32 ?_
      refine jx_callV3 (pc := 33) (d' := d + 1) vo_Sh_findingAt lk_J_272 d_J_get_33 ad_23 sh_23 rfl (by omega) (Nat.le_of_ble_eq_true rfl) ?_
      refine c_Sh_findingAt hq ?_
      rw [lack_lk hw hR hq]
      refine jx_r1 ?_
      refine jx_istore4 (pc := 36) d_J_get_36 rfl (Nat.le_of_ble_eq_true rfl) ?_
      refine jx_iload4 (pc := 38) d_J_get_38 ?_
      refine jx_if_eq (pc := 40) 57 d_J_get_40 (by decide) (fun c40 => ?_) (fun c40 => absurd c40 (fun q => q hl))
      refine jx_aload0 (pc := 57) d_J_get_57 ?_
      refine jx_getR (pc := 58) gf_J_77 d_J_get_58 ad_0 sh_0 rfl ?_
      refine jx_getR (pc := 61) gf_J_140 d_J_get_61 ad_23 sh_23 rfl ?_
      refine jx_iload1 (pc := 64) d_J_get_64 ?_
      refine jx_aald (pc := 65) d_J_get_65 ad_26 (Or.inr rfl) sh_26 hvq (sr_r hq) ?_
      refine jx_iload3 (pc := 66) d_J_get_66 ?_
      refine jx_iald (pc := 67) d_J_get_67 hsa hss (vp_in_nI (by omega) (by omega)) ?_
      refine jx_iret (pc := 68) hX rfl d_J_get_68 ?_
      rotate_left
      rw [show (nI j).toNatClampNeg = j from ej, (h6.1 q hq).2.2 j (by omega)]
      exact k M hR (fun _ _ => rfl)
    · have hr : r_get s (nI q) f i = -2147483648 := by unfold r_get; rw [if_pos hb, ea, if_neg hl]
      have hnx : n_get s (nI q) f i = s_fi s (lkS s q f i) := by unfold n_get; rw [if_pos hb, ea, if_neg hl]
      rw [hr, hnx] at k
      refine jx_aload0 (pc := 0) d_J_get_0 ?_
      refine jx_getR (pc := 1) gf_J_77 d_J_get_1 ad_0 sh_0 rfl ?_
      refine jx_iload1 (pc := 4) d_J_get_4 ?_
      refine jx_callV1 (pc := 5) (d' := d) vo_Sh_isPlace lk_J_130 d_J_get_5 ad_23 sh_23 rfl (by omega) (Nat.le_of_ble_eq_true rfl) ?_
      refine c_Sh_isPlace ?_
      refine jx_r1 ?_
      refine jx_if_eq (pc := 8) 22 d_J_get_8 (by decide) (fun c8 => absurd c8 (z01p g1)) (fun c8 => ?_)
      refine jx_aload0 (pc := 11) d_J_get_11 ?_
      refine jx_getR (pc := 12) gf_J_77 d_J_get_12 ad_0 sh_0 rfl ?_
      refine jx_iload2 (pc := 15) d_J_get_15 ?_
      refine jx_callV1 (pc := 16) (d' := d) vo_Sh_isForm lk_J_263 d_J_get_16 ad_23 sh_23 rfl (by omega) (Nat.le_of_ble_eq_true rfl) ?_
      refine c_Sh_isForm ?_
      refine jx_r1 ?_
      refine jx_if_ne (pc := 19) 26 d_J_get_19 (by decide) (fun c19 => ?_) (fun c19 => absurd c19 (z01p g2))
      refine jx_aload0 (pc := 26) d_J_get_26 ?_
      refine jx_getR (pc := 27) gf_J_77 d_J_get_27 ad_0 sh_0 rfl ?_
      refine jx_iload1 (pc := 30) d_J_get_30 ?_
      refine jx_iload2 (pc := 31) d_J_get_31 ?_
      refine jx_iload3 (pc := 32) d_J_get_32 ?_
      refine jx_callV3 (pc := 33) (d' := d + 1) vo_Sh_findingAt lk_J_272 d_J_get_33 ad_23 sh_23 rfl (by omega) (Nat.le_of_ble_eq_true rfl) ?_
      refine c_Sh_findingAt hq ?_
      rw [lack_lk hw hR hq]
      refine jx_r1 ?_
      refine jx_istore4 (pc := 36) d_J_get_36 rfl (Nat.le_of_ble_eq_true rfl) ?_
      refine jx_iload4 (pc := 38) d_J_get_38 ?_
      refine jx_if_eq (pc := 40) 57 d_J_get_40 (by decide) (fun c40 => absurd c40 hl) (fun c40 => ?_)
      refine jx_aload0 (pc := 43) d_J_get_43 ?_
      refine jx_getR (pc := 44) gf_J_77 d_J_get_44 ad_0 sh_0 rfl ?_
      refine jx_iload4 (pc := 47) d_J_get_47 ?_
      refine jx_callV1 (pc := 49) (d' := d) vo_Sh_find lk_J_136 d_J_get_49 ad_23 sh_23 rfl (by omega) (Nat.le_of_ble_eq_true rfl) ?_
      refine c_Sh_find ?_
      refine jx_r1 ?_
      refine jx_popi (pc := 52) d_J_get_52 ?_
      refine jx_ldcw (pc := 53) d_J_get_53 lc_J_281 ?_
      refine jx_iret (pc := 56) hX rfl d_J_get_56 ?_
      rotate_left
      exact k _ (hR.fi _) hi_fi
  · have hr : r_get s a f i = -2147483648 := by unfold r_get; rw [if_neg hb]
    have hnx : n_get s a f i = s := by unfold n_get; rw [if_neg hb]
    rw [hr, hnx] at k
    refine jx_aload0 (pc := 0) d_J_get_0 ?_
    refine jx_getR (pc := 1) gf_J_77 d_J_get_1 ad_0 sh_0 rfl ?_
    refine jx_iload1 (pc := 4) d_J_get_4 ?_
    refine jx_callV1 (pc := 5) (d' := d) vo_Sh_isPlace lk_J_130 d_J_get_5 ad_23 sh_23 rfl (by omega) (Nat.le_of_ble_eq_true rfl) ?_
    refine c_Sh_isPlace ?_
    refine jx_r1 ?_
    refine jx_if_eq (pc := 8) 22 d_J_get_8 (by decide) (fun c8 => ?_) (fun c8 => ?_)
    refine jx_ldcw (pc := 22) d_J_get_22 lc_J_281 ?_
    refine jx_iret (pc := 25) hX rfl d_J_get_25 ?_
    rotate_left
    refine jx_aload0 (pc := 11) d_J_get_11 ?_
    refine jx_getR (pc := 12) gf_J_77 d_J_get_12 ad_0 sh_0 rfl ?_
    refine jx_iload2 (pc := 15) d_J_get_15 ?_
    refine jx_callV1 (pc := 16) (d' := d) vo_Sh_isForm lk_J_263 d_J_get_16 ad_23 sh_23 rfl (by omega) (Nat.le_of_ble_eq_true rfl) ?_
    refine c_Sh_isForm ?_
    refine jx_r1 ?_
    refine jx_if_ne (pc := 19) 26 d_J_get_19 (by decide) (fun c19 => ?_) (fun c19 => ?_)
    rotate_left
    refine jx_ldcw (pc := 22) d_J_get_22 lc_J_281 ?_
    refine jx_iret (pc := 25) hX rfl d_J_get_25 ?_
    rotate_left
    · exact k M hR (fun _ _ => rfl)
    · exact absurd ⟨z01n c8, z01n c19⟩ hb
    · exact k M hR (fun _ _ => rfl)

theorem c_J_copy {d : Nat} {a i b j n : Int32} {s : Sg} {M : j_M} {Q : Option Value → j_M → Prop} (hw : WF s) (hR : RepC s M) (k : ∀ M', RepC (n_copy s a i b j n) M' → Hi M M' → Q (some (.int (r_copy s a i b j n))) M') : j_Ct (d + 2) I_J_copy [.ref 0, .int a, .int i, .int b, .int j, .int n] M Q := by
  refine j_met (by decide +kernel) co_J_copy (Nat.le_of_ble_eq_true rfl) (fun X hX => ?_)
  show j_W (d + 2) I_J_copy X 0 [some (.ref 0), some (.int a), some (.int i), some (.int b), some (.int j), some (.int n)] [] M
  by_cases hb : okPl a ∧ okPl b
  · have hb0 := hb
    obtain ⟨g1, g2⟩ := id hb
    obtain ⟨q, hq, rfl, ea⟩ := okd a 4 (by omega) g1
    obtain ⟨p, hp, rfl, eb⟩ := okd b 4 (by omega) g2
    have hvq : vp_in (nI q) 4 := vp_in_nI hq (by omega)
    have hvp : vp_in (nI p) 4 := vp_in_nI hp (by omega)
    have h6 := hR.2.2.2.2.2
    obtain ⟨q1, q2, q3⟩ := h6.1 q hq
    obtain ⟨p1, p2, p3⟩ := h6.1 p hp
    have hfq := fo_lt hw q
    have hfp := fo_lt hw p
    have Lq : M 24 (nI q).toNatClampNeg = -1 ↔ g_fo s q = 9 := by rw [show (nI q).toNatClampNeg = q from ea, q1]; exact em_m1 (by omega)
    have Lp : M 24 (nI p).toNatClampNeg = -1 ↔ g_fo s p = 9 := by rw [show (nI p).toNatClampNeg = p from eb, p1]; exact em_m1 (by omega)
    by_cases h9 : g_fo s q = 9 ∨ g_fo s p = 9
    · have hr : r_copy s (nI q) i (nI p) j n = -10 - 1 := by unfold r_copy; rw [if_pos hb, ea, eb, if_pos h9]
      have hnx : n_copy s (nI q) i (nI p) j n = s_fi s 1 := by unfold n_copy; rw [if_pos hb, ea, eb, if_pos h9]
      rw [hr, hnx] at k
      by_cases h9q : g_fo s q = 9
      · have hLq := Lq.mpr h9q
        refine jx_aload0 (pc := 0) d_J_copy_0 ?_
        refine jx_getR (pc := 1) gf_J_77 d_J_copy_1 ad_0 sh_0 rfl ?_
        refine jx_iload1 (pc := 4) d_J_copy_4 ?_
        refine jx_callV1 (pc := 5) (d' := d) vo_Sh_isPlace lk_J_130 d_J_copy_5 ad_23 sh_23 rfl (by omega) (Nat.le_of_ble_eq_true rfl) ?_
        refine c_Sh_isPlace ?_
        refine jx_r1 ?_
        refine jx_if_eq (pc := 8) 22 d_J_copy_8 (by decide) (fun c8 => absurd c8 (z01p hb.1)) (fun c8 => ?_)
        refine jx_aload0 (pc := 11) d_J_copy_11 ?_
        refine jx_getR (pc := 12) gf_J_77 d_J_copy_12 ad_0 sh_0 rfl ?_
        refine jx_iload3 (pc := 15) d_J_copy_15 ?_
        refine jx_callV1 (pc := 16) (d' := d) vo_Sh_isPlace lk_J_130 d_J_copy_16 ad_23 sh_23 rfl (by omega) (Nat.le_of_ble_eq_true rfl) ?_
        refine c_Sh_isPlace ?_
        refine jx_r1 ?_
        refine jx_if_ne (pc := 19) 25 d_J_copy_19 (by decide) (fun c19 => ?_) (fun c19 => absurd c19 (z01p hb.2))
        refine jx_aload0 (pc := 25) d_J_copy_25 ?_
        refine jx_getR (pc := 26) gf_J_77 d_J_copy_26 ad_0 sh_0 rfl ?_
        refine jx_iload1 (pc := 29) d_J_copy_29 ?_
        refine jx_callV1 (pc := 30) (d' := d) vo_Sh_isLost lk_J_133 d_J_copy_30 ad_23 sh_23 rfl (by omega) (Nat.le_of_ble_eq_true rfl) ?_
        refine c_Sh_isLost hvq ?_
        refine jx_r1 ?_
        refine jx_if_ne (pc := 33) 47 d_J_copy_33 (by decide) (fun c33 => ?_) (fun c33 => absurd c33 (z01p hLq))
        refine jx_aload0 (pc := 47) d_J_copy_47 ?_
        refine jx_getR (pc := 48) gf_J_77 d_J_copy_48 ad_0 sh_0 rfl ?_
        refine jx_iconst (pc := 51) (v := 1) d_J_copy_51 (by decide) ?_
        refine jx_callV1 (pc := 52) (d' := d) vo_Sh_find lk_J_136 d_J_copy_52 ad_23 sh_23 rfl (by omega) (Nat.le_of_ble_eq_true rfl) ?_
        refine c_Sh_find ?_
        refine jx_r1 ?_
        refine jx_iret (pc := 55) hX rfl d_J_copy_55 ?_
        rotate_left
        exact k _ (hR.fi 1) hi_fi
      · have hLq : ¬ M 24 (nI q).toNatClampNeg = -1 := fun z => h9q (Lq.mp z)
        have hLp := Lp.mpr (h9.resolve_left h9q)
        refine jx_aload0 (pc := 0) d_J_copy_0 ?_
        refine jx_getR (pc := 1) gf_J_77 d_J_copy_1 ad_0 sh_0 rfl ?_
        refine jx_iload1 (pc := 4) d_J_copy_4 ?_
        refine jx_callV1 (pc := 5) (d' := d) vo_Sh_isPlace lk_J_130 d_J_copy_5 ad_23 sh_23 rfl (by omega) (Nat.le_of_ble_eq_true rfl) ?_
        refine c_Sh_isPlace ?_
        refine jx_r1 ?_
        refine jx_if_eq (pc := 8) 22 d_J_copy_8 (by decide) (fun c8 => absurd c8 (z01p hb.1)) (fun c8 => ?_)
        refine jx_aload0 (pc := 11) d_J_copy_11 ?_
        refine jx_getR (pc := 12) gf_J_77 d_J_copy_12 ad_0 sh_0 rfl ?_
        refine jx_iload3 (pc := 15) d_J_copy_15 ?_
        refine jx_callV1 (pc := 16) (d' := d) vo_Sh_isPlace lk_J_130 d_J_copy_16 ad_23 sh_23 rfl (by omega) (Nat.le_of_ble_eq_true rfl) ?_
        refine c_Sh_isPlace ?_
        refine jx_r1 ?_
        refine jx_if_ne (pc := 19) 25 d_J_copy_19 (by decide) (fun c19 => ?_) (fun c19 => absurd c19 (z01p hb.2))
        refine jx_aload0 (pc := 25) d_J_copy_25 ?_
        refine jx_getR (pc := 26) gf_J_77 d_J_copy_26 ad_0 sh_0 rfl ?_
        refine jx_iload1 (pc := 29) d_J_copy_29 ?_
        refine jx_callV1 (pc := 30) (d' := d) vo_Sh_isLost lk_J_133 d_J_copy_30 ad_23 sh_23 rfl (by omega) (Nat.le_of_ble_eq_true rfl) ?_
        refine c_Sh_isLost hvq ?_
        refine jx_r1 ?_
        refine jx_if_ne (pc := 33) 47 d_J_copy_33 (by decide) (fun c33 => absurd c33 (fun q => q (z01.mpr hLq))) (fun c33 => ?_)
        refine jx_aload0 (pc := 36) d_J_copy_36 ?_
        refine jx_getR (pc := 37) gf_J_77 d_J_copy_37 ad_0 sh_0 rfl ?_
        refine jx_iload3 (pc := 40) d_J_copy_40 ?_
        refine jx_callV1 (pc := 41) (d' := d) vo_Sh_isLost lk_J_133 d_J_copy_41 ad_23 sh_23 rfl (by omega) (Nat.le_of_ble_eq_true rfl) ?_
        refine c_Sh_isLost hvp ?_
        refine jx_r1 ?_
        refine jx_if_eq (pc := 44) 56 d_J_copy_44 (by decide) (fun c44 => absurd c44 (z01p hLp)) (fun c44 => ?_)
        refine jx_aload0 (pc := 47) d_J_copy_47 ?_
        refine jx_getR (pc := 48) gf_J_77 d_J_copy_48 ad_0 sh_0 rfl ?_
        refine jx_iconst (pc := 51) (v := 1) d_J_copy_51 (by decide) ?_
        refine jx_callV1 (pc := 52) (d' := d) vo_Sh_find lk_J_136 d_J_copy_52 ad_23 sh_23 rfl (by omega) (Nat.le_of_ble_eq_true rfl) ?_
        refine c_Sh_find ?_
        refine jx_r1 ?_
        refine jx_iret (pc := 55) hX rfl d_J_copy_55 ?_
        rotate_left
        exact k _ (hR.fi 1) hi_fi
    · have hLq : ¬ M 24 (nI q).toNatClampNeg = -1 := fun z => h9 (Or.inl (Lq.mp z))
      have hLp : ¬ M 24 (nI p).toNatClampNeg = -1 := fun z => h9 (Or.inr (Lp.mp z))
      have Lf : M 24 (nI q).toNatClampNeg = M 24 (nI p).toNatClampNeg ↔ g_fo s q = g_fo s p := by rw [show (nI q).toNatClampNeg = q from ea, show (nI p).toNatClampNeg = p from eb, q1, p1]; exact em_inj (by omega) (by omega)
      by_cases hf : g_fo s q = g_fo s p
      · have Rq : (0 ≤ i ∧ 0 ≤ n ∧ n ≤ M 25 q ∧ i ≤ M 25 q - n) ↔ runS s q i n := by rw [q2]; exact run_iff hfq.2
        have Rp : (0 ≤ j ∧ 0 ≤ n ∧ n ≤ M 25 p ∧ j ≤ M 25 p - n) ↔ runS s p j n := by rw [p2]; exact run_iff hfp.2
        by_cases hrun : runS s q i n ∧ runS s p j n
        · have hr : r_copy s (nI q) i (nI p) j n = 1 := by unfold r_copy; rw [if_pos hb, ea, eb, if_neg h9, if_pos hf, if_pos hrun]
          have hnx : n_copy s (nI q) i (nI p) j n = s_sh s (g_fo s) (g_si s) (cpI (g_it s) q (cl i) p (cl j) (cl n)) := by unfold n_copy; rw [if_pos hb, ea, eb, if_neg h9, if_pos hf, if_pos hrun]
          rw [hr, hnx] at k
          obtain ⟨⟨⟨u1, u2⟩, u3⟩, ⟨⟨v1, v2⟩, v3⟩⟩ := id hrun
          have hu := Rq.mpr hrun.1
          have hv := Rp.mpr hrun.2
          have hsq := sr_s hq
          have haq := sr_a hq
          have hsp := sr_s hp
          have hap := sr_a hp
          refine jx_aload0 (pc := 0) d_J_copy_0 ?_
          refine jx_getR (pc := 1) gf_J_77 d_J_copy_1 ad_0 sh_0 rfl ?_
          refine jx_iload1 (pc := 4) d_J_copy_4 ?_
          refine jx_callV1 (pc := 5) (d' := d) vo_Sh_isPlace lk_J_130 d_J_copy_5 ad_23 sh_23 rfl (by omega) (Nat.le_of_ble_eq_true rfl) ?_
          refine c_Sh_isPlace ?_
          refine jx_r1 ?_
          refine jx_if_eq (pc := 8) 22 d_J_copy_8 (by decide) (fun c8 => absurd c8 (z01p hb.1)) (fun c8 => ?_)
          refine jx_aload0 (pc := 11) d_J_copy_11 ?_
          refine jx_getR (pc := 12) gf_J_77 d_J_copy_12 ad_0 sh_0 rfl ?_
          refine jx_iload3 (pc := 15) d_J_copy_15 ?_
          refine jx_callV1 (pc := 16) (d' := d) vo_Sh_isPlace lk_J_130 d_J_copy_16 ad_23 sh_23 rfl (by omega) (Nat.le_of_ble_eq_true rfl) ?_
          refine c_Sh_isPlace ?_
          refine jx_r1 ?_
          refine jx_if_ne (pc := 19) 25 d_J_copy_19 (by decide) (fun c19 => ?_) (fun c19 => absurd c19 (z01p hb.2))
          refine jx_aload0 (pc := 25) d_J_copy_25 ?_
          refine jx_getR (pc := 26) gf_J_77 d_J_copy_26 ad_0 sh_0 rfl ?_
          refine jx_iload1 (pc := 29) d_J_copy_29 ?_
          refine jx_callV1 (pc := 30) (d' := d) vo_Sh_isLost lk_J_133 d_J_copy_30 ad_23 sh_23 rfl (by omega) (Nat.le_of_ble_eq_true rfl) ?_
          refine c_Sh_isLost hvq ?_
          refine jx_r1 ?_
          refine jx_if_ne (pc := 33) 47 d_J_copy_33 (by decide) (fun c33 => absurd c33 (fun q => q (z01.mpr hLq))) (fun c33 => ?_)
          refine jx_aload0 (pc := 36) d_J_copy_36 ?_
          refine jx_getR (pc := 37) gf_J_77 d_J_copy_37 ad_0 sh_0 rfl ?_
          refine jx_iload3 (pc := 40) d_J_copy_40 ?_
          refine jx_callV1 (pc := 41) (d' := d) vo_Sh_isLost lk_J_133 d_J_copy_41 ad_23 sh_23 rfl (by omega) (Nat.le_of_ble_eq_true rfl) ?_
          refine c_Sh_isLost hvp ?_
          refine jx_r1 ?_
          refine jx_if_eq (pc := 44) 56 d_J_copy_44 (by decide) (fun c44 => ?_) (fun c44 => absurd c44 (fun q => q (z01.mpr hLp)))
          refine jx_aload0 (pc := 56) d_J_copy_56 ?_
          refine jx_getR (pc := 57) gf_J_77 d_J_copy_57 ad_0 sh_0 rfl ?_
          refine jx_getR (pc := 60) gf_J_269 d_J_copy_60 ad_23 sh_23 rfl ?_
          refine jx_iload1 (pc := 63) d_J_copy_63 ?_
          refine jx_iald (pc := 64) d_J_copy_64 ad_24 sh_24 (by first | assumption | exact vp_in_nI (by omega) (by omega)) ?_
          refine jx_aload0 (pc := 65) d_J_copy_65 ?_
          refine jx_getR (pc := 66) gf_J_77 d_J_copy_66 ad_0 sh_0 rfl ?_
          refine jx_getR (pc := 69) gf_J_269 d_J_copy_69 ad_23 sh_23 rfl ?_
          refine jx_iload3 (pc := 72) d_J_copy_72 ?_
          refine jx_iald (pc := 73) d_J_copy_73 ad_24 sh_24 (by first | assumption | exact vp_in_nI (by omega) (by omega)) ?_
          refine jx_icmp_eq (pc := 74) 86 d_J_copy_74 (by decide) (fun c74 => ?_) (fun c74 => absurd c74 (fun q => q (Lf.mpr hf)))
          refine jx_aload0 (pc := 86) d_J_copy_86 ?_
          refine jx_getR (pc := 87) gf_J_77 d_J_copy_87 ad_0 sh_0 rfl ?_
          refine jx_iload1 (pc := 90) d_J_copy_90 ?_
          refine jx_iload2 (pc := 91) d_J_copy_91 ?_
          refine jx_iload5 (pc := 92) d_J_copy_92 ?_
          refine jx_callV3 (pc := 94) (d' := d) vo_Sh_hasRun lk_J_282 d_J_copy_94 ad_23 sh_23 rfl (by omega) (Nat.le_of_ble_eq_true rfl) ?_
          refine c_Sh_hasRun hq ?_
          refine jx_r1 ?_
          refine jx_if_eq (pc := 97) 115 d_J_copy_97 (by decide) (fun c97 => absurd c97 (z01p hu)) (fun c97 => ?_)
          refine jx_aload0 (pc := 100) d_J_copy_100 ?_
          refine jx_getR (pc := 101) gf_J_77 d_J_copy_101 ad_0 sh_0 rfl ?_
          refine jx_iload3 (pc := 104) d_J_copy_104 ?_
          refine jx_iload4 (pc := 105) d_J_copy_105 ?_
          refine jx_iload5 (pc := 107) d_J_copy_107 ?_
          refine jx_callV3 (pc := 109) (d' := d) vo_Sh_hasRun lk_J_282 d_J_copy_109 ad_23 sh_23 rfl (by omega) (Nat.le_of_ble_eq_true rfl) ?_
          refine c_Sh_hasRun hp ?_
          refine jx_r1 ?_
          refine jx_if_ne (pc := 112) 124 d_J_copy_112 (by decide) (fun c112 => ?_) (fun c112 => absurd c112 (z01p hv))
          refine jx_aload0 (pc := 124) d_J_copy_124 ?_
          refine jx_getR (pc := 125) gf_J_77 d_J_copy_125 ad_0 sh_0 rfl ?_
          refine jx_getR (pc := 128) gf_J_140 d_J_copy_128 ad_23 sh_23 rfl ?_
          refine jx_iload1 (pc := 131) d_J_copy_131 ?_
          refine jx_aald (pc := 132) d_J_copy_132 ad_26 (Or.inr rfl) sh_26 hvq (sr_r hq) ?_
          refine jx_iload2 (pc := 133) d_J_copy_133 ?_
          refine jx_aload0 (pc := 134) d_J_copy_134 ?_
          refine jx_getR (pc := 135) gf_J_77 d_J_copy_135 ad_0 sh_0 rfl ?_
          refine jx_getR (pc := 138) gf_J_140 d_J_copy_138 ad_23 sh_23 rfl ?_
          refine jx_iload3 (pc := 141) d_J_copy_141 ?_
          refine jx_aald (pc := 142) d_J_copy_142 ad_26 (Or.inr rfl) sh_26 hvp (sr_r hp) ?_
          refine jx_iload4 (pc := 143) d_J_copy_143 ?_
          refine jx_iload5 (pc := 145) d_J_copy_145 ?_
          refine jx_acopy (pc := 147) lk_J_286 ac_1 ac_2 ac_3 (by omega) (Nat.le_of_ble_eq_true rfl) d_J_copy_147 haq hap hsq hsp (Int32.not_lt.mpr u1) (Int32.not_lt.mpr v1) (Int32.not_lt.mpr u2) (show cl i + cl n ≤ 48 by omega) (show cl j + cl n ≤ 48 by omega) ?_
          refine jx_iconst (pc := 150) (v := 1) d_J_copy_150 (by decide) ?_
          refine jx_iret (pc := 151) hX rfl d_J_copy_151 ?_
          rotate_left
          refine k _ (hR.sh0 ⟨fun z hz => ⟨by rw [j_seta_n _ _ (by omega)]; exact (h6.1 z hz).1, by rw [j_seta_n _ _ (by omega)]; exact (h6.1 z hz).2.1, fun m hm => ?_⟩, by rw [j_seta_n _ _ (by omega)]; exact h6.2⟩ (fun b hb => j_seta_n _ _ (by omega))) (fun b hb => j_seta_n _ _ (by omega))
          unfold cpI
          by_cases hz2 : z = p
          · subst hz2
            rw [j_seta_s]
            by_cases hm2 : cl j ≤ m ∧ m < cl j + cl n
            · rw [if_pos ⟨rfl, hm2⟩, pk_cpy_in hm2.1 hm2.2]
              exact q3 _ (by show cl i + (m - cl j) < 48; omega)
            · rw [if_neg (fun w => hm2 w.2), pk_cpy_out (show m < cl j ∨ cl j + cl n ≤ m by omega)]; exact p3 m hm
          · rw [if_neg (fun w => hz2 w.1), j_seta_n _ _ (by omega)]; exact (h6.1 z hz).2.2 m hm
        · have hr : r_copy s (nI q) i (nI p) j n = -10 - 2 := by unfold r_copy; rw [if_pos hb, ea, eb, if_neg h9, if_pos hf, if_neg hrun]
          have hnx : n_copy s (nI q) i (nI p) j n = s_fi s 2 := by unfold n_copy; rw [if_pos hb, ea, eb, if_neg h9, if_pos hf, if_neg hrun]
          rw [hr, hnx] at k
          by_cases hrq : runS s q i n
          · have hu := Rq.mpr hrq
            have hv : ¬ (0 ≤ j ∧ 0 ≤ n ∧ n ≤ M 25 p ∧ j ≤ M 25 p - n) := fun z => hrun ⟨hrq, Rp.mp z⟩
            refine jx_aload0 (pc := 0) d_J_copy_0 ?_
            refine jx_getR (pc := 1) gf_J_77 d_J_copy_1 ad_0 sh_0 rfl ?_
            refine jx_iload1 (pc := 4) d_J_copy_4 ?_
            refine jx_callV1 (pc := 5) (d' := d) vo_Sh_isPlace lk_J_130 d_J_copy_5 ad_23 sh_23 rfl (by omega) (Nat.le_of_ble_eq_true rfl) ?_
            refine c_Sh_isPlace ?_
            refine jx_r1 ?_
            refine jx_if_eq (pc := 8) 22 d_J_copy_8 (by decide) (fun c8 => absurd c8 (z01p hb.1)) (fun c8 => ?_)
            refine jx_aload0 (pc := 11) d_J_copy_11 ?_
            refine jx_getR (pc := 12) gf_J_77 d_J_copy_12 ad_0 sh_0 rfl ?_
            refine jx_iload3 (pc := 15) d_J_copy_15 ?_
            refine jx_callV1 (pc := 16) (d' := d) vo_Sh_isPlace lk_J_130 d_J_copy_16 ad_23 sh_23 rfl (by omega) (Nat.le_of_ble_eq_true rfl) ?_
            refine c_Sh_isPlace ?_
            refine jx_r1 ?_
            refine jx_if_ne (pc := 19) 25 d_J_copy_19 (by decide) (fun c19 => ?_) (fun c19 => absurd c19 (z01p hb.2))
            refine jx_aload0 (pc := 25) d_J_copy_25 ?_
            refine jx_getR (pc := 26) gf_J_77 d_J_copy_26 ad_0 sh_0 rfl ?_
            refine jx_iload1 (pc := 29) d_J_copy_29 ?_
            refine jx_callV1 (pc := 30) (d' := d) vo_Sh_isLost lk_J_133 d_J_copy_30 ad_23 sh_23 rfl (by omega) (Nat.le_of_ble_eq_true rfl) ?_
            refine c_Sh_isLost hvq ?_
            refine jx_r1 ?_
            refine jx_if_ne (pc := 33) 47 d_J_copy_33 (by decide) (fun c33 => absurd c33 (fun q => q (z01.mpr hLq))) (fun c33 => ?_)
            refine jx_aload0 (pc := 36) d_J_copy_36 ?_
            refine jx_getR (pc := 37) gf_J_77 d_J_copy_37 ad_0 sh_0 rfl ?_
            refine jx_iload3 (pc := 40) d_J_copy_40 ?_
            refine jx_callV1 (pc := 41) (d' := d) vo_Sh_isLost lk_J_133 d_J_copy_41 ad_23 sh_23 rfl (by omega) (Nat.le_of_ble_eq_true rfl) ?_
            refine c_Sh_isLost hvp ?_
            refine jx_r1 ?_
            refine jx_if_eq (pc := 44) 56 d_J_copy_44 (by decide) (fun c44 => ?_) (fun c44 => absurd c44 (fun q => q (z01.mpr hLp)))
            refine jx_aload0 (pc := 56) d_J_copy_56 ?_
            refine jx_getR (pc := 57) gf_J_77 d_J_copy_57 ad_0 sh_0 rfl ?_
            refine jx_getR (pc := 60) gf_J_269 d_J_copy_60 ad_23 sh_23 rfl ?_
            refine jx_iload1 (pc := 63) d_J_copy_63 ?_
            refine jx_iald (pc := 64) d_J_copy_64 ad_24 sh_24 (by first | assumption | exact vp_in_nI (by omega) (by omega)) ?_
            refine jx_aload0 (pc := 65) d_J_copy_65 ?_
            refine jx_getR (pc := 66) gf_J_77 d_J_copy_66 ad_0 sh_0 rfl ?_
            refine jx_getR (pc := 69) gf_J_269 d_J_copy_69 ad_23 sh_23 rfl ?_
            refine jx_iload3 (pc := 72) d_J_copy_72 ?_
            refine jx_iald (pc := 73) d_J_copy_73 ad_24 sh_24 (by first | assumption | exact vp_in_nI (by omega) (by omega)) ?_
            refine jx_icmp_eq (pc := 74) 86 d_J_copy_74 (by decide) (fun c74 => ?_) (fun c74 => absurd c74 (fun q => q (Lf.mpr hf)))
            refine jx_aload0 (pc := 86) d_J_copy_86 ?_
            refine jx_getR (pc := 87) gf_J_77 d_J_copy_87 ad_0 sh_0 rfl ?_
            refine jx_iload1 (pc := 90) d_J_copy_90 ?_
            refine jx_iload2 (pc := 91) d_J_copy_91 ?_
            refine jx_iload5 (pc := 92) d_J_copy_92 ?_
            refine jx_callV3 (pc := 94) (d' := d) vo_Sh_hasRun lk_J_282 d_J_copy_94 ad_23 sh_23 rfl (by omega) (Nat.le_of_ble_eq_true rfl) ?_
            refine c_Sh_hasRun hq ?_
            refine jx_r1 ?_
            refine jx_if_eq (pc := 97) 115 d_J_copy_97 (by decide) (fun c97 => absurd c97 (z01p hu)) (fun c97 => ?_)
            refine jx_aload0 (pc := 100) d_J_copy_100 ?_
            refine jx_getR (pc := 101) gf_J_77 d_J_copy_101 ad_0 sh_0 rfl ?_
            refine jx_iload3 (pc := 104) d_J_copy_104 ?_
            refine jx_iload4 (pc := 105) d_J_copy_105 ?_
            refine jx_iload5 (pc := 107) d_J_copy_107 ?_
            refine jx_callV3 (pc := 109) (d' := d) vo_Sh_hasRun lk_J_282 d_J_copy_109 ad_23 sh_23 rfl (by omega) (Nat.le_of_ble_eq_true rfl) ?_
            refine c_Sh_hasRun hp ?_
            refine jx_r1 ?_
            refine jx_if_ne (pc := 112) 124 d_J_copy_112 (by decide) (fun c112 => absurd c112 (fun q => q (z01.mpr hv))) (fun c112 => ?_)
            refine jx_aload0 (pc := 115) d_J_copy_115 ?_
            refine jx_getR (pc := 116) gf_J_77 d_J_copy_116 ad_0 sh_0 rfl ?_
            refine jx_iconst (pc := 119) (v := 2) d_J_copy_119 (by decide) ?_
            refine jx_callV1 (pc := 120) (d' := d) vo_Sh_find lk_J_136 d_J_copy_120 ad_23 sh_23 rfl (by omega) (Nat.le_of_ble_eq_true rfl) ?_
            refine c_Sh_find ?_
            refine jx_r1 ?_
            refine jx_iret (pc := 123) hX rfl d_J_copy_123 ?_
            rotate_left
            exact k _ (hR.fi 2) hi_fi
          · have hu : ¬ (0 ≤ i ∧ 0 ≤ n ∧ n ≤ M 25 q ∧ i ≤ M 25 q - n) := fun z => hrq (Rq.mp z)
            refine jx_aload0 (pc := 0) d_J_copy_0 ?_
            refine jx_getR (pc := 1) gf_J_77 d_J_copy_1 ad_0 sh_0 rfl ?_
            refine jx_iload1 (pc := 4) d_J_copy_4 ?_
            refine jx_callV1 (pc := 5) (d' := d) vo_Sh_isPlace lk_J_130 d_J_copy_5 ad_23 sh_23 rfl (by omega) (Nat.le_of_ble_eq_true rfl) ?_
            refine c_Sh_isPlace ?_
            refine jx_r1 ?_
            refine jx_if_eq (pc := 8) 22 d_J_copy_8 (by decide) (fun c8 => absurd c8 (z01p hb.1)) (fun c8 => ?_)
            refine jx_aload0 (pc := 11) d_J_copy_11 ?_
            refine jx_getR (pc := 12) gf_J_77 d_J_copy_12 ad_0 sh_0 rfl ?_
            refine jx_iload3 (pc := 15) d_J_copy_15 ?_
            refine jx_callV1 (pc := 16) (d' := d) vo_Sh_isPlace lk_J_130 d_J_copy_16 ad_23 sh_23 rfl (by omega) (Nat.le_of_ble_eq_true rfl) ?_
            refine c_Sh_isPlace ?_
            refine jx_r1 ?_
            refine jx_if_ne (pc := 19) 25 d_J_copy_19 (by decide) (fun c19 => ?_) (fun c19 => absurd c19 (z01p hb.2))
            refine jx_aload0 (pc := 25) d_J_copy_25 ?_
            refine jx_getR (pc := 26) gf_J_77 d_J_copy_26 ad_0 sh_0 rfl ?_
            refine jx_iload1 (pc := 29) d_J_copy_29 ?_
            refine jx_callV1 (pc := 30) (d' := d) vo_Sh_isLost lk_J_133 d_J_copy_30 ad_23 sh_23 rfl (by omega) (Nat.le_of_ble_eq_true rfl) ?_
            refine c_Sh_isLost hvq ?_
            refine jx_r1 ?_
            refine jx_if_ne (pc := 33) 47 d_J_copy_33 (by decide) (fun c33 => absurd c33 (fun q => q (z01.mpr hLq))) (fun c33 => ?_)
            refine jx_aload0 (pc := 36) d_J_copy_36 ?_
            refine jx_getR (pc := 37) gf_J_77 d_J_copy_37 ad_0 sh_0 rfl ?_
            refine jx_iload3 (pc := 40) d_J_copy_40 ?_
            refine jx_callV1 (pc := 41) (d' := d) vo_Sh_isLost lk_J_133 d_J_copy_41 ad_23 sh_23 rfl (by omega) (Nat.le_of_ble_eq_true rfl) ?_
            refine c_Sh_isLost hvp ?_
            refine jx_r1 ?_
            refine jx_if_eq (pc := 44) 56 d_J_copy_44 (by decide) (fun c44 => ?_) (fun c44 => absurd c44 (fun q => q (z01.mpr hLp)))
            refine jx_aload0 (pc := 56) d_J_copy_56 ?_
            refine jx_getR (pc := 57) gf_J_77 d_J_copy_57 ad_0 sh_0 rfl ?_
            refine jx_getR (pc := 60) gf_J_269 d_J_copy_60 ad_23 sh_23 rfl ?_
            refine jx_iload1 (pc := 63) d_J_copy_63 ?_
            refine jx_iald (pc := 64) d_J_copy_64 ad_24 sh_24 (by first | assumption | exact vp_in_nI (by omega) (by omega)) ?_
            refine jx_aload0 (pc := 65) d_J_copy_65 ?_
            refine jx_getR (pc := 66) gf_J_77 d_J_copy_66 ad_0 sh_0 rfl ?_
            refine jx_getR (pc := 69) gf_J_269 d_J_copy_69 ad_23 sh_23 rfl ?_
            refine jx_iload3 (pc := 72) d_J_copy_72 ?_
            refine jx_iald (pc := 73) d_J_copy_73 ad_24 sh_24 (by first | assumption | exact vp_in_nI (by omega) (by omega)) ?_
            refine jx_icmp_eq (pc := 74) 86 d_J_copy_74 (by decide) (fun c74 => ?_) (fun c74 => absurd c74 (fun q => q (Lf.mpr hf)))
            refine jx_aload0 (pc := 86) d_J_copy_86 ?_
            refine jx_getR (pc := 87) gf_J_77 d_J_copy_87 ad_0 sh_0 rfl ?_
            refine jx_iload1 (pc := 90) d_J_copy_90 ?_
            refine jx_iload2 (pc := 91) d_J_copy_91 ?_
            refine jx_iload5 (pc := 92) d_J_copy_92 ?_
            refine jx_callV3 (pc := 94) (d' := d) vo_Sh_hasRun lk_J_282 d_J_copy_94 ad_23 sh_23 rfl (by omega) (Nat.le_of_ble_eq_true rfl) ?_
            refine c_Sh_hasRun hq ?_
            refine jx_r1 ?_
            refine jx_if_eq (pc := 97) 115 d_J_copy_97 (by decide) (fun c97 => ?_) (fun c97 => absurd c97 (fun q => q (z01.mpr hu)))
            refine jx_aload0 (pc := 115) d_J_copy_115 ?_
            refine jx_getR (pc := 116) gf_J_77 d_J_copy_116 ad_0 sh_0 rfl ?_
            refine jx_iconst (pc := 119) (v := 2) d_J_copy_119 (by decide) ?_
            refine jx_callV1 (pc := 120) (d' := d) vo_Sh_find lk_J_136 d_J_copy_120 ad_23 sh_23 rfl (by omega) (Nat.le_of_ble_eq_true rfl) ?_
            refine c_Sh_find ?_
            refine jx_r1 ?_
            refine jx_iret (pc := 123) hX rfl d_J_copy_123 ?_
            rotate_left
            exact k _ (hR.fi 2) hi_fi
      · have hr : r_copy s (nI q) i (nI p) j n = -10 - 4 := by unfold r_copy; rw [if_pos hb, ea, eb, if_neg h9, if_neg hf]
        have hnx : n_copy s (nI q) i (nI p) j n = s_fi s 4 := by unfold n_copy; rw [if_pos hb, ea, eb, if_neg h9, if_neg hf]
        rw [hr, hnx] at k
        refine jx_aload0 (pc := 0) d_J_copy_0 ?_
        refine jx_getR (pc := 1) gf_J_77 d_J_copy_1 ad_0 sh_0 rfl ?_
        refine jx_iload1 (pc := 4) d_J_copy_4 ?_
        refine jx_callV1 (pc := 5) (d' := d) vo_Sh_isPlace lk_J_130 d_J_copy_5 ad_23 sh_23 rfl (by omega) (Nat.le_of_ble_eq_true rfl) ?_
        refine c_Sh_isPlace ?_
        refine jx_r1 ?_
        refine jx_if_eq (pc := 8) 22 d_J_copy_8 (by decide) (fun c8 => absurd c8 (z01p hb.1)) (fun c8 => ?_)
        refine jx_aload0 (pc := 11) d_J_copy_11 ?_
        refine jx_getR (pc := 12) gf_J_77 d_J_copy_12 ad_0 sh_0 rfl ?_
        refine jx_iload3 (pc := 15) d_J_copy_15 ?_
        refine jx_callV1 (pc := 16) (d' := d) vo_Sh_isPlace lk_J_130 d_J_copy_16 ad_23 sh_23 rfl (by omega) (Nat.le_of_ble_eq_true rfl) ?_
        refine c_Sh_isPlace ?_
        refine jx_r1 ?_
        refine jx_if_ne (pc := 19) 25 d_J_copy_19 (by decide) (fun c19 => ?_) (fun c19 => absurd c19 (z01p hb.2))
        refine jx_aload0 (pc := 25) d_J_copy_25 ?_
        refine jx_getR (pc := 26) gf_J_77 d_J_copy_26 ad_0 sh_0 rfl ?_
        refine jx_iload1 (pc := 29) d_J_copy_29 ?_
        refine jx_callV1 (pc := 30) (d' := d) vo_Sh_isLost lk_J_133 d_J_copy_30 ad_23 sh_23 rfl (by omega) (Nat.le_of_ble_eq_true rfl) ?_
        refine c_Sh_isLost hvq ?_
        refine jx_r1 ?_
        refine jx_if_ne (pc := 33) 47 d_J_copy_33 (by decide) (fun c33 => absurd c33 (fun q => q (z01.mpr hLq))) (fun c33 => ?_)
        refine jx_aload0 (pc := 36) d_J_copy_36 ?_
        refine jx_getR (pc := 37) gf_J_77 d_J_copy_37 ad_0 sh_0 rfl ?_
        refine jx_iload3 (pc := 40) d_J_copy_40 ?_
        refine jx_callV1 (pc := 41) (d' := d) vo_Sh_isLost lk_J_133 d_J_copy_41 ad_23 sh_23 rfl (by omega) (Nat.le_of_ble_eq_true rfl) ?_
        refine c_Sh_isLost hvp ?_
        refine jx_r1 ?_
        refine jx_if_eq (pc := 44) 56 d_J_copy_44 (by decide) (fun c44 => ?_) (fun c44 => absurd c44 (fun q => q (z01.mpr hLp)))
        refine jx_aload0 (pc := 56) d_J_copy_56 ?_
        refine jx_getR (pc := 57) gf_J_77 d_J_copy_57 ad_0 sh_0 rfl ?_
        refine jx_getR (pc := 60) gf_J_269 d_J_copy_60 ad_23 sh_23 rfl ?_
        refine jx_iload1 (pc := 63) d_J_copy_63 ?_
        refine jx_iald (pc := 64) d_J_copy_64 ad_24 sh_24 (by first | assumption | exact vp_in_nI (by omega) (by omega)) ?_
        refine jx_aload0 (pc := 65) d_J_copy_65 ?_
        refine jx_getR (pc := 66) gf_J_77 d_J_copy_66 ad_0 sh_0 rfl ?_
        refine jx_getR (pc := 69) gf_J_269 d_J_copy_69 ad_23 sh_23 rfl ?_
        refine jx_iload3 (pc := 72) d_J_copy_72 ?_
        refine jx_iald (pc := 73) d_J_copy_73 ad_24 sh_24 (by first | assumption | exact vp_in_nI (by omega) (by omega)) ?_
        refine jx_icmp_eq (pc := 74) 86 d_J_copy_74 (by decide) (fun c74 => absurd c74 (fun q => hf (Lf.mp q))) (fun c74 => ?_)
        refine jx_aload0 (pc := 77) d_J_copy_77 ?_
        refine jx_getR (pc := 78) gf_J_77 d_J_copy_78 ad_0 sh_0 rfl ?_
        refine jx_iconst (pc := 81) (v := 4) d_J_copy_81 (by decide) ?_
        refine jx_callV1 (pc := 82) (d' := d) vo_Sh_find lk_J_136 d_J_copy_82 ad_23 sh_23 rfl (by omega) (Nat.le_of_ble_eq_true rfl) ?_
        refine c_Sh_find ?_
        refine jx_r1 ?_
        refine jx_iret (pc := 85) hX rfl d_J_copy_85 ?_
        rotate_left
        exact k _ (hR.fi 4) hi_fi
  · have hr : r_copy s a i b j n = -2 := by unfold r_copy; rw [if_neg hb]
    have hnx : n_copy s a i b j n = s := by unfold n_copy; rw [if_neg hb]
    rw [hr, hnx] at k
    refine jx_aload0 (pc := 0) d_J_copy_0 ?_
    refine jx_getR (pc := 1) gf_J_77 d_J_copy_1 ad_0 sh_0 rfl ?_
    refine jx_iload1 (pc := 4) d_J_copy_4 ?_
    refine jx_callV1 (pc := 5) (d' := d) vo_Sh_isPlace lk_J_130 d_J_copy_5 ad_23 sh_23 rfl (by omega) (Nat.le_of_ble_eq_true rfl) ?_
    refine c_Sh_isPlace ?_
    refine jx_r1 ?_
    refine jx_if_eq (pc := 8) 22 d_J_copy_8 (by decide) (fun c8 => ?_) (fun c8 => ?_)
    refine jx_bipush (pc := 22) (v := (-2)) d_J_copy_22 (by decide) ?_
    refine jx_iret (pc := 24) hX rfl d_J_copy_24 ?_
    rotate_left
    refine jx_aload0 (pc := 11) d_J_copy_11 ?_
    refine jx_getR (pc := 12) gf_J_77 d_J_copy_12 ad_0 sh_0 rfl ?_
    refine jx_iload3 (pc := 15) d_J_copy_15 ?_
    refine jx_callV1 (pc := 16) (d' := d) vo_Sh_isPlace lk_J_130 d_J_copy_16 ad_23 sh_23 rfl (by omega) (Nat.le_of_ble_eq_true rfl) ?_
    refine c_Sh_isPlace ?_
    refine jx_r1 ?_
    refine jx_if_ne (pc := 19) 25 d_J_copy_19 (by decide) (fun c19 => ?_) (fun c19 => ?_)
    rotate_left
    refine jx_bipush (pc := 22) (v := (-2)) d_J_copy_22 (by decide) ?_
    refine jx_iret (pc := 24) hX rfl d_J_copy_24 ?_
    rotate_left
    · exact k M hR (fun _ _ => rfl)
    · exact absurd ⟨z01n c8, z01n c19⟩ hb
    · exact k M hR (fun _ _ => rfl)
