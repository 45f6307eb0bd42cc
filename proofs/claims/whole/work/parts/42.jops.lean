/-! OPERATIONS of the component, two: findings, seen, tastes, trainer -/
abbrev okLik (s : Sg) (dog dy h : Int32) : Prop := (0 ≤ dog ∧ dog < 2) ∧ (0 ≤ dy ∧ dy < 30) ∧ (0 ≤ h ∧ h < nI (g_hn s))
abbrev okFou (dog dy : Int32) : Prop := (0 ≤ dog ∧ dog < 2) ∧ (0 ≤ dy ∧ dy < 30)
def lkA (s : Sg) (dog day h : Nat) : Nat := (g_run s (g_ta s dog) 9 (day + 1)).1 h
abbrev fdD (s : Sg) (dog day : Nat) : Nat := fdA s (g_ta s dog) 9 day
def r_liking (s : Sg) (dog dy h : Int32) : Int32 := if okLik s dog dy h then nI (lkA s (cl dog) (cl dy) (cl h)) else -2
def r_found (s : Sg) (dog dy : Int32) : Int32 := if okFou dog dy then em (fdD s (cl dog) (cl dy)) else -2
def disB (s : Sg) : Nat → Nat
  | 0 => 0
  | n + 1 => if fdD s 0 n = fdD s 1 n then disB s n else disB s n ||| 2 ^ n
def prv (s : Sg) : Nat → Nat
  | 0 => 9
  | n + 1 => fdD s 0 n
def chgB (s : Sg) : Nat → Nat
  | 0 => 0
  | n + 1 => if fdD s 0 n = prv s n then chgB s n else chgB s n + 1
abbrev okSeen (dy h : Int32) : Prop := (0 ≤ dy ∧ dy < 30) ∧ (-1 ≤ h ∧ h < 6)
def unem (h : Int32) : Nat := if h = -1 then 9 else cl h
def r_seen (s : Sg) (dy h : Int32) : Int32 := if okSeen dy h then (if g_ns s < 8 then nI (g_ns s + 1) else -4) else -2
def n_seen (s : Sg) (dy h : Int32) : Sg := if okSeen dy h ∧ g_ns s < 8 then s_se s (g_ns s + 1) (upN (g_sd s) (g_ns s) (cl dy)) (upN (g_sh s) (g_ns s) (unem h)) else s
def n_forget (s : Sg) : Sg := s_se s 0 (g_sd s) (g_sh s)
def trow (row t : Nat) : Nat := if t = 0 then row / 100 else if t = 1 then row / 10 % 10 else row % 10
def tcnt (s : Sg) : Nat → Nat
  | 0 => 0
  | n + 1 => if outB s (trow n) 9 then tcnt s n + 1 else tcnt s n
def tfst (s : Sg) : Nat → Nat
  | 0 => 9999
  | n + 1 => if tfst s n = 9999 then (if outB s (trow n) 9 then n else 9999) else tfst s n
def r_tastes (s : Sg) (w : Int32) : Int32 := if 0 ≤ w ∧ w < 2 then (if w = 0 then nI (tcnt s 1000) else if tfst s 1000 = 9999 then -1 else nI (tfst s 1000)) else -2
def trnB (s : Sg) : Nat → Nat
  | 0 => 0
  | n + 1 => if outB s (g_ta s 0) n then trnB s n ||| 2 ^ n else trnB s n
def r_trainer (s : Sg) : Int32 := nI (if outB s (g_ta s 0) 9 then trnB s (g_hn s) ||| 64 else trnB s (g_hn s))
theorem trow_le {row : Nat} (h : row < 1000) (t : Nat) : trow row t ≤ 9 := by unfold trow; split; omega; split <;> omega
theorem trow_any (row t : Nat) (h : row < 1000) : trow row t ≤ 9 := trow_le h t
theorem okd (x : Int32) (n : Nat) (hn : n < 2 ^ 31) (h : 0 ≤ x ∧ x < nI n) : ∃ j : Nat, j < n ∧ x = nI j ∧ cl x = j := by
  obtain ⟨j, hj, rfl⟩ := in_of hn h.1 h.2
  exact ⟨j, hj, rfl, nI_cl (by omega)⟩
theorem c_J_liking {d : Nat} {dog dy h : Int32} {s : Sg} {M : j_M} {Q : Option Value → j_M → Prop} (hw : WF s) (hR : RepC s M) (k : ∀ M', Scr M M' → Q (some (.int (r_liking s dog dy h))) M') : j_Ct (d + 4) I_J_liking [.ref 0, .int dog, .int dy, .int h] M Q := by
  refine j_met (by decide +kernel) co_J_liking (Nat.le_of_ble_eq_true rfl) (fun X hX => ?_)
  show j_W (d + 4) I_J_liking X 0 [some (.ref 0), some (.int dog), some (.int dy), some (.int h)] [] M
  obtain ⟨h1, h2, h3, h4, h5⟩ := id hR.1
  have hn6 : g_hn s ≤ 6 := hnB_le hw.1
  by_cases hb : okLik s dog dy h
  · obtain ⟨g1, g2, g3⟩ := id hb
    have hp3 : 0 ≤ h ∧ h < M 1 3 := by rw [h2]; exact g3
    have hr : r_liking s dog dy h = nI (lkA s (cl dog) (cl dy) (cl h)) := by unfold r_liking; rw [if_pos hb]
    rw [hr] at k
    obtain ⟨a, ha, rfl, ea⟩ := okd dog 2 (by omega) g1
    obtain ⟨b, hbb, rfl, eb⟩ := okd dy 30 (by omega) g2
    obtain ⟨c, hc, rfl, ec⟩ := okd h _ (by omega) g3
    rw [ea, eb, ec] at k
    refine jx_iload1 (pc := 0) d_J_liking_0 ?_
    refine jx_callS1 (pc := 1) (d' := 0) so_J_isDog lk_J_111 d_J_liking_1 (by omega) (Nat.le_of_ble_eq_true rfl) ?_
    refine c_J_isDog ?_
    refine jx_r1 ?_
    refine jx_if_eq (pc := 4) 25 d_J_liking_4 (by decide) (fun c4 => absurd c4 (z01p g1)) (fun c4 => ?_)
    refine jx_iload2 (pc := 7) d_J_liking_7 ?_
    refine jx_callS1 (pc := 8) (d' := 0) so_J_isDay lk_J_117 d_J_liking_8 (by omega) (Nat.le_of_ble_eq_true rfl) ?_
    refine c_J_isDay ?_
    refine jx_r1 ?_
    refine jx_if_eq (pc := 11) 25 d_J_liking_11 (by decide) (fun c11 => absurd c11 (z01p g2)) (fun c11 => ?_)
    refine jx_aload0 (pc := 14) d_J_liking_14 ?_
    refine jx_getR (pc := 15) gf_J_12 d_J_liking_15 ad_0 sh_0 rfl ?_
    refine jx_iload3 (pc := 18) d_J_liking_18 ?_
    refine jx_callV1 (pc := 19) (d' := 0) vo_He_has lk_J_101 d_J_liking_19 ad_1 sh_1 rfl (by omega) (Nat.le_of_ble_eq_true rfl) ?_
    refine c_He_has ?_
    refine jx_r1 ?_
    refine jx_if_ne (pc := 22) 28 d_J_liking_22 (by decide) (fun c22 => ?_) (fun c22 => absurd c22 (z01p hp3))
    refine jx_aload0 (pc := 28) d_J_liking_28 ?_
    refine jx_iload1 (pc := 29) d_J_liking_29 ?_
    refine jx_iload2 (pc := 30) d_J_liking_30 ?_
    refine jx_callV2 (pc := 31) (d' := d + 3) vo_J_moodBehind lk_J_150 d_J_liking_31 ad_0 sh_0 rfl (by omega) (Nat.le_of_ble_eq_true rfl) ?_
    refine c_J_moodBehind hw hR ha hbb (fun M2 hS2 hM2 => ?_)
    refine jx_r1 ?_
    refine jx_getR (pc := 34) gf_J_154 d_J_liking_34 (mo_a mo_35) (mo_s mo_35) rfl ?_
    refine jx_iload3 (pc := 37) d_J_liking_37 ?_
    refine jx_iald (pc := 38) d_J_liking_38 (mo_a1 mo_35) (mo_s1 mo_35) (vp_in_nI (show c < 6 by omega) (by omega)) ?_
    refine jx_iret (pc := 39) hX rfl d_J_liking_39 ?_
    rotate_left
    rw [show (nI c).toNatClampNeg = c from ec, hM2.1 c (by omega)]
    exact k M2 hS2
  · have hr : r_liking s dog dy h = -2 := by unfold r_liking; rw [if_neg hb]
    rw [hr] at k
    refine jx_iload1 (pc := 0) d_J_liking_0 ?_
    refine jx_callS1 (pc := 1) (d' := 0) so_J_isDog lk_J_111 d_J_liking_1 (by omega) (Nat.le_of_ble_eq_true rfl) ?_
    refine c_J_isDog ?_
    refine jx_r1 ?_
    refine jx_if_eq (pc := 4) 25 d_J_liking_4 (by decide) (fun c4 => ?_) (fun c4 => ?_)
    refine jx_bipush (pc := 25) (v := (-2)) d_J_liking_25 (by decide) ?_
    refine jx_iret (pc := 27) hX rfl d_J_liking_27 ?_
    rotate_left
    refine jx_iload2 (pc := 7) d_J_liking_7 ?_
    refine jx_callS1 (pc := 8) (d' := 0) so_J_isDay lk_J_117 d_J_liking_8 (by omega) (Nat.le_of_ble_eq_true rfl) ?_
    refine c_J_isDay ?_
    refine jx_r1 ?_
    refine jx_if_eq (pc := 11) 25 d_J_liking_11 (by decide) (fun c11 => ?_) (fun c11 => ?_)
    refine jx_bipush (pc := 25) (v := (-2)) d_J_liking_25 (by decide) ?_
    refine jx_iret (pc := 27) hX rfl d_J_liking_27 ?_
    rotate_left
    refine jx_aload0 (pc := 14) d_J_liking_14 ?_
    refine jx_getR (pc := 15) gf_J_12 d_J_liking_15 ad_0 sh_0 rfl ?_
    refine jx_iload3 (pc := 18) d_J_liking_18 ?_
    refine jx_callV1 (pc := 19) (d' := 0) vo_He_has lk_J_101 d_J_liking_19 ad_1 sh_1 rfl (by omega) (Nat.le_of_ble_eq_true rfl) ?_
    refine c_He_has ?_
    refine jx_r1 ?_
    refine jx_if_ne (pc := 22) 28 d_J_liking_22 (by decide) (fun c22 => ?_) (fun c22 => ?_)
    rotate_left
    refine jx_bipush (pc := 25) (v := (-2)) d_J_liking_25 (by decide) ?_
    refine jx_iret (pc := 27) hX rfl d_J_liking_27 ?_
    rotate_left
    · exact k M Scr.rf
    · exact k M Scr.rf
    · have g3 := z01n c22
      rw [h2] at g3
      exact absurd ⟨z01n c4, z01n c11, g3⟩ hb
    · exact k M Scr.rf
theorem c_J_found {d : Nat} {dog dy : Int32} {s : Sg} {M : j_M} {Q : Option Value → j_M → Prop} (hw : WF s) (hR : RepC s M) (k : ∀ M', Scr M M' → Q (some (.int (r_found s dog dy))) M') : j_Ct (d + 4) I_J_found [.ref 0, .int dog, .int dy] M Q := by
  refine j_met (by decide +kernel) co_J_found (Nat.le_of_ble_eq_true rfl) (fun X hX => ?_)
  show j_W (d + 4) I_J_found X 0 [some (.ref 0), some (.int dog), some (.int dy)] [] M
  by_cases hb : okFou dog dy
  · obtain ⟨g1, g2⟩ := id hb
    have hr : r_found s dog dy = em (fdD s (cl dog) (cl dy)) := by unfold r_found; rw [if_pos hb]
    rw [hr] at k
    obtain ⟨a, ha, rfl, ea⟩ := okd dog 2 (by omega) g1
    obtain ⟨b, hbb, rfl, eb⟩ := okd dy 30 (by omega) g2
    rw [ea, eb] at k
    refine jx_iload1 (pc := 0) d_J_found_0 ?_
    refine jx_callS1 (pc := 1) (d' := 0) so_J_isDog lk_J_111 d_J_found_1 (by omega) (Nat.le_of_ble_eq_true rfl) ?_
    refine c_J_isDog ?_
    refine jx_r1 ?_
    refine jx_if_eq (pc := 4) 14 d_J_found_4 (by decide) (fun c4 => absurd c4 (z01p g1)) (fun c4 => ?_)
    refine jx_iload2 (pc := 7) d_J_found_7 ?_
    refine jx_callS1 (pc := 8) (d' := 0) so_J_isDay lk_J_117 d_J_found_8 (by omega) (Nat.le_of_ble_eq_true rfl) ?_
    refine c_J_isDay ?_
    refine jx_r1 ?_
    refine jx_if_ne (pc := 11) 17 d_J_found_11 (by decide) (fun c11 => ?_) (fun c11 => absurd c11 (z01p g2))
    refine jx_aload0 (pc := 17) d_J_found_17 ?_
    refine jx_iload1 (pc := 18) d_J_found_18 ?_
    refine jx_iload2 (pc := 19) d_J_found_19 ?_
    refine jx_callV2 (pc := 20) (d' := d + 3) vo_J_moodBehind lk_J_150 d_J_found_20 ad_0 sh_0 rfl (by omega) (Nat.le_of_ble_eq_true rfl) ?_
    refine c_J_moodBehind hw hR ha hbb (fun M2 hS2 hM2 => ?_)
    refine jx_r1 ?_
    refine jx_getI (pc := 23) gf_J_159 d_J_found_23 (mo_a mo_35) (mo_s mo_35) rfl ?_
    refine jx_iret (pc := 26) hX rfl d_J_found_26 ?_
    rotate_left
    rw [hM2.2.2.2.2.2.2]
    exact k M2 hS2
  · have hr : r_found s dog dy = -2 := by unfold r_found; rw [if_neg hb]
    rw [hr] at k
    refine jx_iload1 (pc := 0) d_J_found_0 ?_
    refine jx_callS1 (pc := 1) (d' := 0) so_J_isDog lk_J_111 d_J_found_1 (by omega) (Nat.le_of_ble_eq_true rfl) ?_
    refine c_J_isDog ?_
    refine jx_r1 ?_
    refine jx_if_eq (pc := 4) 14 d_J_found_4 (by decide) (fun c4 => ?_) (fun c4 => ?_)
    refine jx_bipush (pc := 14) (v := (-2)) d_J_found_14 (by decide) ?_
    refine jx_iret (pc := 16) hX rfl d_J_found_16 ?_
    rotate_left
    refine jx_iload2 (pc := 7) d_J_found_7 ?_
    refine jx_callS1 (pc := 8) (d' := 0) so_J_isDay lk_J_117 d_J_found_8 (by omega) (Nat.le_of_ble_eq_true rfl) ?_
    refine c_J_isDay ?_
    refine jx_r1 ?_
    refine jx_if_ne (pc := 11) 17 d_J_found_11 (by decide) (fun c11 => ?_) (fun c11 => ?_)
    rotate_left
    refine jx_bipush (pc := 14) (v := (-2)) d_J_found_14 (by decide) ?_
    refine jx_iret (pc := 16) hX rfl d_J_found_16 ?_
    rotate_left
    · exact k M Scr.rf
    · exact absurd ⟨z01n c4, z01n c11⟩ hb
    · exact k M Scr.rf
theorem fdD_lt {s : Sg} (hw : WF s) (dog : Nat) {day : Nat} (hd : day < 30) : fdD s dog day < 10 := by
  have h1 := fdA_lt hw (hw.2.2.1 dog) 9 hd
  have h2 : g_hn s ≤ 6 := hnB_le hw.1
  rcases h1 with h | h
  · exact Nat.lt_of_lt_of_le h (by omega)
  · rw [show fdD s dog day = 9 from h]; omega
theorem disB_lt (s : Sg) : ∀ n, disB s n < 2 ^ n
  | 0 => by simp [disB]
  | n + 1 => by
    have ih := disB_lt s n
    unfold disB
    split
    · exact Nat.lt_trans ih (Nat.pow_lt_pow_right (by decide) (by omega))
    · exact Nat.or_lt_two_pow (Nat.lt_trans ih (Nat.pow_lt_pow_right (by decide) (by omega))) (Nat.pow_lt_pow_right (by decide) (by omega))
theorem c_J_dissent {d : Nat} {s : Sg} {M : j_M} {Q : Option Value → j_M → Prop} (hw : WF s) (hR : RepC s M) (k : ∀ M', Scr M M' → Q (some (.int (nI (disB s 30)))) M') : j_Ct (d + 4) I_J_dissent [.ref 0] M Q := by
  refine j_met (by decide +kernel) co_J_dissent (Nat.le_of_ble_eq_true rfl) (fun X hX => ?_)
  show j_W (d + 4) I_J_dissent X 0 [some (.ref 0), none, none] [] M
  have loop : ∀ (M2 : j_M), Scr M M2 → (∀ day, day < 30 → M2 32 day = em (fdD s 0 day)) → (∀ day, day < 30 → M2 33 day = em (fdD s 1 day)) → ∀ (r i : Nat), i + r = 30 → j_W (d + 4) I_J_dissent X 14 [some (.ref 0), some (.int (nI (disB s i))), some (.int (nI i))] [] M2 := by
    intro M2 hS f0 f1 r
    induction r with
    | zero =>
      intro i hi
      refine jx_iload2 (pc := 14) d_J_dissent_14 ?_
      refine jx_bipush (pc := 15) (v := 30) d_J_dissent_15 (by decide) ?_
      refine jx_icmp_ge (pc := 17) 51 d_J_dissent_17 (by decide) (fun c17 => ?_) (fun c17 => absurd c17 (fun q => q (show nI 30 ≤ nI i from nI_le (by omega) (by omega))))
      refine jx_iload1 (pc := 51) d_J_dissent_51 ?_
      refine jx_iret (pc := 52) hX rfl d_J_dissent_52 ?_
      rotate_left
      rw [show i = 30 by omega]
      exact k M2 hS
    | succ r ih =>
      intro i hi
      have e1 : (nI i).toNatClampNeg = i := nI_cl (by omega)
      have hlt := disB_lt s i
      have hp : (2 : Nat) ^ i ≤ 2 ^ 30 := Nat.pow_le_pow_right (by decide) (by omega)
      have hl0 := fdD_lt hw 0 (show i < 30 by omega)
      have hl1 := fdD_lt hw 1 (show i < 30 by omega)
      refine jx_iload2 (pc := 14) d_J_dissent_14 ?_
      refine jx_bipush (pc := 15) (v := 30) d_J_dissent_15 (by decide) ?_
      refine jx_icmp_ge (pc := 17) 51 d_J_dissent_17 (by decide) (fun c17 => absurd c17 (show ¬ nI 30 ≤ nI i from nI_ge (by omega) (by omega))) (fun c17 => ?_)
      refine jx_aload0 (pc := 20) d_J_dissent_20 ?_
      refine jx_getR (pc := 21) gf_J_82 d_J_dissent_21 ad_0 sh_0 rfl ?_
      refine jx_iconst (pc := 24) (v := 0) d_J_dissent_24 (by decide) ?_
      refine jx_aald (pc := 25) (b := 32) d_J_dissent_25 ad_31 (Or.inr rfl) sh_31 (by unfold vp_in; decide) (by decide) ?_
      refine jx_iload2 (pc := 26) d_J_dissent_26 ?_
      refine jx_iald (pc := 27) d_J_dissent_27 ad_32 sh_32 (vp_in_nI (show i < 30 by omega) (by omega)) ?_
      refine jx_aload0 (pc := 28) d_J_dissent_28 ?_
      refine jx_getR (pc := 29) gf_J_82 d_J_dissent_29 ad_0 sh_0 rfl ?_
      refine jx_iconst (pc := 32) (v := 1) d_J_dissent_32 (by decide) ?_
      refine jx_aald (pc := 33) (b := 33) d_J_dissent_33 ad_31 (Or.inr rfl) sh_31 (by unfold vp_in; decide) (by decide) ?_
      refine jx_iload2 (pc := 34) d_J_dissent_34 ?_
      refine jx_iald (pc := 35) d_J_dissent_35 ad_33 sh_33 (vp_in_nI (show i < 30 by omega) (by omega)) ?_
      refine jx_icmp_eq (pc := 36) 45 d_J_dissent_36 (by decide) (fun c36 => ?_) (fun c36 => ?_)
      refine jx_iinc2 (pc := 45) d_J_dissent_45 rfl (Nat.le_of_ble_eq_true rfl) ?_
      refine jx_goto (pc := 48) 14 d_J_dissent_48 (by decide) ?_
      rotate_left
      refine jx_iload1 (pc := 39) d_J_dissent_39 ?_
      refine jx_iconst (pc := 40) (v := 1) d_J_dissent_40 (by decide) ?_
      refine jx_iload2 (pc := 41) d_J_dissent_41 ?_
      refine jx_ishl (pc := 42) d_J_dissent_42 ?_
      refine jx_ior (pc := 43) d_J_dissent_43 ?_
      refine jx_istore1 (pc := 44) d_J_dissent_44 rfl (Nat.le_of_ble_eq_true rfl) ?_
      refine jx_iinc2 (pc := 45) d_J_dissent_45 rfl (Nat.le_of_ble_eq_true rfl) ?_
      refine jx_goto (pc := 48) 14 d_J_dissent_48 (by decide) ?_
      rotate_left
      · rw [e1, f0 i (by omega), f1 i (by omega)] at c36
        have heq : fdD s 0 i = fdD s 1 i := (em_inj (by omega) (by omega)).mp c36
        rw [nI_add1]
        have := ih (i + 1) (by omega)
        unfold disB at this
        rw [if_pos heq] at this
        exact this
      · rw [e1, f0 i (by omega), f1 i (by omega)] at c36
        have hne : ¬ fdD s 0 i = fdD s 1 i := fun q => c36 (by rw [q])
        rw [nI_add1, or_bit (by omega)]
        have := ih (i + 1) (by omega)
        unfold disB at this
        rw [if_neg hne] at this
        exact this
  refine jx_aload0 (pc := 0) d_J_dissent_0 ?_
  refine jx_iconst (pc := 1) (v := 0) d_J_dissent_1 (by decide) ?_
  refine jx_callV1 (pc := 2) (d' := d + 3) vo_J_noteFound lk_J_176 d_J_dissent_2 ad_0 sh_0 rfl (by omega) (Nat.le_of_ble_eq_true rfl) ?_
  refine c_J_noteFound (dog := 0) hw hR (by omega) (fun M1 hS1 hf1 hb1 => ?_)
  refine jx_r0 ?_
  refine jx_aload0 (pc := 5) d_J_dissent_5 ?_
  refine jx_iconst (pc := 6) (v := 1) d_J_dissent_6 (by decide) ?_
  refine jx_callV1 (pc := 7) (d' := d + 3) vo_J_noteFound lk_J_176 d_J_dissent_7 ad_0 sh_0 rfl (by omega) (Nat.le_of_ble_eq_true rfl) ?_
  refine c_J_noteFound (dog := 1) hw (hS1.rep hR) (by omega) (fun M2 hS2 hf2 hb2 => ?_)
  refine jx_r0 ?_
  refine jx_iconst (pc := 10) (v := 0) d_J_dissent_10 (by decide) ?_
  refine jx_istore1 (pc := 11) d_J_dissent_11 rfl (Nat.le_of_ble_eq_true rfl) ?_
  refine jx_iconst (pc := 12) (v := 0) d_J_dissent_12 (by decide) ?_
  refine jx_istore2 (pc := 13) d_J_dissent_13 rfl (Nat.le_of_ble_eq_true rfl) ?_
  rotate_left
  exact loop M2 (hS1.tr hS2) (fun day hd => by rw [hb2 32 (by omega) (by omega)]; exact hf1 day hd) hf2 30 0 (by omega)
theorem chgB_le (s : Sg) : ∀ n, chgB s n ≤ n
  | 0 => Nat.le_refl _
  | n + 1 => by have := chgB_le s n; unfold chgB; split <;> omega
theorem prv_lt {s : Sg} (hw : WF s) {n : Nat} (hn : n ≤ 30) : prv s n < 10 := by
  cases n with
  | zero => exact (by omega : (9 : Nat) < 10)
  | succ n => exact fdD_lt hw 0 (by omega)
theorem c_J_changes {d : Nat} {s : Sg} {M : j_M} {Q : Option Value → j_M → Prop} (hw : WF s) (hR : RepC s M) (k : ∀ M', Scr M M' → Q (some (.int (nI (chgB s 30)))) M') : j_Ct (d + 4) I_J_changes [.ref 0] M Q := by
  refine j_met (by decide +kernel) co_J_changes (Nat.le_of_ble_eq_true rfl) (fun X hX => ?_)
  show j_W (d + 4) I_J_changes X 0 [some (.ref 0), none, none, none, none] [] M
  have loop : ∀ (M2 : j_M), Scr M M2 → (∀ day, day < 30 → M2 32 day = em (fdD s 0 day)) → ∀ (r i : Nat), i + r = 30 → j_W (d + 4) I_J_changes X 11 [some (.ref 0), some (.int (nI (chgB s i))), some (.int (em (prv s i))), some (.int (nI i)), none] [] M2 := by
    intro M2 hS f0 r
    induction r with
    | zero =>
      intro i hi
      refine jx_iload3 (pc := 11) d_J_changes_11 ?_
      refine jx_bipush (pc := 12) (v := 30) d_J_changes_12 (by decide) ?_
      refine jx_icmp_ge (pc := 14) 45 d_J_changes_14 (by decide) (fun c14 => ?_) (fun c14 => absurd c14 (fun q => q (show nI 30 ≤ nI i from nI_le (by omega) (by omega))))
      refine jx_iload1 (pc := 45) d_J_changes_45 ?_
      refine jx_iret (pc := 46) hX rfl d_J_changes_46 ?_
      rotate_left
      rw [show i = 30 by omega]
      exact k M2 hS
    | succ r ih =>
      intro i hi
      have e1 : (nI i).toNatClampNeg = i := nI_cl (by omega)
      have hle := chgB_le s i
      have hl0 := fdD_lt hw 0 (show i < 30 by omega)
      have hpl := prv_lt hw (show i ≤ 30 by omega)
      refine jx_iload3 (pc := 11) d_J_changes_11 ?_
      refine jx_bipush (pc := 12) (v := 30) d_J_changes_12 (by decide) ?_
      refine jx_icmp_ge (pc := 14) 45 d_J_changes_14 (by decide) (fun c14 => absurd c14 (show ¬ nI 30 ≤ nI i from nI_ge (by omega) (by omega))) (fun c14 => ?_)
      refine jx_aload0 (pc := 17) d_J_changes_17 ?_
      refine jx_getR (pc := 18) gf_J_82 d_J_changes_18 ad_0 sh_0 rfl ?_
      refine jx_iconst (pc := 21) (v := 0) d_J_changes_21 (by decide) ?_
      refine jx_aald (pc := 22) (b := 32) d_J_changes_22 ad_31 (Or.inr rfl) sh_31 (by unfold vp_in; decide) (by decide) ?_
      refine jx_iload3 (pc := 23) d_J_changes_23 ?_
      refine jx_iald (pc := 24) d_J_changes_24 ad_32 sh_32 (vp_in_nI (show i < 30 by omega) (by omega)) ?_
      refine jx_istore4 (pc := 25) d_J_changes_25 rfl (Nat.le_of_ble_eq_true rfl) ?_
      refine jx_iload4 (pc := 27) d_J_changes_27 ?_
      refine jx_iload2 (pc := 29) d_J_changes_29 ?_
      refine jx_icmp_eq (pc := 30) 36 d_J_changes_30 (by decide) (fun c30 => ?_) (fun c30 => ?_)
      refine jx_iload4 (pc := 36) d_J_changes_36 ?_
      refine jx_istore2 (pc := 38) d_J_changes_38 rfl (Nat.le_of_ble_eq_true rfl) ?_
      refine jx_iinc3 (pc := 39) d_J_changes_39 rfl (Nat.le_of_ble_eq_true rfl) ?_
      refine jx_goto (pc := 42) 11 d_J_changes_42 (by decide) ?_
      rotate_left
      refine jx_iinc1 (pc := 33) d_J_changes_33 rfl (Nat.le_of_ble_eq_true rfl) ?_
      refine jx_iload4 (pc := 36) d_J_changes_36 ?_
      refine jx_istore2 (pc := 38) d_J_changes_38 rfl (Nat.le_of_ble_eq_true rfl) ?_
      refine jx_iinc3 (pc := 39) d_J_changes_39 rfl (Nat.le_of_ble_eq_true rfl) ?_
      refine jx_goto (pc := 42) 11 d_J_changes_42 (by decide) ?_
      rotate_left
      · rw [e1, f0 i (by omega)] at c30 ⊢
        have heq : fdD s 0 i = prv s i := (em_inj (by omega) (by omega)).mp c30
        rw [nI_add1]
        have h9 := ih (i + 1) (by omega)
        rw [show chgB s (i + 1) = chgB s i by rw [chgB, if_pos heq]] at h9
        rw [show prv s (i + 1) = fdD s 0 i from rfl] at h9
        exact jx_sub (fun j v => by rcases j with _ | _ | _ | _ | _ | j <;> simp) h9
      · rw [e1, f0 i (by omega)] at c30 ⊢
        have hne : ¬ fdD s 0 i = prv s i := fun q => c30 (by rw [q])
        rw [nI_add1, nI_add1]
        have h9 := ih (i + 1) (by omega)
        rw [show chgB s (i + 1) = chgB s i + 1 by rw [chgB, if_neg hne]] at h9
        rw [show prv s (i + 1) = fdD s 0 i from rfl] at h9
        exact jx_sub (fun j v => by rcases j with _ | _ | _ | _ | _ | j <;> simp) h9
  refine jx_aload0 (pc := 0) d_J_changes_0 ?_
  refine jx_iconst (pc := 1) (v := 0) d_J_changes_1 (by decide) ?_
  refine jx_callV1 (pc := 2) (d' := d + 3) vo_J_noteFound lk_J_176 d_J_changes_2 ad_0 sh_0 rfl (by omega) (Nat.le_of_ble_eq_true rfl) ?_
  refine c_J_noteFound (dog := 0) hw hR (by omega) (fun M1 hS1 hf1 hb1 => ?_)
  refine jx_r0 ?_
  refine jx_iconst (pc := 5) (v := 0) d_J_changes_5 (by decide) ?_
  refine jx_istore1 (pc := 6) d_J_changes_6 rfl (Nat.le_of_ble_eq_true rfl) ?_
  refine jx_iconst (pc := 7) (v := (-1)) d_J_changes_7 (by decide) ?_
  refine jx_istore2 (pc := 8) d_J_changes_8 rfl (Nat.le_of_ble_eq_true rfl) ?_
  refine jx_iconst (pc := 9) (v := 0) d_J_changes_9 (by decide) ?_
  refine jx_istore3 (pc := 10) d_J_changes_10 rfl (Nat.le_of_ble_eq_true rfl) ?_
  rotate_left
  exact loop M1 hS1 hf1 30 0 (by omega)
theorem seen_of {h : Int32} (h1 : -1 ≤ h) (h2 : h < 6) : (unem h < 6 ∨ unem h = 9) ∧ h = em (unem h) := by
  unfold unem
  by_cases hm : h = -1
  · rw [if_pos hm, hm]; exact ⟨Or.inr rfl, rfl⟩
  · rw [if_neg hm]
    have h0 : 0 ≤ h := by
      rw [fa_le] at h1 ⊢
      rw [fa_eq] at hm
      simp only [Int32.reduceToInt] at *
      omega
    obtain ⟨j, hj, rfl, ej⟩ := okd h 6 (by omega) ⟨h0, h2⟩
    rw [ej]
    exact ⟨Or.inl hj, (em_lt (by omega)).symm⟩
theorem c_J_seen {d : Nat} {dy h : Int32} {s : Sg} {M : j_M} {Q : Option Value → j_M → Prop} (hw : WF s) (hR : RepC s M) (k : ∀ M', RepC (n_seen s dy h) M' → Hi M M' → Q (some (.int (r_seen s dy h))) M') : j_Ct (d + 2) I_J_seen [.ref 0, .int dy, .int h] M Q := by
  refine j_met (by decide +kernel) co_J_seen (Nat.le_of_ble_eq_true rfl) (fun X hX => ?_)
  show j_W (d + 2) I_J_seen X 0 [some (.ref 0), some (.int dy), some (.int h)] [] M
  have hS := hR.2.2.2.2.1
  have hns : M 17 1 = nI (g_ns s) := hS.1
  have hn8 := hw.2.2.2.2.2.2.2.1
  by_cases hb : okSeen dy h
  · obtain ⟨g1, g2, g3⟩ := id hb
    by_cases hn : g_ns s < 8
    · have hr : r_seen s dy h = nI (g_ns s + 1) := by unfold r_seen; rw [if_pos hb, if_pos hn]
      have hnx : n_seen s dy h = s_se s (g_ns s + 1) (upN (g_sd s) (g_ns s) (cl dy)) (upN (g_sh s) (g_ns s) (unem h)) := by unfold n_seen; rw [if_pos ⟨hb, hn⟩]
      rw [hr, hnx] at k
      obtain ⟨a, ha, rfl, ea⟩ := okd dy 30 (by omega) g1
      obtain ⟨hu, he⟩ := seen_of g2 g3
      rw [ea] at k
      generalize unem h = u at hu he k
      subst he
      refine jx_iload1 (pc := 0) d_J_seen_0 ?_
      refine jx_callS1 (pc := 1) (d' := 0) so_J_isDay lk_J_117 d_J_seen_1 (by omega) (Nat.le_of_ble_eq_true rfl) ?_
      refine c_J_isDay ?_
      refine jx_r1 ?_
      refine jx_if_eq (pc := 4) 18 d_J_seen_4 (by decide) (fun c4 => absurd c4 (z01p g1)) (fun c4 => ?_)
      refine jx_iload2 (pc := 7) d_J_seen_7 ?_
      refine jx_iconst (pc := 8) (v := (-1)) d_J_seen_8 (by decide) ?_
      refine jx_icmp_lt (pc := 9) 18 d_J_seen_9 (by decide) (fun c9 => absurd c9 (Int32.not_lt.mpr g2)) (fun c9 => ?_)
      refine jx_iload2 (pc := 12) d_J_seen_12 ?_
      refine jx_bipush (pc := 13) (v := 6) d_J_seen_13 (by decide) ?_
      refine jx_icmp_lt (pc := 15) 21 d_J_seen_15 (by decide) (fun c15 => ?_) (fun c15 => absurd c15 (fun q => q g3))
      refine jx_aload0 (pc := 21) d_J_seen_21 ?_
      refine jx_getR (pc := 22) gf_J_47 d_J_seen_22 ad_0 sh_0 rfl ?_
      refine jx_getI (pc := 25) gf_J_202 d_J_seen_25 ad_17 sh_17 rfl ?_
      refine jx_bipush (pc := 28) (v := 8) d_J_seen_28 (by decide) ?_
      refine jx_icmp_lt (pc := 30) 36 d_J_seen_30 (by decide) (fun c30 => ?_) (fun c30 => absurd c30 (fun q => q (by rw [hns]; exact nI_lt (b := 8) hn (by omega))))
      refine jx_aload0 (pc := 36) d_J_seen_36 ?_
      refine jx_getR (pc := 37) gf_J_47 d_J_seen_37 ad_0 sh_0 rfl ?_
      refine jx_iload1 (pc := 40) d_J_seen_40 ?_
      refine jx_iload2 (pc := 41) d_J_seen_41 ?_
      refine jx_callV2 (pc := 42) (d' := d + 1) vo_Se_add lk_J_203 d_J_seen_42 ad_17 sh_17 rfl (by omega) (Nat.le_of_ble_eq_true rfl) ?_
      refine c_Se_add hn ha hu (fun q => (hw.2.2.2.2.2.2.2.2.1 q).2) hS (fun M2 hM2 hO2 => ?_)
      refine jx_r0 ?_
      refine jx_aload0 (pc := 45) d_J_seen_45 ?_
      refine jx_getR (pc := 46) gf_J_47 d_J_seen_46 ad_0 sh_0 rfl ?_
      refine jx_getI (pc := 49) gf_J_202 d_J_seen_49 ad_17 sh_17 rfl ?_
      refine jx_iret (pc := 52) hX rfl d_J_seen_52 ?_
      rotate_left
      rw [hM2.1]
      exact k M2 (hR.se hM2 (fun q h1 h2 h3 => hO2 q h1 h2)) (fun q hq => hO2 q (by omega) (by omega))
    · have hr : r_seen s dy h = -4 := by unfold r_seen; rw [if_pos hb, if_neg hn]
      have hnx : n_seen s dy h = s := by unfold n_seen; rw [if_neg (fun q => hn q.2)]
      rw [hr, hnx] at k
      refine jx_iload1 (pc := 0) d_J_seen_0 ?_
      refine jx_callS1 (pc := 1) (d' := 0) so_J_isDay lk_J_117 d_J_seen_1 (by omega) (Nat.le_of_ble_eq_true rfl) ?_
      refine c_J_isDay ?_
      refine jx_r1 ?_
      refine jx_if_eq (pc := 4) 18 d_J_seen_4 (by decide) (fun c4 => absurd c4 (z01p g1)) (fun c4 => ?_)
      refine jx_iload2 (pc := 7) d_J_seen_7 ?_
      refine jx_iconst (pc := 8) (v := (-1)) d_J_seen_8 (by decide) ?_
      refine jx_icmp_lt (pc := 9) 18 d_J_seen_9 (by decide) (fun c9 => absurd c9 (Int32.not_lt.mpr g2)) (fun c9 => ?_)
      refine jx_iload2 (pc := 12) d_J_seen_12 ?_
      refine jx_bipush (pc := 13) (v := 6) d_J_seen_13 (by decide) ?_
      refine jx_icmp_lt (pc := 15) 21 d_J_seen_15 (by decide) (fun c15 => ?_) (fun c15 => absurd c15 (fun q => q g3))
      refine jx_aload0 (pc := 21) d_J_seen_21 ?_
      refine jx_getR (pc := 22) gf_J_47 d_J_seen_22 ad_0 sh_0 rfl ?_
      refine jx_getI (pc := 25) gf_J_202 d_J_seen_25 ad_17 sh_17 rfl ?_
      refine jx_bipush (pc := 28) (v := 8) d_J_seen_28 (by decide) ?_
      refine jx_icmp_lt (pc := 30) 36 d_J_seen_30 (by decide) (fun c30 => absurd c30 (by rw [hns]; exact nI_nlt (a := g_ns s) (b := 8) (by omega) (by omega))) (fun c30 => ?_)
      refine jx_bipush (pc := 33) (v := (-4)) d_J_seen_33 (by decide) ?_
      refine jx_iret (pc := 35) hX rfl d_J_seen_35 ?_
      rotate_left
      exact k M hR (fun _ _ => rfl)
  · have hr : r_seen s dy h = -2 := by unfold r_seen; rw [if_neg hb]
    have hnx : n_seen s dy h = s := by unfold n_seen; rw [if_neg (fun q => hb q.1)]
    rw [hr, hnx] at k
    refine jx_iload1 (pc := 0) d_J_seen_0 ?_
    refine jx_callS1 (pc := 1) (d' := 0) so_J_isDay lk_J_117 d_J_seen_1 (by omega) (Nat.le_of_ble_eq_true rfl) ?_
    refine c_J_isDay ?_
    refine jx_r1 ?_
    refine jx_if_eq (pc := 4) 18 d_J_seen_4 (by decide) (fun c4 => ?_) (fun c4 => ?_)
    refine jx_bipush (pc := 18) (v := (-2)) d_J_seen_18 (by decide) ?_
    refine jx_iret (pc := 20) hX rfl d_J_seen_20 ?_
    rotate_left
    refine jx_iload2 (pc := 7) d_J_seen_7 ?_
    refine jx_iconst (pc := 8) (v := (-1)) d_J_seen_8 (by decide) ?_
    refine jx_icmp_lt (pc := 9) 18 d_J_seen_9 (by decide) (fun c9 => ?_) (fun c9 => ?_)
    refine jx_bipush (pc := 18) (v := (-2)) d_J_seen_18 (by decide) ?_
    refine jx_iret (pc := 20) hX rfl d_J_seen_20 ?_
    rotate_left
    refine jx_iload2 (pc := 12) d_J_seen_12 ?_
    refine jx_bipush (pc := 13) (v := 6) d_J_seen_13 (by decide) ?_
    refine jx_icmp_lt (pc := 15) 21 d_J_seen_15 (by decide) (fun c15 => ?_) (fun c15 => ?_)
    rotate_left
    refine jx_bipush (pc := 18) (v := (-2)) d_J_seen_18 (by decide) ?_
    refine jx_iret (pc := 20) hX rfl d_J_seen_20 ?_
    rotate_left
    · exact k M hR (fun _ _ => rfl)
    · exact k M hR (fun _ _ => rfl)
    · exact absurd ⟨z01n c4, Int32.not_lt.mp c9, c15⟩ hb
    · exact k M hR (fun _ _ => rfl)
theorem c_J_forget {d : Nat} {s : Sg} {M : j_M} {Q : Option Value → j_M → Prop} (hR : RepC s M) (k : ∀ M', RepC (n_forget s) M' → Hi M M' → Q (some (.int (nI (g_ns s)))) M') : j_Ct (d + 1) I_J_forget [.ref 0] M Q := by
  refine j_met (by decide +kernel) co_J_forget (Nat.le_of_ble_eq_true rfl) (fun X hX => ?_)
  show j_W (d + 1) I_J_forget X 0 [some (.ref 0), none] [] M
  have hns : M 17 1 = nI (g_ns s) := hR.2.2.2.2.1.1
  refine jx_aload0 (pc := 0) d_J_forget_0 ?_
  refine jx_getR (pc := 1) gf_J_47 d_J_forget_1 ad_0 sh_0 rfl ?_
  refine jx_getI (pc := 4) gf_J_202 d_J_forget_4 ad_17 sh_17 rfl ?_
  refine jx_istore1 (pc := 7) d_J_forget_7 rfl (Nat.le_of_ble_eq_true rfl) ?_
  refine jx_aload0 (pc := 8) d_J_forget_8 ?_
  refine jx_getR (pc := 9) gf_J_47 d_J_forget_9 ad_0 sh_0 rfl ?_
  refine jx_callV0 (pc := 12) (d' := 0) vo_Se_clear lk_J_207 d_J_forget_12 ad_17 sh_17 rfl (by omega) (Nat.le_of_ble_eq_true rfl) ?_
  refine c_Se_clear (fun M2 m1 m2 m3 m4 hO2 => ?_)
  refine jx_r0 ?_
  refine jx_iload1 (pc := 15) d_J_forget_15 ?_
  refine jx_iret (pc := 16) hX rfl d_J_forget_16 ?_
  rotate_left
  rw [hns]
  refine k M2 (hR.se (ns := 0) (sd := g_sd s) (sh := g_sh s) ⟨m1, ⟨0, by omega, m2, fun q hq => absurd hq (by omega)⟩, Or.inr ⟨m3, fun q hq => Or.inl ⟨m4 q hq, fun q2 hq2 => absurd hq2 (by omega)⟩⟩⟩ (fun q h1 h2 h3 => hO2 q h1 h2)) (fun q hq => hO2 q (by omega) (by omega))
theorem c_J_explains {d row : Nat} {s : Sg} {M : j_M} {Q : Option Value → j_M → Prop} (hw : WF s) (hR : RepC s M) (hrow : row < 1000) (k : ∀ M', Scr M M' → (∀ b, b < 35 → b ≠ 14 → M' b = M b) → (∀ t, t < 3 → M' 14 t = nI (trow row t)) → Q (some (.int (if outB s (trow row) 9 then 1 else 0))) M') : j_Ct (d + 4) I_J_explains [.ref 0, .int (nI row)] M Q := by
  refine j_met (by decide +kernel) co_J_explains (Nat.le_of_ble_eq_true rfl) (fun X hX => ?_)
  show j_W (d + 4) I_J_explains X 0 [some (.ref 0), some (.int (nI row))] [] M
  have e1 : nI row / 100 = nI (row / 100) := pk_div (d := 100) (by omega) (by omega) (by omega)
  have e2 : nI row / 10 = nI (row / 10) := pk_div (d := 10) (by omega) (by omega) (by omega)
  have e3 : nI (row / 10) - nI (row / 10) / 10 * 10 = nI (row / 10 % 10) := pk_rem (d := 10) (by omega) (by omega) (by omega)
  have e4 : nI row - nI row / 10 * 10 = nI (row % 10) := pk_rem (d := 10) (by omega) (by omega) (by omega)
  have hset : ∀ t, t < 3 → j_set (j_set (j_set M 14 0 (nI row / 100)) 14 1 (nI row / 10 - nI row / 10 / 10 * 10)) 14 2 (nI row - nI row / 10 * 10) 14 t = nI (trow row t) := by
    intro t ht
    rw [e4, e1, e2, e3]
    have h3 : t = 0 ∨ t = 1 ∨ t = 2 := by omega
    rcases h3 with rfl | rfl | rfl <;> simp [j_set_s, upd, trow]
  have hS : Scr M (j_set (j_set (j_set M 14 0 (nI row / 100)) 14 1 (nI row / 10 - nI row / 10 / 10 * 10)) 14 2 (nI row - nI row / 10 * 10)) := fun b hb => by
    have : b ≠ 14 := by unfold PC at hb; omega
    rw [j_set_n _ _ _ this, j_set_n _ _ _ this, j_set_n _ _ _ this]
  refine jx_aload0 (pc := 0) d_J_explains_0 ?_
  refine jx_getR (pc := 1) gf_J_32 d_J_explains_1 ad_0 sh_0 rfl ?_
  refine jx_iconst (pc := 4) (v := 0) d_J_explains_4 (by decide) ?_
  refine jx_iload1 (pc := 5) d_J_explains_5 ?_
  refine jx_bipush (pc := 6) (v := 100) d_J_explains_6 (by decide) ?_
  refine jx_idiv (pc := 8) d_J_explains_8 (by decide) ?_
  refine jx_iastK (pc := 9) 0 d_J_explains_9 ad_14 sh_14 (by decide) (by unfold vp_in; decide) ?_
  refine jx_aload0 (pc := 10) d_J_explains_10 ?_
  refine jx_getR (pc := 11) gf_J_32 d_J_explains_11 ad_0 sh_0 rfl ?_
  refine jx_iconst (pc := 14) (v := 1) d_J_explains_14 (by decide) ?_
  refine jx_iload1 (pc := 15) d_J_explains_15 ?_
  refine jx_bipush (pc := 16) (v := 10) d_J_explains_16 (by decide) ?_
  refine jx_idiv (pc := 18) d_J_explains_18 (by decide) ?_
  refine jx_bipush (pc := 19) (v := 10) d_J_explains_19 (by decide) ?_
  refine jx_irem (pc := 21) d_J_explains_21 (by decide) ?_
  refine jx_iastK (pc := 22) 1 d_J_explains_22 ad_14 sh_14 (by decide) (by unfold vp_in; decide) ?_
  refine jx_aload0 (pc := 23) d_J_explains_23 ?_
  refine jx_getR (pc := 24) gf_J_32 d_J_explains_24 ad_0 sh_0 rfl ?_
  refine jx_iconst (pc := 27) (v := 2) d_J_explains_27 (by decide) ?_
  refine jx_iload1 (pc := 28) d_J_explains_28 ?_
  refine jx_bipush (pc := 29) (v := 10) d_J_explains_29 (by decide) ?_
  refine jx_irem (pc := 31) d_J_explains_31 (by decide) ?_
  refine jx_iastK (pc := 32) 2 d_J_explains_32 ad_14 sh_14 (by decide) (by unfold vp_in; decide) ?_
  refine jx_aload0 (pc := 33) d_J_explains_33 ?_
  refine jx_aload0 (pc := 34) d_J_explains_34 ?_
  refine jx_getR (pc := 35) gf_J_32 d_J_explains_35 ad_0 sh_0 rfl ?_
  refine jx_iconst (pc := 38) (v := (-1)) d_J_explains_38 (by decide) ?_
  refine jx_callV2 (pc := 39) (d' := d + 3) vo_J_comesOut lk_J_219 d_J_explains_39 ad_0 sh_0 rfl (by omega) (Nat.le_of_ble_eq_true rfl) ?_
  refine c_J_comesOut (tr := 9) hw (hS.rep hR) (by omega) sh_14 hset (fun t => trow_le hrow t) (Or.inr rfl) (fun M2 hS2 hL2 => ?_)
  refine jx_r1 ?_
  refine jx_zret (pc := 42) hX rfl (by split; exact Or.inr rfl; exact Or.inl rfl) d_J_explains_42 ?_
  rotate_left
  refine k M2 (hS.tr hS2) (fun b h1 h2 => ?_) (fun t ht => by rw [hL2 14 (by omega)]; exact hset t ht)
  rw [hL2 b h1, j_set_n _ _ _ h2, j_set_n _ _ _ h2, j_set_n _ _ _ h2]
theorem tcnt_le (s : Sg) : ∀ n, tcnt s n ≤ n
  | 0 => Nat.le_refl _
  | n + 1 => by have := tcnt_le s n; unfold tcnt; split <;> omega
theorem tfst_first {s : Sg} : ∀ {n k : Nat}, k < n → (∀ j, j < k → outB s (trow j) 9 = false) → outB s (trow k) 9 = true → k < 9999 → tfst s n = k
  | 0, k, h, _, _, _ => absurd h (Nat.not_lt_zero _)
  | n + 1, k, h, h1, h2, h3 => by
    unfold tfst
    by_cases hk : k = n
    · subst hk
      have hno : ∀ m, m ≤ k → tfst s m = 9999 := by
        intro m
        induction m with
        | zero => intro _; rfl
        | succ m ih => intro hm; unfold tfst; rw [if_pos (ih (by omega)), h1 m (by omega)]; rfl
      rw [if_pos (hno k (Nat.le_refl _)), h2]; rfl
    · have := tfst_first (n := n) (by omega) h1 h2 h3
      rw [if_neg (by omega), this]
theorem tfst_none {s : Sg} : ∀ {n : Nat}, (∀ j, j < n → outB s (trow j) 9 = false) → tfst s n = 9999
  | 0, _ => rfl
  | n + 1, h => by unfold tfst; rw [if_pos (tfst_none (fun j hj => h j (by omega))), h n (by omega)]; rfl
theorem c_J_tastes {d : Nat} {w : Int32} {s : Sg} {M : j_M} {Q : Option Value → j_M → Prop} (hw : WF s) (hR : RepC s M) (k : ∀ M', Scr M M' → Q (some (.int (r_tastes s w))) M') : j_Ct (d + 5) I_J_tastes [.ref 0, .int w] M Q := by
  refine j_met (by decide +kernel) co_J_tastes (Nat.le_of_ble_eq_true rfl) (fun X hX => ?_)
  show j_W (d + 5) I_J_tastes X 0 [some (.ref 0), some (.int w), none, none] [] M
  by_cases hb : 0 ≤ w ∧ w < 2
  · have hw01 : w = 0 ∨ w = 1 := by
      obtain ⟨j, hj, rfl, -⟩ := okd w 2 (by omega) hb
      have h2 : j = 0 ∨ j = 1 := by omega
      rcases h2 with rfl | rfl
      · exact Or.inl rfl
      · exact Or.inr rfl
    have loop : ∀ (r i : Nat) (M1 : j_M), i + r = 1000 → Scr M M1 → (w = 1 → ∀ j, j < i → outB s (trow j) 9 = false) → j_W (d + 5) I_J_tastes X 14 [some (.ref 0), some (.int w), some (.int (nI (if w = 1 then 0 else tcnt s i))), some (.int (nI i))] [] M1 := by
      intro r
      induction r with
      | zero =>
        intro i M1 hi hS hno
        have hi' : i = 1000 := by omega
        subst hi'
        refine jx_iload3 (pc := 14) d_J_tastes_14 ?_
        refine jx_sipush (pc := 15) (v := 1000) d_J_tastes_15 (by decide) ?_
        refine jx_icmp_ge (pc := 18) 48 d_J_tastes_18 (by decide) (fun c18 => ?_) (fun c18 => absurd c18 (fun q => q (show nI 1000 ≤ nI 1000 from Int32.le_refl _)))
        refine jx_iload1 (pc := 48) d_J_tastes_48 ?_
        refine jx_iconst (pc := 49) (v := 1) d_J_tastes_49 (by decide) ?_
        refine jx_icmp_ne (pc := 50) 57 d_J_tastes_50 (by decide) (fun c50 => ?_) (fun c50 => ?_)
        refine jx_iload2 (pc := 57) d_J_tastes_57 ?_
        refine jx_iret (pc := 58) hX rfl d_J_tastes_58 ?_
        rotate_left
        refine jx_iconst (pc := 53) (v := (-1)) d_J_tastes_53 (by decide) ?_
        refine jx_goto (pc := 54) 58 d_J_tastes_54 (by decide) ?_
        refine jx_iret (pc := 58) hX rfl d_J_tastes_58 ?_
        rotate_left
        · have h0 : w = 0 := by rcases hw01 with h | h; exact h; exact absurd h c50
          have := k M1 hS
          unfold r_tastes at this
          rw [if_pos hb, if_pos h0] at this
          rw [if_neg c50]
          exact this
        · have h1 : w = 1 := Decidable.not_not.mp (fun q => q c50)
          have := k M1 hS
          unfold r_tastes at this
          rw [if_pos hb, if_neg (by rw [h1]; decide), if_pos (tfst_none (hno h1))] at this
          exact this
      | succ r ih =>
        intro i M1 hi hS hno
        have hRr := hS.rep hR
        refine jx_iload3 (pc := 14) d_J_tastes_14 ?_
        refine jx_sipush (pc := 15) (v := 1000) d_J_tastes_15 (by decide) ?_
        refine jx_icmp_ge (pc := 18) 48 d_J_tastes_18 (by decide) (fun c18 => absurd c18 (show ¬ nI 1000 ≤ nI i from nI_ge (by omega) (by omega))) (fun c18 => ?_)
        refine jx_aload0 (pc := 21) d_J_tastes_21 ?_
        refine jx_iload3 (pc := 22) d_J_tastes_22 ?_
        refine jx_callV1 (pc := 23) (d' := d + 4) vo_J_explains lk_J_210 d_J_tastes_23 ad_0 sh_0 rfl (by omega) (Nat.le_of_ble_eq_true rfl) ?_
        refine c_J_explains hw hRr (by omega) (fun M2 hS2 hL2 ht2 => ?_)
        refine jx_r1 ?_
        refine jx_if_ne (pc := 26) 32 d_J_tastes_26 (by decide) (fun c26 => ?_) (fun c26 => ?_)
        refine jx_iload1 (pc := 32) d_J_tastes_32 ?_
        refine jx_iconst (pc := 33) (v := 1) d_J_tastes_33 (by decide) ?_
        refine jx_icmp_ne (pc := 34) 39 d_J_tastes_34 (by decide) (fun c34 => ?_) (fun c34 => ?_)
        refine jx_iinc2 (pc := 39) d_J_tastes_39 rfl (Nat.le_of_ble_eq_true rfl) ?_
        refine jx_iinc3 (pc := 42) d_J_tastes_42 rfl (Nat.le_of_ble_eq_true rfl) ?_
        refine jx_goto (pc := 45) 14 d_J_tastes_45 (by decide) ?_
        rotate_left
        refine jx_iload3 (pc := 37) d_J_tastes_37 ?_
        refine jx_iret (pc := 38) hX rfl d_J_tastes_38 ?_
        rotate_left
        refine jx_goto (pc := 29) 42 d_J_tastes_29 (by decide) ?_
        refine jx_iinc3 (pc := 42) d_J_tastes_42 rfl (Nat.le_of_ble_eq_true rfl) ?_
        refine jx_goto (pc := 45) 14 d_J_tastes_45 (by decide) ?_
        rotate_left
        · -- it explains
          have hout := z01n c26
          have h0 : w = 0 := by rcases hw01 with h | h; exact h; exact absurd h c34
          rw [nI_add1]
          have h9 := ih (i + 1) M2 (by omega) (hS.tr hS2) (fun h1 => absurd (h0.symm.trans h1) (by decide))
          rw [if_neg c34] at h9 ⊢
          rw [nI_add1]
          rw [show tcnt s (i + 1) = tcnt s i + 1 by rw [tcnt, if_pos hout]] at h9
          exact h9
        · have hout := z01n c26
          have h1 : w = 1 := Decidable.not_not.mp (fun q => q c34)
          have := k M2 (hS.tr hS2)
          unfold r_tastes at this
          have hf := tfst_first (n := 1000) (by omega) (hno h1) hout (by omega)
          rw [if_pos hb, if_neg (by rw [h1]; decide), hf, if_neg (by omega)] at this
          exact this
        · have hout := z01.mp c26
          have hout' : outB s (trow i) 9 = false := by simpa using hout
          rw [nI_add1]
          have h9 := ih (i + 1) M2 (by omega) (hS.tr hS2) (fun h1 j hj => by
            by_cases hji : j = i
            · rw [hji]; exact hout'
            · exact hno h1 j (by omega))
          rw [show tcnt s (i + 1) = tcnt s i by rw [tcnt, if_neg hout]] at h9
          exact h9
    refine jx_iload1 (pc := 0) d_J_tastes_0 ?_
    refine jx_callS1 (pc := 1) (d' := 0) so_J_isOneOfTwo lk_J_162 d_J_tastes_1 (by omega) (Nat.le_of_ble_eq_true rfl) ?_
    refine c_J_isOneOfTwo ?_
    refine jx_r1 ?_
    refine jx_if_ne (pc := 4) 10 d_J_tastes_4 (by decide) (fun c4 => ?_) (fun c4 => absurd c4 (z01p hb))
    refine jx_iconst (pc := 10) (v := 0) d_J_tastes_10 (by decide) ?_
    refine jx_istore2 (pc := 11) d_J_tastes_11 rfl (Nat.le_of_ble_eq_true rfl) ?_
    refine jx_iconst (pc := 12) (v := 0) d_J_tastes_12 (by decide) ?_
    refine jx_istore3 (pc := 13) d_J_tastes_13 rfl (Nat.le_of_ble_eq_true rfl) ?_
    rotate_left
    have h9 := loop 1000 0 M (by omega) Scr.rf (fun _ j hj => absurd hj (by omega))
    rw [show (if w = 1 then 0 else tcnt s 0) = 0 by split <;> rfl] at h9
    exact h9
  · have hr : r_tastes s w = -2 := by unfold r_tastes; rw [if_neg hb]
    rw [hr] at k
    refine jx_iload1 (pc := 0) d_J_tastes_0 ?_
    refine jx_callS1 (pc := 1) (d' := 0) so_J_isOneOfTwo lk_J_162 d_J_tastes_1 (by omega) (Nat.le_of_ble_eq_true rfl) ?_
    refine c_J_isOneOfTwo ?_
    refine jx_r1 ?_
    refine jx_if_ne (pc := 4) 10 d_J_tastes_4 (by decide) (fun c4 => absurd c4 (fun q => q (z01.mpr hb))) (fun c4 => ?_)
    refine jx_bipush (pc := 7) (v := (-2)) d_J_tastes_7 (by decide) ?_
    refine jx_iret (pc := 9) hX rfl d_J_tastes_9 ?_
    rotate_left
    exact k M Scr.rf
theorem trnB_lt (s : Sg) : ∀ n, trnB s n < 2 ^ n
  | 0 => by simp [trnB]
  | n + 1 => by
    have ih := trnB_lt s n
    unfold trnB
    split
    · exact Nat.or_lt_two_pow (Nat.lt_trans ih (Nat.pow_lt_pow_right (by decide) (by omega))) (Nat.pow_lt_pow_right (by decide) (by omega))
    · exact Nat.lt_trans ih (Nat.pow_lt_pow_right (by decide) (by omega))
theorem c_J_trainer {d : Nat} {s : Sg} {M : j_M} {Q : Option Value → j_M → Prop} (hw : WF s) (hR : RepC s M) (k : ∀ M', Scr M M' → Q (some (.int (r_trainer s))) M') : j_Ct (d + 4) I_J_trainer [.ref 0] M Q := by
  refine j_met (by decide +kernel) co_J_trainer (Nat.le_of_ble_eq_true rfl) (fun X hX => ?_)
  show j_W (d + 4) I_J_trainer X 0 [some (.ref 0), none, none] [] M
  have hn6 : g_hn s ≤ 6 := hnB_le hw.1
  have hts : ∀ t, g_ta s 0 t ≤ 9 := hw.2.2.1 0
  have loop : ∀ (r i : Nat) (M1 : j_M), i + r = g_hn s → Scr M M1 → j_W (d + 4) I_J_trainer X 4 [some (.ref 0), some (.int (nI (trnB s i))), some (.int (nI i))] [] M1 := by
    intro r
    induction r with
    | zero =>
      intro i M1 hi hS
      have hRr := hS.rep hR
      have hiE : i = g_hn s := by omega
      have h13 : M1 1 3 = nI (g_hn s) := hRr.1.2.1
      have hta : ∀ t, t < 3 → M1 12 t = nI (g_ta s 0 t) := fun t ht => hRr.2.1 0 t (by omega) ht
      refine jx_iload2 (pc := 4) d_J_trainer_4 ?_
      refine jx_aload0 (pc := 5) d_J_trainer_5 ?_
      refine jx_getR (pc := 6) gf_J_12 d_J_trainer_6 ad_0 sh_0 rfl ?_
      refine jx_getI (pc := 9) gf_J_169 d_J_trainer_9 ad_1 sh_1 rfl ?_
      refine jx_icmp_ge (pc := 12) 41 d_J_trainer_12 (by decide) (fun c12 => ?_) (fun c12 => absurd c12 (fun q => q (by rw [h13, hiE]; exact Int32.le_refl _)))
      refine jx_aload0 (pc := 41) d_J_trainer_41 ?_
      refine jx_aload0 (pc := 42) d_J_trainer_42 ?_
      refine jx_getR (pc := 43) gf_J_28 d_J_trainer_43 ad_0 sh_0 rfl ?_
      refine jx_iconst (pc := 46) (v := 0) d_J_trainer_46 (by decide) ?_
      refine jx_aald (pc := 47) (b := 12) d_J_trainer_47 ad_11 (Or.inr rfl) sh_11 (by unfold vp_in; decide) (by decide) ?_
      refine jx_iconst (pc := 48) (v := (-1)) d_J_trainer_48 (by decide) ?_
      refine jx_callV2 (pc := 49) (d' := d + 3) vo_J_comesOut lk_J_219 d_J_trainer_49 ad_0 sh_0 rfl (by omega) (Nat.le_of_ble_eq_true rfl) ?_
      refine c_J_comesOut (tr := 9) hw hRr (by omega) sh_12 hta hts (Or.inr rfl) (fun M2 hS2 hL2 => ?_)
      refine jx_r1 ?_
      refine jx_if_eq (pc := 52) 62 d_J_trainer_52 (by decide) (fun c52 => ?_) (fun c52 => ?_)
      refine jx_iload1 (pc := 62) d_J_trainer_62 ?_
      refine jx_iret (pc := 63) hX rfl d_J_trainer_63 ?_
      rotate_left
      refine jx_iload1 (pc := 55) d_J_trainer_55 ?_
      refine jx_bipush (pc := 56) (v := 64) d_J_trainer_56 (by decide) ?_
      refine jx_ior (pc := 58) d_J_trainer_58 ?_
      refine jx_goto (pc := 59) 63 d_J_trainer_59 (by decide) ?_
      refine jx_iret (pc := 63) hX rfl d_J_trainer_63 ?_
      rotate_left
      · have hout := z01.mp c52
        have := k M2 (hS.tr hS2)
        unfold r_trainer at this
        rw [if_neg hout, ← hiE] at this
        exact this
      · have hout := z01n c52
        have := k M2 (hS.tr hS2)
        unfold r_trainer at this
        rw [if_pos hout, ← hiE, ← fa_or] at this
        exact this
    | succ r ih =>
      intro i M1 hi hS
      have hRr := hS.rep hR
      have h13 : M1 1 3 = nI (g_hn s) := hRr.1.2.1
      have hta : ∀ t, t < 3 → M1 12 t = nI (g_ta s 0 t) := fun t ht => hRr.2.1 0 t (by omega) ht
      have hem : em i = nI i := em_lt (by omega)
      refine jx_iload2 (pc := 4) d_J_trainer_4 ?_
      refine jx_aload0 (pc := 5) d_J_trainer_5 ?_
      refine jx_getR (pc := 6) gf_J_12 d_J_trainer_6 ad_0 sh_0 rfl ?_
      refine jx_getI (pc := 9) gf_J_169 d_J_trainer_9 ad_1 sh_1 rfl ?_
      refine jx_icmp_ge (pc := 12) 41 d_J_trainer_12 (by decide) (fun c12 => absurd c12 (by rw [h13]; exact nI_ge (by omega) (by omega))) (fun c12 => ?_)
      refine jx_aload0 (pc := 15) d_J_trainer_15 ?_
      refine jx_aload0 (pc := 16) d_J_trainer_16 ?_
      refine jx_getR (pc := 17) gf_J_28 d_J_trainer_17 ad_0 sh_0 rfl ?_
      refine jx_iconst (pc := 20) (v := 0) d_J_trainer_20 (by decide) ?_
      refine jx_aald (pc := 21) (b := 12) d_J_trainer_21 ad_11 (Or.inr rfl) sh_11 (by unfold vp_in; decide) (by decide) ?_
      refine jx_iload2 (pc := 22) d_J_trainer_22 ?_
      refine jx_callV2 (pc := 23) (d' := d + 3) vo_J_comesOut lk_J_219 d_J_trainer_23 ad_0 sh_0 rfl (by omega) (Nat.le_of_ble_eq_true rfl) ?_
      rw [← hem]
      refine c_J_comesOut (tr := i) hw hRr (by omega) sh_12 hta hts (Or.inl (by omega)) (fun M2 hS2 hL2 => ?_)
      refine jx_r1 ?_
      refine jx_if_eq (pc := 26) 35 d_J_trainer_26 (by decide) (fun c26 => ?_) (fun c26 => ?_)
      refine jx_iinc2 (pc := 35) d_J_trainer_35 rfl (Nat.le_of_ble_eq_true rfl) ?_
      refine jx_goto (pc := 38) 4 d_J_trainer_38 (by decide) ?_
      rotate_left
      refine jx_iload1 (pc := 29) d_J_trainer_29 ?_
      refine jx_iconst (pc := 30) (v := 1) d_J_trainer_30 (by decide) ?_
      refine jx_iload2 (pc := 31) d_J_trainer_31 ?_
      refine jx_ishl (pc := 32) d_J_trainer_32 ?_
      refine jx_ior (pc := 33) d_J_trainer_33 ?_
      refine jx_istore1 (pc := 34) d_J_trainer_34 rfl (Nat.le_of_ble_eq_true rfl) ?_
      refine jx_iinc2 (pc := 35) d_J_trainer_35 rfl (Nat.le_of_ble_eq_true rfl) ?_
      refine jx_goto (pc := 38) 4 d_J_trainer_38 (by decide) ?_
      rotate_left
      · have hout := z01.mp c26
        rw [hem, nI_add1]
        have h9 := ih (i + 1) M2 (by omega) (hS.tr hS2)
        rw [show trnB s (i + 1) = trnB s i by rw [trnB, if_neg hout]] at h9
        exact h9
      · have hout := z01n c26
        rw [hem, nI_add1, or_bit (by omega)]
        have h9 := ih (i + 1) M2 (by omega) (hS.tr hS2)
        rw [show trnB s (i + 1) = trnB s i ||| 2 ^ i by rw [trnB, if_pos hout]] at h9
        exact h9
  refine jx_iconst (pc := 0) (v := 0) d_J_trainer_0 (by decide) ?_
  refine jx_istore1 (pc := 1) d_J_trainer_1 rfl (Nat.le_of_ble_eq_true rfl) ?_
  refine jx_iconst (pc := 2) (v := 0) d_J_trainer_2 (by decide) ?_
  refine jx_istore2 (pc := 3) d_J_trainer_3 rfl (Nat.le_of_ble_eq_true rfl) ?_
  rotate_left
  exact loop (g_hn s) 0 M (by omega) Scr.rf
