/-! OPERATIONS of the component, six: shares -/
def refL (x : Int32) : Int64 := -9223372036854775808 - x.toInt64
def frcN (a b : Nat) (w : Int32) : Nat := (if w = 0 then a else b) / Nat.gcd a b
def sumN (f : Nat → Nat) : Nat → Nat
  | 0 => 0
  | n + 1 => sumN f n + f n
theorem sumN_le {f : Nat → Nat} {b : Nat} (h : ∀ i, f i ≤ b) : ∀ n, sumN f n ≤ n * b
  | 0 => by unfold sumN; omega
  | n + 1 => by have := sumN_le h n; have := h n; unfold sumN; rw [Nat.succ_mul]; omega
abbrev okSha (s : Sg) (dy h w : Int32) : Prop := (0 ≤ dy ∧ dy < 30) ∧ (0 ≤ h ∧ h < nI (g_hn s)) ∧ (0 ≤ w ∧ w < 2)
def allN (s : Sg) (day : Nat) : Nat := sumN (lkA s 0 day) (g_hn s)
def r_share (s : Sg) (dy h w : Int32) : Int64 := if okSha s dy h w then (if allN s (cl dy) = 0 then refL (-3) else lN (frcN (lkA s 0 (cl dy) (cl h)) (allN s (cl dy)) w)) else refL (-2)
theorem lkA_le {s : Sg} (hw : WF s) (dog : Nat) {day : Nat} (hd : day < 30) (h : Nat) : lkA s dog day h ≤ 300000 := Nat.le_trans ((g_runW hw (hw.2.2.1 dog) 9 (show day + 1 ≤ 30 by omega)).1 h) (by omega)
theorem allN_le {s : Sg} (hw : WF s) {day : Nat} (hd : day < 30) : allN s day ≤ 1800000 := by
  have h1 := sumN_le (lkA_le hw 0 hd) (g_hn s)
  have hn6 : g_hn s ≤ 6 := hnB_le hw.1
  have := Nat.mul_le_mul_right 300000 hn6
  unfold allN
  omega
theorem lN_0 : lN 0 = 0 := rfl
theorem lcz {b : Nat} (hb : b < 2 ^ 62) : lg_cmp (lN b) 0 = 0 ↔ b = 0 := by
  rw [lg_cmp_eq]
  exact pk_lEQ (b := 0) (by omega) (by omega)
theorem lnz {b : Nat} (hb : b < 2 ^ 62) (h : b ≠ 0) : ¬ lN b = 0 := fun z => h ((pk_lEQ (b := 0) (by omega) (by omega)).mp z)
theorem c_J_refusal {d : Nat} {x : Int32} {M : j_M} {Q : Option Value → j_M → Prop} (k : Q (some (.long (refL x))) M) : j_Ct d I_J_refusal [.int x] M Q := by
  refine j_met (by decide +kernel) co_J_refusal (Nat.le_of_ble_eq_true rfl) (fun X hX => ?_)
  show j_W d I_J_refusal X 0 [some (.int x)] [] M
  refine jx_ldc2 (pc := 0) d_J_refusal_0 lc_J_369 ?_
  refine jx_iload0 (pc := 3) d_J_refusal_3 ?_
  refine jx_i2l (pc := 4) d_J_refusal_4 ?_
  refine jx_lsub (pc := 5) d_J_refusal_5 ?_
  refine jx_lret (pc := 6) hX rfl d_J_refusal_6 ?_
  rotate_left
  exact k
theorem rem_half {a b : Nat} (hb : 0 < b) (hr : 0 < a % b) : 2 * (b % (a % b)) < b := by
  have h1 : a % b < b := Nat.mod_lt _ hb
  have h2 : b % (a % b) < a % b := Nat.mod_lt _ hr
  have h3 := Nat.div_add_mod b (a % b)
  have h4 : 1 ≤ b / (a % b) := Nat.div_pos (by omega) hr
  have h5 : (a % b) * 1 ≤ (a % b) * (b / (a % b)) := Nat.mul_le_mul_left _ h4
  omega
theorem c_J_greatestDivisor {d a b : Nat} {M : j_M} {Q : Option Value → j_M → Prop} (ha : a < 2 ^ 62) (hb : b < 2 ^ 62) (k : Q (some (.long (lN (Nat.gcd a b)))) M) : j_Ct d I_J_greatestDivisor [.long (lN a), .long (lN b)] M Q := by
  refine j_met (by decide +kernel) co_J_greatestDivisor (Nat.le_of_ble_eq_true rfl) (fun X hX => ?_)
  show j_W d I_J_greatestDivisor X 0 [some (.long (lN a)), none, some (.long (lN b)), none, none, none, none, none, none, none, none] [] M
  have loop : ∀ (n r i x y : Nat), i + r = 200 → y < 2 ^ n → 2 * n ≤ r → x < 2 ^ 62 → y < 2 ^ 62 → Nat.gcd x y = Nat.gcd a b → ∀ (e1 e2 : Option Value), j_W d I_J_greatestDivisor X 9 [some (.long (lN a)), none, some (.long (lN b)), none, some (.long (lN x)), none, some (.long (lN y)), none, some (.int (nI i)), e1, e2] [] M := by
    have fin : ∀ (i x : Nat), Nat.gcd x 0 = Nat.gcd a b → ∀ (e1 e2 : Option Value), j_W d I_J_greatestDivisor X 9 [some (.long (lN a)), none, some (.long (lN b)), none, some (.long (lN x)), none, some (.long (lN 0)), none, some (.int (nI i)), e1, e2] [] M := by
      intro i x hg e1 e2
      rw [Nat.gcd_zero_right] at hg
      rw [← hg] at k
      refine jx_iload8 (pc := 9) d_J_greatestDivisor_9 ?_
      refine jx_sipush (pc := 11) (v := 200) d_J_greatestDivisor_11 (by decide) ?_
      refine jx_icmp_ge (pc := 14) 45 d_J_greatestDivisor_14 (by decide) (fun c14 => ?_) (fun c14 => ?_)
      refine jx_lload4 (pc := 45) d_J_greatestDivisor_45 ?_
      refine jx_lret (pc := 47) hX rfl d_J_greatestDivisor_47 ?_
      rotate_left
      refine jx_lload6 (pc := 17) d_J_greatestDivisor_17 ?_
      refine jx_lconst (pc := 19) (v := 0) d_J_greatestDivisor_19 (by decide) ?_
      refine jx_lcmp (pc := 20) d_J_greatestDivisor_20 ?_
      refine jx_if_eq (pc := 21) 45 d_J_greatestDivisor_21 (by decide) (fun c21 => ?_) (fun c21 => absurd c21 (fun z => z ((lcz (by omega)).mpr rfl)))
      refine jx_lload4 (pc := 45) d_J_greatestDivisor_45 ?_
      refine jx_lret (pc := 47) hX rfl d_J_greatestDivisor_47 ?_
      rotate_left
      · exact k
      · exact k
    intro n
    induction n with
    | zero =>
      intro r i x y hi hy hr hx hy2 hg e1 e2
      have hy0 : y = 0 := by omega
      subst hy0
      exact fin i x hg e1 e2
    | succ n ih =>
      intro r i x y hi hy hr hx hy2 hg e1 e2
      by_cases hy0 : y = 0
      · subst hy0
        exact fin i x hg e1 e2
      · have em1 : lN x - lN x / lN y * lN y = lN (x % y) := pk_lRem (by omega) (by omega) (by omega)
        have hxy : x % y < y := Nat.mod_lt _ (by omega)
        refine jx_iload8 (pc := 9) d_J_greatestDivisor_9 ?_
        refine jx_sipush (pc := 11) (v := 200) d_J_greatestDivisor_11 (by decide) ?_
        refine jx_icmp_ge (pc := 14) 45 d_J_greatestDivisor_14 (by decide) (fun c14 => absurd c14 (show ¬ nI 200 ≤ nI i from nI_ge (by omega) (by omega))) (fun c14 => ?_)
        refine jx_lload6 (pc := 17) d_J_greatestDivisor_17 ?_
        refine jx_lconst (pc := 19) (v := 0) d_J_greatestDivisor_19 (by decide) ?_
        refine jx_lcmp (pc := 20) d_J_greatestDivisor_20 ?_
        refine jx_if_eq (pc := 21) 45 d_J_greatestDivisor_21 (by decide) (fun c21 => absurd c21 (fun z => hy0 ((lcz hy2).mp z))) (fun c21 => ?_)
        refine jx_lload4 (pc := 24) d_J_greatestDivisor_24 ?_
        refine jx_lload6 (pc := 26) d_J_greatestDivisor_26 ?_
        refine jx_lrem (pc := 28) d_J_greatestDivisor_28 (lnz hy2 hy0) ?_
        refine jx_lstore9 (pc := 29) d_J_greatestDivisor_29 rfl (Nat.le_of_ble_eq_true rfl) ?_
        refine jx_lload6 (pc := 31) d_J_greatestDivisor_31 ?_
        refine jx_lstore4 (pc := 33) d_J_greatestDivisor_33 rfl (Nat.le_of_ble_eq_true rfl) ?_
        refine jx_lload9 (pc := 35) d_J_greatestDivisor_35 ?_
        refine jx_lstore6 (pc := 37) d_J_greatestDivisor_37 rfl (Nat.le_of_ble_eq_true rfl) ?_
        refine jx_iinc8 (pc := 39) d_J_greatestDivisor_39 rfl (Nat.le_of_ble_eq_true rfl) ?_
        refine jx_goto (pc := 42) 9 d_J_greatestDivisor_42 (by decide) ?_
        rotate_left
        rw [nI_add1, em1]
        by_cases hr0 : x % y = 0
        · rw [hr0]
          exact fin (i + 1) y (by rw [← hg, Nat.gcd_comm x y, Nat.gcd_rec y x, hr0, Nat.gcd_zero_left, Nat.gcd_zero_right]) _ _
        · have em2 : lN y - lN y / lN (x % y) * lN (x % y) = lN (y % (x % y)) := pk_lRem (by omega) (by omega) (by omega)
          have hh := rem_half (a := x) (b := y) (by omega) (by omega)
          have hyy : y % (x % y) < x % y := Nat.mod_lt _ (by omega)
          refine jx_iload8 (pc := 9) d_J_greatestDivisor_9 ?_
          refine jx_sipush (pc := 11) (v := 200) d_J_greatestDivisor_11 (by decide) ?_
          refine jx_icmp_ge (pc := 14) 45 d_J_greatestDivisor_14 (by decide) (fun c14 => absurd c14 (show ¬ nI 200 ≤ nI (i + 1) from nI_ge (by omega) (by omega))) (fun c14 => ?_)
          refine jx_lload6 (pc := 17) d_J_greatestDivisor_17 ?_
          refine jx_lconst (pc := 19) (v := 0) d_J_greatestDivisor_19 (by decide) ?_
          refine jx_lcmp (pc := 20) d_J_greatestDivisor_20 ?_
          refine jx_if_eq (pc := 21) 45 d_J_greatestDivisor_21 (by decide) (fun c21 => absurd c21 (fun z => hr0 ((lcz (by omega)).mp z))) (fun c21 => ?_)
          refine jx_lload4 (pc := 24) d_J_greatestDivisor_24 ?_
          refine jx_lload6 (pc := 26) d_J_greatestDivisor_26 ?_
          refine jx_lrem (pc := 28) d_J_greatestDivisor_28 (lnz (by omega) hr0) ?_
          refine jx_lstore9 (pc := 29) d_J_greatestDivisor_29 rfl (Nat.le_of_ble_eq_true rfl) ?_
          refine jx_lload6 (pc := 31) d_J_greatestDivisor_31 ?_
          refine jx_lstore4 (pc := 33) d_J_greatestDivisor_33 rfl (Nat.le_of_ble_eq_true rfl) ?_
          refine jx_lload9 (pc := 35) d_J_greatestDivisor_35 ?_
          refine jx_lstore6 (pc := 37) d_J_greatestDivisor_37 rfl (Nat.le_of_ble_eq_true rfl) ?_
          refine jx_iinc8 (pc := 39) d_J_greatestDivisor_39 rfl (Nat.le_of_ble_eq_true rfl) ?_
          refine jx_goto (pc := 42) 9 d_J_greatestDivisor_42 (by decide) ?_
          rotate_left
          rw [nI_add1, em2]
          refine ih (r - 2) (i + 1 + 1) (x % y) (y % (x % y)) (by omega) (by rw [Nat.pow_succ] at hy; omega) (by omega) (by omega) (by omega) ?_ _ _
          rw [← hg, Nat.gcd_comm x y, Nat.gcd_rec y x, Nat.gcd_rec (x % y) y, Nat.gcd_comm]
  refine jx_lload0 (pc := 0) d_J_greatestDivisor_0 ?_
  refine jx_lstore4 (pc := 1) d_J_greatestDivisor_1 rfl (Nat.le_of_ble_eq_true rfl) ?_
  refine jx_lload2 (pc := 3) d_J_greatestDivisor_3 ?_
  refine jx_lstore6 (pc := 4) d_J_greatestDivisor_4 rfl (Nat.le_of_ble_eq_true rfl) ?_
  refine jx_iconst (pc := 6) (v := 0) d_J_greatestDivisor_6 (by decide) ?_
  refine jx_istore8 (pc := 7) d_J_greatestDivisor_7 rfl (Nat.le_of_ble_eq_true rfl) ?_
  rotate_left
  exact loop 62 200 0 a b (by omega) hb (by omega) ha hb rfl _ _
theorem c_J_fraction {d a b : Nat} {w : Int32} {M : j_M} {Q : Option Value → j_M → Prop} (ha : a < 2 ^ 62) (hb : b < 2 ^ 62) (hb0 : 0 < b) (k : Q (some (.long (lN (frcN a b w)))) M) : j_Ct (d + 1) I_J_fraction [.long (lN a), .long (lN b), .int w] M Q := by
  refine j_met (by decide +kernel) co_J_fraction (Nat.le_of_ble_eq_true rfl) (fun X hX => ?_)
  show j_W (d + 1) I_J_fraction X 0 [some (.long (lN a)), none, some (.long (lN b)), none, some (.int w), none, none] [] M
  have hg0 : 0 < Nat.gcd a b := Nat.gcd_pos_of_pos_right _ hb0
  have hgb : Nat.gcd a b ≤ b := Nat.gcd_le_right _ hb0
  have hz : ¬ lg_cmp (lN (Nat.gcd a b)) 0 = 0 := fun z => by have := (lcz (by omega)).mp z; omega
  by_cases hw : w = 0
  · have hf : frcN a b w = a / Nat.gcd a b := by unfold frcN; rw [if_pos hw]
    rw [hf] at k
    refine jx_lload0 (pc := 0) d_J_fraction_0 ?_
    refine jx_lload2 (pc := 1) d_J_fraction_1 ?_
    refine jx_callS2 (pc := 2) (d' := d) so_J_greatestDivisor lk_J_371 d_J_fraction_2 (by omega) (Nat.le_of_ble_eq_true rfl) ?_
    refine c_J_greatestDivisor ha hb ?_
    refine jx_r1 ?_
    refine jx_lstore5 (pc := 5) d_J_fraction_5 rfl (Nat.le_of_ble_eq_true rfl) ?_
    refine jx_lload5 (pc := 7) d_J_fraction_7 ?_
    refine jx_lconst (pc := 9) (v := 0) d_J_fraction_9 (by decide) ?_
    refine jx_lcmp (pc := 10) d_J_fraction_10 ?_
    refine jx_if_ne (pc := 11) 16 d_J_fraction_11 (by decide) (fun c11 => ?_) (fun c11 => absurd c11 hz)
    refine jx_iload4 (pc := 16) d_J_fraction_16 ?_
    refine jx_if_ne (pc := 18) 25 d_J_fraction_18 (by decide) (fun c18 => absurd c18 (fun z => z hw)) (fun c18 => ?_)
    refine jx_lload0 (pc := 21) d_J_fraction_21 ?_
    refine jx_goto (pc := 22) 26 d_J_fraction_22 (by decide) ?_
    refine jx_lload5 (pc := 26) d_J_fraction_26 ?_
    refine jx_ldiv (pc := 28) d_J_fraction_28 (lnz (by omega) (by omega)) ?_
    refine jx_lret (pc := 29) hX rfl d_J_fraction_29 ?_
    rotate_left
    rw [pk_lDiv (by omega) hg0 (by omega)]
    exact k
  · have hf : frcN a b w = b / Nat.gcd a b := by unfold frcN; rw [if_neg hw]
    rw [hf] at k
    refine jx_lload0 (pc := 0) d_J_fraction_0 ?_
    refine jx_lload2 (pc := 1) d_J_fraction_1 ?_
    refine jx_callS2 (pc := 2) (d' := d) so_J_greatestDivisor lk_J_371 d_J_fraction_2 (by omega) (Nat.le_of_ble_eq_true rfl) ?_
    refine c_J_greatestDivisor ha hb ?_
    refine jx_r1 ?_
    refine jx_lstore5 (pc := 5) d_J_fraction_5 rfl (Nat.le_of_ble_eq_true rfl) ?_
    refine jx_lload5 (pc := 7) d_J_fraction_7 ?_
    refine jx_lconst (pc := 9) (v := 0) d_J_fraction_9 (by decide) ?_
    refine jx_lcmp (pc := 10) d_J_fraction_10 ?_
    refine jx_if_ne (pc := 11) 16 d_J_fraction_11 (by decide) (fun c11 => ?_) (fun c11 => absurd c11 hz)
    refine jx_iload4 (pc := 16) d_J_fraction_16 ?_
    refine jx_if_ne (pc := 18) 25 d_J_fraction_18 (by decide) (fun c18 => ?_) (fun c18 => absurd c18 hw)
    refine jx_lload2 (pc := 25) d_J_fraction_25 ?_
    refine jx_lload5 (pc := 26) d_J_fraction_26 ?_
    refine jx_ldiv (pc := 28) d_J_fraction_28 (lnz (by omega) (by omega)) ?_
    refine jx_lret (pc := 29) hX rfl d_J_fraction_29 ?_
    rotate_left
    rw [pk_lDiv (by omega) hg0 (by omega)]
    exact k
theorem c_J_share {d : Nat} {dy h w : Int32} {s : Sg} {M : j_M} {Q : Option Value → j_M → Prop} (hw : WF s) (hR : RepC s M) (k : ∀ M', Scr M M' → Q (some (.long (r_share s dy h w))) M') : j_Ct (d + 4) I_J_share [.ref 0, .int dy, .int h, .int w] M Q := by
  refine j_met (by decide +kernel) co_J_share (Nat.le_of_ble_eq_true rfl) (fun X hX => ?_)
  show j_W (d + 4) I_J_share X 0 [some (.ref 0), some (.int dy), some (.int h), some (.int w), none, none, none, none] [] M
  obtain ⟨h1, h2, h3, h4, h5⟩ := id hR.1
  have hn6 : g_hn s ≤ 6 := hnB_le hw.1
  by_cases hb : okSha s dy h w
  · obtain ⟨g1, g2, g3⟩ := id hb
    have hp3 : 0 ≤ h ∧ h < M 1 3 := by rw [h2]; exact g2
    obtain ⟨a, ha, rfl, ea⟩ := okd dy 30 (by omega) g1
    obtain ⟨c, hc, rfl, ec⟩ := okd h _ (by omega) g2
    have hA := allN_le hw ha
    have hlk := lkA_le hw 0 ha c
    have fin : ∀ (M2 : j_M), Scr M M2 → MoodAt M2 35 (g_ta s 0) 9 (g_run s (g_ta s 0) 9 (a + 1)) → ∀ (r i : Nat), i + r = g_hn s → j_W (d + 4) I_J_share X 45 [some (.ref 0), some (.int (nI a)), some (.int (nI c)), some (.int w), some (.ref 35), some (.long (lN (sumN (lkA s 0 a) i))), none, some (.int (nI i))] [] M2 := by
      intro M2 hS hM2 r
      have h13 : M2 1 3 = nI (g_hn s) := (hS.rep hR).1.2.1
      have hml : ∀ i, i < 6 → M2 (35 + 1) i = nI (lkA s 0 a i) := hM2.1
      induction r with
      | zero =>
        intro i hi
        have hi' : i = g_hn s := by omega
        subst hi'
        have e1 : (nI c).toNatClampNeg = c := ec
        by_cases h0 : allN s a = 0
        · have hr : r_share s (nI a) (nI c) w = refL (-3) := by unfold r_share; rw [if_pos hb, ea, if_pos h0]
          rw [hr] at k
          refine jx_iload7 (pc := 45) d_J_share_45 ?_
          refine jx_aload0 (pc := 47) d_J_share_47 ?_
          refine jx_getR (pc := 48) gf_J_12 d_J_share_48 ad_0 sh_0 rfl ?_
          refine jx_getI (pc := 51) gf_J_169 d_J_share_51 ad_1 sh_1 rfl ?_
          refine jx_icmp_ge (pc := 54) 77 d_J_share_54 (by decide) (fun c54 => ?_) (fun c54 => absurd c54 (fun q => q (by rw [h13]; exact Int32.le_refl _)))
          refine jx_lload5 (pc := 77) d_J_share_77 ?_
          refine jx_lconst (pc := 79) (v := 0) d_J_share_79 (by decide) ?_
          refine jx_lcmp (pc := 80) d_J_share_80 ?_
          refine jx_if_ne (pc := 81) 90 d_J_share_81 (by decide) (fun c81 => absurd c81 (fun z => z ((lcz (by show allN s a < _; omega)).mpr h0))) (fun c81 => ?_)
          refine jx_bipush (pc := 84) (v := (-3)) d_J_share_84 (by decide) ?_
          refine jx_callS1 (pc := 86) (d' := 0) so_J_refusal lk_J_165 d_J_share_86 (by omega) (Nat.le_of_ble_eq_true rfl) ?_
          refine c_J_refusal ?_
          refine jx_r1 ?_
          refine jx_lret (pc := 89) hX rfl d_J_share_89 ?_
          rotate_left
          exact k M2 hS
        · have hr : r_share s (nI a) (nI c) w = lN (frcN (lkA s 0 a c) (allN s a) w) := by unfold r_share; rw [if_pos hb, ea, ec, if_neg h0]
          rw [hr] at k
          refine jx_iload7 (pc := 45) d_J_share_45 ?_
          refine jx_aload0 (pc := 47) d_J_share_47 ?_
          refine jx_getR (pc := 48) gf_J_12 d_J_share_48 ad_0 sh_0 rfl ?_
          refine jx_getI (pc := 51) gf_J_169 d_J_share_51 ad_1 sh_1 rfl ?_
          refine jx_icmp_ge (pc := 54) 77 d_J_share_54 (by decide) (fun c54 => ?_) (fun c54 => absurd c54 (fun q => q (by rw [h13]; exact Int32.le_refl _)))
          refine jx_lload5 (pc := 77) d_J_share_77 ?_
          refine jx_lconst (pc := 79) (v := 0) d_J_share_79 (by decide) ?_
          refine jx_lcmp (pc := 80) d_J_share_80 ?_
          refine jx_if_ne (pc := 81) 90 d_J_share_81 (by decide) (fun c81 => ?_) (fun c81 => absurd c81 (fun z => h0 ((lcz (by show allN s a < _; omega)).mp z)))
          refine jx_aload4 (pc := 90) d_J_share_90 ?_
          refine jx_getR (pc := 92) gf_J_154 d_J_share_92 (mo_a mo_35) (mo_s mo_35) rfl ?_
          refine jx_iload2 (pc := 95) d_J_share_95 ?_
          refine jx_iald (pc := 96) d_J_share_96 (mo_a1 mo_35) (mo_s1 mo_35) (vp_in_nI (show c < 6 by omega) (by omega)) ?_
          refine jx_i2l (pc := 97) d_J_share_97 ?_
          refine jx_lload5 (pc := 98) d_J_share_98 ?_
          refine jx_iload3 (pc := 100) d_J_share_100 ?_
          refine jx_callS3 (pc := 101) (d' := 1) so_J_fraction lk_J_172 d_J_share_101 (by omega) (Nat.le_of_ble_eq_true rfl) ?_
          rw [e1, hml c (by omega), nI_l (show lkA s 0 a c < 2 ^ 31 by omega)]
          refine c_J_fraction (show lkA s 0 a c < 2 ^ 62 by omega) (show allN s a < 2 ^ 62 by omega) (show 0 < allN s a by omega) ?_
          refine jx_r1 ?_
          refine jx_lret (pc := 104) hX rfl d_J_share_104 ?_
          rotate_left
          exact k M2 hS
      | succ r ih =>
        intro i hi
        have h0 := ih (i + 1) (by omega)
        have e1 : (nI i).toNatClampNeg = i := nI_cl (by omega)
        have hli := lkA_le hw 0 ha i
        refine jx_iload7 (pc := 45) d_J_share_45 ?_
        refine jx_aload0 (pc := 47) d_J_share_47 ?_
        refine jx_getR (pc := 48) gf_J_12 d_J_share_48 ad_0 sh_0 rfl ?_
        refine jx_getI (pc := 51) gf_J_169 d_J_share_51 ad_1 sh_1 rfl ?_
        refine jx_icmp_ge (pc := 54) 77 d_J_share_54 (by decide) (fun c54 => absurd c54 (by rw [h13]; exact nI_ge (by omega) (by omega))) (fun c54 => ?_)
        refine jx_lload5 (pc := 57) d_J_share_57 ?_
        refine jx_aload4 (pc := 59) d_J_share_59 ?_
        refine jx_getR (pc := 61) gf_J_154 d_J_share_61 (mo_a mo_35) (mo_s mo_35) rfl ?_
        refine jx_iload7 (pc := 64) d_J_share_64 ?_
        refine jx_iald (pc := 66) d_J_share_66 (mo_a1 mo_35) (mo_s1 mo_35) (vp_in_nI (show i < 6 by omega) (by omega)) ?_
        refine jx_i2l (pc := 67) d_J_share_67 ?_
        refine jx_ladd (pc := 68) d_J_share_68 ?_
        refine jx_lstore5 (pc := 69) d_J_share_69 rfl (Nat.le_of_ble_eq_true rfl) ?_
        refine jx_iinc7 (pc := 71) d_J_share_71 rfl (Nat.le_of_ble_eq_true rfl) ?_
        refine jx_goto (pc := 74) 45 d_J_share_74 (by decide) ?_
        rotate_left
        rw [nI_add1, e1, hml i (by omega), nI_l (show lkA s 0 a i < 2 ^ 31 by omega), lN_add]
        exact h0
    refine jx_iload1 (pc := 0) d_J_share_0 ?_
    refine jx_callS1 (pc := 1) (d' := 0) so_J_isDay lk_J_117 d_J_share_1 (by omega) (Nat.le_of_ble_eq_true rfl) ?_
    refine c_J_isDay ?_
    refine jx_r1 ?_
    refine jx_if_eq (pc := 4) 25 d_J_share_4 (by decide) (fun c4 => absurd c4 (z01p g1)) (fun c4 => ?_)
    refine jx_aload0 (pc := 7) d_J_share_7 ?_
    refine jx_getR (pc := 8) gf_J_12 d_J_share_8 ad_0 sh_0 rfl ?_
    refine jx_iload2 (pc := 11) d_J_share_11 ?_
    refine jx_callV1 (pc := 12) (d' := 0) vo_He_has lk_J_101 d_J_share_12 ad_1 sh_1 rfl (by omega) (Nat.le_of_ble_eq_true rfl) ?_
    refine c_He_has ?_
    refine jx_r1 ?_
    refine jx_if_eq (pc := 15) 25 d_J_share_15 (by decide) (fun c15 => absurd c15 (z01p hp3)) (fun c15 => ?_)
    refine jx_iload3 (pc := 18) d_J_share_18 ?_
    refine jx_callS1 (pc := 19) (d' := 0) so_J_isOneOfTwo lk_J_162 d_J_share_19 (by omega) (Nat.le_of_ble_eq_true rfl) ?_
    refine c_J_isOneOfTwo ?_
    refine jx_r1 ?_
    refine jx_if_ne (pc := 22) 31 d_J_share_22 (by decide) (fun c22 => ?_) (fun c22 => absurd c22 (z01p g3))
    refine jx_aload0 (pc := 31) d_J_share_31 ?_
    refine jx_iconst (pc := 32) (v := 0) d_J_share_32 (by decide) ?_
    refine jx_iload1 (pc := 33) d_J_share_33 ?_
    refine jx_callV2 (pc := 34) (d' := d + 3) vo_J_moodBehind lk_J_150 d_J_share_34 ad_0 sh_0 rfl (by omega) (Nat.le_of_ble_eq_true rfl) ?_
    refine c_J_moodBehind (dog := 0) hw hR (by omega) ha (fun M2 hS2 hM2 => ?_)
    refine jx_r1 ?_
    refine jx_astore4 (pc := 37) d_J_share_37 rfl (Nat.le_of_ble_eq_true rfl) ?_
    refine jx_lconst (pc := 39) (v := 0) d_J_share_39 (by decide) ?_
    refine jx_lstore5 (pc := 40) d_J_share_40 rfl (Nat.le_of_ble_eq_true rfl) ?_
    refine jx_iconst (pc := 42) (v := 0) d_J_share_42 (by decide) ?_
    refine jx_istore7 (pc := 43) d_J_share_43 rfl (Nat.le_of_ble_eq_true rfl) ?_
    rotate_left
    exact fin M2 hS2 hM2 (g_hn s) 0 (by omega)
  · have hr : r_share s dy h w = refL (-2) := by unfold r_share; rw [if_neg hb]
    rw [hr] at k
    refine jx_iload1 (pc := 0) d_J_share_0 ?_
    refine jx_callS1 (pc := 1) (d' := 0) so_J_isDay lk_J_117 d_J_share_1 (by omega) (Nat.le_of_ble_eq_true rfl) ?_
    refine c_J_isDay ?_
    refine jx_r1 ?_
    refine jx_if_eq (pc := 4) 25 d_J_share_4 (by decide) (fun c4 => ?_) (fun c4 => ?_)
    refine jx_bipush (pc := 25) (v := (-2)) d_J_share_25 (by decide) ?_
    refine jx_callS1 (pc := 27) (d' := 0) so_J_refusal lk_J_165 d_J_share_27 (by omega) (Nat.le_of_ble_eq_true rfl) ?_
    refine c_J_refusal ?_
    refine jx_r1 ?_
    refine jx_lret (pc := 30) hX rfl d_J_share_30 ?_
    rotate_left
    refine jx_aload0 (pc := 7) d_J_share_7 ?_
    refine jx_getR (pc := 8) gf_J_12 d_J_share_8 ad_0 sh_0 rfl ?_
    refine jx_iload2 (pc := 11) d_J_share_11 ?_
    refine jx_callV1 (pc := 12) (d' := 0) vo_He_has lk_J_101 d_J_share_12 ad_1 sh_1 rfl (by omega) (Nat.le_of_ble_eq_true rfl) ?_
    refine c_He_has ?_
    refine jx_r1 ?_
    refine jx_if_eq (pc := 15) 25 d_J_share_15 (by decide) (fun c15 => ?_) (fun c15 => ?_)
    refine jx_bipush (pc := 25) (v := (-2)) d_J_share_25 (by decide) ?_
    refine jx_callS1 (pc := 27) (d' := 0) so_J_refusal lk_J_165 d_J_share_27 (by omega) (Nat.le_of_ble_eq_true rfl) ?_
    refine c_J_refusal ?_
    refine jx_r1 ?_
    refine jx_lret (pc := 30) hX rfl d_J_share_30 ?_
    rotate_left
    refine jx_iload3 (pc := 18) d_J_share_18 ?_
    refine jx_callS1 (pc := 19) (d' := 0) so_J_isOneOfTwo lk_J_162 d_J_share_19 (by omega) (Nat.le_of_ble_eq_true rfl) ?_
    refine c_J_isOneOfTwo ?_
    refine jx_r1 ?_
    refine jx_if_ne (pc := 22) 31 d_J_share_22 (by decide) (fun c22 => ?_) (fun c22 => ?_)
    rotate_left
    refine jx_bipush (pc := 25) (v := (-2)) d_J_share_25 (by decide) ?_
    refine jx_callS1 (pc := 27) (d' := 0) so_J_refusal lk_J_165 d_J_share_27 (by omega) (Nat.le_of_ble_eq_true rfl) ?_
    refine c_J_refusal ?_
    refine jx_r1 ?_
    refine jx_lret (pc := 30) hX rfl d_J_share_30 ?_
    rotate_left
    · exact k M Scr.rf
    · exact k M Scr.rf
    · have g3 := z01n c15
      rw [h2] at g3
      exact absurd ⟨z01n c4, g3, z01n c22⟩ hb
    · exact k M Scr.rf
