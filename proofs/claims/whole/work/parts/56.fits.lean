/-! OPERATIONS of the reference, four: what was seen -/
def RepS (s : Sg) (M : j_M) : Prop := M 79 28 = nI (g_ns s) ∧ ∀ k, k < g_ns s → M 95 k = nI (g_sd s k) ∧ M 96 k = em (g_sh s k)
theorem RepR.s {s : Sg} {M : j_M} (h : RepR s M) : RepS s M := h.2.2.2.2.1
def outP (s : Sg) (f : Nat → Nat) (n : Nat) : Bool := (List.range n).all (fun k => f (g_sd s k) == g_sh s k)
theorem outP_1 (s : Sg) (f : Nat → Nat) (n : Nat) : outP s f (n + 1) = (outP s f n && (f (g_sd s n) == g_sh s n)) := by
  unfold outP
  rw [List.range_succ, List.all_append]
  simp
theorem outP_out (s : Sg) (ts : Nat → Nat) (tr : Nat) : outP s (fdA s ts tr) (g_ns s) = outB s ts tr := rfl
def lsN (s : Sg) : Nat → Nat
  | 0 => 0
  | n + 1 => if g_sd s n ≤ lsN s n then lsN s n else g_sd s n
theorem lsN_ge (s : Sg) : ∀ n k, k < n → g_sd s k ≤ lsN s n
  | 0, k, h => absurd h (Nat.not_lt_zero _)
  | n + 1, k, h => by
    unfold lsN
    by_cases hk : k = n
    · subst hk; split <;> omega
    · have := lsN_ge s n k (by omega); split <;> omega
theorem lsN_lt {s : Sg} (hw : WF s) : ∀ n, lsN s n < 30
  | 0 => by unfold lsN; omega
  | n + 1 => by
    have h1 := lsN_lt hw n
    have h2 := (hw.2.2.2.2.2.2.2.2.1 n).1
    unfold lsN
    split <;> omega
theorem c_R_isSeen {d : Nat} {f : Nat → Nat} {s : Sg} {M : j_M} {Q : Option Value → j_M → Prop} (hw : WF s) (hR : RepS s M) (hf : ∀ k, k < g_ns s → f (g_sd s k) < 10 ∧ M 91 (g_sd s k) = em (f (g_sd s k))) (k : Q (some (.int (if outP s f (g_ns s) then 1 else 0))) M) : j_Ct d I_R_isSeen [.ref 79] M Q := by
  refine j_met (by decide +kernel) co_R_isSeen (Nat.le_of_ble_eq_true rfl) (fun X hX => ?_)
  show j_W d I_R_isSeen X 0 [some (.ref 79), none, none] [] M
  have hn8 := hw.2.2.2.2.2.2.2.1
  have loop : ∀ (r i : Nat), i + r = g_ns s → j_W d I_R_isSeen X 4 [some (.ref 79), some (.int (if outP s f i then 1 else 0)), some (.int (nI i))] [] M := by
    intro r
    induction r with
    | zero =>
      intro i hi
      have hi' : i = g_ns s := by omega
      subst hi'
      refine jx_iload2 (pc := 4) d_R_isSeen_4 ?_
      refine jx_aload0 (pc := 5) d_R_isSeen_5 ?_
      refine jx_getI (pc := 6) gf_R_240 d_R_isSeen_6 ad_79 sh_79 rfl ?_
      refine jx_icmp_ge (pc := 9) 48 d_R_isSeen_9 (by decide) (fun c9 => ?_) (fun c9 => absurd c9 (fun q => q (by rw [hR.1]; exact Int32.le_refl _)))
      refine jx_iload1 (pc := 48) d_R_isSeen_48 ?_
      refine jx_zret (pc := 49) hX rfl (by split; exact Or.inr rfl; exact Or.inl rfl) d_R_isSeen_49 ?_
      rotate_left
      exact k
    | succ r ih =>
      intro i hi
      have e1 : (nI i).toNatClampNeg = i := nI_cl (by omega)
      have hv : vp_in (nI i) 8 := vp_in_nI (by omega) (by omega)
      obtain ⟨hsd, hsh⟩ := hw.2.2.2.2.2.2.2.2.1 i
      obtain ⟨m1, m2⟩ := hR.2 i (by omega)
      obtain ⟨f1, f2⟩ := hf i (by omega)
      have hvi : vp_in (M 95 (nI i).toNatClampNeg) 30 := by rw [e1, m1]; exact vp_in_nI (by omega) (by omega)
      have hes : (M 95 i).toNatClampNeg = g_sd s i := by rw [m1]; exact nI_cl (by omega)
      have hlt : g_sh s i < 1000 := by omega
      refine jx_iload2 (pc := 4) d_R_isSeen_4 ?_
      refine jx_aload0 (pc := 5) d_R_isSeen_5 ?_
      refine jx_getI (pc := 6) gf_R_240 d_R_isSeen_6 ad_79 sh_79 rfl ?_
      refine jx_icmp_ge (pc := 9) 48 d_R_isSeen_9 (by decide) (fun c9 => absurd c9 (by rw [hR.1]; exact nI_ge (by omega) (by omega))) (fun c9 => ?_)
      refine jx_iload1 (pc := 12) d_R_isSeen_12 ?_
      refine jx_if_eq (pc := 13) 40 d_R_isSeen_13 (by decide) (fun c13 => ?_) (fun c13 => ?_)
      refine jx_iconst (pc := 40) (v := 0) d_R_isSeen_40 (by decide) ?_
      refine jx_istore1 (pc := 41) d_R_isSeen_41 rfl (Nat.le_of_ble_eq_true rfl) ?_
      refine jx_iinc2 (pc := 42) d_R_isSeen_42 rfl (Nat.le_of_ble_eq_true rfl) ?_
      refine jx_goto (pc := 45) 4 d_R_isSeen_45 (by decide) ?_
      rotate_left
      refine jx_aload0 (pc := 16) d_R_isSeen_16 ?_
      refine jx_getR (pc := 17) gf_R_43 d_R_isSeen_17 ad_79 sh_79 rfl ?_
      refine jx_aload0 (pc := 20) d_R_isSeen_20 ?_
      refine jx_getR (pc := 21) gf_R_56 d_R_isSeen_21 ad_79 sh_79 rfl ?_
      refine jx_iload2 (pc := 24) d_R_isSeen_24 ?_
      refine jx_iald (pc := 25) d_R_isSeen_25 ad_95 sh_95 (by first | assumption | exact vp_in_nI (by omega) (by omega)) ?_
      refine jx_iald (pc := 26) d_R_isSeen_26 ad_91 sh_91 hvi ?_
      refine jx_aload0 (pc := 27) d_R_isSeen_27 ?_
      refine jx_getR (pc := 28) gf_R_59 d_R_isSeen_28 ad_79 sh_79 rfl ?_
      refine jx_iload2 (pc := 31) d_R_isSeen_31 ?_
      refine jx_iald (pc := 32) d_R_isSeen_32 ad_96 sh_96 (by first | assumption | exact vp_in_nI (by omega) (by omega)) ?_
      refine jx_icmp_ne (pc := 33) 40 d_R_isSeen_33 (by decide) (fun c33 => ?_) (fun c33 => ?_)
      refine jx_iconst (pc := 40) (v := 0) d_R_isSeen_40 (by decide) ?_
      refine jx_istore1 (pc := 41) d_R_isSeen_41 rfl (Nat.le_of_ble_eq_true rfl) ?_
      refine jx_iinc2 (pc := 42) d_R_isSeen_42 rfl (Nat.le_of_ble_eq_true rfl) ?_
      refine jx_goto (pc := 45) 4 d_R_isSeen_45 (by decide) ?_
      rotate_left
      refine jx_iconst (pc := 36) (v := 1) d_R_isSeen_36 (by decide) ?_
      refine jx_goto (pc := 37) 41 d_R_isSeen_37 (by decide) ?_
      refine jx_istore1 (pc := 41) d_R_isSeen_41 rfl (Nat.le_of_ble_eq_true rfl) ?_
      refine jx_iinc2 (pc := 42) d_R_isSeen_42 rfl (Nat.le_of_ble_eq_true rfl) ?_
      refine jx_goto (pc := 45) 4 d_R_isSeen_45 (by decide) ?_
      rotate_left
      · have hno := z01.mp c13
        rw [nI_add1]
        have h9 := ih (i + 1) (by omega)
        rw [outP_1, if_neg (by simpa using fun h => absurd h hno)] at h9
        exact h9
      · rw [e1, hes, f2, m2] at c33
        have hne : ¬ f (g_sd s i) = g_sh s i := fun q => c33 (by rw [q])
        rw [nI_add1]
        have h9 := ih (i + 1) (by omega)
        rw [outP_1, if_neg (by simp [hne])] at h9
        exact h9
      · rw [e1, hes, f2, m2] at c33
        have heq : f (g_sd s i) = g_sh s i := (em_inj (by omega) hlt).mp c33
        have hyes := z01n c13
        rw [nI_add1]
        have h9 := ih (i + 1) (by omega)
        rw [outP_1, if_pos (by simp [heq, hyes])] at h9
        exact h9
  refine jx_iconst (pc := 0) (v := 1) d_R_isSeen_0 (by decide) ?_
  refine jx_istore1 (pc := 1) d_R_isSeen_1 rfl (Nat.le_of_ble_eq_true rfl) ?_
  refine jx_iconst (pc := 2) (v := 0) d_R_isSeen_2 (by decide) ?_
  refine jx_istore2 (pc := 3) d_R_isSeen_3 rfl (Nat.le_of_ble_eq_true rfl) ?_
  rotate_left
  exact loop (g_ns s) 0 (by omega)
theorem c_R_lastSeen {d : Nat} {s : Sg} {M : j_M} {Q : Option Value → j_M → Prop} (hw : WF s) (hR : RepS s M) (k : Q (some (.int (nI (lsN s (g_ns s))))) M) : j_Ct d I_R_lastSeen [.ref 79] M Q := by
  refine j_met (by decide +kernel) co_R_lastSeen (Nat.le_of_ble_eq_true rfl) (fun X hX => ?_)
  show j_W d I_R_lastSeen X 0 [some (.ref 79), none, none] [] M
  have hn8 := hw.2.2.2.2.2.2.2.1
  have loop : ∀ (r i : Nat), i + r = g_ns s → j_W d I_R_lastSeen X 4 [some (.ref 79), some (.int (nI (lsN s i))), some (.int (nI i))] [] M := by
    intro r
    induction r with
    | zero =>
      intro i hi
      have hi' : i = g_ns s := by omega
      subst hi'
      refine jx_iload2 (pc := 4) d_R_lastSeen_4 ?_
      refine jx_aload0 (pc := 5) d_R_lastSeen_5 ?_
      refine jx_getI (pc := 6) gf_R_240 d_R_lastSeen_6 ad_79 sh_79 rfl ?_
      refine jx_icmp_ge (pc := 9) 39 d_R_lastSeen_9 (by decide) (fun c9 => ?_) (fun c9 => absurd c9 (fun q => q (by rw [hR.1]; exact Int32.le_refl _)))
      refine jx_iload1 (pc := 39) d_R_lastSeen_39 ?_
      refine jx_iret (pc := 40) hX rfl d_R_lastSeen_40 ?_
      rotate_left
      exact k
    | succ r ih =>
      intro i hi
      have e1 : (nI i).toNatClampNeg = i := nI_cl (by omega)
      have hv : vp_in (nI i) 8 := vp_in_nI (by omega) (by omega)
      obtain ⟨hsd, hsh⟩ := hw.2.2.2.2.2.2.2.2.1 i
      obtain ⟨m1, m2⟩ := hR.2 i (by omega)
      have hl := lsN_lt hw i
      refine jx_iload2 (pc := 4) d_R_lastSeen_4 ?_
      refine jx_aload0 (pc := 5) d_R_lastSeen_5 ?_
      refine jx_getI (pc := 6) gf_R_240 d_R_lastSeen_6 ad_79 sh_79 rfl ?_
      refine jx_icmp_ge (pc := 9) 39 d_R_lastSeen_9 (by decide) (fun c9 => absurd c9 (by rw [hR.1]; exact nI_ge (by omega) (by omega))) (fun c9 => ?_)
      refine jx_aload0 (pc := 12) d_R_lastSeen_12 ?_
      refine jx_getR (pc := 13) gf_R_56 d_R_lastSeen_13 ad_79 sh_79 rfl ?_
      refine jx_iload2 (pc := 16) d_R_lastSeen_16 ?_
      refine jx_iald (pc := 17) d_R_lastSeen_17 ad_95 sh_95 (by first | assumption | exact vp_in_nI (by omega) (by omega)) ?_
      refine jx_iload1 (pc := 18) d_R_lastSeen_18 ?_
      refine jx_icmp_le (pc := 19) 31 d_R_lastSeen_19 (by decide) (fun c19 => ?_) (fun c19 => ?_)
      refine jx_iload1 (pc := 31) d_R_lastSeen_31 ?_
      refine jx_istore1 (pc := 32) d_R_lastSeen_32 rfl (Nat.le_of_ble_eq_true rfl) ?_
      refine jx_iinc2 (pc := 33) d_R_lastSeen_33 rfl (Nat.le_of_ble_eq_true rfl) ?_
      refine jx_goto (pc := 36) 4 d_R_lastSeen_36 (by decide) ?_
      rotate_left
      refine jx_aload0 (pc := 22) d_R_lastSeen_22 ?_
      refine jx_getR (pc := 23) gf_R_56 d_R_lastSeen_23 ad_79 sh_79 rfl ?_
      refine jx_iload2 (pc := 26) d_R_lastSeen_26 ?_
      refine jx_iald (pc := 27) d_R_lastSeen_27 ad_95 sh_95 (by first | assumption | exact vp_in_nI (by omega) (by omega)) ?_
      refine jx_goto (pc := 28) 32 d_R_lastSeen_28 (by decide) ?_
      refine jx_istore1 (pc := 32) d_R_lastSeen_32 rfl (Nat.le_of_ble_eq_true rfl) ?_
      refine jx_iinc2 (pc := 33) d_R_lastSeen_33 rfl (Nat.le_of_ble_eq_true rfl) ?_
      refine jx_goto (pc := 36) 4 d_R_lastSeen_36 (by decide) ?_
      rotate_left
      · rw [e1, m1] at c19
        have hle : g_sd s i ≤ lsN s i := (nI_leI (by omega) (by omega)).mp c19
        rw [nI_add1]
        have h9 := ih (i + 1) (by omega)
        rw [show lsN s (i + 1) = lsN s i by rw [lsN, if_pos hle]] at h9
        exact h9
      · rw [e1, m1] at c19 ⊢
        have hle : ¬ g_sd s i ≤ lsN s i := fun q => c19 ((nI_leI (by omega) (by omega)).mpr q)
        rw [nI_add1]
        have h9 := ih (i + 1) (by omega)
        rw [show lsN s (i + 1) = g_sd s i by rw [lsN, if_neg hle]] at h9
        exact h9
  refine jx_iconst (pc := 0) (v := 0) d_R_lastSeen_0 (by decide) ?_
  refine jx_istore1 (pc := 1) d_R_lastSeen_1 rfl (Nat.le_of_ble_eq_true rfl) ?_
  refine jx_iconst (pc := 2) (v := 0) d_R_lastSeen_2 (by decide) ?_
  refine jx_istore2 (pc := 3) d_R_lastSeen_3 rfl (Nat.le_of_ble_eq_true rfl) ?_
  rotate_left
  exact loop (g_ns s) 0 (by omega)
theorem c_R_tastesBy {d row : Nat} {M : j_M} {Q : Option Value → j_M → Prop} (hrow : row < 1000) (k : ∀ M', (∀ b, b ≠ 82 → M' b = M b) → (∀ t, t < 3 → M' 82 t = nI (trow row t)) → (∀ t, 3 ≤ t → M' 82 t = M 82 t) → Q none M') : j_Ct d I_R_tastesBy [.ref 79, .int (nI row)] M Q := by
  refine j_met (by decide +kernel) co_R_tastesBy (Nat.le_of_ble_eq_true rfl) (fun X hX => ?_)
  show j_W d I_R_tastesBy X 0 [some (.ref 79), some (.int (nI row))] [] M
  have e1 : nI row / 100 = nI (row / 100) := pk_div (d := 100) (by omega) (by omega) (by omega)
  have e2 : nI row / 10 = nI (row / 10) := pk_div (d := 10) (by omega) (by omega) (by omega)
  have e3 : nI (row / 10) - nI (row / 10) / 10 * 10 = nI (row / 10 % 10) := pk_rem (d := 10) (by omega) (by omega) (by omega)
  have e4 : nI row - nI row / 10 * 10 = nI (row % 10) := pk_rem (d := 10) (by omega) (by omega) (by omega)
  refine jx_aload0 (pc := 0) d_R_tastesBy_0 ?_
  refine jx_getR (pc := 1) gf_R_16 d_R_tastesBy_1 ad_79 sh_79 rfl ?_
  refine jx_iconst (pc := 4) (v := 0) d_R_tastesBy_4 (by decide) ?_
  refine jx_iload1 (pc := 5) d_R_tastesBy_5 ?_
  refine jx_bipush (pc := 6) (v := 100) d_R_tastesBy_6 (by decide) ?_
  refine jx_idiv (pc := 8) d_R_tastesBy_8 (by decide) ?_
  refine jx_iastK (pc := 9) 0 d_R_tastesBy_9 ad_82 sh_82 (by decide) (by unfold vp_in; decide) ?_
  refine jx_aload0 (pc := 10) d_R_tastesBy_10 ?_
  refine jx_getR (pc := 11) gf_R_16 d_R_tastesBy_11 ad_79 sh_79 rfl ?_
  refine jx_iconst (pc := 14) (v := 1) d_R_tastesBy_14 (by decide) ?_
  refine jx_iload1 (pc := 15) d_R_tastesBy_15 ?_
  refine jx_bipush (pc := 16) (v := 10) d_R_tastesBy_16 (by decide) ?_
  refine jx_idiv (pc := 18) d_R_tastesBy_18 (by decide) ?_
  refine jx_bipush (pc := 19) (v := 10) d_R_tastesBy_19 (by decide) ?_
  refine jx_irem (pc := 21) d_R_tastesBy_21 (by decide) ?_
  refine jx_iastK (pc := 22) 1 d_R_tastesBy_22 ad_82 sh_82 (by decide) (by unfold vp_in; decide) ?_
  refine jx_aload0 (pc := 23) d_R_tastesBy_23 ?_
  refine jx_getR (pc := 24) gf_R_16 d_R_tastesBy_24 ad_79 sh_79 rfl ?_
  refine jx_iconst (pc := 27) (v := 2) d_R_tastesBy_27 (by decide) ?_
  refine jx_iload1 (pc := 28) d_R_tastesBy_28 ?_
  refine jx_bipush (pc := 29) (v := 10) d_R_tastesBy_29 (by decide) ?_
  refine jx_irem (pc := 31) d_R_tastesBy_31 (by decide) ?_
  refine jx_iastK (pc := 32) 2 d_R_tastesBy_32 ad_82 sh_82 (by decide) (by unfold vp_in; decide) ?_
  refine jx_vret (pc := 33) hX rfl d_R_tastesBy_33 ?_
  rotate_left
  rw [e4, e1, e2, e3]
  refine k _ (fun b hb => by rw [j_set_n _ _ _ hb, j_set_n _ _ _ hb, j_set_n _ _ _ hb]) (fun t ht => ?_) (fun t ht => ?_)
  · have h3 : t = 0 ∨ t = 1 ∨ t = 2 := by omega
    rcases h3 with rfl | rfl | rfl <;> simp [j_set_s, upd, trow]
  · simp only [j_set_s]
    unfold upd
    rw [if_neg (by omega), if_neg (by omega), if_neg (by omega)]
