/-! OPERATIONS of the reference, six: the trainer -/
def LT (s : Sg) (M M2 : j_M) : Prop := ScrR M M2 ∧ RdR s M2 ∧ M2 79 14 = 0 ∧ M2 79 18 = nI (g_wy s 3)
def tbit (tr : Nat) : Nat := if tr = 9 then 6 else tr
theorem c_R_trainerNow {d : Nat} {s : Sg} {M : j_M} {Q : Option Value → j_M → Prop} (hw : WF s) (hR : RepR s M) (k : ∀ M', ScrR M M' → Q (some (.int (r_trainer s))) M') : j_Ct (d + 3) I_R_trainerNow [.ref 79] M Q := by
  refine j_met (by decide +kernel) co_R_trainerNow (Nat.le_of_ble_eq_true rfl) (fun X hX => ?_)
  show j_W (d + 3) I_R_trainerNow X 0 [some (.ref 79), none, none] [] M
  have hn6 : g_hn s ≤ 6 := hnB_le hw.1
  have step : ∀ (M2 : j_M) (tr acc : Nat), LT s M M2 → (tr < g_hn s ∨ tr = 9) → (∀ M3, LT s M M3 → j_W (d + 3) I_R_trainerNow X 12 [some (.ref 79), some (.int (nI (if outB s (g_ta s 0) tr then acc ||| 2 ^ tbit tr else acc))), some (.int (em tr + Int32.ofInt 1))] [] M3) → j_W (d + 3) I_R_trainerNow X 20 [some (.ref 79), some (.int (nI acc)), some (.int (em tr))] [] M2 := by
    intro M2 tr acc hL htr kk
    obtain ⟨hS, hr2, h14, h18⟩ := hL
    have hR2 := hS.rep hR
    have hta : ∀ t, t < 3 → j_set M2 79 19 (em tr) 82 (3 * 0 + t) = nI (g_ta s 0 t) := fun t ht => by rw [j_set_n _ _ _ (by omega)]; exact hR2.2.1 0 t (by omega) ht
    have hS3 : ScrR M (j_set M2 79 19 (em tr)) := hS.tr (ScrR.s79 (by unfold P79; omega))
    have hR3 := hS3.rep hR
    have hr3 : RdR s (j_set M2 79 19 (em tr)) := hr2.of (by rw [j_set_s]; unfold upd; rw [if_neg (by omega)]) (j_set_n _ _ _ (by omega))
    have hER : ER (g_en s) 0 (g_ta s 0) tr (g_wy s 3) (g_V s) V0 (j_set M2 79 19 (em tr)) := er_of hw hR3.v hr3 (hw.2.2.1 0) hta (by rw [j_set_s]; unfold upd; rw [if_neg (by omega)]; exact h18) hw.2.2.2.2.1 (by rw [j_set_s]; unfold upd; rw [if_pos rfl]) ⟨by rw [j_set_s]; unfold upd; rw [if_neg (by omega)]; exact h14, Nat.zero_le _, fun q hq => absurd hq (Nat.not_lt_zero _)⟩
    have hfl : ∀ q, q < g_ns s → fdA s (g_ta s 0) tr (g_sd s q) < 10 := fun q _ => by
      have := fdA_lt hw (hw.2.2.1 0) tr (hw.2.2.2.2.2.2.2.2.1 q).1
      omega
    have fin : ∀ M4, OffR (j_set M2 79 19 (em tr)) M4 → j_W (d + 3) I_R_trainerNow X 37 [some (.ref 79), some (.int (nI acc)), some (.int (em tr))] [.int (if outB s (g_ta s 0) tr then 1 else 0), .int (nI acc)] M4 := by
      intro M4 hO
      have hL4 : LT s M M4 := ⟨hS3.tr (ScrR.offR hO), hr3.of (hO.2 2 (by omega) (by omega)) (hO.1 81 (by omega) (by omega) (by omega) (by omega)), by rw [hO.2 14 (by omega) (by omega), j_set_s]; unfold upd; rw [if_neg (by omega)]; exact h14, by rw [hO.2 18 (by omega) (by omega), j_set_s]; unfold upd; rw [if_neg (by omega)]; exact h18⟩
      have h9 := kk M4 hL4
      by_cases hout : outB s (g_ta s 0) tr = true
      · rw [if_pos hout] at h9
        by_cases h9t : tr = 9
        · subst h9t
          refine jx_if_eq (pc := 37) 56 d_R_trainerNow_37 (by decide) (fun c37 => absurd c37 (by rw [if_pos hout]; decide)) (fun c37 => ?_)
          refine jx_iconst (pc := 40) (v := 1) d_R_trainerNow_40 (by decide) ?_
          refine jx_iload2 (pc := 41) d_R_trainerNow_41 ?_
          refine jx_iconst (pc := 42) (v := (-1)) d_R_trainerNow_42 (by decide) ?_
          refine jx_icmp_ne (pc := 43) 51 d_R_trainerNow_43 (by decide) (fun c43 => absurd c43 (fun q => q em_9)) (fun c43 => ?_)
          refine jx_bipush (pc := 46) (v := 6) d_R_trainerNow_46 (by decide) ?_
          refine jx_goto (pc := 48) 52 d_R_trainerNow_48 (by decide) ?_
          refine jx_ishl (pc := 52) d_R_trainerNow_52 ?_
          refine jx_goto (pc := 53) 57 d_R_trainerNow_53 (by decide) ?_
          refine jx_ior (pc := 57) d_R_trainerNow_57 ?_
          refine jx_istore1 (pc := 58) d_R_trainerNow_58 rfl (Nat.le_of_ble_eq_true rfl) ?_
          refine jx_iinc2 (pc := 59) d_R_trainerNow_59 rfl (Nat.le_of_ble_eq_true rfl) ?_
          refine jx_goto (pc := 62) 12 d_R_trainerNow_62 (by decide) ?_
          rotate_left
          rw [show nI acc ||| (1 : Int32) <<< ((6 : Int32) &&& 31) = nI (acc ||| 2 ^ 6) from or_bit (k := 6) (by omega)]
          exact h9
        · have hlt : tr < g_hn s := by omega
          have hem : em tr = nI tr := em_lt (by omega)
          rw [hem] at h9 ⊢
          rw [show tbit tr = tr by unfold tbit; rw [if_neg h9t]] at h9
          refine jx_if_eq (pc := 37) 56 d_R_trainerNow_37 (by decide) (fun c37 => absurd c37 (by rw [if_pos hout]; decide)) (fun c37 => ?_)
          refine jx_iconst (pc := 40) (v := 1) d_R_trainerNow_40 (by decide) ?_
          refine jx_iload2 (pc := 41) d_R_trainerNow_41 ?_
          refine jx_iconst (pc := 42) (v := (-1)) d_R_trainerNow_42 (by decide) ?_
          refine jx_icmp_ne (pc := 43) 51 d_R_trainerNow_43 (by decide) (fun c43 => ?_) (fun c43 => absurd c43 (nI_ne_m1 (by omega)))
          refine jx_iload2 (pc := 51) d_R_trainerNow_51 ?_
          refine jx_ishl (pc := 52) d_R_trainerNow_52 ?_
          refine jx_goto (pc := 53) 57 d_R_trainerNow_53 (by decide) ?_
          refine jx_ior (pc := 57) d_R_trainerNow_57 ?_
          refine jx_istore1 (pc := 58) d_R_trainerNow_58 rfl (Nat.le_of_ble_eq_true rfl) ?_
          refine jx_iinc2 (pc := 59) d_R_trainerNow_59 rfl (Nat.le_of_ble_eq_true rfl) ?_
          refine jx_goto (pc := 62) 12 d_R_trainerNow_62 (by decide) ?_
          rotate_left
          rw [or_bit (by omega)]
          exact h9
      · rw [if_neg hout] at h9
        refine jx_if_eq (pc := 37) 56 d_R_trainerNow_37 (by decide) (fun c37 => ?_) (fun c37 => absurd c37 (fun q => q (by rw [if_neg hout])))
        refine jx_iconst (pc := 56) (v := 0) d_R_trainerNow_56 (by decide) ?_
        refine jx_ior (pc := 57) d_R_trainerNow_57 ?_
        refine jx_istore1 (pc := 58) d_R_trainerNow_58 rfl (Nat.le_of_ble_eq_true rfl) ?_
        refine jx_iinc2 (pc := 59) d_R_trainerNow_59 rfl (Nat.le_of_ble_eq_true rfl) ?_
        refine jx_goto (pc := 62) 12 d_R_trainerNow_62 (by decide) ?_
        rotate_left
        rw [show nI acc ||| 0 = nI acc by rw [← nI_0, fa_or, Nat.or_zero]]
        exact h9
    refine jx_aload0 (pc := 20) d_R_trainerNow_20 ?_
    refine jx_iload2 (pc := 21) d_R_trainerNow_21 ?_
    refine jx_putI (pc := 22) pf_R_152 d_R_trainerNow_22 ad_79 sh_79 rfl ?_
    refine jx_aload0 (pc := 25) d_R_trainerNow_25 ?_
    refine jx_iconst (pc := 26) (v := 0) d_R_trainerNow_26 (by decide) ?_
    refine jx_bipush (pc := 27) (v := 29) d_R_trainerNow_27 (by decide) ?_
    refine jx_callV2 (pc := 29) (d' := d + 2) vo_R_runs lk_R_175 d_R_trainerNow_29 ad_79 sh_79 rfl (by omega) (Nat.le_of_ble_eq_true rfl) ?_
    refine c_R_runs (dog := 0) (last := 29) (by omega) (by omega) hER htr (fun M4 h91 h89 hO4 => ?_)
    rw [bsR_told] at h91
    refine jx_r0 ?_
    refine jx_iload1 (pc := 32) d_R_trainerNow_32 ?_
    refine jx_aload0 (pc := 33) d_R_trainerNow_33 ?_
    refine jx_callV0 (pc := 34) (d' := 0) vo_R_isSeen lk_R_256 d_R_trainerNow_34 ad_79 sh_79 rfl (by omega) (Nat.le_of_ble_eq_true rfl) ?_
    refine c_R_isSeen (f := fdA s (g_ta s 0) tr) hw (hR3.s.of (hO4.2 28 (by omega) (by omega)) (hO4.1 95 (by omega) (by omega) (by omega) (by omega)) (hO4.1 96 (by omega) (by omega) (by omega) (by omega))) (fun q hq => ⟨hfl q hq, h91 _ (by have := (hw.2.2.2.2.2.2.2.2.1 q).1; omega)⟩) ?_
    rw [outP_out]
    refine jx_r1 ?_
    rotate_left
    exact fin M4 hO4
  have loop : ∀ (r i : Nat) (M2 : j_M), i + r = g_hn s → LT s M M2 → j_W (d + 3) I_R_trainerNow X 12 [some (.ref 79), some (.int (nI ((if outB s (g_ta s 0) 9 then 64 else 0) ||| trnB s i))), some (.int (nI i))] [] M2 := by
    intro r
    induction r with
    | zero =>
      intro i M2 hi hL
      have hi' : i = g_hn s := by omega
      subst hi'
      refine jx_iload2 (pc := 12) d_R_trainerNow_12 ?_
      refine jx_aload0 (pc := 13) d_R_trainerNow_13 ?_
      refine jx_getI (pc := 14) gf_R_102 d_R_trainerNow_14 ad_79 sh_79 rfl ?_
      refine jx_icmp_ge (pc := 17) 65 d_R_trainerNow_17 (by decide) (fun c17 => ?_) (fun c17 => absurd c17 (fun q => q (by rw [hL.2.1.1]; exact Int32.le_refl _)))
      refine jx_iload1 (pc := 65) d_R_trainerNow_65 ?_
      refine jx_iret (pc := 66) hX rfl d_R_trainerNow_66 ?_
      rotate_left
      have h9 := k M2 hL.1
      unfold r_trainer at h9
      by_cases hout : outB s (g_ta s 0) 9 = true
      · rw [if_pos hout] at h9 ⊢; rw [Nat.or_comm]; exact h9
      · rw [if_neg hout] at h9 ⊢; rw [Nat.zero_or]; exact h9
    | succ r ih =>
      intro i M2 hi hL
      refine jx_iload2 (pc := 12) d_R_trainerNow_12 ?_
      refine jx_aload0 (pc := 13) d_R_trainerNow_13 ?_
      refine jx_getI (pc := 14) gf_R_102 d_R_trainerNow_14 ad_79 sh_79 rfl ?_
      refine jx_icmp_ge (pc := 17) 65 d_R_trainerNow_17 (by decide) (fun c17 => absurd c17 (by rw [hL.2.1.1]; exact nI_ge (by omega) (by omega))) (fun c17 => ?_)
      rotate_left
      rw [show (nI i : Int32) = em i from (em_lt (by omega)).symm]
      refine step M2 i _ hL (Or.inl (by omega)) (fun M3 hL3 => ?_)
      have h9 := ih (i + 1) M3 (by omega) hL3
      rw [em_lt (by omega), nI_add1, show tbit i = i by unfold tbit; rw [if_neg (by omega)]]
      by_cases hout : outB s (g_ta s 0) i = true
      · rw [if_pos hout, Nat.or_assoc]
        rw [show trnB s (i + 1) = trnB s i ||| 2 ^ i by rw [trnB, if_pos hout]] at h9
        exact h9
      · rw [if_neg hout]
        rw [show trnB s (i + 1) = trnB s i by rw [trnB, if_neg hout]] at h9
        exact h9
  refine jx_aload0 (pc := 0) d_R_trainerNow_0 ?_
  refine jx_callV0 (pc := 1) (d' := d + 2) vo_R_reads lk_R_109 d_R_trainerNow_1 ad_79 sh_79 rfl (by omega) (Nat.le_of_ble_eq_true rfl) ?_
  refine c_R_reads hw hR (fun M1 hr1 hO1 => ?_)
  refine jx_r0 ?_
  refine jx_aload0 (pc := 4) d_R_trainerNow_4 ?_
  refine jx_callV0 (pc := 5) (d' := 0) vo_R_asTold lk_R_172 d_R_trainerNow_5 ad_79 sh_79 rfl (by omega) (Nat.le_of_ble_eq_true rfl) ?_
  refine c_R_asTold (hR.offF hO1).v (fun M2 h14 h18 h19 hb hq => ?_)
  have hr2 : RdR s M2 := hr1.of (hq 2 (by omega) (by omega) (by omega)) (hb 81 (by omega))
  refine jx_r0 ?_
  refine jx_iconst (pc := 8) (v := 0) d_R_trainerNow_8 (by decide) ?_
  refine jx_istore1 (pc := 9) d_R_trainerNow_9 rfl (Nat.le_of_ble_eq_true rfl) ?_
  refine jx_iconst (pc := 10) (v := (-1)) d_R_trainerNow_10 (by decide) ?_
  refine jx_istore2 (pc := 11) d_R_trainerNow_11 rfl (Nat.le_of_ble_eq_true rfl) ?_
  refine jx_iload2 (pc := 12) d_R_trainerNow_12 ?_
  refine jx_aload0 (pc := 13) d_R_trainerNow_13 ?_
  refine jx_getI (pc := 14) gf_R_102 d_R_trainerNow_14 ad_79 sh_79 rfl ?_
  refine jx_icmp_ge (pc := 17) 65 d_R_trainerNow_17 (by decide) (fun c17 => absurd c17 (by rw [hr2.1]; intro q; rw [fa_le, nI_toInt (by omega)] at q; rw [show (-1 : Int32).toInt = -1 from rfl] at q; omega)) (fun c17 => ?_)
  rotate_left
  have hS2 : ScrR M1 M2 := ⟨fun b g => hb b (by unfold PR at g; omega), fun q g => hq q (by unfold P79 at g; omega) (by unfold P79 at g; omega) (by unfold P79 at g; omega)⟩
  refine step M2 9 0 ⟨(ScrR.offF hO1).tr hS2, hr2, h14, h18⟩ (Or.inr rfl) (fun M3 hL3 => ?_)
  have h9 := loop (g_hn s) 0 M3 (by omega) hL3
  by_cases hout : outB s (g_ta s 0) 9 = true
  · rw [if_pos hout] at h9 ⊢; rw [show (64 ||| trnB s 0) = 0 ||| 2 ^ tbit 9 by simp [trnB, tbit]] at h9; rw [show em 9 + Int32.ofInt 1 = nI 0 from rfl]; exact h9
  · rw [if_neg hout] at h9 ⊢; rw [show (0 ||| trnB s 0) = 0 by simp [trnB]] at h9; rw [show em 9 + Int32.ofInt 1 = nI 0 from rfl]; exact h9
theorem c_R_trainer {d : Nat} {s : Sg} {M : j_M} {Q : Option Value → j_M → Prop} (hw : WF s) (hR : RepR s M) (k : ∀ M', ScrR M M' → Q (some (.int (r_trainer s))) M') : j_Ct (d + 4) I_R_trainer [.ref 79] M Q := by
  refine j_met (by decide +kernel) co_R_trainer (Nat.le_of_ble_eq_true rfl) (fun X hX => ?_)
  show j_W (d + 4) I_R_trainer X 0 [some (.ref 79)] [] M
  refine jx_aload0 (pc := 0) d_R_trainer_0 ?_
  refine jx_callV0 (pc := 1) (d' := d + 3) vo_R_trainerNow lk_R_269 d_R_trainer_1 ad_79 sh_79 rfl (by omega) (Nat.le_of_ble_eq_true rfl) ?_
  refine c_R_trainerNow hw hR (fun M2 hS => ?_)
  refine jx_r1 ?_
  refine jx_iret (pc := 4) hX rfl d_R_trainer_4 ?_
  rotate_left
  exact k M2 hS
