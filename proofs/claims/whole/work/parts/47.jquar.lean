/-! OPERATIONS of the component, seven: the quarrel -/
theorem flt_add {α : Type} {p q r : α → Bool} (h : ∀ x, r x = (p x || q x)) (hd : ∀ x, p x = true → q x = false) : ∀ l : List α, (l.filter r).length = (l.filter p).length + (l.filter q).length
  | [] => rfl
  | x :: l => by
    have ih := flt_add h hd l
    rw [List.filter_cons, List.filter_cons, List.filter_cons, h x]
    by_cases hp : p x = true
    · have hq := hd x hp
      simp [hp, hq, ih]; omega
    · have hp' : p x = false := by simpa using hp
      by_cases hq : q x = true
      · simp [hp', hq, ih]; omega
      · have hq' : q x = false := by simpa using hq
        simp [hp', hq', ih]
def ixQ (q : Nat × Nat) : Nat := 3 * q.1 + q.2
def cnX (s : Sg) (day x : Nat) : Nat := ((g_bs s day).filter (fun q => ixQ q == x)).length
def ofX (s : Sg) (day x : Nat) : Nat := if (g_wy s 3).testBit day then 0 else cnX s day x
def alk (s : Sg) (a b : Nat) : Bool := decide ((∀ x, x < 3 * g_hn s → ofX s a x = ofX s b x) ∧ sumN (ofX s a) (3 * g_hn s) ≠ 0)
theorem alk_iff {s : Sg} {a b : Nat} : alk s a b = true ↔ ((∀ x, x < 3 * g_hn s → ofX s a x = ofX s b x) ∧ sumN (ofX s a) (3 * g_hn s) ≠ 0) := by unfold alk; rw [decide_eq_true_iff]
theorem sumN_congr {f g : Nat → Nat} : ∀ {n : Nat}, (∀ x, x < n → f x = g x) → sumN f n = sumN g n
  | 0, _ => rfl
  | n + 1, h => by unfold sumN; rw [sumN_congr (fun x hx => h x (by omega)), h n (by omega)]
theorem sumN_0 {f : Nat → Nat} : ∀ {n : Nat}, (∀ x, x < n → f x = 0) → sumN f n = 0
  | 0, _ => rfl
  | n + 1, h => by unfold sumN; rw [sumN_0 (fun x hx => h x (by omega)), h n (by omega)]
theorem alk_symm {s : Sg} {a b : Nat} : alk s a b = true ↔ alk s b a = true := by
  rw [alk_iff, alk_iff]
  constructor
  · rintro ⟨h1, h2⟩; exact ⟨fun x hx => (h1 x hx).symm, by rw [← sumN_congr h1]; exact h2⟩
  · rintro ⟨h1, h2⟩; exact ⟨fun x hx => (h1 x hx).symm, by rw [← sumN_congr h1]; exact h2⟩
theorem flt_sum (l : List (Nat × Nat)) : ∀ N, (l.filter (fun q => decide (ixQ q < N))).length = sumN (fun x => (l.filter (fun q => ixQ q == x)).length) N
  | 0 => by simp [sumN]
  | N + 1 => by
    unfold sumN
    rw [← flt_sum l N]
    refine flt_add (fun x => ?_) (fun x hx => ?_) l
    · by_cases h1 : ixQ x < N
      · simp [h1]; omega
      · by_cases h2 : ixQ x = N
        · simp [h2]
        · rw [show decide (ixQ x < N + 1) = false from decide_eq_false (by omega), show decide (ixQ x < N) = false from decide_eq_false h1]; simp [h2]
    · have h1 : ixQ x < N := by simpa using hx
      simp; omega
theorem cmS_sum {s : Sg} (hw : WF s) (day : Nat) : cmS s day = sumN (cnX s day) (3 * g_hn s) := by
  have h := flt_sum (g_bs s day) (3 * g_hn s)
  unfold cmS
  rw [show (fun x => ((g_bs s day).filter (fun q => ixQ q == x)).length) = cnX s day from rfl] at h
  rw [← h]
  congr 1
  refine List.filter_congr (fun q hq => ?_)
  have h2 := (g_bs_wf hw day q hq).2
  unfold ixQ
  by_cases h1 : q.1 < g_hn s
  · rw [decide_eq_true h1, decide_eq_true (by omega)]
  · rw [decide_eq_false h1, decide_eq_false (by omega)]
theorem cnX_le {s : Sg} (hw : WF s) (day x : Nat) : cnX s day x ≤ 24 := Nat.le_trans (List.length_filter_le _ _) (g_bs_len hw day)
theorem tal_eq : ∀ a, a < 25 → ∀ b, b < 25 → ((0 : Int32) + (-1) * nI b + 1 * nI a = 0 ↔ a = b) := by decide +kernel
theorem sg_1 (x g : Int32) (c : Nat) : x + g * nI c + g = x + g * nI (c + 1) := by
  rw [← nI_1, Int32.mul_add, Int32.mul_one, Int32.add_assoc]
theorem sg_0 (x g : Int32) : x + g * nI 0 = x := by rw [show nI 0 = 0 from rfl, Int32.mul_zero, Int32.add_zero]
theorem c_J_tallyVisits {d day : Nat} {g : Int32} {s : Sg} {M : j_M} {Q : Option Value → j_M → Prop} (hw : WF s) (hR : RepC s M) (hday : day < 30)
    (k : ∀ M', (∀ b, b ≠ 34 → M' b = M b) → (∀ x, x < 21 → M' 34 x = if x < 3 * g_hn s then M 34 x + g * nI (cnX s day x) else M 34 x) → Q (some (.int (nI (cmS s day)))) M') : j_Ct (d + 1) I_J_tallyVisits [.ref 0, .int (nI day), .int g] M Q := by
  refine j_met (by decide +kernel) co_J_tallyVisits (Nat.le_of_ble_eq_true rfl) (fun X hX => ?_)
  show j_W (d + 1) I_J_tallyVisits X 0 [some (.ref 0), some (.int (nI day)), some (.int g), none, none, none] [] M
  have hC := hR.ce hw
  have h13 : M 1 3 = nI (g_hn s) := hR.1.2.1
  have hwf := hC.2.1.wf hday
  have hn6 : g_hn s ≤ 6 := hnB_le hw.1
  obtain ⟨S, h1, h2, h3⟩ := id hC.2.1
  have hS0 := h1 day (by omega)
  have hS1 := h1 (day + 1) (by omega)
  have hS := h2 day hday
  have ed : (nI day).toNatClampNeg = day := nI_cl (by omega)
  have ed1 : nI day + 1 = nI (day + 1) := nI_1 day
  have ed2 : (nI (day + 1)).toNatClampNeg = day + 1 := nI_cl (by omega)
  have hv0 : vp_in (nI day) 31 := vp_in_nI (by omega) (by omega)
  have hv1 : vp_in (nI day + 1) 31 := by rw [ed1]; exact vp_in_nI (by omega) (by omega)
  have loop : ∀ (r j : Nat) (M1 : j_M) (e : Option Value), j + r = (g_bs s day).length → (∀ b, b ≠ 34 → M1 b = M b) → (∀ x, x < 21 → M1 34 x = if x < 3 * g_hn s then M 34 x + g * nI (((g_bs s day).take j).filter (fun q => ixQ q == x)).length else M 34 x) → j_W (d + 1) I_J_tallyVisits X 13 [some (.ref 0), some (.int (nI day)), some (.int g), some (.int (nI (((g_bs s day).take j).filter (fun q => decide (q.1 < g_hn s))).length)), some (.int (nI (S day + j))), e] [] M1 := by
    intro r
    induction r with
    | zero =>
      intro j M1 e hj hb hx
      have h9 : M1 9 (nI day + 1).toNatClampNeg = nI (S (day + 1)) := by rw [hb 9 (by omega), ed1, ed2]; exact hS1.1
      refine jx_iload4 (pc := 13) d_J_tallyVisits_13 ?_
      refine jx_aload0 (pc := 15) d_J_tallyVisits_15 ?_
      refine jx_getR (pc := 16) gf_J_19 d_J_tallyVisits_16 ad_0 sh_0 rfl ?_
      refine jx_getR (pc := 19) gf_J_380 d_J_tallyVisits_19 ad_4 sh_4 rfl ?_
      refine jx_iload1 (pc := 22) d_J_tallyVisits_22 ?_
      refine jx_iconst (pc := 23) (v := 1) d_J_tallyVisits_23 (by decide) ?_
      refine jx_iadd (pc := 24) d_J_tallyVisits_24 ?_
      refine jx_iald (pc := 25) d_J_tallyVisits_25 ad_9 sh_9 (by first | assumption | exact vp_in_nI (by omega) (by omega)) ?_
      refine jx_icmp_ge (pc := 26) 87 d_J_tallyVisits_26 (by decide) (fun c26 => ?_) (fun c26 => absurd c26 (fun q => q (by rw [h9]; exact nI_le (by omega) (by omega))))
      refine jx_iload3 (pc := 87) d_J_tallyVisits_87 ?_
      refine jx_iret (pc := 88) hX rfl d_J_tallyVisits_88 ?_
      rotate_left
      rw [show j = (g_bs s day).length by omega, List.take_length] at hx ⊢
      exact k M1 hb hx
    | succ r ih =>
      intro j M1 e hj hb hx
      have h9 : M1 9 (nI day + 1).toNatClampNeg = nI (S (day + 1)) := by rw [hb 9 (by omega), ed1, ed2]; exact hS1.1
      obtain ⟨q, hq⟩ : ∃ q, (g_bs s day)[j]? = some q := ⟨(g_bs s day)[j]'(by omega), List.getElem?_eq_getElem (by omega)⟩
      obtain ⟨v, hv, g8, g6, g7, hq1, hq2⟩ := h3 day hday j q hq
      rw [← hb 8 (by omega)] at g8
      rw [← hb 6 (by omega)] at g6
      rw [← hb 7 (by omega)] at g7
      have hp : S day + j < 24 := by omega
      have hT : (g_bs s day).take (j + 1) = (g_bs s day).take j ++ [q] := by rw [List.take_add_one, hq]; rfl
      by_cases hlt : q.1 < g_hn s
      · have hyes : 0 ≤ nI q.1 ∧ nI q.1 < M1 1 3 := ⟨nI_pos' (by omega), by rw [hb 1 (by omega), h13]; exact nI_lt hlt (by omega)⟩
        have ex : nI q.1 * 3 + nI q.2 = nI (ixQ q) := by rw [show (3 : Int32) = nI 3 from rfl, nI_mul, nI_add]; unfold ixQ; rw [Nat.mul_comm]
        have ec : (nI (ixQ q)).toNatClampNeg = ixQ q := nI_cl (by unfold ixQ; omega)
        have hvx : vp_in (nI q.1 * 3 + nI q.2) 21 := by rw [ex]; exact vp_in_nI (by unfold ixQ; omega) (by omega)
        refine jx_iload4 (pc := 13) d_J_tallyVisits_13 ?_
        refine jx_aload0 (pc := 15) d_J_tallyVisits_15 ?_
        refine jx_getR (pc := 16) gf_J_19 d_J_tallyVisits_16 ad_0 sh_0 rfl ?_
        refine jx_getR (pc := 19) gf_J_380 d_J_tallyVisits_19 ad_4 sh_4 rfl ?_
        refine jx_iload1 (pc := 22) d_J_tallyVisits_22 ?_
        refine jx_iconst (pc := 23) (v := 1) d_J_tallyVisits_23 (by decide) ?_
        refine jx_iadd (pc := 24) d_J_tallyVisits_24 ?_
        refine jx_iald (pc := 25) d_J_tallyVisits_25 ad_9 sh_9 (by first | assumption | exact vp_in_nI (by omega) (by omega)) ?_
        refine jx_icmp_ge (pc := 26) 87 d_J_tallyVisits_26 (by decide) (fun c26 => absurd c26 (by rw [h9]; exact nI_ge (by omega) (by omega))) (fun c26 => ?_)
        refine jx_aload0 (pc := 29) d_J_tallyVisits_29 ?_
        refine jx_getR (pc := 30) gf_J_19 d_J_tallyVisits_30 ad_0 sh_0 rfl ?_
        refine jx_iload4 (pc := 33) d_J_tallyVisits_33 ?_
        refine jx_callV1 (pc := 35) (d' := 0) vo_Vi_heirAt lk_J_383 d_J_tallyVisits_35 ad_4 sh_4 rfl (by omega) (Nat.le_of_ble_eq_true rfl) ?_
        refine c_Vi_heirAt hp hv g8 ?_
        rw [g6]
        refine jx_r1 ?_
        refine jx_istore5 (pc := 38) d_J_tallyVisits_38 rfl (Nat.le_of_ble_eq_true rfl) ?_
        refine jx_aload0 (pc := 40) d_J_tallyVisits_40 ?_
        refine jx_getR (pc := 41) gf_J_12 d_J_tallyVisits_41 ad_0 sh_0 rfl ?_
        refine jx_iload5 (pc := 44) d_J_tallyVisits_44 ?_
        refine jx_callV1 (pc := 46) (d' := 0) vo_He_has lk_J_101 d_J_tallyVisits_46 ad_1 sh_1 rfl (by omega) (Nat.le_of_ble_eq_true rfl) ?_
        refine c_He_has ?_
        refine jx_r1 ?_
        refine jx_if_ne (pc := 49) 55 d_J_tallyVisits_49 (by decide) (fun c49 => ?_) (fun c49 => absurd c49 (z01p hyes))
        refine jx_aload0 (pc := 55) d_J_tallyVisits_55 ?_
        refine jx_getR (pc := 56) gf_J_85 d_J_tallyVisits_56 ad_0 sh_0 rfl ?_
        refine jx_iload5 (pc := 59) d_J_tallyVisits_59 ?_
        refine jx_iconst (pc := 61) (v := 3) d_J_tallyVisits_61 (by decide) ?_
        refine jx_imul (pc := 62) d_J_tallyVisits_62 ?_
        refine jx_aload0 (pc := 63) d_J_tallyVisits_63 ?_
        refine jx_getR (pc := 64) gf_J_19 d_J_tallyVisits_64 ad_0 sh_0 rfl ?_
        refine jx_iload4 (pc := 67) d_J_tallyVisits_67 ?_
        refine jx_callV1 (pc := 69) (d' := 0) vo_Vi_thingAt lk_J_386 d_J_tallyVisits_69 ad_4 sh_4 rfl (by omega) (Nat.le_of_ble_eq_true rfl) ?_
        refine c_Vi_thingAt hp hv g8 ?_
        rw [g7]
        refine jx_r1 ?_
        refine jx_iadd (pc := 72) d_J_tallyVisits_72 ?_
        refine jx_dup2ri (pc := 73) d_J_tallyVisits_73 ?_
        refine jx_iald (pc := 74) d_J_tallyVisits_74 ad_34 sh_34 hvx ?_
        refine jx_iload2 (pc := 75) d_J_tallyVisits_75 ?_
        refine jx_iadd (pc := 76) d_J_tallyVisits_76 ?_
        refine jx_iast (pc := 77) d_J_tallyVisits_77 ad_34 sh_34 hvx ?_
        refine jx_iinc3 (pc := 78) d_J_tallyVisits_78 rfl (Nat.le_of_ble_eq_true rfl) ?_
        refine jx_iinc4 (pc := 81) d_J_tallyVisits_81 rfl (Nat.le_of_ble_eq_true rfl) ?_
        refine jx_goto (pc := 84) 13 d_J_tallyVisits_84 (by decide) ?_
        rotate_left
        rw [nI_add1, nI_add1, ex, ec]
        have h0 := ih (j + 1) (j_set M1 34 (ixQ q) (M1 34 (ixQ q) + g)) (some (.int (nI q.1))) (by omega) (fun b h => by rw [j_set_n _ _ _ h]; exact hb b h) (fun x hxx => by
          rw [j_set_s, hT, List.filter_append, List.length_append]
          unfold upd
          by_cases hc : x = ixQ q
          · rw [if_pos hc, ← hc, hx x hxx, if_pos (by rw [hc]; unfold ixQ; omega), if_pos (by rw [hc]; unfold ixQ; omega), show ([q].filter (fun q => ixQ q == x)) = [q] by simp [hc]]
            exact sg_1 _ _ _
          · rw [if_neg hc, hx x hxx, show ([q].filter (fun q => ixQ q == x)) = [] by simp; omega]
            rfl)
        rw [hT, List.filter_append, List.length_append, show ([q].filter (fun q => decide (q.1 < g_hn s))) = [q] by simp [hlt]] at h0
        exact h0
      · have hno : ¬ (0 ≤ nI q.1 ∧ nI q.1 < M1 1 3) := fun z => by
          have := z.2
          rw [hb 1 (by omega), h13] at this
          exact hlt ((nI_ltI (by omega) (by omega)).mp this)
        refine jx_iload4 (pc := 13) d_J_tallyVisits_13 ?_
        refine jx_aload0 (pc := 15) d_J_tallyVisits_15 ?_
        refine jx_getR (pc := 16) gf_J_19 d_J_tallyVisits_16 ad_0 sh_0 rfl ?_
        refine jx_getR (pc := 19) gf_J_380 d_J_tallyVisits_19 ad_4 sh_4 rfl ?_
        refine jx_iload1 (pc := 22) d_J_tallyVisits_22 ?_
        refine jx_iconst (pc := 23) (v := 1) d_J_tallyVisits_23 (by decide) ?_
        refine jx_iadd (pc := 24) d_J_tallyVisits_24 ?_
        refine jx_iald (pc := 25) d_J_tallyVisits_25 ad_9 sh_9 (by first | assumption | exact vp_in_nI (by omega) (by omega)) ?_
        refine jx_icmp_ge (pc := 26) 87 d_J_tallyVisits_26 (by decide) (fun c26 => absurd c26 (by rw [h9]; exact nI_ge (by omega) (by omega))) (fun c26 => ?_)
        refine jx_aload0 (pc := 29) d_J_tallyVisits_29 ?_
        refine jx_getR (pc := 30) gf_J_19 d_J_tallyVisits_30 ad_0 sh_0 rfl ?_
        refine jx_iload4 (pc := 33) d_J_tallyVisits_33 ?_
        refine jx_callV1 (pc := 35) (d' := 0) vo_Vi_heirAt lk_J_383 d_J_tallyVisits_35 ad_4 sh_4 rfl (by omega) (Nat.le_of_ble_eq_true rfl) ?_
        refine c_Vi_heirAt hp hv g8 ?_
        rw [g6]
        refine jx_r1 ?_
        refine jx_istore5 (pc := 38) d_J_tallyVisits_38 rfl (Nat.le_of_ble_eq_true rfl) ?_
        refine jx_aload0 (pc := 40) d_J_tallyVisits_40 ?_
        refine jx_getR (pc := 41) gf_J_12 d_J_tallyVisits_41 ad_0 sh_0 rfl ?_
        refine jx_iload5 (pc := 44) d_J_tallyVisits_44 ?_
        refine jx_callV1 (pc := 46) (d' := 0) vo_He_has lk_J_101 d_J_tallyVisits_46 ad_1 sh_1 rfl (by omega) (Nat.le_of_ble_eq_true rfl) ?_
        refine c_He_has ?_
        refine jx_r1 ?_
        refine jx_if_ne (pc := 49) 55 d_J_tallyVisits_49 (by decide) (fun c49 => absurd c49 (fun z => z (z01.mpr hno))) (fun c49 => ?_)
        refine jx_goto (pc := 52) 81 d_J_tallyVisits_52 (by decide) ?_
        refine jx_iinc4 (pc := 81) d_J_tallyVisits_81 rfl (Nat.le_of_ble_eq_true rfl) ?_
        refine jx_goto (pc := 84) 13 d_J_tallyVisits_84 (by decide) ?_
        rotate_left
        rw [nI_add1]
        have h0 := ih (j + 1) M1 (some (.int (nI q.1))) (by omega) hb (fun x hxx => by
          rw [hx x hxx, hT, List.filter_append, List.length_append]
          by_cases hc : x < 3 * g_hn s
          · rw [if_pos hc, if_pos hc, show ([q].filter (fun q => ixQ q == x)) = [] by simp; unfold ixQ; omega]; rfl
          · rw [if_neg hc, if_neg hc])
        rw [hT, List.filter_append, List.length_append, show ([q].filter (fun q => decide (q.1 < g_hn s))) = [] by simp [hlt]] at h0
        exact h0
  refine jx_iconst (pc := 0) (v := 0) d_J_tallyVisits_0 (by decide) ?_
  refine jx_istore3 (pc := 1) d_J_tallyVisits_1 rfl (Nat.le_of_ble_eq_true rfl) ?_
  refine jx_aload0 (pc := 2) d_J_tallyVisits_2 ?_
  refine jx_getR (pc := 3) gf_J_19 d_J_tallyVisits_3 ad_0 sh_0 rfl ?_
  refine jx_getR (pc := 6) gf_J_380 d_J_tallyVisits_6 ad_4 sh_4 rfl ?_
  refine jx_iload1 (pc := 9) d_J_tallyVisits_9 ?_
  refine jx_iald (pc := 10) d_J_tallyVisits_10 ad_9 sh_9 (by first | assumption | exact vp_in_nI (by omega) (by omega)) ?_
  refine jx_istore4 (pc := 11) d_J_tallyVisits_11 rfl (Nat.le_of_ble_eq_true rfl) ?_
  rotate_left
  rw [ed, hS0.1]
  refine loop (g_bs s day).length 0 M none (Nat.zero_add _) (fun _ _ => rfl) (fun x hx => ?_)
  rw [show (((g_bs s day).take 0).filter (fun q => ixQ q == x)).length = 0 by simp, sg_0]
  split <;> rfl

theorem ofX_asleep {s : Sg} {day : Nat} (h : (g_wy s 3).testBit day = true) (x : Nat) : ofX s day x = 0 := by unfold ofX; rw [if_pos h]
theorem ofX_awake {s : Sg} {day : Nat} (h : ¬ (g_wy s 3).testBit day = true) : ofX s day = cnX s day := by funext x; unfold ofX; rw [if_neg h]
theorem alk_no1 {s : Sg} {a b : Nat} (h : (g_wy s 3).testBit a = true) : alk s a b = false := by
  have : ¬ alk s a b = true := fun z => (alk_iff.mp z).2 (sumN_0 (fun x _ => ofX_asleep h x))
  simpa using this
theorem alk_no2 {s : Sg} {a b : Nat} (h : (g_wy s 3).testBit b = true) : alk s a b = false := by
  have : ¬ alk s a b = true := fun z => (alk_iff.mp z).2 (sumN_0 (fun x hx => by rw [(alk_iff.mp z).1 x hx]; exact ofX_asleep h x))
  simpa using this
theorem c_J_areAlike {d day ahd : Nat} {s : Sg} {M : j_M} {Q : Option Value → j_M → Prop} (hw : WF s) (hR : RepC s M) (hday : day < 30) (hahd : ahd < 30)
    (k : ∀ M', (∀ b, b ≠ 34 → M' b = M b) → Q (some (.int (if alk s day ahd then 1 else 0))) M') : j_Ct (d + 2) I_J_areAlike [.ref 0, .int (nI day), .int (nI ahd)] M Q := by
  refine j_met (by decide +kernel) co_J_areAlike (Nat.le_of_ble_eq_true rfl) (fun X hX => ?_)
  show j_W (d + 2) I_J_areAlike X 0 [some (.ref 0), some (.int (nI day)), some (.int (nI ahd)), none, none, none] [] M
  have hC := hR.ce hw
  have hn6 : g_hn s ≤ 6 := hnB_le hw.1
  by_cases s1 : (g_wy s 3).testBit day = true
  · rw [alk_no1 s1] at k
    refine jx_aload0 (pc := 0) d_J_areAlike_0 ?_
    refine jx_getR (pc := 1) gf_J_40 d_J_areAlike_1 ad_0 sh_0 rfl ?_
    refine jx_iload1 (pc := 4) d_J_areAlike_4 ?_
    refine jx_callV1 (pc := 5) (d' := 0) vo_Co_isAwake lk_J_245 d_J_areAlike_5 ad_15 sh_15 rfl (by omega) (Nat.le_of_ble_eq_true rfl) ?_
    refine c_Co_awake hC.2.2.1 hw.2.2.2.2.1 hday ?_
    refine jx_r1 ?_
    refine jx_if_eq (pc := 8) 22 d_J_areAlike_8 (by decide) (fun c8 => ?_) (fun c8 => absurd c8 (fun q => q (by rw [if_pos s1])))
    refine jx_iconst (pc := 22) (v := 0) d_J_areAlike_22 (by decide) ?_
    refine jx_zret (pc := 23) hX rfl (by first | exact Or.inl rfl | exact Or.inr rfl) d_J_areAlike_23 ?_
    rotate_left
    exact k M (fun _ _ => rfl)
  · by_cases s2 : (g_wy s 3).testBit ahd = true
    · rw [alk_no2 s2] at k
      refine jx_aload0 (pc := 0) d_J_areAlike_0 ?_
      refine jx_getR (pc := 1) gf_J_40 d_J_areAlike_1 ad_0 sh_0 rfl ?_
      refine jx_iload1 (pc := 4) d_J_areAlike_4 ?_
      refine jx_callV1 (pc := 5) (d' := 0) vo_Co_isAwake lk_J_245 d_J_areAlike_5 ad_15 sh_15 rfl (by omega) (Nat.le_of_ble_eq_true rfl) ?_
      refine c_Co_awake hC.2.2.1 hw.2.2.2.2.1 hday ?_
      refine jx_r1 ?_
      refine jx_if_eq (pc := 8) 22 d_J_areAlike_8 (by decide) (fun c8 => absurd c8 (by rw [if_neg s1]; decide)) (fun c8 => ?_)
      refine jx_aload0 (pc := 11) d_J_areAlike_11 ?_
      refine jx_getR (pc := 12) gf_J_40 d_J_areAlike_12 ad_0 sh_0 rfl ?_
      refine jx_iload2 (pc := 15) d_J_areAlike_15 ?_
      refine jx_callV1 (pc := 16) (d' := 0) vo_Co_isAwake lk_J_245 d_J_areAlike_16 ad_15 sh_15 rfl (by omega) (Nat.le_of_ble_eq_true rfl) ?_
      refine c_Co_awake hC.2.2.1 hw.2.2.2.2.1 hahd ?_
      refine jx_r1 ?_
      refine jx_if_ne (pc := 19) 24 d_J_areAlike_19 (by decide) (fun c19 => absurd c19 (fun q => q (by rw [if_pos s2]))) (fun c19 => ?_)
      refine jx_iconst (pc := 22) (v := 0) d_J_areAlike_22 (by decide) ?_
      refine jx_zret (pc := 23) hX rfl (by first | exact Or.inl rfl | exact Or.inr rfl) d_J_areAlike_23 ?_
      rotate_left
      exact k M (fun _ _ => rfl)
    · have hsum : sumN (ofX s day) (3 * g_hn s) = cmS s day := by rw [ofX_awake s1, cmS_sum hw]
      have hAi : alk s day ahd = true ↔ ((∀ x, x < 3 * g_hn s → cnX s day x = cnX s ahd x) ∧ cmS s day ≠ 0) := by rw [alk_iff, hsum, ofX_awake s1, ofX_awake s2]
      have hcd := cmS_le hw day
      have hca := cmS_le hw ahd
      have z0 : nI (cmS s day) = 0 ↔ cmS s day = 0 := nI_eq (b := 0) (by omega) (by omega)
      have z1 : nI (cmS s day) = nI (cmS s ahd) ↔ cmS s day = cmS s ahd := nI_eq (by omega) (by omega)
      have last : ∀ (M3 : j_M), (∀ b, b ≠ 34 → M3 b = M b) → (∀ x, x < 21 → M3 34 x = if x < 3 * g_hn s then (0 : Int32) + (-1) * nI (cnX s ahd x) + 1 * nI (cnX s day x) else 0) → cmS s day ≠ 0 → ∀ (r i : Nat), i + r = 21 → (∀ x, x < i → x < 3 * g_hn s → cnX s day x = cnX s ahd x) → j_W (d + 2) I_J_areAlike X 79 [some (.ref 0), some (.int (nI day)), some (.int (nI ahd)), some (.int (nI (cmS s ahd))), some (.int (nI (cmS s day))), some (.int (nI i))] [] M3 := by
        intro M3 hb hx hne r
        induction r with
        | zero =>
          intro i hi hall
          have hi' : i = 21 := by omega
          subst hi'
          have hy : alk s day ahd = true := hAi.mpr ⟨fun x hx => hall x (by omega) hx, hne⟩
          rw [if_pos hy] at k
          refine jx_iload5 (pc := 79) d_J_areAlike_79 ?_
          refine jx_aload0 (pc := 81) d_J_areAlike_81 ?_
          refine jx_getR (pc := 82) gf_J_85 d_J_areAlike_82 ad_0 sh_0 rfl ?_
          refine jx_alen (pc := 85) d_J_areAlike_85 ad_34 (Or.inl rfl) sh_34 rfl ?_
          refine jx_icmp_ge (pc := 86) 107 d_J_areAlike_86 (by decide) (fun c86 => ?_) (fun c86 => absurd c86 (fun q => q (show nI 21 ≤ nI 21 from Int32.le_refl _)))
          refine jx_iconst (pc := 107) (v := 1) d_J_areAlike_107 (by decide) ?_
          refine jx_zret (pc := 108) hX rfl (by first | exact Or.inl rfl | exact Or.inr rfl) d_J_areAlike_108 ?_
          rotate_left
          exact k M3 hb
        | succ r ih =>
          intro i hi hall
          have e1 : (nI i).toNatClampNeg = i := nI_cl (by omega)
          have hxi := hx i (by omega)
          have hte := tal_eq (cnX s day i) (by have := cnX_le hw day i; omega) (cnX s ahd i) (by have := cnX_le hw ahd i; omega)
          by_cases hz : M3 34 i = 0
          · have hz2 : M3 34 (nI i).toNatClampNeg = 0 := by rw [e1]; exact hz
            refine jx_iload5 (pc := 79) d_J_areAlike_79 ?_
            refine jx_aload0 (pc := 81) d_J_areAlike_81 ?_
            refine jx_getR (pc := 82) gf_J_85 d_J_areAlike_82 ad_0 sh_0 rfl ?_
            refine jx_alen (pc := 85) d_J_areAlike_85 ad_34 (Or.inl rfl) sh_34 rfl ?_
            refine jx_icmp_ge (pc := 86) 107 d_J_areAlike_86 (by decide) (fun c86 => absurd c86 (show ¬ nI 21 ≤ nI i from nI_ge (by omega) (by omega))) (fun c86 => ?_)
            refine jx_aload0 (pc := 89) d_J_areAlike_89 ?_
            refine jx_getR (pc := 90) gf_J_85 d_J_areAlike_90 ad_0 sh_0 rfl ?_
            refine jx_iload5 (pc := 93) d_J_areAlike_93 ?_
            refine jx_iald (pc := 95) d_J_areAlike_95 ad_34 sh_34 (vp_in_nI (show i < 21 by omega) (by omega)) ?_
            refine jx_if_eq (pc := 96) 101 d_J_areAlike_96 (by decide) (fun c96 => ?_) (fun c96 => absurd c96 (fun q => q hz2))
            refine jx_iinc5 (pc := 101) d_J_areAlike_101 rfl (Nat.le_of_ble_eq_true rfl) ?_
            refine jx_goto (pc := 104) 79 d_J_areAlike_104 (by decide) ?_
            rotate_left
            rw [nI_add1]
            refine ih (i + 1) (by omega) (fun x hx1 hx2 => ?_)
            by_cases hc : x = i
            · subst hc
              rw [hxi, if_pos hx2] at hz
              exact hte.mp hz
            · exact hall x (by omega) hx2
          · have hz2 : ¬ M3 34 (nI i).toNatClampNeg = 0 := by rw [e1]; exact hz
            have hy : ¬ alk s day ahd = true := fun z => by
              by_cases hc : i < 3 * g_hn s
              · rw [hxi, if_pos hc] at hz
                exact hz (hte.mpr ((hAi.mp z).1 i hc))
              · rw [hxi, if_neg hc] at hz
                exact hz rfl
            rw [if_neg hy] at k
            refine jx_iload5 (pc := 79) d_J_areAlike_79 ?_
            refine jx_aload0 (pc := 81) d_J_areAlike_81 ?_
            refine jx_getR (pc := 82) gf_J_85 d_J_areAlike_82 ad_0 sh_0 rfl ?_
            refine jx_alen (pc := 85) d_J_areAlike_85 ad_34 (Or.inl rfl) sh_34 rfl ?_
            refine jx_icmp_ge (pc := 86) 107 d_J_areAlike_86 (by decide) (fun c86 => absurd c86 (show ¬ nI 21 ≤ nI i from nI_ge (by omega) (by omega))) (fun c86 => ?_)
            refine jx_aload0 (pc := 89) d_J_areAlike_89 ?_
            refine jx_getR (pc := 90) gf_J_85 d_J_areAlike_90 ad_0 sh_0 rfl ?_
            refine jx_iload5 (pc := 93) d_J_areAlike_93 ?_
            refine jx_iald (pc := 95) d_J_areAlike_95 ad_34 sh_34 (vp_in_nI (show i < 21 by omega) (by omega)) ?_
            refine jx_if_eq (pc := 96) 101 d_J_areAlike_96 (by decide) (fun c96 => absurd c96 hz2) (fun c96 => ?_)
            refine jx_iconst (pc := 99) (v := 0) d_J_areAlike_99 (by decide) ?_
            refine jx_zret (pc := 100) hX rfl (by first | exact Or.inl rfl | exact Or.inr rfl) d_J_areAlike_100 ?_
            rotate_left
            exact k M3 hb
      have mid : ∀ (M1 : j_M), (∀ b, b ≠ 34 → M1 b = M b) → (∀ x, x < 21 → M1 34 x = 0) → ∀ (e : Option Value), j_W (d + 2) I_J_areAlike X 48 [some (.ref 0), some (.int (nI day)), some (.int (nI ahd)), some (.int (nI 21)), none, none] [] M1 := by
        intro M1 hb hx e
        have hS1 : Scr M M1 := fun b h => hb b (by unfold PC at h; omega)
        have hR1 := hS1.rep hR
        refine jx_aload0 (pc := 48) d_J_areAlike_48 ?_
        refine jx_iload2 (pc := 49) d_J_areAlike_49 ?_
        refine jx_iconst (pc := 50) (v := (-1)) d_J_areAlike_50 (by decide) ?_
        refine jx_callV2 (pc := 51) (d' := d + 1) vo_J_tallyVisits lk_J_377 d_J_areAlike_51 ad_0 sh_0 rfl (by omega) (Nat.le_of_ble_eq_true rfl) ?_
        refine c_J_tallyVisits hw hR1 hahd (fun M2 hb2 hx2 => ?_)
        have hS2 : Scr M1 M2 := fun b h => hb2 b (by unfold PC at h; omega)
        have hR2 := hS2.rep hR1
        refine jx_r1 ?_
        refine jx_istore3 (pc := 54) d_J_areAlike_54 rfl (Nat.le_of_ble_eq_true rfl) ?_
        refine jx_aload0 (pc := 55) d_J_areAlike_55 ?_
        refine jx_iload1 (pc := 56) d_J_areAlike_56 ?_
        refine jx_iconst (pc := 57) (v := 1) d_J_areAlike_57 (by decide) ?_
        refine jx_callV2 (pc := 58) (d' := d + 1) vo_J_tallyVisits lk_J_377 d_J_areAlike_58 ad_0 sh_0 rfl (by omega) (Nat.le_of_ble_eq_true rfl) ?_
        refine c_J_tallyVisits hw hR2 hday (fun M3 hb3 hx3 => ?_)
        refine jx_r1 ?_
        refine jx_istore4 (pc := 61) d_J_areAlike_61 rfl (Nat.le_of_ble_eq_true rfl) ?_
        rotate_left
        have hbb : ∀ b, b ≠ 34 → M3 b = M b := fun b h => by rw [hb3 b h, hb2 b h, hb b h]
        have hxx : ∀ x, x < 21 → M3 34 x = if x < 3 * g_hn s then (0 : Int32) + (-1) * nI (cnX s ahd x) + 1 * nI (cnX s day x) else 0 := fun x hxl => by
          rw [hx3 x hxl, hx2 x hxl, hx x hxl]
          by_cases hc : x < 3 * g_hn s
          · rw [if_pos hc, if_pos hc, if_pos hc]
          · rw [if_neg hc, if_neg hc, if_neg hc]
        by_cases h0 : cmS s day = 0
        · have hy : ¬ alk s day ahd = true := fun z => (hAi.mp z).2 h0
          rw [if_neg hy] at k
          refine jx_iload4 (pc := 63) d_J_areAlike_63 ?_
          refine jx_if_eq (pc := 65) 74 d_J_areAlike_65 (by decide) (fun c65 => ?_) (fun c65 => absurd c65 (fun q => q (z0.mpr h0)))
          refine jx_iconst (pc := 74) (v := 0) d_J_areAlike_74 (by decide) ?_
          refine jx_zret (pc := 75) hX rfl (by first | exact Or.inl rfl | exact Or.inr rfl) d_J_areAlike_75 ?_
          rotate_left
          exact k M3 hbb
        · by_cases h1 : cmS s day = cmS s ahd
          · -- as many
            refine jx_iload4 (pc := 63) d_J_areAlike_63 ?_
            refine jx_if_eq (pc := 65) 74 d_J_areAlike_65 (by decide) (fun c65 => absurd c65 (fun q => h0 (z0.mp q))) (fun c65 => ?_)
            refine jx_iload4 (pc := 68) d_J_areAlike_68 ?_
            refine jx_iload3 (pc := 70) d_J_areAlike_70 ?_
            refine jx_icmp_eq (pc := 71) 76 d_J_areAlike_71 (by decide) (fun c71 => ?_) (fun c71 => absurd c71 (fun q => q (z1.mpr h1)))
            refine jx_iconst (pc := 76) (v := 0) d_J_areAlike_76 (by decide) ?_
            refine jx_istore5 (pc := 77) d_J_areAlike_77 rfl (Nat.le_of_ble_eq_true rfl) ?_
            rotate_left
            exact last M3 hbb hxx h0 21 0 (by omega) (fun x hx => absurd hx (by omega))
          · have hy : ¬ alk s day ahd = true := fun z => h1 (by rw [cmS_sum hw, cmS_sum hw]; exact sumN_congr (hAi.mp z).1)
            rw [if_neg hy] at k
            refine jx_iload4 (pc := 63) d_J_areAlike_63 ?_
            refine jx_if_eq (pc := 65) 74 d_J_areAlike_65 (by decide) (fun c65 => absurd c65 (fun q => h0 (z0.mp q))) (fun c65 => ?_)
            refine jx_iload4 (pc := 68) d_J_areAlike_68 ?_
            refine jx_iload3 (pc := 70) d_J_areAlike_70 ?_
            refine jx_icmp_eq (pc := 71) 76 d_J_areAlike_71 (by decide) (fun c71 => absurd c71 (fun q => h1 (z1.mp q))) (fun c71 => ?_)
            refine jx_iconst (pc := 74) (v := 0) d_J_areAlike_74 (by decide) ?_
            refine jx_zret (pc := 75) hX rfl (by first | exact Or.inl rfl | exact Or.inr rfl) d_J_areAlike_75 ?_
            rotate_left
            exact k M3 hbb
      have first : ∀ (r i : Nat) (M1 : j_M), i + r = 21 → (∀ b, b ≠ 34 → M1 b = M b) → (∀ x, x < i → M1 34 x = 0) → j_W (d + 2) I_J_areAlike X 26 [some (.ref 0), some (.int (nI day)), some (.int (nI ahd)), some (.int (nI i)), none, none] [] M1 := by
        intro r
        induction r with
        | zero =>
          intro i M1 hi hb hx
          have hi' : i = 21 := by omega
          subst hi'
          refine jx_iload3 (pc := 26) d_J_areAlike_26 ?_
          refine jx_aload0 (pc := 27) d_J_areAlike_27 ?_
          refine jx_getR (pc := 28) gf_J_85 d_J_areAlike_28 ad_0 sh_0 rfl ?_
          refine jx_alen (pc := 31) d_J_areAlike_31 ad_34 (Or.inl rfl) sh_34 rfl ?_
          refine jx_icmp_ge (pc := 32) 48 d_J_areAlike_32 (by decide) (fun c32 => ?_) (fun c32 => absurd c32 (fun q => q (show nI 21 ≤ nI 21 from Int32.le_refl _)))
          rotate_left
          exact mid M1 hb hx none
        | succ r ih =>
          intro i M1 hi hb hx
          have e1 : (nI i).toNatClampNeg = i := nI_cl (by omega)
          refine jx_iload3 (pc := 26) d_J_areAlike_26 ?_
          refine jx_aload0 (pc := 27) d_J_areAlike_27 ?_
          refine jx_getR (pc := 28) gf_J_85 d_J_areAlike_28 ad_0 sh_0 rfl ?_
          refine jx_alen (pc := 31) d_J_areAlike_31 ad_34 (Or.inl rfl) sh_34 rfl ?_
          refine jx_icmp_ge (pc := 32) 48 d_J_areAlike_32 (by decide) (fun c32 => absurd c32 (show ¬ nI 21 ≤ nI i from nI_ge (by omega) (by omega))) (fun c32 => ?_)
          refine jx_aload0 (pc := 35) d_J_areAlike_35 ?_
          refine jx_getR (pc := 36) gf_J_85 d_J_areAlike_36 ad_0 sh_0 rfl ?_
          refine jx_iload3 (pc := 39) d_J_areAlike_39 ?_
          refine jx_iconst (pc := 40) (v := 0) d_J_areAlike_40 (by decide) ?_
          refine jx_iast (pc := 41) d_J_areAlike_41 ad_34 sh_34 (vp_in_nI (show i < 21 by omega) (by omega)) ?_
          refine jx_iinc3 (pc := 42) d_J_areAlike_42 rfl (Nat.le_of_ble_eq_true rfl) ?_
          refine jx_goto (pc := 45) 26 d_J_areAlike_45 (by decide) ?_
          rotate_left
          rw [nI_add1, e1]
          refine ih (i + 1) _ (by omega) (fun b h => by rw [j_set_n _ _ _ h]; exact hb b h) (fun x hxx => ?_)
          rw [j_set_s]; unfold upd
          by_cases hc : x = i
          · rw [if_pos hc]
          · rw [if_neg hc]; exact hx x (by omega)
      refine jx_aload0 (pc := 0) d_J_areAlike_0 ?_
      refine jx_getR (pc := 1) gf_J_40 d_J_areAlike_1 ad_0 sh_0 rfl ?_
      refine jx_iload1 (pc := 4) d_J_areAlike_4 ?_
      refine jx_callV1 (pc := 5) (d' := 0) vo_Co_isAwake lk_J_245 d_J_areAlike_5 ad_15 sh_15 rfl (by omega) (Nat.le_of_ble_eq_true rfl) ?_
      refine c_Co_awake hC.2.2.1 hw.2.2.2.2.1 hday ?_
      refine jx_r1 ?_
      refine jx_if_eq (pc := 8) 22 d_J_areAlike_8 (by decide) (fun c8 => absurd c8 (by rw [if_neg s1]; decide)) (fun c8 => ?_)
      refine jx_aload0 (pc := 11) d_J_areAlike_11 ?_
      refine jx_getR (pc := 12) gf_J_40 d_J_areAlike_12 ad_0 sh_0 rfl ?_
      refine jx_iload2 (pc := 15) d_J_areAlike_15 ?_
      refine jx_callV1 (pc := 16) (d' := 0) vo_Co_isAwake lk_J_245 d_J_areAlike_16 ad_15 sh_15 rfl (by omega) (Nat.le_of_ble_eq_true rfl) ?_
      refine c_Co_awake hC.2.2.1 hw.2.2.2.2.1 hahd ?_
      refine jx_r1 ?_
      refine jx_if_ne (pc := 19) 24 d_J_areAlike_19 (by decide) (fun c19 => ?_) (fun c19 => absurd c19 (by rw [if_neg s2]; decide))
      refine jx_iconst (pc := 24) (v := 0) d_J_areAlike_24 (by decide) ?_
      refine jx_istore3 (pc := 25) d_J_areAlike_25 rfl (Nat.le_of_ble_eq_true rfl) ?_
      rotate_left
      exact first 21 0 M (by omega) (fun _ _ => rfl) (fun x hx => absurd hx (by omega))
def qrC (s : Sg) (day ahd : Nat) : Bool := decide (fdD s 0 day ≠ fdD s 0 ahd) && alk s day ahd
def qin (s : Sg) (day : Nat) : Nat → Option Nat
  | 0 => none
  | n + 1 => match qin s day n with
    | some a => some a
    | none => if qrC s day n then some n else none
def qout (s : Sg) : Nat → Option (Nat × Nat)
  | 0 => none
  | n + 1 => match qout s n with
    | some p => some p
    | none => (qin s n n).map (fun a => (n, a))
theorem qin_mono {s : Sg} {day a : Nat} : ∀ {n m : Nat}, qin s day n = some a → n ≤ m → qin s day m = some a := by
  intro n m h hm
  induction m with
  | zero => rw [show n = 0 by omega] at h; exact h
  | succ m ih =>
    by_cases hc : n = m + 1
    · rw [← hc]; exact h
    · unfold qin; rw [ih (by omega)]
theorem qout_mono {s : Sg} {p : Nat × Nat} : ∀ {n m : Nat}, qout s n = some p → n ≤ m → qout s m = some p := by
  intro n m h hm
  induction m with
  | zero => rw [show n = 0 by omega] at h; exact h
  | succ m ih =>
    by_cases hc : n = m + 1
    · rw [← hc]; exact h
    · unfold qout; rw [ih (by omega)]
theorem qin_s {s : Sg} {day n : Nat} (h : qin s day n = none) : qin s day (n + 1) = if qrC s day n then some n else none := by rw [qin, h]
theorem qout_s {s : Sg} {n : Nat} (h : qout s n = none) : qout s (n + 1) = (qin s n n).map (fun a => (n, a)) := by rw [qout, h]
def r_quarrel (s : Sg) (w : Int32) : Int32 := if 0 ≤ w ∧ w < 2 then (match qout s 30 with
  | none => -1
  | some p => if w = 0 then nI p.1 else nI p.2) else -2
theorem c_J_quarrel {d : Nat} {w : Int32} {s : Sg} {M : j_M} {Q : Option Value → j_M → Prop} (hw : WF s) (hR : RepC s M) (k : ∀ M', Scr M M' → Q (some (.int (r_quarrel s w))) M') : j_Ct (d + 4) I_J_quarrel [.ref 0, .int w] M Q := by
  refine j_met (by decide +kernel) co_J_quarrel (Nat.le_of_ble_eq_true rfl) (fun X hX => ?_)
  show j_W (d + 4) I_J_quarrel X 0 [some (.ref 0), some (.int w), none, none, none] [] M
  by_cases hb : 0 ≤ w ∧ w < 2
  · have fin : ∀ (o : Option (Nat × Nat)), qout s 30 = o → r_quarrel s w = (match o with
      | none => -1
      | some p => if w = 0 then nI p.1 else nI p.2) := fun o ho => by unfold r_quarrel; rw [if_pos hb, ho]
    have loop : ∀ (r r2 day ahd : Nat) (M2 : j_M) (e : Option Value), day + r = 30 → ahd + r2 = day → Scr M M2 → (∀ q, q < 30 → M2 32 q = em (fdD s 0 q)) → qout s day = none → qin s day ahd = none → (ahd ≤ day) → day < 30 → j_W (d + 4) I_J_quarrel X 33 [some (.ref 0), some (.int w), some (.ref 32), some (.int (nI day)), some (.int (nI ahd))] [] M2 := by
      intro r
      induction r with
      | zero => intro r2 day ahd M2 e h1 h2 hS hf hq1 hq2 hle hlt; omega
      | succ r ih =>
        intro r2
        induction r2 with
        | zero =>
          intro day ahd M2 e h1 h2 hS hf hq1 hq2 hle hlt
          have h3 : ahd = day := by omega
          subst h3
          have hq3 : qout s (ahd + 1) = none := by rw [qout_s hq1, hq2]; rfl
          by_cases h29 : ahd + 1 = 30
          · rw [h29] at hq3
            rw [fin none hq3] at k
            refine jx_iload4 (pc := 33) d_J_quarrel_33 ?_
            refine jx_iload3 (pc := 35) d_J_quarrel_35 ?_
            refine jx_icmp_ge (pc := 36) 76 d_J_quarrel_36 (by decide) (fun c36 => ?_) (fun c36 => absurd c36 (fun q => q (Int32.le_refl _)))
            refine jx_iinc3 (pc := 76) d_J_quarrel_76 rfl (Nat.le_of_ble_eq_true rfl) ?_
            refine jx_goto (pc := 79) 24 d_J_quarrel_79 (by decide) ?_
            refine jx_iload3 (pc := 24) d_J_quarrel_24 ?_
            refine jx_bipush (pc := 25) (v := 30) d_J_quarrel_25 (by decide) ?_
            refine jx_icmp_ge (pc := 27) 82 d_J_quarrel_27 (by decide) (fun c27 => ?_) (fun c27 => absurd c27 (fun q => q (by rw [nI_add1, h29]; exact Int32.le_refl _)))
            refine jx_iconst (pc := 82) (v := (-1)) d_J_quarrel_82 (by decide) ?_
            refine jx_iret (pc := 83) hX rfl d_J_quarrel_83 ?_
            rotate_left
            exact k M2 hS
          · have := ih (ahd + 1) (ahd + 1) 0 M2 none (by omega) (by omega) hS hf hq3 rfl (by omega) (by omega)
            refine jx_iload4 (pc := 33) d_J_quarrel_33 ?_
            refine jx_iload3 (pc := 35) d_J_quarrel_35 ?_
            refine jx_icmp_ge (pc := 36) 76 d_J_quarrel_36 (by decide) (fun c36 => ?_) (fun c36 => absurd c36 (fun q => q (Int32.le_refl _)))
            refine jx_iinc3 (pc := 76) d_J_quarrel_76 rfl (Nat.le_of_ble_eq_true rfl) ?_
            refine jx_goto (pc := 79) 24 d_J_quarrel_79 (by decide) ?_
            refine jx_iload3 (pc := 24) d_J_quarrel_24 ?_
            refine jx_bipush (pc := 25) (v := 30) d_J_quarrel_25 (by decide) ?_
            refine jx_icmp_ge (pc := 27) 82 d_J_quarrel_27 (by decide) (fun c27 => absurd c27 (by rw [nI_add1]; exact (show ¬ nI 30 ≤ nI (ahd + 1) from nI_ge (by omega) (by omega)))) (fun c27 => ?_)
            refine jx_iconst (pc := 30) (v := 0) d_J_quarrel_30 (by decide) ?_
            refine jx_istore4 (pc := 31) d_J_quarrel_31 rfl (Nat.le_of_ble_eq_true rfl) ?_
            rotate_left
            rw [nI_add1]
            exact this
        | succ r2 ih2 =>
          intro day ahd M2 e h1 h2 hS hf hq1 hq2 hle hlt
          have e1 : (nI day).toNatClampNeg = day := nI_cl (by omega)
          have e2 : (nI ahd).toNatClampNeg = ahd := nI_cl (by omega)
          have l1 := fdD_lt hw 0 (show day < 30 by omega)
          have l2 := fdD_lt hw 0 (show ahd < 30 by omega)
          have hfd : M2 32 (nI day).toNatClampNeg = M2 32 (nI ahd).toNatClampNeg ↔ fdD s 0 day = fdD s 0 ahd := by rw [e1, e2, hf day (by omega), hf ahd (by omega)]; exact em_inj (by omega) (by omega)
          have hR2 := hS.rep hR
          by_cases hne : fdD s 0 day = fdD s 0 ahd
          · have hq3 : qin s day (ahd + 1) = none := by rw [qin_s hq2, if_neg (by unfold qrC; simp [hne])]
            have h9 := ih2 day (ahd + 1) M2 none h1 (by omega) hS hf hq1 hq3 (by omega) hlt
            refine jx_iload4 (pc := 33) d_J_quarrel_33 ?_
            refine jx_iload3 (pc := 35) d_J_quarrel_35 ?_
            refine jx_icmp_ge (pc := 36) 76 d_J_quarrel_36 (by decide) (fun c36 => absurd c36 (nI_ge (by omega) (by omega))) (fun c36 => ?_)
            refine jx_aload2 (pc := 39) d_J_quarrel_39 ?_
            refine jx_iload3 (pc := 40) d_J_quarrel_40 ?_
            refine jx_iald (pc := 41) d_J_quarrel_41 ad_32 sh_32 (vp_in_nI (show day < 30 by omega) (by omega)) ?_
            refine jx_aload2 (pc := 42) d_J_quarrel_42 ?_
            refine jx_iload4 (pc := 43) d_J_quarrel_43 ?_
            refine jx_iald (pc := 45) d_J_quarrel_45 ad_32 sh_32 (vp_in_nI (show ahd < 30 by omega) (by omega)) ?_
            refine jx_icmp_eq (pc := 46) 70 d_J_quarrel_46 (by decide) (fun c46 => ?_) (fun c46 => absurd c46 (fun q => q (hfd.mpr hne)))
            refine jx_iinc4 (pc := 70) d_J_quarrel_70 rfl (Nat.le_of_ble_eq_true rfl) ?_
            refine jx_goto (pc := 73) 33 d_J_quarrel_73 (by decide) ?_
            rotate_left
            rw [nI_add1]
            exact h9
          · by_cases ha : alk s day ahd = true
            · have hq3 : qin s day (ahd + 1) = some ahd := by rw [qin_s hq2, if_pos (by unfold qrC; simp [hne, ha])]
              have hq4 : qout s (day + 1) = some (day, ahd) := by rw [qout_s hq1, qin_mono hq3 (by omega)]; rfl
              rw [fin _ (qout_mono hq4 (by omega))] at k
              by_cases hw0 : w = 0
              · have k2 : ∀ M', Scr M M' → Q (some (.int (nI day))) M' := fun M' h => by have := k M' h; simp only [if_pos hw0] at this; exact this
                refine jx_iload4 (pc := 33) d_J_quarrel_33 ?_
                refine jx_iload3 (pc := 35) d_J_quarrel_35 ?_
                refine jx_icmp_ge (pc := 36) 76 d_J_quarrel_36 (by decide) (fun c36 => absurd c36 (nI_ge (by omega) (by omega))) (fun c36 => ?_)
                refine jx_aload2 (pc := 39) d_J_quarrel_39 ?_
                refine jx_iload3 (pc := 40) d_J_quarrel_40 ?_
                refine jx_iald (pc := 41) d_J_quarrel_41 ad_32 sh_32 (vp_in_nI (show day < 30 by omega) (by omega)) ?_
                refine jx_aload2 (pc := 42) d_J_quarrel_42 ?_
                refine jx_iload4 (pc := 43) d_J_quarrel_43 ?_
                refine jx_iald (pc := 45) d_J_quarrel_45 ad_32 sh_32 (vp_in_nI (show ahd < 30 by omega) (by omega)) ?_
                refine jx_icmp_eq (pc := 46) 70 d_J_quarrel_46 (by decide) (fun c46 => absurd c46 (fun q => hne (hfd.mp q))) (fun c46 => ?_)
                refine jx_aload0 (pc := 49) d_J_quarrel_49 ?_
                refine jx_iload3 (pc := 50) d_J_quarrel_50 ?_
                refine jx_iload4 (pc := 51) d_J_quarrel_51 ?_
                refine jx_callV2 (pc := 53) (d' := d + 3) vo_J_areAlike lk_J_180 d_J_quarrel_53 ad_0 sh_0 rfl (by omega) (Nat.le_of_ble_eq_true rfl) ?_
                refine c_J_areAlike (d := d + 1) hw hR2 (by omega) (by omega) (fun M3 hb3 => ?_)
                refine jx_r1 ?_
                refine jx_if_eq (pc := 56) 70 d_J_quarrel_56 (by decide) (fun c56 => absurd c56 (by rw [if_pos ha]; decide)) (fun c56 => ?_)
                refine jx_iload1 (pc := 59) d_J_quarrel_59 ?_
                refine jx_if_ne (pc := 60) 67 d_J_quarrel_60 (by decide) (fun c60 => absurd c60 (fun q => q hw0)) (fun c60 => ?_)
                refine jx_iload3 (pc := 63) d_J_quarrel_63 ?_
                refine jx_goto (pc := 64) 69 d_J_quarrel_64 (by decide) ?_
                refine jx_iret (pc := 69) hX rfl d_J_quarrel_69 ?_
                rotate_left
                exact k2 M3 (hS.tr (fun b h => hb3 b (by unfold PC at h; omega)))
              · have k2 : ∀ M', Scr M M' → Q (some (.int (nI ahd))) M' := fun M' h => by have := k M' h; simp only [if_neg hw0] at this; exact this
                refine jx_iload4 (pc := 33) d_J_quarrel_33 ?_
                refine jx_iload3 (pc := 35) d_J_quarrel_35 ?_
                refine jx_icmp_ge (pc := 36) 76 d_J_quarrel_36 (by decide) (fun c36 => absurd c36 (nI_ge (by omega) (by omega))) (fun c36 => ?_)
                refine jx_aload2 (pc := 39) d_J_quarrel_39 ?_
                refine jx_iload3 (pc := 40) d_J_quarrel_40 ?_
                refine jx_iald (pc := 41) d_J_quarrel_41 ad_32 sh_32 (vp_in_nI (show day < 30 by omega) (by omega)) ?_
                refine jx_aload2 (pc := 42) d_J_quarrel_42 ?_
                refine jx_iload4 (pc := 43) d_J_quarrel_43 ?_
                refine jx_iald (pc := 45) d_J_quarrel_45 ad_32 sh_32 (vp_in_nI (show ahd < 30 by omega) (by omega)) ?_
                refine jx_icmp_eq (pc := 46) 70 d_J_quarrel_46 (by decide) (fun c46 => absurd c46 (fun q => hne (hfd.mp q))) (fun c46 => ?_)
                refine jx_aload0 (pc := 49) d_J_quarrel_49 ?_
                refine jx_iload3 (pc := 50) d_J_quarrel_50 ?_
                refine jx_iload4 (pc := 51) d_J_quarrel_51 ?_
                refine jx_callV2 (pc := 53) (d' := d + 3) vo_J_areAlike lk_J_180 d_J_quarrel_53 ad_0 sh_0 rfl (by omega) (Nat.le_of_ble_eq_true rfl) ?_
                refine c_J_areAlike (d := d + 1) hw hR2 (by omega) (by omega) (fun M3 hb3 => ?_)
                refine jx_r1 ?_
                refine jx_if_eq (pc := 56) 70 d_J_quarrel_56 (by decide) (fun c56 => absurd c56 (by rw [if_pos ha]; decide)) (fun c56 => ?_)
                refine jx_iload1 (pc := 59) d_J_quarrel_59 ?_
                refine jx_if_ne (pc := 60) 67 d_J_quarrel_60 (by decide) (fun c60 => ?_) (fun c60 => absurd c60 hw0)
                refine jx_iload4 (pc := 67) d_J_quarrel_67 ?_
                refine jx_iret (pc := 69) hX rfl d_J_quarrel_69 ?_
                rotate_left
                exact k2 M3 (hS.tr (fun b h => hb3 b (by unfold PC at h; omega)))
            · have hq3 : qin s day (ahd + 1) = none := by rw [qin_s hq2, if_neg (by unfold qrC; simp [ha])]
              refine jx_iload4 (pc := 33) d_J_quarrel_33 ?_
              refine jx_iload3 (pc := 35) d_J_quarrel_35 ?_
              refine jx_icmp_ge (pc := 36) 76 d_J_quarrel_36 (by decide) (fun c36 => absurd c36 (nI_ge (by omega) (by omega))) (fun c36 => ?_)
              refine jx_aload2 (pc := 39) d_J_quarrel_39 ?_
              refine jx_iload3 (pc := 40) d_J_quarrel_40 ?_
              refine jx_iald (pc := 41) d_J_quarrel_41 ad_32 sh_32 (vp_in_nI (show day < 30 by omega) (by omega)) ?_
              refine jx_aload2 (pc := 42) d_J_quarrel_42 ?_
              refine jx_iload4 (pc := 43) d_J_quarrel_43 ?_
              refine jx_iald (pc := 45) d_J_quarrel_45 ad_32 sh_32 (vp_in_nI (show ahd < 30 by omega) (by omega)) ?_
              refine jx_icmp_eq (pc := 46) 70 d_J_quarrel_46 (by decide) (fun c46 => absurd c46 (fun q => hne (hfd.mp q))) (fun c46 => ?_)
              refine jx_aload0 (pc := 49) d_J_quarrel_49 ?_
              refine jx_iload3 (pc := 50) d_J_quarrel_50 ?_
              refine jx_iload4 (pc := 51) d_J_quarrel_51 ?_
              refine jx_callV2 (pc := 53) (d' := d + 3) vo_J_areAlike lk_J_180 d_J_quarrel_53 ad_0 sh_0 rfl (by omega) (Nat.le_of_ble_eq_true rfl) ?_
              refine c_J_areAlike (d := d + 1) hw hR2 (by omega) (by omega) (fun M3 hb3 => ?_)
              refine jx_r1 ?_
              refine jx_if_eq (pc := 56) 70 d_J_quarrel_56 (by decide) (fun c56 => ?_) (fun c56 => absurd c56 (fun q => q (by rw [if_neg ha])))
              refine jx_iinc4 (pc := 70) d_J_quarrel_70 rfl (Nat.le_of_ble_eq_true rfl) ?_
              refine jx_goto (pc := 73) 33 d_J_quarrel_73 (by decide) ?_
              rotate_left
              rw [nI_add1]
              exact ih2 day (ahd + 1) M3 none h1 (by omega) (hS.tr (fun b h => hb3 b (by unfold PC at h; omega))) (fun q hq => by rw [hb3 32 (by omega)]; exact hf q hq) hq1 hq3 (by omega) hlt
    refine jx_iload1 (pc := 0) d_J_quarrel_0 ?_
    refine jx_callS1 (pc := 1) (d' := 0) so_J_isOneOfTwo lk_J_162 d_J_quarrel_1 (by omega) (Nat.le_of_ble_eq_true rfl) ?_
    refine c_J_isOneOfTwo ?_
    refine jx_r1 ?_
    refine jx_if_ne (pc := 4) 10 d_J_quarrel_4 (by decide) (fun c4 => ?_) (fun c4 => absurd c4 (z01p hb))
    refine jx_aload0 (pc := 10) d_J_quarrel_10 ?_
    refine jx_iconst (pc := 11) (v := 0) d_J_quarrel_11 (by decide) ?_
    refine jx_callV1 (pc := 12) (d' := d + 3) vo_J_noteFound lk_J_176 d_J_quarrel_12 ad_0 sh_0 rfl (by omega) (Nat.le_of_ble_eq_true rfl) ?_
    refine c_J_noteFound (dog := 0) hw hR (by omega) (fun M1 hS1 hf1 hb1 => ?_)
    refine jx_r0 ?_
    refine jx_aload0 (pc := 15) d_J_quarrel_15 ?_
    refine jx_getR (pc := 16) gf_J_82 d_J_quarrel_16 ad_0 sh_0 rfl ?_
    refine jx_iconst (pc := 19) (v := 0) d_J_quarrel_19 (by decide) ?_
    refine jx_aald (pc := 20) (b := 32) d_J_quarrel_20 ad_31 (Or.inr rfl) sh_31 (by unfold vp_in; decide) (by decide) ?_
    refine jx_astore2 (pc := 21) d_J_quarrel_21 rfl (Nat.le_of_ble_eq_true rfl) ?_
    refine jx_iconst (pc := 22) (v := 1) d_J_quarrel_22 (by decide) ?_
    refine jx_istore3 (pc := 23) d_J_quarrel_23 rfl (Nat.le_of_ble_eq_true rfl) ?_
    refine jx_iload3 (pc := 24) d_J_quarrel_24 ?_
    refine jx_bipush (pc := 25) (v := 30) d_J_quarrel_25 (by decide) ?_
    refine jx_icmp_ge (pc := 27) 82 d_J_quarrel_27 (by decide) (fun c27 => absurd c27 (by decide)) (fun c27 => ?_)
    refine jx_iconst (pc := 30) (v := 0) d_J_quarrel_30 (by decide) ?_
    refine jx_istore4 (pc := 31) d_J_quarrel_31 rfl (Nat.le_of_ble_eq_true rfl) ?_
    rotate_left
    have q1 : qout s 1 = none := by rw [qout_s rfl]; rfl
    exact loop 29 1 1 0 M1 none (by omega) (by omega) hS1 hf1 q1 rfl (by omega) (by omega)
  · have hr : r_quarrel s w = -2 := by unfold r_quarrel; rw [if_neg hb]
    rw [hr] at k
    refine jx_iload1 (pc := 0) d_J_quarrel_0 ?_
    refine jx_callS1 (pc := 1) (d' := 0) so_J_isOneOfTwo lk_J_162 d_J_quarrel_1 (by omega) (Nat.le_of_ble_eq_true rfl) ?_
    refine c_J_isOneOfTwo ?_
    refine jx_r1 ?_
    refine jx_if_ne (pc := 4) 10 d_J_quarrel_4 (by decide) (fun c4 => absurd c4 (fun q => q (z01.mpr hb))) (fun c4 => ?_)
    refine jx_bipush (pc := 7) (v := (-2)) d_J_quarrel_7 (by decide) ?_
    refine jx_iret (pc := 9) hX rfl d_J_quarrel_9 ?_
    rotate_left
    exact k M Scr.rf
