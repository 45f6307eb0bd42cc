/-! NUMBERS AND LEAVES -/
theorem fa_lt (a b : Int32) : a < b ↔ a.toInt < b.toInt := Int32.lt_iff_toInt_lt
theorem fa_le (a b : Int32) : a ≤ b ↔ a.toInt ≤ b.toInt := Int32.le_iff_toInt_le
theorem fa_eq (a b : Int32) : a = b ↔ a.toInt = b.toInt := ⟨fun h => by rw [h], fun h => Int32.toInt_inj.mp h⟩
theorem jq {Q : Option Value → j_M → Prop} {v w : Int32} {M : j_M} (k : Q (some (.int w)) M) (h : v = w) : Q (some (.int v)) M := h ▸ k
theorem jql {Q : Option Value → j_M → Prop} {v w : Int64} {M : j_M} (k : Q (some (.long w)) M) (h : v = w) : Q (some (.long v)) M := h ▸ k
theorem jqm {Q : Option Value → j_M → Prop} {v w : Int32} {M N : j_M} (k : Q (some (.int w)) N) (h : v = w) (h2 : M = N) : Q (some (.int v)) M := h2 ▸ h ▸ k
/-- -1, or a number -/
def em (x : Nat) : Int32 := if x = 9 then -1 else nI x
theorem in_of {x : Int32} {n : Nat} (hn : n < 2 ^ 31) (h : 0 ≤ x) (h2 : x < nI n) : ∃ j : Nat, j < n ∧ x = nI j := by
  obtain ⟨j, hj, rfl⟩ := nI_of (x := x) (Int32.not_lt.mpr h)
  exact ⟨j, (nI_ltI hj hn).mp h2, rfl⟩
theorem in_iff {x : Int32} {n : Nat} (hn : n < 2 ^ 31) : (0 ≤ x ∧ x < nI n) ↔ ∃ j : Nat, j < n ∧ x = nI j := by
  constructor
  · intro h; exact in_of hn h.1 h.2
  · rintro ⟨j, hj, rfl⟩; exact ⟨nI_pos' (by omega), nI_lt hj hn⟩
theorem nI_cl {n : Nat} (h : n < 2 ^ 31) : (nI n).toNatClampNeg = n := nI_clamp h
theorem c_J_isDay {d : Nat} {x : Int32} {M : j_M} {Q : Option Value → j_M → Prop}  (k : Q (some (.int (if 0 ≤ x ∧ x < 30 then 1 else 0))) M) : j_Ct d I_J_isDay [.int x] M Q := by
  refine j_met (by decide +kernel) co_J_isDay (Nat.le_of_ble_eq_true rfl) (fun X hX => ?_)
  show j_W d I_J_isDay X 0 [some (.int x)] [] M
  refine jx_iload0 (pc := 0) d_J_isDay_0 ?_
  refine jx_if_lt (pc := 1) 14 d_J_isDay_1 (by decide) (fun c1 => ?_) (fun c1 => ?_)
  refine jx_iconst (pc := 14) (v := 0) d_J_isDay_14 (by decide) ?_
  refine jx_zret (pc := 15) hX rfl (by first | exact Or.inl rfl | exact Or.inr rfl) d_J_isDay_15 ?_
  rotate_left
  refine jx_iload0 (pc := 4) d_J_isDay_4 ?_
  refine jx_bipush (pc := 5) (v := 30) d_J_isDay_5 (by decide) ?_
  refine jx_icmp_ge (pc := 7) 14 d_J_isDay_7 (by decide) (fun c7 => ?_) (fun c7 => ?_)
  refine jx_iconst (pc := 14) (v := 0) d_J_isDay_14 (by decide) ?_
  refine jx_zret (pc := 15) hX rfl (by first | exact Or.inl rfl | exact Or.inr rfl) d_J_isDay_15 ?_
  rotate_left
  refine jx_iconst (pc := 10) (v := 1) d_J_isDay_10 (by decide) ?_
  refine jx_goto (pc := 11) 15 d_J_isDay_11 (by decide) ?_
  refine jx_zret (pc := 15) hX rfl (by first | exact Or.inl rfl | exact Or.inr rfl) d_J_isDay_15 ?_
  rotate_left
  all_goals exact jq k (by split <;> first | rfl | (exfalso; simp only [fa_lt, fa_le, fa_eq, Int32.reduceToInt] at *; omega))
theorem c_J_isDog {d : Nat} {x : Int32} {M : j_M} {Q : Option Value → j_M → Prop}  (k : Q (some (.int (if 0 ≤ x ∧ x < 2 then 1 else 0))) M) : j_Ct d I_J_isDog [.int x] M Q := by
  refine j_met (by decide +kernel) co_J_isDog (Nat.le_of_ble_eq_true rfl) (fun X hX => ?_)
  show j_W d I_J_isDog X 0 [some (.int x)] [] M
  refine jx_iload0 (pc := 0) d_J_isDog_0 ?_
  refine jx_if_lt (pc := 1) 13 d_J_isDog_1 (by decide) (fun c1 => ?_) (fun c1 => ?_)
  refine jx_iconst (pc := 13) (v := 0) d_J_isDog_13 (by decide) ?_
  refine jx_zret (pc := 14) hX rfl (by first | exact Or.inl rfl | exact Or.inr rfl) d_J_isDog_14 ?_
  rotate_left
  refine jx_iload0 (pc := 4) d_J_isDog_4 ?_
  refine jx_iconst (pc := 5) (v := 2) d_J_isDog_5 (by decide) ?_
  refine jx_icmp_ge (pc := 6) 13 d_J_isDog_6 (by decide) (fun c6 => ?_) (fun c6 => ?_)
  refine jx_iconst (pc := 13) (v := 0) d_J_isDog_13 (by decide) ?_
  refine jx_zret (pc := 14) hX rfl (by first | exact Or.inl rfl | exact Or.inr rfl) d_J_isDog_14 ?_
  rotate_left
  refine jx_iconst (pc := 9) (v := 1) d_J_isDog_9 (by decide) ?_
  refine jx_goto (pc := 10) 14 d_J_isDog_10 (by decide) ?_
  refine jx_zret (pc := 14) hX rfl (by first | exact Or.inl rfl | exact Or.inr rfl) d_J_isDog_14 ?_
  rotate_left
  all_goals exact jq k (by split <;> first | rfl | (exfalso; simp only [fa_lt, fa_le, fa_eq, Int32.reduceToInt] at *; omega))
theorem c_J_isThing {d : Nat} {x : Int32} {M : j_M} {Q : Option Value → j_M → Prop}  (k : Q (some (.int (if 0 ≤ x ∧ x < 3 then 1 else 0))) M) : j_Ct d I_J_isThing [.int x] M Q := by
  refine j_met (by decide +kernel) co_J_isThing (Nat.le_of_ble_eq_true rfl) (fun X hX => ?_)
  show j_W d I_J_isThing X 0 [some (.int x)] [] M
  refine jx_iload0 (pc := 0) d_J_isThing_0 ?_
  refine jx_if_lt (pc := 1) 13 d_J_isThing_1 (by decide) (fun c1 => ?_) (fun c1 => ?_)
  refine jx_iconst (pc := 13) (v := 0) d_J_isThing_13 (by decide) ?_
  refine jx_zret (pc := 14) hX rfl (by first | exact Or.inl rfl | exact Or.inr rfl) d_J_isThing_14 ?_
  rotate_left
  refine jx_iload0 (pc := 4) d_J_isThing_4 ?_
  refine jx_iconst (pc := 5) (v := 3) d_J_isThing_5 (by decide) ?_
  refine jx_icmp_ge (pc := 6) 13 d_J_isThing_6 (by decide) (fun c6 => ?_) (fun c6 => ?_)
  refine jx_iconst (pc := 13) (v := 0) d_J_isThing_13 (by decide) ?_
  refine jx_zret (pc := 14) hX rfl (by first | exact Or.inl rfl | exact Or.inr rfl) d_J_isThing_14 ?_
  rotate_left
  refine jx_iconst (pc := 9) (v := 1) d_J_isThing_9 (by decide) ?_
  refine jx_goto (pc := 10) 14 d_J_isThing_10 (by decide) ?_
  refine jx_zret (pc := 14) hX rfl (by first | exact Or.inl rfl | exact Or.inr rfl) d_J_isThing_14 ?_
  rotate_left
  all_goals exact jq k (by split <;> first | rfl | (exfalso; simp only [fa_lt, fa_le, fa_eq, Int32.reduceToInt] at *; omega))
theorem c_J_isSearchDay {d : Nat} {x : Int32} {M : j_M} {Q : Option Value → j_M → Prop}  (k : Q (some (.int (if 0 ≤ x ∧ x < 10 then 1 else 0))) M) : j_Ct d I_J_isSearchDay [.int x] M Q := by
  refine j_met (by decide +kernel) co_J_isSearchDay (Nat.le_of_ble_eq_true rfl) (fun X hX => ?_)
  show j_W d I_J_isSearchDay X 0 [some (.int x)] [] M
  refine jx_iload0 (pc := 0) d_J_isSearchDay_0 ?_
  refine jx_if_lt (pc := 1) 14 d_J_isSearchDay_1 (by decide) (fun c1 => ?_) (fun c1 => ?_)
  refine jx_iconst (pc := 14) (v := 0) d_J_isSearchDay_14 (by decide) ?_
  refine jx_zret (pc := 15) hX rfl (by first | exact Or.inl rfl | exact Or.inr rfl) d_J_isSearchDay_15 ?_
  rotate_left
  refine jx_iload0 (pc := 4) d_J_isSearchDay_4 ?_
  refine jx_bipush (pc := 5) (v := 10) d_J_isSearchDay_5 (by decide) ?_
  refine jx_icmp_ge (pc := 7) 14 d_J_isSearchDay_7 (by decide) (fun c7 => ?_) (fun c7 => ?_)
  refine jx_iconst (pc := 14) (v := 0) d_J_isSearchDay_14 (by decide) ?_
  refine jx_zret (pc := 15) hX rfl (by first | exact Or.inl rfl | exact Or.inr rfl) d_J_isSearchDay_15 ?_
  rotate_left
  refine jx_iconst (pc := 10) (v := 1) d_J_isSearchDay_10 (by decide) ?_
  refine jx_goto (pc := 11) 15 d_J_isSearchDay_11 (by decide) ?_
  refine jx_zret (pc := 15) hX rfl (by first | exact Or.inl rfl | exact Or.inr rfl) d_J_isSearchDay_15 ?_
  rotate_left
  all_goals exact jq k (by split <;> first | rfl | (exfalso; simp only [fa_lt, fa_le, fa_eq, Int32.reduceToInt] at *; omega))
theorem c_J_isOneOfTwo {d : Nat} {x : Int32} {M : j_M} {Q : Option Value → j_M → Prop}  (k : Q (some (.int (if 0 ≤ x ∧ x < 2 then 1 else 0))) M) : j_Ct d I_J_isOneOfTwo [.int x] M Q := by
  refine j_met (by decide +kernel) co_J_isOneOfTwo (Nat.le_of_ble_eq_true rfl) (fun X hX => ?_)
  show j_W d I_J_isOneOfTwo X 0 [some (.int x)] [] M
  refine jx_iload0 (pc := 0) d_J_isOneOfTwo_0 ?_
  refine jx_if_eq (pc := 1) 9 d_J_isOneOfTwo_1 (by decide) (fun c1 => ?_) (fun c1 => ?_)
  refine jx_iconst (pc := 9) (v := 1) d_J_isOneOfTwo_9 (by decide) ?_
  refine jx_goto (pc := 10) 14 d_J_isOneOfTwo_10 (by decide) ?_
  refine jx_zret (pc := 14) hX rfl (by first | exact Or.inl rfl | exact Or.inr rfl) d_J_isOneOfTwo_14 ?_
  rotate_left
  refine jx_iload0 (pc := 4) d_J_isOneOfTwo_4 ?_
  refine jx_iconst (pc := 5) (v := 1) d_J_isOneOfTwo_5 (by decide) ?_
  refine jx_icmp_ne (pc := 6) 13 d_J_isOneOfTwo_6 (by decide) (fun c6 => ?_) (fun c6 => ?_)
  refine jx_iconst (pc := 13) (v := 0) d_J_isOneOfTwo_13 (by decide) ?_
  refine jx_zret (pc := 14) hX rfl (by first | exact Or.inl rfl | exact Or.inr rfl) d_J_isOneOfTwo_14 ?_
  rotate_left
  refine jx_iconst (pc := 9) (v := 1) d_J_isOneOfTwo_9 (by decide) ?_
  refine jx_goto (pc := 10) 14 d_J_isOneOfTwo_10 (by decide) ?_
  refine jx_zret (pc := 14) hX rfl (by first | exact Or.inl rfl | exact Or.inr rfl) d_J_isOneOfTwo_14 ?_
  rotate_left
  all_goals exact jq k (by split <;> first | rfl | (exfalso; simp only [fa_lt, fa_le, fa_eq, Int32.reduceToInt] at *; omega))
theorem c_J_isChance {d : Nat} {x : Int32} {M : j_M} {Q : Option Value → j_M → Prop}  (k : Q (some (.int (if 0 ≤ x ∧ x ≤ 16 then 1 else 0))) M) : j_Ct d I_J_isChance [.int x] M Q := by
  refine j_met (by decide +kernel) co_J_isChance (Nat.le_of_ble_eq_true rfl) (fun X hX => ?_)
  show j_W d I_J_isChance X 0 [some (.int x)] [] M
  refine jx_iload0 (pc := 0) d_J_isChance_0 ?_
  refine jx_if_lt (pc := 1) 14 d_J_isChance_1 (by decide) (fun c1 => ?_) (fun c1 => ?_)
  refine jx_iconst (pc := 14) (v := 0) d_J_isChance_14 (by decide) ?_
  refine jx_zret (pc := 15) hX rfl (by first | exact Or.inl rfl | exact Or.inr rfl) d_J_isChance_15 ?_
  rotate_left
  refine jx_iload0 (pc := 4) d_J_isChance_4 ?_
  refine jx_bipush (pc := 5) (v := 16) d_J_isChance_5 (by decide) ?_
  refine jx_icmp_gt (pc := 7) 14 d_J_isChance_7 (by decide) (fun c7 => ?_) (fun c7 => ?_)
  refine jx_iconst (pc := 14) (v := 0) d_J_isChance_14 (by decide) ?_
  refine jx_zret (pc := 15) hX rfl (by first | exact Or.inl rfl | exact Or.inr rfl) d_J_isChance_15 ?_
  rotate_left
  refine jx_iconst (pc := 10) (v := 1) d_J_isChance_10 (by decide) ?_
  refine jx_goto (pc := 11) 15 d_J_isChance_11 (by decide) ?_
  refine jx_zret (pc := 15) hX rfl (by first | exact Or.inl rfl | exact Or.inr rfl) d_J_isChance_15 ?_
  rotate_left
  all_goals exact jq k (by split <;> first | rfl | (exfalso; simp only [fa_lt, fa_le, fa_eq, Int32.reduceToInt] at *; omega))
theorem c_He_has {d : Nat} {x : Int32} {M : j_M} {Q : Option Value → j_M → Prop}  (k : Q (some (.int (if 0 ≤ x ∧ x < M 1 3 then 1 else 0))) M) : j_Ct d I_He_has [.ref 1, .int x] M Q := by
  refine j_met (by decide +kernel) co_He_has (Nat.le_of_ble_eq_true rfl) (fun X hX => ?_)
  show j_W d I_He_has X 0 [some (.ref 1), some (.int x)] [] M
  refine jx_iload1 (pc := 0) d_He_has_0 ?_
  refine jx_if_lt (pc := 1) 16 d_He_has_1 (by decide) (fun c1 => ?_) (fun c1 => ?_)
  refine jx_iconst (pc := 16) (v := 0) d_He_has_16 (by decide) ?_
  refine jx_zret (pc := 17) hX rfl (by first | exact Or.inl rfl | exact Or.inr rfl) d_He_has_17 ?_
  rotate_left
  refine jx_iload1 (pc := 4) d_He_has_4 ?_
  refine jx_aload0 (pc := 5) d_He_has_5 ?_
  refine jx_getI (pc := 6) gf_He_22 d_He_has_6 ad_1 sh_1 rfl ?_
  refine jx_icmp_ge (pc := 9) 16 d_He_has_9 (by decide) (fun c9 => ?_) (fun c9 => ?_)
  refine jx_iconst (pc := 16) (v := 0) d_He_has_16 (by decide) ?_
  refine jx_zret (pc := 17) hX rfl (by first | exact Or.inl rfl | exact Or.inr rfl) d_He_has_17 ?_
  rotate_left
  refine jx_iconst (pc := 12) (v := 1) d_He_has_12 (by decide) ?_
  refine jx_goto (pc := 13) 17 d_He_has_13 (by decide) ?_
  refine jx_zret (pc := 17) hX rfl (by first | exact Or.inl rfl | exact Or.inr rfl) d_He_has_17 ?_
  rotate_left
  all_goals exact jq k (by split <;> first | rfl | (exfalso; simp only [fa_lt, fa_le, fa_eq, Int32.reduceToInt] at *; omega))
theorem c_Sh_isPlace {d : Nat} {x : Int32} {M : j_M} {Q : Option Value → j_M → Prop}  (k : Q (some (.int (if 0 ≤ x ∧ x < 4 then 1 else 0))) M) : j_Ct d I_Sh_isPlace [.ref 23, .int x] M Q := by
  refine j_met (by decide +kernel) co_Sh_isPlace (Nat.le_of_ble_eq_true rfl) (fun X hX => ?_)
  show j_W d I_Sh_isPlace X 0 [some (.ref 23), some (.int x)] [] M
  refine jx_iload1 (pc := 0) d_Sh_isPlace_0 ?_
  refine jx_if_lt (pc := 1) 13 d_Sh_isPlace_1 (by decide) (fun c1 => ?_) (fun c1 => ?_)
  refine jx_iconst (pc := 13) (v := 0) d_Sh_isPlace_13 (by decide) ?_
  refine jx_zret (pc := 14) hX rfl (by first | exact Or.inl rfl | exact Or.inr rfl) d_Sh_isPlace_14 ?_
  rotate_left
  refine jx_iload1 (pc := 4) d_Sh_isPlace_4 ?_
  refine jx_iconst (pc := 5) (v := 4) d_Sh_isPlace_5 (by decide) ?_
  refine jx_icmp_ge (pc := 6) 13 d_Sh_isPlace_6 (by decide) (fun c6 => ?_) (fun c6 => ?_)
  refine jx_iconst (pc := 13) (v := 0) d_Sh_isPlace_13 (by decide) ?_
  refine jx_zret (pc := 14) hX rfl (by first | exact Or.inl rfl | exact Or.inr rfl) d_Sh_isPlace_14 ?_
  rotate_left
  refine jx_iconst (pc := 9) (v := 1) d_Sh_isPlace_9 (by decide) ?_
  refine jx_goto (pc := 10) 14 d_Sh_isPlace_10 (by decide) ?_
  refine jx_zret (pc := 14) hX rfl (by first | exact Or.inl rfl | exact Or.inr rfl) d_Sh_isPlace_14 ?_
  rotate_left
  all_goals exact jq k (by split <;> first | rfl | (exfalso; simp only [fa_lt, fa_le, fa_eq, Int32.reduceToInt] at *; omega))
theorem c_Sh_isForm {d : Nat} {x : Int32} {M : j_M} {Q : Option Value → j_M → Prop}  (k : Q (some (.int (if 0 ≤ x ∧ x < 3 then 1 else 0))) M) : j_Ct d I_Sh_isForm [.ref 23, .int x] M Q := by
  refine j_met (by decide +kernel) co_Sh_isForm (Nat.le_of_ble_eq_true rfl) (fun X hX => ?_)
  show j_W d I_Sh_isForm X 0 [some (.ref 23), some (.int x)] [] M
  refine jx_iload1 (pc := 0) d_Sh_isForm_0 ?_
  refine jx_if_lt (pc := 1) 13 d_Sh_isForm_1 (by decide) (fun c1 => ?_) (fun c1 => ?_)
  refine jx_iconst (pc := 13) (v := 0) d_Sh_isForm_13 (by decide) ?_
  refine jx_zret (pc := 14) hX rfl (by first | exact Or.inl rfl | exact Or.inr rfl) d_Sh_isForm_14 ?_
  rotate_left
  refine jx_iload1 (pc := 4) d_Sh_isForm_4 ?_
  refine jx_iconst (pc := 5) (v := 3) d_Sh_isForm_5 (by decide) ?_
  refine jx_icmp_ge (pc := 6) 13 d_Sh_isForm_6 (by decide) (fun c6 => ?_) (fun c6 => ?_)
  refine jx_iconst (pc := 13) (v := 0) d_Sh_isForm_13 (by decide) ?_
  refine jx_zret (pc := 14) hX rfl (by first | exact Or.inl rfl | exact Or.inr rfl) d_Sh_isForm_14 ?_
  rotate_left
  refine jx_iconst (pc := 9) (v := 1) d_Sh_isForm_9 (by decide) ?_
  refine jx_goto (pc := 10) 14 d_Sh_isForm_10 (by decide) ?_
  refine jx_zret (pc := 14) hX rfl (by first | exact Or.inl rfl | exact Or.inr rfl) d_Sh_isForm_14 ?_
  rotate_left
  all_goals exact jq k (by split <;> first | rfl | (exfalso; simp only [fa_lt, fa_le, fa_eq, Int32.reduceToInt] at *; omega))
theorem c_Sh_isLost {d : Nat} {x : Int32} {M : j_M} {Q : Option Value → j_M → Prop} (hx : vp_in x 4) (k : Q (some (.int (if M 24 x.toNatClampNeg = -1 then 1 else 0))) M) : j_Ct d I_Sh_isLost [.ref 23, .int x] M Q := by
  refine j_met (by decide +kernel) co_Sh_isLost (Nat.le_of_ble_eq_true rfl) (fun X hX => ?_)
  show j_W d I_Sh_isLost X 0 [some (.ref 23), some (.int x)] [] M
  refine jx_aload0 (pc := 0) d_Sh_isLost_0 ?_
  refine jx_getR (pc := 1) gf_Sh_11 d_Sh_isLost_1 ad_23 sh_23 rfl ?_
  refine jx_iload1 (pc := 4) d_Sh_isLost_4 ?_
  refine jx_iald (pc := 5) d_Sh_isLost_5 ad_24 sh_24 (by first | assumption | exact vp_in_nI (by omega) (by omega)) ?_
  refine jx_iconst (pc := 6) (v := (-1)) d_Sh_isLost_6 (by decide) ?_
  refine jx_icmp_ne (pc := 7) 14 d_Sh_isLost_7 (by decide) (fun c7 => ?_) (fun c7 => ?_)
  refine jx_iconst (pc := 14) (v := 0) d_Sh_isLost_14 (by decide) ?_
  refine jx_zret (pc := 15) hX rfl (by first | exact Or.inl rfl | exact Or.inr rfl) d_Sh_isLost_15 ?_
  rotate_left
  refine jx_iconst (pc := 10) (v := 1) d_Sh_isLost_10 (by decide) ?_
  refine jx_goto (pc := 11) 15 d_Sh_isLost_11 (by decide) ?_
  refine jx_zret (pc := 15) hX rfl (by first | exact Or.inl rfl | exact Or.inr rfl) d_Sh_isLost_15 ?_
  rotate_left
  all_goals exact jq k (by split <;> first | rfl | (exfalso; simp only [fa_lt, fa_le, fa_eq, Int32.reduceToInt] at *; omega))
theorem c_R_in {d : Nat} {v lo hi : Int32} {M : j_M} {Q : Option Value → j_M → Prop}  (k : Q (some (.int (if lo ≤ v ∧ v ≤ hi then 1 else 0))) M) : j_Ct d I_R_in [.int v, .int lo, .int hi] M Q := by
  refine j_met (by decide +kernel) co_R_in (Nat.le_of_ble_eq_true rfl) (fun X hX => ?_)
  show j_W d I_R_in X 0 [some (.int v), some (.int lo), some (.int hi)] [] M
  refine jx_iload0 (pc := 0) d_R_in_0 ?_
  refine jx_iload1 (pc := 1) d_R_in_1 ?_
  refine jx_icmp_lt (pc := 2) 14 d_R_in_2 (by decide) (fun c2 => ?_) (fun c2 => ?_)
  refine jx_iconst (pc := 14) (v := 0) d_R_in_14 (by decide) ?_
  refine jx_zret (pc := 15) hX rfl (by first | exact Or.inl rfl | exact Or.inr rfl) d_R_in_15 ?_
  rotate_left
  refine jx_iload0 (pc := 5) d_R_in_5 ?_
  refine jx_iload2 (pc := 6) d_R_in_6 ?_
  refine jx_icmp_gt (pc := 7) 14 d_R_in_7 (by decide) (fun c7 => ?_) (fun c7 => ?_)
  refine jx_iconst (pc := 14) (v := 0) d_R_in_14 (by decide) ?_
  refine jx_zret (pc := 15) hX rfl (by first | exact Or.inl rfl | exact Or.inr rfl) d_R_in_15 ?_
  rotate_left
  refine jx_iconst (pc := 10) (v := 1) d_R_in_10 (by decide) ?_
  refine jx_goto (pc := 11) 15 d_R_in_11 (by decide) ?_
  refine jx_zret (pc := 15) hX rfl (by first | exact Or.inl rfl | exact Or.inr rfl) d_R_in_15 ?_
  rotate_left
  all_goals exact jq k (by split <;> first | rfl | (exfalso; simp only [fa_lt, fa_le, fa_eq, Int32.reduceToInt] at *; omega))
theorem c_R_isIn {d : Nat} {b x : Int32} {M : j_M} {Q : Option Value → j_M → Prop}  (k : Q (some (.int (if (b >>> (x &&& 31)) &&& 1 = 1 then 1 else 0))) M) : j_Ct d I_R_isIn [.int b, .int x] M Q := by
  refine j_met (by decide +kernel) co_R_isIn (Nat.le_of_ble_eq_true rfl) (fun X hX => ?_)
  show j_W d I_R_isIn X 0 [some (.int b), some (.int x)] [] M
  refine jx_iload0 (pc := 0) d_R_isIn_0 ?_
  refine jx_iload1 (pc := 1) d_R_isIn_1 ?_
  refine jx_ishr (pc := 2) d_R_isIn_2 ?_
  refine jx_iconst (pc := 3) (v := 1) d_R_isIn_3 (by decide) ?_
  refine jx_iand (pc := 4) d_R_isIn_4 ?_
  refine jx_iconst (pc := 5) (v := 1) d_R_isIn_5 (by decide) ?_
  refine jx_icmp_ne (pc := 6) 13 d_R_isIn_6 (by decide) (fun c6 => ?_) (fun c6 => ?_)
  refine jx_iconst (pc := 13) (v := 0) d_R_isIn_13 (by decide) ?_
  refine jx_zret (pc := 14) hX rfl (by first | exact Or.inl rfl | exact Or.inr rfl) d_R_isIn_14 ?_
  rotate_left
  refine jx_iconst (pc := 9) (v := 1) d_R_isIn_9 (by decide) ?_
  refine jx_goto (pc := 10) 14 d_R_isIn_10 (by decide) ?_
  refine jx_zret (pc := 14) hX rfl (by first | exact Or.inl rfl | exact Or.inr rfl) d_R_isIn_14 ?_
  rotate_left
  all_goals exact jq k (by split <;> first | rfl | (exfalso; simp only [fa_lt, fa_le, fa_eq, Int32.reduceToInt] at *; omega))
theorem c_Co_isAwake {d : Nat} {x : Int32} {M : j_M} {Q : Option Value → j_M → Prop}  (k : Q (some (.int (if (((M 10 3).toUInt32 >>> (x.toUInt32 &&& Int32.toUInt32 31)).toInt32 &&& 1) = 0 then 1 else 0))) M) : j_Ct d I_Co_isAwake [.ref 15, .int x] M Q := by
  refine j_met (by decide +kernel) co_Co_isAwake (Nat.le_of_ble_eq_true rfl) (fun X hX => ?_)
  show j_W d I_Co_isAwake X 0 [some (.ref 15), some (.int x)] [] M
  refine jx_aload0 (pc := 0) d_Co_isAwake_0 ?_
  refine jx_getR (pc := 1) gf_Co_19 d_Co_isAwake_1 ad_15 sh_15 rfl ?_
  refine jx_iconst (pc := 4) (v := 3) d_Co_isAwake_4 (by decide) ?_
  refine jx_ialdK (pc := 5) 3 d_Co_isAwake_5 ad_10 sh_10 (by decide) (by unfold vp_in; decide) ?_
  refine jx_iload1 (pc := 6) d_Co_isAwake_6 ?_
  refine jx_iushr (pc := 7) d_Co_isAwake_7 ?_
  refine jx_iconst (pc := 8) (v := 1) d_Co_isAwake_8 (by decide) ?_
  refine jx_iand (pc := 9) d_Co_isAwake_9 ?_
  refine jx_if_ne (pc := 10) 17 d_Co_isAwake_10 (by decide) (fun c10 => ?_) (fun c10 => ?_)
  refine jx_iconst (pc := 17) (v := 0) d_Co_isAwake_17 (by decide) ?_
  refine jx_zret (pc := 18) hX rfl (by first | exact Or.inl rfl | exact Or.inr rfl) d_Co_isAwake_18 ?_
  rotate_left
  refine jx_iconst (pc := 13) (v := 1) d_Co_isAwake_13 (by decide) ?_
  refine jx_goto (pc := 14) 18 d_Co_isAwake_14 (by decide) ?_
  refine jx_zret (pc := 18) hX rfl (by first | exact Or.inl rfl | exact Or.inr rfl) d_Co_isAwake_18 ?_
  rotate_left
  all_goals exact jq k (by split <;> first | rfl | (exfalso; simp only [fa_lt, fa_le, fa_eq, Int32.reduceToInt] at *; omega))
theorem c_Se_allows {d : Nat} {x y : Int32} {M : j_M} {Q : Option Value → j_M → Prop} (hx : vp_in x 30) (k : Q (some (.int (if M 18 x.toNatClampNeg = -2 ∨ M 18 x.toNatClampNeg = y then 1 else 0))) M) : j_Ct d I_Se_allows [.ref 17, .int x, .int y] M Q := by
  refine j_met (by decide +kernel) co_Se_allows (Nat.le_of_ble_eq_true rfl) (fun X hX => ?_)
  show j_W d I_Se_allows X 0 [some (.ref 17), some (.int x), some (.int y)] [] M
  refine jx_aload0 (pc := 0) d_Se_allows_0 ?_
  refine jx_getR (pc := 1) gf_Se_9 d_Se_allows_1 ad_17 sh_17 rfl ?_
  refine jx_iload1 (pc := 4) d_Se_allows_4 ?_
  refine jx_iald (pc := 5) d_Se_allows_5 ad_18 sh_18 (by first | assumption | exact vp_in_nI (by omega) (by omega)) ?_
  refine jx_bipush (pc := 6) (v := (-2)) d_Se_allows_6 (by decide) ?_
  refine jx_icmp_eq (pc := 8) 21 d_Se_allows_8 (by decide) (fun c8 => ?_) (fun c8 => ?_)
  refine jx_iconst (pc := 21) (v := 1) d_Se_allows_21 (by decide) ?_
  refine jx_goto (pc := 22) 26 d_Se_allows_22 (by decide) ?_
  refine jx_zret (pc := 26) hX rfl (by first | exact Or.inl rfl | exact Or.inr rfl) d_Se_allows_26 ?_
  rotate_left
  refine jx_aload0 (pc := 11) d_Se_allows_11 ?_
  refine jx_getR (pc := 12) gf_Se_9 d_Se_allows_12 ad_17 sh_17 rfl ?_
  refine jx_iload1 (pc := 15) d_Se_allows_15 ?_
  refine jx_iald (pc := 16) d_Se_allows_16 ad_18 sh_18 (by first | assumption | exact vp_in_nI (by omega) (by omega)) ?_
  refine jx_iload2 (pc := 17) d_Se_allows_17 ?_
  refine jx_icmp_ne (pc := 18) 25 d_Se_allows_18 (by decide) (fun c18 => ?_) (fun c18 => ?_)
  refine jx_iconst (pc := 25) (v := 0) d_Se_allows_25 (by decide) ?_
  refine jx_zret (pc := 26) hX rfl (by first | exact Or.inl rfl | exact Or.inr rfl) d_Se_allows_26 ?_
  rotate_left
  refine jx_iconst (pc := 21) (v := 1) d_Se_allows_21 (by decide) ?_
  refine jx_goto (pc := 22) 26 d_Se_allows_22 (by decide) ?_
  refine jx_zret (pc := 26) hX rfl (by first | exact Or.inl rfl | exact Or.inr rfl) d_Se_allows_26 ?_
  rotate_left
  all_goals exact jq k (by split <;> first | rfl | (exfalso; simp only [fa_lt, fa_le, fa_eq, Int32.reduceToInt] at *; omega))
