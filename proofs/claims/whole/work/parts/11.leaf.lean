/-! LEAVES -/
theorem c_J_isDay {d : Nat} {x : Int32} {M : j_M} {Q : Option Value → j_M → Prop} (k : Q (some (.int (if 0 ≤ x ∧ x < 30 then 1 else 0))) M) : j_Ct d I_J_isDay [.int x] M Q := by
  refine j_met (by decide +kernel) co_J_isDay (Nat.le_of_ble_eq_true rfl) (fun X hX => ?_)
  show j_W d I_J_isDay X 0 [some (.int x)] [] M
  refine jx_iload0 (pc := 0) d_J_isDay_0 ?_
  refine jx_if_lt (pc := 1) 14 d_J_isDay_1 (by decide) (fun c1 => ?_) (fun c1 => ?_)
  refine jx_iconst (pc := 14) (v := 0) d_J_isDay_14 (by decide) ?_
  refine jx_zret (pc := 15) hX rfl (by first | exact Or.inl rfl | exact Or.inr rfl) d_J_isDay_15 ?_
  rotate_left
  refine jx_iload0 (pc := 4) d_J_isDay_4 ?_
  refine jx_bipush (pc := 5) (v := 30) d_J_isDay_5 (by decide) ?_
  refine jx_icmp_ge (pc := 7) 14 d_J_isDay_7 (by decide) (fun c7 => ?_) (fun c7 => ?_)
  refine jx_iconst (pc := 14) (v := 0) d_J_isDay_14 (by decide) ?_
  refine jx_zret (pc := 15) hX rfl (by first | exact Or.inl rfl | exact Or.inr rfl) d_J_isDay_15 ?_
  rotate_left
  refine jx_iconst (pc := 10) (v := 1) d_J_isDay_10 (by decide) ?_
  refine jx_goto (pc := 11) 15 d_J_isDay_11 (by decide) ?_
  refine jx_zret (pc := 15) hX rfl (by first | exact Or.inl rfl | exact Or.inr rfl) d_J_isDay_15 ?_
  rotate_left
  · rw [if_neg (fun h => absurd c1 (Int32.not_lt.mpr h.1))] at k; exact k
  · rw [if_neg (fun h => absurd h.2 (Int32.not_lt.mpr c7))] at k; exact k
  · rw [if_pos ⟨Int32.not_lt.mp c1, Int32.not_le.mp c7⟩] at k; exact k
