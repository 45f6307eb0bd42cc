/-! WELL FORMED stays the state -/
theorem upN_all {P : Nat → Prop} {f : Nat → Nat} {n v : Nat} (h : ∀ k, P (f k)) (hv : P v) (k : Nat) : P (upN f n v k) := by
  unfold upN
  by_cases hc : k = n
  · rw [if_pos hc]; exact hv
  · rw [if_neg hc]; exact h k
theorem WF.type {s : Sg} (hw : WF s) (b : Int32) : WF (n_type s b) := by
  unfold n_type
  by_cases h : (0 ≤ b ∧ b ≤ 255) ∧ g_nb s < 23
  · rw [if_pos h]
    obtain ⟨h1, h2⟩ := h
    obtain ⟨w1, w2, w3⟩ := hw
    obtain ⟨j, hj, rfl⟩ := byte_of h1
    rw [show cl (nI j) = j from nI_cl (by omega)]
    exact ⟨show g_nb s + 1 ≤ 23 by omega, fun k => upN_all (P := fun x => x ≤ 255) w2 (by omega) k, w3⟩
  · rw [if_neg h]; exact hw
theorem WF.wipe {s : Sg} (hw : WF s) : WF (n_wipe s) := ⟨Nat.zero_le _, hw.2.1, hw.2.2⟩
theorem WF.undo {s : Sg} (hw : WF s) : WF (n_undo s) := by
  unfold n_undo
  by_cases h : g_nb s = 0
  · rw [if_pos h]; exact hw
  · rw [if_neg h]; exact ⟨show g_nb s - 1 ≤ 23 by have := hw.1; omega, hw.2.1, hw.2.2⟩
theorem WF.taste {s : Sg} (hw : WF s) (a b c : Int32) : WF (n_taste s a b c) := by
  unfold n_taste
  by_cases h : okTaste a b c
  · rw [if_pos h]
    obtain ⟨-, -, h1, h2⟩ := h
    obtain ⟨w1, w2, w3, w4⟩ := hw
    obtain ⟨j, hj, rfl⟩ := le_of (n := 9) (by omega) h1 h2
    rw [show cl (nI j) = j from nI_cl (by omega)]
    refine ⟨w1, w2, fun d t => ?_, w4⟩
    show upT (g_ta s) _ _ j d t ≤ 9
    unfold upT
    by_cases hc : d = cl a ∧ t = cl b
    · rw [if_pos hc]; exact hj
    · rw [if_neg hc]; exact w3 d t
  · rw [if_neg h]; exact hw
theorem WF.set {s : Sg} (hw : WF s) (w v : Int32) : WF (n_set s w v) := by
  unfold n_set
  by_cases h : okSet w v
  · rw [if_pos h]
    obtain ⟨h0, h1, h2⟩ := h
    obtain ⟨w1, w2, w3, w4, w5, w6⟩ := hw
    obtain ⟨a, ha, rfl, ea⟩ := okd w 5 (by omega) h0
    obtain ⟨c, hc, rfl⟩ := nI_of (Int32.not_lt.mpr h1)
    rw [ea, show cl (nI c) = c from nI_cl hc]
    rw [ea] at h2
    have h5 : a = 0 ∨ a = 1 ∨ a = 2 ∨ a = 3 ∨ a = 4 := by omega
    have hb : (a ≠ 3 → c ≤ 9) ∧ (a = 3 → c < 2 ^ 30) := by
      rcases h5 with rfl | rfl | rfl | rfl | rfl
      · exact ⟨fun _ => (nI_leI (b := 9) hc (by omega)).mp h2, fun z => absurd z (by omega)⟩
      · exact ⟨fun _ => (nI_leI (b := 9) hc (by omega)).mp h2, fun z => absurd z (by omega)⟩
      · exact ⟨fun _ => (nI_leI (b := 9) hc (by omega)).mp h2, fun z => absurd z (by omega)⟩
      · refine ⟨fun z => absurd rfl z, fun _ => ?_⟩
        have := (nI_leI (b := 1073741823) hc (by omega)).mp h2
        omega
      · exact ⟨fun _ => (nI_leI (b := 9) hc (by omega)).mp h2, fun z => absurd z (by omega)⟩
    refine ⟨w1, w2, w3, fun k hk => ?_, ?_, w6⟩
    · show upN (g_wy s) a c k ≤ 9
      unfold upN
      by_cases hc2 : k = a
      · rw [if_pos hc2]; exact hb.1 (by omega)
      · rw [if_neg hc2]; exact w4 k hk
    · show upN (g_wy s) a c 3 < 2 ^ 30
      unfold upN
      by_cases hc2 : 3 = a
      · rw [if_pos hc2]; exact hb.2 hc2.symm
      · rw [if_neg hc2]; exact w5
  · rw [if_neg h]; exact hw
theorem WF.back {s : Sg} (hw : WF s) : WF (n_back s) := by
  unfold n_back
  by_cases h : g_nv s = 0
  · rw [if_pos h]; exact hw
  · rw [if_neg h]
    obtain ⟨w1, w2, w3, w4, w5, w6, w7⟩ := hw
    exact ⟨w1, w2, w3, w4, w5, show g_nv s - 1 ≤ 24 by omega, w7⟩
theorem WF.seen {s : Sg} (hw : WF s) (a b : Int32) : WF (n_seen s a b) := by
  unfold n_seen
  by_cases h : okSeen a b ∧ g_ns s < 8
  · rw [if_pos h]
    obtain ⟨⟨h1, h2, h3⟩, h4⟩ := h
    obtain ⟨w1, w2, w3, w4, w5, w6, w7, w8, w9, w10⟩ := hw
    obtain ⟨j, hj, rfl, ej⟩ := okd a 30 (by omega) h1
    have hu := (seen_of h2 h3).1
    rw [ej]
    exact ⟨w1, w2, w3, w4, w5, w6, w7, show g_ns s + 1 ≤ 8 by omega, fun k => ⟨upN_all (P := fun x => x < 30) (fun q => (w9 q).1) hj k, upN_all (P := fun x => x < 6 ∨ x = 9) (fun q => (w9 q).2) hu k⟩, w10⟩
  · rw [if_neg h]; exact hw
theorem WF.forget {s : Sg} (hw : WF s) : WF (n_forget s) := by
  obtain ⟨w1, w2, w3, w4, w5, w6, w7, w8, w9, w10⟩ := hw
  exact ⟨w1, w2, w3, w4, w5, w6, w7, show 0 ≤ 8 by omega, w9, w10⟩
theorem WF.fi {s : Sg} (hw : WF s) (f : Int32) : WF (s_fi s f) := hw
theorem WF.sh {s : Sg} (hw : WF s) {fo si : Nat → Nat} {it : Nat → Nat → Int32} (h : ∀ k, (fo k < 3 ∨ fo k = 9) ∧ si k ≤ 48) : WF (s_sh s fo si it) := by
  obtain ⟨w1, w2, w3, w4, w5, w6, w7, w8, w9, w10⟩ := hw
  exact ⟨w1, w2, w3, w4, w5, w6, w7, w8, w9, h⟩
theorem WF.sheet {s : Sg} (hw : WF s) (a f n : Int32) : WF (n_sheet s a f n) := by
  unfold n_sheet
  by_cases h : okShe a f n
  · rw [if_pos h]
    by_cases hn : n < 0
    · rw [if_pos hn]; exact hw
    · rw [if_neg hn]
      obtain ⟨h1, h2, h3⟩ := h
      obtain ⟨c, hc, rfl, ec⟩ := okd f 3 (by omega) h2
      obtain ⟨m, hm, rfl⟩ := le_of (n := 48) (by omega) (Int32.not_lt.mp hn) h3
      rw [ec, show cl (nI m) = m from nI_cl (by omega)]
      exact hw.sh (fun k => ⟨upN_all (P := fun x => x < 3 ∨ x = 9) (fun q => (fo_lt hw q).1) (Or.inl hc) k, upN_all (P := fun x => x ≤ 48) (fun q => (fo_lt hw q).2) hm k⟩)
  · rw [if_neg h]; exact hw
theorem WF.lose {s : Sg} (hw : WF s) (a : Int32) : WF (n_lose s a) := by
  unfold n_lose
  by_cases h : okPl a
  · rw [if_pos h]
    by_cases h9 : g_fo s (cl a) = 9
    · rw [if_pos h9]; exact hw
    · rw [if_neg h9]
      exact hw.sh (fun k => ⟨upN_all (P := fun x => x < 3 ∨ x = 9) (fun q => (fo_lt hw q).1) (Or.inr rfl) k, (fo_lt hw k).2⟩)
  · rw [if_neg h]; exact hw
theorem WF.put {s : Sg} (hw : WF s) (a f i v : Int32) : WF (n_put s a f i v) := by
  unfold n_put
  split
  · split
    · exact hw.sh (fun k => fo_lt hw k)
    · exact hw
  · exact hw
theorem WF.get {s : Sg} (hw : WF s) (a f i : Int32) : WF (n_get s a f i) := by
  unfold n_get
  split
  · split
    · exact hw
    · exact hw
  · exact hw
theorem WF.copy {s : Sg} (hw : WF s) (a i b j n : Int32) : WF (n_copy s a i b j n) := by
  unfold n_copy
  split
  · split
    · exact hw
    · split
      · split
        · exact hw.sh (fun k => fo_lt hw k)
        · exact hw
      · exact hw
  · exact hw
theorem WF.write {s : Sg} (hw : WF s) (a b : Int32) : WF (n_write s a b) := by
  unfold n_write
  split
  · split
    · exact hw
    · exact hw.sh (fun k => fo_lt hw k)
  · exact hw
