/-! OPERATIONS of the reference: visits more, one by one -/
def NMo (N : VS) (M : j_M) : Prop := M 79 14 = nI N.1 ∧ N.1 ≤ 30 ∧ ∀ k, k < N.1 → M 86 k = nI (N.2.1 k) ∧ M 87 k = nI (N.2.2.1 k) ∧ M 88 k = nI (N.2.2.2 k) ∧ N.2.1 k < 30 ∧ N.2.2.1 k < 6 ∧ N.2.2.2 k < 3
abbrev aN (N : VS) (day h t : Nat) : VS := (N.1 + 1, upN N.2.1 N.1 day, upN N.2.2.1 N.1 h, upN N.2.2.2 N.1 t)
theorem NMo.zero {M : j_M} (h : M 79 14 = 0) : NMo V0 M := ⟨h, (by show (0 : Nat) ≤ 30; omega), fun q hq => absurd hq (by show ¬ q < 0; omega)⟩
theorem NMo.of {N : VS} {M M' : j_M} (h : NMo N M) (h0 : M' 79 14 = M 79 14) (h1 : M' 86 = M 86) (h2 : M' 87 = M 87) (h3 : M' 88 = M 88) : NMo N M' := by
  unfold NMo at *; rw [h0, h1, h2, h3]; exact h
theorem c_R_addsN {d day h t : Nat} {N : VS} {M : j_M} {Q : Option Value → j_M → Prop} (hN : NMo N M) (hn : N.1 < 30) (hd : day < 30) (hh : h < 6) (ht : t < 3) (k : ∀ M', NMo (aN N day h t) M' → (∀ b, b ≠ 79 → b ≠ 86 → b ≠ 87 → b ≠ 88 → M' b = M b) → (∀ q, q ≠ 14 → M' 79 q = M 79 q) → Q none M') : j_Ct d I_R_adds [.ref 79, .int (nI day), .int (nI h), .int (nI t)] M Q := by
  refine c_R_adds hn hN.1 (fun M' h14 h86 h87 h88 hb hq => k M' ⟨h14, hn, fun q hq2 => ?_⟩ hb hq)
  have hq3 : q < N.1 + 1 := hq2
  rw [h86, h87, h88]
  show upd _ _ _ _ = nI (upN _ _ _ _) ∧ upd _ _ _ _ = nI (upN _ _ _ _) ∧ upd _ _ _ _ = nI (upN _ _ _ _) ∧ upN _ _ _ _ < 30 ∧ upN _ _ _ _ < 6 ∧ upN _ _ _ _ < 3
  unfold upd upN
  by_cases hc : q = N.1
  · simp only [if_pos hc]; exact ⟨trivial, trivial, trivial, hd, hh, ht⟩
  · simp only [if_neg hc]; exact hN.2.2 q (by omega)
theorem dl_aN (N : VS) (day h t d : Nat) : dl (aN N day h t) d = dl N d ++ (if day = d then [(h, t)] else []) := by
  have e0 := dl_succ (aN N day h t) N.1 d
  have e1 : dl (N.1, (aN N day h t).2) d = dl N d := by
    unfold dl
    show (ixV N.1 (upN N.2.1 N.1 day) d).map (fun k => (upN N.2.2.1 N.1 h k, upN N.2.2.2 N.1 t k)) = (ixV N.1 N.2.1 d).map (fun k => (N.2.2.1 k, N.2.2.2 k))
    have e2 : ixV N.1 (upN N.2.1 N.1 day) d = ixV N.1 N.2.1 d := List.filter_congr (fun k hk => by rw [upN_lt (List.mem_range.mp hk)])
    rw [e2]
    refine List.map_congr_left (fun k hk => ?_)
    have hk2 := (ixV_mem.mp hk).1
    rw [upN_lt hk2, upN_lt hk2]
  have e3 : (if (aN N day h t).2.1 N.1 = d then [((aN N day h t).2.2.1 N.1, (aN N day h t).2.2.2 N.1)] else []) = (if day = d then [(h, t)] else []) := by
    show (if upN N.2.1 N.1 day N.1 = d then [(upN N.2.2.1 N.1 h N.1, upN N.2.2.2 N.1 t N.1)] else []) = _
    rw [upN_self, upN_self, upN_self]
  rw [e1, e3] at e0
  exact e0
theorem scr_told {M M' : j_M} (hb : ∀ b, b ≠ 79 → M' b = M b) (hq : ∀ q, q ≠ 14 → q ≠ 18 → q ≠ 19 → M' 79 q = M 79 q) : ScrR M M' := ⟨fun b g => hb b (by unfold PR at g; omega), fun q g => hq q (by unfold P79 at g; omega) (by unfold P79 at g; omega) (by unfold P79 at g; omega)⟩
theorem scr_adds {M M' : j_M} (hb : ∀ b, b ≠ 79 → b ≠ 86 → b ≠ 87 → b ≠ 88 → M' b = M b) (hq : ∀ q, q ≠ 14 → M' 79 q = M 79 q) : ScrR M M' := ⟨fun b g => hb b (by unfold PR at g; omega) (by unfold PR at g; omega) (by unfold PR at g; omega) (by unfold PR at g; omega), fun q g => hq q (by unfold P79 at g; omega)⟩
/-- the judge, as told, with visits more -/
theorem er_N {s : Sg} {M : j_M} {sl : Nat} {N : VS} (hw : WF s) (hR : RepR s M) (hr : RdR s M) (hN : NMo N M) (h18 : M 79 18 = nI sl) (hsl : sl < 2 ^ 30) (h19 : M 79 19 = -1) : ER (g_en s) 0 (g_ta s 0) 9 sl (g_V s) N M :=
  er_of hw hR.v hr (hw.2.2.1 0) (fun t ht => hR.2.1 0 t (by omega) ht) h18 hsl h19 hN
theorem fdN_lt {s : Sg} {M : j_M} {sl : Nat} {N : VS} (hw : WF s) (hE : ER (g_en s) 0 (g_ta s 0) 9 sl (g_V s) N M) {k : Nat} (hk : k ≤ 30) : (run (g_en s) (g_ta s 0) 9 sl (bsR (g_V s) N) k).2.2.2.2 < g_hn s ∨ (run (g_en s) (g_ta s 0) 9 sl (bsR (g_V s) N) k).2.2.2.2 = 9 :=
  (runW (tr := 9) (sl := sl) hw.en (hw.2.2.1 0) (fun k q hq => ((hE.wf k).1 q hq).2) (fun k => Nat.le_trans (hE.wf k).2 (by omega)) k hk).2.2.2.2.1
/-! the plays of two by turns -/
def plB (s : Sg) (a b n p : Nat) : Nat → List (Nat × Nat) := fun day => g_bs s day ++ (if day < n ∧ p / 4 ^ (n - 1 - day) % 4 < 3 then [(if day % 2 = 0 then a else b, p / 4 ^ (n - 1 - day) % 4)] else [])
def outc (s : Sg) (a b n p : Nat) : Bool := (run (g_en s) (g_ta s 0) 9 (g_wy s 3) (plB s a b n p) n).2.2.2.2 == a
def mP (s : Sg) (a b : Nat) : Nat → Nat → Mo
  | 0, _ => mo0
  | k + 1, p => stp s (if k % 2 = 0 then a else b) k (p % 4) (mP s a b k (p / 4))
def lvO (s : Sg) (a b n : Nat) : Nat → Nat → Bool
  | 0, p => outc s a b n p
  | r + 1, p => if (n - 1 - r) % 2 = 0 then tny (fun u => lvO s a b n r (4 * p + u)) else tal4 (fun u => lvO s a b n r (4 * p + u))
theorem run_mP (s : Sg) (a b n p : Nat) : ∀ k, k ≤ n → run (g_en s) (g_ta s 0) 9 (g_wy s 3) (plB s a b n p) k = mP s a b k (p / 4 ^ (n - k))
  | 0, _ => rfl
  | k + 1, hk => by
    have ih := run_mP s a b n p k (by omega)
    rw [run, ih, mP]
    have e1 : n - 1 - k = n - (k + 1) := by omega
    have e2 : p / 4 ^ (n - k) = p / 4 ^ (n - (k + 1)) / 4 := by
      rw [Nat.div_div_eq_div_mul, show 4 ^ (n - (k + 1)) * 4 = 4 ^ (n - k) by rw [show n - k = (n - (k + 1)) + 1 by omega, Nat.pow_succ]]
    rw [e2]
    unfold stp plB
    rw [e1]
    congr 2
    by_cases h3 : p / 4 ^ (n - (k + 1)) % 4 < 3
    · rw [if_pos h3, if_pos ⟨by omega, h3⟩]
    · rw [if_neg h3, if_neg (fun q => h3 q.2)]
theorem tny_c {p q : Nat → Bool} (h : ∀ u, u < 4 → p u = q u) : tny p = tny q := by
  unfold tny; rw [h 0 (by omega), h 1 (by omega), h 2 (by omega), h 3 (by omega)]
theorem tal_c {p q : Nat → Bool} (h : ∀ u, u < 4 → p u = q u) : tal4 p = tal4 q := by
  unfold tal4; rw [h 0 (by omega), h 1 (by omega), h 2 (by omega), h 3 (by omega)]
theorem lvO_w (s : Sg) (a b n : Nat) : ∀ r p, r < n → lvO s a b n r p = wBy s a b r (n - 1 - r) (p % 4) (mP s a b (n - 1 - r) (p / 4))
  | 0, p, h => by
    have e := run_mP s a b n p n (Nat.le_refl _)
    unfold lvO outc wBy
    rw [e, Nat.sub_self, Nat.pow_zero, Nat.div_one, Nat.sub_zero]
    obtain ⟨n', rfl⟩ : ∃ n', n = n' + 1 := ⟨n - 1, by omega⟩
    rw [mP]
    rfl
  | r + 1, p, h => by
    have ih := lvO_w s a b n r
    have e1 : n - 1 - r = (n - 1 - (r + 1)) + 1 := by omega
    have hu : ∀ u, u < 4 → lvO s a b n r (4 * p + u) = wBy s a b r (n - 1 - (r + 1) + 1) u (stp s (if (n - 1 - (r + 1)) % 2 = 0 then a else b) (n - 1 - (r + 1)) (p % 4) (mP s a b (n - 1 - (r + 1)) (p / 4))) := by
      intro u hu
      rw [ih (4 * p + u) (by omega), e1, mP, show (4 * p + u) % 4 = u by omega, show (4 * p + u) / 4 = p by omega]
    unfold lvO wBy
    rw [e1]
    rw [tny_c hu, tal_c hu]
theorem lvO_t (s : Sg) (a b : Nat) {n p : Nat} (hn : 1 ≤ n) (hp : p < 4) : lvO s a b n (n - 1) p = wBy s a b (n - 1) 0 p mo0 := by
  rw [lvO_w s a b n (n - 1) p (by omega), Nat.sub_self, Nat.mod_eq_of_lt hp]
  rfl
