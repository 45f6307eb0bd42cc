/-! THE STATE that both sides hold, and how it lies in the memory of each -/
abbrev Sg : Type := (Nat × (Nat → Nat)) × ((Nat → Nat → Nat) × (Nat → Nat)) × (Nat × (Nat → Nat) × (Nat → Nat) × (Nat → Nat)) × (Nat × (Nat → Nat) × (Nat → Nat)) × ((Nat → Nat) × (Nat → Nat) × (Nat → Nat → Int32)) × Int32
abbrev g_nb (s : Sg) : Nat := s.1.1
abbrev g_tx (s : Sg) : Nat → Nat := s.1.2
abbrev g_ta (s : Sg) : Nat → Nat → Nat := s.2.1.1
abbrev g_wy (s : Sg) : Nat → Nat := s.2.1.2
abbrev g_nv (s : Sg) : Nat := s.2.2.1.1
abbrev g_vd (s : Sg) : Nat → Nat := s.2.2.1.2.1
abbrev g_vh (s : Sg) : Nat → Nat := s.2.2.1.2.2.1
abbrev g_vt (s : Sg) : Nat → Nat := s.2.2.1.2.2.2
abbrev g_ns (s : Sg) : Nat := s.2.2.2.1.1
abbrev g_sd (s : Sg) : Nat → Nat := s.2.2.2.1.2.1
abbrev g_sh (s : Sg) : Nat → Nat := s.2.2.2.1.2.2
abbrev g_fo (s : Sg) : Nat → Nat := s.2.2.2.2.1.1
abbrev g_si (s : Sg) : Nat → Nat := s.2.2.2.2.1.2.1
abbrev g_it (s : Sg) : Nat → Nat → Int32 := s.2.2.2.2.1.2.2
abbrev g_fi (s : Sg) : Int32 := s.2.2.2.2.2
/-- the heirs' text -/
def fitB (tx : Nat → Nat) (i : Nat) : Bool := if i % 4 = 3 then tx i == 59 else decide (48 ≤ tx i) && decide (tx i ≤ 57)
def ffB (tx : Nat → Nat) : Nat → Nat
  | 0 => 0
  | n + 1 => if ffB tx n < n then ffB tx n else if fitB tx n then n + 1 else n
def fltB (nb : Nat) (tx : Nat → Nat) : Nat := if ffB tx nb < nb then ffB tx nb else if nb = 0 ∨ nb % 4 = 3 then 99 else nb
def hnB (nb : Nat) (tx : Nat → Nat) : Nat := if fltB nb tx = 99 then (nb + 1) / 4 else 0
def gdB (nb : Nat) (tx : Nat → Nat) (h t : Nat) : Nat := if h < hnB nb tx ∧ t < 3 then tx (4 * h + t) - 48 else 0
def fl99 (x : Nat) : Int32 := if x = 99 then -1 else nI x
abbrev g_hn (s : Sg) : Nat := hnB s.1.1 s.1.2
abbrev g_en (s : Sg) : En := ((g_hn s, gdB s.1.1 s.1.2), (g_wy s 0, g_wy s 1, g_wy s 2), g_wy s 4)
def ixV (nv : Nat) (vd : Nat → Nat) (d : Nat) : List Nat := (List.range nv).filter (fun k => vd k == d)
def stV (nv : Nat) (vd : Nat → Nat) (d : Nat) : Nat := ((List.range nv).filter (fun k => decide (vd k < d))).length
def g_bs (s : Sg) : Nat → List (Nat × Nat) := fun d => (ixV (g_nv s) (g_vd s) d).map (fun k => (g_vh s k, g_vt s k))
def WF (s : Sg) : Prop := g_nb s ≤ 23 ∧ (∀ k, g_tx s k ≤ 255) ∧ (∀ d t, g_ta s d t ≤ 9) ∧ (∀ k, k ≠ 3 → g_wy s k ≤ 9) ∧ g_wy s 3 < 2 ^ 30 ∧ g_nv s ≤ 24 ∧ (∀ k, g_vd s k < 30 ∧ g_vh s k < 6 ∧ g_vt s k < 3) ∧ g_ns s ≤ 8 ∧ (∀ k, g_sd s k < 30 ∧ (g_sh s k < 6 ∨ g_sh s k = 9)) ∧ ∀ k, (g_fo s k < 3 ∨ g_fo s k = 9) ∧ g_si s k ≤ 48
/-- what was seen, day by day, in the component -/
def SeenC (ns : Nat) (sd sh : Nat → Nat) (M : j_M) : Prop := M 17 1 = nI ns ∧ (∃ ld : Nat, ld < 31 ∧ M 17 2 = nI ld - 1 ∧ (∀ k, k < ns → sd k < ld)) ∧
  ((M 17 3 = 1 ∧ ∃ i j, i < ns ∧ j < ns ∧ sd i = sd j ∧ sh i ≠ sh j) ∨ (M 17 3 = 0 ∧ ∀ d, d < 30 → (M 18 d = -2 ∧ ∀ k, k < ns → sd k ≠ d) ∨ (∃ w, M 18 d = em w ∧ (w < 6 ∨ w = 9) ∧ (∃ k, k < ns ∧ sd k = d) ∧ ∀ k, k < ns → sd k = d → sh k = w)))
def HeC (nb : Nat) (tx : Nat → Nat) (M : j_M) : Prop := M 1 2 = nI nb ∧ M 1 3 = nI (hnB nb tx) ∧ M 1 4 = fl99 (fltB nb tx) ∧ (∀ i, i < nb → M 2 i = nI (tx i)) ∧ ∀ h t, h < hnB nb tx → t < 3 → M 3 (3 * h + t) = nI (gdB nb tx h t)
def ViC (nv : Nat) (vd vh vt : Nat → Nat) (M : j_M) : Prop := M 4 5 = nI nv ∧ (∀ k, k < nv → M 5 k = nI (vd k) ∧ M 6 k = nI (vh k) ∧ M 7 k = nI (vt k)) ∧ (∀ d, d ≤ 30 → M 9 d = nI (stV nv vd d)) ∧ ∀ d, d < 30 → ∀ (j v : Nat), (ixV nv vd d)[j]? = some v → M 8 (stV nv vd d + j) = nI v
def ShC (fo si : Nat → Nat) (it : Nat → Nat → Int32) (fi : Int32) (M : j_M) : Prop := (∀ s, s < 4 → M 24 s = em (fo s) ∧ M 25 s = nI (si s) ∧ ∀ i, i < 48 → M (27 + s) i = it s i) ∧ M 23 3 = fi
def RepC (s : Sg) (M : j_M) : Prop := HeC (g_nb s) (g_tx s) M ∧ (∀ d t, d < 2 → t < 3 → M (12 + d) t = nI (g_ta s d t)) ∧ (∀ k, k < 5 → M 10 k = nI (g_wy s k)) ∧ ViC (g_nv s) (g_vd s) (g_vh s) (g_vt s) M ∧ SeenC (g_ns s) (g_sd s) (g_sh s) M ∧ ShC (g_fo s) (g_si s) (g_it s) (g_fi s) M
def RepR (s : Sg) (M : j_M) : Prop := (M 79 1 = nI (g_nb s) ∧ ∀ i, i < g_nb s → M 80 i = nI (g_tx s i)) ∧ (∀ d t, d < 2 → t < 3 → M 82 (3 * d + t) = nI (g_ta s d t)) ∧ (∀ k, k < 5 → M 79 (5 + k) = nI (g_wy s k)) ∧
  (M 79 10 = nI (g_nv s) ∧ ∀ k, k < g_nv s → M 83 k = nI (g_vd s k) ∧ M 84 k = nI (g_vh s k) ∧ M 85 k = nI (g_vt s k)) ∧ (M 79 28 = nI (g_ns s) ∧ ∀ k, k < g_ns s → M 95 k = nI (g_sd s k) ∧ M 96 k = em (g_sh s k)) ∧
  (∀ q, q < 4 → (M 99 q = if g_fo s q = 9 then 0 else 1) ∧ (g_fo s q ≠ 9 → M 100 q = nI (g_fo s q)) ∧ M 101 q = nI (g_si s q) ∧ ∀ i, i < 48 → M 102 (48 * q + i) = g_it s q i) ∧ M 79 40 = g_fi s
/-- the component's cells that hold the state -/
def PC (b : Nat) : Prop := b < 14 ∨ b = 17 ∨ b = 18 ∨ (23 ≤ b ∧ b ≤ 30)
/-- only working cells of the component changed -/
def Scr (M M' : j_M) : Prop := ∀ b, PC b ∨ 79 ≤ b → M' b = M b
def Hi (M M' : j_M) : Prop := ∀ b, 79 ≤ b → M' b = M b
def Lo (M M' : j_M) : Prop := ∀ b, b < 79 → M' b = M b
theorem Scr.rf {M : j_M} : Scr M M := fun _ _ => rfl
theorem Scr.tr {M M1 M2 : j_M} (h : Scr M M1) (h2 : Scr M1 M2) : Scr M M2 := fun b hb => (h2 b hb).trans (h b hb)
theorem Scr.hi {M M' : j_M} (h : Scr M M') : Hi M M' := fun b hb => h b (Or.inr hb)
theorem Scr.off {a : Nat} {M M' : j_M} (hm : j_mo a) (h : Off1 a M M') : Scr M M' := fun b hb => by
  have hg := mo_ge hm
  have hb2 : b < 35 ∨ 79 ≤ b := by unfold PC at hb; omega
  refine h b ?_ ?_ ?_ ?_ <;> omega
theorem Scr.set {a k : Nat} {x : Int32} {M : j_M} (h : ¬ PC a) (h2 : a < 79) : Scr M (j_set M a k x) := fun b hb => j_set_n _ _ _ (by intro q; subst q; rcases hb with hb | hb; exact h hb; omega)
theorem Scr.rep {s : Sg} {M M' : j_M} (h : Scr M M') (hR : RepC s M) : RepC s M' := by
  have g : ∀ b, PC b → M' b = M b := fun b hb => h b (Or.inl hb)
  obtain ⟨a1, a2, a3, a4, a5, a6⟩ := hR
  refine ⟨?_, fun d t hd ht => ?_, fun k hk => ?_, ?_, ?_, ?_⟩
  · unfold HeC at *; rw [g 1 (by unfold PC; omega), g 2 (by unfold PC; omega), g 3 (by unfold PC; omega)]; exact a1
  · rw [g (12 + d) (by unfold PC; omega)]; exact a2 d t hd ht
  · rw [g 10 (by unfold PC; omega)]; exact a3 k hk
  · unfold ViC at *; rw [g 4 (by unfold PC; omega), g 5 (by unfold PC; omega), g 6 (by unfold PC; omega), g 7 (by unfold PC; omega), g 8 (by unfold PC; omega), g 9 (by unfold PC; omega)]; exact a4
  · unfold SeenC at *; rw [g 17 (by unfold PC; omega), g 18 (by unfold PC; omega)]; exact a5
  · unfold ShC at *
    refine ⟨fun q hq => ?_, ?_⟩
    · rw [g 24 (by unfold PC; omega), g 25 (by unfold PC; omega), g (27 + q) (by unfold PC; omega)]; exact a6.1 q hq
    · rw [g 23 (by unfold PC; omega)]; exact a6.2
-- the text
theorem ffB_le (tx : Nat → Nat) : ∀ n, ffB tx n ≤ n
  | 0 => Nat.le_refl _
  | n + 1 => by have := ffB_le tx n; unfold ffB; split; omega; split <;> omega
theorem ffB_fit {tx : Nat → Nat} : ∀ {n k : Nat}, k < ffB tx n → fitB tx k = true
  | 0, k, h => absurd h (Nat.not_lt_zero _)
  | n + 1, k, h => by
    unfold ffB at h
    have hl := ffB_le tx n
    split at h
    · exact ffB_fit h
    · split at h
      · rename_i h1 h2
        by_cases hk : k = n
        · rw [hk]; exact h2
        · exact ffB_fit (n := n) (by omega)
      · rename_i h1 h2; exact ffB_fit (n := n) (by omega)
theorem ffB_bad {tx : Nat → Nat} : ∀ {n : Nat}, ffB tx n < n → fitB tx (ffB tx n) = false
  | 0, h => absurd h (Nat.not_lt_zero _)
  | n + 1, h => by
    have hl := ffB_le tx n
    unfold ffB at h ⊢
    split
    · rename_i h1; exact ffB_bad h1
    · rename_i h1
      rw [if_neg h1] at h
      split
      · rename_i h2; rw [if_pos h2] at h; omega
      · rename_i h2; simpa using h2
theorem ffB_eq {tx : Nat → Nat} {n k : Nat} (hk : k < n) (h1 : ∀ j, j < k → fitB tx j = true) (h2 : fitB tx k = false) : ffB tx n = k := by
  rcases Nat.lt_trichotomy (ffB tx n) k with h | h | h
  · have := ffB_bad (show ffB tx n < n by omega)
    rw [h1 _ h] at this; cases this
  · exact h
  · have := ffB_fit h
    rw [h2] at this; cases this
theorem ffB_all {tx : Nat → Nat} {n : Nat} (h1 : ∀ j, j < n → fitB tx j = true) : ffB tx n = n := by
  have hl := ffB_le tx n
  rcases Nat.lt_or_ge (ffB tx n) n with h | h
  · have := ffB_bad h
    rw [h1 _ h] at this; cases this
  · omega
theorem hnB_le {nb : Nat} {tx : Nat → Nat} (h : nb ≤ 23) : hnB nb tx ≤ 6 := by unfold hnB; split <;> omega
theorem hnB_fit {nb : Nat} {tx : Nat → Nat} {h t : Nat} (hn : nb ≤ 23) (hh : h < hnB nb tx) (ht : t < 3) : 4 * h + t < nb ∧ 48 ≤ tx (4 * h + t) ∧ tx (4 * h + t) ≤ 57 := by
  unfold hnB at hh
  split at hh
  · rename_i h99
    unfold fltB at h99
    have hl := ffB_le tx nb
    split at h99
    · omega
    · rename_i hff
      split at h99
      · rename_i h0
        have hlt : 4 * h + t < nb := by omega
        have hf := ffB_fit (tx := tx) (n := nb) (k := 4 * h + t) (by omega)
        unfold fitB at hf
        rw [if_neg (by omega)] at hf
        simp at hf
        exact ⟨hlt, hf.1, hf.2⟩
      · omega
  · omega
theorem gdB_le {nb : Nat} {tx : Nat → Nat} (hn : nb ≤ 23) (h t : Nat) : gdB nb tx h t ≤ 9 := by
  unfold gdB
  split
  · rename_i hh; have := hnB_fit hn hh.1 hh.2; omega
  · omega
theorem WF.en {s : Sg} (h : WF s) : EnW (g_en s) := ⟨hnB_le h.1, fun a b => gdB_le h.1 a b, h.2.2.2.1 0 (by omega), h.2.2.2.1 1 (by omega), h.2.2.2.1 2 (by omega), h.2.2.2.1 4 (by omega)⟩
-- visits by days
theorem stV_0 (nv : Nat) (vd : Nat → Nat) : stV nv vd 0 = 0 := by simp [stV]
theorem stV_succ (nv : Nat) (vd : Nat → Nat) (d : Nat) : stV nv vd (d + 1) = stV nv vd d + (ixV nv vd d).length := by
  unfold stV ixV
  induction nv with
  | zero => rfl
  | succ n ih =>
    rw [List.range_succ, List.filter_append, List.filter_append, List.filter_append, List.length_append, List.length_append, List.length_append, ih]
    simp only [List.filter_cons, List.filter_nil]
    by_cases h1 : vd n < d
    · have h2 : vd n < d + 1 := by omega
      have h3 : ¬ vd n = d := by omega
      simp [h1, h2, h3]; omega
    · by_cases h3 : vd n = d
      · simp [h3]; omega
      · have h2 : ¬ vd n < d + 1 := by omega
        simp [h1, h2, h3]
theorem stV_le (nv : Nat) (vd : Nat → Nat) (d : Nat) : stV nv vd d ≤ nv := by
  unfold stV
  exact Nat.le_trans (List.length_filter_le _ _) (by simp)
theorem stV_mono (nv : Nat) (vd : Nat → Nat) {d e : Nat} (h : d ≤ e) : stV nv vd d ≤ stV nv vd e := by
  induction e with
  | zero => rw [show d = 0 by omega]; exact Nat.le_refl _
  | succ e ih =>
    rcases Nat.lt_or_ge e d with q | q
    · rw [show d = e + 1 by omega]; exact Nat.le_refl _
    · have := ih q; rw [stV_succ]; omega
theorem ixV_mem {nv : Nat} {vd : Nat → Nat} {d v : Nat} : v ∈ ixV nv vd d ↔ v < nv ∧ vd v = d := by simp [ixV]
theorem RepC.ce {s : Sg} {M : j_M} (hw : WF s) (h : RepC s M) : CE (g_en s) (g_wy s 3) (g_bs s) M := by
  obtain ⟨⟨-, a2, -, -, a5⟩, -, a3, ⟨v1, v2, v3, v4⟩, -, -⟩ := h
  refine ⟨⟨hw.en, a2, a5, a3 0 (by omega), a3 1 (by omega), a3 2 (by omega), a3 4 (by omega)⟩, ⟨stV (g_nv s) (g_vd s), fun d hd => ⟨v3 d hd, Nat.le_trans (stV_le _ _ _) hw.2.2.2.2.2.1⟩, fun d hd => ?_, fun d hd j q hq => ?_⟩, a3 3 (by omega), hw.2.2.2.2.1⟩
  · rw [stV_succ]; simp [g_bs]
  · unfold g_bs at hq
    rw [List.getElem?_map] at hq
    cases hv : (ixV (g_nv s) (g_vd s) d)[j]? with
    | none => rw [hv] at hq; cases hq
    | some v =>
      rw [hv] at hq
      cases hq
      have hm := ixV_mem.mp (List.mem_of_getElem? hv)
      have h24 := hw.2.2.2.2.2.1
      have hvv := hw.2.2.2.2.2.2.1 v
      exact ⟨v, by omega, v4 d hd j v hv, (v2 v hm.1).2.1, (v2 v hm.1).2.2, hvv.2.1, hvv.2.2⟩
theorem g_bs_len {s : Sg} (hw : WF s) (d : Nat) : (g_bs s d).length ≤ 24 := by
  unfold g_bs ixV
  rw [List.length_map]
  exact Nat.le_trans (List.length_filter_le _ _) (by have := hw.2.2.2.2.2.1; simpa using this)
theorem g_bs_wf {s : Sg} (hw : WF s) (d : Nat) : ∀ q ∈ g_bs s d, q.1 < 6 ∧ q.2 < 3 := by
  intro q hq
  unfold g_bs at hq
  obtain ⟨v, -, rfl⟩ := List.mem_map.mp hq
  have hvv := hw.2.2.2.2.2.2.1 v
  exact ⟨hvv.2.1, hvv.2.2⟩
/-- a run of the judge's, as told -/
abbrev g_run (s : Sg) (ts : Nat → Nat) (tr : Nat) (k : Nat) : Mo := run (g_en s) ts tr (g_wy s 3) (g_bs s) k
theorem g_runW {s : Sg} (hw : WF s) {ts : Nat → Nat} (hts : ∀ t, ts t ≤ 9) (tr : Nat) {k : Nat} (hk : k ≤ 30) : MoW (g_en s) (10000 * k) (g_run s ts tr k) :=
  runW hw.en hts (fun k q hq => (g_bs_wf hw k q hq).2) (fun k => Nat.le_trans (g_bs_len hw k) (by omega)) k hk
/-- who is found behind a day -/
def fdA (s : Sg) (ts : Nat → Nat) (tr day : Nat) : Nat := (g_run s ts tr (day + 1)).2.2.2.2
/-- all that was seen comes out so -/
def outB (s : Sg) (ts : Nat → Nat) (tr : Nat) : Bool := (List.range (g_ns s)).all (fun k => fdA s ts tr (g_sd s k) == g_sh s k)
theorem outB_iff {s : Sg} {ts : Nat → Nat} {tr : Nat} : outB s ts tr = true ↔ ∀ k, k < g_ns s → fdA s ts tr (g_sd s k) = g_sh s k := by simp [outB]
theorem fdA_lt {s : Sg} (hw : WF s) {ts : Nat → Nat} (hts : ∀ t, ts t ≤ 9) (tr : Nat) {day : Nat} (hd : day < 30) : fdA s ts tr day < g_hn s ∨ fdA s ts tr day = 9 := (g_runW hw hts tr (show day + 1 ≤ 30 by omega)).2.2.2.2.1
