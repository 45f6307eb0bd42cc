/-! THE PURE MODEL: a mood, a visit, an evening, a run of days -/
abbrev Mo : Type := (Nat → Nat) × (Nat → Nat) × Nat × Nat × Nat
abbrev En : Type := (Nat × (Nat → Nat → Nat)) × (Nat × Nat × Nat) × Nat
-- of an environment: how many heirs, how good; habit, hunger, fades; night
def grw (e : En) (ts : Nat → Nat) (day h t : Nat) (m : Mo) : Nat :=
  (if t = 0 ∧ (m.2.2.1 = 99 ∨ e.2.1.2.1 < day - m.2.2.1) then ts t * e.1.2 h t * 2 else ts t * e.1.2 h t) - (if m.2.1 h = t then e.2.1.1 else 0)
def brg (e : En) (ts : Nat → Nat) (day h t : Nat) (m : Mo) : Mo :=
  if h < e.1.1 then (fun i => if i = h then m.1 h + grw e ts day h t m else m.1 i, fun i => if i = h then t else m.2.1 i, if t = 0 then day else m.2.2.1, m.2.2.2.1 ||| 2 ^ h, m.2.2.2.2) else m
def fnd (lk : Nat → Nat) : Nat → Nat × Nat
  | 0 => (9, 0)
  | k + 1 => if (fnd lk k).2 < lk k then (k, lk k) else fnd lk k
def pick (lk : Nat → Nat) (n old : Nat) : Nat := if (fnd lk n).1 ≠ 9 ∧ old ≠ 9 ∧ lk old = (fnd lk n).2 then old else (fnd lk n).1
def fadL (e : En) (tr : Nat) (m : Mo) : Nat → Nat := fun i => if i < e.1.1 then (if m.2.2.2.1.testBit i then m.1 i else m.1 i - e.2.1.2.2) + (if i = tr then e.2.2 else 0) else m.1 i
def eve (e : En) (tr : Nat) (m : Mo) : Mo := (fadL e tr m, m.2.1, m.2.2.1, 0, pick (fadL e tr m) e.1.1 m.2.2.2.2)
/-- visits of a day, one by one -/
def brgs (e : En) (ts : Nat → Nat) (day : Nat) (l : List (Nat × Nat)) (m : Mo) : Mo := l.foldl (fun m q => brg e ts day q.1 q.2 m) m
def mo0 : Mo := (fun _ => 0, fun _ => 9, 99, 0, 9)
/-- a day: what comes (nothing, where it sleeps), then the evening -/
def dayS (e : En) (ts : Nat → Nat) (tr sl : Nat) (l : List (Nat × Nat)) (day : Nat) (m : Mo) : Mo := eve e tr (if sl.testBit day then m else brgs e ts day l m)
def run (e : En) (ts : Nat → Nat) (tr sl : Nat) (bs : Nat → List (Nat × Nat)) : Nat → Mo
  | 0 => mo0
  | k + 1 => dayS e ts tr sl (bs k) k (run e ts tr sl bs k)
/-- what is asked of the numbers -/
def EnW (e : En) : Prop := e.1.1 ≤ 6 ∧ (∀ h t, e.1.2 h t ≤ 9) ∧ e.2.1.1 ≤ 9 ∧ e.2.1.2.1 ≤ 9 ∧ e.2.1.2.2 ≤ 9 ∧ e.2.2 ≤ 9
def MoW (e : En) (b : Nat) (m : Mo) : Prop := (∀ i, m.1 i ≤ b) ∧ (∀ i, m.2.1 i < 3 ∨ m.2.1 i = 9) ∧ (m.2.2.1 < 30 ∨ m.2.2.1 = 99) ∧ m.2.2.2.1 < 64 ∧ (m.2.2.2.2 < e.1.1 ∨ m.2.2.2.2 = 9) ∧ (m.2.2.2.1 = 0 → pick m.1 e.1.1 m.2.2.2.2 = m.2.2.2.2)
theorem fnd_lt (lk : Nat → Nat) : ∀ n, (fnd lk n).1 < n ∨ ((fnd lk n).1 = 9 ∧ (fnd lk n).2 = 0)
  | 0 => Or.inr ⟨rfl, rfl⟩
  | n + 1 => by
    unfold fnd
    split
    · exact Or.inl (Nat.lt_succ_self n)
    · rcases fnd_lt lk n with h | h
      · exact Or.inl (Nat.lt_succ_of_lt h)
      · exact Or.inr h
theorem fnd_val (lk : Nat → Nat) : ∀ n, (fnd lk n).1 ≠ 9 → lk (fnd lk n).1 = (fnd lk n).2
  | 0 => fun h => absurd rfl h
  | n + 1 => by
    unfold fnd
    split
    · intro _; rfl
    · exact fnd_val lk n
theorem fnd_le (lk : Nat → Nat) {b : Nat} (hb : ∀ i, lk i ≤ b) : ∀ n, (fnd lk n).2 ≤ b
  | 0 => Nat.zero_le _
  | n + 1 => by
    unfold fnd
    split
    · exact hb n
    · exact fnd_le lk hb n
theorem pick_lt {lk : Nat → Nat} {n old : Nat} (ho : old < n ∨ old = 9) : pick lk n old < n ∨ pick lk n old = 9 := by
  unfold pick
  split
  · rename_i h; rcases ho with h1 | h1
    · exact Or.inl h1
    · exact absurd h1 h.2.1
  · rcases fnd_lt lk n with h | h
    · exact Or.inl h
    · exact Or.inr h.1
theorem pick_idem (lk : Nat → Nat) {n old : Nat} (hn : n ≤ 6) : pick lk n (pick lk n old) = pick lk n old := by
  have h9 := fnd_lt lk n
  have hv := fnd_val lk n
  unfold pick
  by_cases h : (fnd lk n).1 ≠ 9 ∧ old ≠ 9 ∧ lk old = (fnd lk n).2
  · rw [if_pos h, if_pos h]
  · rw [if_neg h]
    split
    · rfl
    · rfl
theorem pick_zero {lk : Nat → Nat} (n : Nat) (h : ∀ i, lk i = 0) : pick lk n 9 = 9 := by
  have : ∀ n, fnd lk n = (9, 0) := by
    intro n
    induction n with
    | zero => rfl
    | succ n ih => unfold fnd; rw [ih, if_neg (by rw [h n]; simp)]
  unfold pick
  rw [this]; simp
theorem mo0W (e : En) (b : Nat) : MoW e b mo0 := ⟨fun _ => Nat.zero_le _, fun _ => Or.inr rfl, Or.inr rfl, by decide, Or.inr rfl, fun _ => pick_zero _ (fun _ => rfl)⟩
theorem grw_le {e : En} {ts : Nat → Nat} (he : EnW e) (hts : ∀ t, ts t ≤ 9) (day h t : Nat) (m : Mo) : grw e ts day h t m ≤ 162 := by
  unfold grw
  have h1 : ts t * e.1.2 h t ≤ 81 := Nat.mul_le_mul (hts t) (he.2.1 h t)
  split <;> omega
theorem bit_add {c h : Nat} (hc : c < 64) (hh : h < 6) : c ||| 2 ^ h < 64 ∧ c ||| 2 ^ h ≠ 0 := by
  constructor
  · exact Nat.or_lt_two_pow (n := 6) hc (Nat.pow_lt_pow_right (by decide) hh)
  · intro h0
    have := Nat.or_eq_zero_iff.mp h0
    exact absurd this.2 (Nat.ne_of_gt (Nat.two_pow_pos h))
theorem brgW {e : En} {ts : Nat → Nat} {b day h t : Nat} {m : Mo} (he : EnW e) (hts : ∀ t, ts t ≤ 9) (hd : day < 30) (ht : t < 3) (hm : MoW e b m) : MoW e (b + 162) (brg e ts day h t m) := by
  obtain ⟨h1, h2, h3, h4, h5, h6⟩ := hm
  unfold brg
  split
  · rename_i hh
    have hg := grw_le he hts day h t m
    have hb := bit_add h4 (show h < 6 by have := he.1; omega)
    refine ⟨fun i => ?_, fun i => ?_, ?_, hb.1, h5, fun h0 => absurd h0 hb.2⟩
    · show (if i = h then m.1 h + grw e ts day h t m else m.1 i) ≤ _
      split
      · have := h1 h; omega
      · have := h1 i; omega
    · show (if i = h then t else m.2.1 i) < 3 ∨ (if i = h then t else m.2.1 i) = 9
      split
      · exact Or.inl ht
      · exact h2 i
    · show (if t = 0 then day else m.2.2.1) < 30 ∨ (if t = 0 then day else m.2.2.1) = 99
      split
      · exact Or.inl hd
      · exact h3
  · exact ⟨fun i => by have := h1 i; omega, h2, h3, h4, h5, h6⟩
theorem brgsW {e : En} {ts : Nat → Nat} {day : Nat} (he : EnW e) (hts : ∀ t, ts t ≤ 9) (hd : day < 30) : ∀ (l : List (Nat × Nat)) (b : Nat) (m : Mo), (∀ q ∈ l, q.2 < 3) → MoW e b m → MoW e (b + 162 * l.length) (brgs e ts day l m)
  | [], b, m, _, hm => by simpa [brgs] using hm
  | q :: l, b, m, hl, hm => by
    have h := brgsW he hts hd l (b + 162) (brg e ts day q.1 q.2 m) (fun x hx => hl x (List.mem_cons_of_mem _ hx)) (brgW he hts hd (hl q List.mem_cons_self) hm)
    rw [List.length_cons, show b + 162 * (l.length + 1) = b + 162 + 162 * l.length by omega]
    exact h
theorem eveW {e : En} {b tr : Nat} {m : Mo} (he : EnW e) (hm : MoW e b m) : MoW e (b + 9) (eve e tr m) := by
  obtain ⟨h1, h2, h3, h4, h5, h6⟩ := hm
  refine ⟨fun i => ?_, h2, h3, (by decide : (0 : Nat) < 64), pick_lt h5, fun _ => pick_idem _ he.1⟩
  show fadL e tr m i ≤ _
  unfold fadL
  have := h1 i
  have := he.2.2.2.2.2
  split
  · split <;> split <;> omega
  · omega
theorem dayW {e : En} {ts : Nat → Nat} {day b tr sl : Nat} {l : List (Nat × Nat)} {m : Mo} (he : EnW e) (hts : ∀ t, ts t ≤ 9) (hd : day < 30) (hl : ∀ q ∈ l, q.2 < 3) (hlen : l.length ≤ 60) (hm : MoW e b m) : MoW e (b + 10000) (dayS e ts tr sl l day m) := by
  unfold dayS
  have up : ∀ {b c : Nat} {m : Mo}, b ≤ c → MoW e b m → MoW e c m := fun h q => ⟨fun i => Nat.le_trans (q.1 i) h, q.2⟩
  split
  · exact up (by omega) (eveW he hm)
  · exact up (by omega) (eveW he (brgsW he hts hd l b m hl hm))
theorem MoW.up {e : En} {b c : Nat} {m : Mo} (q : MoW e b m) (h : b ≤ c) : MoW e c m := ⟨fun i => Nat.le_trans (q.1 i) h, q.2⟩
theorem runW {e : En} {ts : Nat → Nat} {tr sl : Nat} {bs : Nat → List (Nat × Nat)} (he : EnW e) (hts : ∀ t, ts t ≤ 9) (hl : ∀ k, ∀ q ∈ bs k, q.2 < 3) (hlen : ∀ k, (bs k).length ≤ 60) : ∀ k, k ≤ 30 → MoW e (10000 * k) (run e ts tr sl bs k)
  | 0, _ => mo0W e _
  | k + 1, hk => by
    have h := dayW (tr := tr) (sl := sl) he hts (show k < 30 by omega) (hl k) (hlen k) (runW (tr := tr) (sl := sl) he hts hl hlen k (by omega))
    exact h.up (by omega)
/-- an evening on which nothing can change -/
theorem eve_same {e : En} {b tr : Nat} {m : Mo} (hm : MoW e b m) (hc : m.2.2.2.1 = 0) (hf : e.2.1.2.2 = 0) (hn : tr ≥ e.1.1 ∨ e.2.2 = 0) : eve e tr m = m := by
  obtain ⟨lk, la, sg, cm, fd⟩ := m
  have hfad : fadL e tr (lk, la, sg, cm, fd) = lk := by
    funext i
    simp only [] at hc
    unfold fadL
    simp only [hc, Nat.zero_testBit, hf]
    split
    · rename_i hi
      rcases hn with h | h
      · have h9 : i ≠ tr := by omega
        simp [h9]
      · rw [h]; simp
    · rfl
  have h6 := hm.2.2.2.2.2 hc
  unfold eve
  rw [hfad]
  simp only [] at hc h6
  rw [h6, hc]
/-- how a mood lies in the memory -/
def MoodAt (M : j_M) (a : Nat) (ts : Nat → Nat) (tr : Nat) (m : Mo) : Prop :=
  (∀ i, i < 6 → M (a + 1) i = nI (m.1 i)) ∧ (∀ i, i < 6 → M (a + 2) i = em (m.2.1 i)) ∧ (∀ t, t < 3 → M (a + 3) t = nI (ts t)) ∧ M a 3 = em tr ∧ M a 4 = nI m.2.2.2.1 ∧ M a 5 = (if m.2.2.1 = 99 then -100 else nI m.2.2.1) ∧ M a 6 = em m.2.2.2.2
theorem MoodAt.cong {M M' : j_M} {a : Nat} {ts : Nat → Nat} {tr : Nat} {m : Mo} (h : MoodAt M a ts tr m) (h0 : M' a = M a) (h1 : M' (a + 1) = M (a + 1)) (h2 : M' (a + 2) = M (a + 2)) (h3 : M' (a + 3) = M (a + 3)) : MoodAt M' a ts tr m := by
  unfold MoodAt at *
  rw [h0, h1, h2, h3]; exact h
theorem md_lk {M : j_M} {a i x : Nat} {v : Int32} {ts : Nat → Nat} {tr : Nat} {lk la : Nat → Nat} {sg cm fd : Nat} (h : MoodAt M a ts tr (lk, la, sg, cm, fd)) (hv : v = nI x) : MoodAt (j_set M (a + 1) i v) a ts tr (fun j => if j = i then x else lk j, la, sg, cm, fd) := by
  obtain ⟨h1, h2, h3, h4, h5, h6, h7⟩ := h
  refine ⟨fun j hj => ?_, fun j hj => ?_, fun j hj => ?_, ?_, ?_, ?_, ?_⟩
  · rw [j_set_s]; show upd _ _ _ _ = nI (if j = i then x else lk j)
    unfold upd; split
    · exact hv
    · exact h1 j hj
  · rw [j_set_n _ _ _ (by omega)]; exact h2 j hj
  · rw [j_set_n _ _ _ (by omega)]; exact h3 j hj
  · rw [j_set_n _ _ _ (by omega)]; exact h4
  · rw [j_set_n _ _ _ (by omega)]; exact h5
  · rw [j_set_n _ _ _ (by omega)]; exact h6
  · rw [j_set_n _ _ _ (by omega)]; exact h7
theorem md_la {M : j_M} {a i x : Nat} {v : Int32} {ts : Nat → Nat} {tr : Nat} {lk la : Nat → Nat} {sg cm fd : Nat} (h : MoodAt M a ts tr (lk, la, sg, cm, fd)) (hv : v = em x) : MoodAt (j_set M (a + 2) i v) a ts tr (lk, fun j => if j = i then x else la j, sg, cm, fd) := by
  obtain ⟨h1, h2, h3, h4, h5, h6, h7⟩ := h
  refine ⟨fun j hj => ?_, fun j hj => ?_, fun j hj => ?_, ?_, ?_, ?_, ?_⟩
  · rw [j_set_n _ _ _ (by omega)]; exact h1 j hj
  · rw [j_set_s]; show upd _ _ _ _ = em (if j = i then x else la j)
    unfold upd; split
    · exact hv
    · exact h2 j hj
  · rw [j_set_n _ _ _ (by omega)]; exact h3 j hj
  · rw [j_set_n _ _ _ (by omega)]; exact h4
  · rw [j_set_n _ _ _ (by omega)]; exact h5
  · rw [j_set_n _ _ _ (by omega)]; exact h6
  · rw [j_set_n _ _ _ (by omega)]; exact h7
theorem md_cm {M : j_M} {a x : Nat} {v : Int32} {ts : Nat → Nat} {tr : Nat} {lk la : Nat → Nat} {sg cm fd : Nat} (h : MoodAt M a ts tr (lk, la, sg, cm, fd)) (hv : v = nI x) : MoodAt (j_set M a 4 v) a ts tr (lk, la, sg, x, fd) := by
  obtain ⟨h1, h2, h3, h4, h5, h6, h7⟩ := h
  refine ⟨fun j hj => ?_, fun j hj => ?_, fun j hj => ?_, ?_, ?_, ?_, ?_⟩
  · rw [j_set_n _ _ _ (by omega)]; exact h1 j hj
  · rw [j_set_n _ _ _ (by omega)]; exact h2 j hj
  · rw [j_set_n _ _ _ (by omega)]; exact h3 j hj
  · rw [j_set_s]; simpa [upd] using h4
  · rw [j_set_s]; simpa [upd] using hv
  · rw [j_set_s]; simpa [upd] using h6
  · rw [j_set_s]; simpa [upd] using h7

theorem md_sg {M : j_M} {a x : Nat} {v : Int32} {ts : Nat → Nat} {tr : Nat} {lk la : Nat → Nat} {sg cm fd : Nat} (h : MoodAt M a ts tr (lk, la, sg, cm, fd)) (hv : v = if x = 99 then -100 else nI x) : MoodAt (j_set M a 5 v) a ts tr (lk, la, x, cm, fd) := by
  obtain ⟨h1, h2, h3, h4, h5, h6, h7⟩ := h
  refine ⟨fun j hj => ?_, fun j hj => ?_, fun j hj => ?_, ?_, ?_, ?_, ?_⟩
  · rw [j_set_n _ _ _ (by omega)]; exact h1 j hj
  · rw [j_set_n _ _ _ (by omega)]; exact h2 j hj
  · rw [j_set_n _ _ _ (by omega)]; exact h3 j hj
  · rw [j_set_s]; simpa [upd] using h4
  · rw [j_set_s]; simpa [upd] using h5
  · rw [j_set_s]; simpa [upd] using hv
  · rw [j_set_s]; simpa [upd] using h7

theorem md_fd {M : j_M} {a x : Nat} {v : Int32} {ts : Nat → Nat} {tr : Nat} {lk la : Nat → Nat} {sg cm fd : Nat} (h : MoodAt M a ts tr (lk, la, sg, cm, fd)) (hv : v = em x) : MoodAt (j_set M a 6 v) a ts tr (lk, la, sg, cm, x) := by
  obtain ⟨h1, h2, h3, h4, h5, h6, h7⟩ := h
  refine ⟨fun j hj => ?_, fun j hj => ?_, fun j hj => ?_, ?_, ?_, ?_, ?_⟩
  · rw [j_set_n _ _ _ (by omega)]; exact h1 j hj
  · rw [j_set_n _ _ _ (by omega)]; exact h2 j hj
  · rw [j_set_n _ _ _ (by omega)]; exact h3 j hj
  · rw [j_set_s]; simpa [upd] using h4
  · rw [j_set_s]; simpa [upd] using h5
  · rw [j_set_s]; simpa [upd] using h6
  · rw [j_set_s]; simpa [upd] using hv

