/-! SUITS: rows of visits more -/
def bsX (h : Nat) (row : List Nat) (d : Nat) : List (Nat × Nat) := (row.filter (fun c => c / 3 == d)).map (fun c => (h, c % 3))
def bsS (s : Sg) (h : Nat) (row : List Nat) : Nat → List (Nat × Nat) := fun d => g_bs s d ++ bsX h row d
def ruS (s : Sg) (h : Nat) (row : List Nat) (k : Nat) : Mo := run (g_en s) (g_ta s 0) 9 (g_wy s 3) (bsS s h row) k
def suW (s : Sg) (h last : Nat) (row : List Nat) : Bool := (ruS s h row (last + 1)).2.2.2.2 == h
def aslp (s : Sg) (c : Nat) : Bool := (g_wy s 3).testBit (c / 3)
def fstS (f : Nat → Option (List Nat)) : Nat → Nat → Option (List Nat)
  | 0, _ => none
  | n + 1, lo => (f lo).or (fstS f n (lo + 1))
def skS (W : List Nat → Bool) (C : Nat) : Nat → List Nat → Nat → Option (List Nat)
  | 0, pre, _ => if W pre then some pre else none
  | l + 1, pre, code => fstS (fun nx => skS W C l (pre ++ [nx]) nx) (C - code) code
def skC (W : List Nat → Bool) (A : Nat → Bool) (C : Nat) : Nat → List Nat → Nat → Option (List Nat)
  | 0, pre, _ => if W pre then some pre else none
  | l + 1, pre, code => fstS (fun nx => if A nx then none else skC W A C l (pre ++ [nx]) nx) (C - code) code
def chn (C : Nat) : Nat → List Nat → Prop
  | _, [] => True
  | code, x :: l => code ≤ x ∧ x < C ∧ chn C x l
theorem fstS_none {f : Nat → Option (List Nat)} : ∀ n lo, fstS f n lo = none ↔ ∀ i, lo ≤ i → i < lo + n → f i = none
  | 0, lo => ⟨fun _ i h1 h2 => absurd h2 (by omega), fun _ => rfl⟩
  | n + 1, lo => by
    have ih := fstS_none (f := f) n (lo + 1)
    rw [fstS]
    cases hf : f lo with
    | none =>
      rw [show (none : Option (List Nat)).or (fstS f n (lo + 1)) = fstS f n (lo + 1) from rfl, ih]
      constructor
      · intro h i h1 h2
        by_cases hc : i = lo
        · rw [hc]; exact hf
        · exact h i (by omega) (by omega)
      · intro h i h1 h2; exact h i (by omega) (by omega)
    | some x =>
      rw [show (some x).or (fstS f n (lo + 1)) = some x from rfl]
      constructor
      · intro h; cases h
      · intro h
        have := h lo (by omega) (by omega)
        rw [hf] at this; cases this
theorem fstS_congr {f g : Nat → Option (List Nat)} : ∀ n lo, (∀ i, lo ≤ i → i < lo + n → f i = g i) → fstS f n lo = fstS g n lo
  | 0, _, _ => rfl
  | n + 1, lo, h => by
    rw [fstS, fstS, h lo (by omega) (by omega), fstS_congr n (lo + 1) (fun i h1 h2 => h i (by omega) (by omega))]
theorem fstS_some {f : Nat → Option (List Nat)} {r : List Nat} : ∀ n lo, fstS f n lo = some r → ∃ i, lo ≤ i ∧ i < lo + n ∧ f i = some r
  | 0, _, h => by cases h
  | n + 1, lo, h => by
    rw [fstS] at h
    cases hf : f lo with
    | none =>
      rw [hf] at h
      obtain ⟨i, h1, h2, h3⟩ := fstS_some n (lo + 1) h
      exact ⟨i, by omega, by omega, h3⟩
    | some x =>
      rw [hf] at h
      exact ⟨lo, by omega, by omega, by rw [hf]; exact h⟩
theorem skS_none {W : List Nat → Bool} {C : Nat} : ∀ l pre code, skS W C l pre code = none ↔ ∀ ext : List Nat, ext.length = l → chn C code ext → W (pre ++ ext) = false
  | 0, pre, code => by
    rw [skS]
    constructor
    · intro h ext hl _
      rw [List.eq_nil_of_length_eq_zero hl, List.append_nil]
      by_cases hW : W pre = true
      · rw [if_pos hW] at h; cases h
      · simpa using hW
    · intro h
      have := h [] rfl trivial
      rw [List.append_nil] at this
      rw [this]; rfl
  | l + 1, pre, code => by
    rw [skS, fstS_none]
    constructor
    · intro h ext hl hc
      rcases ext with _ | ⟨x, ext⟩
      · cases hl
      · obtain ⟨c1, c2, c3⟩ := hc
        have h1 := (skS_none l (pre ++ [x]) x).mp (h x c1 (by omega)) ext (by simpa using hl) c3
        rw [List.append_assoc] at h1
        exact h1
    · intro h i h1 h2
      refine (skS_none l (pre ++ [i]) i).mpr (fun ext hl hc => ?_)
      rw [List.append_assoc]
      exact h (i :: ext) (by simpa using hl) ⟨h1, by omega, hc⟩
theorem skC_eq {W : List Nat → Bool} {A : Nat → Bool} {C : Nat} : ∀ l pre code, (∀ ext : List Nat, ext.length = l → chn C code ext → (∃ c, c ∈ ext ∧ A c = true) → W (pre ++ ext) = false) → skC W A C l pre code = skS W C l pre code
  | 0, _, _, _ => rfl
  | l + 1, pre, code, h => by
    rw [skC, skS]
    refine fstS_congr _ _ (fun i h1 h2 => ?_)
    by_cases hA : A i = true
    · rw [if_pos hA]
      refine ((skS_none l (pre ++ [i]) i).mpr (fun ext hl hc => ?_)).symm
      rw [List.append_assoc]
      exact h (i :: ext) (by simpa using hl) ⟨h1, by omega, hc⟩ ⟨i, List.mem_cons_self .., hA⟩
    · rw [if_neg hA]
      refine skC_eq l (pre ++ [i]) i (fun ext hl hc he => ?_)
      rw [List.append_assoc]
      obtain ⟨c, hc1, hc2⟩ := he
      exact h (i :: ext) (by simpa using hl) ⟨h1, by omega, hc⟩ ⟨c, List.mem_cons_of_mem _ hc1, hc2⟩
theorem chn_mono {C a b : Nat} (h : a ≤ b) : ∀ {l : List Nat}, chn C b l → chn C a l
  | [], _ => trivial
  | _ :: _, hc => ⟨Nat.le_trans h hc.1, hc.2⟩
theorem chn_del {C c : Nat} {l2 : List Nat} : ∀ {l1 : List Nat} {a : Nat}, chn C a (l1 ++ c :: l2) → chn C a (l1 ++ l2)
  | [], _, h => chn_mono h.1 h.2.2
  | _ :: _, _, h => ⟨h.1, h.2.1, chn_del h.2.2⟩
theorem skC_min {W : List Nat → Bool} {A : Nat → Bool} {C l : Nat} (hA : ∀ l1 c l2, A c = true → W (l1 ++ c :: l2) = W (l1 ++ l2)) (hn : skS W C l [] 0 = none) : skC W A C (l + 1) [] 0 = skS W C (l + 1) [] 0 := by
  refine skC_eq (l + 1) [] 0 (fun ext hl hc he => ?_)
  obtain ⟨c, hc1, hc2⟩ := he
  obtain ⟨l1, l2, rfl⟩ := List.append_of_mem hc1
  rw [List.nil_append, hA l1 c l2 hc2]
  have := (skS_none l [] 0).mp hn (l1 ++ l2) (by simp only [List.length_append, List.length_cons] at hl ⊢; omega) (chn_del hc)
  rw [List.nil_append] at this
  exact this
theorem skS_len {W : List Nat → Bool} {C : Nat} {r : List Nat} : ∀ l pre code, skS W C l pre code = some r → r.length = pre.length + l
  | 0, pre, code, h => by
    rw [skS] at h
    split at h
    · cases h; omega
    · cases h
  | l + 1, pre, code, h => by
    rw [skS] at h
    obtain ⟨i, -, -, h3⟩ := fstS_some _ _ h
    have := skS_len l (pre ++ [i]) i h3
    rw [List.length_append, List.length_singleton] at this
    omega
theorem run_congrS {e : En} {ts : Nat → Nat} {tr sl K : Nat} {bs bs' : Nat → List (Nat × Nat)} (h : ∀ k, k < K → sl.testBit k = true ∨ bs k = bs' k) : ∀ k, k ≤ K → run e ts tr sl bs k = run e ts tr sl bs' k
  | 0, _ => rfl
  | k + 1, hk => by
    rw [run, run, run_congrS h k (by omega)]
    unfold dayS
    rcases h k (by omega) with q | q
    · rw [if_pos q, if_pos q]
    · rw [q]
theorem bsX_app (h : Nat) (l1 l2 : List Nat) (d : Nat) : bsX h (l1 ++ l2) d = bsX h l1 d ++ bsX h l2 d := by unfold bsX; rw [List.filter_append, List.map_append]
theorem bsX_cons (h c : Nat) (l : List Nat) (d : Nat) : bsX h (c :: l) d = (if c / 3 = d then [(h, c % 3)] else []) ++ bsX h l d := by
  unfold bsX
  rw [List.filter_cons]
  by_cases hc : c / 3 = d
  · rw [if_pos hc, if_pos (by simpa using hc)]; rfl
  · rw [if_neg hc, if_neg (by simpa using hc)]; rfl
theorem bsX_nil (h d : Nat) : bsX h [] d = [] := rfl
theorem bsX_no {h d : Nat} : ∀ {l : List Nat}, (∀ x, x ∈ l → x / 3 ≠ d) → bsX h l d = []
  | [], _ => rfl
  | c :: l, hl => by rw [bsX_cons, if_neg (hl c (List.mem_cons_self ..)), bsX_no (fun x hx => hl x (List.mem_cons_of_mem _ hx))]; rfl
theorem suW_del (s : Sg) (h last : Nat) (l1 : List Nat) (c : Nat) (l2 : List Nat) (hA : aslp s c = true) : suW s h last (l1 ++ c :: l2) = suW s h last (l1 ++ l2) := by
  unfold suW ruS
  rw [run_congrS (bs' := bsS s h (l1 ++ l2)) (fun k _ => ?_) (last + 1) (Nat.le_refl _)]
  by_cases hk : c / 3 = k
  · left; rw [← hk]; exact hA
  · right
    unfold bsS
    rw [bsX_app, bsX_cons, if_neg hk, bsX_app]
    rfl
/-- the best row -/
def suB (s : Sg) (h last : Nat) : Option (List Nat) := (skS (suW s h last) (3 * last + 3) 0 [] 0).or ((skS (suW s h last) (3 * last + 3) 1 [] 0).or ((skS (suW s h last) (3 * last + 3) 2 [] 0).or (skS (suW s h last) (3 * last + 3) 3 [] 0)))
theorem or_none {α : Type} {x y : Option α} (h : x = none) : x.or y = y := by rw [h]; rfl
theorem or_some {α : Type} {x y : Option α} {r : α} (h : x = some r) : x.or y = some r := by rw [h]; rfl
theorem suB_at {s : Sg} {h last m : Nat} {r : List Nat} (hm : m ≤ 3) (h0 : ∀ q, q < m → skS (suW s h last) (3 * last + 3) q [] 0 = none) (h1 : skS (suW s h last) (3 * last + 3) m [] 0 = some r) : suB s h last = some r := by
  have h4 : m = 0 ∨ m = 1 ∨ m = 2 ∨ m = 3 := by omega
  unfold suB
  rcases h4 with rfl | rfl | rfl | rfl
  · exact or_some h1
  · rw [or_none (h0 0 (by omega))]; exact or_some h1
  · rw [or_none (h0 0 (by omega)), or_none (h0 1 (by omega))]; exact or_some h1
  · rw [or_none (h0 0 (by omega)), or_none (h0 1 (by omega)), or_none (h0 2 (by omega))]; exact h1
theorem suB_no {s : Sg} {h last : Nat} (h0 : ∀ q, q < 4 → skS (suW s h last) (3 * last + 3) q [] 0 = none) : suB s h last = none := by
  unfold suB
  rw [or_none (h0 0 (by omega)), or_none (h0 1 (by omega)), or_none (h0 2 (by omega))]; exact h0 3 (by omega)
theorem suB_len {s : Sg} {h last : Nat} {r : List Nat} (hb : suB s h last = some r) : r.length ≤ 3 := by
  unfold suB at hb
  cases h0 : skS (suW s h last) (3 * last + 3) 0 [] 0 with
  | some x => rw [or_some h0] at hb; cases hb; have := skS_len _ _ _ h0; rw [List.length_nil] at this; omega
  | none =>
    rw [or_none h0] at hb
    cases h1 : skS (suW s h last) (3 * last + 3) 1 [] 0 with
    | some x => rw [or_some h1] at hb; cases hb; have := skS_len _ _ _ h1; rw [List.length_nil] at this; omega
    | none =>
      rw [or_none h1] at hb
      cases h2 : skS (suW s h last) (3 * last + 3) 2 [] 0 with
      | some x => rw [or_some h2] at hb; cases hb; have := skS_len _ _ _ h2; rw [List.length_nil] at this; omega
      | none =>
        rw [or_none h2] at hb
        have := skS_len _ _ _ hb
        rw [List.length_nil] at this; omega
def suN (o : Option (List Nat)) (i : Int32) : Int32 := match o with
  | none => -1
  | some r => if i = -1 then nI r.length else if i < nI r.length then nI (r.getD i.toNatClampNeg 0) else -1
theorem suN_n (i : Int32) : suN none i = -1 := rfl
theorem suN_s (r : List Nat) (i : Int32) : suN (some r) i = if i = -1 then nI r.length else if i < nI r.length then nI (r.getD i.toNatClampNeg 0) else -1 := rfl
abbrev okSui (s : Sg) (h dy i : Int32) : Prop := (0 ≤ h ∧ h < nI (g_hn s)) ∧ (0 ≤ dy ∧ dy < 10) ∧ (-1 ≤ i ∧ i < 3)
def r_suit (s : Sg) (h dy i : Int32) : Int32 := if okSui s h dy i then suN (suB s (cl h) (cl dy)) i else -2
/-- a mood ahead of an evening -/
def hlf (s : Sg) (h : Nat) (row : List Nat) (day : Nat) : Mo := if (g_wy s 3).testBit day then ruS s h row day else brgs (g_en s) (g_ta s 0) day (bsS s h row day) (ruS s h row day)
theorem hlf_eve (s : Sg) (h : Nat) (row : List Nat) (day : Nat) : eve (g_en s) 9 (hlf s h row day) = ruS s h row (day + 1) := rfl
theorem bsS_wf {s : Sg} (hw : WF s) (h : Nat) {row : List Nat} (hl : row.length ≤ 3) (d : Nat) : (∀ q ∈ bsS s h row d, q.2 < 3) ∧ (bsS s h row d).length ≤ 27 := by
  constructor
  · intro q hq
    rcases List.mem_append.mp hq with z | z
    · exact (g_bs_wf hw d q z).2
    · unfold bsX at z
      obtain ⟨c, -, rfl⟩ := List.mem_map.mp z
      exact Nat.mod_lt _ (by omega)
  · have h1 := g_bs_len hw d
    unfold bsS bsX
    rw [List.length_append, List.length_map]
    have h2 := List.length_filter_le (fun c => c / 3 == d) row
    omega
theorem ruSW {s : Sg} (hw : WF s) (h : Nat) {row : List Nat} (hl : row.length ≤ 3) {k : Nat} (hk : k ≤ 30) : MoW (g_en s) (10000 * k) (ruS s h row k) :=
  runW hw.en (hw.2.2.1 0) (fun d q hq => (bsS_wf hw h hl d).1 q hq) (fun d => Nat.le_trans (bsS_wf hw h hl d).2 (by omega)) k hk
theorem hlfW {s : Sg} (hw : WF s) (h : Nat) {row : List Nat} (hl : row.length ≤ 3) {day : Nat} (hd : day < 30) : MoW (g_en s) (10000 * day + 4374) (hlf s h row day) := by
  have h1 := ruSW hw h hl (k := day) (by omega)
  unfold hlf
  by_cases hs : (g_wy s 3).testBit day = true
  · rw [if_pos hs]; exact h1.up (by omega)
  · rw [if_neg hs]
    have h2 := brgsW hw.en (hw.2.2.1 0) hd (bsS s h row day) _ _ (bsS_wf hw h hl day).1 h1
    have h3 := (bsS_wf hw h hl day).2
    exact h2.up (by omega)
theorem hlf_next {s : Sg} {h d : Nat} {row : List Nat} (hr : ∀ x, x ∈ row → x / 3 ≤ d) : hlf s h row (d + 1) = if (g_wy s 3).testBit (d + 1) then eve (g_en s) 9 (hlf s h row d) else brgs (g_en s) (g_ta s 0) (d + 1) (g_bs s (d + 1)) (eve (g_en s) 9 (hlf s h row d)) := by
  rw [hlf_eve]
  unfold hlf bsS
  rw [bsX_no (fun x hx => by have := hr x hx; omega), List.append_nil]
theorem hlf_add {s : Sg} {h nx : Nat} {row : List Nat} (hr : ∀ x, x ∈ row → x / 3 ≤ nx / 3) (ha : (g_wy s 3).testBit (nx / 3) = false) : hlf s h (row ++ [nx]) (nx / 3) = brg (g_en s) (g_ta s 0) (nx / 3) h (nx % 3) (hlf s h row (nx / 3)) := by
  have e1 : ruS s h (row ++ [nx]) (nx / 3) = ruS s h row (nx / 3) := by
    unfold ruS
    refine run_congr (K := nx / 3) (fun k hk => ?_) (nx / 3) (Nat.le_refl _)
    unfold bsS
    rw [bsX_app, bsX_cons, if_neg (by omega), bsX_nil]
    simp
  unfold hlf
  rw [e1, ha]
  simp only [Bool.false_eq_true, if_false]
  unfold bsS
  rw [bsX_app, bsX_cons, if_pos rfl, bsX_nil, List.append_nil, ← List.append_assoc, brgs_app]
  rfl
theorem ruS_next {s : Sg} {h d : Nat} {row : List Nat} (hr : ∀ x, x ∈ row → x / 3 < d) : dayS (g_en s) (g_ta s 0) 9 (g_wy s 3) (g_bs s d) d (ruS s h row d) = ruS s h row (d + 1) := by
  unfold ruS
  rw [run]
  congr 1
  unfold bsS
  rw [bsX_no (fun x hx => by have := hr x hx; omega), List.append_nil]
theorem hlf_0 (s : Sg) (h : Nat) : hlf s h [] 0 = if (g_wy s 3).testBit 0 then mo0 else brgs (g_en s) (g_ta s 0) 0 (g_bs s 0) mo0 := by
  unfold hlf bsS
  rw [bsX_nil, List.append_nil]
  rfl
