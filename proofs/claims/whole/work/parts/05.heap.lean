/-! THE RULES of fields, arrays, calls and ends -/
def j_CF (ci : Nat) (C : String) (T : u_T) (N : Nat) (ty : Nat → FieldType) : Prop :=
  j_cls[ci]? = some (C, T, N) ∧ (∀ w ∈ u_ws C T N, w ∈ j_tbl) ∧ (∀ k, k < N → parseFieldDescriptor (T k).2.2.1 = some (ty k)) ∧ ∀ a, a < N → ∀ b, b < N → a ≠ b → (T a).2.1 ≠ (T b).2.1
def j_GF (own : String) (idx ci k : Nat) : Prop := ∃ (C : String) (T : u_T) (N : Nat) (ty : Nat → FieldType), j_CF ci C T N ty ∧ k < N ∧ Cond.fieldLink own idx (T k).1 (T k).2.1 (T k).2.2.1 ∈ j_tbl
def j_PF (own : String) (idx ci k : Nat) (t : FieldType) : Prop := ∃ (C : String) (T : u_T) (N : Nat) (ty : Nat → FieldType), j_CF ci C T N ty ∧ k < N ∧ Cond.fieldLink own idx (T k).1 (T k).2.1 (T k).2.2.1 ∈ j_tbl ∧ (T k).2.2.2 = false ∧ ty k = t
theorem j_ent0 {w : j_w} {M : j_M} {a ci : Nat} {refs : List (Option Nat)} (hs : j_sh a = (0, ci, refs)) : j_ent w M a = .inr (ci, j_fl w.2.2 (M a) 0 refs) := by simp only [j_ent, hs]
theorem j_ent1 {w : j_w} {M : j_M} {a n : Nat} {refs : List (Option Nat)} (hs : j_sh a = (1, n, refs)) : j_ent w M a = .inl (w.2.1 0, n, .inl (M a)) := by simp only [j_ent, hs]
theorem j_ent2 {w : j_w} {M : j_M} {a n : Nat} {refs : List (Option Nat)} (hs : j_sh a = (2, n, refs)) : j_ent w M a = .inl (w.2.1 1, n, .inl (M a)) := by simp only [j_ent, hs]
theorem j_ent3 {w : j_w} {M : j_M} {a n : Nat} {refs : List (Option Nat)} (hs : j_sh a = (3, n, refs)) : j_ent w M a = .inl (w.2.1 2, n, .inr (.inr (.inr (.inr (fun j => (refs.getD j none).map w.2.2))))) := by simp only [j_ent, hs]
theorem j_ent4 {w : j_w} {M : j_M} {a n : Nat} {refs : List (Option Nat)} (hs : j_sh a = (4, n, refs)) : j_ent w M a = .inl (w.2.1 3, n, .inr (.inr (.inr (.inr (fun j => (refs.getD j none).map w.2.2))))) := by simp only [j_ent, hs]
section Heaps
variable {d : Nat} {I : j_I} {X : j_X} {pc : Nat} {L : List (Option Value)} {st : List Value} {M : j_M}
theorem jx_getI {idx ci k a : Nat} {refs : List (Option Nat)} (g : j_GF I.1.cls idx ci k) (hd : decode I.2.1 pc = .ok (.getfield idx, 3)) (ha : a < j_NA) (hs : j_sh a = (0, ci, refs)) (hv : refs[k]? = some none)
    (kk : j_W d I X (pc + 3) L (.int (M a k) :: st) M) : j_W d I X pc L (.ref a :: st) M := by
  obtain ⟨⟨p, l, e, R, s⟩, ⟨m, args, below, meth, c⟩, ⟨w, A, cells, slots, Q⟩⟩ := X
  intro hG H locs ls hP hS hl
  obtain ⟨hx, hb, hml, hown, hts, hK, hZ, hD, hA, hfr, hlo, hce, hsl⟩ := id hG
  obtain ⟨C, T, N, ty, ⟨hc, hin, -, -⟩, hk, hl2⟩ := g
  have he := j_at w M ha
  rw [j_ent0 hs] at he
  exact va_get (D := w.1) (ci := ci) hx hb hts hin hown hK hP a he hc k hk (hts _ hl2) (fun _ h => h) (by have h9 := j_fl_int w.2.2 (M a) refs 0 k hv; rwa [Nat.zero_add] at h9) hd (kk hG H locs ls hP hS hl)
theorem jx_getR {idx ci k a b : Nat} {refs : List (Option Nat)} (g : j_GF I.1.cls idx ci k) (hd : decode I.2.1 pc = .ok (.getfield idx, 3)) (ha : a < j_NA) (hs : j_sh a = (0, ci, refs)) (hv : refs[k]? = some (some b))
    (kk : j_W d I X (pc + 3) L (.ref b :: st) M) : j_W d I X pc L (.ref a :: st) M := by
  obtain ⟨⟨p, l, e, R, s⟩, ⟨m, args, below, meth, c⟩, ⟨w, A, cells, slots, Q⟩⟩ := X
  intro hG H locs ls hP hS hl
  obtain ⟨hx, hb, hml, hown, hts, hK, hZ, hD, hA, hfr, hlo, hce, hsl⟩ := id hG
  obtain ⟨C, T, N, ty, ⟨hc, hin, -, -⟩, hk, hl2⟩ := g
  have he := j_at w M ha
  rw [j_ent0 hs] at he
  exact va_get (D := w.1) (ci := ci) hx hb hts hin hown hK hP a he hc k hk (hts _ hl2) (fun _ h => h) (j_fl_ref w.2.2 (M a) refs 0 k hv) hd (kk hG H locs ls hP hS hl)
theorem jx_putT {idx ci k a : Nat} {t : FieldType} {x : Int32} {refs : List (Option Nat)} (g : j_PF I.1.cls idx ci k t) (hn : narrow t (.int x) = .int x) (hfit : fits t (.int x) = true) (hd : decode I.2.1 pc = .ok (.putfield idx, 3)) (ha : a < j_NA) (hs : j_sh a = (0, ci, refs)) (hv : refs[k]? = some none)
    (kk : j_W d I X (pc + 3) L st (j_set M a k x)) : j_W d I X pc L (.int x :: .ref a :: st) M := by
  obtain ⟨⟨p, l, e, R, s⟩, ⟨m, args, below, meth, c⟩, ⟨w, A, cells, slots, Q⟩⟩ := X
  intro hG H locs ls hP hS hl
  obtain ⟨hx, hb, hml, hown, hts, hK, hZ, hD, hA, hfr, hlo, hce, hsl⟩ := id hG
  obtain ⟨C, T, N, ty, ⟨hc, hin, hty, hnm⟩, hk, hl2, hfin, htk⟩ := g
  have he := j_at w M ha
  rw [j_ent0 hs] at he
  have hset := j_fl_set w.2.2 (M a) x refs 0 k hv
  rw [Nat.zero_add] at hset
  refine va_put (D := w.1) (ci := ci) hx hb hts hin ty hty hnm hown hK hP (j_vaD hD hA M) hS a he hc k hk (hts _ hl2) (fun _ h => h) hfin (by rw [hty k hk, htk]) hn hfit (by rw [j_fl_len]; exact (List.getElem?_eq_some_iff.mp hv).1) hd (fun H1 locs1 hP1 hD1 hS1 => ?_)
  change va_P w.1 j_cls ((j_ws w M).set a (w.2.2 a, .inr (ci, (j_fl w.2.2 (M a) 0 refs).set k (.int x)))) H1 at hP1
  rw [hset, j_ws_set w (M' := j_set M a k x) ha (by rw [j_ent0 hs, j_set_s]) (fun b hb => j_set_n M k x hb)] at hP1
  exact kk hG H1 locs1 ls hP1 hS1 hl
theorem jx_putI {idx ci k a : Nat} {x : Int32} {refs : List (Option Nat)} (g : j_PF I.1.cls idx ci k .int) (hd : decode I.2.1 pc = .ok (.putfield idx, 3)) (ha : a < j_NA) (hs : j_sh a = (0, ci, refs)) (hv : refs[k]? = some none)
    (kk : j_W d I X (pc + 3) L st (j_set M a k x)) : j_W d I X pc L (.int x :: .ref a :: st) M := jx_putT g rfl rfl hd ha hs hv kk
theorem jx_putZ {idx ci k a : Nat} {x : Int32} {refs : List (Option Nat)} (g : j_PF I.1.cls idx ci k .boolean) (hx : x = 0 ∨ x = 1) (hd : decode I.2.1 pc = .ok (.putfield idx, 3)) (ha : a < j_NA) (hs : j_sh a = (0, ci, refs)) (hv : refs[k]? = some none)
    (kk : j_W d I X (pc + 3) L st (j_set M a k x)) : j_W d I X pc L (.int x :: .ref a :: st) M := by
  rcases hx with rfl | rfl
  · exact jx_putT g rfl rfl hd ha hs hv kk
  · exact jx_putT g rfl rfl hd ha hs hv kk
theorem jx_iald {a n : Nat} {i : Int32} (hd : decode I.2.1 pc = .ok (.iaload, 1)) (ha : a < j_NA) (hs : j_sh a = (1, n, [])) (hi : vp_in i n)
    (kk : j_W d I X (pc + 1) L (.int (M a i.toNatClampNeg) :: st) M) : j_W d I X pc L (.int i :: .ref a :: st) M := by
  obtain ⟨⟨p, l, e, R, s⟩, ⟨m, args, below, meth, c⟩, ⟨w, A, cells, slots, Q⟩⟩ := X
  intro hG H locs ls hP hS hl
  obtain ⟨hx, hb, hml, hown, hts, hK, hZ, hD, hA, hfr, hlo, hce, hsl⟩ := id hG
  have he := j_at w M ha
  rw [j_ent1 hs] at he
  exact va_iald hx hb hK hP a 0 he rfl hi hd (kk hG H locs ls hP hS hl)
theorem jx_zald {a n : Nat} {i : Int32} (hd : decode I.2.1 pc = .ok (.baload, 1)) (ha : a < j_NA) (hs : j_sh a = (2, n, [])) (hi : vp_in i n)
    (kk : j_W d I X (pc + 1) L (.int (M a i.toNatClampNeg) :: st) M) : j_W d I X pc L (.int i :: .ref a :: st) M := by
  obtain ⟨⟨p, l, e, R, s⟩, ⟨m, args, below, meth, c⟩, ⟨w, A, cells, slots, Q⟩⟩ := X
  intro hG H locs ls hP hS hl
  obtain ⟨hx, hb, hml, hown, hts, hK, hZ, hD, hA, hfr, hlo, hce, hsl⟩ := id hG
  have he := j_at w M ha
  rw [j_ent2 hs] at he
  exact va_zald hx hb hK hP a 1 he rfl hi hd (kk hG H locs ls hP hS hl)
theorem jx_iast {a n : Nat} {i x : Int32} (hd : decode I.2.1 pc = .ok (.iastore, 1)) (ha : a < j_NA) (hs : j_sh a = (1, n, [])) (hi : vp_in i n)
    (kk : j_W d I X (pc + 1) L st (j_set M a i.toNatClampNeg x)) : j_W d I X pc L (.int x :: .int i :: .ref a :: st) M := by
  obtain ⟨⟨p, l, e, R, s⟩, ⟨m, args, below, meth, c⟩, ⟨w, A, cells, slots, Q⟩⟩ := X
  intro hG H locs ls hP hS hl
  obtain ⟨hx, hb, hml, hown, hts, hK, hZ, hD, hA, hfr, hlo, hce, hsl⟩ := id hG
  have he := j_at w M ha
  rw [j_ent1 hs] at he
  refine va_iast hx hb hK hP (j_vaD hD hA M) hS a 0 he rfl hi hd (fun H1 locs1 hP1 hD1 hS1 => ?_)
  rw [j_ws_set w (M' := j_set M a i.toNatClampNeg x) ha (by rw [j_ent1 hs, j_set_s]) (fun b hb => j_set_n M _ x hb)] at hP1
  exact kk hG H1 locs1 ls hP1 hS1 hl
theorem jx_zast {a n : Nat} {i x : Int32} (hx01 : x = 0 ∨ x = 1) (hd : decode I.2.1 pc = .ok (.bastore, 1)) (ha : a < j_NA) (hs : j_sh a = (2, n, [])) (hi : vp_in i n)
    (kk : j_W d I X (pc + 1) L st (j_set M a i.toNatClampNeg x)) : j_W d I X pc L (.int x :: .int i :: .ref a :: st) M := by
  obtain ⟨⟨p, l, e, R, s⟩, ⟨m, args, below, meth, c⟩, ⟨w, A, cells, slots, Q⟩⟩ := X
  intro hG H locs ls hP hS hl
  obtain ⟨hx, hb, hml, hown, hts, hK, hZ, hD, hA, hfr, hlo, hce, hsl⟩ := id hG
  have he := j_at w M ha
  rw [j_ent2 hs] at he
  have hnar : vp_nar .boolean x = x := by rcases hx01 with rfl | rfl <;> rfl
  refine va_zast hx hb hK hP (j_vaD hD hA M) hS a 1 he rfl hi hd (fun H1 locs1 hP1 hD1 hS1 => ?_)
  rw [hnar] at hP1
  rw [j_ws_set w (M' := j_set M a i.toNatClampNeg x) ha (by rw [j_ent2 hs, j_set_s]) (fun b hb => j_set_n M _ x hb)] at hP1
  exact kk hG H1 locs1 ls hP1 hS1 hl
theorem jx_aald {a n b t : Nat} {i : Int32} {refs : List (Option Nat)} (hd : decode I.2.1 pc = .ok (.aaload, 1)) (ha : a < j_NA) (ht : t = 3 ∨ t = 4) (hs : j_sh a = (t, n, refs)) (hi : vp_in i n) (hv : refs.getD i.toNatClampNeg none = some b)
    (kk : j_W d I X (pc + 1) L (.ref b :: st) M) : j_W d I X pc L (.int i :: .ref a :: st) M := by
  obtain ⟨⟨p, l, e, R, s⟩, ⟨m, args, below, meth, c⟩, ⟨w, A, cells, slots, Q⟩⟩ := X
  intro hG H locs ls hP hS hl
  obtain ⟨hx, hb, hml, hown, hts, hK, hZ, hD, hA, hfr, hlo, hce, hsl⟩ := id hG
  have he := j_at w M ha
  have key : ∀ (t0 : Nat) (cA : ClassId) (ty : FieldType), ty.isReference = true → (j_tys w)[t0]? = some (cA, ty) → (j_ws w M)[a]? = some (w.2.2 a, .inl (cA, n, .inr (.inr (.inr (.inr (fun j => (refs.getD j none).map w.2.2)))))) → W p l e R s m args below meth c H locs cells slots Q (F0 m pc ls ((Value.int i :: .ref a :: st).map (j_e w))) := by
    intro t0 cA ty hty ht he
    have hlt : i.toNatClampNeg < n := Nat.not_le.mp fun q => hi (Or.inr q)
    refine W.aald (v := va_rf (((refs.getD i.toNatClampNeg none)).map w.2.2)) (ty := ty) hx hb (hP a _ he) ((hK.2 t0 _ ht).1 n (fun j => va_rf ((refs.getD j none).map w.2.2))) hty (fun q => by cases q) (by show ¬ (i < 0 ∨ (arrV _ _ _).slots.size ≤ _); rw [arrV_size]; exact hi) (by show (arrV _ _ _).slots[_]? = _; rw [arrV_read _ _ hlt]) rfl rfl hd ?_
    rw [hv]
    exact kk hG H locs ls hP hS hl
  rcases ht with rfl | rfl
  · rw [j_ent3 hs] at he
    exact key 2 _ _ rfl rfl he
  · rw [j_ent4 hs] at he
    exact key 3 _ _ rfl rfl he
theorem jx_alen {a n : Nat} {t : Nat} {refs : List (Option Nat)} {v : Int32} (hd : decode I.2.1 pc = .ok (.arraylength, 1)) (ha : a < j_NA) (ht : t = 1 ∨ t = 4) (hs : j_sh a = (t, n, refs)) (hv : Int32.ofNat n = v)
    (kk : j_W d I X (pc + 1) L (.int v :: st) M) : j_W d I X pc L (.ref a :: st) M := by
  obtain ⟨⟨p, l, e, R, s⟩, ⟨m, args, below, meth, c⟩, ⟨w, A, cells, slots, Q⟩⟩ := X
  intro hG H locs ls hP hS hl
  obtain ⟨hx, hb, hml, hown, hts, hK, hZ, hD, hA, hfr, hlo, hce, hsl⟩ := id hG
  have he := j_at w M ha
  rcases ht with rfl | rfl
  · rw [j_ent1 hs] at he
    exact va_alen hx hb hK hP a 0 he (ty := .int) rfl hv hd (kk hG H locs ls hP hS hl)
  · rw [j_ent4 hs] at he
    exact va_alen hx hb hK hP a 3 he (ty := .array .int) rfl hv hd (kk hG H locs ls hP hS hl)
-- the static tables
theorem jx_getsW {idx : Nat} (hlk : Cond.fieldLink I.1.cls idx "DogJudge" "WAYS_MOST" "[I" ∈ j_tbl) (hd : decode I.2.1 pc = .ok (.getstatic idx, 3)) (kk : j_W d I X (pc + 3) L (.ref j_NA :: st) M) : j_W d I X pc L st M := by
  obtain ⟨⟨p, l, e, R, s⟩, ⟨m, args, below, meth, c⟩, ⟨w, A, cells, slots, Q⟩⟩ := X
  intro hG H locs ls hP hS hl
  obtain ⟨hx, hb, hml, hown, hts, hK, hZ, hD, hA, hfr, hlo, hce, hsl⟩ := id hG
  exact va_gets hx hb hZ.1.1 hS hown (hts _ hlk) (fun _ h => h) hd (kk hG H locs ls hP hS hl)
theorem jx_getsD {idx : Nat} (hlk : Cond.fieldLink I.1.cls idx "DogJudge" "DIGEST_DAYS" "[I" ∈ j_tbl) (hd : decode I.2.1 pc = .ok (.getstatic idx, 3)) (kk : j_W d I X (pc + 3) L (.ref (j_NA + 1) :: st) M) : j_W d I X pc L st M := by
  obtain ⟨⟨p, l, e, R, s⟩, ⟨m, args, below, meth, c⟩, ⟨w, A, cells, slots, Q⟩⟩ := X
  intro hG H locs ls hP hS hl
  obtain ⟨hx, hb, hml, hown, hts, hK, hZ, hD, hA, hfr, hlo, hce, hsl⟩ := id hG
  exact va_gets hx hb hZ.2.1.1 hS hown (hts _ hlk) (fun _ h => h) hd (kk hG H locs ls hP hS hl)
theorem jx_ialdW {i : Int32} (hd : decode I.2.1 pc = .ok (.iaload, 1)) (hi : vp_in i 5) (kk : j_W d I X (pc + 1) L (.int (j_wm i.toNatClampNeg) :: st) M) : j_W d I X pc L (.int i :: .ref j_NA :: st) M := by
  obtain ⟨⟨p, l, e, R, s⟩, ⟨m, args, below, meth, c⟩, ⟨w, A, cells, slots, Q⟩⟩ := X
  intro hG H locs ls hP hS hl
  obtain ⟨hx, hb, hml, hown, hts, hK, hZ, hD, hA, hfr, hlo, hce, hsl⟩ := id hG
  exact va_ti hx hb hZ.1.2 hS hi rfl hd (kk hG H locs ls hP hS hl)
theorem jx_ialdD {i : Int32} (hd : decode I.2.1 pc = .ok (.iaload, 1)) (hi : vp_in i 4) (kk : j_W d I X (pc + 1) L (.int (j_dd i.toNatClampNeg) :: st) M) : j_W d I X pc L (.int i :: .ref (j_NA + 1) :: st) M := by
  obtain ⟨⟨p, l, e, R, s⟩, ⟨m, args, below, meth, c⟩, ⟨w, A, cells, slots, Q⟩⟩ := X
  intro hG H locs ls hP hS hl
  obtain ⟨hx, hb, hml, hown, hts, hK, hZ, hD, hA, hfr, hlo, hce, hsl⟩ := id hG
  exact va_ti hx hb hZ.2.1.2 hS hi rfl hd (kk hG H locs ls hP hS hl)
theorem jx_alenD (hd : decode I.2.1 pc = .ok (.arraylength, 1)) (kk : j_W d I X (pc + 1) L (.int 4 :: st) M) : j_W d I X pc L (.ref (j_NA + 1) :: st) M := by
  obtain ⟨⟨p, l, e, R, s⟩, ⟨m, args, below, meth, c⟩, ⟨w, A, cells, slots, Q⟩⟩ := X
  intro hG H locs ls hP hS hl
  obtain ⟨hx, hb, hml, hown, hts, hK, hZ, hD, hA, hfr, hlo, hce, hsl⟩ := id hG
  exact va_tlen hx hb hZ.2.1.2 hS rfl hd (kk hG H locs ls hP hS hl)
-- the machine's own functions
theorem jx_mmax {idx : Nat} {x y : Int32} (hlk : Cond.methodLink I.1.cls idx Lib.Math.max.name ∈ j_tbl) (h1 : Cond.static Lib.Math.max.name ∈ j_tbl) (h2 : Cond.initialized "java/lang/Math" ∈ j_tbl) (h3 : Cond.code Lib.Math.max.name Lib.Math.max.code 2 (some .int) ∈ j_tbl) (hdd : 1 ≤ d) (hst : (st.map fun v => v.category).sum ≤ 8) (hd : decode I.2.1 pc = .ok (.invokestatic idx, 3))
    (kk : j_W d I X (pc + 3) L (.int (if x < y then y else x) :: st) M) : j_W d I X pc L (.int y :: .int x :: st) M := by
  obtain ⟨⟨p, l, e, R, s⟩, ⟨m, args, below, meth, c⟩, ⟨w, A, cells, slots, Q⟩⟩ := X
  intro hG H locs ls hP hS hl
  obtain ⟨hx, hb, hml, hown, hts, hK, hZ, hD, hA, hfr, hlo, hce, hsl⟩ := id hG
  exact va_mmax hx hb (hml.trans hl.1.symm) hown (hts _ hlk) (hts _ h1) (hts _ h2) (hts _ h3) (by omega) (by rw [j_e_cats]; omega) hce hsl hd (kk hG H locs ls hP hS hl)
theorem jx_mmin {idx : Nat} {x y : Int32} (hlk : Cond.methodLink I.1.cls idx Lib.Math.min.name ∈ j_tbl) (h1 : Cond.static Lib.Math.min.name ∈ j_tbl) (h2 : Cond.initialized "java/lang/Math" ∈ j_tbl) (h3 : Cond.code Lib.Math.min.name Lib.Math.min.code 2 (some .int) ∈ j_tbl) (hdd : 1 ≤ d) (hst : (st.map fun v => v.category).sum ≤ 8) (hd : decode I.2.1 pc = .ok (.invokestatic idx, 3))
    (kk : j_W d I X (pc + 3) L (.int (if y < x then y else x) :: st) M) : j_W d I X pc L (.int y :: .int x :: st) M := by
  obtain ⟨⟨p, l, e, R, s⟩, ⟨m, args, below, meth, c⟩, ⟨w, A, cells, slots, Q⟩⟩ := X
  intro hG H locs ls hP hS hl
  obtain ⟨hx, hb, hml, hown, hts, hK, hZ, hD, hA, hfr, hlo, hce, hsl⟩ := id hG
  exact va_mmin hx hb (hml.trans hl.1.symm) hown (hts _ hlk) (hts _ h1) (hts _ h2) (hts _ h3) (by omega) (by rw [j_e_cats]; omega) hce hsl hd (kk hG H locs ls hP hS hl)
theorem jx_acopy {idx a b n0 n1 : Nat} {sp dp n : Int32} (hlk : Cond.methodLink I.1.cls idx arraycopyName ∈ j_tbl) (h1 : Cond.native arraycopyName ∈ j_tbl) (h2 : Cond.static arraycopyName ∈ j_tbl) (h3 : Cond.initialized "java/lang/System" ∈ j_tbl) (hdd : 2 ≤ d) (hst : (st.map fun v => v.category).sum ≤ 8) (hd : decode I.2.1 pc = .ok (.invokestatic idx, 3))
    (ha : a < j_NA) (hb0 : b < j_NA) (hsa : j_sh a = (1, n0, [])) (hsb : j_sh b = (1, n1, [])) (g1 : ¬ sp < 0) (g2 : ¬ dp < 0) (g3 : ¬ n < 0) (g4 : sp.toNatClampNeg + n.toNatClampNeg ≤ n0) (g5 : dp.toNatClampNeg + n.toNatClampNeg ≤ n1)
    (kk : j_W d I X (pc + 3) L st (j_seta M b (va_cpy (M a) (M b) sp.toNatClampNeg dp.toNatClampNeg n.toNatClampNeg))) : j_W d I X pc L (.int n :: .int dp :: .ref b :: .int sp :: .ref a :: st) M := by
  obtain ⟨⟨p, l, e, R, s⟩, ⟨m, args, below, meth, c⟩, ⟨w, A, cells, slots, Q⟩⟩ := X
  intro hG H locs ls hP hS hl
  obtain ⟨hx, hb, hml, hown, hts, hK, hZ, hD, hA, hfr, hlo, hce, hsl⟩ := id hG
  have hea := j_at w M ha
  have heb := j_at w M hb0
  rw [j_ent1 hsa] at hea
  rw [j_ent1 hsb] at heb
  have hnf : nativeFrameWords "java/lang/System" "arraycopy" 5 ≤ 60 := by decide +kernel
  refine va_copyi hx hb (hml.trans hl.1.symm) hown (hts _ hlk) (hts _ h1) (hts _ h2) (hts _ h3) hK hP (j_vaD hD hA M) hS a b 0 0 hea heb (ty := .int) rfl rfl rfl g1 g2 g3 g4 g5 (fun _ _ => rfl) (by omega) (by rw [j_e_cats]; omega) hd (fun H1 locs1 hP1 hD1 hS1 => ?_)
  rw [j_ws_set w (M' := j_seta M b (va_cpy (M a) (M b) sp.toNatClampNeg dp.toNatClampNeg n.toNatClampNeg)) hb0 (by rw [j_ent1 hsb, j_seta_s]) (fun b hb => j_seta_n M _ hb)] at hP1
  exact kk hG H1 locs1 ls hP1 hS1 hl
end Heaps
