/-! THE FRAME: an abstract memory of ints over a fixed graph of objects, and the machine's judgement over it -/
def j_tbl : List Cond := lw_tbl.filter goodWord
theorem j_in {w : Cond} (i : Nat) (h : lw_tbl[i]? = some w) (hg : goodWord w = true) : w ∈ j_tbl := List.mem_filter.mpr ⟨List.mem_of_getElem? h, hg⟩
theorem j_goodIn {ws : List Cond} (h : ∀ w ∈ ws, w ∈ j_tbl) : GoodIn j_tbl ws := fun w hw => ⟨h w hw, good_of_word (List.mem_filter.mp (h w hw)).2⟩
abbrev j_M : Type := Nat → Nat → Int32
def j_set (M : j_M) (a k : Nat) (v : Int32) : j_M := fun b => if b = a then upd (M a) k v else M b
def j_seta (M : j_M) (a : Nat) (f : Nat → Int32) : j_M := fun b => if b = a then f else M b
theorem j_set_s (M : j_M) (a k : Nat) (v : Int32) : j_set M a k v a = upd (M a) k v := by simp [j_set]
theorem j_set_n (M : j_M) {a b : Nat} (k : Nat) (v : Int32) (h : b ≠ a) : j_set M a k v b = M b := by simp [j_set, h]
theorem j_seta_s (M : j_M) (a : Nat) (f : Nat → Int32) : j_seta M a f a = f := by simp [j_seta]
theorem j_seta_n (M : j_M) {a b : Nat} (f : Nat → Int32) (h : b ≠ a) : j_seta M a f b = M b := by simp [j_seta, h]
abbrev j_w : Type := va_G × (Nat → ClassId) × (Nat → Nat)
def j_fl (al : Nat → Nat) (f : Nat → Int32) : Nat → List (Option Nat) → List Value
  | _, [] => []
  | k, none :: r => .int (f k) :: j_fl al f (k + 1) r
  | k, some b :: r => .ref (al b) :: j_fl al f (k + 1) r
theorem j_fl_len (al : Nat → Nat) (f : Nat → Int32) : ∀ (r : List (Option Nat)) (k : Nat), (j_fl al f k r).length = r.length
  | [], _ => rfl
  | none :: r, k => by simp [j_fl, j_fl_len al f r]
  | some b :: r, k => by simp [j_fl, j_fl_len al f r]
theorem j_fl_int (al : Nat → Nat) (f : Nat → Int32) : ∀ (r : List (Option Nat)) (k0 k : Nat), r[k]? = some none → (j_fl al f k0 r)[k]? = some (.int (f (k0 + k)))
  | [], _, _, h => by simp at h
  | none :: r, k0, 0, _ => by simp [j_fl]
  | none :: r, k0, k + 1, h => by
    have := j_fl_int al f r (k0 + 1) k (by simpa using h)
    simp only [j_fl, List.getElem?_cons_succ, this]
    rw [show k0 + 1 + k = k0 + (k + 1) by omega]
  | some b :: r, k0, 0, h => by simp at h
  | some b :: r, k0, k + 1, h => by
    have := j_fl_int al f r (k0 + 1) k (by simpa using h)
    simp only [j_fl, List.getElem?_cons_succ, this]
    rw [show k0 + 1 + k = k0 + (k + 1) by omega]
theorem j_fl_ref (al : Nat → Nat) (f : Nat → Int32) {b : Nat} : ∀ (r : List (Option Nat)) (k0 k : Nat), r[k]? = some (some b) → (j_fl al f k0 r)[k]? = some (.ref (al b))
  | [], _, _, h => by simp at h
  | none :: r, k0, 0, h => by simp at h
  | none :: r, k0, k + 1, h => by
    have := j_fl_ref al f r (k0 + 1) k (by simpa using h)
    simp only [j_fl, List.getElem?_cons_succ, this]
  | some c :: r, k0, 0, h => by simp at h; subst h; simp [j_fl]
  | some c :: r, k0, k + 1, h => by
    have := j_fl_ref al f r (k0 + 1) k (by simpa using h)
    simp only [j_fl, List.getElem?_cons_succ, this]
theorem j_fl_cong (al : Nat → Nat) {f g : Nat → Int32} : ∀ (r : List (Option Nat)) (k0 : Nat), (∀ k, k0 ≤ k → f k = g k) → j_fl al f k0 r = j_fl al g k0 r
  | [], _, _ => rfl
  | none :: r, k0, h => by simp only [j_fl]; rw [h k0 (Nat.le_refl _), j_fl_cong al r (k0 + 1) (fun k hk => h k (by omega))]
  | some b :: r, k0, h => by simp only [j_fl]; rw [j_fl_cong al r (k0 + 1) (fun k hk => h k (by omega))]
theorem j_fl_set (al : Nat → Nat) (f : Nat → Int32) (v : Int32) : ∀ (r : List (Option Nat)) (k0 k : Nat), r[k]? = some none → (j_fl al f k0 r).set k (.int v) = j_fl al (upd f (k0 + k) v) k0 r
  | [], _, _, h => by simp at h
  | none :: r, k0, 0, _ => by
    simp only [j_fl, List.set_cons_zero, Nat.add_zero]
    rw [j_fl_cong al (f := upd f k0 v) (g := f) r (k0 + 1) (fun k hk => by simp [upd]; omega)]
    simp [upd]
  | none :: r, k0, k + 1, h => by
    have := j_fl_set al f v r (k0 + 1) k (by simpa using h)
    simp only [j_fl, List.set_cons_succ, this]
    rw [show k0 + 1 + k = k0 + (k + 1) by omega]
    congr 2
    simp [upd]
  | some b :: r, k0, 0, h => by simp at h
  | some b :: r, k0, k + 1, h => by
    have := j_fl_set al f v r (k0 + 1) k (by simpa using h)
    simp only [j_fl, List.set_cons_succ, this]
    rw [show k0 + 1 + k = k0 + (k + 1) by omega]
def j_ent (w : j_w) (M : j_M) (a : Nat) : va_E := match j_sh a with
  | (0, ci, r) => .inr (ci, j_fl w.2.2 (M a) 0 r)
  | (1, n, _) => .inl (w.2.1 0, n, .inl (M a))
  | (2, n, _) => .inl (w.2.1 1, n, .inl (M a))
  | (3, n, r) => .inl (w.2.1 2, n, .inr (.inr (.inr (.inr (fun j => (r.getD j none).map w.2.2)))))
  | (_, n, r) => .inl (w.2.1 3, n, .inr (.inr (.inr (.inr (fun j => (r.getD j none).map w.2.2)))))
def j_ws (w : j_w) (M : j_M) : va_W := (List.range j_NA).map (fun a => (w.2.2 a, j_ent w M a))
theorem j_at (w : j_w) (M : j_M) {a : Nat} (h : a < j_NA) : (j_ws w M)[a]? = some (w.2.2 a, j_ent w M a) := by
  simp only [j_ws, List.getElem?_map, List.getElem?_range h, Option.map_some]
theorem j_ws_len (w : j_w) (M : j_M) : (j_ws w M).length = j_NA := by simp [j_ws]
theorem j_ws_set (w : j_w) {M M' : j_M} {a : Nat} {e : va_E} (ha : a < j_NA) (he : j_ent w M' a = e) (ho : ∀ b, b ≠ a → M' b = M b) : (j_ws w M).set a (w.2.2 a, e) = j_ws w M' := by
  apply List.ext_getElem?
  intro i
  by_cases hi : i < j_NA
  · rw [j_at w M' hi]
    by_cases h : i = a
    · subst h
      rw [List.getElem?_set_self (by rw [j_ws_len]; exact ha), he]
    · rw [List.getElem?_set_ne (Ne.symm h), j_at w M hi]
      congr 2
      unfold j_ent
      rw [ho i h]
  · rw [List.getElem?_eq_none (by rw [List.length_set, j_ws_len]; omega), List.getElem?_eq_none (by rw [j_ws_len]; omega)]
def j_tys (w : j_w) : List (ClassId × FieldType) := [(w.2.1 0, .int), (w.2.1 1, .boolean), (w.2.1 2, .object "DogJudge$Mood"), (w.2.1 3, .array .int)]
def j_A (w : j_w) : Nat → Prop := fun q => ∃ a, a < j_NA ∧ q = w.2.2 a
def j_D (w : j_w) : Prop := ∀ a b, a < j_NA → b < j_NA → w.2.2 a = w.2.2 b → a = b
theorem j_ws_inv {w : j_w} {M : j_M} {i : Nat} {q : Nat × va_E} (h : (j_ws w M)[i]? = some q) : i < j_NA ∧ q = (w.2.2 i, j_ent w M i) := by
  have hi : i < j_NA := by
    have := (List.getElem?_eq_some_iff.mp h).1
    rwa [j_ws_len] at this
  rw [j_at w M hi] at h
  exact ⟨hi, (Option.some.inj h).symm⟩
theorem j_vaD {w : j_w} {A : Nat → Prop} (hD : j_D w) (hA : ∀ a, a < j_NA → A (w.2.2 a)) (M : j_M) : va_D A (j_ws w M) := by
  refine ⟨fun i j p q hi hj h => ?_, fun k q hk => ?_⟩
  · obtain ⟨h1, rfl⟩ := j_ws_inv hi
    obtain ⟨h2, rfl⟩ := j_ws_inv hj
    exact hD i j h1 h2 h
  · obtain ⟨h1, rfl⟩ := j_ws_inv hk
    exact hA k h1
/-- what the static tables hold, and the one link of a nest mate -/
def j_wm (k : Nat) : Int32 := if k = 3 then 1073741823 else 9
def j_dd (k : Nat) : Int32 := if k = 0 then 0 else if k = 1 then 1 else if k = 2 then 9 else 29
def j_Z (w : j_w) (A : Nat → Prop) (U : State) (H : Heap) : Prop :=
  (va_Z "DogJudge" "WAYS_MOST" "[I" (.ref (w.2.2 j_NA)) A U H ∧ va_T .int (w.2.2 j_NA) 5 (fun j => .int (j_wm j)) A U H) ∧
  (va_Z "DogJudge" "DIGEST_DAYS" "[I" (.ref (w.2.2 (j_NA + 1))) A U H ∧ va_T .int (w.2.2 (j_NA + 1)) 4 (fun j => .int (j_dd j)) A U H) ∧
  va_Nw (.methodLinkNest "DogJudge" 191 ⟨"DogJudge$Suits", "seek", "(LDogJudge$Suits;III)Z"⟩ "DogJudge") U
theorem j_Z.narrow {w : j_w} {A B : Nat → Prop} {U : State} {H : Heap} (h : j_Z w A U H) (hAB : ∀ q, B q → A q) : j_Z w B U H := by
  obtain ⟨⟨a1, b1⟩, ⟨a2, b2⟩, n⟩ := h
  exact ⟨⟨a1.narrow hAB, b1.narrow hAB⟩, ⟨a2.narrow hAB, b2.narrow hAB⟩, n⟩
theorem j_Z.kept {w : j_w} {A : Nat → Prop} {U : State} {H H1 : Heap} (h : j_Z w A U H) (hq : ∀ a : Nat, a < H.size → ¬ A a → H1[a]? = H[a]?) : j_Z w A U H1 := by
  obtain ⟨⟨a1, b1⟩, ⟨a2, b2⟩, n⟩ := h
  exact ⟨⟨a1.kept hq, b1.kept hq⟩, ⟨a2.kept hq, b2.kept hq⟩, n⟩
theorem j_Z.warm {w : j_w} {A : Nat → Prop} {s U : State} {H : Heap} (hW : s.WarmedH U.vm) (h : j_Z w A s H) : j_Z w A U H := by
  obtain ⟨⟨a1, b1⟩, ⟨a2, b2⟩, n⟩ := h
  exact ⟨⟨a1.moved hW.alike, b1.moved hW.alike⟩, ⟨a2.moved hW.alike, b2.moved hW.alike⟩, n.warmM hW⟩
theorem j_Z.same {w : j_w} {A : Nat → Prop} {s U : State} {H : Heap} (hW : s.vm = U.vm) (h : j_Z w A s H) : j_Z w A U H := by
  obtain ⟨⟨a1, b1⟩, ⟨a2, b2⟩, n⟩ := h
  have hal : s.vm.Alike U.vm := by rw [hW]; exact Vm.Alike.refl _
  exact ⟨⟨a1.moved hal, b1.moved hal⟩, ⟨a2.moved hal, b2.moved hal⟩, va_Nw.same rfl hW n⟩
def j_e (w : j_w) : Value → Value
  | .ref a => .ref (w.2.2 a)
  | v => v
theorem j_e_cat (w : j_w) (v : Value) : (j_e w v).category = v.category := by cases v <;> rfl
theorem j_e_cats (w : j_w) (vs : List Value) : ((vs.map (j_e w)).map fun v => v.category).sum = (vs.map fun v => v.category).sum := by
  rw [List.map_map]; congr 1; apply List.map_congr_left; intro v _; exact j_e_cat w v
/-- the locals that are known, by their places -/
def j_lv (w : j_w) : Nat → List (Option Value) → List (Nat × Value)
  | _, [] => []
  | i, none :: r => j_lv w (i + 1) r
  | i, some v :: r => (i, j_e w v) :: j_lv w (i + 1) r
theorem j_lv_mem (w : j_w) : ∀ (L : List (Option Value)) (i : Nat) (q : Nat × Value), q ∈ j_lv w i L ↔ ∃ j v, L[j]? = some (some v) ∧ q = (i + j, j_e w v)
  | [], i, q => by simp [j_lv]
  | none :: r, i, q => by
    rw [j_lv, j_lv_mem w r (i + 1) q]
    constructor
    · rintro ⟨j, v, h1, h2⟩; exact ⟨j + 1, v, by simpa using h1, by rw [h2]; congr 1; omega⟩
    · rintro ⟨j, v, h1, h2⟩
      cases j with
      | zero => simp at h1
      | succ j => exact ⟨j, v, by simpa using h1, by rw [h2]; congr 1; omega⟩
  | some v :: r, i, q => by
    rw [j_lv, List.mem_cons, j_lv_mem w r (i + 1) q]
    constructor
    · rintro (h | ⟨j, v, h1, h2⟩)
      · exact ⟨0, v, by simp, by simpa using h⟩
      · exact ⟨j + 1, v, by simpa using h1, by rw [h2]; congr 1; omega⟩
    · rintro ⟨j, v, h1, h2⟩
      cases j with
      | zero => left; simp at h1; subst h1; simpa using h2
      | succ j => right; exact ⟨j, v, by simpa using h1, by rw [h2]; congr 1; omega⟩
theorem j_lv_get {w : j_w} {ls : Array Slot} {n : Nat} {L : List (Option Value)} (h : lv_has ls n (j_lv w 0 L)) {i : Nat} {v : Value} (hi : L[i]? = some (some v)) : ls[i]? = some (.val (j_e w v)) :=
  h.2.2 (i, j_e w v) ((j_lv_mem w L 0 _).mpr ⟨i, v, hi, by simp⟩)
theorem lv_has.ss {ls : Array Slot} {n : Nat} {l l' : List (Nat × Value)} (h : lv_has ls n l) (hs : ∀ q ∈ l', q ∈ l) : lv_has ls n l' := ⟨h.1, h.2.1, fun q hq => h.2.2 q (hs q hq)⟩
def j_c1 : Option (Option Value) → Bool
  | some (some v) => v.category == 1
  | _ => true
theorem j_lv_set1 {w : j_w} {ls : Array Slot} {n : Nat} {L : List (Option Value)} {i : Nat} {v : Value} (hprev : i = 0 ∨ j_c1 L[i - 1]? = true)
    (h : lv_has ls n ((i, j_e w v) :: (j_lv w 0 L).filter (fun q => !(q.1 == i) && !(q.1 + 1 == i && q.2.category == 2)))) : lv_has ls n (j_lv w 0 (L.set i (some v))) := by
  refine h.ss fun q hq => ?_
  obtain ⟨j, u, h1, rfl⟩ := (j_lv_mem w _ 0 q).mp hq
  rw [List.getElem?_set] at h1
  split at h1
  · rename_i hij
    subst hij
    split at h1
    · cases h1; simp
    · cases h1
  · rename_i hij
    refine List.mem_cons_of_mem _ (List.mem_filter.mpr ⟨(j_lv_mem w L 0 _).mpr ⟨j, u, h1, rfl⟩, ?_⟩)
    simp only [Nat.zero_add, Bool.and_eq_true, Bool.not_eq_true', beq_eq_false_iff_ne, ne_eq, Bool.and_eq_false_imp, beq_iff_eq, j_e_cat]
    refine ⟨fun e => hij e.symm, fun e hc => ?_⟩
    rcases hprev with hp | hp
    · omega
    · have : i - 1 = j := by omega
      rw [this, h1] at hp
      simp [j_c1] at hp
      omega
theorem j_lv_set2 {w : j_w} {ls : Array Slot} {n : Nat} {L : List (Option Value)} {i : Nat} {v : Value} (hprev : i = 0 ∨ j_c1 L[i - 1]? = true)
    (h : lv_has ls n ((i, j_e w v) :: (j_lv w 0 L).filter (fun q => !(q.1 == i) && (!(q.1 == i + 1) && !(q.1 + 1 == i && q.2.category == 2))))) : lv_has ls n (j_lv w 0 ((L.set i (some v)).set (i + 1) none)) := by
  refine h.ss fun q hq => ?_
  obtain ⟨j, u, h1, rfl⟩ := (j_lv_mem w _ 0 q).mp hq
  rw [List.getElem?_set] at h1
  split at h1
  · split at h1 <;> cases h1
  · rename_i hij1
    rw [List.getElem?_set] at h1
    split at h1
    · rename_i hij
      subst hij
      split at h1
      · cases h1; simp
      · cases h1
    · rename_i hij
      refine List.mem_cons_of_mem _ (List.mem_filter.mpr ⟨(j_lv_mem w L 0 _).mpr ⟨j, u, h1, rfl⟩, ?_⟩)
      simp only [Nat.zero_add, Bool.and_eq_true, Bool.not_eq_true', beq_eq_false_iff_ne, ne_eq, Bool.and_eq_false_imp, beq_iff_eq, j_e_cat]
      refine ⟨fun e => hij e.symm, fun e => hij1 e.symm, fun e hc => ?_⟩
      rcases hprev with hp | hp
      · omega
      · have : i - 1 = j := by omega
        rw [this, h1] at hp
        simp [j_c1] at hp
        omega
def j_ar : List Value → List (Option Value)
  | [] => []
  | v :: r => if v.category = 2 then some v :: none :: j_ar r else some v :: j_ar r
theorem j_ar_args (w : j_w) : ∀ (vs : List Value) (i : Nat), lv_args i (vs.map (j_e w)) = j_lv w i (j_ar vs)
  | [], i => rfl
  | v :: r, i => by
    rw [List.map_cons, lv_args, j_ar, j_e_cat, j_ar_args w r]
    by_cases h : v.category = 2
    · rw [if_pos h, if_pos h, j_lv, j_lv]
    · rw [if_neg h, if_neg h, j_lv]
theorem j_lv_app (w : j_w) (k : Nat) : ∀ (L : List (Option Value)) (i : Nat), j_lv w i (L ++ List.replicate k none) = j_lv w i L
  | [], i => by
    induction k generalizing i with
    | zero => rfl
    | succ k ih =>
      have h := ih (i + 1)
      rw [List.nil_append] at h
      rw [List.nil_append, List.replicate_succ, j_lv]
      exact h
  | none :: r, i => by rw [List.cons_append, j_lv, j_lv, j_lv_app w k r]
  | some v :: r, i => by rw [List.cons_append, j_lv, j_lv, j_lv_app w k r]
/-- the entry's locals -/
def j_L0 (n : Nat) (vs : List Value) : List (Option Value) := j_ar vs ++ List.replicate (n - (j_ar vs).length) none
/-- the machine around a frame -/
abbrev j_X : Type := (Program × Launch × Env × Room × State) × (MethodId × Array Value × List Frame × Method × Code) × (j_w × (Nat → Prop) × Nat × Nat × (State → Prop))
def j_Good (d : Nat) (I : j_I) (X : j_X) : Prop := match X with
  | ((p, l, e, R, s), (m, args, below, meth, c), (w, A, cells, slots, Q)) =>
    p.tables.exec = Jvm.exec ∧ c.code = I.2.1 ∧ c.maxLocals = I.2.2.1 ∧ s.vm.findClass I.1.cls = some m.cls ∧ (∀ u ∈ j_tbl, u.before args s = true) ∧ va_K w.1 j_cls (j_tys w) s ∧ j_Z w A s s.heap ∧ j_D w ∧ (∀ a, a < j_NA → A (w.2.2 a)) ∧ d ≤ R.frames ∧ 41 * d ≤ R.locals ∧ cells ≤ R.cells ∧ slots ≤ R.slots
/-- the machine, at this place of the method, comes to its end -/
def j_W (d : Nat) (I : j_I) (X : j_X) (pc : Nat) (L : List (Option Value)) (st : List Value) (M : j_M) : Prop := match X with
  | ((p, l, e, R, s), (m, args, below, meth, c), (w, A, cells, slots, Q)) =>
    j_Good d I X → ∀ (H : Heap) (locs : List Loc) (ls : Array Slot), va_P w.1 j_cls (j_ws w M) H → va_S A s.heap H locs → lv_has ls I.2.2.1 (j_lv w 0 L) → W p l e R s m args below meth c H locs cells slots Q (F0 m pc ls (st.map (j_e w)))
def j_rm (d : Nat) : Room := { frames := d, cells := 0, slots := 0, locals := 41 * d }
def j_words (I : j_I) : List Cond := Cond.code I.1 I.2.1 I.2.2.1 I.2.2.2 :: j_tbl
def j_Pre (w : j_w) (M : j_M) (U : State) : Prop := va_P w.1 j_cls (j_ws w M) U.heap ∧ va_K w.1 j_cls (j_tys w) U ∧ j_Z w (j_A w) U U.heap ∧ j_D w
def j_Qc (w : j_w) (Q : Option Value → j_M → Prop) : Array Value → State → Outcome → State → Prop := fun _ st o t =>
  (∃ (r : Option Value) (M : j_M), o = .returned (r.map (j_e w)) ∧ Q r M ∧ va_P w.1 j_cls (j_ws w M) t.heap) ∧ va_F (j_A w) st t
/-- a method's contract: called with these, it returns so -/
def j_Ct (d : Nat) (I : j_I) (vs : List Value) (M : j_M) (Q : Option Value → j_M → Prop) : Prop :=
  ∀ (l : Launch) (w : j_w), Met l I.1 (j_words I) (j_rm d) (va_Pc (vs.map (j_e w)) (j_Pre w M)) (j_Qc w Q) 0 0 (j_A w)
/-- the frame's end is a method's -/
def j_Fin (I : j_I) (Q : Option Value → j_M → Prop) (X : j_X) : Prop := match X with
  | ((p, l, e, R, s), (m, args, below, meth, c), (w, A, cells, slots, Qp)) =>
    meth.sig.returnType = I.2.2.2 ∧ meth.locks = false ∧ cells = 0 ∧ slots = 0 ∧ A = j_A w ∧ Qp = MQ below (j_Qc w Q) args s 0 0 (j_A w)
theorem j_met {d : Nat} {I : j_I} {vs : List Value} {M : j_M} {Q : Option Value → j_M → Prop} (hpl : plainName I.1.cls = true) (hin : Cond.code I.1 I.2.1 I.2.2.1 I.2.2.2 ∈ j_tbl) (hlen : (j_ar vs).length ≤ I.2.2.1)
    (body : ∀ X : j_X, j_Fin I Q X → j_W d I X 0 (j_L0 I.2.2.1 vs) [] M) : j_Ct d I vs M Q := by
  intro l w
  refine Met.ofW (cc := I.2.1) (maxL := I.2.2.1) (ret := I.2.2.2) hpl rfl ?_
  intro p e s m args below meth c s₁ B hml hv
  obtain ⟨rfl, hP, hK, hZ, hD⟩ := hv
  have hts := atoms_spec (ws := j_words I) B.pre
  have hown : s.vm.findClass I.1.cls = some m.cls := findClass_of_methodNamed B.named
  have hlen2 : (lg_sl (vs.map (j_e w))).length = (j_ar vs).length := by
    clear body hlen hts B
    clear hP
    induction vs with
    | nil => rfl
    | cons v r ih =>
      have ih' : (lg_sl (r.map (j_e w))).length = (j_ar r).length := ih
      simp only [List.map_cons, lg_sl, List.flatMap_cons, List.length_append, j_ar, j_e_cat]
      simp only [lg_sl] at ih'
      rw [ih']
      by_cases h : v.category = 2
      · simp [h]; omega
      · simp [h]; omega
  have hl := lv_entry (vs.map (j_e w)) (n := I.2.2.1) (by rw [hlen2]; exact hlen)
  rw [lg_entry_eq]
  generalize (lg_sl (vs.map (j_e w)) ++ List.replicate (I.2.2.1 - (lg_sl (vs.map (j_e w))).length) Slot.unset).toArray = ls at hl ⊢
  rw [j_ar_args, ← j_lv_app w (I.2.2.1 - (j_ar vs).length)] at hl
  exact body ((p, l, e, (headSpec (j_words I) (j_rm d)).room, s), (m, (vs.map (j_e w)).toArray, below, meth, c), (w, j_A w, 0, 0, MQ below (j_Qc w Q) (vs.map (j_e w)).toArray s 0 0 (j_A w)))
    ⟨B.returns, B.notSynchronized, rfl, rfl, rfl, rfl⟩
    ⟨B.exec, B.bytes, hml, hown, fun u hu => hts u (List.mem_cons_of_mem _ hu), hK, hZ, hD, fun a ha => ⟨a, ha, rfl⟩, Nat.le_refl _, Nat.le_refl _, Nat.zero_le _, Nat.zero_le _⟩ s.heap [] ls hP va_S.rf hl
