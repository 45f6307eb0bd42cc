/-! A WORLD THAT GROWS, for the constructors: an object is its number, its kind, its class or length, its slots (0 an int, 1 null, b + 2 the object b) -/
abbrev k_S : Type := Nat × Nat × Nat × List Nat
def k_v (al : Nat → Nat) (x : Int32) : Nat → Value
  | 0 => .int x
  | 1 => .null
  | b + 2 => .ref (al b)
def k_fl (al : Nat → Nat) (f : Nat → Int32) : Nat → List Nat → List Value
  | _, [] => []
  | k, c :: r => k_v al (f k) c :: k_fl al f (k + 1) r
def k_qf (al : Nat → Nat) (r : List Nat) (j : Nat) : Option Nat := if 2 ≤ r.getD j 1 then some (al (r.getD j 1 - 2)) else none
def k_ent (w : j_w) (M : j_M) (x : k_S) : va_E := match x.2.1 with
  | 0 => .inr (x.2.2.1, k_fl w.2.2 (M x.1) 0 x.2.2.2)
  | 1 => .inl (w.2.1 0, x.2.2.1, .inl (M x.1))
  | 2 => .inl (w.2.1 1, x.2.2.1, .inl (M x.1))
  | 3 => .inl (w.2.1 2, x.2.2.1, .inr (.inr (.inr (.inr (k_qf w.2.2 x.2.2.2)))))
  | _ => .inl (w.2.1 3, x.2.2.1, .inr (.inr (.inr (.inr (k_qf w.2.2 x.2.2.2)))))
def k_ws (w : j_w) (M : j_M) (S : List k_S) : va_W := S.map (fun x => (w.2.2 x.1, k_ent w M x))
theorem k_fl_len (al : Nat → Nat) (f : Nat → Int32) : ∀ (r : List Nat) (k : Nat), (k_fl al f k r).length = r.length
  | [], _ => rfl
  | c :: r, k => by rw [k_fl, List.length_cons, List.length_cons, k_fl_len al f r (k + 1)]
theorem k_fl_get (al : Nat → Nat) (f : Nat → Int32) {c : Nat} : ∀ (r : List Nat) (k0 k : Nat), r[k]? = some c → (k_fl al f k0 r)[k]? = some (k_v al (f (k0 + k)) c)
  | [], _, _, h => by simp at h
  | x :: r, k0, 0, h => by simp at h; subst h; simp [k_fl]
  | x :: r, k0, k + 1, h => by
    have := k_fl_get al f r (k0 + 1) k (by simpa using h)
    rw [k_fl, List.getElem?_cons_succ, this, show k0 + 1 + k = k0 + (k + 1) by omega]
theorem k_fl_cong (al : Nat → Nat) {f g : Nat → Int32} : ∀ (r : List Nat) (k0 : Nat), (∀ k, k0 ≤ k → f k = g k) → k_fl al f k0 r = k_fl al g k0 r
  | [], _, _ => rfl
  | c :: r, k0, h => by rw [k_fl, k_fl, h k0 (Nat.le_refl _), k_fl_cong al r (k0 + 1) (fun k hk => h k (by omega))]
theorem k_fl_setR (al : Nat → Nat) (f : Nat → Int32) (b : Nat) : ∀ (r : List Nat) (k0 k : Nat), (k_fl al f k0 r).set k (.ref (al b)) = k_fl al f k0 (r.set k (b + 2))
  | [], _, _ => rfl
  | x :: r, k0, 0 => rfl
  | x :: r, k0, k + 1 => by rw [k_fl, List.set_cons_succ, List.set_cons_succ, k_fl, k_fl_setR al f b r (k0 + 1) k]
theorem k_fl_setI (al : Nat → Nat) (f : Nat → Int32) (x : Int32) : ∀ (r : List Nat) (k0 k : Nat), r[k]? = some 0 → (k_fl al f k0 r).set k (.int x) = k_fl al (upd f (k0 + k) x) k0 r
  | [], _, _, h => by simp at h
  | c :: r, k0, 0, h => by
    simp at h; subst h
    rw [k_fl, List.set_cons_zero, k_fl, k_fl_cong al (f := upd f (k0 + 0) x) (g := f) r (k0 + 1) (fun k hk => by unfold upd; rw [if_neg (by omega)])]
    simp [k_v, upd]
  | c :: r, k0, k + 1, h => by
    have := k_fl_setI al f x r (k0 + 1) k (by simpa using h)
    rw [k_fl, List.set_cons_succ, this, k_fl, show k0 + 1 + k = k0 + (k + 1) by omega]
    congr 2
    unfold upd; rw [if_neg (by omega)]
theorem k_fl_al {al al' : Nat → Nat} (f : Nat → Int32) : ∀ (r : List Nat) (k : Nat), (∀ b, b + 2 ∈ r → al' b = al b) → k_fl al' f k r = k_fl al f k r
  | [], _, _ => rfl
  | c :: r, k, h => by
    rw [k_fl, k_fl, k_fl_al f r (k + 1) (fun b hb => h b (List.mem_cons_of_mem _ hb))]
    congr 1
    rcases c with _ | _ | b
    · rfl
    · rfl
    · show Value.ref _ = Value.ref _
      rw [h b (List.mem_cons_self ..)]
theorem k_qf_al {al al' : Nat → Nat} {r : List Nat} (h : ∀ b, b + 2 ∈ r → al' b = al b) : k_qf al' r = k_qf al r := by
  funext j
  unfold k_qf
  by_cases h2 : 2 ≤ r.getD j 1
  · rw [if_pos h2, if_pos h2]
    obtain ⟨b, hb⟩ : ∃ b, r.getD j 1 = b + 2 := ⟨r.getD j 1 - 2, by omega⟩
    rw [hb, Nat.add_sub_cancel, h b]
    rw [List.getD_eq_getElem?_getD] at hb
    cases hj : r[j]? with
    | none => rw [hj] at hb; simp at hb
    | some y => rw [hj] at hb; simp at hb; subst hb; exact List.mem_of_getElem? hj
  · rw [if_neg h2, if_neg h2]
theorem k_ent_al {w : j_w} {al' : Nat → Nat} {M : j_M} {x : k_S} (h : ∀ b, b + 2 ∈ x.2.2.2 → al' b = w.2.2 b) : k_ent (w.1, w.2.1, al') M x = k_ent w M x := by
  obtain ⟨a, t, n, r⟩ := x
  unfold k_ent
  simp only []
  rw [k_fl_al (al := w.2.2) (M a) r 0 h, k_qf_al (al := w.2.2) h]
theorem k_ent_M {w : j_w} {M M' : j_M} {x : k_S} (h : M' x.1 = M x.1) : k_ent w M' x = k_ent w M x := by unfold k_ent; rw [h]
theorem k_at {w : j_w} {M : j_M} {S : List k_S} {i : Nat} {x : k_S} (h : S[i]? = some x) : (k_ws w M S)[i]? = some (w.2.2 x.1, k_ent w M x) := by simp [k_ws, h]
theorem k_inv {w : j_w} {M : j_M} {S : List k_S} {i : Nat} {q : Nat × va_E} (h : (k_ws w M S)[i]? = some q) : ∃ x, S[i]? = some x ∧ q = (w.2.2 x.1, k_ent w M x) := by
  unfold k_ws at h
  rw [List.getElem?_map] at h
  cases hx : S[i]? with
  | none => rw [hx] at h; cases h
  | some x => rw [hx] at h; exact ⟨x, rfl, (Option.some.inj h).symm⟩
theorem k_set1 {w : j_w} {M : j_M} {S : List k_S} {i : Nat} {x y : k_S} {e : va_E} (hy : y.1 = x.1) (he : k_ent w M y = e) : (k_ws w M S).set i (w.2.2 x.1, e) = k_ws w M (S.set i y) := by
  unfold k_ws
  rw [List.map_set, hy, he]
theorem k_setM {A : Nat → Prop} {w : j_w} {M M' : j_M} {S : List k_S} {i : Nat} {x : k_S} {e : va_E} (hD : va_D A (k_ws w M S)) (hx : S[i]? = some x) (he : k_ent w M' x = e) (ho : ∀ b, b ≠ x.1 → M' b = M b) : (k_ws w M S).set i (w.2.2 x.1, e) = k_ws w M' S := by
  apply List.ext_getElem?
  intro j
  by_cases hj : i = j
  · subst hj
    have hl := (List.getElem?_eq_some_iff.mp (k_at (w := w) (M := M) hx)).1
    rw [List.getElem?_set_self hl, k_at hx, he]
  · rw [List.getElem?_set_ne hj]
    cases hy : S[j]? with
    | none => simp [k_ws, hy]
    | some y =>
      rw [k_at hy, k_at hy]
      have hne : y.1 ≠ x.1 := fun q => hj (hD.1 i j _ _ (k_at hx) (k_at hy) (by show w.2.2 x.1 = w.2.2 y.1; rw [q]))
      rw [k_ent_M (ho y.1 hne)]
theorem k_ws_al {w : j_w} {al' : Nat → Nat} {M : j_M} {S : List k_S} (h : ∀ y ∈ S, al' y.1 = w.2.2 y.1 ∧ ∀ b, b + 2 ∈ y.2.2.2 → al' b = w.2.2 b) : k_ws (w.1, w.2.1, al') M S = k_ws w M S := by
  unfold k_ws
  refine List.map_congr_left (fun y hy => ?_)
  obtain ⟨h1, h2⟩ := h y hy
  rw [k_ent_al h2]
  show (al' y.1, _) = _
  rw [h1]
/-- a number that no object and no slot has -/
def k_fr (a : Nat) (S : List k_S) : Bool := S.all (fun y => !(y.1 == a) && y.2.2.2.all (fun c => !(c == a + 2)))
theorem k_fr_at {a : Nat} {S : List k_S} (h : k_fr a S = true) {y : k_S} (hy : y ∈ S) : y.1 ≠ a ∧ a + 2 ∉ y.2.2.2 := by
  have h1 := List.all_eq_true.mp h y hy
  simp only [Bool.and_eq_true, Bool.not_eq_true', beq_eq_false_iff_ne, ne_eq] at h1
  refine ⟨h1.1, fun hm => ?_⟩
  have h2 := List.all_eq_true.mp h1.2 (a + 2) hm
  simp at h2
/-- all slots lead to objects that are there -/
def k_cl (S : List k_S) : Bool := S.all (fun y => y.2.2.2.all (fun c => decide (c < 2) || S.any (fun z => z.1 + 2 == c)))
theorem k_cl_at {S : List k_S} (h : k_cl S = true) {y : k_S} (hy : y ∈ S) {b : Nat} (hb : b + 2 ∈ y.2.2.2) : ∃ z ∈ S, z.1 = b := by
  have h1 := List.all_eq_true.mp (List.all_eq_true.mp h y hy) (b + 2) hb
  simp only [Bool.or_eq_true, decide_eq_true_eq, List.any_eq_true, beq_iff_eq] at h1
  rcases h1 with q | ⟨z, hz, e⟩
  · omega
  · exact ⟨z, hz, by omega⟩
def k_nv (f : Nat → Bool) : Value → Bool
  | .ref b => f b
  | _ => true
theorem k_nv_e {f : Nat → Bool} {w : j_w} {al' : Nat → Nat} (h : ∀ b, f b = true → al' b = w.2.2 b) {v : Value} (hv : k_nv f v = true) : j_e (w.1, w.2.1, al') v = j_e w v := by
  cases v <;> first | rfl | exact congrArg Value.ref (h _ hv)
theorem k_nv_st {f : Nat → Bool} {w : j_w} {al' : Nat → Nat} (h : ∀ b, f b = true → al' b = w.2.2 b) {st : List Value} (hv : st.all (k_nv f) = true) : st.map (j_e (w.1, w.2.1, al')) = st.map (j_e w) :=
  List.map_congr_left (fun v hm => k_nv_e h (List.all_eq_true.mp hv v hm))
def k_nl (f : Nat → Bool) : Option Value → Bool
  | some v => k_nv f v
  | none => true
theorem k_nv_lv {f : Nat → Bool} {w : j_w} {al' : Nat → Nat} (h : ∀ b, f b = true → al' b = w.2.2 b) : ∀ (L : List (Option Value)) (i : Nat), L.all (k_nl f) = true → j_lv (w.1, w.2.1, al') i L = j_lv w i L
  | [], _, _ => rfl
  | none :: L, i, hv => by rw [j_lv, j_lv]; exact k_nv_lv h L (i + 1) (by simpa [k_nl] using hv)
  | some v :: L, i, hv => by
    rw [List.all_cons, Bool.and_eq_true] at hv
    rw [j_lv, j_lv, k_nv_lv h L (i + 1) hv.2, k_nv_e h hv.1]
def k_AA (U : State) : Prop := (Cond.arrayOver (.array .int)).before #[] U = true
theorem k_AA.moved {u U : State} (hvm : u.vm.Alike U.vm) (h : k_AA u) : k_AA U := by
  obtain ⟨comp, c, k, h1, h2, h3, h4, h5⟩ := arrayOverA_spec h
  obtain ⟨k', hk', he⟩ := hvm.2.2 _ _ h3
  have hi : (U.vm.classes.findIdx? fun (x : Class) => match x.kind with | .array component _ => component == comp | _ => false) = some c := by
    rw [hvm.findIdx?_eq _ (fun _ => rfl)]
    exact h2
  have hkind : k'.kind = .array comp (.array .int) := by rw [he]; exact h4
  have f1 : U.vm.findClass (FieldType.array .int).toString = some comp := by rw [hvm.findClass]; exact h1
  have f2 : U.vm.findClass ("[" ++ (FieldType.array .int).toString) = some c := by rw [hvm.findClass]; exact h5
  unfold k_AA Cond.before Cond.holds
  simp only [Cond.value]
  rw [f1, Option.bind_some]
  refine (congrArg (fun o : Option Nat => (o.bind (fun c => (U.vm.classes[c]?).map fun (k : Class) => match k.kind with | .array _ ty => decide (ty = FieldType.array .int) && decide (U.vm.findClass ("[" ++ (FieldType.array .int).toString) = some c) | _ => false) == some true)) hi).trans ?_
  simp [hk', hkind, f2]
def k_NN (U : State) : Prop := va_Nw (.methodLinkNest "DogJudge" 11 ⟨"DogJudge$Heirs", "<init>", "()V"⟩ "DogJudge") U ∧ va_Nw (.methodLinkNest "DogJudge" 18 ⟨"DogJudge$Visits", "<init>", "()V"⟩ "DogJudge") U ∧ va_Nw (.methodLinkNest "DogJudge$Court" 29 ⟨"DogJudge$Mood", "<init>", "()V"⟩ "DogJudge") U
theorem k_NN.warm {s U : State} (hW : s.WarmedH U.vm) (h : k_NN s) : k_NN U := ⟨h.1.warmM hW, h.2.1.warmM hW, h.2.2.warmM hW⟩
theorem k_NN.same {s U : State} (hv : s.vm = U.vm) (h : k_NN s) : k_NN U := ⟨va_Nw.same rfl hv h.1, va_Nw.same rfl hv h.2.1, va_Nw.same rfl hv h.2.2⟩
abbrev k_X : Type := (Program × Launch × Env × Room × State) × (MethodId × Array Value × List Frame × Method × Code) × (((Nat → Prop) × (Nat × Nat) × (State → Prop)) × (j_w × (Nat → Bool)))
def k_Good (d : Nat) (I : j_I) (X : k_X) : Prop := match X with
  | ((p, l, e, R, s), (m, args, below, meth, c), ((A, (kc, ks), Q), (g, f))) =>
    p.tables.exec = Jvm.exec ∧ c.code = I.2.1 ∧ c.maxLocals = I.2.2.1 ∧ s.vm.findClass I.1.cls = some m.cls ∧ (∀ u ∈ j_tbl, u.before args s = true) ∧ va_K g.1 j_cls (j_tys g) s ∧ (va_AO "DogJudge$Mood" s ∧ k_AA s ∧ k_NN s) ∧ (∀ q, s.heap.size ≤ q → A q) ∧ (d ≤ R.frames ∧ 41 * d ≤ R.locals ∧ kc ≤ R.cells ∧ ks ≤ R.slots) ∧ (I.1.name = "<init>" → meth.name = "<init>")
abbrev k_kc (X : k_X) : Nat := X.2.2.1.2.1.1
abbrev k_ks (X : k_X) : Nat := X.2.2.1.2.1.2
abbrev k_f (X : k_X) : Nat → Bool := X.2.2.2.2
/-- the machine, at this place of a constructor, comes to its end -/
def k_W (d : Nat) (I : j_I) (X : k_X) (pc : Nat) (L : List (Option Value)) (st : List Value) (M : j_M) (S : List k_S) (n k : Nat) : Prop := match X with
  | ((p, l, e, R, s), (m, args, below, meth, c), ((A, (kc, ks), Q), (g, f))) =>
    k_Good d I X → ∀ (al : Nat → Nat), (∀ b, f b = true → al b = g.2.2 b) → ∀ (H : Heap) (locs : List Loc) (ls : Array Slot), va_P g.1 j_cls (k_ws (g.1, g.2.1, al) M S) H → va_D A (k_ws (g.1, g.2.1, al) M S) → va_S A s.heap H locs → lv_has ls I.2.2.1 (j_lv (g.1, g.2.1, al) 0 L) → W p l e R s m args below meth c H locs n k Q (F0 m pc ls (st.map (j_e (g.1, g.2.1, al))))
section Kules
variable {d : Nat} {I : j_I} {X : k_X} {pc : Nat} {L : List (Option Value)} {st : List Value} {M : j_M} {S : List k_S} {n k : Nat}
theorem kx_iconst {x : Int} {v : Int32} (hd : decode I.2.1 pc = .ok (.iconst x, 1)) (hv : Int32.ofInt x = v) (kk : k_W d I X (pc + 1) L (.int v :: st) M S n k) : k_W d I X pc L st M S n k := by
  obtain ⟨⟨p, l, e, R, s⟩, ⟨m, args, below, meth, c⟩, ⟨⟨A, ⟨kc, ks⟩, Q⟩, ⟨g, f⟩⟩⟩ := X
  intro hG al hal H locs ls hP hD hS hl
  obtain ⟨hx, hb, -⟩ := id hG
  exact lv_iconst hx hb hd hv (kk hG al hal H locs ls hP hD hS hl)
theorem kx_bipush {x : Int} {v : Int32} (hd : decode I.2.1 pc = .ok (.bipush x, 2)) (hv : (Int8.ofInt x).toInt32 = v) (kk : k_W d I X (pc + 2) L (.int v :: st) M S n k) : k_W d I X pc L st M S n k := by
  obtain ⟨⟨p, l, e, R, s⟩, ⟨m, args, below, meth, c⟩, ⟨⟨A, ⟨kc, ks⟩, Q⟩, ⟨g, f⟩⟩⟩ := X
  intro hG al hal H locs ls hP hD hS hl
  obtain ⟨hx, hb, -⟩ := id hG
  exact lv_bipush hx hb hd hv (kk hG al hal H locs ls hP hD hS hl)
theorem kx_sipush {x : Int} {v : Int32} (hd : decode I.2.1 pc = .ok (.sipush x, 3)) (hv : (Int16.ofInt x).toInt32 = v) (kk : k_W d I X (pc + 3) L (.int v :: st) M S n k) : k_W d I X pc L st M S n k := by
  obtain ⟨⟨p, l, e, R, s⟩, ⟨m, args, below, meth, c⟩, ⟨⟨A, ⟨kc, ks⟩, Q⟩, ⟨g, f⟩⟩⟩ := X
  intro hG al hal H locs ls hP hD hS hl
  obtain ⟨hx, hb, -⟩ := id hG
  exact lv_sipush hx hb hd hv (kk hG al hal H locs ls hP hD hS hl)
theorem kx_dup {a : Nat} (hd : decode I.2.1 pc = .ok (.dup, 1)) (kk : k_W d I X (pc + 1) L (.ref a :: .ref a :: st) M S n k) : k_W d I X pc L (.ref a :: st) M S n k := by
  obtain ⟨⟨p, l, e, R, s⟩, ⟨m, args, below, meth, c⟩, ⟨⟨A, ⟨kc, ks⟩, Q⟩, ⟨g, f⟩⟩⟩ := X
  intro hG al hal H locs ls hP hD hS hl
  obtain ⟨hx, hb, -⟩ := id hG
  exact lv_dup hx hb hd rfl (kk hG al hal H locs ls hP hD hS hl)
theorem kx_goto {off : Int} (tgt : Nat) (hd : decode I.2.1 pc = .ok (.goto off, 3)) (ht : (pc : Int) + off = (tgt : Int)) (kk : k_W d I X (tgt) L st M S n k) : k_W d I X pc L st M S n k := by
  obtain ⟨⟨p, l, e, R, s⟩, ⟨m, args, below, meth, c⟩, ⟨⟨A, ⟨kc, ks⟩, Q⟩, ⟨g, f⟩⟩⟩ := X
  intro hG al hal H locs ls hP hD hS hl
  obtain ⟨hx, hb, -⟩ := id hG
  exact lv_goto hx hb hd ht (kk hG al hal H locs ls hP hD hS hl)
theorem kx_ige_t {x y : Int32} {off : Int} (tgt : Nat) (hd : decode I.2.1 pc = .ok (.if_icmp .ge off, 3)) (ht : (pc : Int) + off = (tgt : Int)) (h : y ≤ x) (kk : k_W d I X (tgt) L st M S n k) : k_W d I X pc L (.int y :: .int x :: st) M S n k := by
  obtain ⟨⟨p, l, e, R, s⟩, ⟨m, args, below, meth, c⟩, ⟨⟨A, ⟨kc, ks⟩, Q⟩, ⟨g, f⟩⟩⟩ := X
  intro hG al hal H locs ls hP hD hS hl
  obtain ⟨hx, hb, -⟩ := id hG
  exact lv_icmp_ge hx hb hd ht (fun _ => kk hG al hal H locs ls hP hD hS hl) (fun q => absurd h q)
theorem kx_ige_f {x y : Int32} {off : Int} (tgt : Nat) (hd : decode I.2.1 pc = .ok (.if_icmp .ge off, 3)) (ht : (pc : Int) + off = (tgt : Int)) (h : ¬ y ≤ x) (kk : k_W d I X (pc + 3) L st M S n k) : k_W d I X pc L (.int y :: .int x :: st) M S n k := by
  obtain ⟨⟨p, l, e, R, s⟩, ⟨m, args, below, meth, c⟩, ⟨⟨A, ⟨kc, ks⟩, Q⟩, ⟨g, f⟩⟩⟩ := X
  intro hG al hal H locs ls hP hD hS hl
  obtain ⟨hx, hb, -⟩ := id hG
  exact lv_icmp_ge hx hb hd ht (fun q => absurd q h) (fun _ => kk hG al hal H locs ls hP hD hS hl)
theorem kx_aload_n (i : Fin 4) {a : Nat} (hi : L[(i : Nat)]? = some (some (.ref a))) (hd : decode I.2.1 pc = .ok (.aload_n i, 1)) (kk : k_W d I X (pc + 1) L (.ref a :: st) M S n k) : k_W d I X pc L st M S n k := by
  obtain ⟨⟨p, l, e, R, s⟩, ⟨m, args, below, meth, c⟩, ⟨⟨A, ⟨kc, ks⟩, Q⟩, ⟨g, f⟩⟩⟩ := X
  intro hG al hal H locs ls hP hD hS hl
  obtain ⟨hx, hb, -⟩ := id hG
  exact lv_aload_n hx hb hd rfl (j_lv_get hl hi) (kk hG al hal H locs ls hP hD hS hl)
theorem kx_iload_n (i : Fin 4) {x : Int32} (hi : L[(i : Nat)]? = some (some (.int x))) (hd : decode I.2.1 pc = .ok (.iload_n i, 1)) (kk : k_W d I X (pc + 1) L (.int x :: st) M S n k) : k_W d I X pc L st M S n k := by
  obtain ⟨⟨p, l, e, R, s⟩, ⟨m, args, below, meth, c⟩, ⟨⟨A, ⟨kc, ks⟩, Q⟩, ⟨g, f⟩⟩⟩ := X
  intro hG al hal H locs ls hP hD hS hl
  obtain ⟨hx, hb, -⟩ := id hG
  exact lv_iload_n hx hb hd rfl (j_lv_get hl hi) (kk hG al hal H locs ls hP hD hS hl)
theorem kx_iload (i : Nat) {x : Int32} (hi : L[i]? = some (some (.int x))) (hd : decode I.2.1 pc = .ok (.iload i, 2)) (kk : k_W d I X (pc + 2) L (.int x :: st) M S n k) : k_W d I X pc L st M S n k := by
  obtain ⟨⟨p, l, e, R, s⟩, ⟨m, args, below, meth, c⟩, ⟨⟨A, ⟨kc, ks⟩, Q⟩, ⟨g, f⟩⟩⟩ := X
  intro hG al hal H locs ls hP hD hS hl
  obtain ⟨hx, hb, -⟩ := id hG
  exact lv_iload hx hb hd (j_lv_get hl hi) (kk hG al hal H locs ls hP hD hS hl)
theorem kx_istore_n (i : Fin 4) {x : Int32} {L' : List (Option Value)} (hn : (i : Nat) < I.2.2.1) (hp : (i : Nat) = 0 ∨ j_c1 L[(i : Nat) - 1]? = true) (hd : decode I.2.1 pc = .ok (.istore_n i, 1)) (hL : L.set (i : Nat) (some (.int x)) = L') (kk : k_W d I X (pc + 1) L' st M S n k) : k_W d I X pc L (.int x :: st) M S n k := by
  obtain ⟨⟨p, l, e, R, s⟩, ⟨m, args, below, meth, c⟩, ⟨⟨A, ⟨kc, ks⟩, Q⟩, ⟨g, f⟩⟩⟩ := X
  intro hG al hal H locs ls hP hD hS hl
  obtain ⟨hx, hb, -⟩ := id hG
  subst hL
  exact lv_istore_n hx hb hd rfl hl hn rfl (fun ls2 hl2 => kk hG al hal H locs ls2 hP hD hS (j_lv_set1 hp hl2))
theorem kx_astore_n (i : Fin 4) {a : Nat} {L' : List (Option Value)} (hn : (i : Nat) < I.2.2.1) (hp : (i : Nat) = 0 ∨ j_c1 L[(i : Nat) - 1]? = true) (hd : decode I.2.1 pc = .ok (.astore_n i, 1)) (hL : L.set (i : Nat) (some (.ref a)) = L') (kk : k_W d I X (pc + 1) L' st M S n k) : k_W d I X pc L (.ref a :: st) M S n k := by
  obtain ⟨⟨p, l, e, R, s⟩, ⟨m, args, below, meth, c⟩, ⟨⟨A, ⟨kc, ks⟩, Q⟩, ⟨g, f⟩⟩⟩ := X
  intro hG al hal H locs ls hP hD hS hl
  obtain ⟨hx, hb, -⟩ := id hG
  subst hL
  exact lv_astore_n hx hb hd rfl hl hn rfl (fun ls2 hl2 => kk hG al hal H locs ls2 hP hD hS (j_lv_set1 hp hl2))
theorem kx_istore (i : Nat) {x : Int32} {L' : List (Option Value)} (hn : i < I.2.2.1) (hp : i = 0 ∨ j_c1 L[i - 1]? = true) (hd : decode I.2.1 pc = .ok (.istore i, 2)) (hL : L.set i (some (.int x)) = L') (kk : k_W d I X (pc + 2) L' st M S n k) : k_W d I X pc L (.int x :: st) M S n k := by
  obtain ⟨⟨p, l, e, R, s⟩, ⟨m, args, below, meth, c⟩, ⟨⟨A, ⟨kc, ks⟩, Q⟩, ⟨g, f⟩⟩⟩ := X
  intro hG al hal H locs ls hP hD hS hl
  obtain ⟨hx, hb, -⟩ := id hG
  subst hL
  exact lv_istore hx hb hd hl hn rfl (fun ls2 hl2 => kk hG al hal H locs ls2 hP hD hS (j_lv_set1 hp hl2))
theorem kx_iinc (i : Nat) {z : Int} {x : Int32} {L' : List (Option Value)} (hi : L[i]? = some (some (.int x))) (hn : i < I.2.2.1) (hp : i = 0 ∨ j_c1 L[i - 1]? = true) (hd : decode I.2.1 pc = .ok (.iinc i z, 3)) (hL : L.set i (some (.int (x + Int32.ofInt z))) = L') (kk : k_W d I X (pc + 3) L' st M S n k) : k_W d I X pc L st M S n k := by
  obtain ⟨⟨p, l, e, R, s⟩, ⟨m, args, below, meth, c⟩, ⟨⟨A, ⟨kc, ks⟩, Q⟩, ⟨g, f⟩⟩⟩ := X
  intro hG al hal H locs ls hP hD hS hl
  obtain ⟨hx, hb, -⟩ := id hG
  subst hL
  obtain ⟨n0, hn0⟩ := j_lv_ix (w := (g.1, g.2.1, al)) L 0 hi
  rw [Nat.zero_add] at hn0
  exact lv_iinc hx hb hd hl hn0 rfl hn rfl (fun ls2 hl2 => kk hG al hal H locs ls2 hP hD hS (j_lv_set1 hp hl2))
end Kules
