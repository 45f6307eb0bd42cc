/-! A ROW OF OUR OWN: an array of arrays of ints in one instruction -/
section Multi
variable {p : Program} {l : Launch} {e : Env} {R : Room} {s : State} {m : MethodId} {args : Array Value} {below : List Frame} {meth : Method} {c : Code} {locs : List Loc} {cells slots : Nat} {Q : State → Prop} {H : Heap} {E : CtlPost} {d : Bool} {acts : List Action}
/-- while the rows are made: so many stand -/
def ku_In (p : Program) (l : Launch) (e : Env) (R : Room) (s : State) (m : MethodId) (args : Array Value) (below : List Frame) (meth : Method) (c : Code) (locs : List Loc) (cells slots : Nat) (H : Heap) (cA comp : ClassId) (N K : Nat) (vm1 : Vm) (i : Nat) (S : State) : Prop :=
  (∃ L : List Loc, Stand p l e R s m args below meth c S L (cells + 1 + i) (slots + N + i * K) ∧ ∀ q ∈ L, q ∈ locs ∨ q.base = H.size) ∧ S.vm = vm1 ∧ S.heap.size = H.size + 1 + i ∧
  S.heap[H.size]? = some (arrV cA N (fun j => if j < i then .ref (H.size + 1 + j) else .null)) ∧ (∀ j, j < i → S.heap[H.size + 1 + j]? = some (arrV comp K (fun _ => .int 0))) ∧ ∀ q : Nat, q < H.size → S.heap[q]? = H[q]?
theorem ku_0 {T : State} {cA comp : ClassId} {N K : Nat} (X : Stand p l e R s m args below meth c T locs cells slots) : ku_In p l e R s m args below meth c locs cells slots T.heap cA comp N K T.vm 0 (T.pushCell { cls := cA, slots := Array.replicate N .null }) := by
  have h := X.pushed { cls := cA, slots := Array.replicate N .null }
  refine ⟨⟨locs, by simpa using h, fun q hq => Or.inl hq⟩, rfl, by simp, ?_, fun j hj => absurd hj (Nat.not_lt_zero _), fun q hq => State.heap_pushCell_of_lt _ _ hq⟩
  rw [State.heap_pushCell_size, show ({ cls := cA, slots := Array.replicate N .null } : Cell) = arrV cA N (fun _ => .null) from arrV_new cA N .null]
  congr 2
theorem ku_S {S : State} {cA comp : ClassId} {N K i : Nat} {vm1 : Vm} (hi : i < N) (h : ku_In p l e R s m args below meth c locs cells slots H cA comp N K vm1 i S) :
    ku_In p l e R s m args below meth c locs cells slots H cA comp N K vm1 (i + 1) ((S.pushCell { cls := comp, slots := Array.replicate K (.int 0) }).setCell H.size ((arrV cA N (fun j => if j < i then .ref (H.size + 1 + j) else .null)).setSlot i (.ref S.heap.size))) := by
  obtain ⟨⟨L, X, hL⟩, hvm, hsz, hout, hin, hold⟩ := h
  have hlt : H.size < S.heap.size := by omega
  have hc1 : (S.pushCell { cls := comp, slots := Array.replicate K (.int 0) }).heap[H.size]? = some (arrV cA N (fun j => if j < i then .ref (H.size + 1 + j) else .null)) := by rw [State.heap_pushCell_of_lt (h := hlt)]; exact hout
  have X2 := (X.pushed { cls := comp, slots := Array.replicate K (.int 0) }).stored hc1 i (.ref S.heap.size)
  have e1 : ({ cls := comp, slots := Array.replicate K (.int 0) } : Cell).slots.size = K := by simp
  rw [e1] at X2
  have e2 : slots + N + (i + 1) * K = slots + N + i * K + K := by rw [Nat.succ_mul]; omega
  refine ⟨⟨L ++ [⟨H.size, i⟩], by rw [e2]; exact X2, fun q hq => ?_⟩, hvm, ?_, ?_, fun j hj => ?_, fun q hq => ?_⟩
  · rcases List.mem_append.mp hq with h | h
    · exact hL q h
    · rw [List.mem_singleton.mp h]; exact Or.inr rfl
  · rw [size_setCell]; simp; omega
  · rw [State.heap_setCell_self hc1, arrV_store]
    congr 2
    funext j
    unfold updV
    by_cases hj : j = i
    · rw [if_pos hj, if_pos (by omega), hj, hsz]
    · rw [if_neg hj]
      show (if j < i then Value.ref (H.size + 1 + j) else .null) = _
      by_cases hj2 : j < i
      · rw [if_pos hj2, if_pos (by omega)]
      · rw [if_neg hj2, if_neg (by omega)]
  · rw [State.heap_setCell_other (show H.size ≠ H.size + 1 + j by omega)]
    by_cases hj2 : j < i
    · rw [State.heap_pushCell_of_lt _ _ (show H.size + 1 + j < S.heap.size by omega)]; exact hin j hj2
    · rw [show H.size + 1 + j = S.heap.size by omega, State.heap_pushCell_size]
      exact congrArg some (arrV_new comp K (.int 0))
  · rw [State.heap_setCell_other (Nat.ne_of_gt hq), State.heap_pushCell_of_lt _ _ (show q < S.heap.size by omega)]; exact hold q hq
def kuF (T : State) (cA comp : ClassId) (N K : Nat) : Nat → State
  | 0 => T.pushCell { cls := cA, slots := Array.replicate N .null }
  | i + 1 => ((kuF T cA comp N K i).pushCell { cls := comp, slots := Array.replicate K (.int 0) }).setCell T.heap.size ((arrV cA N (fun j => if j < i then .ref (T.heap.size + 1 + j) else .null)).setSlot i (.ref (kuF T cA comp N K i).heap.size))
theorem kuF_In {T : State} {cA comp : ClassId} {N K : Nat} (X : Stand p l e R s m args below meth c T locs cells slots) : ∀ i, i ≤ N → ku_In p l e R s m args below meth c locs cells slots T.heap cA comp N K T.vm i (kuF T cA comp N K i)
  | 0, _ => ku_0 X
  | i + 1, hi => ku_S (by omega) (kuF_In X i (by omega))
theorem ku_make {T : State} {f : JFrame} {cA comp c0 : ClassId} {kA kC : Class} {n k : Int32} {N K : Nat} (X : Stand p l e R s m args below meth c T locs cells slots) (hkA : T.vm.classes[cA]? = some kA) (hkindA : kA.kind = .array comp (.array .int)) (hkC : T.vm.classes[comp]? = some kC) (hkindC : kC.kind = .array c0 .int)
    (hn : ¬ n < 0) (hk : ¬ k < 0) (hN : n.toNatClampNeg = N) (hK : k.toNatClampNeg = K) (hb1 : N * 4 ≤ 536870912) (hb2 : K * 4 ≤ 536870912) (hcells : cells + 1 + N ≤ R.cells) (hslots : slots + N + N * K ≤ R.slots)
    {Qp : Addr → Pre} (hq : ∀ (d' : Bool) (acts' : List Action), Qp T.heap.size d' acts' ((kuF T cA comp N K N).setTop f)) : wp (multianewarray.make cA [n, k]) Qp E e d acts (T.setTop f) := by
  have hlim := Launch.admits_arrayLengthLimit X.admits
  have hmax := Launch.admits_maxHeapBytes X.admits
  have hfind : ([k].find? (· < 0)) = none := by simp [hk]
  obtain ⟨hr1, hr2⟩ := X.roomAbove (a := 1) (b := N) (by omega) (by omega)
  rw [multianewarray.make]
  simp only [wp_bind', W.ite, hn, if_false, wp_pure', W.theClass, State.vm_setTop, hkA, hkindA, Option.some.injEq, exists_eq_left', hN]
  refine W.newArray_of (k := kA) (comp := comp) (type := .array .int) hkA hkindA (by rw [hlim]; omega) (by rw [hmax]; show ¬ N * 4 > 536870912; omega) (by show T.heap.size < _; omega) (by show T.slotsUsed + N ≤ _; omega) rfl (fun acts1 => ?_)
  simp only [hfind]
  rw [ite_self, wp_bind', Std.Legacy.Range.forIn_eq_forIn_range']
  have hsz : ([:N] : Std.Legacy.Range).size = N := by simp [Std.Legacy.Range.size]
  rw [hsz]
  show wp (forIn (List.range' 0 N 1) PUnit.unit _) _ E e d _ _
  refine wp_forIn_inv (fun rest S1 => ∃ i, i ≤ N ∧ rest = List.range' i (N - i) ∧ S1 = (kuF T cA comp N K i).setTop f) _ _ ⟨0, Nat.zero_le _, rfl, rfl⟩ ?_ ?_
  · rintro x rest S1 d1 acts2 Q1 ⟨i, hi, hl, rfl⟩ hnext
    have hlt : i < N := by
      rcases Nat.lt_or_ge i N with h | h
      · exact h
      · rw [show N - i = 0 by omega] at hl; cases hl
    have hl2 : x = i ∧ rest = List.range' (i + 1) (N - (i + 1)) := by
      rw [show N - i = (N - (i + 1)) + 1 by omega, List.range'_succ] at hl
      exact ⟨(List.cons.inj hl).1, (List.cons.inj hl).2⟩
    obtain ⟨rfl, hrest⟩ := hl2
    have hI := kuF_In (cA := cA) (comp := comp) (N := N) (K := K) X x (by omega)
    generalize hSe : kuF T cA comp N K x = S at hI
    obtain ⟨⟨L, X1, hL⟩, hvm, hsz1, hout, hin, hold⟩ := hI
    have hmul : x * K + K ≤ N * K := by
      have := Nat.mul_le_mul_right K (show x + 1 ≤ N by omega)
      rw [Nat.succ_mul] at this; exact this
    obtain ⟨hs1, hs2⟩ := X1.roomAbove (a := 1) (b := K) (by omega) (by omega)
    simp only [wp_bind']
    rw [multianewarray.make]
    simp only [wp_bind', W.ite, hk, if_false, wp_pure', W.theClass, State.vm_setTop, hvm, hkC, hkindC, Option.some.injEq, exists_eq_left', hK]
    refine W.newArray_of (k := kC) (comp := c0) (type := .int) (by show S.vm.classes[comp]? = some kC; rw [hvm]; exact hkC) hkindC (by rw [hlim]; omega) (by rw [hmax]; show ¬ K * 4 > 536870912; omega) (by show S.heap.size < _; omega) (by show S.slotsUsed + K ≤ _; omega) rfl (fun acts3 => ?_)
    have hlt0 : T.heap.size < S.heap.size := by omega
    simp only [wp_bind', W.writeLoc, wp_pure']
    refine ⟨arrV cA N (fun j => if j < x then .ref (T.heap.size + 1 + j) else .null), ?_, by show VmData.none ≠ .unknown; simp, by show x < (arrV _ _ _).slots.size; rw [arrV_size]; exact hlt, ?_, hnext _ _ _ ⟨x + 1, hlt, hrest, ?_⟩⟩
    · show (S.pushCell _).heap[T.heap.size]? = _
      rw [State.heap_pushCell_of_lt (h := hlt0)]; exact hout
    · simp [State.fitsSlot, State.slotType?, arrV, hvm, hkA, hkindA, fits]
    · rw [kuF, hSe]; rfl
  · rintro S1 d1 acts2 ⟨i, hi, hl, rfl⟩
    have hiN : i = N := by
      rcases Nat.lt_or_ge i N with h | h
      · rw [show N - i = (N - (i + 1)) + 1 by omega, List.range'_succ] at hl; cases hl
      · omega
    subst hiN
    simp only [wp_pure']
    exact hq d1 acts2
theorem ku_multi {cc : ByteArray} (hexec : p.tables.exec = Jvm.exec) (hb : c.code = cc) {own : String} {index : Nat} {g : JFrame} {rest : List Value} (hown : s.vm.findClass own = some m.cls) (hclink : (Cond.classLink own index ("[" ++ (FieldType.array .int).toString)).before args s = true)
    (hover : (Cond.arrayOver (.array .int)).before args s = true) (harr : (Cond.arrayClass .int).before args s = true) (hg : g.method = m) (hdg : decode cc g.pc = .ok (.multianewarray index 2, 4)) {n k : Int32} {N K : Nat} (hstack : g.stack = .int k :: .int n :: rest) (hn : ¬ n < 0) (hk : ¬ k < 0) (hN : n.toNatClampNeg = N) (hK : k.toNatClampNeg = K) (hb1 : N * 4 ≤ 536870912) (hb2 : K * 4 ≤ 536870912) (hcells : cells + 1 + N ≤ R.cells) (hslots : slots + N + N * K ≤ R.slots)
    (kk : ∀ (cA comp : ClassId) (H1 : Heap) (L : List Loc), s.vm.findClass ("[" ++ (FieldType.array .int).toString) = some cA → s.vm.findClass ("[" ++ FieldType.int.toString) = some comp → (∀ q ∈ L, q ∈ locs ∨ q.base = H.size) → H1.size = H.size + 1 + N → H1[H.size]? = some (arrV cA N (fun j => if j < N then .ref (H.size + 1 + j) else .null)) → (∀ j, j < N → H1[H.size + 1 + j]? = some (arrV comp K (fun _ => .int 0))) → (∀ q : Nat, q < H.size → H1[q]? = H[q]?) →
      W p l e R s m args below meth c H1 L (cells + 1 + N) (slots + N + N * K) Q { g with pc := g.pc + 4, stack := .ref H.size :: rest }) : W p l e R s m args below meth c H locs cells slots Q g := by
  intro T hT X
  subst hT; subst hb; subst hg
  have hpl : e.platform.magicAccessors = ({} : Platform).magicAccessors := by rw [X.admits.platform]
  obtain ⟨comp, cA, kA, hcomp, -, hkA, hkindA, hnameA⟩ := arrayOverA_spec hover
  obtain ⟨comp2, kC, c0, hcomp2, hkC, hkindC⟩ := Cond.arrayClass_spec harr
  have ecomp : comp2 = comp := Option.some.inj (hcomp2.symm.trans hcomp)
  subst ecomp
  obtain ⟨c1, hfc1, hcl⟩ := Cond.classLink_spec hown hclink e.platform hpl
  cases hnameA.symm.trans hfc1
  obtain ⟨hg1, hwarm1, -⟩ := State.classEntry (e := e) X.warmed hcl
  generalize T.vm.noted g.method.cls index (.cls cA) = vm1 at hg1 hwarm1
  obtain ⟨kA1, hkA1, heA⟩ := hwarm1.alike.2.2 _ _ hkA
  obtain ⟨kC1, hkC1, heC⟩ := hwarm1.alike.2.2 _ _ hkC
  have X1 := X.noted hwarm1
  have hI := kuF_In (cA := cA) (comp := comp2) (N := N) (K := K) X1 N (Nat.le_refl _)
  have hmk := fun (E : CtlPost) (d : Bool) (acts : List Action) (f : JFrame) (Qp : Addr → Pre) (h : ∀ (d' : Bool) (acts' : List Action), Qp (T.setVm vm1).heap.size d' acts' ((kuF (T.setVm vm1) cA comp2 N K N).setTop f)) => ku_make (E := E) (d := d) (acts := acts) (f := f) (Qp := Qp) (kA := kA1) (kC := kC1) (c0 := c0) X1 hkA1 (by rw [heA]; exact hkindA) hkC1 (by rw [heC]; exact hkindC) hn hk hN hK hb1 hb2 hcells hslots h
  generalize kuF (T.setVm vm1) cA comp2 N K N = S at hI hmk
  obtain ⟨⟨L, XS, hL⟩, hvm, hsz, hout, hin, hold⟩ := hI
  obtain ⟨t', a1, b1⟩ := kk cA comp2 S.heap L hnameA hcomp2 hL hsz hout hin hold S rfl XS
  refine ⟨t', ?_, b1⟩
  jvm_step X.here [hexec, hdg]
  simp only [multianewarray.sem, wp_bind', W.resolveClassAt_links (State.method?_setTop g X.here.top) hg1]
  rw [W.popN, if_neg (by decide)]
  refine ⟨g, State.topJava?_setTop' (s := T.setVm vm1) g X.here.top, [.int n, .int k], rest, rfl, hstack, ?_⟩
  simp only [List.mapM_cons, List.mapM_nil, wp_bind', wp_pure']
  have eS : ((T.setTop g).setVm vm1).setTop { g with stack := rest } = (T.setVm vm1).setTop { g with stack := rest } := by
    show ((T.setVm vm1).setTop g).setTop _ = _
    rw [State.setTop_setTop]
  rw [eS]
  refine hmk _ _ _ { g with stack := rest } _ (fun d' acts' => ?_)
  simp only [wp_bind', W.mark, W.pushRef, State.topJava?_setTop' _ XS.here.top, Option.some.injEq, exists_eq_left', State.setTop_setTop, State.heap_setTop]
  intro acts
  simp [jvm, XS.here.top]
  exact a1
end Multi
