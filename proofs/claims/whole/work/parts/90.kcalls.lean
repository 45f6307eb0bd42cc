/-! RULES of the world that grows: an array of arrays, calls, ends -/
def k_has (S : List k_S) : Nat → Bool := fun b => S.any (fun z => z.1 == b)
theorem k_has_mem {S : List k_S} {b : Nat} : k_has S b = true ↔ ∃ z ∈ S, z.1 = b := by unfold k_has; simp
def k_Pre (w : j_w) (M : j_M) (S : List k_S) (sz : Nat) (U : State) : Prop := U.heap.size = sz ∧ va_P w.1 j_cls (k_ws w M S) U.heap ∧ va_K w.1 j_cls (j_tys w) U ∧ (va_AO "DogJudge$Mood" U ∧ k_AA U ∧ k_NN U) ∧ va_D (fun _ => True) (k_ws w M S)
def k_Qc (w : j_w) (M : j_M) (S : List k_S) (M2 : j_M) (S2 : List k_S) (sz : Nat) : Array Value → State → Outcome → State → Prop := fun _ st o t =>
  (∃ al : Nat → Nat, o = .returned none ∧ (∀ b, k_has S b = true → al b = w.2.2 b) ∧ va_P w.1 j_cls (k_ws (w.1, w.2.1, al) M2 S2) t.heap ∧ va_D (va_A (k_ws w M S) sz) (k_ws (w.1, w.2.1, al) M2 S2)) ∧ va_F (va_A (k_ws w M S) sz) st t
/-- a constructor's contract -/
def k_Ct (d kc ks : Nat) (I : j_I) (vs : List Value) (S S2 : List k_S) (M M2 : j_M) : Prop :=
  ∀ (l : Launch) (w : j_w) (sz : Nat), Met l I.1 (j_words I) ({ frames := d, cells := kc, slots := ks, locals := 41 * d } : Room) (va_Pc (vs.map (j_e w)) (k_Pre w M S sz)) (k_Qc w M S M2 S2 sz) kc ks (va_A (k_ws w M S) sz)
def k_Fin (I : j_I) (kc ks : Nat) (S S2 : List k_S) (M M2 : j_M) (X : k_X) : Prop := match X with
  | ((p, l, e, R, s), (m, args, below, meth, c), ((A, (kc', ks'), Q), (g, f))) =>
    meth.sig.returnType = I.2.2.2 ∧ meth.locks = false ∧ f = k_has S ∧ kc' = kc ∧ ks' = ks ∧ A = va_A (k_ws g M S) s.heap.size ∧ Q = MQ below (k_Qc g M S M2 S2 s.heap.size) args s kc ks (va_A (k_ws g M S) s.heap.size)
theorem k_Fin.f {I : j_I} {kc ks : Nat} {S S2 : List k_S} {M M2 : j_M} {X : k_X} (h : k_Fin I kc ks S S2 M M2 X) (b : Nat) : k_f X b = k_has S b := by
  obtain ⟨⟨p, l, e, R, s⟩, ⟨m, args, below, meth, c⟩, ⟨⟨A, ⟨kc', ks'⟩, Q⟩, ⟨g, f⟩⟩⟩ := X
  obtain ⟨-, -, h1, -⟩ := h
  exact congrFun h1 b
theorem k_Fin.n {I : j_I} {kc ks : Nat} {S S2 : List k_S} {M M2 : j_M} {X : k_X} (h : k_Fin I kc ks S S2 M M2 X) : k_kc X = kc ∧ k_ks X = ks := by
  obtain ⟨⟨p, l, e, R, s⟩, ⟨m, args, below, meth, c⟩, ⟨⟨A, ⟨kc', ks'⟩, Q⟩, ⟨g, f⟩⟩⟩ := X
  obtain ⟨-, -, -, h1, h2, -⟩ := h
  exact ⟨h1, h2⟩
theorem k_met {d kc ks : Nat} {I : j_I} {vs : List Value} {S S2 : List k_S} {M M2 : j_M} (hpl : plainName I.1.cls = true) (hin : Cond.code I.1 I.2.1 I.2.2.1 I.2.2.2 ∈ j_tbl) (hlen : (j_ar vs).length ≤ I.2.2.1)
    (body : ∀ X : k_X, k_Fin I kc ks S S2 M M2 X → k_W d I X 0 (j_L0 I.2.2.1 vs) [] M S 0 0) : k_Ct d kc ks I vs S S2 M M2 := by
  intro l w sz
  refine Met.ofW (cc := I.2.1) (maxL := I.2.2.1) (ret := I.2.2.2) hpl rfl ?_
  intro p e s m args below meth c s₁ B hml hv
  obtain ⟨rfl, hsz, hP, hK, hAO, hD⟩ := hv
  subst hsz
  have hts := atoms_spec (ws := j_words I) B.pre
  have hown : s.vm.findClass I.1.cls = some m.cls := findClass_of_methodNamed B.named
  have hlen2 : (lg_sl (vs.map (j_e w))).length = (j_ar vs).length := by
    clear body hlen hts B
    clear hP
    induction vs with
    | nil => rfl
    | cons v r ih =>
      have ih' : (lg_sl (r.map (j_e w))).length = (j_ar r).length := ih
      simp only [List.map_cons, lg_sl, List.flatMap_cons, List.length_append, j_ar, j_e_cat]
      simp only [lg_sl] at ih'
      rw [ih']
      by_cases h : v.category = 2
      · simp [h]; omega
      · simp [h]; omega
  have hl := lv_entry (vs.map (j_e w)) (n := I.2.2.1) (by rw [hlen2]; exact hlen)
  rw [lg_entry_eq]
  generalize (lg_sl (vs.map (j_e w)) ++ List.replicate (I.2.2.1 - (lg_sl (vs.map (j_e w))).length) Slot.unset).toArray = ls at hl ⊢
  rw [j_ar_args, ← j_lv_app w (I.2.2.1 - (j_ar vs).length)] at hl
  exact body ((p, l, e, (headSpec (j_words I) ({ frames := d, cells := kc, slots := ks, locals := 41 * d } : Room)).room, s), (m, (vs.map (j_e w)).toArray, below, meth, c), ((va_A (k_ws w M S) s.heap.size, (kc, ks), MQ below (k_Qc w M S M2 S2 s.heap.size) (vs.map (j_e w)).toArray s kc ks (va_A (k_ws w M S) s.heap.size)), (w, k_has S)))
    ⟨B.returns, B.notSynchronized, rfl, rfl, rfl, rfl, rfl⟩
    ⟨B.exec, B.bytes, hml, hown, fun u hu => hts u (List.mem_cons_of_mem _ hu), hK, hAO, fun q hq => Or.inr hq, ⟨Nat.le_refl _, Nat.le_refl _, Nat.le_refl _, Nat.le_refl _⟩, fun h => (name_of_methodNamed B.named B.method).1.trans h⟩ w.2.2 (fun _ _ => rfl) s.heap [] ls hP (hD.self) va_S.rf hl
def k_nr (a N : Nat) : Nat → Bool := fun b => decide (b < a) || decide (a + N < b)
def k_rw (a N K : Nat) : List k_S := (a, 4, N, (List.range N).map (fun j => a + 1 + j + 2)) :: (List.range N).map (fun j => (a + 1 + j, 1, K, []))
theorem k_rw_at {a N K t : Nat} {x : k_S} (h : (k_rw a N K)[t]? = some x) : x.1 = a + t ∧ t ≤ N ∧ ((t = 0 ∧ x = (a, 4, N, (List.range N).map (fun j => a + 1 + j + 2))) ∨ (∃ j, t = j + 1 ∧ j < N ∧ x = (a + 1 + j, 1, K, []))) := by
  unfold k_rw at h
  rcases t with _ | t
  · rw [List.getElem?_cons_zero] at h
    cases h
    exact ⟨rfl, Nat.zero_le _, Or.inl ⟨rfl, rfl⟩⟩
  · rw [List.getElem?_cons_succ, List.getElem?_map] at h
    by_cases ht : t < N
    · rw [List.getElem?_range ht] at h
      cases h
      exact ⟨by show a + 1 + t = a + (t + 1); omega, by omega, Or.inr ⟨t, rfl, ht, rfl⟩⟩
    · rw [List.getElem?_eq_none (by simp; omega)] at h
      cases h
theorem arrV_c (cI : ClassId) {N : Nat} {f h : Nat → Value} (hh : ∀ j, j < N → f j = h j) : arrV cI N f = arrV cI N h := by
  unfold arrV
  congr 1
  apply Array.ext
  · simp
  · intro j h1 h2
    simp only [Array.getElem_ofFn]
    exact hh j (by simpa using h1)
section Kules3
variable {d : Nat} {I : j_I} {X : k_X} {pc : Nat} {L : List (Option Value)} {st : List Value} {M : j_M} {S : List k_S} {n k : Nat}
theorem kx_multi {a N K idx : Nat} {x y : Int32} {S' : List k_S} (hcl : Cond.classLink I.1.cls idx ("[" ++ (FieldType.array .int).toString) ∈ j_tbl) (harr : Cond.arrayClass .int ∈ j_tbl) (hd : decode I.2.1 pc = .ok (.multianewarray idx 2, 4)) (hx0 : ¬ x < 0) (hy0 : ¬ y < 0) (hN : x.toNatClampNeg = N) (hK : y.toNatClampNeg = K) (hb1 : N * 4 ≤ 536870912) (hb2 : K * 4 ≤ 536870912)
    (hz : ∀ j, j < N → M (a + 1 + j) = fun _ => 0) (hf : ∀ t, t < N + 1 → k_fr (a + t) S = true) (hst : st.all (k_nv (k_nr a N)) = true) (hL : L.all (k_nl (k_nr a N)) = true) (hfa : ∀ t, t < N + 1 → k_f X (a + t) = false) (hn : n + 1 + N ≤ k_kc X) (hk : k + N + N * K ≤ k_ks X) (hS' : S ++ k_rw a N K = S')
    (kk : k_W d I X (pc + 4) L (.ref a :: st) M S' (n + 1 + N) (k + N + N * K)) : k_W d I X pc L (.int y :: .int x :: st) M S n k := by
  obtain ⟨⟨p, l, e, R, s⟩, ⟨m, args, below, meth, c⟩, ⟨⟨A, ⟨kc, ks⟩, Q⟩, ⟨g, f⟩⟩⟩ := X
  intro hG al hal H locs ls hP hD hS hl
  obtain ⟨hx, hb, hml, hown, hts, hKK, hAO, hA, ⟨hfr, hlo, hkc, hks⟩, hnm⟩ := id hG
  subst hS'
  have hn2 : n + 1 + N ≤ kc := hn
  have hk2 : k + N + N * K ≤ ks := hk
  refine ku_multi hx hb hown (hts _ hcl) hAO.2.1 (hts _ harr) (g := F0 m pc ls (.int y :: .int x :: st.map (j_e (g.1, g.2.1, al)))) rfl hd rfl hx0 hy0 hN hK hb1 hb2 (by omega) (by omega) (fun cA comp H1 L1 f1 f2 hL1 z1 e1 e2 o1 => ?_)
  have hcA : cA = g.2.1 3 := Option.some.inj (f1.symm.trans (hKK.2 3 (g.2.1 3, .array .int) rfl).2)
  have hco : comp = g.2.1 0 := Option.some.inj (f2.symm.trans (hKK.2 0 (g.2.1 0, .int) rfl).2)
  subst hcA
  subst hco
  obtain ⟨al', hale⟩ : ∃ al' : Nat → Nat, al' = fun b => if a ≤ b ∧ b ≤ a + N then H.size + (b - a) else al b := ⟨_, rfl⟩
  have hin : ∀ t, t ≤ N → al' (a + t) = H.size + t := fun t ht => by rw [hale]; show (if _ then _ else _) = _; rw [if_pos ⟨by omega, by omega⟩]; omega
  have hout : ∀ b, (b < a ∨ a + N < b) → al' b = al b := fun b hb2 => by rw [hale]; exact if_neg (fun q => by omega)
  have hoff : ∀ b, (∀ t, t < N + 1 → b ≠ a + t) → al' b = al b := fun b hb2 => hout b (by
    rcases Nat.lt_or_ge b a with q | q
    · exact Or.inl q
    · rcases Nat.lt_or_ge (a + N) b with q2 | q2
      · exact Or.inr q2
      · exact absurd (show b = a + (b - a) by omega) (hb2 (b - a) (by omega)))
  have hold : k_ws (g.1, g.2.1, al') M S = k_ws (g.1, g.2.1, al) M S := k_ws_al (w := (g.1, g.2.1, al)) (fun y hy => ⟨hoff _ (fun t ht => (k_fr_at (hf t ht) hy).1), fun b hb2 => hoff _ (fun t ht q => (k_fr_at (hf t ht) hy).2 (by rw [← q]; exact hb2))⟩)
  have hsplit : k_ws (g.1, g.2.1, al') M (S ++ k_rw a N K) = k_ws (g.1, g.2.1, al) M S ++ k_ws (g.1, g.2.1, al') M (k_rw a N K) := by
    rw [← hold]
    unfold k_ws
    rw [List.map_append]
  have hnew : ∀ (t : Nat) (q : Nat × va_E), (k_ws (g.1, g.2.1, al') M (k_rw a N K))[t]? = some q → q.1 = H.size + t ∧ va_at g.1 j_cls q H1 := by
    intro t q hq
    obtain ⟨z, hz1, rfl⟩ := k_inv hq
    obtain ⟨g1, g2, g3⟩ := k_rw_at hz1
    have had : al' z.1 = H.size + t := by rw [g1]; exact hin t g2
    refine ⟨had, ?_⟩
    rcases g3 with ⟨ht, rfl⟩ | ⟨j, ht, hj, rfl⟩
    · subst ht
      show H1[al' a]? = some (vp_cell (g.2.1 3) (N, .inr (.inr (.inr (.inr (k_qf al' ((List.range N).map (fun j => a + 1 + j + 2))))))))
      rw [show al' a = H.size from had, e1, vp_cell_q]
      congr 1
      refine arrV_c _ (fun j hj => ?_)
      rw [if_pos hj]
      have hgd : ((List.range N).map (fun j => a + 1 + j + 2)).getD j 1 = a + 1 + j + 2 := by
        rw [List.getD_eq_getElem?_getD, List.getElem?_map, List.getElem?_range hj]; rfl
      unfold k_qf
      rw [hgd, if_pos (by omega), show a + 1 + j + 2 - 2 = a + (1 + j) by omega, hin (1 + j) (by omega)]
      show Value.ref (H.size + 1 + j) = Value.ref (H.size + (1 + j))
      rw [Nat.add_assoc]
    · subst ht
      show H1[al' (a + 1 + j)]? = some (vp_cell (g.2.1 0) (K, .inl (M (a + 1 + j))))
      rw [show al' (a + 1 + j) = H.size + (j + 1) from had, hz j hj, show H.size + (j + 1) = H.size + 1 + j by omega, e2 j hj]
      rfl
  have hP1 : va_P g.1 j_cls (k_ws (g.1, g.2.1, al') M (S ++ k_rw a N K)) H1 := by
    rw [hsplit]
    exact (hP.kept (fun k0 y hy => o1 y.1 ((hP k0 y hy).lt))).app (fun t q hq => (hnew t q hq).2)
  have hD1 : va_D A (k_ws (g.1, g.2.1, al') M (S ++ k_rw a N K)) := by
    rw [hsplit]
    refine va_D.app hD ⟨fun i j p q hi hj hpq => ?_, fun t q hq => hA _ (by rw [(hnew t q hq).1]; have := hS.1; omega)⟩ (fun i j p q hi hj hpq => ?_)
    · have h1 := (hnew i p hi).1
      have h2 := (hnew j q hj).1
      omega
    · have h1 := (hP i p hi).lt
      have h2 := (hnew j q hj).1
      omega
  have hS1 : va_S A s.heap H1 L1 := ⟨by rw [z1]; have := hS.1; omega, fun y h1 h2 => (o1 y (Nat.lt_of_lt_of_le h1 hS.1)).trans (hS.2.1 y h1 h2), fun q hq => by
    rcases hL1 q hq with h | h
    · exact hS.2.2 q h
    · rw [h]; exact hA _ hS.1⟩
  have hup : ∀ b, k_nr a N b = true → al' b = al b := fun b hb2 => hout b (by unfold k_nr at hb2; simpa using hb2)
  have h9 := kk hG al' (fun b hb2 => by rw [hoff b (fun t ht q => by rw [q] at hb2; exact absurd hb2 (by rw [show f (a + t) = false from hfa t ht]; decide))]; exact hal b hb2) H1 L1 ls hP1 hD1 hS1 (by rw [k_nv_lv (w := (g.1, g.2.1, al)) hup L 0 hL]; exact hl)
  rw [List.map_cons, k_nv_st (w := (g.1, g.2.1, al)) hup hst] at h9
  rw [show j_e (g.1, g.2.1, al') (.ref a) = .ref H.size from congrArg Value.ref (hin 0 (Nat.zero_le _))] at h9
  exact h9
theorem kx_ret {kc ks : Nat} {S0 : List k_S} {M0 : j_M} (hF : k_Fin I kc ks S0 S M0 M X) (hr : I.2.2.2 = none) (hd : decode I.2.1 pc = .ok (.return_, 1)) (hn : n = kc) (hk : k = ks) : k_W d I X pc L [] M S n k := by
  obtain ⟨⟨p, l, e, R, s⟩, ⟨m, args, below, meth, c⟩, ⟨⟨A, ⟨kc', ks'⟩, Q⟩, ⟨g, f⟩⟩⟩ := X
  intro hG al hal H locs ls hP hD hS hl
  obtain ⟨hx, hb, hml, hown, hts, hK, hAO, hA, -, hnm⟩ := id hG
  obtain ⟨hret, hlocks, rfl, rfl, rfl, rfl, rfl⟩ := hF
  subst hn
  subst hk
  exact W.vret hx hb (hret.trans hr) (fun t ht hW => ⟨⟨al, rfl, hal, by rw [ht]; exact hP, hD⟩, hS.F ht⟩) hS.2.2 hd hlocks
/-- behind a call -/
theorem k_behind {p : Program} {l : Launch} {e : Env} {R : Room} {s : State} {m : MethodId} {args : Array Value} {below : List Frame} {meth : Method} {c : Code} {H : Heap} {locs : List Loc} {Q : State → Prop} {g : j_w} {f : Nat → Bool} {al : Nat → Nat} {A : Nat → Prop} {ls : Array Slot} {st0 : List Value} {a : Array Value} {kc ks mc ms : Nat} {S2 : List k_S} {M2 : j_M}
    (hr : va_Run p l e R s m args below meth c H locs n k mc ms (F0 m pc ls st0) (st.map (j_e (g.1, g.2.1, al))) (k_Qc (g.1, g.2.1, al) M S M2 S2 H.size a) (va_A (k_ws (g.1, g.2.1, al) M S) H.size)) (hG : k_Good d I ((p, l, e, R, s), (m, args, below, meth, c), ((A, (kc, ks), Q), (g, f)))) (hal : ∀ b, f b = true → al b = g.2.2 b) (hD : va_D A (k_ws (g.1, g.2.1, al) M S)) (hS : va_S A s.heap H locs) (hl : lv_has ls I.2.2.1 (j_lv (g.1, g.2.1, al) 0 L))
    (hcl2 : k_cl S2 = true) (hst : st.all (k_nv (k_has S)) = true) (hL : L.all (k_nl (fun b => k_has S b || !k_has S2 b)) = true) (hfs : ∀ b, f b = true → k_has S2 b = true → k_has S b = true)
    (kk : k_W d I ((p, l, e, R, s), (m, args, below, meth, c), ((A, (kc, ks), Q), (g, f))) (pc + 3) L st M2 S2 (n + mc) (k + ms)) : W p l e R s m args below meth c H locs n k Q (F0 m pc ls st0) := by
  obtain ⟨hx, hb, hml, hown, hts, hK, hAO, hA, -, hnm⟩ := id hG
  intro T hT X
  obtain ⟨v, st₀, t, T', L', h0, X', hL', e1, e2, ⟨⟨al1, hv, hag, hp, hdd⟩, hz, hkp⟩, stp⟩ := hr T hT X
  have hv' : v = none := by cases hv; rfl
  subst hv'
  rw [h0] at hz hkp
  have hAA : ∀ q, va_A (k_ws (g.1, g.2.1, al) M S) H.size q → A q := fun q h => by
    rcases h with ⟨k0, e0, h⟩ | h
    · exact hD.2 k0 _ h
    · exact hA q (Nat.le_trans hS.1 h)
  obtain ⟨al2, hal2⟩ : ∃ al2 : Nat → Nat, al2 = fun b => if k_has S2 b = true then al1 b else al b := ⟨_, rfl⟩
  have hS2 : ∀ b, k_has S2 b = true → al2 b = al1 b := fun b h => by rw [hal2]; exact if_pos h
  have hS0 : ∀ b, k_has S b = true → al2 b = al b := fun b h => by
    rw [hal2]
    show (if _ then _ else _) = _
    split
    · exact hag b h
    · rfl
  have hS3 : ∀ b, (k_has S b || !k_has S2 b) = true → al2 b = al b := fun b h => by
    by_cases h0 : k_has S b = true
    · exact hS0 b h0
    · have h2 : ¬ k_has S2 b = true := by
        intro h2
        rw [h2, Bool.not_true, Bool.or_false] at h
        exact h0 h
      rw [hal2]
      exact if_neg h2
  have hws : k_ws (g.1, g.2.1, al2) M2 S2 = k_ws (g.1, g.2.1, al1) M2 S2 := k_ws_al (w := (g.1, g.2.1, al1)) (fun y hy => ⟨hS2 _ (k_has_mem.mpr ⟨y, hy, rfl⟩), fun b hb2 => hS2 b (k_has_mem.mpr (k_cl_at hcl2 hy hb2))⟩)
  have h9 := kk hG al2 (fun b hb2 => by
      by_cases h2 : k_has S2 b = true
      · rw [hS0 b (hfs b hb2 h2)]; exact hal b hb2
      · rw [hal2]; show (if _ then _ else _) = _; rw [if_neg h2]; exact hal b hb2) T'.heap (locs ++ L') ls (by rw [hws, e1]; exact hp) (by rw [hws]; exact hdd.weaken (fun _ q _ h => hAA q.1 h))
    ⟨Nat.le_trans hS.1 (by rw [e1]; exact hz), fun q h1 h2 => by rw [e1, hkp q (Nat.lt_of_lt_of_le h1 hS.1) (fun z => h2 (hAA q z))]; exact hS.2.1 q h1 h2, fun q hq => by
      rcases List.mem_append.mp hq with h | h
      · exact hS.2.2 q h
      · exact hAA _ (hL' q h)⟩ (by rw [k_nv_lv (w := (g.1, g.2.1, al)) hS3 L 0 hL]; exact hl)
  rw [k_nv_st (w := (g.1, g.2.1, al)) hS0 hst] at h9
  obtain ⟨t2, a1, b1⟩ := h9 T' rfl X'
  exact ⟨t2, stp t2 a1, b1⟩
theorem k_blind (w : j_w) (M : j_M) (S : List k_S) (sz : Nat) (vs : List Value) : FrameBlind (va_Pc vs (k_Pre w M S sz)) := by
  intro a U g mk q
  obtain ⟨q0, q1, qP, qK, ⟨qa, qb, qc⟩, qD⟩ := q
  exact ⟨q0, q1, qP, va_K.moved (u := U) (U := U.calling g mk a) (Vm.Alike.refl U.vm) qK, ⟨va_AO.moved (u := U) (U := U.calling g mk a) (Vm.Alike.refl U.vm) qa, k_AA.moved (u := U) (U := U.calling g mk a) (Vm.Alike.refl U.vm) qb, k_NN.same (U := U.calling g mk a) rfl qc⟩, qD⟩
theorem k_pre_at {w : j_w} {A : Nat → Prop} {s U : State} {H : Heap} {M : j_M} {S : List k_S} (hK : va_K w.1 j_cls (j_tys w) s) (hAO : va_AO "DogJudge$Mood" s ∧ k_AA s ∧ k_NN s) (hP : va_P w.1 j_cls (k_ws w M S) H) (hD : va_D A (k_ws w M S)) (hU : U.heap = H) (hW : s.WarmedH U.vm) : k_Pre w M S H.size U :=
  ⟨by rw [hU], by rw [hU]; exact hP, va_K.moved hW.alike hK, ⟨hAO.1.moved hW.alike, hAO.2.1.moved hW.alike, hAO.2.2.warm hW⟩, hD.weaken (fun _ _ _ _ => trivial)⟩
theorem kx_callI {y : j_I} {idx o d' kc' ks' np : Nat} {S2 : List k_S} {M2 : j_M} (as : List Value) (hcode : Cond.code y.1 y.2.1 y.2.2.1 y.2.2.2 ∈ j_tbl) (hret : y.2.2.2 = none) (hini : Cond.initialized y.1.cls ∈ j_tbl) (hinst : Cond.instanceMethod y.1 ∈ j_tbl) (hnm0 : y.1.name = "<init>") (hlk : Cond.methodLink I.1.cls idx y.1 ∈ j_tbl) (hde : y.1.cls ≠ "java/lang/invoke/MethodHandle" ∧ y.1.cls ≠ "java/lang/invoke/VarHandle" ∧ (parseMethodDescriptor y.1.desc).map (fun d => d.parameters.length) = some np) (hnp : as.length = np) (h22 : y.2.2.1 ≤ 22) (hd : decode I.2.1 pc = .ok (.invokespecial idx, 3)) (hdd : d' < d) (hst8 : (st.map fun v => v.category).sum ≤ 8)
    (hc : k_Ct d' kc' ks' y (.ref o :: as) S S2 M M2) (hcl2 : k_cl S2 = true) (hst : st.all (k_nv (k_has S)) = true) (hL : L.all (k_nl (fun b => k_has S b || !k_has S2 b)) = true) (hfs : ∀ b, k_f X b = true → k_has S2 b = true → k_has S b = true) (hn : n + kc' ≤ k_kc X) (hk : k + ks' ≤ k_ks X)
    (kk : k_W d I X (pc + 3) L st M2 S2 (n + kc') (k + ks')) : k_W d I X pc L (as.reverse ++ .ref o :: st) M S n k := by
  obtain ⟨⟨p, l, e, R, s⟩, ⟨m, args, below, meth, c⟩, ⟨⟨A, ⟨kc, ks⟩, Q⟩, ⟨g, f⟩⟩⟩ := X
  intro hG al hal H locs ls hP hD hS hl
  obtain ⟨hx, hb, hml, hown, hts, hK, hAO, hA, ⟨hfr, hlo, hkc, hks⟩, hnm⟩ := id hG
  have hn2 : n + kc' ≤ kc := hn
  have hk2 : k + ks' ≤ ks := hk
  subst hnp
  have hcode' : Cond.code y.1 y.2.1 y.2.2.1 none ∈ j_tbl := by rw [← hret]; exact hcode
  have hw : j_words y = Cond.code y.1 y.2.1 y.2.2.1 none :: j_tbl := by unfold j_words; rw [hret]
  refine k_behind (M := M) (S := S) (va_runI (As := as.map (j_e (g.1, g.2.1, al))) (b := al o) (rest := st.map (j_e (g.1, g.2.1, al))) ⟨hx, hb, hml, hown, hts⟩ (hc l (g.1, g.2.1, al) H.size) (cwI as.length hts (j_ws_good hcode) hw rfl rfl (hts _ hini) (hts _ hlk) (hts _ hinst) hnm0 hde ⟨by show d' + 1 ≤ _; omega, by show 8 + (y.2.2.1 + 11) + 41 * d' ≤ _; omega⟩) ⟨k_blind _ M S _ _, fun U hU hW => ⟨rfl, k_pre_at hK hAO hP hD hU hW⟩⟩ rfl (by simp) hl.1 (by simp [List.map_append, List.map_reverse, j_e]) (by show 2 * 0 + _ ≤ 8; rw [j_e_cats]; omega) hd ⟨by omega, by omega⟩) hG hal hD hS hl hcl2 hst hL hfs kk
theorem kx_callIN {y : j_I} {idx o d' kc' ks' np : Nat} {S2 : List k_S} {M2 : j_M} (as : List Value) (hcode : Cond.code y.1 y.2.1 y.2.2.1 y.2.2.2 ∈ j_tbl) (hret : y.2.2.2 = none) (hini : Cond.initialized y.1.cls ∈ j_tbl) (hinst : Cond.instanceMethod y.1 ∈ j_tbl) (hnm0 : y.1.name = "<init>") (hlk : ∀ s, k_NN s → va_Nw (.methodLinkNest I.1.cls idx y.1 "DogJudge") s) (hde : y.1.cls ≠ "java/lang/invoke/MethodHandle" ∧ y.1.cls ≠ "java/lang/invoke/VarHandle" ∧ (parseMethodDescriptor y.1.desc).map (fun d => d.parameters.length) = some np) (hnp : as.length = np) (h22 : y.2.2.1 ≤ 22) (hd : decode I.2.1 pc = .ok (.invokespecial idx, 3)) (hdd : d' < d) (hst8 : (st.map fun v => v.category).sum ≤ 8)
    (hc : k_Ct d' kc' ks' y (.ref o :: as) S S2 M M2) (hcl2 : k_cl S2 = true) (hst : st.all (k_nv (k_has S)) = true) (hL : L.all (k_nl (fun b => k_has S b || !k_has S2 b)) = true) (hfs : ∀ b, k_f X b = true → k_has S2 b = true → k_has S b = true) (hn : n + kc' ≤ k_kc X) (hk : k + ks' ≤ k_ks X)
    (kk : k_W d I X (pc + 3) L st M2 S2 (n + kc') (k + ks')) : k_W d I X pc L (as.reverse ++ .ref o :: st) M S n k := by
  obtain ⟨⟨p, l, e, R, s⟩, ⟨m, args, below, meth, c⟩, ⟨⟨A, ⟨kc, ks⟩, Q⟩, ⟨g, f⟩⟩⟩ := X
  intro hG al hal H locs ls hP hD hS hl
  obtain ⟨hx, hb, hml, hown, hts, hK, hAO, hA, ⟨hfr, hlo, hkc, hks⟩, hnm⟩ := id hG
  have hn2 : n + kc' ≤ kc := hn
  have hk2 : k + ks' ≤ ks := hk
  subst hnp
  have hcode' : Cond.code y.1 y.2.1 y.2.2.1 none ∈ j_tbl := by rw [← hret]; exact hcode
  have hw : j_words y = Cond.code y.1 y.2.1 y.2.2.1 none :: j_tbl := by unfold j_words; rw [hret]
  refine k_behind (M := M) (S := S) (va_runIN (As := as.map (j_e (g.1, g.2.1, al))) (b := al o) (rest := st.map (j_e (g.1, g.2.1, al))) ⟨hx, hb, hml, hown, hts⟩ (hc l (g.1, g.2.1, al) H.size) ⟨va_cnB as.length hts (j_ws_good hcode) hw rfl rfl (hlk s hAO.2.2) (hts _ hini) hde ⟨by show d' + 1 ≤ _; omega, by show 8 + (y.2.2.1 + 11) + 41 * d' ≤ _; omega⟩, hnm0, hts _ hinst⟩ ⟨k_blind _ M S _ _, fun U hU hW => ⟨rfl, k_pre_at hK hAO hP hD hU hW⟩⟩ rfl (by simp) hl.1 (by simp [List.map_append, List.map_reverse, j_e]) (by show 2 * 0 + _ ≤ 8; rw [j_e_cats]; omega) hd ⟨by omega, by omega⟩) hG hal hD hS hl hcl2 hst hL hfs kk
theorem kx_callV {y : j_I} {idx o d' kc' ks' i ci : Nat} {r : List Nat} {S2 : List k_S} {M2 : j_M} (hv : j_VO y 0) (hlk : Cond.methodLink I.1.cls idx y.1 ∈ j_tbl) (hd : decode I.2.1 pc = .ok (.invokevirtual idx, 3)) (hxx : S[i]? = some (o, 0, ci, r)) (hcl : (j_cls[ci]?).map (fun q => q.1) = some y.1.cls) (hdd : d' < d) (hst8 : (st.map fun v => v.category).sum ≤ 8)
    (hc : k_Ct d' kc' ks' y [.ref o] S S2 M M2) (hcl2 : k_cl S2 = true) (hst : st.all (k_nv (k_has S)) = true) (hL : L.all (k_nl (fun b => k_has S b || !k_has S2 b)) = true) (hfs : ∀ b, k_f X b = true → k_has S2 b = true → k_has S b = true) (hn : n + kc' ≤ k_kc X) (hk : k + ks' ≤ k_ks X)
    (kk : k_W d I X (pc + 3) L st M2 S2 (n + kc') (k + ks')) : k_W d I X pc L (.ref o :: st) M S n k := by
  obtain ⟨⟨p, l, e, R, s⟩, ⟨m, args, below, meth, c⟩, ⟨⟨A, ⟨kc, ks⟩, Q⟩, ⟨g, f⟩⟩⟩ := X
  intro hG al hal H locs ls hP hD hS hl
  obtain ⟨hx, hb, hml, hown, hts, hK, hAO, hA, ⟨hfr, hlo, hkc, hks⟩, hnm⟩ := id hG
  have hn2 : n + kc' ≤ kc := hn
  have hk2 : k + ks' ≤ ks := hk
  have he : (k_ws (g.1, g.2.1, al) M S)[i]? = some (al o, .inr (ci, k_fl al (M o) 0 r)) := k_at hxx
  obtain ⟨q, hq⟩ : ∃ q, j_cls[ci]? = some q := by
    cases h : j_cls[ci]? with
    | none => rw [h] at hcl; cases hcl
    | some q => exact ⟨q, rfl⟩
  have hqc : q.1 = y.1.cls := by rw [hq] at hcl; exact Option.some.inj hcl
  have hrec := va_recv hK hP hq he
  rw [hqc] at hrec
  refine k_behind (M := M) (S := S) (va_runV (As := []) (b := al o) (rest := st.map (j_e (g.1, g.2.1, al))) ⟨hx, hb, hml, hown, hts⟩ (hc l (g.1, g.2.1, al) H.size) (cwV 0 hts (j_ws_goodV hv hlk) rfl rfl rfl ⟨rfl, hv.2.2.2.2.1⟩ ⟨by show d' + 1 ≤ _; omega, by show 8 + (y.2.2.1 + 11) + 41 * d' ≤ _; have h22 := hv.2.2.2.2.2; omega⟩) ⟨k_blind _ M S _ _, hrec, fun U hU hW => ⟨rfl, k_pre_at hK hAO hP hD hU hW⟩⟩ rfl rfl hl.1 rfl (by show 2 * 0 + _ ≤ 8; rw [j_e_cats]; omega) hd ⟨by omega, by omega⟩) hG hal hD hS hl hcl2 hst hL hfs kk
end Kules3
