/-! RULES of the world that grows: what is new, fields, arrays -/
theorem k_app {w : j_w} {M : j_M} {S : List k_S} {a q : Nat} {x : k_S} {e : va_E} (hf : k_fr a S = true) (hx : x.1 = a) (he : k_ent (w.1, w.2.1, upN w.2.2 a q) M x = e) : k_ws w M S ++ [(q, e)] = k_ws (w.1, w.2.1, upN w.2.2 a q) M (S ++ [x]) := by
  have h := k_ws_al (w := w) (al' := upN w.2.2 a q) (M := M) (S := S) (fun y hy => ⟨by unfold upN; rw [if_neg (k_fr_at hf hy).1], fun b hb => by unfold upN; rw [if_neg (show ¬ b = a from fun z => (k_fr_at hf hy).2 (z ▸ hb))]⟩)
  rw [← h]
  unfold k_ws
  rw [List.map_append, List.map_cons, List.map_nil, he, hx]
  show _ ++ [(q, e)] = _ ++ [(upN w.2.2 a q a, e)]
  rw [upN_self]
def k_ne (a : Nat) : Nat → Bool := fun b => !(b == a)
theorem k_ne_up {al : Nat → Nat} {a q : Nat} : ∀ b, k_ne a b = true → upN al a q b = al b := fun b hb => by
  unfold upN
  unfold k_ne at hb
  rw [if_neg (by simpa using hb)]
theorem k_fl_0 {al : Nat → Nat} : ∀ (r : List Nat) (k : Nat), r.all (fun c => decide (c < 2)) = true → k_fl al (fun _ => 0) k r = k_fl (fun _ => 0) (fun _ => 0) k r := fun r k h =>
  k_fl_al (fun _ => 0) r k (fun b hb => by have := List.all_eq_true.mp h _ hb; simp at this; omega)
theorem k_qf_0 {al : Nat → Nat} {r : List Nat} (h : r.all (fun c => decide (c < 2)) = true) : k_qf al r = fun _ => none := by
  funext j
  unfold k_qf
  refine if_neg (fun h2 => ?_)
  rw [List.getD_eq_getElem?_getD] at h2
  cases hj : r[j]? with
  | none => rw [hj] at h2; simp at h2
  | some y =>
    rw [hj] at h2
    have := List.all_eq_true.mp h _ (List.mem_of_getElem? hj)
    simp at this h2
    omega
theorem k_qf_set {al : Nat → Nat} {r : List Nat} {j b : Nat} (hj : j < r.length) : va_up (k_qf al r) j (some (al b)) = k_qf al (r.set j (b + 2)) := by
  funext i
  unfold va_up k_qf
  rw [List.getD_eq_getElem?_getD, List.getD_eq_getElem?_getD, List.getElem?_set]
  by_cases hi : i = j
  · subst hi
    rw [if_pos rfl, if_pos rfl, if_pos hj]
    simp
  · rw [if_neg (show ¬ i = j from hi), if_neg (show ¬ j = i from fun q => hi q.symm)]
def k_PF (own : String) (idx ci k : Nat) : Prop := ∃ (C : String) (T : u_T) (N : Nat) (ty : Nat → FieldType), j_CF ci C T N ty ∧ k < N ∧ Cond.fieldLink own idx (T k).1 (T k).2.1 (T k).2.2.1 ∈ j_tbl ∧ (T k).2.2.2 = true ∧ (T k).1 = own ∧ ∀ x, narrow (ty k) (.ref x) = .ref x ∧ fits (ty k) (.ref x) = true
section Kules2
variable {d : Nat} {I : j_I} {X : k_X} {pc : Nat} {L : List (Option Value)} {st : List Value} {M : j_M} {S : List k_S} {n k : Nat}
theorem kx_obj {a idx : Nat} (hlk : Cond.methodLink I.1.cls idx objectInit ∈ j_tbl) (h1 : Cond.instanceMethod objectInit ∈ j_tbl) (h2 : Cond.code objectInit ⟨#[0xb1]⟩ 1 none ∈ j_tbl) (hd : decode I.2.1 pc = .ok (.invokespecial idx, 3)) (hdd : 1 ≤ d) (hst : (st.map fun v => v.category).sum ≤ 8) (kk : k_W d I X (pc + 3) L st M S n k) : k_W d I X pc L (.ref a :: st) M S n k := by
  obtain ⟨⟨p, l, e, R, s⟩, ⟨m, args, below, meth, c⟩, ⟨⟨A, ⟨kc, ks⟩, Q⟩, ⟨g, f⟩⟩⟩ := X
  intro hG al hal H locs ls hP hD hS hl
  obtain ⟨hx, hb, hml, hown, hts, hK, hAO, hA, ⟨hfr, hlo, hkc, hks⟩, hnm⟩ := id hG
  exact W.objInit hx hb hown (hts _ hlk) (hts _ h1) (hts _ h2) rfl (hl.1.trans hml.symm) rfl hd (by omega) (by show 2 * 0 + _ + 12 ≤ _; rw [j_e_cats]; omega) (kk hG al hal H locs ls hP hD hS hl)
theorem kx_new {idx ci N a : Nat} {C : String} {T : u_T} {ty : Nat → FieldType} {r : List Nat} {S' : List k_S} (cf : j_CF ci C T N ty) (hcl : Cond.classLink I.1.cls idx C ∈ j_tbl) (hin : Cond.instantiable C N ∈ j_tbl) (hini : Cond.initialized C ∈ j_tbl) (hd : decode I.2.1 pc = .ok (.new idx, 3)) (hr : ∀ j, j < N → defaultValue (ty j) = vp_V (k_fl (fun _ => 0) (fun _ => 0) 0 r) j) (hr2 : r.all (fun c => decide (c < 2)) = true) (hz : M a = fun _ => 0) (hf : k_fr a S = true) (hst : st.all (k_nv (k_ne a)) = true) (hL : L.all (k_nl (k_ne a)) = true) (hfa : k_f X a = false) (hn : n + 1 ≤ k_kc X) (hk : k + N ≤ k_ks X) (hS' : S ++ [(a, 0, ci, r)] = S')
    (kk : k_W d I X (pc + 3) L (.ref a :: st) M S' (n + 1) (k + N)) : k_W d I X pc L st M S n k := by
  obtain ⟨⟨p, l, e, R, s⟩, ⟨m, args, below, meth, c⟩, ⟨⟨A, ⟨kc, ks⟩, Q⟩, ⟨g, f⟩⟩⟩ := X
  intro hG al hal H locs ls hP hD hS hl
  obtain ⟨hx, hb, hml, hown, hts, hK, hAO, hA, ⟨hfr, hlo, hkc, hks⟩, hnm⟩ := id hG
  obtain ⟨hc, hinn, hty, hnames⟩ := cf
  subst hS'
  have hn2 : n + 1 ≤ kc := hn
  have hk2 : k + N ≤ ks := hk
  refine va_new (ci := ci) (fs := k_fl (fun _ => 0) (fun _ => 0) 0 r) hx hb hts hinn ty hty hown (hts _ hcl) (hts _ hin) (hts _ hini) hK hP hD hS hA hc hr (by omega) (by omega) hd (fun q H1 hP1 hD1 hS1 => ?_)
  have he : k_ent (g.1, g.2.1, upN al a q) M (a, 0, ci, r) = .inr (ci, k_fl (fun _ => 0) (fun _ => 0) 0 r) := by
    show Sum.inr (ci, k_fl (upN al a q) (M a) 0 r) = _
    rw [hz, k_fl_0 r 0 hr2]
  have hap := k_app (w := (g.1, g.2.1, al)) (q := q) (x := (a, 0, ci, r)) hf rfl he
  rw [hap] at hP1 hD1
  have hup : ∀ b, k_ne a b = true → upN al a q b = al b := k_ne_up
  have h9 := kk hG (upN al a q) (fun b hb2 => by rw [show upN al a q b = al b from if_neg (fun z => by rw [z] at hb2; exact absurd hb2 (by rw [show f a = false from hfa]; decide))]; exact hal b hb2) H1 locs ls hP1 hD1 hS1 (by rw [k_nv_lv (w := (g.1, g.2.1, al)) hup L 0 hL]; exact hl)
  rw [List.map_cons, k_nv_st (w := (g.1, g.2.1, al)) hup hst] at h9
  rw [show j_e (g.1, g.2.1, upN al a q) (.ref a) = .ref q from congrArg Value.ref upN_self] at h9
  exact h9
theorem kx_newI {a N : Nat} {x : Int32} {S' : List k_S} (harr : Cond.arrayClass .int ∈ j_tbl) (hd : decode I.2.1 pc = .ok (.newarray .int, 2)) (hx0 : ¬ x < 0) (hN : x.toNatClampNeg = N) (hby : N * 4 ≤ 536870912) (hz : M a = fun _ => 0) (hf : k_fr a S = true) (hst : st.all (k_nv (k_ne a)) = true) (hL : L.all (k_nl (k_ne a)) = true) (hfa : k_f X a = false) (hn : n + 1 ≤ k_kc X) (hk : k + N ≤ k_ks X) (hS' : S ++ [(a, 1, N, [])] = S')
    (kk : k_W d I X (pc + 2) L (.ref a :: st) M S' (n + 1) (k + N)) : k_W d I X pc L (.int x :: st) M S n k := by
  obtain ⟨⟨p, l, e, R, s⟩, ⟨m, args, below, meth, c⟩, ⟨⟨A, ⟨kc, ks⟩, Q⟩, ⟨g, f⟩⟩⟩ := X
  intro hG al hal H locs ls hP hD hS hl
  obtain ⟨hx, hb, hml, hown, hts, hK, hAO, hA, ⟨hfr, hlo, hkc, hks⟩, hnm⟩ := id hG
  subst hS'
  have hn2 : n + 1 ≤ kc := hn
  have hk2 : k + N ≤ ks := hk
  refine va_newa (a0 := (N, .inl (fun _ => 0))) hx hb (atype := .int) (ty := .int) (hts _ harr) rfl hK hP hD hS hA (fun _ => rfl) hx0 hN (by show N * 4 ≤ _; omega) (by omega) (by omega) hd (fun q cA H1 hK1 hP1 hD1 hS1 => ?_)
  have hcA : cA = g.2.1 0 := Option.some.inj ((hK1.2 4 (cA, .int) rfl).2.symm.trans (hK.2 0 (g.2.1 0, .int) rfl).2)
  subst hcA
  have he : k_ent (g.1, g.2.1, upN al a q) M (a, 1, N, []) = .inl (g.2.1 0, N, .inl (fun _ => 0)) := by
    show Sum.inl (g.2.1 0, N, Sum.inl (M a)) = _
    rw [hz]
  have hap := k_app (w := (g.1, g.2.1, al)) (q := q) (x := (a, 1, N, [])) hf rfl he
  rw [hap] at hP1 hD1
  have hup : ∀ b, k_ne a b = true → upN al a q b = al b := k_ne_up
  have h9 := kk hG (upN al a q) (fun b hb2 => by rw [show upN al a q b = al b from if_neg (fun z => by rw [z] at hb2; exact absurd hb2 (by rw [show f a = false from hfa]; decide))]; exact hal b hb2) H1 locs ls hP1 hD1 hS1 (by rw [k_nv_lv (w := (g.1, g.2.1, al)) hup L 0 hL]; exact hl)
  rw [List.map_cons, k_nv_st (w := (g.1, g.2.1, al)) hup hst] at h9
  rw [show j_e (g.1, g.2.1, upN al a q) (.ref a) = .ref q from congrArg Value.ref upN_self] at h9
  exact h9
theorem kx_newZ {a N : Nat} {x : Int32} {S' : List k_S} (harr : Cond.arrayClass .boolean ∈ j_tbl) (hd : decode I.2.1 pc = .ok (.newarray .boolean, 2)) (hx0 : ¬ x < 0) (hN : x.toNatClampNeg = N) (hby : N * 4 ≤ 536870912) (hz : M a = fun _ => 0) (hf : k_fr a S = true) (hst : st.all (k_nv (k_ne a)) = true) (hL : L.all (k_nl (k_ne a)) = true) (hfa : k_f X a = false) (hn : n + 1 ≤ k_kc X) (hk : k + N ≤ k_ks X) (hS' : S ++ [(a, 2, N, [])] = S')
    (kk : k_W d I X (pc + 2) L (.ref a :: st) M S' (n + 1) (k + N)) : k_W d I X pc L (.int x :: st) M S n k := by
  obtain ⟨⟨p, l, e, R, s⟩, ⟨m, args, below, meth, c⟩, ⟨⟨A, ⟨kc, ks⟩, Q⟩, ⟨g, f⟩⟩⟩ := X
  intro hG al hal H locs ls hP hD hS hl
  obtain ⟨hx, hb, hml, hown, hts, hK, hAO, hA, ⟨hfr, hlo, hkc, hks⟩, hnm⟩ := id hG
  subst hS'
  have hn2 : n + 1 ≤ kc := hn
  have hk2 : k + N ≤ ks := hk
  refine va_newa (a0 := (N, .inl (fun _ => 0))) hx hb (atype := .boolean) (ty := .boolean) (hts _ harr) rfl hK hP hD hS hA (fun _ => rfl) hx0 hN (by show N * 1 ≤ _; omega) (by omega) (by omega) hd (fun q cA H1 hK1 hP1 hD1 hS1 => ?_)
  have hcA : cA = g.2.1 1 := Option.some.inj ((hK1.2 4 (cA, .boolean) rfl).2.symm.trans (hK.2 1 (g.2.1 1, .boolean) rfl).2)
  subst hcA
  have he : k_ent (g.1, g.2.1, upN al a q) M (a, 2, N, []) = .inl (g.2.1 1, N, .inl (fun _ => 0)) := by
    show Sum.inl (g.2.1 1, N, Sum.inl (M a)) = _
    rw [hz]
  have hap := k_app (w := (g.1, g.2.1, al)) (q := q) (x := (a, 2, N, [])) hf rfl he
  rw [hap] at hP1 hD1
  have hup : ∀ b, k_ne a b = true → upN al a q b = al b := k_ne_up
  have h9 := kk hG (upN al a q) (fun b hb2 => by rw [show upN al a q b = al b from if_neg (fun z => by rw [z] at hb2; exact absurd hb2 (by rw [show f a = false from hfa]; decide))]; exact hal b hb2) H1 locs ls hP1 hD1 hS1 (by rw [k_nv_lv (w := (g.1, g.2.1, al)) hup L 0 hL]; exact hl)
  rw [List.map_cons, k_nv_st (w := (g.1, g.2.1, al)) hup hst] at h9
  rw [show j_e (g.1, g.2.1, upN al a q) (.ref a) = .ref q from congrArg Value.ref upN_self] at h9
  exact h9
theorem kx_newM {a N idx : Nat} {x : Int32} {r : List Nat} {S' : List k_S} (hcl : Cond.classLink I.1.cls idx "DogJudge$Mood" ∈ j_tbl) (hd : decode I.2.1 pc = .ok (.anewarray idx, 3)) (hx0 : ¬ x < 0) (hN : x.toNatClampNeg = N) (hby : N * 4 ≤ 536870912) (hr2 : r.all (fun c => decide (c < 2)) = true) (hf : k_fr a S = true) (hst : st.all (k_nv (k_ne a)) = true) (hL : L.all (k_nl (k_ne a)) = true) (hfa : k_f X a = false) (hn : n + 1 ≤ k_kc X) (hk : k + N ≤ k_ks X) (hS' : S ++ [(a, 3, N, r)] = S')
    (kk : k_W d I X (pc + 3) L (.ref a :: st) M S' (n + 1) (k + N)) : k_W d I X pc L (.int x :: st) M S n k := by
  obtain ⟨⟨p, l, e, R, s⟩, ⟨m, args, below, meth, c⟩, ⟨⟨A, ⟨kc, ks⟩, Q⟩, ⟨g, f⟩⟩⟩ := X
  intro hG al hal H locs ls hP hD hS hl
  obtain ⟨hx, hb, hml, hown, hts, hK, hAO, hA, ⟨hfr, hlo, hkc, hks⟩, hnm⟩ := id hG
  subst hS'
  have hn2 : n + 1 ≤ kc := hn
  have hk2 : k + N ≤ ks := hk
  refine va_newq hx hb hown (hts _ hcl) hAO.1 hK hP hD hS hA hx0 hN hby (by omega) (by omega) hd (fun q cA H1 hK1 hP1 hD1 hS1 => ?_)
  have hcA : cA = g.2.1 2 := by
    obtain ⟨_, _, -, -, -, h4⟩ := (hK1.2 4 (cA, .object "DogJudge$Mood") rfl).2
    obtain ⟨_, _, -, -, -, h5⟩ := (hK.2 2 (g.2.1 2, .object "DogJudge$Mood") rfl).2
    exact Option.some.inj (h4.symm.trans h5)
  subst hcA
  have he : k_ent (g.1, g.2.1, upN al a q) M (a, 3, N, r) = .inl (g.2.1 2, N, .inr (.inr (.inr (.inr (fun _ => none))))) := by
    show Sum.inl (g.2.1 2, N, Sum.inr (Sum.inr (Sum.inr (Sum.inr (k_qf (upN al a q) r))))) = _
    rw [k_qf_0 hr2]
  have hap := k_app (w := (g.1, g.2.1, al)) (q := q) (x := (a, 3, N, r)) hf rfl he
  rw [hap] at hP1 hD1
  have hup : ∀ b, k_ne a b = true → upN al a q b = al b := k_ne_up
  have h9 := kk hG (upN al a q) (fun b hb2 => by rw [show upN al a q b = al b from if_neg (fun z => by rw [z] at hb2; exact absurd hb2 (by rw [show f a = false from hfa]; decide))]; exact hal b hb2) H1 locs ls hP1 hD1 hS1 (by rw [k_nv_lv (w := (g.1, g.2.1, al)) hup L 0 hL]; exact hl)
  rw [List.map_cons, k_nv_st (w := (g.1, g.2.1, al)) hup hst] at h9
  rw [show j_e (g.1, g.2.1, upN al a q) (.ref a) = .ref q from congrArg Value.ref upN_self] at h9
  exact h9
theorem kx_newA {a N idx : Nat} {x : Int32} {r : List Nat} {S' : List k_S} (hcl : Cond.classLink I.1.cls idx (FieldType.array .int).toString ∈ j_tbl) (hd : decode I.2.1 pc = .ok (.anewarray idx, 3)) (hx0 : ¬ x < 0) (hN : x.toNatClampNeg = N) (hby : N * 4 ≤ 536870912) (hr2 : r.all (fun c => decide (c < 2)) = true) (hf : k_fr a S = true) (hst : st.all (k_nv (k_ne a)) = true) (hL : L.all (k_nl (k_ne a)) = true) (hfa : k_f X a = false) (hn : n + 1 ≤ k_kc X) (hk : k + N ≤ k_ks X) (hS' : S ++ [(a, 4, N, r)] = S')
    (kk : k_W d I X (pc + 3) L (.ref a :: st) M S' (n + 1) (k + N)) : k_W d I X pc L (.int x :: st) M S n k := by
  obtain ⟨⟨p, l, e, R, s⟩, ⟨m, args, below, meth, c⟩, ⟨⟨A, ⟨kc, ks⟩, Q⟩, ⟨g, f⟩⟩⟩ := X
  intro hG al hal H locs ls hP hD hS hl
  obtain ⟨hx, hb, hml, hown, hts, hK, hAO, hA, ⟨hfr, hlo, hkc, hks⟩, hnm⟩ := id hG
  subst hS'
  subst hN
  have hn2 : n + 1 ≤ kc := hn
  have hk2 : k + x.toNatClampNeg ≤ ks := hk
  refine W.anewA hx hb (t := .int) hown (hts _ hcl) hAO.2.1 rfl hd rfl hx0 hby (by omega) (by omega) (fun cA kA comp f1 f2 f3 f4 => ?_)
  have hcA : cA = g.2.1 3 := Option.some.inj (f1.symm.trans (hK.2 3 (g.2.1 3, .array .int) rfl).2)
  subst hcA
  generalize hH1 : H.push ({ cls := g.2.1 3, slots := Array.replicate x.toNatClampNeg .null, vm := .none } : Cell) = H1
  have z1 : H1.size = H.size + 1 := by rw [← hH1, Array.size_push]
  have e1 : H1[H.size]? = some (arrV (g.2.1 3) x.toNatClampNeg (fun _ => .null)) := by rw [← hH1, Array.getElem?_push_size, ← arrV_new]
  have o1 : ∀ q : Nat, q < H.size → H1[q]? = H[q]? := fun q hq => by rw [← hH1, Array.getElem?_push, if_neg (Nat.ne_of_lt hq)]
  have he : k_ent (g.1, g.2.1, upN al a H.size) M (a, 4, x.toNatClampNeg, r) = .inl (g.2.1 3, x.toNatClampNeg, .inr (.inr (.inr (.inr (fun _ => none))))) := by
    show Sum.inl (g.2.1 3, x.toNatClampNeg, Sum.inr (Sum.inr (Sum.inr (Sum.inr (k_qf (upN al a H.size) r))))) = _
    rw [k_qf_0 hr2]
  have hP1 : va_P g.1 j_cls (k_ws (g.1, g.2.1, al) M S ++ [(H.size, .inl (g.2.1 3, x.toNatClampNeg, .inr (.inr (.inr (.inr (fun _ => none))))))]) H1 := (hP.kept (fun k0 y hy => o1 y.1 ((hP k0 y hy).lt))).app (fun k0 y hy => by
    have hz : k0 < 1 := (List.getElem?_eq_some_iff.mp hy).1
    rw [show k0 = 0 by omega] at hy
    cases hy
    exact e1)
  have hD1 : va_D A (k_ws (g.1, g.2.1, al) M S ++ [(H.size, .inl (g.2.1 3, x.toNatClampNeg, .inr (.inr (.inr (.inr (fun _ => none))))))]) := hD.push hP rfl (hA _ hS.1)
  have hS1 : va_S A s.heap H1 locs := ⟨Nat.le_trans hS.1 (by omega), fun y h1 h2 => (o1 y (Nat.lt_of_lt_of_le h1 hS.1)).trans (hS.2.1 y h1 h2), hS.2.2⟩
  have hap := k_app (w := (g.1, g.2.1, al)) (q := H.size) (x := (a, 4, x.toNatClampNeg, r)) hf rfl he
  rw [hap] at hP1 hD1
  have hup : ∀ b, k_ne a b = true → upN al a H.size b = al b := k_ne_up
  have h9 := kk hG (upN al a H.size) (fun b hb2 => by rw [show upN al a H.size b = al b from if_neg (fun z => by rw [z] at hb2; exact absurd hb2 (by rw [show f a = false from hfa]; decide))]; exact hal b hb2) H1 locs ls hP1 hD1 hS1 (by rw [k_nv_lv (w := (g.1, g.2.1, al)) hup L 0 hL]; exact hl)
  rw [List.map_cons, k_nv_st (w := (g.1, g.2.1, al)) hup hst] at h9
  rw [show j_e (g.1, g.2.1, upN al a H.size) (.ref a) = .ref H.size from congrArg Value.ref upN_self] at h9
  exact h9
-- fields
theorem kx_putR {idx ci kf a b i : Nat} {r : List Nat} {S' : List k_S} (gf : k_PF I.1.cls idx ci kf) (hin : I.1.name = "<init>") (hd : decode I.2.1 pc = .ok (.putfield idx, 3)) (hxx : S[i]? = some (a, 0, ci, r)) (hlen : kf < r.length) (hS' : S.set i (a, 0, ci, r.set kf (b + 2)) = S') (kk : k_W d I X (pc + 3) L st M S' n k) : k_W d I X pc L (.ref b :: .ref a :: st) M S n k := by
  obtain ⟨⟨p, l, e, R, s⟩, ⟨m, args, below, meth, c⟩, ⟨⟨A, ⟨kc, ks⟩, Q⟩, ⟨g, f⟩⟩⟩ := X
  intro hG al hal H locs ls hP hD hS hl
  obtain ⟨hx, hb, hml, hown, hts, hK, hAO, hA, ⟨hfr, hlo, hkc, hks⟩, hnm⟩ := id hG
  obtain ⟨C, T, N, ty, ⟨hc, hinn, hty, hnames⟩, hkN, hl2, hfin, hdecl, hnf⟩ := gf
  subst hS'
  have he : (k_ws (g.1, g.2.1, al) M S)[i]? = some (al a, .inr (ci, k_fl al (M a) 0 r)) := k_at hxx
  refine va_putF (D := g.1) (ci := ci) (v := .ref (al b)) (ty := ty kf) hx hb hts hinn ty hty hnames hown hK hP hD hS i he hc kf hkN (hts _ hl2) (fun _ h => h) hfin (hnm hin) hdecl (hty kf hkN) (hnf _).1 (hnf _).2 (by rw [k_fl_len]; exact hlen) hd (fun H1 locs1 hP1 hD1 hS1 => ?_)
  rw [k_fl_setR] at hP1 hD1
  have hset := k_set1 (w := (g.1, g.2.1, al)) (M := M) (S := S) (i := i) (x := (a, 0, ci, r)) (y := (a, 0, ci, r.set kf (b + 2))) (e := .inr (ci, k_fl al (M a) 0 (r.set kf (b + 2)))) rfl rfl
  rw [hset] at hP1 hD1
  exact kk hG al hal H1 locs1 ls hP1 hD1 hS1 hl
theorem kx_putT {idx ci kf a i : Nat} {t : FieldType} {x : Int32} {r : List Nat} {M' : j_M} (gf : j_PF I.1.cls idx ci kf t) (hn1 : narrow t (.int x) = .int x) (hfit : fits t (.int x) = true) (hd : decode I.2.1 pc = .ok (.putfield idx, 3)) (hxx : S[i]? = some (a, 0, ci, r)) (hr : r[kf]? = some 0) (hM' : j_set M a kf x = M') (kk : k_W d I X (pc + 3) L st M' S n k) : k_W d I X pc L (.int x :: .ref a :: st) M S n k := by
  obtain ⟨⟨p, l, e, R, s⟩, ⟨m, args, below, meth, c⟩, ⟨⟨A, ⟨kc, ks⟩, Q⟩, ⟨g, f⟩⟩⟩ := X
  intro hG al hal H locs ls hP hD hS hl
  obtain ⟨hx, hb, hml, hown, hts, hK, hAO, hA, ⟨hfr, hlo, hkc, hks⟩, hnm⟩ := id hG
  obtain ⟨C, T, N, ty, ⟨hc, hinn, hty, hnames⟩, hkN, hl2, hfin, htk⟩ := gf
  subst hM'
  have he : (k_ws (g.1, g.2.1, al) M S)[i]? = some (al a, .inr (ci, k_fl al (M a) 0 r)) := k_at hxx
  refine va_put (D := g.1) (ci := ci) (v := .int x) (ty := t) hx hb hts hinn ty hty hnames hown hK hP hD hS i he hc kf hkN (hts _ hl2) (fun _ h => h) hfin (by rw [hty kf hkN, htk]) hn1 hfit (by rw [k_fl_len]; exact (List.getElem?_eq_some_iff.mp hr).1) hd (fun H1 locs1 hP1 hD1 hS1 => ?_)
  have hfs := k_fl_setI al (M a) x r 0 kf hr
  rw [Nat.zero_add] at hfs
  rw [hfs] at hP1 hD1
  have hset := k_setM (M' := j_set M a kf x) (e := .inr (ci, k_fl al (upd (M a) kf x) 0 r)) hD hxx (by show Sum.inr (ci, k_fl al (j_set M a kf x a) 0 r) = _; rw [j_set_s]) (fun b hb => j_set_n M kf x hb)
  rw [show ((g.1, g.2.1, al) : j_w).2.2 (a, 0, ci, r).1 = al a from rfl] at hset
  rw [hset] at hP1 hD1
  exact kk hG al hal H1 locs1 ls hP1 hD1 hS1 hl
theorem kx_getR {idx ci kf a b i : Nat} {r : List Nat} (gf : j_GF I.1.cls idx ci kf) (hd : decode I.2.1 pc = .ok (.getfield idx, 3)) (hxx : S[i]? = some (a, 0, ci, r)) (hr : r[kf]? = some (b + 2)) (kk : k_W d I X (pc + 3) L (.ref b :: st) M S n k) : k_W d I X pc L (.ref a :: st) M S n k := by
  obtain ⟨⟨p, l, e, R, s⟩, ⟨m, args, below, meth, c⟩, ⟨⟨A, ⟨kc, ks⟩, Q⟩, ⟨g, f⟩⟩⟩ := X
  intro hG al hal H locs ls hP hD hS hl
  obtain ⟨hx, hb, hml, hown, hts, hK, hAO, hA, ⟨hfr, hlo, hkc, hks⟩, hnm⟩ := id hG
  obtain ⟨C, T, N, ty, ⟨hc, hinn, -, -⟩, hkN, hl2⟩ := gf
  have he : (k_ws (g.1, g.2.1, al) M S)[i]? = some (al a, .inr (ci, k_fl al (M a) 0 r)) := k_at hxx
  exact va_get (D := g.1) (ci := ci) (v := .ref (al b)) hx hb hts hinn hown hK hP i he hc kf hkN (hts _ hl2) (fun _ h => h) (k_fl_get al (M a) r 0 kf hr) hd (kk hG al hal H locs ls hP hD hS hl)
-- arrays
theorem kx_iast {a i N : Nat} {j x : Int32} {M' : j_M} (hd : decode I.2.1 pc = .ok (.iastore, 1)) (hxx : S[i]? = some (a, 1, N, [])) (hj : vp_in j N) (hM' : j_set M a j.toNatClampNeg x = M') (kk : k_W d I X (pc + 1) L st M' S n k) : k_W d I X pc L (.int x :: .int j :: .ref a :: st) M S n k := by
  obtain ⟨⟨p, l, e, R, s⟩, ⟨m, args, below, meth, c⟩, ⟨⟨A, ⟨kc, ks⟩, Q⟩, ⟨g, f⟩⟩⟩ := X
  intro hG al hal H locs ls hP hD hS hl
  obtain ⟨hx, hb, hml, hown, hts, hK, hAO, hA, ⟨hfr, hlo, hkc, hks⟩, hnm⟩ := id hG
  subst hM'
  have he : (k_ws (g.1, g.2.1, al) M S)[i]? = some (al a, .inl (g.2.1 0, N, .inl (M a))) := k_at hxx
  refine va_iast hx hb hK hP hD hS i 0 he rfl hj hd (fun H1 locs1 hP1 hD1 hS1 => ?_)
  have hset := k_setM (M' := j_set M a j.toNatClampNeg x) (e := .inl (g.2.1 0, N, .inl (upd (M a) j.toNatClampNeg x))) hD hxx (by show Sum.inl (g.2.1 0, N, Sum.inl (j_set M a j.toNatClampNeg x a)) = _; rw [j_set_s]) (fun b hb => j_set_n M _ x hb)
  rw [show ((g.1, g.2.1, al) : j_w).2.2 (a, 1, N, ([] : List Nat)).1 = al a from rfl] at hset
  rw [hset] at hP1 hD1
  exact kk hG al hal H1 locs1 ls hP1 hD1 hS1 hl
theorem kx_alen {a i N : Nat} {r : List Nat} {v : Int32} (hd : decode I.2.1 pc = .ok (.arraylength, 1)) (hxx : S[i]? = some (a, 3, N, r)) (hv : Int32.ofNat N = v) (kk : k_W d I X (pc + 1) L (.int v :: st) M S n k) : k_W d I X pc L (.ref a :: st) M S n k := by
  obtain ⟨⟨p, l, e, R, s⟩, ⟨m, args, below, meth, c⟩, ⟨⟨A, ⟨kc, ks⟩, Q⟩, ⟨g, f⟩⟩⟩ := X
  intro hG al hal H locs ls hP hD hS hl
  obtain ⟨hx, hb, hml, hown, hts, hK, hAO, hA, ⟨hfr, hlo, hkc, hks⟩, hnm⟩ := id hG
  have he : (k_ws (g.1, g.2.1, al) M S)[i]? = some (al a, .inl (g.2.1 2, N, .inr (.inr (.inr (.inr (k_qf al r)))))) := k_at hxx
  exact va_alen hx hb hK hP i 2 he (ty := .object "DogJudge$Mood") rfl hv hd (kk hG al hal H locs ls hP hD hS hl)
theorem kx_aastM {a b i ib N : Nat} {j : Int32} {r rb : List Nat} {S' : List k_S} (hd : decode I.2.1 pc = .ok (.aastore, 1)) (hxx : S[i]? = some (a, 3, N, r)) (hyy : S[ib]? = some (b, 0, 4, rb)) (hj : vp_in j N) (hjl : j.toNatClampNeg < r.length) (hS' : S.set i (a, 3, N, r.set j.toNatClampNeg (b + 2)) = S') (kk : k_W d I X (pc + 1) L st M S' n k) : k_W d I X pc L (.ref b :: .int j :: .ref a :: st) M S n k := by
  obtain ⟨⟨p, l, e, R, s⟩, ⟨m, args, below, meth, c⟩, ⟨⟨A, ⟨kc, ks⟩, Q⟩, ⟨g, f⟩⟩⟩ := X
  intro hG al hal H locs ls hP hD hS hl
  obtain ⟨hx, hb, hml, hown, hts, hK, hAO, hA, ⟨hfr, hlo, hkc, hks⟩, hnm⟩ := id hG
  subst hS'
  have he : (k_ws (g.1, g.2.1, al) M S)[i]? = some (al a, .inl (g.2.1 2, N, .inr (.inr (.inr (.inr (k_qf al r)))))) := k_at hxx
  have hv : (k_ws (g.1, g.2.1, al) M S)[ib]? = some (al b, .inr (4, k_fl al (M b) 0 rb)) := k_at hyy
  refine va_astq (r := (R_Mo, F_Mo, 7)) hx hb hK hP hD hS i 2 ib 4 he rfl hv rfl hj hd (fun H1 locs1 hP1 hD1 hS1 => ?_)
  rw [k_qf_set hjl] at hP1 hD1
  have hset := k_set1 (w := (g.1, g.2.1, al)) (M := M) (S := S) (i := i) (x := (a, 3, N, r)) (y := (a, 3, N, r.set j.toNatClampNeg (b + 2))) (e := .inl (g.2.1 2, N, .inr (.inr (.inr (.inr (k_qf al (r.set j.toNatClampNeg (b + 2)))))))) rfl rfl
  rw [hset] at hP1 hD1
  exact kk hG al hal H1 locs1 ls hP1 hD1 hS1 hl
theorem kx_aastA {a b i ib N K : Nat} {j : Int32} {r : List Nat} {S' : List k_S} (hd : decode I.2.1 pc = .ok (.aastore, 1)) (hxx : S[i]? = some (a, 4, N, r)) (hyy : S[ib]? = some (b, 1, K, [])) (hj : vp_in j N) (hjl : j.toNatClampNeg < r.length) (hS' : S.set i (a, 4, N, r.set j.toNatClampNeg (b + 2)) = S') (kk : k_W d I X (pc + 1) L st M S' n k) : k_W d I X pc L (.ref b :: .int j :: .ref a :: st) M S n k := by
  obtain ⟨⟨p, l, e, R, s⟩, ⟨m, args, below, meth, c⟩, ⟨⟨A, ⟨kc, ks⟩, Q⟩, ⟨g, f⟩⟩⟩ := X
  intro hG al hal H locs ls hP hD hS hl
  obtain ⟨hx, hb, hml, hown, hts, hK, hAO, hA, ⟨hfr, hlo, hkc, hks⟩, hnm⟩ := id hG
  subst hS'
  have he : (k_ws (g.1, g.2.1, al) M S)[i]? = some (al a, .inl (g.2.1 3, N, .inr (.inr (.inr (.inr (k_qf al r)))))) := k_at hxx
  have hv : (k_ws (g.1, g.2.1, al) M S)[ib]? = some (al b, .inl (g.2.1 0, K, .inl (M b))) := k_at hyy
  have hlt : j.toNatClampNeg < N := Nat.not_le.mp fun q => hj (Or.inr q)
  have h0 : ¬ j < 0 := fun q => hj (Or.inl q)
  obtain ⟨comp, cA, kA, q1, -, q2, q3, q4⟩ := arrayOverA_spec hAO.2.1
  have hcA : cA = g.2.1 3 := Option.some.inj (q4.symm.trans (hK.2 3 (g.2.1 3, .array .int) rfl).2)
  have hco : comp = g.2.1 0 := Option.some.inj (q1.symm.trans (hK.2 0 (g.2.1 0, .int) rfl).2)
  subst hcA
  subst hco
  obtain ⟨kC, hkC, -⟩ := Vm.findClass_spec q1
  refine W.aast hx hb (hP i _ he) (fun q h => by cases h) (fun h => by cases h) q2 q3 rfl hkC ⟨h0, by show _ < (arrV _ _ _).slots.size; rw [arrV_size]; exact hlt⟩ (hP ib _ hv) (fun q h => by cases h) hkC (Vm.assignable_self _ _) rfl rfl hd fun H1 e1 z oq => ?_
  have hP1 := hP.set hD he (e := .inl (g.2.1 3, N, .inr (.inr (.inr (.inr (k_qf al (r.set j.toNatClampNeg (b + 2)))))))) (H1 := H1) (by
    show H1[al a]? = some (vp_cell _ _)
    rw [e1, ← k_qf_set hjl, vp_cell_q, vp_cell_q, arrV_store]
    congr 2
    funext q
    by_cases hq : q = j.toNatClampNeg
    · subst hq
      simp [updV, va_up, va_rf]
    · simp [updV, va_up, hq]) oq
  have hD1 := hD.set he (e := .inl (g.2.1 3, N, .inr (.inr (.inr (.inr (k_qf al (r.set j.toNatClampNeg (b + 2))))))))
  have hset := k_set1 (w := (g.1, g.2.1, al)) (M := M) (S := S) (i := i) (x := (a, 4, N, r)) (y := (a, 4, N, r.set j.toNatClampNeg (b + 2))) (e := .inl (g.2.1 3, N, .inr (.inr (.inr (.inr (k_qf al (r.set j.toNatClampNeg (b + 2)))))))) rfl rfl
  rw [show ((g.1, g.2.1, al) : j_w).2.2 (a, 4, N, r).1 = al a from rfl] at hset
  rw [hset] at hP1 hD1
  exact kk hG al hal H1 _ ls hP1 hD1 (hS.put z oq (hD.2 i _ he)) hl
end Kules2
