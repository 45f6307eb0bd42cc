/-! THE RULES of calls and ends -/
def j_VO (y : j_I) (n : Nat) : Prop := Cond.code y.1 y.2.1 y.2.2.1 y.2.2.2 ∈ j_tbl ∧ Cond.instanceMethod y.1 ∈ j_tbl ∧ Cond.selects y.1.cls y.1 y.1 ∈ j_tbl ∧ Cond.initialized y.1.cls ∈ j_tbl ∧ (y.1.cls ≠ "java/lang/invoke/MethodHandle" ∧ y.1.cls ≠ "java/lang/invoke/VarHandle" ∧ (parseMethodDescriptor y.1.desc).map (fun d => d.parameters.length) = some n) ∧ y.2.2.1 ≤ 22
def j_SO (y : j_I) (n : Nat) : Prop := Cond.code y.1 y.2.1 y.2.2.1 y.2.2.2 ∈ j_tbl ∧ Cond.static y.1 ∈ j_tbl ∧ Cond.initialized y.1.cls ∈ j_tbl ∧ (y.1.cls ≠ "java/lang/invoke/MethodHandle" ∧ y.1.cls ≠ "java/lang/invoke/VarHandle" ∧ (parseMethodDescriptor y.1.desc).map (fun d => d.parameters.length) = some n) ∧ y.2.2.1 ≤ 22
theorem j_blind (w : j_w) (M : j_M) (vs : List Value) : FrameBlind (va_Pc vs (j_Pre w M)) := by
  intro a U g mk q
  obtain ⟨q0, qP, qK, qZ, qD⟩ := q
  exact ⟨q0, qP, va_K.moved (u := U) (U := U.calling g mk a) (Vm.Alike.refl U.vm) qK, qZ.same (U := U.calling g mk a) rfl, qD⟩
theorem j_pre_at {w : j_w} {A : Nat → Prop} {s U : State} {H : Heap} {locs : List Loc} {M : j_M} (hK : va_K w.1 j_cls (j_tys w) s) (hZ : j_Z w A s s.heap) (hD : j_D w) (hA : ∀ a, a < j_NA → A (w.2.2 a)) (hP : va_P w.1 j_cls (j_ws w M) H) (hS : va_S A s.heap H locs) (hU : U.heap = H) (hW : s.WarmedH U.vm) : j_Pre w M U := by
  refine ⟨by rw [hU]; exact hP, va_K.moved hW.alike hK, ?_, hD⟩
  rw [hU]
  exact ((hZ.warm hW).kept (fun a h1 h2 => hS.2.1 a h1 h2)).narrow (fun q hq => by obtain ⟨a, ha, rfl⟩ := hq; exact hA a ha)
theorem j_push (w : j_w) (r : Option Value) (st : List Value) : (r.toList ++ st).map (j_e w) = (r.map (j_e w)).toList ++ st.map (j_e w) := by cases r <;> rfl
/-- behind a call -/
theorem j_behind {p : Program} {l : Launch} {e : Env} {R : Room} {s : State} {m : MethodId} {args : Array Value} {below : List Frame} {meth : Method} {c : Code} {H : Heap} {locs : List Loc} {cells slots : Nat} {Q : State → Prop} {w : j_w} {A : Nat → Prop} {pc : Nat} {ls : Array Slot} {st0 : List Value} {st : List Value} {Q' : Option Value → j_M → Prop} {a : Array Value}
    (hr : va_Run p l e R s m args below meth c H locs cells slots 0 0 (F0 m pc ls st0) (st.map (j_e w)) (j_Qc w Q' a) (j_A w)) (hS : va_S A s.heap H locs) (hA : ∀ a, a < j_NA → A (w.2.2 a))
    (kk : ∀ (r : Option Value) (M' : j_M) (H1 : Heap) (locs1 : List Loc), Q' r M' → va_P w.1 j_cls (j_ws w M') H1 → va_S A s.heap H1 locs1 → W p l e R s m args below meth c H1 locs1 cells slots Q (F0 m (pc + 3) ls ((r.toList ++ st).map (j_e w)))) : W p l e R s m args below meth c H locs cells slots Q (F0 m pc ls st0) := by
  intro T hT X
  obtain ⟨v, st₀, t, T', L, h0, X', hL, e1, e2, ⟨⟨r, M', hv, hq, hp⟩, hz, hk⟩, stp⟩ := hr T hT X
  have hv' : v = r.map (j_e w) := by cases hv; rfl
  subst hv'
  rw [h0] at hz hk
  have hAA : ∀ q, j_A w q → A q := fun q h => by obtain ⟨a, ha, rfl⟩ := h; exact hA a ha
  obtain ⟨t2, a1, b1⟩ := kk r M' T'.heap (locs ++ L) hq (by rw [e1]; exact hp)
    ⟨Nat.le_trans hS.1 (by rw [e1]; exact hz), fun q h1 h2 => by rw [e1, hk q (Nat.lt_of_lt_of_le h1 hS.1) (fun z => h2 (hAA q z))]; exact hS.2.1 q h1 h2, fun q hq => by
      rcases List.mem_append.mp hq with h | h
      · exact hS.2.2 q h
      · exact hAA _ (hL q h)⟩ T' rfl X'
  rw [j_push] at a1
  exact ⟨t2, stp t2 a1, b1⟩
theorem j_ws_goodV {own : String} {idx n : Nat} {y : j_I} (hv : j_VO y n) (hlk : Cond.methodLink own idx y.1 ∈ j_tbl) : GoodIn j_tbl (wsV own idx y.1.cls y.1 (j_words y)) := by
  refine j_goodIn fun u hu => ?_
  unfold wsV j_words at hu
  rcases List.mem_append.mp hu with h | h
  · simp only [List.mem_cons, List.not_mem_nil, or_false] at h
    rcases h with rfl | rfl | rfl | rfl
    · exact hlk
    · exact hv.2.1
    · exact hv.2.2.1
    · exact hv.2.2.2.1
  · rcases List.mem_cons.mp h with rfl | h
    · exact hv.1
    · exact h
theorem j_ws_goodS {own : String} {idx n : Nat} {y : j_I} (hv : j_SO y n) (hlk : Cond.methodLink own idx y.1 ∈ j_tbl) : GoodIn j_tbl (va_wsS own idx y.1 (j_words y)) := by
  refine j_goodIn fun u hu => ?_
  unfold va_wsS j_words at hu
  rcases List.mem_append.mp hu with h | h
  · simp only [List.mem_cons, List.not_mem_nil, or_false] at h
    rcases h with rfl | rfl | rfl
    · exact hlk
    · exact hv.2.1
    · exact hv.2.2.1
  · rcases List.mem_cons.mp h with rfl | h
    · exact hv.1
    · exact h
theorem j_ws_good {y : j_I} (hv : Cond.code y.1 y.2.1 y.2.2.1 y.2.2.2 ∈ j_tbl) : GoodIn j_tbl (j_words y) := by
  refine j_goodIn fun u hu => ?_
  rcases List.mem_cons.mp hu with rfl | h
  · exact hv
  · exact h
section Callings
variable {d : Nat} {I : j_I} {X : j_X} {pc : Nat} {L : List (Option Value)} {st : List Value} {M : j_M}
theorem jx_callV {y : j_I} {idx o ci d' : Nat} {refs : List (Option Nat)} (as : List Value) (hv : j_VO y as.length) (hlk : Cond.methodLink I.1.cls idx y.1 ∈ j_tbl) (hd : decode I.2.1 pc = .ok (.invokevirtual idx, 3)) (ho : o < j_NA) (hs : j_sh o = (0, ci, refs)) (hcl : (j_cls[ci]?).map (fun q => q.1) = some y.1.cls) (hdd : d' < d) (hst : (st.map fun v => v.category).sum ≤ 8)
    (hc : j_Ct d' y (.ref o :: as) M (fun r M' => j_W d I X (pc + 3) L (r.toList ++ st) M')) : j_W d I X pc L (as.reverse ++ .ref o :: st) M := by
  obtain ⟨⟨p, l, e, R, s⟩, ⟨m, args, below, meth, c⟩, ⟨w, A, cells, slots, Q⟩⟩ := X
  intro hG H locs ls hP hS hl
  obtain ⟨hx, hb, hml, hown, hts, hK, hZ, hD, hA, hfr, hlo, hce, hsl⟩ := id hG
  have he := j_at w M ho
  rw [j_ent0 hs] at he
  obtain ⟨q, hq⟩ : ∃ q, j_cls[ci]? = some q := by
    cases h : j_cls[ci]? with
    | none => rw [h] at hcl; cases hcl
    | some q => exact ⟨q, rfl⟩
  have hqc : q.1 = y.1.cls := by rw [hq] at hcl; exact Option.some.inj hcl
  have hrec := va_recv hK hP hq he
  rw [hqc] at hrec
  refine j_behind (va_runV (As := as.map (j_e w)) (b := w.2.2 o) (rest := st.map (j_e w)) ⟨hx, hb, hml, hown, hts⟩ (hc l w) (cwV as.length hts (j_ws_goodV hv hlk) rfl rfl rfl ⟨rfl, hv.2.2.2.2.1⟩ ⟨by show d' + 1 ≤ _; omega, by show 8 + (y.2.2.1 + 11) + 41 * d' ≤ _; have h22 := hv.2.2.2.2.2; omega⟩) ⟨j_blind w M _, hrec, fun U hU hW => ⟨rfl, j_pre_at hK hZ hD hA hP hS hU hW⟩⟩ rfl (by simp) hl.1 (by simp [List.map_append, List.map_reverse, j_e]) (by show 2 * 0 + _ ≤ 8; rw [j_e_cats]; omega) hd ⟨by omega, by omega⟩) hS hA (fun r M' H1 locs1 hq hP1 hS1 => hq hG H1 locs1 ls hP1 hS1 hl)
theorem jx_callS {y : j_I} {idx d' : Nat} (as : List Value) (hv : j_SO y as.length) (hlk : Cond.methodLink I.1.cls idx y.1 ∈ j_tbl) (hd : decode I.2.1 pc = .ok (.invokestatic idx, 3)) (hdd : d' < d) (hst : (st.map fun v => v.category).sum ≤ 8)
    (hc : j_Ct d' y as M (fun r M' => j_W d I X (pc + 3) L (r.toList ++ st) M')) : j_W d I X pc L (as.reverse ++ st) M := by
  obtain ⟨⟨p, l, e, R, s⟩, ⟨m, args, below, meth, c⟩, ⟨w, A, cells, slots, Q⟩⟩ := X
  intro hG H locs ls hP hS hl
  obtain ⟨hx, hb, hml, hown, hts, hK, hZ, hD, hA, hfr, hlo, hce, hsl⟩ := id hG
  refine j_behind (va_runS (As := as.map (j_e w)) (rest := st.map (j_e w)) ⟨hx, hb, hml, hown, hts⟩ (hc l w) (va_cwS as.length hts (j_ws_goodS hv hlk) rfl rfl rfl hv.2.2.2.1 ⟨by show d' + 1 ≤ _; omega, by show 8 + (y.2.2.1 + 11) + 41 * d' ≤ _; have h22 := hv.2.2.2.2; omega⟩) ⟨j_blind w M _, fun U hU hW => ⟨rfl, j_pre_at hK hZ hD hA hP hS hU hW⟩⟩ rfl (by simp) hl.1 (by simp [List.map_append, List.map_reverse]) (by show 2 * 0 + _ ≤ 8; rw [j_e_cats]; omega) hd ⟨by omega, by omega⟩) hS hA (fun r M' H1 locs1 hq hP1 hS1 => hq hG H1 locs1 ls hP1 hS1 hl)
/-- the one call of a nest mate's private static method -/
theorem jx_callSN {idx d' : Nat} (as : List Value) {y : j_I} (hown0 : I.1.cls = "DogJudge") (hidx : idx = 191) (hy : y.1 = ⟨"DogJudge$Suits", "seek", "(LDogJudge$Suits;III)Z"⟩) (hv : j_SO y as.length) (hd : decode I.2.1 pc = .ok (.invokestatic idx, 3)) (hdd : d' < d) (hst : (st.map fun v => v.category).sum ≤ 8)
    (hc : j_Ct d' y as M (fun r M' => j_W d I X (pc + 3) L (r.toList ++ st) M')) : j_W d I X pc L (as.reverse ++ st) M := by
  obtain ⟨⟨p, l, e, R, s⟩, ⟨m, args, below, meth, c⟩, ⟨w, A, cells, slots, Q⟩⟩ := X
  intro hG H locs ls hP hS hl
  obtain ⟨hx, hb, hml, hown, hts, hK, hZ, hD, hA, hfr, hlo, hce, hsl⟩ := id hG
  have hnest : va_Nw (.methodLinkNest I.1.cls idx y.1 "DogJudge") s := by rw [hown0, hidx, hy]; exact hZ.2.2
  refine j_behind (va_runSN (As := as.map (j_e w)) (rest := st.map (j_e w)) ⟨hx, hb, hml, hown, hts⟩ (hc l w) ⟨va_cnB as.length hts (j_ws_good hv.1) rfl rfl rfl hnest (hts _ hv.2.2.1) hv.2.2.2.1 ⟨by show d' + 1 ≤ _; omega, by show 8 + (y.2.2.1 + 11) + 41 * d' ≤ _; have h22 := hv.2.2.2.2; omega⟩, hts _ hv.2.1, trivial⟩ ⟨j_blind w M _, fun U hU hW => ⟨rfl, j_pre_at hK hZ hD hA hP hS hU hW⟩⟩ rfl (by simp) hl.1 (by simp [List.map_append, List.map_reverse]) (by show 2 * 0 + _ ≤ 8; rw [j_e_cats]; omega) hd ⟨by omega, by omega⟩) hS hA (fun r M' H1 locs1 hq hP1 hS1 => hq hG H1 locs1 ls hP1 hS1 hl)
-- ends
theorem jx_iret {Q : Option Value → j_M → Prop} {v : Int32} (hF : j_Fin I Q X) (hr : I.2.2.2 = some .int) (hd : decode I.2.1 pc = .ok (.ireturn, 1)) (hq : Q (some (.int v)) M) : j_W d I X pc L [.int v] M := by
  obtain ⟨⟨p, l, e, R, s⟩, ⟨m, args, below, meth, c⟩, ⟨w, A, cells, slots, Qp⟩⟩ := X
  intro hG H locs ls hP hS hl
  obtain ⟨hx, hb, hml, hown, hts, hK, hZ, hD, hA, hfr, hlo, hce, hsl⟩ := id hG
  obtain ⟨hret, hlocks, rfl, rfl, rfl, rfl⟩ := hF
  exact W.iret (v := v) hx hb (hret.trans hr) (fun t ht hW => ⟨⟨some (.int v), M, rfl, hq, by rw [ht]; exact hP⟩, hS.F ht⟩) hS.2.2 hd hlocks
theorem jx_zret {Q : Option Value → j_M → Prop} {v : Int32} (hF : j_Fin I Q X) (hr : I.2.2.2 = some .boolean) (h01 : v = 0 ∨ v = 1) (hd : decode I.2.1 pc = .ok (.ireturn, 1)) (hq : Q (some (.int v)) M) : j_W d I X pc L [.int v] M := by
  obtain ⟨⟨p, l, e, R, s⟩, ⟨m, args, below, meth, c⟩, ⟨w, A, cells, slots, Qp⟩⟩ := X
  intro hG H locs ls hP hS hl
  obtain ⟨hx, hb, hml, hown, hts, hK, hZ, hD, hA, hfr, hlo, hce, hsl⟩ := id hG
  obtain ⟨hret, hlocks, rfl, rfl, rfl, rfl⟩ := hF
  exact W.zret (v := v) hx hb (hret.trans hr) (by rcases h01 with rfl | rfl <;> rfl) (fun t ht hW => ⟨⟨some (.int v), M, rfl, hq, by rw [ht]; exact hP⟩, hS.F ht⟩) hS.2.2 hd hlocks
theorem jx_lret {Q : Option Value → j_M → Prop} {v : Int64} (hF : j_Fin I Q X) (hr : I.2.2.2 = some .long) (hd : decode I.2.1 pc = .ok (.lreturn, 1)) (hq : Q (some (.long v)) M) : j_W d I X pc L [.long v] M := by
  obtain ⟨⟨p, l, e, R, s⟩, ⟨m, args, below, meth, c⟩, ⟨w, A, cells, slots, Qp⟩⟩ := X
  intro hG H locs ls hP hS hl
  obtain ⟨hx, hb, hml, hown, hts, hK, hZ, hD, hA, hfr, hlo, hce, hsl⟩ := id hG
  obtain ⟨hret, hlocks, rfl, rfl, rfl, rfl⟩ := hF
  exact W.lret (v := v) hx hb (hret.trans hr) (fun t ht hW => ⟨⟨some (.long v), M, rfl, hq, by rw [ht]; exact hP⟩, hS.F ht⟩) hS.2.2 hd hlocks
theorem jx_aret {Q : Option Value → j_M → Prop} {a : Nat} {rt : FieldType} (hF : j_Fin I Q X) (hr : I.2.2.2 = some rt) (hrt : (∃ n, rt = .object n) ∨ ∃ t, rt = .array t) (hd : decode I.2.1 pc = .ok (.areturn, 1)) (hq : Q (some (.ref a)) M) : j_W d I X pc L [.ref a] M := by
  obtain ⟨⟨p, l, e, R, s⟩, ⟨m, args, below, meth, c⟩, ⟨w, A, cells, slots, Qp⟩⟩ := X
  intro hG H locs ls hP hS hl
  obtain ⟨hx, hb, hml, hown, hts, hK, hZ, hD, hA, hfr, hlo, hce, hsl⟩ := id hG
  obtain ⟨hret, hlocks, rfl, rfl, rfl, rfl⟩ := hF
  exact W.aret (v := .ref (w.2.2 a)) hx hb (hret.trans hr) hrt (Or.inr ⟨_, rfl⟩) (fun t ht hW => ⟨⟨some (.ref a), M, rfl, hq, by rw [ht]; exact hP⟩, hS.F ht⟩) hS.2.2 hd hlocks
theorem jx_vret {Q : Option Value → j_M → Prop} (hF : j_Fin I Q X) (hr : I.2.2.2 = none) (hd : decode I.2.1 pc = .ok (.return_, 1)) (hq : Q none M) : j_W d I X pc L [] M := by
  obtain ⟨⟨p, l, e, R, s⟩, ⟨m, args, below, meth, c⟩, ⟨w, A, cells, slots, Qp⟩⟩ := X
  intro hG H locs ls hP hS hl
  obtain ⟨hx, hb, hml, hown, hts, hK, hZ, hD, hA, hfr, hlo, hce, hsl⟩ := id hG
  obtain ⟨hret, hlocks, rfl, rfl, rfl, rfl⟩ := hF
  exact W.vret hx hb (hret.trans hr) (fun t ht hW => ⟨⟨none, M, rfl, hq, by rw [ht]; exact hP⟩, hS.F ht⟩) hS.2.2 hd hlocks
-- calls by the number of their arguments
theorem jx_callV0 {y : j_I} {idx o ci d' : Nat} {refs : List (Option Nat)} (hv : j_VO y 0) (hlk : Cond.methodLink I.1.cls idx y.1 ∈ j_tbl) (hd : decode I.2.1 pc = .ok (.invokevirtual idx, 3)) (ho : o < j_NA) (hs : j_sh o = (0, ci, refs)) (hcl : (j_cls[ci]?).map (fun q => q.1) = some y.1.cls) (hdd : d' < d) (hst : (st.map fun v => v.category).sum ≤ 8) (hc : j_Ct d' y [.ref o] M (fun r M' => j_W d I X (pc + 3) L (r.toList ++ st) M')) : j_W d I X pc L (.ref o :: st) M := jx_callV [] hv hlk hd ho hs hcl hdd hst hc
theorem jx_callV1 {y : j_I} {idx o ci d' : Nat} {refs : List (Option Nat)} {a1 : Value} (hv : j_VO y 1) (hlk : Cond.methodLink I.1.cls idx y.1 ∈ j_tbl) (hd : decode I.2.1 pc = .ok (.invokevirtual idx, 3)) (ho : o < j_NA) (hs : j_sh o = (0, ci, refs)) (hcl : (j_cls[ci]?).map (fun q => q.1) = some y.1.cls) (hdd : d' < d) (hst : (st.map fun v => v.category).sum ≤ 8) (hc : j_Ct d' y [.ref o, a1] M (fun r M' => j_W d I X (pc + 3) L (r.toList ++ st) M')) : j_W d I X pc L (a1 :: .ref o :: st) M := jx_callV [a1] hv hlk hd ho hs hcl hdd hst hc
theorem jx_callV2 {y : j_I} {idx o ci d' : Nat} {refs : List (Option Nat)} {a1 a2 : Value} (hv : j_VO y 2) (hlk : Cond.methodLink I.1.cls idx y.1 ∈ j_tbl) (hd : decode I.2.1 pc = .ok (.invokevirtual idx, 3)) (ho : o < j_NA) (hs : j_sh o = (0, ci, refs)) (hcl : (j_cls[ci]?).map (fun q => q.1) = some y.1.cls) (hdd : d' < d) (hst : (st.map fun v => v.category).sum ≤ 8) (hc : j_Ct d' y [.ref o, a1, a2] M (fun r M' => j_W d I X (pc + 3) L (r.toList ++ st) M')) : j_W d I X pc L (a2 :: a1 :: .ref o :: st) M := jx_callV [a1, a2] hv hlk hd ho hs hcl hdd hst hc
theorem jx_callV3 {y : j_I} {idx o ci d' : Nat} {refs : List (Option Nat)} {a1 a2 a3 : Value} (hv : j_VO y 3) (hlk : Cond.methodLink I.1.cls idx y.1 ∈ j_tbl) (hd : decode I.2.1 pc = .ok (.invokevirtual idx, 3)) (ho : o < j_NA) (hs : j_sh o = (0, ci, refs)) (hcl : (j_cls[ci]?).map (fun q => q.1) = some y.1.cls) (hdd : d' < d) (hst : (st.map fun v => v.category).sum ≤ 8) (hc : j_Ct d' y [.ref o, a1, a2, a3] M (fun r M' => j_W d I X (pc + 3) L (r.toList ++ st) M')) : j_W d I X pc L (a3 :: a2 :: a1 :: .ref o :: st) M := jx_callV [a1, a2, a3] hv hlk hd ho hs hcl hdd hst hc
theorem jx_callV4 {y : j_I} {idx o ci d' : Nat} {refs : List (Option Nat)} {a1 a2 a3 a4 : Value} (hv : j_VO y 4) (hlk : Cond.methodLink I.1.cls idx y.1 ∈ j_tbl) (hd : decode I.2.1 pc = .ok (.invokevirtual idx, 3)) (ho : o < j_NA) (hs : j_sh o = (0, ci, refs)) (hcl : (j_cls[ci]?).map (fun q => q.1) = some y.1.cls) (hdd : d' < d) (hst : (st.map fun v => v.category).sum ≤ 8) (hc : j_Ct d' y [.ref o, a1, a2, a3, a4] M (fun r M' => j_W d I X (pc + 3) L (r.toList ++ st) M')) : j_W d I X pc L (a4 :: a3 :: a2 :: a1 :: .ref o :: st) M := jx_callV [a1, a2, a3, a4] hv hlk hd ho hs hcl hdd hst hc
theorem jx_callV5 {y : j_I} {idx o ci d' : Nat} {refs : List (Option Nat)} {a1 a2 a3 a4 a5 : Value} (hv : j_VO y 5) (hlk : Cond.methodLink I.1.cls idx y.1 ∈ j_tbl) (hd : decode I.2.1 pc = .ok (.invokevirtual idx, 3)) (ho : o < j_NA) (hs : j_sh o = (0, ci, refs)) (hcl : (j_cls[ci]?).map (fun q => q.1) = some y.1.cls) (hdd : d' < d) (hst : (st.map fun v => v.category).sum ≤ 8) (hc : j_Ct d' y [.ref o, a1, a2, a3, a4, a5] M (fun r M' => j_W d I X (pc + 3) L (r.toList ++ st) M')) : j_W d I X pc L (a5 :: a4 :: a3 :: a2 :: a1 :: .ref o :: st) M := jx_callV [a1, a2, a3, a4, a5] hv hlk hd ho hs hcl hdd hst hc
theorem jx_callSN4 {y : j_I} {idx d' : Nat} {a1 a2 a3 a4 : Value} (hown0 : I.1.cls = "DogJudge") (hidx : idx = 191) (hy : y.1 = ⟨"DogJudge$Suits", "seek", "(LDogJudge$Suits;III)Z"⟩) (hv : j_SO y 4) (hd : decode I.2.1 pc = .ok (.invokestatic idx, 3)) (hdd : d' < d) (hst : (st.map fun v => v.category).sum ≤ 8) (hc : j_Ct d' y [a1, a2, a3, a4] M (fun r M' => j_W d I X (pc + 3) L (r.toList ++ st) M')) : j_W d I X pc L (a4 :: a3 :: a2 :: a1 :: st) M := jx_callSN [a1, a2, a3, a4] hown0 hidx hy hv hd hdd hst hc
theorem jx_callS1 {y : j_I} {idx d' : Nat} {a1 : Value} (hv : j_SO y 1) (hlk : Cond.methodLink I.1.cls idx y.1 ∈ j_tbl) (hd : decode I.2.1 pc = .ok (.invokestatic idx, 3)) (hdd : d' < d) (hst : (st.map fun v => v.category).sum ≤ 8) (hc : j_Ct d' y [a1] M (fun r M' => j_W d I X (pc + 3) L (r.toList ++ st) M')) : j_W d I X pc L (a1 :: st) M := jx_callS [a1] hv hlk hd hdd hst hc
theorem jx_callS2 {y : j_I} {idx d' : Nat} {a1 a2 : Value} (hv : j_SO y 2) (hlk : Cond.methodLink I.1.cls idx y.1 ∈ j_tbl) (hd : decode I.2.1 pc = .ok (.invokestatic idx, 3)) (hdd : d' < d) (hst : (st.map fun v => v.category).sum ≤ 8) (hc : j_Ct d' y [a1, a2] M (fun r M' => j_W d I X (pc + 3) L (r.toList ++ st) M')) : j_W d I X pc L (a2 :: a1 :: st) M := jx_callS [a1, a2] hv hlk hd hdd hst hc
theorem jx_callS3 {y : j_I} {idx d' : Nat} {a1 a2 a3 : Value} (hv : j_SO y 3) (hlk : Cond.methodLink I.1.cls idx y.1 ∈ j_tbl) (hd : decode I.2.1 pc = .ok (.invokestatic idx, 3)) (hdd : d' < d) (hst : (st.map fun v => v.category).sum ≤ 8) (hc : j_Ct d' y [a1, a2, a3] M (fun r M' => j_W d I X (pc + 3) L (r.toList ++ st) M')) : j_W d I X pc L (a3 :: a2 :: a1 :: st) M := jx_callS [a1, a2, a3] hv hlk hd hdd hst hc
theorem jx_callS4 {y : j_I} {idx d' : Nat} {a1 a2 a3 a4 : Value} (hv : j_SO y 4) (hlk : Cond.methodLink I.1.cls idx y.1 ∈ j_tbl) (hd : decode I.2.1 pc = .ok (.invokestatic idx, 3)) (hdd : d' < d) (hst : (st.map fun v => v.category).sum ≤ 8) (hc : j_Ct d' y [a1, a2, a3, a4] M (fun r M' => j_W d I X (pc + 3) L (r.toList ++ st) M')) : j_W d I X pc L (a4 :: a3 :: a2 :: a1 :: st) M := jx_callS [a1, a2, a3, a4] hv hlk hd hdd hst hc
theorem jx_pop {r : List Value} {st2 : List Value} (h : r ++ st = st2) (k : j_W d I X pc L st2 M) : j_W d I X pc L (r ++ st) M := h ▸ k
theorem jx_eq {L' : List (Option Value)} {st' : List Value} {M' : j_M} {pc' : Nat} (h1 : L = L') (h2 : st = st') (h3 : M = M') (h4 : pc = pc') (k : j_W d I X pc' L' st' M') : j_W d I X pc L st M := by subst h1; subst h2; subst h3; subst h4; exact k
/-- forget locals -/
theorem jx_sub {L' : List (Option Value)} (h : ∀ (i : Nat) (v : Value), L'[i]? = some (some v) → L[i]? = some (some v)) (k : j_W d I X pc L' st M) : j_W d I X pc L st M := by
  obtain ⟨⟨p, l, e, R, s⟩, ⟨m, args, below, meth, c⟩, ⟨w, A, cells, slots, Qp⟩⟩ := X
  intro hG H locs ls hP hS hl
  refine k hG H locs ls hP hS (hl.ss fun q hq => ?_)
  obtain ⟨j, v, h1, rfl⟩ := (j_lv_mem w L' 0 q).mp hq
  exact (j_lv_mem w L 0 _).mpr ⟨j, v, h j v h1, rfl⟩
theorem j_Ct.weak {y : j_I} {vs : List Value} {Q Q' : Option Value → j_M → Prop} (h : j_Ct d y vs M Q) (hq : ∀ r M', Q r M' → Q' r M') : j_Ct d y vs M Q' := by
  intro l w p e ha hc hk s m args below hf h1 h2 h3
  obtain ⟨k, o, g1, g2, g3, ⟨⟨⟨r, M', e1, e2, e3⟩, e4⟩, g5⟩⟩ := h l w p e ha hc hk s m args below hf h1 h2 h3
  exact ⟨k, o, g1, g2, g3, ⟨⟨⟨r, M', e1, hq r M' e2, e3⟩, e4⟩, g5⟩⟩
end Callings
