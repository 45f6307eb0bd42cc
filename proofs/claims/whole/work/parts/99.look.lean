/-! THE CLAIM OUT OF ONE WALK OF THE LAW'S BODY. Your part is whole_start (and what it stands on); all else here is the same for every law, but numbers. -/
def R_law : String := "DogJudgeLaw"
def lw_P (b : Addr) (xs : List Int32) (args : Array Value) (s : State) : Prop := args = #[.ref b] ∧ s.IntsAt b xs ∧ xs.length ≤ 3072 ∧ (Jvm.Cond.and given_1 narrow_1).before args s = true
def lw_Q (_ : Array Value) (s : State) (o : Outcome) (t : State) : Prop := o = .returned (some (.int 1)) ∧ Framed s o t [] 600000 7302250
def lw_Z (below : List Frame) (a : Array Value) (s : State) : State → Prop := fun t => ∃ o, t.status = .running ∧ Ended t below o ∧ lw_Q a s o t
/-- the law's own end, with 1 on the stack, nothing written that was there before, its room as the claim has it -/
theorem lw_ret {p : Program} {l : Launch} {e : Env} {s : State} {m : MethodId} {below : List Frame} {meth : Method} {c : Code} {b : Nat} (hx : p.tables.exec = Jvm.exec) (hb : c.code = code) (hr : meth.sig.returnType = ret) (hlocks : meth.locks = false) {pc : Nat} {H : Heap} {ls : Array Slot} (hdg : decode code pc = .ok (.ireturn, 1)) : W p l e room_1 s m #[Value.ref b] below meth c H [] 600000 7302250 (lw_Z below #[Value.ref b] s) (F0 m pc ls [.int 1]) := by
  intro T hT X
  obtain ⟨fs, hret, hrun, hended, hW, hframe⟩ := X.leave (v := some (.int 1)) (hlocks := hlocks) (fun h => by rw [hr] at h; cases h)
  have hmeth' : T.vm.method? m = some meth := X.method'
  refine ⟨T.setFrames fs, ?_, .returned (some (.int 1)), hrun, hended, rfl, ⟨_, rfl⟩, hW, hframe⟩
  jvm_step X.here [X.here.top, hx, hb, hdg, hmeth', hr, ret, narrow_b1]
  (try refine ⟨rfl, ?_⟩); (try refine ⟨rfl, ?_⟩)
  first | (intro acts; rw [hret _ acts rfl rfl rfl]) | rw [hret _ _ rfl rfl rfl]
  exact Steps.refl _
/-- what holds at the law's entry: the machine, the code, the tables' words (any of lw_tbl by 'hts w (by decide +kernel)'), the script of L ints xs at the cell b, what the Statement gives of the start (any of its parts by flat_of_before) -/
def lw_At (p : Program) (s : State) (m : MethodId) (meth : Method) (c : Code) (b L : Nat) (xs : Nat → Int32) : Prop :=
  p.tables.exec = Jvm.exec ∧ c.code = code ∧ meth.sig.returnType = ret ∧ c.maxLocals = 4 ∧ s.vm.findClass R_law = some m.cls ∧ (∀ w ∈ lw_tbl, w.before #[Value.ref b] s = true) ∧ va_X b L xs s s.heap ∧ b < s.heap.size ∧ meth.locks = false ∧ (Jvm.Cond.and given_1 narrow_1).before #[Value.ref b] s = true
-- ===== YOUR PART BEGINS =====
def l_al (tW tD b : Nat) (a : Nat) : Nat := if a = 104 then tW else if a = 105 then tD else b
set_option maxHeartbeats 4000000 in
set_option maxRecDepth 100000 in
theorem whole_start {p : Program} {e : Env} {s : State} {m : MethodId} {below : List Frame} {meth : Method} {c : Code} (l : Launch) (hflags : l.flags = flags0) {b L : Nat} {xs : Nat → Int32} (hL : L ≤ 3072) (C0 : lw_At p s m meth c b L xs) : W p l e room_1 s m #[Value.ref b] below meth c s.heap [] 0 0 (lw_Z below #[Value.ref b] s) (entryFrame m ([Value.ref b] : List Value).toArray 4) := by
  obtain ⟨hx, hb, hr, hml, hown, hts, hX, hbl, hlocks, hgv⟩ := id C0
  have hj : ∀ w ∈ j_tbl, w.before #[Value.ref b] s = true := fun w hw => hts w (List.mem_filter.mp hw).1
  have hg := flat_of_before _ hgv
  obtain ⟨A, hAd⟩ : ∃ A : Nat → Prop, A = fun q => s.heap.size ≤ q := ⟨_, rfl⟩
  have hA : ∀ q : Nat, s.heap.size ≤ q → A q := fun q h => by rw [hAd]; exact h
  have hAs : ∀ q : Nat, A q → s.heap.size ≤ q := fun q h => by rw [hAd] at h; exact h
  have hnA : ∀ a : Nat, a < s.heap.size → ¬ A a := fun a h q => absurd (hAs a q) (Nat.not_le.mpr h)
  obtain ⟨D, hK0⟩ := l_cls hj
  obtain ⟨cI, aI, nmI⟩ := l_tyP (hj _ ka_I)
  obtain ⟨cZ, aZ, nmZ⟩ := l_tyP (hj _ ka_Z)
  have wO : (Cond.arrayOver (.object "DogJudge$Mood")).before #[Value.ref b] s = true := hts _ (l_in 144 (by decide +kernel))
  have wA : (Cond.arrayOver (.array .int)).before #[Value.ref b] s = true := hts _ (l_in 136 (by decide +kernel))
  obtain ⟨cM, aM, nmM⟩ := l_tyO wO
  obtain ⟨cA, aA, nmA⟩ := l_tyA wA
  obtain ⟨tW, eW, TW⟩ := va_Tof (args := #[Value.ref b]) (s := s) (tm := .static "DogJudge" "WAYS_MOST" "[I") (ty := .int) (N := 5) (f := fun j => .int (j_wm j)) (A := A) (by omega) (hg _ (by decide +kernel)) (va_eqt (z := 5) (hg _ (by decide +kernel))) (fun j hj5 => by
    rcases (show j = 0 ∨ j = 1 ∨ j = 2 ∨ j = 3 ∨ j = 4 by omega) with rfl | rfl | rfl | rfl | rfl
    · exact va_eqt (z := 9) (hg (.eq (.elem (.static "DogJudge" "WAYS_MOST" "[I") (.int 0)) (.int 9)) (by decide +kernel))
    · exact va_eqt (z := 9) (hg (.eq (.elem (.static "DogJudge" "WAYS_MOST" "[I") (.int 1)) (.int 9)) (by decide +kernel))
    · exact va_eqt (z := 9) (hg (.eq (.elem (.static "DogJudge" "WAYS_MOST" "[I") (.int 2)) (.int 9)) (by decide +kernel))
    · exact va_eqt (z := 1073741823) (hg (.eq (.elem (.static "DogJudge" "WAYS_MOST" "[I") (.int 3)) (.int 1073741823)) (by decide +kernel))
    · exact va_eqt (z := 9) (hg (.eq (.elem (.static "DogJudge" "WAYS_MOST" "[I") (.int 4)) (.int 9)) (by decide +kernel))) hnA
  obtain ⟨tD, eD, TD⟩ := va_Tof (args := #[Value.ref b]) (s := s) (tm := .static "DogJudge" "DIGEST_DAYS" "[I") (ty := .int) (N := 4) (f := fun j => .int (j_dd j)) (A := A) (by omega) (hg _ (by decide +kernel)) (va_eqt (z := 4) (hg _ (by decide +kernel))) (fun j hj4 => by
    rcases (show j = 0 ∨ j = 1 ∨ j = 2 ∨ j = 3 by omega) with rfl | rfl | rfl | rfl
    · exact va_eqt (z := 0) (hg (.eq (.elem (.static "DogJudge" "DIGEST_DAYS" "[I") (.int 0)) (.int 0)) (by decide +kernel))
    · exact va_eqt (z := 1) (hg (.eq (.elem (.static "DogJudge" "DIGEST_DAYS" "[I") (.int 1)) (.int 1)) (by decide +kernel))
    · exact va_eqt (z := 9) (hg (.eq (.elem (.static "DogJudge" "DIGEST_DAYS" "[I") (.int 2)) (.int 9)) (by decide +kernel))
    · exact va_eqt (z := 29) (hg (.eq (.elem (.static "DogJudge" "DIGEST_DAYS" "[I") (.int 3)) (.int 29)) (by decide +kernel))) hnA
  have hini : (Cond.initialized "DogJudge").before #[Value.ref b] s = true := hj _ ini_J
  have ZW := va_Zref (A := A) (hts (.laysStatic "DogJudge" "WAYS_MOST" "[I") (l_in 403 (by decide +kernel))) hini eW hnA
  have ZD := va_Zref (A := A) (hts (.laysStatic "DogJudge" "DIGEST_DAYS" "[I") (l_in 760 (by decide +kernel))) hini eD hnA
  have hseek : va_Nw (.methodLinkNest "DogJudge" 191 ⟨"DogJudge$Suits", "seek", "(LDogJudge$Suits;III)Z"⟩ "DogJudge") s := va_Nw.of rfl (hts _ (l_in 549 (by decide +kernel)))
  have hNN : k_NN s := ⟨va_Nw.of rfl (hts _ (l_in 79 (by decide +kernel))), va_Nw.of rfl (hts _ (l_in 109 (by decide +kernel))), va_Nw.of rfl (hts _ (l_in 146 (by decide +kernel)))⟩
  obtain ⟨dT, hdT⟩ : ∃ dT : Nat → ClassId, dT = fun k => if k = 0 then cI else if k = 1 then cZ else if k = 2 then cM else cA := ⟨_, rfl⟩
  have d0 : dT 0 = cI := by rw [hdT]; rfl
  have d1 : dT 1 = cZ := by rw [hdT]; rfl
  have d2 : dT 2 = cM := by rw [hdT]; rfl
  have d3 : dT 3 = cA := by rw [hdT]; rfl
  have hK : va_K D j_cls (j_tys (D, dT, l_al tW tD b)) s := by
    refine ⟨hK0, fun k q hq => ?_⟩
    have hq : [(dT 0, FieldType.int), (dT 1, .boolean), (dT 2, .object "DogJudge$Mood"), (dT 3, .array .int)][k]? = some q := hq
    rcases k with _ | _ | _ | _ | k
    · cases hq; rw [d0]; exact ⟨aI, nmI⟩
    · cases hq; rw [d1]; exact ⟨aZ, nmZ⟩
    · cases hq; rw [d2]; exact ⟨aM, nmM⟩
    · cases hq; rw [d3]; exact ⟨aA, nmA⟩
    · simp at hq
  have hl := lv_entry ([.ref b]) (n := 4) (Nat.le_of_ble_eq_true rfl)
  rw [lg_entry_eq]
  generalize (lg_sl ([.ref b]) ++ List.replicate (4 - (lg_sl ([.ref b])).length) Slot.unset).toArray = ls at hl ⊢
  have hl : lv_has ls 4 [(0, .ref b)] := hl
  have key : k_W 60 I_L_law ((p, l, e, room_1, s), (m, #[Value.ref b], below, meth, c), ((A, (104, 2666), lw_Z below #[Value.ref b] s), ((D, dT, l_al tW tD b), fun a => decide (104 ≤ a)))) 0 [some (.ref 106), none, none, none] [] kM_0 kS_0 0 0 := by
    refine k_law (fun _ => rfl) ⟨rfl, rfl⟩ (k_over k_all (fun al hal => ?_) (fun al hal => ?_))
    · have h4 : al 104 = tW := hal 104 rfl
      have h5 : al 105 = tD := hal 105 rfl
      refine ⟨⟨?_, ?_⟩, ⟨?_, ?_⟩, hseek⟩
      · show va_Z "DogJudge" "WAYS_MOST" "[I" (.ref (al 104)) A s s.heap
        rw [h4]; exact ZW
      · show va_T .int (al 104) 5 _ A s s.heap
        rw [h4]; exact TW
      · show va_Z "DogJudge" "DIGEST_DAYS" "[I" (.ref (al 105)) A s s.heap
        rw [h5]; exact ZD
      · show va_T .int (al 105) 4 _ A s s.heap
        rw [h5]; exact TD
    · have h6 : al 106 = b := hal 106 rfl
      refine law_loop (N := L) (xs := xs) ⟨?_, ?_, ?_⟩ hL (fun L2 M2 => ?_) (L + 1) 0 (by omega) (Nat.zero_le _) l_s0 kM_58 l_wf l_C l_R
      · show va_X (al 106) L xs s s.heap
        rw [h6]; exact hX
      · show al 106 < s.heap.size
        rw [h6]; exact hbl
      · show ¬ A (al 106)
        rw [h6]; exact hnA b hbl
      · intro hG H locs ls2 hP hS hl2
        refine va_forget (fun q hq => hAs _ (hS.2.2 q hq)) ?_
        refine W.widen (k := 600000) (n := 7302250) (by omega) (by omega) ?_
        exact lw_ret hx hb hr hlocks d_L_law_1266
  exact key ⟨hx, hb, hml, hown, hj, hK, ⟨wO, wA, hNN⟩, hA, ⟨by show 60 ≤ 2048; omega, by show 41 * 60 ≤ 84000; omega, by show 104 ≤ 600000; omega, by show 2666 ≤ 7302250; omega⟩, fun h => absurd h (by decide +kernel)⟩ (l_al tW tD b) (fun _ _ => rfl) s.heap [] ls (fun k q h => by simp [k_ws, kS_0] at h) ⟨fun i j p q h => by simp [k_ws, kS_0] at h, fun k q h => by simp [k_ws, kS_0] at h⟩ va_S.rf hl
-- ===== YOUR PART ENDS =====
set_option maxHeartbeats 4000000 in
theorem lw_walk (l : Launch) (hflags : l.flags = flags0) (b : Addr) (xs : List Int32) : MetFree l x (headSpec (Jvm.Cond.code x code maxLocals ret :: tables_1) room_1) (lw_P b xs) (fun _ _ _ _ _ => True) lw_Q := by
  refine MetFree.of_bodyS (code := code) (maxLocals := maxLocals) (ret := ret) (by decide) ?_ ?_
  · intro args s m h hn
    obtain ⟨meth, c, h1, h2, h3, h4, h5, h6, -, -⟩ := Cond.code_spec hn (atoms_spec (ws := Jvm.Cond.code x code maxLocals ret :: tables_1) h _ List.mem_cons_self)
    exact ⟨meth, c, h1, h2, h3, h4, h5, h6⟩
  · intro p e s m args below meth c s₁ B hml0 hP _
    obtain ⟨rfl, hx, hbd, hgv⟩ := hP
    obtain ⟨scr, harrAt, hlist, hof, hsmall⟩ := hx
    obtain ⟨hcb, hkn, -, -⟩ := State.arrayAt?_spec harrAt
    have hown : s.vm.findClass R_law = some m.cls := findClass_of_methodNamed B.named
    have hts0 : ∀ c ∈ (Jvm.Cond.code x code maxLocals ret :: tables_1), c.before #[Value.ref b] s = true := atoms_spec (ws := Jvm.Cond.code x code maxLocals ret :: tables_1) B.pre
    have hts : ∀ w ∈ lw_tbl, w.before #[Value.ref b] s = true := k2_hts_sels lw_privs (fun w hw => hts0 w (List.mem_cons_of_mem _ hw)) lw_privs_ok
    have hml : c.maxLocals = 4 := B.maxLocals_eq (hts0 _ List.mem_cons_self)
    have X₀ : Stand p l e room_1 s m #[Value.ref b] below meth c s₁ [] 0 0 := Stand.of_body B
    have hh0 : s₁.heap = s.heap := by rw [B.state]; rfl
    have hsz : scr.slots.size = xs.length := by rw [← Array.length_toList, hlist, List.length_map]
    have hval : ∀ j : Nat, j < xs.length → scr.slots[j]? = some (.int (xs.getD j 0)) := fun j hj => by
      rw [← Array.getElem?_toList, hlist]
      simp [hj]
    have hbl : b < s.heap.size := (Array.getElem?_eq_some_iff.mp hcb).1
    have hX : va_X b xs.length (fun j => xs.getD j 0) s s.heap := ⟨scr, hcb, hof, hkn, hsz, hval⟩
    have K : W p l e room_1 s m #[Value.ref b] below meth c s₁.heap [] 0 0 (lw_Z below #[Value.ref b] s) (entryFrame m ([Value.ref b] : List Value).toArray 4) := by
      rw [hh0]
      exact whole_start l hflags hbd ⟨B.exec, B.bytes, B.returns, hml, hown, hts, hX, hbl, B.notSynchronized, hgv⟩
    obtain ⟨t, a1, o, b1, b2, b3⟩ := K s₁ rfl X₀
    exact ⟨t, o, a1, b1, b2, b3⟩
theorem lw_pre_spec {args : Array Value} {s : State} (h : (Jvm.Cond.and given_1 narrow_1).before args s = true) (hr : rest_1_c.before args s = true) : ∃ (b : Addr) (xs : List Int32), lw_P b xs args s := by
  have hs := flat_of_before _ h
  have hq := flat_of_before _ hr
  have hc : (Cond.count 1).before args s = true := hs _ (by decide +kernel)
  have harr : (Cond.arrayOf (.arg 0) .int).before args s = true := hs _ (by decide +kernel)
  have hle : (Cond.le (.length (.arg 0)) (.int 3072)).before args s = true := hs _ (by decide +kernel)
  have hlen : (Cond.isInt (.length (.arg 0))).before args s = true := hq _ (by decide +kernel)
  have hall : (Cond.all (.arg 0) (.isInt (.elem (.arg 0) (.index 0)))).before args s = true := hq _ (by decide +kernel)
  obtain ⟨b, xs, hb, hx⟩ := State.ints_of_pre rfl harr hlen hall
  have hsm : xs.length < 2 ^ 31 := hx.choose_spec.2.2.2
  have hev : (Term.length (.arg 0)).eval args s none [] s = some (.int xs.length.toInt32) := hx.length_eval hb
  have hv := Cond.le_ints hev (show (Term.int 3072).eval args s none [] s = some (.int 3072) from rfl)
  have hd : xs.length.toInt32 ≤ 3072 := by
    simpa [Cond.before, Cond.holds, hv] using hle
  have hN : xs.length ≤ 3072 := (Int32.ofNat_le_ofNat hsm (by decide)).mp (show Int32.ofNat xs.length ≤ Int32.ofNat 3072 from hd)
  exact ⟨b, xs, Cond.one_arg hc (show args[0]? = some (.ref b) from hb), hx, hN, h⟩
theorem lw_comes (l : Launch) (hflags : l.flags = flags0) : Comes l x (Jvm.Cond.code x code maxLocals ret :: tables_1) room_1 (fun tb e args s => Calls_1 tb e args s ∧ rest_1 tb e args s ∧ Pre_1 tb e args s)
    (fun _ _ args s o t => lw_Q args s o t) := by
  intro p e ha hc hk s m args below hf hfit hheap happ hpre
  obtain ⟨b, xs, hP⟩ := lw_pre_spec hpre.2.2 hpre.2.1
  obtain ⟨k, o, h1, h2, h3, hQ⟩ := lw_walk l hflags b xs p e ha hc hk s m args below hf ((Spec.applies_iff_loose hf).mp happ).1 hP trivial
  exact ⟨k, o, h1, h2, h3, hQ⟩
theorem lw_frame {s t : State} {o : Outcome} {args : Array Value} (h : Framed s o t [] 600000 7302250) :
    Framed s o t (fieldLocs frame_1_writes args s ++ arrayLocs frame_1_arrays args s ++ staticLocs frame_1_statics s) 600000 7302250 := h
theorem lw_limb (L : Cond) (hL : ∀ (args : Array Value) (s t : State), L.after args s (.returned (some (.int 1))) t = true) :
    ArmFor flags0 classFile x code maxLocals ret World_1 tables_1 room_1 Calls_1 rest_1 Pre_1
      (fun tb e a s o t => postC L tb e a s o t ∧ Framed s o t (fieldLocs frame_1_writes a s ++ arrayLocs frame_1_arrays a s ++ staticLocs frame_1_statics s) 600000 7302250) := by
  intro l hflags _ _ p e ha hc hk s m args below hf hfit hheap happ hpre
  obtain ⟨k, o, h1, h2, h3, rfl, hF⟩ := lw_comes l hflags p e ha hc hk s m args below hf hfit hheap happ hpre
  exact ⟨k, _, h1, h2, h3, hL args s _, lw_frame hF⟩
theorem i_vc : Claimed_1_1 ∧ Claimed_1_2 := ⟨lw_limb limb_1_1 (fun args s t => by simp [limb_1_1, Cond.after, Cond.holds, Cond.value]), lw_limb limb_1_2 (fun args s t => Cond.after_iff.mpr (by
  first | (rw [show limb_1_2 = Cond.eq .result (.int 1) from rfl, Cond.eq_ints (x := 1) (y := 1) rfl rfl]; simp; done) | (simp [limb_1_2, Cond.value, Term.eval]; done)))⟩
