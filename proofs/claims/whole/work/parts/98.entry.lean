/-! THE ENTRY: the two sides are made; the state they hold; over to the frame -/
theorem k_hi {S S2 : List k_S} {b : Nat} (h : S2.all (fun z => decide (z.1 < 104)) = true) (h1 : decide (104 ≤ b) = true) (h2 : k_has S2 b = true) : k_has S b = true := by
  obtain ⟨z, hz, rfl⟩ := k_has_mem.mp h2
  have h3 := List.all_eq_true.mp h z hz
  have h4 := of_decide_eq_true h1
  have h5 := of_decide_eq_true h3
  omega
theorem k_law {X : k_X} (hf : ∀ b, k_f X b = decide (104 ≤ b)) (hn : k_kc X = 104 ∧ k_ks X = 2666) (kk : k_W 60 I_L_law X 18 [some (.ref 106), some (.ref 0), some (.ref 79), some (.int 0)] [] kM_58 kS_200 104 2666) : k_W 60 I_L_law X 0 [some (.ref 106), none, none, none] [] kM_0 kS_0 0 0 := by
  refine kx_new (pc := 0) (a := 0) (r := [1, 1, 1, 1, 1, 1, 1, 1, 1, 1, 1, 1, 1]) (S' := kS_1) cf_J kl_L_7 kn_J ini_J d_L_law_0 nf_J rfl rfl (by decide +kernel) rfl rfl ((hf 0).trans (by decide +kernel)) (Nat.le_trans (Nat.le_of_ble_eq_true rfl) (Nat.le_of_eq hn.1.symm)) (Nat.le_trans (Nat.le_of_ble_eq_true rfl) (Nat.le_of_eq hn.2.symm)) rfl ?_
  refine kx_dup (pc := 3) d_L_law_3 ?_
  refine kx_callI (pc := 4) (y := I_J_init) (o := 0) (np := 0) (st := [.ref 0]) (S2 := kS_151) (M2 := kM_49) [] co_J_init rfl ini_J ki_J_init rfl lk_L_9 ⟨by decide +kernel, by decide +kernel, by decide +kernel⟩ rfl (Nat.le_of_ble_eq_true rfl) d_L_law_4 (Nat.le_of_ble_eq_true rfl) (Nat.le_of_ble_eq_true rfl) ct_J_init (by decide +kernel) (by decide +kernel) (by decide +kernel) (fun b h h2 => k_hi (by decide +kernel) ((hf b).symm.trans h) h2) (Nat.le_trans (Nat.le_of_ble_eq_true rfl) (Nat.le_of_eq hn.1.symm)) (Nat.le_trans (Nat.le_of_ble_eq_true rfl) (Nat.le_of_eq hn.2.symm)) ?_
  refine kx_astore_n (pc := 7) 1 (L' := [some (.ref 106), some (.ref 0), none, none]) (Nat.le_of_ble_eq_true rfl) (Or.inr rfl) d_L_law_7 rfl ?_
  refine kx_new (pc := 8) (a := 79) (r := [1, 0, 0, 1, 1, 0, 0, 0, 0, 0, 0, 1, 1, 1, 0, 1, 1, 1, 0, 0, 1, 1, 0, 0, 1, 1, 1, 1, 0, 1, 1, 1, 0, 0, 1, 1, 1, 1, 1, 1, 0]) (S' := kS_152) cf_R kl_L_10 kn_R ini_R d_L_law_8 nf_R rfl rfl (by decide +kernel) rfl rfl ((hf 79).trans (by decide +kernel)) (Nat.le_trans (Nat.le_of_ble_eq_true rfl) (Nat.le_of_eq hn.1.symm)) (Nat.le_trans (Nat.le_of_ble_eq_true rfl) (Nat.le_of_eq hn.2.symm)) rfl ?_
  refine kx_dup (pc := 11) d_L_law_11 ?_
  refine kx_callI (pc := 12) (y := I_R_init) (o := 79) (np := 0) (st := [.ref 79]) (S2 := kS_200) (M2 := kM_58) [] co_R_init rfl ini_R ki_R_init rfl lk_L_12 ⟨by decide +kernel, by decide +kernel, by decide +kernel⟩ rfl (Nat.le_of_ble_eq_true rfl) d_L_law_12 (Nat.le_of_ble_eq_true rfl) (Nat.le_of_ble_eq_true rfl) ct_R_init (by decide +kernel) (by decide +kernel) (by decide +kernel) (fun b h h2 => k_hi (by decide +kernel) ((hf b).symm.trans h) h2) (Nat.le_trans (Nat.le_of_ble_eq_true rfl) (Nat.le_of_eq hn.1.symm)) (Nat.le_trans (Nat.le_of_ble_eq_true rfl) (Nat.le_of_eq hn.2.symm)) ?_
  refine kx_astore_n (pc := 15) 2 (L' := [some (.ref 106), some (.ref 0), some (.ref 79), none]) (Nat.le_of_ble_eq_true rfl) (Or.inr rfl) d_L_law_15 rfl ?_
  refine kx_iconst (pc := 16) (v := 0) d_L_law_16 (by decide) ?_
  refine kx_istore_n (pc := 17) 3 (L' := [some (.ref 106), some (.ref 0), some (.ref 79), some (.int 0)]) (Nat.le_of_ble_eq_true rfl) (Or.inr rfl) d_L_law_17 rfl ?_
  exact kk
-- the state at the start
def l_wy (k : Nat) : Nat := if k = 0 then 1 else if k = 1 then 3 else if k = 4 then 2 else 0
def l_s0 : Sg := ((0, fun _ => 0), (fun _ _ => 1, l_wy), (0, fun _ => 0, fun _ => 0, fun _ => 0), (0, fun _ => 0, fun _ => 0), (fun _ => 9, fun _ => 0, fun _ _ => 0), 0)
theorem l_wf : WF l_s0 := by
  have hy : ∀ k, l_wy k ≤ 3 := fun k => by unfold l_wy; split; omega; split; omega; split <;> omega
  refine ⟨Nat.zero_le _, fun _ => Nat.zero_le _, fun _ _ => (by show 1 ≤ 9; omega), fun k _ => Nat.le_trans (hy k) (by omega), ?_, Nat.zero_le _, fun _ => ⟨by show 0 < 30; omega, by show 0 < 6; omega, by show 0 < 3; omega⟩, Nat.zero_le _, fun _ => ⟨by show 0 < 30; omega, Or.inl (by show 0 < 6; omega)⟩, fun _ => ⟨Or.inr rfl, Nat.zero_le _⟩⟩
  show l_wy 3 < 2 ^ 30
  decide
theorem l_C : RepC l_s0 kM_58 := by
  have a1 : ∀ d, d < 2 → ∀ t, t < 3 → kM_58 (12 + d) t = nI 1 := by decide +kernel
  have a2 : ∀ k, k < 5 → kM_58 10 k = nI (l_wy k) := by decide +kernel
  have a3 : ∀ d, d < 31 → kM_58 9 d = nI 0 := by decide +kernel
  have a4 : ∀ d, d < 30 → kM_58 18 d = -2 := by decide +kernel
  have a5 : ∀ s, s < 4 → kM_58 24 s = em 9 ∧ kM_58 25 s = nI 0 := by decide +kernel
  have a6 : ∀ s, s < 4 → ∀ i, i < 48 → kM_58 (27 + s) i = 0 := by decide +kernel
  refine ⟨⟨by decide +kernel, by decide +kernel, by decide +kernel, fun i hi => absurd hi (Nat.not_lt_zero _), fun h t hh => ?_⟩, fun d t hd ht => a1 d hd t ht, fun k hk => a2 k hk, ⟨by decide +kernel, fun k hk => absurd hk (Nat.not_lt_zero _), fun d hd => ?_, fun d _ j v hj => ?_⟩, ⟨by decide +kernel, ⟨0, by omega, by decide +kernel, fun k hk => absurd hk (Nat.not_lt_zero _)⟩, Or.inr ⟨by decide +kernel, fun d hd => Or.inl ⟨a4 d hd, fun k hk => absurd hk (Nat.not_lt_zero _)⟩⟩⟩, ⟨fun s hs => ⟨(a5 s hs).1, (a5 s hs).2, fun i hi => a6 s hs i hi⟩, by decide +kernel⟩⟩
  · have h0 : hnB (g_nb l_s0) (g_tx l_s0) = 0 := by decide +kernel
    rw [h0] at hh
    exact absurd hh (Nat.not_lt_zero _)
  · exact a3 d (by omega)
  · have h0 : ixV (g_nv l_s0) (g_vd l_s0) d = [] := rfl
    rw [h0] at hj
    simp at hj
theorem l_R : RepR l_s0 kM_58 := by
  have a1 : ∀ d, d < 2 → ∀ t, t < 3 → kM_58 82 (3 * d + t) = nI 1 := by decide +kernel
  have a2 : ∀ k, k < 5 → kM_58 79 (5 + k) = nI (l_wy k) := by decide +kernel
  have a3 : ∀ q, q < 4 → kM_58 99 q = 0 ∧ kM_58 101 q = nI 0 := by decide +kernel
  have a4 : ∀ q, q < 4 → ∀ i, i < 48 → kM_58 102 (48 * q + i) = 0 := by decide +kernel
  exact ⟨⟨by decide +kernel, fun i hi => absurd hi (Nat.not_lt_zero _)⟩, fun d t hd ht => a1 d hd t ht, fun k hk => a2 k hk, ⟨by decide +kernel, fun k hk => absurd hk (Nat.not_lt_zero _)⟩, ⟨by decide +kernel, fun k hk => absurd hk (Nat.not_lt_zero _)⟩, fun q hq => ⟨(a3 q hq).1, fun h => absurd rfl h, (a3 q hq).2, fun i hi => a4 q hq i hi⟩, by decide +kernel⟩
-- over to the frame
def k_enc : Option Nat → Nat
  | none => 0
  | some b => b + 2
theorem k_fl_enc (al : Nat → Nat) (f : Nat → Int32) : ∀ (r : List (Option Nat)) (k : Nat), k_fl al f k (r.map k_enc) = j_fl al f k r
  | [], _ => rfl
  | none :: r, k => by rw [List.map_cons, k_fl, j_fl, k_fl_enc al f r (k + 1)]; rfl
  | some b :: r, k => by rw [List.map_cons, k_fl, j_fl, k_fl_enc al f r (k + 1)]; rfl
theorem k_qf_enc (al : Nat → Nat) (r : List (Option Nat)) : k_qf al (r.map k_enc) = fun j => (r.getD j none).map al := by
  funext j
  unfold k_qf
  rw [List.getD_eq_getElem?_getD, List.getD_eq_getElem?_getD, List.getElem?_map]
  cases r[j]? with
  | none => rfl
  | some o =>
    cases o with
    | none => rfl
    | some b =>
      show (if 2 ≤ b + 2 then some (al (b + 2 - 2)) else none) = some (al b)
      rw [if_pos (by omega), Nat.add_sub_cancel]
theorem k_ent_enc (w : j_w) (M : j_M) (a : Nat) : k_ent w M (a, (j_sh a).1, (j_sh a).2.1, (j_sh a).2.2.map k_enc) = j_ent w M a := by
  unfold k_ent j_ent
  generalize j_sh a = q
  obtain ⟨t, n, r⟩ := q
  rcases t with _ | _ | _ | _ | t
  · show Sum.inr (n, k_fl w.2.2 (M a) 0 (r.map k_enc)) = Sum.inr (n, j_fl w.2.2 (M a) 0 r)
    rw [k_fl_enc]
  · rfl
  · rfl
  · show Sum.inl (w.2.1 2, n, Sum.inr (Sum.inr (Sum.inr (Sum.inr (k_qf w.2.2 (r.map k_enc)))))) = Sum.inl (w.2.1 2, n, Sum.inr (Sum.inr (Sum.inr (Sum.inr (fun j => (r.getD j none).map w.2.2)))))
    rw [k_qf_enc]
  · show Sum.inl (w.2.1 3, n, Sum.inr (Sum.inr (Sum.inr (Sum.inr (k_qf w.2.2 (r.map k_enc)))))) = Sum.inl (w.2.1 3, n, Sum.inr (Sum.inr (Sum.inr (Sum.inr (fun j => (r.getD j none).map w.2.2)))))
    rw [k_qf_enc]
theorem k_all : ∀ a, a < j_NA → ∃ i : Nat, kS_200[i]? = some (a, (j_sh a).1, (j_sh a).2.1, (j_sh a).2.2.map k_enc) := by
  have h : (List.range 104).all (fun a => kS_200.any (fun y => decide (y = (a, (j_sh a).1, (j_sh a).2.1, (j_sh a).2.2.map k_enc)))) = true := by decide +kernel
  intro a ha
  have h1 := List.all_eq_true.mp h a (List.mem_range.mpr ha)
  obtain ⟨y, hy, he⟩ := List.any_eq_true.mp h1
  have he2 := of_decide_eq_true he
  rw [he2] at hy
  exact List.getElem?_of_mem hy
theorem k_over {d : Nat} {I : j_I} {p : Program} {l : Launch} {e : Env} {R : Room} {s : State} {m : MethodId} {args : Array Value} {below : List Frame} {meth : Method} {c : Code} {A : Nat → Prop} {kc ks : Nat} {Q : State → Prop} {g : j_w} {f : Nat → Bool} {pc : Nat} {L : List (Option Value)} {st : List Value} {M : j_M} {S : List k_S}
    (hsh : ∀ a, a < j_NA → ∃ i : Nat, S[i]? = some (a, (j_sh a).1, (j_sh a).2.1, (j_sh a).2.2.map k_enc))
    (hZ : ∀ al : Nat → Nat, (∀ b, f b = true → al b = g.2.2 b) → j_Z (g.1, g.2.1, al) A s s.heap)
    (kk : ∀ al : Nat → Nat, (∀ b, f b = true → al b = g.2.2 b) → j_W d I ((p, l, e, R, s), (m, args, below, meth, c), ((g.1, g.2.1, al), A, kc, ks, Q)) pc L st M) : k_W d I ((p, l, e, R, s), (m, args, below, meth, c), ((A, (kc, ks), Q), (g, f))) pc L st M S kc ks := by
  intro hG al hal H locs ls hP hD hS hl
  obtain ⟨hx, hb, hml, hown, hts, hK, hAO, hA, ⟨hfr, hlo, hkc, hks⟩, hnm⟩ := id hG
  have hent : ∀ (a i : Nat), S[i]? = some (a, (j_sh a).1, (j_sh a).2.1, (j_sh a).2.2.map k_enc) → (k_ws (g.1, g.2.1, al) M S)[i]? = some (al a, j_ent (g.1, g.2.1, al) M a) := by
    intro a i hi
    rw [k_at hi, k_ent_enc]
  refine kk al hal ⟨hx, hb, hml, hown, hts, hK, hZ al hal, fun a b ha hb2 he => ?_, fun a ha => ?_, hfr, hlo, hkc, hks⟩ H locs ls (fun k q hq => ?_) hS hl
  · obtain ⟨i, hi⟩ := hsh a ha
    obtain ⟨j, hj⟩ := hsh b hb2
    have hij := hD.1 i j _ _ (hent a i hi) (hent b j hj) he
    subst hij
    exact congrArg (fun z : k_S => z.1) (Option.some.inj (hi.symm.trans hj))
  · obtain ⟨i, hi⟩ := hsh a ha
    exact hD.2 i _ (hent a i hi)
  · obtain ⟨h1, rfl⟩ := j_ws_inv hq
    obtain ⟨i, hi⟩ := hsh k h1
    exact hP i _ (hent k i hi)
-- the tables' words at the entry
theorem l_tyP {s : State} {args : Array Value} {t : FieldType} (h : (Cond.arrayClass t).before args s = true) : ∃ c, ArrOfT s c t ∧ s.vm.findClass ("[" ++ t.toString) = some c := by
  obtain ⟨c, k, comp, h1, h2, h3⟩ := Cond.arrayClass_spec h
  exact ⟨c, fun n z => ⟨fun k h => (by cases h), k, h2, comp, h3⟩, h1⟩
theorem l_tyO {s : State} {args : Array Value} {C : String} (h : (Cond.arrayOver (.object C)).before args s = true) : ∃ c, ArrOfT s c (.object C) ∧ va_RA s c (.object C) := by
  obtain ⟨comp, c, k, h1, h2, h3, h4, h5⟩ := Cond.arrayOver_spec h
  exact ⟨c, fun n z => ⟨fun k h => (by cases h), k, h3, comp, h4⟩, k, comp, h3, h4, h1, h5⟩
theorem l_tyA {s : State} {args : Array Value} {t : FieldType} (h : (Cond.arrayOver (.array t)).before args s = true) : ∃ c, ArrOfT s c (.array t) ∧ s.vm.findClass ("[" ++ (FieldType.array t).toString) = some c := by
  obtain ⟨comp, c, k, h1, h2, h3, h4, h5⟩ := arrayOverA_spec h
  exact ⟨c, fun n z => ⟨fun k h => (by cases h), k, h3, comp, h4⟩, h5⟩
theorem l_cls {s : State} {args : Array Value} (hj : ∀ w ∈ j_tbl, w.before args s = true) : ∃ D : va_G, ∀ (c : Nat) (q : vw_C), j_cls[c]? = some q → u_Kn s q.1 q.2.1 q.2.2 (D.1 c) (D.2 c) := by
  have h0 := u_known (C := R_J) (T := F_J) (N := 13) (n := 13) hj i_J (hj _ kn_J)
  have hall : ∀ q ∈ j_cls, ∃ (x : ClassId × (Nat → Nat)), u_Kn s q.1 q.2.1 q.2.2 x.1 x.2 := by
    have mk : ∀ {C : String} {T : u_T} {N : Nat}, (∃ (cC : ClassId) (iS : Nat → Nat), u_Kn s C T N cC iS) → ∃ (x : ClassId × (Nat → Nat)), u_Kn s C T N x.1 x.2 := fun h => by obtain ⟨a, b, h⟩ := h; exact ⟨(a, b), h⟩
    exact List.forall_mem_cons.mpr ⟨mk (u_known (C := R_J) (T := F_J) (N := 13) (n := 13) hj i_J (hj _ kn_J)), List.forall_mem_cons.mpr ⟨mk (u_known (C := R_He) (T := F_He) (N := 5) (n := 5) hj i_He (hj _ kn_He)), List.forall_mem_cons.mpr ⟨mk (u_known (C := R_Vi) (T := F_Vi) (N := 6) (n := 6) hj i_Vi (hj _ kn_Vi)), List.forall_mem_cons.mpr ⟨mk (u_known (C := R_Co) (T := F_Co) (N := 4) (n := 4) hj i_Co (hj _ kn_Co)), List.forall_mem_cons.mpr ⟨mk (u_known (C := R_Mo) (T := F_Mo) (N := 7) (n := 7) hj i_Mo (hj _ kn_Mo)), List.forall_mem_cons.mpr ⟨mk (u_known (C := R_Se) (T := F_Se) (N := 4) (n := 4) hj i_Se (hj _ kn_Se)), List.forall_mem_cons.mpr ⟨mk (u_known (C := R_Su) (T := F_Su) (N := 4) (n := 4) hj i_Su (hj _ kn_Su)), List.forall_mem_cons.mpr ⟨mk (u_known (C := R_Tu) (T := F_Tu) (N := 4) (n := 4) hj i_Tu (hj _ kn_Tu)), List.forall_mem_cons.mpr ⟨mk (u_known (C := R_Ch) (T := F_Ch) (N := 6) (n := 6) hj i_Ch (hj _ kn_Ch)), List.forall_mem_cons.mpr ⟨mk (u_known (C := R_Sh) (T := F_Sh) (N := 4) (n := 4) hj i_Sh (hj _ kn_Sh)), List.forall_mem_cons.mpr ⟨mk (u_known (C := R_R) (T := F_R) (N := 41) (n := 41) hj i_R (hj _ kn_R)), fun _ h => absurd h List.not_mem_nil⟩⟩⟩⟩⟩⟩⟩⟩⟩⟩⟩
  obtain ⟨c0, i0, -⟩ := h0
  have h : ∀ c : Nat, ∃ (x : ClassId × (Nat → Nat)), ∀ q : vw_C, j_cls[c]? = some q → u_Kn s q.1 q.2.1 q.2.2 x.1 x.2 := by
    intro c
    cases hc : j_cls[c]? with
    | none => exact ⟨(c0, i0), fun q h => by cases h⟩
    | some q =>
      obtain ⟨x, hx⟩ := hall q (List.mem_of_getElem? hc)
      exact ⟨x, fun q' h' => by cases h'; exact hx⟩
  exact ⟨(fun c => (Classical.choose (h c)).1, fun c => (Classical.choose (h c)).2), fun c q hq => Classical.choose_spec (h c) q hq⟩
theorem l_in {w : Cond} (i : Nat) (h : lw_tbl[i]? = some w) : w ∈ lw_tbl := List.mem_of_getElem? h
