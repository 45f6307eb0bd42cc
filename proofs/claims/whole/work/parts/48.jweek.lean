/-! OPERATIONS of the component, eight: weeks -/
theorem i_nat (x : Int32) : x = nI x.toBitVec.toNat := by
  apply Int32.toBitVec_inj.mp
  show x.toBitVec = (Int32.ofNat x.toBitVec.toNat).toBitVec
  simp
def hi16 (x : Int32) : Nat := x.toBitVec.toNat / 65536
theorem hi_lt (x : Int32) : hi16 x < 65536 := by unfold hi16; have := x.toBitVec.isLt; omega
theorem hi_eq (x : Int32) : (x.toUInt32 >>> (Int32.toUInt32 16 &&& Int32.toUInt32 31)).toInt32 = nI (hi16 x) := by
  have h := pk_ushrN (n := x.toBitVec.toNat) x.toBitVec.isLt (nI 16) 16 (sh_u 16 (by omega))
  rw [← i_nat x] at h
  exact h
def nxt (x : Int32) : Int32 := 1103515245 * x + 12345
def lotW (x : Int32) : Nat → Int32
  | 0 => x
  | n + 1 => nxt (nxt (lotW x n))
def whoW (s : Sg) (x : Int32) (d : Nat) : Nat := hi16 (nxt (lotW x d)) % g_hn s
def thgW (x : Int32) (d : Nat) : Nat := hi16 (nxt (nxt (lotW x d))) % 3
def wkB (s : Sg) (x : Int32) : Nat → List (Nat × Nat) := fun d => g_bs s d ++ (if 0 < g_hn s then [(whoW s x d, thgW x d)] else [])
def wkR (s : Sg) (x : Int32) (k : Nat) : Mo := run (g_en s) (g_ta s 0) 9 (g_wy s 3) (wkB s x) k
def fdW (s : Sg) (x : Int32) (d : Nat) : Nat := (wkR s x (d + 1)).2.2.2.2
def cnW (s : Sg) (x : Int32) (h : Nat) : Nat → Nat
  | 0 => 0
  | k + 1 => if fdW s x k = h then cnW s x h k + 1 else cnW s x h k
abbrev okWee (s : Sg) (n h : Int32) : Prop := (1 ≤ n ∧ n ≤ 30) ∧ (h = -1 ∨ (0 ≤ h ∧ h < nI (g_hn s)))
def r_weeks (s : Sg) (x n h : Int32) : Int32 := if okWee s n h then (if h = -1 then em (fdW s x (cl n - 1)) else nI (cnW s x (cl h) (cl n))) else -2
theorem wkB_wf {s : Sg} (hw : WF s) (x : Int32) (d : Nat) : (∀ q ∈ wkB s x d, q.1 < 6 ∧ q.2 < 3) ∧ (wkB s x d).length ≤ 25 := by
  have hn6 : g_hn s ≤ 6 := hnB_le hw.1
  have h1 := g_bs_len hw d
  unfold wkB
  by_cases h0 : 0 < g_hn s
  · rw [if_pos h0]
    refine ⟨fun q hq => ?_, by rw [List.length_append]; simp; omega⟩
    rcases List.mem_append.mp hq with h | h
    · exact g_bs_wf hw d q h
    · have hq2 : q = (whoW s x d, thgW x d) := by simpa using h
      subst hq2
      have a1 : whoW s x d < g_hn s := Nat.mod_lt _ h0
      have a2 : thgW x d < 3 := Nat.mod_lt _ (by omega)
      exact ⟨by show whoW s x d < 6; omega, a2⟩
  · rw [if_neg h0, List.append_nil]
    exact ⟨fun q hq => g_bs_wf hw d q hq, by omega⟩
theorem wkW {s : Sg} (hw : WF s) (x : Int32) {k : Nat} (hk : k ≤ 30) : MoW (g_en s) (10000 * k) (wkR s x k) :=
  runW hw.en (hw.2.2.1 0) (fun k q hq => ((wkB_wf hw x k).1 q hq).2) (fun k => Nat.le_trans (wkB_wf hw x k).2 (by omega)) k hk
theorem fdW_lt {s : Sg} (hw : WF s) (x : Int32) {d : Nat} (hd : d < 30) : fdW s x d < 10 := by
  have hn6 : g_hn s ≤ 6 := hnB_le hw.1
  have h : fdW s x d < g_hn s ∨ fdW s x d = 9 := (wkW hw x (show d + 1 ≤ 30 by omega)).2.2.2.2.1
  omega
theorem c_J_nextLot {d : Nat} {x : Int32} {M : j_M} {Q : Option Value → j_M → Prop} (k : Q (some (.int (nxt x))) M) : j_Ct d I_J_nextLot [.int x] M Q := by
  refine j_met (by decide +kernel) co_J_nextLot (Nat.le_of_ble_eq_true rfl) (fun X hX => ?_)
  show j_W d I_J_nextLot X 0 [some (.int x)] [] M
  refine jx_ldcw (pc := 0) d_J_nextLot_0 lc_J_366 ?_
  refine jx_iload0 (pc := 3) d_J_nextLot_3 ?_
  refine jx_imul (pc := 4) d_J_nextLot_4 ?_
  refine jx_sipush (pc := 5) (v := 12345) d_J_nextLot_5 (by decide) ?_
  refine jx_iadd (pc := 8) d_J_nextLot_8 ?_
  refine jx_iret (pc := 9) hX rfl d_J_nextLot_9 ?_
  rotate_left
  exact k
theorem c_J_weeks {d : Nat} {x n h : Int32} {s : Sg} {M : j_M} {Q : Option Value → j_M → Prop} (hw : WF s) (hR : RepC s M) (k : ∀ M', Scr M M' → Q (some (.int (r_weeks s x n h))) M') : j_Ct (d + 3) I_J_weeks [.ref 0, .int x, .int n, .int h] M Q := by
  refine j_met (by decide +kernel) co_J_weeks (Nat.le_of_ble_eq_true rfl) (fun X hX => ?_)
  show j_W (d + 3) I_J_weeks X 0 [some (.ref 0), some (.int x), some (.int n), some (.int h), none, none, none, none, none, none] [] M
  have h13 : M 1 3 = nI (g_hn s) := hR.1.2.1
  have hn6 : g_hn s ≤ 6 := hnB_le hw.1
  have hts := hw.2.2.1 0
  by_cases hb : okWee s n h
  · obtain ⟨⟨g1, g2⟩, g3⟩ := id hb
    obtain ⟨c, hc, rfl⟩ := le_of (n := 30) (by omega) (show 0 ≤ n by rw [fa_le] at g1 ⊢; simp only [Int32.reduceToInt] at *; omega) g2
    have hc1 : 1 ≤ c := (nI_leI (a := 1) (by omega) (by omega)).mp g1
    have ec : cl (nI c) = c := nI_cl (by omega)
    have hu : h = em (unem h) ∧ unem h < 10 := by
      unfold unem
      by_cases hm : h = -1
      · rw [if_pos hm]; exact ⟨hm, by omega⟩
      · rw [if_neg hm]
        obtain ⟨j, hj, rfl, ej⟩ := okd h _ (by omega) (g3.resolve_left hm)
        rw [ej]
        exact ⟨(em_lt (by omega)).symm, by omega⟩
    let lot : Nat → Int32 := fun dd => if g_hn s = 0 then x else lotW x dd
    have loop : ∀ (r day : Nat) (M1 : j_M) (e8 e9 : Option Value), day + r = c → Scr M M1 → MoodAt M1 35 (g_ta s 0) 9 (wkR s x day) → j_W (d + 3) I_J_weeks X 62 [some (.ref 0), some (.int x), some (.int (nI c)), some (.int h), some (.ref 35), some (.int (lot day)), some (.int (nI (cnW s x (unem h) day))), some (.int (nI day)), e8, e9] [] M1 := by
      intro r
      induction r with
      | zero =>
        intro day M1 e8 e9 hd hS hM
        have hd' : day = c := by omega
        subst hd'
        have hfd : M1 35 6 = em (fdW s x (day - 1)) := by
          have h1 := hM.2.2.2.2.2.2
          have h2 : wkR s x day = wkR s x (day - 1 + 1) := by rw [show day - 1 + 1 = day by omega]
          rw [h2] at h1
          exact h1
        by_cases hm : h = -1
        · have hr : r_weeks s x (nI day) h = em (fdW s x (day - 1)) := by unfold r_weeks; rw [if_pos hb, if_pos hm, ec]
          rw [hr] at k
          refine jx_iload7 (pc := 62) d_J_weeks_62 ?_
          refine jx_iload2 (pc := 64) d_J_weeks_64 ?_
          refine jx_icmp_ge (pc := 65) 186 d_J_weeks_65 (by decide) (fun c65 => ?_) (fun c65 => absurd c65 (fun q => q (Int32.le_refl _)))
          refine jx_iload3 (pc := 186) d_J_weeks_186 ?_
          refine jx_iconst (pc := 187) (v := (-1)) d_J_weeks_187 (by decide) ?_
          refine jx_icmp_ne (pc := 188) 199 d_J_weeks_188 (by decide) (fun c188 => absurd c188 (fun q => q hm)) (fun c188 => ?_)
          refine jx_aload4 (pc := 191) d_J_weeks_191 ?_
          refine jx_getI (pc := 193) gf_J_159 d_J_weeks_193 (mo_a mo_35) (mo_s mo_35) rfl ?_
          refine jx_goto (pc := 196) 201 d_J_weeks_196 (by decide) ?_
          refine jx_iret (pc := 201) hX rfl d_J_weeks_201 ?_
          rotate_left
          rw [hfd]
          exact k M1 hS
        · have hr : r_weeks s x (nI day) h = nI (cnW s x (cl h) day) := by unfold r_weeks; rw [if_pos hb, if_neg hm, ec]
          rw [hr] at k
          refine jx_iload7 (pc := 62) d_J_weeks_62 ?_
          refine jx_iload2 (pc := 64) d_J_weeks_64 ?_
          refine jx_icmp_ge (pc := 65) 186 d_J_weeks_65 (by decide) (fun c65 => ?_) (fun c65 => absurd c65 (fun q => q (Int32.le_refl _)))
          refine jx_iload3 (pc := 186) d_J_weeks_186 ?_
          refine jx_iconst (pc := 187) (v := (-1)) d_J_weeks_187 (by decide) ?_
          refine jx_icmp_ne (pc := 188) 199 d_J_weeks_188 (by decide) (fun c188 => ?_) (fun c188 => absurd c188 hm)
          refine jx_iload6 (pc := 199) d_J_weeks_199 ?_
          refine jx_iret (pc := 201) hX rfl d_J_weeks_201 ?_
          rotate_left
          rw [show unem h = cl h by unfold unem; rw [if_neg hm]]
          exact k M1 hS
      | succ r ih =>
        intro day M1 e8 e9 hd hS hM
        have hR1 := hS.rep hR
        have hC := hR1.ce hw
        have h131 : M1 1 3 = nI (g_hn s) := hR1.1.2.1
        have hwd := wkW hw x (show day ≤ 30 by omega)
        have S159 : ∀ (M2 : j_M) (m2 : Mo) (b : Nat) (e8 e9 : Option Value), Scr M M2 → MoodAt M2 35 (g_ta s 0) 9 m2 → MoW (g_en s) b m2 → b ≤ 1000000 → eve (g_en s) 9 m2 = wkR s x (day + 1) → j_W (d + 3) I_J_weeks X 159 [some (.ref 0), some (.int x), some (.int (nI c)), some (.int h), some (.ref 35), some (.int (lot (day + 1))), some (.int (nI (cnW s x (unem h) day))), some (.int (nI day)), e8, e9] [] M2 := by
          intro M2 m2 b e8 e9 hS2 hM2 hw2 hb2 he
          have hE2 := ((hS2.rep hR).ce hw).1
          have S168 : ∀ (M3 : j_M), Scr M M3 → MoodAt M3 35 (g_ta s 0) 9 (wkR s x (day + 1)) → j_W (d + 3) I_J_weeks X 168 [some (.ref 0), some (.int x), some (.int (nI c)), some (.int h), some (.ref 35), some (.int (lot (day + 1))), some (.int (nI (cnW s x (unem h) day))), some (.int (nI day)), e8, e9] [] M3 := by
            intro M3 hS3 hM3
            have hfd : M3 35 6 = em (fdW s x day) := hM3.2.2.2.2.2.2
            have hlt := fdW_lt hw x (show day < 30 by omega)
            have h9 := ih (day + 1) M3 e8 e9 (by omega) hS3 hM3
            rw [cnW] at h9
            by_cases hf : fdW s x day = unem h
            · rw [if_pos hf] at h9
              refine jx_aload4 (pc := 168) d_J_weeks_168 ?_
              refine jx_getI (pc := 170) gf_J_159 d_J_weeks_170 (mo_a mo_35) (mo_s mo_35) rfl ?_
              refine jx_iload3 (pc := 173) d_J_weeks_173 ?_
              refine jx_icmp_ne (pc := 174) 180 d_J_weeks_174 (by decide) (fun c174 => absurd c174 (fun q => q (by rw [hfd, hf]; exact hu.1.symm))) (fun c174 => ?_)
              refine jx_iinc6 (pc := 177) d_J_weeks_177 rfl (Nat.le_of_ble_eq_true rfl) ?_
              refine jx_iinc7 (pc := 180) d_J_weeks_180 rfl (Nat.le_of_ble_eq_true rfl) ?_
              refine jx_goto (pc := 183) 62 d_J_weeks_183 (by decide) ?_
              rotate_left
              rw [nI_add1, nI_add1]
              exact h9
            · rw [if_neg hf] at h9
              refine jx_aload4 (pc := 168) d_J_weeks_168 ?_
              refine jx_getI (pc := 170) gf_J_159 d_J_weeks_170 (mo_a mo_35) (mo_s mo_35) rfl ?_
              refine jx_iload3 (pc := 173) d_J_weeks_173 ?_
              refine jx_icmp_ne (pc := 174) 180 d_J_weeks_174 (by decide) (fun c174 => ?_) (fun c174 => absurd c174 (fun q => hf (by rw [hfd, hu.1] at q; exact (em_inj (by omega) (by have := hu.2; omega)).mp q)))
              refine jx_iinc7 (pc := 180) d_J_weeks_180 rfl (Nat.le_of_ble_eq_true rfl) ?_
              refine jx_goto (pc := 183) 62 d_J_weeks_183 (by decide) ?_
              rotate_left
              rw [nI_add1]
              exact h9
          refine jx_aload0 (pc := 159) d_J_weeks_159 ?_
          refine jx_getR (pc := 160) gf_J_40 d_J_weeks_160 ad_0 sh_0 rfl ?_
          refine jx_aload4 (pc := 163) d_J_weeks_163 ?_
          refine jx_callV1 (pc := 165) (d' := d + 2) vo_Co_evening lk_J_259 d_J_weeks_165 ad_15 sh_15 rfl (by omega) (Nat.le_of_ble_eq_true rfl) ?_
          refine c_Co_evening (d := d + 1) mo_35 hE2 hM2 hw2 hb2 (Or.inr rfl) (fun M3 hM3 hO3 => ?_)
          refine jx_r0 ?_
          rotate_left
          rw [he] at hM3
          exact S168 M3 (hS2.tr (Scr.off mo_35 hO3)) hM3
        have hrun : wkR s x (day + 1) = eve (g_en s) 9 (if (g_wy s 3).testBit day then wkR s x day else brgs (g_en s) (g_ta s 0) day (wkB s x day) (wkR s x day)) := rfl
        have hlt' : ¬ nI c ≤ nI day := nI_ge (by omega) (by omega)
        by_cases h0 : g_hn s = 0
        · -- nobody may come
          have hlot : ∀ dd, lot dd = x := fun dd => by show (if g_hn s = 0 then x else lotW x dd) = x; rw [if_pos h0]
          have hB : wkB s x day = g_bs s day := by unfold wkB; rw [if_neg (by omega), List.append_nil]
          rw [hlot] at S159 ⊢
          have hle : M1 1 3 ≤ 0 := by rw [h131, h0]; exact Int32.le_refl _
          by_cases hs : (g_wy s 3).testBit day = true
          · rw [if_pos hs] at hrun
            refine jx_iload7 (pc := 62) d_J_weeks_62 ?_
            refine jx_iload2 (pc := 64) d_J_weeks_64 ?_
            refine jx_icmp_ge (pc := 65) 186 d_J_weeks_65 (by decide) (fun c65 => absurd c65 hlt') (fun c65 => ?_)
            refine jx_aload0 (pc := 68) d_J_weeks_68 ?_
            refine jx_getR (pc := 69) gf_J_40 d_J_weeks_69 ad_0 sh_0 rfl ?_
            refine jx_iload7 (pc := 72) d_J_weeks_72 ?_
            refine jx_callV1 (pc := 74) (d' := 0) vo_Co_isAwake lk_J_245 d_J_weeks_74 ad_15 sh_15 rfl (by omega) (Nat.le_of_ble_eq_true rfl) ?_
            refine c_Co_awake hC.2.2.1 hC.2.2.2 (show day < 30 by omega) ?_
            refine jx_r1 ?_
            refine jx_istore8 (pc := 77) d_J_weeks_77 rfl (Nat.le_of_ble_eq_true rfl) ?_
            refine jx_iload8 (pc := 79) d_J_weeks_79 ?_
            refine jx_if_eq (pc := 81) 95 d_J_weeks_81 (by decide) (fun c81 => ?_) (fun c81 => absurd c81 (fun q => q (by rw [if_pos hs])))
            refine jx_aload0 (pc := 95) d_J_weeks_95 ?_
            refine jx_getR (pc := 96) gf_J_12 d_J_weeks_96 ad_0 sh_0 rfl ?_
            refine jx_getI (pc := 99) gf_J_169 d_J_weeks_99 ad_1 sh_1 rfl ?_
            refine jx_if_le (pc := 102) 159 d_J_weeks_102 (by decide) (fun c102 => ?_) (fun c102 => absurd c102 (fun q => q hle))
            rotate_left
            exact S159 M1 _ _ _ _ hS hM hwd (by omega) hrun.symm
          · rw [if_neg hs, hB] at hrun
            have hwf := hC.2.1.wf (show day < 30 by omega)
            have hw1 := brgsW hw.en hts (show day < 30 by omega) (g_bs s day) _ _ (fun q hq => (hwf.2 q hq).2) hwd
            refine jx_iload7 (pc := 62) d_J_weeks_62 ?_
            refine jx_iload2 (pc := 64) d_J_weeks_64 ?_
            refine jx_icmp_ge (pc := 65) 186 d_J_weeks_65 (by decide) (fun c65 => absurd c65 hlt') (fun c65 => ?_)
            refine jx_aload0 (pc := 68) d_J_weeks_68 ?_
            refine jx_getR (pc := 69) gf_J_40 d_J_weeks_69 ad_0 sh_0 rfl ?_
            refine jx_iload7 (pc := 72) d_J_weeks_72 ?_
            refine jx_callV1 (pc := 74) (d' := 0) vo_Co_isAwake lk_J_245 d_J_weeks_74 ad_15 sh_15 rfl (by omega) (Nat.le_of_ble_eq_true rfl) ?_
            refine c_Co_awake hC.2.2.1 hC.2.2.2 (show day < 30 by omega) ?_
            refine jx_r1 ?_
            refine jx_istore8 (pc := 77) d_J_weeks_77 rfl (Nat.le_of_ble_eq_true rfl) ?_
            refine jx_iload8 (pc := 79) d_J_weeks_79 ?_
            refine jx_if_eq (pc := 81) 95 d_J_weeks_81 (by decide) (fun c81 => absurd c81 (by rw [if_neg hs]; decide)) (fun c81 => ?_)
            refine jx_aload0 (pc := 84) d_J_weeks_84 ?_
            refine jx_getR (pc := 85) gf_J_40 d_J_weeks_85 ad_0 sh_0 rfl ?_
            refine jx_aload4 (pc := 88) d_J_weeks_88 ?_
            refine jx_iload7 (pc := 90) d_J_weeks_90 ?_
            refine jx_callV2 (pc := 92) (d' := d + 2) vo_Co_comeAsTold lk_J_248 d_J_weeks_92 ad_15 sh_15 rfl (by omega) (Nat.le_of_ble_eq_true rfl) ?_
            refine c_Co_comeAsTold (d := d + 1) mo_35 hC hts hM hwd (by omega) (show day < 30 by omega) (fun M2 hM2 hO2 => ?_)
            refine jx_r0 ?_
            refine jx_aload0 (pc := 95) d_J_weeks_95 ?_
            refine jx_getR (pc := 96) gf_J_12 d_J_weeks_96 ad_0 sh_0 rfl ?_
            refine jx_getI (pc := 99) gf_J_169 d_J_weeks_99 ad_1 sh_1 rfl ?_
            refine jx_if_le (pc := 102) 159 d_J_weeks_102 (by decide) (fun c102 => ?_) (fun c102 => absurd c102 (fun q => q (by rw [hO2 1 (by omega) (by omega) (by omega) (by omega)]; exact hle)))
            rotate_left
            exact S159 M2 _ _ _ _ (hS.tr (Scr.off mo_35 hO2)) hM2 hw1 (by omega) hrun.symm
        · -- one comes by lot
          have hlot : ∀ dd, lot dd = lotW x dd := fun dd => by show (if g_hn s = 0 then x else lotW x dd) = _; rw [if_neg h0]
          have hB : wkB s x day = g_bs s day ++ [(whoW s x day, thgW x day)] := by unfold wkB; rw [if_pos (by omega)]
          rw [hlot] at S159 ⊢
          have hgt : ¬ M1 1 3 ≤ 0 := by rw [h131]; exact nI_ge (a := 0) (by omega) (by omega)
          have hnz : ¬ M1 1 3 = 0 := fun z => hgt (by rw [z]; exact Int32.le_refl _)
          have r1 : (nxt (lotW x day)).toUInt32 >>> (Int32.toUInt32 16 &&& Int32.toUInt32 31) |>.toInt32 |> fun y => y - y / nI (g_hn s) * nI (g_hn s) = nI (whoW s x day) := by
            show ((nxt (lotW x day)).toUInt32 >>> (Int32.toUInt32 16 &&& Int32.toUInt32 31)).toInt32 - ((nxt (lotW x day)).toUInt32 >>> (Int32.toUInt32 16 &&& Int32.toUInt32 31)).toInt32 / nI (g_hn s) * nI (g_hn s) = nI (whoW s x day)
            rw [hi_eq]
            exact pk_rem (d := g_hn s) (by have := hi_lt (nxt (lotW x day)); omega) (by omega) (by omega)
          have r2 : ((nxt (nxt (lotW x day))).toUInt32 >>> (Int32.toUInt32 16 &&& Int32.toUInt32 31)).toInt32 - ((nxt (nxt (lotW x day))).toUInt32 >>> (Int32.toUInt32 16 &&& Int32.toUInt32 31)).toInt32 / 3 * 3 = nI (thgW x day) := by
            rw [hi_eq]
            exact pk_rem (d := 3) (by have := hi_lt (nxt (nxt (lotW x day))); omega) (by omega) (by omega)
          by_cases hs : (g_wy s 3).testBit day = true
          · rw [if_pos hs] at hrun
            refine jx_iload7 (pc := 62) d_J_weeks_62 ?_
            refine jx_iload2 (pc := 64) d_J_weeks_64 ?_
            refine jx_icmp_ge (pc := 65) 186 d_J_weeks_65 (by decide) (fun c65 => absurd c65 hlt') (fun c65 => ?_)
            refine jx_aload0 (pc := 68) d_J_weeks_68 ?_
            refine jx_getR (pc := 69) gf_J_40 d_J_weeks_69 ad_0 sh_0 rfl ?_
            refine jx_iload7 (pc := 72) d_J_weeks_72 ?_
            refine jx_callV1 (pc := 74) (d' := 0) vo_Co_isAwake lk_J_245 d_J_weeks_74 ad_15 sh_15 rfl (by omega) (Nat.le_of_ble_eq_true rfl) ?_
            refine c_Co_awake hC.2.2.1 hC.2.2.2 (show day < 30 by omega) ?_
            refine jx_r1 ?_
            refine jx_istore8 (pc := 77) d_J_weeks_77 rfl (Nat.le_of_ble_eq_true rfl) ?_
            refine jx_iload8 (pc := 79) d_J_weeks_79 ?_
            refine jx_if_eq (pc := 81) 95 d_J_weeks_81 (by decide) (fun c81 => ?_) (fun c81 => absurd c81 (fun q => q (by rw [if_pos hs])))
            refine jx_aload0 (pc := 95) d_J_weeks_95 ?_
            refine jx_getR (pc := 96) gf_J_12 d_J_weeks_96 ad_0 sh_0 rfl ?_
            refine jx_getI (pc := 99) gf_J_169 d_J_weeks_99 ad_1 sh_1 rfl ?_
            refine jx_if_le (pc := 102) 159 d_J_weeks_102 (by decide) (fun c102 => absurd c102 hgt) (fun c102 => ?_)
            refine jx_iload5 (pc := 105) d_J_weeks_105 ?_
            refine jx_callS1 (pc := 107) (d' := 0) so_J_nextLot lk_J_252 d_J_weeks_107 (by omega) (Nat.le_of_ble_eq_true rfl) ?_
            refine c_J_nextLot ?_
            refine jx_r1 ?_
            refine jx_istore5 (pc := 110) d_J_weeks_110 rfl (Nat.le_of_ble_eq_true rfl) ?_
            refine jx_iload5 (pc := 112) d_J_weeks_112 ?_
            refine jx_bipush (pc := 114) (v := 16) d_J_weeks_114 (by decide) ?_
            refine jx_iushr (pc := 116) d_J_weeks_116 ?_
            refine jx_aload0 (pc := 117) d_J_weeks_117 ?_
            refine jx_getR (pc := 118) gf_J_12 d_J_weeks_118 ad_0 sh_0 rfl ?_
            refine jx_getI (pc := 121) gf_J_169 d_J_weeks_121 ad_1 sh_1 rfl ?_
            refine jx_irem (pc := 124) d_J_weeks_124 hnz ?_
            refine jx_istore9 (pc := 125) d_J_weeks_125 rfl (Nat.le_of_ble_eq_true rfl) ?_
            refine jx_iload5 (pc := 127) d_J_weeks_127 ?_
            refine jx_callS1 (pc := 129) (d' := 0) so_J_nextLot lk_J_252 d_J_weeks_129 (by omega) (Nat.le_of_ble_eq_true rfl) ?_
            refine c_J_nextLot ?_
            refine jx_r1 ?_
            refine jx_istore5 (pc := 132) d_J_weeks_132 rfl (Nat.le_of_ble_eq_true rfl) ?_
            refine jx_iload8 (pc := 134) d_J_weeks_134 ?_
            refine jx_if_eq (pc := 136) 159 d_J_weeks_136 (by decide) (fun c136 => ?_) (fun c136 => absurd c136 (fun q => q (by rw [if_pos hs])))
            rotate_left
            exact S159 M1 _ _ _ _ hS hM hwd (by omega) hrun.symm
          · rw [if_neg hs, hB] at hrun
            have hwf := hC.2.1.wf (show day < 30 by omega)
            have hw1 := brgsW hw.en hts (show day < 30 by omega) (g_bs s day) _ _ (fun q hq => (hwf.2 q hq).2) hwd
            have a1 : whoW s x day < g_hn s := Nat.mod_lt _ (by omega)
            have a2 : thgW x day < 3 := Nat.mod_lt _ (by omega)
            have hw2 := brgW (h := whoW s x day) hw.en hts (show day < 30 by omega) a2 hw1
            have hap : brgs (g_en s) (g_ta s 0) day (g_bs s day ++ [(whoW s x day, thgW x day)]) (wkR s x day) = brg (g_en s) (g_ta s 0) day (whoW s x day) (thgW x day) (brgs (g_en s) (g_ta s 0) day (g_bs s day) (wkR s x day)) := by
              unfold brgs; rw [List.foldl_append]; rfl
            rw [hap] at hrun
            refine jx_iload7 (pc := 62) d_J_weeks_62 ?_
            refine jx_iload2 (pc := 64) d_J_weeks_64 ?_
            refine jx_icmp_ge (pc := 65) 186 d_J_weeks_65 (by decide) (fun c65 => absurd c65 hlt') (fun c65 => ?_)
            refine jx_aload0 (pc := 68) d_J_weeks_68 ?_
            refine jx_getR (pc := 69) gf_J_40 d_J_weeks_69 ad_0 sh_0 rfl ?_
            refine jx_iload7 (pc := 72) d_J_weeks_72 ?_
            refine jx_callV1 (pc := 74) (d' := 0) vo_Co_isAwake lk_J_245 d_J_weeks_74 ad_15 sh_15 rfl (by omega) (Nat.le_of_ble_eq_true rfl) ?_
            refine c_Co_awake hC.2.2.1 hC.2.2.2 (show day < 30 by omega) ?_
            refine jx_r1 ?_
            refine jx_istore8 (pc := 77) d_J_weeks_77 rfl (Nat.le_of_ble_eq_true rfl) ?_
            refine jx_iload8 (pc := 79) d_J_weeks_79 ?_
            refine jx_if_eq (pc := 81) 95 d_J_weeks_81 (by decide) (fun c81 => absurd c81 (by rw [if_neg hs]; decide)) (fun c81 => ?_)
            refine jx_aload0 (pc := 84) d_J_weeks_84 ?_
            refine jx_getR (pc := 85) gf_J_40 d_J_weeks_85 ad_0 sh_0 rfl ?_
            refine jx_aload4 (pc := 88) d_J_weeks_88 ?_
            refine jx_iload7 (pc := 90) d_J_weeks_90 ?_
            refine jx_callV2 (pc := 92) (d' := d + 2) vo_Co_comeAsTold lk_J_248 d_J_weeks_92 ad_15 sh_15 rfl (by omega) (Nat.le_of_ble_eq_true rfl) ?_
            refine c_Co_comeAsTold (d := d + 1) mo_35 hC hts hM hwd (by omega) (show day < 30 by omega) (fun M2 hM2 hO2 => ?_)
            have h132 : M2 1 3 = nI (g_hn s) := by rw [hO2 1 (by omega) (by omega) (by omega) (by omega)]; exact h131
            refine jx_r0 ?_
            refine jx_aload0 (pc := 95) d_J_weeks_95 ?_
            refine jx_getR (pc := 96) gf_J_12 d_J_weeks_96 ad_0 sh_0 rfl ?_
            refine jx_getI (pc := 99) gf_J_169 d_J_weeks_99 ad_1 sh_1 rfl ?_
            refine jx_if_le (pc := 102) 159 d_J_weeks_102 (by decide) (fun c102 => absurd c102 (by rw [hO2 1 (by omega) (by omega) (by omega) (by omega)]; exact hgt)) (fun c102 => ?_)
            refine jx_iload5 (pc := 105) d_J_weeks_105 ?_
            refine jx_callS1 (pc := 107) (d' := 0) so_J_nextLot lk_J_252 d_J_weeks_107 (by omega) (Nat.le_of_ble_eq_true rfl) ?_
            refine c_J_nextLot ?_
            refine jx_r1 ?_
            refine jx_istore5 (pc := 110) d_J_weeks_110 rfl (Nat.le_of_ble_eq_true rfl) ?_
            refine jx_iload5 (pc := 112) d_J_weeks_112 ?_
            refine jx_bipush (pc := 114) (v := 16) d_J_weeks_114 (by decide) ?_
            refine jx_iushr (pc := 116) d_J_weeks_116 ?_
            refine jx_aload0 (pc := 117) d_J_weeks_117 ?_
            refine jx_getR (pc := 118) gf_J_12 d_J_weeks_118 ad_0 sh_0 rfl ?_
            refine jx_getI (pc := 121) gf_J_169 d_J_weeks_121 ad_1 sh_1 rfl ?_
            refine jx_irem (pc := 124) d_J_weeks_124 (by rw [hO2 1 (by omega) (by omega) (by omega) (by omega)]; exact hnz) ?_
            refine jx_istore9 (pc := 125) d_J_weeks_125 rfl (Nat.le_of_ble_eq_true rfl) ?_
            refine jx_iload5 (pc := 127) d_J_weeks_127 ?_
            refine jx_callS1 (pc := 129) (d' := 0) so_J_nextLot lk_J_252 d_J_weeks_129 (by omega) (Nat.le_of_ble_eq_true rfl) ?_
            refine c_J_nextLot ?_
            refine jx_r1 ?_
            refine jx_istore5 (pc := 132) d_J_weeks_132 rfl (Nat.le_of_ble_eq_true rfl) ?_
            refine jx_iload8 (pc := 134) d_J_weeks_134 ?_
            refine jx_if_eq (pc := 136) 159 d_J_weeks_136 (by decide) (fun c136 => absurd c136 (by rw [if_neg hs]; decide)) (fun c136 => ?_)
            refine jx_aload0 (pc := 139) d_J_weeks_139 ?_
            refine jx_getR (pc := 140) gf_J_40 d_J_weeks_140 ad_0 sh_0 rfl ?_
            refine jx_aload4 (pc := 143) d_J_weeks_143 ?_
            refine jx_iload7 (pc := 145) d_J_weeks_145 ?_
            refine jx_iload9 (pc := 147) d_J_weeks_147 ?_
            refine jx_iload5 (pc := 149) d_J_weeks_149 ?_
            refine jx_bipush (pc := 151) (v := 16) d_J_weeks_151 (by decide) ?_
            refine jx_iushr (pc := 153) d_J_weeks_153 ?_
            refine jx_iconst (pc := 154) (v := 3) d_J_weeks_154 (by decide) ?_
            refine jx_irem (pc := 155) d_J_weeks_155 (by decide) ?_
            refine jx_callV4 (pc := 156) (d' := 0) vo_Co_bring lk_J_255 d_J_weeks_156 ad_15 sh_15 rfl (by omega) (Nat.le_of_ble_eq_true rfl) ?_
            rw [h132, r1, r2]
            refine c_Co_bring mo_35 (hC.off mo_35 hO2).1 hts hM2 hw1 (by omega) (show day < 30 by omega) (show whoW s x day < 6 by omega) a2 (fun M3 hM3 hO3 => ?_)
            refine jx_r0 ?_
            rotate_left
            exact S159 M3 _ _ _ _ (hS.tr (Scr.off mo_35 (hO2.tr hO3))) hM3 hw2 (by omega) hrun.symm
    have hlot0 : lot 0 = x := by show (if g_hn s = 0 then x else lotW x 0) = x; split <;> rfl
    have hgo : j_W (d + 3) I_J_weeks X 30 [some (.ref 0), some (.int x), some (.int (nI c)), some (.int h), none, none, none, none, none, none] [] M := by
      refine jx_aload0 (pc := 30) d_J_weeks_30 ?_
      refine jx_getR (pc := 31) gf_J_40 d_J_weeks_31 ad_0 sh_0 rfl ?_
      refine jx_getR (pc := 34) gf_J_237 d_J_weeks_34 ad_15 sh_15 rfl ?_
      refine jx_iconst (pc := 37) (v := 0) d_J_weeks_37 (by decide) ?_
      refine jx_aald (pc := 38) (b := 35) d_J_weeks_38 ad_16 (Or.inl rfl) sh_16 (by unfold vp_in; decide) (by decide) ?_
      refine jx_astore4 (pc := 39) d_J_weeks_39 rfl (Nat.le_of_ble_eq_true rfl) ?_
      refine jx_aload4 (pc := 41) d_J_weeks_41 ?_
      refine jx_aload0 (pc := 43) d_J_weeks_43 ?_
      refine jx_getR (pc := 44) gf_J_28 d_J_weeks_44 ad_0 sh_0 rfl ?_
      refine jx_iconst (pc := 47) (v := 0) d_J_weeks_47 (by decide) ?_
      refine jx_aald (pc := 48) (b := 12) d_J_weeks_48 ad_11 (Or.inr rfl) sh_11 (by unfold vp_in; decide) (by decide) ?_
      refine jx_iconst (pc := 49) (v := (-1)) d_J_weeks_49 (by decide) ?_
      refine jx_callV2 (pc := 50) (d' := 0) vo_Mo_begin lk_J_241 d_J_weeks_50 (mo_a mo_35) (mo_s mo_35) rfl (by omega) (Nat.le_of_ble_eq_true rfl) ?_
      refine c_Mo_begin (ts := g_ta s 0) (tr := 9) mo_35 (by omega) sh_12 (fun t ht => hR.2.1 0 t (by omega) ht) (fun M1 hM1 hO1 => ?_)
      refine jx_r0 ?_
      refine jx_iload1 (pc := 53) d_J_weeks_53 ?_
      refine jx_istore5 (pc := 54) d_J_weeks_54 rfl (Nat.le_of_ble_eq_true rfl) ?_
      refine jx_iconst (pc := 56) (v := 0) d_J_weeks_56 (by decide) ?_
      refine jx_istore6 (pc := 57) d_J_weeks_57 rfl (Nat.le_of_ble_eq_true rfl) ?_
      refine jx_iconst (pc := 59) (v := 0) d_J_weeks_59 (by decide) ?_
      refine jx_istore7 (pc := 60) d_J_weeks_60 rfl (Nat.le_of_ble_eq_true rfl) ?_
      rotate_left
      have h9 := loop c 0 M1 none none (by omega) (Scr.off mo_35 hO1) hM1
      rw [hlot0] at h9
      exact h9
    have p1 : ¬ nI c < 1 := nI_nlt (b := 1) (by omega) (by omega)
    have p2 : ¬ (30 : Int32) < nI c := (show ¬ nI 30 < nI c from nI_nlt (by omega) (by omega))
    by_cases hm : h = -1
    · -- nobody is asked for
      refine jx_iload2 (pc := 0) d_J_weeks_0 ?_
      refine jx_iconst (pc := 1) (v := 1) d_J_weeks_1 (by decide) ?_
      refine jx_icmp_lt (pc := 2) 27 d_J_weeks_2 (by decide) (fun c2 => absurd c2 p1) (fun c2 => ?_)
      refine jx_iload2 (pc := 5) d_J_weeks_5 ?_
      refine jx_bipush (pc := 6) (v := 30) d_J_weeks_6 (by decide) ?_
      refine jx_icmp_gt (pc := 8) 27 d_J_weeks_8 (by decide) (fun c8 => absurd c8 p2) (fun c8 => ?_)
      refine jx_iload3 (pc := 11) d_J_weeks_11 ?_
      refine jx_iconst (pc := 12) (v := (-1)) d_J_weeks_12 (by decide) ?_
      refine jx_icmp_eq (pc := 13) 30 d_J_weeks_13 (by decide) (fun c13 => ?_) (fun c13 => absurd c13 (fun q => q hm))
      rotate_left
      exact hgo
    · have hp3 : 0 ≤ h ∧ h < M 1 3 := by rw [h13]; exact g3.resolve_left hm
      refine jx_iload2 (pc := 0) d_J_weeks_0 ?_
      refine jx_iconst (pc := 1) (v := 1) d_J_weeks_1 (by decide) ?_
      refine jx_icmp_lt (pc := 2) 27 d_J_weeks_2 (by decide) (fun c2 => absurd c2 p1) (fun c2 => ?_)
      refine jx_iload2 (pc := 5) d_J_weeks_5 ?_
      refine jx_bipush (pc := 6) (v := 30) d_J_weeks_6 (by decide) ?_
      refine jx_icmp_gt (pc := 8) 27 d_J_weeks_8 (by decide) (fun c8 => absurd c8 p2) (fun c8 => ?_)
      refine jx_iload3 (pc := 11) d_J_weeks_11 ?_
      refine jx_iconst (pc := 12) (v := (-1)) d_J_weeks_12 (by decide) ?_
      refine jx_icmp_eq (pc := 13) 30 d_J_weeks_13 (by decide) (fun c13 => absurd c13 hm) (fun c13 => ?_)
      refine jx_aload0 (pc := 16) d_J_weeks_16 ?_
      refine jx_getR (pc := 17) gf_J_12 d_J_weeks_17 ad_0 sh_0 rfl ?_
      refine jx_iload3 (pc := 20) d_J_weeks_20 ?_
      refine jx_callV1 (pc := 21) (d' := 0) vo_He_has lk_J_101 d_J_weeks_21 ad_1 sh_1 rfl (by omega) (Nat.le_of_ble_eq_true rfl) ?_
      refine c_He_has ?_
      refine jx_r1 ?_
      refine jx_if_ne (pc := 24) 30 d_J_weeks_24 (by decide) (fun c24 => ?_) (fun c24 => absurd c24 (z01p hp3))
      rotate_left
      exact hgo
  · have hr : r_weeks s x n h = -2 := by unfold r_weeks; rw [if_neg hb]
    rw [hr] at k
    refine jx_iload2 (pc := 0) d_J_weeks_0 ?_
    refine jx_iconst (pc := 1) (v := 1) d_J_weeks_1 (by decide) ?_
    refine jx_icmp_lt (pc := 2) 27 d_J_weeks_2 (by decide) (fun c2 => ?_) (fun c2 => ?_)
    refine jx_bipush (pc := 27) (v := (-2)) d_J_weeks_27 (by decide) ?_
    refine jx_iret (pc := 29) hX rfl d_J_weeks_29 ?_
    rotate_left
    refine jx_iload2 (pc := 5) d_J_weeks_5 ?_
    refine jx_bipush (pc := 6) (v := 30) d_J_weeks_6 (by decide) ?_
    refine jx_icmp_gt (pc := 8) 27 d_J_weeks_8 (by decide) (fun c8 => ?_) (fun c8 => ?_)
    refine jx_bipush (pc := 27) (v := (-2)) d_J_weeks_27 (by decide) ?_
    refine jx_iret (pc := 29) hX rfl d_J_weeks_29 ?_
    rotate_left
    refine jx_iload3 (pc := 11) d_J_weeks_11 ?_
    refine jx_iconst (pc := 12) (v := (-1)) d_J_weeks_12 (by decide) ?_
    refine jx_icmp_eq (pc := 13) 30 d_J_weeks_13 (by decide) (fun c13 => ?_) (fun c13 => ?_)
    rotate_left
    refine jx_aload0 (pc := 16) d_J_weeks_16 ?_
    refine jx_getR (pc := 17) gf_J_12 d_J_weeks_17 ad_0 sh_0 rfl ?_
    refine jx_iload3 (pc := 20) d_J_weeks_20 ?_
    refine jx_callV1 (pc := 21) (d' := 0) vo_He_has lk_J_101 d_J_weeks_21 ad_1 sh_1 rfl (by omega) (Nat.le_of_ble_eq_true rfl) ?_
    refine c_He_has ?_
    refine jx_r1 ?_
    refine jx_if_ne (pc := 24) 30 d_J_weeks_24 (by decide) (fun c24 => ?_) (fun c24 => ?_)
    rotate_left
    refine jx_bipush (pc := 27) (v := (-2)) d_J_weeks_27 (by decide) ?_
    refine jx_iret (pc := 29) hX rfl d_J_weeks_29 ?_
    rotate_left
    · exact k M Scr.rf
    · exact k M Scr.rf
    · exact absurd ⟨⟨Int32.not_lt.mp c2, Int32.not_lt.mp c8⟩, Or.inl c13⟩ hb
    · have g3 := z01n c24
      rw [h13] at g3
      exact absurd ⟨⟨Int32.not_lt.mp c2, Int32.not_lt.mp c8⟩, Or.inr g3⟩ hb
    · exact k M Scr.rf
