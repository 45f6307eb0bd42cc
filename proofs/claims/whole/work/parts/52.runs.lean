/-! THE REFERENCE: who is found, a run of days -/
theorem c_R_finds {d old b : Nat} {n : Nat} {lk : Nat → Nat} {M : j_M} {Q : Option Value → j_M → Prop} (hn6 : n ≤ 6) (hn : M 79 2 = nI n) (hlk : ∀ i, i < 6 → M 89 i = nI (lk i)) (hb : ∀ i, lk i ≤ b) (hb2 : b ≤ 2000000) (ho : old < n ∨ old = 9) (k : Q (some (.int (em (pick lk n old)))) M) : j_Ct d I_R_finds [.ref 79, .int (em old)] M Q := by
  refine j_met (by decide +kernel) co_R_finds (Nat.le_of_ble_eq_true rfl) (fun X hX => ?_)
  show j_W d I_R_finds X 0 [some (.ref 79), some (.int (em old)), none, none, none] [] M
  have loop : ∀ (r i : Nat), i + r = n → j_W d I_R_finds X 7 [some (.ref 79), some (.int (em old)), some (.int (em (fnd lk i).1)), some (.int (nI (fnd lk i).2)), some (.int (nI i))] [] M := by
    intro r
    induction r with
    | zero =>
      intro i hi
      have hi2 : i = n := by omega
      have hf9 := fnd_lt lk i
      have hfl : (fnd lk i).2 ≤ b := fnd_le lk hb i
      have c1 : em (fnd lk i).1 = -1 ↔ (fnd lk i).1 = 9 := em_m1 (by omega)
      have c2 : em old = -1 ↔ old = 9 := em_m1 (by omega)
      refine jx_iload4 (pc := 7) d_R_finds_7 ?_
      refine jx_aload0 (pc := 9) d_R_finds_9 ?_
      refine jx_getI (pc := 10) gf_R_102 d_R_finds_10 ad_79 sh_79 rfl ?_
      refine jx_icmp_ge (pc := 13) 63 d_R_finds_13 (by decide) (fun c13 => ?_) (fun c13 => absurd c13 (fun q => q (by rw [hn, hi2]; exact Int32.le_refl _)))
      refine jx_iload2 (pc := 63) d_R_finds_63 ?_
      refine jx_iconst (pc := 64) (v := (-1)) d_R_finds_64 (by decide) ?_
      refine jx_icmp_eq (pc := 65) 87 d_R_finds_65 (by decide) (fun c65 => ?_) (fun c65 => ?_)
      refine jx_iload2 (pc := 87) d_R_finds_87 ?_
      refine jx_iret (pc := 88) hX rfl d_R_finds_88 ?_
      rotate_left
      refine jx_iload1 (pc := 68) d_R_finds_68 ?_
      refine jx_iconst (pc := 69) (v := (-1)) d_R_finds_69 (by decide) ?_
      refine jx_icmp_eq (pc := 70) 87 d_R_finds_70 (by decide) (fun c70 => ?_) (fun c70 => ?_)
      refine jx_iload2 (pc := 87) d_R_finds_87 ?_
      refine jx_iret (pc := 88) hX rfl d_R_finds_88 ?_
      rotate_left
      rotate_left
      · have h9 := c1.mp c65
        unfold pick at k
        rw [← hi2, if_neg (fun q => q.1 h9)] at k
        exact k
      · have h9 := c2.mp c70
        unfold pick at k
        rw [← hi2, if_neg (fun q => q.2.1 h9)] at k
        exact k
      · have hon : old < n := by
          rcases ho with q | q
          · exact q
          · exact absurd (c2.mpr q) c70
        have eo : (em old).toNatClampNeg = old := by rw [em_lt (by omega)]; exact nI_cl (by omega)
        have hv : vp_in (em old) 6 := by rw [em_lt (by omega)]; exact vp_in_nI (by omega) (by omega)
        refine jx_aload0 (pc := 73) d_R_finds_73 ?_
        refine jx_getR (pc := 74) gf_R_37 d_R_finds_74 ad_79 sh_79 rfl ?_
        refine jx_iload1 (pc := 77) d_R_finds_77 ?_
        refine jx_iald (pc := 78) d_R_finds_78 ad_89 sh_89 hv ?_
        refine jx_iload3 (pc := 79) d_R_finds_79 ?_
        refine jx_icmp_ne (pc := 80) 87 d_R_finds_80 (by decide) (fun c80 => ?_) (fun c80 => ?_)
        refine jx_iload2 (pc := 87) d_R_finds_87 ?_
        refine jx_iret (pc := 88) hX rfl d_R_finds_88 ?_
        rotate_left
        refine jx_iload1 (pc := 83) d_R_finds_83 ?_
        refine jx_goto (pc := 84) 88 d_R_finds_84 (by decide) ?_
        refine jx_iret (pc := 88) hX rfl d_R_finds_88 ?_
        rotate_left
        · rw [eo, hlk old (by omega)] at c80
          unfold pick at k
          rw [← hi2, if_neg (fun q => c80 (by rw [q.2.2]))] at k
          exact k
        · rw [eo, hlk old (by omega)] at c80
          have c80' := (nI_eq (by have := hb old; omega) (by omega)).mp c80
          unfold pick at k
          rw [← hi2, if_pos ⟨fun q => c65 (c1.mpr q), fun q => by omega, c80'⟩] at k
          exact k
    | succ r ih =>
      intro i hi
      have e1 : (nI i).toNatClampNeg = i := nI_cl (by omega)
      have hv6 : vp_in (nI i) 6 := vp_in_nI (by omega) (by omega)
      have hli : M 89 (nI i).toNatClampNeg = nI (lk i) := by rw [e1]; exact hlk i (by omega)
      have hfl : (fnd lk i).2 ≤ b := fnd_le lk hb i
      have hlb := hb i
      have hcmp : nI (lk i) ≤ nI (fnd lk i).2 ↔ lk i ≤ (fnd lk i).2 := nI_leI (by omega) (by omega)
      refine jx_iload4 (pc := 7) d_R_finds_7 ?_
      refine jx_aload0 (pc := 9) d_R_finds_9 ?_
      refine jx_getI (pc := 10) gf_R_102 d_R_finds_10 ad_79 sh_79 rfl ?_
      refine jx_icmp_ge (pc := 13) 63 d_R_finds_13 (by decide) (fun c13 => absurd c13 (by rw [hn]; exact nI_ge (by omega) (by omega))) (fun c13 => ?_)
      refine jx_aload0 (pc := 16) d_R_finds_16 ?_
      refine jx_getR (pc := 17) gf_R_37 d_R_finds_17 ad_79 sh_79 rfl ?_
      refine jx_iload4 (pc := 20) d_R_finds_20 ?_
      refine jx_iald (pc := 22) d_R_finds_22 ad_89 sh_89 (by first | assumption | exact vp_in_nI (by omega) (by omega)) ?_
      refine jx_iload3 (pc := 23) d_R_finds_23 ?_
      refine jx_icmp_le (pc := 24) 32 d_R_finds_24 (by decide) (fun c24 => ?_) (fun c24 => ?_)
      refine jx_iload2 (pc := 32) d_R_finds_32 ?_
      refine jx_istore2 (pc := 33) d_R_finds_33 rfl (Nat.le_of_ble_eq_true rfl) ?_
      refine jx_aload0 (pc := 34) d_R_finds_34 ?_
      refine jx_getR (pc := 35) gf_R_37 d_R_finds_35 ad_79 sh_79 rfl ?_
      refine jx_iload4 (pc := 38) d_R_finds_38 ?_
      refine jx_iald (pc := 40) d_R_finds_40 ad_89 sh_89 (by first | assumption | exact vp_in_nI (by omega) (by omega)) ?_
      refine jx_iload3 (pc := 41) d_R_finds_41 ?_
      refine jx_icmp_le (pc := 42) 55 d_R_finds_42 (by decide) (fun c42 => ?_) (fun c42 => ?_)
      refine jx_iload3 (pc := 55) d_R_finds_55 ?_
      refine jx_istore3 (pc := 56) d_R_finds_56 rfl (Nat.le_of_ble_eq_true rfl) ?_
      refine jx_iinc4 (pc := 57) d_R_finds_57 rfl (Nat.le_of_ble_eq_true rfl) ?_
      refine jx_goto (pc := 60) 7 d_R_finds_60 (by decide) ?_
      rotate_left
      refine jx_aload0 (pc := 45) d_R_finds_45 ?_
      refine jx_getR (pc := 46) gf_R_37 d_R_finds_46 ad_79 sh_79 rfl ?_
      refine jx_iload4 (pc := 49) d_R_finds_49 ?_
      refine jx_iald (pc := 51) d_R_finds_51 ad_89 sh_89 (by first | assumption | exact vp_in_nI (by omega) (by omega)) ?_
      refine jx_goto (pc := 52) 56 d_R_finds_52 (by decide) ?_
      refine jx_istore3 (pc := 56) d_R_finds_56 rfl (Nat.le_of_ble_eq_true rfl) ?_
      refine jx_iinc4 (pc := 57) d_R_finds_57 rfl (Nat.le_of_ble_eq_true rfl) ?_
      refine jx_goto (pc := 60) 7 d_R_finds_60 (by decide) ?_
      rotate_left
      refine jx_iload4 (pc := 27) d_R_finds_27 ?_
      refine jx_goto (pc := 29) 33 d_R_finds_29 (by decide) ?_
      refine jx_istore2 (pc := 33) d_R_finds_33 rfl (Nat.le_of_ble_eq_true rfl) ?_
      refine jx_aload0 (pc := 34) d_R_finds_34 ?_
      refine jx_getR (pc := 35) gf_R_37 d_R_finds_35 ad_79 sh_79 rfl ?_
      refine jx_iload4 (pc := 38) d_R_finds_38 ?_
      refine jx_iald (pc := 40) d_R_finds_40 ad_89 sh_89 (by first | assumption | exact vp_in_nI (by omega) (by omega)) ?_
      refine jx_iload3 (pc := 41) d_R_finds_41 ?_
      refine jx_icmp_le (pc := 42) 55 d_R_finds_42 (by decide) (fun c42 => ?_) (fun c42 => ?_)
      refine jx_iload3 (pc := 55) d_R_finds_55 ?_
      refine jx_istore3 (pc := 56) d_R_finds_56 rfl (Nat.le_of_ble_eq_true rfl) ?_
      refine jx_iinc4 (pc := 57) d_R_finds_57 rfl (Nat.le_of_ble_eq_true rfl) ?_
      refine jx_goto (pc := 60) 7 d_R_finds_60 (by decide) ?_
      rotate_left
      refine jx_aload0 (pc := 45) d_R_finds_45 ?_
      refine jx_getR (pc := 46) gf_R_37 d_R_finds_46 ad_79 sh_79 rfl ?_
      refine jx_iload4 (pc := 49) d_R_finds_49 ?_
      refine jx_iald (pc := 51) d_R_finds_51 ad_89 sh_89 (by first | assumption | exact vp_in_nI (by omega) (by omega)) ?_
      refine jx_goto (pc := 52) 56 d_R_finds_52 (by decide) ?_
      refine jx_istore3 (pc := 56) d_R_finds_56 rfl (Nat.le_of_ble_eq_true rfl) ?_
      refine jx_iinc4 (pc := 57) d_R_finds_57 rfl (Nat.le_of_ble_eq_true rfl) ?_
      refine jx_goto (pc := 60) 7 d_R_finds_60 (by decide) ?_
      rotate_left
      · rw [hli, hcmp] at c24
        have h3 := ih (i + 1) (by omega)
        rw [show fnd lk (i + 1) = fnd lk i by rw [fnd, if_neg (by omega)]] at h3
        rw [nI_add1]
        exact h3
      · exact absurd c24 c42
      · exact absurd c42 c24
      · rw [hli, hcmp] at c24
        have h3 := ih (i + 1) (by omega)
        have h4 : em (i, lk i).1 = nI i := em_lt (show i < 9 by omega)
        rw [show fnd lk (i + 1) = (i, lk i) by rw [fnd, if_pos (by omega)], h4] at h3
        rw [nI_add1, hli]
        exact h3
  refine jx_iconst (pc := 0) (v := (-1)) d_R_finds_0 (by decide) ?_
  refine jx_istore2 (pc := 1) d_R_finds_1 rfl (Nat.le_of_ble_eq_true rfl) ?_
  refine jx_iconst (pc := 2) (v := 0) d_R_finds_2 (by decide) ?_
  refine jx_istore3 (pc := 3) d_R_finds_3 rfl (Nat.le_of_ble_eq_true rfl) ?_
  refine jx_iconst (pc := 4) (v := 0) d_R_finds_4 (by decide) ?_
  refine jx_istore4 (pc := 5) d_R_finds_5 rfl (Nat.le_of_ble_eq_true rfl) ?_
  rotate_left
  exact loop n 0 (by omega)
theorem dl_succ (V : VS) (j d : Nat) : dl (j + 1, V.2) d = dl (j, V.2) d ++ (if V.2.1 j = d then [(V.2.2.1 j, V.2.2.2 j)] else []) := by
  unfold dl
  rw [ixV_succ, List.map_append]
  congr 1
  by_cases h : V.2.1 j = d <;> simp [h]
theorem dl_len (V : VS) (d : Nat) : (dl V d).length ≤ V.1 := by
  unfold dl ixV
  rw [List.length_map]
  exact Nat.le_trans (List.length_filter_le _ _) (by simp)
theorem dl_mem {V : VS} {d : Nat} {q : Nat × Nat} (h : q ∈ dl V d) : ∃ k, k < V.1 ∧ V.2.1 k = d ∧ q = (V.2.2.1 k, V.2.2.2 k) := by
  unfold dl at h
  obtain ⟨k, hk, rfl⟩ := List.mem_map.mp h
  exact ⟨k, (ixV_mem.mp hk).1, (ixV_mem.mp hk).2, rfl⟩
theorem brgs_app (e : En) (ts : Nat → Nat) (day : Nat) (l1 l2 : List (Nat × Nat)) (m : Mo) : brgs e ts day (l1 ++ l2) m = brgs e ts day l2 (brgs e ts day l1 m) := by simp [brgs, List.foldl_append]
theorem run_cm (e : En) (ts : Nat → Nat) (tr sl : Nat) (bs : Nat → List (Nat × Nat)) (k : Nat) : (run e ts tr sl bs k).2.2.2.1 = 0 := by cases k <;> rfl
theorem ER.wf {e : En} {dog : Nat} {ts : Nat → Nat} {tr sl : Nat} {V N : VS} {M : j_M} (h : ER e dog ts tr sl V N M) (d : Nat) : (∀ q ∈ bsR V N d, q.1 < 6 ∧ q.2 < 3) ∧ (bsR V N d).length ≤ 54 := by
  obtain ⟨-, -, -, -, -, -, -, -, -, -, -, -, ⟨-, hV, hv⟩, ⟨-, hN, hm⟩⟩ := h
  refine ⟨fun q hq => ?_, ?_⟩
  · rcases List.mem_append.mp hq with z | z
    · obtain ⟨k, h1, h2, rfl⟩ := dl_mem z
      have := hv k h1
      exact ⟨this.2.2.2.2.1, this.2.2.2.2.2⟩
    · obtain ⟨k, h1, h2, rfl⟩ := dl_mem z
      have := hm k h1
      exact ⟨this.2.2.2.2.1, this.2.2.2.2.2⟩
  · unfold bsR
    rw [List.length_append]
    have := dl_len V d
    have := dl_len N d
    omega
theorem c_R_runs {d dog last : Nat} {e : En} {ts : Nat → Nat} {tr sl : Nat} {V N : VS} {M : j_M} {Q : Option Value → j_M → Prop} (hdog : dog < 2) (hlast : last < 30) (hE : ER e dog ts tr sl V N M) (htr : tr < e.1.1 ∨ tr = 9)
    (k : ∀ M', (∀ q, q ≤ last → M' 91 q = em (run e ts tr sl (bsR V N) (q + 1)).2.2.2.2) → (∀ i, i < 6 → M' 89 i = nI ((run e ts tr sl (bsR V N) (last + 1)).1 i)) → OffR M M' → Q none M') : j_Ct (d + 2) I_R_runs [.ref 79, .int (nI dog), .int (nI last)] M Q := by
  refine j_met (by decide +kernel) co_R_runs (Nat.le_of_ble_eq_true rfl) (fun X hX => ?_)
  show j_W (d + 2) I_R_runs X 0 [some (.ref 79), some (.int (nI dog)), some (.int (nI last)), none, none, none, none] [] M
  have hEW := hE.1
  have hts := hE.2.1
  have hn6 : e.1.1 ≤ 6 := hEW.1
  have hfa9 := hEW.2.2.2.2.1
  have hnt9 := hEW.2.2.2.2.2
  have hwf := hE.wf
  have hrw : ∀ q, q ≤ 30 → MoW e (10000 * q) (run e ts tr sl (bsR V N) q) := fun q hq => runW hEW hts (fun k z hz => ((hwf k).1 z hz).2) (fun k => by have := (hwf k).2; omega) q hq
  -- day by day
  have days : ∀ (r dy : Nat) (M1 : j_M), dy + r = last + 1 → OffR M M1 → (∀ i, i < 6 → M1 89 i = nI ((run e ts tr sl (bsR V N) dy).1 i)) → (∀ i, i < 6 → M1 90 i = em ((run e ts tr sl (bsR V N) dy).2.1 i)) → M1 79 22 = (if (run e ts tr sl (bsR V N) dy).2.2.1 = 99 then -1 else nI (run e ts tr sl (bsR V N) dy).2.2.1) → (∀ q, q < dy → M1 91 q = em (run e ts tr sl (bsR V N) (q + 1)).2.2.2.2) →
      j_W (d + 2) I_R_runs X 38 [some (.ref 79), some (.int (nI dog)), some (.int (nI last)), some (.int (em (run e ts tr sl (bsR V N) dy).2.2.2.2)), some (.int (nI dy)), none, none] [] M1 := by
    intro r
    induction r with
    | zero =>
      intro dy M1 hr hO g1 g2 g3 g4
      have hdy : dy = last + 1 := by omega
      refine jx_iload4 (pc := 38) d_R_runs_38 ?_
      refine jx_iload2 (pc := 40) d_R_runs_40 ?_
      refine jx_icmp_gt (pc := 41) 276 d_R_runs_41 (by decide) (fun c41 => ?_) (fun c41 => absurd c41 (fun q => q (nI_lt (by omega) (by omega))))
      refine jx_vret (pc := 276) hX rfl d_R_runs_276 ?_
      rotate_left
      rw [hdy] at g1 g4
      exact k M1 (fun q hq => g4 q (by omega)) g1 hO
    | succ r ih =>
      intro dy M1 hr hO g1 g2 g3 g4
      have hdy : dy < 30 := by omega
      have hmw := hrw dy (by omega)
      have hcm := run_cm e ts tr sl (bsR V N) dy
      generalize hm : run e ts tr sl (bsR V N) dy = m at g1 g2 g3 hmw hcm
      have hnext : run e ts tr sl (bsR V N) (dy + 1) = eve e tr (if sl.testBit dy then m else brgs e ts dy (bsR V N dy) m) := by rw [run, dayS, hm]
      -- the moods of the day, visit by visit
      have hpmw : ∀ l : List (Nat × Nat), (∀ q ∈ l, q.1 < 6 ∧ q.2 < 3) → l.length ≤ 54 → MoW e (10000 * dy + 8748) (if sl.testBit dy then m else brgs e ts dy l m) := by
        intro l h1 h2
        split
        · exact hmw.up (by omega)
        · exact (brgsW hEW hts hdy l _ m (fun x hx => (h1 x hx).2) hmw).up (by omega)
      -- behind the visits
      have S151 : ∀ (M2 : j_M) (v5 : Int32) (pm : Mo), MoR M2 pm → OffR M M2 → (∀ q, q < dy → M2 91 q = em (run e ts tr sl (bsR V N) (q + 1)).2.2.2.2) → MoW e (10000 * dy + 8748) pm → pm.2.2.2.2 = m.2.2.2.2 → run e ts tr sl (bsR V N) (dy + 1) = eve e tr pm →
          j_W (d + 2) I_R_runs X 151 [some (.ref 79), some (.int (nI dog)), some (.int (nI last)), some (.int (em m.2.2.2.2)), some (.int (nI dy)), some (.int v5), none] [] M2 := by
        intro M2 v5 pm hM2 hO2 g42 hpw hfd hnx
        obtain ⟨lk, la, sg, cm, fd⟩ := pm
        obtain ⟨n1, n2, n3, n4⟩ := id hM2
        obtain ⟨w1, w2, w3, w4, w5, w6⟩ := id hpw
        simp only [] at n1 n2 n3 n4 w1 w2 w3 w4 w5 w6 hfd
        have fade : ∀ (r2 i : Nat) (M3 : j_M), i + r2 = e.1.1 → OffR M M3 → (∀ q, q < dy → M3 91 q = em (run e ts tr sl (bsR V N) (q + 1)).2.2.2.2) → M3 90 = M2 90 → M3 79 = M2 79 → (∀ j, j < 6 → M3 89 j = nI (if j < i then (if cm.testBit j then lk j else lk j - e.2.1.2.2) else lk j)) →
            j_W (d + 2) I_R_runs X 154 [some (.ref 79), some (.int (nI dog)), some (.int (nI last)), some (.int (em m.2.2.2.2)), some (.int (nI dy)), some (.int (nI i)), none] [] M3 := by
          intro r2
          induction r2 with
          | zero =>
            intro i M3 hi hO3 g43 h90 h79 h89
            have hE3 := hE.off hO3
            have hn3 : M3 79 2 = nI e.1.1 := hE3.2.2.1
            have htr3 : M3 79 19 = em tr := hE3.2.2.2.2.2.2.2.2.2.2.2.1
            have hnt3 : M3 79 9 = nI e.2.2 := hE3.2.2.2.2.2.2.2.2.1
            -- behind the trainer's night
            have S256 : ∀ (M4 : j_M), OffR M M4 → (∀ q, q < dy → M4 91 q = em (run e ts tr sl (bsR V N) (q + 1)).2.2.2.2) → M4 90 = M2 90 → M4 79 = M2 79 → (∀ j, j < 6 → M4 89 j = nI (fadL e tr (lk, la, sg, cm, fd) j)) → j_W (d + 2) I_R_runs X 256 [some (.ref 79), some (.int (nI dog)), some (.int (nI last)), some (.int (em m.2.2.2.2)), some (.int (nI dy)), some (.int (nI i)), none] [] M4 := by
              intro M4 hO4 g44 h904 h794 h894
              have hn4 : M4 79 2 = nI e.1.1 := (hE.off hO4).2.2.1
              have hev := eveW (tr := tr) hEW hpw
              have ed : (nI dy).toNatClampNeg = dy := nI_cl (by omega)
              refine jx_aload0 (pc := 256) d_R_runs_256 ?_
              refine jx_iload3 (pc := 257) d_R_runs_257 ?_
              refine jx_callV1 (pc := 258) (d' := 0) vo_R_finds lk_R_169 d_R_runs_258 ad_79 sh_79 rfl (by omega) (Nat.le_of_ble_eq_true rfl) ?_
              refine c_R_finds (b := 10000 * dy + 8748 + 9) hn6 hn4 h894 hev.1 (by omega) (by rw [← hfd]; exact w5) ?_
              refine jx_r1 ?_
              refine jx_istore3 (pc := 261) d_R_runs_261 rfl (Nat.le_of_ble_eq_true rfl) ?_
              refine jx_aload0 (pc := 262) d_R_runs_262 ?_
              refine jx_getR (pc := 263) gf_R_43 d_R_runs_263 ad_79 sh_79 rfl ?_
              refine jx_iload4 (pc := 266) d_R_runs_266 ?_
              refine jx_iload3 (pc := 268) d_R_runs_268 ?_
              refine jx_iast (pc := 269) d_R_runs_269 ad_91 sh_91 (vp_in_nI hdy (by omega)) ?_
              refine jx_iinc4 (pc := 270) d_R_runs_270 rfl (Nat.le_of_ble_eq_true rfl) ?_
              refine jx_goto (pc := 273) 38 d_R_runs_273 (by decide) ?_
              rotate_left
              rw [nI_add1, ed]
              have hfd2 : pick (fadL e tr (lk, la, sg, cm, fd)) e.1.1 m.2.2.2.2 = (run e ts tr sl (bsR V N) (dy + 1)).2.2.2.2 := by rw [hnx, ← hfd]; rfl
              rw [hfd2]
              refine jx_sub (L' := [some (.ref 79), some (.int (nI dog)), some (.int (nI last)), some (.int (em (run e ts tr sl (bsR V N) (dy + 1)).2.2.2.2)), some (.int (nI (dy + 1))), none, none]) (fun j v => by rcases j with _ | _ | _ | _ | _ | _ | _ | j <;> simp) (ih (dy + 1) _ (by omega) (hO4.tr (OffR.arr (Or.inr (Or.inr rfl)))) (fun i hi => ?_) (fun i hi => ?_) ?_ (fun q hq => ?_))
              · rw [j_set_n _ _ _ (by omega), hnx]; exact h894 i hi
              · rw [j_set_n _ _ _ (by omega), hnx, h904]; exact n2 i hi
              · rw [j_set_n _ _ _ (by omega), hnx, h794]; exact n3
              · rw [j_set_s]
                unfold upd
                by_cases hc : q = dy
                · rw [if_pos hc, hc]
                · rw [if_neg hc]; exact g44 q (by omega)
            have ctr : em tr = -1 ↔ tr = 9 := em_m1 (by omega)
            have hi2 : i = e.1.1 := by omega
            have base : ∀ j, j < 6 → tr ≠ j → M3 89 j = nI (fadL e tr (lk, la, sg, cm, fd) j) := by
              intro j hj hne
              rw [h89 j hj, hi2]
              unfold fadL
              simp only []
              by_cases hjn : j < e.1.1
              · rw [if_pos hjn, if_pos hjn, if_neg (show ¬ j = tr from fun q => hne q.symm), Nat.add_zero]
              · rw [if_neg hjn, if_neg hjn]
            refine jx_iload5 (pc := 154) d_R_runs_154 ?_
            refine jx_aload0 (pc := 156) d_R_runs_156 ?_
            refine jx_getI (pc := 157) gf_R_102 d_R_runs_157 ad_79 sh_79 rfl ?_
            refine jx_icmp_ge (pc := 160) 232 d_R_runs_160 (by decide) (fun c160 => ?_) (fun c160 => absurd c160 (fun q => q (by rw [hn3, hi2]; exact Int32.le_refl _)))
            refine jx_aload0 (pc := 232) d_R_runs_232 ?_
            refine jx_getI (pc := 233) gf_R_152 d_R_runs_233 ad_79 sh_79 rfl ?_
            refine jx_iconst (pc := 236) (v := (-1)) d_R_runs_236 (by decide) ?_
            refine jx_icmp_eq (pc := 237) 256 d_R_runs_237 (by decide) (fun c237 => ?_) (fun c237 => ?_)
            rotate_left
            refine jx_aload0 (pc := 240) d_R_runs_240 ?_
            refine jx_getR (pc := 241) gf_R_37 d_R_runs_241 ad_79 sh_79 rfl ?_
            refine jx_aload0 (pc := 244) d_R_runs_244 ?_
            refine jx_getI (pc := 245) gf_R_152 d_R_runs_245 ad_79 sh_79 rfl ?_
            refine jx_dup2ri (pc := 248) d_R_runs_248 ?_
            refine jx_iald (pc := 249) d_R_runs_249 ad_89 sh_89 (by rw [htr3]; have hne : ¬ tr = 9 := fun q => c237 (by rw [htr3]; exact ctr.mpr q); rw [em_lt (by omega)]; exact vp_in_nI (by omega) (by omega)) ?_
            refine jx_aload0 (pc := 250) d_R_runs_250 ?_
            refine jx_getI (pc := 251) gf_R_90 d_R_runs_251 ad_79 sh_79 rfl ?_
            refine jx_iadd (pc := 254) d_R_runs_254 ?_
            refine jx_iast (pc := 255) d_R_runs_255 ad_89 sh_89 (by rw [htr3]; have hne : ¬ tr = 9 := fun q => c237 (by rw [htr3]; exact ctr.mpr q); rw [em_lt (by omega)]; exact vp_in_nI (by omega) (by omega)) ?_
            rotate_left
            · rw [htr3] at c237
              have h9 := ctr.mp c237
              exact S256 M3 hO3 g43 h90 h79 (fun j hj => base j hj (by omega))
            · rw [htr3] at c237 ⊢
              have h9 : tr ≠ 9 := fun q => c237 (ctr.mpr q)
              have htn : tr < e.1.1 := by omega
              have etr : (em tr).toNatClampNeg = tr := by rw [em_lt (by omega)]; exact nI_cl (by omega)
              rw [etr, hnt3]
              refine S256 _ (hO3.tr (OffR.arr (Or.inl rfl))) (fun q hq => by rw [j_set_n _ _ _ (by omega)]; exact g43 q hq) (by rw [j_set_n _ _ _ (by omega)]; exact h90) (by rw [j_set_n _ _ _ (by omega)]; exact h79) (fun j hj => ?_)
              rw [j_set_s]
              show upd (M3 89) tr (M3 89 tr + nI e.2.2) j = _
              unfold upd
              by_cases hc : j = tr
              · rw [if_pos hc, h89 tr (by omega), hi2, if_pos htn, nI_add, hc]
                unfold fadL
                simp only []
                rw [if_pos htn]; simp
              · rw [if_neg hc]; exact base j hj (fun q => hc q.symm)
          | succ r2 ih2 =>
            intro i M3 hi hO3 g43 h90 h79 h89
            have hE3 := hE.off hO3
            have hn3 : M3 79 2 = nI e.1.1 := hE3.2.2.1
            have hfa3 : M3 79 7 = nI e.2.1.2.2 := hE3.2.2.2.2.2.2.2.1
            have hcm3 : M3 79 23 = nI cm := by rw [h79]; exact n4
            have e1 : (nI i).toNatClampNeg = i := nI_cl (by omega)
            have hv6 : vp_in (nI i) 6 := vp_in_nI (by omega) (by omega)
            have hli : M3 89 i = nI (lk i) := by rw [h89 i (by omega), if_neg (by omega)]
            have hlb := w1 i
            have hlt : nI (lk i) ≤ nI e.2.1.2.2 ↔ lk i ≤ e.2.1.2.2 := nI_leI (by omega) (by omega)
            -- the lesser one is at hand
            have S193 : ∀ (v : Int32), v = nI (lk i - e.2.1.2.2) → j_W (d + 2) I_R_runs X 193 [some (.ref 79), some (.int (nI dog)), some (.int (nI last)), some (.int (em m.2.2.2.2)), some (.int (nI dy)), some (.int (nI i)), none] [.int v] M3 := by
              intro v hv
              have next : ∀ (x : Nat), x = (if cm.testBit i then lk i else lk i - e.2.1.2.2) → j_W (d + 2) I_R_runs X 154 [some (.ref 79), some (.int (nI dog)), some (.int (nI last)), some (.int (em m.2.2.2.2)), some (.int (nI dy)), some (.int (nI (i + 1))), none] [] (j_set M3 89 i (nI x)) := by
                intro x hx
                refine ih2 (i + 1) _ (by omega) (hO3.tr (OffR.arr (Or.inl rfl))) (fun q hq => by rw [j_set_n _ _ _ (by omega)]; exact g43 q hq) (by rw [j_set_n _ _ _ (by omega)]; exact h90) (by rw [j_set_n _ _ _ (by omega)]; exact h79) (fun j hj => ?_)
                rw [j_set_s]
                unfold upd
                by_cases hc : j = i
                · rw [if_pos hc, hc, if_pos (show i < i + 1 by omega), hx]
                · rw [if_neg hc, h89 j hj]
                  by_cases hc2 : j < i
                  · rw [if_pos hc2, if_pos (show j < i + 1 by omega)]
                  · rw [if_neg hc2, if_neg (show ¬ j < i + 1 by omega)]
              refine jx_istore6 (pc := 193) d_R_runs_193 rfl (Nat.le_of_ble_eq_true rfl) ?_
              refine jx_aload0 (pc := 195) d_R_runs_195 ?_
              refine jx_getR (pc := 196) gf_R_37 d_R_runs_196 ad_79 sh_79 rfl ?_
              refine jx_iload5 (pc := 199) d_R_runs_199 ?_
              refine jx_aload0 (pc := 201) d_R_runs_201 ?_
              refine jx_getI (pc := 202) gf_R_162 d_R_runs_202 ad_79 sh_79 rfl ?_
              refine jx_iload5 (pc := 205) d_R_runs_205 ?_
              refine jx_callS2 (pc := 207) (d' := 0) so_R_isIn lk_R_155 d_R_runs_207 (by omega) (Nat.le_of_ble_eq_true rfl) ?_
              rw [hcm3]
              refine c_R_bit (by omega) (by omega) ?_
              refine jx_r1 ?_
              refine jx_if_eq (pc := 210) 223 d_R_runs_210 (by decide) (fun c210 => ?_) (fun c210 => ?_)
              refine jx_iload6 (pc := 223) d_R_runs_223 ?_
              refine jx_iast (pc := 225) d_R_runs_225 ad_89 sh_89 (by first | assumption | exact vp_in_nI (by omega) (by omega)) ?_
              refine jx_iinc5 (pc := 226) d_R_runs_226 rfl (Nat.le_of_ble_eq_true rfl) ?_
              refine jx_goto (pc := 229) 154 d_R_runs_229 (by decide) ?_
              rotate_left
              refine jx_aload0 (pc := 213) d_R_runs_213 ?_
              refine jx_getR (pc := 214) gf_R_37 d_R_runs_214 ad_79 sh_79 rfl ?_
              refine jx_iload5 (pc := 217) d_R_runs_217 ?_
              refine jx_iald (pc := 219) d_R_runs_219 ad_89 sh_89 (by first | assumption | exact vp_in_nI (by omega) (by omega)) ?_
              refine jx_goto (pc := 220) 225 d_R_runs_220 (by decide) ?_
              refine jx_iast (pc := 225) d_R_runs_225 ad_89 sh_89 (by first | assumption | exact vp_in_nI (by omega) (by omega)) ?_
              refine jx_iinc5 (pc := 226) d_R_runs_226 rfl (Nat.le_of_ble_eq_true rfl) ?_
              refine jx_goto (pc := 229) 154 d_R_runs_229 (by decide) ?_
              rotate_left
              · have hbt := z01.mp c210
                rw [nI_add1, e1, hv]
                exact jx_sub (fun j v => by rcases j with _ | _ | _ | _ | _ | _ | _ | j <;> simp) (next _ (by rw [if_neg hbt]))
              · have hbt := z01n c210
                rw [nI_add1, e1, hli]
                exact jx_sub (fun j v => by rcases j with _ | _ | _ | _ | _ | _ | _ | j <;> simp) (next _ (by rw [if_pos hbt]))
            refine jx_iload5 (pc := 154) d_R_runs_154 ?_
            refine jx_aload0 (pc := 156) d_R_runs_156 ?_
            refine jx_getI (pc := 157) gf_R_102 d_R_runs_157 ad_79 sh_79 rfl ?_
            refine jx_icmp_ge (pc := 160) 232 d_R_runs_160 (by decide) (fun c160 => absurd c160 (by rw [hn3]; exact nI_ge (by omega) (by omega))) (fun c160 => ?_)
            refine jx_aload0 (pc := 163) d_R_runs_163 ?_
            refine jx_getR (pc := 164) gf_R_37 d_R_runs_164 ad_79 sh_79 rfl ?_
            refine jx_iload5 (pc := 167) d_R_runs_167 ?_
            refine jx_iald (pc := 169) d_R_runs_169 ad_89 sh_89 (by first | assumption | exact vp_in_nI (by omega) (by omega)) ?_
            refine jx_aload0 (pc := 170) d_R_runs_170 ?_
            refine jx_getI (pc := 171) gf_R_120 d_R_runs_171 ad_79 sh_79 rfl ?_
            refine jx_icmp_le (pc := 174) 192 d_R_runs_174 (by decide) (fun c174 => ?_) (fun c174 => ?_)
            refine jx_iconst (pc := 192) (v := 0) d_R_runs_192 (by decide) ?_
            rotate_left
            refine jx_aload0 (pc := 177) d_R_runs_177 ?_
            refine jx_getR (pc := 178) gf_R_37 d_R_runs_178 ad_79 sh_79 rfl ?_
            refine jx_iload5 (pc := 181) d_R_runs_181 ?_
            refine jx_iald (pc := 183) d_R_runs_183 ad_89 sh_89 (by first | assumption | exact vp_in_nI (by omega) (by omega)) ?_
            refine jx_aload0 (pc := 184) d_R_runs_184 ?_
            refine jx_getI (pc := 185) gf_R_120 d_R_runs_185 ad_79 sh_79 rfl ?_
            refine jx_isub (pc := 188) d_R_runs_188 ?_
            refine jx_goto (pc := 189) 193 d_R_runs_189 (by decide) ?_
            rotate_left
            · rw [e1, hli, hfa3, hlt] at c174
              exact S193 0 (by rw [show lk i - e.2.1.2.2 = 0 by omega]; rfl)
            · rw [e1, hli, hfa3, hlt] at c174
              rw [e1, hli, hfa3]
              exact S193 _ (nI_sub (by omega))
        refine jx_iconst (pc := 151) (v := 0) d_R_runs_151 (by decide) ?_
        refine jx_istore5 (pc := 152) d_R_runs_152 rfl (Nat.le_of_ble_eq_true rfl) ?_
        rotate_left
        exact fade e.1.1 0 M2 (by omega) hO2 g42 rfl rfl (fun j hj => by rw [if_neg (by omega)]; exact n1 j hj)
      -- the visits more
      have more : ∀ (r2 j : Nat) (M2 : j_M), j + r2 = N.1 → OffR M M2 → (∀ q, q < dy → M2 91 q = em (run e ts tr sl (bsR V N) (q + 1)).2.2.2.2) → MoR M2 (if sl.testBit dy then m else brgs e ts dy (dl V dy ++ dl (j, N.2) dy) m) →
          j_W (d + 2) I_R_runs X 103 [some (.ref 79), some (.int (nI dog)), some (.int (nI last)), some (.int (em m.2.2.2.2)), some (.int (nI dy)), some (.int (nI j)), none] [] M2 := by
        intro r2
        induction r2 with
        | zero =>
          intro j M2 hj hO2 g42 hM2
          have hE2 := hE.off hO2
          obtain ⟨h14, hN30, hNk⟩ := hE2.2.2.2.2.2.2.2.2.2.2.2.2.2
          have hj2 : j = N.1 := by omega
          refine jx_iload5 (pc := 103) d_R_runs_103 ?_
          refine jx_aload0 (pc := 105) d_R_runs_105 ?_
          refine jx_getI (pc := 106) gf_R_146 d_R_runs_106 ad_79 sh_79 rfl ?_
          refine jx_icmp_ge (pc := 109) 151 d_R_runs_109 (by decide) (fun c109 => ?_) (fun c109 => absurd c109 (fun q => q (by rw [h14, hj2]; exact Int32.le_refl _)))
          rotate_left
          subst hj2
          refine S151 M2 _ _ hM2 hO2 g42 (hpmw (bsR V N dy) (hwf dy).1 (hwf dy).2) ?_ hnext
          split
          · rfl
          · have hfd : ∀ (l : List (Nat × Nat)) (m : Mo), (brgs e ts dy l m).2.2.2.2 = m.2.2.2.2 := by
              intro l
              induction l with
              | nil => intro m; rfl
              | cons q l ihl => intro m; show (brgs e ts dy l (brg e ts dy q.1 q.2 m)).2.2.2.2 = _; rw [ihl]; unfold brg; split <;> rfl
            exact hfd _ _
        | succ r2 ih2 =>
          intro j M2 hj hO2 g42 hM2
          have hE2 := hE.off hO2
          obtain ⟨h14, hN30, hNk⟩ := hE2.2.2.2.2.2.2.2.2.2.2.2.2.2
          have hk := hNk j (by omega)
          have ej : (nI j).toNatClampNeg = j := nI_cl (by omega)
          have hv30 : vp_in (nI j) 30 := vp_in_nI (by omega) (by omega)
          have hlen1 := dl_len V dy
          have hlen2 := dl_len (j, N.2) dy
          have hV24 : V.1 ≤ 24 := hE2.2.2.2.2.2.2.2.2.2.2.2.2.1.2.1
          have hpw := hpmw (dl V dy ++ dl (j, N.2) dy) (fun q hq => by
            rcases List.mem_append.mp hq with z | z
            · exact (hwf dy).1 q (List.mem_append_left _ z)
            · obtain ⟨k2, h1, h2, rfl⟩ := dl_mem z
              have := hNk k2 (by simp only [] at h1; omega)
              exact ⟨this.2.2.2.2.1, this.2.2.2.2.2⟩) (by rw [List.length_append]; simp only [] at hlen2; omega)
          have zd : nI (N.2.1 j) = nI dy ↔ N.2.1 j = dy := nI_eq (by omega) (by omega)
          by_cases hdj : N.2.1 j = dy
          · have hstep : (if sl.testBit dy then m else brgs e ts dy (dl V dy ++ dl (j + 1, N.2) dy) m) = (if sl.testBit dy then (if sl.testBit dy then m else brgs e ts dy (dl V dy ++ dl (j, N.2) dy) m) else brg e ts dy (N.2.2.1 j) (N.2.2.2 j) (if sl.testBit dy then m else brgs e ts dy (dl V dy ++ dl (j, N.2) dy) m)) := by
              by_cases hs : sl.testBit dy = true
              · simp only [if_pos hs]
              · simp only [if_neg hs]
                rw [dl_succ, if_pos hdj, ← List.append_assoc, brgs_app]
                rfl
            refine jx_iload5 (pc := 103) d_R_runs_103 ?_
            refine jx_aload0 (pc := 105) d_R_runs_105 ?_
            refine jx_getI (pc := 106) gf_R_146 d_R_runs_106 ad_79 sh_79 rfl ?_
            refine jx_icmp_ge (pc := 109) 151 d_R_runs_109 (by decide) (fun c109 => absurd c109 (by rw [h14]; exact nI_ge (by omega) (by omega))) (fun c109 => ?_)
            refine jx_aload0 (pc := 112) d_R_runs_112 ?_
            refine jx_getR (pc := 113) gf_R_28 d_R_runs_113 ad_79 sh_79 rfl ?_
            refine jx_iload5 (pc := 116) d_R_runs_116 ?_
            refine jx_iald (pc := 118) d_R_runs_118 ad_86 sh_86 (by first | assumption | exact vp_in_nI (by omega) (by omega)) ?_
            refine jx_iload4 (pc := 119) d_R_runs_119 ?_
            refine jx_icmp_ne (pc := 121) 145 d_R_runs_121 (by decide) (fun c121 => absurd c121 (fun q => q (by rw [ej, hk.1]; exact zd.mpr hdj))) (fun c121 => ?_)
            refine jx_aload0 (pc := 124) d_R_runs_124 ?_
            refine jx_iload1 (pc := 125) d_R_runs_125 ?_
            refine jx_iload4 (pc := 126) d_R_runs_126 ?_
            refine jx_aload0 (pc := 128) d_R_runs_128 ?_
            refine jx_getR (pc := 129) gf_R_31 d_R_runs_129 ad_79 sh_79 rfl ?_
            refine jx_iload5 (pc := 132) d_R_runs_132 ?_
            refine jx_iald (pc := 134) d_R_runs_134 ad_87 sh_87 (by first | assumption | exact vp_in_nI (by omega) (by omega)) ?_
            refine jx_aload0 (pc := 135) d_R_runs_135 ?_
            refine jx_getR (pc := 136) gf_R_34 d_R_runs_136 ad_79 sh_79 rfl ?_
            refine jx_iload5 (pc := 139) d_R_runs_139 ?_
            refine jx_iald (pc := 141) d_R_runs_141 ad_88 sh_88 (by first | assumption | exact vp_in_nI (by omega) (by omega)) ?_
            refine jx_callV4 (pc := 142) (d' := d + 1) vo_R_comes lk_R_165 d_R_runs_142 ad_79 sh_79 rfl (by omega) (Nat.le_of_ble_eq_true rfl) ?_
            rw [ej, hk.2.1, hk.2.2.1]
            refine c_R_comes hdog hE2 hM2 hpw (by omega) hdy hk.2.2.2.2.1 hk.2.2.2.2.2 (fun M3 hM3 hO3 h91 => ?_)
            refine jx_r0 ?_
            refine jx_iinc5 (pc := 145) d_R_runs_145 rfl (Nat.le_of_ble_eq_true rfl) ?_
            refine jx_goto (pc := 148) 103 d_R_runs_148 (by decide) ?_
            rotate_left
            rw [nI_add1]
            rw [← hstep] at hM3
            exact ih2 (j + 1) M3 (by omega) (hO2.tr hO3) (fun q hq => by rw [h91]; exact g42 q hq) hM3
          · have hstep : dl (j + 1, N.2) dy = dl (j, N.2) dy := by rw [dl_succ, if_neg hdj, List.append_nil]
            refine jx_iload5 (pc := 103) d_R_runs_103 ?_
            refine jx_aload0 (pc := 105) d_R_runs_105 ?_
            refine jx_getI (pc := 106) gf_R_146 d_R_runs_106 ad_79 sh_79 rfl ?_
            refine jx_icmp_ge (pc := 109) 151 d_R_runs_109 (by decide) (fun c109 => absurd c109 (by rw [h14]; exact nI_ge (by omega) (by omega))) (fun c109 => ?_)
            refine jx_aload0 (pc := 112) d_R_runs_112 ?_
            refine jx_getR (pc := 113) gf_R_28 d_R_runs_113 ad_79 sh_79 rfl ?_
            refine jx_iload5 (pc := 116) d_R_runs_116 ?_
            refine jx_iald (pc := 118) d_R_runs_118 ad_86 sh_86 (by first | assumption | exact vp_in_nI (by omega) (by omega)) ?_
            refine jx_iload4 (pc := 119) d_R_runs_119 ?_
            refine jx_icmp_ne (pc := 121) 145 d_R_runs_121 (by decide) (fun c121 => ?_) (fun c121 => absurd c121 (fun q => hdj (by rw [ej, hk.1] at q; exact zd.mp q)))
            refine jx_iinc5 (pc := 145) d_R_runs_145 rfl (Nat.le_of_ble_eq_true rfl) ?_
            refine jx_goto (pc := 148) 103 d_R_runs_148 (by decide) ?_
            rotate_left
            rw [nI_add1]
            exact ih2 (j + 1) M2 (by omega) hO2 g42 (by rw [hstep]; exact hM2)
      -- the visits told
      have told : ∀ (r2 j : Nat) (M2 : j_M), j + r2 = V.1 → OffR M M2 → (∀ q, q < dy → M2 91 q = em (run e ts tr sl (bsR V N) (q + 1)).2.2.2.2) → MoR M2 (if sl.testBit dy then m else brgs e ts dy (dl (j, V.2) dy) m) →
          j_W (d + 2) I_R_runs X 52 [some (.ref 79), some (.int (nI dog)), some (.int (nI last)), some (.int (em m.2.2.2.2)), some (.int (nI dy)), some (.int (nI j)), none] [] M2 := by
        intro r2
        induction r2 with
        | zero =>
          intro j M2 hj hO2 g42 hM2
          have hE2 := hE.off hO2
          have h10 : M2 79 10 = nI V.1 := hE2.2.2.2.2.2.2.2.2.2.2.2.2.1.1
          have hj2 : j = V.1 := by omega
          refine jx_iload5 (pc := 52) d_R_runs_52 ?_
          refine jx_aload0 (pc := 54) d_R_runs_54 ?_
          refine jx_getI (pc := 55) gf_R_132 d_R_runs_55 ad_79 sh_79 rfl ?_
          refine jx_icmp_ge (pc := 58) 100 d_R_runs_58 (by decide) (fun c58 => ?_) (fun c58 => absurd c58 (fun q => q (by rw [h10, hj2]; exact Int32.le_refl _)))
          refine jx_iconst (pc := 100) (v := 0) d_R_runs_100 (by decide) ?_
          refine jx_istore5 (pc := 101) d_R_runs_101 rfl (Nat.le_of_ble_eq_true rfl) ?_
          rotate_left
          subst hj2
          refine more N.1 0 M2 (by omega) hO2 g42 ?_
          rw [show dl (0, N.2) dy = [] from rfl, List.append_nil]
          exact hM2
        | succ r2 ih2 =>
          intro j M2 hj hO2 g42 hM2
          have hE2 := hE.off hO2
          obtain ⟨h10, hV24, hVk⟩ := hE2.2.2.2.2.2.2.2.2.2.2.2.2.1
          have hk := hVk j (by omega)
          have ej : (nI j).toNatClampNeg = j := nI_cl (by omega)
          have hv24 : vp_in (nI j) 24 := vp_in_nI (by omega) (by omega)
          have hlen2 := dl_len (j, V.2) dy
          have hpw := hpmw (dl (j, V.2) dy) (fun q hq => by
            obtain ⟨k2, h1, h2, rfl⟩ := dl_mem hq
            have := hVk k2 (by simp only [] at h1; omega)
            exact ⟨this.2.2.2.2.1, this.2.2.2.2.2⟩) (by simp only [] at hlen2; omega)
          have zd : nI (V.2.1 j) = nI dy ↔ V.2.1 j = dy := nI_eq (by omega) (by omega)
          by_cases hdj : V.2.1 j = dy
          · have hstep : (if sl.testBit dy then m else brgs e ts dy (dl (j + 1, V.2) dy) m) = (if sl.testBit dy then (if sl.testBit dy then m else brgs e ts dy (dl (j, V.2) dy) m) else brg e ts dy (V.2.2.1 j) (V.2.2.2 j) (if sl.testBit dy then m else brgs e ts dy (dl (j, V.2) dy) m)) := by
              by_cases hs : sl.testBit dy = true
              · simp only [if_pos hs]
              · simp only [if_neg hs]
                rw [dl_succ, if_pos hdj, brgs_app]
                rfl
            refine jx_iload5 (pc := 52) d_R_runs_52 ?_
            refine jx_aload0 (pc := 54) d_R_runs_54 ?_
            refine jx_getI (pc := 55) gf_R_132 d_R_runs_55 ad_79 sh_79 rfl ?_
            refine jx_icmp_ge (pc := 58) 100 d_R_runs_58 (by decide) (fun c58 => absurd c58 (by rw [h10]; exact nI_ge (by omega) (by omega))) (fun c58 => ?_)
            refine jx_aload0 (pc := 61) d_R_runs_61 ?_
            refine jx_getR (pc := 62) gf_R_19 d_R_runs_62 ad_79 sh_79 rfl ?_
            refine jx_iload5 (pc := 65) d_R_runs_65 ?_
            refine jx_iald (pc := 67) d_R_runs_67 ad_83 sh_83 (by first | assumption | exact vp_in_nI (by omega) (by omega)) ?_
            refine jx_iload4 (pc := 68) d_R_runs_68 ?_
            refine jx_icmp_ne (pc := 70) 94 d_R_runs_70 (by decide) (fun c70 => absurd c70 (fun q => q (by rw [ej, hk.1]; exact zd.mpr hdj))) (fun c70 => ?_)
            refine jx_aload0 (pc := 73) d_R_runs_73 ?_
            refine jx_iload1 (pc := 74) d_R_runs_74 ?_
            refine jx_iload4 (pc := 75) d_R_runs_75 ?_
            refine jx_aload0 (pc := 77) d_R_runs_77 ?_
            refine jx_getR (pc := 78) gf_R_22 d_R_runs_78 ad_79 sh_79 rfl ?_
            refine jx_iload5 (pc := 81) d_R_runs_81 ?_
            refine jx_iald (pc := 83) d_R_runs_83 ad_84 sh_84 (by first | assumption | exact vp_in_nI (by omega) (by omega)) ?_
            refine jx_aload0 (pc := 84) d_R_runs_84 ?_
            refine jx_getR (pc := 85) gf_R_25 d_R_runs_85 ad_79 sh_79 rfl ?_
            refine jx_iload5 (pc := 88) d_R_runs_88 ?_
            refine jx_iald (pc := 90) d_R_runs_90 ad_85 sh_85 (by first | assumption | exact vp_in_nI (by omega) (by omega)) ?_
            refine jx_callV4 (pc := 91) (d' := d + 1) vo_R_comes lk_R_165 d_R_runs_91 ad_79 sh_79 rfl (by omega) (Nat.le_of_ble_eq_true rfl) ?_
            rw [ej, hk.2.1, hk.2.2.1]
            refine c_R_comes hdog hE2 hM2 hpw (by omega) hdy hk.2.2.2.2.1 hk.2.2.2.2.2 (fun M3 hM3 hO3 h91 => ?_)
            refine jx_r0 ?_
            refine jx_iinc5 (pc := 94) d_R_runs_94 rfl (Nat.le_of_ble_eq_true rfl) ?_
            refine jx_goto (pc := 97) 52 d_R_runs_97 (by decide) ?_
            rotate_left
            rw [nI_add1]
            rw [← hstep] at hM3
            exact ih2 (j + 1) M3 (by omega) (hO2.tr hO3) (fun q hq => by rw [h91]; exact g42 q hq) hM3
          · have hstep : dl (j + 1, V.2) dy = dl (j, V.2) dy := by rw [dl_succ, if_neg hdj, List.append_nil]
            refine jx_iload5 (pc := 52) d_R_runs_52 ?_
            refine jx_aload0 (pc := 54) d_R_runs_54 ?_
            refine jx_getI (pc := 55) gf_R_132 d_R_runs_55 ad_79 sh_79 rfl ?_
            refine jx_icmp_ge (pc := 58) 100 d_R_runs_58 (by decide) (fun c58 => absurd c58 (by rw [h10]; exact nI_ge (by omega) (by omega))) (fun c58 => ?_)
            refine jx_aload0 (pc := 61) d_R_runs_61 ?_
            refine jx_getR (pc := 62) gf_R_19 d_R_runs_62 ad_79 sh_79 rfl ?_
            refine jx_iload5 (pc := 65) d_R_runs_65 ?_
            refine jx_iald (pc := 67) d_R_runs_67 ad_83 sh_83 (by first | assumption | exact vp_in_nI (by omega) (by omega)) ?_
            refine jx_iload4 (pc := 68) d_R_runs_68 ?_
            refine jx_icmp_ne (pc := 70) 94 d_R_runs_70 (by decide) (fun c70 => ?_) (fun c70 => absurd c70 (fun q => hdj (by rw [ej, hk.1] at q; exact zd.mp q)))
            refine jx_iinc5 (pc := 94) d_R_runs_94 rfl (Nat.le_of_ble_eq_true rfl) ?_
            refine jx_goto (pc := 97) 52 d_R_runs_97 (by decide) ?_
            rotate_left
            rw [nI_add1]
            exact ih2 (j + 1) M2 (by omega) hO2 g42 (by rw [hstep]; exact hM2)
      refine jx_iload4 (pc := 38) d_R_runs_38 ?_
      refine jx_iload2 (pc := 40) d_R_runs_40 ?_
      refine jx_icmp_gt (pc := 41) 276 d_R_runs_41 (by decide) (fun c41 => absurd c41 (nI_nlt (by omega) (by omega))) (fun c41 => ?_)
      refine jx_aload0 (pc := 44) d_R_runs_44 ?_
      refine jx_iconst (pc := 45) (v := 0) d_R_runs_45 (by decide) ?_
      refine jx_putI (pc := 46) pf_R_162 d_R_runs_46 ad_79 sh_79 rfl ?_
      refine jx_iconst (pc := 49) (v := 0) d_R_runs_49 (by decide) ?_
      refine jx_istore5 (pc := 50) d_R_runs_50 rfl (Nat.le_of_ble_eq_true rfl) ?_
      rotate_left
      refine told V.1 0 _ (by omega) (hO.tr (OffR.s79 (Or.inr rfl))) (fun q hq => by rw [j_set_n _ _ _ (by omega)]; exact g4 q hq) ?_
      have hz : (if sl.testBit dy then m else brgs e ts dy (dl (0, V.2) dy) m) = m := by
        rw [show dl (0, V.2) dy = [] from rfl]; split <;> rfl
      rw [hz]
      refine ⟨fun i hi => by rw [j_set_n _ _ _ (by omega)]; exact g1 i hi, fun i hi => by rw [j_set_n _ _ _ (by omega)]; exact g2 i hi, ?_, ?_⟩
      · rw [j_set_s]; show upd _ 23 _ 22 = _; unfold upd; rw [if_neg (by omega)]; exact g3
      · rw [j_set_s]; show upd _ 23 _ 23 = _; unfold upd; rw [if_pos rfl, hcm]; rfl
  -- the beginning
  have beg : ∀ (r i : Nat) (M1 : j_M), i + r = 6 → OffR M M1 → (∀ j, j < i → M1 89 j = 0 ∧ M1 90 j = -1) → j_W (d + 2) I_R_runs X 2 [some (.ref 79), some (.int (nI dog)), some (.int (nI last)), some (.int (nI i)), none, none, none] [] M1 := by
    intro r
    induction r with
    | zero =>
      intro i M1 hi hO g1
      refine jx_iload3 (pc := 2) d_R_runs_2 ?_
      refine jx_bipush (pc := 3) (v := 6) d_R_runs_3 (by decide) ?_
      refine jx_icmp_ge (pc := 5) 28 d_R_runs_5 (by decide) (fun c5 => ?_) (fun c5 => absurd c5 (fun q => q (show nI 6 ≤ nI i from nI_le (by omega) (by omega))))
      refine jx_aload0 (pc := 28) d_R_runs_28 ?_
      refine jx_iconst (pc := 29) (v := (-1)) d_R_runs_29 (by decide) ?_
      refine jx_putI (pc := 30) pf_R_159 d_R_runs_30 ad_79 sh_79 rfl ?_
      refine jx_iconst (pc := 33) (v := (-1)) d_R_runs_33 (by decide) ?_
      refine jx_istore3 (pc := 34) d_R_runs_34 rfl (Nat.le_of_ble_eq_true rfl) ?_
      refine jx_iconst (pc := 35) (v := 0) d_R_runs_35 (by decide) ?_
      refine jx_istore4 (pc := 36) d_R_runs_36 rfl (Nat.le_of_ble_eq_true rfl) ?_
      rotate_left
      refine days (last + 1) 0 _ (by omega) (hO.tr (OffR.s79 (Or.inl rfl))) (fun j hj => ?_) (fun j hj => ?_) ?_ (fun q hq => absurd hq (by omega))
      · rw [j_set_n _ _ _ (by omega)]; exact (g1 j (by omega)).1
      · rw [j_set_n _ _ _ (by omega)]; exact (g1 j (by omega)).2
      · rw [j_set_s]; show upd _ 22 _ 22 = _; unfold upd; rw [if_pos rfl]; rfl
    | succ r ih =>
      intro i M1 hi hO g1
      have e1 : (nI i).toNatClampNeg = i := nI_cl (by omega)
      have hv6 : vp_in (nI i) 6 := vp_in_nI (by omega) (by omega)
      refine jx_iload3 (pc := 2) d_R_runs_2 ?_
      refine jx_bipush (pc := 3) (v := 6) d_R_runs_3 (by decide) ?_
      refine jx_icmp_ge (pc := 5) 28 d_R_runs_5 (by decide) (fun c5 => absurd c5 (show ¬ nI 6 ≤ nI i from nI_ge (by omega) (by omega))) (fun c5 => ?_)
      refine jx_aload0 (pc := 8) d_R_runs_8 ?_
      refine jx_getR (pc := 9) gf_R_37 d_R_runs_9 ad_79 sh_79 rfl ?_
      refine jx_iload3 (pc := 12) d_R_runs_12 ?_
      refine jx_iconst (pc := 13) (v := 0) d_R_runs_13 (by decide) ?_
      refine jx_iast (pc := 14) d_R_runs_14 ad_89 sh_89 (by first | assumption | exact vp_in_nI (by omega) (by omega)) ?_
      refine jx_aload0 (pc := 15) d_R_runs_15 ?_
      refine jx_getR (pc := 16) gf_R_40 d_R_runs_16 ad_79 sh_79 rfl ?_
      refine jx_iload3 (pc := 19) d_R_runs_19 ?_
      refine jx_iconst (pc := 20) (v := (-1)) d_R_runs_20 (by decide) ?_
      refine jx_iast (pc := 21) d_R_runs_21 ad_90 sh_90 (by first | assumption | exact vp_in_nI (by omega) (by omega)) ?_
      refine jx_iinc3 (pc := 22) d_R_runs_22 rfl (Nat.le_of_ble_eq_true rfl) ?_
      refine jx_goto (pc := 25) 2 d_R_runs_25 (by decide) ?_
      rotate_left
      rw [nI_add1, e1]
      refine ih (i + 1) _ (by omega) (hO.tr ((OffR.arr (Or.inl rfl)).tr (OffR.arr (Or.inr (Or.inl rfl))))) (fun j hj => ?_)
      rw [j_set_n (b := 89) _ _ _ (by omega), j_set_s, j_set_s, j_set_n (b := 90) _ _ _ (by omega)]
      unfold upd
      by_cases hc : j = i
      · rw [if_pos hc, if_pos hc]; exact ⟨rfl, rfl⟩
      · rw [if_neg hc, if_neg hc]; exact g1 j (by omega)
  refine jx_iconst (pc := 0) (v := 0) d_R_runs_0 (by decide) ?_
  refine jx_istore3 (pc := 1) d_R_runs_1 rfl (Nat.le_of_ble_eq_true rfl) ?_
  rotate_left
  exact beg 6 0 M (by omega) OffR.rf (fun j hj => absurd hj (by omega))
