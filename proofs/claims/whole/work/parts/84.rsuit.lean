/-! OPERATIONS of the reference: suit, the search -/
theorem c_R_suitBy {d h last : Nat} {s : Sg} {M : j_M} {Q : Option Value → j_M → Prop} (hw : WF s) (hR : RepR s M) (hh : h < g_hn s) (hl : last < 10)
    (k0 : suB s h last = none → ∀ M', ScrR M M' → RdR s M' → Q (some (.int (-1))) M') (k1 : ∀ r, suB s h last = some r → ∀ M', ScrR M M' → RdR s M' → (∀ i, i < r.length → M' 93 i = nI (r.getD i 0)) → Q (some (.int (nI r.length))) M') : j_Ct (d + 4) I_R_suitBy [.ref 79, .int (nI h), .int (nI last)] M Q := by
  refine j_met (by decide +kernel) co_R_suitBy (Nat.le_of_ble_eq_true rfl) (fun X hX => ?_)
  show j_W (d + 4) I_R_suitBy X 0 [some (.ref 79), some (.int (nI h)), some (.int (nI last)), none, none, none, none] [] M
  have eC : (3 : Int32) * nI last + 3 = nI (3 * last + 3) := by rw [show (3 : Int32) * nI last = nI (3 * last) by rw [show (3 : Int32) = nI 3 from rfl, nI_mul]]; exact nI_add _ 3
  obtain ⟨C, hC⟩ : ∃ C, C = 3 * last + 3 := ⟨_, rfl⟩
  have hC30 : C ≤ 30 := by omega
  rw [← hC] at eC
  have hsk0 : ∀ row code, skS (suW s h last) C 0 row code = if suW s h last row then some row else none := fun _ _ => rfl
  -- three more
  have ph3 : (∀ q, q < 3 → skS (suW s h last) C q [] 0 = none) → ∀ (M1 : j_M) (e4 e5 e6 : Option Value), ScrR M M1 → RdR s M1 → j_W (d + 4) I_R_suitBy X 101 [some (.ref 79), some (.int (nI h)), some (.int (nI last)), some (.int (nI C)), e4, e5, e6] [] M1 := by
    intro hno M1 e4 e5 e6 hS hr
    have found : ∀ r, skS (suW s h last) C 3 [] 0 = some r → ∀ M', ScrR M M' → RdR s M' → (∀ i, i < r.length → M' 93 i = nI (r.getD i 0)) → Q (some (.int (nI 3))) M' := fun r h9 M9 hS9 hr9 h93 => by
      have kk := k1 r (suB_at (m := 3) (by omega) (fun q hq => by rw [← hC]; exact hno q hq) (by rw [← hC]; exact h9)) M9 hS9 hr9 h93
      rw [show r.length = 3 by have := skS_len _ _ _ h9; simpa using this] at kk
      exact kk
    have in3 : ∀ (one two n x : Nat) (M2 : j_M) (e6 : Int32), x + n = C → one < C → two < C → ScrR M M2 → RdR s M2 →
        (fstS (fun x => skS (suW s h last) C 0 [one, two, x] x) n x = none → ∀ M3 (y : Int32), ScrR M M3 → RdR s M3 → j_W (d + 4) I_R_suitBy X 153 [some (.ref 79), some (.int (nI h)), some (.int (nI last)), some (.int (nI C)), some (.int (nI one)), some (.int (nI two)), some (.int y)] [] M3) →
        (∀ r, fstS (fun x => skS (suW s h last) C 0 [one, two, x] x) n x = some r → ∀ M', ScrR M M' → RdR s M' → (∀ i, i < r.length → M' 93 i = nI (r.getD i 0)) → Q (some (.int (nI 3))) M') →
        j_W (d + 4) I_R_suitBy X 124 [some (.ref 79), some (.int (nI h)), some (.int (nI last)), some (.int (nI C)), some (.int (nI one)), some (.int (nI two)), some (.int (nI x))] [] M2 := by
      intro one two n
      induction n with
      | zero =>
        intro x M2 e6 hx h1 h2 hS2 hr2 q0 q1
        refine jx_iload6 (pc := 124) d_R_suitBy_124 ?_
        refine jx_iload3 (pc := 126) d_R_suitBy_126 ?_
        refine jx_icmp_ge (pc := 127) 153 d_R_suitBy_127 (by decide) (fun c127 => ?_) (fun c127 => absurd c127 (fun z => z (nI_le (by omega) (by omega))))
        rotate_left
        exact q0 rfl M2 _ hS2 hr2
      | succ n ih =>
        intro x M2 e6 hx h1 h2 hS2 hr2 q0 q1
        rw [fstS, hsk0] at q0 q1
        by_cases hW : suW s h last [one, two, x] = true
        · rw [if_pos hW] at q1
          refine jx_iload6 (pc := 124) d_R_suitBy_124 ?_
          refine jx_iload3 (pc := 126) d_R_suitBy_126 ?_
          refine jx_icmp_ge (pc := 127) 153 d_R_suitBy_127 (by decide) (fun c127 => absurd c127 (nI_ge (by omega) (by omega))) (fun c127 => ?_)
          refine jx_aload0 (pc := 130) d_R_suitBy_130 ?_
          refine jx_iload1 (pc := 131) d_R_suitBy_131 ?_
          refine jx_iload2 (pc := 132) d_R_suitBy_132 ?_
          refine jx_iload4 (pc := 133) d_R_suitBy_133 ?_
          refine jx_iload5 (pc := 135) d_R_suitBy_135 ?_
          refine jx_iload6 (pc := 137) d_R_suitBy_137 ?_
          refine jx_callV5 (pc := 139) (d' := d + 3) vo_R_wins lk_R_220 d_R_suitBy_139 ad_79 sh_79 rfl (by omega) (Nat.le_of_ble_eq_true rfl) ?_
          refine c_R_wins3 hw (hS2.rep hR) hr2 hh hl (by omega) (by omega) (by omega) (fun M3 hS3 hr3 h93 => ?_)
          refine jx_r1 ?_
          refine jx_if_eq (pc := 142) 147 d_R_suitBy_142 (by decide) (fun c142 => absurd c142 (by rw [if_pos hW]; decide)) (fun c142 => ?_)
          refine jx_iconst (pc := 145) (v := 3) d_R_suitBy_145 (by decide) ?_
          refine jx_iret (pc := 146) hX rfl d_R_suitBy_146 ?_
          rotate_left
          exact q1 _ rfl M3 (hS2.tr hS3) hr3 h93
        · rw [if_neg hW] at q0 q1
          refine jx_iload6 (pc := 124) d_R_suitBy_124 ?_
          refine jx_iload3 (pc := 126) d_R_suitBy_126 ?_
          refine jx_icmp_ge (pc := 127) 153 d_R_suitBy_127 (by decide) (fun c127 => absurd c127 (nI_ge (by omega) (by omega))) (fun c127 => ?_)
          refine jx_aload0 (pc := 130) d_R_suitBy_130 ?_
          refine jx_iload1 (pc := 131) d_R_suitBy_131 ?_
          refine jx_iload2 (pc := 132) d_R_suitBy_132 ?_
          refine jx_iload4 (pc := 133) d_R_suitBy_133 ?_
          refine jx_iload5 (pc := 135) d_R_suitBy_135 ?_
          refine jx_iload6 (pc := 137) d_R_suitBy_137 ?_
          refine jx_callV5 (pc := 139) (d' := d + 3) vo_R_wins lk_R_220 d_R_suitBy_139 ad_79 sh_79 rfl (by omega) (Nat.le_of_ble_eq_true rfl) ?_
          refine c_R_wins3 hw (hS2.rep hR) hr2 hh hl (by omega) (by omega) (by omega) (fun M3 hS3 hr3 h93 => ?_)
          refine jx_r1 ?_
          refine jx_if_eq (pc := 142) 147 d_R_suitBy_142 (by decide) (fun c142 => ?_) (fun c142 => absurd c142 (fun z => z (by rw [if_neg hW])))
          refine jx_iinc6 (pc := 147) d_R_suitBy_147 rfl (Nat.le_of_ble_eq_true rfl) ?_
          refine jx_goto (pc := 150) 124 d_R_suitBy_150 (by decide) ?_
          rotate_left
          rw [nI_add1]
          exact ih (x + 1) M3 e6 (by omega) h1 h2 (hS2.tr hS3) hr3 q0 q1
    have in2 : ∀ (one n x : Nat) (M2 : j_M) (e6 : Option Value), x + n = C → one < C → ScrR M M2 → RdR s M2 →
        (fstS (fun x => skS (suW s h last) C 1 [one, x] x) n x = none → ∀ M3 (y : Int32) (e6 : Option Value), ScrR M M3 → RdR s M3 → j_W (d + 4) I_R_suitBy X 159 [some (.ref 79), some (.int (nI h)), some (.int (nI last)), some (.int (nI C)), some (.int (nI one)), some (.int y), e6] [] M3) →
        (∀ r, fstS (fun x => skS (suW s h last) C 1 [one, x] x) n x = some r → ∀ M', ScrR M M' → RdR s M' → (∀ i, i < r.length → M' 93 i = nI (r.getD i 0)) → Q (some (.int (nI 3))) M') →
        j_W (d + 4) I_R_suitBy X 114 [some (.ref 79), some (.int (nI h)), some (.int (nI last)), some (.int (nI C)), some (.int (nI one)), some (.int (nI x)), e6] [] M2 := by
      intro one n
      induction n with
      | zero =>
        intro x M2 e6 hx h1 hS2 hr2 q0 q1
        refine jx_iload5 (pc := 114) d_R_suitBy_114 ?_
        refine jx_iload3 (pc := 116) d_R_suitBy_116 ?_
        refine jx_icmp_ge (pc := 117) 159 d_R_suitBy_117 (by decide) (fun c117 => ?_) (fun c117 => absurd c117 (fun z => z (nI_le (by omega) (by omega))))
        rotate_left
        exact q0 rfl M2 _ _ hS2 hr2
      | succ n ih =>
        intro x M2 e6 hx h1 hS2 hr2 q0 q1
        rw [fstS] at q0 q1
        have e1 : skS (suW s h last) C 1 [one, x] x = fstS (fun y => skS (suW s h last) C 0 [one, x, y] y) (C - x) x := rfl
        refine jx_iload5 (pc := 114) d_R_suitBy_114 ?_
        refine jx_iload3 (pc := 116) d_R_suitBy_116 ?_
        refine jx_icmp_ge (pc := 117) 159 d_R_suitBy_117 (by decide) (fun c117 => absurd c117 (nI_ge (by omega) (by omega))) (fun c117 => ?_)
        refine jx_iload5 (pc := 120) d_R_suitBy_120 ?_
        refine jx_istore6 (pc := 122) d_R_suitBy_122 rfl (Nat.le_of_ble_eq_true rfl) ?_
        rotate_left
        refine in3 one x (C - x) x M2 0 (by omega) h1 (by omega) hS2 hr2 (fun hn M3 y hS3 hr3 => ?_) (fun r h9 M3 hS3 hr3 h93 => q1 r (by rw [e1]; exact or_some h9) M3 hS3 hr3 h93)
        rw [e1, or_none hn] at q0 q1
        refine jx_iinc5 (pc := 153) d_R_suitBy_153 rfl (Nat.le_of_ble_eq_true rfl) ?_
        refine jx_goto (pc := 156) 114 d_R_suitBy_156 (by decide) ?_
        rotate_left
        rw [nI_add1]
        exact ih (x + 1) M3 _ (by omega) h1 hS3 hr3 q0 q1
    have in1 : ∀ (n x : Nat) (M2 : j_M) (e5 e6 : Option Value), x + n = C → ScrR M M2 → RdR s M2 →
        (fstS (fun x => skS (suW s h last) C 2 [x] x) n x = none → ∀ M3, ScrR M M3 → RdR s M3 → Q (some (.int (-1))) M3) →
        (∀ r, fstS (fun x => skS (suW s h last) C 2 [x] x) n x = some r → ∀ M', ScrR M M' → RdR s M' → (∀ i, i < r.length → M' 93 i = nI (r.getD i 0)) → Q (some (.int (nI 3))) M') →
        j_W (d + 4) I_R_suitBy X 104 [some (.ref 79), some (.int (nI h)), some (.int (nI last)), some (.int (nI C)), some (.int (nI x)), e5, e6] [] M2 := by
      intro n
      induction n with
      | zero =>
        intro x M2 e5 e6 hx hS2 hr2 q0 q1
        refine jx_iload4 (pc := 104) d_R_suitBy_104 ?_
        refine jx_iload3 (pc := 106) d_R_suitBy_106 ?_
        refine jx_icmp_ge (pc := 107) 165 d_R_suitBy_107 (by decide) (fun c107 => ?_) (fun c107 => absurd c107 (fun z => z (nI_le (by omega) (by omega))))
        refine jx_iconst (pc := 165) (v := (-1)) d_R_suitBy_165 (by decide) ?_
        refine jx_iret (pc := 166) hX rfl d_R_suitBy_166 ?_
        rotate_left
        exact q0 rfl M2 hS2 hr2
      | succ n ih =>
        intro x M2 e5 e6 hx hS2 hr2 q0 q1
        rw [fstS] at q0 q1
        have e1 : skS (suW s h last) C 2 [x] x = fstS (fun y => skS (suW s h last) C 1 [x, y] y) (C - x) x := rfl
        refine jx_iload4 (pc := 104) d_R_suitBy_104 ?_
        refine jx_iload3 (pc := 106) d_R_suitBy_106 ?_
        refine jx_icmp_ge (pc := 107) 165 d_R_suitBy_107 (by decide) (fun c107 => absurd c107 (nI_ge (by omega) (by omega))) (fun c107 => ?_)
        refine jx_iload4 (pc := 110) d_R_suitBy_110 ?_
        refine jx_istore5 (pc := 112) d_R_suitBy_112 rfl (Nat.le_of_ble_eq_true rfl) ?_
        rotate_left
        refine in2 x (C - x) x M2 _ (by omega) (by omega) hS2 hr2 (fun hn M3 y e6 hS3 hr3 => ?_) (fun r h9 M3 hS3 hr3 h93 => q1 r (by rw [e1]; exact or_some h9) M3 hS3 hr3 h93)
        rw [e1, or_none hn] at q0 q1
        refine jx_iinc4 (pc := 159) d_R_suitBy_159 rfl (Nat.le_of_ble_eq_true rfl) ?_
        refine jx_goto (pc := 162) 104 d_R_suitBy_162 (by decide) ?_
        rotate_left
        rw [nI_add1]
        exact ih (x + 1) M3 _ _ (by omega) hS3 hr3 q0 q1
    refine jx_iconst (pc := 101) (v := 0) d_R_suitBy_101 (by decide) ?_
    refine jx_istore4 (pc := 102) d_R_suitBy_102 rfl (Nat.le_of_ble_eq_true rfl) ?_
    rotate_left
    have e3 : skS (suW s h last) C 3 [] 0 = fstS (fun x => skS (suW s h last) C 2 [x] x) C 0 := rfl
    refine in1 C 0 M1 _ _ (by omega) hS hr (fun hn M3 hS3 hr3 => ?_) (fun r h9 => found r (by rw [e3]; exact h9))
    refine k0 (suB_no (fun q hq => ?_)) M3 hS3 hr3
    rw [← hC]
    by_cases h3 : q = 3
    · rw [h3, e3]; exact hn
    · exact hno q (by omega)
  -- two more
  have ph2 : (∀ q, q < 2 → skS (suW s h last) C q [] 0 = none) → ∀ (M1 : j_M) (e4 e5 e6 : Option Value), ScrR M M1 → RdR s M1 → j_W (d + 4) I_R_suitBy X 54 [some (.ref 79), some (.int (nI h)), some (.int (nI last)), some (.int (nI C)), e4, e5, e6] [] M1 := by
    intro hno M1 e4 e5 e6 hS hr
    have found : ∀ r, skS (suW s h last) C 2 [] 0 = some r → ∀ M', ScrR M M' → RdR s M' → (∀ i, i < r.length → M' 93 i = nI (r.getD i 0)) → Q (some (.int (nI 2))) M' := fun r h9 M9 hS9 hr9 h93 => by
      have kk := k1 r (suB_at (m := 2) (by omega) (fun q hq => by rw [← hC]; exact hno q hq) (by rw [← hC]; exact h9)) M9 hS9 hr9 h93
      rw [show r.length = 2 by have := skS_len _ _ _ h9; simpa using this] at kk
      exact kk
    have in2 : ∀ (one n x : Nat) (M2 : j_M), x + n = C → one < C → ScrR M M2 → RdR s M2 →
        (fstS (fun x => skS (suW s h last) C 0 [one, x] x) n x = none → ∀ M3 (y : Int32), ScrR M M3 → RdR s M3 → j_W (d + 4) I_R_suitBy X 95 [some (.ref 79), some (.int (nI h)), some (.int (nI last)), some (.int (nI C)), some (.int (nI one)), some (.int y), e6] [] M3) →
        (∀ r, fstS (fun x => skS (suW s h last) C 0 [one, x] x) n x = some r → ∀ M', ScrR M M' → RdR s M' → (∀ i, i < r.length → M' 93 i = nI (r.getD i 0)) → Q (some (.int (nI 2))) M') →
        j_W (d + 4) I_R_suitBy X 67 [some (.ref 79), some (.int (nI h)), some (.int (nI last)), some (.int (nI C)), some (.int (nI one)), some (.int (nI x)), e6] [] M2 := by
      intro one n
      induction n with
      | zero =>
        intro x M2 hx h1 hS2 hr2 q0 q1
        refine jx_iload5 (pc := 67) d_R_suitBy_67 ?_
        refine jx_iload3 (pc := 69) d_R_suitBy_69 ?_
        refine jx_icmp_ge (pc := 70) 95 d_R_suitBy_70 (by decide) (fun c70 => ?_) (fun c70 => absurd c70 (fun z => z (nI_le (by omega) (by omega))))
        rotate_left
        exact q0 rfl M2 _ hS2 hr2
      | succ n ih =>
        intro x M2 hx h1 hS2 hr2 q0 q1
        rw [fstS, hsk0] at q0 q1
        by_cases hW : suW s h last [one, x] = true
        · rw [if_pos hW] at q1
          refine jx_iload5 (pc := 67) d_R_suitBy_67 ?_
          refine jx_iload3 (pc := 69) d_R_suitBy_69 ?_
          refine jx_icmp_ge (pc := 70) 95 d_R_suitBy_70 (by decide) (fun c70 => absurd c70 (nI_ge (by omega) (by omega))) (fun c70 => ?_)
          refine jx_aload0 (pc := 73) d_R_suitBy_73 ?_
          refine jx_iload1 (pc := 74) d_R_suitBy_74 ?_
          refine jx_iload2 (pc := 75) d_R_suitBy_75 ?_
          refine jx_iload4 (pc := 76) d_R_suitBy_76 ?_
          refine jx_iload5 (pc := 78) d_R_suitBy_78 ?_
          refine jx_iconst (pc := 80) (v := (-1)) d_R_suitBy_80 (by decide) ?_
          refine jx_callV5 (pc := 81) (d' := d + 3) vo_R_wins lk_R_220 d_R_suitBy_81 ad_79 sh_79 rfl (by omega) (Nat.le_of_ble_eq_true rfl) ?_
          refine c_R_wins2 hw (hS2.rep hR) hr2 hh hl (by omega) (by omega) (fun M3 hS3 hr3 h93 => ?_)
          refine jx_r1 ?_
          refine jx_if_eq (pc := 84) 89 d_R_suitBy_84 (by decide) (fun c84 => absurd c84 (by rw [if_pos hW]; decide)) (fun c84 => ?_)
          refine jx_iconst (pc := 87) (v := 2) d_R_suitBy_87 (by decide) ?_
          refine jx_iret (pc := 88) hX rfl d_R_suitBy_88 ?_
          rotate_left
          exact q1 _ rfl M3 (hS2.tr hS3) hr3 h93
        · rw [if_neg hW] at q0 q1
          refine jx_iload5 (pc := 67) d_R_suitBy_67 ?_
          refine jx_iload3 (pc := 69) d_R_suitBy_69 ?_
          refine jx_icmp_ge (pc := 70) 95 d_R_suitBy_70 (by decide) (fun c70 => absurd c70 (nI_ge (by omega) (by omega))) (fun c70 => ?_)
          refine jx_aload0 (pc := 73) d_R_suitBy_73 ?_
          refine jx_iload1 (pc := 74) d_R_suitBy_74 ?_
          refine jx_iload2 (pc := 75) d_R_suitBy_75 ?_
          refine jx_iload4 (pc := 76) d_R_suitBy_76 ?_
          refine jx_iload5 (pc := 78) d_R_suitBy_78 ?_
          refine jx_iconst (pc := 80) (v := (-1)) d_R_suitBy_80 (by decide) ?_
          refine jx_callV5 (pc := 81) (d' := d + 3) vo_R_wins lk_R_220 d_R_suitBy_81 ad_79 sh_79 rfl (by omega) (Nat.le_of_ble_eq_true rfl) ?_
          refine c_R_wins2 hw (hS2.rep hR) hr2 hh hl (by omega) (by omega) (fun M3 hS3 hr3 h93 => ?_)
          refine jx_r1 ?_
          refine jx_if_eq (pc := 84) 89 d_R_suitBy_84 (by decide) (fun c84 => ?_) (fun c84 => absurd c84 (fun z => z (by rw [if_neg hW])))
          refine jx_iinc5 (pc := 89) d_R_suitBy_89 rfl (Nat.le_of_ble_eq_true rfl) ?_
          refine jx_goto (pc := 92) 67 d_R_suitBy_92 (by decide) ?_
          rotate_left
          rw [nI_add1]
          exact ih (x + 1) M3 (by omega) h1 (hS2.tr hS3) hr3 q0 q1
    have in1 : ∀ (n x : Nat) (M2 : j_M) (e5 : Option Value), x + n = C → ScrR M M2 → RdR s M2 →
        (fstS (fun x => skS (suW s h last) C 1 [x] x) n x = none → ∀ M3 (y : Int32) (e5 : Option Value), ScrR M M3 → RdR s M3 → j_W (d + 4) I_R_suitBy X 101 [some (.ref 79), some (.int (nI h)), some (.int (nI last)), some (.int (nI C)), some (.int y), e5, e6] [] M3) →
        (∀ r, fstS (fun x => skS (suW s h last) C 1 [x] x) n x = some r → ∀ M', ScrR M M' → RdR s M' → (∀ i, i < r.length → M' 93 i = nI (r.getD i 0)) → Q (some (.int (nI 2))) M') →
        j_W (d + 4) I_R_suitBy X 57 [some (.ref 79), some (.int (nI h)), some (.int (nI last)), some (.int (nI C)), some (.int (nI x)), e5, e6] [] M2 := by
      intro n
      induction n with
      | zero =>
        intro x M2 e5 hx hS2 hr2 q0 q1
        refine jx_iload4 (pc := 57) d_R_suitBy_57 ?_
        refine jx_iload3 (pc := 59) d_R_suitBy_59 ?_
        refine jx_icmp_ge (pc := 60) 101 d_R_suitBy_60 (by decide) (fun c60 => ?_) (fun c60 => absurd c60 (fun z => z (nI_le (by omega) (by omega))))
        rotate_left
        exact q0 rfl M2 _ _ hS2 hr2
      | succ n ih =>
        intro x M2 e5 hx hS2 hr2 q0 q1
        rw [fstS] at q0 q1
        have e1 : skS (suW s h last) C 1 [x] x = fstS (fun y => skS (suW s h last) C 0 [x, y] y) (C - x) x := rfl
        refine jx_iload4 (pc := 57) d_R_suitBy_57 ?_
        refine jx_iload3 (pc := 59) d_R_suitBy_59 ?_
        refine jx_icmp_ge (pc := 60) 101 d_R_suitBy_60 (by decide) (fun c60 => absurd c60 (nI_ge (by omega) (by omega))) (fun c60 => ?_)
        refine jx_iload4 (pc := 63) d_R_suitBy_63 ?_
        refine jx_istore5 (pc := 65) d_R_suitBy_65 rfl (Nat.le_of_ble_eq_true rfl) ?_
        rotate_left
        refine in2 x (C - x) x M2 (by omega) (by omega) hS2 hr2 (fun hn M3 y hS3 hr3 => ?_) (fun r h9 M3 hS3 hr3 h93 => q1 r (by rw [e1]; exact or_some h9) M3 hS3 hr3 h93)
        rw [e1, or_none hn] at q0 q1
        refine jx_iinc4 (pc := 95) d_R_suitBy_95 rfl (Nat.le_of_ble_eq_true rfl) ?_
        refine jx_goto (pc := 98) 57 d_R_suitBy_98 (by decide) ?_
        rotate_left
        rw [nI_add1]
        exact ih (x + 1) M3 _ (by omega) hS3 hr3 q0 q1
    refine jx_iconst (pc := 54) (v := 0) d_R_suitBy_54 (by decide) ?_
    refine jx_istore4 (pc := 55) d_R_suitBy_55 rfl (Nat.le_of_ble_eq_true rfl) ?_
    rotate_left
    have e2 : skS (suW s h last) C 2 [] 0 = fstS (fun x => skS (suW s h last) C 1 [x] x) C 0 := rfl
    refine in1 C 0 M1 _ (by omega) hS hr (fun hn M3 y e5 hS3 hr3 => ?_) (fun r h9 => found r (by rw [e2]; exact h9))
    refine ph3 (fun q hq => ?_) M3 _ _ _ hS3 hr3
    by_cases h2 : q = 2
    · rw [h2, e2]; exact hn
    · exact hno q (by omega)
  -- one more
  have ph1 : skS (suW s h last) C 0 [] 0 = none → ∀ (M1 : j_M) (e4 e5 e6 : Option Value), ScrR M M1 → RdR s M1 → j_W (d + 4) I_R_suitBy X 24 [some (.ref 79), some (.int (nI h)), some (.int (nI last)), some (.int (nI C)), e4, e5, e6] [] M1 := by
    intro hno M1 e4 e5 e6 hS hr
    have found : ∀ r, skS (suW s h last) C 1 [] 0 = some r → ∀ M', ScrR M M' → RdR s M' → (∀ i, i < r.length → M' 93 i = nI (r.getD i 0)) → Q (some (.int (nI 1))) M' := fun r h9 M9 hS9 hr9 h93 => by
      have kk := k1 r (suB_at (m := 1) (by omega) (fun q hq => by rw [← hC, show q = 0 by omega]; exact hno) (by rw [← hC]; exact h9)) M9 hS9 hr9 h93
      rw [show r.length = 1 by have := skS_len _ _ _ h9; simpa using this] at kk
      exact kk
    have in1 : ∀ (n x : Nat) (M2 : j_M), x + n = C → ScrR M M2 → RdR s M2 →
        (fstS (fun x => skS (suW s h last) C 0 [x] x) n x = none → ∀ M3 (y : Int32), ScrR M M3 → RdR s M3 → j_W (d + 4) I_R_suitBy X 54 [some (.ref 79), some (.int (nI h)), some (.int (nI last)), some (.int (nI C)), some (.int y), e5, e6] [] M3) →
        (∀ r, fstS (fun x => skS (suW s h last) C 0 [x] x) n x = some r → ∀ M', ScrR M M' → RdR s M' → (∀ i, i < r.length → M' 93 i = nI (r.getD i 0)) → Q (some (.int (nI 1))) M') →
        j_W (d + 4) I_R_suitBy X 27 [some (.ref 79), some (.int (nI h)), some (.int (nI last)), some (.int (nI C)), some (.int (nI x)), e5, e6] [] M2 := by
      intro n
      induction n with
      | zero =>
        intro x M2 hx hS2 hr2 q0 q1
        refine jx_iload4 (pc := 27) d_R_suitBy_27 ?_
        refine jx_iload3 (pc := 29) d_R_suitBy_29 ?_
        refine jx_icmp_ge (pc := 30) 54 d_R_suitBy_30 (by decide) (fun c30 => ?_) (fun c30 => absurd c30 (fun z => z (nI_le (by omega) (by omega))))
        rotate_left
        exact q0 rfl M2 _ hS2 hr2
      | succ n ih =>
        intro x M2 hx hS2 hr2 q0 q1
        rw [fstS, hsk0] at q0 q1
        by_cases hW : suW s h last [x] = true
        · rw [if_pos hW] at q1
          refine jx_iload4 (pc := 27) d_R_suitBy_27 ?_
          refine jx_iload3 (pc := 29) d_R_suitBy_29 ?_
          refine jx_icmp_ge (pc := 30) 54 d_R_suitBy_30 (by decide) (fun c30 => absurd c30 (nI_ge (by omega) (by omega))) (fun c30 => ?_)
          refine jx_aload0 (pc := 33) d_R_suitBy_33 ?_
          refine jx_iload1 (pc := 34) d_R_suitBy_34 ?_
          refine jx_iload2 (pc := 35) d_R_suitBy_35 ?_
          refine jx_iload4 (pc := 36) d_R_suitBy_36 ?_
          refine jx_iconst (pc := 38) (v := (-1)) d_R_suitBy_38 (by decide) ?_
          refine jx_iconst (pc := 39) (v := (-1)) d_R_suitBy_39 (by decide) ?_
          refine jx_callV5 (pc := 40) (d' := d + 3) vo_R_wins lk_R_220 d_R_suitBy_40 ad_79 sh_79 rfl (by omega) (Nat.le_of_ble_eq_true rfl) ?_
          refine c_R_wins1 hw (hS2.rep hR) hr2 hh hl (by omega) (fun M3 hS3 hr3 h93 => ?_)
          refine jx_r1 ?_
          refine jx_if_eq (pc := 43) 48 d_R_suitBy_43 (by decide) (fun c43 => absurd c43 (by rw [if_pos hW]; decide)) (fun c43 => ?_)
          refine jx_iconst (pc := 46) (v := 1) d_R_suitBy_46 (by decide) ?_
          refine jx_iret (pc := 47) hX rfl d_R_suitBy_47 ?_
          rotate_left
          exact q1 _ rfl M3 (hS2.tr hS3) hr3 h93
        · rw [if_neg hW] at q0 q1
          refine jx_iload4 (pc := 27) d_R_suitBy_27 ?_
          refine jx_iload3 (pc := 29) d_R_suitBy_29 ?_
          refine jx_icmp_ge (pc := 30) 54 d_R_suitBy_30 (by decide) (fun c30 => absurd c30 (nI_ge (by omega) (by omega))) (fun c30 => ?_)
          refine jx_aload0 (pc := 33) d_R_suitBy_33 ?_
          refine jx_iload1 (pc := 34) d_R_suitBy_34 ?_
          refine jx_iload2 (pc := 35) d_R_suitBy_35 ?_
          refine jx_iload4 (pc := 36) d_R_suitBy_36 ?_
          refine jx_iconst (pc := 38) (v := (-1)) d_R_suitBy_38 (by decide) ?_
          refine jx_iconst (pc := 39) (v := (-1)) d_R_suitBy_39 (by decide) ?_
          refine jx_callV5 (pc := 40) (d' := d + 3) vo_R_wins lk_R_220 d_R_suitBy_40 ad_79 sh_79 rfl (by omega) (Nat.le_of_ble_eq_true rfl) ?_
          refine c_R_wins1 hw (hS2.rep hR) hr2 hh hl (by omega) (fun M3 hS3 hr3 h93 => ?_)
          refine jx_r1 ?_
          refine jx_if_eq (pc := 43) 48 d_R_suitBy_43 (by decide) (fun c43 => ?_) (fun c43 => absurd c43 (fun z => z (by rw [if_neg hW])))
          refine jx_iinc4 (pc := 48) d_R_suitBy_48 rfl (Nat.le_of_ble_eq_true rfl) ?_
          refine jx_goto (pc := 51) 27 d_R_suitBy_51 (by decide) ?_
          rotate_left
          rw [nI_add1]
          exact ih (x + 1) M3 (by omega) (hS2.tr hS3) hr3 q0 q1
    refine jx_iconst (pc := 24) (v := 0) d_R_suitBy_24 (by decide) ?_
    refine jx_istore4 (pc := 25) d_R_suitBy_25 rfl (Nat.le_of_ble_eq_true rfl) ?_
    rotate_left
    have e1 : skS (suW s h last) C 1 [] 0 = fstS (fun x => skS (suW s h last) C 0 [x] x) C 0 := rfl
    refine in1 C 0 M1 (by omega) hS hr (fun hn M3 y hS3 hr3 => ?_) (fun r h9 => found r (by rw [e1]; exact h9))
    refine ph2 (fun q hq => ?_) M3 _ _ _ hS3 hr3
    by_cases h1 : q = 1
    · rw [h1, e1]; exact hn
    · rw [show q = 0 by omega]; exact hno
  -- none more
  by_cases hW : suW s h last [] = true
  · have h0 : skS (suW s h last) (3 * last + 3) 0 [] 0 = some [] := by rw [← hC, hsk0, if_pos hW]
    refine jx_aload0 (pc := 0) d_R_suitBy_0 ?_
    refine jx_callV0 (pc := 1) (d' := d + 2) vo_R_reads lk_R_109 d_R_suitBy_1 ad_79 sh_79 rfl (by omega) (Nat.le_of_ble_eq_true rfl) ?_
    refine c_R_reads hw hR (fun M1 hr1 hO1 => ?_)
    refine jx_r0 ?_
    refine jx_iconst (pc := 4) (v := 3) d_R_suitBy_4 (by decide) ?_
    refine jx_iload2 (pc := 5) d_R_suitBy_5 ?_
    refine jx_imul (pc := 6) d_R_suitBy_6 ?_
    refine jx_iconst (pc := 7) (v := 3) d_R_suitBy_7 (by decide) ?_
    refine jx_iadd (pc := 8) d_R_suitBy_8 ?_
    refine jx_istore3 (pc := 9) d_R_suitBy_9 rfl (Nat.le_of_ble_eq_true rfl) ?_
    refine jx_aload0 (pc := 10) d_R_suitBy_10 ?_
    refine jx_iload1 (pc := 11) d_R_suitBy_11 ?_
    refine jx_iload2 (pc := 12) d_R_suitBy_12 ?_
    refine jx_iconst (pc := 13) (v := (-1)) d_R_suitBy_13 (by decide) ?_
    refine jx_iconst (pc := 14) (v := (-1)) d_R_suitBy_14 (by decide) ?_
    refine jx_iconst (pc := 15) (v := (-1)) d_R_suitBy_15 (by decide) ?_
    refine jx_callV5 (pc := 16) (d' := d + 3) vo_R_wins lk_R_220 d_R_suitBy_16 ad_79 sh_79 rfl (by omega) (Nat.le_of_ble_eq_true rfl) ?_
    refine c_R_wins0 hw (hR.offF hO1) hr1 hh hl (fun M2 hS2 hr2 h93 => ?_)
    have hS9 := (ScrR.offF hO1).tr hS2
    refine jx_r1 ?_
    refine jx_if_eq (pc := 19) 24 d_R_suitBy_19 (by decide) (fun c19 => absurd c19 (by rw [if_pos hW]; decide)) (fun c19 => ?_)
    refine jx_iconst (pc := 22) (v := 0) d_R_suitBy_22 (by decide) ?_
    refine jx_iret (pc := 23) hX rfl d_R_suitBy_23 ?_
    rotate_left
    exact k1 [] (suB_at (m := 0) (by omega) (fun q hq => absurd hq (by omega)) h0) M2 hS9 hr2 h93
  · have h0 : skS (suW s h last) C 0 [] 0 = none := by rw [hsk0, if_neg hW]
    refine jx_aload0 (pc := 0) d_R_suitBy_0 ?_
    refine jx_callV0 (pc := 1) (d' := d + 2) vo_R_reads lk_R_109 d_R_suitBy_1 ad_79 sh_79 rfl (by omega) (Nat.le_of_ble_eq_true rfl) ?_
    refine c_R_reads hw hR (fun M1 hr1 hO1 => ?_)
    refine jx_r0 ?_
    refine jx_iconst (pc := 4) (v := 3) d_R_suitBy_4 (by decide) ?_
    refine jx_iload2 (pc := 5) d_R_suitBy_5 ?_
    refine jx_imul (pc := 6) d_R_suitBy_6 ?_
    refine jx_iconst (pc := 7) (v := 3) d_R_suitBy_7 (by decide) ?_
    refine jx_iadd (pc := 8) d_R_suitBy_8 ?_
    refine jx_istore3 (pc := 9) d_R_suitBy_9 rfl (Nat.le_of_ble_eq_true rfl) ?_
    refine jx_aload0 (pc := 10) d_R_suitBy_10 ?_
    refine jx_iload1 (pc := 11) d_R_suitBy_11 ?_
    refine jx_iload2 (pc := 12) d_R_suitBy_12 ?_
    refine jx_iconst (pc := 13) (v := (-1)) d_R_suitBy_13 (by decide) ?_
    refine jx_iconst (pc := 14) (v := (-1)) d_R_suitBy_14 (by decide) ?_
    refine jx_iconst (pc := 15) (v := (-1)) d_R_suitBy_15 (by decide) ?_
    refine jx_callV5 (pc := 16) (d' := d + 3) vo_R_wins lk_R_220 d_R_suitBy_16 ad_79 sh_79 rfl (by omega) (Nat.le_of_ble_eq_true rfl) ?_
    refine c_R_wins0 hw (hR.offF hO1) hr1 hh hl (fun M2 hS2 hr2 h93 => ?_)
    have hS9 := (ScrR.offF hO1).tr hS2
    refine jx_r1 ?_
    refine jx_if_eq (pc := 19) 24 d_R_suitBy_19 (by decide) (fun c19 => ?_) (fun c19 => absurd c19 (fun z => z (by rw [if_neg hW])))
    rotate_left
    rw [eC]
    exact ph1 h0 M2 _ _ _ hS9 hr2
theorem c_R_suitOf {d h last : Nat} {i : Int32} {s : Sg} {M : j_M} {Q : Option Value → j_M → Prop} (hw : WF s) (hR : RepR s M) (hh : h < g_hn s) (hl : last < 10) (hi : -1 ≤ i ∧ i < 3)
    (k : ∀ M', ScrR M M' → RdR s M' → (∀ r, suB s h last = some r → ∀ i, i < r.length → M' 93 i = nI (r.getD i 0)) → Q (some (.int (suN (suB s h last) i))) M') : j_Ct (d + 5) I_R_suitOf [.ref 79, .int (nI h), .int (nI last), .int i] M Q := by
  refine j_met (by decide +kernel) co_R_suitOf (Nat.le_of_ble_eq_true rfl) (fun X hX => ?_)
  show j_W (d + 5) I_R_suitOf X 0 [some (.ref 79), some (.int (nI h)), some (.int (nI last)), some (.int i), none] [] M
  have hi0 : i ≠ -1 → 0 ≤ i := fun hm1 => by
    have g := hi.1
    rw [fa_le] at g ⊢
    rw [ne_eq, fa_eq] at hm1
    simp only [Int32.reduceToInt] at *
    omega
  cases hB : suB s h last with
  | none =>
    have kk : ∀ M', ScrR M M' → RdR s M' → Q (some (.int (-1))) M' := fun M9 hS hr => by
      have := k M9 hS hr (fun r h9 => absurd (hB.symm.trans h9) (by simp))
      rw [hB, suN_n] at this
      exact this
    by_cases hm1 : i = -1
    · skip
      refine jx_aload0 (pc := 0) d_R_suitOf_0 ?_
      refine jx_iload1 (pc := 1) d_R_suitOf_1 ?_
      refine jx_iload2 (pc := 2) d_R_suitOf_2 ?_
      refine jx_callV2 (pc := 3) (d' := d + 4) vo_R_suitBy lk_R_224 d_R_suitOf_3 ad_79 sh_79 rfl (by omega) (Nat.le_of_ble_eq_true rfl) ?_
      refine c_R_suitBy hw hR hh hl (fun _ M2 hS2 hr2 => ?_) (fun r h9 => absurd (hB.symm.trans h9) (by simp))
      refine jx_r1 ?_
      refine jx_istore4 (pc := 6) d_R_suitOf_6 rfl (Nat.le_of_ble_eq_true rfl) ?_
      refine jx_iload3 (pc := 8) d_R_suitOf_8 ?_
      refine jx_iconst (pc := 9) (v := (-1)) d_R_suitOf_9 (by decide) ?_
      refine jx_icmp_ne (pc := 10) 18 d_R_suitOf_10 (by decide) (fun c10 => absurd c10 (fun z => z hm1)) (fun c10 => ?_)
      refine jx_iload4 (pc := 13) d_R_suitOf_13 ?_
      refine jx_goto (pc := 15) 34 d_R_suitOf_15 (by decide) ?_
      refine jx_iret (pc := 34) hX rfl d_R_suitOf_34 ?_
      rotate_left
      exact kk M2 hS2 hr2
    · have hge : (-1 : Int32) ≤ i := hi.1
      refine jx_aload0 (pc := 0) d_R_suitOf_0 ?_
      refine jx_iload1 (pc := 1) d_R_suitOf_1 ?_
      refine jx_iload2 (pc := 2) d_R_suitOf_2 ?_
      refine jx_callV2 (pc := 3) (d' := d + 4) vo_R_suitBy lk_R_224 d_R_suitOf_3 ad_79 sh_79 rfl (by omega) (Nat.le_of_ble_eq_true rfl) ?_
      refine c_R_suitBy hw hR hh hl (fun _ M2 hS2 hr2 => ?_) (fun r h9 => absurd (hB.symm.trans h9) (by simp))
      refine jx_r1 ?_
      refine jx_istore4 (pc := 6) d_R_suitOf_6 rfl (Nat.le_of_ble_eq_true rfl) ?_
      refine jx_iload3 (pc := 8) d_R_suitOf_8 ?_
      refine jx_iconst (pc := 9) (v := (-1)) d_R_suitOf_9 (by decide) ?_
      refine jx_icmp_ne (pc := 10) 18 d_R_suitOf_10 (by decide) (fun c10 => ?_) (fun c10 => absurd c10 hm1)
      refine jx_iload3 (pc := 18) d_R_suitOf_18 ?_
      refine jx_iload4 (pc := 19) d_R_suitOf_19 ?_
      refine jx_icmp_ge (pc := 21) 33 d_R_suitOf_21 (by decide) (fun c21 => ?_) (fun c21 => absurd c21 (fun z => z hge))
      refine jx_iconst (pc := 33) (v := (-1)) d_R_suitOf_33 (by decide) ?_
      refine jx_iret (pc := 34) hX rfl d_R_suitOf_34 ?_
      rotate_left
      exact kk M2 hS2 hr2
  | some r =>
    have hlen := suB_len hB
    have kk : ∀ M', ScrR M M' → RdR s M' → (∀ j, j < r.length → M' 93 j = nI (r.getD j 0)) → Q (some (.int (if i = -1 then nI r.length else if i < nI r.length then nI (r.getD i.toNatClampNeg 0) else -1))) M' := fun M9 hS hr h93 => by
      have := k M9 hS hr (fun r2 h9 => by have := Option.some.inj (hB.symm.trans h9); subst this; exact h93)
      rw [hB, suN_s] at this
      exact this
    by_cases hm1 : i = -1
    · skip
      refine jx_aload0 (pc := 0) d_R_suitOf_0 ?_
      refine jx_iload1 (pc := 1) d_R_suitOf_1 ?_
      refine jx_iload2 (pc := 2) d_R_suitOf_2 ?_
      refine jx_callV2 (pc := 3) (d' := d + 4) vo_R_suitBy lk_R_224 d_R_suitOf_3 ad_79 sh_79 rfl (by omega) (Nat.le_of_ble_eq_true rfl) ?_
      refine c_R_suitBy hw hR hh hl (fun h9 => absurd (hB.symm.trans h9) (by simp)) (fun r2 h9 M2 hS2 hr2 h93 => ?_)
      have her : r2 = r := Option.some.inj (h9.symm.trans hB)
      subst her
      refine jx_r1 ?_
      refine jx_istore4 (pc := 6) d_R_suitOf_6 rfl (Nat.le_of_ble_eq_true rfl) ?_
      refine jx_iload3 (pc := 8) d_R_suitOf_8 ?_
      refine jx_iconst (pc := 9) (v := (-1)) d_R_suitOf_9 (by decide) ?_
      refine jx_icmp_ne (pc := 10) 18 d_R_suitOf_10 (by decide) (fun c10 => absurd c10 (fun z => z hm1)) (fun c10 => ?_)
      refine jx_iload4 (pc := 13) d_R_suitOf_13 ?_
      refine jx_goto (pc := 15) 34 d_R_suitOf_15 (by decide) ?_
      refine jx_iret (pc := 34) hX rfl d_R_suitOf_34 ?_
      rotate_left
      have := kk M2 hS2 hr2 h93
      rw [if_pos hm1] at this
      exact this
    · by_cases hlt : i < nI r.length
      · obtain ⟨j, hj, rfl⟩ := in_of (n := r.length) (by omega) (hi0 hm1) hlt
        have ej : (nI j).toNatClampNeg = j := nI_cl (by omega)
        refine jx_aload0 (pc := 0) d_R_suitOf_0 ?_
        refine jx_iload1 (pc := 1) d_R_suitOf_1 ?_
        refine jx_iload2 (pc := 2) d_R_suitOf_2 ?_
        refine jx_callV2 (pc := 3) (d' := d + 4) vo_R_suitBy lk_R_224 d_R_suitOf_3 ad_79 sh_79 rfl (by omega) (Nat.le_of_ble_eq_true rfl) ?_
        refine c_R_suitBy hw hR hh hl (fun h9 => absurd (hB.symm.trans h9) (by simp)) (fun r2 h9 M2 hS2 hr2 h93 => ?_)
        have her : r2 = r := Option.some.inj (h9.symm.trans hB)
        subst her
        refine jx_r1 ?_
        refine jx_istore4 (pc := 6) d_R_suitOf_6 rfl (Nat.le_of_ble_eq_true rfl) ?_
        refine jx_iload3 (pc := 8) d_R_suitOf_8 ?_
        refine jx_iconst (pc := 9) (v := (-1)) d_R_suitOf_9 (by decide) ?_
        refine jx_icmp_ne (pc := 10) 18 d_R_suitOf_10 (by decide) (fun c10 => ?_) (fun c10 => absurd c10 hm1)
        refine jx_iload3 (pc := 18) d_R_suitOf_18 ?_
        refine jx_iload4 (pc := 19) d_R_suitOf_19 ?_
        refine jx_icmp_ge (pc := 21) 33 d_R_suitOf_21 (by decide) (fun c21 => absurd c21 (Int32.not_le.mpr hlt)) (fun c21 => ?_)
        refine jx_aload0 (pc := 24) d_R_suitOf_24 ?_
        refine jx_getR (pc := 25) gf_R_49 d_R_suitOf_25 ad_79 sh_79 rfl ?_
        refine jx_iload3 (pc := 28) d_R_suitOf_28 ?_
        refine jx_iald (pc := 29) d_R_suitOf_29 ad_93 sh_93 (vp_in_nI (show j < 3 by omega) (by omega)) ?_
        refine jx_goto (pc := 30) 34 d_R_suitOf_30 (by decide) ?_
        refine jx_iret (pc := 34) hX rfl d_R_suitOf_34 ?_
        rotate_left
        have := kk M2 hS2 hr2 h93
        rw [if_neg hm1, if_pos hlt, ej] at this
        rw [ej, h93 j hj]
        exact this
      · skip
        refine jx_aload0 (pc := 0) d_R_suitOf_0 ?_
        refine jx_iload1 (pc := 1) d_R_suitOf_1 ?_
        refine jx_iload2 (pc := 2) d_R_suitOf_2 ?_
        refine jx_callV2 (pc := 3) (d' := d + 4) vo_R_suitBy lk_R_224 d_R_suitOf_3 ad_79 sh_79 rfl (by omega) (Nat.le_of_ble_eq_true rfl) ?_
        refine c_R_suitBy hw hR hh hl (fun h9 => absurd (hB.symm.trans h9) (by simp)) (fun r2 h9 M2 hS2 hr2 h93 => ?_)
        have her : r2 = r := Option.some.inj (h9.symm.trans hB)
        subst her
        refine jx_r1 ?_
        refine jx_istore4 (pc := 6) d_R_suitOf_6 rfl (Nat.le_of_ble_eq_true rfl) ?_
        refine jx_iload3 (pc := 8) d_R_suitOf_8 ?_
        refine jx_iconst (pc := 9) (v := (-1)) d_R_suitOf_9 (by decide) ?_
        refine jx_icmp_ne (pc := 10) 18 d_R_suitOf_10 (by decide) (fun c10 => ?_) (fun c10 => absurd c10 hm1)
        refine jx_iload3 (pc := 18) d_R_suitOf_18 ?_
        refine jx_iload4 (pc := 19) d_R_suitOf_19 ?_
        refine jx_icmp_ge (pc := 21) 33 d_R_suitOf_21 (by decide) (fun c21 => ?_) (fun c21 => absurd c21 (fun z => z (Int32.not_lt.mp hlt)))
        refine jx_iconst (pc := 33) (v := (-1)) d_R_suitOf_33 (by decide) ?_
        refine jx_iret (pc := 34) hX rfl d_R_suitOf_34 ?_
        rotate_left
        have := kk M2 hS2 hr2 h93
        rw [if_neg hm1, if_neg hlt] at this
        exact this
theorem c_R_suit {d : Nat} {h dy i : Int32} {s : Sg} {M : j_M} {Q : Option Value → j_M → Prop} (hw : WF s) (hR : RepR s M) (k : ∀ M', ScrR M M' → Q (some (.int (r_suit s h dy i))) M') : j_Ct (d + 6) I_R_suit [.ref 79, .int h, .int dy, .int i] M Q := by
  refine j_met (by decide +kernel) co_R_suit (Nat.le_of_ble_eq_true rfl) (fun X hX => ?_)
  show j_W (d + 6) I_R_suit X 0 [some (.ref 79), some (.int h), some (.int dy), some (.int i)] [] M
  have hn6 : g_hn s ≤ 6 := hnB_le hw.1
  have in3m : ((-1 : Int32) ≤ i ∧ i ≤ 2) ↔ (-1 ≤ i ∧ i < 3) := by
    rw [fa_le, fa_le, fa_lt]
    simp only [Int32.reduceToInt]
    omega
  by_cases hb : okSui s h dy i
  · obtain ⟨g1, g2, g3⟩ := id hb
    have hr : r_suit s h dy i = suN (suB s (cl h) (cl dy)) i := by unfold r_suit; rw [if_pos hb]
    rw [hr] at k
    have p1 := g1
    have p2 := in10.mpr g2
    have p3 := in3m.mpr g3
    obtain ⟨x, hx, rfl, ex⟩ := okd h _ (by omega) g1
    obtain ⟨y, hy, rfl, ey⟩ := okd dy 10 (by omega) g2
    rw [ex, ey] at k
    refine jx_aload0 (pc := 0) d_R_suit_0 ?_
    refine jx_iload1 (pc := 1) d_R_suit_1 ?_
    refine jx_callV1 (pc := 2) (d' := d + 5) vo_R_isHeir lk_R_112 d_R_suit_2 ad_79 sh_79 rfl (by omega) (Nat.le_of_ble_eq_true rfl) ?_
    refine c_R_isHeir hw hR (fun M2 hr2 hO2 => ?_)
    refine jx_r1 ?_
    refine jx_if_eq (pc := 5) 37 d_R_suit_5 (by decide) (fun c5 => absurd c5 (z01p p1)) (fun c5 => ?_)
    refine jx_iload2 (pc := 8) d_R_suit_8 ?_
    refine jx_iconst (pc := 9) (v := 0) d_R_suit_9 (by decide) ?_
    refine jx_bipush (pc := 10) (v := 9) d_R_suit_10 (by decide) ?_
    refine jx_callS3 (pc := 12) (d' := 0) so_R_in lk_R_95 d_R_suit_12 (by omega) (Nat.le_of_ble_eq_true rfl) ?_
    refine c_R_in ?_
    refine jx_r1 ?_
    refine jx_if_eq (pc := 15) 37 d_R_suit_15 (by decide) (fun c15 => absurd c15 (z01p p2)) (fun c15 => ?_)
    refine jx_iload3 (pc := 18) d_R_suit_18 ?_
    refine jx_iconst (pc := 19) (v := (-1)) d_R_suit_19 (by decide) ?_
    refine jx_iconst (pc := 20) (v := 2) d_R_suit_20 (by decide) ?_
    refine jx_callS3 (pc := 21) (d' := 0) so_R_in lk_R_95 d_R_suit_21 (by omega) (Nat.le_of_ble_eq_true rfl) ?_
    refine c_R_in ?_
    refine jx_r1 ?_
    refine jx_if_eq (pc := 24) 37 d_R_suit_24 (by decide) (fun c24 => absurd c24 (z01p p3)) (fun c24 => ?_)
    refine jx_aload0 (pc := 27) d_R_suit_27 ?_
    refine jx_iload1 (pc := 28) d_R_suit_28 ?_
    refine jx_iload2 (pc := 29) d_R_suit_29 ?_
    refine jx_iload3 (pc := 30) d_R_suit_30 ?_
    refine jx_callV3 (pc := 31) (d' := d + 5) vo_R_suitOf lk_R_227 d_R_suit_31 ad_79 sh_79 rfl (by omega) (Nat.le_of_ble_eq_true rfl) ?_
    refine c_R_suitOf hw (hR.offF hO2) hx hy g3 (fun M3 hS3 hr3 _ => ?_)
    refine jx_r1 ?_
    refine jx_goto (pc := 34) 39 d_R_suit_34 (by decide) ?_
    refine jx_iret (pc := 39) hX rfl d_R_suit_39 ?_
    rotate_left
    exact k M3 ((ScrR.offF hO2).tr hS3)
  · have hr : r_suit s h dy i = -2 := by unfold r_suit; rw [if_neg hb]
    rw [hr] at k
    refine jx_aload0 (pc := 0) d_R_suit_0 ?_
    refine jx_iload1 (pc := 1) d_R_suit_1 ?_
    refine jx_callV1 (pc := 2) (d' := d + 5) vo_R_isHeir lk_R_112 d_R_suit_2 ad_79 sh_79 rfl (by omega) (Nat.le_of_ble_eq_true rfl) ?_
    refine c_R_isHeir hw hR (fun M2 hr2 hO2 => ?_)
    refine jx_r1 ?_
    refine jx_if_eq (pc := 5) 37 d_R_suit_5 (by decide) (fun c5 => ?_) (fun c5 => ?_)
    refine jx_bipush (pc := 37) (v := (-2)) d_R_suit_37 (by decide) ?_
    refine jx_iret (pc := 39) hX rfl d_R_suit_39 ?_
    rotate_left
    refine jx_iload2 (pc := 8) d_R_suit_8 ?_
    refine jx_iconst (pc := 9) (v := 0) d_R_suit_9 (by decide) ?_
    refine jx_bipush (pc := 10) (v := 9) d_R_suit_10 (by decide) ?_
    refine jx_callS3 (pc := 12) (d' := 0) so_R_in lk_R_95 d_R_suit_12 (by omega) (Nat.le_of_ble_eq_true rfl) ?_
    refine c_R_in ?_
    refine jx_r1 ?_
    refine jx_if_eq (pc := 15) 37 d_R_suit_15 (by decide) (fun c15 => ?_) (fun c15 => ?_)
    refine jx_bipush (pc := 37) (v := (-2)) d_R_suit_37 (by decide) ?_
    refine jx_iret (pc := 39) hX rfl d_R_suit_39 ?_
    rotate_left
    refine jx_iload3 (pc := 18) d_R_suit_18 ?_
    refine jx_iconst (pc := 19) (v := (-1)) d_R_suit_19 (by decide) ?_
    refine jx_iconst (pc := 20) (v := 2) d_R_suit_20 (by decide) ?_
    refine jx_callS3 (pc := 21) (d' := 0) so_R_in lk_R_95 d_R_suit_21 (by omega) (Nat.le_of_ble_eq_true rfl) ?_
    refine c_R_in ?_
    refine jx_r1 ?_
    refine jx_if_eq (pc := 24) 37 d_R_suit_24 (by decide) (fun c24 => ?_) (fun c24 => ?_)
    refine jx_bipush (pc := 37) (v := (-2)) d_R_suit_37 (by decide) ?_
    refine jx_iret (pc := 39) hX rfl d_R_suit_39 ?_
    rotate_left
    rotate_left
    · exact k M2 (ScrR.offF hO2)
    · exact k M2 (ScrR.offF hO2)
    · exact k M2 (ScrR.offF hO2)
    · exact absurd ⟨z01n c5, in10.mp (z01n c15), in3m.mp (z01n c24)⟩ hb
