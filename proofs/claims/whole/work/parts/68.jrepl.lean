/-! OPERATIONS of the component, ten: replies -/
def stp (s : Sg) (who day t : Nat) (m : Mo) : Mo := dayS (g_en s) (g_ta s 0) 9 (g_wy s 3) (g_bs s day ++ (if t < 3 then [(who, t)] else [])) day m
def tny (p : Nat → Bool) : Bool := p 0 || p 1 || p 2 || p 3
def tal4 (p : Nat → Bool) : Bool := p 0 && p 1 && p 2 && p 3
def wBy (s : Sg) (a b : Nat) : Nat → Nat → Nat → Mo → Bool
  | 0, day, t, m => (stp s (if day % 2 = 0 then a else b) day t m).2.2.2.2 == a
  | r + 1, day, t, m => if (day + 1) % 2 = 0 then tny (fun u => wBy s a b r (day + 1) u (stp s (if day % 2 = 0 then a else b) day t m)) else tal4 (fun u => wBy s a b r (day + 1) u (stp s (if day % 2 = 0 then a else b) day t m))
theorem tny_t {p : Nat → Bool} {t : Nat} (h : t < 4) (hp : p t = true) : tny p = true := by
  have h4 : t = 0 ∨ t = 1 ∨ t = 2 ∨ t = 3 := by omega
  unfold tny
  rcases h4 with rfl | rfl | rfl | rfl <;> simp [hp]
theorem tal_f {p : Nat → Bool} {t : Nat} (h : t < 4) (hp : p t = false) : tal4 p = false := by
  have h4 : t = 0 ∨ t = 1 ∨ t = 2 ∨ t = 3 := by omega
  unfold tal4
  rcases h4 with rfl | rfl | rfl | rfl <;> simp [hp]
theorem tny_n {p : Nat → Bool} (h : ∀ t, t < 4 → p t = false) : tny p = false := by
  unfold tny; rw [h 0 (by omega), h 1 (by omega), h 2 (by omega), h 3 (by omega)]; rfl
theorem tal_a {p : Nat → Bool} (h : ∀ t, t < 4 → p t = true) : tal4 p = true := by
  unfold tal4; rw [h 0 (by omega), h 1 (by omega), h 2 (by omega), h 3 (by omega)]; rfl
theorem stpW {s : Sg} (hw : WF s) {who day t b : Nat} {m : Mo} (hd : day < 30) (hm : MoW (g_en s) b m) : MoW (g_en s) (b + 10000) (stp s who day t m) := by
  refine dayW hw.en (hw.2.2.1 0) hd (fun q hq => ?_) ?_ hm
  · rcases List.mem_append.mp hq with h | h
    · exact (g_bs_wf hw day q h).2
    · by_cases ht : t < 3
      · rw [if_pos ht] at h
        have : q = (who, t) := by simpa using h
        rw [this]; exact ht
      · rw [if_neg ht] at h; exact absurd h List.not_mem_nil
  · have := g_bs_len hw day
    rw [List.length_append]
    split <;> simp <;> omega
def KK (day : Nat) (M M' : j_M) : Prop := ∀ b, (b < 39 + 4 * day ∨ 79 ≤ b) → M' b = M b
theorem KK.off {day a : Nat} {M M' : j_M} (h : Off1 a M M') (ha : a = 39 + 4 * day) (hd : day < 10) : KK day M M' := fun b hb => h b (by omega) (by omega) (by omega) (by omega)
theorem KK.tr {day : Nat} {M M1 M2 : j_M} (h : KK day M M1) (h2 : KK day M1 M2) : KK day M M2 := fun b hb => (h2 b hb).trans (h b hb)
theorem KK.up {day : Nat} {M M1 : j_M} (h : KK (day + 1) M M1) : KK day M M1 := fun b hb => h b (by omega)
theorem KK.scr {day : Nat} {M M' : j_M} (h : KK day M M') : Scr M M' := fun b hb => h b (by unfold PC at hb; omega)
theorem mo_r {q : Nat} (h : q < 11) : ([some 35, some 39, some 43, some 47, some 51, some 55, some 59, some 63, some 67, some 71, some 75] : List (Option Nat)).getD (nI q).toNatClampNeg none = some (35 + 4 * q) := by
  rw [nI_cl (by omega)]
  have h2 : q = 0 ∨ q = 1 ∨ q = 2 ∨ q = 3 ∨ q = 4 ∨ q = 5 ∨ q = 6 ∨ q = 7 ∨ q = 8 ∨ q = 9 ∨ q = 10 := by omega
  rcases h2 with rfl | rfl | rfl | rfl | rfl | rfl | rfl | rfl | rfl | rfl | rfl <;> rfl
def TR (a b n : Nat) (M : j_M) : Prop := M 21 1 = nI a ∧ M 21 2 = nI b ∧ M 21 3 = nI n
/-- what winsBy does, at a depth -/
def WB (s : Sg) (a b n r d' : Nat) : Prop := ∀ (day t : Nat) (m : Mo) (M : j_M) (Q : Option Value → j_M → Prop), day + 1 + r = n → t < 4 → RepC s M → TR a b n M → MoodAt M (35 + 4 * day) (g_ta s 0) 9 m → MoW (g_en s) (10000 * day) m → (∀ M', KK day M M' → Q (some (.int (if wBy s a b r day t m then 1 else 0))) M') → j_Ct d' I_Tu_winsBy [.ref 21, .int (nI day), .int (nI t)] M Q
theorem c_Tu_winsFrom {s : Sg} {a b n r d' day : Nat} {m : Mo} {M : j_M} {Q : Option Value → j_M → Prop} (hW : WB s a b n r d') (hn : day + 1 + r = n) (hn4 : n ≤ 4) (hR : RepC s M) (hT : TR a b n M) (hM : MoodAt M (35 + 4 * day) (g_ta s 0) 9 m) (hw : MoW (g_en s) (10000 * day) m)
    (k : ∀ M', KK day M M' → Q (some (.int (if (if day % 2 = 0 then tny (fun u => wBy s a b r day u m) else tal4 (fun u => wBy s a b r day u m)) then 1 else 0))) M') : j_Ct (d' + 1) I_Tu_winsFrom [.ref 21, .int (nI day)] M Q := by
  refine j_met (by decide +kernel) co_Tu_winsFrom (Nat.le_of_ble_eq_true rfl) (fun X hX => ?_)
  show j_W (d' + 1) I_Tu_winsFrom X 0 [some (.ref 21), some (.int (nI day)), none, none] [] M
  have e2 : nI day - nI day / 2 * 2 = nI (day % 2) := pk_rem (d := 2) (by omega) (by omega) (by omega)
  have loop : ∀ (fc : Bool), fc = decide (day % 2 = 0) → ∀ (q t : Nat) (M1 : j_M), t + q = 4 → KK day M M1 → (∀ u, u < t → wBy s a b r day u m = !fc) → j_W (d' + 1) I_Tu_winsFrom X 14 [some (.ref 21), some (.int (nI day)), some (.int (if fc then 1 else 0)), some (.int (nI t))] [] M1 := by
    intro fc hfc q
    induction q with
    | zero =>
      intro t M1 ht hK hu
      have ht' : t = 4 := by omega
      subst ht'
      by_cases h2 : day % 2 = 0
      · have hf : fc = true := by rw [hfc]; exact decide_eq_true h2
        subst hf
        rw [if_pos h2, tny_n (fun u h => by rw [hu u h]; rfl)] at k
        refine jx_iload3 (pc := 14) d_Tu_winsFrom_14 ?_
        refine jx_iconst (pc := 15) (v := 3) d_Tu_winsFrom_15 (by decide) ?_
        refine jx_icmp_gt (pc := 16) 37 d_Tu_winsFrom_16 (by decide) (fun c16 => ?_) (fun c16 => absurd c16 (fun z => z (show nI 3 < nI 4 from nI_lt (by omega) (by omega))))
        refine jx_iload2 (pc := 37) d_Tu_winsFrom_37 ?_
        refine jx_if_ne (pc := 38) 45 d_Tu_winsFrom_38 (by decide) (fun c38 => ?_) (fun c38 => absurd c38 (by decide))
        refine jx_iconst (pc := 45) (v := 0) d_Tu_winsFrom_45 (by decide) ?_
        refine jx_zret (pc := 46) hX rfl (by first | exact Or.inl rfl | exact Or.inr rfl) d_Tu_winsFrom_46 ?_
        rotate_left
        exact k M1 hK
      · have hf : fc = false := by rw [hfc]; exact decide_eq_false h2
        subst hf
        rw [if_neg h2, tal_a (fun u h => by rw [hu u h]; rfl)] at k
        refine jx_iload3 (pc := 14) d_Tu_winsFrom_14 ?_
        refine jx_iconst (pc := 15) (v := 3) d_Tu_winsFrom_15 (by decide) ?_
        refine jx_icmp_gt (pc := 16) 37 d_Tu_winsFrom_16 (by decide) (fun c16 => ?_) (fun c16 => absurd c16 (fun z => z (show nI 3 < nI 4 from nI_lt (by omega) (by omega))))
        refine jx_iload2 (pc := 37) d_Tu_winsFrom_37 ?_
        refine jx_if_ne (pc := 38) 45 d_Tu_winsFrom_38 (by decide) (fun c38 => absurd c38 (fun z => z rfl)) (fun c38 => ?_)
        refine jx_iconst (pc := 41) (v := 1) d_Tu_winsFrom_41 (by decide) ?_
        refine jx_goto (pc := 42) 46 d_Tu_winsFrom_42 (by decide) ?_
        refine jx_zret (pc := 46) hX rfl (by first | exact Or.inl rfl | exact Or.inr rfl) d_Tu_winsFrom_46 ?_
        rotate_left
        exact k M1 hK
    | succ q ih =>
      intro t M1 ht hK hu
      have hR1 := hK.scr.rep hR
      have hT1 : TR a b n M1 := by unfold TR at *; rw [hK 21 (by omega)]; exact hT
      have hM1 : MoodAt M1 (35 + 4 * day) (g_ta s 0) 9 m := hM.cong (hK _ (by omega)) (hK _ (by omega)) (hK _ (by omega)) (hK _ (by omega))
      by_cases hP : wBy s a b r day t m = fc
      · have hres : (if day % 2 = 0 then tny (fun u => wBy s a b r day u m) else tal4 (fun u => wBy s a b r day u m)) = fc := by
          by_cases h2 : day % 2 = 0
          · have hf : fc = true := by rw [hfc]; exact decide_eq_true h2
            rw [if_pos h2, hf]; exact tny_t (t := t) (by omega) (by rw [hP, hf])
          · have hf : fc = false := by rw [hfc]; exact decide_eq_false h2
            rw [if_neg h2, hf]; exact tal_f (t := t) (by omega) (by rw [hP, hf])
        rw [hres] at k
        refine jx_iload3 (pc := 14) d_Tu_winsFrom_14 ?_
        refine jx_iconst (pc := 15) (v := 3) d_Tu_winsFrom_15 (by decide) ?_
        refine jx_icmp_gt (pc := 16) 37 d_Tu_winsFrom_16 (by decide) (fun c16 => absurd c16 (show ¬ nI 3 < nI t from nI_nlt (by omega) (by omega))) (fun c16 => ?_)
        refine jx_aload0 (pc := 19) d_Tu_winsFrom_19 ?_
        refine jx_iload1 (pc := 20) d_Tu_winsFrom_20 ?_
        refine jx_iload3 (pc := 21) d_Tu_winsFrom_21 ?_
        refine jx_callV2 (pc := 22) (d' := d') vo_Tu_winsBy lk_Tu_37 d_Tu_winsFrom_22 ad_21 sh_21 rfl (by omega) (Nat.le_of_ble_eq_true rfl) ?_
        refine hW day t m M1 _ hn (by omega) hR1 hT1 hM1 hw (fun M2 hK2 => ?_)
        rw [hP]
        refine jx_r1 ?_
        refine jx_iload2 (pc := 25) d_Tu_winsFrom_25 ?_
        refine jx_icmp_ne (pc := 26) 31 d_Tu_winsFrom_26 (by decide) (fun c26 => absurd c26 (fun z => z rfl)) (fun c26 => ?_)
        refine jx_iload2 (pc := 29) d_Tu_winsFrom_29 ?_
        refine jx_zret (pc := 30) hX rfl (by split <;> first | exact Or.inr rfl | exact Or.inl rfl) d_Tu_winsFrom_30 ?_
        rotate_left
        exact k M2 (hK.tr hK2)
      · have hP2 : wBy s a b r day t m = !fc := by cases hx : wBy s a b r day t m <;> cases hy : fc <;> simp_all
        have hne : (if (!fc) = true then (1 : Int32) else 0) ≠ if fc = true then 1 else 0 := by cases fc <;> decide
        refine jx_iload3 (pc := 14) d_Tu_winsFrom_14 ?_
        refine jx_iconst (pc := 15) (v := 3) d_Tu_winsFrom_15 (by decide) ?_
        refine jx_icmp_gt (pc := 16) 37 d_Tu_winsFrom_16 (by decide) (fun c16 => absurd c16 (show ¬ nI 3 < nI t from nI_nlt (by omega) (by omega))) (fun c16 => ?_)
        refine jx_aload0 (pc := 19) d_Tu_winsFrom_19 ?_
        refine jx_iload1 (pc := 20) d_Tu_winsFrom_20 ?_
        refine jx_iload3 (pc := 21) d_Tu_winsFrom_21 ?_
        refine jx_callV2 (pc := 22) (d' := d') vo_Tu_winsBy lk_Tu_37 d_Tu_winsFrom_22 ad_21 sh_21 rfl (by omega) (Nat.le_of_ble_eq_true rfl) ?_
        refine hW day t m M1 _ hn (by omega) hR1 hT1 hM1 hw (fun M2 hK2 => ?_)
        rw [hP2]
        refine jx_r1 ?_
        refine jx_iload2 (pc := 25) d_Tu_winsFrom_25 ?_
        refine jx_icmp_ne (pc := 26) 31 d_Tu_winsFrom_26 (by decide) (fun c26 => ?_) (fun c26 => absurd c26 hne)
        refine jx_iinc3 (pc := 31) d_Tu_winsFrom_31 rfl (Nat.le_of_ble_eq_true rfl) ?_
        refine jx_goto (pc := 34) 14 d_Tu_winsFrom_34 (by decide) ?_
        rotate_left
        rw [nI_add1]
        refine ih (t + 1) M2 (by omega) (hK.tr hK2) (fun u hu2 => ?_)
        by_cases hc : u = t
        · rw [hc]; exact hP2
        · exact hu u (by omega)
  by_cases h2 : day % 2 = 0
  · -- the first one
    refine jx_iload1 (pc := 0) d_Tu_winsFrom_0 ?_
    refine jx_iconst (pc := 1) (v := 2) d_Tu_winsFrom_1 (by decide) ?_
    refine jx_irem (pc := 2) d_Tu_winsFrom_2 (by decide) ?_
    refine jx_if_ne (pc := 3) 10 d_Tu_winsFrom_3 (by decide) (fun c3 => absurd c3 (fun z => z (by rw [e2, h2]; rfl))) (fun c3 => ?_)
    refine jx_iconst (pc := 6) (v := 1) d_Tu_winsFrom_6 (by decide) ?_
    refine jx_goto (pc := 7) 11 d_Tu_winsFrom_7 (by decide) ?_
    refine jx_istore2 (pc := 11) d_Tu_winsFrom_11 rfl (Nat.le_of_ble_eq_true rfl) ?_
    refine jx_iconst (pc := 12) (v := 0) d_Tu_winsFrom_12 (by decide) ?_
    refine jx_istore3 (pc := 13) d_Tu_winsFrom_13 rfl (Nat.le_of_ble_eq_true rfl) ?_
    rotate_left
    exact loop true (decide_eq_true h2).symm 4 0 M (by omega) (fun _ _ => rfl) (fun u hu => absurd hu (by omega))
  · -- the second one
    refine jx_iload1 (pc := 0) d_Tu_winsFrom_0 ?_
    refine jx_iconst (pc := 1) (v := 2) d_Tu_winsFrom_1 (by decide) ?_
    refine jx_irem (pc := 2) d_Tu_winsFrom_2 (by decide) ?_
    refine jx_if_ne (pc := 3) 10 d_Tu_winsFrom_3 (by decide) (fun c3 => ?_) (fun c3 => absurd c3 (by rw [e2, show day % 2 = 1 by omega]; decide))
    refine jx_iconst (pc := 10) (v := 0) d_Tu_winsFrom_10 (by decide) ?_
    refine jx_istore2 (pc := 11) d_Tu_winsFrom_11 rfl (Nat.le_of_ble_eq_true rfl) ?_
    refine jx_iconst (pc := 12) (v := 0) d_Tu_winsFrom_12 (by decide) ?_
    refine jx_istore3 (pc := 13) d_Tu_winsFrom_13 rfl (Nat.le_of_ble_eq_true rfl) ?_
    rotate_left
    exact loop false (decide_eq_false h2).symm 4 0 M (by omega) (fun _ _ => rfl) (fun u hu => absurd hu (by omega))
