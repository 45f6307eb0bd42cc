/-! OPERATIONS of the component, thirteen: chances -/
def mixL (h x : Int64) : Int64 := 31 * h + x
theorem c_J_mix {d : Nat} {h x : Int64} {M : j_M} {Q : Option Value → j_M → Prop} (k : Q (some (.long (mixL h x))) M) : j_Ct d I_J_mix [.long h, .long x] M Q := by
  refine j_met (by decide +kernel) co_J_mix (Nat.le_of_ble_eq_true rfl) (fun X hX => ?_)
  show j_W d I_J_mix X 0 [some (.long h), none, some (.long x), none] [] M
  refine jx_ldc2 (pc := 0) d_J_mix_0 lc_J_364 ?_
  refine jx_lload0 (pc := 3) d_J_mix_3 ?_
  refine jx_lmul (pc := 4) d_J_mix_4 ?_
  refine jx_lload2 (pc := 5) d_J_mix_5 ?_
  refine jx_ladd (pc := 6) d_J_mix_6 ?_
  refine jx_lret (pc := 7) hX rfl d_J_mix_7 ?_
  rotate_left
  exact k
theorem c_Ch_ask {d : Nat} {c h day : Int32} {M : j_M} {Q : Option Value → j_M → Prop} (k : Q none (j_set (j_set (j_set M 22 1 c) 22 2 h) 22 3 day)) : j_Ct d I_Ch_ask [.ref 22, .int c, .int h, .int day] M Q := by
  refine j_met (by decide +kernel) co_Ch_ask (Nat.le_of_ble_eq_true rfl) (fun X hX => ?_)
  show j_W d I_Ch_ask X 0 [some (.ref 22), some (.int c), some (.int h), some (.int day)] [] M
  refine jx_aload0 (pc := 0) d_Ch_ask_0 ?_
  refine jx_iload1 (pc := 1) d_Ch_ask_1 ?_
  refine jx_putI (pc := 2) pf_Ch_15 d_Ch_ask_2 ad_22 sh_22 rfl ?_
  refine jx_aload0 (pc := 5) d_Ch_ask_5 ?_
  refine jx_iload2 (pc := 6) d_Ch_ask_6 ?_
  refine jx_putI (pc := 7) pf_Ch_19 d_Ch_ask_7 ad_22 sh_22 rfl ?_
  refine jx_aload0 (pc := 10) d_Ch_ask_10 ?_
  refine jx_iload3 (pc := 11) d_Ch_ask_11 ?_
  refine jx_putI (pc := 12) pf_Ch_22 d_Ch_ask_12 ad_22 sh_22 rfl ?_
  refine jx_vret (pc := 15) hX rfl d_Ch_ask_15 ?_
  rotate_left
  exact k
/-- of 16 to the power of the days: how many find the heir -/
def awk (s : Sg) (h day md mt : Nat) (m : Mo) : Mo := if day = md then brg (g_en s) (g_ta s 0) day h mt (brgs (g_en s) (g_ta s 0) day (g_bs s day) m) else brgs (g_en s) (g_ta s 0) day (g_bs s day) m
def wgF (s : Sg) (c h md mt : Nat) : Nat → Nat → Mo → Nat
  | 0, _, m => if m.2.2.2.2 = h then 1 else 0
  | r + 1, day, m => c * wgF s c h md mt r (day + 1) (eve (g_en s) 9 m) + (16 - c) * wgF s c h md mt r (day + 1) (eve (g_en s) 9 (awk s h day md mt m))
theorem wgF_le (s : Sg) {c : Nat} (h md mt : Nat) (hc : c ≤ 16) : ∀ r day m, wgF s c h md mt r day m ≤ 16 ^ r
  | 0, day, m => by unfold wgF; split <;> simp
  | r + 1, day, m => by
    have h1 := wgF_le s h md mt hc r (day + 1) (eve (g_en s) 9 m)
    have h2 := wgF_le s h md mt hc r (day + 1) (eve (g_en s) 9 (awk s h day md mt m))
    unfold wgF
    have h3 := Nat.mul_le_mul_left c h1
    have h4 := Nat.mul_le_mul_left (16 - c) h2
    have h5 : c * 16 ^ r + (16 - c) * 16 ^ r = 16 * 16 ^ r := by rw [← Nat.add_mul, show c + (16 - c) = 16 by omega]
    rw [Nat.pow_succ, Nat.mul_comm (16 ^ r) 16]
    omega
theorem brg_no {e : En} {ts : Nat → Nat} {day h t : Nat} {m : Mo} (hh : ¬ h < e.1.1) : brg e ts day h t m = m := by unfold brg; rw [if_neg hh]
theorem brgs_no {e : En} {ts : Nat → Nat} {day : Nat} : ∀ (l : List (Nat × Nat)) (m : Mo), (∀ q ∈ l, ¬ q.1 < e.1.1) → brgs e ts day l m = m
  | [], m, _ => rfl
  | q :: l, m, hq => by
    show brgs e ts day l (brg e ts day q.1 q.2 m) = m
    rw [brg_no (hq q (List.mem_cons_self ..))]
    exact brgs_no l m (fun x hx => hq x (List.mem_cons_of_mem _ hx))
theorem awk_no {s : Sg} {h day md mt : Nat} {m : Mo} (h1 : day ≠ md) (h2 : cmS s day = 0) : awk s h day md mt m = m := by
  unfold awk
  rw [if_neg h1]
  refine brgs_no _ _ (fun q hq hlt => ?_)
  have h3 : q ∈ (g_bs s day).filter (fun q => decide (q.1 < g_hn s)) := List.mem_filter.mpr ⟨hq, decide_eq_true hlt⟩
  have h4 : (g_bs s day).filter (fun q => decide (q.1 < g_hn s)) = [] := List.eq_nil_of_length_eq_zero h2
  rw [h4] at h3
  exact absurd h3 List.not_mem_nil
