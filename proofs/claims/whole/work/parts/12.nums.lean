/-! NUMBERS: bits, small ints -/
theorem fa_or (a b : Nat) : nI a ||| nI b = nI (a ||| b) := by
  apply Int32.toBitVec_inj.1
  show BitVec.ofNat 32 a ||| BitVec.ofNat 32 b = BitVec.ofNat 32 (a ||| b)
  apply BitVec.eq_of_getLsbD_eq
  intro i hi
  simp [hi]
theorem sh_l : ∀ n, n < 32 → ((nI n &&& 31).toBitVec.smod 32).toNat = n := by decide +kernel
theorem sh_u : ∀ n, n < 32 → (((nI n).toUInt32 &&& Int32.toUInt32 31).toBitVec % 32).toNat = n := by decide +kernel
theorem nI_and1 {n : Nat} (h : n < 2 ^ 32) : nI n &&& 1 = nI (n % 2) := pk_andN h 1 (by decide)
/-- a bit, by a shift of zeroes -/
theorem bit_u {n k : Nat} (h : n < 2 ^ 31) (hk : k < 32) : ((nI n).toUInt32 >>> ((nI k).toUInt32 &&& Int32.toUInt32 31)).toInt32 &&& 1 = nI (n / 2 ^ k % 2) := by
  rw [pk_ushrN (by omega) (nI k) k (sh_u k hk), nI_and1 (Nat.lt_of_le_of_lt (Nat.div_le_self _ _) (by omega))]
theorem bit_s {n k : Nat} (h : n < 2 ^ 31) (hk : k < 32) : (nI n >>> (nI k &&& 31)) &&& 1 = nI (n / 2 ^ k % 2) := by
  rw [pk_shrN h (nI k &&& 31) k (sh_l k hk), nI_and1 (Nat.lt_of_le_of_lt (Nat.div_le_self _ _) (by omega))]
theorem bt_iff (n k : Nat) : n.testBit k = true ↔ n / 2 ^ k % 2 = 1 := by rw [Nat.testBit_eq_decide_div_mod_eq]; simp
theorem bt_u0 {n k : Nat} (h : n < 2 ^ 31) (hk : k < 32) : ((nI n).toUInt32 >>> ((nI k).toUInt32 &&& Int32.toUInt32 31)).toInt32 &&& 1 = 0 ↔ n.testBit k = false := by
  rw [bit_u h hk, ← nI_0, nI_eq (by omega) (by omega), ← Bool.not_eq_true, bt_iff]; omega
theorem bt_s1 {n k : Nat} (h : n < 2 ^ 31) (hk : k < 32) : (nI n >>> (nI k &&& 31)) &&& 1 = 1 ↔ n.testBit k = true := by
  rw [bit_s h hk, show (1 : Int32) = nI 1 from rfl, nI_eq (by omega) (by omega), bt_iff]
theorem shl1 {k : Nat} (hk : k < 31) : (1 : Int32) <<< (nI k &&& 31) = nI (2 ^ k) := by
  have h := pk_shlN (n := 1) (nI k &&& 31) k (sh_l k (by omega)) (by rw [Nat.one_mul]; exact Nat.pow_lt_pow_right (by decide) (by omega))
  rw [Nat.one_mul] at h; exact h
theorem or_bit {c k : Nat} (hk : k < 31) : nI c ||| ((1 : Int32) <<< (nI k &&& 31)) = nI (c ||| 2 ^ k) := by rw [shl1 hk, fa_or]
theorem em_lt {x : Nat} (h : x < 9) : em x = nI x := by unfold em; rw [if_neg (by omega)]
theorem em_9 : em 9 = -1 := rfl
theorem nI_ne_m1 {x : Nat} (h : x < 2 ^ 31) : nI x ≠ -1 := by intro e; have := congrArg Int32.toInt e; rw [nI_toInt h] at this; simp at this
theorem em_eq {x y : Nat} (hx : x < 1000) (hy : y < 9) : em x = nI y ↔ x = y := by
  unfold em
  split
  · rename_i h; constructor
    · intro e; exact absurd e.symm (nI_ne_m1 (by omega))
    · intro e; omega
  · exact nI_eq (by omega) (by omega)
theorem em_inj {x y : Nat} (hx : x < 1000) (hy : y < 1000) : em x = em y ↔ x = y := by
  constructor
  · intro h
    by_cases h9 : y = 9
    · subst h9
      rw [em_9] at h
      unfold em at h
      split at h
      · assumption
      · exact absurd h (nI_ne_m1 (by omega))
    · unfold em at h
      rw [if_neg h9] at h
      split at h
      · exact absurd h.symm (nI_ne_m1 (by omega))
      · exact (nI_eq (by omega) (by omega)).mp h
  · intro h; rw [h]
theorem em_m1 {x : Nat} (hx : x < 1000) : em x = -1 ↔ x = 9 := em_inj (y := 9) hx (by omega)
theorem nI_sub {a b : Nat} (h : b ≤ a) : nI a - nI b = nI (a - b) := pk_sub h
theorem nI_mul (a b : Nat) : nI a * nI b = nI (a * b) := pk_mul a b
theorem nI_sub_le {a b : Nat} (ha : a < 2 ^ 30) (hb : b < 2 ^ 30) : 0 < nI a - nI b ↔ b < a := by
  rw [fa_lt, pk_sub_toInt ha hb]
  show ((0 : Int) < _) ↔ _
  omega
theorem nI_lt_iff {a b : Nat} (ha : a < 2 ^ 31) (hb : b < 2 ^ 31) : nI a < nI b ↔ a < b := nI_ltI ha hb
theorem m1_lt0 : (-1 : Int32) < 0 := by decide
theorem nI_add1 (a : Nat) : nI a + Int32.ofInt 1 = nI (a + 1) := nI_1 a
