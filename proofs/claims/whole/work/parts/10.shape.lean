/-! SHAPES, by program -/
theorem ad_0 : 0 < j_NA := by decide
theorem sh_0 : j_sh 0 = (0, 0, [some 1, some 4, some 10, some 11, some 15, some 17, some 19, some 21, some 22, some 23, some 31, some 34, some 14]) := rfl
theorem ad_1 : 1 < j_NA := by decide
theorem sh_1 : j_sh 1 = (0, 1, [some 2, some 3, none, none, none]) := rfl
theorem ad_2 : 2 < j_NA := by decide
theorem sh_2 : j_sh 2 = (1, 23, []) := rfl
theorem ad_3 : 3 < j_NA := by decide
theorem sh_3 : j_sh 3 = (1, 18, []) := rfl
theorem ad_4 : 4 < j_NA := by decide
theorem sh_4 : j_sh 4 = (0, 2, [some 5, some 6, some 7, some 8, some 9, none]) := rfl
theorem ad_5 : 5 < j_NA := by decide
theorem sh_5 : j_sh 5 = (1, 24, []) := rfl
theorem ad_6 : 6 < j_NA := by decide
theorem sh_6 : j_sh 6 = (1, 24, []) := rfl
theorem ad_7 : 7 < j_NA := by decide
theorem sh_7 : j_sh 7 = (1, 24, []) := rfl
theorem ad_8 : 8 < j_NA := by decide
theorem sh_8 : j_sh 8 = (1, 24, []) := rfl
theorem ad_9 : 9 < j_NA := by decide
theorem sh_9 : j_sh 9 = (1, 31, []) := rfl
theorem ad_10 : 10 < j_NA := by decide
theorem sh_10 : j_sh 10 = (1, 5, []) := rfl
theorem ad_11 : 11 < j_NA := by decide
theorem sh_11 : j_sh 11 = (4, 2, [some 12, some 13]) := rfl
theorem ad_12 : 12 < j_NA := by decide
theorem sh_12 : j_sh 12 = (1, 3, []) := rfl
theorem ad_13 : 13 < j_NA := by decide
theorem sh_13 : j_sh 13 = (1, 3, []) := rfl
theorem ad_14 : 14 < j_NA := by decide
theorem sh_14 : j_sh 14 = (1, 3, []) := rfl
theorem ad_15 : 15 < j_NA := by decide
theorem sh_15 : j_sh 15 = (0, 3, [some 1, some 4, some 10, some 16]) := rfl
theorem ad_16 : 16 < j_NA := by decide
theorem sh_16 : j_sh 16 = (3, 11, [some 35, some 39, some 43, some 47, some 51, some 55, some 59, some 63, some 67, some 71, some 75]) := rfl
theorem ad_17 : 17 < j_NA := by decide
theorem sh_17 : j_sh 17 = (0, 5, [some 18, none, none, none]) := rfl
theorem ad_18 : 18 < j_NA := by decide
theorem sh_18 : j_sh 18 = (1, 30, []) := rfl
theorem ad_19 : 19 < j_NA := by decide
theorem sh_19 : j_sh 19 = (0, 6, [some 15, some 20, none, none]) := rfl
theorem ad_20 : 20 < j_NA := by decide
theorem sh_20 : j_sh 20 = (1, 3, []) := rfl
theorem ad_21 : 21 < j_NA := by decide
theorem sh_21 : j_sh 21 = (0, 7, [some 15, none, none, none]) := rfl
theorem ad_22 : 22 < j_NA := by decide
theorem sh_22 : j_sh 22 = (0, 8, [some 15, none, none, none, none, none]) := rfl
theorem ad_23 : 23 < j_NA := by decide
theorem sh_23 : j_sh 23 = (0, 9, [some 24, some 25, some 26, none]) := rfl
theorem ad_24 : 24 < j_NA := by decide
theorem sh_24 : j_sh 24 = (1, 4, []) := rfl
theorem ad_25 : 25 < j_NA := by decide
theorem sh_25 : j_sh 25 = (1, 4, []) := rfl
theorem ad_26 : 26 < j_NA := by decide
theorem sh_26 : j_sh 26 = (4, 4, [some 27, some 28, some 29, some 30]) := rfl
theorem ad_27 : 27 < j_NA := by decide
theorem sh_27 : j_sh 27 = (1, 48, []) := rfl
theorem ad_28 : 28 < j_NA := by decide
theorem sh_28 : j_sh 28 = (1, 48, []) := rfl
theorem ad_29 : 29 < j_NA := by decide
theorem sh_29 : j_sh 29 = (1, 48, []) := rfl
theorem ad_30 : 30 < j_NA := by decide
theorem sh_30 : j_sh 30 = (1, 48, []) := rfl
theorem ad_31 : 31 < j_NA := by decide
theorem sh_31 : j_sh 31 = (4, 2, [some 32, some 33]) := rfl
theorem ad_32 : 32 < j_NA := by decide
theorem sh_32 : j_sh 32 = (1, 30, []) := rfl
theorem ad_33 : 33 < j_NA := by decide
theorem sh_33 : j_sh 33 = (1, 30, []) := rfl
theorem ad_34 : 34 < j_NA := by decide
theorem sh_34 : j_sh 34 = (1, 21, []) := rfl
theorem ad_35 : 35 < j_NA := by decide
theorem sh_35 : j_sh 35 = (0, 4, [some 36, some 37, some 38, none, none, none, none]) := rfl
theorem ad_36 : 36 < j_NA := by decide
theorem sh_36 : j_sh 36 = (1, 6, []) := rfl
theorem ad_37 : 37 < j_NA := by decide
theorem sh_37 : j_sh 37 = (1, 6, []) := rfl
theorem ad_38 : 38 < j_NA := by decide
theorem sh_38 : j_sh 38 = (1, 3, []) := rfl
theorem ad_39 : 39 < j_NA := by decide
theorem sh_39 : j_sh 39 = (0, 4, [some 40, some 41, some 42, none, none, none, none]) := rfl
theorem ad_40 : 40 < j_NA := by decide
theorem sh_40 : j_sh 40 = (1, 6, []) := rfl
theorem ad_41 : 41 < j_NA := by decide
theorem sh_41 : j_sh 41 = (1, 6, []) := rfl
theorem ad_42 : 42 < j_NA := by decide
theorem sh_42 : j_sh 42 = (1, 3, []) := rfl
theorem ad_43 : 43 < j_NA := by decide
theorem sh_43 : j_sh 43 = (0, 4, [some 44, some 45, some 46, none, none, none, none]) := rfl
theorem ad_44 : 44 < j_NA := by decide
theorem sh_44 : j_sh 44 = (1, 6, []) := rfl
theorem ad_45 : 45 < j_NA := by decide
theorem sh_45 : j_sh 45 = (1, 6, []) := rfl
theorem ad_46 : 46 < j_NA := by decide
theorem sh_46 : j_sh 46 = (1, 3, []) := rfl
theorem ad_47 : 47 < j_NA := by decide
theorem sh_47 : j_sh 47 = (0, 4, [some 48, some 49, some 50, none, none, none, none]) := rfl
theorem ad_48 : 48 < j_NA := by decide
theorem sh_48 : j_sh 48 = (1, 6, []) := rfl
theorem ad_49 : 49 < j_NA := by decide
theorem sh_49 : j_sh 49 = (1, 6, []) := rfl
theorem ad_50 : 50 < j_NA := by decide
theorem sh_50 : j_sh 50 = (1, 3, []) := rfl
theorem ad_51 : 51 < j_NA := by decide
theorem sh_51 : j_sh 51 = (0, 4, [some 52, some 53, some 54, none, none, none, none]) := rfl
theorem ad_52 : 52 < j_NA := by decide
theorem sh_52 : j_sh 52 = (1, 6, []) := rfl
theorem ad_53 : 53 < j_NA := by decide
theorem sh_53 : j_sh 53 = (1, 6, []) := rfl
theorem ad_54 : 54 < j_NA := by decide
theorem sh_54 : j_sh 54 = (1, 3, []) := rfl
theorem ad_55 : 55 < j_NA := by decide
theorem sh_55 : j_sh 55 = (0, 4, [some 56, some 57, some 58, none, none, none, none]) := rfl
theorem ad_56 : 56 < j_NA := by decide
theorem sh_56 : j_sh 56 = (1, 6, []) := rfl
theorem ad_57 : 57 < j_NA := by decide
theorem sh_57 : j_sh 57 = (1, 6, []) := rfl
theorem ad_58 : 58 < j_NA := by decide
theorem sh_58 : j_sh 58 = (1, 3, []) := rfl
theorem ad_59 : 59 < j_NA := by decide
theorem sh_59 : j_sh 59 = (0, 4, [some 60, some 61, some 62, none, none, none, none]) := rfl
theorem ad_60 : 60 < j_NA := by decide
theorem sh_60 : j_sh 60 = (1, 6, []) := rfl
theorem ad_61 : 61 < j_NA := by decide
theorem sh_61 : j_sh 61 = (1, 6, []) := rfl
theorem ad_62 : 62 < j_NA := by decide
theorem sh_62 : j_sh 62 = (1, 3, []) := rfl
theorem ad_63 : 63 < j_NA := by decide
theorem sh_63 : j_sh 63 = (0, 4, [some 64, some 65, some 66, none, none, none, none]) := rfl
theorem ad_64 : 64 < j_NA := by decide
theorem sh_64 : j_sh 64 = (1, 6, []) := rfl
theorem ad_65 : 65 < j_NA := by decide
theorem sh_65 : j_sh 65 = (1, 6, []) := rfl
theorem ad_66 : 66 < j_NA := by decide
theorem sh_66 : j_sh 66 = (1, 3, []) := rfl
theorem ad_67 : 67 < j_NA := by decide
theorem sh_67 : j_sh 67 = (0, 4, [some 68, some 69, some 70, none, none, none, none]) := rfl
theorem ad_68 : 68 < j_NA := by decide
theorem sh_68 : j_sh 68 = (1, 6, []) := rfl
theorem ad_69 : 69 < j_NA := by decide
theorem sh_69 : j_sh 69 = (1, 6, []) := rfl
theorem ad_70 : 70 < j_NA := by decide
theorem sh_70 : j_sh 70 = (1, 3, []) := rfl
theorem ad_71 : 71 < j_NA := by decide
theorem sh_71 : j_sh 71 = (0, 4, [some 72, some 73, some 74, none, none, none, none]) := rfl
theorem ad_72 : 72 < j_NA := by decide
theorem sh_72 : j_sh 72 = (1, 6, []) := rfl
theorem ad_73 : 73 < j_NA := by decide
theorem sh_73 : j_sh 73 = (1, 6, []) := rfl
theorem ad_74 : 74 < j_NA := by decide
theorem sh_74 : j_sh 74 = (1, 3, []) := rfl
theorem ad_75 : 75 < j_NA := by decide
theorem sh_75 : j_sh 75 = (0, 4, [some 76, some 77, some 78, none, none, none, none]) := rfl
theorem ad_76 : 76 < j_NA := by decide
theorem sh_76 : j_sh 76 = (1, 6, []) := rfl
theorem ad_77 : 77 < j_NA := by decide
theorem sh_77 : j_sh 77 = (1, 6, []) := rfl
theorem ad_78 : 78 < j_NA := by decide
theorem sh_78 : j_sh 78 = (1, 3, []) := rfl
theorem ad_79 : 79 < j_NA := by decide
theorem sh_79 : j_sh 79 = (0, 10, [some 80, none, none, some 81, some 82, none, none, none, none, none, none, some 83, some 84, some 85, none, some 86, some 87, some 88, none, none, some 89, some 90, none, none, some 91, some 92, some 93, some 94, none, some 95, some 96, some 97, none, none, some 98, some 99, some 100, some 101, some 102, some 103, none]) := rfl
theorem ad_80 : 80 < j_NA := by decide
theorem sh_80 : j_sh 80 = (1, 23, []) := rfl
theorem ad_81 : 81 < j_NA := by decide
theorem sh_81 : j_sh 81 = (1, 21, []) := rfl
theorem ad_82 : 82 < j_NA := by decide
theorem sh_82 : j_sh 82 = (1, 6, []) := rfl
theorem ad_83 : 83 < j_NA := by decide
theorem sh_83 : j_sh 83 = (1, 24, []) := rfl
theorem ad_84 : 84 < j_NA := by decide
theorem sh_84 : j_sh 84 = (1, 24, []) := rfl
theorem ad_85 : 85 < j_NA := by decide
theorem sh_85 : j_sh 85 = (1, 24, []) := rfl
theorem ad_86 : 86 < j_NA := by decide
theorem sh_86 : j_sh 86 = (1, 30, []) := rfl
theorem ad_87 : 87 < j_NA := by decide
theorem sh_87 : j_sh 87 = (1, 30, []) := rfl
theorem ad_88 : 88 < j_NA := by decide
theorem sh_88 : j_sh 88 = (1, 30, []) := rfl
theorem ad_89 : 89 < j_NA := by decide
theorem sh_89 : j_sh 89 = (1, 6, []) := rfl
theorem ad_90 : 90 < j_NA := by decide
theorem sh_90 : j_sh 90 = (1, 6, []) := rfl
theorem ad_91 : 91 < j_NA := by decide
theorem sh_91 : j_sh 91 = (1, 30, []) := rfl
theorem ad_92 : 92 < j_NA := by decide
theorem sh_92 : j_sh 92 = (1, 30, []) := rfl
theorem ad_93 : 93 < j_NA := by decide
theorem sh_93 : j_sh 93 = (1, 3, []) := rfl
theorem ad_94 : 94 < j_NA := by decide
theorem sh_94 : j_sh 94 = (2, 256, []) := rfl
theorem ad_95 : 95 < j_NA := by decide
theorem sh_95 : j_sh 95 = (1, 8, []) := rfl
theorem ad_96 : 96 < j_NA := by decide
theorem sh_96 : j_sh 96 = (1, 8, []) := rfl
theorem ad_97 : 97 < j_NA := by decide
theorem sh_97 : j_sh 97 = (2, 1000, []) := rfl
theorem ad_98 : 98 < j_NA := by decide
theorem sh_98 : j_sh 98 = (1, 7, []) := rfl
theorem ad_99 : 99 < j_NA := by decide
theorem sh_99 : j_sh 99 = (2, 4, []) := rfl
theorem ad_100 : 100 < j_NA := by decide
theorem sh_100 : j_sh 100 = (1, 4, []) := rfl
theorem ad_101 : 101 < j_NA := by decide
theorem sh_101 : j_sh 101 = (1, 4, []) := rfl
theorem ad_102 : 102 < j_NA := by decide
theorem sh_102 : j_sh 102 = (1, 192, []) := rfl
theorem ad_103 : 103 < j_NA := by decide
theorem sh_103 : j_sh 103 = (1, 48, []) := rfl
/-- a mood's address -/
def j_mo (a : Nat) : Prop := ∃ j, j < 11 ∧ a = 35 + 4 * j
theorem mo_all : ∀ j, j < 11 → (35 + 4 * j + 3 < j_NA ∧ j_sh (35 + 4 * j) = (0, 4, [some (35 + 4 * j + 1), some (35 + 4 * j + 2), some (35 + 4 * j + 3), none, none, none, none]) ∧ j_sh (35 + 4 * j + 1) = (1, 6, []) ∧ j_sh (35 + 4 * j + 2) = (1, 6, []) ∧ j_sh (35 + 4 * j + 3) = (1, 3, [])) := by
  intro j hj
  have h : j = 0 ∨ j = 1 ∨ j = 2 ∨ j = 3 ∨ j = 4 ∨ j = 5 ∨ j = 6 ∨ j = 7 ∨ j = 8 ∨ j = 9 ∨ j = 10 := by omega
  rcases h with rfl | rfl | rfl | rfl | rfl | rfl | rfl | rfl | rfl | rfl | rfl <;> exact ⟨by decide, rfl, rfl, rfl, rfl⟩
theorem mo_a {a : Nat} (h : j_mo a) : a < j_NA := by obtain ⟨j, hj, rfl⟩ := h; have := (mo_all j hj).1; omega
theorem mo_a1 {a : Nat} (h : j_mo a) : a + 1 < j_NA := by obtain ⟨j, hj, rfl⟩ := h; have := (mo_all j hj).1; omega
theorem mo_a2 {a : Nat} (h : j_mo a) : a + 2 < j_NA := by obtain ⟨j, hj, rfl⟩ := h; have := (mo_all j hj).1; omega
theorem mo_a3 {a : Nat} (h : j_mo a) : a + 3 < j_NA := by obtain ⟨j, hj, rfl⟩ := h; have := (mo_all j hj).1; omega
theorem mo_s {a : Nat} (h : j_mo a) : j_sh a = (0, 4, [some (a + 1), some (a + 2), some (a + 3), none, none, none, none]) := by obtain ⟨j, hj, rfl⟩ := h; exact (mo_all j hj).2.1
theorem mo_s1 {a : Nat} (h : j_mo a) : j_sh (a + 1) = (1, 6, []) := by obtain ⟨j, hj, rfl⟩ := h; exact (mo_all j hj).2.2.1
theorem mo_s2 {a : Nat} (h : j_mo a) : j_sh (a + 2) = (1, 6, []) := by obtain ⟨j, hj, rfl⟩ := h; exact (mo_all j hj).2.2.2.1
theorem mo_s3 {a : Nat} (h : j_mo a) : j_sh (a + 3) = (1, 3, []) := by obtain ⟨j, hj, rfl⟩ := h; exact (mo_all j hj).2.2.2.2
theorem mo_ge {a : Nat} (h : j_mo a) : 35 ≤ a ∧ a ≤ 75 := by obtain ⟨j, hj, rfl⟩ := h; omega
theorem mo_apart {a b : Nat} (h : j_mo a) (h2 : j_mo b) : a = b ∨ a + 3 < b ∨ b + 3 < a := by obtain ⟨i, hi, rfl⟩ := h; obtain ⟨j, hj, rfl⟩ := h2; omega
section R01
variable {d : Nat} {I : j_I} {X : j_X} {pc : Nat} {L : List (Option Value)} {st : List Value} {M : j_M}
theorem jx_r1 {v : Value} (k : j_W d I X pc L (v :: st) M) : j_W d I X pc L ((some v).toList ++ st) M := k
theorem jx_r0 (k : j_W d I X pc L st M) : j_W d I X pc L ((none : Option Value).toList ++ st) M := k
theorem jx_ialdK {a n : Nat} {i : Int32} (k : Nat) (hd : decode I.2.1 pc = .ok (.iaload, 1)) (ha : a < j_NA) (hs : j_sh a = (1, n, [])) (hk : i.toNatClampNeg = k) (hi : vp_in i n) (kk : j_W d I X (pc + 1) L (.int (M a k) :: st) M) : j_W d I X pc L (.int i :: .ref a :: st) M := jx_iald hd ha hs hi (hk ▸ kk)
theorem jx_zaldK {a n : Nat} {i : Int32} (k : Nat) (hd : decode I.2.1 pc = .ok (.baload, 1)) (ha : a < j_NA) (hs : j_sh a = (2, n, [])) (hk : i.toNatClampNeg = k) (hi : vp_in i n) (kk : j_W d I X (pc + 1) L (.int (M a k) :: st) M) : j_W d I X pc L (.int i :: .ref a :: st) M := jx_zald hd ha hs hi (hk ▸ kk)
theorem jx_iastK {a n : Nat} {i x : Int32} (k : Nat) (hd : decode I.2.1 pc = .ok (.iastore, 1)) (ha : a < j_NA) (hs : j_sh a = (1, n, [])) (hk : i.toNatClampNeg = k) (hi : vp_in i n) (kk : j_W d I X (pc + 1) L st (j_set M a k x)) : j_W d I X pc L (.int x :: .int i :: .ref a :: st) M := jx_iast hd ha hs hi (hk ▸ kk)
end R01
theorem mo_35 : j_mo 35 := ⟨0, by decide, rfl⟩
theorem mo_39 : j_mo 39 := ⟨1, by decide, rfl⟩
theorem mo_43 : j_mo 43 := ⟨2, by decide, rfl⟩
theorem mo_47 : j_mo 47 := ⟨3, by decide, rfl⟩
theorem mo_51 : j_mo 51 := ⟨4, by decide, rfl⟩
theorem mo_55 : j_mo 55 := ⟨5, by decide, rfl⟩
theorem mo_59 : j_mo 59 := ⟨6, by decide, rfl⟩
theorem mo_63 : j_mo 63 := ⟨7, by decide, rfl⟩
theorem mo_67 : j_mo 67 := ⟨8, by decide, rfl⟩
theorem mo_71 : j_mo 71 := ⟨9, by decide, rfl⟩
theorem mo_75 : j_mo 75 := ⟨10, by decide, rfl⟩
