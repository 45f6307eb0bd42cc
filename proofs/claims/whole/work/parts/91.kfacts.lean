/-! FACTS for the constructors, by program -/
theorem oi_1 : Cond.instanceMethod objectInit ∈ j_tbl := (j_in 75 (by decide +kernel) rfl)
theorem oi_2 : Cond.code objectInit ⟨#[0xb1]⟩ 1 none ∈ j_tbl := (j_in 76 (by decide +kernel) rfl)
theorem ka_I : Cond.arrayClass .int ∈ j_tbl := (j_in 106 (by decide +kernel) rfl)
theorem ka_Z : Cond.arrayClass .boolean ∈ j_tbl := (j_in 900 (by decide +kernel) rfl)
theorem k_sub {S0 S : List k_S} {b : Nat} (h : S0.all (fun z => k_has S z.1) = true) (hb : k_has S0 b = true) : k_has S b = true := by
  obtain ⟨z, hz, rfl⟩ := k_has_mem.mp hb
  exact List.all_eq_true.mp h z hz
theorem kn_J : Cond.instantiable "DogJudge" 13 ∈ j_tbl := (j_in 70 (by decide +kernel) rfl)
theorem nf_J : ∀ j, j < 13 → defaultValue (t_J j) = vp_V (k_fl (fun _ => 0) (fun _ => 0) 0 [1, 1, 1, 1, 1, 1, 1, 1, 1, 1, 1, 1, 1]) j := by
  intro j hj
  have h : j = 0 ∨ j = 1 ∨ j = 2 ∨ j = 3 ∨ j = 4 ∨ j = 5 ∨ j = 6 ∨ j = 7 ∨ j = 8 ∨ j = 9 ∨ j = 10 ∨ j = 11 ∨ j = 12 := by omega
  rcases h with rfl | rfl | rfl | rfl | rfl | rfl | rfl | rfl | rfl | rfl | rfl | rfl | rfl <;> rfl
theorem kn_He : Cond.instantiable "DogJudge$Heirs" 5 ∈ j_tbl := (j_in 78 (by decide +kernel) rfl)
theorem nf_He : ∀ j, j < 5 → defaultValue (t_He j) = vp_V (k_fl (fun _ => 0) (fun _ => 0) 0 [1, 1, 0, 0, 0]) j := by
  intro j hj
  have h : j = 0 ∨ j = 1 ∨ j = 2 ∨ j = 3 ∨ j = 4 := by omega
  rcases h with rfl | rfl | rfl | rfl | rfl <;> rfl
theorem kn_Vi : Cond.instantiable "DogJudge$Visits" 6 ∈ j_tbl := (j_in 108 (by decide +kernel) rfl)
theorem nf_Vi : ∀ j, j < 6 → defaultValue (t_Vi j) = vp_V (k_fl (fun _ => 0) (fun _ => 0) 0 [1, 1, 1, 1, 1, 0]) j := by
  intro j hj
  have h : j = 0 ∨ j = 1 ∨ j = 2 ∨ j = 3 ∨ j = 4 ∨ j = 5 := by omega
  rcases h with rfl | rfl | rfl | rfl | rfl | rfl <;> rfl
theorem kn_Co : Cond.instantiable "DogJudge$Court" 4 ∈ j_tbl := (j_in 138 (by decide +kernel) rfl)
theorem nf_Co : ∀ j, j < 4 → defaultValue (t_Co j) = vp_V (k_fl (fun _ => 0) (fun _ => 0) 0 [1, 1, 1, 1]) j := by
  intro j hj
  have h : j = 0 ∨ j = 1 ∨ j = 2 ∨ j = 3 := by omega
  rcases h with rfl | rfl | rfl | rfl <;> rfl
theorem kn_Mo : Cond.instantiable "DogJudge$Mood" 7 ∈ j_tbl := (j_in 145 (by decide +kernel) rfl)
theorem nf_Mo : ∀ j, j < 7 → defaultValue (t_Mo j) = vp_V (k_fl (fun _ => 0) (fun _ => 0) 0 [1, 1, 1, 0, 0, 0, 0]) j := by
  intro j hj
  have h : j = 0 ∨ j = 1 ∨ j = 2 ∨ j = 3 ∨ j = 4 ∨ j = 5 ∨ j = 6 := by omega
  rcases h with rfl | rfl | rfl | rfl | rfl | rfl | rfl <;> rfl
theorem kn_Se : Cond.instantiable "DogJudge$Seen" 4 ∈ j_tbl := (j_in 202 (by decide +kernel) rfl)
theorem nf_Se : ∀ j, j < 4 → defaultValue (t_Se j) = vp_V (k_fl (fun _ => 0) (fun _ => 0) 0 [1, 0, 0, 0]) j := by
  intro j hj
  have h : j = 0 ∨ j = 1 ∨ j = 2 ∨ j = 3 := by omega
  rcases h with rfl | rfl | rfl | rfl <;> rfl
theorem kn_Su : Cond.instantiable "DogJudge$Suits" 4 ∈ j_tbl := (j_in 228 (by decide +kernel) rfl)
theorem nf_Su : ∀ j, j < 4 → defaultValue (t_Su j) = vp_V (k_fl (fun _ => 0) (fun _ => 0) 0 [1, 1, 0, 0]) j := by
  intro j hj
  have h : j = 0 ∨ j = 1 ∨ j = 2 ∨ j = 3 := by omega
  rcases h with rfl | rfl | rfl | rfl <;> rfl
theorem kn_Tu : Cond.instantiable "DogJudge$Turns" 4 ∈ j_tbl := (j_in 248 (by decide +kernel) rfl)
theorem nf_Tu : ∀ j, j < 4 → defaultValue (t_Tu j) = vp_V (k_fl (fun _ => 0) (fun _ => 0) 0 [1, 0, 0, 0]) j := by
  intro j hj
  have h : j = 0 ∨ j = 1 ∨ j = 2 ∨ j = 3 := by omega
  rcases h with rfl | rfl | rfl | rfl <;> rfl
theorem kn_Ch : Cond.instantiable "DogJudge$Chances" 6 ∈ j_tbl := (j_in 267 (by decide +kernel) rfl)
theorem nf_Ch : ∀ j, j < 6 → defaultValue (t_Ch j) = vp_V (k_fl (fun _ => 0) (fun _ => 0) 0 [1, 0, 0, 0, 0, 0]) j := by
  intro j hj
  have h : j = 0 ∨ j = 1 ∨ j = 2 ∨ j = 3 ∨ j = 4 ∨ j = 5 := by omega
  rcases h with rfl | rfl | rfl | rfl | rfl | rfl <;> rfl
theorem kn_Sh : Cond.instantiable "DogJudge$Sheets" 4 ∈ j_tbl := (j_in 292 (by decide +kernel) rfl)
theorem nf_Sh : ∀ j, j < 4 → defaultValue (t_Sh j) = vp_V (k_fl (fun _ => 0) (fun _ => 0) 0 [1, 1, 1, 0]) j := by
  intro j hj
  have h : j = 0 ∨ j = 1 ∨ j = 2 ∨ j = 3 := by omega
  rcases h with rfl | rfl | rfl | rfl <;> rfl
theorem kn_R : Cond.instantiable "DogJudgeModel" 41 ∈ j_tbl := (j_in 771 (by decide +kernel) rfl)
theorem nf_R : ∀ j, j < 41 → defaultValue (t_R j) = vp_V (k_fl (fun _ => 0) (fun _ => 0) 0 [1, 0, 0, 1, 1, 0, 0, 0, 0, 0, 0, 1, 1, 1, 0, 1, 1, 1, 0, 0, 1, 1, 0, 0, 1, 1, 1, 1, 0, 1, 1, 1, 0, 0, 1, 1, 1, 1, 1, 1, 0]) j := by
  intro j hj
  have h : j = 0 ∨ j = 1 ∨ j = 2 ∨ j = 3 ∨ j = 4 ∨ j = 5 ∨ j = 6 ∨ j = 7 ∨ j = 8 ∨ j = 9 ∨ j = 10 ∨ j = 11 ∨ j = 12 ∨ j = 13 ∨ j = 14 ∨ j = 15 ∨ j = 16 ∨ j = 17 ∨ j = 18 ∨ j = 19 ∨ j = 20 ∨ j = 21 ∨ j = 22 ∨ j = 23 ∨ j = 24 ∨ j = 25 ∨ j = 26 ∨ j = 27 ∨ j = 28 ∨ j = 29 ∨ j = 30 ∨ j = 31 ∨ j = 32 ∨ j = 33 ∨ j = 34 ∨ j = 35 ∨ j = 36 ∨ j = 37 ∨ j = 38 ∨ j = 39 ∨ j = 40 := by omega
  rcases h with rfl | rfl | rfl | rfl | rfl | rfl | rfl | rfl | rfl | rfl | rfl | rfl | rfl | rfl | rfl | rfl | rfl | rfl | rfl | rfl | rfl | rfl | rfl | rfl | rfl | rfl | rfl | rfl | rfl | rfl | rfl | rfl | rfl | rfl | rfl | rfl | rfl | rfl | rfl | rfl | rfl <;> rfl
theorem kl_L_7 : Cond.classLink "DogJudgeLaw" 7 "DogJudge" ∈ j_tbl := (j_in 69 (by decide +kernel) rfl)
theorem ko_J_3 : Cond.methodLink "DogJudge" 3 objectInit ∈ j_tbl := (j_in 74 (by decide +kernel) rfl)
theorem kl_J_9 : Cond.classLink "DogJudge" 9 "DogJudge$Heirs" ∈ j_tbl := (j_in 77 (by decide +kernel) rfl)
theorem ko_He_3 : Cond.methodLink "DogJudge$Heirs" 3 objectInit ∈ j_tbl := (j_in 82 (by decide +kernel) rfl)
theorem kp_He_9 : k_PF "DogJudge$Heirs" 9 1 0 := ⟨_, _, _, _, cf_He, by decide, (j_in 83 (by decide +kernel) rfl), rfl, rfl, fun _ => ⟨rfl, rfl⟩⟩
theorem kp_He_15 : k_PF "DogJudge$Heirs" 15 1 1 := ⟨_, _, _, _, cf_He, by decide, (j_in 85 (by decide +kernel) rfl), rfl, rfl, fun _ => ⟨rfl, rfl⟩⟩
theorem ki_He_init : Cond.instanceMethod I_He_init.1 ∈ j_tbl := (j_in 80 (by decide +kernel) rfl)
theorem kp_J_12 : k_PF "DogJudge" 12 0 0 := ⟨_, _, _, _, cf_J, by decide, (j_in 316 (by decide +kernel) rfl), rfl, rfl, fun _ => ⟨rfl, rfl⟩⟩
theorem kl_J_16 : Cond.classLink "DogJudge" 16 "DogJudge$Visits" ∈ j_tbl := (j_in 107 (by decide +kernel) rfl)
theorem ko_Vi_3 : Cond.methodLink "DogJudge$Visits" 3 objectInit ∈ j_tbl := (j_in 112 (by decide +kernel) rfl)
theorem kp_Vi_9 : k_PF "DogJudge$Visits" 9 2 0 := ⟨_, _, _, _, cf_Vi, by decide, (j_in 113 (by decide +kernel) rfl), rfl, rfl, fun _ => ⟨rfl, rfl⟩⟩
theorem kp_Vi_15 : k_PF "DogJudge$Visits" 15 2 1 := ⟨_, _, _, _, cf_Vi, by decide, (j_in 114 (by decide +kernel) rfl), rfl, rfl, fun _ => ⟨rfl, rfl⟩⟩
theorem kp_Vi_18 : k_PF "DogJudge$Visits" 18 2 2 := ⟨_, _, _, _, cf_Vi, by decide, (j_in 115 (by decide +kernel) rfl), rfl, rfl, fun _ => ⟨rfl, rfl⟩⟩
theorem kp_Vi_21 : k_PF "DogJudge$Visits" 21 2 3 := ⟨_, _, _, _, cf_Vi, by decide, (j_in 116 (by decide +kernel) rfl), rfl, rfl, fun _ => ⟨rfl, rfl⟩⟩
theorem kp_Vi_24 : k_PF "DogJudge$Visits" 24 2 4 := ⟨_, _, _, _, cf_Vi, by decide, (j_in 117 (by decide +kernel) rfl), rfl, rfl, fun _ => ⟨rfl, rfl⟩⟩
theorem ki_Vi_init : Cond.instanceMethod I_Vi_init.1 ∈ j_tbl := (j_in 110 (by decide +kernel) rfl)
theorem kp_J_19 : k_PF "DogJudge" 19 0 1 := ⟨_, _, _, _, cf_J, by decide, (j_in 317 (by decide +kernel) rfl), rfl, rfl, fun _ => ⟨rfl, rfl⟩⟩
theorem kp_J_23 : k_PF "DogJudge" 23 0 2 := ⟨_, _, _, _, cf_J, by decide, (j_in 318 (by decide +kernel) rfl), rfl, rfl, fun _ => ⟨rfl, rfl⟩⟩
theorem kl_J_27 : Cond.classLink "DogJudge" 27 (FieldType.array .int).toString ∈ j_tbl := (j_in 135 (by decide +kernel) rfl)
theorem kp_J_28 : k_PF "DogJudge" 28 0 3 := ⟨_, _, _, _, cf_J, by decide, (j_in 319 (by decide +kernel) rfl), rfl, rfl, fun _ => ⟨rfl, rfl⟩⟩
theorem kp_J_32 : k_PF "DogJudge" 32 0 12 := ⟨_, _, _, _, cf_J, by decide, (j_in 328 (by decide +kernel) rfl), rfl, rfl, fun _ => ⟨rfl, rfl⟩⟩
theorem kl_J_35 : Cond.classLink "DogJudge" 35 "DogJudge$Court" ∈ j_tbl := (j_in 137 (by decide +kernel) rfl)
theorem ko_Co_3 : Cond.methodLink "DogJudge$Court" 3 objectInit ∈ j_tbl := (j_in 142 (by decide +kernel) rfl)
theorem kp_Co_9 : k_PF "DogJudge$Court" 9 3 0 := ⟨_, _, _, _, cf_Co, by decide, (j_in 184 (by decide +kernel) rfl), rfl, rfl, fun _ => ⟨rfl, rfl⟩⟩
theorem kp_Co_15 : k_PF "DogJudge$Court" 15 3 1 := ⟨_, _, _, _, cf_Co, by decide, (j_in 185 (by decide +kernel) rfl), rfl, rfl, fun _ => ⟨rfl, rfl⟩⟩
theorem kp_Co_19 : k_PF "DogJudge$Court" 19 3 2 := ⟨_, _, _, _, cf_Co, by decide, (j_in 186 (by decide +kernel) rfl), rfl, rfl, fun _ => ⟨rfl, rfl⟩⟩
theorem kl_Co_23 : Cond.classLink "DogJudge$Court" 23 "DogJudge$Mood" ∈ j_tbl := (j_in 143 (by decide +kernel) rfl)
theorem kp_Co_25 : k_PF "DogJudge$Court" 25 3 3 := ⟨_, _, _, _, cf_Co, by decide, (j_in 187 (by decide +kernel) rfl), rfl, rfl, fun _ => ⟨rfl, rfl⟩⟩
theorem ko_Mo_3 : Cond.methodLink "DogJudge$Mood" 3 objectInit ∈ j_tbl := (j_in 149 (by decide +kernel) rfl)
theorem kp_Mo_9 : k_PF "DogJudge$Mood" 9 4 0 := ⟨_, _, _, _, cf_Mo, by decide, (j_in 150 (by decide +kernel) rfl), rfl, rfl, fun _ => ⟨rfl, rfl⟩⟩
theorem kp_Mo_15 : k_PF "DogJudge$Mood" 15 4 1 := ⟨_, _, _, _, cf_Mo, by decide, (j_in 153 (by decide +kernel) rfl), rfl, rfl, fun _ => ⟨rfl, rfl⟩⟩
theorem kp_Mo_18 : k_PF "DogJudge$Mood" 18 4 2 := ⟨_, _, _, _, cf_Mo, by decide, (j_in 155 (by decide +kernel) rfl), rfl, rfl, fun _ => ⟨rfl, rfl⟩⟩
theorem ki_Mo_init : Cond.instanceMethod I_Mo_init.1 ∈ j_tbl := (j_in 147 (by decide +kernel) rfl)
theorem ki_Co_init : Cond.instanceMethod I_Co_init.1 ∈ j_tbl := (j_in 140 (by decide +kernel) rfl)
theorem kp_J_40 : k_PF "DogJudge" 40 0 4 := ⟨_, _, _, _, cf_J, by decide, (j_in 320 (by decide +kernel) rfl), rfl, rfl, fun _ => ⟨rfl, rfl⟩⟩
theorem kl_J_44 : Cond.classLink "DogJudge" 44 "DogJudge$Seen" ∈ j_tbl := (j_in 201 (by decide +kernel) rfl)
theorem ko_Se_3 : Cond.methodLink "DogJudge$Seen" 3 objectInit ∈ j_tbl := (j_in 206 (by decide +kernel) rfl)
theorem kp_Se_9 : k_PF "DogJudge$Seen" 9 5 0 := ⟨_, _, _, _, cf_Se, by decide, (j_in 211 (by decide +kernel) rfl), rfl, rfl, fun _ => ⟨rfl, rfl⟩⟩
theorem ki_Se_init : Cond.instanceMethod I_Se_init.1 ∈ j_tbl := (j_in 204 (by decide +kernel) rfl)
theorem kp_J_47 : k_PF "DogJudge" 47 0 5 := ⟨_, _, _, _, cf_J, by decide, (j_in 321 (by decide +kernel) rfl), rfl, rfl, fun _ => ⟨rfl, rfl⟩⟩
theorem kl_J_51 : Cond.classLink "DogJudge" 51 "DogJudge$Suits" ∈ j_tbl := (j_in 227 (by decide +kernel) rfl)
theorem ko_Su_3 : Cond.methodLink "DogJudge$Suits" 3 objectInit ∈ j_tbl := (j_in 232 (by decide +kernel) rfl)
theorem kp_Su_9 : k_PF "DogJudge$Suits" 9 6 1 := ⟨_, _, _, _, cf_Su, by decide, (j_in 234 (by decide +kernel) rfl), rfl, rfl, fun _ => ⟨rfl, rfl⟩⟩
theorem kp_Su_15 : k_PF "DogJudge$Suits" 15 6 0 := ⟨_, _, _, _, cf_Su, by decide, (j_in 233 (by decide +kernel) rfl), rfl, rfl, fun _ => ⟨rfl, rfl⟩⟩
theorem ki_Su_init : Cond.instanceMethod I_Su_init.1 ∈ j_tbl := (j_in 230 (by decide +kernel) rfl)
theorem kp_J_56 : k_PF "DogJudge" 56 0 6 := ⟨_, _, _, _, cf_J, by decide, (j_in 322 (by decide +kernel) rfl), rfl, rfl, fun _ => ⟨rfl, rfl⟩⟩
theorem kl_J_60 : Cond.classLink "DogJudge" 60 "DogJudge$Turns" ∈ j_tbl := (j_in 247 (by decide +kernel) rfl)
theorem ko_Tu_3 : Cond.methodLink "DogJudge$Turns" 3 objectInit ∈ j_tbl := (j_in 252 (by decide +kernel) rfl)
theorem kp_Tu_9 : k_PF "DogJudge$Turns" 9 7 0 := ⟨_, _, _, _, cf_Tu, by decide, (j_in 253 (by decide +kernel) rfl), rfl, rfl, fun _ => ⟨rfl, rfl⟩⟩
theorem ki_Tu_init : Cond.instanceMethod I_Tu_init.1 ∈ j_tbl := (j_in 250 (by decide +kernel) rfl)
theorem kp_J_63 : k_PF "DogJudge" 63 0 7 := ⟨_, _, _, _, cf_J, by decide, (j_in 323 (by decide +kernel) rfl), rfl, rfl, fun _ => ⟨rfl, rfl⟩⟩
theorem kl_J_67 : Cond.classLink "DogJudge" 67 "DogJudge$Chances" ∈ j_tbl := (j_in 266 (by decide +kernel) rfl)
theorem ko_Ch_3 : Cond.methodLink "DogJudge$Chances" 3 objectInit ∈ j_tbl := (j_in 271 (by decide +kernel) rfl)
theorem kp_Ch_9 : k_PF "DogJudge$Chances" 9 8 0 := ⟨_, _, _, _, cf_Ch, by decide, (j_in 272 (by decide +kernel) rfl), rfl, rfl, fun _ => ⟨rfl, rfl⟩⟩
theorem ki_Ch_init : Cond.instanceMethod I_Ch_init.1 ∈ j_tbl := (j_in 269 (by decide +kernel) rfl)
theorem kp_J_70 : k_PF "DogJudge" 70 0 8 := ⟨_, _, _, _, cf_J, by decide, (j_in 324 (by decide +kernel) rfl), rfl, rfl, fun _ => ⟨rfl, rfl⟩⟩
theorem kl_J_74 : Cond.classLink "DogJudge" 74 "DogJudge$Sheets" ∈ j_tbl := (j_in 291 (by decide +kernel) rfl)
theorem ko_Sh_3 : Cond.methodLink "DogJudge$Sheets" 3 objectInit ∈ j_tbl := (j_in 296 (by decide +kernel) rfl)
theorem kp_Sh_11 : k_PF "DogJudge$Sheets" 11 9 0 := ⟨_, _, _, _, cf_Sh, by decide, (j_in 298 (by decide +kernel) rfl), rfl, rfl, fun _ => ⟨rfl, rfl⟩⟩
theorem kp_Sh_15 : k_PF "DogJudge$Sheets" 15 9 1 := ⟨_, _, _, _, cf_Sh, by decide, (j_in 300 (by decide +kernel) rfl), rfl, rfl, fun _ => ⟨rfl, rfl⟩⟩
theorem kl_Sh_18 : Cond.classLink "DogJudge$Sheets" 18 ("[" ++ (FieldType.array .int).toString) ∈ j_tbl := (j_in 297 (by decide +kernel) rfl)
theorem kp_Sh_20 : k_PF "DogJudge$Sheets" 20 9 2 := ⟨_, _, _, _, cf_Sh, by decide, (j_in 302 (by decide +kernel) rfl), rfl, rfl, fun _ => ⟨rfl, rfl⟩⟩
theorem ki_Sh_init : Cond.instanceMethod I_Sh_init.1 ∈ j_tbl := (j_in 294 (by decide +kernel) rfl)
theorem kp_J_77 : k_PF "DogJudge" 77 0 9 := ⟨_, _, _, _, cf_J, by decide, (j_in 325 (by decide +kernel) rfl), rfl, rfl, fun _ => ⟨rfl, rfl⟩⟩
theorem kl_J_81 : Cond.classLink "DogJudge" 81 ("[" ++ (FieldType.array .int).toString) ∈ j_tbl := (j_in 315 (by decide +kernel) rfl)
theorem kp_J_82 : k_PF "DogJudge" 82 0 10 := ⟨_, _, _, _, cf_J, by decide, (j_in 326 (by decide +kernel) rfl), rfl, rfl, fun _ => ⟨rfl, rfl⟩⟩
theorem kp_J_85 : k_PF "DogJudge" 85 0 11 := ⟨_, _, _, _, cf_J, by decide, (j_in 327 (by decide +kernel) rfl), rfl, rfl, fun _ => ⟨rfl, rfl⟩⟩
theorem ki_J_init : Cond.instanceMethod I_J_init.1 ∈ j_tbl := (j_in 72 (by decide +kernel) rfl)
theorem kl_L_10 : Cond.classLink "DogJudgeLaw" 10 "DogJudgeModel" ∈ j_tbl := (j_in 770 (by decide +kernel) rfl)
theorem ko_R_1 : Cond.methodLink "DogJudgeModel" 1 objectInit ∈ j_tbl := (j_in 775 (by decide +kernel) rfl)
theorem kp_R_7 : k_PF "DogJudgeModel" 7 10 0 := ⟨_, _, _, _, cf_R, by decide, (j_in 776 (by decide +kernel) rfl), rfl, rfl, fun _ => ⟨rfl, rfl⟩⟩
theorem kp_R_13 : k_PF "DogJudgeModel" 13 10 3 := ⟨_, _, _, _, cf_R, by decide, (j_in 779 (by decide +kernel) rfl), rfl, rfl, fun _ => ⟨rfl, rfl⟩⟩
theorem kp_R_16 : k_PF "DogJudgeModel" 16 10 4 := ⟨_, _, _, _, cf_R, by decide, (j_in 780 (by decide +kernel) rfl), rfl, rfl, fun _ => ⟨rfl, rfl⟩⟩
theorem kp_R_19 : k_PF "DogJudgeModel" 19 10 11 := ⟨_, _, _, _, cf_R, by decide, (j_in 787 (by decide +kernel) rfl), rfl, rfl, fun _ => ⟨rfl, rfl⟩⟩
theorem kp_R_22 : k_PF "DogJudgeModel" 22 10 12 := ⟨_, _, _, _, cf_R, by decide, (j_in 788 (by decide +kernel) rfl), rfl, rfl, fun _ => ⟨rfl, rfl⟩⟩
theorem kp_R_25 : k_PF "DogJudgeModel" 25 10 13 := ⟨_, _, _, _, cf_R, by decide, (j_in 789 (by decide +kernel) rfl), rfl, rfl, fun _ => ⟨rfl, rfl⟩⟩
theorem kp_R_28 : k_PF "DogJudgeModel" 28 10 15 := ⟨_, _, _, _, cf_R, by decide, (j_in 791 (by decide +kernel) rfl), rfl, rfl, fun _ => ⟨rfl, rfl⟩⟩
theorem kp_R_31 : k_PF "DogJudgeModel" 31 10 16 := ⟨_, _, _, _, cf_R, by decide, (j_in 792 (by decide +kernel) rfl), rfl, rfl, fun _ => ⟨rfl, rfl⟩⟩
theorem kp_R_34 : k_PF "DogJudgeModel" 34 10 17 := ⟨_, _, _, _, cf_R, by decide, (j_in 793 (by decide +kernel) rfl), rfl, rfl, fun _ => ⟨rfl, rfl⟩⟩
theorem kp_R_37 : k_PF "DogJudgeModel" 37 10 20 := ⟨_, _, _, _, cf_R, by decide, (j_in 796 (by decide +kernel) rfl), rfl, rfl, fun _ => ⟨rfl, rfl⟩⟩
theorem kp_R_40 : k_PF "DogJudgeModel" 40 10 21 := ⟨_, _, _, _, cf_R, by decide, (j_in 797 (by decide +kernel) rfl), rfl, rfl, fun _ => ⟨rfl, rfl⟩⟩
theorem kp_R_43 : k_PF "DogJudgeModel" 43 10 24 := ⟨_, _, _, _, cf_R, by decide, (j_in 800 (by decide +kernel) rfl), rfl, rfl, fun _ => ⟨rfl, rfl⟩⟩
theorem kp_R_46 : k_PF "DogJudgeModel" 46 10 25 := ⟨_, _, _, _, cf_R, by decide, (j_in 801 (by decide +kernel) rfl), rfl, rfl, fun _ => ⟨rfl, rfl⟩⟩
theorem kp_R_49 : k_PF "DogJudgeModel" 49 10 26 := ⟨_, _, _, _, cf_R, by decide, (j_in 802 (by decide +kernel) rfl), rfl, rfl, fun _ => ⟨rfl, rfl⟩⟩
theorem kp_R_52 : k_PF "DogJudgeModel" 52 10 27 := ⟨_, _, _, _, cf_R, by decide, (j_in 803 (by decide +kernel) rfl), rfl, rfl, fun _ => ⟨rfl, rfl⟩⟩
theorem kp_R_56 : k_PF "DogJudgeModel" 56 10 29 := ⟨_, _, _, _, cf_R, by decide, (j_in 805 (by decide +kernel) rfl), rfl, rfl, fun _ => ⟨rfl, rfl⟩⟩
theorem kp_R_59 : k_PF "DogJudgeModel" 59 10 30 := ⟨_, _, _, _, cf_R, by decide, (j_in 806 (by decide +kernel) rfl), rfl, rfl, fun _ => ⟨rfl, rfl⟩⟩
theorem kp_R_62 : k_PF "DogJudgeModel" 62 10 31 := ⟨_, _, _, _, cf_R, by decide, (j_in 807 (by decide +kernel) rfl), rfl, rfl, fun _ => ⟨rfl, rfl⟩⟩
theorem kp_R_65 : k_PF "DogJudgeModel" 65 10 34 := ⟨_, _, _, _, cf_R, by decide, (j_in 810 (by decide +kernel) rfl), rfl, rfl, fun _ => ⟨rfl, rfl⟩⟩
theorem kp_R_68 : k_PF "DogJudgeModel" 68 10 35 := ⟨_, _, _, _, cf_R, by decide, (j_in 811 (by decide +kernel) rfl), rfl, rfl, fun _ => ⟨rfl, rfl⟩⟩
theorem kp_R_71 : k_PF "DogJudgeModel" 71 10 36 := ⟨_, _, _, _, cf_R, by decide, (j_in 812 (by decide +kernel) rfl), rfl, rfl, fun _ => ⟨rfl, rfl⟩⟩
theorem kp_R_74 : k_PF "DogJudgeModel" 74 10 37 := ⟨_, _, _, _, cf_R, by decide, (j_in 813 (by decide +kernel) rfl), rfl, rfl, fun _ => ⟨rfl, rfl⟩⟩
theorem kp_R_77 : k_PF "DogJudgeModel" 77 10 38 := ⟨_, _, _, _, cf_R, by decide, (j_in 814 (by decide +kernel) rfl), rfl, rfl, fun _ => ⟨rfl, rfl⟩⟩
theorem kp_R_80 : k_PF "DogJudgeModel" 80 10 39 := ⟨_, _, _, _, cf_R, by decide, (j_in 815 (by decide +kernel) rfl), rfl, rfl, fun _ => ⟨rfl, rfl⟩⟩
theorem ki_R_init : Cond.instanceMethod I_R_init.1 ∈ j_tbl := (j_in 773 (by decide +kernel) rfl)
