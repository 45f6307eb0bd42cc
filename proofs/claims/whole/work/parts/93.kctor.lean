/-! CONSTRUCTORS, by program -/
set_option maxRecDepth 20000 in
theorem ct_He_init : k_Ct 1 2 41 I_He_init [.ref 1] kS_2 kS_6 kM_0 kM_1 := by
  refine k_met (by decide +kernel) co_He_init (Nat.le_of_ble_eq_true rfl) (fun X hX => ?_)
  have hf := hX.f
  have hn := hX.n
  show k_W 1 I_He_init X 0 [some (.ref 1)] [] kM_0 kS_2 0 0
  refine kx_aload_n (pc := 0) 0 rfl d_He_init_0 ?_
  refine kx_obj (pc := 1) ko_He_3 oi_1 oi_2 d_He_init_1 (Nat.le_of_ble_eq_true rfl) (Nat.le_of_ble_eq_true rfl) ?_
  refine kx_aload_n (pc := 4) 0 rfl d_He_init_4 ?_
  refine kx_bipush (pc := 5) (v := 23) d_He_init_5 (by decide) ?_
  refine kx_newI (pc := 7) (a := 2) (N := 23) (S' := kS_3) ka_I d_He_init_7 (by decide) (by decide) (Nat.le_of_ble_eq_true rfl) rfl (by decide +kernel) rfl rfl ((hf 2).trans (by decide +kernel)) (Nat.le_trans (Nat.le_of_ble_eq_true rfl) (Nat.le_of_eq hn.1.symm)) (Nat.le_trans (Nat.le_of_ble_eq_true rfl) (Nat.le_of_eq hn.2.symm)) rfl ?_
  refine kx_putR (pc := 9) (i := 1) (a := 1) (b := 2) (r := [1, 1, 0, 0, 0]) (S' := kS_4) kp_He_9 rfl d_He_init_9 (by decide +kernel) (Nat.le_of_ble_eq_true rfl) rfl ?_
  refine kx_aload_n (pc := 12) 0 rfl d_He_init_12 ?_
  refine kx_bipush (pc := 13) (v := 18) d_He_init_13 (by decide) ?_
  refine kx_newI (pc := 15) (a := 3) (N := 18) (S' := kS_5) ka_I d_He_init_15 (by decide) (by decide) (Nat.le_of_ble_eq_true rfl) rfl (by decide +kernel) rfl rfl ((hf 3).trans (by decide +kernel)) (Nat.le_trans (Nat.le_of_ble_eq_true rfl) (Nat.le_of_eq hn.1.symm)) (Nat.le_trans (Nat.le_of_ble_eq_true rfl) (Nat.le_of_eq hn.2.symm)) rfl ?_
  refine kx_putR (pc := 17) (i := 1) (a := 1) (b := 3) (r := [4, 1, 0, 0, 0]) (S' := kS_6) kp_He_15 rfl d_He_init_17 (by decide +kernel) (Nat.le_of_ble_eq_true rfl) rfl ?_
  refine kx_aload_n (pc := 20) 0 rfl d_He_init_20 ?_
  refine kx_iconst (pc := 21) (v := (-1)) d_He_init_21 (by decide) ?_
  refine kx_putT (pc := 22) (i := 1) (a := 1) (r := [4, 5, 0, 0, 0]) (M' := kM_1) pf_He_18 rfl rfl d_He_init_22 (by decide +kernel) rfl rfl ?_
  exact kx_ret (pc := 25) hX rfl d_He_init_25 rfl rfl
set_option maxRecDepth 20000 in
theorem ct_Vi_init : k_Ct 1 5 127 I_Vi_init [.ref 4] kS_8 kS_18 kM_1 kM_1 := by
  refine k_met (by decide +kernel) co_Vi_init (Nat.le_of_ble_eq_true rfl) (fun X hX => ?_)
  have hf := hX.f
  have hn := hX.n
  show k_W 1 I_Vi_init X 0 [some (.ref 4)] [] kM_1 kS_8 0 0
  refine kx_aload_n (pc := 0) 0 rfl d_Vi_init_0 ?_
  refine kx_obj (pc := 1) ko_Vi_3 oi_1 oi_2 d_Vi_init_1 (Nat.le_of_ble_eq_true rfl) (Nat.le_of_ble_eq_true rfl) ?_
  refine kx_aload_n (pc := 4) 0 rfl d_Vi_init_4 ?_
  refine kx_bipush (pc := 5) (v := 24) d_Vi_init_5 (by decide) ?_
  refine kx_newI (pc := 7) (a := 5) (N := 24) (S' := kS_9) ka_I d_Vi_init_7 (by decide) (by decide) (Nat.le_of_ble_eq_true rfl) rfl (by decide +kernel) rfl rfl ((hf 5).trans (by decide +kernel)) (Nat.le_trans (Nat.le_of_ble_eq_true rfl) (Nat.le_of_eq hn.1.symm)) (Nat.le_trans (Nat.le_of_ble_eq_true rfl) (Nat.le_of_eq hn.2.symm)) rfl ?_
  refine kx_putR (pc := 9) (i := 4) (a := 4) (b := 5) (r := [1, 1, 1, 1, 1, 0]) (S' := kS_10) kp_Vi_9 rfl d_Vi_init_9 (by decide +kernel) (Nat.le_of_ble_eq_true rfl) rfl ?_
  refine kx_aload_n (pc := 12) 0 rfl d_Vi_init_12 ?_
  refine kx_bipush (pc := 13) (v := 24) d_Vi_init_13 (by decide) ?_
  refine kx_newI (pc := 15) (a := 6) (N := 24) (S' := kS_11) ka_I d_Vi_init_15 (by decide) (by decide) (Nat.le_of_ble_eq_true rfl) rfl (by decide +kernel) rfl rfl ((hf 6).trans (by decide +kernel)) (Nat.le_trans (Nat.le_of_ble_eq_true rfl) (Nat.le_of_eq hn.1.symm)) (Nat.le_trans (Nat.le_of_ble_eq_true rfl) (Nat.le_of_eq hn.2.symm)) rfl ?_
  refine kx_putR (pc := 17) (i := 4) (a := 4) (b := 6) (r := [7, 1, 1, 1, 1, 0]) (S' := kS_12) kp_Vi_15 rfl d_Vi_init_17 (by decide +kernel) (Nat.le_of_ble_eq_true rfl) rfl ?_
  refine kx_aload_n (pc := 20) 0 rfl d_Vi_init_20 ?_
  refine kx_bipush (pc := 21) (v := 24) d_Vi_init_21 (by decide) ?_
  refine kx_newI (pc := 23) (a := 7) (N := 24) (S' := kS_13) ka_I d_Vi_init_23 (by decide) (by decide) (Nat.le_of_ble_eq_true rfl) rfl (by decide +kernel) rfl rfl ((hf 7).trans (by decide +kernel)) (Nat.le_trans (Nat.le_of_ble_eq_true rfl) (Nat.le_of_eq hn.1.symm)) (Nat.le_trans (Nat.le_of_ble_eq_true rfl) (Nat.le_of_eq hn.2.symm)) rfl ?_
  refine kx_putR (pc := 25) (i := 4) (a := 4) (b := 7) (r := [7, 8, 1, 1, 1, 0]) (S' := kS_14) kp_Vi_18 rfl d_Vi_init_25 (by decide +kernel) (Nat.le_of_ble_eq_true rfl) rfl ?_
  refine kx_aload_n (pc := 28) 0 rfl d_Vi_init_28 ?_
  refine kx_bipush (pc := 29) (v := 24) d_Vi_init_29 (by decide) ?_
  refine kx_newI (pc := 31) (a := 8) (N := 24) (S' := kS_15) ka_I d_Vi_init_31 (by decide) (by decide) (Nat.le_of_ble_eq_true rfl) rfl (by decide +kernel) rfl rfl ((hf 8).trans (by decide +kernel)) (Nat.le_trans (Nat.le_of_ble_eq_true rfl) (Nat.le_of_eq hn.1.symm)) (Nat.le_trans (Nat.le_of_ble_eq_true rfl) (Nat.le_of_eq hn.2.symm)) rfl ?_
  refine kx_putR (pc := 33) (i := 4) (a := 4) (b := 8) (r := [7, 8, 9, 1, 1, 0]) (S' := kS_16) kp_Vi_21 rfl d_Vi_init_33 (by decide +kernel) (Nat.le_of_ble_eq_true rfl) rfl ?_
  refine kx_aload_n (pc := 36) 0 rfl d_Vi_init_36 ?_
  refine kx_bipush (pc := 37) (v := 31) d_Vi_init_37 (by decide) ?_
  refine kx_newI (pc := 39) (a := 9) (N := 31) (S' := kS_17) ka_I d_Vi_init_39 (by decide) (by decide) (Nat.le_of_ble_eq_true rfl) rfl (by decide +kernel) rfl rfl ((hf 9).trans (by decide +kernel)) (Nat.le_trans (Nat.le_of_ble_eq_true rfl) (Nat.le_of_eq hn.1.symm)) (Nat.le_trans (Nat.le_of_ble_eq_true rfl) (Nat.le_of_eq hn.2.symm)) rfl ?_
  refine kx_putR (pc := 41) (i := 4) (a := 4) (b := 9) (r := [7, 8, 9, 10, 1, 0]) (S' := kS_18) kp_Vi_24 rfl d_Vi_init_41 (by decide +kernel) (Nat.le_of_ble_eq_true rfl) rfl ?_
  exact kx_ret (pc := 44) hX rfl d_Vi_init_44 rfl rfl
set_option maxRecDepth 20000 in
theorem ct_Mo_init : k_Ct 1 3 15 I_Mo_init [.ref 35] kS_36 kS_42 kM_12 kM_12 := by
  refine k_met (by decide +kernel) co_Mo_init (Nat.le_of_ble_eq_true rfl) (fun X hX => ?_)
  have hf := hX.f
  have hn := hX.n
  show k_W 1 I_Mo_init X 0 [some (.ref 35)] [] kM_12 kS_36 0 0
  refine kx_aload_n (pc := 0) 0 rfl d_Mo_init_0 ?_
  refine kx_obj (pc := 1) ko_Mo_3 oi_1 oi_2 d_Mo_init_1 (Nat.le_of_ble_eq_true rfl) (Nat.le_of_ble_eq_true rfl) ?_
  refine kx_aload_n (pc := 4) 0 rfl d_Mo_init_4 ?_
  refine kx_bipush (pc := 5) (v := 6) d_Mo_init_5 (by decide) ?_
  refine kx_newI (pc := 7) (a := 36) (N := 6) (S' := kS_37) ka_I d_Mo_init_7 (by decide) (by decide) (Nat.le_of_ble_eq_true rfl) rfl (by decide +kernel) rfl rfl ((hf 36).trans (by decide +kernel)) (Nat.le_trans (Nat.le_of_ble_eq_true rfl) (Nat.le_of_eq hn.1.symm)) (Nat.le_trans (Nat.le_of_ble_eq_true rfl) (Nat.le_of_eq hn.2.symm)) rfl ?_
  refine kx_putR (pc := 9) (i := 17) (a := 35) (b := 36) (r := [1, 1, 1, 0, 0, 0, 0]) (S' := kS_38) kp_Mo_9 rfl d_Mo_init_9 (by decide +kernel) (Nat.le_of_ble_eq_true rfl) rfl ?_
  refine kx_aload_n (pc := 12) 0 rfl d_Mo_init_12 ?_
  refine kx_bipush (pc := 13) (v := 6) d_Mo_init_13 (by decide) ?_
  refine kx_newI (pc := 15) (a := 37) (N := 6) (S' := kS_39) ka_I d_Mo_init_15 (by decide) (by decide) (Nat.le_of_ble_eq_true rfl) rfl (by decide +kernel) rfl rfl ((hf 37).trans (by decide +kernel)) (Nat.le_trans (Nat.le_of_ble_eq_true rfl) (Nat.le_of_eq hn.1.symm)) (Nat.le_trans (Nat.le_of_ble_eq_true rfl) (Nat.le_of_eq hn.2.symm)) rfl ?_
  refine kx_putR (pc := 17) (i := 17) (a := 35) (b := 37) (r := [38, 1, 1, 0, 0, 0, 0]) (S' := kS_40) kp_Mo_15 rfl d_Mo_init_17 (by decide +kernel) (Nat.le_of_ble_eq_true rfl) rfl ?_
  refine kx_aload_n (pc := 20) 0 rfl d_Mo_init_20 ?_
  refine kx_iconst (pc := 21) (v := 3) d_Mo_init_21 (by decide) ?_
  refine kx_newI (pc := 22) (a := 38) (N := 3) (S' := kS_41) ka_I d_Mo_init_22 (by decide) (by decide) (Nat.le_of_ble_eq_true rfl) rfl (by decide +kernel) rfl rfl ((hf 38).trans (by decide +kernel)) (Nat.le_trans (Nat.le_of_ble_eq_true rfl) (Nat.le_of_eq hn.1.symm)) (Nat.le_trans (Nat.le_of_ble_eq_true rfl) (Nat.le_of_eq hn.2.symm)) rfl ?_
  refine kx_putR (pc := 24) (i := 17) (a := 35) (b := 38) (r := [38, 39, 1, 0, 0, 0, 0]) (S' := kS_42) kp_Mo_18 rfl d_Mo_init_24 (by decide +kernel) (Nat.le_of_ble_eq_true rfl) rfl ?_
  exact kx_ret (pc := 27) hX rfl d_Mo_init_27 rfl rfl
set_option maxRecDepth 20000 in
theorem ct_Mo_init_1 : k_Ct 1 3 15 I_Mo_init [.ref 39] kS_44 kS_50 kM_12 kM_12 := by
  refine k_met (by decide +kernel) co_Mo_init (Nat.le_of_ble_eq_true rfl) (fun X hX => ?_)
  have hf := hX.f
  have hn := hX.n
  show k_W 1 I_Mo_init X 0 [some (.ref 39)] [] kM_12 kS_44 0 0
  refine kx_aload_n (pc := 0) 0 rfl d_Mo_init_0 ?_
  refine kx_obj (pc := 1) ko_Mo_3 oi_1 oi_2 d_Mo_init_1 (Nat.le_of_ble_eq_true rfl) (Nat.le_of_ble_eq_true rfl) ?_
  refine kx_aload_n (pc := 4) 0 rfl d_Mo_init_4 ?_
  refine kx_bipush (pc := 5) (v := 6) d_Mo_init_5 (by decide) ?_
  refine kx_newI (pc := 7) (a := 40) (N := 6) (S' := kS_45) ka_I d_Mo_init_7 (by decide) (by decide) (Nat.le_of_ble_eq_true rfl) rfl (by decide +kernel) rfl rfl ((hf 40).trans (by decide +kernel)) (Nat.le_trans (Nat.le_of_ble_eq_true rfl) (Nat.le_of_eq hn.1.symm)) (Nat.le_trans (Nat.le_of_ble_eq_true rfl) (Nat.le_of_eq hn.2.symm)) rfl ?_
  refine kx_putR (pc := 9) (i := 21) (a := 39) (b := 40) (r := [1, 1, 1, 0, 0, 0, 0]) (S' := kS_46) kp_Mo_9 rfl d_Mo_init_9 (by decide +kernel) (Nat.le_of_ble_eq_true rfl) rfl ?_
  refine kx_aload_n (pc := 12) 0 rfl d_Mo_init_12 ?_
  refine kx_bipush (pc := 13) (v := 6) d_Mo_init_13 (by decide) ?_
  refine kx_newI (pc := 15) (a := 41) (N := 6) (S' := kS_47) ka_I d_Mo_init_15 (by decide) (by decide) (Nat.le_of_ble_eq_true rfl) rfl (by decide +kernel) rfl rfl ((hf 41).trans (by decide +kernel)) (Nat.le_trans (Nat.le_of_ble_eq_true rfl) (Nat.le_of_eq hn.1.symm)) (Nat.le_trans (Nat.le_of_ble_eq_true rfl) (Nat.le_of_eq hn.2.symm)) rfl ?_
  refine kx_putR (pc := 17) (i := 21) (a := 39) (b := 41) (r := [42, 1, 1, 0, 0, 0, 0]) (S' := kS_48) kp_Mo_15 rfl d_Mo_init_17 (by decide +kernel) (Nat.le_of_ble_eq_true rfl) rfl ?_
  refine kx_aload_n (pc := 20) 0 rfl d_Mo_init_20 ?_
  refine kx_iconst (pc := 21) (v := 3) d_Mo_init_21 (by decide) ?_
  refine kx_newI (pc := 22) (a := 42) (N := 3) (S' := kS_49) ka_I d_Mo_init_22 (by decide) (by decide) (Nat.le_of_ble_eq_true rfl) rfl (by decide +kernel) rfl rfl ((hf 42).trans (by decide +kernel)) (Nat.le_trans (Nat.le_of_ble_eq_true rfl) (Nat.le_of_eq hn.1.symm)) (Nat.le_trans (Nat.le_of_ble_eq_true rfl) (Nat.le_of_eq hn.2.symm)) rfl ?_
  refine kx_putR (pc := 24) (i := 21) (a := 39) (b := 42) (r := [42, 43, 1, 0, 0, 0, 0]) (S' := kS_50) kp_Mo_18 rfl d_Mo_init_24 (by decide +kernel) (Nat.le_of_ble_eq_true rfl) rfl ?_
  exact kx_ret (pc := 27) hX rfl d_Mo_init_27 rfl rfl
set_option maxRecDepth 20000 in
theorem ct_Mo_init_2 : k_Ct 1 3 15 I_Mo_init [.ref 43] kS_52 kS_58 kM_12 kM_12 := by
  refine k_met (by decide +kernel) co_Mo_init (Nat.le_of_ble_eq_true rfl) (fun X hX => ?_)
  have hf := hX.f
  have hn := hX.n
  show k_W 1 I_Mo_init X 0 [some (.ref 43)] [] kM_12 kS_52 0 0
  refine kx_aload_n (pc := 0) 0 rfl d_Mo_init_0 ?_
  refine kx_obj (pc := 1) ko_Mo_3 oi_1 oi_2 d_Mo_init_1 (Nat.le_of_ble_eq_true rfl) (Nat.le_of_ble_eq_true rfl) ?_
  refine kx_aload_n (pc := 4) 0 rfl d_Mo_init_4 ?_
  refine kx_bipush (pc := 5) (v := 6) d_Mo_init_5 (by decide) ?_
  refine kx_newI (pc := 7) (a := 44) (N := 6) (S' := kS_53) ka_I d_Mo_init_7 (by decide) (by decide) (Nat.le_of_ble_eq_true rfl) rfl (by decide +kernel) rfl rfl ((hf 44).trans (by decide +kernel)) (Nat.le_trans (Nat.le_of_ble_eq_true rfl) (Nat.le_of_eq hn.1.symm)) (Nat.le_trans (Nat.le_of_ble_eq_true rfl) (Nat.le_of_eq hn.2.symm)) rfl ?_
  refine kx_putR (pc := 9) (i := 25) (a := 43) (b := 44) (r := [1, 1, 1, 0, 0, 0, 0]) (S' := kS_54) kp_Mo_9 rfl d_Mo_init_9 (by decide +kernel) (Nat.le_of_ble_eq_true rfl) rfl ?_
  refine kx_aload_n (pc := 12) 0 rfl d_Mo_init_12 ?_
  refine kx_bipush (pc := 13) (v := 6) d_Mo_init_13 (by decide) ?_
  refine kx_newI (pc := 15) (a := 45) (N := 6) (S' := kS_55) ka_I d_Mo_init_15 (by decide) (by decide) (Nat.le_of_ble_eq_true rfl) rfl (by decide +kernel) rfl rfl ((hf 45).trans (by decide +kernel)) (Nat.le_trans (Nat.le_of_ble_eq_true rfl) (Nat.le_of_eq hn.1.symm)) (Nat.le_trans (Nat.le_of_ble_eq_true rfl) (Nat.le_of_eq hn.2.symm)) rfl ?_
  refine kx_putR (pc := 17) (i := 25) (a := 43) (b := 45) (r := [46, 1, 1, 0, 0, 0, 0]) (S' := kS_56) kp_Mo_15 rfl d_Mo_init_17 (by decide +kernel) (Nat.le_of_ble_eq_true rfl) rfl ?_
  refine kx_aload_n (pc := 20) 0 rfl d_Mo_init_20 ?_
  refine kx_iconst (pc := 21) (v := 3) d_Mo_init_21 (by decide) ?_
  refine kx_newI (pc := 22) (a := 46) (N := 3) (S' := kS_57) ka_I d_Mo_init_22 (by decide) (by decide) (Nat.le_of_ble_eq_true rfl) rfl (by decide +kernel) rfl rfl ((hf 46).trans (by decide +kernel)) (Nat.le_trans (Nat.le_of_ble_eq_true rfl) (Nat.le_of_eq hn.1.symm)) (Nat.le_trans (Nat.le_of_ble_eq_true rfl) (Nat.le_of_eq hn.2.symm)) rfl ?_
  refine kx_putR (pc := 24) (i := 25) (a := 43) (b := 46) (r := [46, 47, 1, 0, 0, 0, 0]) (S' := kS_58) kp_Mo_18 rfl d_Mo_init_24 (by decide +kernel) (Nat.le_of_ble_eq_true rfl) rfl ?_
  exact kx_ret (pc := 27) hX rfl d_Mo_init_27 rfl rfl
set_option maxRecDepth 20000 in
theorem ct_Mo_init_3 : k_Ct 1 3 15 I_Mo_init [.ref 47] kS_60 kS_66 kM_12 kM_12 := by
  refine k_met (by decide +kernel) co_Mo_init (Nat.le_of_ble_eq_true rfl) (fun X hX => ?_)
  have hf := hX.f
  have hn := hX.n
  show k_W 1 I_Mo_init X 0 [some (.ref 47)] [] kM_12 kS_60 0 0
  refine kx_aload_n (pc := 0) 0 rfl d_Mo_init_0 ?_
  refine kx_obj (pc := 1) ko_Mo_3 oi_1 oi_2 d_Mo_init_1 (Nat.le_of_ble_eq_true rfl) (Nat.le_of_ble_eq_true rfl) ?_
  refine kx_aload_n (pc := 4) 0 rfl d_Mo_init_4 ?_
  refine kx_bipush (pc := 5) (v := 6) d_Mo_init_5 (by decide) ?_
  refine kx_newI (pc := 7) (a := 48) (N := 6) (S' := kS_61) ka_I d_Mo_init_7 (by decide) (by decide) (Nat.le_of_ble_eq_true rfl) rfl (by decide +kernel) rfl rfl ((hf 48).trans (by decide +kernel)) (Nat.le_trans (Nat.le_of_ble_eq_true rfl) (Nat.le_of_eq hn.1.symm)) (Nat.le_trans (Nat.le_of_ble_eq_true rfl) (Nat.le_of_eq hn.2.symm)) rfl ?_
  refine kx_putR (pc := 9) (i := 29) (a := 47) (b := 48) (r := [1, 1, 1, 0, 0, 0, 0]) (S' := kS_62) kp_Mo_9 rfl d_Mo_init_9 (by decide +kernel) (Nat.le_of_ble_eq_true rfl) rfl ?_
  refine kx_aload_n (pc := 12) 0 rfl d_Mo_init_12 ?_
  refine kx_bipush (pc := 13) (v := 6) d_Mo_init_13 (by decide) ?_
  refine kx_newI (pc := 15) (a := 49) (N := 6) (S' := kS_63) ka_I d_Mo_init_15 (by decide) (by decide) (Nat.le_of_ble_eq_true rfl) rfl (by decide +kernel) rfl rfl ((hf 49).trans (by decide +kernel)) (Nat.le_trans (Nat.le_of_ble_eq_true rfl) (Nat.le_of_eq hn.1.symm)) (Nat.le_trans (Nat.le_of_ble_eq_true rfl) (Nat.le_of_eq hn.2.symm)) rfl ?_
  refine kx_putR (pc := 17) (i := 29) (a := 47) (b := 49) (r := [50, 1, 1, 0, 0, 0, 0]) (S' := kS_64) kp_Mo_15 rfl d_Mo_init_17 (by decide +kernel) (Nat.le_of_ble_eq_true rfl) rfl ?_
  refine kx_aload_n (pc := 20) 0 rfl d_Mo_init_20 ?_
  refine kx_iconst (pc := 21) (v := 3) d_Mo_init_21 (by decide) ?_
  refine kx_newI (pc := 22) (a := 50) (N := 3) (S' := kS_65) ka_I d_Mo_init_22 (by decide) (by decide) (Nat.le_of_ble_eq_true rfl) rfl (by decide +kernel) rfl rfl ((hf 50).trans (by decide +kernel)) (Nat.le_trans (Nat.le_of_ble_eq_true rfl) (Nat.le_of_eq hn.1.symm)) (Nat.le_trans (Nat.le_of_ble_eq_true rfl) (Nat.le_of_eq hn.2.symm)) rfl ?_
  refine kx_putR (pc := 24) (i := 29) (a := 47) (b := 50) (r := [50, 51, 1, 0, 0, 0, 0]) (S' := kS_66) kp_Mo_18 rfl d_Mo_init_24 (by decide +kernel) (Nat.le_of_ble_eq_true rfl) rfl ?_
  exact kx_ret (pc := 27) hX rfl d_Mo_init_27 rfl rfl
set_option maxRecDepth 20000 in
theorem ct_Mo_init_4 : k_Ct 1 3 15 I_Mo_init [.ref 51] kS_68 kS_74 kM_12 kM_12 := by
  refine k_met (by decide +kernel) co_Mo_init (Nat.le_of_ble_eq_true rfl) (fun X hX => ?_)
  have hf := hX.f
  have hn := hX.n
  show k_W 1 I_Mo_init X 0 [some (.ref 51)] [] kM_12 kS_68 0 0
  refine kx_aload_n (pc := 0) 0 rfl d_Mo_init_0 ?_
  refine kx_obj (pc := 1) ko_Mo_3 oi_1 oi_2 d_Mo_init_1 (Nat.le_of_ble_eq_true rfl) (Nat.le_of_ble_eq_true rfl) ?_
  refine kx_aload_n (pc := 4) 0 rfl d_Mo_init_4 ?_
  refine kx_bipush (pc := 5) (v := 6) d_Mo_init_5 (by decide) ?_
  refine kx_newI (pc := 7) (a := 52) (N := 6) (S' := kS_69) ka_I d_Mo_init_7 (by decide) (by decide) (Nat.le_of_ble_eq_true rfl) rfl (by decide +kernel) rfl rfl ((hf 52).trans (by decide +kernel)) (Nat.le_trans (Nat.le_of_ble_eq_true rfl) (Nat.le_of_eq hn.1.symm)) (Nat.le_trans (Nat.le_of_ble_eq_true rfl) (Nat.le_of_eq hn.2.symm)) rfl ?_
  refine kx_putR (pc := 9) (i := 33) (a := 51) (b := 52) (r := [1, 1, 1, 0, 0, 0, 0]) (S' := kS_70) kp_Mo_9 rfl d_Mo_init_9 (by decide +kernel) (Nat.le_of_ble_eq_true rfl) rfl ?_
  refine kx_aload_n (pc := 12) 0 rfl d_Mo_init_12 ?_
  refine kx_bipush (pc := 13) (v := 6) d_Mo_init_13 (by decide) ?_
  refine kx_newI (pc := 15) (a := 53) (N := 6) (S' := kS_71) ka_I d_Mo_init_15 (by decide) (by decide) (Nat.le_of_ble_eq_true rfl) rfl (by decide +kernel) rfl rfl ((hf 53).trans (by decide +kernel)) (Nat.le_trans (Nat.le_of_ble_eq_true rfl) (Nat.le_of_eq hn.1.symm)) (Nat.le_trans (Nat.le_of_ble_eq_true rfl) (Nat.le_of_eq hn.2.symm)) rfl ?_
  refine kx_putR (pc := 17) (i := 33) (a := 51) (b := 53) (r := [54, 1, 1, 0, 0, 0, 0]) (S' := kS_72) kp_Mo_15 rfl d_Mo_init_17 (by decide +kernel) (Nat.le_of_ble_eq_true rfl) rfl ?_
  refine kx_aload_n (pc := 20) 0 rfl d_Mo_init_20 ?_
  refine kx_iconst (pc := 21) (v := 3) d_Mo_init_21 (by decide) ?_
  refine kx_newI (pc := 22) (a := 54) (N := 3) (S' := kS_73) ka_I d_Mo_init_22 (by decide) (by decide) (Nat.le_of_ble_eq_true rfl) rfl (by decide +kernel) rfl rfl ((hf 54).trans (by decide +kernel)) (Nat.le_trans (Nat.le_of_ble_eq_true rfl) (Nat.le_of_eq hn.1.symm)) (Nat.le_trans (Nat.le_of_ble_eq_true rfl) (Nat.le_of_eq hn.2.symm)) rfl ?_
  refine kx_putR (pc := 24) (i := 33) (a := 51) (b := 54) (r := [54, 55, 1, 0, 0, 0, 0]) (S' := kS_74) kp_Mo_18 rfl d_Mo_init_24 (by decide +kernel) (Nat.le_of_ble_eq_true rfl) rfl ?_
  exact kx_ret (pc := 27) hX rfl d_Mo_init_27 rfl rfl
set_option maxRecDepth 20000 in
theorem ct_Mo_init_5 : k_Ct 1 3 15 I_Mo_init [.ref 55] kS_76 kS_82 kM_12 kM_12 := by
  refine k_met (by decide +kernel) co_Mo_init (Nat.le_of_ble_eq_true rfl) (fun X hX => ?_)
  have hf := hX.f
  have hn := hX.n
  show k_W 1 I_Mo_init X 0 [some (.ref 55)] [] kM_12 kS_76 0 0
  refine kx_aload_n (pc := 0) 0 rfl d_Mo_init_0 ?_
  refine kx_obj (pc := 1) ko_Mo_3 oi_1 oi_2 d_Mo_init_1 (Nat.le_of_ble_eq_true rfl) (Nat.le_of_ble_eq_true rfl) ?_
  refine kx_aload_n (pc := 4) 0 rfl d_Mo_init_4 ?_
  refine kx_bipush (pc := 5) (v := 6) d_Mo_init_5 (by decide) ?_
  refine kx_newI (pc := 7) (a := 56) (N := 6) (S' := kS_77) ka_I d_Mo_init_7 (by decide) (by decide) (Nat.le_of_ble_eq_true rfl) rfl (by decide +kernel) rfl rfl ((hf 56).trans (by decide +kernel)) (Nat.le_trans (Nat.le_of_ble_eq_true rfl) (Nat.le_of_eq hn.1.symm)) (Nat.le_trans (Nat.le_of_ble_eq_true rfl) (Nat.le_of_eq hn.2.symm)) rfl ?_
  refine kx_putR (pc := 9) (i := 37) (a := 55) (b := 56) (r := [1, 1, 1, 0, 0, 0, 0]) (S' := kS_78) kp_Mo_9 rfl d_Mo_init_9 (by decide +kernel) (Nat.le_of_ble_eq_true rfl) rfl ?_
  refine kx_aload_n (pc := 12) 0 rfl d_Mo_init_12 ?_
  refine kx_bipush (pc := 13) (v := 6) d_Mo_init_13 (by decide) ?_
  refine kx_newI (pc := 15) (a := 57) (N := 6) (S' := kS_79) ka_I d_Mo_init_15 (by decide) (by decide) (Nat.le_of_ble_eq_true rfl) rfl (by decide +kernel) rfl rfl ((hf 57).trans (by decide +kernel)) (Nat.le_trans (Nat.le_of_ble_eq_true rfl) (Nat.le_of_eq hn.1.symm)) (Nat.le_trans (Nat.le_of_ble_eq_true rfl) (Nat.le_of_eq hn.2.symm)) rfl ?_
  refine kx_putR (pc := 17) (i := 37) (a := 55) (b := 57) (r := [58, 1, 1, 0, 0, 0, 0]) (S' := kS_80) kp_Mo_15 rfl d_Mo_init_17 (by decide +kernel) (Nat.le_of_ble_eq_true rfl) rfl ?_
  refine kx_aload_n (pc := 20) 0 rfl d_Mo_init_20 ?_
  refine kx_iconst (pc := 21) (v := 3) d_Mo_init_21 (by decide) ?_
  refine kx_newI (pc := 22) (a := 58) (N := 3) (S' := kS_81) ka_I d_Mo_init_22 (by decide) (by decide) (Nat.le_of_ble_eq_true rfl) rfl (by decide +kernel) rfl rfl ((hf 58).trans (by decide +kernel)) (Nat.le_trans (Nat.le_of_ble_eq_true rfl) (Nat.le_of_eq hn.1.symm)) (Nat.le_trans (Nat.le_of_ble_eq_true rfl) (Nat.le_of_eq hn.2.symm)) rfl ?_
  refine kx_putR (pc := 24) (i := 37) (a := 55) (b := 58) (r := [58, 59, 1, 0, 0, 0, 0]) (S' := kS_82) kp_Mo_18 rfl d_Mo_init_24 (by decide +kernel) (Nat.le_of_ble_eq_true rfl) rfl ?_
  exact kx_ret (pc := 27) hX rfl d_Mo_init_27 rfl rfl
set_option maxRecDepth 20000 in
theorem ct_Mo_init_6 : k_Ct 1 3 15 I_Mo_init [.ref 59] kS_84 kS_90 kM_12 kM_12 := by
  refine k_met (by decide +kernel) co_Mo_init (Nat.le_of_ble_eq_true rfl) (fun X hX => ?_)
  have hf := hX.f
  have hn := hX.n
  show k_W 1 I_Mo_init X 0 [some (.ref 59)] [] kM_12 kS_84 0 0
  refine kx_aload_n (pc := 0) 0 rfl d_Mo_init_0 ?_
  refine kx_obj (pc := 1) ko_Mo_3 oi_1 oi_2 d_Mo_init_1 (Nat.le_of_ble_eq_true rfl) (Nat.le_of_ble_eq_true rfl) ?_
  refine kx_aload_n (pc := 4) 0 rfl d_Mo_init_4 ?_
  refine kx_bipush (pc := 5) (v := 6) d_Mo_init_5 (by decide) ?_
  refine kx_newI (pc := 7) (a := 60) (N := 6) (S' := kS_85) ka_I d_Mo_init_7 (by decide) (by decide) (Nat.le_of_ble_eq_true rfl) rfl (by decide +kernel) rfl rfl ((hf 60).trans (by decide +kernel)) (Nat.le_trans (Nat.le_of_ble_eq_true rfl) (Nat.le_of_eq hn.1.symm)) (Nat.le_trans (Nat.le_of_ble_eq_true rfl) (Nat.le_of_eq hn.2.symm)) rfl ?_
  refine kx_putR (pc := 9) (i := 41) (a := 59) (b := 60) (r := [1, 1, 1, 0, 0, 0, 0]) (S' := kS_86) kp_Mo_9 rfl d_Mo_init_9 (by decide +kernel) (Nat.le_of_ble_eq_true rfl) rfl ?_
  refine kx_aload_n (pc := 12) 0 rfl d_Mo_init_12 ?_
  refine kx_bipush (pc := 13) (v := 6) d_Mo_init_13 (by decide) ?_
  refine kx_newI (pc := 15) (a := 61) (N := 6) (S' := kS_87) ka_I d_Mo_init_15 (by decide) (by decide) (Nat.le_of_ble_eq_true rfl) rfl (by decide +kernel) rfl rfl ((hf 61).trans (by decide +kernel)) (Nat.le_trans (Nat.le_of_ble_eq_true rfl) (Nat.le_of_eq hn.1.symm)) (Nat.le_trans (Nat.le_of_ble_eq_true rfl) (Nat.le_of_eq hn.2.symm)) rfl ?_
  refine kx_putR (pc := 17) (i := 41) (a := 59) (b := 61) (r := [62, 1, 1, 0, 0, 0, 0]) (S' := kS_88) kp_Mo_15 rfl d_Mo_init_17 (by decide +kernel) (Nat.le_of_ble_eq_true rfl) rfl ?_
  refine kx_aload_n (pc := 20) 0 rfl d_Mo_init_20 ?_
  refine kx_iconst (pc := 21) (v := 3) d_Mo_init_21 (by decide) ?_
  refine kx_newI (pc := 22) (a := 62) (N := 3) (S' := kS_89) ka_I d_Mo_init_22 (by decide) (by decide) (Nat.le_of_ble_eq_true rfl) rfl (by decide +kernel) rfl rfl ((hf 62).trans (by decide +kernel)) (Nat.le_trans (Nat.le_of_ble_eq_true rfl) (Nat.le_of_eq hn.1.symm)) (Nat.le_trans (Nat.le_of_ble_eq_true rfl) (Nat.le_of_eq hn.2.symm)) rfl ?_
  refine kx_putR (pc := 24) (i := 41) (a := 59) (b := 62) (r := [62, 63, 1, 0, 0, 0, 0]) (S' := kS_90) kp_Mo_18 rfl d_Mo_init_24 (by decide +kernel) (Nat.le_of_ble_eq_true rfl) rfl ?_
  exact kx_ret (pc := 27) hX rfl d_Mo_init_27 rfl rfl
set_option maxRecDepth 20000 in
theorem ct_Mo_init_7 : k_Ct 1 3 15 I_Mo_init [.ref 63] kS_92 kS_98 kM_12 kM_12 := by
  refine k_met (by decide +kernel) co_Mo_init (Nat.le_of_ble_eq_true rfl) (fun X hX => ?_)
  have hf := hX.f
  have hn := hX.n
  show k_W 1 I_Mo_init X 0 [some (.ref 63)] [] kM_12 kS_92 0 0
  refine kx_aload_n (pc := 0) 0 rfl d_Mo_init_0 ?_
  refine kx_obj (pc := 1) ko_Mo_3 oi_1 oi_2 d_Mo_init_1 (Nat.le_of_ble_eq_true rfl) (Nat.le_of_ble_eq_true rfl) ?_
  refine kx_aload_n (pc := 4) 0 rfl d_Mo_init_4 ?_
  refine kx_bipush (pc := 5) (v := 6) d_Mo_init_5 (by decide) ?_
  refine kx_newI (pc := 7) (a := 64) (N := 6) (S' := kS_93) ka_I d_Mo_init_7 (by decide) (by decide) (Nat.le_of_ble_eq_true rfl) rfl (by decide +kernel) rfl rfl ((hf 64).trans (by decide +kernel)) (Nat.le_trans (Nat.le_of_ble_eq_true rfl) (Nat.le_of_eq hn.1.symm)) (Nat.le_trans (Nat.le_of_ble_eq_true rfl) (Nat.le_of_eq hn.2.symm)) rfl ?_
  refine kx_putR (pc := 9) (i := 45) (a := 63) (b := 64) (r := [1, 1, 1, 0, 0, 0, 0]) (S' := kS_94) kp_Mo_9 rfl d_Mo_init_9 (by decide +kernel) (Nat.le_of_ble_eq_true rfl) rfl ?_
  refine kx_aload_n (pc := 12) 0 rfl d_Mo_init_12 ?_
  refine kx_bipush (pc := 13) (v := 6) d_Mo_init_13 (by decide) ?_
  refine kx_newI (pc := 15) (a := 65) (N := 6) (S' := kS_95) ka_I d_Mo_init_15 (by decide) (by decide) (Nat.le_of_ble_eq_true rfl) rfl (by decide +kernel) rfl rfl ((hf 65).trans (by decide +kernel)) (Nat.le_trans (Nat.le_of_ble_eq_true rfl) (Nat.le_of_eq hn.1.symm)) (Nat.le_trans (Nat.le_of_ble_eq_true rfl) (Nat.le_of_eq hn.2.symm)) rfl ?_
  refine kx_putR (pc := 17) (i := 45) (a := 63) (b := 65) (r := [66, 1, 1, 0, 0, 0, 0]) (S' := kS_96) kp_Mo_15 rfl d_Mo_init_17 (by decide +kernel) (Nat.le_of_ble_eq_true rfl) rfl ?_
  refine kx_aload_n (pc := 20) 0 rfl d_Mo_init_20 ?_
  refine kx_iconst (pc := 21) (v := 3) d_Mo_init_21 (by decide) ?_
  refine kx_newI (pc := 22) (a := 66) (N := 3) (S' := kS_97) ka_I d_Mo_init_22 (by decide) (by decide) (Nat.le_of_ble_eq_true rfl) rfl (by decide +kernel) rfl rfl ((hf 66).trans (by decide +kernel)) (Nat.le_trans (Nat.le_of_ble_eq_true rfl) (Nat.le_of_eq hn.1.symm)) (Nat.le_trans (Nat.le_of_ble_eq_true rfl) (Nat.le_of_eq hn.2.symm)) rfl ?_
  refine kx_putR (pc := 24) (i := 45) (a := 63) (b := 66) (r := [66, 67, 1, 0, 0, 0, 0]) (S' := kS_98) kp_Mo_18 rfl d_Mo_init_24 (by decide +kernel) (Nat.le_of_ble_eq_true rfl) rfl ?_
  exact kx_ret (pc := 27) hX rfl d_Mo_init_27 rfl rfl
set_option maxRecDepth 20000 in
theorem ct_Mo_init_8 : k_Ct 1 3 15 I_Mo_init [.ref 67] kS_100 kS_106 kM_12 kM_12 := by
  refine k_met (by decide +kernel) co_Mo_init (Nat.le_of_ble_eq_true rfl) (fun X hX => ?_)
  have hf := hX.f
  have hn := hX.n
  show k_W 1 I_Mo_init X 0 [some (.ref 67)] [] kM_12 kS_100 0 0
  refine kx_aload_n (pc := 0) 0 rfl d_Mo_init_0 ?_
  refine kx_obj (pc := 1) ko_Mo_3 oi_1 oi_2 d_Mo_init_1 (Nat.le_of_ble_eq_true rfl) (Nat.le_of_ble_eq_true rfl) ?_
  refine kx_aload_n (pc := 4) 0 rfl d_Mo_init_4 ?_
  refine kx_bipush (pc := 5) (v := 6) d_Mo_init_5 (by decide) ?_
  refine kx_newI (pc := 7) (a := 68) (N := 6) (S' := kS_101) ka_I d_Mo_init_7 (by decide) (by decide) (Nat.le_of_ble_eq_true rfl) rfl (by decide +kernel) rfl rfl ((hf 68).trans (by decide +kernel)) (Nat.le_trans (Nat.le_of_ble_eq_true rfl) (Nat.le_of_eq hn.1.symm)) (Nat.le_trans (Nat.le_of_ble_eq_true rfl) (Nat.le_of_eq hn.2.symm)) rfl ?_
  refine kx_putR (pc := 9) (i := 49) (a := 67) (b := 68) (r := [1, 1, 1, 0, 0, 0, 0]) (S' := kS_102) kp_Mo_9 rfl d_Mo_init_9 (by decide +kernel) (Nat.le_of_ble_eq_true rfl) rfl ?_
  refine kx_aload_n (pc := 12) 0 rfl d_Mo_init_12 ?_
  refine kx_bipush (pc := 13) (v := 6) d_Mo_init_13 (by decide) ?_
  refine kx_newI (pc := 15) (a := 69) (N := 6) (S' := kS_103) ka_I d_Mo_init_15 (by decide) (by decide) (Nat.le_of_ble_eq_true rfl) rfl (by decide +kernel) rfl rfl ((hf 69).trans (by decide +kernel)) (Nat.le_trans (Nat.le_of_ble_eq_true rfl) (Nat.le_of_eq hn.1.symm)) (Nat.le_trans (Nat.le_of_ble_eq_true rfl) (Nat.le_of_eq hn.2.symm)) rfl ?_
  refine kx_putR (pc := 17) (i := 49) (a := 67) (b := 69) (r := [70, 1, 1, 0, 0, 0, 0]) (S' := kS_104) kp_Mo_15 rfl d_Mo_init_17 (by decide +kernel) (Nat.le_of_ble_eq_true rfl) rfl ?_
  refine kx_aload_n (pc := 20) 0 rfl d_Mo_init_20 ?_
  refine kx_iconst (pc := 21) (v := 3) d_Mo_init_21 (by decide) ?_
  refine kx_newI (pc := 22) (a := 70) (N := 3) (S' := kS_105) ka_I d_Mo_init_22 (by decide) (by decide) (Nat.le_of_ble_eq_true rfl) rfl (by decide +kernel) rfl rfl ((hf 70).trans (by decide +kernel)) (Nat.le_trans (Nat.le_of_ble_eq_true rfl) (Nat.le_of_eq hn.1.symm)) (Nat.le_trans (Nat.le_of_ble_eq_true rfl) (Nat.le_of_eq hn.2.symm)) rfl ?_
  refine kx_putR (pc := 24) (i := 49) (a := 67) (b := 70) (r := [70, 71, 1, 0, 0, 0, 0]) (S' := kS_106) kp_Mo_18 rfl d_Mo_init_24 (by decide +kernel) (Nat.le_of_ble_eq_true rfl) rfl ?_
  exact kx_ret (pc := 27) hX rfl d_Mo_init_27 rfl rfl
set_option maxRecDepth 20000 in
theorem ct_Mo_init_9 : k_Ct 1 3 15 I_Mo_init [.ref 71] kS_108 kS_114 kM_12 kM_12 := by
  refine k_met (by decide +kernel) co_Mo_init (Nat.le_of_ble_eq_true rfl) (fun X hX => ?_)
  have hf := hX.f
  have hn := hX.n
  show k_W 1 I_Mo_init X 0 [some (.ref 71)] [] kM_12 kS_108 0 0
  refine kx_aload_n (pc := 0) 0 rfl d_Mo_init_0 ?_
  refine kx_obj (pc := 1) ko_Mo_3 oi_1 oi_2 d_Mo_init_1 (Nat.le_of_ble_eq_true rfl) (Nat.le_of_ble_eq_true rfl) ?_
  refine kx_aload_n (pc := 4) 0 rfl d_Mo_init_4 ?_
  refine kx_bipush (pc := 5) (v := 6) d_Mo_init_5 (by decide) ?_
  refine kx_newI (pc := 7) (a := 72) (N := 6) (S' := kS_109) ka_I d_Mo_init_7 (by decide) (by decide) (Nat.le_of_ble_eq_true rfl) rfl (by decide +kernel) rfl rfl ((hf 72).trans (by decide +kernel)) (Nat.le_trans (Nat.le_of_ble_eq_true rfl) (Nat.le_of_eq hn.1.symm)) (Nat.le_trans (Nat.le_of_ble_eq_true rfl) (Nat.le_of_eq hn.2.symm)) rfl ?_
  refine kx_putR (pc := 9) (i := 53) (a := 71) (b := 72) (r := [1, 1, 1, 0, 0, 0, 0]) (S' := kS_110) kp_Mo_9 rfl d_Mo_init_9 (by decide +kernel) (Nat.le_of_ble_eq_true rfl) rfl ?_
  refine kx_aload_n (pc := 12) 0 rfl d_Mo_init_12 ?_
  refine kx_bipush (pc := 13) (v := 6) d_Mo_init_13 (by decide) ?_
  refine kx_newI (pc := 15) (a := 73) (N := 6) (S' := kS_111) ka_I d_Mo_init_15 (by decide) (by decide) (Nat.le_of_ble_eq_true rfl) rfl (by decide +kernel) rfl rfl ((hf 73).trans (by decide +kernel)) (Nat.le_trans (Nat.le_of_ble_eq_true rfl) (Nat.le_of_eq hn.1.symm)) (Nat.le_trans (Nat.le_of_ble_eq_true rfl) (Nat.le_of_eq hn.2.symm)) rfl ?_
  refine kx_putR (pc := 17) (i := 53) (a := 71) (b := 73) (r := [74, 1, 1, 0, 0, 0, 0]) (S' := kS_112) kp_Mo_15 rfl d_Mo_init_17 (by decide +kernel) (Nat.le_of_ble_eq_true rfl) rfl ?_
  refine kx_aload_n (pc := 20) 0 rfl d_Mo_init_20 ?_
  refine kx_iconst (pc := 21) (v := 3) d_Mo_init_21 (by decide) ?_
  refine kx_newI (pc := 22) (a := 74) (N := 3) (S' := kS_113) ka_I d_Mo_init_22 (by decide) (by decide) (Nat.le_of_ble_eq_true rfl) rfl (by decide +kernel) rfl rfl ((hf 74).trans (by decide +kernel)) (Nat.le_trans (Nat.le_of_ble_eq_true rfl) (Nat.le_of_eq hn.1.symm)) (Nat.le_trans (Nat.le_of_ble_eq_true rfl) (Nat.le_of_eq hn.2.symm)) rfl ?_
  refine kx_putR (pc := 24) (i := 53) (a := 71) (b := 74) (r := [74, 75, 1, 0, 0, 0, 0]) (S' := kS_114) kp_Mo_18 rfl d_Mo_init_24 (by decide +kernel) (Nat.le_of_ble_eq_true rfl) rfl ?_
  exact kx_ret (pc := 27) hX rfl d_Mo_init_27 rfl rfl
set_option maxRecDepth 20000 in
theorem ct_Mo_init_10 : k_Ct 1 3 15 I_Mo_init [.ref 75] kS_116 kS_122 kM_12 kM_12 := by
  refine k_met (by decide +kernel) co_Mo_init (Nat.le_of_ble_eq_true rfl) (fun X hX => ?_)
  have hf := hX.f
  have hn := hX.n
  show k_W 1 I_Mo_init X 0 [some (.ref 75)] [] kM_12 kS_116 0 0
  refine kx_aload_n (pc := 0) 0 rfl d_Mo_init_0 ?_
  refine kx_obj (pc := 1) ko_Mo_3 oi_1 oi_2 d_Mo_init_1 (Nat.le_of_ble_eq_true rfl) (Nat.le_of_ble_eq_true rfl) ?_
  refine kx_aload_n (pc := 4) 0 rfl d_Mo_init_4 ?_
  refine kx_bipush (pc := 5) (v := 6) d_Mo_init_5 (by decide) ?_
  refine kx_newI (pc := 7) (a := 76) (N := 6) (S' := kS_117) ka_I d_Mo_init_7 (by decide) (by decide) (Nat.le_of_ble_eq_true rfl) rfl (by decide +kernel) rfl rfl ((hf 76).trans (by decide +kernel)) (Nat.le_trans (Nat.le_of_ble_eq_true rfl) (Nat.le_of_eq hn.1.symm)) (Nat.le_trans (Nat.le_of_ble_eq_true rfl) (Nat.le_of_eq hn.2.symm)) rfl ?_
  refine kx_putR (pc := 9) (i := 57) (a := 75) (b := 76) (r := [1, 1, 1, 0, 0, 0, 0]) (S' := kS_118) kp_Mo_9 rfl d_Mo_init_9 (by decide +kernel) (Nat.le_of_ble_eq_true rfl) rfl ?_
  refine kx_aload_n (pc := 12) 0 rfl d_Mo_init_12 ?_
  refine kx_bipush (pc := 13) (v := 6) d_Mo_init_13 (by decide) ?_
  refine kx_newI (pc := 15) (a := 77) (N := 6) (S' := kS_119) ka_I d_Mo_init_15 (by decide) (by decide) (Nat.le_of_ble_eq_true rfl) rfl (by decide +kernel) rfl rfl ((hf 77).trans (by decide +kernel)) (Nat.le_trans (Nat.le_of_ble_eq_true rfl) (Nat.le_of_eq hn.1.symm)) (Nat.le_trans (Nat.le_of_ble_eq_true rfl) (Nat.le_of_eq hn.2.symm)) rfl ?_
  refine kx_putR (pc := 17) (i := 57) (a := 75) (b := 77) (r := [78, 1, 1, 0, 0, 0, 0]) (S' := kS_120) kp_Mo_15 rfl d_Mo_init_17 (by decide +kernel) (Nat.le_of_ble_eq_true rfl) rfl ?_
  refine kx_aload_n (pc := 20) 0 rfl d_Mo_init_20 ?_
  refine kx_iconst (pc := 21) (v := 3) d_Mo_init_21 (by decide) ?_
  refine kx_newI (pc := 22) (a := 78) (N := 3) (S' := kS_121) ka_I d_Mo_init_22 (by decide) (by decide) (Nat.le_of_ble_eq_true rfl) rfl (by decide +kernel) rfl rfl ((hf 78).trans (by decide +kernel)) (Nat.le_trans (Nat.le_of_ble_eq_true rfl) (Nat.le_of_eq hn.1.symm)) (Nat.le_trans (Nat.le_of_ble_eq_true rfl) (Nat.le_of_eq hn.2.symm)) rfl ?_
  refine kx_putR (pc := 24) (i := 57) (a := 75) (b := 78) (r := [78, 79, 1, 0, 0, 0, 0]) (S' := kS_122) kp_Mo_18 rfl d_Mo_init_24 (by decide +kernel) (Nat.le_of_ble_eq_true rfl) rfl ?_
  exact kx_ret (pc := 27) hX rfl d_Mo_init_27 rfl rfl
set_option maxRecDepth 20000 in
theorem ct_Co_init : k_Ct 2 45 253 I_Co_init [.ref 15, .ref 1, .ref 4, .ref 10] kS_30 kS_123 kM_12 kM_12 := by
  refine k_met (by decide +kernel) co_Co_init (Nat.le_of_ble_eq_true rfl) (fun X hX => ?_)
  have hf := hX.f
  have hn := hX.n
  show k_W 2 I_Co_init X 0 [some (.ref 15), some (.ref 1), some (.ref 4), some (.ref 10), none] [] kM_12 kS_30 0 0
  refine kx_aload_n (pc := 0) 0 rfl d_Co_init_0 ?_
  refine kx_obj (pc := 1) ko_Co_3 oi_1 oi_2 d_Co_init_1 (Nat.le_of_ble_eq_true rfl) (Nat.le_of_ble_eq_true rfl) ?_
  refine kx_aload_n (pc := 4) 0 rfl d_Co_init_4 ?_
  refine kx_aload_n (pc := 5) 1 rfl d_Co_init_5 ?_
  refine kx_putR (pc := 6) (i := 15) (a := 15) (b := 1) (r := [1, 1, 1, 1]) (S' := kS_31) kp_Co_9 rfl d_Co_init_6 (by decide +kernel) (Nat.le_of_ble_eq_true rfl) rfl ?_
  refine kx_aload_n (pc := 9) 0 rfl d_Co_init_9 ?_
  refine kx_aload_n (pc := 10) 2 rfl d_Co_init_10 ?_
  refine kx_putR (pc := 11) (i := 15) (a := 15) (b := 4) (r := [3, 1, 1, 1]) (S' := kS_32) kp_Co_15 rfl d_Co_init_11 (by decide +kernel) (Nat.le_of_ble_eq_true rfl) rfl ?_
  refine kx_aload_n (pc := 14) 0 rfl d_Co_init_14 ?_
  refine kx_aload_n (pc := 15) 3 rfl d_Co_init_15 ?_
  refine kx_putR (pc := 16) (i := 15) (a := 15) (b := 10) (r := [3, 6, 1, 1]) (S' := kS_33) kp_Co_19 rfl d_Co_init_16 (by decide +kernel) (Nat.le_of_ble_eq_true rfl) rfl ?_
  refine kx_aload_n (pc := 19) 0 rfl d_Co_init_19 ?_
  refine kx_bipush (pc := 20) (v := 11) d_Co_init_20 (by decide) ?_
  refine kx_newM (pc := 22) (a := 16) (N := 11) (r := [1, 1, 1, 1, 1, 1, 1, 1, 1, 1, 1]) (S' := kS_34) kl_Co_23 d_Co_init_22 (by decide) (by decide) (Nat.le_of_ble_eq_true rfl) rfl (by decide +kernel) rfl rfl ((hf 16).trans (by decide +kernel)) (Nat.le_trans (Nat.le_of_ble_eq_true rfl) (Nat.le_of_eq hn.1.symm)) (Nat.le_trans (Nat.le_of_ble_eq_true rfl) (Nat.le_of_eq hn.2.symm)) rfl ?_
  refine kx_putR (pc := 25) (i := 15) (a := 15) (b := 16) (r := [3, 6, 12, 1]) (S' := kS_35) kp_Co_25 rfl d_Co_init_25 (by decide +kernel) (Nat.le_of_ble_eq_true rfl) rfl ?_
  refine kx_iconst (pc := 28) (v := 0) d_Co_init_28 (by decide) ?_
  refine kx_istore (pc := 29) 4 (L' := [some (.ref 15), some (.ref 1), some (.ref 4), some (.ref 10), some (.int 0)]) (Nat.le_of_ble_eq_true rfl) (Or.inr rfl) d_Co_init_29 rfl ?_
  refine kx_iload (pc := 31) 4 rfl d_Co_init_31 ?_
  refine kx_aload_n (pc := 33) 0 rfl d_Co_init_33 ?_
  refine kx_getR (pc := 34) (i := 15) (a := 15) (b := 16) (r := [3, 6, 12, 18]) gf_Co_25 d_Co_init_34 (by decide +kernel) rfl ?_
  refine kx_alen (pc := 37) (i := 16) (a := 16) (N := 11) (r := [1, 1, 1, 1, 1, 1, 1, 1, 1, 1, 1]) (v := 11) d_Co_init_37 (by decide +kernel) rfl ?_
  refine kx_ige_f (pc := 38) 61 d_Co_init_38 (by decide) (by decide) ?_
  refine kx_aload_n (pc := 41) 0 rfl d_Co_init_41 ?_
  refine kx_getR (pc := 42) (i := 15) (a := 15) (b := 16) (r := [3, 6, 12, 18]) gf_Co_25 d_Co_init_42 (by decide +kernel) rfl ?_
  refine kx_iload (pc := 45) 4 rfl d_Co_init_45 ?_
  refine kx_new (pc := 47) (a := 35) (r := [1, 1, 1, 0, 0, 0, 0]) (S' := kS_36) cf_Mo kl_Co_23 kn_Mo ini_Mo d_Co_init_47 nf_Mo rfl rfl (by decide +kernel) rfl rfl ((hf 35).trans (by decide +kernel)) (Nat.le_trans (Nat.le_of_ble_eq_true rfl) (Nat.le_of_eq hn.1.symm)) (Nat.le_trans (Nat.le_of_ble_eq_true rfl) (Nat.le_of_eq hn.2.symm)) rfl ?_
  refine kx_dup (pc := 50) d_Co_init_50 ?_
  refine kx_callIN (pc := 51) (y := I_Mo_init) (o := 35) (np := 0) (st := [.ref 35, .int 0, .ref 16]) (S2 := kS_42) (M2 := kM_12) [] co_Mo_init rfl ini_Mo ki_Mo_init rfl (fun _ h => h.2.2) ⟨by decide +kernel, by decide +kernel, by decide +kernel⟩ rfl (Nat.le_of_ble_eq_true rfl) d_Co_init_51 (Nat.le_of_ble_eq_true rfl) (Nat.le_of_ble_eq_true rfl) ct_Mo_init (by decide +kernel) (by decide +kernel) (by decide +kernel) (fun b h _ => k_sub (by decide +kernel) ((hf b).symm.trans h)) (Nat.le_trans (Nat.le_of_ble_eq_true rfl) (Nat.le_of_eq hn.1.symm)) (Nat.le_trans (Nat.le_of_ble_eq_true rfl) (Nat.le_of_eq hn.2.symm)) ?_
  refine kx_aastM (pc := 54) (i := 16) (ib := 17) (a := 16) (b := 35) (N := 11) (r := [1, 1, 1, 1, 1, 1, 1, 1, 1, 1, 1]) (rb := [38, 39, 40, 0, 0, 0, 0]) (S' := kS_43) d_Co_init_54 (by decide +kernel) (by decide +kernel) (by unfold vp_in; decide) (by decide) rfl ?_
  refine kx_iinc (pc := 55) 4 (L' := [some (.ref 15), some (.ref 1), some (.ref 4), some (.ref 10), some (.int 1)]) rfl (Nat.le_of_ble_eq_true rfl) (Or.inr rfl) d_Co_init_55 rfl ?_
  refine kx_goto (pc := 58) 31 d_Co_init_58 (by decide) ?_
  refine kx_iload (pc := 31) 4 rfl d_Co_init_31 ?_
  refine kx_aload_n (pc := 33) 0 rfl d_Co_init_33 ?_
  refine kx_getR (pc := 34) (i := 15) (a := 15) (b := 16) (r := [3, 6, 12, 18]) gf_Co_25 d_Co_init_34 (by decide +kernel) rfl ?_
  refine kx_alen (pc := 37) (i := 16) (a := 16) (N := 11) (r := [37, 1, 1, 1, 1, 1, 1, 1, 1, 1, 1]) (v := 11) d_Co_init_37 (by decide +kernel) rfl ?_
  refine kx_ige_f (pc := 38) 61 d_Co_init_38 (by decide) (by decide) ?_
  refine kx_aload_n (pc := 41) 0 rfl d_Co_init_41 ?_
  refine kx_getR (pc := 42) (i := 15) (a := 15) (b := 16) (r := [3, 6, 12, 18]) gf_Co_25 d_Co_init_42 (by decide +kernel) rfl ?_
  refine kx_iload (pc := 45) 4 rfl d_Co_init_45 ?_
  refine kx_new (pc := 47) (a := 39) (r := [1, 1, 1, 0, 0, 0, 0]) (S' := kS_44) cf_Mo kl_Co_23 kn_Mo ini_Mo d_Co_init_47 nf_Mo rfl rfl (by decide +kernel) rfl rfl ((hf 39).trans (by decide +kernel)) (Nat.le_trans (Nat.le_of_ble_eq_true rfl) (Nat.le_of_eq hn.1.symm)) (Nat.le_trans (Nat.le_of_ble_eq_true rfl) (Nat.le_of_eq hn.2.symm)) rfl ?_
  refine kx_dup (pc := 50) d_Co_init_50 ?_
  refine kx_callIN (pc := 51) (y := I_Mo_init) (o := 39) (np := 0) (st := [.ref 39, .int 1, .ref 16]) (S2 := kS_50) (M2 := kM_12) [] co_Mo_init rfl ini_Mo ki_Mo_init rfl (fun _ h => h.2.2) ⟨by decide +kernel, by decide +kernel, by decide +kernel⟩ rfl (Nat.le_of_ble_eq_true rfl) d_Co_init_51 (Nat.le_of_ble_eq_true rfl) (Nat.le_of_ble_eq_true rfl) ct_Mo_init_1 (by decide +kernel) (by decide +kernel) (by decide +kernel) (fun b h _ => k_sub (by decide +kernel) ((hf b).symm.trans h)) (Nat.le_trans (Nat.le_of_ble_eq_true rfl) (Nat.le_of_eq hn.1.symm)) (Nat.le_trans (Nat.le_of_ble_eq_true rfl) (Nat.le_of_eq hn.2.symm)) ?_
  refine kx_aastM (pc := 54) (i := 16) (ib := 21) (a := 16) (b := 39) (N := 11) (r := [37, 1, 1, 1, 1, 1, 1, 1, 1, 1, 1]) (rb := [42, 43, 44, 0, 0, 0, 0]) (S' := kS_51) d_Co_init_54 (by decide +kernel) (by decide +kernel) (by unfold vp_in; decide) (by decide) rfl ?_
  refine kx_iinc (pc := 55) 4 (L' := [some (.ref 15), some (.ref 1), some (.ref 4), some (.ref 10), some (.int 2)]) rfl (Nat.le_of_ble_eq_true rfl) (Or.inr rfl) d_Co_init_55 rfl ?_
  refine kx_goto (pc := 58) 31 d_Co_init_58 (by decide) ?_
  refine kx_iload (pc := 31) 4 rfl d_Co_init_31 ?_
  refine kx_aload_n (pc := 33) 0 rfl d_Co_init_33 ?_
  refine kx_getR (pc := 34) (i := 15) (a := 15) (b := 16) (r := [3, 6, 12, 18]) gf_Co_25 d_Co_init_34 (by decide +kernel) rfl ?_
  refine kx_alen (pc := 37) (i := 16) (a := 16) (N := 11) (r := [37, 41, 1, 1, 1, 1, 1, 1, 1, 1, 1]) (v := 11) d_Co_init_37 (by decide +kernel) rfl ?_
  refine kx_ige_f (pc := 38) 61 d_Co_init_38 (by decide) (by decide) ?_
  refine kx_aload_n (pc := 41) 0 rfl d_Co_init_41 ?_
  refine kx_getR (pc := 42) (i := 15) (a := 15) (b := 16) (r := [3, 6, 12, 18]) gf_Co_25 d_Co_init_42 (by decide +kernel) rfl ?_
  refine kx_iload (pc := 45) 4 rfl d_Co_init_45 ?_
  refine kx_new (pc := 47) (a := 43) (r := [1, 1, 1, 0, 0, 0, 0]) (S' := kS_52) cf_Mo kl_Co_23 kn_Mo ini_Mo d_Co_init_47 nf_Mo rfl rfl (by decide +kernel) rfl rfl ((hf 43).trans (by decide +kernel)) (Nat.le_trans (Nat.le_of_ble_eq_true rfl) (Nat.le_of_eq hn.1.symm)) (Nat.le_trans (Nat.le_of_ble_eq_true rfl) (Nat.le_of_eq hn.2.symm)) rfl ?_
  refine kx_dup (pc := 50) d_Co_init_50 ?_
  refine kx_callIN (pc := 51) (y := I_Mo_init) (o := 43) (np := 0) (st := [.ref 43, .int 2, .ref 16]) (S2 := kS_58) (M2 := kM_12) [] co_Mo_init rfl ini_Mo ki_Mo_init rfl (fun _ h => h.2.2) ⟨by decide +kernel, by decide +kernel, by decide +kernel⟩ rfl (Nat.le_of_ble_eq_true rfl) d_Co_init_51 (Nat.le_of_ble_eq_true rfl) (Nat.le_of_ble_eq_true rfl) ct_Mo_init_2 (by decide +kernel) (by decide +kernel) (by decide +kernel) (fun b h _ => k_sub (by decide +kernel) ((hf b).symm.trans h)) (Nat.le_trans (Nat.le_of_ble_eq_true rfl) (Nat.le_of_eq hn.1.symm)) (Nat.le_trans (Nat.le_of_ble_eq_true rfl) (Nat.le_of_eq hn.2.symm)) ?_
  refine kx_aastM (pc := 54) (i := 16) (ib := 25) (a := 16) (b := 43) (N := 11) (r := [37, 41, 1, 1, 1, 1, 1, 1, 1, 1, 1]) (rb := [46, 47, 48, 0, 0, 0, 0]) (S' := kS_59) d_Co_init_54 (by decide +kernel) (by decide +kernel) (by unfold vp_in; decide) (by decide) rfl ?_
  refine kx_iinc (pc := 55) 4 (L' := [some (.ref 15), some (.ref 1), some (.ref 4), some (.ref 10), some (.int 3)]) rfl (Nat.le_of_ble_eq_true rfl) (Or.inr rfl) d_Co_init_55 rfl ?_
  refine kx_goto (pc := 58) 31 d_Co_init_58 (by decide) ?_
  refine kx_iload (pc := 31) 4 rfl d_Co_init_31 ?_
  refine kx_aload_n (pc := 33) 0 rfl d_Co_init_33 ?_
  refine kx_getR (pc := 34) (i := 15) (a := 15) (b := 16) (r := [3, 6, 12, 18]) gf_Co_25 d_Co_init_34 (by decide +kernel) rfl ?_
  refine kx_alen (pc := 37) (i := 16) (a := 16) (N := 11) (r := [37, 41, 45, 1, 1, 1, 1, 1, 1, 1, 1]) (v := 11) d_Co_init_37 (by decide +kernel) rfl ?_
  refine kx_ige_f (pc := 38) 61 d_Co_init_38 (by decide) (by decide) ?_
  refine kx_aload_n (pc := 41) 0 rfl d_Co_init_41 ?_
  refine kx_getR (pc := 42) (i := 15) (a := 15) (b := 16) (r := [3, 6, 12, 18]) gf_Co_25 d_Co_init_42 (by decide +kernel) rfl ?_
  refine kx_iload (pc := 45) 4 rfl d_Co_init_45 ?_
  refine kx_new (pc := 47) (a := 47) (r := [1, 1, 1, 0, 0, 0, 0]) (S' := kS_60) cf_Mo kl_Co_23 kn_Mo ini_Mo d_Co_init_47 nf_Mo rfl rfl (by decide +kernel) rfl rfl ((hf 47).trans (by decide +kernel)) (Nat.le_trans (Nat.le_of_ble_eq_true rfl) (Nat.le_of_eq hn.1.symm)) (Nat.le_trans (Nat.le_of_ble_eq_true rfl) (Nat.le_of_eq hn.2.symm)) rfl ?_
  refine kx_dup (pc := 50) d_Co_init_50 ?_
  refine kx_callIN (pc := 51) (y := I_Mo_init) (o := 47) (np := 0) (st := [.ref 47, .int 3, .ref 16]) (S2 := kS_66) (M2 := kM_12) [] co_Mo_init rfl ini_Mo ki_Mo_init rfl (fun _ h => h.2.2) ⟨by decide +kernel, by decide +kernel, by decide +kernel⟩ rfl (Nat.le_of_ble_eq_true rfl) d_Co_init_51 (Nat.le_of_ble_eq_true rfl) (Nat.le_of_ble_eq_true rfl) ct_Mo_init_3 (by decide +kernel) (by decide +kernel) (by decide +kernel) (fun b h _ => k_sub (by decide +kernel) ((hf b).symm.trans h)) (Nat.le_trans (Nat.le_of_ble_eq_true rfl) (Nat.le_of_eq hn.1.symm)) (Nat.le_trans (Nat.le_of_ble_eq_true rfl) (Nat.le_of_eq hn.2.symm)) ?_
  refine kx_aastM (pc := 54) (i := 16) (ib := 29) (a := 16) (b := 47) (N := 11) (r := [37, 41, 45, 1, 1, 1, 1, 1, 1, 1, 1]) (rb := [50, 51, 52, 0, 0, 0, 0]) (S' := kS_67) d_Co_init_54 (by decide +kernel) (by decide +kernel) (by unfold vp_in; decide) (by decide) rfl ?_
  refine kx_iinc (pc := 55) 4 (L' := [some (.ref 15), some (.ref 1), some (.ref 4), some (.ref 10), some (.int 4)]) rfl (Nat.le_of_ble_eq_true rfl) (Or.inr rfl) d_Co_init_55 rfl ?_
  refine kx_goto (pc := 58) 31 d_Co_init_58 (by decide) ?_
  refine kx_iload (pc := 31) 4 rfl d_Co_init_31 ?_
  refine kx_aload_n (pc := 33) 0 rfl d_Co_init_33 ?_
  refine kx_getR (pc := 34) (i := 15) (a := 15) (b := 16) (r := [3, 6, 12, 18]) gf_Co_25 d_Co_init_34 (by decide +kernel) rfl ?_
  refine kx_alen (pc := 37) (i := 16) (a := 16) (N := 11) (r := [37, 41, 45, 49, 1, 1, 1, 1, 1, 1, 1]) (v := 11) d_Co_init_37 (by decide +kernel) rfl ?_
  refine kx_ige_f (pc := 38) 61 d_Co_init_38 (by decide) (by decide) ?_
  refine kx_aload_n (pc := 41) 0 rfl d_Co_init_41 ?_
  refine kx_getR (pc := 42) (i := 15) (a := 15) (b := 16) (r := [3, 6, 12, 18]) gf_Co_25 d_Co_init_42 (by decide +kernel) rfl ?_
  refine kx_iload (pc := 45) 4 rfl d_Co_init_45 ?_
  refine kx_new (pc := 47) (a := 51) (r := [1, 1, 1, 0, 0, 0, 0]) (S' := kS_68) cf_Mo kl_Co_23 kn_Mo ini_Mo d_Co_init_47 nf_Mo rfl rfl (by decide +kernel) rfl rfl ((hf 51).trans (by decide +kernel)) (Nat.le_trans (Nat.le_of_ble_eq_true rfl) (Nat.le_of_eq hn.1.symm)) (Nat.le_trans (Nat.le_of_ble_eq_true rfl) (Nat.le_of_eq hn.2.symm)) rfl ?_
  refine kx_dup (pc := 50) d_Co_init_50 ?_
  refine kx_callIN (pc := 51) (y := I_Mo_init) (o := 51) (np := 0) (st := [.ref 51, .int 4, .ref 16]) (S2 := kS_74) (M2 := kM_12) [] co_Mo_init rfl ini_Mo ki_Mo_init rfl (fun _ h => h.2.2) ⟨by decide +kernel, by decide +kernel, by decide +kernel⟩ rfl (Nat.le_of_ble_eq_true rfl) d_Co_init_51 (Nat.le_of_ble_eq_true rfl) (Nat.le_of_ble_eq_true rfl) ct_Mo_init_4 (by decide +kernel) (by decide +kernel) (by decide +kernel) (fun b h _ => k_sub (by decide +kernel) ((hf b).symm.trans h)) (Nat.le_trans (Nat.le_of_ble_eq_true rfl) (Nat.le_of_eq hn.1.symm)) (Nat.le_trans (Nat.le_of_ble_eq_true rfl) (Nat.le_of_eq hn.2.symm)) ?_
  refine kx_aastM (pc := 54) (i := 16) (ib := 33) (a := 16) (b := 51) (N := 11) (r := [37, 41, 45, 49, 1, 1, 1, 1, 1, 1, 1]) (rb := [54, 55, 56, 0, 0, 0, 0]) (S' := kS_75) d_Co_init_54 (by decide +kernel) (by decide +kernel) (by unfold vp_in; decide) (by decide) rfl ?_
  refine kx_iinc (pc := 55) 4 (L' := [some (.ref 15), some (.ref 1), some (.ref 4), some (.ref 10), some (.int 5)]) rfl (Nat.le_of_ble_eq_true rfl) (Or.inr rfl) d_Co_init_55 rfl ?_
  refine kx_goto (pc := 58) 31 d_Co_init_58 (by decide) ?_
  refine kx_iload (pc := 31) 4 rfl d_Co_init_31 ?_
  refine kx_aload_n (pc := 33) 0 rfl d_Co_init_33 ?_
  refine kx_getR (pc := 34) (i := 15) (a := 15) (b := 16) (r := [3, 6, 12, 18]) gf_Co_25 d_Co_init_34 (by decide +kernel) rfl ?_
  refine kx_alen (pc := 37) (i := 16) (a := 16) (N := 11) (r := [37, 41, 45, 49, 53, 1, 1, 1, 1, 1, 1]) (v := 11) d_Co_init_37 (by decide +kernel) rfl ?_
  refine kx_ige_f (pc := 38) 61 d_Co_init_38 (by decide) (by decide) ?_
  refine kx_aload_n (pc := 41) 0 rfl d_Co_init_41 ?_
  refine kx_getR (pc := 42) (i := 15) (a := 15) (b := 16) (r := [3, 6, 12, 18]) gf_Co_25 d_Co_init_42 (by decide +kernel) rfl ?_
  refine kx_iload (pc := 45) 4 rfl d_Co_init_45 ?_
  refine kx_new (pc := 47) (a := 55) (r := [1, 1, 1, 0, 0, 0, 0]) (S' := kS_76) cf_Mo kl_Co_23 kn_Mo ini_Mo d_Co_init_47 nf_Mo rfl rfl (by decide +kernel) rfl rfl ((hf 55).trans (by decide +kernel)) (Nat.le_trans (Nat.le_of_ble_eq_true rfl) (Nat.le_of_eq hn.1.symm)) (Nat.le_trans (Nat.le_of_ble_eq_true rfl) (Nat.le_of_eq hn.2.symm)) rfl ?_
  refine kx_dup (pc := 50) d_Co_init_50 ?_
  refine kx_callIN (pc := 51) (y := I_Mo_init) (o := 55) (np := 0) (st := [.ref 55, .int 5, .ref 16]) (S2 := kS_82) (M2 := kM_12) [] co_Mo_init rfl ini_Mo ki_Mo_init rfl (fun _ h => h.2.2) ⟨by decide +kernel, by decide +kernel, by decide +kernel⟩ rfl (Nat.le_of_ble_eq_true rfl) d_Co_init_51 (Nat.le_of_ble_eq_true rfl) (Nat.le_of_ble_eq_true rfl) ct_Mo_init_5 (by decide +kernel) (by decide +kernel) (by decide +kernel) (fun b h _ => k_sub (by decide +kernel) ((hf b).symm.trans h)) (Nat.le_trans (Nat.le_of_ble_eq_true rfl) (Nat.le_of_eq hn.1.symm)) (Nat.le_trans (Nat.le_of_ble_eq_true rfl) (Nat.le_of_eq hn.2.symm)) ?_
  refine kx_aastM (pc := 54) (i := 16) (ib := 37) (a := 16) (b := 55) (N := 11) (r := [37, 41, 45, 49, 53, 1, 1, 1, 1, 1, 1]) (rb := [58, 59, 60, 0, 0, 0, 0]) (S' := kS_83) d_Co_init_54 (by decide +kernel) (by decide +kernel) (by unfold vp_in; decide) (by decide) rfl ?_
  refine kx_iinc (pc := 55) 4 (L' := [some (.ref 15), some (.ref 1), some (.ref 4), some (.ref 10), some (.int 6)]) rfl (Nat.le_of_ble_eq_true rfl) (Or.inr rfl) d_Co_init_55 rfl ?_
  refine kx_goto (pc := 58) 31 d_Co_init_58 (by decide) ?_
  refine kx_iload (pc := 31) 4 rfl d_Co_init_31 ?_
  refine kx_aload_n (pc := 33) 0 rfl d_Co_init_33 ?_
  refine kx_getR (pc := 34) (i := 15) (a := 15) (b := 16) (r := [3, 6, 12, 18]) gf_Co_25 d_Co_init_34 (by decide +kernel) rfl ?_
  refine kx_alen (pc := 37) (i := 16) (a := 16) (N := 11) (r := [37, 41, 45, 49, 53, 57, 1, 1, 1, 1, 1]) (v := 11) d_Co_init_37 (by decide +kernel) rfl ?_
  refine kx_ige_f (pc := 38) 61 d_Co_init_38 (by decide) (by decide) ?_
  refine kx_aload_n (pc := 41) 0 rfl d_Co_init_41 ?_
  refine kx_getR (pc := 42) (i := 15) (a := 15) (b := 16) (r := [3, 6, 12, 18]) gf_Co_25 d_Co_init_42 (by decide +kernel) rfl ?_
  refine kx_iload (pc := 45) 4 rfl d_Co_init_45 ?_
  refine kx_new (pc := 47) (a := 59) (r := [1, 1, 1, 0, 0, 0, 0]) (S' := kS_84) cf_Mo kl_Co_23 kn_Mo ini_Mo d_Co_init_47 nf_Mo rfl rfl (by decide +kernel) rfl rfl ((hf 59).trans (by decide +kernel)) (Nat.le_trans (Nat.le_of_ble_eq_true rfl) (Nat.le_of_eq hn.1.symm)) (Nat.le_trans (Nat.le_of_ble_eq_true rfl) (Nat.le_of_eq hn.2.symm)) rfl ?_
  refine kx_dup (pc := 50) d_Co_init_50 ?_
  refine kx_callIN (pc := 51) (y := I_Mo_init) (o := 59) (np := 0) (st := [.ref 59, .int 6, .ref 16]) (S2 := kS_90) (M2 := kM_12) [] co_Mo_init rfl ini_Mo ki_Mo_init rfl (fun _ h => h.2.2) ⟨by decide +kernel, by decide +kernel, by decide +kernel⟩ rfl (Nat.le_of_ble_eq_true rfl) d_Co_init_51 (Nat.le_of_ble_eq_true rfl) (Nat.le_of_ble_eq_true rfl) ct_Mo_init_6 (by decide +kernel) (by decide +kernel) (by decide +kernel) (fun b h _ => k_sub (by decide +kernel) ((hf b).symm.trans h)) (Nat.le_trans (Nat.le_of_ble_eq_true rfl) (Nat.le_of_eq hn.1.symm)) (Nat.le_trans (Nat.le_of_ble_eq_true rfl) (Nat.le_of_eq hn.2.symm)) ?_
  refine kx_aastM (pc := 54) (i := 16) (ib := 41) (a := 16) (b := 59) (N := 11) (r := [37, 41, 45, 49, 53, 57, 1, 1, 1, 1, 1]) (rb := [62, 63, 64, 0, 0, 0, 0]) (S' := kS_91) d_Co_init_54 (by decide +kernel) (by decide +kernel) (by unfold vp_in; decide) (by decide) rfl ?_
  refine kx_iinc (pc := 55) 4 (L' := [some (.ref 15), some (.ref 1), some (.ref 4), some (.ref 10), some (.int 7)]) rfl (Nat.le_of_ble_eq_true rfl) (Or.inr rfl) d_Co_init_55 rfl ?_
  refine kx_goto (pc := 58) 31 d_Co_init_58 (by decide) ?_
  refine kx_iload (pc := 31) 4 rfl d_Co_init_31 ?_
  refine kx_aload_n (pc := 33) 0 rfl d_Co_init_33 ?_
  refine kx_getR (pc := 34) (i := 15) (a := 15) (b := 16) (r := [3, 6, 12, 18]) gf_Co_25 d_Co_init_34 (by decide +kernel) rfl ?_
  refine kx_alen (pc := 37) (i := 16) (a := 16) (N := 11) (r := [37, 41, 45, 49, 53, 57, 61, 1, 1, 1, 1]) (v := 11) d_Co_init_37 (by decide +kernel) rfl ?_
  refine kx_ige_f (pc := 38) 61 d_Co_init_38 (by decide) (by decide) ?_
  refine kx_aload_n (pc := 41) 0 rfl d_Co_init_41 ?_
  refine kx_getR (pc := 42) (i := 15) (a := 15) (b := 16) (r := [3, 6, 12, 18]) gf_Co_25 d_Co_init_42 (by decide +kernel) rfl ?_
  refine kx_iload (pc := 45) 4 rfl d_Co_init_45 ?_
  refine kx_new (pc := 47) (a := 63) (r := [1, 1, 1, 0, 0, 0, 0]) (S' := kS_92) cf_Mo kl_Co_23 kn_Mo ini_Mo d_Co_init_47 nf_Mo rfl rfl (by decide +kernel) rfl rfl ((hf 63).trans (by decide +kernel)) (Nat.le_trans (Nat.le_of_ble_eq_true rfl) (Nat.le_of_eq hn.1.symm)) (Nat.le_trans (Nat.le_of_ble_eq_true rfl) (Nat.le_of_eq hn.2.symm)) rfl ?_
  refine kx_dup (pc := 50) d_Co_init_50 ?_
  refine kx_callIN (pc := 51) (y := I_Mo_init) (o := 63) (np := 0) (st := [.ref 63, .int 7, .ref 16]) (S2 := kS_98) (M2 := kM_12) [] co_Mo_init rfl ini_Mo ki_Mo_init rfl (fun _ h => h.2.2) ⟨by decide +kernel, by decide +kernel, by decide +kernel⟩ rfl (Nat.le_of_ble_eq_true rfl) d_Co_init_51 (Nat.le_of_ble_eq_true rfl) (Nat.le_of_ble_eq_true rfl) ct_Mo_init_7 (by decide +kernel) (by decide +kernel) (by decide +kernel) (fun b h _ => k_sub (by decide +kernel) ((hf b).symm.trans h)) (Nat.le_trans (Nat.le_of_ble_eq_true rfl) (Nat.le_of_eq hn.1.symm)) (Nat.le_trans (Nat.le_of_ble_eq_true rfl) (Nat.le_of_eq hn.2.symm)) ?_
  refine kx_aastM (pc := 54) (i := 16) (ib := 45) (a := 16) (b := 63) (N := 11) (r := [37, 41, 45, 49, 53, 57, 61, 1, 1, 1, 1]) (rb := [66, 67, 68, 0, 0, 0, 0]) (S' := kS_99) d_Co_init_54 (by decide +kernel) (by decide +kernel) (by unfold vp_in; decide) (by decide) rfl ?_
  refine kx_iinc (pc := 55) 4 (L' := [some (.ref 15), some (.ref 1), some (.ref 4), some (.ref 10), some (.int 8)]) rfl (Nat.le_of_ble_eq_true rfl) (Or.inr rfl) d_Co_init_55 rfl ?_
  refine kx_goto (pc := 58) 31 d_Co_init_58 (by decide) ?_
  refine kx_iload (pc := 31) 4 rfl d_Co_init_31 ?_
  refine kx_aload_n (pc := 33) 0 rfl d_Co_init_33 ?_
  refine kx_getR (pc := 34) (i := 15) (a := 15) (b := 16) (r := [3, 6, 12, 18]) gf_Co_25 d_Co_init_34 (by decide +kernel) rfl ?_
  refine kx_alen (pc := 37) (i := 16) (a := 16) (N := 11) (r := [37, 41, 45, 49, 53, 57, 61, 65, 1, 1, 1]) (v := 11) d_Co_init_37 (by decide +kernel) rfl ?_
  refine kx_ige_f (pc := 38) 61 d_Co_init_38 (by decide) (by decide) ?_
  refine kx_aload_n (pc := 41) 0 rfl d_Co_init_41 ?_
  refine kx_getR (pc := 42) (i := 15) (a := 15) (b := 16) (r := [3, 6, 12, 18]) gf_Co_25 d_Co_init_42 (by decide +kernel) rfl ?_
  refine kx_iload (pc := 45) 4 rfl d_Co_init_45 ?_
  refine kx_new (pc := 47) (a := 67) (r := [1, 1, 1, 0, 0, 0, 0]) (S' := kS_100) cf_Mo kl_Co_23 kn_Mo ini_Mo d_Co_init_47 nf_Mo rfl rfl (by decide +kernel) rfl rfl ((hf 67).trans (by decide +kernel)) (Nat.le_trans (Nat.le_of_ble_eq_true rfl) (Nat.le_of_eq hn.1.symm)) (Nat.le_trans (Nat.le_of_ble_eq_true rfl) (Nat.le_of_eq hn.2.symm)) rfl ?_
  refine kx_dup (pc := 50) d_Co_init_50 ?_
  refine kx_callIN (pc := 51) (y := I_Mo_init) (o := 67) (np := 0) (st := [.ref 67, .int 8, .ref 16]) (S2 := kS_106) (M2 := kM_12) [] co_Mo_init rfl ini_Mo ki_Mo_init rfl (fun _ h => h.2.2) ⟨by decide +kernel, by decide +kernel, by decide +kernel⟩ rfl (Nat.le_of_ble_eq_true rfl) d_Co_init_51 (Nat.le_of_ble_eq_true rfl) (Nat.le_of_ble_eq_true rfl) ct_Mo_init_8 (by decide +kernel) (by decide +kernel) (by decide +kernel) (fun b h _ => k_sub (by decide +kernel) ((hf b).symm.trans h)) (Nat.le_trans (Nat.le_of_ble_eq_true rfl) (Nat.le_of_eq hn.1.symm)) (Nat.le_trans (Nat.le_of_ble_eq_true rfl) (Nat.le_of_eq hn.2.symm)) ?_
  refine kx_aastM (pc := 54) (i := 16) (ib := 49) (a := 16) (b := 67) (N := 11) (r := [37, 41, 45, 49, 53, 57, 61, 65, 1, 1, 1]) (rb := [70, 71, 72, 0, 0, 0, 0]) (S' := kS_107) d_Co_init_54 (by decide +kernel) (by decide +kernel) (by unfold vp_in; decide) (by decide) rfl ?_
  refine kx_iinc (pc := 55) 4 (L' := [some (.ref 15), some (.ref 1), some (.ref 4), some (.ref 10), some (.int 9)]) rfl (Nat.le_of_ble_eq_true rfl) (Or.inr rfl) d_Co_init_55 rfl ?_
  refine kx_goto (pc := 58) 31 d_Co_init_58 (by decide) ?_
  refine kx_iload (pc := 31) 4 rfl d_Co_init_31 ?_
  refine kx_aload_n (pc := 33) 0 rfl d_Co_init_33 ?_
  refine kx_getR (pc := 34) (i := 15) (a := 15) (b := 16) (r := [3, 6, 12, 18]) gf_Co_25 d_Co_init_34 (by decide +kernel) rfl ?_
  refine kx_alen (pc := 37) (i := 16) (a := 16) (N := 11) (r := [37, 41, 45, 49, 53, 57, 61, 65, 69, 1, 1]) (v := 11) d_Co_init_37 (by decide +kernel) rfl ?_
  refine kx_ige_f (pc := 38) 61 d_Co_init_38 (by decide) (by decide) ?_
  refine kx_aload_n (pc := 41) 0 rfl d_Co_init_41 ?_
  refine kx_getR (pc := 42) (i := 15) (a := 15) (b := 16) (r := [3, 6, 12, 18]) gf_Co_25 d_Co_init_42 (by decide +kernel) rfl ?_
  refine kx_iload (pc := 45) 4 rfl d_Co_init_45 ?_
  refine kx_new (pc := 47) (a := 71) (r := [1, 1, 1, 0, 0, 0, 0]) (S' := kS_108) cf_Mo kl_Co_23 kn_Mo ini_Mo d_Co_init_47 nf_Mo rfl rfl (by decide +kernel) rfl rfl ((hf 71).trans (by decide +kernel)) (Nat.le_trans (Nat.le_of_ble_eq_true rfl) (Nat.le_of_eq hn.1.symm)) (Nat.le_trans (Nat.le_of_ble_eq_true rfl) (Nat.le_of_eq hn.2.symm)) rfl ?_
  refine kx_dup (pc := 50) d_Co_init_50 ?_
  refine kx_callIN (pc := 51) (y := I_Mo_init) (o := 71) (np := 0) (st := [.ref 71, .int 9, .ref 16]) (S2 := kS_114) (M2 := kM_12) [] co_Mo_init rfl ini_Mo ki_Mo_init rfl (fun _ h => h.2.2) ⟨by decide +kernel, by decide +kernel, by decide +kernel⟩ rfl (Nat.le_of_ble_eq_true rfl) d_Co_init_51 (Nat.le_of_ble_eq_true rfl) (Nat.le_of_ble_eq_true rfl) ct_Mo_init_9 (by decide +kernel) (by decide +kernel) (by decide +kernel) (fun b h _ => k_sub (by decide +kernel) ((hf b).symm.trans h)) (Nat.le_trans (Nat.le_of_ble_eq_true rfl) (Nat.le_of_eq hn.1.symm)) (Nat.le_trans (Nat.le_of_ble_eq_true rfl) (Nat.le_of_eq hn.2.symm)) ?_
  refine kx_aastM (pc := 54) (i := 16) (ib := 53) (a := 16) (b := 71) (N := 11) (r := [37, 41, 45, 49, 53, 57, 61, 65, 69, 1, 1]) (rb := [74, 75, 76, 0, 0, 0, 0]) (S' := kS_115) d_Co_init_54 (by decide +kernel) (by decide +kernel) (by unfold vp_in; decide) (by decide) rfl ?_
  refine kx_iinc (pc := 55) 4 (L' := [some (.ref 15), some (.ref 1), some (.ref 4), some (.ref 10), some (.int 10)]) rfl (Nat.le_of_ble_eq_true rfl) (Or.inr rfl) d_Co_init_55 rfl ?_
  refine kx_goto (pc := 58) 31 d_Co_init_58 (by decide) ?_
  refine kx_iload (pc := 31) 4 rfl d_Co_init_31 ?_
  refine kx_aload_n (pc := 33) 0 rfl d_Co_init_33 ?_
  refine kx_getR (pc := 34) (i := 15) (a := 15) (b := 16) (r := [3, 6, 12, 18]) gf_Co_25 d_Co_init_34 (by decide +kernel) rfl ?_
  refine kx_alen (pc := 37) (i := 16) (a := 16) (N := 11) (r := [37, 41, 45, 49, 53, 57, 61, 65, 69, 73, 1]) (v := 11) d_Co_init_37 (by decide +kernel) rfl ?_
  refine kx_ige_f (pc := 38) 61 d_Co_init_38 (by decide) (by decide) ?_
  refine kx_aload_n (pc := 41) 0 rfl d_Co_init_41 ?_
  refine kx_getR (pc := 42) (i := 15) (a := 15) (b := 16) (r := [3, 6, 12, 18]) gf_Co_25 d_Co_init_42 (by decide +kernel) rfl ?_
  refine kx_iload (pc := 45) 4 rfl d_Co_init_45 ?_
  refine kx_new (pc := 47) (a := 75) (r := [1, 1, 1, 0, 0, 0, 0]) (S' := kS_116) cf_Mo kl_Co_23 kn_Mo ini_Mo d_Co_init_47 nf_Mo rfl rfl (by decide +kernel) rfl rfl ((hf 75).trans (by decide +kernel)) (Nat.le_trans (Nat.le_of_ble_eq_true rfl) (Nat.le_of_eq hn.1.symm)) (Nat.le_trans (Nat.le_of_ble_eq_true rfl) (Nat.le_of_eq hn.2.symm)) rfl ?_
  refine kx_dup (pc := 50) d_Co_init_50 ?_
  refine kx_callIN (pc := 51) (y := I_Mo_init) (o := 75) (np := 0) (st := [.ref 75, .int 10, .ref 16]) (S2 := kS_122) (M2 := kM_12) [] co_Mo_init rfl ini_Mo ki_Mo_init rfl (fun _ h => h.2.2) ⟨by decide +kernel, by decide +kernel, by decide +kernel⟩ rfl (Nat.le_of_ble_eq_true rfl) d_Co_init_51 (Nat.le_of_ble_eq_true rfl) (Nat.le_of_ble_eq_true rfl) ct_Mo_init_10 (by decide +kernel) (by decide +kernel) (by decide +kernel) (fun b h _ => k_sub (by decide +kernel) ((hf b).symm.trans h)) (Nat.le_trans (Nat.le_of_ble_eq_true rfl) (Nat.le_of_eq hn.1.symm)) (Nat.le_trans (Nat.le_of_ble_eq_true rfl) (Nat.le_of_eq hn.2.symm)) ?_
  refine kx_aastM (pc := 54) (i := 16) (ib := 57) (a := 16) (b := 75) (N := 11) (r := [37, 41, 45, 49, 53, 57, 61, 65, 69, 73, 1]) (rb := [78, 79, 80, 0, 0, 0, 0]) (S' := kS_123) d_Co_init_54 (by decide +kernel) (by decide +kernel) (by unfold vp_in; decide) (by decide) rfl ?_
  refine kx_iinc (pc := 55) 4 (L' := [some (.ref 15), some (.ref 1), some (.ref 4), some (.ref 10), some (.int 11)]) rfl (Nat.le_of_ble_eq_true rfl) (Or.inr rfl) d_Co_init_55 rfl ?_
  refine kx_goto (pc := 58) 31 d_Co_init_58 (by decide) ?_
  refine kx_iload (pc := 31) 4 rfl d_Co_init_31 ?_
  refine kx_aload_n (pc := 33) 0 rfl d_Co_init_33 ?_
  refine kx_getR (pc := 34) (i := 15) (a := 15) (b := 16) (r := [3, 6, 12, 18]) gf_Co_25 d_Co_init_34 (by decide +kernel) rfl ?_
  refine kx_alen (pc := 37) (i := 16) (a := 16) (N := 11) (r := [37, 41, 45, 49, 53, 57, 61, 65, 69, 73, 77]) (v := 11) d_Co_init_37 (by decide +kernel) rfl ?_
  refine kx_ige_t (pc := 38) 61 d_Co_init_38 (by decide) (by decide) ?_
  exact kx_ret (pc := 61) hX rfl d_Co_init_61 rfl rfl
set_option maxRecDepth 20000 in
theorem ct_Se_clear : k_Ct 0 0 0 I_Se_clear [.ref 17] kS_127 kS_127 kM_12 kM_45 := by
  refine k_met (by decide +kernel) co_Se_clear (Nat.le_of_ble_eq_true rfl) (fun X hX => ?_)
  have hf := hX.f
  have hn := hX.n
  show k_W 0 I_Se_clear X 0 [some (.ref 17), none] [] kM_12 kS_127 0 0
  refine kx_aload_n (pc := 0) 0 rfl d_Se_clear_0 ?_
  refine kx_iconst (pc := 1) (v := 0) d_Se_clear_1 (by decide) ?_
  refine kx_putT (pc := 2) (i := 61) (a := 17) (r := [20, 0, 0, 0]) (M' := kM_13) pf_Se_18 rfl rfl d_Se_clear_2 (by decide +kernel) rfl rfl ?_
  refine kx_aload_n (pc := 5) 0 rfl d_Se_clear_5 ?_
  refine kx_iconst (pc := 6) (v := (-1)) d_Se_clear_6 (by decide) ?_
  refine kx_putT (pc := 7) (i := 61) (a := 17) (r := [20, 0, 0, 0]) (M' := kM_14) pf_Se_22 rfl rfl d_Se_clear_7 (by decide +kernel) rfl rfl ?_
  refine kx_aload_n (pc := 10) 0 rfl d_Se_clear_10 ?_
  refine kx_iconst (pc := 11) (v := 0) d_Se_clear_11 (by decide) ?_
  refine kx_putT (pc := 12) (i := 61) (a := 17) (r := [20, 0, 0, 0]) (M' := kM_15) pf_Se_25 rfl rfl d_Se_clear_12 (by decide +kernel) rfl rfl ?_
  refine kx_iconst (pc := 15) (v := 0) d_Se_clear_15 (by decide) ?_
  refine kx_istore_n (pc := 16) 1 (L' := [some (.ref 17), some (.int 0)]) (Nat.le_of_ble_eq_true rfl) (Or.inr rfl) d_Se_clear_16 rfl ?_
  refine kx_iload_n (pc := 17) 1 rfl d_Se_clear_17 ?_
  refine kx_bipush (pc := 18) (v := 30) d_Se_clear_18 (by decide) ?_
  refine kx_ige_f (pc := 20) 37 d_Se_clear_20 (by decide) (by decide) ?_
  refine kx_aload_n (pc := 23) 0 rfl d_Se_clear_23 ?_
  refine kx_getR (pc := 24) (i := 61) (a := 17) (b := 18) (r := [20, 0, 0, 0]) gf_Se_9 d_Se_clear_24 (by decide +kernel) rfl ?_
  refine kx_iload_n (pc := 27) 1 rfl d_Se_clear_27 ?_
  refine kx_bipush (pc := 28) (v := (-2)) d_Se_clear_28 (by decide) ?_
  refine kx_iast (pc := 30) (i := 62) (a := 18) (N := 30) (M' := kM_16) d_Se_clear_30 (by decide +kernel) (by unfold vp_in; decide) rfl ?_
  refine kx_iinc (pc := 31) 1 (L' := [some (.ref 17), some (.int 1)]) rfl (Nat.le_of_ble_eq_true rfl) (Or.inr rfl) d_Se_clear_31 rfl ?_
  refine kx_goto (pc := 34) 17 d_Se_clear_34 (by decide) ?_
  refine kx_iload_n (pc := 17) 1 rfl d_Se_clear_17 ?_
  refine kx_bipush (pc := 18) (v := 30) d_Se_clear_18 (by decide) ?_
  refine kx_ige_f (pc := 20) 37 d_Se_clear_20 (by decide) (by decide) ?_
  refine kx_aload_n (pc := 23) 0 rfl d_Se_clear_23 ?_
  refine kx_getR (pc := 24) (i := 61) (a := 17) (b := 18) (r := [20, 0, 0, 0]) gf_Se_9 d_Se_clear_24 (by decide +kernel) rfl ?_
  refine kx_iload_n (pc := 27) 1 rfl d_Se_clear_27 ?_
  refine kx_bipush (pc := 28) (v := (-2)) d_Se_clear_28 (by decide) ?_
  refine kx_iast (pc := 30) (i := 62) (a := 18) (N := 30) (M' := kM_17) d_Se_clear_30 (by decide +kernel) (by unfold vp_in; decide) rfl ?_
  refine kx_iinc (pc := 31) 1 (L' := [some (.ref 17), some (.int 2)]) rfl (Nat.le_of_ble_eq_true rfl) (Or.inr rfl) d_Se_clear_31 rfl ?_
  refine kx_goto (pc := 34) 17 d_Se_clear_34 (by decide) ?_
  refine kx_iload_n (pc := 17) 1 rfl d_Se_clear_17 ?_
  refine kx_bipush (pc := 18) (v := 30) d_Se_clear_18 (by decide) ?_
  refine kx_ige_f (pc := 20) 37 d_Se_clear_20 (by decide) (by decide) ?_
  refine kx_aload_n (pc := 23) 0 rfl d_Se_clear_23 ?_
  refine kx_getR (pc := 24) (i := 61) (a := 17) (b := 18) (r := [20, 0, 0, 0]) gf_Se_9 d_Se_clear_24 (by decide +kernel) rfl ?_
  refine kx_iload_n (pc := 27) 1 rfl d_Se_clear_27 ?_
  refine kx_bipush (pc := 28) (v := (-2)) d_Se_clear_28 (by decide) ?_
  refine kx_iast (pc := 30) (i := 62) (a := 18) (N := 30) (M' := kM_18) d_Se_clear_30 (by decide +kernel) (by unfold vp_in; decide) rfl ?_
  refine kx_iinc (pc := 31) 1 (L' := [some (.ref 17), some (.int 3)]) rfl (Nat.le_of_ble_eq_true rfl) (Or.inr rfl) d_Se_clear_31 rfl ?_
  refine kx_goto (pc := 34) 17 d_Se_clear_34 (by decide) ?_
  refine kx_iload_n (pc := 17) 1 rfl d_Se_clear_17 ?_
  refine kx_bipush (pc := 18) (v := 30) d_Se_clear_18 (by decide) ?_
  refine kx_ige_f (pc := 20) 37 d_Se_clear_20 (by decide) (by decide) ?_
  refine kx_aload_n (pc := 23) 0 rfl d_Se_clear_23 ?_
  refine kx_getR (pc := 24) (i := 61) (a := 17) (b := 18) (r := [20, 0, 0, 0]) gf_Se_9 d_Se_clear_24 (by decide +kernel) rfl ?_
  refine kx_iload_n (pc := 27) 1 rfl d_Se_clear_27 ?_
  refine kx_bipush (pc := 28) (v := (-2)) d_Se_clear_28 (by decide) ?_
  refine kx_iast (pc := 30) (i := 62) (a := 18) (N := 30) (M' := kM_19) d_Se_clear_30 (by decide +kernel) (by unfold vp_in; decide) rfl ?_
  refine kx_iinc (pc := 31) 1 (L' := [some (.ref 17), some (.int 4)]) rfl (Nat.le_of_ble_eq_true rfl) (Or.inr rfl) d_Se_clear_31 rfl ?_
  refine kx_goto (pc := 34) 17 d_Se_clear_34 (by decide) ?_
  refine kx_iload_n (pc := 17) 1 rfl d_Se_clear_17 ?_
  refine kx_bipush (pc := 18) (v := 30) d_Se_clear_18 (by decide) ?_
  refine kx_ige_f (pc := 20) 37 d_Se_clear_20 (by decide) (by decide) ?_
  refine kx_aload_n (pc := 23) 0 rfl d_Se_clear_23 ?_
  refine kx_getR (pc := 24) (i := 61) (a := 17) (b := 18) (r := [20, 0, 0, 0]) gf_Se_9 d_Se_clear_24 (by decide +kernel) rfl ?_
  refine kx_iload_n (pc := 27) 1 rfl d_Se_clear_27 ?_
  refine kx_bipush (pc := 28) (v := (-2)) d_Se_clear_28 (by decide) ?_
  refine kx_iast (pc := 30) (i := 62) (a := 18) (N := 30) (M' := kM_20) d_Se_clear_30 (by decide +kernel) (by unfold vp_in; decide) rfl ?_
  refine kx_iinc (pc := 31) 1 (L' := [some (.ref 17), some (.int 5)]) rfl (Nat.le_of_ble_eq_true rfl) (Or.inr rfl) d_Se_clear_31 rfl ?_
  refine kx_goto (pc := 34) 17 d_Se_clear_34 (by decide) ?_
  refine kx_iload_n (pc := 17) 1 rfl d_Se_clear_17 ?_
  refine kx_bipush (pc := 18) (v := 30) d_Se_clear_18 (by decide) ?_
  refine kx_ige_f (pc := 20) 37 d_Se_clear_20 (by decide) (by decide) ?_
  refine kx_aload_n (pc := 23) 0 rfl d_Se_clear_23 ?_
  refine kx_getR (pc := 24) (i := 61) (a := 17) (b := 18) (r := [20, 0, 0, 0]) gf_Se_9 d_Se_clear_24 (by decide +kernel) rfl ?_
  refine kx_iload_n (pc := 27) 1 rfl d_Se_clear_27 ?_
  refine kx_bipush (pc := 28) (v := (-2)) d_Se_clear_28 (by decide) ?_
  refine kx_iast (pc := 30) (i := 62) (a := 18) (N := 30) (M' := kM_21) d_Se_clear_30 (by decide +kernel) (by unfold vp_in; decide) rfl ?_
  refine kx_iinc (pc := 31) 1 (L' := [some (.ref 17), some (.int 6)]) rfl (Nat.le_of_ble_eq_true rfl) (Or.inr rfl) d_Se_clear_31 rfl ?_
  refine kx_goto (pc := 34) 17 d_Se_clear_34 (by decide) ?_
  refine kx_iload_n (pc := 17) 1 rfl d_Se_clear_17 ?_
  refine kx_bipush (pc := 18) (v := 30) d_Se_clear_18 (by decide) ?_
  refine kx_ige_f (pc := 20) 37 d_Se_clear_20 (by decide) (by decide) ?_
  refine kx_aload_n (pc := 23) 0 rfl d_Se_clear_23 ?_
  refine kx_getR (pc := 24) (i := 61) (a := 17) (b := 18) (r := [20, 0, 0, 0]) gf_Se_9 d_Se_clear_24 (by decide +kernel) rfl ?_
  refine kx_iload_n (pc := 27) 1 rfl d_Se_clear_27 ?_
  refine kx_bipush (pc := 28) (v := (-2)) d_Se_clear_28 (by decide) ?_
  refine kx_iast (pc := 30) (i := 62) (a := 18) (N := 30) (M' := kM_22) d_Se_clear_30 (by decide +kernel) (by unfold vp_in; decide) rfl ?_
  refine kx_iinc (pc := 31) 1 (L' := [some (.ref 17), some (.int 7)]) rfl (Nat.le_of_ble_eq_true rfl) (Or.inr rfl) d_Se_clear_31 rfl ?_
  refine kx_goto (pc := 34) 17 d_Se_clear_34 (by decide) ?_
  refine kx_iload_n (pc := 17) 1 rfl d_Se_clear_17 ?_
  refine kx_bipush (pc := 18) (v := 30) d_Se_clear_18 (by decide) ?_
  refine kx_ige_f (pc := 20) 37 d_Se_clear_20 (by decide) (by decide) ?_
  refine kx_aload_n (pc := 23) 0 rfl d_Se_clear_23 ?_
  refine kx_getR (pc := 24) (i := 61) (a := 17) (b := 18) (r := [20, 0, 0, 0]) gf_Se_9 d_Se_clear_24 (by decide +kernel) rfl ?_
  refine kx_iload_n (pc := 27) 1 rfl d_Se_clear_27 ?_
  refine kx_bipush (pc := 28) (v := (-2)) d_Se_clear_28 (by decide) ?_
  refine kx_iast (pc := 30) (i := 62) (a := 18) (N := 30) (M' := kM_23) d_Se_clear_30 (by decide +kernel) (by unfold vp_in; decide) rfl ?_
  refine kx_iinc (pc := 31) 1 (L' := [some (.ref 17), some (.int 8)]) rfl (Nat.le_of_ble_eq_true rfl) (Or.inr rfl) d_Se_clear_31 rfl ?_
  refine kx_goto (pc := 34) 17 d_Se_clear_34 (by decide) ?_
  refine kx_iload_n (pc := 17) 1 rfl d_Se_clear_17 ?_
  refine kx_bipush (pc := 18) (v := 30) d_Se_clear_18 (by decide) ?_
  refine kx_ige_f (pc := 20) 37 d_Se_clear_20 (by decide) (by decide) ?_
  refine kx_aload_n (pc := 23) 0 rfl d_Se_clear_23 ?_
  refine kx_getR (pc := 24) (i := 61) (a := 17) (b := 18) (r := [20, 0, 0, 0]) gf_Se_9 d_Se_clear_24 (by decide +kernel) rfl ?_
  refine kx_iload_n (pc := 27) 1 rfl d_Se_clear_27 ?_
  refine kx_bipush (pc := 28) (v := (-2)) d_Se_clear_28 (by decide) ?_
  refine kx_iast (pc := 30) (i := 62) (a := 18) (N := 30) (M' := kM_24) d_Se_clear_30 (by decide +kernel) (by unfold vp_in; decide) rfl ?_
  refine kx_iinc (pc := 31) 1 (L' := [some (.ref 17), some (.int 9)]) rfl (Nat.le_of_ble_eq_true rfl) (Or.inr rfl) d_Se_clear_31 rfl ?_
  refine kx_goto (pc := 34) 17 d_Se_clear_34 (by decide) ?_
  refine kx_iload_n (pc := 17) 1 rfl d_Se_clear_17 ?_
  refine kx_bipush (pc := 18) (v := 30) d_Se_clear_18 (by decide) ?_
  refine kx_ige_f (pc := 20) 37 d_Se_clear_20 (by decide) (by decide) ?_
  refine kx_aload_n (pc := 23) 0 rfl d_Se_clear_23 ?_
  refine kx_getR (pc := 24) (i := 61) (a := 17) (b := 18) (r := [20, 0, 0, 0]) gf_Se_9 d_Se_clear_24 (by decide +kernel) rfl ?_
  refine kx_iload_n (pc := 27) 1 rfl d_Se_clear_27 ?_
  refine kx_bipush (pc := 28) (v := (-2)) d_Se_clear_28 (by decide) ?_
  refine kx_iast (pc := 30) (i := 62) (a := 18) (N := 30) (M' := kM_25) d_Se_clear_30 (by decide +kernel) (by unfold vp_in; decide) rfl ?_
  refine kx_iinc (pc := 31) 1 (L' := [some (.ref 17), some (.int 10)]) rfl (Nat.le_of_ble_eq_true rfl) (Or.inr rfl) d_Se_clear_31 rfl ?_
  refine kx_goto (pc := 34) 17 d_Se_clear_34 (by decide) ?_
  refine kx_iload_n (pc := 17) 1 rfl d_Se_clear_17 ?_
  refine kx_bipush (pc := 18) (v := 30) d_Se_clear_18 (by decide) ?_
  refine kx_ige_f (pc := 20) 37 d_Se_clear_20 (by decide) (by decide) ?_
  refine kx_aload_n (pc := 23) 0 rfl d_Se_clear_23 ?_
  refine kx_getR (pc := 24) (i := 61) (a := 17) (b := 18) (r := [20, 0, 0, 0]) gf_Se_9 d_Se_clear_24 (by decide +kernel) rfl ?_
  refine kx_iload_n (pc := 27) 1 rfl d_Se_clear_27 ?_
  refine kx_bipush (pc := 28) (v := (-2)) d_Se_clear_28 (by decide) ?_
  refine kx_iast (pc := 30) (i := 62) (a := 18) (N := 30) (M' := kM_26) d_Se_clear_30 (by decide +kernel) (by unfold vp_in; decide) rfl ?_
  refine kx_iinc (pc := 31) 1 (L' := [some (.ref 17), some (.int 11)]) rfl (Nat.le_of_ble_eq_true rfl) (Or.inr rfl) d_Se_clear_31 rfl ?_
  refine kx_goto (pc := 34) 17 d_Se_clear_34 (by decide) ?_
  refine kx_iload_n (pc := 17) 1 rfl d_Se_clear_17 ?_
  refine kx_bipush (pc := 18) (v := 30) d_Se_clear_18 (by decide) ?_
  refine kx_ige_f (pc := 20) 37 d_Se_clear_20 (by decide) (by decide) ?_
  refine kx_aload_n (pc := 23) 0 rfl d_Se_clear_23 ?_
  refine kx_getR (pc := 24) (i := 61) (a := 17) (b := 18) (r := [20, 0, 0, 0]) gf_Se_9 d_Se_clear_24 (by decide +kernel) rfl ?_
  refine kx_iload_n (pc := 27) 1 rfl d_Se_clear_27 ?_
  refine kx_bipush (pc := 28) (v := (-2)) d_Se_clear_28 (by decide) ?_
  refine kx_iast (pc := 30) (i := 62) (a := 18) (N := 30) (M' := kM_27) d_Se_clear_30 (by decide +kernel) (by unfold vp_in; decide) rfl ?_
  refine kx_iinc (pc := 31) 1 (L' := [some (.ref 17), some (.int 12)]) rfl (Nat.le_of_ble_eq_true rfl) (Or.inr rfl) d_Se_clear_31 rfl ?_
  refine kx_goto (pc := 34) 17 d_Se_clear_34 (by decide) ?_
  refine kx_iload_n (pc := 17) 1 rfl d_Se_clear_17 ?_
  refine kx_bipush (pc := 18) (v := 30) d_Se_clear_18 (by decide) ?_
  refine kx_ige_f (pc := 20) 37 d_Se_clear_20 (by decide) (by decide) ?_
  refine kx_aload_n (pc := 23) 0 rfl d_Se_clear_23 ?_
  refine kx_getR (pc := 24) (i := 61) (a := 17) (b := 18) (r := [20, 0, 0, 0]) gf_Se_9 d_Se_clear_24 (by decide +kernel) rfl ?_
  refine kx_iload_n (pc := 27) 1 rfl d_Se_clear_27 ?_
  refine kx_bipush (pc := 28) (v := (-2)) d_Se_clear_28 (by decide) ?_
  refine kx_iast (pc := 30) (i := 62) (a := 18) (N := 30) (M' := kM_28) d_Se_clear_30 (by decide +kernel) (by unfold vp_in; decide) rfl ?_
  refine kx_iinc (pc := 31) 1 (L' := [some (.ref 17), some (.int 13)]) rfl (Nat.le_of_ble_eq_true rfl) (Or.inr rfl) d_Se_clear_31 rfl ?_
  refine kx_goto (pc := 34) 17 d_Se_clear_34 (by decide) ?_
  refine kx_iload_n (pc := 17) 1 rfl d_Se_clear_17 ?_
  refine kx_bipush (pc := 18) (v := 30) d_Se_clear_18 (by decide) ?_
  refine kx_ige_f (pc := 20) 37 d_Se_clear_20 (by decide) (by decide) ?_
  refine kx_aload_n (pc := 23) 0 rfl d_Se_clear_23 ?_
  refine kx_getR (pc := 24) (i := 61) (a := 17) (b := 18) (r := [20, 0, 0, 0]) gf_Se_9 d_Se_clear_24 (by decide +kernel) rfl ?_
  refine kx_iload_n (pc := 27) 1 rfl d_Se_clear_27 ?_
  refine kx_bipush (pc := 28) (v := (-2)) d_Se_clear_28 (by decide) ?_
  refine kx_iast (pc := 30) (i := 62) (a := 18) (N := 30) (M' := kM_29) d_Se_clear_30 (by decide +kernel) (by unfold vp_in; decide) rfl ?_
  refine kx_iinc (pc := 31) 1 (L' := [some (.ref 17), some (.int 14)]) rfl (Nat.le_of_ble_eq_true rfl) (Or.inr rfl) d_Se_clear_31 rfl ?_
  refine kx_goto (pc := 34) 17 d_Se_clear_34 (by decide) ?_
  refine kx_iload_n (pc := 17) 1 rfl d_Se_clear_17 ?_
  refine kx_bipush (pc := 18) (v := 30) d_Se_clear_18 (by decide) ?_
  refine kx_ige_f (pc := 20) 37 d_Se_clear_20 (by decide) (by decide) ?_
  refine kx_aload_n (pc := 23) 0 rfl d_Se_clear_23 ?_
  refine kx_getR (pc := 24) (i := 61) (a := 17) (b := 18) (r := [20, 0, 0, 0]) gf_Se_9 d_Se_clear_24 (by decide +kernel) rfl ?_
  refine kx_iload_n (pc := 27) 1 rfl d_Se_clear_27 ?_
  refine kx_bipush (pc := 28) (v := (-2)) d_Se_clear_28 (by decide) ?_
  refine kx_iast (pc := 30) (i := 62) (a := 18) (N := 30) (M' := kM_30) d_Se_clear_30 (by decide +kernel) (by unfold vp_in; decide) rfl ?_
  refine kx_iinc (pc := 31) 1 (L' := [some (.ref 17), some (.int 15)]) rfl (Nat.le_of_ble_eq_true rfl) (Or.inr rfl) d_Se_clear_31 rfl ?_
  refine kx_goto (pc := 34) 17 d_Se_clear_34 (by decide) ?_
  refine kx_iload_n (pc := 17) 1 rfl d_Se_clear_17 ?_
  refine kx_bipush (pc := 18) (v := 30) d_Se_clear_18 (by decide) ?_
  refine kx_ige_f (pc := 20) 37 d_Se_clear_20 (by decide) (by decide) ?_
  refine kx_aload_n (pc := 23) 0 rfl d_Se_clear_23 ?_
  refine kx_getR (pc := 24) (i := 61) (a := 17) (b := 18) (r := [20, 0, 0, 0]) gf_Se_9 d_Se_clear_24 (by decide +kernel) rfl ?_
  refine kx_iload_n (pc := 27) 1 rfl d_Se_clear_27 ?_
  refine kx_bipush (pc := 28) (v := (-2)) d_Se_clear_28 (by decide) ?_
  refine kx_iast (pc := 30) (i := 62) (a := 18) (N := 30) (M' := kM_31) d_Se_clear_30 (by decide +kernel) (by unfold vp_in; decide) rfl ?_
  refine kx_iinc (pc := 31) 1 (L' := [some (.ref 17), some (.int 16)]) rfl (Nat.le_of_ble_eq_true rfl) (Or.inr rfl) d_Se_clear_31 rfl ?_
  refine kx_goto (pc := 34) 17 d_Se_clear_34 (by decide) ?_
  refine kx_iload_n (pc := 17) 1 rfl d_Se_clear_17 ?_
  refine kx_bipush (pc := 18) (v := 30) d_Se_clear_18 (by decide) ?_
  refine kx_ige_f (pc := 20) 37 d_Se_clear_20 (by decide) (by decide) ?_
  refine kx_aload_n (pc := 23) 0 rfl d_Se_clear_23 ?_
  refine kx_getR (pc := 24) (i := 61) (a := 17) (b := 18) (r := [20, 0, 0, 0]) gf_Se_9 d_Se_clear_24 (by decide +kernel) rfl ?_
  refine kx_iload_n (pc := 27) 1 rfl d_Se_clear_27 ?_
  refine kx_bipush (pc := 28) (v := (-2)) d_Se_clear_28 (by decide) ?_
  refine kx_iast (pc := 30) (i := 62) (a := 18) (N := 30) (M' := kM_32) d_Se_clear_30 (by decide +kernel) (by unfold vp_in; decide) rfl ?_
  refine kx_iinc (pc := 31) 1 (L' := [some (.ref 17), some (.int 17)]) rfl (Nat.le_of_ble_eq_true rfl) (Or.inr rfl) d_Se_clear_31 rfl ?_
  refine kx_goto (pc := 34) 17 d_Se_clear_34 (by decide) ?_
  refine kx_iload_n (pc := 17) 1 rfl d_Se_clear_17 ?_
  refine kx_bipush (pc := 18) (v := 30) d_Se_clear_18 (by decide) ?_
  refine kx_ige_f (pc := 20) 37 d_Se_clear_20 (by decide) (by decide) ?_
  refine kx_aload_n (pc := 23) 0 rfl d_Se_clear_23 ?_
  refine kx_getR (pc := 24) (i := 61) (a := 17) (b := 18) (r := [20, 0, 0, 0]) gf_Se_9 d_Se_clear_24 (by decide +kernel) rfl ?_
  refine kx_iload_n (pc := 27) 1 rfl d_Se_clear_27 ?_
  refine kx_bipush (pc := 28) (v := (-2)) d_Se_clear_28 (by decide) ?_
  refine kx_iast (pc := 30) (i := 62) (a := 18) (N := 30) (M' := kM_33) d_Se_clear_30 (by decide +kernel) (by unfold vp_in; decide) rfl ?_
  refine kx_iinc (pc := 31) 1 (L' := [some (.ref 17), some (.int 18)]) rfl (Nat.le_of_ble_eq_true rfl) (Or.inr rfl) d_Se_clear_31 rfl ?_
  refine kx_goto (pc := 34) 17 d_Se_clear_34 (by decide) ?_
  refine kx_iload_n (pc := 17) 1 rfl d_Se_clear_17 ?_
  refine kx_bipush (pc := 18) (v := 30) d_Se_clear_18 (by decide) ?_
  refine kx_ige_f (pc := 20) 37 d_Se_clear_20 (by decide) (by decide) ?_
  refine kx_aload_n (pc := 23) 0 rfl d_Se_clear_23 ?_
  refine kx_getR (pc := 24) (i := 61) (a := 17) (b := 18) (r := [20, 0, 0, 0]) gf_Se_9 d_Se_clear_24 (by decide +kernel) rfl ?_
  refine kx_iload_n (pc := 27) 1 rfl d_Se_clear_27 ?_
  refine kx_bipush (pc := 28) (v := (-2)) d_Se_clear_28 (by decide) ?_
  refine kx_iast (pc := 30) (i := 62) (a := 18) (N := 30) (M' := kM_34) d_Se_clear_30 (by decide +kernel) (by unfold vp_in; decide) rfl ?_
  refine kx_iinc (pc := 31) 1 (L' := [some (.ref 17), some (.int 19)]) rfl (Nat.le_of_ble_eq_true rfl) (Or.inr rfl) d_Se_clear_31 rfl ?_
  refine kx_goto (pc := 34) 17 d_Se_clear_34 (by decide) ?_
  refine kx_iload_n (pc := 17) 1 rfl d_Se_clear_17 ?_
  refine kx_bipush (pc := 18) (v := 30) d_Se_clear_18 (by decide) ?_
  refine kx_ige_f (pc := 20) 37 d_Se_clear_20 (by decide) (by decide) ?_
  refine kx_aload_n (pc := 23) 0 rfl d_Se_clear_23 ?_
  refine kx_getR (pc := 24) (i := 61) (a := 17) (b := 18) (r := [20, 0, 0, 0]) gf_Se_9 d_Se_clear_24 (by decide +kernel) rfl ?_
  refine kx_iload_n (pc := 27) 1 rfl d_Se_clear_27 ?_
  refine kx_bipush (pc := 28) (v := (-2)) d_Se_clear_28 (by decide) ?_
  refine kx_iast (pc := 30) (i := 62) (a := 18) (N := 30) (M' := kM_35) d_Se_clear_30 (by decide +kernel) (by unfold vp_in; decide) rfl ?_
  refine kx_iinc (pc := 31) 1 (L' := [some (.ref 17), some (.int 20)]) rfl (Nat.le_of_ble_eq_true rfl) (Or.inr rfl) d_Se_clear_31 rfl ?_
  refine kx_goto (pc := 34) 17 d_Se_clear_34 (by decide) ?_
  refine kx_iload_n (pc := 17) 1 rfl d_Se_clear_17 ?_
  refine kx_bipush (pc := 18) (v := 30) d_Se_clear_18 (by decide) ?_
  refine kx_ige_f (pc := 20) 37 d_Se_clear_20 (by decide) (by decide) ?_
  refine kx_aload_n (pc := 23) 0 rfl d_Se_clear_23 ?_
  refine kx_getR (pc := 24) (i := 61) (a := 17) (b := 18) (r := [20, 0, 0, 0]) gf_Se_9 d_Se_clear_24 (by decide +kernel) rfl ?_
  refine kx_iload_n (pc := 27) 1 rfl d_Se_clear_27 ?_
  refine kx_bipush (pc := 28) (v := (-2)) d_Se_clear_28 (by decide) ?_
  refine kx_iast (pc := 30) (i := 62) (a := 18) (N := 30) (M' := kM_36) d_Se_clear_30 (by decide +kernel) (by unfold vp_in; decide) rfl ?_
  refine kx_iinc (pc := 31) 1 (L' := [some (.ref 17), some (.int 21)]) rfl (Nat.le_of_ble_eq_true rfl) (Or.inr rfl) d_Se_clear_31 rfl ?_
  refine kx_goto (pc := 34) 17 d_Se_clear_34 (by decide) ?_
  refine kx_iload_n (pc := 17) 1 rfl d_Se_clear_17 ?_
  refine kx_bipush (pc := 18) (v := 30) d_Se_clear_18 (by decide) ?_
  refine kx_ige_f (pc := 20) 37 d_Se_clear_20 (by decide) (by decide) ?_
  refine kx_aload_n (pc := 23) 0 rfl d_Se_clear_23 ?_
  refine kx_getR (pc := 24) (i := 61) (a := 17) (b := 18) (r := [20, 0, 0, 0]) gf_Se_9 d_Se_clear_24 (by decide +kernel) rfl ?_
  refine kx_iload_n (pc := 27) 1 rfl d_Se_clear_27 ?_
  refine kx_bipush (pc := 28) (v := (-2)) d_Se_clear_28 (by decide) ?_
  refine kx_iast (pc := 30) (i := 62) (a := 18) (N := 30) (M' := kM_37) d_Se_clear_30 (by decide +kernel) (by unfold vp_in; decide) rfl ?_
  refine kx_iinc (pc := 31) 1 (L' := [some (.ref 17), some (.int 22)]) rfl (Nat.le_of_ble_eq_true rfl) (Or.inr rfl) d_Se_clear_31 rfl ?_
  refine kx_goto (pc := 34) 17 d_Se_clear_34 (by decide) ?_
  refine kx_iload_n (pc := 17) 1 rfl d_Se_clear_17 ?_
  refine kx_bipush (pc := 18) (v := 30) d_Se_clear_18 (by decide) ?_
  refine kx_ige_f (pc := 20) 37 d_Se_clear_20 (by decide) (by decide) ?_
  refine kx_aload_n (pc := 23) 0 rfl d_Se_clear_23 ?_
  refine kx_getR (pc := 24) (i := 61) (a := 17) (b := 18) (r := [20, 0, 0, 0]) gf_Se_9 d_Se_clear_24 (by decide +kernel) rfl ?_
  refine kx_iload_n (pc := 27) 1 rfl d_Se_clear_27 ?_
  refine kx_bipush (pc := 28) (v := (-2)) d_Se_clear_28 (by decide) ?_
  refine kx_iast (pc := 30) (i := 62) (a := 18) (N := 30) (M' := kM_38) d_Se_clear_30 (by decide +kernel) (by unfold vp_in; decide) rfl ?_
  refine kx_iinc (pc := 31) 1 (L' := [some (.ref 17), some (.int 23)]) rfl (Nat.le_of_ble_eq_true rfl) (Or.inr rfl) d_Se_clear_31 rfl ?_
  refine kx_goto (pc := 34) 17 d_Se_clear_34 (by decide) ?_
  refine kx_iload_n (pc := 17) 1 rfl d_Se_clear_17 ?_
  refine kx_bipush (pc := 18) (v := 30) d_Se_clear_18 (by decide) ?_
  refine kx_ige_f (pc := 20) 37 d_Se_clear_20 (by decide) (by decide) ?_
  refine kx_aload_n (pc := 23) 0 rfl d_Se_clear_23 ?_
  refine kx_getR (pc := 24) (i := 61) (a := 17) (b := 18) (r := [20, 0, 0, 0]) gf_Se_9 d_Se_clear_24 (by decide +kernel) rfl ?_
  refine kx_iload_n (pc := 27) 1 rfl d_Se_clear_27 ?_
  refine kx_bipush (pc := 28) (v := (-2)) d_Se_clear_28 (by decide) ?_
  refine kx_iast (pc := 30) (i := 62) (a := 18) (N := 30) (M' := kM_39) d_Se_clear_30 (by decide +kernel) (by unfold vp_in; decide) rfl ?_
  refine kx_iinc (pc := 31) 1 (L' := [some (.ref 17), some (.int 24)]) rfl (Nat.le_of_ble_eq_true rfl) (Or.inr rfl) d_Se_clear_31 rfl ?_
  refine kx_goto (pc := 34) 17 d_Se_clear_34 (by decide) ?_
  refine kx_iload_n (pc := 17) 1 rfl d_Se_clear_17 ?_
  refine kx_bipush (pc := 18) (v := 30) d_Se_clear_18 (by decide) ?_
  refine kx_ige_f (pc := 20) 37 d_Se_clear_20 (by decide) (by decide) ?_
  refine kx_aload_n (pc := 23) 0 rfl d_Se_clear_23 ?_
  refine kx_getR (pc := 24) (i := 61) (a := 17) (b := 18) (r := [20, 0, 0, 0]) gf_Se_9 d_Se_clear_24 (by decide +kernel) rfl ?_
  refine kx_iload_n (pc := 27) 1 rfl d_Se_clear_27 ?_
  refine kx_bipush (pc := 28) (v := (-2)) d_Se_clear_28 (by decide) ?_
  refine kx_iast (pc := 30) (i := 62) (a := 18) (N := 30) (M' := kM_40) d_Se_clear_30 (by decide +kernel) (by unfold vp_in; decide) rfl ?_
  refine kx_iinc (pc := 31) 1 (L' := [some (.ref 17), some (.int 25)]) rfl (Nat.le_of_ble_eq_true rfl) (Or.inr rfl) d_Se_clear_31 rfl ?_
  refine kx_goto (pc := 34) 17 d_Se_clear_34 (by decide) ?_
  refine kx_iload_n (pc := 17) 1 rfl d_Se_clear_17 ?_
  refine kx_bipush (pc := 18) (v := 30) d_Se_clear_18 (by decide) ?_
  refine kx_ige_f (pc := 20) 37 d_Se_clear_20 (by decide) (by decide) ?_
  refine kx_aload_n (pc := 23) 0 rfl d_Se_clear_23 ?_
  refine kx_getR (pc := 24) (i := 61) (a := 17) (b := 18) (r := [20, 0, 0, 0]) gf_Se_9 d_Se_clear_24 (by decide +kernel) rfl ?_
  refine kx_iload_n (pc := 27) 1 rfl d_Se_clear_27 ?_
  refine kx_bipush (pc := 28) (v := (-2)) d_Se_clear_28 (by decide) ?_
  refine kx_iast (pc := 30) (i := 62) (a := 18) (N := 30) (M' := kM_41) d_Se_clear_30 (by decide +kernel) (by unfold vp_in; decide) rfl ?_
  refine kx_iinc (pc := 31) 1 (L' := [some (.ref 17), some (.int 26)]) rfl (Nat.le_of_ble_eq_true rfl) (Or.inr rfl) d_Se_clear_31 rfl ?_
  refine kx_goto (pc := 34) 17 d_Se_clear_34 (by decide) ?_
  refine kx_iload_n (pc := 17) 1 rfl d_Se_clear_17 ?_
  refine kx_bipush (pc := 18) (v := 30) d_Se_clear_18 (by decide) ?_
  refine kx_ige_f (pc := 20) 37 d_Se_clear_20 (by decide) (by decide) ?_
  refine kx_aload_n (pc := 23) 0 rfl d_Se_clear_23 ?_
  refine kx_getR (pc := 24) (i := 61) (a := 17) (b := 18) (r := [20, 0, 0, 0]) gf_Se_9 d_Se_clear_24 (by decide +kernel) rfl ?_
  refine kx_iload_n (pc := 27) 1 rfl d_Se_clear_27 ?_
  refine kx_bipush (pc := 28) (v := (-2)) d_Se_clear_28 (by decide) ?_
  refine kx_iast (pc := 30) (i := 62) (a := 18) (N := 30) (M' := kM_42) d_Se_clear_30 (by decide +kernel) (by unfold vp_in; decide) rfl ?_
  refine kx_iinc (pc := 31) 1 (L' := [some (.ref 17), some (.int 27)]) rfl (Nat.le_of_ble_eq_true rfl) (Or.inr rfl) d_Se_clear_31 rfl ?_
  refine kx_goto (pc := 34) 17 d_Se_clear_34 (by decide) ?_
  refine kx_iload_n (pc := 17) 1 rfl d_Se_clear_17 ?_
  refine kx_bipush (pc := 18) (v := 30) d_Se_clear_18 (by decide) ?_
  refine kx_ige_f (pc := 20) 37 d_Se_clear_20 (by decide) (by decide) ?_
  refine kx_aload_n (pc := 23) 0 rfl d_Se_clear_23 ?_
  refine kx_getR (pc := 24) (i := 61) (a := 17) (b := 18) (r := [20, 0, 0, 0]) gf_Se_9 d_Se_clear_24 (by decide +kernel) rfl ?_
  refine kx_iload_n (pc := 27) 1 rfl d_Se_clear_27 ?_
  refine kx_bipush (pc := 28) (v := (-2)) d_Se_clear_28 (by decide) ?_
  refine kx_iast (pc := 30) (i := 62) (a := 18) (N := 30) (M' := kM_43) d_Se_clear_30 (by decide +kernel) (by unfold vp_in; decide) rfl ?_
  refine kx_iinc (pc := 31) 1 (L' := [some (.ref 17), some (.int 28)]) rfl (Nat.le_of_ble_eq_true rfl) (Or.inr rfl) d_Se_clear_31 rfl ?_
  refine kx_goto (pc := 34) 17 d_Se_clear_34 (by decide) ?_
  refine kx_iload_n (pc := 17) 1 rfl d_Se_clear_17 ?_
  refine kx_bipush (pc := 18) (v := 30) d_Se_clear_18 (by decide) ?_
  refine kx_ige_f (pc := 20) 37 d_Se_clear_20 (by decide) (by decide) ?_
  refine kx_aload_n (pc := 23) 0 rfl d_Se_clear_23 ?_
  refine kx_getR (pc := 24) (i := 61) (a := 17) (b := 18) (r := [20, 0, 0, 0]) gf_Se_9 d_Se_clear_24 (by decide +kernel) rfl ?_
  refine kx_iload_n (pc := 27) 1 rfl d_Se_clear_27 ?_
  refine kx_bipush (pc := 28) (v := (-2)) d_Se_clear_28 (by decide) ?_
  refine kx_iast (pc := 30) (i := 62) (a := 18) (N := 30) (M' := kM_44) d_Se_clear_30 (by decide +kernel) (by unfold vp_in; decide) rfl ?_
  refine kx_iinc (pc := 31) 1 (L' := [some (.ref 17), some (.int 29)]) rfl (Nat.le_of_ble_eq_true rfl) (Or.inr rfl) d_Se_clear_31 rfl ?_
  refine kx_goto (pc := 34) 17 d_Se_clear_34 (by decide) ?_
  refine kx_iload_n (pc := 17) 1 rfl d_Se_clear_17 ?_
  refine kx_bipush (pc := 18) (v := 30) d_Se_clear_18 (by decide) ?_
  refine kx_ige_f (pc := 20) 37 d_Se_clear_20 (by decide) (by decide) ?_
  refine kx_aload_n (pc := 23) 0 rfl d_Se_clear_23 ?_
  refine kx_getR (pc := 24) (i := 61) (a := 17) (b := 18) (r := [20, 0, 0, 0]) gf_Se_9 d_Se_clear_24 (by decide +kernel) rfl ?_
  refine kx_iload_n (pc := 27) 1 rfl d_Se_clear_27 ?_
  refine kx_bipush (pc := 28) (v := (-2)) d_Se_clear_28 (by decide) ?_
  refine kx_iast (pc := 30) (i := 62) (a := 18) (N := 30) (M' := kM_45) d_Se_clear_30 (by decide +kernel) (by unfold vp_in; decide) rfl ?_
  refine kx_iinc (pc := 31) 1 (L' := [some (.ref 17), some (.int 30)]) rfl (Nat.le_of_ble_eq_true rfl) (Or.inr rfl) d_Se_clear_31 rfl ?_
  refine kx_goto (pc := 34) 17 d_Se_clear_34 (by decide) ?_
  refine kx_iload_n (pc := 17) 1 rfl d_Se_clear_17 ?_
  refine kx_bipush (pc := 18) (v := 30) d_Se_clear_18 (by decide) ?_
  refine kx_ige_t (pc := 20) 37 d_Se_clear_20 (by decide) (by decide) ?_
  exact kx_ret (pc := 37) hX rfl d_Se_clear_37 rfl rfl
set_option maxRecDepth 20000 in
theorem ct_Se_init : k_Ct 1 1 30 I_Se_init [.ref 17] kS_125 kS_127 kM_12 kM_45 := by
  refine k_met (by decide +kernel) co_Se_init (Nat.le_of_ble_eq_true rfl) (fun X hX => ?_)
  have hf := hX.f
  have hn := hX.n
  show k_W 1 I_Se_init X 0 [some (.ref 17)] [] kM_12 kS_125 0 0
  refine kx_aload_n (pc := 0) 0 rfl d_Se_init_0 ?_
  refine kx_obj (pc := 1) ko_Se_3 oi_1 oi_2 d_Se_init_1 (Nat.le_of_ble_eq_true rfl) (Nat.le_of_ble_eq_true rfl) ?_
  refine kx_aload_n (pc := 4) 0 rfl d_Se_init_4 ?_
  refine kx_bipush (pc := 5) (v := 30) d_Se_init_5 (by decide) ?_
  refine kx_newI (pc := 7) (a := 18) (N := 30) (S' := kS_126) ka_I d_Se_init_7 (by decide) (by decide) (Nat.le_of_ble_eq_true rfl) rfl (by decide +kernel) rfl rfl ((hf 18).trans (by decide +kernel)) (Nat.le_trans (Nat.le_of_ble_eq_true rfl) (Nat.le_of_eq hn.1.symm)) (Nat.le_trans (Nat.le_of_ble_eq_true rfl) (Nat.le_of_eq hn.2.symm)) rfl ?_
  refine kx_putR (pc := 9) (i := 61) (a := 17) (b := 18) (r := [1, 0, 0, 0]) (S' := kS_127) kp_Se_9 rfl d_Se_init_9 (by decide +kernel) (Nat.le_of_ble_eq_true rfl) rfl ?_
  refine kx_aload_n (pc := 12) 0 rfl d_Se_init_12 ?_
  refine kx_callV (pc := 13) (y := I_Se_clear) (o := 17) (i := 61) (ci := 5) (r := [20, 0, 0, 0]) (S2 := kS_127) (M2 := kM_45) vo_Se_clear lk_Se_15 d_Se_init_13 (by decide +kernel) rfl (Nat.le_of_ble_eq_true rfl) (Nat.le_of_ble_eq_true rfl) ct_Se_clear (by decide +kernel) (by decide +kernel) (by decide +kernel) (fun b h _ => k_sub (by decide +kernel) ((hf b).symm.trans h)) (Nat.le_trans (Nat.le_of_ble_eq_true rfl) (Nat.le_of_eq hn.1.symm)) (Nat.le_trans (Nat.le_of_ble_eq_true rfl) (Nat.le_of_eq hn.2.symm)) ?_
  exact kx_ret (pc := 16) hX rfl d_Se_init_16 rfl rfl
set_option maxRecDepth 20000 in
theorem ct_Su_init : k_Ct 1 1 3 I_Su_init [.ref 19, .ref 15] kS_129 kS_132 kM_45 kM_45 := by
  refine k_met (by decide +kernel) co_Su_init (Nat.le_of_ble_eq_true rfl) (fun X hX => ?_)
  have hf := hX.f
  have hn := hX.n
  show k_W 1 I_Su_init X 0 [some (.ref 19), some (.ref 15)] [] kM_45 kS_129 0 0
  refine kx_aload_n (pc := 0) 0 rfl d_Su_init_0 ?_
  refine kx_obj (pc := 1) ko_Su_3 oi_1 oi_2 d_Su_init_1 (Nat.le_of_ble_eq_true rfl) (Nat.le_of_ble_eq_true rfl) ?_
  refine kx_aload_n (pc := 4) 0 rfl d_Su_init_4 ?_
  refine kx_iconst (pc := 5) (v := 3) d_Su_init_5 (by decide) ?_
  refine kx_newI (pc := 6) (a := 20) (N := 3) (S' := kS_130) ka_I d_Su_init_6 (by decide) (by decide) (Nat.le_of_ble_eq_true rfl) rfl (by decide +kernel) rfl rfl ((hf 20).trans (by decide +kernel)) (Nat.le_trans (Nat.le_of_ble_eq_true rfl) (Nat.le_of_eq hn.1.symm)) (Nat.le_trans (Nat.le_of_ble_eq_true rfl) (Nat.le_of_eq hn.2.symm)) rfl ?_
  refine kx_putR (pc := 8) (i := 63) (a := 19) (b := 20) (r := [1, 1, 0, 0]) (S' := kS_131) kp_Su_9 rfl d_Su_init_8 (by decide +kernel) (Nat.le_of_ble_eq_true rfl) rfl ?_
  refine kx_aload_n (pc := 11) 0 rfl d_Su_init_11 ?_
  refine kx_aload_n (pc := 12) 1 rfl d_Su_init_12 ?_
  refine kx_putR (pc := 13) (i := 63) (a := 19) (b := 15) (r := [1, 22, 0, 0]) (S' := kS_132) kp_Su_15 rfl d_Su_init_13 (by decide +kernel) (Nat.le_of_ble_eq_true rfl) rfl ?_
  exact kx_ret (pc := 16) hX rfl d_Su_init_16 rfl rfl
set_option maxRecDepth 20000 in
theorem ct_Tu_init : k_Ct 1 0 0 I_Tu_init [.ref 21, .ref 15] kS_134 kS_135 kM_45 kM_45 := by
  refine k_met (by decide +kernel) co_Tu_init (Nat.le_of_ble_eq_true rfl) (fun X hX => ?_)
  have hf := hX.f
  have hn := hX.n
  show k_W 1 I_Tu_init X 0 [some (.ref 21), some (.ref 15)] [] kM_45 kS_134 0 0
  refine kx_aload_n (pc := 0) 0 rfl d_Tu_init_0 ?_
  refine kx_obj (pc := 1) ko_Tu_3 oi_1 oi_2 d_Tu_init_1 (Nat.le_of_ble_eq_true rfl) (Nat.le_of_ble_eq_true rfl) ?_
  refine kx_aload_n (pc := 4) 0 rfl d_Tu_init_4 ?_
  refine kx_aload_n (pc := 5) 1 rfl d_Tu_init_5 ?_
  refine kx_putR (pc := 6) (i := 65) (a := 21) (b := 15) (r := [1, 0, 0, 0]) (S' := kS_135) kp_Tu_9 rfl d_Tu_init_6 (by decide +kernel) (Nat.le_of_ble_eq_true rfl) rfl ?_
  exact kx_ret (pc := 9) hX rfl d_Tu_init_9 rfl rfl
set_option maxRecDepth 20000 in
theorem ct_Ch_init : k_Ct 1 0 0 I_Ch_init [.ref 22, .ref 15] kS_137 kS_138 kM_45 kM_45 := by
  refine k_met (by decide +kernel) co_Ch_init (Nat.le_of_ble_eq_true rfl) (fun X hX => ?_)
  have hf := hX.f
  have hn := hX.n
  show k_W 1 I_Ch_init X 0 [some (.ref 22), some (.ref 15)] [] kM_45 kS_137 0 0
  refine kx_aload_n (pc := 0) 0 rfl d_Ch_init_0 ?_
  refine kx_obj (pc := 1) ko_Ch_3 oi_1 oi_2 d_Ch_init_1 (Nat.le_of_ble_eq_true rfl) (Nat.le_of_ble_eq_true rfl) ?_
  refine kx_aload_n (pc := 4) 0 rfl d_Ch_init_4 ?_
  refine kx_aload_n (pc := 5) 1 rfl d_Ch_init_5 ?_
  refine kx_putR (pc := 6) (i := 66) (a := 22) (b := 15) (r := [1, 0, 0, 0, 0, 0]) (S' := kS_138) kp_Ch_9 rfl d_Ch_init_6 (by decide +kernel) (Nat.le_of_ble_eq_true rfl) rfl ?_
  exact kx_ret (pc := 9) hX rfl d_Ch_init_9 rfl rfl
set_option maxRecDepth 20000 in
theorem ct_Sh_init : k_Ct 1 7 204 I_Sh_init [.ref 23] kS_140 kS_146 kM_45 kM_49 := by
  refine k_met (by decide +kernel) co_Sh_init (Nat.le_of_ble_eq_true rfl) (fun X hX => ?_)
  have hf := hX.f
  have hn := hX.n
  show k_W 1 I_Sh_init X 0 [some (.ref 23), none] [] kM_45 kS_140 0 0
  refine kx_aload_n (pc := 0) 0 rfl d_Sh_init_0 ?_
  refine kx_obj (pc := 1) ko_Sh_3 oi_1 oi_2 d_Sh_init_1 (Nat.le_of_ble_eq_true rfl) (Nat.le_of_ble_eq_true rfl) ?_
  refine kx_aload_n (pc := 4) 0 rfl d_Sh_init_4 ?_
  refine kx_iconst (pc := 5) (v := 4) d_Sh_init_5 (by decide) ?_
  refine kx_newI (pc := 6) (a := 24) (N := 4) (S' := kS_141) ka_I d_Sh_init_6 (by decide) (by decide) (Nat.le_of_ble_eq_true rfl) rfl (by decide +kernel) rfl rfl ((hf 24).trans (by decide +kernel)) (Nat.le_trans (Nat.le_of_ble_eq_true rfl) (Nat.le_of_eq hn.1.symm)) (Nat.le_trans (Nat.le_of_ble_eq_true rfl) (Nat.le_of_eq hn.2.symm)) rfl ?_
  refine kx_putR (pc := 8) (i := 67) (a := 23) (b := 24) (r := [1, 1, 1, 0]) (S' := kS_142) kp_Sh_11 rfl d_Sh_init_8 (by decide +kernel) (Nat.le_of_ble_eq_true rfl) rfl ?_
  refine kx_aload_n (pc := 11) 0 rfl d_Sh_init_11 ?_
  refine kx_iconst (pc := 12) (v := 4) d_Sh_init_12 (by decide) ?_
  refine kx_newI (pc := 13) (a := 25) (N := 4) (S' := kS_143) ka_I d_Sh_init_13 (by decide) (by decide) (Nat.le_of_ble_eq_true rfl) rfl (by decide +kernel) rfl rfl ((hf 25).trans (by decide +kernel)) (Nat.le_trans (Nat.le_of_ble_eq_true rfl) (Nat.le_of_eq hn.1.symm)) (Nat.le_trans (Nat.le_of_ble_eq_true rfl) (Nat.le_of_eq hn.2.symm)) rfl ?_
  refine kx_putR (pc := 15) (i := 67) (a := 23) (b := 25) (r := [26, 1, 1, 0]) (S' := kS_144) kp_Sh_15 rfl d_Sh_init_15 (by decide +kernel) (Nat.le_of_ble_eq_true rfl) rfl ?_
  refine kx_aload_n (pc := 18) 0 rfl d_Sh_init_18 ?_
  refine kx_iconst (pc := 19) (v := 4) d_Sh_init_19 (by decide) ?_
  refine kx_bipush (pc := 20) (v := 48) d_Sh_init_20 (by decide) ?_
  refine kx_multi (pc := 22) (a := 26) (N := 4) (K := 48) (S' := kS_145) kl_Sh_18 ka_I d_Sh_init_22 (by decide) (by decide) (by decide) (by decide) (Nat.le_of_ble_eq_true rfl) (Nat.le_of_ble_eq_true rfl) (fun j hj => by have h : j = 0 ∨ j = 1 ∨ j = 2 ∨ j = 3 := (by omega); rcases h with rfl | rfl | rfl | rfl <;> rfl) (fun t ht => by have h : t = 0 ∨ t = 1 ∨ t = 2 ∨ t = 3 ∨ t = 4 := (by omega); rcases h with rfl | rfl | rfl | rfl | rfl <;> decide +kernel) rfl rfl (fun t ht => by have h : t = 0 ∨ t = 1 ∨ t = 2 ∨ t = 3 ∨ t = 4 := (by omega); rcases h with rfl | rfl | rfl | rfl | rfl <;> exact (hf _).trans (by decide +kernel)) (Nat.le_trans (Nat.le_of_ble_eq_true rfl) (Nat.le_of_eq hn.1.symm)) (Nat.le_trans (Nat.le_of_ble_eq_true rfl) (Nat.le_of_eq hn.2.symm)) rfl ?_
  refine kx_putR (pc := 26) (i := 67) (a := 23) (b := 26) (r := [26, 27, 1, 0]) (S' := kS_146) kp_Sh_20 rfl d_Sh_init_26 (by decide +kernel) (Nat.le_of_ble_eq_true rfl) rfl ?_
  refine kx_iconst (pc := 29) (v := 0) d_Sh_init_29 (by decide) ?_
  refine kx_istore_n (pc := 30) 1 (L' := [some (.ref 23), some (.int 0)]) (Nat.le_of_ble_eq_true rfl) (Or.inr rfl) d_Sh_init_30 rfl ?_
  refine kx_iload_n (pc := 31) 1 rfl d_Sh_init_31 ?_
  refine kx_iconst (pc := 32) (v := 4) d_Sh_init_32 (by decide) ?_
  refine kx_ige_f (pc := 33) 49 d_Sh_init_33 (by decide) (by decide) ?_
  refine kx_aload_n (pc := 36) 0 rfl d_Sh_init_36 ?_
  refine kx_getR (pc := 37) (i := 67) (a := 23) (b := 24) (r := [26, 27, 28, 0]) gf_Sh_11 d_Sh_init_37 (by decide +kernel) rfl ?_
  refine kx_iload_n (pc := 40) 1 rfl d_Sh_init_40 ?_
  refine kx_iconst (pc := 41) (v := (-1)) d_Sh_init_41 (by decide) ?_
  refine kx_iast (pc := 42) (i := 68) (a := 24) (N := 4) (M' := kM_46) d_Sh_init_42 (by decide +kernel) (by unfold vp_in; decide) rfl ?_
  refine kx_iinc (pc := 43) 1 (L' := [some (.ref 23), some (.int 1)]) rfl (Nat.le_of_ble_eq_true rfl) (Or.inr rfl) d_Sh_init_43 rfl ?_
  refine kx_goto (pc := 46) 31 d_Sh_init_46 (by decide) ?_
  refine kx_iload_n (pc := 31) 1 rfl d_Sh_init_31 ?_
  refine kx_iconst (pc := 32) (v := 4) d_Sh_init_32 (by decide) ?_
  refine kx_ige_f (pc := 33) 49 d_Sh_init_33 (by decide) (by decide) ?_
  refine kx_aload_n (pc := 36) 0 rfl d_Sh_init_36 ?_
  refine kx_getR (pc := 37) (i := 67) (a := 23) (b := 24) (r := [26, 27, 28, 0]) gf_Sh_11 d_Sh_init_37 (by decide +kernel) rfl ?_
  refine kx_iload_n (pc := 40) 1 rfl d_Sh_init_40 ?_
  refine kx_iconst (pc := 41) (v := (-1)) d_Sh_init_41 (by decide) ?_
  refine kx_iast (pc := 42) (i := 68) (a := 24) (N := 4) (M' := kM_47) d_Sh_init_42 (by decide +kernel) (by unfold vp_in; decide) rfl ?_
  refine kx_iinc (pc := 43) 1 (L' := [some (.ref 23), some (.int 2)]) rfl (Nat.le_of_ble_eq_true rfl) (Or.inr rfl) d_Sh_init_43 rfl ?_
  refine kx_goto (pc := 46) 31 d_Sh_init_46 (by decide) ?_
  refine kx_iload_n (pc := 31) 1 rfl d_Sh_init_31 ?_
  refine kx_iconst (pc := 32) (v := 4) d_Sh_init_32 (by decide) ?_
  refine kx_ige_f (pc := 33) 49 d_Sh_init_33 (by decide) (by decide) ?_
  refine kx_aload_n (pc := 36) 0 rfl d_Sh_init_36 ?_
  refine kx_getR (pc := 37) (i := 67) (a := 23) (b := 24) (r := [26, 27, 28, 0]) gf_Sh_11 d_Sh_init_37 (by decide +kernel) rfl ?_
  refine kx_iload_n (pc := 40) 1 rfl d_Sh_init_40 ?_
  refine kx_iconst (pc := 41) (v := (-1)) d_Sh_init_41 (by decide) ?_
  refine kx_iast (pc := 42) (i := 68) (a := 24) (N := 4) (M' := kM_48) d_Sh_init_42 (by decide +kernel) (by unfold vp_in; decide) rfl ?_
  refine kx_iinc (pc := 43) 1 (L' := [some (.ref 23), some (.int 3)]) rfl (Nat.le_of_ble_eq_true rfl) (Or.inr rfl) d_Sh_init_43 rfl ?_
  refine kx_goto (pc := 46) 31 d_Sh_init_46 (by decide) ?_
  refine kx_iload_n (pc := 31) 1 rfl d_Sh_init_31 ?_
  refine kx_iconst (pc := 32) (v := 4) d_Sh_init_32 (by decide) ?_
  refine kx_ige_f (pc := 33) 49 d_Sh_init_33 (by decide) (by decide) ?_
  refine kx_aload_n (pc := 36) 0 rfl d_Sh_init_36 ?_
  refine kx_getR (pc := 37) (i := 67) (a := 23) (b := 24) (r := [26, 27, 28, 0]) gf_Sh_11 d_Sh_init_37 (by decide +kernel) rfl ?_
  refine kx_iload_n (pc := 40) 1 rfl d_Sh_init_40 ?_
  refine kx_iconst (pc := 41) (v := (-1)) d_Sh_init_41 (by decide) ?_
  refine kx_iast (pc := 42) (i := 68) (a := 24) (N := 4) (M' := kM_49) d_Sh_init_42 (by decide +kernel) (by unfold vp_in; decide) rfl ?_
  refine kx_iinc (pc := 43) 1 (L' := [some (.ref 23), some (.int 4)]) rfl (Nat.le_of_ble_eq_true rfl) (Or.inr rfl) d_Sh_init_43 rfl ?_
  refine kx_goto (pc := 46) 31 d_Sh_init_46 (by decide) ?_
  refine kx_iload_n (pc := 31) 1 rfl d_Sh_init_31 ?_
  refine kx_iconst (pc := 32) (v := 4) d_Sh_init_32 (by decide) ?_
  refine kx_ige_t (pc := 33) 49 d_Sh_init_33 (by decide) (by decide) ?_
  exact kx_ret (pc := 49) hX rfl d_Sh_init_49 rfl rfl
