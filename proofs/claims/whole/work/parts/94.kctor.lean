/-! CONSTRUCTORS, by program -/
set_option maxRecDepth 20000 in
theorem ct_J_init : k_Ct 3 78 794 I_J_init [.ref 0] kS_1 kS_151 kM_0 kM_49 := by
  refine k_met (by decide +kernel) co_J_init (Nat.le_of_ble_eq_true rfl) (fun X hX => ?_)
  have hf := hX.f
  have hn := hX.n
  show k_W 3 I_J_init X 0 [some (.ref 0)] [] kM_0 kS_1 0 0
  refine kx_aload_n (pc := 0) 0 rfl d_J_init_0 ?_
  refine kx_obj (pc := 1) ko_J_3 oi_1 oi_2 d_J_init_1 (Nat.le_of_ble_eq_true rfl) (Nat.le_of_ble_eq_true rfl) ?_
  refine kx_aload_n (pc := 4) 0 rfl d_J_init_4 ?_
  refine kx_new (pc := 5) (a := 1) (r := [1, 1, 0, 0, 0]) (S' := kS_2) cf_He kl_J_9 kn_He ini_He d_J_init_5 nf_He rfl rfl (by decide +kernel) rfl rfl ((hf 1).trans (by decide +kernel)) (Nat.le_trans (Nat.le_of_ble_eq_true rfl) (Nat.le_of_eq hn.1.symm)) (Nat.le_trans (Nat.le_of_ble_eq_true rfl) (Nat.le_of_eq hn.2.symm)) rfl ?_
  refine kx_dup (pc := 8) d_J_init_8 ?_
  refine kx_callIN (pc := 9) (y := I_He_init) (o := 1) (np := 0) (st := [.ref 1, .ref 0]) (S2 := kS_6) (M2 := kM_1) [] co_He_init rfl ini_He ki_He_init rfl (fun _ h => h.1) ⟨by decide +kernel, by decide +kernel, by decide +kernel⟩ rfl (Nat.le_of_ble_eq_true rfl) d_J_init_9 (Nat.le_of_ble_eq_true rfl) (Nat.le_of_ble_eq_true rfl) ct_He_init (by decide +kernel) (by decide +kernel) (by decide +kernel) (fun b h _ => k_sub (by decide +kernel) ((hf b).symm.trans h)) (Nat.le_trans (Nat.le_of_ble_eq_true rfl) (Nat.le_of_eq hn.1.symm)) (Nat.le_trans (Nat.le_of_ble_eq_true rfl) (Nat.le_of_eq hn.2.symm)) ?_
  refine kx_putR (pc := 12) (i := 0) (a := 0) (b := 1) (r := [1, 1, 1, 1, 1, 1, 1, 1, 1, 1, 1, 1, 1]) (S' := kS_7) kp_J_12 rfl d_J_init_12 (by decide +kernel) (Nat.le_of_ble_eq_true rfl) rfl ?_
  refine kx_aload_n (pc := 15) 0 rfl d_J_init_15 ?_
  refine kx_new (pc := 16) (a := 4) (r := [1, 1, 1, 1, 1, 0]) (S' := kS_8) cf_Vi kl_J_16 kn_Vi ini_Vi d_J_init_16 nf_Vi rfl rfl (by decide +kernel) rfl rfl ((hf 4).trans (by decide +kernel)) (Nat.le_trans (Nat.le_of_ble_eq_true rfl) (Nat.le_of_eq hn.1.symm)) (Nat.le_trans (Nat.le_of_ble_eq_true rfl) (Nat.le_of_eq hn.2.symm)) rfl ?_
  refine kx_dup (pc := 19) d_J_init_19 ?_
  refine kx_callIN (pc := 20) (y := I_Vi_init) (o := 4) (np := 0) (st := [.ref 4, .ref 0]) (S2 := kS_18) (M2 := kM_1) [] co_Vi_init rfl ini_Vi ki_Vi_init rfl (fun _ h => h.2.1) ⟨by decide +kernel, by decide +kernel, by decide +kernel⟩ rfl (Nat.le_of_ble_eq_true rfl) d_J_init_20 (Nat.le_of_ble_eq_true rfl) (Nat.le_of_ble_eq_true rfl) ct_Vi_init (by decide +kernel) (by decide +kernel) (by decide +kernel) (fun b h _ => k_sub (by decide +kernel) ((hf b).symm.trans h)) (Nat.le_trans (Nat.le_of_ble_eq_true rfl) (Nat.le_of_eq hn.1.symm)) (Nat.le_trans (Nat.le_of_ble_eq_true rfl) (Nat.le_of_eq hn.2.symm)) ?_
  refine kx_putR (pc := 23) (i := 0) (a := 0) (b := 4) (r := [3, 1, 1, 1, 1, 1, 1, 1, 1, 1, 1, 1, 1]) (S' := kS_19) kp_J_19 rfl d_J_init_23 (by decide +kernel) (Nat.le_of_ble_eq_true rfl) rfl ?_
  refine kx_aload_n (pc := 26) 0 rfl d_J_init_26 ?_
  refine kx_iconst (pc := 27) (v := 5) d_J_init_27 (by decide) ?_
  refine kx_newI (pc := 28) (a := 10) (N := 5) (S' := kS_20) ka_I d_J_init_28 (by decide) (by decide) (Nat.le_of_ble_eq_true rfl) rfl (by decide +kernel) rfl rfl ((hf 10).trans (by decide +kernel)) (Nat.le_trans (Nat.le_of_ble_eq_true rfl) (Nat.le_of_eq hn.1.symm)) (Nat.le_trans (Nat.le_of_ble_eq_true rfl) (Nat.le_of_eq hn.2.symm)) rfl ?_
  refine kx_dup (pc := 30) d_J_init_30 ?_
  refine kx_iconst (pc := 31) (v := 0) d_J_init_31 (by decide) ?_
  refine kx_iconst (pc := 32) (v := 1) d_J_init_32 (by decide) ?_
  refine kx_iast (pc := 33) (i := 10) (a := 10) (N := 5) (M' := kM_2) d_J_init_33 (by decide +kernel) (by unfold vp_in; decide) rfl ?_
  refine kx_dup (pc := 34) d_J_init_34 ?_
  refine kx_iconst (pc := 35) (v := 1) d_J_init_35 (by decide) ?_
  refine kx_iconst (pc := 36) (v := 3) d_J_init_36 (by decide) ?_
  refine kx_iast (pc := 37) (i := 10) (a := 10) (N := 5) (M' := kM_3) d_J_init_37 (by decide +kernel) (by unfold vp_in; decide) rfl ?_
  refine kx_dup (pc := 38) d_J_init_38 ?_
  refine kx_iconst (pc := 39) (v := 2) d_J_init_39 (by decide) ?_
  refine kx_iconst (pc := 40) (v := 0) d_J_init_40 (by decide) ?_
  refine kx_iast (pc := 41) (i := 10) (a := 10) (N := 5) (M' := kM_4) d_J_init_41 (by decide +kernel) (by unfold vp_in; decide) rfl ?_
  refine kx_dup (pc := 42) d_J_init_42 ?_
  refine kx_iconst (pc := 43) (v := 3) d_J_init_43 (by decide) ?_
  refine kx_iconst (pc := 44) (v := 0) d_J_init_44 (by decide) ?_
  refine kx_iast (pc := 45) (i := 10) (a := 10) (N := 5) (M' := kM_5) d_J_init_45 (by decide +kernel) (by unfold vp_in; decide) rfl ?_
  refine kx_dup (pc := 46) d_J_init_46 ?_
  refine kx_iconst (pc := 47) (v := 4) d_J_init_47 (by decide) ?_
  refine kx_iconst (pc := 48) (v := 2) d_J_init_48 (by decide) ?_
  refine kx_iast (pc := 49) (i := 10) (a := 10) (N := 5) (M' := kM_6) d_J_init_49 (by decide +kernel) (by unfold vp_in; decide) rfl ?_
  refine kx_putR (pc := 50) (i := 0) (a := 0) (b := 10) (r := [3, 6, 1, 1, 1, 1, 1, 1, 1, 1, 1, 1, 1]) (S' := kS_21) kp_J_23 rfl d_J_init_50 (by decide +kernel) (Nat.le_of_ble_eq_true rfl) rfl ?_
  refine kx_aload_n (pc := 53) 0 rfl d_J_init_53 ?_
  refine kx_iconst (pc := 54) (v := 2) d_J_init_54 (by decide) ?_
  refine kx_newA (pc := 55) (a := 11) (N := 2) (r := [1, 1]) (S' := kS_22) kl_J_27 d_J_init_55 (by decide) (by decide) (Nat.le_of_ble_eq_true rfl) rfl (by decide +kernel) rfl rfl ((hf 11).trans (by decide +kernel)) (Nat.le_trans (Nat.le_of_ble_eq_true rfl) (Nat.le_of_eq hn.1.symm)) (Nat.le_trans (Nat.le_of_ble_eq_true rfl) (Nat.le_of_eq hn.2.symm)) rfl ?_
  refine kx_dup (pc := 58) d_J_init_58 ?_
  refine kx_iconst (pc := 59) (v := 0) d_J_init_59 (by decide) ?_
  refine kx_iconst (pc := 60) (v := 3) d_J_init_60 (by decide) ?_
  refine kx_newI (pc := 61) (a := 12) (N := 3) (S' := kS_23) ka_I d_J_init_61 (by decide) (by decide) (Nat.le_of_ble_eq_true rfl) rfl (by decide +kernel) rfl rfl ((hf 12).trans (by decide +kernel)) (Nat.le_trans (Nat.le_of_ble_eq_true rfl) (Nat.le_of_eq hn.1.symm)) (Nat.le_trans (Nat.le_of_ble_eq_true rfl) (Nat.le_of_eq hn.2.symm)) rfl ?_
  refine kx_dup (pc := 63) d_J_init_63 ?_
  refine kx_iconst (pc := 64) (v := 0) d_J_init_64 (by decide) ?_
  refine kx_iconst (pc := 65) (v := 1) d_J_init_65 (by decide) ?_
  refine kx_iast (pc := 66) (i := 12) (a := 12) (N := 3) (M' := kM_7) d_J_init_66 (by decide +kernel) (by unfold vp_in; decide) rfl ?_
  refine kx_dup (pc := 67) d_J_init_67 ?_
  refine kx_iconst (pc := 68) (v := 1) d_J_init_68 (by decide) ?_
  refine kx_iconst (pc := 69) (v := 1) d_J_init_69 (by decide) ?_
  refine kx_iast (pc := 70) (i := 12) (a := 12) (N := 3) (M' := kM_8) d_J_init_70 (by decide +kernel) (by unfold vp_in; decide) rfl ?_
  refine kx_dup (pc := 71) d_J_init_71 ?_
  refine kx_iconst (pc := 72) (v := 2) d_J_init_72 (by decide) ?_
  refine kx_iconst (pc := 73) (v := 1) d_J_init_73 (by decide) ?_
  refine kx_iast (pc := 74) (i := 12) (a := 12) (N := 3) (M' := kM_9) d_J_init_74 (by decide +kernel) (by unfold vp_in; decide) rfl ?_
  refine kx_aastA (pc := 75) (i := 11) (ib := 12) (a := 11) (b := 12) (N := 2) (K := 3) (r := [1, 1]) (S' := kS_24) d_J_init_75 (by decide +kernel) (by decide +kernel) (by unfold vp_in; decide) (by decide) rfl ?_
  refine kx_dup (pc := 76) d_J_init_76 ?_
  refine kx_iconst (pc := 77) (v := 1) d_J_init_77 (by decide) ?_
  refine kx_iconst (pc := 78) (v := 3) d_J_init_78 (by decide) ?_
  refine kx_newI (pc := 79) (a := 13) (N := 3) (S' := kS_25) ka_I d_J_init_79 (by decide) (by decide) (Nat.le_of_ble_eq_true rfl) rfl (by decide +kernel) rfl rfl ((hf 13).trans (by decide +kernel)) (Nat.le_trans (Nat.le_of_ble_eq_true rfl) (Nat.le_of_eq hn.1.symm)) (Nat.le_trans (Nat.le_of_ble_eq_true rfl) (Nat.le_of_eq hn.2.symm)) rfl ?_
  refine kx_dup (pc := 81) d_J_init_81 ?_
  refine kx_iconst (pc := 82) (v := 0) d_J_init_82 (by decide) ?_
  refine kx_iconst (pc := 83) (v := 1) d_J_init_83 (by decide) ?_
  refine kx_iast (pc := 84) (i := 13) (a := 13) (N := 3) (M' := kM_10) d_J_init_84 (by decide +kernel) (by unfold vp_in; decide) rfl ?_
  refine kx_dup (pc := 85) d_J_init_85 ?_
  refine kx_iconst (pc := 86) (v := 1) d_J_init_86 (by decide) ?_
  refine kx_iconst (pc := 87) (v := 1) d_J_init_87 (by decide) ?_
  refine kx_iast (pc := 88) (i := 13) (a := 13) (N := 3) (M' := kM_11) d_J_init_88 (by decide +kernel) (by unfold vp_in; decide) rfl ?_
  refine kx_dup (pc := 89) d_J_init_89 ?_
  refine kx_iconst (pc := 90) (v := 2) d_J_init_90 (by decide) ?_
  refine kx_iconst (pc := 91) (v := 1) d_J_init_91 (by decide) ?_
  refine kx_iast (pc := 92) (i := 13) (a := 13) (N := 3) (M' := kM_12) d_J_init_92 (by decide +kernel) (by unfold vp_in; decide) rfl ?_
  refine kx_aastA (pc := 93) (i := 11) (ib := 13) (a := 11) (b := 13) (N := 2) (K := 3) (r := [14, 1]) (S' := kS_26) d_J_init_93 (by decide +kernel) (by decide +kernel) (by unfold vp_in; decide) (by decide) rfl ?_
  refine kx_putR (pc := 94) (i := 0) (a := 0) (b := 11) (r := [3, 6, 12, 1, 1, 1, 1, 1, 1, 1, 1, 1, 1]) (S' := kS_27) kp_J_28 rfl d_J_init_94 (by decide +kernel) (Nat.le_of_ble_eq_true rfl) rfl ?_
  refine kx_aload_n (pc := 97) 0 rfl d_J_init_97 ?_
  refine kx_iconst (pc := 98) (v := 3) d_J_init_98 (by decide) ?_
  refine kx_newI (pc := 99) (a := 14) (N := 3) (S' := kS_28) ka_I d_J_init_99 (by decide) (by decide) (Nat.le_of_ble_eq_true rfl) rfl (by decide +kernel) rfl rfl ((hf 14).trans (by decide +kernel)) (Nat.le_trans (Nat.le_of_ble_eq_true rfl) (Nat.le_of_eq hn.1.symm)) (Nat.le_trans (Nat.le_of_ble_eq_true rfl) (Nat.le_of_eq hn.2.symm)) rfl ?_
  refine kx_putR (pc := 101) (i := 0) (a := 0) (b := 14) (r := [3, 6, 12, 13, 1, 1, 1, 1, 1, 1, 1, 1, 1]) (S' := kS_29) kp_J_32 rfl d_J_init_101 (by decide +kernel) (Nat.le_of_ble_eq_true rfl) rfl ?_
  refine kx_aload_n (pc := 104) 0 rfl d_J_init_104 ?_
  refine kx_new (pc := 105) (a := 15) (r := [1, 1, 1, 1]) (S' := kS_30) cf_Co kl_J_35 kn_Co ini_Co d_J_init_105 nf_Co rfl rfl (by decide +kernel) rfl rfl ((hf 15).trans (by decide +kernel)) (Nat.le_trans (Nat.le_of_ble_eq_true rfl) (Nat.le_of_eq hn.1.symm)) (Nat.le_trans (Nat.le_of_ble_eq_true rfl) (Nat.le_of_eq hn.2.symm)) rfl ?_
  refine kx_dup (pc := 108) d_J_init_108 ?_
  refine kx_aload_n (pc := 109) 0 rfl d_J_init_109 ?_
  refine kx_getR (pc := 110) (i := 0) (a := 0) (b := 1) (r := [3, 6, 12, 13, 1, 1, 1, 1, 1, 1, 1, 1, 16]) gf_J_12 d_J_init_110 (by decide +kernel) rfl ?_
  refine kx_aload_n (pc := 113) 0 rfl d_J_init_113 ?_
  refine kx_getR (pc := 114) (i := 0) (a := 0) (b := 4) (r := [3, 6, 12, 13, 1, 1, 1, 1, 1, 1, 1, 1, 16]) gf_J_19 d_J_init_114 (by decide +kernel) rfl ?_
  refine kx_aload_n (pc := 117) 0 rfl d_J_init_117 ?_
  refine kx_getR (pc := 118) (i := 0) (a := 0) (b := 10) (r := [3, 6, 12, 13, 1, 1, 1, 1, 1, 1, 1, 1, 16]) gf_J_23 d_J_init_118 (by decide +kernel) rfl ?_
  refine kx_callI (pc := 121) (y := I_Co_init) (o := 15) (np := 3) (st := [.ref 15, .ref 0]) (S2 := kS_123) (M2 := kM_12) [.ref 1, .ref 4, .ref 10] co_Co_init rfl ini_Co ki_Co_init rfl lk_J_37 ⟨by decide +kernel, by decide +kernel, by decide +kernel⟩ rfl (Nat.le_of_ble_eq_true rfl) d_J_init_121 (Nat.le_of_ble_eq_true rfl) (Nat.le_of_ble_eq_true rfl) ct_Co_init (by decide +kernel) (by decide +kernel) (by decide +kernel) (fun b h _ => k_sub (by decide +kernel) ((hf b).symm.trans h)) (Nat.le_trans (Nat.le_of_ble_eq_true rfl) (Nat.le_of_eq hn.1.symm)) (Nat.le_trans (Nat.le_of_ble_eq_true rfl) (Nat.le_of_eq hn.2.symm)) ?_
  refine kx_putR (pc := 124) (i := 0) (a := 0) (b := 15) (r := [3, 6, 12, 13, 1, 1, 1, 1, 1, 1, 1, 1, 16]) (S' := kS_124) kp_J_40 rfl d_J_init_124 (by decide +kernel) (Nat.le_of_ble_eq_true rfl) rfl ?_
  refine kx_aload_n (pc := 127) 0 rfl d_J_init_127 ?_
  refine kx_new (pc := 128) (a := 17) (r := [1, 0, 0, 0]) (S' := kS_125) cf_Se kl_J_44 kn_Se ini_Se d_J_init_128 nf_Se rfl rfl (by decide +kernel) rfl rfl ((hf 17).trans (by decide +kernel)) (Nat.le_trans (Nat.le_of_ble_eq_true rfl) (Nat.le_of_eq hn.1.symm)) (Nat.le_trans (Nat.le_of_ble_eq_true rfl) (Nat.le_of_eq hn.2.symm)) rfl ?_
  refine kx_dup (pc := 131) d_J_init_131 ?_
  refine kx_callI (pc := 132) (y := I_Se_init) (o := 17) (np := 0) (st := [.ref 17, .ref 0]) (S2 := kS_127) (M2 := kM_45) [] co_Se_init rfl ini_Se ki_Se_init rfl lk_J_46 ⟨by decide +kernel, by decide +kernel, by decide +kernel⟩ rfl (Nat.le_of_ble_eq_true rfl) d_J_init_132 (Nat.le_of_ble_eq_true rfl) (Nat.le_of_ble_eq_true rfl) ct_Se_init (by decide +kernel) (by decide +kernel) (by decide +kernel) (fun b h _ => k_sub (by decide +kernel) ((hf b).symm.trans h)) (Nat.le_trans (Nat.le_of_ble_eq_true rfl) (Nat.le_of_eq hn.1.symm)) (Nat.le_trans (Nat.le_of_ble_eq_true rfl) (Nat.le_of_eq hn.2.symm)) ?_
  refine kx_putR (pc := 135) (i := 0) (a := 0) (b := 17) (r := [3, 6, 12, 13, 17, 1, 1, 1, 1, 1, 1, 1, 16]) (S' := kS_128) kp_J_47 rfl d_J_init_135 (by decide +kernel) (Nat.le_of_ble_eq_true rfl) rfl ?_
  refine kx_aload_n (pc := 138) 0 rfl d_J_init_138 ?_
  refine kx_new (pc := 139) (a := 19) (r := [1, 1, 0, 0]) (S' := kS_129) cf_Su kl_J_51 kn_Su ini_Su d_J_init_139 nf_Su rfl rfl (by decide +kernel) rfl rfl ((hf 19).trans (by decide +kernel)) (Nat.le_trans (Nat.le_of_ble_eq_true rfl) (Nat.le_of_eq hn.1.symm)) (Nat.le_trans (Nat.le_of_ble_eq_true rfl) (Nat.le_of_eq hn.2.symm)) rfl ?_
  refine kx_dup (pc := 142) d_J_init_142 ?_
  refine kx_aload_n (pc := 143) 0 rfl d_J_init_143 ?_
  refine kx_getR (pc := 144) (i := 0) (a := 0) (b := 15) (r := [3, 6, 12, 13, 17, 19, 1, 1, 1, 1, 1, 1, 16]) gf_J_40 d_J_init_144 (by decide +kernel) rfl ?_
  refine kx_callI (pc := 147) (y := I_Su_init) (o := 19) (np := 1) (st := [.ref 19, .ref 0]) (S2 := kS_132) (M2 := kM_45) [.ref 15] co_Su_init rfl ini_Su ki_Su_init rfl lk_J_53 ⟨by decide +kernel, by decide +kernel, by decide +kernel⟩ rfl (Nat.le_of_ble_eq_true rfl) d_J_init_147 (Nat.le_of_ble_eq_true rfl) (Nat.le_of_ble_eq_true rfl) ct_Su_init (by decide +kernel) (by decide +kernel) (by decide +kernel) (fun b h _ => k_sub (by decide +kernel) ((hf b).symm.trans h)) (Nat.le_trans (Nat.le_of_ble_eq_true rfl) (Nat.le_of_eq hn.1.symm)) (Nat.le_trans (Nat.le_of_ble_eq_true rfl) (Nat.le_of_eq hn.2.symm)) ?_
  refine kx_putR (pc := 150) (i := 0) (a := 0) (b := 19) (r := [3, 6, 12, 13, 17, 19, 1, 1, 1, 1, 1, 1, 16]) (S' := kS_133) kp_J_56 rfl d_J_init_150 (by decide +kernel) (Nat.le_of_ble_eq_true rfl) rfl ?_
  refine kx_aload_n (pc := 153) 0 rfl d_J_init_153 ?_
  refine kx_new (pc := 154) (a := 21) (r := [1, 0, 0, 0]) (S' := kS_134) cf_Tu kl_J_60 kn_Tu ini_Tu d_J_init_154 nf_Tu rfl rfl (by decide +kernel) rfl rfl ((hf 21).trans (by decide +kernel)) (Nat.le_trans (Nat.le_of_ble_eq_true rfl) (Nat.le_of_eq hn.1.symm)) (Nat.le_trans (Nat.le_of_ble_eq_true rfl) (Nat.le_of_eq hn.2.symm)) rfl ?_
  refine kx_dup (pc := 157) d_J_init_157 ?_
  refine kx_aload_n (pc := 158) 0 rfl d_J_init_158 ?_
  refine kx_getR (pc := 159) (i := 0) (a := 0) (b := 15) (r := [3, 6, 12, 13, 17, 19, 21, 1, 1, 1, 1, 1, 16]) gf_J_40 d_J_init_159 (by decide +kernel) rfl ?_
  refine kx_callI (pc := 162) (y := I_Tu_init) (o := 21) (np := 1) (st := [.ref 21, .ref 0]) (S2 := kS_135) (M2 := kM_45) [.ref 15] co_Tu_init rfl ini_Tu ki_Tu_init rfl lk_J_62 ⟨by decide +kernel, by decide +kernel, by decide +kernel⟩ rfl (Nat.le_of_ble_eq_true rfl) d_J_init_162 (Nat.le_of_ble_eq_true rfl) (Nat.le_of_ble_eq_true rfl) ct_Tu_init (by decide +kernel) (by decide +kernel) (by decide +kernel) (fun b h _ => k_sub (by decide +kernel) ((hf b).symm.trans h)) (Nat.le_trans (Nat.le_of_ble_eq_true rfl) (Nat.le_of_eq hn.1.symm)) (Nat.le_trans (Nat.le_of_ble_eq_true rfl) (Nat.le_of_eq hn.2.symm)) ?_
  refine kx_putR (pc := 165) (i := 0) (a := 0) (b := 21) (r := [3, 6, 12, 13, 17, 19, 21, 1, 1, 1, 1, 1, 16]) (S' := kS_136) kp_J_63 rfl d_J_init_165 (by decide +kernel) (Nat.le_of_ble_eq_true rfl) rfl ?_
  refine kx_aload_n (pc := 168) 0 rfl d_J_init_168 ?_
  refine kx_new (pc := 169) (a := 22) (r := [1, 0, 0, 0, 0, 0]) (S' := kS_137) cf_Ch kl_J_67 kn_Ch ini_Ch d_J_init_169 nf_Ch rfl rfl (by decide +kernel) rfl rfl ((hf 22).trans (by decide +kernel)) (Nat.le_trans (Nat.le_of_ble_eq_true rfl) (Nat.le_of_eq hn.1.symm)) (Nat.le_trans (Nat.le_of_ble_eq_true rfl) (Nat.le_of_eq hn.2.symm)) rfl ?_
  refine kx_dup (pc := 172) d_J_init_172 ?_
  refine kx_aload_n (pc := 173) 0 rfl d_J_init_173 ?_
  refine kx_getR (pc := 174) (i := 0) (a := 0) (b := 15) (r := [3, 6, 12, 13, 17, 19, 21, 23, 1, 1, 1, 1, 16]) gf_J_40 d_J_init_174 (by decide +kernel) rfl ?_
  refine kx_callI (pc := 177) (y := I_Ch_init) (o := 22) (np := 1) (st := [.ref 22, .ref 0]) (S2 := kS_138) (M2 := kM_45) [.ref 15] co_Ch_init rfl ini_Ch ki_Ch_init rfl lk_J_69 ⟨by decide +kernel, by decide +kernel, by decide +kernel⟩ rfl (Nat.le_of_ble_eq_true rfl) d_J_init_177 (Nat.le_of_ble_eq_true rfl) (Nat.le_of_ble_eq_true rfl) ct_Ch_init (by decide +kernel) (by decide +kernel) (by decide +kernel) (fun b h _ => k_sub (by decide +kernel) ((hf b).symm.trans h)) (Nat.le_trans (Nat.le_of_ble_eq_true rfl) (Nat.le_of_eq hn.1.symm)) (Nat.le_trans (Nat.le_of_ble_eq_true rfl) (Nat.le_of_eq hn.2.symm)) ?_
  refine kx_putR (pc := 180) (i := 0) (a := 0) (b := 22) (r := [3, 6, 12, 13, 17, 19, 21, 23, 1, 1, 1, 1, 16]) (S' := kS_139) kp_J_70 rfl d_J_init_180 (by decide +kernel) (Nat.le_of_ble_eq_true rfl) rfl ?_
  refine kx_aload_n (pc := 183) 0 rfl d_J_init_183 ?_
  refine kx_new (pc := 184) (a := 23) (r := [1, 1, 1, 0]) (S' := kS_140) cf_Sh kl_J_74 kn_Sh ini_Sh d_J_init_184 nf_Sh rfl rfl (by decide +kernel) rfl rfl ((hf 23).trans (by decide +kernel)) (Nat.le_trans (Nat.le_of_ble_eq_true rfl) (Nat.le_of_eq hn.1.symm)) (Nat.le_trans (Nat.le_of_ble_eq_true rfl) (Nat.le_of_eq hn.2.symm)) rfl ?_
  refine kx_dup (pc := 187) d_J_init_187 ?_
  refine kx_callI (pc := 188) (y := I_Sh_init) (o := 23) (np := 0) (st := [.ref 23, .ref 0]) (S2 := kS_146) (M2 := kM_49) [] co_Sh_init rfl ini_Sh ki_Sh_init rfl lk_J_76 ⟨by decide +kernel, by decide +kernel, by decide +kernel⟩ rfl (Nat.le_of_ble_eq_true rfl) d_J_init_188 (Nat.le_of_ble_eq_true rfl) (Nat.le_of_ble_eq_true rfl) ct_Sh_init (by decide +kernel) (by decide +kernel) (by decide +kernel) (fun b h _ => k_sub (by decide +kernel) ((hf b).symm.trans h)) (Nat.le_trans (Nat.le_of_ble_eq_true rfl) (Nat.le_of_eq hn.1.symm)) (Nat.le_trans (Nat.le_of_ble_eq_true rfl) (Nat.le_of_eq hn.2.symm)) ?_
  refine kx_putR (pc := 191) (i := 0) (a := 0) (b := 23) (r := [3, 6, 12, 13, 17, 19, 21, 23, 24, 1, 1, 1, 16]) (S' := kS_147) kp_J_77 rfl d_J_init_191 (by decide +kernel) (Nat.le_of_ble_eq_true rfl) rfl ?_
  refine kx_aload_n (pc := 194) 0 rfl d_J_init_194 ?_
  refine kx_iconst (pc := 195) (v := 2) d_J_init_195 (by decide) ?_
  refine kx_bipush (pc := 196) (v := 30) d_J_init_196 (by decide) ?_
  refine kx_multi (pc := 198) (a := 31) (N := 2) (K := 30) (S' := kS_148) kl_J_81 ka_I d_J_init_198 (by decide) (by decide) (by decide) (by decide) (Nat.le_of_ble_eq_true rfl) (Nat.le_of_ble_eq_true rfl) (fun j hj => by have h : j = 0 ∨ j = 1 := (by omega); rcases h with rfl | rfl <;> rfl) (fun t ht => by have h : t = 0 ∨ t = 1 ∨ t = 2 := (by omega); rcases h with rfl | rfl | rfl <;> decide +kernel) rfl rfl (fun t ht => by have h : t = 0 ∨ t = 1 ∨ t = 2 := (by omega); rcases h with rfl | rfl | rfl <;> exact (hf _).trans (by decide +kernel)) (Nat.le_trans (Nat.le_of_ble_eq_true rfl) (Nat.le_of_eq hn.1.symm)) (Nat.le_trans (Nat.le_of_ble_eq_true rfl) (Nat.le_of_eq hn.2.symm)) rfl ?_
  refine kx_putR (pc := 202) (i := 0) (a := 0) (b := 31) (r := [3, 6, 12, 13, 17, 19, 21, 23, 24, 25, 1, 1, 16]) (S' := kS_149) kp_J_82 rfl d_J_init_202 (by decide +kernel) (Nat.le_of_ble_eq_true rfl) rfl ?_
  refine kx_aload_n (pc := 205) 0 rfl d_J_init_205 ?_
  refine kx_bipush (pc := 206) (v := 21) d_J_init_206 (by decide) ?_
  refine kx_newI (pc := 208) (a := 34) (N := 21) (S' := kS_150) ka_I d_J_init_208 (by decide) (by decide) (Nat.le_of_ble_eq_true rfl) rfl (by decide +kernel) rfl rfl ((hf 34).trans (by decide +kernel)) (Nat.le_trans (Nat.le_of_ble_eq_true rfl) (Nat.le_of_eq hn.1.symm)) (Nat.le_trans (Nat.le_of_ble_eq_true rfl) (Nat.le_of_eq hn.2.symm)) rfl ?_
  refine kx_putR (pc := 210) (i := 0) (a := 0) (b := 34) (r := [3, 6, 12, 13, 17, 19, 21, 23, 24, 25, 33, 1, 16]) (S' := kS_151) kp_J_85 rfl d_J_init_210 (by decide +kernel) (Nat.le_of_ble_eq_true rfl) rfl ?_
  exact kx_ret (pc := 213) hX rfl d_J_init_213 rfl rfl
