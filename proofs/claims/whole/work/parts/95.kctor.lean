/-! CONSTRUCTORS, by program -/
set_option maxRecDepth 20000 in
theorem ct_R_init : k_Ct 1 24 1818 I_R_init [.ref 79] kS_152 kS_200 kM_49 kM_58 := by
  refine k_met (by decide +kernel) co_R_init (Nat.le_of_ble_eq_true rfl) (fun X hX => ?_)
  have hf := hX.f
  have hn := hX.n
  show k_W 1 I_R_init X 0 [some (.ref 79), none] [] kM_49 kS_152 0 0
  refine kx_aload_n (pc := 0) 0 rfl d_R_init_0 ?_
  refine kx_obj (pc := 1) ko_R_1 oi_1 oi_2 d_R_init_1 (Nat.le_of_ble_eq_true rfl) (Nat.le_of_ble_eq_true rfl) ?_
  refine kx_aload_n (pc := 4) 0 rfl d_R_init_4 ?_
  refine kx_bipush (pc := 5) (v := 23) d_R_init_5 (by decide) ?_
  refine kx_newI (pc := 7) (a := 80) (N := 23) (S' := kS_153) ka_I d_R_init_7 (by decide) (by decide) (Nat.le_of_ble_eq_true rfl) rfl (by decide +kernel) rfl rfl ((hf 80).trans (by decide +kernel)) (Nat.le_trans (Nat.le_of_ble_eq_true rfl) (Nat.le_of_eq hn.1.symm)) (Nat.le_trans (Nat.le_of_ble_eq_true rfl) (Nat.le_of_eq hn.2.symm)) rfl ?_
  refine kx_putR (pc := 9) (i := 79) (a := 79) (b := 80) (r := [1, 0, 0, 1, 1, 0, 0, 0, 0, 0, 0, 1, 1, 1, 0, 1, 1, 1, 0, 0, 1, 1, 0, 0, 1, 1, 1, 1, 0, 1, 1, 1, 0, 0, 1, 1, 1, 1, 1, 1, 0]) (S' := kS_154) kp_R_7 rfl d_R_init_9 (by decide +kernel) (Nat.le_of_ble_eq_true rfl) rfl ?_
  refine kx_aload_n (pc := 12) 0 rfl d_R_init_12 ?_
  refine kx_bipush (pc := 13) (v := 21) d_R_init_13 (by decide) ?_
  refine kx_newI (pc := 15) (a := 81) (N := 21) (S' := kS_155) ka_I d_R_init_15 (by decide) (by decide) (Nat.le_of_ble_eq_true rfl) rfl (by decide +kernel) rfl rfl ((hf 81).trans (by decide +kernel)) (Nat.le_trans (Nat.le_of_ble_eq_true rfl) (Nat.le_of_eq hn.1.symm)) (Nat.le_trans (Nat.le_of_ble_eq_true rfl) (Nat.le_of_eq hn.2.symm)) rfl ?_
  refine kx_putR (pc := 17) (i := 79) (a := 79) (b := 81) (r := [82, 0, 0, 1, 1, 0, 0, 0, 0, 0, 0, 1, 1, 1, 0, 1, 1, 1, 0, 0, 1, 1, 0, 0, 1, 1, 1, 1, 0, 1, 1, 1, 0, 0, 1, 1, 1, 1, 1, 1, 0]) (S' := kS_156) kp_R_13 rfl d_R_init_17 (by decide +kernel) (Nat.le_of_ble_eq_true rfl) rfl ?_
  refine kx_aload_n (pc := 20) 0 rfl d_R_init_20 ?_
  refine kx_bipush (pc := 21) (v := 6) d_R_init_21 (by decide) ?_
  refine kx_newI (pc := 23) (a := 82) (N := 6) (S' := kS_157) ka_I d_R_init_23 (by decide) (by decide) (Nat.le_of_ble_eq_true rfl) rfl (by decide +kernel) rfl rfl ((hf 82).trans (by decide +kernel)) (Nat.le_trans (Nat.le_of_ble_eq_true rfl) (Nat.le_of_eq hn.1.symm)) (Nat.le_trans (Nat.le_of_ble_eq_true rfl) (Nat.le_of_eq hn.2.symm)) rfl ?_
  refine kx_putR (pc := 25) (i := 79) (a := 79) (b := 82) (r := [82, 0, 0, 83, 1, 0, 0, 0, 0, 0, 0, 1, 1, 1, 0, 1, 1, 1, 0, 0, 1, 1, 0, 0, 1, 1, 1, 1, 0, 1, 1, 1, 0, 0, 1, 1, 1, 1, 1, 1, 0]) (S' := kS_158) kp_R_16 rfl d_R_init_25 (by decide +kernel) (Nat.le_of_ble_eq_true rfl) rfl ?_
  refine kx_aload_n (pc := 28) 0 rfl d_R_init_28 ?_
  refine kx_bipush (pc := 29) (v := 24) d_R_init_29 (by decide) ?_
  refine kx_newI (pc := 31) (a := 83) (N := 24) (S' := kS_159) ka_I d_R_init_31 (by decide) (by decide) (Nat.le_of_ble_eq_true rfl) rfl (by decide +kernel) rfl rfl ((hf 83).trans (by decide +kernel)) (Nat.le_trans (Nat.le_of_ble_eq_true rfl) (Nat.le_of_eq hn.1.symm)) (Nat.le_trans (Nat.le_of_ble_eq_true rfl) (Nat.le_of_eq hn.2.symm)) rfl ?_
  refine kx_putR (pc := 33) (i := 79) (a := 79) (b := 83) (r := [82, 0, 0, 83, 84, 0, 0, 0, 0, 0, 0, 1, 1, 1, 0, 1, 1, 1, 0, 0, 1, 1, 0, 0, 1, 1, 1, 1, 0, 1, 1, 1, 0, 0, 1, 1, 1, 1, 1, 1, 0]) (S' := kS_160) kp_R_19 rfl d_R_init_33 (by decide +kernel) (Nat.le_of_ble_eq_true rfl) rfl ?_
  refine kx_aload_n (pc := 36) 0 rfl d_R_init_36 ?_
  refine kx_bipush (pc := 37) (v := 24) d_R_init_37 (by decide) ?_
  refine kx_newI (pc := 39) (a := 84) (N := 24) (S' := kS_161) ka_I d_R_init_39 (by decide) (by decide) (Nat.le_of_ble_eq_true rfl) rfl (by decide +kernel) rfl rfl ((hf 84).trans (by decide +kernel)) (Nat.le_trans (Nat.le_of_ble_eq_true rfl) (Nat.le_of_eq hn.1.symm)) (Nat.le_trans (Nat.le_of_ble_eq_true rfl) (Nat.le_of_eq hn.2.symm)) rfl ?_
  refine kx_putR (pc := 41) (i := 79) (a := 79) (b := 84) (r := [82, 0, 0, 83, 84, 0, 0, 0, 0, 0, 0, 85, 1, 1, 0, 1, 1, 1, 0, 0, 1, 1, 0, 0, 1, 1, 1, 1, 0, 1, 1, 1, 0, 0, 1, 1, 1, 1, 1, 1, 0]) (S' := kS_162) kp_R_22 rfl d_R_init_41 (by decide +kernel) (Nat.le_of_ble_eq_true rfl) rfl ?_
  refine kx_aload_n (pc := 44) 0 rfl d_R_init_44 ?_
  refine kx_bipush (pc := 45) (v := 24) d_R_init_45 (by decide) ?_
  refine kx_newI (pc := 47) (a := 85) (N := 24) (S' := kS_163) ka_I d_R_init_47 (by decide) (by decide) (Nat.le_of_ble_eq_true rfl) rfl (by decide +kernel) rfl rfl ((hf 85).trans (by decide +kernel)) (Nat.le_trans (Nat.le_of_ble_eq_true rfl) (Nat.le_of_eq hn.1.symm)) (Nat.le_trans (Nat.le_of_ble_eq_true rfl) (Nat.le_of_eq hn.2.symm)) rfl ?_
  refine kx_putR (pc := 49) (i := 79) (a := 79) (b := 85) (r := [82, 0, 0, 83, 84, 0, 0, 0, 0, 0, 0, 85, 86, 1, 0, 1, 1, 1, 0, 0, 1, 1, 0, 0, 1, 1, 1, 1, 0, 1, 1, 1, 0, 0, 1, 1, 1, 1, 1, 1, 0]) (S' := kS_164) kp_R_25 rfl d_R_init_49 (by decide +kernel) (Nat.le_of_ble_eq_true rfl) rfl ?_
  refine kx_aload_n (pc := 52) 0 rfl d_R_init_52 ?_
  refine kx_bipush (pc := 53) (v := 30) d_R_init_53 (by decide) ?_
  refine kx_newI (pc := 55) (a := 86) (N := 30) (S' := kS_165) ka_I d_R_init_55 (by decide) (by decide) (Nat.le_of_ble_eq_true rfl) rfl (by decide +kernel) rfl rfl ((hf 86).trans (by decide +kernel)) (Nat.le_trans (Nat.le_of_ble_eq_true rfl) (Nat.le_of_eq hn.1.symm)) (Nat.le_trans (Nat.le_of_ble_eq_true rfl) (Nat.le_of_eq hn.2.symm)) rfl ?_
  refine kx_putR (pc := 57) (i := 79) (a := 79) (b := 86) (r := [82, 0, 0, 83, 84, 0, 0, 0, 0, 0, 0, 85, 86, 87, 0, 1, 1, 1, 0, 0, 1, 1, 0, 0, 1, 1, 1, 1, 0, 1, 1, 1, 0, 0, 1, 1, 1, 1, 1, 1, 0]) (S' := kS_166) kp_R_28 rfl d_R_init_57 (by decide +kernel) (Nat.le_of_ble_eq_true rfl) rfl ?_
  refine kx_aload_n (pc := 60) 0 rfl d_R_init_60 ?_
  refine kx_bipush (pc := 61) (v := 30) d_R_init_61 (by decide) ?_
  refine kx_newI (pc := 63) (a := 87) (N := 30) (S' := kS_167) ka_I d_R_init_63 (by decide) (by decide) (Nat.le_of_ble_eq_true rfl) rfl (by decide +kernel) rfl rfl ((hf 87).trans (by decide +kernel)) (Nat.le_trans (Nat.le_of_ble_eq_true rfl) (Nat.le_of_eq hn.1.symm)) (Nat.le_trans (Nat.le_of_ble_eq_true rfl) (Nat.le_of_eq hn.2.symm)) rfl ?_
  refine kx_putR (pc := 65) (i := 79) (a := 79) (b := 87) (r := [82, 0, 0, 83, 84, 0, 0, 0, 0, 0, 0, 85, 86, 87, 0, 88, 1, 1, 0, 0, 1, 1, 0, 0, 1, 1, 1, 1, 0, 1, 1, 1, 0, 0, 1, 1, 1, 1, 1, 1, 0]) (S' := kS_168) kp_R_31 rfl d_R_init_65 (by decide +kernel) (Nat.le_of_ble_eq_true rfl) rfl ?_
  refine kx_aload_n (pc := 68) 0 rfl d_R_init_68 ?_
  refine kx_bipush (pc := 69) (v := 30) d_R_init_69 (by decide) ?_
  refine kx_newI (pc := 71) (a := 88) (N := 30) (S' := kS_169) ka_I d_R_init_71 (by decide) (by decide) (Nat.le_of_ble_eq_true rfl) rfl (by decide +kernel) rfl rfl ((hf 88).trans (by decide +kernel)) (Nat.le_trans (Nat.le_of_ble_eq_true rfl) (Nat.le_of_eq hn.1.symm)) (Nat.le_trans (Nat.le_of_ble_eq_true rfl) (Nat.le_of_eq hn.2.symm)) rfl ?_
  refine kx_putR (pc := 73) (i := 79) (a := 79) (b := 88) (r := [82, 0, 0, 83, 84, 0, 0, 0, 0, 0, 0, 85, 86, 87, 0, 88, 89, 1, 0, 0, 1, 1, 0, 0, 1, 1, 1, 1, 0, 1, 1, 1, 0, 0, 1, 1, 1, 1, 1, 1, 0]) (S' := kS_170) kp_R_34 rfl d_R_init_73 (by decide +kernel) (Nat.le_of_ble_eq_true rfl) rfl ?_
  refine kx_aload_n (pc := 76) 0 rfl d_R_init_76 ?_
  refine kx_bipush (pc := 77) (v := 6) d_R_init_77 (by decide) ?_
  refine kx_newI (pc := 79) (a := 89) (N := 6) (S' := kS_171) ka_I d_R_init_79 (by decide) (by decide) (Nat.le_of_ble_eq_true rfl) rfl (by decide +kernel) rfl rfl ((hf 89).trans (by decide +kernel)) (Nat.le_trans (Nat.le_of_ble_eq_true rfl) (Nat.le_of_eq hn.1.symm)) (Nat.le_trans (Nat.le_of_ble_eq_true rfl) (Nat.le_of_eq hn.2.symm)) rfl ?_
  refine kx_putR (pc := 81) (i := 79) (a := 79) (b := 89) (r := [82, 0, 0, 83, 84, 0, 0, 0, 0, 0, 0, 85, 86, 87, 0, 88, 89, 90, 0, 0, 1, 1, 0, 0, 1, 1, 1, 1, 0, 1, 1, 1, 0, 0, 1, 1, 1, 1, 1, 1, 0]) (S' := kS_172) kp_R_37 rfl d_R_init_81 (by decide +kernel) (Nat.le_of_ble_eq_true rfl) rfl ?_
  refine kx_aload_n (pc := 84) 0 rfl d_R_init_84 ?_
  refine kx_bipush (pc := 85) (v := 6) d_R_init_85 (by decide) ?_
  refine kx_newI (pc := 87) (a := 90) (N := 6) (S' := kS_173) ka_I d_R_init_87 (by decide) (by decide) (Nat.le_of_ble_eq_true rfl) rfl (by decide +kernel) rfl rfl ((hf 90).trans (by decide +kernel)) (Nat.le_trans (Nat.le_of_ble_eq_true rfl) (Nat.le_of_eq hn.1.symm)) (Nat.le_trans (Nat.le_of_ble_eq_true rfl) (Nat.le_of_eq hn.2.symm)) rfl ?_
  refine kx_putR (pc := 89) (i := 79) (a := 79) (b := 90) (r := [82, 0, 0, 83, 84, 0, 0, 0, 0, 0, 0, 85, 86, 87, 0, 88, 89, 90, 0, 0, 91, 1, 0, 0, 1, 1, 1, 1, 0, 1, 1, 1, 0, 0, 1, 1, 1, 1, 1, 1, 0]) (S' := kS_174) kp_R_40 rfl d_R_init_89 (by decide +kernel) (Nat.le_of_ble_eq_true rfl) rfl ?_
  refine kx_aload_n (pc := 92) 0 rfl d_R_init_92 ?_
  refine kx_bipush (pc := 93) (v := 30) d_R_init_93 (by decide) ?_
  refine kx_newI (pc := 95) (a := 91) (N := 30) (S' := kS_175) ka_I d_R_init_95 (by decide) (by decide) (Nat.le_of_ble_eq_true rfl) rfl (by decide +kernel) rfl rfl ((hf 91).trans (by decide +kernel)) (Nat.le_trans (Nat.le_of_ble_eq_true rfl) (Nat.le_of_eq hn.1.symm)) (Nat.le_trans (Nat.le_of_ble_eq_true rfl) (Nat.le_of_eq hn.2.symm)) rfl ?_
  refine kx_putR (pc := 97) (i := 79) (a := 79) (b := 91) (r := [82, 0, 0, 83, 84, 0, 0, 0, 0, 0, 0, 85, 86, 87, 0, 88, 89, 90, 0, 0, 91, 92, 0, 0, 1, 1, 1, 1, 0, 1, 1, 1, 0, 0, 1, 1, 1, 1, 1, 1, 0]) (S' := kS_176) kp_R_43 rfl d_R_init_97 (by decide +kernel) (Nat.le_of_ble_eq_true rfl) rfl ?_
  refine kx_aload_n (pc := 100) 0 rfl d_R_init_100 ?_
  refine kx_bipush (pc := 101) (v := 30) d_R_init_101 (by decide) ?_
  refine kx_newI (pc := 103) (a := 92) (N := 30) (S' := kS_177) ka_I d_R_init_103 (by decide) (by decide) (Nat.le_of_ble_eq_true rfl) rfl (by decide +kernel) rfl rfl ((hf 92).trans (by decide +kernel)) (Nat.le_trans (Nat.le_of_ble_eq_true rfl) (Nat.le_of_eq hn.1.symm)) (Nat.le_trans (Nat.le_of_ble_eq_true rfl) (Nat.le_of_eq hn.2.symm)) rfl ?_
  refine kx_putR (pc := 105) (i := 79) (a := 79) (b := 92) (r := [82, 0, 0, 83, 84, 0, 0, 0, 0, 0, 0, 85, 86, 87, 0, 88, 89, 90, 0, 0, 91, 92, 0, 0, 93, 1, 1, 1, 0, 1, 1, 1, 0, 0, 1, 1, 1, 1, 1, 1, 0]) (S' := kS_178) kp_R_46 rfl d_R_init_105 (by decide +kernel) (Nat.le_of_ble_eq_true rfl) rfl ?_
  refine kx_aload_n (pc := 108) 0 rfl d_R_init_108 ?_
  refine kx_iconst (pc := 109) (v := 3) d_R_init_109 (by decide) ?_
  refine kx_newI (pc := 110) (a := 93) (N := 3) (S' := kS_179) ka_I d_R_init_110 (by decide) (by decide) (Nat.le_of_ble_eq_true rfl) rfl (by decide +kernel) rfl rfl ((hf 93).trans (by decide +kernel)) (Nat.le_trans (Nat.le_of_ble_eq_true rfl) (Nat.le_of_eq hn.1.symm)) (Nat.le_trans (Nat.le_of_ble_eq_true rfl) (Nat.le_of_eq hn.2.symm)) rfl ?_
  refine kx_putR (pc := 112) (i := 79) (a := 79) (b := 93) (r := [82, 0, 0, 83, 84, 0, 0, 0, 0, 0, 0, 85, 86, 87, 0, 88, 89, 90, 0, 0, 91, 92, 0, 0, 93, 94, 1, 1, 0, 1, 1, 1, 0, 0, 1, 1, 1, 1, 1, 1, 0]) (S' := kS_180) kp_R_49 rfl d_R_init_112 (by decide +kernel) (Nat.le_of_ble_eq_true rfl) rfl ?_
  refine kx_aload_n (pc := 115) 0 rfl d_R_init_115 ?_
  refine kx_sipush (pc := 116) (v := 256) d_R_init_116 (by decide) ?_
  refine kx_newZ (pc := 119) (a := 94) (N := 256) (S' := kS_181) ka_Z d_R_init_119 (by decide) (by decide) (Nat.le_of_ble_eq_true rfl) rfl (by decide +kernel) rfl rfl ((hf 94).trans (by decide +kernel)) (Nat.le_trans (Nat.le_of_ble_eq_true rfl) (Nat.le_of_eq hn.1.symm)) (Nat.le_trans (Nat.le_of_ble_eq_true rfl) (Nat.le_of_eq hn.2.symm)) rfl ?_
  refine kx_putR (pc := 121) (i := 79) (a := 79) (b := 94) (r := [82, 0, 0, 83, 84, 0, 0, 0, 0, 0, 0, 85, 86, 87, 0, 88, 89, 90, 0, 0, 91, 92, 0, 0, 93, 94, 95, 1, 0, 1, 1, 1, 0, 0, 1, 1, 1, 1, 1, 1, 0]) (S' := kS_182) kp_R_52 rfl d_R_init_121 (by decide +kernel) (Nat.le_of_ble_eq_true rfl) rfl ?_
  refine kx_aload_n (pc := 124) 0 rfl d_R_init_124 ?_
  refine kx_bipush (pc := 125) (v := 8) d_R_init_125 (by decide) ?_
  refine kx_newI (pc := 127) (a := 95) (N := 8) (S' := kS_183) ka_I d_R_init_127 (by decide) (by decide) (Nat.le_of_ble_eq_true rfl) rfl (by decide +kernel) rfl rfl ((hf 95).trans (by decide +kernel)) (Nat.le_trans (Nat.le_of_ble_eq_true rfl) (Nat.le_of_eq hn.1.symm)) (Nat.le_trans (Nat.le_of_ble_eq_true rfl) (Nat.le_of_eq hn.2.symm)) rfl ?_
  refine kx_putR (pc := 129) (i := 79) (a := 79) (b := 95) (r := [82, 0, 0, 83, 84, 0, 0, 0, 0, 0, 0, 85, 86, 87, 0, 88, 89, 90, 0, 0, 91, 92, 0, 0, 93, 94, 95, 96, 0, 1, 1, 1, 0, 0, 1, 1, 1, 1, 1, 1, 0]) (S' := kS_184) kp_R_56 rfl d_R_init_129 (by decide +kernel) (Nat.le_of_ble_eq_true rfl) rfl ?_
  refine kx_aload_n (pc := 132) 0 rfl d_R_init_132 ?_
  refine kx_bipush (pc := 133) (v := 8) d_R_init_133 (by decide) ?_
  refine kx_newI (pc := 135) (a := 96) (N := 8) (S' := kS_185) ka_I d_R_init_135 (by decide) (by decide) (Nat.le_of_ble_eq_true rfl) rfl (by decide +kernel) rfl rfl ((hf 96).trans (by decide +kernel)) (Nat.le_trans (Nat.le_of_ble_eq_true rfl) (Nat.le_of_eq hn.1.symm)) (Nat.le_trans (Nat.le_of_ble_eq_true rfl) (Nat.le_of_eq hn.2.symm)) rfl ?_
  refine kx_putR (pc := 137) (i := 79) (a := 79) (b := 96) (r := [82, 0, 0, 83, 84, 0, 0, 0, 0, 0, 0, 85, 86, 87, 0, 88, 89, 90, 0, 0, 91, 92, 0, 0, 93, 94, 95, 96, 0, 97, 1, 1, 0, 0, 1, 1, 1, 1, 1, 1, 0]) (S' := kS_186) kp_R_59 rfl d_R_init_137 (by decide +kernel) (Nat.le_of_ble_eq_true rfl) rfl ?_
  refine kx_aload_n (pc := 140) 0 rfl d_R_init_140 ?_
  refine kx_sipush (pc := 141) (v := 1000) d_R_init_141 (by decide) ?_
  refine kx_newZ (pc := 144) (a := 97) (N := 1000) (S' := kS_187) ka_Z d_R_init_144 (by decide) (by decide) (Nat.le_of_ble_eq_true rfl) rfl (by decide +kernel) rfl rfl ((hf 97).trans (by decide +kernel)) (Nat.le_trans (Nat.le_of_ble_eq_true rfl) (Nat.le_of_eq hn.1.symm)) (Nat.le_trans (Nat.le_of_ble_eq_true rfl) (Nat.le_of_eq hn.2.symm)) rfl ?_
  refine kx_putR (pc := 146) (i := 79) (a := 79) (b := 97) (r := [82, 0, 0, 83, 84, 0, 0, 0, 0, 0, 0, 85, 86, 87, 0, 88, 89, 90, 0, 0, 91, 92, 0, 0, 93, 94, 95, 96, 0, 97, 98, 1, 0, 0, 1, 1, 1, 1, 1, 1, 0]) (S' := kS_188) kp_R_62 rfl d_R_init_146 (by decide +kernel) (Nat.le_of_ble_eq_true rfl) rfl ?_
  refine kx_aload_n (pc := 149) 0 rfl d_R_init_149 ?_
  refine kx_bipush (pc := 150) (v := 7) d_R_init_150 (by decide) ?_
  refine kx_newI (pc := 152) (a := 98) (N := 7) (S' := kS_189) ka_I d_R_init_152 (by decide) (by decide) (Nat.le_of_ble_eq_true rfl) rfl (by decide +kernel) rfl rfl ((hf 98).trans (by decide +kernel)) (Nat.le_trans (Nat.le_of_ble_eq_true rfl) (Nat.le_of_eq hn.1.symm)) (Nat.le_trans (Nat.le_of_ble_eq_true rfl) (Nat.le_of_eq hn.2.symm)) rfl ?_
  refine kx_putR (pc := 154) (i := 79) (a := 79) (b := 98) (r := [82, 0, 0, 83, 84, 0, 0, 0, 0, 0, 0, 85, 86, 87, 0, 88, 89, 90, 0, 0, 91, 92, 0, 0, 93, 94, 95, 96, 0, 97, 98, 99, 0, 0, 1, 1, 1, 1, 1, 1, 0]) (S' := kS_190) kp_R_65 rfl d_R_init_154 (by decide +kernel) (Nat.le_of_ble_eq_true rfl) rfl ?_
  refine kx_aload_n (pc := 157) 0 rfl d_R_init_157 ?_
  refine kx_iconst (pc := 158) (v := 4) d_R_init_158 (by decide) ?_
  refine kx_newZ (pc := 159) (a := 99) (N := 4) (S' := kS_191) ka_Z d_R_init_159 (by decide) (by decide) (Nat.le_of_ble_eq_true rfl) rfl (by decide +kernel) rfl rfl ((hf 99).trans (by decide +kernel)) (Nat.le_trans (Nat.le_of_ble_eq_true rfl) (Nat.le_of_eq hn.1.symm)) (Nat.le_trans (Nat.le_of_ble_eq_true rfl) (Nat.le_of_eq hn.2.symm)) rfl ?_
  refine kx_putR (pc := 161) (i := 79) (a := 79) (b := 99) (r := [82, 0, 0, 83, 84, 0, 0, 0, 0, 0, 0, 85, 86, 87, 0, 88, 89, 90, 0, 0, 91, 92, 0, 0, 93, 94, 95, 96, 0, 97, 98, 99, 0, 0, 100, 1, 1, 1, 1, 1, 0]) (S' := kS_192) kp_R_68 rfl d_R_init_161 (by decide +kernel) (Nat.le_of_ble_eq_true rfl) rfl ?_
  refine kx_aload_n (pc := 164) 0 rfl d_R_init_164 ?_
  refine kx_iconst (pc := 165) (v := 4) d_R_init_165 (by decide) ?_
  refine kx_newI (pc := 166) (a := 100) (N := 4) (S' := kS_193) ka_I d_R_init_166 (by decide) (by decide) (Nat.le_of_ble_eq_true rfl) rfl (by decide +kernel) rfl rfl ((hf 100).trans (by decide +kernel)) (Nat.le_trans (Nat.le_of_ble_eq_true rfl) (Nat.le_of_eq hn.1.symm)) (Nat.le_trans (Nat.le_of_ble_eq_true rfl) (Nat.le_of_eq hn.2.symm)) rfl ?_
  refine kx_putR (pc := 168) (i := 79) (a := 79) (b := 100) (r := [82, 0, 0, 83, 84, 0, 0, 0, 0, 0, 0, 85, 86, 87, 0, 88, 89, 90, 0, 0, 91, 92, 0, 0, 93, 94, 95, 96, 0, 97, 98, 99, 0, 0, 100, 101, 1, 1, 1, 1, 0]) (S' := kS_194) kp_R_71 rfl d_R_init_168 (by decide +kernel) (Nat.le_of_ble_eq_true rfl) rfl ?_
  refine kx_aload_n (pc := 171) 0 rfl d_R_init_171 ?_
  refine kx_iconst (pc := 172) (v := 4) d_R_init_172 (by decide) ?_
  refine kx_newI (pc := 173) (a := 101) (N := 4) (S' := kS_195) ka_I d_R_init_173 (by decide) (by decide) (Nat.le_of_ble_eq_true rfl) rfl (by decide +kernel) rfl rfl ((hf 101).trans (by decide +kernel)) (Nat.le_trans (Nat.le_of_ble_eq_true rfl) (Nat.le_of_eq hn.1.symm)) (Nat.le_trans (Nat.le_of_ble_eq_true rfl) (Nat.le_of_eq hn.2.symm)) rfl ?_
  refine kx_putR (pc := 175) (i := 79) (a := 79) (b := 101) (r := [82, 0, 0, 83, 84, 0, 0, 0, 0, 0, 0, 85, 86, 87, 0, 88, 89, 90, 0, 0, 91, 92, 0, 0, 93, 94, 95, 96, 0, 97, 98, 99, 0, 0, 100, 101, 102, 1, 1, 1, 0]) (S' := kS_196) kp_R_74 rfl d_R_init_175 (by decide +kernel) (Nat.le_of_ble_eq_true rfl) rfl ?_
  refine kx_aload_n (pc := 178) 0 rfl d_R_init_178 ?_
  refine kx_sipush (pc := 179) (v := 192) d_R_init_179 (by decide) ?_
  refine kx_newI (pc := 182) (a := 102) (N := 192) (S' := kS_197) ka_I d_R_init_182 (by decide) (by decide) (Nat.le_of_ble_eq_true rfl) rfl (by decide +kernel) rfl rfl ((hf 102).trans (by decide +kernel)) (Nat.le_trans (Nat.le_of_ble_eq_true rfl) (Nat.le_of_eq hn.1.symm)) (Nat.le_trans (Nat.le_of_ble_eq_true rfl) (Nat.le_of_eq hn.2.symm)) rfl ?_
  refine kx_putR (pc := 184) (i := 79) (a := 79) (b := 102) (r := [82, 0, 0, 83, 84, 0, 0, 0, 0, 0, 0, 85, 86, 87, 0, 88, 89, 90, 0, 0, 91, 92, 0, 0, 93, 94, 95, 96, 0, 97, 98, 99, 0, 0, 100, 101, 102, 103, 1, 1, 0]) (S' := kS_198) kp_R_77 rfl d_R_init_184 (by decide +kernel) (Nat.le_of_ble_eq_true rfl) rfl ?_
  refine kx_aload_n (pc := 187) 0 rfl d_R_init_187 ?_
  refine kx_bipush (pc := 188) (v := 48) d_R_init_188 (by decide) ?_
  refine kx_newI (pc := 190) (a := 103) (N := 48) (S' := kS_199) ka_I d_R_init_190 (by decide) (by decide) (Nat.le_of_ble_eq_true rfl) rfl (by decide +kernel) rfl rfl ((hf 103).trans (by decide +kernel)) (Nat.le_trans (Nat.le_of_ble_eq_true rfl) (Nat.le_of_eq hn.1.symm)) (Nat.le_trans (Nat.le_of_ble_eq_true rfl) (Nat.le_of_eq hn.2.symm)) rfl ?_
  refine kx_putR (pc := 192) (i := 79) (a := 79) (b := 103) (r := [82, 0, 0, 83, 84, 0, 0, 0, 0, 0, 0, 85, 86, 87, 0, 88, 89, 90, 0, 0, 91, 92, 0, 0, 93, 94, 95, 96, 0, 97, 98, 99, 0, 0, 100, 101, 102, 103, 104, 1, 0]) (S' := kS_200) kp_R_80 rfl d_R_init_192 (by decide +kernel) (Nat.le_of_ble_eq_true rfl) rfl ?_
  refine kx_iconst (pc := 195) (v := 0) d_R_init_195 (by decide) ?_
  refine kx_istore_n (pc := 196) 1 (L' := [some (.ref 79), some (.int 0)]) (Nat.le_of_ble_eq_true rfl) (Or.inr rfl) d_R_init_196 rfl ?_
  refine kx_iload_n (pc := 197) 1 rfl d_R_init_197 ?_
  refine kx_bipush (pc := 198) (v := 6) d_R_init_198 (by decide) ?_
  refine kx_ige_f (pc := 200) 216 d_R_init_200 (by decide) (by decide) ?_
  refine kx_aload_n (pc := 203) 0 rfl d_R_init_203 ?_
  refine kx_getR (pc := 204) (i := 79) (a := 79) (b := 82) (r := [82, 0, 0, 83, 84, 0, 0, 0, 0, 0, 0, 85, 86, 87, 0, 88, 89, 90, 0, 0, 91, 92, 0, 0, 93, 94, 95, 96, 0, 97, 98, 99, 0, 0, 100, 101, 102, 103, 104, 105, 0]) gf_R_16 d_R_init_204 (by decide +kernel) rfl ?_
  refine kx_iload_n (pc := 207) 1 rfl d_R_init_207 ?_
  refine kx_iconst (pc := 208) (v := 1) d_R_init_208 (by decide) ?_
  refine kx_iast (pc := 209) (i := 82) (a := 82) (N := 6) (M' := kM_50) d_R_init_209 (by decide +kernel) (by unfold vp_in; decide) rfl ?_
  refine kx_iinc (pc := 210) 1 (L' := [some (.ref 79), some (.int 1)]) rfl (Nat.le_of_ble_eq_true rfl) (Or.inr rfl) d_R_init_210 rfl ?_
  refine kx_goto (pc := 213) 197 d_R_init_213 (by decide) ?_
  refine kx_iload_n (pc := 197) 1 rfl d_R_init_197 ?_
  refine kx_bipush (pc := 198) (v := 6) d_R_init_198 (by decide) ?_
  refine kx_ige_f (pc := 200) 216 d_R_init_200 (by decide) (by decide) ?_
  refine kx_aload_n (pc := 203) 0 rfl d_R_init_203 ?_
  refine kx_getR (pc := 204) (i := 79) (a := 79) (b := 82) (r := [82, 0, 0, 83, 84, 0, 0, 0, 0, 0, 0, 85, 86, 87, 0, 88, 89, 90, 0, 0, 91, 92, 0, 0, 93, 94, 95, 96, 0, 97, 98, 99, 0, 0, 100, 101, 102, 103, 104, 105, 0]) gf_R_16 d_R_init_204 (by decide +kernel) rfl ?_
  refine kx_iload_n (pc := 207) 1 rfl d_R_init_207 ?_
  refine kx_iconst (pc := 208) (v := 1) d_R_init_208 (by decide) ?_
  refine kx_iast (pc := 209) (i := 82) (a := 82) (N := 6) (M' := kM_51) d_R_init_209 (by decide +kernel) (by unfold vp_in; decide) rfl ?_
  refine kx_iinc (pc := 210) 1 (L' := [some (.ref 79), some (.int 2)]) rfl (Nat.le_of_ble_eq_true rfl) (Or.inr rfl) d_R_init_210 rfl ?_
  refine kx_goto (pc := 213) 197 d_R_init_213 (by decide) ?_
  refine kx_iload_n (pc := 197) 1 rfl d_R_init_197 ?_
  refine kx_bipush (pc := 198) (v := 6) d_R_init_198 (by decide) ?_
  refine kx_ige_f (pc := 200) 216 d_R_init_200 (by decide) (by decide) ?_
  refine kx_aload_n (pc := 203) 0 rfl d_R_init_203 ?_
  refine kx_getR (pc := 204) (i := 79) (a := 79) (b := 82) (r := [82, 0, 0, 83, 84, 0, 0, 0, 0, 0, 0, 85, 86, 87, 0, 88, 89, 90, 0, 0, 91, 92, 0, 0, 93, 94, 95, 96, 0, 97, 98, 99, 0, 0, 100, 101, 102, 103, 104, 105, 0]) gf_R_16 d_R_init_204 (by decide +kernel) rfl ?_
  refine kx_iload_n (pc := 207) 1 rfl d_R_init_207 ?_
  refine kx_iconst (pc := 208) (v := 1) d_R_init_208 (by decide) ?_
  refine kx_iast (pc := 209) (i := 82) (a := 82) (N := 6) (M' := kM_52) d_R_init_209 (by decide +kernel) (by unfold vp_in; decide) rfl ?_
  refine kx_iinc (pc := 210) 1 (L' := [some (.ref 79), some (.int 3)]) rfl (Nat.le_of_ble_eq_true rfl) (Or.inr rfl) d_R_init_210 rfl ?_
  refine kx_goto (pc := 213) 197 d_R_init_213 (by decide) ?_
  refine kx_iload_n (pc := 197) 1 rfl d_R_init_197 ?_
  refine kx_bipush (pc := 198) (v := 6) d_R_init_198 (by decide) ?_
  refine kx_ige_f (pc := 200) 216 d_R_init_200 (by decide) (by decide) ?_
  refine kx_aload_n (pc := 203) 0 rfl d_R_init_203 ?_
  refine kx_getR (pc := 204) (i := 79) (a := 79) (b := 82) (r := [82, 0, 0, 83, 84, 0, 0, 0, 0, 0, 0, 85, 86, 87, 0, 88, 89, 90, 0, 0, 91, 92, 0, 0, 93, 94, 95, 96, 0, 97, 98, 99, 0, 0, 100, 101, 102, 103, 104, 105, 0]) gf_R_16 d_R_init_204 (by decide +kernel) rfl ?_
  refine kx_iload_n (pc := 207) 1 rfl d_R_init_207 ?_
  refine kx_iconst (pc := 208) (v := 1) d_R_init_208 (by decide) ?_
  refine kx_iast (pc := 209) (i := 82) (a := 82) (N := 6) (M' := kM_53) d_R_init_209 (by decide +kernel) (by unfold vp_in; decide) rfl ?_
  refine kx_iinc (pc := 210) 1 (L' := [some (.ref 79), some (.int 4)]) rfl (Nat.le_of_ble_eq_true rfl) (Or.inr rfl) d_R_init_210 rfl ?_
  refine kx_goto (pc := 213) 197 d_R_init_213 (by decide) ?_
  refine kx_iload_n (pc := 197) 1 rfl d_R_init_197 ?_
  refine kx_bipush (pc := 198) (v := 6) d_R_init_198 (by decide) ?_
  refine kx_ige_f (pc := 200) 216 d_R_init_200 (by decide) (by decide) ?_
  refine kx_aload_n (pc := 203) 0 rfl d_R_init_203 ?_
  refine kx_getR (pc := 204) (i := 79) (a := 79) (b := 82) (r := [82, 0, 0, 83, 84, 0, 0, 0, 0, 0, 0, 85, 86, 87, 0, 88, 89, 90, 0, 0, 91, 92, 0, 0, 93, 94, 95, 96, 0, 97, 98, 99, 0, 0, 100, 101, 102, 103, 104, 105, 0]) gf_R_16 d_R_init_204 (by decide +kernel) rfl ?_
  refine kx_iload_n (pc := 207) 1 rfl d_R_init_207 ?_
  refine kx_iconst (pc := 208) (v := 1) d_R_init_208 (by decide) ?_
  refine kx_iast (pc := 209) (i := 82) (a := 82) (N := 6) (M' := kM_54) d_R_init_209 (by decide +kernel) (by unfold vp_in; decide) rfl ?_
  refine kx_iinc (pc := 210) 1 (L' := [some (.ref 79), some (.int 5)]) rfl (Nat.le_of_ble_eq_true rfl) (Or.inr rfl) d_R_init_210 rfl ?_
  refine kx_goto (pc := 213) 197 d_R_init_213 (by decide) ?_
  refine kx_iload_n (pc := 197) 1 rfl d_R_init_197 ?_
  refine kx_bipush (pc := 198) (v := 6) d_R_init_198 (by decide) ?_
  refine kx_ige_f (pc := 200) 216 d_R_init_200 (by decide) (by decide) ?_
  refine kx_aload_n (pc := 203) 0 rfl d_R_init_203 ?_
  refine kx_getR (pc := 204) (i := 79) (a := 79) (b := 82) (r := [82, 0, 0, 83, 84, 0, 0, 0, 0, 0, 0, 85, 86, 87, 0, 88, 89, 90, 0, 0, 91, 92, 0, 0, 93, 94, 95, 96, 0, 97, 98, 99, 0, 0, 100, 101, 102, 103, 104, 105, 0]) gf_R_16 d_R_init_204 (by decide +kernel) rfl ?_
  refine kx_iload_n (pc := 207) 1 rfl d_R_init_207 ?_
  refine kx_iconst (pc := 208) (v := 1) d_R_init_208 (by decide) ?_
  refine kx_iast (pc := 209) (i := 82) (a := 82) (N := 6) (M' := kM_55) d_R_init_209 (by decide +kernel) (by unfold vp_in; decide) rfl ?_
  refine kx_iinc (pc := 210) 1 (L' := [some (.ref 79), some (.int 6)]) rfl (Nat.le_of_ble_eq_true rfl) (Or.inr rfl) d_R_init_210 rfl ?_
  refine kx_goto (pc := 213) 197 d_R_init_213 (by decide) ?_
  refine kx_iload_n (pc := 197) 1 rfl d_R_init_197 ?_
  refine kx_bipush (pc := 198) (v := 6) d_R_init_198 (by decide) ?_
  refine kx_ige_t (pc := 200) 216 d_R_init_200 (by decide) (by decide) ?_
  refine kx_aload_n (pc := 216) 0 rfl d_R_init_216 ?_
  refine kx_iconst (pc := 217) (v := 1) d_R_init_217 (by decide) ?_
  refine kx_putT (pc := 218) (i := 79) (a := 79) (r := [82, 0, 0, 83, 84, 0, 0, 0, 0, 0, 0, 85, 86, 87, 0, 88, 89, 90, 0, 0, 91, 92, 0, 0, 93, 94, 95, 96, 0, 97, 98, 99, 0, 0, 100, 101, 102, 103, 104, 105, 0]) (M' := kM_56) pf_R_83 rfl rfl d_R_init_218 (by decide +kernel) rfl rfl ?_
  refine kx_aload_n (pc := 221) 0 rfl d_R_init_221 ?_
  refine kx_iconst (pc := 222) (v := 3) d_R_init_222 (by decide) ?_
  refine kx_putT (pc := 223) (i := 79) (a := 79) (r := [82, 0, 0, 83, 84, 0, 0, 0, 0, 0, 0, 85, 86, 87, 0, 88, 89, 90, 0, 0, 91, 92, 0, 0, 93, 94, 95, 96, 0, 97, 98, 99, 0, 0, 100, 101, 102, 103, 104, 105, 0]) (M' := kM_57) pf_R_87 rfl rfl d_R_init_223 (by decide +kernel) rfl rfl ?_
  refine kx_aload_n (pc := 226) 0 rfl d_R_init_226 ?_
  refine kx_iconst (pc := 227) (v := 2) d_R_init_227 (by decide) ?_
  refine kx_putT (pc := 228) (i := 79) (a := 79) (r := [82, 0, 0, 83, 84, 0, 0, 0, 0, 0, 0, 85, 86, 87, 0, 88, 89, 90, 0, 0, 91, 92, 0, 0, 93, 94, 95, 96, 0, 97, 98, 99, 0, 0, 100, 101, 102, 103, 104, 105, 0]) (M' := kM_58) pf_R_90 rfl rfl d_R_init_228 (by decide +kernel) rfl rfl ?_
  exact kx_ret (pc := 231) hX rfl d_R_init_231 rfl rfl
