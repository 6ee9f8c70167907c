set_option maxRecDepth 16384 in
theorem vi_8_8 (l : Launch) : ve_OK vs_A l 59 (ve_HI vs_A l 59 vs_M) (ve_CB vs_A l 59 (ve_HI vs_A l 59 vs_M) vs_M) "java/util/ArrayList" prog_39_method_2_code 1 none "<init>" 8 (ve_pf 11 1 [47] (.array (.object "java/lang/Object"))) := ve_putf_ok (by decide +kernel : decode prog_39_method_2_code 8 = .ok (.putfield 9, 3)) vw_119 vf_75 vf_74
set_option maxRecDepth 16384 in
theorem vi_8_11 (l : Launch) : ve_OK vs_A l 59 (ve_HI vs_A l 59 vs_M) (ve_CB vs_A l 59 (ve_HI vs_A l 59 vs_M) vs_M) "java/util/ArrayList" prog_39_method_2_code 1 none "<init>" 11 (ve_rt 0 .int) := ve_vret_ok (by decide +kernel : decode prog_39_method_2_code 11 = .ok (.return_, 1)) rfl
set_option maxRecDepth 16384 in
theorem vi_9_0 (l : Launch) : ve_OK vs_A l 59 (ve_HI vs_A l 59 vs_M) (ve_CB vs_A l 59 (ve_HI vs_A l 59 vs_M) vs_M) "java/util/AbstractList" prog_38_method_1_code 1 none "<init>" 0 (ve_pu (ve_al 1 0)) := ve_pu_ok (ve_aload_n_ok (k := 0) (i := 0) (by decide +kernel : decode prog_38_method_1_code 0 = .ok (.aload_n 0, 1)) rfl)
set_option maxRecDepth 16384 in
theorem vi_9_1 (l : Launch) : ve_OK vs_A l 59 (ve_HI vs_A l 59 vs_M) (ve_CB vs_A l 59 (ve_HI vs_A l 59 vs_M) vs_M) "java/util/AbstractList" prog_38_method_1_code 1 none "<init>" 1 (ve_cw 59 1 4 [(47, 10)]) := ve_cw_ok rfl (List.forall_mem_cons.mpr ⟨ve_rowI (md := vs_M) (A0 := vs_A) (mi := 10) (na := 0) (by decide +kernel : decode prog_38_method_1_code 1 = .ok (.invokespecial 1, 3)) (by decide) vw_123 vw_120 vw_121 vw_122 rfl ⟨by decide, by decide⟩ vf_2 rfl rfl 47, List.forall_mem_nil _⟩)
set_option maxRecDepth 16384 in
theorem vi_9_4 (l : Launch) : ve_OK vs_A l 59 (ve_HI vs_A l 59 vs_M) (ve_CB vs_A l 59 (ve_HI vs_A l 59 vs_M) vs_M) "java/util/AbstractList" prog_38_method_1_code 1 none "<init>" 4 (ve_pu (ve_al 5 0)) := ve_pu_ok (ve_aload_n_ok (k := 0) (i := 0) (by decide +kernel : decode prog_38_method_1_code 4 = .ok (.aload_n 0, 1)) rfl)
set_option maxRecDepth 16384 in
theorem vi_9_5 (l : Launch) : ve_OK vs_A l 59 (ve_HI vs_A l 59 vs_M) (ve_CB vs_A l 59 (ve_HI vs_A l 59 vs_M) vs_M) "java/util/AbstractList" prog_38_method_1_code 1 none "<init>" 5 (ve_pu (ve_push 6 (.int (0)))) := ve_pu_ok (ve_iconst_ok (n := 0) (v := 0) (by decide +kernel : decode prog_38_method_1_code 5 = .ok (.iconst (0), 1)) rfl)
set_option maxRecDepth 16384 in
theorem vi_9_6 (l : Launch) : ve_OK vs_A l 59 (ve_HI vs_A l 59 vs_M) (ve_CB vs_A l 59 (ve_HI vs_A l 59 vs_M) vs_M) "java/util/AbstractList" prog_38_method_1_code 1 none "<init>" 6 (ve_pf 9 0 [47] .int) := ve_putf_ok (by decide +kernel : decode prog_38_method_1_code 6 = .ok (.putfield 7, 3)) vw_124 vf_77 vf_76
set_option maxRecDepth 16384 in
theorem vi_9_9 (l : Launch) : ve_OK vs_A l 59 (ve_HI vs_A l 59 vs_M) (ve_CB vs_A l 59 (ve_HI vs_A l 59 vs_M) vs_M) "java/util/AbstractList" prog_38_method_1_code 1 none "<init>" 9 (ve_rt 0 .int) := ve_vret_ok (by decide +kernel : decode prog_38_method_1_code 9 = .ok (.return_, 1)) rfl
set_option maxRecDepth 16384 in
theorem vi_10_0 (l : Launch) : ve_OK vs_A l 59 (ve_HI vs_A l 59 vs_M) (ve_CB vs_A l 59 (ve_HI vs_A l 59 vs_M) vs_M) "java/util/AbstractCollection" prog_37_method_1_code 1 none "<init>" 0 (ve_pu (ve_al 1 0)) := ve_pu_ok (ve_aload_n_ok (k := 0) (i := 0) (by decide +kernel : decode prog_37_method_1_code 0 = .ok (.aload_n 0, 1)) rfl)
set_option maxRecDepth 16384 in
theorem vi_10_1 (l : Launch) : ve_OK vs_A l 59 (ve_HI vs_A l 59 vs_M) (ve_CB vs_A l 59 (ve_HI vs_A l 59 vs_M) vs_M) "java/util/AbstractCollection" prog_37_method_1_code 1 none "<init>" 1 (ve_pu (ve_oi 4)) := ve_cu_ok (ve_oi_ok (by decide +kernel : decode prog_37_method_1_code 1 = .ok (.invokespecial 1, 3)) vw_125 vw_44 vw_45)
set_option maxRecDepth 16384 in
theorem vi_10_4 (l : Launch) : ve_OK vs_A l 59 (ve_HI vs_A l 59 vs_M) (ve_CB vs_A l 59 (ve_HI vs_A l 59 vs_M) vs_M) "java/util/AbstractCollection" prog_37_method_1_code 1 none "<init>" 4 (ve_rt 0 .int) := ve_vret_ok (by decide +kernel : decode prog_37_method_1_code 4 = .ok (.return_, 1)) rfl
set_option maxRecDepth 16384 in
theorem vi_11_0 (l : Launch) : ve_OK vs_A l 59 (ve_HI vs_A l 59 vs_M) (ve_CB vs_A l 59 (ve_HI vs_A l 59 vs_M) vs_M) "java/util/ArrayList" prog_39_method_25_code 2 (some .boolean) "add" 0 (ve_pu (ve_al 1 0)) := ve_pu_ok (ve_aload_n_ok (k := 0) (i := 0) (by decide +kernel : decode prog_39_method_25_code 0 = .ok (.aload_n 0, 1)) rfl)
set_option maxRecDepth 16384 in
theorem vi_11_1 (l : Launch) : ve_OK vs_A l 59 (ve_HI vs_A l 59 vs_M) (ve_CB vs_A l 59 (ve_HI vs_A l 59 vs_M) vs_M) "java/util/ArrayList" prog_39_method_25_code 2 (some .boolean) "add" 1 (ve_pu (ve_dup 2)) := ve_pu_ok (ve_dup_ok (by decide +kernel : decode prog_39_method_25_code 1 = .ok (.dup, 1)))
set_option maxRecDepth 16384 in
theorem vi_11_2 (l : Launch) : ve_OK vs_A l 59 (ve_HI vs_A l 59 vs_M) (ve_CB vs_A l 59 (ve_HI vs_A l 59 vs_M) vs_M) "java/util/ArrayList" prog_39_method_25_code 2 (some .boolean) "add" 2 (ve_gf 5 0) := ve_getf_ok (k := 0) (by decide +kernel : decode prog_39_method_25_code 2 = .ok (.getfield 63, 3)) vw_126 vf_78
set_option maxRecDepth 16384 in
theorem vi_11_5 (l : Launch) : ve_OK vs_A l 59 (ve_HI vs_A l 59 vs_M) (ve_CB vs_A l 59 (ve_HI vs_A l 59 vs_M) vs_M) "java/util/ArrayList" prog_39_method_25_code 2 (some .boolean) "add" 5 (ve_pu (ve_push 6 (.int (1)))) := ve_pu_ok (ve_iconst_ok (n := 1) (v := 1) (by decide +kernel : decode prog_39_method_25_code 5 = .ok (.iconst (1), 1)) rfl)
set_option maxRecDepth 16384 in
theorem vi_11_6 (l : Launch) : ve_OK vs_A l 59 (ve_HI vs_A l 59 vs_M) (ve_CB vs_A l 59 (ve_HI vs_A l 59 vs_M) vs_M) "java/util/ArrayList" prog_39_method_25_code 2 (some .boolean) "add" 6 (ve_pu (ve_iadd 7)) := ve_pu_ok (ve_iadd_ok (by decide +kernel : decode prog_39_method_25_code 6 = .ok (.iadd, 1)))
set_option maxRecDepth 16384 in
theorem vi_11_7 (l : Launch) : ve_OK vs_A l 59 (ve_HI vs_A l 59 vs_M) (ve_CB vs_A l 59 (ve_HI vs_A l 59 vs_M) vs_M) "java/util/ArrayList" prog_39_method_25_code 2 (some .boolean) "add" 7 (ve_pf 10 0 [47] .int) := ve_putf_ok (by decide +kernel : decode prog_39_method_25_code 7 = .ok (.putfield 63, 3)) vw_126 vf_79 vf_76
set_option maxRecDepth 16384 in
theorem vi_11_10 (l : Launch) : ve_OK vs_A l 59 (ve_HI vs_A l 59 vs_M) (ve_CB vs_A l 59 (ve_HI vs_A l 59 vs_M) vs_M) "java/util/ArrayList" prog_39_method_25_code 2 (some .boolean) "add" 10 (ve_pu (ve_al 11 0)) := ve_pu_ok (ve_aload_n_ok (k := 0) (i := 0) (by decide +kernel : decode prog_39_method_25_code 10 = .ok (.aload_n 0, 1)) rfl)
set_option maxRecDepth 16384 in
theorem vi_11_11 (l : Launch) : ve_OK vs_A l 59 (ve_HI vs_A l 59 vs_M) (ve_CB vs_A l 59 (ve_HI vs_A l 59 vs_M) vs_M) "java/util/ArrayList" prog_39_method_25_code 2 (some .boolean) "add" 11 (ve_pu (ve_al 12 1)) := ve_pu_ok (ve_aload_n_ok (k := 1) (i := 1) (by decide +kernel : decode prog_39_method_25_code 11 = .ok (.aload_n 1, 1)) rfl)
set_option maxRecDepth 16384 in
theorem vi_11_12 (l : Launch) : ve_OK vs_A l 59 (ve_HI vs_A l 59 vs_M) (ve_CB vs_A l 59 (ve_HI vs_A l 59 vs_M) vs_M) "java/util/ArrayList" prog_39_method_25_code 2 (some .boolean) "add" 12 (ve_pu (ve_al 13 0)) := ve_pu_ok (ve_aload_n_ok (k := 0) (i := 0) (by decide +kernel : decode prog_39_method_25_code 12 = .ok (.aload_n 0, 1)) rfl)
set_option maxRecDepth 16384 in
theorem vi_11_13 (l : Launch) : ve_OK vs_A l 59 (ve_HI vs_A l 59 vs_M) (ve_CB vs_A l 59 (ve_HI vs_A l 59 vs_M) vs_M) "java/util/ArrayList" prog_39_method_25_code 2 (some .boolean) "add" 13 (ve_gf 16 1) := ve_getf_ok (k := 1) (by decide +kernel : decode prog_39_method_25_code 13 = .ok (.getfield 9, 3)) vw_119 vf_80
set_option maxRecDepth 16384 in
theorem vi_11_16 (l : Launch) : ve_OK vs_A l 59 (ve_HI vs_A l 59 vs_M) (ve_CB vs_A l 59 (ve_HI vs_A l 59 vs_M) vs_M) "java/util/ArrayList" prog_39_method_25_code 2 (some .boolean) "add" 16 (ve_pu (ve_al 17 0)) := ve_pu_ok (ve_aload_n_ok (k := 0) (i := 0) (by decide +kernel : decode prog_39_method_25_code 16 = .ok (.aload_n 0, 1)) rfl)
set_option maxRecDepth 16384 in
theorem vi_11_17 (l : Launch) : ve_OK vs_A l 59 (ve_HI vs_A l 59 vs_M) (ve_CB vs_A l 59 (ve_HI vs_A l 59 vs_M) vs_M) "java/util/ArrayList" prog_39_method_25_code 2 (some .boolean) "add" 17 (ve_gf 20 2) := ve_getf_ok (k := 2) (by decide +kernel : decode prog_39_method_25_code 17 = .ok (.getfield 48, 3)) vw_127 vf_81
set_option maxRecDepth 16384 in
theorem vi_11_20 (l : Launch) : ve_OK vs_A l 59 (ve_HI vs_A l 59 vs_M) (ve_CB vs_A l 59 (ve_HI vs_A l 59 vs_M) vs_M) "java/util/ArrayList" prog_39_method_25_code 2 (some .boolean) "add" 20 (ve_cw 59 4 23 [(47, 12)]) := ve_cw_ok rfl (List.forall_mem_cons.mpr ⟨ve_rowU (md := vs_M) (A0 := vs_A) (mi := 12) (na := 3) (k := 47) (C := "java/util/ArrayList") (owner := "java/util/ArrayList") (x := ⟨"java/util/ArrayList", "add", "(Ljava/lang/Object;[Ljava/lang/Object;I)V"⟩) (by decide +kernel : decode prog_39_method_25_code 20 = .ok (.invokevirtual 131, 3)) (by decide) vw_130 vw_128 vw_96 vw_129 rfl vw_131 vw_132 vf_83 ⟨by decide, by decide⟩ vf_58 vf_82, List.forall_mem_nil _⟩)
set_option maxRecDepth 16384 in
theorem vi_11_23 (l : Launch) : ve_OK vs_A l 59 (ve_HI vs_A l 59 vs_M) (ve_CB vs_A l 59 (ve_HI vs_A l 59 vs_M) vs_M) "java/util/ArrayList" prog_39_method_25_code 2 (some .boolean) "add" 23 (ve_pu (ve_push 24 (.int (1)))) := ve_pu_ok (ve_iconst_ok (n := 1) (v := 1) (by decide +kernel : decode prog_39_method_25_code 23 = .ok (.iconst (1), 1)) rfl)
set_option maxRecDepth 16384 in
theorem vi_11_24 (l : Launch) : ve_OK vs_A l 59 (ve_HI vs_A l 59 vs_M) (ve_CB vs_A l 59 (ve_HI vs_A l 59 vs_M) vs_M) "java/util/ArrayList" prog_39_method_25_code 2 (some .boolean) "add" 24 (ve_rt 1 .boolean) := ve_iret_ok (by decide +kernel : decode prog_39_method_25_code 24 = .ok (.ireturn, 1)) rfl
set_option maxRecDepth 16384 in
theorem vi_12_0 (l : Launch) : ve_OK vs_A l 59 (ve_HI vs_A l 59 vs_M) (ve_CB vs_A l 59 (ve_HI vs_A l 59 vs_M) vs_M) "java/util/ArrayList" prog_39_method_24_code 4 none "add" 0 (ve_pu (ve_il 1 3)) := ve_pu_ok (ve_iload_n_ok (k := 3) (i := 3) (by decide +kernel : decode prog_39_method_24_code 0 = .ok (.iload_n 3, 1)) rfl)
set_option maxRecDepth 16384 in
theorem vi_12_1 (l : Launch) : ve_OK vs_A l 59 (ve_HI vs_A l 59 vs_M) (ve_CB vs_A l 59 (ve_HI vs_A l 59 vs_M) vs_M) "java/util/ArrayList" prog_39_method_24_code 4 none "add" 1 (ve_pu (ve_al 2 2)) := ve_pu_ok (ve_aload_n_ok (k := 2) (i := 2) (by decide +kernel : decode prog_39_method_24_code 1 = .ok (.aload_n 2, 1)) rfl)
set_option maxRecDepth 16384 in
theorem vi_12_2 (l : Launch) : ve_OK vs_A l 59 (ve_HI vs_A l 59 vs_M) (ve_CB vs_A l 59 (ve_HI vs_A l 59 vs_M) vs_M) "java/util/ArrayList" prog_39_method_24_code 4 none "add" 2 (ve_len 3 57) := ve_len_ok (by decide +kernel : decode prog_39_method_24_code 2 = .ok (.arraylength, 1)) vf_84
set_option maxRecDepth 16384 in
theorem vi_12_3 (l : Launch) : ve_OK vs_A l 59 (ve_HI vs_A l 59 vs_M) (ve_CB vs_A l 59 (ve_HI vs_A l 59 vs_M) vs_M) "java/util/ArrayList" prog_39_method_24_code 4 none "add" 3 (ve_pu (ve_br2 (fun x y => decide (¬ x = y)) 11 6)) := ve_pu_ok (ve_icmp_ne_ok (by decide +kernel : decode prog_39_method_24_code 3 = .ok (.if_icmp .ne (8), 3)) (by decide +kernel))
set_option maxRecDepth 16384 in
theorem vi_12_6 (l : Launch) : ve_OK vs_A l 59 (ve_HI vs_A l 59 vs_M) (ve_CB vs_A l 59 (ve_HI vs_A l 59 vs_M) vs_M) "java/util/ArrayList" prog_39_method_24_code 4 none "add" 6 (ve_pu (ve_al 7 0)) := ve_pu_ok (ve_aload_n_ok (k := 0) (i := 0) (by decide +kernel : decode prog_39_method_24_code 6 = .ok (.aload_n 0, 1)) rfl)
set_option maxRecDepth 16384 in
theorem vi_12_7 (l : Launch) : ve_OK vs_A l 59 (ve_HI vs_A l 59 vs_M) (ve_CB vs_A l 59 (ve_HI vs_A l 59 vs_M) vs_M) "java/util/ArrayList" prog_39_method_24_code 4 none "add" 7 (ve_cw 59 1 10 [(47, 13)]) := ve_cw_ok rfl (List.forall_mem_cons.mpr ⟨ve_rowU (md := vs_M) (A0 := vs_A) (mi := 13) (na := 0) (k := 47) (C := "java/util/ArrayList") (owner := "java/util/ArrayList") (x := ⟨"java/util/ArrayList", "grow", "()[Ljava/lang/Object;"⟩) (by decide +kernel : decode prog_39_method_24_code 7 = .ok (.invokevirtual 129, 3)) (by decide) vw_135 vw_133 vw_96 vw_134 rfl vw_136 vw_137 vf_86 ⟨by decide, by decide⟩ vf_58 vf_85, List.forall_mem_nil _⟩)
set_option maxRecDepth 16384 in
theorem vi_12_10 (l : Launch) : ve_OK vs_A l 59 (ve_HI vs_A l 59 vs_M) (ve_CB vs_A l 59 (ve_HI vs_A l 59 vs_M) vs_M) "java/util/ArrayList" prog_39_method_24_code 4 none "add" 10 (ve_pu (ve_as 11 2 4)) := ve_pu_ok (ve_astore_n_ok (k := 2) (i := 2) (by decide +kernel : decode prog_39_method_24_code 10 = .ok (.astore_n 2, 1)) rfl)
set_option maxRecDepth 16384 in
theorem vi_12_11 (l : Launch) : ve_OK vs_A l 59 (ve_HI vs_A l 59 vs_M) (ve_CB vs_A l 59 (ve_HI vs_A l 59 vs_M) vs_M) "java/util/ArrayList" prog_39_method_24_code 4 none "add" 11 (ve_pu (ve_al 12 2)) := ve_pu_ok (ve_aload_n_ok (k := 2) (i := 2) (by decide +kernel : decode prog_39_method_24_code 11 = .ok (.aload_n 2, 1)) rfl)
set_option maxRecDepth 16384 in
theorem vi_12_12 (l : Launch) : ve_OK vs_A l 59 (ve_HI vs_A l 59 vs_M) (ve_CB vs_A l 59 (ve_HI vs_A l 59 vs_M) vs_M) "java/util/ArrayList" prog_39_method_24_code 4 none "add" 12 (ve_pu (ve_il 13 3)) := ve_pu_ok (ve_iload_n_ok (k := 3) (i := 3) (by decide +kernel : decode prog_39_method_24_code 12 = .ok (.iload_n 3, 1)) rfl)
set_option maxRecDepth 16384 in
theorem vi_12_13 (l : Launch) : ve_OK vs_A l 59 (ve_HI vs_A l 59 vs_M) (ve_CB vs_A l 59 (ve_HI vs_A l 59 vs_M) vs_M) "java/util/ArrayList" prog_39_method_24_code 4 none "add" 13 (ve_pu (ve_al 14 1)) := ve_pu_ok (ve_aload_n_ok (k := 1) (i := 1) (by decide +kernel : decode prog_39_method_24_code 13 = .ok (.aload_n 1, 1)) rfl)
set_option maxRecDepth 16384 in
theorem vi_12_14 (l : Launch) : ve_OK vs_A l 59 (ve_HI vs_A l 59 vs_M) (ve_CB vs_A l 59 (ve_HI vs_A l 59 vs_M) vs_M) "java/util/ArrayList" prog_39_method_24_code 4 none "add" 14 (ve_aas 15 57 [47]) := ve_aast_ok (by decide +kernel : decode prog_39_method_24_code 14 = .ok (.aastore, 1)) vf_87
set_option maxRecDepth 16384 in
theorem vi_12_15 (l : Launch) : ve_OK vs_A l 59 (ve_HI vs_A l 59 vs_M) (ve_CB vs_A l 59 (ve_HI vs_A l 59 vs_M) vs_M) "java/util/ArrayList" prog_39_method_24_code 4 none "add" 15 (ve_pu (ve_al 16 0)) := ve_pu_ok (ve_aload_n_ok (k := 0) (i := 0) (by decide +kernel : decode prog_39_method_24_code 15 = .ok (.aload_n 0, 1)) rfl)
set_option maxRecDepth 16384 in
theorem vi_12_16 (l : Launch) : ve_OK vs_A l 59 (ve_HI vs_A l 59 vs_M) (ve_CB vs_A l 59 (ve_HI vs_A l 59 vs_M) vs_M) "java/util/ArrayList" prog_39_method_24_code 4 none "add" 16 (ve_pu (ve_il 17 3)) := ve_pu_ok (ve_iload_n_ok (k := 3) (i := 3) (by decide +kernel : decode prog_39_method_24_code 16 = .ok (.iload_n 3, 1)) rfl)
set_option maxRecDepth 16384 in
theorem vi_12_17 (l : Launch) : ve_OK vs_A l 59 (ve_HI vs_A l 59 vs_M) (ve_CB vs_A l 59 (ve_HI vs_A l 59 vs_M) vs_M) "java/util/ArrayList" prog_39_method_24_code 4 none "add" 17 (ve_pu (ve_push 18 (.int (1)))) := ve_pu_ok (ve_iconst_ok (n := 1) (v := 1) (by decide +kernel : decode prog_39_method_24_code 17 = .ok (.iconst (1), 1)) rfl)
set_option maxRecDepth 16384 in
theorem vi_12_18 (l : Launch) : ve_OK vs_A l 59 (ve_HI vs_A l 59 vs_M) (ve_CB vs_A l 59 (ve_HI vs_A l 59 vs_M) vs_M) "java/util/ArrayList" prog_39_method_24_code 4 none "add" 18 (ve_pu (ve_iadd 19)) := ve_pu_ok (ve_iadd_ok (by decide +kernel : decode prog_39_method_24_code 18 = .ok (.iadd, 1)))
set_option maxRecDepth 16384 in
theorem vi_12_19 (l : Launch) : ve_OK vs_A l 59 (ve_HI vs_A l 59 vs_M) (ve_CB vs_A l 59 (ve_HI vs_A l 59 vs_M) vs_M) "java/util/ArrayList" prog_39_method_24_code 4 none "add" 19 (ve_pf 22 2 [47] .int) := ve_putf_ok (by decide +kernel : decode prog_39_method_24_code 19 = .ok (.putfield 48, 3)) vw_127 vf_89 vf_88
set_option maxRecDepth 16384 in
theorem vi_12_22 (l : Launch) : ve_OK vs_A l 59 (ve_HI vs_A l 59 vs_M) (ve_CB vs_A l 59 (ve_HI vs_A l 59 vs_M) vs_M) "java/util/ArrayList" prog_39_method_24_code 4 none "add" 22 (ve_rt 0 .int) := ve_vret_ok (by decide +kernel : decode prog_39_method_24_code 22 = .ok (.return_, 1)) rfl
set_option maxRecDepth 16384 in
theorem vi_13_0 (l : Launch) : ve_OK vs_A l 59 (ve_HI vs_A l 59 vs_M) (ve_CB vs_A l 59 (ve_HI vs_A l 59 vs_M) vs_M) "java/util/ArrayList" prog_39_method_7_code 1 (some (.array (.object "java/lang/Object"))) "grow" 0 (ve_pu (ve_al 1 0)) := ve_pu_ok (ve_aload_n_ok (k := 0) (i := 0) (by decide +kernel : decode prog_39_method_7_code 0 = .ok (.aload_n 0, 1)) rfl)
set_option maxRecDepth 16384 in
theorem vi_13_1 (l : Launch) : ve_OK vs_A l 59 (ve_HI vs_A l 59 vs_M) (ve_CB vs_A l 59 (ve_HI vs_A l 59 vs_M) vs_M) "java/util/ArrayList" prog_39_method_7_code 1 (some (.array (.object "java/lang/Object"))) "grow" 1 (ve_pu (ve_al 2 0)) := ve_pu_ok (ve_aload_n_ok (k := 0) (i := 0) (by decide +kernel : decode prog_39_method_7_code 1 = .ok (.aload_n 0, 1)) rfl)
set_option maxRecDepth 16384 in
theorem vi_13_2 (l : Launch) : ve_OK vs_A l 59 (ve_HI vs_A l 59 vs_M) (ve_CB vs_A l 59 (ve_HI vs_A l 59 vs_M) vs_M) "java/util/ArrayList" prog_39_method_7_code 1 (some (.array (.object "java/lang/Object"))) "grow" 2 (ve_gf 5 2) := ve_getf_ok (k := 2) (by decide +kernel : decode prog_39_method_7_code 2 = .ok (.getfield 48, 3)) vw_127 vf_81
set_option maxRecDepth 16384 in
theorem vi_13_5 (l : Launch) : ve_OK vs_A l 59 (ve_HI vs_A l 59 vs_M) (ve_CB vs_A l 59 (ve_HI vs_A l 59 vs_M) vs_M) "java/util/ArrayList" prog_39_method_7_code 1 (some (.array (.object "java/lang/Object"))) "grow" 5 (ve_pu (ve_push 6 (.int (1)))) := ve_pu_ok (ve_iconst_ok (n := 1) (v := 1) (by decide +kernel : decode prog_39_method_7_code 5 = .ok (.iconst (1), 1)) rfl)
set_option maxRecDepth 16384 in
theorem vi_13_6 (l : Launch) : ve_OK vs_A l 59 (ve_HI vs_A l 59 vs_M) (ve_CB vs_A l 59 (ve_HI vs_A l 59 vs_M) vs_M) "java/util/ArrayList" prog_39_method_7_code 1 (some (.array (.object "java/lang/Object"))) "grow" 6 (ve_pu (ve_iadd 7)) := ve_pu_ok (ve_iadd_ok (by decide +kernel : decode prog_39_method_7_code 6 = .ok (.iadd, 1)))
set_option maxRecDepth 16384 in
theorem vi_13_7 (l : Launch) : ve_OK vs_A l 59 (ve_HI vs_A l 59 vs_M) (ve_CB vs_A l 59 (ve_HI vs_A l 59 vs_M) vs_M) "java/util/ArrayList" prog_39_method_7_code 1 (some (.array (.object "java/lang/Object"))) "grow" 7 (ve_cw 59 2 10 [(47, 14)]) := ve_cw_ok rfl (List.forall_mem_cons.mpr ⟨ve_rowU (md := vs_M) (A0 := vs_A) (mi := 14) (na := 1) (k := 47) (C := "java/util/ArrayList") (owner := "java/util/ArrayList") (x := ⟨"java/util/ArrayList", "grow", "(I)[Ljava/lang/Object;"⟩) (by decide +kernel : decode prog_39_method_7_code 7 = .ok (.invokevirtual 69, 3)) (by decide) vw_140 vw_138 vw_96 vw_139 rfl vw_141 vw_142 vf_91 ⟨by decide, by decide⟩ vf_58 vf_90, List.forall_mem_nil _⟩)
set_option maxRecDepth 16384 in
theorem vi_13_10 (l : Launch) : ve_OK vs_A l 59 (ve_HI vs_A l 59 vs_M) (ve_CB vs_A l 59 (ve_HI vs_A l 59 vs_M) vs_M) "java/util/ArrayList" prog_39_method_7_code 1 (some (.array (.object "java/lang/Object"))) "grow" 10 (ve_rt 3 (.array (.object "java/lang/Object"))) := ve_aret_ok (rt := (.array (.object "java/lang/Object"))) (by decide +kernel : decode prog_39_method_7_code 10 = .ok (.areturn, 1)) rfl (Or.inr ⟨_, rfl⟩)
set_option maxRecDepth 16384 in
theorem vi_14_0 (l : Launch) : ve_OK vs_A l 59 (ve_HI vs_A l 59 vs_M) (ve_CB vs_A l 59 (ve_HI vs_A l 59 vs_M) vs_M) "java/util/ArrayList" prog_39_method_6_code 4 (some (.array (.object "java/lang/Object"))) "grow" 0 (ve_pu (ve_al 1 0)) := ve_pu_ok (ve_aload_n_ok (k := 0) (i := 0) (by decide +kernel : decode prog_39_method_6_code 0 = .ok (.aload_n 0, 1)) rfl)
set_option maxRecDepth 16384 in
theorem vi_14_1 (l : Launch) : ve_OK vs_A l 59 (ve_HI vs_A l 59 vs_M) (ve_CB vs_A l 59 (ve_HI vs_A l 59 vs_M) vs_M) "java/util/ArrayList" prog_39_method_6_code 4 (some (.array (.object "java/lang/Object"))) "grow" 1 (ve_gf 4 1) := ve_getf_ok (k := 1) (by decide +kernel : decode prog_39_method_6_code 1 = .ok (.getfield 9, 3)) vw_119 vf_80
set_option maxRecDepth 16384 in
theorem vi_14_4 (l : Launch) : ve_OK vs_A l 59 (ve_HI vs_A l 59 vs_M) (ve_CB vs_A l 59 (ve_HI vs_A l 59 vs_M) vs_M) "java/util/ArrayList" prog_39_method_6_code 4 (some (.array (.object "java/lang/Object"))) "grow" 4 (ve_len 5 57) := ve_len_ok (by decide +kernel : decode prog_39_method_6_code 4 = .ok (.arraylength, 1)) vf_84
set_option maxRecDepth 16384 in
theorem vi_14_5 (l : Launch) : ve_OK vs_A l 59 (ve_HI vs_A l 59 vs_M) (ve_CB vs_A l 59 (ve_HI vs_A l 59 vs_M) vs_M) "java/util/ArrayList" prog_39_method_6_code 4 (some (.array (.object "java/lang/Object"))) "grow" 5 (ve_pu (ve_is 6 2 4)) := ve_pu_ok (ve_istore_n_ok (k := 2) (i := 2) (by decide +kernel : decode prog_39_method_6_code 5 = .ok (.istore_n 2, 1)) rfl)
set_option maxRecDepth 16384 in
theorem vi_14_6 (l : Launch) : ve_OK vs_A l 59 (ve_HI vs_A l 59 vs_M) (ve_CB vs_A l 59 (ve_HI vs_A l 59 vs_M) vs_M) "java/util/ArrayList" prog_39_method_6_code 4 (some (.array (.object "java/lang/Object"))) "grow" 6 (ve_pu (ve_il 7 2)) := ve_pu_ok (ve_iload_n_ok (k := 2) (i := 2) (by decide +kernel : decode prog_39_method_6_code 6 = .ok (.iload_n 2, 1)) rfl)
set_option maxRecDepth 16384 in
theorem vi_14_7 (l : Launch) : ve_OK vs_A l 59 (ve_HI vs_A l 59 vs_M) (ve_CB vs_A l 59 (ve_HI vs_A l 59 vs_M) vs_M) "java/util/ArrayList" prog_39_method_6_code 4 (some (.array (.object "java/lang/Object"))) "grow" 7 (ve_pu (ve_br1 (fun x => decide (0 < x)) 20 10)) := ve_pu_ok (ve_if_gt_ok (by decide +kernel : decode prog_39_method_6_code 7 = .ok (.ifCond .gt (13), 3)) (by decide +kernel))
set_option maxRecDepth 16384 in
theorem vi_14_10 (l : Launch) : ve_OK vs_A l 59 (ve_HI vs_A l 59 vs_M) (ve_CB vs_A l 59 (ve_HI vs_A l 59 vs_M) vs_M) "java/util/ArrayList" prog_39_method_6_code 4 (some (.array (.object "java/lang/Object"))) "grow" 10 (ve_pu (ve_al 11 0)) := ve_pu_ok (ve_aload_n_ok (k := 0) (i := 0) (by decide +kernel : decode prog_39_method_6_code 10 = .ok (.aload_n 0, 1)) rfl)
set_option maxRecDepth 16384 in
theorem vi_14_11 (l : Launch) : ve_OK vs_A l 59 (ve_HI vs_A l 59 vs_M) (ve_CB vs_A l 59 (ve_HI vs_A l 59 vs_M) vs_M) "java/util/ArrayList" prog_39_method_6_code 4 (some (.array (.object "java/lang/Object"))) "grow" 11 (ve_gf 14 1) := ve_getf_ok (k := 1) (by decide +kernel : decode prog_39_method_6_code 11 = .ok (.getfield 9, 3)) vw_119 vf_80
set_option maxRecDepth 16384 in
theorem vi_14_14 (l : Launch) : ve_OK vs_A l 59 (ve_HI vs_A l 59 vs_M) (ve_CB vs_A l 59 (ve_HI vs_A l 59 vs_M) vs_M) "java/util/ArrayList" prog_39_method_6_code 4 (some (.array (.object "java/lang/Object"))) "grow" 14 (ve_gs 17 6 3) := ve_gets_ok (by decide +kernel : decode prog_39_method_6_code 14 = .ok (.getstatic 39, 3)) vw_118 (by decide) vf_73
set_option maxRecDepth 16384 in
theorem vi_14_17 (l : Launch) : ve_OK vs_A l 59 (ve_HI vs_A l 59 vs_M) (ve_CB vs_A l 59 (ve_HI vs_A l 59 vs_M) vs_M) "java/util/ArrayList" prog_39_method_6_code 4 (some (.array (.object "java/lang/Object"))) "grow" 17 (ve_pu (ve_ac 45 20)) := ve_cu_ok (ve_acmp_eq_ok (by decide +kernel : decode prog_39_method_6_code 17 = .ok (.if_acmp .eq (28), 3)) (by decide +kernel))
set_option maxRecDepth 16384 in
theorem vi_14_45 (l : Launch) : ve_OK vs_A l 59 (ve_HI vs_A l 59 vs_M) (ve_CB vs_A l 59 (ve_HI vs_A l 59 vs_M) vs_M) "java/util/ArrayList" prog_39_method_6_code 4 (some (.array (.object "java/lang/Object"))) "grow" 45 (ve_pu (ve_al 46 0)) := ve_pu_ok (ve_aload_n_ok (k := 0) (i := 0) (by decide +kernel : decode prog_39_method_6_code 45 = .ok (.aload_n 0, 1)) rfl)
set_option maxRecDepth 16384 in
theorem vi_14_46 (l : Launch) : ve_OK vs_A l 59 (ve_HI vs_A l 59 vs_M) (ve_CB vs_A l 59 (ve_HI vs_A l 59 vs_M) vs_M) "java/util/ArrayList" prog_39_method_6_code 4 (some (.array (.object "java/lang/Object"))) "grow" 46 (ve_pu (ve_push 48 (.int (10)))) := ve_pu_ok (ve_bipush_ok (n := 10) (v := 10) (by decide +kernel : decode prog_39_method_6_code 46 = .ok (.bipush (10), 2)) (by decide +kernel))
set_option maxRecDepth 16384 in
theorem vi_14_48 (l : Launch) : ve_OK vs_A l 59 (ve_HI vs_A l 59 vs_M) (ve_CB vs_A l 59 (ve_HI vs_A l 59 vs_M) vs_M) "java/util/ArrayList" prog_39_method_6_code 4 (some (.array (.object "java/lang/Object"))) "grow" 48 (ve_pu (ve_il 49 1)) := ve_pu_ok (ve_iload_n_ok (k := 1) (i := 1) (by decide +kernel : decode prog_39_method_6_code 48 = .ok (.iload_n 1, 1)) rfl)
set_option maxRecDepth 16384 in
theorem vi_14_49 (l : Launch) : ve_OK vs_A l 59 (ve_HI vs_A l 59 vs_M) (ve_CB vs_A l 59 (ve_HI vs_A l 59 vs_M) vs_M) "java/util/ArrayList" prog_39_method_6_code 4 (some (.array (.object "java/lang/Object"))) "grow" 49 (ve_cl 59 15 2 52) := ve_cl_ok (ve_rowS (md := vs_M) (A0 := vs_A) (mi := 15) (by decide +kernel : decode prog_39_method_6_code 49 = .ok (.invokestatic 79, 3)) (by decide) vw_143 vw_144 vw_145 vw_146 rfl ⟨by decide, by decide⟩ vf_9)
set_option maxRecDepth 16384 in
theorem vi_14_52 (l : Launch) : ve_OK vs_A l 59 (ve_HI vs_A l 59 vs_M) (ve_CB vs_A l 59 (ve_HI vs_A l 59 vs_M) vs_M) "java/util/ArrayList" prog_39_method_6_code 4 (some (.array (.object "java/lang/Object"))) "grow" 52 (ve_na 55 57 .null) := ve_anew2_ok (C := "java/lang/Object") (by decide +kernel : decode prog_39_method_6_code 52 = .ok (.anewarray 7, 3)) vw_147 vw_148 vf_92 rfl
set_option maxRecDepth 16384 in
theorem vi_14_55 (l : Launch) : ve_OK vs_A l 59 (ve_HI vs_A l 59 vs_M) (ve_CB vs_A l 59 (ve_HI vs_A l 59 vs_M) vs_M) "java/util/ArrayList" prog_39_method_6_code 4 (some (.array (.object "java/lang/Object"))) "grow" 55 (ve_pu (ve_dx 56)) := ve_pu_ok (ve_dup_x1_ok (by decide +kernel : decode prog_39_method_6_code 55 = .ok (.dup_x1, 1)))
set_option maxRecDepth 16384 in
theorem vi_14_56 (l : Launch) : ve_OK vs_A l 59 (ve_HI vs_A l 59 vs_M) (ve_CB vs_A l 59 (ve_HI vs_A l 59 vs_M) vs_M) "java/util/ArrayList" prog_39_method_6_code 4 (some (.array (.object "java/lang/Object"))) "grow" 56 (ve_pf 59 1 [47] (.array (.object "java/lang/Object"))) := ve_putf_ok (by decide +kernel : decode prog_39_method_6_code 56 = .ok (.putfield 9, 3)) vw_119 vf_75 vf_74
set_option maxRecDepth 16384 in
theorem vi_14_59 (l : Launch) : ve_OK vs_A l 59 (ve_HI vs_A l 59 vs_M) (ve_CB vs_A l 59 (ve_HI vs_A l 59 vs_M) vs_M) "java/util/ArrayList" prog_39_method_6_code 4 (some (.array (.object "java/lang/Object"))) "grow" 59 (ve_rt 3 (.array (.object "java/lang/Object"))) := ve_aret_ok (rt := (.array (.object "java/lang/Object"))) (by decide +kernel : decode prog_39_method_6_code 59 = .ok (.areturn, 1)) rfl (Or.inr ⟨_, rfl⟩)
set_option maxRecDepth 16384 in
theorem vi_15_0 (l : Launch) : ve_OK vs_A l 59 (ve_HI vs_A l 59 vs_M) (ve_CB vs_A l 59 (ve_HI vs_A l 59 vs_M) vs_M) "java/lang/Math" prog_25_method_65_code 2 (some .int) "max" 0 (ve_pu (ve_il 1 0)) := ve_pu_ok (ve_iload_n_ok (k := 0) (i := 0) (by decide +kernel : decode prog_25_method_65_code 0 = .ok (.iload_n 0, 1)) rfl)
set_option maxRecDepth 16384 in
theorem vi_15_1 (l : Launch) : ve_OK vs_A l 59 (ve_HI vs_A l 59 vs_M) (ve_CB vs_A l 59 (ve_HI vs_A l 59 vs_M) vs_M) "java/lang/Math" prog_25_method_65_code 2 (some .int) "max" 1 (ve_pu (ve_il 2 1)) := ve_pu_ok (ve_iload_n_ok (k := 1) (i := 1) (by decide +kernel : decode prog_25_method_65_code 1 = .ok (.iload_n 1, 1)) rfl)
set_option maxRecDepth 16384 in
theorem vi_15_2 (l : Launch) : ve_OK vs_A l 59 (ve_HI vs_A l 59 vs_M) (ve_CB vs_A l 59 (ve_HI vs_A l 59 vs_M) vs_M) "java/lang/Math" prog_25_method_65_code 2 (some .int) "max" 2 (ve_pu (ve_br2 (fun x y => decide (x < y)) 9 5)) := ve_pu_ok (ve_icmp_lt_ok (by decide +kernel : decode prog_25_method_65_code 2 = .ok (.if_icmp .lt (7), 3)) (by decide +kernel))
set_option maxRecDepth 16384 in
theorem vi_15_5 (l : Launch) : ve_OK vs_A l 59 (ve_HI vs_A l 59 vs_M) (ve_CB vs_A l 59 (ve_HI vs_A l 59 vs_M) vs_M) "java/lang/Math" prog_25_method_65_code 2 (some .int) "max" 5 (ve_pu (ve_il 6 0)) := ve_pu_ok (ve_iload_n_ok (k := 0) (i := 0) (by decide +kernel : decode prog_25_method_65_code 5 = .ok (.iload_n 0, 1)) rfl)
set_option maxRecDepth 16384 in
theorem vi_15_6 (l : Launch) : ve_OK vs_A l 59 (ve_HI vs_A l 59 vs_M) (ve_CB vs_A l 59 (ve_HI vs_A l 59 vs_M) vs_M) "java/lang/Math" prog_25_method_65_code 2 (some .int) "max" 6 (ve_pu (ve_jmp 10)) := ve_pu_ok (ve_goto_ok (by decide +kernel : decode prog_25_method_65_code 6 = .ok (.goto (4), 3)) (by decide +kernel))
set_option maxRecDepth 16384 in
theorem vi_15_9 (l : Launch) : ve_OK vs_A l 59 (ve_HI vs_A l 59 vs_M) (ve_CB vs_A l 59 (ve_HI vs_A l 59 vs_M) vs_M) "java/lang/Math" prog_25_method_65_code 2 (some .int) "max" 9 (ve_pu (ve_il 10 1)) := ve_pu_ok (ve_iload_n_ok (k := 1) (i := 1) (by decide +kernel : decode prog_25_method_65_code 9 = .ok (.iload_n 1, 1)) rfl)
set_option maxRecDepth 16384 in
theorem vi_15_10 (l : Launch) : ve_OK vs_A l 59 (ve_HI vs_A l 59 vs_M) (ve_CB vs_A l 59 (ve_HI vs_A l 59 vs_M) vs_M) "java/lang/Math" prog_25_method_65_code 2 (some .int) "max" 10 (ve_rt 1 .int) := ve_iret_ok (by decide +kernel : decode prog_25_method_65_code 10 = .ok (.ireturn, 1)) rfl
set_option maxRecDepth 16384 in
theorem vi_16_0 (l : Launch) : ve_OK vs_A l 59 (ve_HI vs_A l 59 vs_M) (ve_CB vs_A l 59 (ve_HI vs_A l 59 vs_M) vs_M) "OrderbenchModel$Shape" prog_11_method_1_code 4 none "<init>" 0 (ve_pu (ve_al 1 0)) := ve_pu_ok (ve_aload_n_ok (k := 0) (i := 0) (by decide +kernel : decode prog_11_method_1_code 0 = .ok (.aload_n 0, 1)) rfl)
set_option maxRecDepth 16384 in
theorem vi_16_1 (l : Launch) : ve_OK vs_A l 59 (ve_HI vs_A l 59 vs_M) (ve_CB vs_A l 59 (ve_HI vs_A l 59 vs_M) vs_M) "OrderbenchModel$Shape" prog_11_method_1_code 4 none "<init>" 1 (ve_pu (ve_oi 4)) := ve_cu_ok (ve_oi_ok (by decide +kernel : decode prog_11_method_1_code 1 = .ok (.invokespecial 1, 3)) vw_149 vw_44 vw_45)
set_option maxRecDepth 16384 in
theorem vi_16_4 (l : Launch) : ve_OK vs_A l 59 (ve_HI vs_A l 59 vs_M) (ve_CB vs_A l 59 (ve_HI vs_A l 59 vs_M) vs_M) "OrderbenchModel$Shape" prog_11_method_1_code 4 none "<init>" 4 (ve_pu (ve_al 5 0)) := ve_pu_ok (ve_aload_n_ok (k := 0) (i := 0) (by decide +kernel : decode prog_11_method_1_code 4 = .ok (.aload_n 0, 1)) rfl)
set_option maxRecDepth 16384 in
theorem vi_16_5 (l : Launch) : ve_OK vs_A l 59 (ve_HI vs_A l 59 vs_M) (ve_CB vs_A l 59 (ve_HI vs_A l 59 vs_M) vs_M) "OrderbenchModel$Shape" prog_11_method_1_code 4 none "<init>" 5 (ve_pu (ve_il 6 1)) := ve_pu_ok (ve_iload_n_ok (k := 1) (i := 1) (by decide +kernel : decode prog_11_method_1_code 5 = .ok (.iload_n 1, 1)) rfl)
set_option maxRecDepth 16384 in
theorem vi_16_6 (l : Launch) : ve_OK vs_A l 59 (ve_HI vs_A l 59 vs_M) (ve_CB vs_A l 59 (ve_HI vs_A l 59 vs_M) vs_M) "OrderbenchModel$Shape" prog_11_method_1_code 4 none "<init>" 6 (ve_pf 9 0 [11] .char) := ve_putfF_ok (by decide +kernel : decode prog_11_method_1_code 6 = .ok (.putfield 7, 3)) vw_150 rfl vf_94 vf_93
set_option maxRecDepth 16384 in
theorem vi_16_9 (l : Launch) : ve_OK vs_A l 59 (ve_HI vs_A l 59 vs_M) (ve_CB vs_A l 59 (ve_HI vs_A l 59 vs_M) vs_M) "OrderbenchModel$Shape" prog_11_method_1_code 4 none "<init>" 9 (ve_pu (ve_al 10 0)) := ve_pu_ok (ve_aload_n_ok (k := 0) (i := 0) (by decide +kernel : decode prog_11_method_1_code 9 = .ok (.aload_n 0, 1)) rfl)
set_option maxRecDepth 16384 in
theorem vi_16_10 (l : Launch) : ve_OK vs_A l 59 (ve_HI vs_A l 59 vs_M) (ve_CB vs_A l 59 (ve_HI vs_A l 59 vs_M) vs_M) "OrderbenchModel$Shape" prog_11_method_1_code 4 none "<init>" 10 (ve_pu (ve_al 11 2)) := ve_pu_ok (ve_aload_n_ok (k := 2) (i := 2) (by decide +kernel : decode prog_11_method_1_code 10 = .ok (.aload_n 2, 1)) rfl)
set_option maxRecDepth 16384 in
theorem vi_16_11 (l : Launch) : ve_OK vs_A l 59 (ve_HI vs_A l 59 vs_M) (ve_CB vs_A l 59 (ve_HI vs_A l 59 vs_M) vs_M) "OrderbenchModel$Shape" prog_11_method_1_code 4 none "<init>" 11 (ve_pf 14 1 [11] (.object "OrderbenchModel$Shape")) := ve_putfF_ok (by decide +kernel : decode prog_11_method_1_code 11 = .ok (.putfield 13, 3)) vw_151 rfl vf_96 vf_95
set_option maxRecDepth 16384 in
theorem vi_16_14 (l : Launch) : ve_OK vs_A l 59 (ve_HI vs_A l 59 vs_M) (ve_CB vs_A l 59 (ve_HI vs_A l 59 vs_M) vs_M) "OrderbenchModel$Shape" prog_11_method_1_code 4 none "<init>" 14 (ve_pu (ve_al 15 0)) := ve_pu_ok (ve_aload_n_ok (k := 0) (i := 0) (by decide +kernel : decode prog_11_method_1_code 14 = .ok (.aload_n 0, 1)) rfl)
set_option maxRecDepth 16384 in
theorem vi_16_15 (l : Launch) : ve_OK vs_A l 59 (ve_HI vs_A l 59 vs_M) (ve_CB vs_A l 59 (ve_HI vs_A l 59 vs_M) vs_M) "OrderbenchModel$Shape" prog_11_method_1_code 4 none "<init>" 15 (ve_pu (ve_al 16 3)) := ve_pu_ok (ve_aload_n_ok (k := 3) (i := 3) (by decide +kernel : decode prog_11_method_1_code 15 = .ok (.aload_n 3, 1)) rfl)
set_option maxRecDepth 16384 in
theorem vi_16_16 (l : Launch) : ve_OK vs_A l 59 (ve_HI vs_A l 59 vs_M) (ve_CB vs_A l 59 (ve_HI vs_A l 59 vs_M) vs_M) "OrderbenchModel$Shape" prog_11_method_1_code 4 none "<init>" 16 (ve_pf 19 2 [11] (.object "OrderbenchModel$Shape")) := ve_putfF_ok (by decide +kernel : decode prog_11_method_1_code 16 = .ok (.putfield 17, 3)) vw_152 rfl vf_98 vf_97
set_option maxRecDepth 16384 in
theorem vi_16_19 (l : Launch) : ve_OK vs_A l 59 (ve_HI vs_A l 59 vs_M) (ve_CB vs_A l 59 (ve_HI vs_A l 59 vs_M) vs_M) "OrderbenchModel$Shape" prog_11_method_1_code 4 none "<init>" 19 (ve_rt 0 .int) := ve_vret_ok (by decide +kernel : decode prog_11_method_1_code 19 = .ok (.return_, 1)) rfl
set_option maxRecDepth 16384 in
theorem vi_17_0 (l : Launch) : ve_OK vs_A l 59 (ve_HI vs_A l 59 vs_M) (ve_CB vs_A l 59 (ve_HI vs_A l 59 vs_M) vs_M) "OrderbenchLaw$Out" prog_9_method_1_code 1 none "<init>" 0 (ve_pu (ve_al 1 0)) := ve_pu_ok (ve_aload_n_ok (k := 0) (i := 0) (by decide +kernel : decode prog_9_method_1_code 0 = .ok (.aload_n 0, 1)) rfl)
set_option maxRecDepth 16384 in
theorem vi_17_1 (l : Launch) : ve_OK vs_A l 59 (ve_HI vs_A l 59 vs_M) (ve_CB vs_A l 59 (ve_HI vs_A l 59 vs_M) vs_M) "OrderbenchLaw$Out" prog_9_method_1_code 1 none "<init>" 1 (ve_pu (ve_oi 4)) := ve_cu_ok (ve_oi_ok (by decide +kernel : decode prog_9_method_1_code 1 = .ok (.invokespecial 1, 3)) vw_153 vw_44 vw_45)
set_option maxRecDepth 16384 in
theorem vi_17_4 (l : Launch) : ve_OK vs_A l 59 (ve_HI vs_A l 59 vs_M) (ve_CB vs_A l 59 (ve_HI vs_A l 59 vs_M) vs_M) "OrderbenchLaw$Out" prog_9_method_1_code 1 none "<init>" 4 (ve_rt 0 .int) := ve_vret_ok (by decide +kernel : decode prog_9_method_1_code 4 = .ok (.return_, 1)) rfl
set_option maxRecDepth 16384 in
theorem vi_18_0 (l : Launch) : ve_OK vs_A l 59 (ve_HI vs_A l 59 vs_M) (ve_CB vs_A l 59 (ve_HI vs_A l 59 vs_M) vs_M) "OrderbenchLaw" method_12_code 5 (some .int) "turn" 0 (ve_pu (ve_al 1 3)) := ve_pu_ok (ve_aload_n_ok (k := 3) (i := 3) (by decide +kernel : decode method_12_code 0 = .ok (.aload_n 3, 1)) rfl)
set_option maxRecDepth 16384 in
theorem vi_18_1 (l : Launch) : ve_OK vs_A l 59 (ve_HI vs_A l 59 vs_M) (ve_CB vs_A l 59 (ve_HI vs_A l 59 vs_M) vs_M) "OrderbenchLaw" method_12_code 5 (some .int) "turn" 1 (ve_pu (ve_al 2 0)) := ve_pu_ok (ve_aload_n_ok (k := 0) (i := 0) (by decide +kernel : decode method_12_code 1 = .ok (.aload_n 0, 1)) rfl)
set_option maxRecDepth 16384 in
theorem vi_18_2 (l : Launch) : ve_OK vs_A l 59 (ve_HI vs_A l 59 vs_M) (ve_CB vs_A l 59 (ve_HI vs_A l 59 vs_M) vs_M) "OrderbenchLaw" method_12_code 5 (some .int) "turn" 2 (ve_pu (ve_il 3 1)) := ve_pu_ok (ve_iload_n_ok (k := 1) (i := 1) (by decide +kernel : decode method_12_code 2 = .ok (.iload_n 1, 1)) rfl)
set_option maxRecDepth 16384 in
theorem vi_18_3 (l : Launch) : ve_OK vs_A l 59 (ve_HI vs_A l 59 vs_M) (ve_CB vs_A l 59 (ve_HI vs_A l 59 vs_M) vs_M) "OrderbenchLaw" method_12_code 5 (some .int) "turn" 3 (ve_pu (ve_il 4 2)) := ve_pu_ok (ve_iload_n_ok (k := 2) (i := 2) (by decide +kernel : decode method_12_code 3 = .ok (.iload_n 2, 1)) rfl)
set_option maxRecDepth 16384 in
theorem vi_18_4 (l : Launch) : ve_OK vs_A l 59 (ve_HI vs_A l 59 vs_M) (ve_CB vs_A l 59 (ve_HI vs_A l 59 vs_M) vs_M) "OrderbenchLaw" method_12_code 5 (some .int) "turn" 4 (ve_cw 59 3 7 [(2, 19)]) := ve_cw_ok rfl (List.forall_mem_cons.mpr ⟨ve_rowU (md := vs_M) (A0 := vs_A) (mi := 19) (na := 2) (k := 2) (C := "Orderbench") (owner := "Orderbench") (x := ⟨"Orderbench", "turn", "(II)I"⟩) (by decide +kernel : decode method_12_code 4 = .ok (.invokevirtual 60, 3)) (by decide) vw_156 vw_154 vw_2 vw_155 rfl vw_157 vw_158 vf_99 ⟨by decide, by decide⟩ vf_0 vf_9, List.forall_mem_nil _⟩)
set_option maxRecDepth 16384 in
theorem vi_18_7 (l : Launch) : ve_OK vs_A l 59 (ve_HI vs_A l 59 vs_M) (ve_CB vs_A l 59 (ve_HI vs_A l 59 vs_M) vs_M) "OrderbenchLaw" method_12_code 5 (some .int) "turn" 7 (ve_pu (ve_i2l 8)) := ve_pu_ok (ve_i2l_ok (by decide +kernel : decode method_12_code 7 = .ok (.i2l, 1)))
set_option maxRecDepth 16384 in
theorem vi_18_8 (l : Launch) : ve_OK vs_A l 59 (ve_HI vs_A l 59 vs_M) (ve_CB vs_A l 59 (ve_HI vs_A l 59 vs_M) vs_M) "OrderbenchLaw" method_12_code 5 (some .int) "turn" 8 (ve_pf 11 0 [12] .long) := ve_putfN_ok (by decide +kernel : decode method_12_code 8 = .ok (.putfield 13, 3)) vw_32 vf_101 vf_100
set_option maxRecDepth 16384 in
theorem vi_18_11 (l : Launch) : ve_OK vs_A l 59 (ve_HI vs_A l 59 vs_M) (ve_CB vs_A l 59 (ve_HI vs_A l 59 vs_M) vs_M) "OrderbenchLaw" method_12_code 5 (some .int) "turn" 11 (ve_pu (ve_jmp 22)) := ve_pu_ok (ve_goto_ok (by decide +kernel : decode method_12_code 11 = .ok (.goto (11), 3)) (by decide +kernel))
set_option maxRecDepth 16384 in
theorem vi_18_22 (l : Launch) : ve_OK vs_A l 59 (ve_HI vs_A l 59 vs_M) (ve_CB vs_A l 59 (ve_HI vs_A l 59 vs_M) vs_M) "OrderbenchLaw" method_12_code 5 (some .int) "turn" 22 (ve_pu (ve_push 23 (.int (0)))) := ve_pu_ok (ve_iconst_ok (n := 0) (v := 0) (by decide +kernel : decode method_12_code 22 = .ok (.iconst (0), 1)) rfl)
set_option maxRecDepth 16384 in
theorem vi_18_23 (l : Launch) : ve_OK vs_A l 59 (ve_HI vs_A l 59 vs_M) (ve_CB vs_A l 59 (ve_HI vs_A l 59 vs_M) vs_M) "OrderbenchLaw" method_12_code 5 (some .int) "turn" 23 (ve_rt 1 .int) := ve_iret_ok (by decide +kernel : decode method_12_code 23 = .ok (.ireturn, 1)) rfl
set_option maxRecDepth 16384 in
theorem vi_19_0 (l : Launch) : ve_OK vs_A l 59 (ve_HI vs_A l 59 vs_M) (ve_CB vs_A l 59 (ve_HI vs_A l 59 vs_M) vs_M) "Orderbench" prog_1_method_12_code 4 (some .int) "turn" 0 (ve_pu (ve_al 1 0)) := ve_pu_ok (ve_aload_n_ok (k := 0) (i := 0) (by decide +kernel : decode prog_1_method_12_code 0 = .ok (.aload_n 0, 1)) rfl)
set_option maxRecDepth 16384 in
theorem vi_19_1 (l : Launch) : ve_OK vs_A l 59 (ve_HI vs_A l 59 vs_M) (ve_CB vs_A l 59 (ve_HI vs_A l 59 vs_M) vs_M) "Orderbench" prog_1_method_12_code 4 (some .int) "turn" 1 (ve_pu (ve_il 2 1)) := ve_pu_ok (ve_iload_n_ok (k := 1) (i := 1) (by decide +kernel : decode prog_1_method_12_code 1 = .ok (.iload_n 1, 1)) rfl)
set_option maxRecDepth 16384 in
theorem vi_19_2 (l : Launch) : ve_OK vs_A l 59 (ve_HI vs_A l 59 vs_M) (ve_CB vs_A l 59 (ve_HI vs_A l 59 vs_M) vs_M) "Orderbench" prog_1_method_12_code 4 (some .int) "turn" 2 (ve_cw 59 2 5 [(2, 20)]) := ve_cw_ok rfl (List.forall_mem_cons.mpr ⟨ve_rowU (md := vs_M) (A0 := vs_A) (mi := 20) (na := 1) (k := 2) (C := "Orderbench") (owner := "Orderbench") (x := ⟨"Orderbench", "orderAt", "(I)LOrderbench$Shape;"⟩) (by decide +kernel : decode prog_1_method_12_code 2 = .ok (.invokevirtual 100, 3)) (by decide) vw_161 vw_159 vw_2 vw_160 rfl vw_162 vw_163 vf_103 ⟨by decide, by decide⟩ vf_0 vf_102, List.forall_mem_nil _⟩)
set_option maxRecDepth 16384 in
theorem vi_19_5 (l : Launch) : ve_OK vs_A l 59 (ve_HI vs_A l 59 vs_M) (ve_CB vs_A l 59 (ve_HI vs_A l 59 vs_M) vs_M) "Orderbench" prog_1_method_12_code 4 (some .int) "turn" 5 (ve_pu (ve_pop 6)) := ve_pu_ok (ve_pop_ok (by decide +kernel : decode prog_1_method_12_code 5 = .ok (.pop, 1)))
set_option maxRecDepth 16384 in
theorem vi_19_6 (l : Launch) : ve_OK vs_A l 59 (ve_HI vs_A l 59 vs_M) (ve_CB vs_A l 59 (ve_HI vs_A l 59 vs_M) vs_M) "Orderbench" prog_1_method_12_code 4 (some .int) "turn" 6 (ve_nw 9 32 [.int 0, .int 0, .null]) := ve_new_ok (C := "Orderbench$Turned") (by decide +kernel : decode prog_1_method_12_code 6 = .ok (.new 135, 3)) vw_164 vw_165 vw_166 vf_104 rfl vf_105 rfl
set_option maxRecDepth 16384 in
theorem vi_19_9 (l : Launch) : ve_OK vs_A l 59 (ve_HI vs_A l 59 vs_M) (ve_CB vs_A l 59 (ve_HI vs_A l 59 vs_M) vs_M) "Orderbench" prog_1_method_12_code 4 (some .int) "turn" 9 (ve_pu (ve_dup 10)) := ve_pu_ok (ve_dup_ok (by decide +kernel : decode prog_1_method_12_code 9 = .ok (.dup, 1)))
set_option maxRecDepth 16384 in
theorem vi_19_10 (l : Launch) : ve_OK vs_A l 59 (ve_HI vs_A l 59 vs_M) (ve_CB vs_A l 59 (ve_HI vs_A l 59 vs_M) vs_M) "Orderbench" prog_1_method_12_code 4 (some .int) "turn" 10 (ve_pu (ve_al 11 0)) := ve_pu_ok (ve_aload_n_ok (k := 0) (i := 0) (by decide +kernel : decode prog_1_method_12_code 10 = .ok (.aload_n 0, 1)) rfl)
set_option maxRecDepth 16384 in
theorem vi_19_11 (l : Launch) : ve_OK vs_A l 59 (ve_HI vs_A l 59 vs_M) (ve_CB vs_A l 59 (ve_HI vs_A l 59 vs_M) vs_M) "Orderbench" prog_1_method_12_code 4 (some .int) "turn" 11 (ve_pu (ve_il 12 2)) := ve_pu_ok (ve_iload_n_ok (k := 2) (i := 2) (by decide +kernel : decode prog_1_method_12_code 11 = .ok (.iload_n 2, 1)) rfl)
set_option maxRecDepth 16384 in
theorem vi_19_12 (l : Launch) : ve_OK vs_A l 59 (ve_HI vs_A l 59 vs_M) (ve_CB vs_A l 59 (ve_HI vs_A l 59 vs_M) vs_M) "Orderbench" prog_1_method_12_code 4 (some .int) "turn" 12 (ve_cw 59 2 15 [(2, 20)]) := ve_cw_ok rfl (List.forall_mem_cons.mpr ⟨ve_rowU (md := vs_M) (A0 := vs_A) (mi := 20) (na := 1) (k := 2) (C := "Orderbench") (owner := "Orderbench") (x := ⟨"Orderbench", "orderAt", "(I)LOrderbench$Shape;"⟩) (by decide +kernel : decode prog_1_method_12_code 12 = .ok (.invokevirtual 100, 3)) (by decide) vw_161 vw_159 vw_2 vw_160 rfl vw_162 vw_163 vf_103 ⟨by decide, by decide⟩ vf_0 vf_102, List.forall_mem_nil _⟩)
set_option maxRecDepth 16384 in
theorem vi_19_15 (l : Launch) : ve_OK vs_A l 59 (ve_HI vs_A l 59 vs_M) (ve_CB vs_A l 59 (ve_HI vs_A l 59 vs_M) vs_M) "Orderbench" prog_1_method_12_code 4 (some .int) "turn" 15 (ve_cw 59 2 18 [(32, 21)]) := ve_cw_ok rfl (List.forall_mem_cons.mpr ⟨ve_rowI (md := vs_M) (A0 := vs_A) (mi := 21) (na := 1) (by decide +kernel : decode prog_1_method_12_code 15 = .ok (.invokespecial 137, 3)) (by decide) vw_169 vw_167 vw_166 vw_168 rfl ⟨by decide, by decide⟩ vf_106 rfl rfl 32, List.forall_mem_nil _⟩)
set_option maxRecDepth 16384 in
theorem vi_19_18 (l : Launch) : ve_OK vs_A l 59 (ve_HI vs_A l 59 vs_M) (ve_CB vs_A l 59 (ve_HI vs_A l 59 vs_M) vs_M) "Orderbench" prog_1_method_12_code 4 (some .int) "turn" 18 (ve_pu (ve_as 19 3 4)) := ve_pu_ok (ve_astore_n_ok (k := 3) (i := 3) (by decide +kernel : decode prog_1_method_12_code 18 = .ok (.astore_n 3, 1)) rfl)
set_option maxRecDepth 16384 in
theorem vi_19_19 (l : Launch) : ve_OK vs_A l 59 (ve_HI vs_A l 59 vs_M) (ve_CB vs_A l 59 (ve_HI vs_A l 59 vs_M) vs_M) "Orderbench" prog_1_method_12_code 4 (some .int) "turn" 19 (ve_pu (ve_al 20 3)) := ve_pu_ok (ve_aload_n_ok (k := 3) (i := 3) (by decide +kernel : decode prog_1_method_12_code 19 = .ok (.aload_n 3, 1)) rfl)
set_option maxRecDepth 16384 in
theorem vi_19_20 (l : Launch) : ve_OK vs_A l 59 (ve_HI vs_A l 59 vs_M) (ve_CB vs_A l 59 (ve_HI vs_A l 59 vs_M) vs_M) "Orderbench" prog_1_method_12_code 4 (some .int) "turn" 20 (ve_cl 59 22 1 23) := ve_cl_ok (ve_rowS (md := vs_M) (A0 := vs_A) (mi := 22) (by decide +kernel : decode prog_1_method_12_code 20 = .ok (.invokestatic 139, 3)) (by decide) vw_170 vw_171 vw_2 vw_172 rfl ⟨by decide, by decide⟩ vf_106)
set_option maxRecDepth 16384 in
theorem vi_19_23 (l : Launch) : ve_OK vs_A l 59 (ve_HI vs_A l 59 vs_M) (ve_CB vs_A l 59 (ve_HI vs_A l 59 vs_M) vs_M) "Orderbench" prog_1_method_12_code 4 (some .int) "turn" 23 (ve_pu (ve_al 24 0)) := ve_pu_ok (ve_aload_n_ok (k := 0) (i := 0) (by decide +kernel : decode prog_1_method_12_code 23 = .ok (.aload_n 0, 1)) rfl)
set_option maxRecDepth 16384 in
theorem vi_19_24 (l : Launch) : ve_OK vs_A l 59 (ve_HI vs_A l 59 vs_M) (ve_CB vs_A l 59 (ve_HI vs_A l 59 vs_M) vs_M) "Orderbench" prog_1_method_12_code 4 (some .int) "turn" 24 (ve_pu (ve_il 25 1)) := ve_pu_ok (ve_iload_n_ok (k := 1) (i := 1) (by decide +kernel : decode prog_1_method_12_code 24 = .ok (.iload_n 1, 1)) rfl)
set_option maxRecDepth 16384 in
theorem vi_19_25 (l : Launch) : ve_OK vs_A l 59 (ve_HI vs_A l 59 vs_M) (ve_CB vs_A l 59 (ve_HI vs_A l 59 vs_M) vs_M) "Orderbench" prog_1_method_12_code 4 (some .int) "turn" 25 (ve_pu (ve_al 26 3)) := ve_pu_ok (ve_aload_n_ok (k := 3) (i := 3) (by decide +kernel : decode prog_1_method_12_code 25 = .ok (.aload_n 3, 1)) rfl)
set_option maxRecDepth 16384 in
theorem vi_19_26 (l : Launch) : ve_OK vs_A l 59 (ve_HI vs_A l 59 vs_M) (ve_CB vs_A l 59 (ve_HI vs_A l 59 vs_M) vs_M) "Orderbench" prog_1_method_12_code 4 (some .int) "turn" 26 (ve_cw 59 3 29 [(2, 23)]) := ve_cw_ok rfl (List.forall_mem_cons.mpr ⟨ve_rowU (md := vs_M) (A0 := vs_A) (mi := 23) (na := 2) (k := 2) (C := "Orderbench") (owner := "Orderbench") (x := ⟨"Orderbench", "makeOrder", "(ILOrderbench$Shape;)I"⟩) (by decide +kernel : decode prog_1_method_12_code 26 = .ok (.invokevirtual 129, 3)) (by decide) vw_175 vw_173 vw_2 vw_174 rfl vw_176 vw_177 vf_108 ⟨by decide, by decide⟩ vf_0 vf_107, List.forall_mem_nil _⟩)
set_option maxRecDepth 16384 in
theorem vi_19_29 (l : Launch) : ve_OK vs_A l 59 (ve_HI vs_A l 59 vs_M) (ve_CB vs_A l 59 (ve_HI vs_A l 59 vs_M) vs_M) "Orderbench" prog_1_method_12_code 4 (some .int) "turn" 29 (ve_rt 1 .int) := ve_iret_ok (by decide +kernel : decode prog_1_method_12_code 29 = .ok (.ireturn, 1)) rfl
set_option maxRecDepth 16384 in
theorem vi_20_0 (l : Launch) : ve_OK vs_A l 59 (ve_HI vs_A l 59 vs_M) (ve_CB vs_A l 59 (ve_HI vs_A l 59 vs_M) vs_M) "Orderbench" prog_1_method_40_code 2 (some (.object "Orderbench$Shape")) "orderAt" 0 (ve_pu (ve_il 1 1)) := ve_pu_ok (ve_iload_n_ok (k := 1) (i := 1) (by decide +kernel : decode prog_1_method_40_code 0 = .ok (.iload_n 1, 1)) rfl)
set_option maxRecDepth 16384 in
theorem vi_20_1 (l : Launch) : ve_OK vs_A l 59 (ve_HI vs_A l 59 vs_M) (ve_CB vs_A l 59 (ve_HI vs_A l 59 vs_M) vs_M) "Orderbench" prog_1_method_40_code 2 (some (.object "Orderbench$Shape")) "orderAt" 1 (ve_pu (ve_br1 (fun x => decide (x < 0)) 10 4)) := ve_pu_ok (ve_if_lt_ok (by decide +kernel : decode prog_1_method_40_code 1 = .ok (.ifCond .lt (9), 3)) (by decide +kernel))
set_option maxRecDepth 16384 in
theorem vi_20_4 (l : Launch) : ve_OK vs_A l 59 (ve_HI vs_A l 59 vs_M) (ve_CB vs_A l 59 (ve_HI vs_A l 59 vs_M) vs_M) "Orderbench" prog_1_method_40_code 2 (some (.object "Orderbench$Shape")) "orderAt" 4 (ve_pu (ve_il 5 1)) := ve_pu_ok (ve_iload_n_ok (k := 1) (i := 1) (by decide +kernel : decode prog_1_method_40_code 4 = .ok (.iload_n 1, 1)) rfl)
set_option maxRecDepth 16384 in
theorem vi_20_5 (l : Launch) : ve_OK vs_A l 59 (ve_HI vs_A l 59 vs_M) (ve_CB vs_A l 59 (ve_HI vs_A l 59 vs_M) vs_M) "Orderbench" prog_1_method_40_code 2 (some (.object "Orderbench$Shape")) "orderAt" 5 (ve_pu (ve_push 7 (.int (10)))) := ve_pu_ok (ve_bipush_ok (n := 10) (v := 10) (by decide +kernel : decode prog_1_method_40_code 5 = .ok (.bipush (10), 2)) (by decide +kernel))
set_option maxRecDepth 16384 in
theorem vi_20_7 (l : Launch) : ve_OK vs_A l 59 (ve_HI vs_A l 59 vs_M) (ve_CB vs_A l 59 (ve_HI vs_A l 59 vs_M) vs_M) "Orderbench" prog_1_method_40_code 2 (some (.object "Orderbench$Shape")) "orderAt" 7 (ve_pu (ve_br2 (fun x y => decide (x < y)) 20 10)) := ve_pu_ok (ve_icmp_lt_ok (by decide +kernel : decode prog_1_method_40_code 7 = .ok (.if_icmp .lt (13), 3)) (by decide +kernel))
set_option maxRecDepth 16384 in
theorem vi_20_20 (l : Launch) : ve_OK vs_A l 59 (ve_HI vs_A l 59 vs_M) (ve_CB vs_A l 59 (ve_HI vs_A l 59 vs_M) vs_M) "Orderbench" prog_1_method_40_code 2 (some (.object "Orderbench$Shape")) "orderAt" 20 (ve_pu (ve_al 21 0)) := ve_pu_ok (ve_aload_n_ok (k := 0) (i := 0) (by decide +kernel : decode prog_1_method_40_code 20 = .ok (.aload_n 0, 1)) rfl)
set_option maxRecDepth 16384 in
theorem vi_20_21 (l : Launch) : ve_OK vs_A l 59 (ve_HI vs_A l 59 vs_M) (ve_CB vs_A l 59 (ve_HI vs_A l 59 vs_M) vs_M) "Orderbench" prog_1_method_40_code 2 (some (.object "Orderbench$Shape")) "orderAt" 21 (ve_gf 24 1) := ve_getf_ok (k := 1) (by decide +kernel : decode prog_1_method_40_code 21 = .ok (.getfield 18, 3)) vw_56 vf_30
set_option maxRecDepth 16384 in
theorem vi_20_24 (l : Launch) : ve_OK vs_A l 59 (ve_HI vs_A l 59 vs_M) (ve_CB vs_A l 59 (ve_HI vs_A l 59 vs_M) vs_M) "Orderbench" prog_1_method_40_code 2 (some (.object "Orderbench$Shape")) "orderAt" 24 (ve_pu (ve_il 25 1)) := ve_pu_ok (ve_iload_n_ok (k := 1) (i := 1) (by decide +kernel : decode prog_1_method_40_code 24 = .ok (.iload_n 1, 1)) rfl)
set_option maxRecDepth 16384 in
theorem vi_20_25 (l : Launch) : ve_OK vs_A l 59 (ve_HI vs_A l 59 vs_M) (ve_CB vs_A l 59 (ve_HI vs_A l 59 vs_M) vs_M) "Orderbench" prog_1_method_40_code 2 (some (.object "Orderbench$Shape")) "orderAt" 25 (ve_ald 26 55) := ve_aald_ok (by decide +kernel : decode prog_1_method_40_code 25 = .ok (.aaload, 1)) vf_109 rfl
set_option maxRecDepth 16384 in
theorem vi_20_26 (l : Launch) : ve_OK vs_A l 59 (ve_HI vs_A l 59 vs_M) (ve_CB vs_A l 59 (ve_HI vs_A l 59 vs_M) vs_M) "Orderbench" prog_1_method_40_code 2 (some (.object "Orderbench$Shape")) "orderAt" 26 (ve_rt 3 (.object "Orderbench$Shape")) := ve_aret_ok (rt := (.object "Orderbench$Shape")) (by decide +kernel : decode prog_1_method_40_code 26 = .ok (.areturn, 1)) rfl (Or.inl ⟨_, rfl⟩)
set_option maxRecDepth 16384 in
theorem vi_21_0 (l : Launch) : ve_OK vs_A l 59 (ve_HI vs_A l 59 vs_M) (ve_CB vs_A l 59 (ve_HI vs_A l 59 vs_M) vs_M) "Orderbench$Turned" prog_7_method_1_code 2 none "<init>" 0 (ve_pu (ve_al 1 0)) := ve_pu_ok (ve_aload_n_ok (k := 0) (i := 0) (by decide +kernel : decode prog_7_method_1_code 0 = .ok (.aload_n 0, 1)) rfl)
set_option maxRecDepth 16384 in
theorem vi_21_1 (l : Launch) : ve_OK vs_A l 59 (ve_HI vs_A l 59 vs_M) (ve_CB vs_A l 59 (ve_HI vs_A l 59 vs_M) vs_M) "Orderbench$Turned" prog_7_method_1_code 2 none "<init>" 1 (ve_pu (ve_al 2 1)) := ve_pu_ok (ve_aload_n_ok (k := 1) (i := 1) (by decide +kernel : decode prog_7_method_1_code 1 = .ok (.aload_n 1, 1)) rfl)
set_option maxRecDepth 16384 in
theorem vi_21_2 (l : Launch) : ve_OK vs_A l 59 (ve_HI vs_A l 59 vs_M) (ve_CB vs_A l 59 (ve_HI vs_A l 59 vs_M) vs_M) "Orderbench$Turned" prog_7_method_1_code 2 none "<init>" 2 (ve_gf 5 0) := ve_getf_ok (k := 0) (by decide +kernel : decode prog_7_method_1_code 2 = .ok (.getfield 3, 3)) vw_178 vf_110
set_option maxRecDepth 16384 in
theorem vi_21_5 (l : Launch) : ve_OK vs_A l 59 (ve_HI vs_A l 59 vs_M) (ve_CB vs_A l 59 (ve_HI vs_A l 59 vs_M) vs_M) "Orderbench$Turned" prog_7_method_1_code 2 none "<init>" 5 (ve_pu (ve_push 6 (.int (1)))) := ve_pu_ok (ve_iconst_ok (n := 1) (v := 1) (by decide +kernel : decode prog_7_method_1_code 5 = .ok (.iconst (1), 1)) rfl)
set_option maxRecDepth 16384 in
theorem vi_21_6 (l : Launch) : ve_OK vs_A l 59 (ve_HI vs_A l 59 vs_M) (ve_CB vs_A l 59 (ve_HI vs_A l 59 vs_M) vs_M) "Orderbench$Turned" prog_7_method_1_code 2 none "<init>" 6 (ve_pu (ve_iadd 7)) := ve_pu_ok (ve_iadd_ok (by decide +kernel : decode prog_7_method_1_code 6 = .ok (.iadd, 1)))
set_option maxRecDepth 16384 in
theorem vi_21_7 (l : Launch) : ve_OK vs_A l 59 (ve_HI vs_A l 59 vs_M) (ve_CB vs_A l 59 (ve_HI vs_A l 59 vs_M) vs_M) "Orderbench$Turned" prog_7_method_1_code 2 none "<init>" 7 (ve_pu (ve_al 8 1)) := ve_pu_ok (ve_aload_n_ok (k := 1) (i := 1) (by decide +kernel : decode prog_7_method_1_code 7 = .ok (.aload_n 1, 1)) rfl)
set_option maxRecDepth 16384 in
theorem vi_21_8 (l : Launch) : ve_OK vs_A l 59 (ve_HI vs_A l 59 vs_M) (ve_CB vs_A l 59 (ve_HI vs_A l 59 vs_M) vs_M) "Orderbench$Turned" prog_7_method_1_code 2 none "<init>" 8 (ve_gf 11 1) := ve_getf_ok (k := 1) (by decide +kernel : decode prog_7_method_1_code 8 = .ok (.getfield 9, 3)) vw_179 vf_111
set_option maxRecDepth 16384 in
theorem vi_21_11 (l : Launch) : ve_OK vs_A l 59 (ve_HI vs_A l 59 vs_M) (ve_CB vs_A l 59 (ve_HI vs_A l 59 vs_M) vs_M) "Orderbench$Turned" prog_7_method_1_code 2 none "<init>" 11 (ve_cw 59 3 14 [(32, 4)]) := ve_cw_ok rfl (List.forall_mem_cons.mpr ⟨ve_rowI (md := vs_M) (A0 := vs_A) (mi := 4) (na := 2) (by decide +kernel : decode prog_7_method_1_code 11 = .ok (.invokespecial 13, 3)) (by decide) vw_180 vw_76 vw_77 vw_78 rfl ⟨by decide, by decide⟩ vf_45 rfl rfl 32, List.forall_mem_nil _⟩)
set_option maxRecDepth 16384 in
theorem vi_21_14 (l : Launch) : ve_OK vs_A l 59 (ve_HI vs_A l 59 vs_M) (ve_CB vs_A l 59 (ve_HI vs_A l 59 vs_M) vs_M) "Orderbench$Turned" prog_7_method_1_code 2 none "<init>" 14 (ve_pu (ve_al 15 0)) := ve_pu_ok (ve_aload_n_ok (k := 0) (i := 0) (by decide +kernel : decode prog_7_method_1_code 14 = .ok (.aload_n 0, 1)) rfl)
set_option maxRecDepth 16384 in
theorem vi_21_15 (l : Launch) : ve_OK vs_A l 59 (ve_HI vs_A l 59 vs_M) (ve_CB vs_A l 59 (ve_HI vs_A l 59 vs_M) vs_M) "Orderbench$Turned" prog_7_method_1_code 2 none "<init>" 15 (ve_pu (ve_al 16 1)) := ve_pu_ok (ve_aload_n_ok (k := 1) (i := 1) (by decide +kernel : decode prog_7_method_1_code 15 = .ok (.aload_n 1, 1)) rfl)
set_option maxRecDepth 16384 in
theorem vi_21_16 (l : Launch) : ve_OK vs_A l 59 (ve_HI vs_A l 59 vs_M) (ve_CB vs_A l 59 (ve_HI vs_A l 59 vs_M) vs_M) "Orderbench$Turned" prog_7_method_1_code 2 none "<init>" 16 (ve_pf 19 2 [32] (.object "Orderbench$Shape")) := ve_putfF_ok (by decide +kernel : decode prog_7_method_1_code 16 = .ok (.putfield 17, 3)) vw_181 rfl vf_113 vf_112
set_option maxRecDepth 16384 in
theorem vi_21_19 (l : Launch) : ve_OK vs_A l 59 (ve_HI vs_A l 59 vs_M) (ve_CB vs_A l 59 (ve_HI vs_A l 59 vs_M) vs_M) "Orderbench$Turned" prog_7_method_1_code 2 none "<init>" 19 (ve_rt 0 .int) := ve_vret_ok (by decide +kernel : decode prog_7_method_1_code 19 = .ok (.return_, 1)) rfl
set_option maxRecDepth 16384 in
theorem vi_22_0 (l : Launch) : ve_OK vs_A l 59 (ve_HI vs_A l 59 vs_M) (ve_CB vs_A l 59 (ve_HI vs_A l 59 vs_M) vs_M) "Orderbench" prog_1_method_45_code 1 none "needSize" 0 (ve_pu (ve_al 1 0)) := ve_pu_ok (ve_aload_n_ok (k := 0) (i := 0) (by decide +kernel : decode prog_1_method_45_code 0 = .ok (.aload_n 0, 1)) rfl)
set_option maxRecDepth 16384 in
theorem vi_22_1 (l : Launch) : ve_OK vs_A l 59 (ve_HI vs_A l 59 vs_M) (ve_CB vs_A l 59 (ve_HI vs_A l 59 vs_M) vs_M) "Orderbench" prog_1_method_45_code 1 none "needSize" 1 (ve_gf 4 0) := ve_getf_ok (k := 0) (by decide +kernel : decode prog_1_method_45_code 1 = .ok (.getfield 133, 3)) vw_182 vf_110
set_option maxRecDepth 16384 in
theorem vi_22_4 (l : Launch) : ve_OK vs_A l 59 (ve_HI vs_A l 59 vs_M) (ve_CB vs_A l 59 (ve_HI vs_A l 59 vs_M) vs_M) "Orderbench" prog_1_method_45_code 1 none "needSize" 4 (ve_pu (ve_push 6 (.int (40)))) := ve_pu_ok (ve_bipush_ok (n := 40) (v := 40) (by decide +kernel : decode prog_1_method_45_code 4 = .ok (.bipush (40), 2)) (by decide +kernel))
set_option maxRecDepth 16384 in
theorem vi_22_6 (l : Launch) : ve_OK vs_A l 59 (ve_HI vs_A l 59 vs_M) (ve_CB vs_A l 59 (ve_HI vs_A l 59 vs_M) vs_M) "Orderbench" prog_1_method_45_code 1 none "needSize" 6 (ve_pu (ve_br2 (fun x y => decide (¬ y < x)) 20 9)) := ve_pu_ok (ve_icmp_le_ok (by decide +kernel : decode prog_1_method_45_code 6 = .ok (.if_icmp .le (14), 3)) (by decide +kernel))
set_option maxRecDepth 16384 in
theorem vi_22_20 (l : Launch) : ve_OK vs_A l 59 (ve_HI vs_A l 59 vs_M) (ve_CB vs_A l 59 (ve_HI vs_A l 59 vs_M) vs_M) "Orderbench" prog_1_method_45_code 1 none "needSize" 20 (ve_rt 0 .int) := ve_vret_ok (by decide +kernel : decode prog_1_method_45_code 20 = .ok (.return_, 1)) rfl
set_option maxRecDepth 16384 in
theorem vi_23_0 (l : Launch) : ve_OK vs_A l 59 (ve_HI vs_A l 59 vs_M) (ve_CB vs_A l 59 (ve_HI vs_A l 59 vs_M) vs_M) "Orderbench" prog_1_method_52_code 3 (some .int) "makeOrder" 0 (ve_pu (ve_il 1 1)) := ve_pu_ok (ve_iload_n_ok (k := 1) (i := 1) (by decide +kernel : decode prog_1_method_52_code 0 = .ok (.iload_n 1, 1)) rfl)
set_option maxRecDepth 16384 in
theorem vi_23_1 (l : Launch) : ve_OK vs_A l 59 (ve_HI vs_A l 59 vs_M) (ve_CB vs_A l 59 (ve_HI vs_A l 59 vs_M) vs_M) "Orderbench" prog_1_method_52_code 3 (some .int) "makeOrder" 1 (ve_pu (ve_br1 (fun x => decide (x < 0)) 17 4)) := ve_pu_ok (ve_if_lt_ok (by decide +kernel : decode prog_1_method_52_code 1 = .ok (.ifCond .lt (16), 3)) (by decide +kernel))
set_option maxRecDepth 16384 in
theorem vi_23_4 (l : Launch) : ve_OK vs_A l 59 (ve_HI vs_A l 59 vs_M) (ve_CB vs_A l 59 (ve_HI vs_A l 59 vs_M) vs_M) "Orderbench" prog_1_method_52_code 3 (some .int) "makeOrder" 4 (ve_pu (ve_il 5 1)) := ve_pu_ok (ve_iload_n_ok (k := 1) (i := 1) (by decide +kernel : decode prog_1_method_52_code 4 = .ok (.iload_n 1, 1)) rfl)
set_option maxRecDepth 16384 in
theorem vi_23_5 (l : Launch) : ve_OK vs_A l 59 (ve_HI vs_A l 59 vs_M) (ve_CB vs_A l 59 (ve_HI vs_A l 59 vs_M) vs_M) "Orderbench" prog_1_method_52_code 3 (some .int) "makeOrder" 5 (ve_pu (ve_push 7 (.int (10)))) := ve_pu_ok (ve_bipush_ok (n := 10) (v := 10) (by decide +kernel : decode prog_1_method_52_code 5 = .ok (.bipush (10), 2)) (by decide +kernel))
set_option maxRecDepth 16384 in
theorem vi_23_7 (l : Launch) : ve_OK vs_A l 59 (ve_HI vs_A l 59 vs_M) (ve_CB vs_A l 59 (ve_HI vs_A l 59 vs_M) vs_M) "Orderbench" prog_1_method_52_code 3 (some .int) "makeOrder" 7 (ve_pu (ve_br2 (fun x y => decide (¬ x < y)) 17 10)) := ve_pu_ok (ve_icmp_ge_ok (by decide +kernel : decode prog_1_method_52_code 7 = .ok (.if_icmp .ge (10), 3)) (by decide +kernel))
set_option maxRecDepth 16384 in
theorem vi_23_10 (l : Launch) : ve_OK vs_A l 59 (ve_HI vs_A l 59 vs_M) (ve_CB vs_A l 59 (ve_HI vs_A l 59 vs_M) vs_M) "Orderbench" prog_1_method_52_code 3 (some .int) "makeOrder" 10 (ve_pu (ve_al 11 0)) := ve_pu_ok (ve_aload_n_ok (k := 0) (i := 0) (by decide +kernel : decode prog_1_method_52_code 10 = .ok (.aload_n 0, 1)) rfl)
set_option maxRecDepth 16384 in
theorem vi_23_11 (l : Launch) : ve_OK vs_A l 59 (ve_HI vs_A l 59 vs_M) (ve_CB vs_A l 59 (ve_HI vs_A l 59 vs_M) vs_M) "Orderbench" prog_1_method_52_code 3 (some .int) "makeOrder" 11 (ve_gf 14 1) := ve_getf_ok (k := 1) (by decide +kernel : decode prog_1_method_52_code 11 = .ok (.getfield 18, 3)) vw_56 vf_30
set_option maxRecDepth 16384 in
theorem vi_23_14 (l : Launch) : ve_OK vs_A l 59 (ve_HI vs_A l 59 vs_M) (ve_CB vs_A l 59 (ve_HI vs_A l 59 vs_M) vs_M) "Orderbench" prog_1_method_52_code 3 (some .int) "makeOrder" 14 (ve_pu (ve_il 15 1)) := ve_pu_ok (ve_iload_n_ok (k := 1) (i := 1) (by decide +kernel : decode prog_1_method_52_code 14 = .ok (.iload_n 1, 1)) rfl)
set_option maxRecDepth 16384 in
theorem vi_23_15 (l : Launch) : ve_OK vs_A l 59 (ve_HI vs_A l 59 vs_M) (ve_CB vs_A l 59 (ve_HI vs_A l 59 vs_M) vs_M) "Orderbench" prog_1_method_52_code 3 (some .int) "makeOrder" 15 (ve_pu (ve_al 16 2)) := ve_pu_ok (ve_aload_n_ok (k := 2) (i := 2) (by decide +kernel : decode prog_1_method_52_code 15 = .ok (.aload_n 2, 1)) rfl)
set_option maxRecDepth 16384 in
theorem vi_23_16 (l : Launch) : ve_OK vs_A l 59 (ve_HI vs_A l 59 vs_M) (ve_CB vs_A l 59 (ve_HI vs_A l 59 vs_M) vs_M) "Orderbench" prog_1_method_52_code 3 (some .int) "makeOrder" 16 (ve_aas 17 55 [32]) := ve_aast_ok (by decide +kernel : decode prog_1_method_52_code 16 = .ok (.aastore, 1)) vf_114
set_option maxRecDepth 16384 in
theorem vi_23_17 (l : Launch) : ve_OK vs_A l 59 (ve_HI vs_A l 59 vs_M) (ve_CB vs_A l 59 (ve_HI vs_A l 59 vs_M) vs_M) "Orderbench" prog_1_method_52_code 3 (some .int) "makeOrder" 17 (ve_pu (ve_al 18 2)) := ve_pu_ok (ve_aload_n_ok (k := 2) (i := 2) (by decide +kernel : decode prog_1_method_52_code 17 = .ok (.aload_n 2, 1)) rfl)
set_option maxRecDepth 16384 in
theorem vi_23_18 (l : Launch) : ve_OK vs_A l 59 (ve_HI vs_A l 59 vs_M) (ve_CB vs_A l 59 (ve_HI vs_A l 59 vs_M) vs_M) "Orderbench" prog_1_method_52_code 3 (some .int) "makeOrder" 18 (ve_gf 21 0) := ve_getf_ok (k := 0) (by decide +kernel : decode prog_1_method_52_code 18 = .ok (.getfield 133, 3)) vw_182 vf_110
set_option maxRecDepth 16384 in
theorem vi_23_21 (l : Launch) : ve_OK vs_A l 59 (ve_HI vs_A l 59 vs_M) (ve_CB vs_A l 59 (ve_HI vs_A l 59 vs_M) vs_M) "Orderbench" prog_1_method_52_code 3 (some .int) "makeOrder" 21 (ve_rt 1 .int) := ve_iret_ok (by decide +kernel : decode prog_1_method_52_code 21 = .ok (.ireturn, 1)) rfl
set_option maxRecDepth 16384 in
theorem vi_24_0 (l : Launch) : ve_OK vs_A l 59 (ve_HI vs_A l 59 vs_M) (ve_CB vs_A l 59 (ve_HI vs_A l 59 vs_M) vs_M) "OrderbenchModel" prog_10_method_30_code 3 (some .int) "turn" 0 (ve_pu (ve_al 1 0)) := ve_pu_ok (ve_aload_n_ok (k := 0) (i := 0) (by decide +kernel : decode prog_10_method_30_code 0 = .ok (.aload_n 0, 1)) rfl)
set_option maxRecDepth 16384 in
theorem vi_24_1 (l : Launch) : ve_OK vs_A l 59 (ve_HI vs_A l 59 vs_M) (ve_CB vs_A l 59 (ve_HI vs_A l 59 vs_M) vs_M) "OrderbenchModel" prog_10_method_30_code 3 (some .int) "turn" 1 (ve_pu (ve_il 2 1)) := ve_pu_ok (ve_iload_n_ok (k := 1) (i := 1) (by decide +kernel : decode prog_10_method_30_code 1 = .ok (.iload_n 1, 1)) rfl)
set_option maxRecDepth 16384 in
theorem vi_24_2 (l : Launch) : ve_OK vs_A l 59 (ve_HI vs_A l 59 vs_M) (ve_CB vs_A l 59 (ve_HI vs_A l 59 vs_M) vs_M) "OrderbenchModel" prog_10_method_30_code 3 (some .int) "turn" 2 (ve_cl 59 25 1 5) := ve_cl_ok (ve_rowS (md := vs_M) (A0 := vs_A) (mi := 25) (by decide +kernel : decode prog_10_method_30_code 2 = .ok (.invokestatic 130, 3)) (by decide) vw_183 vw_184 vw_8 vw_185 rfl ⟨by decide, by decide⟩ vf_115)
set_option maxRecDepth 16384 in
theorem vi_24_5 (l : Launch) : ve_OK vs_A l 59 (ve_HI vs_A l 59 vs_M) (ve_CB vs_A l 59 (ve_HI vs_A l 59 vs_M) vs_M) "OrderbenchModel" prog_10_method_30_code 3 (some .int) "turn" 5 (ve_pu (ve_br1 (fun x => decide (¬ x = 0)) 15 8)) := ve_pu_ok (ve_if_ne_ok (by decide +kernel : decode prog_10_method_30_code 5 = .ok (.ifCond .ne (10), 3)) (by decide +kernel))
set_option maxRecDepth 16384 in
theorem vi_24_8 (l : Launch) : ve_OK vs_A l 59 (ve_HI vs_A l 59 vs_M) (ve_CB vs_A l 59 (ve_HI vs_A l 59 vs_M) vs_M) "OrderbenchModel" prog_10_method_30_code 3 (some .int) "turn" 8 (ve_pu (ve_il 9 2)) := ve_pu_ok (ve_iload_n_ok (k := 2) (i := 2) (by decide +kernel : decode prog_10_method_30_code 8 = .ok (.iload_n 2, 1)) rfl)
set_option maxRecDepth 16384 in
theorem vi_24_9 (l : Launch) : ve_OK vs_A l 59 (ve_HI vs_A l 59 vs_M) (ve_CB vs_A l 59 (ve_HI vs_A l 59 vs_M) vs_M) "OrderbenchModel" prog_10_method_30_code 3 (some .int) "turn" 9 (ve_cl 59 25 1 12) := ve_cl_ok (ve_rowS (md := vs_M) (A0 := vs_A) (mi := 25) (by decide +kernel : decode prog_10_method_30_code 9 = .ok (.invokestatic 130, 3)) (by decide) vw_183 vw_184 vw_8 vw_185 rfl ⟨by decide, by decide⟩ vf_115)
set_option maxRecDepth 16384 in
theorem vi_24_12 (l : Launch) : ve_OK vs_A l 59 (ve_HI vs_A l 59 vs_M) (ve_CB vs_A l 59 (ve_HI vs_A l 59 vs_M) vs_M) "OrderbenchModel" prog_10_method_30_code 3 (some .int) "turn" 12 (ve_pu (ve_br1 (fun x => decide (x = 0)) 19 15)) := ve_pu_ok (ve_if_eq_ok (by decide +kernel : decode prog_10_method_30_code 12 = .ok (.ifCond .eq (7), 3)) (by decide +kernel))
set_option maxRecDepth 16384 in
theorem vi_24_19 (l : Launch) : ve_OK vs_A l 59 (ve_HI vs_A l 59 vs_M) (ve_CB vs_A l 59 (ve_HI vs_A l 59 vs_M) vs_M) "OrderbenchModel" prog_10_method_30_code 3 (some .int) "turn" 19 (ve_pu (ve_push 20 (.int (0)))) := ve_pu_ok (ve_iconst_ok (n := 0) (v := 0) (by decide +kernel : decode prog_10_method_30_code 19 = .ok (.iconst (0), 1)) rfl)
set_option maxRecDepth 16384 in
theorem vi_24_20 (l : Launch) : ve_OK vs_A l 59 (ve_HI vs_A l 59 vs_M) (ve_CB vs_A l 59 (ve_HI vs_A l 59 vs_M) vs_M) "OrderbenchModel" prog_10_method_30_code 3 (some .int) "turn" 20 (ve_pu (ve_push 21 (.int (0)))) := ve_pu_ok (ve_iconst_ok (n := 0) (v := 0) (by decide +kernel : decode prog_10_method_30_code 20 = .ok (.iconst (0), 1)) rfl)
set_option maxRecDepth 16384 in
theorem vi_24_21 (l : Launch) : ve_OK vs_A l 59 (ve_HI vs_A l 59 vs_M) (ve_CB vs_A l 59 (ve_HI vs_A l 59 vs_M) vs_M) "OrderbenchModel" prog_10_method_30_code 3 (some .int) "turn" 21 (ve_cw 59 3 24 [(6, 27)]) := ve_cw_ok rfl (List.forall_mem_cons.mpr ⟨ve_rowU (md := vs_M) (A0 := vs_A) (mi := 27) (na := 2) (k := 6) (C := "OrderbenchModel") (owner := "OrderbenchModel") (x := ⟨"OrderbenchModel", "fails", "(ZZ)Z"⟩) (by decide +kernel : decode prog_10_method_30_code 21 = .ok (.invokevirtual 94, 3)) (by decide) vw_188 vw_186 vw_8 vw_187 rfl vw_189 vw_190 vf_117 ⟨by decide, by decide⟩ vf_3 vf_116, List.forall_mem_nil _⟩)
set_option maxRecDepth 16384 in
theorem vi_24_24 (l : Launch) : ve_OK vs_A l 59 (ve_HI vs_A l 59 vs_M) (ve_CB vs_A l 59 (ve_HI vs_A l 59 vs_M) vs_M) "OrderbenchModel" prog_10_method_30_code 3 (some .int) "turn" 24 (ve_pu (ve_br1 (fun x => decide (x = 0)) 31 27)) := ve_pu_ok (ve_if_eq_ok (by decide +kernel : decode prog_10_method_30_code 24 = .ok (.ifCond .eq (7), 3)) (by decide +kernel))
set_option maxRecDepth 16384 in
theorem vi_24_31 (l : Launch) : ve_OK vs_A l 59 (ve_HI vs_A l 59 vs_M) (ve_CB vs_A l 59 (ve_HI vs_A l 59 vs_M) vs_M) "OrderbenchModel" prog_10_method_30_code 3 (some .int) "turn" 31 (ve_pu (ve_al 32 0)) := ve_pu_ok (ve_aload_n_ok (k := 0) (i := 0) (by decide +kernel : decode prog_10_method_30_code 31 = .ok (.aload_n 0, 1)) rfl)
set_option maxRecDepth 16384 in
theorem vi_24_32 (l : Launch) : ve_OK vs_A l 59 (ve_HI vs_A l 59 vs_M) (ve_CB vs_A l 59 (ve_HI vs_A l 59 vs_M) vs_M) "OrderbenchModel" prog_10_method_30_code 3 (some .int) "turn" 32 (ve_pu (ve_il 33 1)) := ve_pu_ok (ve_iload_n_ok (k := 1) (i := 1) (by decide +kernel : decode prog_10_method_30_code 32 = .ok (.iload_n 1, 1)) rfl)
set_option maxRecDepth 16384 in
theorem vi_24_33 (l : Launch) : ve_OK vs_A l 59 (ve_HI vs_A l 59 vs_M) (ve_CB vs_A l 59 (ve_HI vs_A l 59 vs_M) vs_M) "OrderbenchModel" prog_10_method_30_code 3 (some .int) "turn" 33 (ve_nw 36 11 [.int 0, .null, .null]) := ve_new_ok (C := "OrderbenchModel$Shape") (by decide +kernel : decode prog_10_method_30_code 33 = .ok (.new 16, 3)) vw_101 vw_109 vw_110 vf_69 rfl vf_70 rfl
set_option maxRecDepth 16384 in
theorem vi_24_36 (l : Launch) : ve_OK vs_A l 59 (ve_HI vs_A l 59 vs_M) (ve_CB vs_A l 59 (ve_HI vs_A l 59 vs_M) vs_M) "OrderbenchModel" prog_10_method_30_code 3 (some .int) "turn" 36 (ve_pu (ve_dup 37)) := ve_pu_ok (ve_dup_ok (by decide +kernel : decode prog_10_method_30_code 36 = .ok (.dup, 1)))
set_option maxRecDepth 16384 in
theorem vi_24_37 (l : Launch) : ve_OK vs_A l 59 (ve_HI vs_A l 59 vs_M) (ve_CB vs_A l 59 (ve_HI vs_A l 59 vs_M) vs_M) "OrderbenchModel" prog_10_method_30_code 3 (some .int) "turn" 37 (ve_pu (ve_push 39 (.int (126)))) := ve_pu_ok (ve_bipush_ok (n := 126) (v := 126) (by decide +kernel : decode prog_10_method_30_code 37 = .ok (.bipush (126), 2)) (by decide +kernel))
set_option maxRecDepth 16384 in
theorem vi_24_39 (l : Launch) : ve_OK vs_A l 59 (ve_HI vs_A l 59 vs_M) (ve_CB vs_A l 59 (ve_HI vs_A l 59 vs_M) vs_M) "OrderbenchModel" prog_10_method_30_code 3 (some .int) "turn" 39 (ve_pu (ve_al 40 0)) := ve_pu_ok (ve_aload_n_ok (k := 0) (i := 0) (by decide +kernel : decode prog_10_method_30_code 39 = .ok (.aload_n 0, 1)) rfl)
set_option maxRecDepth 16384 in
theorem vi_24_40 (l : Launch) : ve_OK vs_A l 59 (ve_HI vs_A l 59 vs_M) (ve_CB vs_A l 59 (ve_HI vs_A l 59 vs_M) vs_M) "OrderbenchModel" prog_10_method_30_code 3 (some .int) "turn" 40 (ve_gf 43 2) := ve_getf_ok (k := 2) (by decide +kernel : decode prog_10_method_30_code 40 = .ok (.getfield 18, 3)) vw_103 vf_68
set_option maxRecDepth 16384 in
theorem vi_24_43 (l : Launch) : ve_OK vs_A l 59 (ve_HI vs_A l 59 vs_M) (ve_CB vs_A l 59 (ve_HI vs_A l 59 vs_M) vs_M) "OrderbenchModel" prog_10_method_30_code 3 (some .int) "turn" 43 (ve_pu (ve_il 44 2)) := ve_pu_ok (ve_iload_n_ok (k := 2) (i := 2) (by decide +kernel : decode prog_10_method_30_code 43 = .ok (.iload_n 2, 1)) rfl)
set_option maxRecDepth 16384 in
theorem vi_24_44 (l : Launch) : ve_OK vs_A l 59 (ve_HI vs_A l 59 vs_M) (ve_CB vs_A l 59 (ve_HI vs_A l 59 vs_M) vs_M) "OrderbenchModel" prog_10_method_30_code 3 (some .int) "turn" 44 (ve_ald 45 56) := ve_aald_ok (by decide +kernel : decode prog_10_method_30_code 44 = .ok (.aaload, 1)) vf_118 rfl
set_option maxRecDepth 16384 in
theorem vi_24_45 (l : Launch) : ve_OK vs_A l 59 (ve_HI vs_A l 59 vs_M) (ve_CB vs_A l 59 (ve_HI vs_A l 59 vs_M) vs_M) "OrderbenchModel" prog_10_method_30_code 3 (some .int) "turn" 45 (ve_pu (ve_push 46 .null)) := ve_pu_ok (ve_null_ok (by decide +kernel : decode prog_10_method_30_code 45 = .ok (.aconst_null, 1)))
set_option maxRecDepth 16384 in
theorem vi_24_46 (l : Launch) : ve_OK vs_A l 59 (ve_HI vs_A l 59 vs_M) (ve_CB vs_A l 59 (ve_HI vs_A l 59 vs_M) vs_M) "OrderbenchModel" prog_10_method_30_code 3 (some .int) "turn" 46 (ve_cw 59 4 49 [(11, 16)]) := ve_cw_ok rfl (List.forall_mem_cons.mpr ⟨ve_rowI (md := vs_M) (A0 := vs_A) (mi := 16) (na := 3) (by decide +kernel : decode prog_10_method_30_code 46 = .ok (.invokespecial 26, 3)) (by decide) vw_113 vw_111 vw_110 vw_112 rfl ⟨by decide, by decide⟩ vf_71 rfl rfl 11, List.forall_mem_nil _⟩)
set_option maxRecDepth 16384 in
theorem vi_24_49 (l : Launch) : ve_OK vs_A l 59 (ve_HI vs_A l 59 vs_M) (ve_CB vs_A l 59 (ve_HI vs_A l 59 vs_M) vs_M) "OrderbenchModel" prog_10_method_30_code 3 (some .int) "turn" 49 (ve_cw 59 3 52 [(6, 29)]) := ve_cw_ok rfl (List.forall_mem_cons.mpr ⟨ve_rowU (md := vs_M) (A0 := vs_A) (mi := 29) (na := 2) (k := 6) (C := "OrderbenchModel") (owner := "OrderbenchModel") (x := ⟨"OrderbenchModel", "become", "(ILOrderbenchModel$Shape;)I"⟩) (by decide +kernel : decode prog_10_method_30_code 49 = .ok (.invokevirtual 163, 3)) (by decide) vw_193 vw_191 vw_8 vw_192 rfl vw_194 vw_195 vf_120 ⟨by decide, by decide⟩ vf_3 vf_119, List.forall_mem_nil _⟩)
set_option maxRecDepth 16384 in
theorem vi_24_52 (l : Launch) : ve_OK vs_A l 59 (ve_HI vs_A l 59 vs_M) (ve_CB vs_A l 59 (ve_HI vs_A l 59 vs_M) vs_M) "OrderbenchModel" prog_10_method_30_code 3 (some .int) "turn" 52 (ve_rt 1 .int) := ve_iret_ok (by decide +kernel : decode prog_10_method_30_code 52 = .ok (.ireturn, 1)) rfl
set_option maxRecDepth 16384 in
theorem vi_25_0 (l : Launch) : ve_OK vs_A l 59 (ve_HI vs_A l 59 vs_M) (ve_CB vs_A l 59 (ve_HI vs_A l 59 vs_M) vs_M) "OrderbenchModel" prog_10_method_8_code 1 (some .boolean) "isNoOrder" 0 (ve_pu (ve_il 1 0)) := ve_pu_ok (ve_iload_n_ok (k := 0) (i := 0) (by decide +kernel : decode prog_10_method_8_code 0 = .ok (.iload_n 0, 1)) rfl)
set_option maxRecDepth 16384 in
theorem vi_25_1 (l : Launch) : ve_OK vs_A l 59 (ve_HI vs_A l 59 vs_M) (ve_CB vs_A l 59 (ve_HI vs_A l 59 vs_M) vs_M) "OrderbenchModel" prog_10_method_8_code 1 (some .boolean) "isNoOrder" 1 (ve_pu (ve_push 2 (.int (0)))) := ve_pu_ok (ve_iconst_ok (n := 0) (v := 0) (by decide +kernel : decode prog_10_method_8_code 1 = .ok (.iconst (0), 1)) rfl)
set_option maxRecDepth 16384 in
theorem vi_25_2 (l : Launch) : ve_OK vs_A l 59 (ve_HI vs_A l 59 vs_M) (ve_CB vs_A l 59 (ve_HI vs_A l 59 vs_M) vs_M) "OrderbenchModel" prog_10_method_8_code 1 (some .boolean) "isNoOrder" 2 (ve_pu (ve_push 4 (.int (9)))) := ve_pu_ok (ve_bipush_ok (n := 9) (v := 9) (by decide +kernel : decode prog_10_method_8_code 2 = .ok (.bipush (9), 2)) (by decide +kernel))
set_option maxRecDepth 16384 in
theorem vi_25_4 (l : Launch) : ve_OK vs_A l 59 (ve_HI vs_A l 59 vs_M) (ve_CB vs_A l 59 (ve_HI vs_A l 59 vs_M) vs_M) "OrderbenchModel" prog_10_method_8_code 1 (some .boolean) "isNoOrder" 4 (ve_cl 59 26 3 7) := ve_cl_ok (ve_rowS (md := vs_M) (A0 := vs_A) (mi := 26) (by decide +kernel : decode prog_10_method_8_code 4 = .ok (.invokestatic 37, 3)) (by decide) vw_196 vw_197 vw_8 vw_198 rfl ⟨by decide, by decide⟩ vf_121)
set_option maxRecDepth 16384 in
theorem vi_25_7 (l : Launch) : ve_OK vs_A l 59 (ve_HI vs_A l 59 vs_M) (ve_CB vs_A l 59 (ve_HI vs_A l 59 vs_M) vs_M) "OrderbenchModel" prog_10_method_8_code 1 (some .boolean) "isNoOrder" 7 (ve_pu (ve_br1 (fun x => decide (¬ x = 0)) 14 10)) := ve_pu_ok (ve_if_ne_ok (by decide +kernel : decode prog_10_method_8_code 7 = .ok (.ifCond .ne (7), 3)) (by decide +kernel))
set_option maxRecDepth 16384 in
theorem vi_25_14 (l : Launch) : ve_OK vs_A l 59 (ve_HI vs_A l 59 vs_M) (ve_CB vs_A l 59 (ve_HI vs_A l 59 vs_M) vs_M) "OrderbenchModel" prog_10_method_8_code 1 (some .boolean) "isNoOrder" 14 (ve_pu (ve_push 15 (.int (0)))) := ve_pu_ok (ve_iconst_ok (n := 0) (v := 0) (by decide +kernel : decode prog_10_method_8_code 14 = .ok (.iconst (0), 1)) rfl)
set_option maxRecDepth 16384 in
theorem vi_25_15 (l : Launch) : ve_OK vs_A l 59 (ve_HI vs_A l 59 vs_M) (ve_CB vs_A l 59 (ve_HI vs_A l 59 vs_M) vs_M) "OrderbenchModel" prog_10_method_8_code 1 (some .boolean) "isNoOrder" 15 (ve_rt 1 .boolean) := ve_iret_ok (by decide +kernel : decode prog_10_method_8_code 15 = .ok (.ireturn, 1)) rfl
set_option maxRecDepth 16384 in
theorem vi_26_0 (l : Launch) : ve_OK vs_A l 59 (ve_HI vs_A l 59 vs_M) (ve_CB vs_A l 59 (ve_HI vs_A l 59 vs_M) vs_M) "OrderbenchModel" prog_10_method_5_code 3 (some .boolean) "isIn" 0 (ve_pu (ve_il 1 0)) := ve_pu_ok (ve_iload_n_ok (k := 0) (i := 0) (by decide +kernel : decode prog_10_method_5_code 0 = .ok (.iload_n 0, 1)) rfl)
set_option maxRecDepth 16384 in
theorem vi_26_1 (l : Launch) : ve_OK vs_A l 59 (ve_HI vs_A l 59 vs_M) (ve_CB vs_A l 59 (ve_HI vs_A l 59 vs_M) vs_M) "OrderbenchModel" prog_10_method_5_code 3 (some .boolean) "isIn" 1 (ve_pu (ve_il 2 1)) := ve_pu_ok (ve_iload_n_ok (k := 1) (i := 1) (by decide +kernel : decode prog_10_method_5_code 1 = .ok (.iload_n 1, 1)) rfl)
set_option maxRecDepth 16384 in
theorem vi_26_2 (l : Launch) : ve_OK vs_A l 59 (ve_HI vs_A l 59 vs_M) (ve_CB vs_A l 59 (ve_HI vs_A l 59 vs_M) vs_M) "OrderbenchModel" prog_10_method_5_code 3 (some .boolean) "isIn" 2 (ve_pu (ve_br2 (fun x y => decide (x < y)) 14 5)) := ve_pu_ok (ve_icmp_lt_ok (by decide +kernel : decode prog_10_method_5_code 2 = .ok (.if_icmp .lt (12), 3)) (by decide +kernel))
set_option maxRecDepth 16384 in
theorem vi_26_5 (l : Launch) : ve_OK vs_A l 59 (ve_HI vs_A l 59 vs_M) (ve_CB vs_A l 59 (ve_HI vs_A l 59 vs_M) vs_M) "OrderbenchModel" prog_10_method_5_code 3 (some .boolean) "isIn" 5 (ve_pu (ve_il 6 0)) := ve_pu_ok (ve_iload_n_ok (k := 0) (i := 0) (by decide +kernel : decode prog_10_method_5_code 5 = .ok (.iload_n 0, 1)) rfl)
set_option maxRecDepth 16384 in
theorem vi_26_6 (l : Launch) : ve_OK vs_A l 59 (ve_HI vs_A l 59 vs_M) (ve_CB vs_A l 59 (ve_HI vs_A l 59 vs_M) vs_M) "OrderbenchModel" prog_10_method_5_code 3 (some .boolean) "isIn" 6 (ve_pu (ve_il 7 2)) := ve_pu_ok (ve_iload_n_ok (k := 2) (i := 2) (by decide +kernel : decode prog_10_method_5_code 6 = .ok (.iload_n 2, 1)) rfl)
set_option maxRecDepth 16384 in
theorem vi_26_7 (l : Launch) : ve_OK vs_A l 59 (ve_HI vs_A l 59 vs_M) (ve_CB vs_A l 59 (ve_HI vs_A l 59 vs_M) vs_M) "OrderbenchModel" prog_10_method_5_code 3 (some .boolean) "isIn" 7 (ve_pu (ve_br2 (fun x y => decide (y < x)) 14 10)) := ve_pu_ok (ve_icmp_gt_ok (by decide +kernel : decode prog_10_method_5_code 7 = .ok (.if_icmp .gt (7), 3)) (by decide +kernel))
set_option maxRecDepth 16384 in
theorem vi_26_10 (l : Launch) : ve_OK vs_A l 59 (ve_HI vs_A l 59 vs_M) (ve_CB vs_A l 59 (ve_HI vs_A l 59 vs_M) vs_M) "OrderbenchModel" prog_10_method_5_code 3 (some .boolean) "isIn" 10 (ve_pu (ve_push 11 (.int (1)))) := ve_pu_ok (ve_iconst_ok (n := 1) (v := 1) (by decide +kernel : decode prog_10_method_5_code 10 = .ok (.iconst (1), 1)) rfl)
set_option maxRecDepth 16384 in
theorem vi_26_11 (l : Launch) : ve_OK vs_A l 59 (ve_HI vs_A l 59 vs_M) (ve_CB vs_A l 59 (ve_HI vs_A l 59 vs_M) vs_M) "OrderbenchModel" prog_10_method_5_code 3 (some .boolean) "isIn" 11 (ve_pu (ve_jmp 15)) := ve_pu_ok (ve_goto_ok (by decide +kernel : decode prog_10_method_5_code 11 = .ok (.goto (4), 3)) (by decide +kernel))
set_option maxRecDepth 16384 in
theorem vi_26_15 (l : Launch) : ve_OK vs_A l 59 (ve_HI vs_A l 59 vs_M) (ve_CB vs_A l 59 (ve_HI vs_A l 59 vs_M) vs_M) "OrderbenchModel" prog_10_method_5_code 3 (some .boolean) "isIn" 15 (ve_rt 1 .boolean) := ve_iret_ok (by decide +kernel : decode prog_10_method_5_code 15 = .ok (.ireturn, 1)) rfl
set_option maxRecDepth 16384 in
theorem vi_27_0 (l : Launch) : ve_OK vs_A l 59 (ve_HI vs_A l 59 vs_M) (ve_CB vs_A l 59 (ve_HI vs_A l 59 vs_M) vs_M) "OrderbenchModel" prog_10_method_4_code 3 (some .boolean) "fails" 0 (ve_pu (ve_al 1 0)) := ve_pu_ok (ve_aload_n_ok (k := 0) (i := 0) (by decide +kernel : decode prog_10_method_4_code 0 = .ok (.aload_n 0, 1)) rfl)
set_option maxRecDepth 16384 in
theorem vi_27_1 (l : Launch) : ve_OK vs_A l 59 (ve_HI vs_A l 59 vs_M) (ve_CB vs_A l 59 (ve_HI vs_A l 59 vs_M) vs_M) "OrderbenchModel" prog_10_method_4_code 3 (some .boolean) "fails" 1 (ve_pu (ve_il 2 1)) := ve_pu_ok (ve_iload_n_ok (k := 1) (i := 1) (by decide +kernel : decode prog_10_method_4_code 1 = .ok (.iload_n 1, 1)) rfl)
set_option maxRecDepth 16384 in
theorem vi_27_2 (l : Launch) : ve_OK vs_A l 59 (ve_HI vs_A l 59 vs_M) (ve_CB vs_A l 59 (ve_HI vs_A l 59 vs_M) vs_M) "OrderbenchModel" prog_10_method_4_code 3 (some .boolean) "fails" 2 (ve_pu (ve_il 3 2)) := ve_pu_ok (ve_iload_n_ok (k := 2) (i := 2) (by decide +kernel : decode prog_10_method_4_code 2 = .ok (.iload_n 2, 1)) rfl)
set_option maxRecDepth 16384 in
theorem vi_27_3 (l : Launch) : ve_OK vs_A l 59 (ve_HI vs_A l 59 vs_M) (ve_CB vs_A l 59 (ve_HI vs_A l 59 vs_M) vs_M) "OrderbenchModel" prog_10_method_4_code 3 (some .boolean) "fails" 3 (ve_pu (ve_push 4 (.int (0)))) := ve_pu_ok (ve_iconst_ok (n := 0) (v := 0) (by decide +kernel : decode prog_10_method_4_code 3 = .ok (.iconst (0), 1)) rfl)
set_option maxRecDepth 16384 in
theorem vi_27_4 (l : Launch) : ve_OK vs_A l 59 (ve_HI vs_A l 59 vs_M) (ve_CB vs_A l 59 (ve_HI vs_A l 59 vs_M) vs_M) "OrderbenchModel" prog_10_method_4_code 3 (some .boolean) "fails" 4 (ve_cw 59 4 7 [(6, 28)]) := ve_cw_ok rfl (List.forall_mem_cons.mpr ⟨ve_rowU (md := vs_M) (A0 := vs_A) (mi := 28) (na := 3) (k := 6) (C := "OrderbenchModel") (owner := "OrderbenchModel") (x := ⟨"OrderbenchModel", "fails", "(ZZZ)Z"⟩) (by decide +kernel : decode prog_10_method_4_code 4 = .ok (.invokevirtual 33, 3)) (by decide) vw_201 vw_199 vw_8 vw_200 rfl vw_202 vw_203 vf_123 ⟨by decide, by decide⟩ vf_3 vf_122, List.forall_mem_nil _⟩)
set_option maxRecDepth 16384 in
theorem vi_27_7 (l : Launch) : ve_OK vs_A l 59 (ve_HI vs_A l 59 vs_M) (ve_CB vs_A l 59 (ve_HI vs_A l 59 vs_M) vs_M) "OrderbenchModel" prog_10_method_4_code 3 (some .boolean) "fails" 7 (ve_rt 1 .boolean) := ve_iret_ok (by decide +kernel : decode prog_10_method_4_code 7 = .ok (.ireturn, 1)) rfl
set_option maxRecDepth 16384 in
theorem vi_28_0 (l : Launch) : ve_OK vs_A l 59 (ve_HI vs_A l 59 vs_M) (ve_CB vs_A l 59 (ve_HI vs_A l 59 vs_M) vs_M) "OrderbenchModel" prog_10_method_3_code 4 (some .boolean) "fails" 0 (ve_pu (ve_al 1 0)) := ve_pu_ok (ve_aload_n_ok (k := 0) (i := 0) (by decide +kernel : decode prog_10_method_3_code 0 = .ok (.aload_n 0, 1)) rfl)
set_option maxRecDepth 16384 in
theorem vi_28_1 (l : Launch) : ve_OK vs_A l 59 (ve_HI vs_A l 59 vs_M) (ve_CB vs_A l 59 (ve_HI vs_A l 59 vs_M) vs_M) "OrderbenchModel" prog_10_method_3_code 4 (some .boolean) "fails" 1 (ve_pu (ve_il 2 1)) := ve_pu_ok (ve_iload_n_ok (k := 1) (i := 1) (by decide +kernel : decode prog_10_method_3_code 1 = .ok (.iload_n 1, 1)) rfl)
set_option maxRecDepth 16384 in
theorem vi_28_2 (l : Launch) : ve_OK vs_A l 59 (ve_HI vs_A l 59 vs_M) (ve_CB vs_A l 59 (ve_HI vs_A l 59 vs_M) vs_M) "OrderbenchModel" prog_10_method_3_code 4 (some .boolean) "fails" 2 (ve_pu (ve_br1 (fun x => decide (x = 0)) 9 5)) := ve_pu_ok (ve_if_eq_ok (by decide +kernel : decode prog_10_method_3_code 2 = .ok (.ifCond .eq (7), 3)) (by decide +kernel))
set_option maxRecDepth 16384 in
theorem vi_28_9 (l : Launch) : ve_OK vs_A l 59 (ve_HI vs_A l 59 vs_M) (ve_CB vs_A l 59 (ve_HI vs_A l 59 vs_M) vs_M) "OrderbenchModel" prog_10_method_3_code 4 (some .boolean) "fails" 9 (ve_pu (ve_il 10 2)) := ve_pu_ok (ve_iload_n_ok (k := 2) (i := 2) (by decide +kernel : decode prog_10_method_3_code 9 = .ok (.iload_n 2, 1)) rfl)
set_option maxRecDepth 16384 in
theorem vi_28_10 (l : Launch) : ve_OK vs_A l 59 (ve_HI vs_A l 59 vs_M) (ve_CB vs_A l 59 (ve_HI vs_A l 59 vs_M) vs_M) "OrderbenchModel" prog_10_method_3_code 4 (some .boolean) "fails" 10 (ve_pu (ve_br1 (fun x => decide (x = 0)) 17 13)) := ve_pu_ok (ve_if_eq_ok (by decide +kernel : decode prog_10_method_3_code 10 = .ok (.ifCond .eq (7), 3)) (by decide +kernel))
set_option maxRecDepth 16384 in
theorem vi_28_17 (l : Launch) : ve_OK vs_A l 59 (ve_HI vs_A l 59 vs_M) (ve_CB vs_A l 59 (ve_HI vs_A l 59 vs_M) vs_M) "OrderbenchModel" prog_10_method_3_code 4 (some .boolean) "fails" 17 (ve_pu (ve_il 18 3)) := ve_pu_ok (ve_iload_n_ok (k := 3) (i := 3) (by decide +kernel : decode prog_10_method_3_code 17 = .ok (.iload_n 3, 1)) rfl)
set_option maxRecDepth 16384 in
theorem vi_28_18 (l : Launch) : ve_OK vs_A l 59 (ve_HI vs_A l 59 vs_M) (ve_CB vs_A l 59 (ve_HI vs_A l 59 vs_M) vs_M) "OrderbenchModel" prog_10_method_3_code 4 (some .boolean) "fails" 18 (ve_pu (ve_br1 (fun x => decide (x = 0)) 25 21)) := ve_pu_ok (ve_if_eq_ok (by decide +kernel : decode prog_10_method_3_code 18 = .ok (.ifCond .eq (7), 3)) (by decide +kernel))
set_option maxRecDepth 16384 in
theorem vi_28_25 (l : Launch) : ve_OK vs_A l 59 (ve_HI vs_A l 59 vs_M) (ve_CB vs_A l 59 (ve_HI vs_A l 59 vs_M) vs_M) "OrderbenchModel" prog_10_method_3_code 4 (some .boolean) "fails" 25 (ve_pu (ve_push 26 (.int (0)))) := ve_pu_ok (ve_iconst_ok (n := 0) (v := 0) (by decide +kernel : decode prog_10_method_3_code 25 = .ok (.iconst (0), 1)) rfl)
set_option maxRecDepth 16384 in
theorem vi_28_26 (l : Launch) : ve_OK vs_A l 59 (ve_HI vs_A l 59 vs_M) (ve_CB vs_A l 59 (ve_HI vs_A l 59 vs_M) vs_M) "OrderbenchModel" prog_10_method_3_code 4 (some .boolean) "fails" 26 (ve_pf 29 0 [6] .int) := ve_putf_ok (by decide +kernel : decode prog_10_method_3_code 26 = .ok (.putfield 29, 3)) vw_204 vf_125 vf_124
set_option maxRecDepth 16384 in
theorem vi_28_29 (l : Launch) : ve_OK vs_A l 59 (ve_HI vs_A l 59 vs_M) (ve_CB vs_A l 59 (ve_HI vs_A l 59 vs_M) vs_M) "OrderbenchModel" prog_10_method_3_code 4 (some .boolean) "fails" 29 (ve_pu (ve_al 30 0)) := ve_pu_ok (ve_aload_n_ok (k := 0) (i := 0) (by decide +kernel : decode prog_10_method_3_code 29 = .ok (.aload_n 0, 1)) rfl)
set_option maxRecDepth 16384 in
theorem vi_28_30 (l : Launch) : ve_OK vs_A l 59 (ve_HI vs_A l 59 vs_M) (ve_CB vs_A l 59 (ve_HI vs_A l 59 vs_M) vs_M) "OrderbenchModel" prog_10_method_3_code 4 (some .boolean) "fails" 30 (ve_gf 33 0) := ve_getf_ok (k := 0) (by decide +kernel : decode prog_10_method_3_code 30 = .ok (.getfield 29, 3)) vw_204 vf_126
set_option maxRecDepth 16384 in
theorem vi_28_33 (l : Launch) : ve_OK vs_A l 59 (ve_HI vs_A l 59 vs_M) (ve_CB vs_A l 59 (ve_HI vs_A l 59 vs_M) vs_M) "OrderbenchModel" prog_10_method_3_code 4 (some .boolean) "fails" 33 (ve_pu (ve_br1 (fun x => decide (¬ 0 < x)) 40 36)) := ve_pu_ok (ve_if_le_ok (by decide +kernel : decode prog_10_method_3_code 33 = .ok (.ifCond .le (7), 3)) (by decide +kernel))
set_option maxRecDepth 16384 in
theorem vi_28_40 (l : Launch) : ve_OK vs_A l 59 (ve_HI vs_A l 59 vs_M) (ve_CB vs_A l 59 (ve_HI vs_A l 59 vs_M) vs_M) "OrderbenchModel" prog_10_method_3_code 4 (some .boolean) "fails" 40 (ve_pu (ve_push 41 (.int (0)))) := ve_pu_ok (ve_iconst_ok (n := 0) (v := 0) (by decide +kernel : decode prog_10_method_3_code 40 = .ok (.iconst (0), 1)) rfl)
set_option maxRecDepth 16384 in
theorem vi_28_41 (l : Launch) : ve_OK vs_A l 59 (ve_HI vs_A l 59 vs_M) (ve_CB vs_A l 59 (ve_HI vs_A l 59 vs_M) vs_M) "OrderbenchModel" prog_10_method_3_code 4 (some .boolean) "fails" 41 (ve_rt 1 .boolean) := ve_iret_ok (by decide +kernel : decode prog_10_method_3_code 41 = .ok (.ireturn, 1)) rfl
set_option maxRecDepth 16384 in
theorem vi_29_0 (l : Launch) : ve_OK vs_A l 59 (ve_HI vs_A l 59 vs_M) (ve_CB vs_A l 59 (ve_HI vs_A l 59 vs_M) vs_M) "OrderbenchModel" prog_10_method_29_code 3 (some .int) "become" 0 (ve_pu (ve_al 1 0)) := ve_pu_ok (ve_aload_n_ok (k := 0) (i := 0) (by decide +kernel : decode prog_10_method_29_code 0 = .ok (.aload_n 0, 1)) rfl)
set_option maxRecDepth 16384 in
theorem vi_29_1 (l : Launch) : ve_OK vs_A l 59 (ve_HI vs_A l 59 vs_M) (ve_CB vs_A l 59 (ve_HI vs_A l 59 vs_M) vs_M) "OrderbenchModel" prog_10_method_29_code 3 (some .int) "become" 1 (ve_pu (ve_push 2 (.int (0)))) := ve_pu_ok (ve_iconst_ok (n := 0) (v := 0) (by decide +kernel : decode prog_10_method_29_code 1 = .ok (.iconst (0), 1)) rfl)
set_option maxRecDepth 16384 in
theorem vi_29_2 (l : Launch) : ve_OK vs_A l 59 (ve_HI vs_A l 59 vs_M) (ve_CB vs_A l 59 (ve_HI vs_A l 59 vs_M) vs_M) "OrderbenchModel" prog_10_method_29_code 3 (some .int) "become" 2 (ve_pu (ve_al 3 2)) := ve_pu_ok (ve_aload_n_ok (k := 2) (i := 2) (by decide +kernel : decode prog_10_method_29_code 2 = .ok (.aload_n 2, 1)) rfl)
set_option maxRecDepth 16384 in
theorem vi_29_3 (l : Launch) : ve_OK vs_A l 59 (ve_HI vs_A l 59 vs_M) (ve_CB vs_A l 59 (ve_HI vs_A l 59 vs_M) vs_M) "OrderbenchModel" prog_10_method_29_code 3 (some .int) "become" 3 (ve_cw 59 1 6 [(11, 30)]) := ve_cw_ok rfl (List.forall_mem_cons.mpr ⟨ve_rowU (md := vs_M) (A0 := vs_A) (mi := 30) (na := 0) (k := 11) (C := "OrderbenchModel$Shape") (owner := "OrderbenchModel$Shape") (x := ⟨"OrderbenchModel$Shape", "text", "()Ljava/lang/String;"⟩) (by decide +kernel : decode prog_10_method_29_code 3 = .ok (.invokevirtual 146, 3)) (by decide) vw_207 vw_205 vw_110 vw_206 rfl vw_208 vw_209 vf_128 ⟨by decide, by decide⟩ vf_69 vf_127, List.forall_mem_nil _⟩)
set_option maxRecDepth 16384 in
theorem vi_29_6 (l : Launch) : ve_OK vs_A l 59 (ve_HI vs_A l 59 vs_M) (ve_CB vs_A l 59 (ve_HI vs_A l 59 vs_M) vs_M) "OrderbenchModel" prog_10_method_29_code 3 (some .int) "become" 6 (ve_cw 59 1 9 [(28, 38)]) := ve_cw_ok rfl (List.forall_mem_cons.mpr ⟨ve_rowU (md := vs_M) (A0 := vs_A) (mi := 38) (na := 0) (k := 28) (C := "java/lang/String") (owner := "java/lang/String") (x := ⟨"java/lang/String", "length", "()I"⟩) (by decide +kernel : decode prog_10_method_29_code 6 = .ok (.invokevirtual 149, 3)) (by decide) vw_213 vw_210 vw_211 vw_212 rfl vw_214 vw_215 vf_130 ⟨by decide, by decide⟩ vf_129 vf_11, List.forall_mem_nil _⟩)
set_option maxRecDepth 16384 in
theorem vi_29_9 (l : Launch) : ve_OK vs_A l 59 (ve_HI vs_A l 59 vs_M) (ve_CB vs_A l 59 (ve_HI vs_A l 59 vs_M) vs_M) "OrderbenchModel" prog_10_method_29_code 3 (some .int) "become" 9 (ve_pu (ve_push 11 (.int (40)))) := ve_pu_ok (ve_bipush_ok (n := 40) (v := 40) (by decide +kernel : decode prog_10_method_29_code 9 = .ok (.bipush (40), 2)) (by decide +kernel))
set_option maxRecDepth 16384 in
theorem vi_29_11 (l : Launch) : ve_OK vs_A l 59 (ve_HI vs_A l 59 vs_M) (ve_CB vs_A l 59 (ve_HI vs_A l 59 vs_M) vs_M) "OrderbenchModel" prog_10_method_29_code 3 (some .int) "become" 11 (ve_pu (ve_br2 (fun x y => decide (¬ y < x)) 18 14)) := ve_pu_ok (ve_icmp_le_ok (by decide +kernel : decode prog_10_method_29_code 11 = .ok (.if_icmp .le (7), 3)) (by decide +kernel))
set_option maxRecDepth 16384 in
theorem vi_29_18 (l : Launch) : ve_OK vs_A l 59 (ve_HI vs_A l 59 vs_M) (ve_CB vs_A l 59 (ve_HI vs_A l 59 vs_M) vs_M) "OrderbenchModel" prog_10_method_29_code 3 (some .int) "become" 18 (ve_pu (ve_push 19 (.int (0)))) := ve_pu_ok (ve_iconst_ok (n := 0) (v := 0) (by decide +kernel : decode prog_10_method_29_code 18 = .ok (.iconst (0), 1)) rfl)
