set_option maxRecDepth 16384 in
theorem vi_46_1 (l : Launch) : ve_OK vs_A l 59 (ve_HI vs_A l 59 vs_M) (ve_CB vs_A l 59 (ve_HI vs_A l 59 vs_M) vs_M) "java/lang/AbstractStringBuilder" prog_13_method_64_code 1 (some (.array .byte)) "getValue" 1 (ve_gf 4 0) := ve_getf_ok (k := 0) (by decide +kernel : decode prog_13_method_64_code 1 = .ok (.getfield 15, 3)) vw_91 vf_149
set_option maxRecDepth 16384 in
theorem vi_46_4 (l : Launch) : ve_OK vs_A l 59 (ve_HI vs_A l 59 vs_M) (ve_CB vs_A l 59 (ve_HI vs_A l 59 vs_M) vs_M) "java/lang/AbstractStringBuilder" prog_13_method_64_code 1 (some (.array .byte)) "getValue" 4 (ve_rt 3 (.array .byte)) := ve_aret_ok (rt := (.array .byte)) (by decide +kernel : decode prog_13_method_64_code 4 = .ok (.areturn, 1)) rfl (Or.inr ⟨_, rfl⟩)
set_option maxRecDepth 16384 in
theorem vi_47_0 (l : Launch) : ve_OK vs_A l 59 (ve_HI vs_A l 59 vs_M) (ve_CB vs_A l 59 (ve_HI vs_A l 59 vs_M) vs_M) "java/lang/StringBuilder" prog_29_method_93_code 1 (some .int) "length" 0 (ve_pu (ve_al 1 0)) := ve_pu_ok (ve_aload_n_ok (k := 0) (i := 0) (by decide +kernel : decode prog_29_method_93_code 0 = .ok (.aload_n 0, 1)) rfl)
set_option maxRecDepth 16384 in
theorem vi_47_1 (l : Launch) : ve_OK vs_A l 59 (ve_HI vs_A l 59 vs_M) (ve_CB vs_A l 59 (ve_HI vs_A l 59 vs_M) vs_M) "java/lang/StringBuilder" prog_29_method_93_code 1 (some .int) "length" 1 (ve_cw 59 1 4 [(36, 48)]) := ve_cw_ok rfl (List.forall_mem_cons.mpr ⟨ve_rowSU (md := vs_M) (A0 := vs_A) (mi := 48) (na := 0) (k := 36) (C := "java/lang/StringBuilder") (by decide +kernel : decode prog_29_method_93_code 1 = .ok (.invokespecial 343, 3)) (by decide) vw_326 vw_324 vw_85 vw_325 rfl vw_318 vw_243 (by decide) vf_39 vf_143 vf_11, List.forall_mem_nil _⟩)
set_option maxRecDepth 16384 in
theorem vi_47_4 (l : Launch) : ve_OK vs_A l 59 (ve_HI vs_A l 59 vs_M) (ve_CB vs_A l 59 (ve_HI vs_A l 59 vs_M) vs_M) "java/lang/StringBuilder" prog_29_method_93_code 1 (some .int) "length" 4 (ve_rt 1 .int) := ve_iret_ok (by decide +kernel : decode prog_29_method_93_code 4 = .ok (.ireturn, 1)) rfl
set_option maxRecDepth 16384 in
theorem vi_48_0 (l : Launch) : ve_OK vs_A l 59 (ve_HI vs_A l 59 vs_M) (ve_CB vs_A l 59 (ve_HI vs_A l 59 vs_M) vs_M) "java/lang/AbstractStringBuilder" prog_13_method_6_code 1 (some .int) "length" 0 (ve_pu (ve_al 1 0)) := ve_pu_ok (ve_aload_n_ok (k := 0) (i := 0) (by decide +kernel : decode prog_13_method_6_code 0 = .ok (.aload_n 0, 1)) rfl)
set_option maxRecDepth 16384 in
theorem vi_48_1 (l : Launch) : ve_OK vs_A l 59 (ve_HI vs_A l 59 vs_M) (ve_CB vs_A l 59 (ve_HI vs_A l 59 vs_M) vs_M) "java/lang/AbstractStringBuilder" prog_13_method_6_code 1 (some .int) "length" 1 (ve_gf 4 3) := ve_getf_ok (k := 3) (by decide +kernel : decode prog_13_method_6_code 1 = .ok (.getfield 79, 3)) vw_244 vf_144
set_option maxRecDepth 16384 in
theorem vi_48_4 (l : Launch) : ve_OK vs_A l 59 (ve_HI vs_A l 59 vs_M) (ve_CB vs_A l 59 (ve_HI vs_A l 59 vs_M) vs_M) "java/lang/AbstractStringBuilder" prog_13_method_6_code 1 (some .int) "length" 4 (ve_rt 1 .int) := ve_iret_ok (by decide +kernel : decode prog_13_method_6_code 4 = .ok (.ireturn, 1)) rfl
set_option maxRecDepth 16384 in
theorem vi_49_0 (l : Launch) : ve_OK vs_A l 59 (ve_HI vs_A l 59 vs_M) (ve_CB vs_A l 59 (ve_HI vs_A l 59 vs_M) vs_M) "java/util/Arrays" prog_41_method_132_code 3 (some (.array .byte)) "copyOfRange" 0 (ve_pu (ve_il 1 1)) := ve_pu_ok (ve_iload_n_ok (k := 1) (i := 1) (by decide +kernel : decode prog_41_method_132_code 0 = .ok (.iload_n 1, 1)) rfl)
set_option maxRecDepth 16384 in
theorem vi_49_1 (l : Launch) : ve_OK vs_A l 59 (ve_HI vs_A l 59 vs_M) (ve_CB vs_A l 59 (ve_HI vs_A l 59 vs_M) vs_M) "java/util/Arrays" prog_41_method_132_code 3 (some (.array .byte)) "copyOfRange" 1 (ve_pu (ve_br1 (fun x => decide (¬ x = 0)) 10 4)) := ve_pu_ok (ve_if_ne_ok (by decide +kernel : decode prog_41_method_132_code 1 = .ok (.ifCond .ne (9), 3)) (by decide +kernel))
set_option maxRecDepth 16384 in
theorem vi_49_4 (l : Launch) : ve_OK vs_A l 59 (ve_HI vs_A l 59 vs_M) (ve_CB vs_A l 59 (ve_HI vs_A l 59 vs_M) vs_M) "java/util/Arrays" prog_41_method_132_code 3 (some (.array .byte)) "copyOfRange" 4 (ve_pu (ve_il 5 2)) := ve_pu_ok (ve_iload_n_ok (k := 2) (i := 2) (by decide +kernel : decode prog_41_method_132_code 4 = .ok (.iload_n 2, 1)) rfl)
set_option maxRecDepth 16384 in
theorem vi_49_5 (l : Launch) : ve_OK vs_A l 59 (ve_HI vs_A l 59 vs_M) (ve_CB vs_A l 59 (ve_HI vs_A l 59 vs_M) vs_M) "java/util/Arrays" prog_41_method_132_code 3 (some (.array .byte)) "copyOfRange" 5 (ve_pu (ve_al 6 0)) := ve_pu_ok (ve_aload_n_ok (k := 0) (i := 0) (by decide +kernel : decode prog_41_method_132_code 5 = .ok (.aload_n 0, 1)) rfl)
set_option maxRecDepth 16384 in
theorem vi_49_6 (l : Launch) : ve_OK vs_A l 59 (ve_HI vs_A l 59 vs_M) (ve_CB vs_A l 59 (ve_HI vs_A l 59 vs_M) vs_M) "java/util/Arrays" prog_41_method_132_code 3 (some (.array .byte)) "copyOfRange" 6 (ve_len 7 53) := ve_len_ok (by decide +kernel : decode prog_41_method_132_code 6 = .ok (.arraylength, 1)) vf_152
set_option maxRecDepth 16384 in
theorem vi_49_7 (l : Launch) : ve_OK vs_A l 59 (ve_HI vs_A l 59 vs_M) (ve_CB vs_A l 59 (ve_HI vs_A l 59 vs_M) vs_M) "java/util/Arrays" prog_41_method_132_code 3 (some (.array .byte)) "copyOfRange" 7 (ve_pu (ve_br2 (fun x y => decide (x = y)) 17 10)) := ve_pu_ok (ve_icmp_eq_ok (by decide +kernel : decode prog_41_method_132_code 7 = .ok (.if_icmp .eq (10), 3)) (by decide +kernel))
set_option maxRecDepth 16384 in
theorem vi_49_10 (l : Launch) : ve_OK vs_A l 59 (ve_HI vs_A l 59 vs_M) (ve_CB vs_A l 59 (ve_HI vs_A l 59 vs_M) vs_M) "java/util/Arrays" prog_41_method_132_code 3 (some (.array .byte)) "copyOfRange" 10 (ve_pu (ve_al 11 0)) := ve_pu_ok (ve_aload_n_ok (k := 0) (i := 0) (by decide +kernel : decode prog_41_method_132_code 10 = .ok (.aload_n 0, 1)) rfl)
set_option maxRecDepth 16384 in
theorem vi_49_11 (l : Launch) : ve_OK vs_A l 59 (ve_HI vs_A l 59 vs_M) (ve_CB vs_A l 59 (ve_HI vs_A l 59 vs_M) vs_M) "java/util/Arrays" prog_41_method_132_code 3 (some (.array .byte)) "copyOfRange" 11 (ve_pu (ve_il 12 1)) := ve_pu_ok (ve_iload_n_ok (k := 1) (i := 1) (by decide +kernel : decode prog_41_method_132_code 11 = .ok (.iload_n 1, 1)) rfl)
set_option maxRecDepth 16384 in
theorem vi_49_12 (l : Launch) : ve_OK vs_A l 59 (ve_HI vs_A l 59 vs_M) (ve_CB vs_A l 59 (ve_HI vs_A l 59 vs_M) vs_M) "java/util/Arrays" prog_41_method_132_code 3 (some (.array .byte)) "copyOfRange" 12 (ve_pu (ve_il 13 2)) := ve_pu_ok (ve_iload_n_ok (k := 2) (i := 2) (by decide +kernel : decode prog_41_method_132_code 12 = .ok (.iload_n 2, 1)) rfl)
set_option maxRecDepth 16384 in
theorem vi_49_13 (l : Launch) : ve_OK vs_A l 59 (ve_HI vs_A l 59 vs_M) (ve_CB vs_A l 59 (ve_HI vs_A l 59 vs_M) vs_M) "java/util/Arrays" prog_41_method_132_code 3 (some (.array .byte)) "copyOfRange" 13 (ve_cl 59 50 3 16) := ve_cl_ok (ve_rowS (md := vs_M) (A0 := vs_A) (mi := 50) (by decide +kernel : decode prog_41_method_132_code 13 = .ok (.invokestatic 339, 3)) (by decide) vw_327 vw_328 vw_266 vw_329 rfl ⟨by decide, by decide⟩ vf_175)
set_option maxRecDepth 16384 in
theorem vi_49_16 (l : Launch) : ve_OK vs_A l 59 (ve_HI vs_A l 59 vs_M) (ve_CB vs_A l 59 (ve_HI vs_A l 59 vs_M) vs_M) "java/util/Arrays" prog_41_method_132_code 3 (some (.array .byte)) "copyOfRange" 16 (ve_rt 3 (.array .byte)) := ve_aret_ok (rt := (.array .byte)) (by decide +kernel : decode prog_41_method_132_code 16 = .ok (.areturn, 1)) rfl (Or.inr ⟨_, rfl⟩)
set_option maxRecDepth 16384 in
theorem vi_49_17 (l : Launch) : ve_OK vs_A l 59 (ve_HI vs_A l 59 vs_M) (ve_CB vs_A l 59 (ve_HI vs_A l 59 vs_M) vs_M) "java/util/Arrays" prog_41_method_132_code 3 (some (.array .byte)) "copyOfRange" 17 (ve_pu (ve_al 18 0)) := ve_pu_ok (ve_aload_n_ok (k := 0) (i := 0) (by decide +kernel : decode prog_41_method_132_code 17 = .ok (.aload_n 0, 1)) rfl)
set_option maxRecDepth 16384 in
theorem vi_49_18 (l : Launch) : ve_OK vs_A l 59 (ve_HI vs_A l 59 vs_M) (ve_CB vs_A l 59 (ve_HI vs_A l 59 vs_M) vs_M) "java/util/Arrays" prog_41_method_132_code 3 (some (.array .byte)) "copyOfRange" 18 (ve_cln 21 53 .byte) := ve_clone_ok (ad := "[B") (t := 17) (by decide +kernel : decode prog_41_method_132_code 18 = .ok (.invokevirtual 310, 3)) vw_330 vw_331 vw_332 vw_333 vw_334 vf_178 vf_179 rfl vf_180 vf_152 vf_181
set_option maxRecDepth 16384 in
theorem vi_49_21 (l : Launch) : ve_OK vs_A l 59 (ve_HI vs_A l 59 vs_M) (ve_CB vs_A l 59 (ve_HI vs_A l 59 vs_M) vs_M) "java/util/Arrays" prog_41_method_132_code 3 (some (.array .byte)) "copyOfRange" 21 (ve_cc 24 [53]) := ve_cast_ok (by decide +kernel : decode prog_41_method_132_code 21 = .ok (.checkcast 311, 3)) vw_335 vf_180 vf_182
set_option maxRecDepth 16384 in
theorem vi_49_24 (l : Launch) : ve_OK vs_A l 59 (ve_HI vs_A l 59 vs_M) (ve_CB vs_A l 59 (ve_HI vs_A l 59 vs_M) vs_M) "java/util/Arrays" prog_41_method_132_code 3 (some (.array .byte)) "copyOfRange" 24 (ve_rt 3 (.array .byte)) := ve_aret_ok (rt := (.array .byte)) (by decide +kernel : decode prog_41_method_132_code 24 = .ok (.areturn, 1)) rfl (Or.inr ⟨_, rfl⟩)
set_option maxRecDepth 16384 in
theorem vi_50_0 (l : Launch) : ve_OK vs_A l 59 (ve_HI vs_A l 59 vs_M) (ve_CB vs_A l 59 (ve_HI vs_A l 59 vs_M) vs_M) "java/util/Arrays" prog_41_method_133_code 5 (some (.array .byte)) "copyOfRangeByte" 0 (ve_pu (ve_il 1 1)) := ve_pu_ok (ve_iload_n_ok (k := 1) (i := 1) (by decide +kernel : decode prog_41_method_133_code 0 = .ok (.iload_n 1, 1)) rfl)
set_option maxRecDepth 16384 in
theorem vi_50_1 (l : Launch) : ve_OK vs_A l 59 (ve_HI vs_A l 59 vs_M) (ve_CB vs_A l 59 (ve_HI vs_A l 59 vs_M) vs_M) "java/util/Arrays" prog_41_method_133_code 5 (some (.array .byte)) "copyOfRangeByte" 1 (ve_pu (ve_il 2 2)) := ve_pu_ok (ve_iload_n_ok (k := 2) (i := 2) (by decide +kernel : decode prog_41_method_133_code 1 = .ok (.iload_n 2, 1)) rfl)
set_option maxRecDepth 16384 in
theorem vi_50_2 (l : Launch) : ve_OK vs_A l 59 (ve_HI vs_A l 59 vs_M) (ve_CB vs_A l 59 (ve_HI vs_A l 59 vs_M) vs_M) "java/util/Arrays" prog_41_method_133_code 5 (some (.array .byte)) "copyOfRangeByte" 2 (ve_cl 59 51 2 5) := ve_cl_ok (ve_rowS (md := vs_M) (A0 := vs_A) (mi := 51) (by decide +kernel : decode prog_41_method_133_code 2 = .ok (.invokestatic 343, 3)) (by decide) vw_336 vw_337 vw_266 vw_338 rfl ⟨by decide, by decide⟩ vf_183)
set_option maxRecDepth 16384 in
theorem vi_50_5 (l : Launch) : ve_OK vs_A l 59 (ve_HI vs_A l 59 vs_M) (ve_CB vs_A l 59 (ve_HI vs_A l 59 vs_M) vs_M) "java/util/Arrays" prog_41_method_133_code 5 (some (.array .byte)) "copyOfRangeByte" 5 (ve_pu (ve_il 6 2)) := ve_pu_ok (ve_iload_n_ok (k := 2) (i := 2) (by decide +kernel : decode prog_41_method_133_code 5 = .ok (.iload_n 2, 1)) rfl)
set_option maxRecDepth 16384 in
theorem vi_50_6 (l : Launch) : ve_OK vs_A l 59 (ve_HI vs_A l 59 vs_M) (ve_CB vs_A l 59 (ve_HI vs_A l 59 vs_M) vs_M) "java/util/Arrays" prog_41_method_133_code 5 (some (.array .byte)) "copyOfRangeByte" 6 (ve_pu (ve_il 7 1)) := ve_pu_ok (ve_iload_n_ok (k := 1) (i := 1) (by decide +kernel : decode prog_41_method_133_code 6 = .ok (.iload_n 1, 1)) rfl)
set_option maxRecDepth 16384 in
theorem vi_50_7 (l : Launch) : ve_OK vs_A l 59 (ve_HI vs_A l 59 vs_M) (ve_CB vs_A l 59 (ve_HI vs_A l 59 vs_M) vs_M) "java/util/Arrays" prog_41_method_133_code 5 (some (.array .byte)) "copyOfRangeByte" 7 (ve_pu (ve_isub 8)) := ve_pu_ok (ve_isub_ok (by decide +kernel : decode prog_41_method_133_code 7 = .ok (.isub, 1)))
set_option maxRecDepth 16384 in
theorem vi_50_8 (l : Launch) : ve_OK vs_A l 59 (ve_HI vs_A l 59 vs_M) (ve_CB vs_A l 59 (ve_HI vs_A l 59 vs_M) vs_M) "java/util/Arrays" prog_41_method_133_code 5 (some (.array .byte)) "copyOfRangeByte" 8 (ve_pu (ve_is 9 3 5)) := ve_pu_ok (ve_istore_n_ok (k := 3) (i := 3) (by decide +kernel : decode prog_41_method_133_code 8 = .ok (.istore_n 3, 1)) rfl)
set_option maxRecDepth 16384 in
theorem vi_50_9 (l : Launch) : ve_OK vs_A l 59 (ve_HI vs_A l 59 vs_M) (ve_CB vs_A l 59 (ve_HI vs_A l 59 vs_M) vs_M) "java/util/Arrays" prog_41_method_133_code 5 (some (.array .byte)) "copyOfRangeByte" 9 (ve_pu (ve_il 10 3)) := ve_pu_ok (ve_iload_n_ok (k := 3) (i := 3) (by decide +kernel : decode prog_41_method_133_code 9 = .ok (.iload_n 3, 1)) rfl)
set_option maxRecDepth 16384 in
theorem vi_50_10 (l : Launch) : ve_OK vs_A l 59 (ve_HI vs_A l 59 vs_M) (ve_CB vs_A l 59 (ve_HI vs_A l 59 vs_M) vs_M) "java/util/Arrays" prog_41_method_133_code 5 (some (.array .byte)) "copyOfRangeByte" 10 (ve_na 12 53 (.int 0)) := ve_newa_ok (cls := 53) (ty := .byte) (by decide +kernel : decode prog_41_method_133_code 10 = .ok (.newarray .byte, 2)) vw_90 vf_53 rfl rfl rfl (by decide)
set_option maxRecDepth 16384 in
theorem vi_50_12 (l : Launch) : ve_OK vs_A l 59 (ve_HI vs_A l 59 vs_M) (ve_CB vs_A l 59 (ve_HI vs_A l 59 vs_M) vs_M) "java/util/Arrays" prog_41_method_133_code 5 (some (.array .byte)) "copyOfRangeByte" 12 (ve_pu (ve_as 14 4 5)) := ve_pu_ok (ve_astore_ok (by decide +kernel : decode prog_41_method_133_code 12 = .ok (.astore 4, 2)))
set_option maxRecDepth 16384 in
theorem vi_50_14 (l : Launch) : ve_OK vs_A l 59 (ve_HI vs_A l 59 vs_M) (ve_CB vs_A l 59 (ve_HI vs_A l 59 vs_M) vs_M) "java/util/Arrays" prog_41_method_133_code 5 (some (.array .byte)) "copyOfRangeByte" 14 (ve_pu (ve_al 15 0)) := ve_pu_ok (ve_aload_n_ok (k := 0) (i := 0) (by decide +kernel : decode prog_41_method_133_code 14 = .ok (.aload_n 0, 1)) rfl)
set_option maxRecDepth 16384 in
theorem vi_50_15 (l : Launch) : ve_OK vs_A l 59 (ve_HI vs_A l 59 vs_M) (ve_CB vs_A l 59 (ve_HI vs_A l 59 vs_M) vs_M) "java/util/Arrays" prog_41_method_133_code 5 (some (.array .byte)) "copyOfRangeByte" 15 (ve_pu (ve_il 16 1)) := ve_pu_ok (ve_iload_n_ok (k := 1) (i := 1) (by decide +kernel : decode prog_41_method_133_code 15 = .ok (.iload_n 1, 1)) rfl)
set_option maxRecDepth 16384 in
theorem vi_50_16 (l : Launch) : ve_OK vs_A l 59 (ve_HI vs_A l 59 vs_M) (ve_CB vs_A l 59 (ve_HI vs_A l 59 vs_M) vs_M) "java/util/Arrays" prog_41_method_133_code 5 (some (.array .byte)) "copyOfRangeByte" 16 (ve_pu (ve_al 18 4)) := ve_pu_ok (ve_aload_ok (by decide +kernel : decode prog_41_method_133_code 16 = .ok (.aload 4, 2)))
set_option maxRecDepth 16384 in
theorem vi_50_18 (l : Launch) : ve_OK vs_A l 59 (ve_HI vs_A l 59 vs_M) (ve_CB vs_A l 59 (ve_HI vs_A l 59 vs_M) vs_M) "java/util/Arrays" prog_41_method_133_code 5 (some (.array .byte)) "copyOfRangeByte" 18 (ve_pu (ve_push 19 (.int (0)))) := ve_pu_ok (ve_iconst_ok (n := 0) (v := 0) (by decide +kernel : decode prog_41_method_133_code 18 = .ok (.iconst (0), 1)) rfl)
set_option maxRecDepth 16384 in
theorem vi_50_19 (l : Launch) : ve_OK vs_A l 59 (ve_HI vs_A l 59 vs_M) (ve_CB vs_A l 59 (ve_HI vs_A l 59 vs_M) vs_M) "java/util/Arrays" prog_41_method_133_code 5 (some (.array .byte)) "copyOfRangeByte" 19 (ve_pu (ve_al 20 0)) := ve_pu_ok (ve_aload_n_ok (k := 0) (i := 0) (by decide +kernel : decode prog_41_method_133_code 19 = .ok (.aload_n 0, 1)) rfl)
set_option maxRecDepth 16384 in
theorem vi_50_20 (l : Launch) : ve_OK vs_A l 59 (ve_HI vs_A l 59 vs_M) (ve_CB vs_A l 59 (ve_HI vs_A l 59 vs_M) vs_M) "java/util/Arrays" prog_41_method_133_code 5 (some (.array .byte)) "copyOfRangeByte" 20 (ve_len 21 53) := ve_len_ok (by decide +kernel : decode prog_41_method_133_code 20 = .ok (.arraylength, 1)) vf_152
set_option maxRecDepth 16384 in
theorem vi_50_21 (l : Launch) : ve_OK vs_A l 59 (ve_HI vs_A l 59 vs_M) (ve_CB vs_A l 59 (ve_HI vs_A l 59 vs_M) vs_M) "java/util/Arrays" prog_41_method_133_code 5 (some (.array .byte)) "copyOfRangeByte" 21 (ve_pu (ve_il 22 1)) := ve_pu_ok (ve_iload_n_ok (k := 1) (i := 1) (by decide +kernel : decode prog_41_method_133_code 21 = .ok (.iload_n 1, 1)) rfl)
set_option maxRecDepth 16384 in
theorem vi_50_22 (l : Launch) : ve_OK vs_A l 59 (ve_HI vs_A l 59 vs_M) (ve_CB vs_A l 59 (ve_HI vs_A l 59 vs_M) vs_M) "java/util/Arrays" prog_41_method_133_code 5 (some (.array .byte)) "copyOfRangeByte" 22 (ve_pu (ve_isub 23)) := ve_pu_ok (ve_isub_ok (by decide +kernel : decode prog_41_method_133_code 22 = .ok (.isub, 1)))
set_option maxRecDepth 16384 in
theorem vi_50_23 (l : Launch) : ve_OK vs_A l 59 (ve_HI vs_A l 59 vs_M) (ve_CB vs_A l 59 (ve_HI vs_A l 59 vs_M) vs_M) "java/util/Arrays" prog_41_method_133_code 5 (some (.array .byte)) "copyOfRangeByte" 23 (ve_pu (ve_il 24 3)) := ve_pu_ok (ve_iload_n_ok (k := 3) (i := 3) (by decide +kernel : decode prog_41_method_133_code 23 = .ok (.iload_n 3, 1)) rfl)
set_option maxRecDepth 16384 in
theorem vi_50_24 (l : Launch) : ve_OK vs_A l 59 (ve_HI vs_A l 59 vs_M) (ve_CB vs_A l 59 (ve_HI vs_A l 59 vs_M) vs_M) "java/util/Arrays" prog_41_method_133_code 5 (some (.array .byte)) "copyOfRangeByte" 24 (ve_cl 59 52 2 27) := ve_cl_ok (ve_rowS (md := vs_M) (A0 := vs_A) (mi := 52) (by decide +kernel : decode prog_41_method_133_code 24 = .ok (.invokestatic 304, 3)) (by decide) vw_339 vw_340 vw_145 vw_341 rfl ⟨by decide, by decide⟩ vf_9)
set_option maxRecDepth 16384 in
theorem vi_50_27 (l : Launch) : ve_OK vs_A l 59 (ve_HI vs_A l 59 vs_M) (ve_CB vs_A l 59 (ve_HI vs_A l 59 vs_M) vs_M) "java/util/Arrays" prog_41_method_133_code 5 (some (.array .byte)) "copyOfRangeByte" 27 (ve_cpy 30 53 .byte) := ve_copy_ok (by decide +kernel : decode prog_41_method_133_code 27 = .ok (.invokestatic 150, 3)) vw_342 vw_298 vw_299 vw_300 rfl vf_152 rfl
set_option maxRecDepth 16384 in
theorem vi_50_30 (l : Launch) : ve_OK vs_A l 59 (ve_HI vs_A l 59 vs_M) (ve_CB vs_A l 59 (ve_HI vs_A l 59 vs_M) vs_M) "java/util/Arrays" prog_41_method_133_code 5 (some (.array .byte)) "copyOfRangeByte" 30 (ve_pu (ve_al 32 4)) := ve_pu_ok (ve_aload_ok (by decide +kernel : decode prog_41_method_133_code 30 = .ok (.aload 4, 2)))
set_option maxRecDepth 16384 in
theorem vi_50_32 (l : Launch) : ve_OK vs_A l 59 (ve_HI vs_A l 59 vs_M) (ve_CB vs_A l 59 (ve_HI vs_A l 59 vs_M) vs_M) "java/util/Arrays" prog_41_method_133_code 5 (some (.array .byte)) "copyOfRangeByte" 32 (ve_rt 3 (.array .byte)) := ve_aret_ok (rt := (.array .byte)) (by decide +kernel : decode prog_41_method_133_code 32 = .ok (.areturn, 1)) rfl (Or.inr ⟨_, rfl⟩)
set_option maxRecDepth 16384 in
theorem vi_51_0 (l : Launch) : ve_OK vs_A l 59 (ve_HI vs_A l 59 vs_M) (ve_CB vs_A l 59 (ve_HI vs_A l 59 vs_M) vs_M) "java/util/Arrays" prog_41_method_131_code 2 none "checkLength" 0 (ve_pu (ve_il 1 1)) := ve_pu_ok (ve_iload_n_ok (k := 1) (i := 1) (by decide +kernel : decode prog_41_method_131_code 0 = .ok (.iload_n 1, 1)) rfl)
set_option maxRecDepth 16384 in
theorem vi_51_1 (l : Launch) : ve_OK vs_A l 59 (ve_HI vs_A l 59 vs_M) (ve_CB vs_A l 59 (ve_HI vs_A l 59 vs_M) vs_M) "java/util/Arrays" prog_41_method_131_code 2 none "checkLength" 1 (ve_pu (ve_il 2 0)) := ve_pu_ok (ve_iload_n_ok (k := 0) (i := 0) (by decide +kernel : decode prog_41_method_131_code 1 = .ok (.iload_n 0, 1)) rfl)
set_option maxRecDepth 16384 in
theorem vi_51_2 (l : Launch) : ve_OK vs_A l 59 (ve_HI vs_A l 59 vs_M) (ve_CB vs_A l 59 (ve_HI vs_A l 59 vs_M) vs_M) "java/util/Arrays" prog_41_method_131_code 2 none "checkLength" 2 (ve_pu (ve_br2 (fun x y => decide (¬ x < y)) 37 5)) := ve_pu_ok (ve_icmp_ge_ok (by decide +kernel : decode prog_41_method_131_code 2 = .ok (.if_icmp .ge (35), 3)) (by decide +kernel))
set_option maxRecDepth 16384 in
theorem vi_51_37 (l : Launch) : ve_OK vs_A l 59 (ve_HI vs_A l 59 vs_M) (ve_CB vs_A l 59 (ve_HI vs_A l 59 vs_M) vs_M) "java/util/Arrays" prog_41_method_131_code 2 none "checkLength" 37 (ve_rt 0 .int) := ve_vret_ok (by decide +kernel : decode prog_41_method_131_code 37 = .ok (.return_, 1)) rfl
set_option maxRecDepth 16384 in
theorem vi_52_0 (l : Launch) : ve_OK vs_A l 59 (ve_HI vs_A l 59 vs_M) (ve_CB vs_A l 59 (ve_HI vs_A l 59 vs_M) vs_M) "java/lang/Math" prog_25_method_69_code 2 (some .int) "min" 0 (ve_pu (ve_il 1 0)) := ve_pu_ok (ve_iload_n_ok (k := 0) (i := 0) (by decide +kernel : decode prog_25_method_69_code 0 = .ok (.iload_n 0, 1)) rfl)
set_option maxRecDepth 16384 in
theorem vi_52_1 (l : Launch) : ve_OK vs_A l 59 (ve_HI vs_A l 59 vs_M) (ve_CB vs_A l 59 (ve_HI vs_A l 59 vs_M) vs_M) "java/lang/Math" prog_25_method_69_code 2 (some .int) "min" 1 (ve_pu (ve_il 2 1)) := ve_pu_ok (ve_iload_n_ok (k := 1) (i := 1) (by decide +kernel : decode prog_25_method_69_code 1 = .ok (.iload_n 1, 1)) rfl)
set_option maxRecDepth 16384 in
theorem vi_52_2 (l : Launch) : ve_OK vs_A l 59 (ve_HI vs_A l 59 vs_M) (ve_CB vs_A l 59 (ve_HI vs_A l 59 vs_M) vs_M) "java/lang/Math" prog_25_method_69_code 2 (some .int) "min" 2 (ve_pu (ve_br2 (fun x y => decide (y < x)) 9 5)) := ve_pu_ok (ve_icmp_gt_ok (by decide +kernel : decode prog_25_method_69_code 2 = .ok (.if_icmp .gt (7), 3)) (by decide +kernel))
set_option maxRecDepth 16384 in
theorem vi_52_5 (l : Launch) : ve_OK vs_A l 59 (ve_HI vs_A l 59 vs_M) (ve_CB vs_A l 59 (ve_HI vs_A l 59 vs_M) vs_M) "java/lang/Math" prog_25_method_69_code 2 (some .int) "min" 5 (ve_pu (ve_il 6 0)) := ve_pu_ok (ve_iload_n_ok (k := 0) (i := 0) (by decide +kernel : decode prog_25_method_69_code 5 = .ok (.iload_n 0, 1)) rfl)
set_option maxRecDepth 16384 in
theorem vi_52_6 (l : Launch) : ve_OK vs_A l 59 (ve_HI vs_A l 59 vs_M) (ve_CB vs_A l 59 (ve_HI vs_A l 59 vs_M) vs_M) "java/lang/Math" prog_25_method_69_code 2 (some .int) "min" 6 (ve_pu (ve_jmp 10)) := ve_pu_ok (ve_goto_ok (by decide +kernel : decode prog_25_method_69_code 6 = .ok (.goto (4), 3)) (by decide +kernel))
set_option maxRecDepth 16384 in
theorem vi_52_9 (l : Launch) : ve_OK vs_A l 59 (ve_HI vs_A l 59 vs_M) (ve_CB vs_A l 59 (ve_HI vs_A l 59 vs_M) vs_M) "java/lang/Math" prog_25_method_69_code 2 (some .int) "min" 9 (ve_pu (ve_il 10 1)) := ve_pu_ok (ve_iload_n_ok (k := 1) (i := 1) (by decide +kernel : decode prog_25_method_69_code 9 = .ok (.iload_n 1, 1)) rfl)
set_option maxRecDepth 16384 in
theorem vi_52_10 (l : Launch) : ve_OK vs_A l 59 (ve_HI vs_A l 59 vs_M) (ve_CB vs_A l 59 (ve_HI vs_A l 59 vs_M) vs_M) "java/lang/Math" prog_25_method_69_code 2 (some .int) "min" 10 (ve_rt 1 .int) := ve_iret_ok (by decide +kernel : decode prog_25_method_69_code 10 = .ok (.ireturn, 1)) rfl
set_option maxRecDepth 16384 in
theorem vi_53_0 (l : Launch) : ve_OK vs_A l 59 (ve_HI vs_A l 59 vs_M) (ve_CB vs_A l 59 (ve_HI vs_A l 59 vs_M) vs_M) "OrderbenchModel" prog_10_method_27_code 2 (some .int) "sizeOf" 0 (ve_pu (ve_al 1 0)) := ve_pu_ok (ve_aload_n_ok (k := 0) (i := 0) (by decide +kernel : decode prog_10_method_27_code 0 = .ok (.aload_n 0, 1)) rfl)
set_option maxRecDepth 16384 in
theorem vi_53_1 (l : Launch) : ve_OK vs_A l 59 (ve_HI vs_A l 59 vs_M) (ve_CB vs_A l 59 (ve_HI vs_A l 59 vs_M) vs_M) "OrderbenchModel" prog_10_method_27_code 2 (some .int) "sizeOf" 1 (ve_gf 4 2) := ve_getf_ok (k := 2) (by decide +kernel : decode prog_10_method_27_code 1 = .ok (.getfield 18, 3)) vw_103 vf_68
set_option maxRecDepth 16384 in
theorem vi_53_4 (l : Launch) : ve_OK vs_A l 59 (ve_HI vs_A l 59 vs_M) (ve_CB vs_A l 59 (ve_HI vs_A l 59 vs_M) vs_M) "OrderbenchModel" prog_10_method_27_code 2 (some .int) "sizeOf" 4 (ve_pu (ve_il 5 1)) := ve_pu_ok (ve_iload_n_ok (k := 1) (i := 1) (by decide +kernel : decode prog_10_method_27_code 4 = .ok (.iload_n 1, 1)) rfl)
set_option maxRecDepth 16384 in
theorem vi_53_5 (l : Launch) : ve_OK vs_A l 59 (ve_HI vs_A l 59 vs_M) (ve_CB vs_A l 59 (ve_HI vs_A l 59 vs_M) vs_M) "OrderbenchModel" prog_10_method_27_code 2 (some .int) "sizeOf" 5 (ve_ald 6 56) := ve_aald_ok (by decide +kernel : decode prog_10_method_27_code 5 = .ok (.aaload, 1)) vf_118 rfl
set_option maxRecDepth 16384 in
theorem vi_53_6 (l : Launch) : ve_OK vs_A l 59 (ve_HI vs_A l 59 vs_M) (ve_CB vs_A l 59 (ve_HI vs_A l 59 vs_M) vs_M) "OrderbenchModel" prog_10_method_27_code 2 (some .int) "sizeOf" 6 (ve_cw 59 1 9 [(11, 30)]) := ve_cw_ok rfl (List.forall_mem_cons.mpr ⟨ve_rowU (md := vs_M) (A0 := vs_A) (mi := 30) (na := 0) (k := 11) (C := "OrderbenchModel$Shape") (owner := "OrderbenchModel$Shape") (x := ⟨"OrderbenchModel$Shape", "text", "()Ljava/lang/String;"⟩) (by decide +kernel : decode prog_10_method_27_code 6 = .ok (.invokevirtual 146, 3)) (by decide) vw_207 vw_205 vw_110 vw_206 rfl vw_208 vw_209 vf_128 ⟨by decide, by decide⟩ vf_69 vf_127, List.forall_mem_nil _⟩)
set_option maxRecDepth 16384 in
theorem vi_53_9 (l : Launch) : ve_OK vs_A l 59 (ve_HI vs_A l 59 vs_M) (ve_CB vs_A l 59 (ve_HI vs_A l 59 vs_M) vs_M) "OrderbenchModel" prog_10_method_27_code 2 (some .int) "sizeOf" 9 (ve_cw 59 1 12 [(28, 38)]) := ve_cw_ok rfl (List.forall_mem_cons.mpr ⟨ve_rowU (md := vs_M) (A0 := vs_A) (mi := 38) (na := 0) (k := 28) (C := "java/lang/String") (owner := "java/lang/String") (x := ⟨"java/lang/String", "length", "()I"⟩) (by decide +kernel : decode prog_10_method_27_code 9 = .ok (.invokevirtual 149, 3)) (by decide) vw_213 vw_210 vw_211 vw_212 rfl vw_214 vw_215 vf_130 ⟨by decide, by decide⟩ vf_129 vf_11, List.forall_mem_nil _⟩)
set_option maxRecDepth 16384 in
theorem vi_53_12 (l : Launch) : ve_OK vs_A l 59 (ve_HI vs_A l 59 vs_M) (ve_CB vs_A l 59 (ve_HI vs_A l 59 vs_M) vs_M) "OrderbenchModel" prog_10_method_27_code 2 (some .int) "sizeOf" 12 (ve_rt 1 .int) := ve_iret_ok (by decide +kernel : decode prog_10_method_27_code 12 = .ok (.ireturn, 1)) rfl
set_option maxRecDepth 16384 in
theorem vi_54_0 (l : Launch) : ve_OK vs_A l 59 (ve_HI vs_A l 59 vs_M) (ve_CB vs_A l 59 (ve_HI vs_A l 59 vs_M) vs_M) "OrderbenchModel" prog_10_method_2_code 1 (some .int) "thrown" 0 (ve_pu (ve_al 1 0)) := ve_pu_ok (ve_aload_n_ok (k := 0) (i := 0) (by decide +kernel : decode prog_10_method_2_code 0 = .ok (.aload_n 0, 1)) rfl)
set_option maxRecDepth 16384 in
theorem vi_54_1 (l : Launch) : ve_OK vs_A l 59 (ve_HI vs_A l 59 vs_M) (ve_CB vs_A l 59 (ve_HI vs_A l 59 vs_M) vs_M) "OrderbenchModel" prog_10_method_2_code 1 (some .int) "thrown" 1 (ve_gf 4 0) := ve_getf_ok (k := 0) (by decide +kernel : decode prog_10_method_2_code 1 = .ok (.getfield 29, 3)) vw_204 vf_126
set_option maxRecDepth 16384 in
theorem vi_54_4 (l : Launch) : ve_OK vs_A l 59 (ve_HI vs_A l 59 vs_M) (ve_CB vs_A l 59 (ve_HI vs_A l 59 vs_M) vs_M) "OrderbenchModel" prog_10_method_2_code 1 (some .int) "thrown" 4 (ve_rt 1 .int) := ve_iret_ok (by decide +kernel : decode prog_10_method_2_code 4 = .ok (.ireturn, 1)) rfl
set_option maxRecDepth 16384 in
theorem vi_55_0 (l : Launch) : ve_OK vs_A l 59 (ve_HI vs_A l 59 vs_M) (ve_CB vs_A l 59 (ve_HI vs_A l 59 vs_M) vs_M) "java/lang/AbstractStringBuilder" prog_13_method_10_code 6 (some .int) "newCapacity" 0 (ve_pu (ve_al 1 0)) := ve_pu_ok (ve_aload_n_ok (k := 0) (i := 0) (by decide +kernel : decode prog_13_method_10_code 0 = .ok (.aload_n 0, 1)) rfl)
set_option maxRecDepth 16384 in
theorem vi_55_1 (l : Launch) : ve_OK vs_A l 59 (ve_HI vs_A l 59 vs_M) (ve_CB vs_A l 59 (ve_HI vs_A l 59 vs_M) vs_M) "java/lang/AbstractStringBuilder" prog_13_method_10_code 6 (some .int) "newCapacity" 1 (ve_gf 4 0) := ve_getf_ok (k := 0) (by decide +kernel : decode prog_13_method_10_code 1 = .ok (.getfield 15, 3)) vw_91 vf_149
set_option maxRecDepth 16384 in
theorem vi_55_4 (l : Launch) : ve_OK vs_A l 59 (ve_HI vs_A l 59 vs_M) (ve_CB vs_A l 59 (ve_HI vs_A l 59 vs_M) vs_M) "java/lang/AbstractStringBuilder" prog_13_method_10_code 6 (some .int) "newCapacity" 4 (ve_len 5 53) := ve_len_ok (by decide +kernel : decode prog_13_method_10_code 4 = .ok (.arraylength, 1)) vf_152
set_option maxRecDepth 16384 in
theorem vi_55_5 (l : Launch) : ve_OK vs_A l 59 (ve_HI vs_A l 59 vs_M) (ve_CB vs_A l 59 (ve_HI vs_A l 59 vs_M) vs_M) "java/lang/AbstractStringBuilder" prog_13_method_10_code 6 (some .int) "newCapacity" 5 (ve_pu (ve_is 6 2 6)) := ve_pu_ok (ve_istore_n_ok (k := 2) (i := 2) (by decide +kernel : decode prog_13_method_10_code 5 = .ok (.istore_n 2, 1)) rfl)
set_option maxRecDepth 16384 in
theorem vi_55_6 (l : Launch) : ve_OK vs_A l 59 (ve_HI vs_A l 59 vs_M) (ve_CB vs_A l 59 (ve_HI vs_A l 59 vs_M) vs_M) "java/lang/AbstractStringBuilder" prog_13_method_10_code 6 (some .int) "newCapacity" 6 (ve_pu (ve_il 7 1)) := ve_pu_ok (ve_iload_n_ok (k := 1) (i := 1) (by decide +kernel : decode prog_13_method_10_code 6 = .ok (.iload_n 1, 1)) rfl)
set_option maxRecDepth 16384 in
theorem vi_55_7 (l : Launch) : ve_OK vs_A l 59 (ve_HI vs_A l 59 vs_M) (ve_CB vs_A l 59 (ve_HI vs_A l 59 vs_M) vs_M) "java/lang/AbstractStringBuilder" prog_13_method_10_code 6 (some .int) "newCapacity" 7 (ve_pu (ve_al 8 0)) := ve_pu_ok (ve_aload_n_ok (k := 0) (i := 0) (by decide +kernel : decode prog_13_method_10_code 7 = .ok (.aload_n 0, 1)) rfl)
set_option maxRecDepth 16384 in
theorem vi_55_8 (l : Launch) : ve_OK vs_A l 59 (ve_HI vs_A l 59 vs_M) (ve_CB vs_A l 59 (ve_HI vs_A l 59 vs_M) vs_M) "java/lang/AbstractStringBuilder" prog_13_method_10_code 6 (some .int) "newCapacity" 8 (ve_gf 11 1) := ve_getf_ok (k := 1) (by decide +kernel : decode prog_13_method_10_code 8 = .ok (.getfield 22, 3)) vw_92 vf_153
set_option maxRecDepth 16384 in
theorem vi_55_11 (l : Launch) : ve_OK vs_A l 59 (ve_HI vs_A l 59 vs_M) (ve_CB vs_A l 59 (ve_HI vs_A l 59 vs_M) vs_M) "java/lang/AbstractStringBuilder" prog_13_method_10_code 6 (some .int) "newCapacity" 11 (ve_pu (ve_ishl 12)) := ve_pu_ok (ve_ishl_ok (by decide +kernel : decode prog_13_method_10_code 11 = .ok (.ishl, 1)))
set_option maxRecDepth 16384 in
theorem vi_55_12 (l : Launch) : ve_OK vs_A l 59 (ve_HI vs_A l 59 vs_M) (ve_CB vs_A l 59 (ve_HI vs_A l 59 vs_M) vs_M) "java/lang/AbstractStringBuilder" prog_13_method_10_code 6 (some .int) "newCapacity" 12 (ve_pu (ve_is 13 3 6)) := ve_pu_ok (ve_istore_n_ok (k := 3) (i := 3) (by decide +kernel : decode prog_13_method_10_code 12 = .ok (.istore_n 3, 1)) rfl)
set_option maxRecDepth 16384 in
theorem vi_55_13 (l : Launch) : ve_OK vs_A l 59 (ve_HI vs_A l 59 vs_M) (ve_CB vs_A l 59 (ve_HI vs_A l 59 vs_M) vs_M) "java/lang/AbstractStringBuilder" prog_13_method_10_code 6 (some .int) "newCapacity" 13 (ve_pu (ve_il 14 3)) := ve_pu_ok (ve_iload_n_ok (k := 3) (i := 3) (by decide +kernel : decode prog_13_method_10_code 13 = .ok (.iload_n 3, 1)) rfl)
set_option maxRecDepth 16384 in
theorem vi_55_14 (l : Launch) : ve_OK vs_A l 59 (ve_HI vs_A l 59 vs_M) (ve_CB vs_A l 59 (ve_HI vs_A l 59 vs_M) vs_M) "java/lang/AbstractStringBuilder" prog_13_method_10_code 6 (some .int) "newCapacity" 14 (ve_pu (ve_il 15 2)) := ve_pu_ok (ve_iload_n_ok (k := 2) (i := 2) (by decide +kernel : decode prog_13_method_10_code 14 = .ok (.iload_n 2, 1)) rfl)
set_option maxRecDepth 16384 in
theorem vi_55_15 (l : Launch) : ve_OK vs_A l 59 (ve_HI vs_A l 59 vs_M) (ve_CB vs_A l 59 (ve_HI vs_A l 59 vs_M) vs_M) "java/lang/AbstractStringBuilder" prog_13_method_10_code 6 (some .int) "newCapacity" 15 (ve_pu (ve_isub 16)) := ve_pu_ok (ve_isub_ok (by decide +kernel : decode prog_13_method_10_code 15 = .ok (.isub, 1)))
set_option maxRecDepth 16384 in
theorem vi_55_16 (l : Launch) : ve_OK vs_A l 59 (ve_HI vs_A l 59 vs_M) (ve_CB vs_A l 59 (ve_HI vs_A l 59 vs_M) vs_M) "java/lang/AbstractStringBuilder" prog_13_method_10_code 6 (some .int) "newCapacity" 16 (ve_pu (ve_is 18 4 6)) := ve_pu_ok (ve_istore_ok (by decide +kernel : decode prog_13_method_10_code 16 = .ok (.istore 4, 2)))
set_option maxRecDepth 16384 in
theorem vi_55_18 (l : Launch) : ve_OK vs_A l 59 (ve_HI vs_A l 59 vs_M) (ve_CB vs_A l 59 (ve_HI vs_A l 59 vs_M) vs_M) "java/lang/AbstractStringBuilder" prog_13_method_10_code 6 (some .int) "newCapacity" 18 (ve_pu (ve_il 19 2)) := ve_pu_ok (ve_iload_n_ok (k := 2) (i := 2) (by decide +kernel : decode prog_13_method_10_code 18 = .ok (.iload_n 2, 1)) rfl)
set_option maxRecDepth 16384 in
theorem vi_55_19 (l : Launch) : ve_OK vs_A l 59 (ve_HI vs_A l 59 vs_M) (ve_CB vs_A l 59 (ve_HI vs_A l 59 vs_M) vs_M) "java/lang/AbstractStringBuilder" prog_13_method_10_code 6 (some .int) "newCapacity" 19 (ve_pu (ve_il 21 4)) := ve_pu_ok (ve_iload_ok (by decide +kernel : decode prog_13_method_10_code 19 = .ok (.iload 4, 2)))
set_option maxRecDepth 16384 in
theorem vi_55_21 (l : Launch) : ve_OK vs_A l 59 (ve_HI vs_A l 59 vs_M) (ve_CB vs_A l 59 (ve_HI vs_A l 59 vs_M) vs_M) "java/lang/AbstractStringBuilder" prog_13_method_10_code 6 (some .int) "newCapacity" 21 (ve_pu (ve_il 22 2)) := ve_pu_ok (ve_iload_n_ok (k := 2) (i := 2) (by decide +kernel : decode prog_13_method_10_code 21 = .ok (.iload_n 2, 1)) rfl)
set_option maxRecDepth 16384 in
theorem vi_55_22 (l : Launch) : ve_OK vs_A l 59 (ve_HI vs_A l 59 vs_M) (ve_CB vs_A l 59 (ve_HI vs_A l 59 vs_M) vs_M) "java/lang/AbstractStringBuilder" prog_13_method_10_code 6 (some .int) "newCapacity" 22 (ve_pu (ve_push 23 (.int (2)))) := ve_pu_ok (ve_iconst_ok (n := 2) (v := 2) (by decide +kernel : decode prog_13_method_10_code 22 = .ok (.iconst (2), 1)) rfl)
set_option maxRecDepth 16384 in
theorem vi_55_23 (l : Launch) : ve_OK vs_A l 59 (ve_HI vs_A l 59 vs_M) (ve_CB vs_A l 59 (ve_HI vs_A l 59 vs_M) vs_M) "java/lang/AbstractStringBuilder" prog_13_method_10_code 6 (some .int) "newCapacity" 23 (ve_pu (ve_al 24 0)) := ve_pu_ok (ve_aload_n_ok (k := 0) (i := 0) (by decide +kernel : decode prog_13_method_10_code 23 = .ok (.aload_n 0, 1)) rfl)
set_option maxRecDepth 16384 in
theorem vi_55_24 (l : Launch) : ve_OK vs_A l 59 (ve_HI vs_A l 59 vs_M) (ve_CB vs_A l 59 (ve_HI vs_A l 59 vs_M) vs_M) "java/lang/AbstractStringBuilder" prog_13_method_10_code 6 (some .int) "newCapacity" 24 (ve_gf 27 1) := ve_getf_ok (k := 1) (by decide +kernel : decode prog_13_method_10_code 24 = .ok (.getfield 22, 3)) vw_92 vf_153
set_option maxRecDepth 16384 in
theorem vi_55_27 (l : Launch) : ve_OK vs_A l 59 (ve_HI vs_A l 59 vs_M) (ve_CB vs_A l 59 (ve_HI vs_A l 59 vs_M) vs_M) "java/lang/AbstractStringBuilder" prog_13_method_10_code 6 (some .int) "newCapacity" 27 (ve_pu (ve_ishl 28)) := ve_pu_ok (ve_ishl_ok (by decide +kernel : decode prog_13_method_10_code 27 = .ok (.ishl, 1)))
set_option maxRecDepth 16384 in
theorem vi_55_28 (l : Launch) : ve_OK vs_A l 59 (ve_HI vs_A l 59 vs_M) (ve_CB vs_A l 59 (ve_HI vs_A l 59 vs_M) vs_M) "java/lang/AbstractStringBuilder" prog_13_method_10_code 6 (some .int) "newCapacity" 28 (ve_pu (ve_iadd 29)) := ve_pu_ok (ve_iadd_ok (by decide +kernel : decode prog_13_method_10_code 28 = .ok (.iadd, 1)))
set_option maxRecDepth 16384 in
theorem vi_55_29 (l : Launch) : ve_OK vs_A l 59 (ve_HI vs_A l 59 vs_M) (ve_CB vs_A l 59 (ve_HI vs_A l 59 vs_M) vs_M) "java/lang/AbstractStringBuilder" prog_13_method_10_code 6 (some .int) "newCapacity" 29 (ve_cl 59 56 3 32) := ve_cl_ok (ve_rowS (md := vs_M) (A0 := vs_A) (mi := 56) (by decide +kernel : decode prog_13_method_10_code 29 = .ok (.invokestatic 114, 3)) (by decide) vw_343 vw_344 vw_345 vw_346 rfl ⟨by decide, by decide⟩ vf_184)
set_option maxRecDepth 16384 in
theorem vi_55_32 (l : Launch) : ve_OK vs_A l 59 (ve_HI vs_A l 59 vs_M) (ve_CB vs_A l 59 (ve_HI vs_A l 59 vs_M) vs_M) "java/lang/AbstractStringBuilder" prog_13_method_10_code 6 (some .int) "newCapacity" 32 (ve_pu (ve_is 34 5 6)) := ve_pu_ok (ve_istore_ok (by decide +kernel : decode prog_13_method_10_code 32 = .ok (.istore 5, 2)))
set_option maxRecDepth 16384 in
theorem vi_55_34 (l : Launch) : ve_OK vs_A l 59 (ve_HI vs_A l 59 vs_M) (ve_CB vs_A l 59 (ve_HI vs_A l 59 vs_M) vs_M) "java/lang/AbstractStringBuilder" prog_13_method_10_code 6 (some .int) "newCapacity" 34 (ve_pu (ve_il 36 5)) := ve_pu_ok (ve_iload_ok (by decide +kernel : decode prog_13_method_10_code 34 = .ok (.iload 5, 2)))
set_option maxRecDepth 16384 in
theorem vi_55_36 (l : Launch) : ve_OK vs_A l 59 (ve_HI vs_A l 59 vs_M) (ve_CB vs_A l 59 (ve_HI vs_A l 59 vs_M) vs_M) "java/lang/AbstractStringBuilder" prog_13_method_10_code 6 (some .int) "newCapacity" 36 (ve_pu (ve_push 38 (.int (2147483647)))) := ve_cu_ok (ve_ldcI_ok (v := 2147483647) (by decide +kernel : decode prog_13_method_10_code 36 = .ok (.ldc 39, 2)) vw_347)
set_option maxRecDepth 16384 in
theorem vi_55_38 (l : Launch) : ve_OK vs_A l 59 (ve_HI vs_A l 59 vs_M) (ve_CB vs_A l 59 (ve_HI vs_A l 59 vs_M) vs_M) "java/lang/AbstractStringBuilder" prog_13_method_10_code 6 (some .int) "newCapacity" 38 (ve_pu (ve_br2 (fun x y => decide (¬ x = y)) 51 41)) := ve_pu_ok (ve_icmp_ne_ok (by decide +kernel : decode prog_13_method_10_code 38 = .ok (.if_icmp .ne (13), 3)) (by decide +kernel))
set_option maxRecDepth 16384 in
theorem vi_55_51 (l : Launch) : ve_OK vs_A l 59 (ve_HI vs_A l 59 vs_M) (ve_CB vs_A l 59 (ve_HI vs_A l 59 vs_M) vs_M) "java/lang/AbstractStringBuilder" prog_13_method_10_code 6 (some .int) "newCapacity" 51 (ve_pu (ve_il 53 5)) := ve_pu_ok (ve_iload_ok (by decide +kernel : decode prog_13_method_10_code 51 = .ok (.iload 5, 2)))
set_option maxRecDepth 16384 in
theorem vi_55_53 (l : Launch) : ve_OK vs_A l 59 (ve_HI vs_A l 59 vs_M) (ve_CB vs_A l 59 (ve_HI vs_A l 59 vs_M) vs_M) "java/lang/AbstractStringBuilder" prog_13_method_10_code 6 (some .int) "newCapacity" 53 (ve_pu (ve_al 54 0)) := ve_pu_ok (ve_aload_n_ok (k := 0) (i := 0) (by decide +kernel : decode prog_13_method_10_code 53 = .ok (.aload_n 0, 1)) rfl)
set_option maxRecDepth 16384 in
theorem vi_55_54 (l : Launch) : ve_OK vs_A l 59 (ve_HI vs_A l 59 vs_M) (ve_CB vs_A l 59 (ve_HI vs_A l 59 vs_M) vs_M) "java/lang/AbstractStringBuilder" prog_13_method_10_code 6 (some .int) "newCapacity" 54 (ve_gf 57 1) := ve_getf_ok (k := 1) (by decide +kernel : decode prog_13_method_10_code 54 = .ok (.getfield 22, 3)) vw_92 vf_153
set_option maxRecDepth 16384 in
theorem vi_55_57 (l : Launch) : ve_OK vs_A l 59 (ve_HI vs_A l 59 vs_M) (ve_CB vs_A l 59 (ve_HI vs_A l 59 vs_M) vs_M) "java/lang/AbstractStringBuilder" prog_13_method_10_code 6 (some .int) "newCapacity" 57 (ve_pu (ve_ishr 58)) := ve_pu_ok (ve_ishr_ok (by decide +kernel : decode prog_13_method_10_code 57 = .ok (.ishr, 1)))
set_option maxRecDepth 16384 in
theorem vi_55_58 (l : Launch) : ve_OK vs_A l 59 (ve_HI vs_A l 59 vs_M) (ve_CB vs_A l 59 (ve_HI vs_A l 59 vs_M) vs_M) "java/lang/AbstractStringBuilder" prog_13_method_10_code 6 (some .int) "newCapacity" 58 (ve_rt 1 .int) := ve_iret_ok (by decide +kernel : decode prog_13_method_10_code 58 = .ok (.ireturn, 1)) rfl
set_option maxRecDepth 16384 in
theorem vi_56_0 (l : Launch) : ve_OK vs_A l 59 (ve_HI vs_A l 59 vs_M) (ve_CB vs_A l 59 (ve_HI vs_A l 59 vs_M) vs_M) "jdk/internal/util/ArraysSupport" prog_48_method_27_code 4 (some .int) "newLength" 0 (ve_pu (ve_il 1 0)) := ve_pu_ok (ve_iload_n_ok (k := 0) (i := 0) (by decide +kernel : decode prog_48_method_27_code 0 = .ok (.iload_n 0, 1)) rfl)
set_option maxRecDepth 16384 in
theorem vi_56_1 (l : Launch) : ve_OK vs_A l 59 (ve_HI vs_A l 59 vs_M) (ve_CB vs_A l 59 (ve_HI vs_A l 59 vs_M) vs_M) "jdk/internal/util/ArraysSupport" prog_48_method_27_code 4 (some .int) "newLength" 1 (ve_pu (ve_il 2 1)) := ve_pu_ok (ve_iload_n_ok (k := 1) (i := 1) (by decide +kernel : decode prog_48_method_27_code 1 = .ok (.iload_n 1, 1)) rfl)
set_option maxRecDepth 16384 in
theorem vi_56_2 (l : Launch) : ve_OK vs_A l 59 (ve_HI vs_A l 59 vs_M) (ve_CB vs_A l 59 (ve_HI vs_A l 59 vs_M) vs_M) "jdk/internal/util/ArraysSupport" prog_48_method_27_code 4 (some .int) "newLength" 2 (ve_pu (ve_il 3 2)) := ve_pu_ok (ve_iload_n_ok (k := 2) (i := 2) (by decide +kernel : decode prog_48_method_27_code 2 = .ok (.iload_n 2, 1)) rfl)
set_option maxRecDepth 16384 in
theorem vi_56_3 (l : Launch) : ve_OK vs_A l 59 (ve_HI vs_A l 59 vs_M) (ve_CB vs_A l 59 (ve_HI vs_A l 59 vs_M) vs_M) "jdk/internal/util/ArraysSupport" prog_48_method_27_code 4 (some .int) "newLength" 3 (ve_cl 59 15 2 6) := ve_cl_ok (ve_rowS (md := vs_M) (A0 := vs_A) (mi := 15) (by decide +kernel : decode prog_48_method_27_code 3 = .ok (.invokestatic 194, 3)) (by decide) vw_348 vw_144 vw_145 vw_146 rfl ⟨by decide, by decide⟩ vf_9)
set_option maxRecDepth 16384 in
theorem vi_56_6 (l : Launch) : ve_OK vs_A l 59 (ve_HI vs_A l 59 vs_M) (ve_CB vs_A l 59 (ve_HI vs_A l 59 vs_M) vs_M) "jdk/internal/util/ArraysSupport" prog_48_method_27_code 4 (some .int) "newLength" 6 (ve_pu (ve_iadd 7)) := ve_pu_ok (ve_iadd_ok (by decide +kernel : decode prog_48_method_27_code 6 = .ok (.iadd, 1)))
set_option maxRecDepth 16384 in
theorem vi_56_7 (l : Launch) : ve_OK vs_A l 59 (ve_HI vs_A l 59 vs_M) (ve_CB vs_A l 59 (ve_HI vs_A l 59 vs_M) vs_M) "jdk/internal/util/ArraysSupport" prog_48_method_27_code 4 (some .int) "newLength" 7 (ve_pu (ve_is 8 3 4)) := ve_pu_ok (ve_istore_n_ok (k := 3) (i := 3) (by decide +kernel : decode prog_48_method_27_code 7 = .ok (.istore_n 3, 1)) rfl)
set_option maxRecDepth 16384 in
theorem vi_56_8 (l : Launch) : ve_OK vs_A l 59 (ve_HI vs_A l 59 vs_M) (ve_CB vs_A l 59 (ve_HI vs_A l 59 vs_M) vs_M) "jdk/internal/util/ArraysSupport" prog_48_method_27_code 4 (some .int) "newLength" 8 (ve_pu (ve_push 9 (.int (0)))) := ve_pu_ok (ve_iconst_ok (n := 0) (v := 0) (by decide +kernel : decode prog_48_method_27_code 8 = .ok (.iconst (0), 1)) rfl)
set_option maxRecDepth 16384 in
theorem vi_56_9 (l : Launch) : ve_OK vs_A l 59 (ve_HI vs_A l 59 vs_M) (ve_CB vs_A l 59 (ve_HI vs_A l 59 vs_M) vs_M) "jdk/internal/util/ArraysSupport" prog_48_method_27_code 4 (some .int) "newLength" 9 (ve_pu (ve_il 10 3)) := ve_pu_ok (ve_iload_n_ok (k := 3) (i := 3) (by decide +kernel : decode prog_48_method_27_code 9 = .ok (.iload_n 3, 1)) rfl)
set_option maxRecDepth 16384 in
theorem vi_56_10 (l : Launch) : ve_OK vs_A l 59 (ve_HI vs_A l 59 vs_M) (ve_CB vs_A l 59 (ve_HI vs_A l 59 vs_M) vs_M) "jdk/internal/util/ArraysSupport" prog_48_method_27_code 4 (some .int) "newLength" 10 (ve_pu (ve_br2 (fun x y => decide (¬ x < y)) 21 13)) := ve_pu_ok (ve_icmp_ge_ok (by decide +kernel : decode prog_48_method_27_code 10 = .ok (.if_icmp .ge (11), 3)) (by decide +kernel))
set_option maxRecDepth 16384 in
theorem vi_56_13 (l : Launch) : ve_OK vs_A l 59 (ve_HI vs_A l 59 vs_M) (ve_CB vs_A l 59 (ve_HI vs_A l 59 vs_M) vs_M) "jdk/internal/util/ArraysSupport" prog_48_method_27_code 4 (some .int) "newLength" 13 (ve_pu (ve_il 14 3)) := ve_pu_ok (ve_iload_n_ok (k := 3) (i := 3) (by decide +kernel : decode prog_48_method_27_code 13 = .ok (.iload_n 3, 1)) rfl)
set_option maxRecDepth 16384 in
theorem vi_56_14 (l : Launch) : ve_OK vs_A l 59 (ve_HI vs_A l 59 vs_M) (ve_CB vs_A l 59 (ve_HI vs_A l 59 vs_M) vs_M) "jdk/internal/util/ArraysSupport" prog_48_method_27_code 4 (some .int) "newLength" 14 (ve_pu (ve_push 16 (.int (2147483639)))) := ve_cu_ok (ve_ldcI_ok (v := 2147483639) (by decide +kernel : decode prog_48_method_27_code 14 = .ok (.ldc 200, 2)) vw_349)
set_option maxRecDepth 16384 in
theorem vi_56_16 (l : Launch) : ve_OK vs_A l 59 (ve_HI vs_A l 59 vs_M) (ve_CB vs_A l 59 (ve_HI vs_A l 59 vs_M) vs_M) "jdk/internal/util/ArraysSupport" prog_48_method_27_code 4 (some .int) "newLength" 16 (ve_pu (ve_br2 (fun x y => decide (y < x)) 21 19)) := ve_pu_ok (ve_icmp_gt_ok (by decide +kernel : decode prog_48_method_27_code 16 = .ok (.if_icmp .gt (5), 3)) (by decide +kernel))
set_option maxRecDepth 16384 in
theorem vi_56_19 (l : Launch) : ve_OK vs_A l 59 (ve_HI vs_A l 59 vs_M) (ve_CB vs_A l 59 (ve_HI vs_A l 59 vs_M) vs_M) "jdk/internal/util/ArraysSupport" prog_48_method_27_code 4 (some .int) "newLength" 19 (ve_pu (ve_il 20 3)) := ve_pu_ok (ve_iload_n_ok (k := 3) (i := 3) (by decide +kernel : decode prog_48_method_27_code 19 = .ok (.iload_n 3, 1)) rfl)
set_option maxRecDepth 16384 in
theorem vi_56_20 (l : Launch) : ve_OK vs_A l 59 (ve_HI vs_A l 59 vs_M) (ve_CB vs_A l 59 (ve_HI vs_A l 59 vs_M) vs_M) "jdk/internal/util/ArraysSupport" prog_48_method_27_code 4 (some .int) "newLength" 20 (ve_rt 1 .int) := ve_iret_ok (by decide +kernel : decode prog_48_method_27_code 20 = .ok (.ireturn, 1)) rfl
set_option maxRecDepth 16384 in
theorem vi_57_0 (l : Launch) : ve_OK vs_A l 59 (ve_HI vs_A l 59 vs_M) (ve_CB vs_A l 59 (ve_HI vs_A l 59 vs_M) vs_M) "java/util/Arrays" prog_41_method_121_code 3 (some (.array .byte)) "copyOf" 0 (ve_pu (ve_il 1 1)) := ve_pu_ok (ve_iload_n_ok (k := 1) (i := 1) (by decide +kernel : decode prog_41_method_121_code 0 = .ok (.iload_n 1, 1)) rfl)
set_option maxRecDepth 16384 in
theorem vi_57_1 (l : Launch) : ve_OK vs_A l 59 (ve_HI vs_A l 59 vs_M) (ve_CB vs_A l 59 (ve_HI vs_A l 59 vs_M) vs_M) "java/util/Arrays" prog_41_method_121_code 3 (some (.array .byte)) "copyOf" 1 (ve_pu (ve_al 2 0)) := ve_pu_ok (ve_aload_n_ok (k := 0) (i := 0) (by decide +kernel : decode prog_41_method_121_code 1 = .ok (.aload_n 0, 1)) rfl)
set_option maxRecDepth 16384 in
theorem vi_57_2 (l : Launch) : ve_OK vs_A l 59 (ve_HI vs_A l 59 vs_M) (ve_CB vs_A l 59 (ve_HI vs_A l 59 vs_M) vs_M) "java/util/Arrays" prog_41_method_121_code 3 (some (.array .byte)) "copyOf" 2 (ve_len 3 53) := ve_len_ok (by decide +kernel : decode prog_41_method_121_code 2 = .ok (.arraylength, 1)) vf_152
set_option maxRecDepth 16384 in
theorem vi_57_3 (l : Launch) : ve_OK vs_A l 59 (ve_HI vs_A l 59 vs_M) (ve_CB vs_A l 59 (ve_HI vs_A l 59 vs_M) vs_M) "java/util/Arrays" prog_41_method_121_code 3 (some (.array .byte)) "copyOf" 3 (ve_pu (ve_br2 (fun x y => decide (¬ x = y)) 14 6)) := ve_pu_ok (ve_icmp_ne_ok (by decide +kernel : decode prog_41_method_121_code 3 = .ok (.if_icmp .ne (11), 3)) (by decide +kernel))
set_option maxRecDepth 16384 in
theorem vi_57_14 (l : Launch) : ve_OK vs_A l 59 (ve_HI vs_A l 59 vs_M) (ve_CB vs_A l 59 (ve_HI vs_A l 59 vs_M) vs_M) "java/util/Arrays" prog_41_method_121_code 3 (some (.array .byte)) "copyOf" 14 (ve_pu (ve_il 15 1)) := ve_pu_ok (ve_iload_n_ok (k := 1) (i := 1) (by decide +kernel : decode prog_41_method_121_code 14 = .ok (.iload_n 1, 1)) rfl)
set_option maxRecDepth 16384 in
theorem vi_57_15 (l : Launch) : ve_OK vs_A l 59 (ve_HI vs_A l 59 vs_M) (ve_CB vs_A l 59 (ve_HI vs_A l 59 vs_M) vs_M) "java/util/Arrays" prog_41_method_121_code 3 (some (.array .byte)) "copyOf" 15 (ve_na 17 53 (.int 0)) := ve_newa_ok (cls := 53) (ty := .byte) (by decide +kernel : decode prog_41_method_121_code 15 = .ok (.newarray .byte, 2)) vw_90 vf_53 rfl rfl rfl (by decide)
set_option maxRecDepth 16384 in
theorem vi_57_17 (l : Launch) : ve_OK vs_A l 59 (ve_HI vs_A l 59 vs_M) (ve_CB vs_A l 59 (ve_HI vs_A l 59 vs_M) vs_M) "java/util/Arrays" prog_41_method_121_code 3 (some (.array .byte)) "copyOf" 17 (ve_pu (ve_as 18 2 3)) := ve_pu_ok (ve_astore_n_ok (k := 2) (i := 2) (by decide +kernel : decode prog_41_method_121_code 17 = .ok (.astore_n 2, 1)) rfl)
set_option maxRecDepth 16384 in
theorem vi_57_18 (l : Launch) : ve_OK vs_A l 59 (ve_HI vs_A l 59 vs_M) (ve_CB vs_A l 59 (ve_HI vs_A l 59 vs_M) vs_M) "java/util/Arrays" prog_41_method_121_code 3 (some (.array .byte)) "copyOf" 18 (ve_pu (ve_al 19 0)) := ve_pu_ok (ve_aload_n_ok (k := 0) (i := 0) (by decide +kernel : decode prog_41_method_121_code 18 = .ok (.aload_n 0, 1)) rfl)
set_option maxRecDepth 16384 in
theorem vi_57_19 (l : Launch) : ve_OK vs_A l 59 (ve_HI vs_A l 59 vs_M) (ve_CB vs_A l 59 (ve_HI vs_A l 59 vs_M) vs_M) "java/util/Arrays" prog_41_method_121_code 3 (some (.array .byte)) "copyOf" 19 (ve_pu (ve_push 20 (.int (0)))) := ve_pu_ok (ve_iconst_ok (n := 0) (v := 0) (by decide +kernel : decode prog_41_method_121_code 19 = .ok (.iconst (0), 1)) rfl)
set_option maxRecDepth 16384 in
theorem vi_57_20 (l : Launch) : ve_OK vs_A l 59 (ve_HI vs_A l 59 vs_M) (ve_CB vs_A l 59 (ve_HI vs_A l 59 vs_M) vs_M) "java/util/Arrays" prog_41_method_121_code 3 (some (.array .byte)) "copyOf" 20 (ve_pu (ve_al 21 2)) := ve_pu_ok (ve_aload_n_ok (k := 2) (i := 2) (by decide +kernel : decode prog_41_method_121_code 20 = .ok (.aload_n 2, 1)) rfl)
set_option maxRecDepth 16384 in
theorem vi_57_21 (l : Launch) : ve_OK vs_A l 59 (ve_HI vs_A l 59 vs_M) (ve_CB vs_A l 59 (ve_HI vs_A l 59 vs_M) vs_M) "java/util/Arrays" prog_41_method_121_code 3 (some (.array .byte)) "copyOf" 21 (ve_pu (ve_push 22 (.int (0)))) := ve_pu_ok (ve_iconst_ok (n := 0) (v := 0) (by decide +kernel : decode prog_41_method_121_code 21 = .ok (.iconst (0), 1)) rfl)
set_option maxRecDepth 16384 in
theorem vi_57_22 (l : Launch) : ve_OK vs_A l 59 (ve_HI vs_A l 59 vs_M) (ve_CB vs_A l 59 (ve_HI vs_A l 59 vs_M) vs_M) "java/util/Arrays" prog_41_method_121_code 3 (some (.array .byte)) "copyOf" 22 (ve_pu (ve_al 23 0)) := ve_pu_ok (ve_aload_n_ok (k := 0) (i := 0) (by decide +kernel : decode prog_41_method_121_code 22 = .ok (.aload_n 0, 1)) rfl)
set_option maxRecDepth 16384 in
theorem vi_57_23 (l : Launch) : ve_OK vs_A l 59 (ve_HI vs_A l 59 vs_M) (ve_CB vs_A l 59 (ve_HI vs_A l 59 vs_M) vs_M) "java/util/Arrays" prog_41_method_121_code 3 (some (.array .byte)) "copyOf" 23 (ve_len 24 53) := ve_len_ok (by decide +kernel : decode prog_41_method_121_code 23 = .ok (.arraylength, 1)) vf_152
set_option maxRecDepth 16384 in
theorem vi_57_24 (l : Launch) : ve_OK vs_A l 59 (ve_HI vs_A l 59 vs_M) (ve_CB vs_A l 59 (ve_HI vs_A l 59 vs_M) vs_M) "java/util/Arrays" prog_41_method_121_code 3 (some (.array .byte)) "copyOf" 24 (ve_pu (ve_il 25 1)) := ve_pu_ok (ve_iload_n_ok (k := 1) (i := 1) (by decide +kernel : decode prog_41_method_121_code 24 = .ok (.iload_n 1, 1)) rfl)
set_option maxRecDepth 16384 in
theorem vi_57_25 (l : Launch) : ve_OK vs_A l 59 (ve_HI vs_A l 59 vs_M) (ve_CB vs_A l 59 (ve_HI vs_A l 59 vs_M) vs_M) "java/util/Arrays" prog_41_method_121_code 3 (some (.array .byte)) "copyOf" 25 (ve_cl 59 52 2 28) := ve_cl_ok (ve_rowS (md := vs_M) (A0 := vs_A) (mi := 52) (by decide +kernel : decode prog_41_method_121_code 25 = .ok (.invokestatic 304, 3)) (by decide) vw_339 vw_340 vw_145 vw_341 rfl ⟨by decide, by decide⟩ vf_9)
set_option maxRecDepth 16384 in
theorem vi_57_28 (l : Launch) : ve_OK vs_A l 59 (ve_HI vs_A l 59 vs_M) (ve_CB vs_A l 59 (ve_HI vs_A l 59 vs_M) vs_M) "java/util/Arrays" prog_41_method_121_code 3 (some (.array .byte)) "copyOf" 28 (ve_cpy 31 53 .byte) := ve_copy_ok (by decide +kernel : decode prog_41_method_121_code 28 = .ok (.invokestatic 150, 3)) vw_342 vw_298 vw_299 vw_300 rfl vf_152 rfl
set_option maxRecDepth 16384 in
theorem vi_57_31 (l : Launch) : ve_OK vs_A l 59 (ve_HI vs_A l 59 vs_M) (ve_CB vs_A l 59 (ve_HI vs_A l 59 vs_M) vs_M) "java/util/Arrays" prog_41_method_121_code 3 (some (.array .byte)) "copyOf" 31 (ve_pu (ve_al 32 2)) := ve_pu_ok (ve_aload_n_ok (k := 2) (i := 2) (by decide +kernel : decode prog_41_method_121_code 31 = .ok (.aload_n 2, 1)) rfl)
set_option maxRecDepth 16384 in
theorem vi_57_32 (l : Launch) : ve_OK vs_A l 59 (ve_HI vs_A l 59 vs_M) (ve_CB vs_A l 59 (ve_HI vs_A l 59 vs_M) vs_M) "java/util/Arrays" prog_41_method_121_code 3 (some (.array .byte)) "copyOf" 32 (ve_rt 3 (.array .byte)) := ve_aret_ok (rt := (.array .byte)) (by decide +kernel : decode prog_41_method_121_code 32 = .ok (.areturn, 1)) rfl (Or.inr ⟨_, rfl⟩)
set_option maxRecDepth 16384 in
theorem vi_58_0 (l : Launch) : ve_OK vs_A l 59 (ve_HI vs_A l 59 vs_M) (ve_CB vs_A l 59 (ve_HI vs_A l 59 vs_M) vs_M) "Orderbench" prog_1_method_38_code 4 (some .long) "digest" 0 (ve_pu (ve_push 3 (.long (7773)))) := ve_cu_ok (ve_ldc2_ok (v := 7773) (by decide +kernel : decode prog_1_method_38_code 0 = .ok (.ldc2_w 226, 3)) vw_350)
set_option maxRecDepth 16384 in
theorem vi_58_3 (l : Launch) : ve_OK vs_A l 59 (ve_HI vs_A l 59 vs_M) (ve_CB vs_A l 59 (ve_HI vs_A l 59 vs_M) vs_M) "Orderbench" prog_1_method_38_code 4 (some .long) "digest" 3 (ve_pu (ve_ls 4 1 4)) := ve_pu_ok (ve_lstore_n_ok (k := 1) (i := 1) (by decide +kernel : decode prog_1_method_38_code 3 = .ok (.lstore_n 1, 1)) rfl)
set_option maxRecDepth 16384 in
theorem vi_58_4 (l : Launch) : ve_OK vs_A l 59 (ve_HI vs_A l 59 vs_M) (ve_CB vs_A l 59 (ve_HI vs_A l 59 vs_M) vs_M) "Orderbench" prog_1_method_38_code 4 (some .long) "digest" 4 (ve_pu (ve_push 5 (.int (0)))) := ve_pu_ok (ve_iconst_ok (n := 0) (v := 0) (by decide +kernel : decode prog_1_method_38_code 4 = .ok (.iconst (0), 1)) rfl)
set_option maxRecDepth 16384 in
theorem vi_58_5 (l : Launch) : ve_OK vs_A l 59 (ve_HI vs_A l 59 vs_M) (ve_CB vs_A l 59 (ve_HI vs_A l 59 vs_M) vs_M) "Orderbench" prog_1_method_38_code 4 (some .long) "digest" 5 (ve_pu (ve_is 6 3 4)) := ve_pu_ok (ve_istore_n_ok (k := 3) (i := 3) (by decide +kernel : decode prog_1_method_38_code 5 = .ok (.istore_n 3, 1)) rfl)
set_option maxRecDepth 16384 in
theorem vi_58_6 (l : Launch) : ve_OK vs_A l 59 (ve_HI vs_A l 59 vs_M) (ve_CB vs_A l 59 (ve_HI vs_A l 59 vs_M) vs_M) "Orderbench" prog_1_method_38_code 4 (some .long) "digest" 6 (ve_pu (ve_il 7 3)) := ve_pu_ok (ve_iload_n_ok (k := 3) (i := 3) (by decide +kernel : decode prog_1_method_38_code 6 = .ok (.iload_n 3, 1)) rfl)
set_option maxRecDepth 16384 in
theorem vi_58_7 (l : Launch) : ve_OK vs_A l 59 (ve_HI vs_A l 59 vs_M) (ve_CB vs_A l 59 (ve_HI vs_A l 59 vs_M) vs_M) "Orderbench" prog_1_method_38_code 4 (some .long) "digest" 7 (ve_pu (ve_push 9 (.int (6)))) := ve_pu_ok (ve_bipush_ok (n := 6) (v := 6) (by decide +kernel : decode prog_1_method_38_code 7 = .ok (.bipush (6), 2)) (by decide +kernel))
set_option maxRecDepth 16384 in
theorem vi_58_9 (l : Launch) : ve_OK vs_A l 59 (ve_HI vs_A l 59 vs_M) (ve_CB vs_A l 59 (ve_HI vs_A l 59 vs_M) vs_M) "Orderbench" prog_1_method_38_code 4 (some .long) "digest" 9 (ve_pu (ve_br2 (fun x y => decide (¬ x < y)) 31 12)) := ve_pu_ok (ve_icmp_ge_ok (by decide +kernel : decode prog_1_method_38_code 9 = .ok (.if_icmp .ge (22), 3)) (by decide +kernel))
set_option maxRecDepth 16384 in
theorem vi_58_12 (l : Launch) : ve_OK vs_A l 59 (ve_HI vs_A l 59 vs_M) (ve_CB vs_A l 59 (ve_HI vs_A l 59 vs_M) vs_M) "Orderbench" prog_1_method_38_code 4 (some .long) "digest" 12 (ve_pu (ve_ll 13 1)) := ve_pu_ok (ve_lload_n_ok (k := 1) (i := 1) (by decide +kernel : decode prog_1_method_38_code 12 = .ok (.lload_n 1, 1)) rfl)
set_option maxRecDepth 16384 in
theorem vi_58_13 (l : Launch) : ve_OK vs_A l 59 (ve_HI vs_A l 59 vs_M) (ve_CB vs_A l 59 (ve_HI vs_A l 59 vs_M) vs_M) "Orderbench" prog_1_method_38_code 4 (some .long) "digest" 13 (ve_pu (ve_push 16 (.long (31)))) := ve_cu_ok (ve_ldc2_ok (v := 31) (by decide +kernel : decode prog_1_method_38_code 13 = .ok (.ldc2_w 228, 3)) vw_351)
set_option maxRecDepth 16384 in
theorem vi_58_16 (l : Launch) : ve_OK vs_A l 59 (ve_HI vs_A l 59 vs_M) (ve_CB vs_A l 59 (ve_HI vs_A l 59 vs_M) vs_M) "Orderbench" prog_1_method_38_code 4 (some .long) "digest" 16 (ve_pu (ve_lmul 17)) := ve_pu_ok (ve_lmul_ok (by decide +kernel : decode prog_1_method_38_code 16 = .ok (.lmul, 1)))
set_option maxRecDepth 16384 in
theorem vi_58_17 (l : Launch) : ve_OK vs_A l 59 (ve_HI vs_A l 59 vs_M) (ve_CB vs_A l 59 (ve_HI vs_A l 59 vs_M) vs_M) "Orderbench" prog_1_method_38_code 4 (some .long) "digest" 17 (ve_pu (ve_al 18 0)) := ve_pu_ok (ve_aload_n_ok (k := 0) (i := 0) (by decide +kernel : decode prog_1_method_38_code 17 = .ok (.aload_n 0, 1)) rfl)
set_option maxRecDepth 16384 in
theorem vi_58_18 (l : Launch) : ve_OK vs_A l 59 (ve_HI vs_A l 59 vs_M) (ve_CB vs_A l 59 (ve_HI vs_A l 59 vs_M) vs_M) "Orderbench" prog_1_method_38_code 4 (some .long) "digest" 18 (ve_pu (ve_il 19 3)) := ve_pu_ok (ve_iload_n_ok (k := 3) (i := 3) (by decide +kernel : decode prog_1_method_38_code 18 = .ok (.iload_n 3, 1)) rfl)
set_option maxRecDepth 16384 in
theorem vi_58_19 (l : Launch) : ve_OK vs_A l 59 (ve_HI vs_A l 59 vs_M) (ve_CB vs_A l 59 (ve_HI vs_A l 59 vs_M) vs_M) "Orderbench" prog_1_method_38_code 4 (some .long) "digest" 19 (ve_cw 59 2 22 [(2, 59)]) := ve_cw_ok rfl (List.forall_mem_cons.mpr ⟨ve_rowU (md := vs_M) (A0 := vs_A) (mi := 59) (na := 1) (k := 2) (C := "Orderbench") (owner := "Orderbench") (x := ⟨"Orderbench", "houseNumber", "(I)I"⟩) (by decide +kernel : decode prog_1_method_38_code 19 = .ok (.invokevirtual 217, 3)) (by decide) vw_354 vw_352 vw_2 vw_353 rfl vw_355 vw_356 vf_185 ⟨by decide, by decide⟩ vf_0 vf_131, List.forall_mem_nil _⟩)
set_option maxRecDepth 16384 in
theorem vi_58_22 (l : Launch) : ve_OK vs_A l 59 (ve_HI vs_A l 59 vs_M) (ve_CB vs_A l 59 (ve_HI vs_A l 59 vs_M) vs_M) "Orderbench" prog_1_method_38_code 4 (some .long) "digest" 22 (ve_pu (ve_i2l 23)) := ve_pu_ok (ve_i2l_ok (by decide +kernel : decode prog_1_method_38_code 22 = .ok (.i2l, 1)))
set_option maxRecDepth 16384 in
theorem vi_58_23 (l : Launch) : ve_OK vs_A l 59 (ve_HI vs_A l 59 vs_M) (ve_CB vs_A l 59 (ve_HI vs_A l 59 vs_M) vs_M) "Orderbench" prog_1_method_38_code 4 (some .long) "digest" 23 (ve_pu (ve_ladd 24)) := ve_pu_ok (ve_ladd_ok (by decide +kernel : decode prog_1_method_38_code 23 = .ok (.ladd, 1)))
set_option maxRecDepth 16384 in
theorem vi_58_24 (l : Launch) : ve_OK vs_A l 59 (ve_HI vs_A l 59 vs_M) (ve_CB vs_A l 59 (ve_HI vs_A l 59 vs_M) vs_M) "Orderbench" prog_1_method_38_code 4 (some .long) "digest" 24 (ve_pu (ve_ls 25 1 4)) := ve_pu_ok (ve_lstore_n_ok (k := 1) (i := 1) (by decide +kernel : decode prog_1_method_38_code 24 = .ok (.lstore_n 1, 1)) rfl)
set_option maxRecDepth 16384 in
theorem vi_58_25 (l : Launch) : ve_OK vs_A l 59 (ve_HI vs_A l 59 vs_M) (ve_CB vs_A l 59 (ve_HI vs_A l 59 vs_M) vs_M) "Orderbench" prog_1_method_38_code 4 (some .long) "digest" 25 (ve_pu (ve_ii 28 3 4 (1))) := ve_pu_ok (ve_iinc_ok (by decide +kernel : decode prog_1_method_38_code 25 = .ok (.iinc 3 (1), 3)))
set_option maxRecDepth 16384 in
theorem vi_58_28 (l : Launch) : ve_OK vs_A l 59 (ve_HI vs_A l 59 vs_M) (ve_CB vs_A l 59 (ve_HI vs_A l 59 vs_M) vs_M) "Orderbench" prog_1_method_38_code 4 (some .long) "digest" 28 (ve_pu (ve_jmp 6)) := ve_pu_ok (ve_goto_ok (by decide +kernel : decode prog_1_method_38_code 28 = .ok (.goto (-22), 3)) (by decide +kernel))
set_option maxRecDepth 16384 in
theorem vi_58_31 (l : Launch) : ve_OK vs_A l 59 (ve_HI vs_A l 59 vs_M) (ve_CB vs_A l 59 (ve_HI vs_A l 59 vs_M) vs_M) "Orderbench" prog_1_method_38_code 4 (some .long) "digest" 31 (ve_pu (ve_push 32 (.int (0)))) := ve_pu_ok (ve_iconst_ok (n := 0) (v := 0) (by decide +kernel : decode prog_1_method_38_code 31 = .ok (.iconst (0), 1)) rfl)
set_option maxRecDepth 16384 in
theorem vi_58_32 (l : Launch) : ve_OK vs_A l 59 (ve_HI vs_A l 59 vs_M) (ve_CB vs_A l 59 (ve_HI vs_A l 59 vs_M) vs_M) "Orderbench" prog_1_method_38_code 4 (some .long) "digest" 32 (ve_pu (ve_is 33 3 4)) := ve_pu_ok (ve_istore_n_ok (k := 3) (i := 3) (by decide +kernel : decode prog_1_method_38_code 32 = .ok (.istore_n 3, 1)) rfl)
set_option maxRecDepth 16384 in
theorem vi_58_33 (l : Launch) : ve_OK vs_A l 59 (ve_HI vs_A l 59 vs_M) (ve_CB vs_A l 59 (ve_HI vs_A l 59 vs_M) vs_M) "Orderbench" prog_1_method_38_code 4 (some .long) "digest" 33 (ve_pu (ve_il 34 3)) := ve_pu_ok (ve_iload_n_ok (k := 3) (i := 3) (by decide +kernel : decode prog_1_method_38_code 33 = .ok (.iload_n 3, 1)) rfl)
set_option maxRecDepth 16384 in
theorem vi_58_34 (l : Launch) : ve_OK vs_A l 59 (ve_HI vs_A l 59 vs_M) (ve_CB vs_A l 59 (ve_HI vs_A l 59 vs_M) vs_M) "Orderbench" prog_1_method_38_code 4 (some .long) "digest" 34 (ve_pu (ve_push 35 (.int (2)))) := ve_pu_ok (ve_iconst_ok (n := 2) (v := 2) (by decide +kernel : decode prog_1_method_38_code 34 = .ok (.iconst (2), 1)) rfl)
set_option maxRecDepth 16384 in
theorem vi_58_35 (l : Launch) : ve_OK vs_A l 59 (ve_HI vs_A l 59 vs_M) (ve_CB vs_A l 59 (ve_HI vs_A l 59 vs_M) vs_M) "Orderbench" prog_1_method_38_code 4 (some .long) "digest" 35 (ve_pu (ve_br2 (fun x y => decide (¬ x < y)) 56 38)) := ve_pu_ok (ve_icmp_ge_ok (by decide +kernel : decode prog_1_method_38_code 35 = .ok (.if_icmp .ge (21), 3)) (by decide +kernel))
set_option maxRecDepth 16384 in
theorem vi_58_38 (l : Launch) : ve_OK vs_A l 59 (ve_HI vs_A l 59 vs_M) (ve_CB vs_A l 59 (ve_HI vs_A l 59 vs_M) vs_M) "Orderbench" prog_1_method_38_code 4 (some .long) "digest" 38 (ve_pu (ve_al 39 0)) := ve_pu_ok (ve_aload_n_ok (k := 0) (i := 0) (by decide +kernel : decode prog_1_method_38_code 38 = .ok (.aload_n 0, 1)) rfl)
set_option maxRecDepth 16384 in
theorem vi_58_39 (l : Launch) : ve_OK vs_A l 59 (ve_HI vs_A l 59 vs_M) (ve_CB vs_A l 59 (ve_HI vs_A l 59 vs_M) vs_M) "Orderbench" prog_1_method_38_code 4 (some .long) "digest" 39 (ve_pu (ve_ll 40 1)) := ve_pu_ok (ve_lload_n_ok (k := 1) (i := 1) (by decide +kernel : decode prog_1_method_38_code 39 = .ok (.lload_n 1, 1)) rfl)
set_option maxRecDepth 16384 in
theorem vi_58_40 (l : Launch) : ve_OK vs_A l 59 (ve_HI vs_A l 59 vs_M) (ve_CB vs_A l 59 (ve_HI vs_A l 59 vs_M) vs_M) "Orderbench" prog_1_method_38_code 4 (some .long) "digest" 40 (ve_pu (ve_al 41 0)) := ve_pu_ok (ve_aload_n_ok (k := 0) (i := 0) (by decide +kernel : decode prog_1_method_38_code 40 = .ok (.aload_n 0, 1)) rfl)
set_option maxRecDepth 16384 in
theorem vi_58_41 (l : Launch) : ve_OK vs_A l 59 (ve_HI vs_A l 59 vs_M) (ve_CB vs_A l 59 (ve_HI vs_A l 59 vs_M) vs_M) "Orderbench" prog_1_method_38_code 4 (some .long) "digest" 41 (ve_gf 44 0) := ve_getf_ok (k := 0) (by decide +kernel : decode prog_1_method_38_code 41 = .ok (.getfield 11, 3)) vw_48 vf_20
set_option maxRecDepth 16384 in
theorem vi_58_44 (l : Launch) : ve_OK vs_A l 59 (ve_HI vs_A l 59 vs_M) (ve_CB vs_A l 59 (ve_HI vs_A l 59 vs_M) vs_M) "Orderbench" prog_1_method_38_code 4 (some .long) "digest" 44 (ve_pu (ve_il 45 3)) := ve_pu_ok (ve_iload_n_ok (k := 3) (i := 3) (by decide +kernel : decode prog_1_method_38_code 44 = .ok (.iload_n 3, 1)) rfl)
set_option maxRecDepth 16384 in
theorem vi_58_45 (l : Launch) : ve_OK vs_A l 59 (ve_HI vs_A l 59 vs_M) (ve_CB vs_A l 59 (ve_HI vs_A l 59 vs_M) vs_M) "Orderbench" prog_1_method_38_code 4 (some .long) "digest" 45 (ve_ald 46 54) := ve_aald_ok (by decide +kernel : decode prog_1_method_38_code 45 = .ok (.aaload, 1)) vf_186 rfl
set_option maxRecDepth 16384 in
theorem vi_58_46 (l : Launch) : ve_OK vs_A l 59 (ve_HI vs_A l 59 vs_M) (ve_CB vs_A l 59 (ve_HI vs_A l 59 vs_M) vs_M) "Orderbench" prog_1_method_38_code 4 (some .long) "digest" 46 (ve_cw 59 3 49 [(2, 63)]) := ve_cw_ok rfl (List.forall_mem_cons.mpr ⟨ve_rowU (md := vs_M) (A0 := vs_A) (mi := 63) (na := 2) (k := 2) (C := "Orderbench") (owner := "Orderbench") (x := ⟨"Orderbench", "digestBench", "(JLOrderbench$Row;)J"⟩) (by decide +kernel : decode prog_1_method_38_code 46 = .ok (.invokevirtual 230, 3)) (by decide) vw_359 vw_357 vw_2 vw_358 rfl vw_360 vw_361 vf_188 ⟨by decide, by decide⟩ vf_0 vf_187, List.forall_mem_nil _⟩)
set_option maxRecDepth 16384 in
theorem vi_58_49 (l : Launch) : ve_OK vs_A l 59 (ve_HI vs_A l 59 vs_M) (ve_CB vs_A l 59 (ve_HI vs_A l 59 vs_M) vs_M) "Orderbench" prog_1_method_38_code 4 (some .long) "digest" 49 (ve_pu (ve_ls 50 1 4)) := ve_pu_ok (ve_lstore_n_ok (k := 1) (i := 1) (by decide +kernel : decode prog_1_method_38_code 49 = .ok (.lstore_n 1, 1)) rfl)
set_option maxRecDepth 16384 in
theorem vi_58_50 (l : Launch) : ve_OK vs_A l 59 (ve_HI vs_A l 59 vs_M) (ve_CB vs_A l 59 (ve_HI vs_A l 59 vs_M) vs_M) "Orderbench" prog_1_method_38_code 4 (some .long) "digest" 50 (ve_pu (ve_ii 53 3 4 (1))) := ve_pu_ok (ve_iinc_ok (by decide +kernel : decode prog_1_method_38_code 50 = .ok (.iinc 3 (1), 3)))
set_option maxRecDepth 16384 in
theorem vi_58_53 (l : Launch) : ve_OK vs_A l 59 (ve_HI vs_A l 59 vs_M) (ve_CB vs_A l 59 (ve_HI vs_A l 59 vs_M) vs_M) "Orderbench" prog_1_method_38_code 4 (some .long) "digest" 53 (ve_pu (ve_jmp 33)) := ve_pu_ok (ve_goto_ok (by decide +kernel : decode prog_1_method_38_code 53 = .ok (.goto (-20), 3)) (by decide +kernel))
set_option maxRecDepth 16384 in
theorem vi_58_56 (l : Launch) : ve_OK vs_A l 59 (ve_HI vs_A l 59 vs_M) (ve_CB vs_A l 59 (ve_HI vs_A l 59 vs_M) vs_M) "Orderbench" prog_1_method_38_code 4 (some .long) "digest" 56 (ve_pu (ve_push 57 (.int (0)))) := ve_pu_ok (ve_iconst_ok (n := 0) (v := 0) (by decide +kernel : decode prog_1_method_38_code 56 = .ok (.iconst (0), 1)) rfl)
set_option maxRecDepth 16384 in
theorem vi_58_57 (l : Launch) : ve_OK vs_A l 59 (ve_HI vs_A l 59 vs_M) (ve_CB vs_A l 59 (ve_HI vs_A l 59 vs_M) vs_M) "Orderbench" prog_1_method_38_code 4 (some .long) "digest" 57 (ve_pu (ve_is 58 3 4)) := ve_pu_ok (ve_istore_n_ok (k := 3) (i := 3) (by decide +kernel : decode prog_1_method_38_code 57 = .ok (.istore_n 3, 1)) rfl)
set_option maxRecDepth 16384 in
theorem vi_58_58 (l : Launch) : ve_OK vs_A l 59 (ve_HI vs_A l 59 vs_M) (ve_CB vs_A l 59 (ve_HI vs_A l 59 vs_M) vs_M) "Orderbench" prog_1_method_38_code 4 (some .long) "digest" 58 (ve_pu (ve_il 59 3)) := ve_pu_ok (ve_iload_n_ok (k := 3) (i := 3) (by decide +kernel : decode prog_1_method_38_code 58 = .ok (.iload_n 3, 1)) rfl)
set_option maxRecDepth 16384 in
theorem vi_58_59 (l : Launch) : ve_OK vs_A l 59 (ve_HI vs_A l 59 vs_M) (ve_CB vs_A l 59 (ve_HI vs_A l 59 vs_M) vs_M) "Orderbench" prog_1_method_38_code 4 (some .long) "digest" 59 (ve_pu (ve_push 61 (.int (10)))) := ve_pu_ok (ve_bipush_ok (n := 10) (v := 10) (by decide +kernel : decode prog_1_method_38_code 59 = .ok (.bipush (10), 2)) (by decide +kernel))
set_option maxRecDepth 16384 in
theorem vi_58_61 (l : Launch) : ve_OK vs_A l 59 (ve_HI vs_A l 59 vs_M) (ve_CB vs_A l 59 (ve_HI vs_A l 59 vs_M) vs_M) "Orderbench" prog_1_method_38_code 4 (some .long) "digest" 61 (ve_pu (ve_br2 (fun x y => decide (¬ x < y)) 82 64)) := ve_pu_ok (ve_icmp_ge_ok (by decide +kernel : decode prog_1_method_38_code 61 = .ok (.if_icmp .ge (21), 3)) (by decide +kernel))
set_option maxRecDepth 16384 in
theorem vi_58_64 (l : Launch) : ve_OK vs_A l 59 (ve_HI vs_A l 59 vs_M) (ve_CB vs_A l 59 (ve_HI vs_A l 59 vs_M) vs_M) "Orderbench" prog_1_method_38_code 4 (some .long) "digest" 64 (ve_pu (ve_al 65 0)) := ve_pu_ok (ve_aload_n_ok (k := 0) (i := 0) (by decide +kernel : decode prog_1_method_38_code 64 = .ok (.aload_n 0, 1)) rfl)
set_option maxRecDepth 16384 in
theorem vi_58_65 (l : Launch) : ve_OK vs_A l 59 (ve_HI vs_A l 59 vs_M) (ve_CB vs_A l 59 (ve_HI vs_A l 59 vs_M) vs_M) "Orderbench" prog_1_method_38_code 4 (some .long) "digest" 65 (ve_pu (ve_ll 66 1)) := ve_pu_ok (ve_lload_n_ok (k := 1) (i := 1) (by decide +kernel : decode prog_1_method_38_code 65 = .ok (.lload_n 1, 1)) rfl)
set_option maxRecDepth 16384 in
theorem vi_58_66 (l : Launch) : ve_OK vs_A l 59 (ve_HI vs_A l 59 vs_M) (ve_CB vs_A l 59 (ve_HI vs_A l 59 vs_M) vs_M) "Orderbench" prog_1_method_38_code 4 (some .long) "digest" 66 (ve_pu (ve_al 67 0)) := ve_pu_ok (ve_aload_n_ok (k := 0) (i := 0) (by decide +kernel : decode prog_1_method_38_code 66 = .ok (.aload_n 0, 1)) rfl)
set_option maxRecDepth 16384 in
theorem vi_58_67 (l : Launch) : ve_OK vs_A l 59 (ve_HI vs_A l 59 vs_M) (ve_CB vs_A l 59 (ve_HI vs_A l 59 vs_M) vs_M) "Orderbench" prog_1_method_38_code 4 (some .long) "digest" 67 (ve_gf 70 1) := ve_getf_ok (k := 1) (by decide +kernel : decode prog_1_method_38_code 67 = .ok (.getfield 18, 3)) vw_56 vf_30
set_option maxRecDepth 16384 in
theorem vi_58_70 (l : Launch) : ve_OK vs_A l 59 (ve_HI vs_A l 59 vs_M) (ve_CB vs_A l 59 (ve_HI vs_A l 59 vs_M) vs_M) "Orderbench" prog_1_method_38_code 4 (some .long) "digest" 70 (ve_pu (ve_il 71 3)) := ve_pu_ok (ve_iload_n_ok (k := 3) (i := 3) (by decide +kernel : decode prog_1_method_38_code 70 = .ok (.iload_n 3, 1)) rfl)
set_option maxRecDepth 16384 in
theorem vi_58_71 (l : Launch) : ve_OK vs_A l 59 (ve_HI vs_A l 59 vs_M) (ve_CB vs_A l 59 (ve_HI vs_A l 59 vs_M) vs_M) "Orderbench" prog_1_method_38_code 4 (some .long) "digest" 71 (ve_ald 72 55) := ve_aald_ok (by decide +kernel : decode prog_1_method_38_code 71 = .ok (.aaload, 1)) vf_109 rfl
set_option maxRecDepth 16384 in
theorem vi_58_72 (l : Launch) : ve_OK vs_A l 59 (ve_HI vs_A l 59 vs_M) (ve_CB vs_A l 59 (ve_HI vs_A l 59 vs_M) vs_M) "Orderbench" prog_1_method_38_code 4 (some .long) "digest" 72 (ve_cw 59 3 75 [(2, 74)]) := ve_cw_ok rfl (List.forall_mem_cons.mpr ⟨ve_rowU (md := vs_M) (A0 := vs_A) (mi := 74) (na := 2) (k := 2) (C := "Orderbench") (owner := "Orderbench") (x := ⟨"Orderbench", "digestOrder", "(JLOrderbench$Shape;)J"⟩) (by decide +kernel : decode prog_1_method_38_code 72 = .ok (.invokevirtual 234, 3)) (by decide) vw_364 vw_362 vw_2 vw_363 rfl vw_365 vw_366 vf_190 ⟨by decide, by decide⟩ vf_0 vf_189, List.forall_mem_nil _⟩)
set_option maxRecDepth 16384 in
theorem vi_58_75 (l : Launch) : ve_OK vs_A l 59 (ve_HI vs_A l 59 vs_M) (ve_CB vs_A l 59 (ve_HI vs_A l 59 vs_M) vs_M) "Orderbench" prog_1_method_38_code 4 (some .long) "digest" 75 (ve_pu (ve_ls 76 1 4)) := ve_pu_ok (ve_lstore_n_ok (k := 1) (i := 1) (by decide +kernel : decode prog_1_method_38_code 75 = .ok (.lstore_n 1, 1)) rfl)
set_option maxRecDepth 16384 in
theorem vi_58_76 (l : Launch) : ve_OK vs_A l 59 (ve_HI vs_A l 59 vs_M) (ve_CB vs_A l 59 (ve_HI vs_A l 59 vs_M) vs_M) "Orderbench" prog_1_method_38_code 4 (some .long) "digest" 76 (ve_pu (ve_ii 79 3 4 (1))) := ve_pu_ok (ve_iinc_ok (by decide +kernel : decode prog_1_method_38_code 76 = .ok (.iinc 3 (1), 3)))
set_option maxRecDepth 16384 in
theorem vi_58_79 (l : Launch) : ve_OK vs_A l 59 (ve_HI vs_A l 59 vs_M) (ve_CB vs_A l 59 (ve_HI vs_A l 59 vs_M) vs_M) "Orderbench" prog_1_method_38_code 4 (some .long) "digest" 79 (ve_pu (ve_jmp 58)) := ve_pu_ok (ve_goto_ok (by decide +kernel : decode prog_1_method_38_code 79 = .ok (.goto (-21), 3)) (by decide +kernel))
set_option maxRecDepth 16384 in
theorem vi_58_82 (l : Launch) : ve_OK vs_A l 59 (ve_HI vs_A l 59 vs_M) (ve_CB vs_A l 59 (ve_HI vs_A l 59 vs_M) vs_M) "Orderbench" prog_1_method_38_code 4 (some .long) "digest" 82 (ve_pu (ve_ll 83 1)) := ve_pu_ok (ve_lload_n_ok (k := 1) (i := 1) (by decide +kernel : decode prog_1_method_38_code 82 = .ok (.lload_n 1, 1)) rfl)
set_option maxRecDepth 16384 in
theorem vi_58_83 (l : Launch) : ve_OK vs_A l 59 (ve_HI vs_A l 59 vs_M) (ve_CB vs_A l 59 (ve_HI vs_A l 59 vs_M) vs_M) "Orderbench" prog_1_method_38_code 4 (some .long) "digest" 83 (ve_pu (ve_push 86 (.long (31)))) := ve_cu_ok (ve_ldc2_ok (v := 31) (by decide +kernel : decode prog_1_method_38_code 83 = .ok (.ldc2_w 228, 3)) vw_351)
set_option maxRecDepth 16384 in
theorem vi_58_86 (l : Launch) : ve_OK vs_A l 59 (ve_HI vs_A l 59 vs_M) (ve_CB vs_A l 59 (ve_HI vs_A l 59 vs_M) vs_M) "Orderbench" prog_1_method_38_code 4 (some .long) "digest" 86 (ve_pu (ve_lmul 87)) := ve_pu_ok (ve_lmul_ok (by decide +kernel : decode prog_1_method_38_code 86 = .ok (.lmul, 1)))
set_option maxRecDepth 16384 in
theorem vi_58_87 (l : Launch) : ve_OK vs_A l 59 (ve_HI vs_A l 59 vs_M) (ve_CB vs_A l 59 (ve_HI vs_A l 59 vs_M) vs_M) "Orderbench" prog_1_method_38_code 4 (some .long) "digest" 87 (ve_pu (ve_al 88 0)) := ve_pu_ok (ve_aload_n_ok (k := 0) (i := 0) (by decide +kernel : decode prog_1_method_38_code 87 = .ok (.aload_n 0, 1)) rfl)
set_option maxRecDepth 16384 in
theorem vi_58_88 (l : Launch) : ve_OK vs_A l 59 (ve_HI vs_A l 59 vs_M) (ve_CB vs_A l 59 (ve_HI vs_A l 59 vs_M) vs_M) "Orderbench" prog_1_method_38_code 4 (some .long) "digest" 88 (ve_cw 59 1 91 [(2, 84)]) := ve_cw_ok rfl (List.forall_mem_cons.mpr ⟨ve_rowU (md := vs_M) (A0 := vs_A) (mi := 84) (na := 0) (k := 2) (C := "Orderbench") (owner := "Orderbench") (x := ⟨"Orderbench", "isSound", "()Z"⟩) (by decide +kernel : decode prog_1_method_38_code 88 = .ok (.invokevirtual 238, 3)) (by decide) vw_369 vw_367 vw_2 vw_368 rfl vw_370 vw_371 vf_191 ⟨by decide, by decide⟩ vf_0 vf_146, List.forall_mem_nil _⟩)
set_option maxRecDepth 16384 in
theorem vi_58_91 (l : Launch) : ve_OK vs_A l 59 (ve_HI vs_A l 59 vs_M) (ve_CB vs_A l 59 (ve_HI vs_A l 59 vs_M) vs_M) "Orderbench" prog_1_method_38_code 4 (some .long) "digest" 91 (ve_pu (ve_br1 (fun x => decide (x = 0)) 98 94)) := ve_pu_ok (ve_if_eq_ok (by decide +kernel : decode prog_1_method_38_code 91 = .ok (.ifCond .eq (7), 3)) (by decide +kernel))
set_option maxRecDepth 16384 in
theorem vi_58_94 (l : Launch) : ve_OK vs_A l 59 (ve_HI vs_A l 59 vs_M) (ve_CB vs_A l 59 (ve_HI vs_A l 59 vs_M) vs_M) "Orderbench" prog_1_method_38_code 4 (some .long) "digest" 94 (ve_pu (ve_push 95 (.int (1)))) := ve_pu_ok (ve_iconst_ok (n := 1) (v := 1) (by decide +kernel : decode prog_1_method_38_code 94 = .ok (.iconst (1), 1)) rfl)
set_option maxRecDepth 16384 in
theorem vi_58_95 (l : Launch) : ve_OK vs_A l 59 (ve_HI vs_A l 59 vs_M) (ve_CB vs_A l 59 (ve_HI vs_A l 59 vs_M) vs_M) "Orderbench" prog_1_method_38_code 4 (some .long) "digest" 95 (ve_pu (ve_jmp 99)) := ve_pu_ok (ve_goto_ok (by decide +kernel : decode prog_1_method_38_code 95 = .ok (.goto (4), 3)) (by decide +kernel))
set_option maxRecDepth 16384 in
theorem vi_58_99 (l : Launch) : ve_OK vs_A l 59 (ve_HI vs_A l 59 vs_M) (ve_CB vs_A l 59 (ve_HI vs_A l 59 vs_M) vs_M) "Orderbench" prog_1_method_38_code 4 (some .long) "digest" 99 (ve_pu (ve_i2l 100)) := ve_pu_ok (ve_i2l_ok (by decide +kernel : decode prog_1_method_38_code 99 = .ok (.i2l, 1)))
set_option maxRecDepth 16384 in
theorem vi_58_100 (l : Launch) : ve_OK vs_A l 59 (ve_HI vs_A l 59 vs_M) (ve_CB vs_A l 59 (ve_HI vs_A l 59 vs_M) vs_M) "Orderbench" prog_1_method_38_code 4 (some .long) "digest" 100 (ve_pu (ve_ladd 101)) := ve_pu_ok (ve_ladd_ok (by decide +kernel : decode prog_1_method_38_code 100 = .ok (.ladd, 1)))
set_option maxRecDepth 16384 in
theorem vi_58_101 (l : Launch) : ve_OK vs_A l 59 (ve_HI vs_A l 59 vs_M) (ve_CB vs_A l 59 (ve_HI vs_A l 59 vs_M) vs_M) "Orderbench" prog_1_method_38_code 4 (some .long) "digest" 101 (ve_rt 2 .long) := ve_lret_ok (by decide +kernel : decode prog_1_method_38_code 101 = .ok (.lreturn, 1)) rfl
set_option maxRecDepth 16384 in
theorem vi_59_0 (l : Launch) : ve_OK vs_A l 59 (ve_HI vs_A l 59 vs_M) (ve_CB vs_A l 59 (ve_HI vs_A l 59 vs_M) vs_M) "Orderbench" prog_1_method_69_code 2 (some .int) "houseNumber" 0 (ve_pu (ve_il 1 1)) := ve_pu_ok (ve_iload_n_ok (k := 1) (i := 1) (by decide +kernel : decode prog_1_method_69_code 0 = .ok (.iload_n 1, 1)) rfl)
set_option maxRecDepth 16384 in
theorem vi_59_1 (l : Launch) : ve_OK vs_A l 59 (ve_HI vs_A l 59 vs_M) (ve_CB vs_A l 59 (ve_HI vs_A l 59 vs_M) vs_M) "Orderbench" prog_1_method_69_code 2 (some .int) "houseNumber" 1 (ve_pu (ve_tsw (0) (4) [36, 56, 61, 66, 71] 76)) := ve_pu_ok (ve_tsw_ok (dflt := 75) (lo := 0) (hi := 4) (offs := #[35, 55, 60, 65, 70]) (by decide +kernel : decode prog_1_method_69_code 1 = .ok (.tableswitch (75) (0) (4) #[35, 55, 60, 65, 70], 35)) (by decide +kernel) (by decide +kernel))
set_option maxRecDepth 16384 in
theorem vi_59_36 (l : Launch) : ve_OK vs_A l 59 (ve_HI vs_A l 59 vs_M) (ve_CB vs_A l 59 (ve_HI vs_A l 59 vs_M) vs_M) "Orderbench" prog_1_method_69_code 2 (some .int) "houseNumber" 36 (ve_pu (ve_al 37 0)) := ve_pu_ok (ve_aload_n_ok (k := 0) (i := 0) (by decide +kernel : decode prog_1_method_69_code 36 = .ok (.aload_n 0, 1)) rfl)
set_option maxRecDepth 16384 in
theorem vi_59_37 (l : Launch) : ve_OK vs_A l 59 (ve_HI vs_A l 59 vs_M) (ve_CB vs_A l 59 (ve_HI vs_A l 59 vs_M) vs_M) "Orderbench" prog_1_method_69_code 2 (some .int) "houseNumber" 37 (ve_gf 40 0) := ve_getf_ok (k := 0) (by decide +kernel : decode prog_1_method_69_code 37 = .ok (.getfield 11, 3)) vw_48 vf_20
set_option maxRecDepth 16384 in
theorem vi_59_40 (l : Launch) : ve_OK vs_A l 59 (ve_HI vs_A l 59 vs_M) (ve_CB vs_A l 59 (ve_HI vs_A l 59 vs_M) vs_M) "Orderbench" prog_1_method_69_code 2 (some .int) "houseNumber" 40 (ve_pu (ve_push 41 (.int (0)))) := ve_pu_ok (ve_iconst_ok (n := 0) (v := 0) (by decide +kernel : decode prog_1_method_69_code 40 = .ok (.iconst (0), 1)) rfl)
set_option maxRecDepth 16384 in
theorem vi_59_41 (l : Launch) : ve_OK vs_A l 59 (ve_HI vs_A l 59 vs_M) (ve_CB vs_A l 59 (ve_HI vs_A l 59 vs_M) vs_M) "Orderbench" prog_1_method_69_code 2 (some .int) "houseNumber" 41 (ve_ald 42 54) := ve_aald_ok (by decide +kernel : decode prog_1_method_69_code 41 = .ok (.aaload, 1)) vf_186 rfl
set_option maxRecDepth 16384 in
theorem vi_59_42 (l : Launch) : ve_OK vs_A l 59 (ve_HI vs_A l 59 vs_M) (ve_CB vs_A l 59 (ve_HI vs_A l 59 vs_M) vs_M) "Orderbench" prog_1_method_69_code 2 (some .int) "houseNumber" 42 (ve_gf 45 1) := ve_getfN_ok (k := 1) (by decide +kernel : decode prog_1_method_69_code 42 = .ok (.getfield 64, 3)) vw_372 vf_192
set_option maxRecDepth 16384 in
theorem vi_59_45 (l : Launch) : ve_OK vs_A l 59 (ve_HI vs_A l 59 vs_M) (ve_CB vs_A l 59 (ve_HI vs_A l 59 vs_M) vs_M) "Orderbench" prog_1_method_69_code 2 (some .int) "houseNumber" 45 (ve_pu (ve_al 46 0)) := ve_pu_ok (ve_aload_n_ok (k := 0) (i := 0) (by decide +kernel : decode prog_1_method_69_code 45 = .ok (.aload_n 0, 1)) rfl)
set_option maxRecDepth 16384 in
theorem vi_59_46 (l : Launch) : ve_OK vs_A l 59 (ve_HI vs_A l 59 vs_M) (ve_CB vs_A l 59 (ve_HI vs_A l 59 vs_M) vs_M) "Orderbench" prog_1_method_69_code 2 (some .int) "houseNumber" 46 (ve_gf 49 0) := ve_getf_ok (k := 0) (by decide +kernel : decode prog_1_method_69_code 46 = .ok (.getfield 11, 3)) vw_48 vf_20
set_option maxRecDepth 16384 in
theorem vi_59_49 (l : Launch) : ve_OK vs_A l 59 (ve_HI vs_A l 59 vs_M) (ve_CB vs_A l 59 (ve_HI vs_A l 59 vs_M) vs_M) "Orderbench" prog_1_method_69_code 2 (some .int) "houseNumber" 49 (ve_pu (ve_push 50 (.int (1)))) := ve_pu_ok (ve_iconst_ok (n := 1) (v := 1) (by decide +kernel : decode prog_1_method_69_code 49 = .ok (.iconst (1), 1)) rfl)
set_option maxRecDepth 16384 in
theorem vi_59_50 (l : Launch) : ve_OK vs_A l 59 (ve_HI vs_A l 59 vs_M) (ve_CB vs_A l 59 (ve_HI vs_A l 59 vs_M) vs_M) "Orderbench" prog_1_method_69_code 2 (some .int) "houseNumber" 50 (ve_ald 51 54) := ve_aald_ok (by decide +kernel : decode prog_1_method_69_code 50 = .ok (.aaload, 1)) vf_186 rfl
set_option maxRecDepth 16384 in
theorem vi_59_51 (l : Launch) : ve_OK vs_A l 59 (ve_HI vs_A l 59 vs_M) (ve_CB vs_A l 59 (ve_HI vs_A l 59 vs_M) vs_M) "Orderbench" prog_1_method_69_code 2 (some .int) "houseNumber" 51 (ve_gf 54 1) := ve_getfN_ok (k := 1) (by decide +kernel : decode prog_1_method_69_code 51 = .ok (.getfield 64, 3)) vw_372 vf_192
set_option maxRecDepth 16384 in
theorem vi_59_54 (l : Launch) : ve_OK vs_A l 59 (ve_HI vs_A l 59 vs_M) (ve_CB vs_A l 59 (ve_HI vs_A l 59 vs_M) vs_M) "Orderbench" prog_1_method_69_code 2 (some .int) "houseNumber" 54 (ve_pu (ve_iadd 55)) := ve_pu_ok (ve_iadd_ok (by decide +kernel : decode prog_1_method_69_code 54 = .ok (.iadd, 1)))
set_option maxRecDepth 16384 in
theorem vi_59_55 (l : Launch) : ve_OK vs_A l 59 (ve_HI vs_A l 59 vs_M) (ve_CB vs_A l 59 (ve_HI vs_A l 59 vs_M) vs_M) "Orderbench" prog_1_method_69_code 2 (some .int) "houseNumber" 55 (ve_rt 1 .int) := ve_iret_ok (by decide +kernel : decode prog_1_method_69_code 55 = .ok (.ireturn, 1)) rfl
set_option maxRecDepth 16384 in
theorem vi_59_56 (l : Launch) : ve_OK vs_A l 59 (ve_HI vs_A l 59 vs_M) (ve_CB vs_A l 59 (ve_HI vs_A l 59 vs_M) vs_M) "Orderbench" prog_1_method_69_code 2 (some .int) "houseNumber" 56 (ve_pu (ve_al 57 0)) := ve_pu_ok (ve_aload_n_ok (k := 0) (i := 0) (by decide +kernel : decode prog_1_method_69_code 56 = .ok (.aload_n 0, 1)) rfl)
set_option maxRecDepth 16384 in
theorem vi_59_57 (l : Launch) : ve_OK vs_A l 59 (ve_HI vs_A l 59 vs_M) (ve_CB vs_A l 59 (ve_HI vs_A l 59 vs_M) vs_M) "Orderbench" prog_1_method_69_code 2 (some .int) "houseNumber" 57 (ve_gf 60 6) := ve_getf_ok (k := 6) (by decide +kernel : decode prog_1_method_69_code 57 = .ok (.getfield 263, 3)) vw_373 vf_193
set_option maxRecDepth 16384 in
theorem vi_59_60 (l : Launch) : ve_OK vs_A l 59 (ve_HI vs_A l 59 vs_M) (ve_CB vs_A l 59 (ve_HI vs_A l 59 vs_M) vs_M) "Orderbench" prog_1_method_69_code 2 (some .int) "houseNumber" 60 (ve_rt 1 .int) := ve_iret_ok (by decide +kernel : decode prog_1_method_69_code 60 = .ok (.ireturn, 1)) rfl
set_option maxRecDepth 16384 in
theorem vi_59_61 (l : Launch) : ve_OK vs_A l 59 (ve_HI vs_A l 59 vs_M) (ve_CB vs_A l 59 (ve_HI vs_A l 59 vs_M) vs_M) "Orderbench" prog_1_method_69_code 2 (some .int) "houseNumber" 61 (ve_pu (ve_al 62 0)) := ve_pu_ok (ve_aload_n_ok (k := 0) (i := 0) (by decide +kernel : decode prog_1_method_69_code 61 = .ok (.aload_n 0, 1)) rfl)
set_option maxRecDepth 16384 in
theorem vi_59_62 (l : Launch) : ve_OK vs_A l 59 (ve_HI vs_A l 59 vs_M) (ve_CB vs_A l 59 (ve_HI vs_A l 59 vs_M) vs_M) "Orderbench" prog_1_method_69_code 2 (some .int) "houseNumber" 62 (ve_cw 59 1 65 [(2, 60)]) := ve_cw_ok rfl (List.forall_mem_cons.mpr ⟨ve_rowU (md := vs_M) (A0 := vs_A) (mi := 60) (na := 0) (k := 2) (C := "Orderbench") (owner := "Orderbench") (x := ⟨"Orderbench", "howManySafe", "()I"⟩) (by decide +kernel : decode prog_1_method_69_code 62 = .ok (.invokevirtual 304, 3)) (by decide) vw_376 vw_374 vw_2 vw_375 rfl vw_377 vw_378 vf_194 ⟨by decide, by decide⟩ vf_0 vf_11, List.forall_mem_nil _⟩)
set_option maxRecDepth 16384 in
theorem vi_59_65 (l : Launch) : ve_OK vs_A l 59 (ve_HI vs_A l 59 vs_M) (ve_CB vs_A l 59 (ve_HI vs_A l 59 vs_M) vs_M) "Orderbench" prog_1_method_69_code 2 (some .int) "houseNumber" 65 (ve_rt 1 .int) := ve_iret_ok (by decide +kernel : decode prog_1_method_69_code 65 = .ok (.ireturn, 1)) rfl
set_option maxRecDepth 16384 in
theorem vi_59_66 (l : Launch) : ve_OK vs_A l 59 (ve_HI vs_A l 59 vs_M) (ve_CB vs_A l 59 (ve_HI vs_A l 59 vs_M) vs_M) "Orderbench" prog_1_method_69_code 2 (some .int) "houseNumber" 66 (ve_pu (ve_al 67 0)) := ve_pu_ok (ve_aload_n_ok (k := 0) (i := 0) (by decide +kernel : decode prog_1_method_69_code 66 = .ok (.aload_n 0, 1)) rfl)
set_option maxRecDepth 16384 in
theorem vi_59_67 (l : Launch) : ve_OK vs_A l 59 (ve_HI vs_A l 59 vs_M) (ve_CB vs_A l 59 (ve_HI vs_A l 59 vs_M) vs_M) "Orderbench" prog_1_method_69_code 2 (some .int) "houseNumber" 67 (ve_gf 70 7) := ve_getf_ok (k := 7) (by decide +kernel : decode prog_1_method_69_code 67 = .ok (.getfield 276, 3)) vw_379 vf_195
set_option maxRecDepth 16384 in
theorem vi_59_70 (l : Launch) : ve_OK vs_A l 59 (ve_HI vs_A l 59 vs_M) (ve_CB vs_A l 59 (ve_HI vs_A l 59 vs_M) vs_M) "Orderbench" prog_1_method_69_code 2 (some .int) "houseNumber" 70 (ve_rt 1 .int) := ve_iret_ok (by decide +kernel : decode prog_1_method_69_code 70 = .ok (.ireturn, 1)) rfl
set_option maxRecDepth 16384 in
theorem vi_59_71 (l : Launch) : ve_OK vs_A l 59 (ve_HI vs_A l 59 vs_M) (ve_CB vs_A l 59 (ve_HI vs_A l 59 vs_M) vs_M) "Orderbench" prog_1_method_69_code 2 (some .int) "houseNumber" 71 (ve_pu (ve_al 72 0)) := ve_pu_ok (ve_aload_n_ok (k := 0) (i := 0) (by decide +kernel : decode prog_1_method_69_code 71 = .ok (.aload_n 0, 1)) rfl)
set_option maxRecDepth 16384 in
theorem vi_59_72 (l : Launch) : ve_OK vs_A l 59 (ve_HI vs_A l 59 vs_M) (ve_CB vs_A l 59 (ve_HI vs_A l 59 vs_M) vs_M) "Orderbench" prog_1_method_69_code 2 (some .int) "houseNumber" 72 (ve_gf 75 8) := ve_getf_ok (k := 8) (by decide +kernel : decode prog_1_method_69_code 72 = .ok (.getfield 220, 3)) vw_380 vf_196
set_option maxRecDepth 16384 in
theorem vi_59_75 (l : Launch) : ve_OK vs_A l 59 (ve_HI vs_A l 59 vs_M) (ve_CB vs_A l 59 (ve_HI vs_A l 59 vs_M) vs_M) "Orderbench" prog_1_method_69_code 2 (some .int) "houseNumber" 75 (ve_rt 1 .int) := ve_iret_ok (by decide +kernel : decode prog_1_method_69_code 75 = .ok (.ireturn, 1)) rfl
set_option maxRecDepth 16384 in
theorem vi_59_76 (l : Launch) : ve_OK vs_A l 59 (ve_HI vs_A l 59 vs_M) (ve_CB vs_A l 59 (ve_HI vs_A l 59 vs_M) vs_M) "Orderbench" prog_1_method_69_code 2 (some .int) "houseNumber" 76 (ve_pu (ve_al 77 0)) := ve_pu_ok (ve_aload_n_ok (k := 0) (i := 0) (by decide +kernel : decode prog_1_method_69_code 76 = .ok (.aload_n 0, 1)) rfl)
set_option maxRecDepth 16384 in
theorem vi_59_77 (l : Launch) : ve_OK vs_A l 59 (ve_HI vs_A l 59 vs_M) (ve_CB vs_A l 59 (ve_HI vs_A l 59 vs_M) vs_M) "Orderbench" prog_1_method_69_code 2 (some .int) "houseNumber" 77 (ve_gf 80 0) := ve_getf_ok (k := 0) (by decide +kernel : decode prog_1_method_69_code 77 = .ok (.getfield 11, 3)) vw_48 vf_20
set_option maxRecDepth 16384 in
theorem vi_59_80 (l : Launch) : ve_OK vs_A l 59 (ve_HI vs_A l 59 vs_M) (ve_CB vs_A l 59 (ve_HI vs_A l 59 vs_M) vs_M) "Orderbench" prog_1_method_69_code 2 (some .int) "houseNumber" 80 (ve_pu (ve_push 81 (.int (0)))) := ve_pu_ok (ve_iconst_ok (n := 0) (v := 0) (by decide +kernel : decode prog_1_method_69_code 80 = .ok (.iconst (0), 1)) rfl)
set_option maxRecDepth 16384 in
theorem vi_59_81 (l : Launch) : ve_OK vs_A l 59 (ve_HI vs_A l 59 vs_M) (ve_CB vs_A l 59 (ve_HI vs_A l 59 vs_M) vs_M) "Orderbench" prog_1_method_69_code 2 (some .int) "houseNumber" 81 (ve_ald 82 54) := ve_aald_ok (by decide +kernel : decode prog_1_method_69_code 81 = .ok (.aaload, 1)) vf_186 rfl
set_option maxRecDepth 16384 in
theorem vi_59_82 (l : Launch) : ve_OK vs_A l 59 (ve_HI vs_A l 59 vs_M) (ve_CB vs_A l 59 (ve_HI vs_A l 59 vs_M) vs_M) "Orderbench" prog_1_method_69_code 2 (some .int) "houseNumber" 82 (ve_cw 59 1 85 [(3, 61)]) := ve_cw_ok rfl (List.forall_mem_cons.mpr ⟨ve_rowU (md := vs_M) (A0 := vs_A) (mi := 61) (na := 0) (k := 3) (C := "Orderbench$Row") (owner := "Orderbench$Row") (x := ⟨"Orderbench$Row", "empties", "()I"⟩) (by decide +kernel : decode prog_1_method_69_code 82 = .ok (.invokevirtual 209, 3)) (by decide) vw_383 vw_381 vw_50 vw_382 rfl vw_384 vw_385 vf_197 ⟨by decide, by decide⟩ vf_21 vf_11, List.forall_mem_nil _⟩)
set_option maxRecDepth 16384 in
theorem vi_59_85 (l : Launch) : ve_OK vs_A l 59 (ve_HI vs_A l 59 vs_M) (ve_CB vs_A l 59 (ve_HI vs_A l 59 vs_M) vs_M) "Orderbench" prog_1_method_69_code 2 (some .int) "houseNumber" 85 (ve_pu (ve_al 86 0)) := ve_pu_ok (ve_aload_n_ok (k := 0) (i := 0) (by decide +kernel : decode prog_1_method_69_code 85 = .ok (.aload_n 0, 1)) rfl)
set_option maxRecDepth 16384 in
theorem vi_59_86 (l : Launch) : ve_OK vs_A l 59 (ve_HI vs_A l 59 vs_M) (ve_CB vs_A l 59 (ve_HI vs_A l 59 vs_M) vs_M) "Orderbench" prog_1_method_69_code 2 (some .int) "houseNumber" 86 (ve_gf 89 0) := ve_getf_ok (k := 0) (by decide +kernel : decode prog_1_method_69_code 86 = .ok (.getfield 11, 3)) vw_48 vf_20
set_option maxRecDepth 16384 in
theorem vi_59_89 (l : Launch) : ve_OK vs_A l 59 (ve_HI vs_A l 59 vs_M) (ve_CB vs_A l 59 (ve_HI vs_A l 59 vs_M) vs_M) "Orderbench" prog_1_method_69_code 2 (some .int) "houseNumber" 89 (ve_pu (ve_push 90 (.int (1)))) := ve_pu_ok (ve_iconst_ok (n := 1) (v := 1) (by decide +kernel : decode prog_1_method_69_code 89 = .ok (.iconst (1), 1)) rfl)
set_option maxRecDepth 16384 in
theorem vi_59_90 (l : Launch) : ve_OK vs_A l 59 (ve_HI vs_A l 59 vs_M) (ve_CB vs_A l 59 (ve_HI vs_A l 59 vs_M) vs_M) "Orderbench" prog_1_method_69_code 2 (some .int) "houseNumber" 90 (ve_ald 91 54) := ve_aald_ok (by decide +kernel : decode prog_1_method_69_code 90 = .ok (.aaload, 1)) vf_186 rfl
set_option maxRecDepth 16384 in
theorem vi_59_91 (l : Launch) : ve_OK vs_A l 59 (ve_HI vs_A l 59 vs_M) (ve_CB vs_A l 59 (ve_HI vs_A l 59 vs_M) vs_M) "Orderbench" prog_1_method_69_code 2 (some .int) "houseNumber" 91 (ve_cw 59 1 94 [(3, 61)]) := ve_cw_ok rfl (List.forall_mem_cons.mpr ⟨ve_rowU (md := vs_M) (A0 := vs_A) (mi := 61) (na := 0) (k := 3) (C := "Orderbench$Row") (owner := "Orderbench$Row") (x := ⟨"Orderbench$Row", "empties", "()I"⟩) (by decide +kernel : decode prog_1_method_69_code 91 = .ok (.invokevirtual 209, 3)) (by decide) vw_383 vw_381 vw_50 vw_382 rfl vw_384 vw_385 vf_197 ⟨by decide, by decide⟩ vf_21 vf_11, List.forall_mem_nil _⟩)
set_option maxRecDepth 16384 in
theorem vi_59_94 (l : Launch) : ve_OK vs_A l 59 (ve_HI vs_A l 59 vs_M) (ve_CB vs_A l 59 (ve_HI vs_A l 59 vs_M) vs_M) "Orderbench" prog_1_method_69_code 2 (some .int) "houseNumber" 94 (ve_pu (ve_iadd 95)) := ve_pu_ok (ve_iadd_ok (by decide +kernel : decode prog_1_method_69_code 94 = .ok (.iadd, 1)))
