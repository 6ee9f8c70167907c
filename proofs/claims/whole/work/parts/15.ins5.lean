set_option maxRecDepth 16384 in
theorem vi_74_40 (l : Launch) : ve_OK vs_A l 59 (ve_HI vs_A l 59 vs_M) (ve_CB vs_A l 59 (ve_HI vs_A l 59 vs_M) vs_M) "Orderbench" prog_1_method_73_code 4 (some .long) "digestOrder" 40 (ve_rt 2 .long) := ve_lret_ok (by decide +kernel : decode prog_1_method_73_code 40 = .ok (.lreturn, 1)) rfl
set_option maxRecDepth 16384 in
theorem vi_75_0 (l : Launch) : ve_OK vs_A l 59 (ve_HI vs_A l 59 vs_M) (ve_CB vs_A l 59 (ve_HI vs_A l 59 vs_M) vs_M) "Orderbench$Turned" prog_7_method_3_code 3 none "write" 0 (ve_pu (ve_il 1 2)) := ve_pu_ok (ve_iload_n_ok (k := 2) (i := 2) (by decide +kernel : decode prog_7_method_3_code 0 = .ok (.iload_n 2, 1)) rfl)
set_option maxRecDepth 16384 in
theorem vi_75_1 (l : Launch) : ve_OK vs_A l 59 (ve_HI vs_A l 59 vs_M) (ve_CB vs_A l 59 (ve_HI vs_A l 59 vs_M) vs_M) "Orderbench$Turned" prog_7_method_3_code 3 none "write" 1 (ve_pu (ve_push 3 (.int (48)))) := ve_pu_ok (ve_bipush_ok (n := 48) (v := 48) (by decide +kernel : decode prog_7_method_3_code 1 = .ok (.bipush (48), 2)) (by decide +kernel))
set_option maxRecDepth 16384 in
theorem vi_75_3 (l : Launch) : ve_OK vs_A l 59 (ve_HI vs_A l 59 vs_M) (ve_CB vs_A l 59 (ve_HI vs_A l 59 vs_M) vs_M) "Orderbench$Turned" prog_7_method_3_code 3 none "write" 3 (ve_pu (ve_br2 (fun x y => decide (¬ x < y)) 24 6)) := ve_pu_ok (ve_icmp_ge_ok (by decide +kernel : decode prog_7_method_3_code 3 = .ok (.if_icmp .ge (21), 3)) (by decide +kernel))
set_option maxRecDepth 16384 in
theorem vi_75_6 (l : Launch) : ve_OK vs_A l 59 (ve_HI vs_A l 59 vs_M) (ve_CB vs_A l 59 (ve_HI vs_A l 59 vs_M) vs_M) "Orderbench$Turned" prog_7_method_3_code 3 none "write" 6 (ve_pu (ve_al 7 0)) := ve_pu_ok (ve_aload_n_ok (k := 0) (i := 0) (by decide +kernel : decode prog_7_method_3_code 6 = .ok (.aload_n 0, 1)) rfl)
set_option maxRecDepth 16384 in
theorem vi_75_7 (l : Launch) : ve_OK vs_A l 59 (ve_HI vs_A l 59 vs_M) (ve_CB vs_A l 59 (ve_HI vs_A l 59 vs_M) vs_M) "Orderbench$Turned" prog_7_method_3_code 3 none "write" 7 (ve_gf 10 2) := ve_getf_ok (k := 2) (by decide +kernel : decode prog_7_method_3_code 7 = .ok (.getfield 17, 3)) vw_181 vf_215
set_option maxRecDepth 16384 in
theorem vi_75_10 (l : Launch) : ve_OK vs_A l 59 (ve_HI vs_A l 59 vs_M) (ve_CB vs_A l 59 (ve_HI vs_A l 59 vs_M) vs_M) "Orderbench$Turned" prog_7_method_3_code 3 none "write" 10 (ve_pu (ve_al 11 1)) := ve_pu_ok (ve_aload_n_ok (k := 1) (i := 1) (by decide +kernel : decode prog_7_method_3_code 10 = .ok (.aload_n 1, 1)) rfl)
set_option maxRecDepth 16384 in
theorem vi_75_11 (l : Launch) : ve_OK vs_A l 59 (ve_HI vs_A l 59 vs_M) (ve_CB vs_A l 59 (ve_HI vs_A l 59 vs_M) vs_M) "Orderbench$Turned" prog_7_method_3_code 3 none "write" 11 (ve_pu (ve_il 12 2)) := ve_pu_ok (ve_iload_n_ok (k := 2) (i := 2) (by decide +kernel : decode prog_7_method_3_code 11 = .ok (.iload_n 2, 1)) rfl)
set_option maxRecDepth 16384 in
theorem vi_75_12 (l : Launch) : ve_OK vs_A l 59 (ve_HI vs_A l 59 vs_M) (ve_CB vs_A l 59 (ve_HI vs_A l 59 vs_M) vs_M) "Orderbench$Turned" prog_7_method_3_code 3 none "write" 12 (ve_pu (ve_push 13 (.int (1)))) := ve_pu_ok (ve_iconst_ok (n := 1) (v := 1) (by decide +kernel : decode prog_7_method_3_code 12 = .ok (.iconst (1), 1)) rfl)
set_option maxRecDepth 16384 in
theorem vi_75_13 (l : Launch) : ve_OK vs_A l 59 (ve_HI vs_A l 59 vs_M) (ve_CB vs_A l 59 (ve_HI vs_A l 59 vs_M) vs_M) "Orderbench$Turned" prog_7_method_3_code 3 none "write" 13 (ve_pu (ve_iadd 14)) := ve_pu_ok (ve_iadd_ok (by decide +kernel : decode prog_7_method_3_code 13 = .ok (.iadd, 1)))
set_option maxRecDepth 16384 in
theorem vi_75_14 (l : Launch) : ve_OK vs_A l 59 (ve_HI vs_A l 59 vs_M) (ve_CB vs_A l 59 (ve_HI vs_A l 59 vs_M) vs_M) "Orderbench$Turned" prog_7_method_3_code 3 none "write" 14 (ve_cw 59 3 17 [(32, 75), (26, 76)]) := ve_cw_ok rfl (List.forall_mem_cons.mpr ⟨ve_rowU (md := vs_M) (A0 := vs_A) (mi := 75) (na := 2) (k := 32) (C := "Orderbench$Turned") (owner := "Orderbench$Shape") (x := ⟨"Orderbench$Shape", "write", "(Ljava/lang/StringBuilder;I)V"⟩) (by decide +kernel : decode prog_7_method_3_code 14 = .ok (.invokevirtual 27, 3)) (by decide) vw_444 vw_439 vw_166 vw_440 rfl vw_442 vw_443 vf_214 ⟨by decide, by decide⟩ vf_104 vf_213, List.forall_mem_cons.mpr ⟨ve_rowU (md := vs_M) (A0 := vs_A) (mi := 76) (na := 2) (k := 26) (C := "Orderbench$Base") (owner := "Orderbench$Shape") (x := ⟨"Orderbench$Shape", "write", "(Ljava/lang/StringBuilder;I)V"⟩) (by decide +kernel : decode prog_7_method_3_code 14 = .ok (.invokevirtual 27, 3)) (by decide) vw_444 vw_445 vw_59 vw_446 rfl vw_442 vw_447 vf_214 ⟨by decide, by decide⟩ vf_27 vf_213, List.forall_mem_nil _⟩⟩)
set_option maxRecDepth 16384 in
theorem vi_75_17 (l : Launch) : ve_OK vs_A l 59 (ve_HI vs_A l 59 vs_M) (ve_CB vs_A l 59 (ve_HI vs_A l 59 vs_M) vs_M) "Orderbench$Turned" prog_7_method_3_code 3 none "write" 17 (ve_pu (ve_al 18 1)) := ve_pu_ok (ve_aload_n_ok (k := 1) (i := 1) (by decide +kernel : decode prog_7_method_3_code 17 = .ok (.aload_n 1, 1)) rfl)
set_option maxRecDepth 16384 in
theorem vi_75_18 (l : Launch) : ve_OK vs_A l 59 (ve_HI vs_A l 59 vs_M) (ve_CB vs_A l 59 (ve_HI vs_A l 59 vs_M) vs_M) "Orderbench$Turned" prog_7_method_3_code 3 none "write" 18 (ve_pu (ve_push 20 (.int (126)))) := ve_pu_ok (ve_bipush_ok (n := 126) (v := 126) (by decide +kernel : decode prog_7_method_3_code 18 = .ok (.bipush (126), 2)) (by decide +kernel))
set_option maxRecDepth 16384 in
theorem vi_75_20 (l : Launch) : ve_OK vs_A l 59 (ve_HI vs_A l 59 vs_M) (ve_CB vs_A l 59 (ve_HI vs_A l 59 vs_M) vs_M) "Orderbench$Turned" prog_7_method_3_code 3 none "write" 20 (ve_cw 59 2 23 [(36, 31)]) := ve_cw_ok rfl (List.forall_mem_cons.mpr ⟨ve_rowU (md := vs_M) (A0 := vs_A) (mi := 31) (na := 1) (k := 36) (C := "java/lang/StringBuilder") (owner := "java/lang/StringBuilder") (x := ⟨"java/lang/StringBuilder", "append", "(C)Ljava/lang/StringBuilder;"⟩) (by decide +kernel : decode prog_7_method_3_code 20 = .ok (.invokevirtual 31, 3)) (by decide) vw_448 vw_234 vw_69 vw_235 rfl vw_237 vw_238 vf_140 ⟨by decide, by decide⟩ vf_39 vf_139, List.forall_mem_nil _⟩)
set_option maxRecDepth 16384 in
theorem vi_75_23 (l : Launch) : ve_OK vs_A l 59 (ve_HI vs_A l 59 vs_M) (ve_CB vs_A l 59 (ve_HI vs_A l 59 vs_M) vs_M) "Orderbench$Turned" prog_7_method_3_code 3 none "write" 23 (ve_pu (ve_pop 24)) := ve_pu_ok (ve_pop_ok (by decide +kernel : decode prog_7_method_3_code 23 = .ok (.pop, 1)))
set_option maxRecDepth 16384 in
theorem vi_75_24 (l : Launch) : ve_OK vs_A l 59 (ve_HI vs_A l 59 vs_M) (ve_CB vs_A l 59 (ve_HI vs_A l 59 vs_M) vs_M) "Orderbench$Turned" prog_7_method_3_code 3 none "write" 24 (ve_rt 0 .int) := ve_vret_ok (by decide +kernel : decode prog_7_method_3_code 24 = .ok (.return_, 1)) rfl
set_option maxRecDepth 16384 in
theorem vi_76_0 (l : Launch) : ve_OK vs_A l 59 (ve_HI vs_A l 59 vs_M) (ve_CB vs_A l 59 (ve_HI vs_A l 59 vs_M) vs_M) "Orderbench$Base" prog_2_method_3_code 3 none "write" 0 (ve_pu (ve_al 1 0)) := ve_pu_ok (ve_aload_n_ok (k := 0) (i := 0) (by decide +kernel : decode prog_2_method_3_code 0 = .ok (.aload_n 0, 1)) rfl)
set_option maxRecDepth 16384 in
theorem vi_76_1 (l : Launch) : ve_OK vs_A l 59 (ve_HI vs_A l 59 vs_M) (ve_CB vs_A l 59 (ve_HI vs_A l 59 vs_M) vs_M) "Orderbench$Base" prog_2_method_3_code 3 none "write" 1 (ve_gf 4 2) := ve_getf_ok (k := 2) (by decide +kernel : decode prog_2_method_3_code 1 = .ok (.getfield 9, 3)) vw_80 vf_216
set_option maxRecDepth 16384 in
theorem vi_76_4 (l : Launch) : ve_OK vs_A l 59 (ve_HI vs_A l 59 vs_M) (ve_CB vs_A l 59 (ve_HI vs_A l 59 vs_M) vs_M) "Orderbench$Base" prog_2_method_3_code 3 none "write" 4 (ve_pu (ve_br1 (fun x => decide (x < 0)) 33 7)) := ve_pu_ok (ve_if_lt_ok (by decide +kernel : decode prog_2_method_3_code 4 = .ok (.ifCond .lt (29), 3)) (by decide +kernel))
set_option maxRecDepth 16384 in
theorem vi_76_7 (l : Launch) : ve_OK vs_A l 59 (ve_HI vs_A l 59 vs_M) (ve_CB vs_A l 59 (ve_HI vs_A l 59 vs_M) vs_M) "Orderbench$Base" prog_2_method_3_code 3 none "write" 7 (ve_pu (ve_al 8 0)) := ve_pu_ok (ve_aload_n_ok (k := 0) (i := 0) (by decide +kernel : decode prog_2_method_3_code 7 = .ok (.aload_n 0, 1)) rfl)
set_option maxRecDepth 16384 in
theorem vi_76_8 (l : Launch) : ve_OK vs_A l 59 (ve_HI vs_A l 59 vs_M) (ve_CB vs_A l 59 (ve_HI vs_A l 59 vs_M) vs_M) "Orderbench$Base" prog_2_method_3_code 3 none "write" 8 (ve_gf 11 2) := ve_getf_ok (k := 2) (by decide +kernel : decode prog_2_method_3_code 8 = .ok (.getfield 9, 3)) vw_80 vf_216
set_option maxRecDepth 16384 in
theorem vi_76_11 (l : Launch) : ve_OK vs_A l 59 (ve_HI vs_A l 59 vs_M) (ve_CB vs_A l 59 (ve_HI vs_A l 59 vs_M) vs_M) "Orderbench$Base" prog_2_method_3_code 3 none "write" 11 (ve_pu (ve_push 13 (.ref 22))) := ve_cu_ok (ve_ldcS_ok (a := 22) (by decide +kernel : decode prog_2_method_3_code 11 = .ok (.ldc 23, 2)) vf_217 (by decide))
set_option maxRecDepth 16384 in
theorem vi_76_13 (l : Launch) : ve_OK vs_A l 59 (ve_HI vs_A l 59 vs_M) (ve_CB vs_A l 59 (ve_HI vs_A l 59 vs_M) vs_M) "Orderbench$Base" prog_2_method_3_code 3 none "write" 13 (ve_cw 59 1 16 [(28, 38)]) := ve_cw_ok rfl (List.forall_mem_cons.mpr ⟨ve_rowU (md := vs_M) (A0 := vs_A) (mi := 38) (na := 0) (k := 28) (C := "java/lang/String") (owner := "java/lang/String") (x := ⟨"java/lang/String", "length", "()I"⟩) (by decide +kernel : decode prog_2_method_3_code 13 = .ok (.invokevirtual 25, 3)) (by decide) vw_449 vw_210 vw_211 vw_212 rfl vw_214 vw_215 vf_130 ⟨by decide, by decide⟩ vf_129 vf_11, List.forall_mem_nil _⟩)
set_option maxRecDepth 16384 in
theorem vi_76_16 (l : Launch) : ve_OK vs_A l 59 (ve_HI vs_A l 59 vs_M) (ve_CB vs_A l 59 (ve_HI vs_A l 59 vs_M) vs_M) "Orderbench$Base" prog_2_method_3_code 3 none "write" 16 (ve_pu (ve_br2 (fun x y => decide (¬ x < y)) 33 19)) := ve_pu_ok (ve_icmp_ge_ok (by decide +kernel : decode prog_2_method_3_code 16 = .ok (.if_icmp .ge (17), 3)) (by decide +kernel))
set_option maxRecDepth 16384 in
theorem vi_76_19 (l : Launch) : ve_OK vs_A l 59 (ve_HI vs_A l 59 vs_M) (ve_CB vs_A l 59 (ve_HI vs_A l 59 vs_M) vs_M) "Orderbench$Base" prog_2_method_3_code 3 none "write" 19 (ve_pu (ve_al 20 1)) := ve_pu_ok (ve_aload_n_ok (k := 1) (i := 1) (by decide +kernel : decode prog_2_method_3_code 19 = .ok (.aload_n 1, 1)) rfl)
set_option maxRecDepth 16384 in
theorem vi_76_20 (l : Launch) : ve_OK vs_A l 59 (ve_HI vs_A l 59 vs_M) (ve_CB vs_A l 59 (ve_HI vs_A l 59 vs_M) vs_M) "Orderbench$Base" prog_2_method_3_code 3 none "write" 20 (ve_pu (ve_push 22 (.ref 22))) := ve_cu_ok (ve_ldcS_ok (a := 22) (by decide +kernel : decode prog_2_method_3_code 20 = .ok (.ldc 23, 2)) vf_217 (by decide))
set_option maxRecDepth 16384 in
theorem vi_76_22 (l : Launch) : ve_OK vs_A l 59 (ve_HI vs_A l 59 vs_M) (ve_CB vs_A l 59 (ve_HI vs_A l 59 vs_M) vs_M) "Orderbench$Base" prog_2_method_3_code 3 none "write" 22 (ve_pu (ve_al 23 0)) := ve_pu_ok (ve_aload_n_ok (k := 0) (i := 0) (by decide +kernel : decode prog_2_method_3_code 22 = .ok (.aload_n 0, 1)) rfl)
set_option maxRecDepth 16384 in
theorem vi_76_23 (l : Launch) : ve_OK vs_A l 59 (ve_HI vs_A l 59 vs_M) (ve_CB vs_A l 59 (ve_HI vs_A l 59 vs_M) vs_M) "Orderbench$Base" prog_2_method_3_code 3 none "write" 23 (ve_gf 26 2) := ve_getf_ok (k := 2) (by decide +kernel : decode prog_2_method_3_code 23 = .ok (.getfield 9, 3)) vw_80 vf_216
set_option maxRecDepth 16384 in
theorem vi_76_26 (l : Launch) : ve_OK vs_A l 59 (ve_HI vs_A l 59 vs_M) (ve_CB vs_A l 59 (ve_HI vs_A l 59 vs_M) vs_M) "Orderbench$Base" prog_2_method_3_code 3 none "write" 26 (ve_cw 59 2 29 [(28, 77)]) := ve_cw_ok rfl (List.forall_mem_cons.mpr ⟨ve_rowU (md := vs_M) (A0 := vs_A) (mi := 77) (na := 1) (k := 28) (C := "java/lang/String") (owner := "java/lang/String") (x := ⟨"java/lang/String", "charAt", "(I)C"⟩) (by decide +kernel : decode prog_2_method_3_code 26 = .ok (.invokevirtual 31, 3)) (by decide) vw_452 vw_450 vw_211 vw_451 rfl vw_453 vw_454 vf_218 ⟨by decide, by decide⟩ vf_129 vf_211, List.forall_mem_nil _⟩)
set_option maxRecDepth 16384 in
theorem vi_76_29 (l : Launch) : ve_OK vs_A l 59 (ve_HI vs_A l 59 vs_M) (ve_CB vs_A l 59 (ve_HI vs_A l 59 vs_M) vs_M) "Orderbench$Base" prog_2_method_3_code 3 none "write" 29 (ve_cw 59 2 32 [(36, 31)]) := ve_cw_ok rfl (List.forall_mem_cons.mpr ⟨ve_rowU (md := vs_M) (A0 := vs_A) (mi := 31) (na := 1) (k := 36) (C := "java/lang/StringBuilder") (owner := "java/lang/StringBuilder") (x := ⟨"java/lang/StringBuilder", "append", "(C)Ljava/lang/StringBuilder;"⟩) (by decide +kernel : decode prog_2_method_3_code 29 = .ok (.invokevirtual 35, 3)) (by decide) vw_455 vw_234 vw_69 vw_235 rfl vw_237 vw_238 vf_140 ⟨by decide, by decide⟩ vf_39 vf_139, List.forall_mem_nil _⟩)
set_option maxRecDepth 16384 in
theorem vi_76_32 (l : Launch) : ve_OK vs_A l 59 (ve_HI vs_A l 59 vs_M) (ve_CB vs_A l 59 (ve_HI vs_A l 59 vs_M) vs_M) "Orderbench$Base" prog_2_method_3_code 3 none "write" 32 (ve_pu (ve_pop 33)) := ve_pu_ok (ve_pop_ok (by decide +kernel : decode prog_2_method_3_code 32 = .ok (.pop, 1)))
set_option maxRecDepth 16384 in
theorem vi_76_33 (l : Launch) : ve_OK vs_A l 59 (ve_HI vs_A l 59 vs_M) (ve_CB vs_A l 59 (ve_HI vs_A l 59 vs_M) vs_M) "Orderbench$Base" prog_2_method_3_code 3 none "write" 33 (ve_rt 0 .int) := ve_vret_ok (by decide +kernel : decode prog_2_method_3_code 33 = .ok (.return_, 1)) rfl
set_option maxRecDepth 16384 in
theorem vi_77_0 (l : Launch) : ve_OK vs_A l 59 (ve_HI vs_A l 59 vs_M) (ve_CB vs_A l 59 (ve_HI vs_A l 59 vs_M) vs_M) "java/lang/String" prog_28_method_56_code 2 (some .char) "charAt" 0 (ve_pu (ve_al 1 0)) := ve_pu_ok (ve_aload_n_ok (k := 0) (i := 0) (by decide +kernel : decode prog_28_method_56_code 0 = .ok (.aload_n 0, 1)) rfl)
set_option maxRecDepth 16384 in
theorem vi_77_1 (l : Launch) : ve_OK vs_A l 59 (ve_HI vs_A l 59 vs_M) (ve_CB vs_A l 59 (ve_HI vs_A l 59 vs_M) vs_M) "java/lang/String" prog_28_method_56_code 2 (some .char) "charAt" 1 (ve_cw 59 1 4 [(28, 78)]) := ve_cw_ok rfl (List.forall_mem_cons.mpr ⟨ve_rowU (md := vs_M) (A0 := vs_A) (mi := 78) (na := 0) (k := 28) (C := "java/lang/String") (owner := "java/lang/String") (x := ⟨"java/lang/String", "isLatin1", "()Z"⟩) (by decide +kernel : decode prog_28_method_56_code 1 = .ok (.invokevirtual 492, 3)) (by decide) vw_458 vw_456 vw_211 vw_457 rfl vw_459 vw_460 vf_219 ⟨by decide, by decide⟩ vf_129 vf_146, List.forall_mem_nil _⟩)
set_option maxRecDepth 16384 in
theorem vi_77_4 (l : Launch) : ve_OK vs_A l 59 (ve_HI vs_A l 59 vs_M) (ve_CB vs_A l 59 (ve_HI vs_A l 59 vs_M) vs_M) "java/lang/String" prog_28_method_56_code 2 (some .char) "charAt" 4 (ve_pu (ve_br1 (fun x => decide (x = 0)) 16 7)) := ve_pu_ok (ve_if_eq_ok (by decide +kernel : decode prog_28_method_56_code 4 = .ok (.ifCond .eq (12), 3)) (by decide +kernel))
set_option maxRecDepth 16384 in
theorem vi_77_7 (l : Launch) : ve_OK vs_A l 59 (ve_HI vs_A l 59 vs_M) (ve_CB vs_A l 59 (ve_HI vs_A l 59 vs_M) vs_M) "java/lang/String" prog_28_method_56_code 2 (some .char) "charAt" 7 (ve_pu (ve_al 8 0)) := ve_pu_ok (ve_aload_n_ok (k := 0) (i := 0) (by decide +kernel : decode prog_28_method_56_code 7 = .ok (.aload_n 0, 1)) rfl)
set_option maxRecDepth 16384 in
theorem vi_77_8 (l : Launch) : ve_OK vs_A l 59 (ve_HI vs_A l 59 vs_M) (ve_CB vs_A l 59 (ve_HI vs_A l 59 vs_M) vs_M) "java/lang/String" prog_28_method_56_code 2 (some .char) "charAt" 8 (ve_gf 11 0) := ve_getf_ok (k := 0) (by decide +kernel : decode prog_28_method_56_code 8 = .ok (.getfield 9, 3)) vw_278 vf_159
set_option maxRecDepth 16384 in
theorem vi_77_11 (l : Launch) : ve_OK vs_A l 59 (ve_HI vs_A l 59 vs_M) (ve_CB vs_A l 59 (ve_HI vs_A l 59 vs_M) vs_M) "java/lang/String" prog_28_method_56_code 2 (some .char) "charAt" 11 (ve_pu (ve_il 12 1)) := ve_pu_ok (ve_iload_n_ok (k := 1) (i := 1) (by decide +kernel : decode prog_28_method_56_code 11 = .ok (.iload_n 1, 1)) rfl)
set_option maxRecDepth 16384 in
theorem vi_77_12 (l : Launch) : ve_OK vs_A l 59 (ve_HI vs_A l 59 vs_M) (ve_CB vs_A l 59 (ve_HI vs_A l 59 vs_M) vs_M) "java/lang/String" prog_28_method_56_code 2 (some .char) "charAt" 12 (ve_cl 59 79 2 15) := ve_cl_ok (ve_rowS (md := vs_M) (A0 := vs_A) (mi := 79) (by decide +kernel : decode prog_28_method_56_code 12 = .ok (.invokestatic 495, 3)) (by decide) vw_461 vw_462 vw_257 vw_463 rfl ⟨by decide, by decide⟩ vf_220)
set_option maxRecDepth 16384 in
theorem vi_77_15 (l : Launch) : ve_OK vs_A l 59 (ve_HI vs_A l 59 vs_M) (ve_CB vs_A l 59 (ve_HI vs_A l 59 vs_M) vs_M) "java/lang/String" prog_28_method_56_code 2 (some .char) "charAt" 15 (ve_rt 1 .char) := ve_iret_ok (by decide +kernel : decode prog_28_method_56_code 15 = .ok (.ireturn, 1)) rfl
set_option maxRecDepth 16384 in
theorem vi_78_0 (l : Launch) : ve_OK vs_A l 59 (ve_HI vs_A l 59 vs_M) (ve_CB vs_A l 59 (ve_HI vs_A l 59 vs_M) vs_M) "java/lang/String" prog_28_method_154_code 1 (some .boolean) "isLatin1" 0 (ve_gs 3 3 1) := ve_gets_ok (by decide +kernel : decode prog_28_method_154_code 0 = .ok (.getstatic 38, 3)) vw_284 (by decide) vf_52
set_option maxRecDepth 16384 in
theorem vi_78_3 (l : Launch) : ve_OK vs_A l 59 (ve_HI vs_A l 59 vs_M) (ve_CB vs_A l 59 (ve_HI vs_A l 59 vs_M) vs_M) "java/lang/String" prog_28_method_154_code 1 (some .boolean) "isLatin1" 3 (ve_pu (ve_br1 (fun x => decide (x = 0)) 17 6)) := ve_pu_ok (ve_if_eq_ok (by decide +kernel : decode prog_28_method_154_code 3 = .ok (.ifCond .eq (14), 3)) (by decide +kernel))
set_option maxRecDepth 16384 in
theorem vi_78_6 (l : Launch) : ve_OK vs_A l 59 (ve_HI vs_A l 59 vs_M) (ve_CB vs_A l 59 (ve_HI vs_A l 59 vs_M) vs_M) "java/lang/String" prog_28_method_154_code 1 (some .boolean) "isLatin1" 6 (ve_pu (ve_al 7 0)) := ve_pu_ok (ve_aload_n_ok (k := 0) (i := 0) (by decide +kernel : decode prog_28_method_154_code 6 = .ok (.aload_n 0, 1)) rfl)
set_option maxRecDepth 16384 in
theorem vi_78_7 (l : Launch) : ve_OK vs_A l 59 (ve_HI vs_A l 59 vs_M) (ve_CB vs_A l 59 (ve_HI vs_A l 59 vs_M) vs_M) "java/lang/String" prog_28_method_154_code 1 (some .boolean) "isLatin1" 7 (ve_gf 10 1) := ve_getf_ok (k := 1) (by decide +kernel : decode prog_28_method_154_code 7 = .ok (.getfield 15, 3)) vw_285 vf_162
set_option maxRecDepth 16384 in
theorem vi_78_10 (l : Launch) : ve_OK vs_A l 59 (ve_HI vs_A l 59 vs_M) (ve_CB vs_A l 59 (ve_HI vs_A l 59 vs_M) vs_M) "java/lang/String" prog_28_method_154_code 1 (some .boolean) "isLatin1" 10 (ve_pu (ve_br1 (fun x => decide (¬ x = 0)) 17 13)) := ve_pu_ok (ve_if_ne_ok (by decide +kernel : decode prog_28_method_154_code 10 = .ok (.ifCond .ne (7), 3)) (by decide +kernel))
set_option maxRecDepth 16384 in
theorem vi_78_13 (l : Launch) : ve_OK vs_A l 59 (ve_HI vs_A l 59 vs_M) (ve_CB vs_A l 59 (ve_HI vs_A l 59 vs_M) vs_M) "java/lang/String" prog_28_method_154_code 1 (some .boolean) "isLatin1" 13 (ve_pu (ve_push 14 (.int (1)))) := ve_pu_ok (ve_iconst_ok (n := 1) (v := 1) (by decide +kernel : decode prog_28_method_154_code 13 = .ok (.iconst (1), 1)) rfl)
set_option maxRecDepth 16384 in
theorem vi_78_14 (l : Launch) : ve_OK vs_A l 59 (ve_HI vs_A l 59 vs_M) (ve_CB vs_A l 59 (ve_HI vs_A l 59 vs_M) vs_M) "java/lang/String" prog_28_method_154_code 1 (some .boolean) "isLatin1" 14 (ve_pu (ve_jmp 18)) := ve_pu_ok (ve_goto_ok (by decide +kernel : decode prog_28_method_154_code 14 = .ok (.goto (4), 3)) (by decide +kernel))
set_option maxRecDepth 16384 in
theorem vi_78_18 (l : Launch) : ve_OK vs_A l 59 (ve_HI vs_A l 59 vs_M) (ve_CB vs_A l 59 (ve_HI vs_A l 59 vs_M) vs_M) "java/lang/String" prog_28_method_154_code 1 (some .boolean) "isLatin1" 18 (ve_rt 1 .boolean) := ve_iret_ok (by decide +kernel : decode prog_28_method_154_code 18 = .ok (.ireturn, 1)) rfl
set_option maxRecDepth 16384 in
theorem vi_79_0 (l : Launch) : ve_OK vs_A l 59 (ve_HI vs_A l 59 vs_M) (ve_CB vs_A l 59 (ve_HI vs_A l 59 vs_M) vs_M) "java/lang/StringLatin1" prog_31_method_2_code 2 (some .char) "charAt" 0 (ve_pu (ve_il 1 1)) := ve_pu_ok (ve_iload_n_ok (k := 1) (i := 1) (by decide +kernel : decode prog_31_method_2_code 0 = .ok (.iload_n 1, 1)) rfl)
set_option maxRecDepth 16384 in
theorem vi_79_1 (l : Launch) : ve_OK vs_A l 59 (ve_HI vs_A l 59 vs_M) (ve_CB vs_A l 59 (ve_HI vs_A l 59 vs_M) vs_M) "java/lang/StringLatin1" prog_31_method_2_code 2 (some .char) "charAt" 1 (ve_pu (ve_al 2 0)) := ve_pu_ok (ve_aload_n_ok (k := 0) (i := 0) (by decide +kernel : decode prog_31_method_2_code 1 = .ok (.aload_n 0, 1)) rfl)
set_option maxRecDepth 16384 in
theorem vi_79_2 (l : Launch) : ve_OK vs_A l 59 (ve_HI vs_A l 59 vs_M) (ve_CB vs_A l 59 (ve_HI vs_A l 59 vs_M) vs_M) "java/lang/StringLatin1" prog_31_method_2_code 2 (some .char) "charAt" 2 (ve_len 3 53) := ve_len_ok (by decide +kernel : decode prog_31_method_2_code 2 = .ok (.arraylength, 1)) vf_152
set_option maxRecDepth 16384 in
theorem vi_79_3 (l : Launch) : ve_OK vs_A l 59 (ve_HI vs_A l 59 vs_M) (ve_CB vs_A l 59 (ve_HI vs_A l 59 vs_M) vs_M) "java/lang/StringLatin1" prog_31_method_2_code 2 (some .char) "charAt" 3 (ve_cl 59 80 2 6) := ve_cl_ok (ve_rowS (md := vs_M) (A0 := vs_A) (mi := 80) (by decide +kernel : decode prog_31_method_2_code 3 = .ok (.invokestatic 9, 3)) (by decide) vw_464 vw_465 vw_211 vw_466 rfl ⟨by decide, by decide⟩ vf_183)
set_option maxRecDepth 16384 in
theorem vi_79_6 (l : Launch) : ve_OK vs_A l 59 (ve_HI vs_A l 59 vs_M) (ve_CB vs_A l 59 (ve_HI vs_A l 59 vs_M) vs_M) "java/lang/StringLatin1" prog_31_method_2_code 2 (some .char) "charAt" 6 (ve_pu (ve_al 7 0)) := ve_pu_ok (ve_aload_n_ok (k := 0) (i := 0) (by decide +kernel : decode prog_31_method_2_code 6 = .ok (.aload_n 0, 1)) rfl)
set_option maxRecDepth 16384 in
theorem vi_79_7 (l : Launch) : ve_OK vs_A l 59 (ve_HI vs_A l 59 vs_M) (ve_CB vs_A l 59 (ve_HI vs_A l 59 vs_M) vs_M) "java/lang/StringLatin1" prog_31_method_2_code 2 (some .char) "charAt" 7 (ve_pu (ve_il 8 1)) := ve_pu_ok (ve_iload_n_ok (k := 1) (i := 1) (by decide +kernel : decode prog_31_method_2_code 7 = .ok (.iload_n 1, 1)) rfl)
set_option maxRecDepth 16384 in
theorem vi_79_8 (l : Launch) : ve_OK vs_A l 59 (ve_HI vs_A l 59 vs_M) (ve_CB vs_A l 59 (ve_HI vs_A l 59 vs_M) vs_M) "java/lang/StringLatin1" prog_31_method_2_code 2 (some .char) "charAt" 8 (ve_ald 9 53) := ve_bald_ok (by decide +kernel : decode prog_31_method_2_code 8 = .ok (.baload, 1)) vf_152
set_option maxRecDepth 16384 in
theorem vi_79_9 (l : Launch) : ve_OK vs_A l 59 (ve_HI vs_A l 59 vs_M) (ve_CB vs_A l 59 (ve_HI vs_A l 59 vs_M) vs_M) "java/lang/StringLatin1" prog_31_method_2_code 2 (some .char) "charAt" 9 (ve_pu (ve_push 12 (.int (255)))) := ve_pu_ok (ve_sipush_ok (n := 255) (v := 255) (by decide +kernel : decode prog_31_method_2_code 9 = .ok (.sipush (255), 3)) (by decide +kernel))
set_option maxRecDepth 16384 in
theorem vi_79_12 (l : Launch) : ve_OK vs_A l 59 (ve_HI vs_A l 59 vs_M) (ve_CB vs_A l 59 (ve_HI vs_A l 59 vs_M) vs_M) "java/lang/StringLatin1" prog_31_method_2_code 2 (some .char) "charAt" 12 (ve_pu (ve_iand 13)) := ve_pu_ok (ve_iand_ok (by decide +kernel : decode prog_31_method_2_code 12 = .ok (.iand, 1)))
set_option maxRecDepth 16384 in
theorem vi_79_13 (l : Launch) : ve_OK vs_A l 59 (ve_HI vs_A l 59 vs_M) (ve_CB vs_A l 59 (ve_HI vs_A l 59 vs_M) vs_M) "java/lang/StringLatin1" prog_31_method_2_code 2 (some .char) "charAt" 13 (ve_pu (ve_i2c 14)) := ve_pu_ok (ve_i2c_ok (by decide +kernel : decode prog_31_method_2_code 13 = .ok (.i2c, 1)))
set_option maxRecDepth 16384 in
theorem vi_79_14 (l : Launch) : ve_OK vs_A l 59 (ve_HI vs_A l 59 vs_M) (ve_CB vs_A l 59 (ve_HI vs_A l 59 vs_M) vs_M) "java/lang/StringLatin1" prog_31_method_2_code 2 (some .char) "charAt" 14 (ve_rt 1 .char) := ve_iret_ok (by decide +kernel : decode prog_31_method_2_code 14 = .ok (.ireturn, 1)) rfl
set_option maxRecDepth 16384 in
theorem vi_80_0 (l : Launch) : ve_OK vs_A l 59 (ve_HI vs_A l 59 vs_M) (ve_CB vs_A l 59 (ve_HI vs_A l 59 vs_M) vs_M) "java/lang/String" prog_28_method_155_code 2 none "checkIndex" 0 (ve_pu (ve_il 1 0)) := ve_pu_ok (ve_iload_n_ok (k := 0) (i := 0) (by decide +kernel : decode prog_28_method_155_code 0 = .ok (.iload_n 0, 1)) rfl)
set_option maxRecDepth 16384 in
theorem vi_80_1 (l : Launch) : ve_OK vs_A l 59 (ve_HI vs_A l 59 vs_M) (ve_CB vs_A l 59 (ve_HI vs_A l 59 vs_M) vs_M) "java/lang/String" prog_28_method_155_code 2 none "checkIndex" 1 (ve_pu (ve_il 2 1)) := ve_pu_ok (ve_iload_n_ok (k := 1) (i := 1) (by decide +kernel : decode prog_28_method_155_code 1 = .ok (.iload_n 1, 1)) rfl)
set_option maxRecDepth 16384 in
theorem vi_80_2 (l : Launch) : ve_OK vs_A l 59 (ve_HI vs_A l 59 vs_M) (ve_CB vs_A l 59 (ve_HI vs_A l 59 vs_M) vs_M) "java/lang/String" prog_28_method_155_code 2 none "checkIndex" 2 (ve_gs 5 2 0) := ve_gets_ok (by decide +kernel : decode prog_28_method_155_code 2 = .ok (.getstatic 1053, 3)) vw_467 (by decide) vf_221
set_option maxRecDepth 16384 in
theorem vi_80_5 (l : Launch) : ve_OK vs_A l 59 (ve_HI vs_A l 59 vs_M) (ve_CB vs_A l 59 (ve_HI vs_A l 59 vs_M) vs_M) "java/lang/String" prog_28_method_155_code 2 none "checkIndex" 5 (ve_cl 59 81 3 8) := ve_cl_ok (ve_rowS (md := vs_M) (A0 := vs_A) (mi := 81) (by decide +kernel : decode prog_28_method_155_code 5 = .ok (.invokestatic 1059, 3)) (by decide) vw_468 vw_469 vw_470 vw_471 rfl ⟨by decide, by decide⟩ vf_222)
set_option maxRecDepth 16384 in
theorem vi_80_8 (l : Launch) : ve_OK vs_A l 59 (ve_HI vs_A l 59 vs_M) (ve_CB vs_A l 59 (ve_HI vs_A l 59 vs_M) vs_M) "java/lang/String" prog_28_method_155_code 2 none "checkIndex" 8 (ve_pu (ve_pop 9)) := ve_pu_ok (ve_pop_ok (by decide +kernel : decode prog_28_method_155_code 8 = .ok (.pop, 1)))
set_option maxRecDepth 16384 in
theorem vi_80_9 (l : Launch) : ve_OK vs_A l 59 (ve_HI vs_A l 59 vs_M) (ve_CB vs_A l 59 (ve_HI vs_A l 59 vs_M) vs_M) "java/lang/String" prog_28_method_155_code 2 none "checkIndex" 9 (ve_rt 0 .int) := ve_vret_ok (by decide +kernel : decode prog_28_method_155_code 9 = .ok (.return_, 1)) rfl
set_option maxRecDepth 16384 in
theorem vi_81_0 (l : Launch) : ve_OK vs_A l 59 (ve_HI vs_A l 59 vs_M) (ve_CB vs_A l 59 (ve_HI vs_A l 59 vs_M) vs_M) "jdk/internal/util/Preconditions" prog_49_method_11_code 3 (some .int) "checkIndex" 0 (ve_pu (ve_il 1 0)) := ve_pu_ok (ve_iload_n_ok (k := 0) (i := 0) (by decide +kernel : decode prog_49_method_11_code 0 = .ok (.iload_n 0, 1)) rfl)
set_option maxRecDepth 16384 in
theorem vi_81_1 (l : Launch) : ve_OK vs_A l 59 (ve_HI vs_A l 59 vs_M) (ve_CB vs_A l 59 (ve_HI vs_A l 59 vs_M) vs_M) "jdk/internal/util/Preconditions" prog_49_method_11_code 3 (some .int) "checkIndex" 1 (ve_pu (ve_br1 (fun x => decide (x < 0)) 9 4)) := ve_pu_ok (ve_if_lt_ok (by decide +kernel : decode prog_49_method_11_code 1 = .ok (.ifCond .lt (8), 3)) (by decide +kernel))
set_option maxRecDepth 16384 in
theorem vi_81_4 (l : Launch) : ve_OK vs_A l 59 (ve_HI vs_A l 59 vs_M) (ve_CB vs_A l 59 (ve_HI vs_A l 59 vs_M) vs_M) "jdk/internal/util/Preconditions" prog_49_method_11_code 3 (some .int) "checkIndex" 4 (ve_pu (ve_il 5 0)) := ve_pu_ok (ve_iload_n_ok (k := 0) (i := 0) (by decide +kernel : decode prog_49_method_11_code 4 = .ok (.iload_n 0, 1)) rfl)
set_option maxRecDepth 16384 in
theorem vi_81_5 (l : Launch) : ve_OK vs_A l 59 (ve_HI vs_A l 59 vs_M) (ve_CB vs_A l 59 (ve_HI vs_A l 59 vs_M) vs_M) "jdk/internal/util/Preconditions" prog_49_method_11_code 3 (some .int) "checkIndex" 5 (ve_pu (ve_il 6 1)) := ve_pu_ok (ve_iload_n_ok (k := 1) (i := 1) (by decide +kernel : decode prog_49_method_11_code 5 = .ok (.iload_n 1, 1)) rfl)
set_option maxRecDepth 16384 in
theorem vi_81_6 (l : Launch) : ve_OK vs_A l 59 (ve_HI vs_A l 59 vs_M) (ve_CB vs_A l 59 (ve_HI vs_A l 59 vs_M) vs_M) "jdk/internal/util/Preconditions" prog_49_method_11_code 3 (some .int) "checkIndex" 6 (ve_pu (ve_br2 (fun x y => decide (x < y)) 16 9)) := ve_pu_ok (ve_icmp_lt_ok (by decide +kernel : decode prog_49_method_11_code 6 = .ok (.if_icmp .lt (10), 3)) (by decide +kernel))
set_option maxRecDepth 16384 in
theorem vi_81_16 (l : Launch) : ve_OK vs_A l 59 (ve_HI vs_A l 59 vs_M) (ve_CB vs_A l 59 (ve_HI vs_A l 59 vs_M) vs_M) "jdk/internal/util/Preconditions" prog_49_method_11_code 3 (some .int) "checkIndex" 16 (ve_pu (ve_il 17 0)) := ve_pu_ok (ve_iload_n_ok (k := 0) (i := 0) (by decide +kernel : decode prog_49_method_11_code 16 = .ok (.iload_n 0, 1)) rfl)
set_option maxRecDepth 16384 in
theorem vi_81_17 (l : Launch) : ve_OK vs_A l 59 (ve_HI vs_A l 59 vs_M) (ve_CB vs_A l 59 (ve_HI vs_A l 59 vs_M) vs_M) "jdk/internal/util/Preconditions" prog_49_method_11_code 3 (some .int) "checkIndex" 17 (ve_rt 1 .int) := ve_iret_ok (by decide +kernel : decode prog_49_method_11_code 17 = .ok (.ireturn, 1)) rfl
set_option maxRecDepth 16384 in
theorem vi_82_0 (l : Launch) : ve_OK vs_A l 59 (ve_HI vs_A l 59 vs_M) (ve_CB vs_A l 59 (ve_HI vs_A l 59 vs_M) vs_M) "java/lang/StringBuilder" prog_29_method_88_code 2 (some .char) "charAt" 0 (ve_pu (ve_al 1 0)) := ve_pu_ok (ve_aload_n_ok (k := 0) (i := 0) (by decide +kernel : decode prog_29_method_88_code 0 = .ok (.aload_n 0, 1)) rfl)
set_option maxRecDepth 16384 in
theorem vi_82_1 (l : Launch) : ve_OK vs_A l 59 (ve_HI vs_A l 59 vs_M) (ve_CB vs_A l 59 (ve_HI vs_A l 59 vs_M) vs_M) "java/lang/StringBuilder" prog_29_method_88_code 2 (some .char) "charAt" 1 (ve_pu (ve_il 2 1)) := ve_pu_ok (ve_iload_n_ok (k := 1) (i := 1) (by decide +kernel : decode prog_29_method_88_code 1 = .ok (.iload_n 1, 1)) rfl)
set_option maxRecDepth 16384 in
theorem vi_82_2 (l : Launch) : ve_OK vs_A l 59 (ve_HI vs_A l 59 vs_M) (ve_CB vs_A l 59 (ve_HI vs_A l 59 vs_M) vs_M) "java/lang/StringBuilder" prog_29_method_88_code 2 (some .char) "charAt" 2 (ve_cw 59 2 5 [(36, 83)]) := ve_cw_ok rfl (List.forall_mem_cons.mpr ⟨ve_rowSU (md := vs_M) (A0 := vs_A) (mi := 83) (na := 1) (k := 36) (C := "java/lang/StringBuilder") (by decide +kernel : decode prog_29_method_88_code 2 = .ok (.invokespecial 329, 3)) (by decide) vw_474 vw_472 vw_85 vw_473 rfl vw_475 vw_243 (by decide) vf_39 vf_143 vf_211, List.forall_mem_nil _⟩)
set_option maxRecDepth 16384 in
theorem vi_82_5 (l : Launch) : ve_OK vs_A l 59 (ve_HI vs_A l 59 vs_M) (ve_CB vs_A l 59 (ve_HI vs_A l 59 vs_M) vs_M) "java/lang/StringBuilder" prog_29_method_88_code 2 (some .char) "charAt" 5 (ve_rt 1 .char) := ve_iret_ok (by decide +kernel : decode prog_29_method_88_code 5 = .ok (.ireturn, 1)) rfl
set_option maxRecDepth 16384 in
theorem vi_83_0 (l : Launch) : ve_OK vs_A l 59 (ve_HI vs_A l 59 vs_M) (ve_CB vs_A l 59 (ve_HI vs_A l 59 vs_M) vs_M) "java/lang/AbstractStringBuilder" prog_13_method_14_code 5 (some .char) "charAt" 0 (ve_pu (ve_al 1 0)) := ve_pu_ok (ve_aload_n_ok (k := 0) (i := 0) (by decide +kernel : decode prog_13_method_14_code 0 = .ok (.aload_n 0, 1)) rfl)
set_option maxRecDepth 16384 in
theorem vi_83_1 (l : Launch) : ve_OK vs_A l 59 (ve_HI vs_A l 59 vs_M) (ve_CB vs_A l 59 (ve_HI vs_A l 59 vs_M) vs_M) "java/lang/AbstractStringBuilder" prog_13_method_14_code 5 (some .char) "charAt" 1 (ve_gf 4 1) := ve_getf_ok (k := 1) (by decide +kernel : decode prog_13_method_14_code 1 = .ok (.getfield 22, 3)) vw_92 vf_153
set_option maxRecDepth 16384 in
theorem vi_83_4 (l : Launch) : ve_OK vs_A l 59 (ve_HI vs_A l 59 vs_M) (ve_CB vs_A l 59 (ve_HI vs_A l 59 vs_M) vs_M) "java/lang/AbstractStringBuilder" prog_13_method_14_code 5 (some .char) "charAt" 4 (ve_pu (ve_is 5 2 5)) := ve_pu_ok (ve_istore_n_ok (k := 2) (i := 2) (by decide +kernel : decode prog_13_method_14_code 4 = .ok (.istore_n 2, 1)) rfl)
set_option maxRecDepth 16384 in
theorem vi_83_5 (l : Launch) : ve_OK vs_A l 59 (ve_HI vs_A l 59 vs_M) (ve_CB vs_A l 59 (ve_HI vs_A l 59 vs_M) vs_M) "java/lang/AbstractStringBuilder" prog_13_method_14_code 5 (some .char) "charAt" 5 (ve_pu (ve_al 6 0)) := ve_pu_ok (ve_aload_n_ok (k := 0) (i := 0) (by decide +kernel : decode prog_13_method_14_code 5 = .ok (.aload_n 0, 1)) rfl)
set_option maxRecDepth 16384 in
theorem vi_83_6 (l : Launch) : ve_OK vs_A l 59 (ve_HI vs_A l 59 vs_M) (ve_CB vs_A l 59 (ve_HI vs_A l 59 vs_M) vs_M) "java/lang/AbstractStringBuilder" prog_13_method_14_code 5 (some .char) "charAt" 6 (ve_gf 9 0) := ve_getf_ok (k := 0) (by decide +kernel : decode prog_13_method_14_code 6 = .ok (.getfield 15, 3)) vw_91 vf_149
set_option maxRecDepth 16384 in
theorem vi_83_9 (l : Launch) : ve_OK vs_A l 59 (ve_HI vs_A l 59 vs_M) (ve_CB vs_A l 59 (ve_HI vs_A l 59 vs_M) vs_M) "java/lang/AbstractStringBuilder" prog_13_method_14_code 5 (some .char) "charAt" 9 (ve_pu (ve_as 10 3 5)) := ve_pu_ok (ve_astore_n_ok (k := 3) (i := 3) (by decide +kernel : decode prog_13_method_14_code 9 = .ok (.astore_n 3, 1)) rfl)
set_option maxRecDepth 16384 in
theorem vi_83_10 (l : Launch) : ve_OK vs_A l 59 (ve_HI vs_A l 59 vs_M) (ve_CB vs_A l 59 (ve_HI vs_A l 59 vs_M) vs_M) "java/lang/AbstractStringBuilder" prog_13_method_14_code 5 (some .char) "charAt" 10 (ve_pu (ve_al 11 0)) := ve_pu_ok (ve_aload_n_ok (k := 0) (i := 0) (by decide +kernel : decode prog_13_method_14_code 10 = .ok (.aload_n 0, 1)) rfl)
set_option maxRecDepth 16384 in
theorem vi_83_11 (l : Launch) : ve_OK vs_A l 59 (ve_HI vs_A l 59 vs_M) (ve_CB vs_A l 59 (ve_HI vs_A l 59 vs_M) vs_M) "java/lang/AbstractStringBuilder" prog_13_method_14_code 5 (some .char) "charAt" 11 (ve_gf 14 3) := ve_getf_ok (k := 3) (by decide +kernel : decode prog_13_method_14_code 11 = .ok (.getfield 79, 3)) vw_244 vf_144
set_option maxRecDepth 16384 in
theorem vi_83_14 (l : Launch) : ve_OK vs_A l 59 (ve_HI vs_A l 59 vs_M) (ve_CB vs_A l 59 (ve_HI vs_A l 59 vs_M) vs_M) "java/lang/AbstractStringBuilder" prog_13_method_14_code 5 (some .char) "charAt" 14 (ve_pu (ve_al 15 3)) := ve_pu_ok (ve_aload_n_ok (k := 3) (i := 3) (by decide +kernel : decode prog_13_method_14_code 14 = .ok (.aload_n 3, 1)) rfl)
set_option maxRecDepth 16384 in
theorem vi_83_15 (l : Launch) : ve_OK vs_A l 59 (ve_HI vs_A l 59 vs_M) (ve_CB vs_A l 59 (ve_HI vs_A l 59 vs_M) vs_M) "java/lang/AbstractStringBuilder" prog_13_method_14_code 5 (some .char) "charAt" 15 (ve_len 16 53) := ve_len_ok (by decide +kernel : decode prog_13_method_14_code 15 = .ok (.arraylength, 1)) vf_152
set_option maxRecDepth 16384 in
theorem vi_83_16 (l : Launch) : ve_OK vs_A l 59 (ve_HI vs_A l 59 vs_M) (ve_CB vs_A l 59 (ve_HI vs_A l 59 vs_M) vs_M) "java/lang/AbstractStringBuilder" prog_13_method_14_code 5 (some .char) "charAt" 16 (ve_pu (ve_il 17 2)) := ve_pu_ok (ve_iload_n_ok (k := 2) (i := 2) (by decide +kernel : decode prog_13_method_14_code 16 = .ok (.iload_n 2, 1)) rfl)
set_option maxRecDepth 16384 in
theorem vi_83_17 (l : Launch) : ve_OK vs_A l 59 (ve_HI vs_A l 59 vs_M) (ve_CB vs_A l 59 (ve_HI vs_A l 59 vs_M) vs_M) "java/lang/AbstractStringBuilder" prog_13_method_14_code 5 (some .char) "charAt" 17 (ve_pu (ve_ishr 18)) := ve_pu_ok (ve_ishr_ok (by decide +kernel : decode prog_13_method_14_code 17 = .ok (.ishr, 1)))
set_option maxRecDepth 16384 in
theorem vi_83_18 (l : Launch) : ve_OK vs_A l 59 (ve_HI vs_A l 59 vs_M) (ve_CB vs_A l 59 (ve_HI vs_A l 59 vs_M) vs_M) "java/lang/AbstractStringBuilder" prog_13_method_14_code 5 (some .char) "charAt" 18 (ve_cl 59 52 2 21) := ve_cl_ok (ve_rowS (md := vs_M) (A0 := vs_A) (mi := 52) (by decide +kernel : decode prog_13_method_14_code 18 = .ok (.invokestatic 138, 3)) (by decide) vw_476 vw_340 vw_145 vw_341 rfl ⟨by decide, by decide⟩ vf_9)
set_option maxRecDepth 16384 in
theorem vi_83_21 (l : Launch) : ve_OK vs_A l 59 (ve_HI vs_A l 59 vs_M) (ve_CB vs_A l 59 (ve_HI vs_A l 59 vs_M) vs_M) "java/lang/AbstractStringBuilder" prog_13_method_14_code 5 (some .char) "charAt" 21 (ve_pu (ve_is 23 4 5)) := ve_pu_ok (ve_istore_ok (by decide +kernel : decode prog_13_method_14_code 21 = .ok (.istore 4, 2)))
set_option maxRecDepth 16384 in
theorem vi_83_23 (l : Launch) : ve_OK vs_A l 59 (ve_HI vs_A l 59 vs_M) (ve_CB vs_A l 59 (ve_HI vs_A l 59 vs_M) vs_M) "java/lang/AbstractStringBuilder" prog_13_method_14_code 5 (some .char) "charAt" 23 (ve_pu (ve_il 24 1)) := ve_pu_ok (ve_iload_n_ok (k := 1) (i := 1) (by decide +kernel : decode prog_13_method_14_code 23 = .ok (.iload_n 1, 1)) rfl)
set_option maxRecDepth 16384 in
theorem vi_83_24 (l : Launch) : ve_OK vs_A l 59 (ve_HI vs_A l 59 vs_M) (ve_CB vs_A l 59 (ve_HI vs_A l 59 vs_M) vs_M) "java/lang/AbstractStringBuilder" prog_13_method_14_code 5 (some .char) "charAt" 24 (ve_pu (ve_il 26 4)) := ve_pu_ok (ve_iload_ok (by decide +kernel : decode prog_13_method_14_code 24 = .ok (.iload 4, 2)))
set_option maxRecDepth 16384 in
theorem vi_83_26 (l : Launch) : ve_OK vs_A l 59 (ve_HI vs_A l 59 vs_M) (ve_CB vs_A l 59 (ve_HI vs_A l 59 vs_M) vs_M) "java/lang/AbstractStringBuilder" prog_13_method_14_code 5 (some .char) "charAt" 26 (ve_cl 59 80 2 29) := ve_cl_ok (ve_rowS (md := vs_M) (A0 := vs_A) (mi := 80) (by decide +kernel : decode prog_13_method_14_code 26 = .ok (.invokestatic 144, 3)) (by decide) vw_477 vw_465 vw_211 vw_466 rfl ⟨by decide, by decide⟩ vf_183)
set_option maxRecDepth 16384 in
theorem vi_83_29 (l : Launch) : ve_OK vs_A l 59 (ve_HI vs_A l 59 vs_M) (ve_CB vs_A l 59 (ve_HI vs_A l 59 vs_M) vs_M) "java/lang/AbstractStringBuilder" prog_13_method_14_code 5 (some .char) "charAt" 29 (ve_pu (ve_il 30 2)) := ve_pu_ok (ve_iload_n_ok (k := 2) (i := 2) (by decide +kernel : decode prog_13_method_14_code 29 = .ok (.iload_n 2, 1)) rfl)
set_option maxRecDepth 16384 in
theorem vi_83_30 (l : Launch) : ve_OK vs_A l 59 (ve_HI vs_A l 59 vs_M) (ve_CB vs_A l 59 (ve_HI vs_A l 59 vs_M) vs_M) "java/lang/AbstractStringBuilder" prog_13_method_14_code 5 (some .char) "charAt" 30 (ve_pu (ve_br1 (fun x => decide (¬ x = 0)) 42 33)) := ve_pu_ok (ve_if_ne_ok (by decide +kernel : decode prog_13_method_14_code 30 = .ok (.ifCond .ne (12), 3)) (by decide +kernel))
set_option maxRecDepth 16384 in
theorem vi_83_33 (l : Launch) : ve_OK vs_A l 59 (ve_HI vs_A l 59 vs_M) (ve_CB vs_A l 59 (ve_HI vs_A l 59 vs_M) vs_M) "java/lang/AbstractStringBuilder" prog_13_method_14_code 5 (some .char) "charAt" 33 (ve_pu (ve_al 34 3)) := ve_pu_ok (ve_aload_n_ok (k := 3) (i := 3) (by decide +kernel : decode prog_13_method_14_code 33 = .ok (.aload_n 3, 1)) rfl)
set_option maxRecDepth 16384 in
theorem vi_83_34 (l : Launch) : ve_OK vs_A l 59 (ve_HI vs_A l 59 vs_M) (ve_CB vs_A l 59 (ve_HI vs_A l 59 vs_M) vs_M) "java/lang/AbstractStringBuilder" prog_13_method_14_code 5 (some .char) "charAt" 34 (ve_pu (ve_il 35 1)) := ve_pu_ok (ve_iload_n_ok (k := 1) (i := 1) (by decide +kernel : decode prog_13_method_14_code 34 = .ok (.iload_n 1, 1)) rfl)
set_option maxRecDepth 16384 in
theorem vi_83_35 (l : Launch) : ve_OK vs_A l 59 (ve_HI vs_A l 59 vs_M) (ve_CB vs_A l 59 (ve_HI vs_A l 59 vs_M) vs_M) "java/lang/AbstractStringBuilder" prog_13_method_14_code 5 (some .char) "charAt" 35 (ve_ald 36 53) := ve_bald_ok (by decide +kernel : decode prog_13_method_14_code 35 = .ok (.baload, 1)) vf_152
set_option maxRecDepth 16384 in
theorem vi_83_36 (l : Launch) : ve_OK vs_A l 59 (ve_HI vs_A l 59 vs_M) (ve_CB vs_A l 59 (ve_HI vs_A l 59 vs_M) vs_M) "java/lang/AbstractStringBuilder" prog_13_method_14_code 5 (some .char) "charAt" 36 (ve_pu (ve_push 39 (.int (255)))) := ve_pu_ok (ve_sipush_ok (n := 255) (v := 255) (by decide +kernel : decode prog_13_method_14_code 36 = .ok (.sipush (255), 3)) (by decide +kernel))
set_option maxRecDepth 16384 in
theorem vi_83_39 (l : Launch) : ve_OK vs_A l 59 (ve_HI vs_A l 59 vs_M) (ve_CB vs_A l 59 (ve_HI vs_A l 59 vs_M) vs_M) "java/lang/AbstractStringBuilder" prog_13_method_14_code 5 (some .char) "charAt" 39 (ve_pu (ve_iand 40)) := ve_pu_ok (ve_iand_ok (by decide +kernel : decode prog_13_method_14_code 39 = .ok (.iand, 1)))
set_option maxRecDepth 16384 in
theorem vi_83_40 (l : Launch) : ve_OK vs_A l 59 (ve_HI vs_A l 59 vs_M) (ve_CB vs_A l 59 (ve_HI vs_A l 59 vs_M) vs_M) "java/lang/AbstractStringBuilder" prog_13_method_14_code 5 (some .char) "charAt" 40 (ve_pu (ve_i2c 41)) := ve_pu_ok (ve_i2c_ok (by decide +kernel : decode prog_13_method_14_code 40 = .ok (.i2c, 1)))
set_option maxRecDepth 16384 in
theorem vi_83_41 (l : Launch) : ve_OK vs_A l 59 (ve_HI vs_A l 59 vs_M) (ve_CB vs_A l 59 (ve_HI vs_A l 59 vs_M) vs_M) "java/lang/AbstractStringBuilder" prog_13_method_14_code 5 (some .char) "charAt" 41 (ve_rt 1 .char) := ve_iret_ok (by decide +kernel : decode prog_13_method_14_code 41 = .ok (.ireturn, 1)) rfl
set_option maxRecDepth 16384 in
theorem vi_84_0 (l : Launch) : ve_OK vs_A l 59 (ve_HI vs_A l 59 vs_M) (ve_CB vs_A l 59 (ve_HI vs_A l 59 vs_M) vs_M) "Orderbench" prog_1_method_37_code 3 (some .boolean) "isSound" 0 (ve_pu (ve_push 1 (.int (0)))) := ve_pu_ok (ve_iconst_ok (n := 0) (v := 0) (by decide +kernel : decode prog_1_method_37_code 0 = .ok (.iconst (0), 1)) rfl)
set_option maxRecDepth 16384 in
theorem vi_84_1 (l : Launch) : ve_OK vs_A l 59 (ve_HI vs_A l 59 vs_M) (ve_CB vs_A l 59 (ve_HI vs_A l 59 vs_M) vs_M) "Orderbench" prog_1_method_37_code 3 (some .boolean) "isSound" 1 (ve_pu (ve_is 2 1 3)) := ve_pu_ok (ve_istore_n_ok (k := 1) (i := 1) (by decide +kernel : decode prog_1_method_37_code 1 = .ok (.istore_n 1, 1)) rfl)
set_option maxRecDepth 16384 in
theorem vi_84_2 (l : Launch) : ve_OK vs_A l 59 (ve_HI vs_A l 59 vs_M) (ve_CB vs_A l 59 (ve_HI vs_A l 59 vs_M) vs_M) "Orderbench" prog_1_method_37_code 3 (some .boolean) "isSound" 2 (ve_pu (ve_il 3 1)) := ve_pu_ok (ve_iload_n_ok (k := 1) (i := 1) (by decide +kernel : decode prog_1_method_37_code 2 = .ok (.iload_n 1, 1)) rfl)
set_option maxRecDepth 16384 in
theorem vi_84_3 (l : Launch) : ve_OK vs_A l 59 (ve_HI vs_A l 59 vs_M) (ve_CB vs_A l 59 (ve_HI vs_A l 59 vs_M) vs_M) "Orderbench" prog_1_method_37_code 3 (some .boolean) "isSound" 3 (ve_pu (ve_push 5 (.int (10)))) := ve_pu_ok (ve_bipush_ok (n := 10) (v := 10) (by decide +kernel : decode prog_1_method_37_code 3 = .ok (.bipush (10), 2)) (by decide +kernel))
set_option maxRecDepth 16384 in
theorem vi_84_5 (l : Launch) : ve_OK vs_A l 59 (ve_HI vs_A l 59 vs_M) (ve_CB vs_A l 59 (ve_HI vs_A l 59 vs_M) vs_M) "Orderbench" prog_1_method_37_code 3 (some .boolean) "isSound" 5 (ve_pu (ve_br2 (fun x y => decide (¬ x < y)) 48 8)) := ve_pu_ok (ve_icmp_ge_ok (by decide +kernel : decode prog_1_method_37_code 5 = .ok (.if_icmp .ge (43), 3)) (by decide +kernel))
set_option maxRecDepth 16384 in
theorem vi_84_8 (l : Launch) : ve_OK vs_A l 59 (ve_HI vs_A l 59 vs_M) (ve_CB vs_A l 59 (ve_HI vs_A l 59 vs_M) vs_M) "Orderbench" prog_1_method_37_code 3 (some .boolean) "isSound" 8 (ve_pu (ve_push 9 (.int (0)))) := ve_pu_ok (ve_iconst_ok (n := 0) (v := 0) (by decide +kernel : decode prog_1_method_37_code 8 = .ok (.iconst (0), 1)) rfl)
set_option maxRecDepth 16384 in
theorem vi_84_9 (l : Launch) : ve_OK vs_A l 59 (ve_HI vs_A l 59 vs_M) (ve_CB vs_A l 59 (ve_HI vs_A l 59 vs_M) vs_M) "Orderbench" prog_1_method_37_code 3 (some .boolean) "isSound" 9 (ve_pu (ve_is 10 2 3)) := ve_pu_ok (ve_istore_n_ok (k := 2) (i := 2) (by decide +kernel : decode prog_1_method_37_code 9 = .ok (.istore_n 2, 1)) rfl)
set_option maxRecDepth 16384 in
theorem vi_84_10 (l : Launch) : ve_OK vs_A l 59 (ve_HI vs_A l 59 vs_M) (ve_CB vs_A l 59 (ve_HI vs_A l 59 vs_M) vs_M) "Orderbench" prog_1_method_37_code 3 (some .boolean) "isSound" 10 (ve_pu (ve_il 11 2)) := ve_pu_ok (ve_iload_n_ok (k := 2) (i := 2) (by decide +kernel : decode prog_1_method_37_code 10 = .ok (.iload_n 2, 1)) rfl)
set_option maxRecDepth 16384 in
theorem vi_84_11 (l : Launch) : ve_OK vs_A l 59 (ve_HI vs_A l 59 vs_M) (ve_CB vs_A l 59 (ve_HI vs_A l 59 vs_M) vs_M) "Orderbench" prog_1_method_37_code 3 (some .boolean) "isSound" 11 (ve_pu (ve_push 12 (.int (2)))) := ve_pu_ok (ve_iconst_ok (n := 2) (v := 2) (by decide +kernel : decode prog_1_method_37_code 11 = .ok (.iconst (2), 1)) rfl)
set_option maxRecDepth 16384 in
theorem vi_84_12 (l : Launch) : ve_OK vs_A l 59 (ve_HI vs_A l 59 vs_M) (ve_CB vs_A l 59 (ve_HI vs_A l 59 vs_M) vs_M) "Orderbench" prog_1_method_37_code 3 (some .boolean) "isSound" 12 (ve_pu (ve_br2 (fun x y => decide (¬ x < y)) 42 15)) := ve_pu_ok (ve_icmp_ge_ok (by decide +kernel : decode prog_1_method_37_code 12 = .ok (.if_icmp .ge (30), 3)) (by decide +kernel))
set_option maxRecDepth 16384 in
theorem vi_84_15 (l : Launch) : ve_OK vs_A l 59 (ve_HI vs_A l 59 vs_M) (ve_CB vs_A l 59 (ve_HI vs_A l 59 vs_M) vs_M) "Orderbench" prog_1_method_37_code 3 (some .boolean) "isSound" 15 (ve_pu (ve_al 16 0)) := ve_pu_ok (ve_aload_n_ok (k := 0) (i := 0) (by decide +kernel : decode prog_1_method_37_code 15 = .ok (.aload_n 0, 1)) rfl)
set_option maxRecDepth 16384 in
theorem vi_84_16 (l : Launch) : ve_OK vs_A l 59 (ve_HI vs_A l 59 vs_M) (ve_CB vs_A l 59 (ve_HI vs_A l 59 vs_M) vs_M) "Orderbench" prog_1_method_37_code 3 (some .boolean) "isSound" 16 (ve_pu (ve_al 17 0)) := ve_pu_ok (ve_aload_n_ok (k := 0) (i := 0) (by decide +kernel : decode prog_1_method_37_code 16 = .ok (.aload_n 0, 1)) rfl)
set_option maxRecDepth 16384 in
theorem vi_84_17 (l : Launch) : ve_OK vs_A l 59 (ve_HI vs_A l 59 vs_M) (ve_CB vs_A l 59 (ve_HI vs_A l 59 vs_M) vs_M) "Orderbench" prog_1_method_37_code 3 (some .boolean) "isSound" 17 (ve_gf 20 0) := ve_getf_ok (k := 0) (by decide +kernel : decode prog_1_method_37_code 17 = .ok (.getfield 11, 3)) vw_48 vf_20
set_option maxRecDepth 16384 in
theorem vi_84_20 (l : Launch) : ve_OK vs_A l 59 (ve_HI vs_A l 59 vs_M) (ve_CB vs_A l 59 (ve_HI vs_A l 59 vs_M) vs_M) "Orderbench" prog_1_method_37_code 3 (some .boolean) "isSound" 20 (ve_pu (ve_il 21 2)) := ve_pu_ok (ve_iload_n_ok (k := 2) (i := 2) (by decide +kernel : decode prog_1_method_37_code 20 = .ok (.iload_n 2, 1)) rfl)
set_option maxRecDepth 16384 in
theorem vi_84_21 (l : Launch) : ve_OK vs_A l 59 (ve_HI vs_A l 59 vs_M) (ve_CB vs_A l 59 (ve_HI vs_A l 59 vs_M) vs_M) "Orderbench" prog_1_method_37_code 3 (some .boolean) "isSound" 21 (ve_ald 22 54) := ve_aald_ok (by decide +kernel : decode prog_1_method_37_code 21 = .ok (.aaload, 1)) vf_186 rfl
set_option maxRecDepth 16384 in
theorem vi_84_22 (l : Launch) : ve_OK vs_A l 59 (ve_HI vs_A l 59 vs_M) (ve_CB vs_A l 59 (ve_HI vs_A l 59 vs_M) vs_M) "Orderbench" prog_1_method_37_code 3 (some .boolean) "isSound" 22 (ve_pu (ve_al 23 0)) := ve_pu_ok (ve_aload_n_ok (k := 0) (i := 0) (by decide +kernel : decode prog_1_method_37_code 22 = .ok (.aload_n 0, 1)) rfl)
set_option maxRecDepth 16384 in
theorem vi_84_23 (l : Launch) : ve_OK vs_A l 59 (ve_HI vs_A l 59 vs_M) (ve_CB vs_A l 59 (ve_HI vs_A l 59 vs_M) vs_M) "Orderbench" prog_1_method_37_code 3 (some .boolean) "isSound" 23 (ve_gf 26 1) := ve_getf_ok (k := 1) (by decide +kernel : decode prog_1_method_37_code 23 = .ok (.getfield 18, 3)) vw_56 vf_30
set_option maxRecDepth 16384 in
theorem vi_84_26 (l : Launch) : ve_OK vs_A l 59 (ve_HI vs_A l 59 vs_M) (ve_CB vs_A l 59 (ve_HI vs_A l 59 vs_M) vs_M) "Orderbench" prog_1_method_37_code 3 (some .boolean) "isSound" 26 (ve_pu (ve_il 27 1)) := ve_pu_ok (ve_iload_n_ok (k := 1) (i := 1) (by decide +kernel : decode prog_1_method_37_code 26 = .ok (.iload_n 1, 1)) rfl)
set_option maxRecDepth 16384 in
theorem vi_84_27 (l : Launch) : ve_OK vs_A l 59 (ve_HI vs_A l 59 vs_M) (ve_CB vs_A l 59 (ve_HI vs_A l 59 vs_M) vs_M) "Orderbench" prog_1_method_37_code 3 (some .boolean) "isSound" 27 (ve_ald 28 55) := ve_aald_ok (by decide +kernel : decode prog_1_method_37_code 27 = .ok (.aaload, 1)) vf_109 rfl
set_option maxRecDepth 16384 in
theorem vi_84_28 (l : Launch) : ve_OK vs_A l 59 (ve_HI vs_A l 59 vs_M) (ve_CB vs_A l 59 (ve_HI vs_A l 59 vs_M) vs_M) "Orderbench" prog_1_method_37_code 3 (some .boolean) "isSound" 28 (ve_cw 59 3 31 [(2, 85)]) := ve_cw_ok rfl (List.forall_mem_cons.mpr ⟨ve_rowU (md := vs_M) (A0 := vs_A) (mi := 85) (na := 2) (k := 2) (C := "Orderbench") (owner := "Orderbench") (x := ⟨"Orderbench", "isSoundOn", "(LOrderbench$Row;LOrderbench$Shape;)Z"⟩) (by decide +kernel : decode prog_1_method_37_code 28 = .ok (.invokevirtual 223, 3)) (by decide) vw_480 vw_478 vw_2 vw_479 rfl vw_481 vw_482 vf_223 ⟨by decide, by decide⟩ vf_0 vf_205, List.forall_mem_nil _⟩)
set_option maxRecDepth 16384 in
theorem vi_84_31 (l : Launch) : ve_OK vs_A l 59 (ve_HI vs_A l 59 vs_M) (ve_CB vs_A l 59 (ve_HI vs_A l 59 vs_M) vs_M) "Orderbench" prog_1_method_37_code 3 (some .boolean) "isSound" 31 (ve_pu (ve_br1 (fun x => decide (¬ x = 0)) 36 34)) := ve_pu_ok (ve_if_ne_ok (by decide +kernel : decode prog_1_method_37_code 31 = .ok (.ifCond .ne (5), 3)) (by decide +kernel))
set_option maxRecDepth 16384 in
theorem vi_84_36 (l : Launch) : ve_OK vs_A l 59 (ve_HI vs_A l 59 vs_M) (ve_CB vs_A l 59 (ve_HI vs_A l 59 vs_M) vs_M) "Orderbench" prog_1_method_37_code 3 (some .boolean) "isSound" 36 (ve_pu (ve_ii 39 2 3 (1))) := ve_pu_ok (ve_iinc_ok (by decide +kernel : decode prog_1_method_37_code 36 = .ok (.iinc 2 (1), 3)))
set_option maxRecDepth 16384 in
theorem vi_84_39 (l : Launch) : ve_OK vs_A l 59 (ve_HI vs_A l 59 vs_M) (ve_CB vs_A l 59 (ve_HI vs_A l 59 vs_M) vs_M) "Orderbench" prog_1_method_37_code 3 (some .boolean) "isSound" 39 (ve_pu (ve_jmp 10)) := ve_pu_ok (ve_goto_ok (by decide +kernel : decode prog_1_method_37_code 39 = .ok (.goto (-29), 3)) (by decide +kernel))
set_option maxRecDepth 16384 in
theorem vi_84_42 (l : Launch) : ve_OK vs_A l 59 (ve_HI vs_A l 59 vs_M) (ve_CB vs_A l 59 (ve_HI vs_A l 59 vs_M) vs_M) "Orderbench" prog_1_method_37_code 3 (some .boolean) "isSound" 42 (ve_pu (ve_ii 45 1 3 (1))) := ve_pu_ok (ve_iinc_ok (by decide +kernel : decode prog_1_method_37_code 42 = .ok (.iinc 1 (1), 3)))
set_option maxRecDepth 16384 in
theorem vi_84_45 (l : Launch) : ve_OK vs_A l 59 (ve_HI vs_A l 59 vs_M) (ve_CB vs_A l 59 (ve_HI vs_A l 59 vs_M) vs_M) "Orderbench" prog_1_method_37_code 3 (some .boolean) "isSound" 45 (ve_pu (ve_jmp 2)) := ve_pu_ok (ve_goto_ok (by decide +kernel : decode prog_1_method_37_code 45 = .ok (.goto (-43), 3)) (by decide +kernel))
set_option maxRecDepth 16384 in
theorem vi_84_48 (l : Launch) : ve_OK vs_A l 59 (ve_HI vs_A l 59 vs_M) (ve_CB vs_A l 59 (ve_HI vs_A l 59 vs_M) vs_M) "Orderbench" prog_1_method_37_code 3 (some .boolean) "isSound" 48 (ve_pu (ve_push 49 (.int (1)))) := ve_pu_ok (ve_iconst_ok (n := 1) (v := 1) (by decide +kernel : decode prog_1_method_37_code 48 = .ok (.iconst (1), 1)) rfl)
set_option maxRecDepth 16384 in
theorem vi_84_49 (l : Launch) : ve_OK vs_A l 59 (ve_HI vs_A l 59 vs_M) (ve_CB vs_A l 59 (ve_HI vs_A l 59 vs_M) vs_M) "Orderbench" prog_1_method_37_code 3 (some .boolean) "isSound" 49 (ve_rt 1 .boolean) := ve_iret_ok (by decide +kernel : decode prog_1_method_37_code 49 = .ok (.ireturn, 1)) rfl
set_option maxRecDepth 16384 in
theorem vi_85_0 (l : Launch) : ve_OK vs_A l 59 (ve_HI vs_A l 59 vs_M) (ve_CB vs_A l 59 (ve_HI vs_A l 59 vs_M) vs_M) "Orderbench" prog_1_method_68_code 4 (some .boolean) "isSoundOn" 0 (ve_nw 3 32 [.int 0, .int 0, .null]) := ve_new_ok (C := "Orderbench$Turned") (by decide +kernel : decode prog_1_method_68_code 0 = .ok (.new 135, 3)) vw_164 vw_165 vw_166 vf_104 rfl vf_105 rfl
set_option maxRecDepth 16384 in
theorem vi_85_3 (l : Launch) : ve_OK vs_A l 59 (ve_HI vs_A l 59 vs_M) (ve_CB vs_A l 59 (ve_HI vs_A l 59 vs_M) vs_M) "Orderbench" prog_1_method_68_code 4 (some .boolean) "isSoundOn" 3 (ve_pu (ve_dup 4)) := ve_pu_ok (ve_dup_ok (by decide +kernel : decode prog_1_method_68_code 3 = .ok (.dup, 1)))
set_option maxRecDepth 16384 in
theorem vi_85_4 (l : Launch) : ve_OK vs_A l 59 (ve_HI vs_A l 59 vs_M) (ve_CB vs_A l 59 (ve_HI vs_A l 59 vs_M) vs_M) "Orderbench" prog_1_method_68_code 4 (some .boolean) "isSoundOn" 4 (ve_nw 7 32 [.int 0, .int 0, .null]) := ve_new_ok (C := "Orderbench$Turned") (by decide +kernel : decode prog_1_method_68_code 4 = .ok (.new 135, 3)) vw_164 vw_165 vw_166 vf_104 rfl vf_105 rfl
set_option maxRecDepth 16384 in
theorem vi_85_7 (l : Launch) : ve_OK vs_A l 59 (ve_HI vs_A l 59 vs_M) (ve_CB vs_A l 59 (ve_HI vs_A l 59 vs_M) vs_M) "Orderbench" prog_1_method_68_code 4 (some .boolean) "isSoundOn" 7 (ve_pu (ve_dup 8)) := ve_pu_ok (ve_dup_ok (by decide +kernel : decode prog_1_method_68_code 7 = .ok (.dup, 1)))
set_option maxRecDepth 16384 in
theorem vi_85_8 (l : Launch) : ve_OK vs_A l 59 (ve_HI vs_A l 59 vs_M) (ve_CB vs_A l 59 (ve_HI vs_A l 59 vs_M) vs_M) "Orderbench" prog_1_method_68_code 4 (some .boolean) "isSoundOn" 8 (ve_pu (ve_al 9 2)) := ve_pu_ok (ve_aload_n_ok (k := 2) (i := 2) (by decide +kernel : decode prog_1_method_68_code 8 = .ok (.aload_n 2, 1)) rfl)
set_option maxRecDepth 16384 in
theorem vi_85_9 (l : Launch) : ve_OK vs_A l 59 (ve_HI vs_A l 59 vs_M) (ve_CB vs_A l 59 (ve_HI vs_A l 59 vs_M) vs_M) "Orderbench" prog_1_method_68_code 4 (some .boolean) "isSoundOn" 9 (ve_cw 59 2 12 [(32, 21)]) := ve_cw_ok rfl (List.forall_mem_cons.mpr ⟨ve_rowI (md := vs_M) (A0 := vs_A) (mi := 21) (na := 1) (by decide +kernel : decode prog_1_method_68_code 9 = .ok (.invokespecial 137, 3)) (by decide) vw_169 vw_167 vw_166 vw_168 rfl ⟨by decide, by decide⟩ vf_106 rfl rfl 32, List.forall_mem_nil _⟩)
set_option maxRecDepth 16384 in
theorem vi_85_12 (l : Launch) : ve_OK vs_A l 59 (ve_HI vs_A l 59 vs_M) (ve_CB vs_A l 59 (ve_HI vs_A l 59 vs_M) vs_M) "Orderbench" prog_1_method_68_code 4 (some .boolean) "isSoundOn" 12 (ve_cw 59 2 15 [(32, 21)]) := ve_cw_ok rfl (List.forall_mem_cons.mpr ⟨ve_rowI (md := vs_M) (A0 := vs_A) (mi := 21) (na := 1) (by decide +kernel : decode prog_1_method_68_code 12 = .ok (.invokespecial 137, 3)) (by decide) vw_169 vw_167 vw_166 vw_168 rfl ⟨by decide, by decide⟩ vf_106 rfl rfl 32, List.forall_mem_nil _⟩)
set_option maxRecDepth 16384 in
theorem vi_85_15 (l : Launch) : ve_OK vs_A l 59 (ve_HI vs_A l 59 vs_M) (ve_CB vs_A l 59 (ve_HI vs_A l 59 vs_M) vs_M) "Orderbench" prog_1_method_68_code 4 (some .boolean) "isSoundOn" 15 (ve_pu (ve_as 16 3 4)) := ve_pu_ok (ve_astore_n_ok (k := 3) (i := 3) (by decide +kernel : decode prog_1_method_68_code 15 = .ok (.astore_n 3, 1)) rfl)
set_option maxRecDepth 16384 in
theorem vi_85_16 (l : Launch) : ve_OK vs_A l 59 (ve_HI vs_A l 59 vs_M) (ve_CB vs_A l 59 (ve_HI vs_A l 59 vs_M) vs_M) "Orderbench" prog_1_method_68_code 4 (some .boolean) "isSoundOn" 16 (ve_pu (ve_al 17 0)) := ve_pu_ok (ve_aload_n_ok (k := 0) (i := 0) (by decide +kernel : decode prog_1_method_68_code 16 = .ok (.aload_n 0, 1)) rfl)
set_option maxRecDepth 16384 in
theorem vi_85_17 (l : Launch) : ve_OK vs_A l 59 (ve_HI vs_A l 59 vs_M) (ve_CB vs_A l 59 (ve_HI vs_A l 59 vs_M) vs_M) "Orderbench" prog_1_method_68_code 4 (some .boolean) "isSoundOn" 17 (ve_pu (ve_al 18 1)) := ve_pu_ok (ve_aload_n_ok (k := 1) (i := 1) (by decide +kernel : decode prog_1_method_68_code 17 = .ok (.aload_n 1, 1)) rfl)
set_option maxRecDepth 16384 in
theorem vi_85_18 (l : Launch) : ve_OK vs_A l 59 (ve_HI vs_A l 59 vs_M) (ve_CB vs_A l 59 (ve_HI vs_A l 59 vs_M) vs_M) "Orderbench" prog_1_method_68_code 4 (some .boolean) "isSoundOn" 18 (ve_pu (ve_al 19 2)) := ve_pu_ok (ve_aload_n_ok (k := 2) (i := 2) (by decide +kernel : decode prog_1_method_68_code 18 = .ok (.aload_n 2, 1)) rfl)
set_option maxRecDepth 16384 in
theorem vi_85_19 (l : Launch) : ve_OK vs_A l 59 (ve_HI vs_A l 59 vs_M) (ve_CB vs_A l 59 (ve_HI vs_A l 59 vs_M) vs_M) "Orderbench" prog_1_method_68_code 4 (some .boolean) "isSoundOn" 19 (ve_cw 59 3 22 [(2, 86)]) := ve_cw_ok rfl (List.forall_mem_cons.mpr ⟨ve_rowU (md := vs_M) (A0 := vs_A) (mi := 86) (na := 2) (k := 2) (C := "Orderbench") (owner := "Orderbench") (x := ⟨"Orderbench", "ranksAll", "(LOrderbench$Row;LOrderbench$Shape;)Z"⟩) (by decide +kernel : decode prog_1_method_68_code 19 = .ok (.invokevirtual 182, 3)) (by decide) vw_485 vw_483 vw_2 vw_484 rfl vw_486 vw_487 vf_224 ⟨by decide, by decide⟩ vf_0 vf_205, List.forall_mem_nil _⟩)
set_option maxRecDepth 16384 in
theorem vi_85_22 (l : Launch) : ve_OK vs_A l 59 (ve_HI vs_A l 59 vs_M) (ve_CB vs_A l 59 (ve_HI vs_A l 59 vs_M) vs_M) "Orderbench" prog_1_method_68_code 4 (some .boolean) "isSoundOn" 22 (ve_pu (ve_br1 (fun x => decide (x = 0)) 70 25)) := ve_pu_ok (ve_if_eq_ok (by decide +kernel : decode prog_1_method_68_code 22 = .ok (.ifCond .eq (48), 3)) (by decide +kernel))
set_option maxRecDepth 16384 in
theorem vi_85_25 (l : Launch) : ve_OK vs_A l 59 (ve_HI vs_A l 59 vs_M) (ve_CB vs_A l 59 (ve_HI vs_A l 59 vs_M) vs_M) "Orderbench" prog_1_method_68_code 4 (some .boolean) "isSoundOn" 25 (ve_pu (ve_al 26 1)) := ve_pu_ok (ve_aload_n_ok (k := 1) (i := 1) (by decide +kernel : decode prog_1_method_68_code 25 = .ok (.aload_n 1, 1)) rfl)
set_option maxRecDepth 16384 in
theorem vi_85_26 (l : Launch) : ve_OK vs_A l 59 (ve_HI vs_A l 59 vs_M) (ve_CB vs_A l 59 (ve_HI vs_A l 59 vs_M) vs_M) "Orderbench" prog_1_method_68_code 4 (some .boolean) "isSoundOn" 26 (ve_pu (ve_al 27 2)) := ve_pu_ok (ve_aload_n_ok (k := 2) (i := 2) (by decide +kernel : decode prog_1_method_68_code 26 = .ok (.aload_n 2, 1)) rfl)
set_option maxRecDepth 16384 in
theorem vi_85_27 (l : Launch) : ve_OK vs_A l 59 (ve_HI vs_A l 59 vs_M) (ve_CB vs_A l 59 (ve_HI vs_A l 59 vs_M) vs_M) "Orderbench" prog_1_method_68_code 4 (some .boolean) "isSoundOn" 27 (ve_pu (ve_al 28 3)) := ve_pu_ok (ve_aload_n_ok (k := 3) (i := 3) (by decide +kernel : decode prog_1_method_68_code 27 = .ok (.aload_n 3, 1)) rfl)
set_option maxRecDepth 16384 in
theorem vi_85_28 (l : Launch) : ve_OK vs_A l 59 (ve_HI vs_A l 59 vs_M) (ve_CB vs_A l 59 (ve_HI vs_A l 59 vs_M) vs_M) "Orderbench" prog_1_method_68_code 4 (some .boolean) "isSoundOn" 28 (ve_cl 59 88 3 31) := ve_cl_ok (ve_rowS (md := vs_M) (A0 := vs_A) (mi := 88) (by decide +kernel : decode prog_1_method_68_code 28 = .ok (.invokestatic 178, 3)) (by decide) vw_488 vw_489 vw_2 vw_490 rfl ⟨by decide, by decide⟩ vf_225)
set_option maxRecDepth 16384 in
theorem vi_85_31 (l : Launch) : ve_OK vs_A l 59 (ve_HI vs_A l 59 vs_M) (ve_CB vs_A l 59 (ve_HI vs_A l 59 vs_M) vs_M) "Orderbench" prog_1_method_68_code 4 (some .boolean) "isSoundOn" 31 (ve_pu (ve_br1 (fun x => decide (x = 0)) 70 34)) := ve_pu_ok (ve_if_eq_ok (by decide +kernel : decode prog_1_method_68_code 31 = .ok (.ifCond .eq (39), 3)) (by decide +kernel))
set_option maxRecDepth 16384 in
theorem vi_85_34 (l : Launch) : ve_OK vs_A l 59 (ve_HI vs_A l 59 vs_M) (ve_CB vs_A l 59 (ve_HI vs_A l 59 vs_M) vs_M) "Orderbench" prog_1_method_68_code 4 (some .boolean) "isSoundOn" 34 (ve_pu (ve_al 35 1)) := ve_pu_ok (ve_aload_n_ok (k := 1) (i := 1) (by decide +kernel : decode prog_1_method_68_code 34 = .ok (.aload_n 1, 1)) rfl)
set_option maxRecDepth 16384 in
theorem vi_85_35 (l : Launch) : ve_OK vs_A l 59 (ve_HI vs_A l 59 vs_M) (ve_CB vs_A l 59 (ve_HI vs_A l 59 vs_M) vs_M) "Orderbench" prog_1_method_68_code 4 (some .boolean) "isSoundOn" 35 (ve_pu (ve_al 36 2)) := ve_pu_ok (ve_aload_n_ok (k := 2) (i := 2) (by decide +kernel : decode prog_1_method_68_code 35 = .ok (.aload_n 2, 1)) rfl)
set_option maxRecDepth 16384 in
theorem vi_85_36 (l : Launch) : ve_OK vs_A l 59 (ve_HI vs_A l 59 vs_M) (ve_CB vs_A l 59 (ve_HI vs_A l 59 vs_M) vs_M) "Orderbench" prog_1_method_68_code 4 (some .boolean) "isSoundOn" 36 (ve_cl 59 69 2 39) := ve_cl_ok (ve_rowS (md := vs_M) (A0 := vs_A) (mi := 69) (by decide +kernel : decode prog_1_method_68_code 36 = .ok (.invokestatic 104, 3)) (by decide) vw_430 vw_431 vw_2 vw_432 rfl ⟨by decide, by decide⟩ vf_205)
set_option maxRecDepth 16384 in
theorem vi_85_39 (l : Launch) : ve_OK vs_A l 59 (ve_HI vs_A l 59 vs_M) (ve_CB vs_A l 59 (ve_HI vs_A l 59 vs_M) vs_M) "Orderbench" prog_1_method_68_code 4 (some .boolean) "isSoundOn" 39 (ve_pu (ve_br1 (fun x => decide (x = 0)) 51 42)) := ve_pu_ok (ve_if_eq_ok (by decide +kernel : decode prog_1_method_68_code 39 = .ok (.ifCond .eq (12), 3)) (by decide +kernel))
set_option maxRecDepth 16384 in
theorem vi_85_42 (l : Launch) : ve_OK vs_A l 59 (ve_HI vs_A l 59 vs_M) (ve_CB vs_A l 59 (ve_HI vs_A l 59 vs_M) vs_M) "Orderbench" prog_1_method_68_code 4 (some .boolean) "isSoundOn" 42 (ve_pu (ve_al 43 0)) := ve_pu_ok (ve_aload_n_ok (k := 0) (i := 0) (by decide +kernel : decode prog_1_method_68_code 42 = .ok (.aload_n 0, 1)) rfl)
set_option maxRecDepth 16384 in
theorem vi_85_43 (l : Launch) : ve_OK vs_A l 59 (ve_HI vs_A l 59 vs_M) (ve_CB vs_A l 59 (ve_HI vs_A l 59 vs_M) vs_M) "Orderbench" prog_1_method_68_code 4 (some .boolean) "isSoundOn" 43 (ve_pu (ve_al 44 1)) := ve_pu_ok (ve_aload_n_ok (k := 1) (i := 1) (by decide +kernel : decode prog_1_method_68_code 43 = .ok (.aload_n 1, 1)) rfl)
set_option maxRecDepth 16384 in
theorem vi_85_44 (l : Launch) : ve_OK vs_A l 59 (ve_HI vs_A l 59 vs_M) (ve_CB vs_A l 59 (ve_HI vs_A l 59 vs_M) vs_M) "Orderbench" prog_1_method_68_code 4 (some .boolean) "isSoundOn" 44 (ve_pu (ve_al 45 2)) := ve_pu_ok (ve_aload_n_ok (k := 2) (i := 2) (by decide +kernel : decode prog_1_method_68_code 44 = .ok (.aload_n 2, 1)) rfl)
set_option maxRecDepth 16384 in
theorem vi_85_45 (l : Launch) : ve_OK vs_A l 59 (ve_HI vs_A l 59 vs_M) (ve_CB vs_A l 59 (ve_HI vs_A l 59 vs_M) vs_M) "Orderbench" prog_1_method_68_code 4 (some .boolean) "isSoundOn" 45 (ve_cw 59 3 48 [(2, 89)]) := ve_cw_ok rfl (List.forall_mem_cons.mpr ⟨ve_rowU (md := vs_M) (A0 := vs_A) (mi := 89) (na := 2) (k := 2) (C := "Orderbench") (owner := "Orderbench") (x := ⟨"Orderbench", "sortsWell", "(LOrderbench$Row;LOrderbench$Shape;)Z"⟩) (by decide +kernel : decode prog_1_method_68_code 45 = .ok (.invokevirtual 301, 3)) (by decide) vw_493 vw_491 vw_2 vw_492 rfl vw_494 vw_495 vf_226 ⟨by decide, by decide⟩ vf_0 vf_205, List.forall_mem_nil _⟩)
set_option maxRecDepth 16384 in
theorem vi_85_48 (l : Launch) : ve_OK vs_A l 59 (ve_HI vs_A l 59 vs_M) (ve_CB vs_A l 59 (ve_HI vs_A l 59 vs_M) vs_M) "Orderbench" prog_1_method_68_code 4 (some .boolean) "isSoundOn" 48 (ve_pu (ve_br1 (fun x => decide (x = 0)) 70 51)) := ve_pu_ok (ve_if_eq_ok (by decide +kernel : decode prog_1_method_68_code 48 = .ok (.ifCond .eq (22), 3)) (by decide +kernel))
set_option maxRecDepth 16384 in
theorem vi_85_51 (l : Launch) : ve_OK vs_A l 59 (ve_HI vs_A l 59 vs_M) (ve_CB vs_A l 59 (ve_HI vs_A l 59 vs_M) vs_M) "Orderbench" prog_1_method_68_code 4 (some .boolean) "isSoundOn" 51 (ve_pu (ve_al 52 0)) := ve_pu_ok (ve_aload_n_ok (k := 0) (i := 0) (by decide +kernel : decode prog_1_method_68_code 51 = .ok (.aload_n 0, 1)) rfl)
set_option maxRecDepth 16384 in
theorem vi_85_52 (l : Launch) : ve_OK vs_A l 59 (ve_HI vs_A l 59 vs_M) (ve_CB vs_A l 59 (ve_HI vs_A l 59 vs_M) vs_M) "Orderbench" prog_1_method_68_code 4 (some .boolean) "isSoundOn" 52 (ve_pu (ve_al 53 1)) := ve_pu_ok (ve_aload_n_ok (k := 1) (i := 1) (by decide +kernel : decode prog_1_method_68_code 52 = .ok (.aload_n 1, 1)) rfl)
set_option maxRecDepth 16384 in
theorem vi_85_53 (l : Launch) : ve_OK vs_A l 59 (ve_HI vs_A l 59 vs_M) (ve_CB vs_A l 59 (ve_HI vs_A l 59 vs_M) vs_M) "Orderbench" prog_1_method_68_code 4 (some .boolean) "isSoundOn" 53 (ve_pu (ve_al 54 2)) := ve_pu_ok (ve_aload_n_ok (k := 2) (i := 2) (by decide +kernel : decode prog_1_method_68_code 53 = .ok (.aload_n 2, 1)) rfl)
set_option maxRecDepth 16384 in
theorem vi_85_54 (l : Launch) : ve_OK vs_A l 59 (ve_HI vs_A l 59 vs_M) (ve_CB vs_A l 59 (ve_HI vs_A l 59 vs_M) vs_M) "Orderbench" prog_1_method_68_code 4 (some .boolean) "isSoundOn" 54 (ve_pu (ve_al 55 0)) := ve_pu_ok (ve_aload_n_ok (k := 0) (i := 0) (by decide +kernel : decode prog_1_method_68_code 54 = .ok (.aload_n 0, 1)) rfl)
set_option maxRecDepth 16384 in
theorem vi_85_55 (l : Launch) : ve_OK vs_A l 59 (ve_HI vs_A l 59 vs_M) (ve_CB vs_A l 59 (ve_HI vs_A l 59 vs_M) vs_M) "Orderbench" prog_1_method_68_code 4 (some .boolean) "isSoundOn" 55 (ve_gf 58 1) := ve_getf_ok (k := 1) (by decide +kernel : decode prog_1_method_68_code 55 = .ok (.getfield 18, 3)) vw_56 vf_30
set_option maxRecDepth 16384 in
theorem vi_85_58 (l : Launch) : ve_OK vs_A l 59 (ve_HI vs_A l 59 vs_M) (ve_CB vs_A l 59 (ve_HI vs_A l 59 vs_M) vs_M) "Orderbench" prog_1_method_68_code 4 (some .boolean) "isSoundOn" 58 (ve_pu (ve_push 59 (.int (0)))) := ve_pu_ok (ve_iconst_ok (n := 0) (v := 0) (by decide +kernel : decode prog_1_method_68_code 58 = .ok (.iconst (0), 1)) rfl)
set_option maxRecDepth 16384 in
theorem vi_85_59 (l : Launch) : ve_OK vs_A l 59 (ve_HI vs_A l 59 vs_M) (ve_CB vs_A l 59 (ve_HI vs_A l 59 vs_M) vs_M) "Orderbench" prog_1_method_68_code 4 (some .boolean) "isSoundOn" 59 (ve_ald 60 55) := ve_aald_ok (by decide +kernel : decode prog_1_method_68_code 59 = .ok (.aaload, 1)) vf_109 rfl
set_option maxRecDepth 16384 in
theorem vi_85_60 (l : Launch) : ve_OK vs_A l 59 (ve_HI vs_A l 59 vs_M) (ve_CB vs_A l 59 (ve_HI vs_A l 59 vs_M) vs_M) "Orderbench" prog_1_method_68_code 4 (some .boolean) "isSoundOn" 60 (ve_cw 59 4 63 [(2, 94)]) := ve_cw_ok rfl (List.forall_mem_cons.mpr ⟨ve_rowU (md := vs_M) (A0 := vs_A) (mi := 94) (na := 3) (k := 2) (C := "Orderbench") (owner := "Orderbench") (x := ⟨"Orderbench", "sortsAsTwice", "(LOrderbench$Row;LOrderbench$Shape;LOrderbench$Shape;)Z"⟩) (by decide +kernel : decode prog_1_method_68_code 60 = .ok (.invokevirtual 206, 3)) (by decide) vw_498 vw_496 vw_2 vw_497 rfl vw_499 vw_500 vf_227 ⟨by decide, by decide⟩ vf_0 vf_225, List.forall_mem_nil _⟩)
set_option maxRecDepth 16384 in
theorem vi_85_63 (l : Launch) : ve_OK vs_A l 59 (ve_HI vs_A l 59 vs_M) (ve_CB vs_A l 59 (ve_HI vs_A l 59 vs_M) vs_M) "Orderbench" prog_1_method_68_code 4 (some .boolean) "isSoundOn" 63 (ve_pu (ve_br1 (fun x => decide (x = 0)) 70 66)) := ve_pu_ok (ve_if_eq_ok (by decide +kernel : decode prog_1_method_68_code 63 = .ok (.ifCond .eq (7), 3)) (by decide +kernel))
set_option maxRecDepth 16384 in
theorem vi_85_66 (l : Launch) : ve_OK vs_A l 59 (ve_HI vs_A l 59 vs_M) (ve_CB vs_A l 59 (ve_HI vs_A l 59 vs_M) vs_M) "Orderbench" prog_1_method_68_code 4 (some .boolean) "isSoundOn" 66 (ve_pu (ve_push 67 (.int (1)))) := ve_pu_ok (ve_iconst_ok (n := 1) (v := 1) (by decide +kernel : decode prog_1_method_68_code 66 = .ok (.iconst (1), 1)) rfl)
set_option maxRecDepth 16384 in
theorem vi_85_67 (l : Launch) : ve_OK vs_A l 59 (ve_HI vs_A l 59 vs_M) (ve_CB vs_A l 59 (ve_HI vs_A l 59 vs_M) vs_M) "Orderbench" prog_1_method_68_code 4 (some .boolean) "isSoundOn" 67 (ve_pu (ve_jmp 71)) := ve_pu_ok (ve_goto_ok (by decide +kernel : decode prog_1_method_68_code 67 = .ok (.goto (4), 3)) (by decide +kernel))
set_option maxRecDepth 16384 in
theorem vi_85_71 (l : Launch) : ve_OK vs_A l 59 (ve_HI vs_A l 59 vs_M) (ve_CB vs_A l 59 (ve_HI vs_A l 59 vs_M) vs_M) "Orderbench" prog_1_method_68_code 4 (some .boolean) "isSoundOn" 71 (ve_rt 1 .boolean) := ve_iret_ok (by decide +kernel : decode prog_1_method_68_code 71 = .ok (.ireturn, 1)) rfl
set_option maxRecDepth 16384 in
theorem vi_86_0 (l : Launch) : ve_OK vs_A l 59 (ve_HI vs_A l 59 vs_M) (ve_CB vs_A l 59 (ve_HI vs_A l 59 vs_M) vs_M) "Orderbench" prog_1_method_57_code 6 (some .boolean) "ranksAll" 0 (ve_pu (ve_al 1 0)) := ve_pu_ok (ve_aload_n_ok (k := 0) (i := 0) (by decide +kernel : decode prog_1_method_57_code 0 = .ok (.aload_n 0, 1)) rfl)
set_option maxRecDepth 16384 in
theorem vi_86_1 (l : Launch) : ve_OK vs_A l 59 (ve_HI vs_A l 59 vs_M) (ve_CB vs_A l 59 (ve_HI vs_A l 59 vs_M) vs_M) "Orderbench" prog_1_method_57_code 6 (some .boolean) "ranksAll" 1 (ve_gf 4 2) := ve_getf_ok (k := 2) (by decide +kernel : decode prog_1_method_57_code 1 = .ok (.getfield 27, 3)) vw_63 vf_228
set_option maxRecDepth 16384 in
theorem vi_86_4 (l : Launch) : ve_OK vs_A l 59 (ve_HI vs_A l 59 vs_M) (ve_CB vs_A l 59 (ve_HI vs_A l 59 vs_M) vs_M) "Orderbench" prog_1_method_57_code 6 (some .boolean) "ranksAll" 4 (ve_pu (ve_al 5 1)) := ve_pu_ok (ve_aload_n_ok (k := 1) (i := 1) (by decide +kernel : decode prog_1_method_57_code 4 = .ok (.aload_n 1, 1)) rfl)
set_option maxRecDepth 16384 in
theorem vi_86_5 (l : Launch) : ve_OK vs_A l 59 (ve_HI vs_A l 59 vs_M) (ve_CB vs_A l 59 (ve_HI vs_A l 59 vs_M) vs_M) "Orderbench" prog_1_method_57_code 6 (some .boolean) "ranksAll" 5 (ve_pu (ve_al 6 2)) := ve_pu_ok (ve_aload_n_ok (k := 2) (i := 2) (by decide +kernel : decode prog_1_method_57_code 5 = .ok (.aload_n 2, 1)) rfl)
set_option maxRecDepth 16384 in
theorem vi_86_6 (l : Launch) : ve_OK vs_A l 59 (ve_HI vs_A l 59 vs_M) (ve_CB vs_A l 59 (ve_HI vs_A l 59 vs_M) vs_M) "Orderbench" prog_1_method_57_code 6 (some .boolean) "ranksAll" 6 (ve_gf 9 1) := ve_getf_ok (k := 1) (by decide +kernel : decode prog_1_method_57_code 6 = .ok (.getfield 147, 3)) vw_386 vf_111
set_option maxRecDepth 16384 in
theorem vi_86_9 (l : Launch) : ve_OK vs_A l 59 (ve_HI vs_A l 59 vs_M) (ve_CB vs_A l 59 (ve_HI vs_A l 59 vs_M) vs_M) "Orderbench" prog_1_method_57_code 6 (some .boolean) "ranksAll" 9 (ve_cw 59 3 12 [(3, 87)]) := ve_cw_ok rfl (List.forall_mem_cons.mpr ⟨ve_rowU (md := vs_M) (A0 := vs_A) (mi := 87) (na := 2) (k := 3) (C := "Orderbench$Row") (owner := "Orderbench$Row") (x := ⟨"Orderbench$Row", "becomeTaken", "(LOrderbench$Row;Z)V"⟩) (by decide +kernel : decode prog_1_method_57_code 9 = .ok (.invokevirtual 282, 3)) (by decide) vw_503 vw_501 vw_50 vw_502 rfl vw_504 vw_505 vf_230 ⟨by decide, by decide⟩ vf_21 vf_229, List.forall_mem_nil _⟩)
set_option maxRecDepth 16384 in
theorem vi_86_12 (l : Launch) : ve_OK vs_A l 59 (ve_HI vs_A l 59 vs_M) (ve_CB vs_A l 59 (ve_HI vs_A l 59 vs_M) vs_M) "Orderbench" prog_1_method_57_code 6 (some .boolean) "ranksAll" 12 (ve_pu (ve_push 13 (.int (0)))) := ve_pu_ok (ve_iconst_ok (n := 0) (v := 0) (by decide +kernel : decode prog_1_method_57_code 12 = .ok (.iconst (0), 1)) rfl)
set_option maxRecDepth 16384 in
theorem vi_86_13 (l : Launch) : ve_OK vs_A l 59 (ve_HI vs_A l 59 vs_M) (ve_CB vs_A l 59 (ve_HI vs_A l 59 vs_M) vs_M) "Orderbench" prog_1_method_57_code 6 (some .boolean) "ranksAll" 13 (ve_pu (ve_is 14 3 6)) := ve_pu_ok (ve_istore_n_ok (k := 3) (i := 3) (by decide +kernel : decode prog_1_method_57_code 13 = .ok (.istore_n 3, 1)) rfl)
set_option maxRecDepth 16384 in
theorem vi_86_14 (l : Launch) : ve_OK vs_A l 59 (ve_HI vs_A l 59 vs_M) (ve_CB vs_A l 59 (ve_HI vs_A l 59 vs_M) vs_M) "Orderbench" prog_1_method_57_code 6 (some .boolean) "ranksAll" 14 (ve_pu (ve_il 15 3)) := ve_pu_ok (ve_iload_n_ok (k := 3) (i := 3) (by decide +kernel : decode prog_1_method_57_code 14 = .ok (.iload_n 3, 1)) rfl)
set_option maxRecDepth 16384 in
theorem vi_86_15 (l : Launch) : ve_OK vs_A l 59 (ve_HI vs_A l 59 vs_M) (ve_CB vs_A l 59 (ve_HI vs_A l 59 vs_M) vs_M) "Orderbench" prog_1_method_57_code 6 (some .boolean) "ranksAll" 15 (ve_pu (ve_al 16 0)) := ve_pu_ok (ve_aload_n_ok (k := 0) (i := 0) (by decide +kernel : decode prog_1_method_57_code 15 = .ok (.aload_n 0, 1)) rfl)
set_option maxRecDepth 16384 in
theorem vi_86_16 (l : Launch) : ve_OK vs_A l 59 (ve_HI vs_A l 59 vs_M) (ve_CB vs_A l 59 (ve_HI vs_A l 59 vs_M) vs_M) "Orderbench" prog_1_method_57_code 6 (some .boolean) "ranksAll" 16 (ve_gf 19 2) := ve_getf_ok (k := 2) (by decide +kernel : decode prog_1_method_57_code 16 = .ok (.getfield 27, 3)) vw_63 vf_228
set_option maxRecDepth 16384 in
theorem vi_86_19 (l : Launch) : ve_OK vs_A l 59 (ve_HI vs_A l 59 vs_M) (ve_CB vs_A l 59 (ve_HI vs_A l 59 vs_M) vs_M) "Orderbench" prog_1_method_57_code 6 (some .boolean) "ranksAll" 19 (ve_gf 22 1) := ve_getfN_ok (k := 1) (by decide +kernel : decode prog_1_method_57_code 19 = .ok (.getfield 64, 3)) vw_372 vf_192
set_option maxRecDepth 16384 in
theorem vi_86_22 (l : Launch) : ve_OK vs_A l 59 (ve_HI vs_A l 59 vs_M) (ve_CB vs_A l 59 (ve_HI vs_A l 59 vs_M) vs_M) "Orderbench" prog_1_method_57_code 6 (some .boolean) "ranksAll" 22 (ve_pu (ve_br2 (fun x y => decide (¬ x < y)) 60 25)) := ve_pu_ok (ve_icmp_ge_ok (by decide +kernel : decode prog_1_method_57_code 22 = .ok (.if_icmp .ge (38), 3)) (by decide +kernel))
set_option maxRecDepth 16384 in
theorem vi_86_60 (l : Launch) : ve_OK vs_A l 59 (ve_HI vs_A l 59 vs_M) (ve_CB vs_A l 59 (ve_HI vs_A l 59 vs_M) vs_M) "Orderbench" prog_1_method_57_code 6 (some .boolean) "ranksAll" 60 (ve_pu (ve_push 61 (.int (0)))) := ve_pu_ok (ve_iconst_ok (n := 0) (v := 0) (by decide +kernel : decode prog_1_method_57_code 60 = .ok (.iconst (0), 1)) rfl)
set_option maxRecDepth 16384 in
theorem vi_86_61 (l : Launch) : ve_OK vs_A l 59 (ve_HI vs_A l 59 vs_M) (ve_CB vs_A l 59 (ve_HI vs_A l 59 vs_M) vs_M) "Orderbench" prog_1_method_57_code 6 (some .boolean) "ranksAll" 61 (ve_pu (ve_is 62 3 6)) := ve_pu_ok (ve_istore_n_ok (k := 3) (i := 3) (by decide +kernel : decode prog_1_method_57_code 61 = .ok (.istore_n 3, 1)) rfl)
set_option maxRecDepth 16384 in
theorem vi_86_62 (l : Launch) : ve_OK vs_A l 59 (ve_HI vs_A l 59 vs_M) (ve_CB vs_A l 59 (ve_HI vs_A l 59 vs_M) vs_M) "Orderbench" prog_1_method_57_code 6 (some .boolean) "ranksAll" 62 (ve_pu (ve_il 63 3)) := ve_pu_ok (ve_iload_n_ok (k := 3) (i := 3) (by decide +kernel : decode prog_1_method_57_code 62 = .ok (.iload_n 3, 1)) rfl)
set_option maxRecDepth 16384 in
theorem vi_86_63 (l : Launch) : ve_OK vs_A l 59 (ve_HI vs_A l 59 vs_M) (ve_CB vs_A l 59 (ve_HI vs_A l 59 vs_M) vs_M) "Orderbench" prog_1_method_57_code 6 (some .boolean) "ranksAll" 63 (ve_pu (ve_al 64 0)) := ve_pu_ok (ve_aload_n_ok (k := 0) (i := 0) (by decide +kernel : decode prog_1_method_57_code 63 = .ok (.aload_n 0, 1)) rfl)
set_option maxRecDepth 16384 in
theorem vi_86_64 (l : Launch) : ve_OK vs_A l 59 (ve_HI vs_A l 59 vs_M) (ve_CB vs_A l 59 (ve_HI vs_A l 59 vs_M) vs_M) "Orderbench" prog_1_method_57_code 6 (some .boolean) "ranksAll" 64 (ve_gf 67 2) := ve_getf_ok (k := 2) (by decide +kernel : decode prog_1_method_57_code 64 = .ok (.getfield 27, 3)) vw_63 vf_228
set_option maxRecDepth 16384 in
theorem vi_86_67 (l : Launch) : ve_OK vs_A l 59 (ve_HI vs_A l 59 vs_M) (ve_CB vs_A l 59 (ve_HI vs_A l 59 vs_M) vs_M) "Orderbench" prog_1_method_57_code 6 (some .boolean) "ranksAll" 67 (ve_gf 70 1) := ve_getfN_ok (k := 1) (by decide +kernel : decode prog_1_method_57_code 67 = .ok (.getfield 64, 3)) vw_372 vf_192
set_option maxRecDepth 16384 in
theorem vi_86_70 (l : Launch) : ve_OK vs_A l 59 (ve_HI vs_A l 59 vs_M) (ve_CB vs_A l 59 (ve_HI vs_A l 59 vs_M) vs_M) "Orderbench" prog_1_method_57_code 6 (some .boolean) "ranksAll" 70 (ve_pu (ve_br2 (fun x y => decide (¬ x < y)) 160 73)) := ve_pu_ok (ve_icmp_ge_ok (by decide +kernel : decode prog_1_method_57_code 70 = .ok (.if_icmp .ge (90), 3)) (by decide +kernel))
set_option maxRecDepth 16384 in
theorem vi_86_160 (l : Launch) : ve_OK vs_A l 59 (ve_HI vs_A l 59 vs_M) (ve_CB vs_A l 59 (ve_HI vs_A l 59 vs_M) vs_M) "Orderbench" prog_1_method_57_code 6 (some .boolean) "ranksAll" 160 (ve_pu (ve_push 161 (.int (1)))) := ve_pu_ok (ve_iconst_ok (n := 1) (v := 1) (by decide +kernel : decode prog_1_method_57_code 160 = .ok (.iconst (1), 1)) rfl)
set_option maxRecDepth 16384 in
theorem vi_86_161 (l : Launch) : ve_OK vs_A l 59 (ve_HI vs_A l 59 vs_M) (ve_CB vs_A l 59 (ve_HI vs_A l 59 vs_M) vs_M) "Orderbench" prog_1_method_57_code 6 (some .boolean) "ranksAll" 161 (ve_rt 1 .boolean) := ve_iret_ok (by decide +kernel : decode prog_1_method_57_code 161 = .ok (.ireturn, 1)) rfl
set_option maxRecDepth 16384 in
theorem vi_87_0 (l : Launch) : ve_OK vs_A l 59 (ve_HI vs_A l 59 vs_M) (ve_CB vs_A l 59 (ve_HI vs_A l 59 vs_M) vs_M) "Orderbench$Row" prog_4_method_8_code 5 none "becomeTaken" 0 (ve_pu (ve_al 1 0)) := ve_pu_ok (ve_aload_n_ok (k := 0) (i := 0) (by decide +kernel : decode prog_4_method_8_code 0 = .ok (.aload_n 0, 1)) rfl)
set_option maxRecDepth 16384 in
theorem vi_87_1 (l : Launch) : ve_OK vs_A l 59 (ve_HI vs_A l 59 vs_M) (ve_CB vs_A l 59 (ve_HI vs_A l 59 vs_M) vs_M) "Orderbench$Row" prog_4_method_8_code 5 none "becomeTaken" 1 (ve_pu (ve_push 2 (.int (0)))) := ve_pu_ok (ve_iconst_ok (n := 0) (v := 0) (by decide +kernel : decode prog_4_method_8_code 1 = .ok (.iconst (0), 1)) rfl)
set_option maxRecDepth 16384 in
theorem vi_87_2 (l : Launch) : ve_OK vs_A l 59 (ve_HI vs_A l 59 vs_M) (ve_CB vs_A l 59 (ve_HI vs_A l 59 vs_M) vs_M) "Orderbench$Row" prog_4_method_8_code 5 none "becomeTaken" 2 (ve_pf 5 1 [3] .int) := ve_putf_ok (by decide +kernel : decode prog_4_method_8_code 2 = .ok (.putfield 15, 3)) vw_392 vf_232 vf_231
set_option maxRecDepth 16384 in
theorem vi_87_5 (l : Launch) : ve_OK vs_A l 59 (ve_HI vs_A l 59 vs_M) (ve_CB vs_A l 59 (ve_HI vs_A l 59 vs_M) vs_M) "Orderbench$Row" prog_4_method_8_code 5 none "becomeTaken" 5 (ve_pu (ve_push 6 (.int (0)))) := ve_pu_ok (ve_iconst_ok (n := 0) (v := 0) (by decide +kernel : decode prog_4_method_8_code 5 = .ok (.iconst (0), 1)) rfl)
set_option maxRecDepth 16384 in
theorem vi_87_6 (l : Launch) : ve_OK vs_A l 59 (ve_HI vs_A l 59 vs_M) (ve_CB vs_A l 59 (ve_HI vs_A l 59 vs_M) vs_M) "Orderbench$Row" prog_4_method_8_code 5 none "becomeTaken" 6 (ve_pu (ve_is 7 3 5)) := ve_pu_ok (ve_istore_n_ok (k := 3) (i := 3) (by decide +kernel : decode prog_4_method_8_code 6 = .ok (.istore_n 3, 1)) rfl)
set_option maxRecDepth 16384 in
theorem vi_87_7 (l : Launch) : ve_OK vs_A l 59 (ve_HI vs_A l 59 vs_M) (ve_CB vs_A l 59 (ve_HI vs_A l 59 vs_M) vs_M) "Orderbench$Row" prog_4_method_8_code 5 none "becomeTaken" 7 (ve_pu (ve_il 8 3)) := ve_pu_ok (ve_iload_n_ok (k := 3) (i := 3) (by decide +kernel : decode prog_4_method_8_code 7 = .ok (.iload_n 3, 1)) rfl)
set_option maxRecDepth 16384 in
theorem vi_87_8 (l : Launch) : ve_OK vs_A l 59 (ve_HI vs_A l 59 vs_M) (ve_CB vs_A l 59 (ve_HI vs_A l 59 vs_M) vs_M) "Orderbench$Row" prog_4_method_8_code 5 none "becomeTaken" 8 (ve_pu (ve_al 9 1)) := ve_pu_ok (ve_aload_n_ok (k := 1) (i := 1) (by decide +kernel : decode prog_4_method_8_code 8 = .ok (.aload_n 1, 1)) rfl)
set_option maxRecDepth 16384 in
theorem vi_87_9 (l : Launch) : ve_OK vs_A l 59 (ve_HI vs_A l 59 vs_M) (ve_CB vs_A l 59 (ve_HI vs_A l 59 vs_M) vs_M) "Orderbench$Row" prog_4_method_8_code 5 none "becomeTaken" 9 (ve_gf 12 1) := ve_getf_ok (k := 1) (by decide +kernel : decode prog_4_method_8_code 9 = .ok (.getfield 15, 3)) vw_392 vf_192
set_option maxRecDepth 16384 in
theorem vi_87_12 (l : Launch) : ve_OK vs_A l 59 (ve_HI vs_A l 59 vs_M) (ve_CB vs_A l 59 (ve_HI vs_A l 59 vs_M) vs_M) "Orderbench$Row" prog_4_method_8_code 5 none "becomeTaken" 12 (ve_pu (ve_br2 (fun x y => decide (¬ x < y)) 44 15)) := ve_pu_ok (ve_icmp_ge_ok (by decide +kernel : decode prog_4_method_8_code 12 = .ok (.if_icmp .ge (32), 3)) (by decide +kernel))
set_option maxRecDepth 16384 in
theorem vi_87_44 (l : Launch) : ve_OK vs_A l 59 (ve_HI vs_A l 59 vs_M) (ve_CB vs_A l 59 (ve_HI vs_A l 59 vs_M) vs_M) "Orderbench$Row" prog_4_method_8_code 5 none "becomeTaken" 44 (ve_rt 0 .int) := ve_vret_ok (by decide +kernel : decode prog_4_method_8_code 44 = .ok (.return_, 1)) rfl
set_option maxRecDepth 16384 in
theorem vi_88_0 (l : Launch) : ve_OK vs_A l 59 (ve_HI vs_A l 59 vs_M) (ve_CB vs_A l 59 (ve_HI vs_A l 59 vs_M) vs_M) "Orderbench" prog_1_method_56_code 7 (some .boolean) "tellTheSame" 0 (ve_pu (ve_push 1 (.int (0)))) := ve_pu_ok (ve_iconst_ok (n := 0) (v := 0) (by decide +kernel : decode prog_1_method_56_code 0 = .ok (.iconst (0), 1)) rfl)
set_option maxRecDepth 16384 in
theorem vi_88_1 (l : Launch) : ve_OK vs_A l 59 (ve_HI vs_A l 59 vs_M) (ve_CB vs_A l 59 (ve_HI vs_A l 59 vs_M) vs_M) "Orderbench" prog_1_method_56_code 7 (some .boolean) "tellTheSame" 1 (ve_pu (ve_is 2 3 7)) := ve_pu_ok (ve_istore_n_ok (k := 3) (i := 3) (by decide +kernel : decode prog_1_method_56_code 1 = .ok (.istore_n 3, 1)) rfl)
set_option maxRecDepth 16384 in
theorem vi_88_2 (l : Launch) : ve_OK vs_A l 59 (ve_HI vs_A l 59 vs_M) (ve_CB vs_A l 59 (ve_HI vs_A l 59 vs_M) vs_M) "Orderbench" prog_1_method_56_code 7 (some .boolean) "tellTheSame" 2 (ve_pu (ve_il 3 3)) := ve_pu_ok (ve_iload_n_ok (k := 3) (i := 3) (by decide +kernel : decode prog_1_method_56_code 2 = .ok (.iload_n 3, 1)) rfl)
set_option maxRecDepth 16384 in
theorem vi_88_3 (l : Launch) : ve_OK vs_A l 59 (ve_HI vs_A l 59 vs_M) (ve_CB vs_A l 59 (ve_HI vs_A l 59 vs_M) vs_M) "Orderbench" prog_1_method_56_code 7 (some .boolean) "tellTheSame" 3 (ve_pu (ve_al 4 0)) := ve_pu_ok (ve_aload_n_ok (k := 0) (i := 0) (by decide +kernel : decode prog_1_method_56_code 3 = .ok (.aload_n 0, 1)) rfl)
set_option maxRecDepth 16384 in
theorem vi_88_4 (l : Launch) : ve_OK vs_A l 59 (ve_HI vs_A l 59 vs_M) (ve_CB vs_A l 59 (ve_HI vs_A l 59 vs_M) vs_M) "Orderbench" prog_1_method_56_code 7 (some .boolean) "tellTheSame" 4 (ve_gf 7 1) := ve_getfN_ok (k := 1) (by decide +kernel : decode prog_1_method_56_code 4 = .ok (.getfield 64, 3)) vw_372 vf_192
set_option maxRecDepth 16384 in
theorem vi_88_7 (l : Launch) : ve_OK vs_A l 59 (ve_HI vs_A l 59 vs_M) (ve_CB vs_A l 59 (ve_HI vs_A l 59 vs_M) vs_M) "Orderbench" prog_1_method_56_code 7 (some .boolean) "tellTheSame" 7 (ve_pu (ve_br2 (fun x y => decide (¬ x < y)) 70 10)) := ve_pu_ok (ve_icmp_ge_ok (by decide +kernel : decode prog_1_method_56_code 7 = .ok (.if_icmp .ge (63), 3)) (by decide +kernel))
set_option maxRecDepth 16384 in
theorem vi_88_70 (l : Launch) : ve_OK vs_A l 59 (ve_HI vs_A l 59 vs_M) (ve_CB vs_A l 59 (ve_HI vs_A l 59 vs_M) vs_M) "Orderbench" prog_1_method_56_code 7 (some .boolean) "tellTheSame" 70 (ve_pu (ve_push 71 (.int (1)))) := ve_pu_ok (ve_iconst_ok (n := 1) (v := 1) (by decide +kernel : decode prog_1_method_56_code 70 = .ok (.iconst (1), 1)) rfl)
set_option maxRecDepth 16384 in
theorem vi_88_71 (l : Launch) : ve_OK vs_A l 59 (ve_HI vs_A l 59 vs_M) (ve_CB vs_A l 59 (ve_HI vs_A l 59 vs_M) vs_M) "Orderbench" prog_1_method_56_code 7 (some .boolean) "tellTheSame" 71 (ve_rt 1 .boolean) := ve_iret_ok (by decide +kernel : decode prog_1_method_56_code 71 = .ok (.ireturn, 1)) rfl
set_option maxRecDepth 16384 in
theorem vi_89_0 (l : Launch) : ve_OK vs_A l 59 (ve_HI vs_A l 59 vs_M) (ve_CB vs_A l 59 (ve_HI vs_A l 59 vs_M) vs_M) "Orderbench" prog_1_method_67_code 3 (some .boolean) "sortsWell" 0 (ve_pu (ve_al 1 0)) := ve_pu_ok (ve_aload_n_ok (k := 0) (i := 0) (by decide +kernel : decode prog_1_method_67_code 0 = .ok (.aload_n 0, 1)) rfl)
set_option maxRecDepth 16384 in
theorem vi_89_1 (l : Launch) : ve_OK vs_A l 59 (ve_HI vs_A l 59 vs_M) (ve_CB vs_A l 59 (ve_HI vs_A l 59 vs_M) vs_M) "Orderbench" prog_1_method_67_code 3 (some .boolean) "sortsWell" 1 (ve_gf 4 2) := ve_getf_ok (k := 2) (by decide +kernel : decode prog_1_method_67_code 1 = .ok (.getfield 27, 3)) vw_63 vf_228
set_option maxRecDepth 16384 in
theorem vi_89_4 (l : Launch) : ve_OK vs_A l 59 (ve_HI vs_A l 59 vs_M) (ve_CB vs_A l 59 (ve_HI vs_A l 59 vs_M) vs_M) "Orderbench" prog_1_method_67_code 3 (some .boolean) "sortsWell" 4 (ve_pu (ve_al 5 1)) := ve_pu_ok (ve_aload_n_ok (k := 1) (i := 1) (by decide +kernel : decode prog_1_method_67_code 4 = .ok (.aload_n 1, 1)) rfl)
set_option maxRecDepth 16384 in
theorem vi_89_5 (l : Launch) : ve_OK vs_A l 59 (ve_HI vs_A l 59 vs_M) (ve_CB vs_A l 59 (ve_HI vs_A l 59 vs_M) vs_M) "Orderbench" prog_1_method_67_code 3 (some .boolean) "sortsWell" 5 (ve_cw 59 2 8 [(3, 90)]) := ve_cw_ok rfl (List.forall_mem_cons.mpr ⟨ve_rowU (md := vs_M) (A0 := vs_A) (mi := 90) (na := 1) (k := 3) (C := "Orderbench$Row") (owner := "Orderbench$Row") (x := ⟨"Orderbench$Row", "become", "(LOrderbench$Row;)V"⟩) (by decide +kernel : decode prog_1_method_67_code 5 = .ok (.invokevirtual 96, 3)) (by decide) vw_508 vw_506 vw_50 vw_507 rfl vw_509 vw_510 vf_233 ⟨by decide, by decide⟩ vf_21 vf_201, List.forall_mem_nil _⟩)
set_option maxRecDepth 16384 in
theorem vi_89_8 (l : Launch) : ve_OK vs_A l 59 (ve_HI vs_A l 59 vs_M) (ve_CB vs_A l 59 (ve_HI vs_A l 59 vs_M) vs_M) "Orderbench" prog_1_method_67_code 3 (some .boolean) "sortsWell" 8 (ve_pu (ve_al 9 0)) := ve_pu_ok (ve_aload_n_ok (k := 0) (i := 0) (by decide +kernel : decode prog_1_method_67_code 8 = .ok (.aload_n 0, 1)) rfl)
set_option maxRecDepth 16384 in
theorem vi_89_9 (l : Launch) : ve_OK vs_A l 59 (ve_HI vs_A l 59 vs_M) (ve_CB vs_A l 59 (ve_HI vs_A l 59 vs_M) vs_M) "Orderbench" prog_1_method_67_code 3 (some .boolean) "sortsWell" 9 (ve_gf 12 2) := ve_getf_ok (k := 2) (by decide +kernel : decode prog_1_method_67_code 9 = .ok (.getfield 27, 3)) vw_63 vf_228
set_option maxRecDepth 16384 in
theorem vi_89_12 (l : Launch) : ve_OK vs_A l 59 (ve_HI vs_A l 59 vs_M) (ve_CB vs_A l 59 (ve_HI vs_A l 59 vs_M) vs_M) "Orderbench" prog_1_method_67_code 3 (some .boolean) "sortsWell" 12 (ve_pu (ve_al 13 2)) := ve_pu_ok (ve_aload_n_ok (k := 2) (i := 2) (by decide +kernel : decode prog_1_method_67_code 12 = .ok (.aload_n 2, 1)) rfl)
set_option maxRecDepth 16384 in
theorem vi_89_13 (l : Launch) : ve_OK vs_A l 59 (ve_HI vs_A l 59 vs_M) (ve_CB vs_A l 59 (ve_HI vs_A l 59 vs_M) vs_M) "Orderbench" prog_1_method_67_code 3 (some .boolean) "sortsWell" 13 (ve_cw 59 2 16 [(3, 91)]) := ve_cw_ok rfl (List.forall_mem_cons.mpr ⟨ve_rowU (md := vs_M) (A0 := vs_A) (mi := 91) (na := 1) (k := 3) (C := "Orderbench$Row") (owner := "Orderbench$Row") (x := ⟨"Orderbench$Row", "arrange", "(LOrderbench$Shape;)V"⟩) (by decide +kernel : decode prog_1_method_67_code 13 = .ok (.invokevirtual 111, 3)) (by decide) vw_513 vw_511 vw_50 vw_512 rfl vw_514 vw_515 vf_234 ⟨by decide, by decide⟩ vf_21 vf_106, List.forall_mem_nil _⟩)
set_option maxRecDepth 16384 in
theorem vi_89_16 (l : Launch) : ve_OK vs_A l 59 (ve_HI vs_A l 59 vs_M) (ve_CB vs_A l 59 (ve_HI vs_A l 59 vs_M) vs_M) "Orderbench" prog_1_method_67_code 3 (some .boolean) "sortsWell" 16 (ve_pu (ve_al 17 0)) := ve_pu_ok (ve_aload_n_ok (k := 0) (i := 0) (by decide +kernel : decode prog_1_method_67_code 16 = .ok (.aload_n 0, 1)) rfl)
set_option maxRecDepth 16384 in
theorem vi_89_17 (l : Launch) : ve_OK vs_A l 59 (ve_HI vs_A l 59 vs_M) (ve_CB vs_A l 59 (ve_HI vs_A l 59 vs_M) vs_M) "Orderbench" prog_1_method_67_code 3 (some .boolean) "sortsWell" 17 (ve_gf 20 2) := ve_getf_ok (k := 2) (by decide +kernel : decode prog_1_method_67_code 17 = .ok (.getfield 27, 3)) vw_63 vf_228
set_option maxRecDepth 16384 in
theorem vi_89_20 (l : Launch) : ve_OK vs_A l 59 (ve_HI vs_A l 59 vs_M) (ve_CB vs_A l 59 (ve_HI vs_A l 59 vs_M) vs_M) "Orderbench" prog_1_method_67_code 3 (some .boolean) "sortsWell" 20 (ve_pu (ve_al 21 2)) := ve_pu_ok (ve_aload_n_ok (k := 2) (i := 2) (by decide +kernel : decode prog_1_method_67_code 20 = .ok (.aload_n 2, 1)) rfl)
set_option maxRecDepth 16384 in
theorem vi_89_21 (l : Launch) : ve_OK vs_A l 59 (ve_HI vs_A l 59 vs_M) (ve_CB vs_A l 59 (ve_HI vs_A l 59 vs_M) vs_M) "Orderbench" prog_1_method_67_code 3 (some .boolean) "sortsWell" 21 (ve_cl 59 70 2 24) := ve_cl_ok (ve_rowS (md := vs_M) (A0 := vs_A) (mi := 70) (by decide +kernel : decode prog_1_method_67_code 21 = .ok (.invokestatic 290, 3)) (by decide) vw_433 vw_434 vw_2 vw_435 rfl ⟨by decide, by decide⟩ vf_205)
set_option maxRecDepth 16384 in
theorem vi_89_24 (l : Launch) : ve_OK vs_A l 59 (ve_HI vs_A l 59 vs_M) (ve_CB vs_A l 59 (ve_HI vs_A l 59 vs_M) vs_M) "Orderbench" prog_1_method_67_code 3 (some .boolean) "sortsWell" 24 (ve_pu (ve_br1 (fun x => decide (x = 0)) 38 27)) := ve_pu_ok (ve_if_eq_ok (by decide +kernel : decode prog_1_method_67_code 24 = .ok (.ifCond .eq (14), 3)) (by decide +kernel))
set_option maxRecDepth 16384 in
theorem vi_89_27 (l : Launch) : ve_OK vs_A l 59 (ve_HI vs_A l 59 vs_M) (ve_CB vs_A l 59 (ve_HI vs_A l 59 vs_M) vs_M) "Orderbench" prog_1_method_67_code 3 (some .boolean) "sortsWell" 27 (ve_pu (ve_al 28 0)) := ve_pu_ok (ve_aload_n_ok (k := 0) (i := 0) (by decide +kernel : decode prog_1_method_67_code 27 = .ok (.aload_n 0, 1)) rfl)
set_option maxRecDepth 16384 in
theorem vi_89_28 (l : Launch) : ve_OK vs_A l 59 (ve_HI vs_A l 59 vs_M) (ve_CB vs_A l 59 (ve_HI vs_A l 59 vs_M) vs_M) "Orderbench" prog_1_method_67_code 3 (some .boolean) "sortsWell" 28 (ve_gf 31 2) := ve_getf_ok (k := 2) (by decide +kernel : decode prog_1_method_67_code 28 = .ok (.getfield 27, 3)) vw_63 vf_228
set_option maxRecDepth 16384 in
theorem vi_89_31 (l : Launch) : ve_OK vs_A l 59 (ve_HI vs_A l 59 vs_M) (ve_CB vs_A l 59 (ve_HI vs_A l 59 vs_M) vs_M) "Orderbench" prog_1_method_67_code 3 (some .boolean) "sortsWell" 31 (ve_pu (ve_al 32 1)) := ve_pu_ok (ve_aload_n_ok (k := 1) (i := 1) (by decide +kernel : decode prog_1_method_67_code 31 = .ok (.aload_n 1, 1)) rfl)
set_option maxRecDepth 16384 in
theorem vi_89_32 (l : Launch) : ve_OK vs_A l 59 (ve_HI vs_A l 59 vs_M) (ve_CB vs_A l 59 (ve_HI vs_A l 59 vs_M) vs_M) "Orderbench" prog_1_method_67_code 3 (some .boolean) "sortsWell" 32 (ve_cw 59 2 35 [(3, 92)]) := ve_cw_ok rfl (List.forall_mem_cons.mpr ⟨ve_rowU (md := vs_M) (A0 := vs_A) (mi := 92) (na := 1) (k := 3) (C := "Orderbench$Row") (owner := "Orderbench$Row") (x := ⟨"Orderbench$Row", "holdsAllOf", "(LOrderbench$Row;)Z"⟩) (by decide +kernel : decode prog_1_method_67_code 32 = .ok (.invokevirtual 297, 3)) (by decide) vw_518 vw_516 vw_50 vw_517 rfl vw_519 vw_520 vf_236 ⟨by decide, by decide⟩ vf_21 vf_235, List.forall_mem_nil _⟩)
set_option maxRecDepth 16384 in
theorem vi_89_35 (l : Launch) : ve_OK vs_A l 59 (ve_HI vs_A l 59 vs_M) (ve_CB vs_A l 59 (ve_HI vs_A l 59 vs_M) vs_M) "Orderbench" prog_1_method_67_code 3 (some .boolean) "sortsWell" 35 (ve_pu (ve_br1 (fun x => decide (¬ x = 0)) 40 38)) := ve_pu_ok (ve_if_ne_ok (by decide +kernel : decode prog_1_method_67_code 35 = .ok (.ifCond .ne (5), 3)) (by decide +kernel))
