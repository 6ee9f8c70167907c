set_option maxRecDepth 16384 in
theorem vi_59_7 (l : Launch) : ve_OK vs_A l 59 (ve_HI vs_A l 59 vs_M) (ve_CB vs_A l 59 (ve_HI vs_A l 59 vs_M) vs_M) "Orderbench" prog_1_method_70_code 3 (some .int) "howManySafe" 7 (ve_pu (ve_br2 (fun x y => decide (¬ x < y)) 31 10)) := ve_pu_ok (ve_icmp_ge_ok (by decide +kernel : decode prog_1_method_70_code 7 = .ok (.if_icmp .ge (24), 3)) (by decide +kernel))
set_option maxRecDepth 16384 in
theorem vi_59_10 (l : Launch) : ve_OK vs_A l 59 (ve_HI vs_A l 59 vs_M) (ve_CB vs_A l 59 (ve_HI vs_A l 59 vs_M) vs_M) "Orderbench" prog_1_method_70_code 3 (some .int) "howManySafe" 10 (ve_pu (ve_al 11 0)) := ve_pu_ok (ve_aload_n_ok (k := 0) (i := 0) (by decide +kernel : decode prog_1_method_70_code 10 = .ok (.aload_n 0, 1)) rfl)
set_option maxRecDepth 16384 in
theorem vi_59_11 (l : Launch) : ve_OK vs_A l 59 (ve_HI vs_A l 59 vs_M) (ve_CB vs_A l 59 (ve_HI vs_A l 59 vs_M) vs_M) "Orderbench" prog_1_method_70_code 3 (some .int) "howManySafe" 11 (ve_gf 14 1) := ve_getf_ok (k := 1) (by decide +kernel : decode prog_1_method_70_code 11 = .ok (.getfield 18, 3)) vw_50 vf_27
set_option maxRecDepth 16384 in
theorem vi_59_14 (l : Launch) : ve_OK vs_A l 59 (ve_HI vs_A l 59 vs_M) (ve_CB vs_A l 59 (ve_HI vs_A l 59 vs_M) vs_M) "Orderbench" prog_1_method_70_code 3 (some .int) "howManySafe" 14 (ve_pu (ve_il 15 2)) := ve_pu_ok (ve_iload_n_ok (k := 2) (i := 2) (by decide +kernel : decode prog_1_method_70_code 14 = .ok (.iload_n 2, 1)) rfl)
set_option maxRecDepth 16384 in
theorem vi_59_15 (l : Launch) : ve_OK vs_A l 59 (ve_HI vs_A l 59 vs_M) (ve_CB vs_A l 59 (ve_HI vs_A l 59 vs_M) vs_M) "Orderbench" prog_1_method_70_code 3 (some .int) "howManySafe" 15 (ve_ald 16 55) := ve_aald_ok (by decide +kernel : decode prog_1_method_70_code 15 = .ok (.aaload, 1)) vf_106 rfl
set_option maxRecDepth 16384 in
theorem vi_59_16 (l : Launch) : ve_OK vs_A l 59 (ve_HI vs_A l 59 vs_M) (ve_CB vs_A l 59 (ve_HI vs_A l 59 vs_M) vs_M) "Orderbench" prog_1_method_70_code 3 (some .int) "howManySafe" 16 (ve_gf 19 1) := ve_getf_ok (k := 1) (by decide +kernel : decode prog_1_method_70_code 16 = .ok (.getfield 147, 3)) vw_381 vf_108
set_option maxRecDepth 16384 in
theorem vi_59_19 (l : Launch) : ve_OK vs_A l 59 (ve_HI vs_A l 59 vs_M) (ve_CB vs_A l 59 (ve_HI vs_A l 59 vs_M) vs_M) "Orderbench" prog_1_method_70_code 3 (some .int) "howManySafe" 19 (ve_pu (ve_br1 (fun x => decide (x = 0)) 25 22)) := ve_pu_ok (ve_if_eq_ok (by decide +kernel : decode prog_1_method_70_code 19 = .ok (.ifCond .eq (6), 3)) (by decide +kernel))
set_option maxRecDepth 16384 in
theorem vi_59_25 (l : Launch) : ve_OK vs_A l 59 (ve_HI vs_A l 59 vs_M) (ve_CB vs_A l 59 (ve_HI vs_A l 59 vs_M) vs_M) "Orderbench" prog_1_method_70_code 3 (some .int) "howManySafe" 25 (ve_pu (ve_ii 28 2 3 (1))) := ve_pu_ok (ve_iinc_ok (by decide +kernel : decode prog_1_method_70_code 25 = .ok (.iinc 2 (1), 3)))
set_option maxRecDepth 16384 in
theorem vi_59_28 (l : Launch) : ve_OK vs_A l 59 (ve_HI vs_A l 59 vs_M) (ve_CB vs_A l 59 (ve_HI vs_A l 59 vs_M) vs_M) "Orderbench" prog_1_method_70_code 3 (some .int) "howManySafe" 28 (ve_pu (ve_jmp 4)) := ve_pu_ok (ve_goto_ok (by decide +kernel : decode prog_1_method_70_code 28 = .ok (.goto (-24), 3)) (by decide +kernel))
set_option maxRecDepth 16384 in
theorem vi_59_31 (l : Launch) : ve_OK vs_A l 59 (ve_HI vs_A l 59 vs_M) (ve_CB vs_A l 59 (ve_HI vs_A l 59 vs_M) vs_M) "Orderbench" prog_1_method_70_code 3 (some .int) "howManySafe" 31 (ve_pu (ve_il 32 1)) := ve_pu_ok (ve_iload_n_ok (k := 1) (i := 1) (by decide +kernel : decode prog_1_method_70_code 31 = .ok (.iload_n 1, 1)) rfl)
set_option maxRecDepth 16384 in
theorem vi_59_32 (l : Launch) : ve_OK vs_A l 59 (ve_HI vs_A l 59 vs_M) (ve_CB vs_A l 59 (ve_HI vs_A l 59 vs_M) vs_M) "Orderbench" prog_1_method_70_code 3 (some .int) "howManySafe" 32 (ve_rt 1 .int) := ve_iret_ok (by decide +kernel : decode prog_1_method_70_code 32 = .ok (.ireturn, 1)) rfl
set_option maxRecDepth 16384 in
theorem vi_60_0 (l : Launch) : ve_OK vs_A l 59 (ve_HI vs_A l 59 vs_M) (ve_CB vs_A l 59 (ve_HI vs_A l 59 vs_M) vs_M) "Orderbench$Row" prog_4_method_9_code 1 (some .int) "empties" 0 (ve_pu (ve_al 1 0)) := ve_pu_ok (ve_aload_n_ok (k := 0) (i := 0) (by decide +kernel : decode prog_4_method_9_code 0 = .ok (.aload_n 0, 1)) rfl)
set_option maxRecDepth 16384 in
theorem vi_60_1 (l : Launch) : ve_OK vs_A l 59 (ve_HI vs_A l 59 vs_M) (ve_CB vs_A l 59 (ve_HI vs_A l 59 vs_M) vs_M) "Orderbench$Row" prog_4_method_9_code 1 (some .int) "empties" 1 (ve_pu (ve_push 2 (.int (-1)))) := ve_pu_ok (ve_iconst_ok (n := -1) (v := -1) (by decide +kernel : decode prog_4_method_9_code 1 = .ok (.iconst (-1), 1)) rfl)
set_option maxRecDepth 16384 in
theorem vi_60_2 (l : Launch) : ve_OK vs_A l 59 (ve_HI vs_A l 59 vs_M) (ve_CB vs_A l 59 (ve_HI vs_A l 59 vs_M) vs_M) "Orderbench$Row" prog_4_method_9_code 1 (some .int) "empties" 2 (ve_cw 59 2 5 [(3, 61)]) := ve_cw_ok rfl (List.forall_mem_cons.mpr ⟨ve_rowU (md := vs_M) (A0 := vs_A) (mi := 61) (na := 1) (k := 3) (C := "Orderbench$Row") (owner := "Orderbench$Row") (x := ⟨"Orderbench$Row", "howOften", "(I)I"⟩) (by decide +kernel : decode prog_4_method_9_code 2 = .ok (.invokevirtual 35, 3)) (by decide) vw_384 vw_382 vw_44 vw_383 rfl vw_385 vw_386 vf_196 ⟨by decide, by decide⟩ vf_18 vf_129, List.forall_mem_nil _⟩)
set_option maxRecDepth 16384 in
theorem vi_60_5 (l : Launch) : ve_OK vs_A l 59 (ve_HI vs_A l 59 vs_M) (ve_CB vs_A l 59 (ve_HI vs_A l 59 vs_M) vs_M) "Orderbench$Row" prog_4_method_9_code 1 (some .int) "empties" 5 (ve_rt 1 .int) := ve_iret_ok (by decide +kernel : decode prog_4_method_9_code 5 = .ok (.ireturn, 1)) rfl
set_option maxRecDepth 16384 in
theorem vi_61_0 (l : Launch) : ve_OK vs_A l 59 (ve_HI vs_A l 59 vs_M) (ve_CB vs_A l 59 (ve_HI vs_A l 59 vs_M) vs_M) "Orderbench$Row" prog_4_method_10_code 4 (some .int) "howOften" 0 (ve_pu (ve_push 1 (.int (0)))) := ve_pu_ok (ve_iconst_ok (n := 0) (v := 0) (by decide +kernel : decode prog_4_method_10_code 0 = .ok (.iconst (0), 1)) rfl)
set_option maxRecDepth 16384 in
theorem vi_61_1 (l : Launch) : ve_OK vs_A l 59 (ve_HI vs_A l 59 vs_M) (ve_CB vs_A l 59 (ve_HI vs_A l 59 vs_M) vs_M) "Orderbench$Row" prog_4_method_10_code 4 (some .int) "howOften" 1 (ve_pu (ve_is 2 2 4)) := ve_pu_ok (ve_istore_n_ok (k := 2) (i := 2) (by decide +kernel : decode prog_4_method_10_code 1 = .ok (.istore_n 2, 1)) rfl)
set_option maxRecDepth 16384 in
theorem vi_61_2 (l : Launch) : ve_OK vs_A l 59 (ve_HI vs_A l 59 vs_M) (ve_CB vs_A l 59 (ve_HI vs_A l 59 vs_M) vs_M) "Orderbench$Row" prog_4_method_10_code 4 (some .int) "howOften" 2 (ve_pu (ve_push 3 (.int (0)))) := ve_pu_ok (ve_iconst_ok (n := 0) (v := 0) (by decide +kernel : decode prog_4_method_10_code 2 = .ok (.iconst (0), 1)) rfl)
set_option maxRecDepth 16384 in
theorem vi_61_3 (l : Launch) : ve_OK vs_A l 59 (ve_HI vs_A l 59 vs_M) (ve_CB vs_A l 59 (ve_HI vs_A l 59 vs_M) vs_M) "Orderbench$Row" prog_4_method_10_code 4 (some .int) "howOften" 3 (ve_pu (ve_is 4 3 4)) := ve_pu_ok (ve_istore_n_ok (k := 3) (i := 3) (by decide +kernel : decode prog_4_method_10_code 3 = .ok (.istore_n 3, 1)) rfl)
set_option maxRecDepth 16384 in
theorem vi_61_4 (l : Launch) : ve_OK vs_A l 59 (ve_HI vs_A l 59 vs_M) (ve_CB vs_A l 59 (ve_HI vs_A l 59 vs_M) vs_M) "Orderbench$Row" prog_4_method_10_code 4 (some .int) "howOften" 4 (ve_pu (ve_il 5 3)) := ve_pu_ok (ve_iload_n_ok (k := 3) (i := 3) (by decide +kernel : decode prog_4_method_10_code 4 = .ok (.iload_n 3, 1)) rfl)
set_option maxRecDepth 16384 in
theorem vi_61_5 (l : Launch) : ve_OK vs_A l 59 (ve_HI vs_A l 59 vs_M) (ve_CB vs_A l 59 (ve_HI vs_A l 59 vs_M) vs_M) "Orderbench$Row" prog_4_method_10_code 4 (some .int) "howOften" 5 (ve_pu (ve_al 6 0)) := ve_pu_ok (ve_aload_n_ok (k := 0) (i := 0) (by decide +kernel : decode prog_4_method_10_code 5 = .ok (.aload_n 0, 1)) rfl)
set_option maxRecDepth 16384 in
theorem vi_61_6 (l : Launch) : ve_OK vs_A l 59 (ve_HI vs_A l 59 vs_M) (ve_CB vs_A l 59 (ve_HI vs_A l 59 vs_M) vs_M) "Orderbench$Row" prog_4_method_10_code 4 (some .int) "howOften" 6 (ve_gf 9 1) := ve_getf_ok (k := 1) (by decide +kernel : decode prog_4_method_10_code 6 = .ok (.getfield 15, 3)) vw_387 vf_190
set_option maxRecDepth 16384 in
theorem vi_61_9 (l : Launch) : ve_OK vs_A l 59 (ve_HI vs_A l 59 vs_M) (ve_CB vs_A l 59 (ve_HI vs_A l 59 vs_M) vs_M) "Orderbench$Row" prog_4_method_10_code 4 (some .int) "howOften" 9 (ve_pu (ve_br2 (fun x y => decide (¬ x < y)) 40 12)) := ve_pu_ok (ve_icmp_ge_ok (by decide +kernel : decode prog_4_method_10_code 9 = .ok (.if_icmp .ge (31), 3)) (by decide +kernel))
set_option maxRecDepth 16384 in
theorem vi_61_40 (l : Launch) : ve_OK vs_A l 59 (ve_HI vs_A l 59 vs_M) (ve_CB vs_A l 59 (ve_HI vs_A l 59 vs_M) vs_M) "Orderbench$Row" prog_4_method_10_code 4 (some .int) "howOften" 40 (ve_pu (ve_il 41 2)) := ve_pu_ok (ve_iload_n_ok (k := 2) (i := 2) (by decide +kernel : decode prog_4_method_10_code 40 = .ok (.iload_n 2, 1)) rfl)
set_option maxRecDepth 16384 in
theorem vi_61_41 (l : Launch) : ve_OK vs_A l 59 (ve_HI vs_A l 59 vs_M) (ve_CB vs_A l 59 (ve_HI vs_A l 59 vs_M) vs_M) "Orderbench$Row" prog_4_method_10_code 4 (some .int) "howOften" 41 (ve_rt 1 .int) := ve_iret_ok (by decide +kernel : decode prog_4_method_10_code 41 = .ok (.ireturn, 1)) rfl
set_option maxRecDepth 16384 in
theorem vi_62_0 (l : Launch) : ve_OK vs_A l 59 (ve_HI vs_A l 59 vs_M) (ve_CB vs_A l 59 (ve_HI vs_A l 59 vs_M) vs_M) "Orderbench" prog_1_method_72_code 8 (some .long) "digestBench" 0 (ve_pu (ve_al 1 0)) := ve_pu_ok (ve_aload_n_ok (k := 0) (i := 0) (by decide +kernel : decode prog_1_method_72_code 0 = .ok (.aload_n 0, 1)) rfl)
set_option maxRecDepth 16384 in
theorem vi_62_1 (l : Launch) : ve_OK vs_A l 59 (ve_HI vs_A l 59 vs_M) (ve_CB vs_A l 59 (ve_HI vs_A l 59 vs_M) vs_M) "Orderbench" prog_1_method_72_code 8 (some .long) "digestBench" 1 (ve_gf 4 5) := ve_getf_ok (k := 5) (by decide +kernel : decode prog_1_method_72_code 1 = .ok (.getfield 41, 3)) vw_67 vf_197
set_option maxRecDepth 16384 in
theorem vi_62_4 (l : Launch) : ve_OK vs_A l 59 (ve_HI vs_A l 59 vs_M) (ve_CB vs_A l 59 (ve_HI vs_A l 59 vs_M) vs_M) "Orderbench" prog_1_method_72_code 8 (some .long) "digestBench" 4 (ve_pu (ve_push 5 (.int (0)))) := ve_pu_ok (ve_iconst_ok (n := 0) (v := 0) (by decide +kernel : decode prog_1_method_72_code 4 = .ok (.iconst (0), 1)) rfl)
set_option maxRecDepth 16384 in
theorem vi_62_5 (l : Launch) : ve_OK vs_A l 59 (ve_HI vs_A l 59 vs_M) (ve_CB vs_A l 59 (ve_HI vs_A l 59 vs_M) vs_M) "Orderbench" prog_1_method_72_code 8 (some .long) "digestBench" 5 (ve_cw 59 2 8 [(36, 63)]) := ve_cw_ok rfl (List.forall_mem_cons.mpr ⟨ve_rowU (md := vs_M) (A0 := vs_A) (mi := 63) (na := 1) (k := 36) (C := "java/lang/StringBuilder") (owner := "java/lang/StringBuilder") (x := ⟨"java/lang/StringBuilder", "setLength", "(I)V"⟩) (by decide +kernel : decode prog_1_method_72_code 5 = .ok (.invokevirtual 159, 3)) (by decide) vw_390 vw_388 vw_63 vw_389 rfl vw_391 vw_392 vf_198 ⟨by decide, by decide⟩ vf_36 vf_26, List.forall_mem_nil _⟩)
set_option maxRecDepth 16384 in
theorem vi_62_8 (l : Launch) : ve_OK vs_A l 59 (ve_HI vs_A l 59 vs_M) (ve_CB vs_A l 59 (ve_HI vs_A l 59 vs_M) vs_M) "Orderbench" prog_1_method_72_code 8 (some .long) "digestBench" 8 (ve_pu (ve_al 9 0)) := ve_pu_ok (ve_aload_n_ok (k := 0) (i := 0) (by decide +kernel : decode prog_1_method_72_code 8 = .ok (.aload_n 0, 1)) rfl)
set_option maxRecDepth 16384 in
theorem vi_62_9 (l : Launch) : ve_OK vs_A l 59 (ve_HI vs_A l 59 vs_M) (ve_CB vs_A l 59 (ve_HI vs_A l 59 vs_M) vs_M) "Orderbench" prog_1_method_72_code 8 (some .long) "digestBench" 9 (ve_pu (ve_al 10 3)) := ve_pu_ok (ve_aload_n_ok (k := 3) (i := 3) (by decide +kernel : decode prog_1_method_72_code 9 = .ok (.aload_n 3, 1)) rfl)
set_option maxRecDepth 16384 in
theorem vi_62_10 (l : Launch) : ve_OK vs_A l 59 (ve_HI vs_A l 59 vs_M) (ve_CB vs_A l 59 (ve_HI vs_A l 59 vs_M) vs_M) "Orderbench" prog_1_method_72_code 8 (some .long) "digestBench" 10 (ve_cw 59 2 13 [(2, 65)]) := ve_cw_ok rfl (List.forall_mem_cons.mpr ⟨ve_rowU (md := vs_M) (A0 := vs_A) (mi := 65) (na := 1) (k := 2) (C := "Orderbench") (owner := "Orderbench") (x := ⟨"Orderbench", "writeRow", "(LOrderbench$Row;)V"⟩) (by decide +kernel : decode prog_1_method_72_code 10 = .ok (.invokevirtual 185, 3)) (by decide) vw_395 vw_393 vw_2 vw_394 rfl vw_396 vw_397 vf_200 ⟨by decide, by decide⟩ vf_0 vf_199, List.forall_mem_nil _⟩)
set_option maxRecDepth 16384 in
theorem vi_62_13 (l : Launch) : ve_OK vs_A l 59 (ve_HI vs_A l 59 vs_M) (ve_CB vs_A l 59 (ve_HI vs_A l 59 vs_M) vs_M) "Orderbench" prog_1_method_72_code 8 (some .long) "digestBench" 13 (ve_pu (ve_al 14 0)) := ve_pu_ok (ve_aload_n_ok (k := 0) (i := 0) (by decide +kernel : decode prog_1_method_72_code 13 = .ok (.aload_n 0, 1)) rfl)
set_option maxRecDepth 16384 in
theorem vi_62_14 (l : Launch) : ve_OK vs_A l 59 (ve_HI vs_A l 59 vs_M) (ve_CB vs_A l 59 (ve_HI vs_A l 59 vs_M) vs_M) "Orderbench" prog_1_method_72_code 8 (some .long) "digestBench" 14 (ve_pu (ve_ll 15 1)) := ve_pu_ok (ve_lload_n_ok (k := 1) (i := 1) (by decide +kernel : decode prog_1_method_72_code 14 = .ok (.lload_n 1, 1)) rfl)
set_option maxRecDepth 16384 in
theorem vi_62_15 (l : Launch) : ve_OK vs_A l 59 (ve_HI vs_A l 59 vs_M) (ve_CB vs_A l 59 (ve_HI vs_A l 59 vs_M) vs_M) "Orderbench" prog_1_method_72_code 8 (some .long) "digestBench" 15 (ve_cw 59 2 18 [(2, 66)]) := ve_cw_ok rfl (List.forall_mem_cons.mpr ⟨ve_rowU (md := vs_M) (A0 := vs_A) (mi := 66) (na := 1) (k := 2) (C := "Orderbench") (owner := "Orderbench") (x := ⟨"Orderbench", "digestSigns", "(J)J"⟩) (by decide +kernel : decode prog_1_method_72_code 15 = .ok (.invokevirtual 312, 3)) (by decide) vw_400 vw_398 vw_2 vw_399 rfl vw_401 vw_402 vf_202 ⟨by decide, by decide⟩ vf_0 vf_201, List.forall_mem_nil _⟩)
set_option maxRecDepth 16384 in
theorem vi_62_18 (l : Launch) : ve_OK vs_A l 59 (ve_HI vs_A l 59 vs_M) (ve_CB vs_A l 59 (ve_HI vs_A l 59 vs_M) vs_M) "Orderbench" prog_1_method_72_code 8 (some .long) "digestBench" 18 (ve_pu (ve_ls 20 4 8)) := ve_pu_ok (ve_lstore_ok (by decide +kernel : decode prog_1_method_72_code 18 = .ok (.lstore 4, 2)))
set_option maxRecDepth 16384 in
theorem vi_62_20 (l : Launch) : ve_OK vs_A l 59 (ve_HI vs_A l 59 vs_M) (ve_CB vs_A l 59 (ve_HI vs_A l 59 vs_M) vs_M) "Orderbench" prog_1_method_72_code 8 (some .long) "digestBench" 20 (ve_pu (ve_push 21 (.int (0)))) := ve_pu_ok (ve_iconst_ok (n := 0) (v := 0) (by decide +kernel : decode prog_1_method_72_code 20 = .ok (.iconst (0), 1)) rfl)
set_option maxRecDepth 16384 in
theorem vi_62_21 (l : Launch) : ve_OK vs_A l 59 (ve_HI vs_A l 59 vs_M) (ve_CB vs_A l 59 (ve_HI vs_A l 59 vs_M) vs_M) "Orderbench" prog_1_method_72_code 8 (some .long) "digestBench" 21 (ve_pu (ve_is 23 6 8)) := ve_pu_ok (ve_istore_ok (by decide +kernel : decode prog_1_method_72_code 21 = .ok (.istore 6, 2)))
set_option maxRecDepth 16384 in
theorem vi_62_23 (l : Launch) : ve_OK vs_A l 59 (ve_HI vs_A l 59 vs_M) (ve_CB vs_A l 59 (ve_HI vs_A l 59 vs_M) vs_M) "Orderbench" prog_1_method_72_code 8 (some .long) "digestBench" 23 (ve_pu (ve_il 25 6)) := ve_pu_ok (ve_iload_ok (by decide +kernel : decode prog_1_method_72_code 23 = .ok (.iload 6, 2)))
set_option maxRecDepth 16384 in
theorem vi_62_25 (l : Launch) : ve_OK vs_A l 59 (ve_HI vs_A l 59 vs_M) (ve_CB vs_A l 59 (ve_HI vs_A l 59 vs_M) vs_M) "Orderbench" prog_1_method_72_code 8 (some .long) "digestBench" 25 (ve_pu (ve_push 27 (.int (10)))) := ve_pu_ok (ve_bipush_ok (n := 10) (v := 10) (by decide +kernel : decode prog_1_method_72_code 25 = .ok (.bipush (10), 2)) (by decide +kernel))
set_option maxRecDepth 16384 in
theorem vi_62_27 (l : Launch) : ve_OK vs_A l 59 (ve_HI vs_A l 59 vs_M) (ve_CB vs_A l 59 (ve_HI vs_A l 59 vs_M) vs_M) "Orderbench" prog_1_method_72_code 8 (some .long) "digestBench" 27 (ve_pu (ve_br2 (fun x y => decide (¬ x < y)) 119 30)) := ve_pu_ok (ve_icmp_ge_ok (by decide +kernel : decode prog_1_method_72_code 27 = .ok (.if_icmp .ge (92), 3)) (by decide +kernel))
set_option maxRecDepth 16384 in
theorem vi_62_30 (l : Launch) : ve_OK vs_A l 59 (ve_HI vs_A l 59 vs_M) (ve_CB vs_A l 59 (ve_HI vs_A l 59 vs_M) vs_M) "Orderbench" prog_1_method_72_code 8 (some .long) "digestBench" 30 (ve_pu (ve_al 31 0)) := ve_pu_ok (ve_aload_n_ok (k := 0) (i := 0) (by decide +kernel : decode prog_1_method_72_code 30 = .ok (.aload_n 0, 1)) rfl)
set_option maxRecDepth 16384 in
theorem vi_62_31 (l : Launch) : ve_OK vs_A l 59 (ve_HI vs_A l 59 vs_M) (ve_CB vs_A l 59 (ve_HI vs_A l 59 vs_M) vs_M) "Orderbench" prog_1_method_72_code 8 (some .long) "digestBench" 31 (ve_gf 34 1) := ve_getf_ok (k := 1) (by decide +kernel : decode prog_1_method_72_code 31 = .ok (.getfield 18, 3)) vw_50 vf_27
set_option maxRecDepth 16384 in
theorem vi_62_34 (l : Launch) : ve_OK vs_A l 59 (ve_HI vs_A l 59 vs_M) (ve_CB vs_A l 59 (ve_HI vs_A l 59 vs_M) vs_M) "Orderbench" prog_1_method_72_code 8 (some .long) "digestBench" 34 (ve_pu (ve_il 36 6)) := ve_pu_ok (ve_iload_ok (by decide +kernel : decode prog_1_method_72_code 34 = .ok (.iload 6, 2)))
set_option maxRecDepth 16384 in
theorem vi_62_36 (l : Launch) : ve_OK vs_A l 59 (ve_HI vs_A l 59 vs_M) (ve_CB vs_A l 59 (ve_HI vs_A l 59 vs_M) vs_M) "Orderbench" prog_1_method_72_code 8 (some .long) "digestBench" 36 (ve_ald 37 55) := ve_aald_ok (by decide +kernel : decode prog_1_method_72_code 36 = .ok (.aaload, 1)) vf_106 rfl
set_option maxRecDepth 16384 in
theorem vi_62_37 (l : Launch) : ve_OK vs_A l 59 (ve_HI vs_A l 59 vs_M) (ve_CB vs_A l 59 (ve_HI vs_A l 59 vs_M) vs_M) "Orderbench" prog_1_method_72_code 8 (some .long) "digestBench" 37 (ve_pu (ve_as 39 7 8)) := ve_pu_ok (ve_astore_ok (by decide +kernel : decode prog_1_method_72_code 37 = .ok (.astore 7, 2)))
set_option maxRecDepth 16384 in
theorem vi_62_39 (l : Launch) : ve_OK vs_A l 59 (ve_HI vs_A l 59 vs_M) (ve_CB vs_A l 59 (ve_HI vs_A l 59 vs_M) vs_M) "Orderbench" prog_1_method_72_code 8 (some .long) "digestBench" 39 (ve_pu (ve_ll 41 4)) := ve_pu_ok (ve_lload_ok (by decide +kernel : decode prog_1_method_72_code 39 = .ok (.lload 4, 2)))
set_option maxRecDepth 16384 in
theorem vi_62_41 (l : Launch) : ve_OK vs_A l 59 (ve_HI vs_A l 59 vs_M) (ve_CB vs_A l 59 (ve_HI vs_A l 59 vs_M) vs_M) "Orderbench" prog_1_method_72_code 8 (some .long) "digestBench" 41 (ve_pu (ve_push 44 (.long (31)))) := ve_cu_ok (ve_ldc2_ok (v := 31) (by decide +kernel : decode prog_1_method_72_code 41 = .ok (.ldc2_w 228, 3)) vw_346)
set_option maxRecDepth 16384 in
theorem vi_62_44 (l : Launch) : ve_OK vs_A l 59 (ve_HI vs_A l 59 vs_M) (ve_CB vs_A l 59 (ve_HI vs_A l 59 vs_M) vs_M) "Orderbench" prog_1_method_72_code 8 (some .long) "digestBench" 44 (ve_pu (ve_lmul 45)) := ve_pu_ok (ve_lmul_ok (by decide +kernel : decode prog_1_method_72_code 44 = .ok (.lmul, 1)))
set_option maxRecDepth 16384 in
theorem vi_62_45 (l : Launch) : ve_OK vs_A l 59 (ve_HI vs_A l 59 vs_M) (ve_CB vs_A l 59 (ve_HI vs_A l 59 vs_M) vs_M) "Orderbench" prog_1_method_72_code 8 (some .long) "digestBench" 45 (ve_pu (ve_al 46 3)) := ve_pu_ok (ve_aload_n_ok (k := 3) (i := 3) (by decide +kernel : decode prog_1_method_72_code 45 = .ok (.aload_n 3, 1)) rfl)
set_option maxRecDepth 16384 in
theorem vi_62_46 (l : Launch) : ve_OK vs_A l 59 (ve_HI vs_A l 59 vs_M) (ve_CB vs_A l 59 (ve_HI vs_A l 59 vs_M) vs_M) "Orderbench" prog_1_method_72_code 8 (some .long) "digestBench" 46 (ve_pu (ve_al 48 7)) := ve_pu_ok (ve_aload_ok (by decide +kernel : decode prog_1_method_72_code 46 = .ok (.aload 7, 2)))
set_option maxRecDepth 16384 in
theorem vi_62_48 (l : Launch) : ve_OK vs_A l 59 (ve_HI vs_A l 59 vs_M) (ve_CB vs_A l 59 (ve_HI vs_A l 59 vs_M) vs_M) "Orderbench" prog_1_method_72_code 8 (some .long) "digestBench" 48 (ve_cl 59 67 2 51) := ve_cl_ok (ve_rowS (md := vs_M) (A0 := vs_A) (mi := 67) (by decide +kernel : decode prog_1_method_72_code 48 = .ok (.invokestatic 188, 3)) (by decide) vw_403 vw_404 vw_2 vw_405 rfl ⟨by decide, by decide⟩ vf_203)
set_option maxRecDepth 16384 in
theorem vi_62_51 (l : Launch) : ve_OK vs_A l 59 (ve_HI vs_A l 59 vs_M) (ve_CB vs_A l 59 (ve_HI vs_A l 59 vs_M) vs_M) "Orderbench" prog_1_method_72_code 8 (some .long) "digestBench" 51 (ve_pu (ve_br1 (fun x => decide (x = 0)) 58 54)) := ve_pu_ok (ve_if_eq_ok (by decide +kernel : decode prog_1_method_72_code 51 = .ok (.ifCond .eq (7), 3)) (by decide +kernel))
set_option maxRecDepth 16384 in
theorem vi_62_54 (l : Launch) : ve_OK vs_A l 59 (ve_HI vs_A l 59 vs_M) (ve_CB vs_A l 59 (ve_HI vs_A l 59 vs_M) vs_M) "Orderbench" prog_1_method_72_code 8 (some .long) "digestBench" 54 (ve_pu (ve_push 55 (.int (1)))) := ve_pu_ok (ve_iconst_ok (n := 1) (v := 1) (by decide +kernel : decode prog_1_method_72_code 54 = .ok (.iconst (1), 1)) rfl)
set_option maxRecDepth 16384 in
theorem vi_62_55 (l : Launch) : ve_OK vs_A l 59 (ve_HI vs_A l 59 vs_M) (ve_CB vs_A l 59 (ve_HI vs_A l 59 vs_M) vs_M) "Orderbench" prog_1_method_72_code 8 (some .long) "digestBench" 55 (ve_pu (ve_jmp 59)) := ve_pu_ok (ve_goto_ok (by decide +kernel : decode prog_1_method_72_code 55 = .ok (.goto (4), 3)) (by decide +kernel))
set_option maxRecDepth 16384 in
theorem vi_62_59 (l : Launch) : ve_OK vs_A l 59 (ve_HI vs_A l 59 vs_M) (ve_CB vs_A l 59 (ve_HI vs_A l 59 vs_M) vs_M) "Orderbench" prog_1_method_72_code 8 (some .long) "digestBench" 59 (ve_pu (ve_i2l 60)) := ve_pu_ok (ve_i2l_ok (by decide +kernel : decode prog_1_method_72_code 59 = .ok (.i2l, 1)))
set_option maxRecDepth 16384 in
theorem vi_62_60 (l : Launch) : ve_OK vs_A l 59 (ve_HI vs_A l 59 vs_M) (ve_CB vs_A l 59 (ve_HI vs_A l 59 vs_M) vs_M) "Orderbench" prog_1_method_72_code 8 (some .long) "digestBench" 60 (ve_pu (ve_ladd 61)) := ve_pu_ok (ve_ladd_ok (by decide +kernel : decode prog_1_method_72_code 60 = .ok (.ladd, 1)))
set_option maxRecDepth 16384 in
theorem vi_62_61 (l : Launch) : ve_OK vs_A l 59 (ve_HI vs_A l 59 vs_M) (ve_CB vs_A l 59 (ve_HI vs_A l 59 vs_M) vs_M) "Orderbench" prog_1_method_72_code 8 (some .long) "digestBench" 61 (ve_pu (ve_ls 63 4 8)) := ve_pu_ok (ve_lstore_ok (by decide +kernel : decode prog_1_method_72_code 61 = .ok (.lstore 4, 2)))
set_option maxRecDepth 16384 in
theorem vi_62_63 (l : Launch) : ve_OK vs_A l 59 (ve_HI vs_A l 59 vs_M) (ve_CB vs_A l 59 (ve_HI vs_A l 59 vs_M) vs_M) "Orderbench" prog_1_method_72_code 8 (some .long) "digestBench" 63 (ve_pu (ve_ll 65 4)) := ve_pu_ok (ve_lload_ok (by decide +kernel : decode prog_1_method_72_code 63 = .ok (.lload 4, 2)))
set_option maxRecDepth 16384 in
theorem vi_62_65 (l : Launch) : ve_OK vs_A l 59 (ve_HI vs_A l 59 vs_M) (ve_CB vs_A l 59 (ve_HI vs_A l 59 vs_M) vs_M) "Orderbench" prog_1_method_72_code 8 (some .long) "digestBench" 65 (ve_pu (ve_push 68 (.long (31)))) := ve_cu_ok (ve_ldc2_ok (v := 31) (by decide +kernel : decode prog_1_method_72_code 65 = .ok (.ldc2_w 228, 3)) vw_346)
set_option maxRecDepth 16384 in
theorem vi_62_68 (l : Launch) : ve_OK vs_A l 59 (ve_HI vs_A l 59 vs_M) (ve_CB vs_A l 59 (ve_HI vs_A l 59 vs_M) vs_M) "Orderbench" prog_1_method_72_code 8 (some .long) "digestBench" 68 (ve_pu (ve_lmul 69)) := ve_pu_ok (ve_lmul_ok (by decide +kernel : decode prog_1_method_72_code 68 = .ok (.lmul, 1)))
set_option maxRecDepth 16384 in
theorem vi_62_69 (l : Launch) : ve_OK vs_A l 59 (ve_HI vs_A l 59 vs_M) (ve_CB vs_A l 59 (ve_HI vs_A l 59 vs_M) vs_M) "Orderbench" prog_1_method_72_code 8 (some .long) "digestBench" 69 (ve_pu (ve_al 70 3)) := ve_pu_ok (ve_aload_n_ok (k := 3) (i := 3) (by decide +kernel : decode prog_1_method_72_code 69 = .ok (.aload_n 3, 1)) rfl)
set_option maxRecDepth 16384 in
theorem vi_62_70 (l : Launch) : ve_OK vs_A l 59 (ve_HI vs_A l 59 vs_M) (ve_CB vs_A l 59 (ve_HI vs_A l 59 vs_M) vs_M) "Orderbench" prog_1_method_72_code 8 (some .long) "digestBench" 70 (ve_pu (ve_al 72 7)) := ve_pu_ok (ve_aload_ok (by decide +kernel : decode prog_1_method_72_code 70 = .ok (.aload 7, 2)))
set_option maxRecDepth 16384 in
theorem vi_62_72 (l : Launch) : ve_OK vs_A l 59 (ve_HI vs_A l 59 vs_M) (ve_CB vs_A l 59 (ve_HI vs_A l 59 vs_M) vs_M) "Orderbench" prog_1_method_72_code 8 (some .long) "digestBench" 72 (ve_cl 59 70 2 75) := ve_cl_ok (ve_rowS (md := vs_M) (A0 := vs_A) (mi := 70) (by decide +kernel : decode prog_1_method_72_code 72 = .ok (.invokestatic 191, 3)) (by decide) vw_406 vw_407 vw_2 vw_408 rfl ⟨by decide, by decide⟩ vf_204)
set_option maxRecDepth 16384 in
theorem vi_62_75 (l : Launch) : ve_OK vs_A l 59 (ve_HI vs_A l 59 vs_M) (ve_CB vs_A l 59 (ve_HI vs_A l 59 vs_M) vs_M) "Orderbench" prog_1_method_72_code 8 (some .long) "digestBench" 75 (ve_pu (ve_i2l 76)) := ve_pu_ok (ve_i2l_ok (by decide +kernel : decode prog_1_method_72_code 75 = .ok (.i2l, 1)))
set_option maxRecDepth 16384 in
theorem vi_62_76 (l : Launch) : ve_OK vs_A l 59 (ve_HI vs_A l 59 vs_M) (ve_CB vs_A l 59 (ve_HI vs_A l 59 vs_M) vs_M) "Orderbench" prog_1_method_72_code 8 (some .long) "digestBench" 76 (ve_pu (ve_ladd 77)) := ve_pu_ok (ve_ladd_ok (by decide +kernel : decode prog_1_method_72_code 76 = .ok (.ladd, 1)))
set_option maxRecDepth 16384 in
theorem vi_62_77 (l : Launch) : ve_OK vs_A l 59 (ve_HI vs_A l 59 vs_M) (ve_CB vs_A l 59 (ve_HI vs_A l 59 vs_M) vs_M) "Orderbench" prog_1_method_72_code 8 (some .long) "digestBench" 77 (ve_pu (ve_ls 79 4 8)) := ve_pu_ok (ve_lstore_ok (by decide +kernel : decode prog_1_method_72_code 77 = .ok (.lstore 4, 2)))
set_option maxRecDepth 16384 in
theorem vi_62_79 (l : Launch) : ve_OK vs_A l 59 (ve_HI vs_A l 59 vs_M) (ve_CB vs_A l 59 (ve_HI vs_A l 59 vs_M) vs_M) "Orderbench" prog_1_method_72_code 8 (some .long) "digestBench" 79 (ve_pu (ve_ll 81 4)) := ve_pu_ok (ve_lload_ok (by decide +kernel : decode prog_1_method_72_code 79 = .ok (.lload 4, 2)))
set_option maxRecDepth 16384 in
theorem vi_62_81 (l : Launch) : ve_OK vs_A l 59 (ve_HI vs_A l 59 vs_M) (ve_CB vs_A l 59 (ve_HI vs_A l 59 vs_M) vs_M) "Orderbench" prog_1_method_72_code 8 (some .long) "digestBench" 81 (ve_pu (ve_push 84 (.long (31)))) := ve_cu_ok (ve_ldc2_ok (v := 31) (by decide +kernel : decode prog_1_method_72_code 81 = .ok (.ldc2_w 228, 3)) vw_346)
set_option maxRecDepth 16384 in
theorem vi_62_84 (l : Launch) : ve_OK vs_A l 59 (ve_HI vs_A l 59 vs_M) (ve_CB vs_A l 59 (ve_HI vs_A l 59 vs_M) vs_M) "Orderbench" prog_1_method_72_code 8 (some .long) "digestBench" 84 (ve_pu (ve_lmul 85)) := ve_pu_ok (ve_lmul_ok (by decide +kernel : decode prog_1_method_72_code 84 = .ok (.lmul, 1)))
set_option maxRecDepth 16384 in
theorem vi_62_85 (l : Launch) : ve_OK vs_A l 59 (ve_HI vs_A l 59 vs_M) (ve_CB vs_A l 59 (ve_HI vs_A l 59 vs_M) vs_M) "Orderbench" prog_1_method_72_code 8 (some .long) "digestBench" 85 (ve_pu (ve_al 86 3)) := ve_pu_ok (ve_aload_n_ok (k := 3) (i := 3) (by decide +kernel : decode prog_1_method_72_code 85 = .ok (.aload_n 3, 1)) rfl)
set_option maxRecDepth 16384 in
theorem vi_62_86 (l : Launch) : ve_OK vs_A l 59 (ve_HI vs_A l 59 vs_M) (ve_CB vs_A l 59 (ve_HI vs_A l 59 vs_M) vs_M) "Orderbench" prog_1_method_72_code 8 (some .long) "digestBench" 86 (ve_pu (ve_al 88 7)) := ve_pu_ok (ve_aload_ok (by decide +kernel : decode prog_1_method_72_code 86 = .ok (.aload 7, 2)))
set_option maxRecDepth 16384 in
theorem vi_62_88 (l : Launch) : ve_OK vs_A l 59 (ve_HI vs_A l 59 vs_M) (ve_CB vs_A l 59 (ve_HI vs_A l 59 vs_M) vs_M) "Orderbench" prog_1_method_72_code 8 (some .long) "digestBench" 88 (ve_pu (ve_push 89 (.int (-1)))) := ve_pu_ok (ve_iconst_ok (n := -1) (v := -1) (by decide +kernel : decode prog_1_method_72_code 88 = .ok (.iconst (-1), 1)) rfl)
set_option maxRecDepth 16384 in
theorem vi_62_89 (l : Launch) : ve_OK vs_A l 59 (ve_HI vs_A l 59 vs_M) (ve_CB vs_A l 59 (ve_HI vs_A l 59 vs_M) vs_M) "Orderbench" prog_1_method_72_code 8 (some .long) "digestBench" 89 (ve_cl 59 72 3 92) := ve_cl_ok (ve_rowS (md := vs_M) (A0 := vs_A) (mi := 72) (by decide +kernel : decode prog_1_method_72_code 89 = .ok (.invokestatic 195, 3)) (by decide) vw_409 vw_410 vw_2 vw_411 rfl ⟨by decide, by decide⟩ vf_205)
set_option maxRecDepth 16384 in
theorem vi_62_92 (l : Launch) : ve_OK vs_A l 59 (ve_HI vs_A l 59 vs_M) (ve_CB vs_A l 59 (ve_HI vs_A l 59 vs_M) vs_M) "Orderbench" prog_1_method_72_code 8 (some .long) "digestBench" 92 (ve_pu (ve_i2l 93)) := ve_pu_ok (ve_i2l_ok (by decide +kernel : decode prog_1_method_72_code 92 = .ok (.i2l, 1)))
set_option maxRecDepth 16384 in
theorem vi_62_93 (l : Launch) : ve_OK vs_A l 59 (ve_HI vs_A l 59 vs_M) (ve_CB vs_A l 59 (ve_HI vs_A l 59 vs_M) vs_M) "Orderbench" prog_1_method_72_code 8 (some .long) "digestBench" 93 (ve_pu (ve_ladd 94)) := ve_pu_ok (ve_ladd_ok (by decide +kernel : decode prog_1_method_72_code 93 = .ok (.ladd, 1)))
set_option maxRecDepth 16384 in
theorem vi_62_94 (l : Launch) : ve_OK vs_A l 59 (ve_HI vs_A l 59 vs_M) (ve_CB vs_A l 59 (ve_HI vs_A l 59 vs_M) vs_M) "Orderbench" prog_1_method_72_code 8 (some .long) "digestBench" 94 (ve_pu (ve_ls 96 4 8)) := ve_pu_ok (ve_lstore_ok (by decide +kernel : decode prog_1_method_72_code 94 = .ok (.lstore 4, 2)))
set_option maxRecDepth 16384 in
theorem vi_62_96 (l : Launch) : ve_OK vs_A l 59 (ve_HI vs_A l 59 vs_M) (ve_CB vs_A l 59 (ve_HI vs_A l 59 vs_M) vs_M) "Orderbench" prog_1_method_72_code 8 (some .long) "digestBench" 96 (ve_pu (ve_ll 98 4)) := ve_pu_ok (ve_lload_ok (by decide +kernel : decode prog_1_method_72_code 96 = .ok (.lload 4, 2)))
set_option maxRecDepth 16384 in
theorem vi_62_98 (l : Launch) : ve_OK vs_A l 59 (ve_HI vs_A l 59 vs_M) (ve_CB vs_A l 59 (ve_HI vs_A l 59 vs_M) vs_M) "Orderbench" prog_1_method_72_code 8 (some .long) "digestBench" 98 (ve_pu (ve_push 101 (.long (31)))) := ve_cu_ok (ve_ldc2_ok (v := 31) (by decide +kernel : decode prog_1_method_72_code 98 = .ok (.ldc2_w 228, 3)) vw_346)
set_option maxRecDepth 16384 in
theorem vi_62_101 (l : Launch) : ve_OK vs_A l 59 (ve_HI vs_A l 59 vs_M) (ve_CB vs_A l 59 (ve_HI vs_A l 59 vs_M) vs_M) "Orderbench" prog_1_method_72_code 8 (some .long) "digestBench" 101 (ve_pu (ve_lmul 102)) := ve_pu_ok (ve_lmul_ok (by decide +kernel : decode prog_1_method_72_code 101 = .ok (.lmul, 1)))
set_option maxRecDepth 16384 in
theorem vi_62_102 (l : Launch) : ve_OK vs_A l 59 (ve_HI vs_A l 59 vs_M) (ve_CB vs_A l 59 (ve_HI vs_A l 59 vs_M) vs_M) "Orderbench" prog_1_method_72_code 8 (some .long) "digestBench" 102 (ve_pu (ve_al 103 3)) := ve_pu_ok (ve_aload_n_ok (k := 3) (i := 3) (by decide +kernel : decode prog_1_method_72_code 102 = .ok (.aload_n 3, 1)) rfl)
set_option maxRecDepth 16384 in
theorem vi_62_103 (l : Launch) : ve_OK vs_A l 59 (ve_HI vs_A l 59 vs_M) (ve_CB vs_A l 59 (ve_HI vs_A l 59 vs_M) vs_M) "Orderbench" prog_1_method_72_code 8 (some .long) "digestBench" 103 (ve_pu (ve_al 105 7)) := ve_pu_ok (ve_aload_ok (by decide +kernel : decode prog_1_method_72_code 103 = .ok (.aload 7, 2)))
set_option maxRecDepth 16384 in
theorem vi_62_105 (l : Launch) : ve_OK vs_A l 59 (ve_HI vs_A l 59 vs_M) (ve_CB vs_A l 59 (ve_HI vs_A l 59 vs_M) vs_M) "Orderbench" prog_1_method_72_code 8 (some .long) "digestBench" 105 (ve_pu (ve_push 106 (.int (1)))) := ve_pu_ok (ve_iconst_ok (n := 1) (v := 1) (by decide +kernel : decode prog_1_method_72_code 105 = .ok (.iconst (1), 1)) rfl)
set_option maxRecDepth 16384 in
theorem vi_62_106 (l : Launch) : ve_OK vs_A l 59 (ve_HI vs_A l 59 vs_M) (ve_CB vs_A l 59 (ve_HI vs_A l 59 vs_M) vs_M) "Orderbench" prog_1_method_72_code 8 (some .long) "digestBench" 106 (ve_cl 59 72 3 109) := ve_cl_ok (ve_rowS (md := vs_M) (A0 := vs_A) (mi := 72) (by decide +kernel : decode prog_1_method_72_code 106 = .ok (.invokestatic 195, 3)) (by decide) vw_409 vw_410 vw_2 vw_411 rfl ⟨by decide, by decide⟩ vf_205)
set_option maxRecDepth 16384 in
theorem vi_62_109 (l : Launch) : ve_OK vs_A l 59 (ve_HI vs_A l 59 vs_M) (ve_CB vs_A l 59 (ve_HI vs_A l 59 vs_M) vs_M) "Orderbench" prog_1_method_72_code 8 (some .long) "digestBench" 109 (ve_pu (ve_i2l 110)) := ve_pu_ok (ve_i2l_ok (by decide +kernel : decode prog_1_method_72_code 109 = .ok (.i2l, 1)))
set_option maxRecDepth 16384 in
theorem vi_62_110 (l : Launch) : ve_OK vs_A l 59 (ve_HI vs_A l 59 vs_M) (ve_CB vs_A l 59 (ve_HI vs_A l 59 vs_M) vs_M) "Orderbench" prog_1_method_72_code 8 (some .long) "digestBench" 110 (ve_pu (ve_ladd 111)) := ve_pu_ok (ve_ladd_ok (by decide +kernel : decode prog_1_method_72_code 110 = .ok (.ladd, 1)))
set_option maxRecDepth 16384 in
theorem vi_62_111 (l : Launch) : ve_OK vs_A l 59 (ve_HI vs_A l 59 vs_M) (ve_CB vs_A l 59 (ve_HI vs_A l 59 vs_M) vs_M) "Orderbench" prog_1_method_72_code 8 (some .long) "digestBench" 111 (ve_pu (ve_ls 113 4 8)) := ve_pu_ok (ve_lstore_ok (by decide +kernel : decode prog_1_method_72_code 111 = .ok (.lstore 4, 2)))
set_option maxRecDepth 16384 in
theorem vi_62_113 (l : Launch) : ve_OK vs_A l 59 (ve_HI vs_A l 59 vs_M) (ve_CB vs_A l 59 (ve_HI vs_A l 59 vs_M) vs_M) "Orderbench" prog_1_method_72_code 8 (some .long) "digestBench" 113 (ve_pu (ve_ii 116 6 8 (1))) := ve_pu_ok (ve_iinc_ok (by decide +kernel : decode prog_1_method_72_code 113 = .ok (.iinc 6 (1), 3)))
set_option maxRecDepth 16384 in
theorem vi_62_116 (l : Launch) : ve_OK vs_A l 59 (ve_HI vs_A l 59 vs_M) (ve_CB vs_A l 59 (ve_HI vs_A l 59 vs_M) vs_M) "Orderbench" prog_1_method_72_code 8 (some .long) "digestBench" 116 (ve_pu (ve_jmp 23)) := ve_pu_ok (ve_goto_ok (by decide +kernel : decode prog_1_method_72_code 116 = .ok (.goto (-93), 3)) (by decide +kernel))
set_option maxRecDepth 16384 in
theorem vi_62_119 (l : Launch) : ve_OK vs_A l 59 (ve_HI vs_A l 59 vs_M) (ve_CB vs_A l 59 (ve_HI vs_A l 59 vs_M) vs_M) "Orderbench" prog_1_method_72_code 8 (some .long) "digestBench" 119 (ve_pu (ve_ll 121 4)) := ve_pu_ok (ve_lload_ok (by decide +kernel : decode prog_1_method_72_code 119 = .ok (.lload 4, 2)))
set_option maxRecDepth 16384 in
theorem vi_62_121 (l : Launch) : ve_OK vs_A l 59 (ve_HI vs_A l 59 vs_M) (ve_CB vs_A l 59 (ve_HI vs_A l 59 vs_M) vs_M) "Orderbench" prog_1_method_72_code 8 (some .long) "digestBench" 121 (ve_rt 2 .long) := ve_lret_ok (by decide +kernel : decode prog_1_method_72_code 121 = .ok (.lreturn, 1)) rfl
set_option maxRecDepth 16384 in
theorem vi_63_0 (l : Launch) : ve_OK vs_A l 59 (ve_HI vs_A l 59 vs_M) (ve_CB vs_A l 59 (ve_HI vs_A l 59 vs_M) vs_M) "java/lang/StringBuilder" prog_29_method_89_code 2 none "setLength" 0 (ve_pu (ve_al 1 0)) := ve_pu_ok (ve_aload_n_ok (k := 0) (i := 0) (by decide +kernel : decode prog_29_method_89_code 0 = .ok (.aload_n 0, 1)) rfl)
set_option maxRecDepth 16384 in
theorem vi_63_1 (l : Launch) : ve_OK vs_A l 59 (ve_HI vs_A l 59 vs_M) (ve_CB vs_A l 59 (ve_HI vs_A l 59 vs_M) vs_M) "java/lang/StringBuilder" prog_29_method_89_code 2 none "setLength" 1 (ve_pu (ve_il 2 1)) := ve_pu_ok (ve_iload_n_ok (k := 1) (i := 1) (by decide +kernel : decode prog_29_method_89_code 1 = .ok (.iload_n 1, 1)) rfl)
set_option maxRecDepth 16384 in
theorem vi_63_2 (l : Launch) : ve_OK vs_A l 59 (ve_HI vs_A l 59 vs_M) (ve_CB vs_A l 59 (ve_HI vs_A l 59 vs_M) vs_M) "java/lang/StringBuilder" prog_29_method_89_code 2 none "setLength" 2 (ve_cw 59 2 5 [(36, 64)]) := ve_cw_ok rfl (List.forall_mem_cons.mpr ⟨ve_rowSU (md := vs_M) (A0 := vs_A) (mi := 64) (na := 1) (k := 36) (C := "java/lang/StringBuilder") (by decide +kernel : decode prog_29_method_89_code 2 = .ok (.invokespecial 333, 3)) (by decide) vw_414 vw_412 vw_79 vw_413 rfl vw_415 vw_238 (by decide) vf_36 vf_141 vf_26, List.forall_mem_nil _⟩)
set_option maxRecDepth 16384 in
theorem vi_63_5 (l : Launch) : ve_OK vs_A l 59 (ve_HI vs_A l 59 vs_M) (ve_CB vs_A l 59 (ve_HI vs_A l 59 vs_M) vs_M) "java/lang/StringBuilder" prog_29_method_89_code 2 none "setLength" 5 (ve_rt 0 .int) := ve_vret_ok (by decide +kernel : decode prog_29_method_89_code 5 = .ok (.return_, 1)) rfl
set_option maxRecDepth 16384 in
theorem vi_64_0 (l : Launch) : ve_OK vs_A l 59 (ve_HI vs_A l 59 vs_M) (ve_CB vs_A l 59 (ve_HI vs_A l 59 vs_M) vs_M) "java/lang/AbstractStringBuilder" prog_13_method_13_code 2 none "setLength" 0 (ve_pu (ve_il 1 1)) := ve_pu_ok (ve_iload_n_ok (k := 1) (i := 1) (by decide +kernel : decode prog_13_method_13_code 0 = .ok (.iload_n 1, 1)) rfl)
set_option maxRecDepth 16384 in
theorem vi_64_1 (l : Launch) : ve_OK vs_A l 59 (ve_HI vs_A l 59 vs_M) (ve_CB vs_A l 59 (ve_HI vs_A l 59 vs_M) vs_M) "java/lang/AbstractStringBuilder" prog_13_method_13_code 2 none "setLength" 1 (ve_pu (ve_br1 (fun x => decide (¬ x < 0)) 13 4)) := ve_pu_ok (ve_if_ge_ok (by decide +kernel : decode prog_13_method_13_code 1 = .ok (.ifCond .ge (12), 3)) (by decide +kernel))
set_option maxRecDepth 16384 in
theorem vi_64_13 (l : Launch) : ve_OK vs_A l 59 (ve_HI vs_A l 59 vs_M) (ve_CB vs_A l 59 (ve_HI vs_A l 59 vs_M) vs_M) "java/lang/AbstractStringBuilder" prog_13_method_13_code 2 none "setLength" 13 (ve_pu (ve_al 14 0)) := ve_pu_ok (ve_aload_n_ok (k := 0) (i := 0) (by decide +kernel : decode prog_13_method_13_code 13 = .ok (.aload_n 0, 1)) rfl)
set_option maxRecDepth 16384 in
theorem vi_64_14 (l : Launch) : ve_OK vs_A l 59 (ve_HI vs_A l 59 vs_M) (ve_CB vs_A l 59 (ve_HI vs_A l 59 vs_M) vs_M) "java/lang/AbstractStringBuilder" prog_13_method_13_code 2 none "setLength" 14 (ve_pu (ve_il 15 1)) := ve_pu_ok (ve_iload_n_ok (k := 1) (i := 1) (by decide +kernel : decode prog_13_method_13_code 14 = .ok (.iload_n 1, 1)) rfl)
set_option maxRecDepth 16384 in
theorem vi_64_15 (l : Launch) : ve_OK vs_A l 59 (ve_HI vs_A l 59 vs_M) (ve_CB vs_A l 59 (ve_HI vs_A l 59 vs_M) vs_M) "java/lang/AbstractStringBuilder" prog_13_method_13_code 2 none "setLength" 15 (ve_cw 59 2 18 [(36, 33)]) := ve_cw_ok rfl (List.forall_mem_cons.mpr ⟨ve_rowU (md := vs_M) (A0 := vs_A) (mi := 33) (na := 1) (k := 36) (C := "java/lang/StringBuilder") (owner := "java/lang/AbstractStringBuilder") (x := ⟨"java/lang/AbstractStringBuilder", "ensureCapacityInternal", "(I)V"⟩) (by decide +kernel : decode prog_13_method_13_code 15 = .ok (.invokevirtual 100, 3)) (by decide) vw_242 vw_240 vw_79 vw_241 rfl vw_243 vw_244 vf_143 ⟨by decide, by decide⟩ vf_36 vf_26, List.forall_mem_nil _⟩)
set_option maxRecDepth 16384 in
theorem vi_64_18 (l : Launch) : ve_OK vs_A l 59 (ve_HI vs_A l 59 vs_M) (ve_CB vs_A l 59 (ve_HI vs_A l 59 vs_M) vs_M) "java/lang/AbstractStringBuilder" prog_13_method_13_code 2 none "setLength" 18 (ve_pu (ve_al 19 0)) := ve_pu_ok (ve_aload_n_ok (k := 0) (i := 0) (by decide +kernel : decode prog_13_method_13_code 18 = .ok (.aload_n 0, 1)) rfl)
set_option maxRecDepth 16384 in
theorem vi_64_19 (l : Launch) : ve_OK vs_A l 59 (ve_HI vs_A l 59 vs_M) (ve_CB vs_A l 59 (ve_HI vs_A l 59 vs_M) vs_M) "java/lang/AbstractStringBuilder" prog_13_method_13_code 2 none "setLength" 19 (ve_gf 22 3) := ve_getf_ok (k := 3) (by decide +kernel : decode prog_13_method_13_code 19 = .ok (.getfield 79, 3)) vw_239 vf_142
set_option maxRecDepth 16384 in
theorem vi_64_22 (l : Launch) : ve_OK vs_A l 59 (ve_HI vs_A l 59 vs_M) (ve_CB vs_A l 59 (ve_HI vs_A l 59 vs_M) vs_M) "java/lang/AbstractStringBuilder" prog_13_method_13_code 2 none "setLength" 22 (ve_pu (ve_il 23 1)) := ve_pu_ok (ve_iload_n_ok (k := 1) (i := 1) (by decide +kernel : decode prog_13_method_13_code 22 = .ok (.iload_n 1, 1)) rfl)
set_option maxRecDepth 16384 in
theorem vi_64_23 (l : Launch) : ve_OK vs_A l 59 (ve_HI vs_A l 59 vs_M) (ve_CB vs_A l 59 (ve_HI vs_A l 59 vs_M) vs_M) "java/lang/AbstractStringBuilder" prog_13_method_13_code 2 none "setLength" 23 (ve_pu (ve_br2 (fun x y => decide (¬ x < y)) 63 26)) := ve_pu_ok (ve_icmp_ge_ok (by decide +kernel : decode prog_13_method_13_code 23 = .ok (.if_icmp .ge (40), 3)) (by decide +kernel))
set_option maxRecDepth 16384 in
theorem vi_64_63 (l : Launch) : ve_OK vs_A l 59 (ve_HI vs_A l 59 vs_M) (ve_CB vs_A l 59 (ve_HI vs_A l 59 vs_M) vs_M) "java/lang/AbstractStringBuilder" prog_13_method_13_code 2 none "setLength" 63 (ve_pu (ve_al 64 0)) := ve_pu_ok (ve_aload_n_ok (k := 0) (i := 0) (by decide +kernel : decode prog_13_method_13_code 63 = .ok (.aload_n 0, 1)) rfl)
set_option maxRecDepth 16384 in
theorem vi_64_64 (l : Launch) : ve_OK vs_A l 59 (ve_HI vs_A l 59 vs_M) (ve_CB vs_A l 59 (ve_HI vs_A l 59 vs_M) vs_M) "java/lang/AbstractStringBuilder" prog_13_method_13_code 2 none "setLength" 64 (ve_gf 67 3) := ve_getf_ok (k := 3) (by decide +kernel : decode prog_13_method_13_code 64 = .ok (.getfield 79, 3)) vw_239 vf_142
set_option maxRecDepth 16384 in
theorem vi_64_67 (l : Launch) : ve_OK vs_A l 59 (ve_HI vs_A l 59 vs_M) (ve_CB vs_A l 59 (ve_HI vs_A l 59 vs_M) vs_M) "java/lang/AbstractStringBuilder" prog_13_method_13_code 2 none "setLength" 67 (ve_pu (ve_il 68 1)) := ve_pu_ok (ve_iload_n_ok (k := 1) (i := 1) (by decide +kernel : decode prog_13_method_13_code 67 = .ok (.iload_n 1, 1)) rfl)
set_option maxRecDepth 16384 in
theorem vi_64_68 (l : Launch) : ve_OK vs_A l 59 (ve_HI vs_A l 59 vs_M) (ve_CB vs_A l 59 (ve_HI vs_A l 59 vs_M) vs_M) "java/lang/AbstractStringBuilder" prog_13_method_13_code 2 none "setLength" 68 (ve_pu (ve_br2 (fun x y => decide (¬ y < x)) 76 71)) := ve_pu_ok (ve_icmp_le_ok (by decide +kernel : decode prog_13_method_13_code 68 = .ok (.if_icmp .le (8), 3)) (by decide +kernel))
set_option maxRecDepth 16384 in
theorem vi_64_71 (l : Launch) : ve_OK vs_A l 59 (ve_HI vs_A l 59 vs_M) (ve_CB vs_A l 59 (ve_HI vs_A l 59 vs_M) vs_M) "java/lang/AbstractStringBuilder" prog_13_method_13_code 2 none "setLength" 71 (ve_pu (ve_al 72 0)) := ve_pu_ok (ve_aload_n_ok (k := 0) (i := 0) (by decide +kernel : decode prog_13_method_13_code 71 = .ok (.aload_n 0, 1)) rfl)
set_option maxRecDepth 16384 in
theorem vi_64_72 (l : Launch) : ve_OK vs_A l 59 (ve_HI vs_A l 59 vs_M) (ve_CB vs_A l 59 (ve_HI vs_A l 59 vs_M) vs_M) "java/lang/AbstractStringBuilder" prog_13_method_13_code 2 none "setLength" 72 (ve_pu (ve_push 73 (.int (1)))) := ve_pu_ok (ve_iconst_ok (n := 1) (v := 1) (by decide +kernel : decode prog_13_method_13_code 72 = .ok (.iconst (1), 1)) rfl)
set_option maxRecDepth 16384 in
theorem vi_64_73 (l : Launch) : ve_OK vs_A l 59 (ve_HI vs_A l 59 vs_M) (ve_CB vs_A l 59 (ve_HI vs_A l 59 vs_M) vs_M) "java/lang/AbstractStringBuilder" prog_13_method_13_code 2 none "setLength" 73 (ve_pf 76 2 [36] .boolean) := ve_putf_ok (by decide +kernel : decode prog_13_method_13_code 73 = .ok (.putfield 73, 3)) vw_416 vf_207 vf_206
set_option maxRecDepth 16384 in
theorem vi_64_76 (l : Launch) : ve_OK vs_A l 59 (ve_HI vs_A l 59 vs_M) (ve_CB vs_A l 59 (ve_HI vs_A l 59 vs_M) vs_M) "java/lang/AbstractStringBuilder" prog_13_method_13_code 2 none "setLength" 76 (ve_pu (ve_al 77 0)) := ve_pu_ok (ve_aload_n_ok (k := 0) (i := 0) (by decide +kernel : decode prog_13_method_13_code 76 = .ok (.aload_n 0, 1)) rfl)
set_option maxRecDepth 16384 in
theorem vi_64_77 (l : Launch) : ve_OK vs_A l 59 (ve_HI vs_A l 59 vs_M) (ve_CB vs_A l 59 (ve_HI vs_A l 59 vs_M) vs_M) "java/lang/AbstractStringBuilder" prog_13_method_13_code 2 none "setLength" 77 (ve_pu (ve_il 78 1)) := ve_pu_ok (ve_iload_n_ok (k := 1) (i := 1) (by decide +kernel : decode prog_13_method_13_code 77 = .ok (.iload_n 1, 1)) rfl)
set_option maxRecDepth 16384 in
theorem vi_64_78 (l : Launch) : ve_OK vs_A l 59 (ve_HI vs_A l 59 vs_M) (ve_CB vs_A l 59 (ve_HI vs_A l 59 vs_M) vs_M) "java/lang/AbstractStringBuilder" prog_13_method_13_code 2 none "setLength" 78 (ve_pf 81 3 [36] .int) := ve_putf_ok (by decide +kernel : decode prog_13_method_13_code 78 = .ok (.putfield 79, 3)) vw_239 vf_149 vf_148
set_option maxRecDepth 16384 in
theorem vi_64_81 (l : Launch) : ve_OK vs_A l 59 (ve_HI vs_A l 59 vs_M) (ve_CB vs_A l 59 (ve_HI vs_A l 59 vs_M) vs_M) "java/lang/AbstractStringBuilder" prog_13_method_13_code 2 none "setLength" 81 (ve_rt 0 .int) := ve_vret_ok (by decide +kernel : decode prog_13_method_13_code 81 = .ok (.return_, 1)) rfl
set_option maxRecDepth 16384 in
theorem vi_65_0 (l : Launch) : ve_OK vs_A l 59 (ve_HI vs_A l 59 vs_M) (ve_CB vs_A l 59 (ve_HI vs_A l 59 vs_M) vs_M) "Orderbench" prog_1_method_50_code 3 none "writeRow" 0 (ve_pu (ve_push 1 (.int (0)))) := ve_pu_ok (ve_iconst_ok (n := 0) (v := 0) (by decide +kernel : decode prog_1_method_50_code 0 = .ok (.iconst (0), 1)) rfl)
set_option maxRecDepth 16384 in
theorem vi_65_1 (l : Launch) : ve_OK vs_A l 59 (ve_HI vs_A l 59 vs_M) (ve_CB vs_A l 59 (ve_HI vs_A l 59 vs_M) vs_M) "Orderbench" prog_1_method_50_code 3 none "writeRow" 1 (ve_pu (ve_is 2 2 3)) := ve_pu_ok (ve_istore_n_ok (k := 2) (i := 2) (by decide +kernel : decode prog_1_method_50_code 1 = .ok (.istore_n 2, 1)) rfl)
set_option maxRecDepth 16384 in
theorem vi_65_2 (l : Launch) : ve_OK vs_A l 59 (ve_HI vs_A l 59 vs_M) (ve_CB vs_A l 59 (ve_HI vs_A l 59 vs_M) vs_M) "Orderbench" prog_1_method_50_code 3 none "writeRow" 2 (ve_pu (ve_il 3 2)) := ve_pu_ok (ve_iload_n_ok (k := 2) (i := 2) (by decide +kernel : decode prog_1_method_50_code 2 = .ok (.iload_n 2, 1)) rfl)
set_option maxRecDepth 16384 in
theorem vi_65_3 (l : Launch) : ve_OK vs_A l 59 (ve_HI vs_A l 59 vs_M) (ve_CB vs_A l 59 (ve_HI vs_A l 59 vs_M) vs_M) "Orderbench" prog_1_method_50_code 3 none "writeRow" 3 (ve_pu (ve_al 4 1)) := ve_pu_ok (ve_aload_n_ok (k := 1) (i := 1) (by decide +kernel : decode prog_1_method_50_code 3 = .ok (.aload_n 1, 1)) rfl)
set_option maxRecDepth 16384 in
theorem vi_65_4 (l : Launch) : ve_OK vs_A l 59 (ve_HI vs_A l 59 vs_M) (ve_CB vs_A l 59 (ve_HI vs_A l 59 vs_M) vs_M) "Orderbench" prog_1_method_50_code 3 none "writeRow" 4 (ve_gf 7 1) := ve_getfN_ok (k := 1) (by decide +kernel : decode prog_1_method_50_code 4 = .ok (.getfield 64, 3)) vw_367 vf_190
set_option maxRecDepth 16384 in
theorem vi_65_7 (l : Launch) : ve_OK vs_A l 59 (ve_HI vs_A l 59 vs_M) (ve_CB vs_A l 59 (ve_HI vs_A l 59 vs_M) vs_M) "Orderbench" prog_1_method_50_code 3 none "writeRow" 7 (ve_pu (ve_br2 (fun x y => decide (¬ x < y)) 39 10)) := ve_pu_ok (ve_icmp_ge_ok (by decide +kernel : decode prog_1_method_50_code 7 = .ok (.if_icmp .ge (32), 3)) (by decide +kernel))
set_option maxRecDepth 16384 in
theorem vi_65_39 (l : Launch) : ve_OK vs_A l 59 (ve_HI vs_A l 59 vs_M) (ve_CB vs_A l 59 (ve_HI vs_A l 59 vs_M) vs_M) "Orderbench" prog_1_method_50_code 3 none "writeRow" 39 (ve_rt 0 .int) := ve_vret_ok (by decide +kernel : decode prog_1_method_50_code 39 = .ok (.return_, 1)) rfl
set_option maxRecDepth 16384 in
theorem vi_66_0 (l : Launch) : ve_OK vs_A l 59 (ve_HI vs_A l 59 vs_M) (ve_CB vs_A l 59 (ve_HI vs_A l 59 vs_M) vs_M) "Orderbench" prog_1_method_71_code 6 (some .long) "digestSigns" 0 (ve_pu (ve_ll 1 1)) := ve_pu_ok (ve_lload_n_ok (k := 1) (i := 1) (by decide +kernel : decode prog_1_method_71_code 0 = .ok (.lload_n 1, 1)) rfl)
set_option maxRecDepth 16384 in
theorem vi_66_1 (l : Launch) : ve_OK vs_A l 59 (ve_HI vs_A l 59 vs_M) (ve_CB vs_A l 59 (ve_HI vs_A l 59 vs_M) vs_M) "Orderbench" prog_1_method_71_code 6 (some .long) "digestSigns" 1 (ve_pu (ve_ls 2 3 6)) := ve_pu_ok (ve_lstore_n_ok (k := 3) (i := 3) (by decide +kernel : decode prog_1_method_71_code 1 = .ok (.lstore_n 3, 1)) rfl)
set_option maxRecDepth 16384 in
theorem vi_66_2 (l : Launch) : ve_OK vs_A l 59 (ve_HI vs_A l 59 vs_M) (ve_CB vs_A l 59 (ve_HI vs_A l 59 vs_M) vs_M) "Orderbench" prog_1_method_71_code 6 (some .long) "digestSigns" 2 (ve_pu (ve_push 3 (.int (0)))) := ve_pu_ok (ve_iconst_ok (n := 0) (v := 0) (by decide +kernel : decode prog_1_method_71_code 2 = .ok (.iconst (0), 1)) rfl)
set_option maxRecDepth 16384 in
theorem vi_66_3 (l : Launch) : ve_OK vs_A l 59 (ve_HI vs_A l 59 vs_M) (ve_CB vs_A l 59 (ve_HI vs_A l 59 vs_M) vs_M) "Orderbench" prog_1_method_71_code 6 (some .long) "digestSigns" 3 (ve_pu (ve_is 5 5 6)) := ve_pu_ok (ve_istore_ok (by decide +kernel : decode prog_1_method_71_code 3 = .ok (.istore 5, 2)))
set_option maxRecDepth 16384 in
theorem vi_66_5 (l : Launch) : ve_OK vs_A l 59 (ve_HI vs_A l 59 vs_M) (ve_CB vs_A l 59 (ve_HI vs_A l 59 vs_M) vs_M) "Orderbench" prog_1_method_71_code 6 (some .long) "digestSigns" 5 (ve_pu (ve_il 7 5)) := ve_pu_ok (ve_iload_ok (by decide +kernel : decode prog_1_method_71_code 5 = .ok (.iload 5, 2)))
set_option maxRecDepth 16384 in
theorem vi_66_7 (l : Launch) : ve_OK vs_A l 59 (ve_HI vs_A l 59 vs_M) (ve_CB vs_A l 59 (ve_HI vs_A l 59 vs_M) vs_M) "Orderbench" prog_1_method_71_code 6 (some .long) "digestSigns" 7 (ve_pu (ve_al 8 0)) := ve_pu_ok (ve_aload_n_ok (k := 0) (i := 0) (by decide +kernel : decode prog_1_method_71_code 7 = .ok (.aload_n 0, 1)) rfl)
set_option maxRecDepth 16384 in
theorem vi_66_8 (l : Launch) : ve_OK vs_A l 59 (ve_HI vs_A l 59 vs_M) (ve_CB vs_A l 59 (ve_HI vs_A l 59 vs_M) vs_M) "Orderbench" prog_1_method_71_code 6 (some .long) "digestSigns" 8 (ve_gf 11 5) := ve_getf_ok (k := 5) (by decide +kernel : decode prog_1_method_71_code 8 = .ok (.getfield 41, 3)) vw_67 vf_197
set_option maxRecDepth 16384 in
theorem vi_66_11 (l : Launch) : ve_OK vs_A l 59 (ve_HI vs_A l 59 vs_M) (ve_CB vs_A l 59 (ve_HI vs_A l 59 vs_M) vs_M) "Orderbench" prog_1_method_71_code 6 (some .long) "digestSigns" 11 (ve_cw 59 1 14 [(36, 47)]) := ve_cw_ok rfl (List.forall_mem_cons.mpr ⟨ve_rowU (md := vs_M) (A0 := vs_A) (mi := 47) (na := 0) (k := 36) (C := "java/lang/StringBuilder") (owner := "java/lang/StringBuilder") (x := ⟨"java/lang/StringBuilder", "length", "()I"⟩) (by decide +kernel : decode prog_1_method_71_code 11 = .ok (.invokevirtual 307, 3)) (by decide) vw_417 vw_310 vw_63 vw_311 rfl vw_418 vw_419 vf_208 ⟨by decide, by decide⟩ vf_36 vf_126, List.forall_mem_nil _⟩)
set_option maxRecDepth 16384 in
theorem vi_66_14 (l : Launch) : ve_OK vs_A l 59 (ve_HI vs_A l 59 vs_M) (ve_CB vs_A l 59 (ve_HI vs_A l 59 vs_M) vs_M) "Orderbench" prog_1_method_71_code 6 (some .long) "digestSigns" 14 (ve_pu (ve_br2 (fun x y => decide (¬ x < y)) 40 17)) := ve_pu_ok (ve_icmp_ge_ok (by decide +kernel : decode prog_1_method_71_code 14 = .ok (.if_icmp .ge (26), 3)) (by decide +kernel))
set_option maxRecDepth 16384 in
theorem vi_66_17 (l : Launch) : ve_OK vs_A l 59 (ve_HI vs_A l 59 vs_M) (ve_CB vs_A l 59 (ve_HI vs_A l 59 vs_M) vs_M) "Orderbench" prog_1_method_71_code 6 (some .long) "digestSigns" 17 (ve_pu (ve_ll 18 3)) := ve_pu_ok (ve_lload_n_ok (k := 3) (i := 3) (by decide +kernel : decode prog_1_method_71_code 17 = .ok (.lload_n 3, 1)) rfl)
set_option maxRecDepth 16384 in
theorem vi_66_18 (l : Launch) : ve_OK vs_A l 59 (ve_HI vs_A l 59 vs_M) (ve_CB vs_A l 59 (ve_HI vs_A l 59 vs_M) vs_M) "Orderbench" prog_1_method_71_code 6 (some .long) "digestSigns" 18 (ve_pu (ve_push 21 (.long (31)))) := ve_cu_ok (ve_ldc2_ok (v := 31) (by decide +kernel : decode prog_1_method_71_code 18 = .ok (.ldc2_w 228, 3)) vw_346)
set_option maxRecDepth 16384 in
theorem vi_66_21 (l : Launch) : ve_OK vs_A l 59 (ve_HI vs_A l 59 vs_M) (ve_CB vs_A l 59 (ve_HI vs_A l 59 vs_M) vs_M) "Orderbench" prog_1_method_71_code 6 (some .long) "digestSigns" 21 (ve_pu (ve_lmul 22)) := ve_pu_ok (ve_lmul_ok (by decide +kernel : decode prog_1_method_71_code 21 = .ok (.lmul, 1)))
set_option maxRecDepth 16384 in
theorem vi_66_22 (l : Launch) : ve_OK vs_A l 59 (ve_HI vs_A l 59 vs_M) (ve_CB vs_A l 59 (ve_HI vs_A l 59 vs_M) vs_M) "Orderbench" prog_1_method_71_code 6 (some .long) "digestSigns" 22 (ve_pu (ve_al 23 0)) := ve_pu_ok (ve_aload_n_ok (k := 0) (i := 0) (by decide +kernel : decode prog_1_method_71_code 22 = .ok (.aload_n 0, 1)) rfl)
set_option maxRecDepth 16384 in
theorem vi_66_23 (l : Launch) : ve_OK vs_A l 59 (ve_HI vs_A l 59 vs_M) (ve_CB vs_A l 59 (ve_HI vs_A l 59 vs_M) vs_M) "Orderbench" prog_1_method_71_code 6 (some .long) "digestSigns" 23 (ve_gf 26 5) := ve_getf_ok (k := 5) (by decide +kernel : decode prog_1_method_71_code 23 = .ok (.getfield 41, 3)) vw_67 vf_197
set_option maxRecDepth 16384 in
theorem vi_66_26 (l : Launch) : ve_OK vs_A l 59 (ve_HI vs_A l 59 vs_M) (ve_CB vs_A l 59 (ve_HI vs_A l 59 vs_M) vs_M) "Orderbench" prog_1_method_71_code 6 (some .long) "digestSigns" 26 (ve_pu (ve_il 28 5)) := ve_pu_ok (ve_iload_ok (by decide +kernel : decode prog_1_method_71_code 26 = .ok (.iload 5, 2)))
set_option maxRecDepth 16384 in
theorem vi_66_28 (l : Launch) : ve_OK vs_A l 59 (ve_HI vs_A l 59 vs_M) (ve_CB vs_A l 59 (ve_HI vs_A l 59 vs_M) vs_M) "Orderbench" prog_1_method_71_code 6 (some .long) "digestSigns" 28 (ve_cw 59 2 31 [(36, 81)]) := ve_cw_ok rfl (List.forall_mem_cons.mpr ⟨ve_rowU (md := vs_M) (A0 := vs_A) (mi := 81) (na := 1) (k := 36) (C := "java/lang/StringBuilder") (owner := "java/lang/StringBuilder") (x := ⟨"java/lang/StringBuilder", "charAt", "(I)C"⟩) (by decide +kernel : decode prog_1_method_71_code 28 = .ok (.invokevirtual 308, 3)) (by decide) vw_422 vw_420 vw_63 vw_421 rfl vw_423 vw_424 vf_210 ⟨by decide, by decide⟩ vf_36 vf_209, List.forall_mem_nil _⟩)
set_option maxRecDepth 16384 in
theorem vi_66_31 (l : Launch) : ve_OK vs_A l 59 (ve_HI vs_A l 59 vs_M) (ve_CB vs_A l 59 (ve_HI vs_A l 59 vs_M) vs_M) "Orderbench" prog_1_method_71_code 6 (some .long) "digestSigns" 31 (ve_pu (ve_i2l 32)) := ve_pu_ok (ve_i2l_ok (by decide +kernel : decode prog_1_method_71_code 31 = .ok (.i2l, 1)))
set_option maxRecDepth 16384 in
theorem vi_66_32 (l : Launch) : ve_OK vs_A l 59 (ve_HI vs_A l 59 vs_M) (ve_CB vs_A l 59 (ve_HI vs_A l 59 vs_M) vs_M) "Orderbench" prog_1_method_71_code 6 (some .long) "digestSigns" 32 (ve_pu (ve_ladd 33)) := ve_pu_ok (ve_ladd_ok (by decide +kernel : decode prog_1_method_71_code 32 = .ok (.ladd, 1)))
set_option maxRecDepth 16384 in
theorem vi_66_33 (l : Launch) : ve_OK vs_A l 59 (ve_HI vs_A l 59 vs_M) (ve_CB vs_A l 59 (ve_HI vs_A l 59 vs_M) vs_M) "Orderbench" prog_1_method_71_code 6 (some .long) "digestSigns" 33 (ve_pu (ve_ls 34 3 6)) := ve_pu_ok (ve_lstore_n_ok (k := 3) (i := 3) (by decide +kernel : decode prog_1_method_71_code 33 = .ok (.lstore_n 3, 1)) rfl)
set_option maxRecDepth 16384 in
theorem vi_66_34 (l : Launch) : ve_OK vs_A l 59 (ve_HI vs_A l 59 vs_M) (ve_CB vs_A l 59 (ve_HI vs_A l 59 vs_M) vs_M) "Orderbench" prog_1_method_71_code 6 (some .long) "digestSigns" 34 (ve_pu (ve_ii 37 5 6 (1))) := ve_pu_ok (ve_iinc_ok (by decide +kernel : decode prog_1_method_71_code 34 = .ok (.iinc 5 (1), 3)))
set_option maxRecDepth 16384 in
theorem vi_66_37 (l : Launch) : ve_OK vs_A l 59 (ve_HI vs_A l 59 vs_M) (ve_CB vs_A l 59 (ve_HI vs_A l 59 vs_M) vs_M) "Orderbench" prog_1_method_71_code 6 (some .long) "digestSigns" 37 (ve_pu (ve_jmp 5)) := ve_pu_ok (ve_goto_ok (by decide +kernel : decode prog_1_method_71_code 37 = .ok (.goto (-32), 3)) (by decide +kernel))
set_option maxRecDepth 16384 in
theorem vi_66_40 (l : Launch) : ve_OK vs_A l 59 (ve_HI vs_A l 59 vs_M) (ve_CB vs_A l 59 (ve_HI vs_A l 59 vs_M) vs_M) "Orderbench" prog_1_method_71_code 6 (some .long) "digestSigns" 40 (ve_pu (ve_ll 41 3)) := ve_pu_ok (ve_lload_n_ok (k := 3) (i := 3) (by decide +kernel : decode prog_1_method_71_code 40 = .ok (.lload_n 3, 1)) rfl)
set_option maxRecDepth 16384 in
theorem vi_66_41 (l : Launch) : ve_OK vs_A l 59 (ve_HI vs_A l 59 vs_M) (ve_CB vs_A l 59 (ve_HI vs_A l 59 vs_M) vs_M) "Orderbench" prog_1_method_71_code 6 (some .long) "digestSigns" 41 (ve_rt 2 .long) := ve_lret_ok (by decide +kernel : decode prog_1_method_71_code 41 = .ok (.lreturn, 1)) rfl
set_option maxRecDepth 16384 in
theorem vi_67_0 (l : Launch) : ve_OK vs_A l 59 (ve_HI vs_A l 59 vs_M) (ve_CB vs_A l 59 (ve_HI vs_A l 59 vs_M) vs_M) "Orderbench" prog_1_method_59_code 2 (some .boolean) "liesSorted" 0 (ve_pu (ve_al 1 0)) := ve_pu_ok (ve_aload_n_ok (k := 0) (i := 0) (by decide +kernel : decode prog_1_method_59_code 0 = .ok (.aload_n 0, 1)) rfl)
set_option maxRecDepth 16384 in
theorem vi_67_1 (l : Launch) : ve_OK vs_A l 59 (ve_HI vs_A l 59 vs_M) (ve_CB vs_A l 59 (ve_HI vs_A l 59 vs_M) vs_M) "Orderbench" prog_1_method_59_code 2 (some .boolean) "liesSorted" 1 (ve_pu (ve_al 2 1)) := ve_pu_ok (ve_aload_n_ok (k := 1) (i := 1) (by decide +kernel : decode prog_1_method_59_code 1 = .ok (.aload_n 1, 1)) rfl)
set_option maxRecDepth 16384 in
theorem vi_67_2 (l : Launch) : ve_OK vs_A l 59 (ve_HI vs_A l 59 vs_M) (ve_CB vs_A l 59 (ve_HI vs_A l 59 vs_M) vs_M) "Orderbench" prog_1_method_59_code 2 (some .boolean) "liesSorted" 2 (ve_cl 59 68 2 5) := ve_cl_ok (ve_rowS (md := vs_M) (A0 := vs_A) (mi := 68) (by decide +kernel : decode prog_1_method_59_code 2 = .ok (.invokestatic 104, 3)) (by decide) vw_425 vw_426 vw_2 vw_427 rfl ⟨by decide, by decide⟩ vf_203)
set_option maxRecDepth 16384 in
theorem vi_67_5 (l : Launch) : ve_OK vs_A l 59 (ve_HI vs_A l 59 vs_M) (ve_CB vs_A l 59 (ve_HI vs_A l 59 vs_M) vs_M) "Orderbench" prog_1_method_59_code 2 (some .boolean) "liesSorted" 5 (ve_pu (ve_br1 (fun x => decide (x = 0)) 20 8)) := ve_pu_ok (ve_if_eq_ok (by decide +kernel : decode prog_1_method_59_code 5 = .ok (.ifCond .eq (15), 3)) (by decide +kernel))
set_option maxRecDepth 16384 in
theorem vi_67_8 (l : Launch) : ve_OK vs_A l 59 (ve_HI vs_A l 59 vs_M) (ve_CB vs_A l 59 (ve_HI vs_A l 59 vs_M) vs_M) "Orderbench" prog_1_method_59_code 2 (some .boolean) "liesSorted" 8 (ve_pu (ve_al 9 0)) := ve_pu_ok (ve_aload_n_ok (k := 0) (i := 0) (by decide +kernel : decode prog_1_method_59_code 8 = .ok (.aload_n 0, 1)) rfl)
set_option maxRecDepth 16384 in
theorem vi_67_9 (l : Launch) : ve_OK vs_A l 59 (ve_HI vs_A l 59 vs_M) (ve_CB vs_A l 59 (ve_HI vs_A l 59 vs_M) vs_M) "Orderbench" prog_1_method_59_code 2 (some .boolean) "liesSorted" 9 (ve_pu (ve_al 10 1)) := ve_pu_ok (ve_aload_n_ok (k := 1) (i := 1) (by decide +kernel : decode prog_1_method_59_code 9 = .ok (.aload_n 1, 1)) rfl)
set_option maxRecDepth 16384 in
theorem vi_67_10 (l : Launch) : ve_OK vs_A l 59 (ve_HI vs_A l 59 vs_M) (ve_CB vs_A l 59 (ve_HI vs_A l 59 vs_M) vs_M) "Orderbench" prog_1_method_59_code 2 (some .boolean) "liesSorted" 10 (ve_cl 59 69 2 13) := ve_cl_ok (ve_rowS (md := vs_M) (A0 := vs_A) (mi := 69) (by decide +kernel : decode prog_1_method_59_code 10 = .ok (.invokestatic 290, 3)) (by decide) vw_428 vw_429 vw_2 vw_430 rfl ⟨by decide, by decide⟩ vf_203)
set_option maxRecDepth 16384 in
theorem vi_67_13 (l : Launch) : ve_OK vs_A l 59 (ve_HI vs_A l 59 vs_M) (ve_CB vs_A l 59 (ve_HI vs_A l 59 vs_M) vs_M) "Orderbench" prog_1_method_59_code 2 (some .boolean) "liesSorted" 13 (ve_pu (ve_br1 (fun x => decide (x = 0)) 20 16)) := ve_pu_ok (ve_if_eq_ok (by decide +kernel : decode prog_1_method_59_code 13 = .ok (.ifCond .eq (7), 3)) (by decide +kernel))
set_option maxRecDepth 16384 in
theorem vi_67_16 (l : Launch) : ve_OK vs_A l 59 (ve_HI vs_A l 59 vs_M) (ve_CB vs_A l 59 (ve_HI vs_A l 59 vs_M) vs_M) "Orderbench" prog_1_method_59_code 2 (some .boolean) "liesSorted" 16 (ve_pu (ve_push 17 (.int (1)))) := ve_pu_ok (ve_iconst_ok (n := 1) (v := 1) (by decide +kernel : decode prog_1_method_59_code 16 = .ok (.iconst (1), 1)) rfl)
set_option maxRecDepth 16384 in
theorem vi_67_17 (l : Launch) : ve_OK vs_A l 59 (ve_HI vs_A l 59 vs_M) (ve_CB vs_A l 59 (ve_HI vs_A l 59 vs_M) vs_M) "Orderbench" prog_1_method_59_code 2 (some .boolean) "liesSorted" 17 (ve_pu (ve_jmp 21)) := ve_pu_ok (ve_goto_ok (by decide +kernel : decode prog_1_method_59_code 17 = .ok (.goto (4), 3)) (by decide +kernel))
set_option maxRecDepth 16384 in
theorem vi_67_21 (l : Launch) : ve_OK vs_A l 59 (ve_HI vs_A l 59 vs_M) (ve_CB vs_A l 59 (ve_HI vs_A l 59 vs_M) vs_M) "Orderbench" prog_1_method_59_code 2 (some .boolean) "liesSorted" 21 (ve_rt 1 .boolean) := ve_iret_ok (by decide +kernel : decode prog_1_method_59_code 21 = .ok (.ireturn, 1)) rfl
set_option maxRecDepth 16384 in
theorem vi_68_0 (l : Launch) : ve_OK vs_A l 59 (ve_HI vs_A l 59 vs_M) (ve_CB vs_A l 59 (ve_HI vs_A l 59 vs_M) vs_M) "Orderbench" prog_1_method_55_code 2 (some .boolean) "takes" 0 (ve_pu (ve_al 1 0)) := ve_pu_ok (ve_aload_n_ok (k := 0) (i := 0) (by decide +kernel : decode prog_1_method_55_code 0 = .ok (.aload_n 0, 1)) rfl)
set_option maxRecDepth 16384 in
theorem vi_68_1 (l : Launch) : ve_OK vs_A l 59 (ve_HI vs_A l 59 vs_M) (ve_CB vs_A l 59 (ve_HI vs_A l 59 vs_M) vs_M) "Orderbench" prog_1_method_55_code 2 (some .boolean) "takes" 1 (ve_gf 4 1) := ve_getfN_ok (k := 1) (by decide +kernel : decode prog_1_method_55_code 1 = .ok (.getfield 64, 3)) vw_367 vf_190
set_option maxRecDepth 16384 in
theorem vi_68_4 (l : Launch) : ve_OK vs_A l 59 (ve_HI vs_A l 59 vs_M) (ve_CB vs_A l 59 (ve_HI vs_A l 59 vs_M) vs_M) "Orderbench" prog_1_method_55_code 2 (some .boolean) "takes" 4 (ve_pu (ve_push 5 (.int (2)))) := ve_pu_ok (ve_iconst_ok (n := 2) (v := 2) (by decide +kernel : decode prog_1_method_55_code 4 = .ok (.iconst (2), 1)) rfl)
set_option maxRecDepth 16384 in
theorem vi_68_5 (l : Launch) : ve_OK vs_A l 59 (ve_HI vs_A l 59 vs_M) (ve_CB vs_A l 59 (ve_HI vs_A l 59 vs_M) vs_M) "Orderbench" prog_1_method_55_code 2 (some .boolean) "takes" 5 (ve_pu (ve_br2 (fun x y => decide (x < y)) 16 8)) := ve_pu_ok (ve_icmp_lt_ok (by decide +kernel : decode prog_1_method_55_code 5 = .ok (.if_icmp .lt (11), 3)) (by decide +kernel))
set_option maxRecDepth 16384 in
theorem vi_68_16 (l : Launch) : ve_OK vs_A l 59 (ve_HI vs_A l 59 vs_M) (ve_CB vs_A l 59 (ve_HI vs_A l 59 vs_M) vs_M) "Orderbench" prog_1_method_55_code 2 (some .boolean) "takes" 16 (ve_pu (ve_push 17 (.int (1)))) := ve_pu_ok (ve_iconst_ok (n := 1) (v := 1) (by decide +kernel : decode prog_1_method_55_code 16 = .ok (.iconst (1), 1)) rfl)
set_option maxRecDepth 16384 in
theorem vi_68_17 (l : Launch) : ve_OK vs_A l 59 (ve_HI vs_A l 59 vs_M) (ve_CB vs_A l 59 (ve_HI vs_A l 59 vs_M) vs_M) "Orderbench" prog_1_method_55_code 2 (some .boolean) "takes" 17 (ve_pu (ve_jmp 21)) := ve_pu_ok (ve_goto_ok (by decide +kernel : decode prog_1_method_55_code 17 = .ok (.goto (4), 3)) (by decide +kernel))
set_option maxRecDepth 16384 in
theorem vi_68_21 (l : Launch) : ve_OK vs_A l 59 (ve_HI vs_A l 59 vs_M) (ve_CB vs_A l 59 (ve_HI vs_A l 59 vs_M) vs_M) "Orderbench" prog_1_method_55_code 2 (some .boolean) "takes" 21 (ve_rt 1 .boolean) := ve_iret_ok (by decide +kernel : decode prog_1_method_55_code 21 = .ok (.ireturn, 1)) rfl
set_option maxRecDepth 16384 in
theorem vi_69_0 (l : Launch) : ve_OK vs_A l 59 (ve_HI vs_A l 59 vs_M) (ve_CB vs_A l 59 (ve_HI vs_A l 59 vs_M) vs_M) "Orderbench" prog_1_method_60_code 3 (some .boolean) "isAscending" 0 (ve_pu (ve_push 1 (.int (1)))) := ve_pu_ok (ve_iconst_ok (n := 1) (v := 1) (by decide +kernel : decode prog_1_method_60_code 0 = .ok (.iconst (1), 1)) rfl)
set_option maxRecDepth 16384 in
theorem vi_69_1 (l : Launch) : ve_OK vs_A l 59 (ve_HI vs_A l 59 vs_M) (ve_CB vs_A l 59 (ve_HI vs_A l 59 vs_M) vs_M) "Orderbench" prog_1_method_60_code 3 (some .boolean) "isAscending" 1 (ve_pu (ve_is 2 2 3)) := ve_pu_ok (ve_istore_n_ok (k := 2) (i := 2) (by decide +kernel : decode prog_1_method_60_code 1 = .ok (.istore_n 2, 1)) rfl)
set_option maxRecDepth 16384 in
theorem vi_69_2 (l : Launch) : ve_OK vs_A l 59 (ve_HI vs_A l 59 vs_M) (ve_CB vs_A l 59 (ve_HI vs_A l 59 vs_M) vs_M) "Orderbench" prog_1_method_60_code 3 (some .boolean) "isAscending" 2 (ve_pu (ve_il 3 2)) := ve_pu_ok (ve_iload_n_ok (k := 2) (i := 2) (by decide +kernel : decode prog_1_method_60_code 2 = .ok (.iload_n 2, 1)) rfl)
set_option maxRecDepth 16384 in
theorem vi_69_3 (l : Launch) : ve_OK vs_A l 59 (ve_HI vs_A l 59 vs_M) (ve_CB vs_A l 59 (ve_HI vs_A l 59 vs_M) vs_M) "Orderbench" prog_1_method_60_code 3 (some .boolean) "isAscending" 3 (ve_pu (ve_al 4 0)) := ve_pu_ok (ve_aload_n_ok (k := 0) (i := 0) (by decide +kernel : decode prog_1_method_60_code 3 = .ok (.aload_n 0, 1)) rfl)
set_option maxRecDepth 16384 in
theorem vi_69_4 (l : Launch) : ve_OK vs_A l 59 (ve_HI vs_A l 59 vs_M) (ve_CB vs_A l 59 (ve_HI vs_A l 59 vs_M) vs_M) "Orderbench" prog_1_method_60_code 3 (some .boolean) "isAscending" 4 (ve_gf 7 1) := ve_getfN_ok (k := 1) (by decide +kernel : decode prog_1_method_60_code 4 = .ok (.getfield 64, 3)) vw_367 vf_190
set_option maxRecDepth 16384 in
theorem vi_69_7 (l : Launch) : ve_OK vs_A l 59 (ve_HI vs_A l 59 vs_M) (ve_CB vs_A l 59 (ve_HI vs_A l 59 vs_M) vs_M) "Orderbench" prog_1_method_60_code 3 (some .boolean) "isAscending" 7 (ve_pu (ve_br2 (fun x y => decide (¬ x < y)) 38 10)) := ve_pu_ok (ve_icmp_ge_ok (by decide +kernel : decode prog_1_method_60_code 7 = .ok (.if_icmp .ge (31), 3)) (by decide +kernel))
set_option maxRecDepth 16384 in
theorem vi_69_38 (l : Launch) : ve_OK vs_A l 59 (ve_HI vs_A l 59 vs_M) (ve_CB vs_A l 59 (ve_HI vs_A l 59 vs_M) vs_M) "Orderbench" prog_1_method_60_code 3 (some .boolean) "isAscending" 38 (ve_pu (ve_push 39 (.int (1)))) := ve_pu_ok (ve_iconst_ok (n := 1) (v := 1) (by decide +kernel : decode prog_1_method_60_code 38 = .ok (.iconst (1), 1)) rfl)
set_option maxRecDepth 16384 in
theorem vi_69_39 (l : Launch) : ve_OK vs_A l 59 (ve_HI vs_A l 59 vs_M) (ve_CB vs_A l 59 (ve_HI vs_A l 59 vs_M) vs_M) "Orderbench" prog_1_method_60_code 3 (some .boolean) "isAscending" 39 (ve_rt 1 .boolean) := ve_iret_ok (by decide +kernel : decode prog_1_method_60_code 39 = .ok (.ireturn, 1)) rfl
set_option maxRecDepth 16384 in
theorem vi_70_0 (l : Launch) : ve_OK vs_A l 59 (ve_HI vs_A l 59 vs_M) (ve_CB vs_A l 59 (ve_HI vs_A l 59 vs_M) vs_M) "Orderbench" prog_1_method_63_code 4 (some .int) "classesOf" 0 (ve_pu (ve_al 1 0)) := ve_pu_ok (ve_aload_n_ok (k := 0) (i := 0) (by decide +kernel : decode prog_1_method_63_code 0 = .ok (.aload_n 0, 1)) rfl)
set_option maxRecDepth 16384 in
theorem vi_70_1 (l : Launch) : ve_OK vs_A l 59 (ve_HI vs_A l 59 vs_M) (ve_CB vs_A l 59 (ve_HI vs_A l 59 vs_M) vs_M) "Orderbench" prog_1_method_63_code 4 (some .int) "classesOf" 1 (ve_pu (ve_al 2 1)) := ve_pu_ok (ve_aload_n_ok (k := 1) (i := 1) (by decide +kernel : decode prog_1_method_63_code 1 = .ok (.aload_n 1, 1)) rfl)
set_option maxRecDepth 16384 in
theorem vi_70_2 (l : Launch) : ve_OK vs_A l 59 (ve_HI vs_A l 59 vs_M) (ve_CB vs_A l 59 (ve_HI vs_A l 59 vs_M) vs_M) "Orderbench" prog_1_method_63_code 4 (some .int) "classesOf" 2 (ve_cl 59 71 2 5) := ve_cl_ok (ve_rowS (md := vs_M) (A0 := vs_A) (mi := 71) (by decide +kernel : decode prog_1_method_63_code 2 = .ok (.invokestatic 212, 3)) (by decide) vw_431 vw_432 vw_2 vw_433 rfl ⟨by decide, by decide⟩ vf_203)
set_option maxRecDepth 16384 in
theorem vi_70_5 (l : Launch) : ve_OK vs_A l 59 (ve_HI vs_A l 59 vs_M) (ve_CB vs_A l 59 (ve_HI vs_A l 59 vs_M) vs_M) "Orderbench" prog_1_method_63_code 4 (some .int) "classesOf" 5 (ve_pu (ve_br1 (fun x => decide (¬ x = 0)) 11 8)) := ve_pu_ok (ve_if_ne_ok (by decide +kernel : decode prog_1_method_63_code 5 = .ok (.ifCond .ne (6), 3)) (by decide +kernel))
set_option maxRecDepth 16384 in
theorem vi_70_11 (l : Launch) : ve_OK vs_A l 59 (ve_HI vs_A l 59 vs_M) (ve_CB vs_A l 59 (ve_HI vs_A l 59 vs_M) vs_M) "Orderbench" prog_1_method_63_code 4 (some .int) "classesOf" 11 (ve_pu (ve_push 12 (.int (0)))) := ve_pu_ok (ve_iconst_ok (n := 0) (v := 0) (by decide +kernel : decode prog_1_method_63_code 11 = .ok (.iconst (0), 1)) rfl)
set_option maxRecDepth 16384 in
theorem vi_70_12 (l : Launch) : ve_OK vs_A l 59 (ve_HI vs_A l 59 vs_M) (ve_CB vs_A l 59 (ve_HI vs_A l 59 vs_M) vs_M) "Orderbench" prog_1_method_63_code 4 (some .int) "classesOf" 12 (ve_pu (ve_is 13 2 4)) := ve_pu_ok (ve_istore_n_ok (k := 2) (i := 2) (by decide +kernel : decode prog_1_method_63_code 12 = .ok (.istore_n 2, 1)) rfl)
set_option maxRecDepth 16384 in
theorem vi_70_13 (l : Launch) : ve_OK vs_A l 59 (ve_HI vs_A l 59 vs_M) (ve_CB vs_A l 59 (ve_HI vs_A l 59 vs_M) vs_M) "Orderbench" prog_1_method_63_code 4 (some .int) "classesOf" 13 (ve_pu (ve_push 14 (.int (0)))) := ve_pu_ok (ve_iconst_ok (n := 0) (v := 0) (by decide +kernel : decode prog_1_method_63_code 13 = .ok (.iconst (0), 1)) rfl)
set_option maxRecDepth 16384 in
theorem vi_70_14 (l : Launch) : ve_OK vs_A l 59 (ve_HI vs_A l 59 vs_M) (ve_CB vs_A l 59 (ve_HI vs_A l 59 vs_M) vs_M) "Orderbench" prog_1_method_63_code 4 (some .int) "classesOf" 14 (ve_pu (ve_is 15 3 4)) := ve_pu_ok (ve_istore_n_ok (k := 3) (i := 3) (by decide +kernel : decode prog_1_method_63_code 14 = .ok (.istore_n 3, 1)) rfl)
set_option maxRecDepth 16384 in
theorem vi_70_15 (l : Launch) : ve_OK vs_A l 59 (ve_HI vs_A l 59 vs_M) (ve_CB vs_A l 59 (ve_HI vs_A l 59 vs_M) vs_M) "Orderbench" prog_1_method_63_code 4 (some .int) "classesOf" 15 (ve_pu (ve_il 16 3)) := ve_pu_ok (ve_iload_n_ok (k := 3) (i := 3) (by decide +kernel : decode prog_1_method_63_code 15 = .ok (.iload_n 3, 1)) rfl)
set_option maxRecDepth 16384 in
theorem vi_70_16 (l : Launch) : ve_OK vs_A l 59 (ve_HI vs_A l 59 vs_M) (ve_CB vs_A l 59 (ve_HI vs_A l 59 vs_M) vs_M) "Orderbench" prog_1_method_63_code 4 (some .int) "classesOf" 16 (ve_pu (ve_al 17 0)) := ve_pu_ok (ve_aload_n_ok (k := 0) (i := 0) (by decide +kernel : decode prog_1_method_63_code 16 = .ok (.aload_n 0, 1)) rfl)
set_option maxRecDepth 16384 in
theorem vi_70_17 (l : Launch) : ve_OK vs_A l 59 (ve_HI vs_A l 59 vs_M) (ve_CB vs_A l 59 (ve_HI vs_A l 59 vs_M) vs_M) "Orderbench" prog_1_method_63_code 4 (some .int) "classesOf" 17 (ve_gf 20 1) := ve_getfN_ok (k := 1) (by decide +kernel : decode prog_1_method_63_code 17 = .ok (.getfield 64, 3)) vw_367 vf_190
set_option maxRecDepth 16384 in
theorem vi_70_20 (l : Launch) : ve_OK vs_A l 59 (ve_HI vs_A l 59 vs_M) (ve_CB vs_A l 59 (ve_HI vs_A l 59 vs_M) vs_M) "Orderbench" prog_1_method_63_code 4 (some .int) "classesOf" 20 (ve_pu (ve_br2 (fun x y => decide (¬ x < y)) 41 23)) := ve_pu_ok (ve_icmp_ge_ok (by decide +kernel : decode prog_1_method_63_code 20 = .ok (.if_icmp .ge (21), 3)) (by decide +kernel))
set_option maxRecDepth 16384 in
theorem vi_70_41 (l : Launch) : ve_OK vs_A l 59 (ve_HI vs_A l 59 vs_M) (ve_CB vs_A l 59 (ve_HI vs_A l 59 vs_M) vs_M) "Orderbench" prog_1_method_63_code 4 (some .int) "classesOf" 41 (ve_pu (ve_il 42 2)) := ve_pu_ok (ve_iload_n_ok (k := 2) (i := 2) (by decide +kernel : decode prog_1_method_63_code 41 = .ok (.iload_n 2, 1)) rfl)
set_option maxRecDepth 16384 in
theorem vi_70_42 (l : Launch) : ve_OK vs_A l 59 (ve_HI vs_A l 59 vs_M) (ve_CB vs_A l 59 (ve_HI vs_A l 59 vs_M) vs_M) "Orderbench" prog_1_method_63_code 4 (some .int) "classesOf" 42 (ve_rt 1 .int) := ve_iret_ok (by decide +kernel : decode prog_1_method_63_code 42 = .ok (.ireturn, 1)) rfl
set_option maxRecDepth 16384 in
theorem vi_71_0 (l : Launch) : ve_OK vs_A l 59 (ve_HI vs_A l 59 vs_M) (ve_CB vs_A l 59 (ve_HI vs_A l 59 vs_M) vs_M) "Orderbench" prog_1_method_54_code 2 (some .boolean) "takesEach" 0 (ve_pu (ve_al 1 1)) := ve_pu_ok (ve_aload_n_ok (k := 1) (i := 1) (by decide +kernel : decode prog_1_method_54_code 0 = .ok (.aload_n 1, 1)) rfl)
set_option maxRecDepth 16384 in
theorem vi_71_1 (l : Launch) : ve_OK vs_A l 59 (ve_HI vs_A l 59 vs_M) (ve_CB vs_A l 59 (ve_HI vs_A l 59 vs_M) vs_M) "Orderbench" prog_1_method_54_code 2 (some .boolean) "takesEach" 1 (ve_gf 4 1) := ve_getf_ok (k := 1) (by decide +kernel : decode prog_1_method_54_code 1 = .ok (.getfield 147, 3)) vw_381 vf_108
set_option maxRecDepth 16384 in
theorem vi_71_4 (l : Launch) : ve_OK vs_A l 59 (ve_HI vs_A l 59 vs_M) (ve_CB vs_A l 59 (ve_HI vs_A l 59 vs_M) vs_M) "Orderbench" prog_1_method_54_code 2 (some .boolean) "takesEach" 4 (ve_pu (ve_br1 (fun x => decide (¬ x = 0)) 14 7)) := ve_pu_ok (ve_if_ne_ok (by decide +kernel : decode prog_1_method_54_code 4 = .ok (.ifCond .ne (10), 3)) (by decide +kernel))
set_option maxRecDepth 16384 in
theorem vi_71_7 (l : Launch) : ve_OK vs_A l 59 (ve_HI vs_A l 59 vs_M) (ve_CB vs_A l 59 (ve_HI vs_A l 59 vs_M) vs_M) "Orderbench" prog_1_method_54_code 2 (some .boolean) "takesEach" 7 (ve_pu (ve_al 8 0)) := ve_pu_ok (ve_aload_n_ok (k := 0) (i := 0) (by decide +kernel : decode prog_1_method_54_code 7 = .ok (.aload_n 0, 1)) rfl)
set_option maxRecDepth 16384 in
theorem vi_71_8 (l : Launch) : ve_OK vs_A l 59 (ve_HI vs_A l 59 vs_M) (ve_CB vs_A l 59 (ve_HI vs_A l 59 vs_M) vs_M) "Orderbench" prog_1_method_54_code 2 (some .boolean) "takesEach" 8 (ve_cw 59 1 11 [(3, 60)]) := ve_cw_ok rfl (List.forall_mem_cons.mpr ⟨ve_rowU (md := vs_M) (A0 := vs_A) (mi := 60) (na := 0) (k := 3) (C := "Orderbench$Row") (owner := "Orderbench$Row") (x := ⟨"Orderbench$Row", "empties", "()I"⟩) (by decide +kernel : decode prog_1_method_54_code 8 = .ok (.invokevirtual 209, 3)) (by decide) vw_378 vw_376 vw_44 vw_377 rfl vw_379 vw_380 vf_195 ⟨by decide, by decide⟩ vf_18 vf_126, List.forall_mem_nil _⟩)
set_option maxRecDepth 16384 in
theorem vi_71_11 (l : Launch) : ve_OK vs_A l 59 (ve_HI vs_A l 59 vs_M) (ve_CB vs_A l 59 (ve_HI vs_A l 59 vs_M) vs_M) "Orderbench" prog_1_method_54_code 2 (some .boolean) "takesEach" 11 (ve_pu (ve_br1 (fun x => decide (¬ x = 0)) 18 14)) := ve_pu_ok (ve_if_ne_ok (by decide +kernel : decode prog_1_method_54_code 11 = .ok (.ifCond .ne (7), 3)) (by decide +kernel))
set_option maxRecDepth 16384 in
theorem vi_71_14 (l : Launch) : ve_OK vs_A l 59 (ve_HI vs_A l 59 vs_M) (ve_CB vs_A l 59 (ve_HI vs_A l 59 vs_M) vs_M) "Orderbench" prog_1_method_54_code 2 (some .boolean) "takesEach" 14 (ve_pu (ve_push 15 (.int (1)))) := ve_pu_ok (ve_iconst_ok (n := 1) (v := 1) (by decide +kernel : decode prog_1_method_54_code 14 = .ok (.iconst (1), 1)) rfl)
set_option maxRecDepth 16384 in
theorem vi_71_15 (l : Launch) : ve_OK vs_A l 59 (ve_HI vs_A l 59 vs_M) (ve_CB vs_A l 59 (ve_HI vs_A l 59 vs_M) vs_M) "Orderbench" prog_1_method_54_code 2 (some .boolean) "takesEach" 15 (ve_pu (ve_jmp 19)) := ve_pu_ok (ve_goto_ok (by decide +kernel : decode prog_1_method_54_code 15 = .ok (.goto (4), 3)) (by decide +kernel))
set_option maxRecDepth 16384 in
theorem vi_71_19 (l : Launch) : ve_OK vs_A l 59 (ve_HI vs_A l 59 vs_M) (ve_CB vs_A l 59 (ve_HI vs_A l 59 vs_M) vs_M) "Orderbench" prog_1_method_54_code 2 (some .boolean) "takesEach" 19 (ve_rt 1 .boolean) := ve_iret_ok (by decide +kernel : decode prog_1_method_54_code 19 = .ok (.ireturn, 1)) rfl
set_option maxRecDepth 16384 in
theorem vi_72_0 (l : Launch) : ve_OK vs_A l 59 (ve_HI vs_A l 59 vs_M) (ve_CB vs_A l 59 (ve_HI vs_A l 59 vs_M) vs_M) "Orderbench" prog_1_method_65_code 5 (some .int) "alikeToFarthest" 0 (ve_pu (ve_al 1 0)) := ve_pu_ok (ve_aload_n_ok (k := 0) (i := 0) (by decide +kernel : decode prog_1_method_65_code 0 = .ok (.aload_n 0, 1)) rfl)
set_option maxRecDepth 16384 in
theorem vi_72_1 (l : Launch) : ve_OK vs_A l 59 (ve_HI vs_A l 59 vs_M) (ve_CB vs_A l 59 (ve_HI vs_A l 59 vs_M) vs_M) "Orderbench" prog_1_method_65_code 5 (some .int) "alikeToFarthest" 1 (ve_gf 4 1) := ve_getfN_ok (k := 1) (by decide +kernel : decode prog_1_method_65_code 1 = .ok (.getfield 64, 3)) vw_367 vf_190
set_option maxRecDepth 16384 in
theorem vi_72_4 (l : Launch) : ve_OK vs_A l 59 (ve_HI vs_A l 59 vs_M) (ve_CB vs_A l 59 (ve_HI vs_A l 59 vs_M) vs_M) "Orderbench" prog_1_method_65_code 5 (some .int) "alikeToFarthest" 4 (ve_pu (ve_br1 (fun x => decide (x = 0)) 15 7)) := ve_pu_ok (ve_if_eq_ok (by decide +kernel : decode prog_1_method_65_code 4 = .ok (.ifCond .eq (11), 3)) (by decide +kernel))
set_option maxRecDepth 16384 in
theorem vi_72_15 (l : Launch) : ve_OK vs_A l 59 (ve_HI vs_A l 59 vs_M) (ve_CB vs_A l 59 (ve_HI vs_A l 59 vs_M) vs_M) "Orderbench" prog_1_method_65_code 5 (some .int) "alikeToFarthest" 15 (ve_pu (ve_push 17 (.int (-9)))) := ve_pu_ok (ve_bipush_ok (n := -9) (v := -9) (by decide +kernel : decode prog_1_method_65_code 15 = .ok (.bipush (-9), 2)) (by decide +kernel))
set_option maxRecDepth 16384 in
theorem vi_72_17 (l : Launch) : ve_OK vs_A l 59 (ve_HI vs_A l 59 vs_M) (ve_CB vs_A l 59 (ve_HI vs_A l 59 vs_M) vs_M) "Orderbench" prog_1_method_65_code 5 (some .int) "alikeToFarthest" 17 (ve_rt 1 .int) := ve_iret_ok (by decide +kernel : decode prog_1_method_65_code 17 = .ok (.ireturn, 1)) rfl
set_option maxRecDepth 16384 in
theorem vi_73_0 (l : Launch) : ve_OK vs_A l 59 (ve_HI vs_A l 59 vs_M) (ve_CB vs_A l 59 (ve_HI vs_A l 59 vs_M) vs_M) "Orderbench" prog_1_method_73_code 4 (some .long) "digestOrder" 0 (ve_pu (ve_al 1 0)) := ve_pu_ok (ve_aload_n_ok (k := 0) (i := 0) (by decide +kernel : decode prog_1_method_73_code 0 = .ok (.aload_n 0, 1)) rfl)
set_option maxRecDepth 16384 in
theorem vi_73_1 (l : Launch) : ve_OK vs_A l 59 (ve_HI vs_A l 59 vs_M) (ve_CB vs_A l 59 (ve_HI vs_A l 59 vs_M) vs_M) "Orderbench" prog_1_method_73_code 4 (some .long) "digestOrder" 1 (ve_gf 4 5) := ve_getf_ok (k := 5) (by decide +kernel : decode prog_1_method_73_code 1 = .ok (.getfield 41, 3)) vw_67 vf_197
set_option maxRecDepth 16384 in
theorem vi_73_4 (l : Launch) : ve_OK vs_A l 59 (ve_HI vs_A l 59 vs_M) (ve_CB vs_A l 59 (ve_HI vs_A l 59 vs_M) vs_M) "Orderbench" prog_1_method_73_code 4 (some .long) "digestOrder" 4 (ve_pu (ve_push 5 (.int (0)))) := ve_pu_ok (ve_iconst_ok (n := 0) (v := 0) (by decide +kernel : decode prog_1_method_73_code 4 = .ok (.iconst (0), 1)) rfl)
set_option maxRecDepth 16384 in
theorem vi_73_5 (l : Launch) : ve_OK vs_A l 59 (ve_HI vs_A l 59 vs_M) (ve_CB vs_A l 59 (ve_HI vs_A l 59 vs_M) vs_M) "Orderbench" prog_1_method_73_code 4 (some .long) "digestOrder" 5 (ve_cw 59 2 8 [(36, 63)]) := ve_cw_ok rfl (List.forall_mem_cons.mpr ⟨ve_rowU (md := vs_M) (A0 := vs_A) (mi := 63) (na := 1) (k := 36) (C := "java/lang/StringBuilder") (owner := "java/lang/StringBuilder") (x := ⟨"java/lang/StringBuilder", "setLength", "(I)V"⟩) (by decide +kernel : decode prog_1_method_73_code 5 = .ok (.invokevirtual 159, 3)) (by decide) vw_390 vw_388 vw_63 vw_389 rfl vw_391 vw_392 vf_198 ⟨by decide, by decide⟩ vf_36 vf_26, List.forall_mem_nil _⟩)
set_option maxRecDepth 16384 in
theorem vi_73_8 (l : Launch) : ve_OK vs_A l 59 (ve_HI vs_A l 59 vs_M) (ve_CB vs_A l 59 (ve_HI vs_A l 59 vs_M) vs_M) "Orderbench" prog_1_method_73_code 4 (some .long) "digestOrder" 8 (ve_pu (ve_al 9 3)) := ve_pu_ok (ve_aload_n_ok (k := 3) (i := 3) (by decide +kernel : decode prog_1_method_73_code 8 = .ok (.aload_n 3, 1)) rfl)
set_option maxRecDepth 16384 in
theorem vi_73_9 (l : Launch) : ve_OK vs_A l 59 (ve_HI vs_A l 59 vs_M) (ve_CB vs_A l 59 (ve_HI vs_A l 59 vs_M) vs_M) "Orderbench" prog_1_method_73_code 4 (some .long) "digestOrder" 9 (ve_pu (ve_al 10 0)) := ve_pu_ok (ve_aload_n_ok (k := 0) (i := 0) (by decide +kernel : decode prog_1_method_73_code 9 = .ok (.aload_n 0, 1)) rfl)
set_option maxRecDepth 16384 in
theorem vi_73_10 (l : Launch) : ve_OK vs_A l 59 (ve_HI vs_A l 59 vs_M) (ve_CB vs_A l 59 (ve_HI vs_A l 59 vs_M) vs_M) "Orderbench" prog_1_method_73_code 4 (some .long) "digestOrder" 10 (ve_gf 13 5) := ve_getf_ok (k := 5) (by decide +kernel : decode prog_1_method_73_code 10 = .ok (.getfield 41, 3)) vw_67 vf_197
set_option maxRecDepth 16384 in
theorem vi_73_13 (l : Launch) : ve_OK vs_A l 59 (ve_HI vs_A l 59 vs_M) (ve_CB vs_A l 59 (ve_HI vs_A l 59 vs_M) vs_M) "Orderbench" prog_1_method_73_code 4 (some .long) "digestOrder" 13 (ve_pu (ve_push 14 (.int (0)))) := ve_pu_ok (ve_iconst_ok (n := 0) (v := 0) (by decide +kernel : decode prog_1_method_73_code 13 = .ok (.iconst (0), 1)) rfl)
set_option maxRecDepth 16384 in
theorem vi_73_14 (l : Launch) : ve_OK vs_A l 59 (ve_HI vs_A l 59 vs_M) (ve_CB vs_A l 59 (ve_HI vs_A l 59 vs_M) vs_M) "Orderbench" prog_1_method_73_code 4 (some .long) "digestOrder" 14 (ve_cw 59 3 17 [(32, 74)]) := ve_cw_ok rfl (List.forall_mem_cons.mpr ⟨ve_rowU (md := vs_M) (A0 := vs_A) (mi := 74) (na := 2) (k := 32) (C := "Orderbench$Turned") (owner := "Orderbench$Shape") (x := ⟨"Orderbench$Shape", "write", "(Ljava/lang/StringBuilder;I)V"⟩) (by decide +kernel : decode prog_1_method_73_code 14 = .ok (.invokevirtual 162, 3)) (by decide) vw_436 vw_434 vw_161 vw_435 rfl vw_437 vw_438 vf_212 ⟨by decide, by decide⟩ vf_101 vf_211, List.forall_mem_nil _⟩)
set_option maxRecDepth 16384 in
theorem vi_73_17 (l : Launch) : ve_OK vs_A l 59 (ve_HI vs_A l 59 vs_M) (ve_CB vs_A l 59 (ve_HI vs_A l 59 vs_M) vs_M) "Orderbench" prog_1_method_73_code 4 (some .long) "digestOrder" 17 (ve_pu (ve_al 18 0)) := ve_pu_ok (ve_aload_n_ok (k := 0) (i := 0) (by decide +kernel : decode prog_1_method_73_code 17 = .ok (.aload_n 0, 1)) rfl)
set_option maxRecDepth 16384 in
theorem vi_73_18 (l : Launch) : ve_OK vs_A l 59 (ve_HI vs_A l 59 vs_M) (ve_CB vs_A l 59 (ve_HI vs_A l 59 vs_M) vs_M) "Orderbench" prog_1_method_73_code 4 (some .long) "digestOrder" 18 (ve_pu (ve_ll 19 1)) := ve_pu_ok (ve_lload_n_ok (k := 1) (i := 1) (by decide +kernel : decode prog_1_method_73_code 18 = .ok (.lload_n 1, 1)) rfl)
set_option maxRecDepth 16384 in
theorem vi_73_19 (l : Launch) : ve_OK vs_A l 59 (ve_HI vs_A l 59 vs_M) (ve_CB vs_A l 59 (ve_HI vs_A l 59 vs_M) vs_M) "Orderbench" prog_1_method_73_code 4 (some .long) "digestOrder" 19 (ve_cw 59 2 22 [(2, 66)]) := ve_cw_ok rfl (List.forall_mem_cons.mpr ⟨ve_rowU (md := vs_M) (A0 := vs_A) (mi := 66) (na := 1) (k := 2) (C := "Orderbench") (owner := "Orderbench") (x := ⟨"Orderbench", "digestSigns", "(J)J"⟩) (by decide +kernel : decode prog_1_method_73_code 19 = .ok (.invokevirtual 312, 3)) (by decide) vw_400 vw_398 vw_2 vw_399 rfl vw_401 vw_402 vf_202 ⟨by decide, by decide⟩ vf_0 vf_201, List.forall_mem_nil _⟩)
set_option maxRecDepth 16384 in
theorem vi_73_22 (l : Launch) : ve_OK vs_A l 59 (ve_HI vs_A l 59 vs_M) (ve_CB vs_A l 59 (ve_HI vs_A l 59 vs_M) vs_M) "Orderbench" prog_1_method_73_code 4 (some .long) "digestOrder" 22 (ve_pu (ve_push 25 (.long (31)))) := ve_cu_ok (ve_ldc2_ok (v := 31) (by decide +kernel : decode prog_1_method_73_code 22 = .ok (.ldc2_w 228, 3)) vw_346)
set_option maxRecDepth 16384 in
theorem vi_73_25 (l : Launch) : ve_OK vs_A l 59 (ve_HI vs_A l 59 vs_M) (ve_CB vs_A l 59 (ve_HI vs_A l 59 vs_M) vs_M) "Orderbench" prog_1_method_73_code 4 (some .long) "digestOrder" 25 (ve_pu (ve_lmul 26)) := ve_pu_ok (ve_lmul_ok (by decide +kernel : decode prog_1_method_73_code 25 = .ok (.lmul, 1)))
set_option maxRecDepth 16384 in
theorem vi_73_26 (l : Launch) : ve_OK vs_A l 59 (ve_HI vs_A l 59 vs_M) (ve_CB vs_A l 59 (ve_HI vs_A l 59 vs_M) vs_M) "Orderbench" prog_1_method_73_code 4 (some .long) "digestOrder" 26 (ve_pu (ve_al 27 3)) := ve_pu_ok (ve_aload_n_ok (k := 3) (i := 3) (by decide +kernel : decode prog_1_method_73_code 26 = .ok (.aload_n 3, 1)) rfl)
set_option maxRecDepth 16384 in
theorem vi_73_27 (l : Launch) : ve_OK vs_A l 59 (ve_HI vs_A l 59 vs_M) (ve_CB vs_A l 59 (ve_HI vs_A l 59 vs_M) vs_M) "Orderbench" prog_1_method_73_code 4 (some .long) "digestOrder" 27 (ve_gf 30 1) := ve_getf_ok (k := 1) (by decide +kernel : decode prog_1_method_73_code 27 = .ok (.getfield 147, 3)) vw_381 vf_108
set_option maxRecDepth 16384 in
theorem vi_73_30 (l : Launch) : ve_OK vs_A l 59 (ve_HI vs_A l 59 vs_M) (ve_CB vs_A l 59 (ve_HI vs_A l 59 vs_M) vs_M) "Orderbench" prog_1_method_73_code 4 (some .long) "digestOrder" 30 (ve_pu (ve_br1 (fun x => decide (x = 0)) 37 33)) := ve_pu_ok (ve_if_eq_ok (by decide +kernel : decode prog_1_method_73_code 30 = .ok (.ifCond .eq (7), 3)) (by decide +kernel))
set_option maxRecDepth 16384 in
theorem vi_73_37 (l : Launch) : ve_OK vs_A l 59 (ve_HI vs_A l 59 vs_M) (ve_CB vs_A l 59 (ve_HI vs_A l 59 vs_M) vs_M) "Orderbench" prog_1_method_73_code 4 (some .long) "digestOrder" 37 (ve_pu (ve_push 38 (.int (0)))) := ve_pu_ok (ve_iconst_ok (n := 0) (v := 0) (by decide +kernel : decode prog_1_method_73_code 37 = .ok (.iconst (0), 1)) rfl)
set_option maxRecDepth 16384 in
theorem vi_73_38 (l : Launch) : ve_OK vs_A l 59 (ve_HI vs_A l 59 vs_M) (ve_CB vs_A l 59 (ve_HI vs_A l 59 vs_M) vs_M) "Orderbench" prog_1_method_73_code 4 (some .long) "digestOrder" 38 (ve_pu (ve_i2l 39)) := ve_pu_ok (ve_i2l_ok (by decide +kernel : decode prog_1_method_73_code 38 = .ok (.i2l, 1)))
set_option maxRecDepth 16384 in
theorem vi_73_39 (l : Launch) : ve_OK vs_A l 59 (ve_HI vs_A l 59 vs_M) (ve_CB vs_A l 59 (ve_HI vs_A l 59 vs_M) vs_M) "Orderbench" prog_1_method_73_code 4 (some .long) "digestOrder" 39 (ve_pu (ve_ladd 40)) := ve_pu_ok (ve_ladd_ok (by decide +kernel : decode prog_1_method_73_code 39 = .ok (.ladd, 1)))
set_option maxRecDepth 16384 in
theorem vi_73_40 (l : Launch) : ve_OK vs_A l 59 (ve_HI vs_A l 59 vs_M) (ve_CB vs_A l 59 (ve_HI vs_A l 59 vs_M) vs_M) "Orderbench" prog_1_method_73_code 4 (some .long) "digestOrder" 40 (ve_rt 2 .long) := ve_lret_ok (by decide +kernel : decode prog_1_method_73_code 40 = .ok (.lreturn, 1)) rfl
set_option maxRecDepth 16384 in
theorem vi_74_0 (l : Launch) : ve_OK vs_A l 59 (ve_HI vs_A l 59 vs_M) (ve_CB vs_A l 59 (ve_HI vs_A l 59 vs_M) vs_M) "Orderbench$Turned" prog_7_method_3_code 3 none "write" 0 (ve_pu (ve_il 1 2)) := ve_pu_ok (ve_iload_n_ok (k := 2) (i := 2) (by decide +kernel : decode prog_7_method_3_code 0 = .ok (.iload_n 2, 1)) rfl)
set_option maxRecDepth 16384 in
theorem vi_74_1 (l : Launch) : ve_OK vs_A l 59 (ve_HI vs_A l 59 vs_M) (ve_CB vs_A l 59 (ve_HI vs_A l 59 vs_M) vs_M) "Orderbench$Turned" prog_7_method_3_code 3 none "write" 1 (ve_pu (ve_push 3 (.int (48)))) := ve_pu_ok (ve_bipush_ok (n := 48) (v := 48) (by decide +kernel : decode prog_7_method_3_code 1 = .ok (.bipush (48), 2)) (by decide +kernel))
set_option maxRecDepth 16384 in
theorem vi_74_3 (l : Launch) : ve_OK vs_A l 59 (ve_HI vs_A l 59 vs_M) (ve_CB vs_A l 59 (ve_HI vs_A l 59 vs_M) vs_M) "Orderbench$Turned" prog_7_method_3_code 3 none "write" 3 (ve_pu (ve_br2 (fun x y => decide (¬ x < y)) 24 6)) := ve_pu_ok (ve_icmp_ge_ok (by decide +kernel : decode prog_7_method_3_code 3 = .ok (.if_icmp .ge (21), 3)) (by decide +kernel))
set_option maxRecDepth 16384 in
theorem vi_74_6 (l : Launch) : ve_OK vs_A l 59 (ve_HI vs_A l 59 vs_M) (ve_CB vs_A l 59 (ve_HI vs_A l 59 vs_M) vs_M) "Orderbench$Turned" prog_7_method_3_code 3 none "write" 6 (ve_pu (ve_al 7 0)) := ve_pu_ok (ve_aload_n_ok (k := 0) (i := 0) (by decide +kernel : decode prog_7_method_3_code 6 = .ok (.aload_n 0, 1)) rfl)
