set_option maxRecDepth 16384 in
theorem vi_59_95 (l : Launch) : ve_OK vs_A l 59 (ve_HI vs_A l 59 vs_M) (ve_CB vs_A l 59 (ve_HI vs_A l 59 vs_M) vs_M) "Orderbench" prog_1_method_69_code 2 (some .int) "houseNumber" 95 (ve_rt 1 .int) := ve_iret_ok (by decide +kernel : decode prog_1_method_69_code 95 = .ok (.ireturn, 1)) rfl
set_option maxRecDepth 16384 in
theorem vi_60_0 (l : Launch) : ve_OK vs_A l 59 (ve_HI vs_A l 59 vs_M) (ve_CB vs_A l 59 (ve_HI vs_A l 59 vs_M) vs_M) "Orderbench" prog_1_method_70_code 3 (some .int) "howManySafe" 0 (ve_pu (ve_push 1 (.int (0)))) := ve_pu_ok (ve_iconst_ok (n := 0) (v := 0) (by decide +kernel : decode prog_1_method_70_code 0 = .ok (.iconst (0), 1)) rfl)
set_option maxRecDepth 16384 in
theorem vi_60_1 (l : Launch) : ve_OK vs_A l 59 (ve_HI vs_A l 59 vs_M) (ve_CB vs_A l 59 (ve_HI vs_A l 59 vs_M) vs_M) "Orderbench" prog_1_method_70_code 3 (some .int) "howManySafe" 1 (ve_pu (ve_is 2 1 3)) := ve_pu_ok (ve_istore_n_ok (k := 1) (i := 1) (by decide +kernel : decode prog_1_method_70_code 1 = .ok (.istore_n 1, 1)) rfl)
set_option maxRecDepth 16384 in
theorem vi_60_2 (l : Launch) : ve_OK vs_A l 59 (ve_HI vs_A l 59 vs_M) (ve_CB vs_A l 59 (ve_HI vs_A l 59 vs_M) vs_M) "Orderbench" prog_1_method_70_code 3 (some .int) "howManySafe" 2 (ve_pu (ve_push 3 (.int (0)))) := ve_pu_ok (ve_iconst_ok (n := 0) (v := 0) (by decide +kernel : decode prog_1_method_70_code 2 = .ok (.iconst (0), 1)) rfl)
set_option maxRecDepth 16384 in
theorem vi_60_3 (l : Launch) : ve_OK vs_A l 59 (ve_HI vs_A l 59 vs_M) (ve_CB vs_A l 59 (ve_HI vs_A l 59 vs_M) vs_M) "Orderbench" prog_1_method_70_code 3 (some .int) "howManySafe" 3 (ve_pu (ve_is 4 2 3)) := ve_pu_ok (ve_istore_n_ok (k := 2) (i := 2) (by decide +kernel : decode prog_1_method_70_code 3 = .ok (.istore_n 2, 1)) rfl)
set_option maxRecDepth 16384 in
theorem vi_60_4 (l : Launch) : ve_OK vs_A l 59 (ve_HI vs_A l 59 vs_M) (ve_CB vs_A l 59 (ve_HI vs_A l 59 vs_M) vs_M) "Orderbench" prog_1_method_70_code 3 (some .int) "howManySafe" 4 (ve_pu (ve_il 5 2)) := ve_pu_ok (ve_iload_n_ok (k := 2) (i := 2) (by decide +kernel : decode prog_1_method_70_code 4 = .ok (.iload_n 2, 1)) rfl)
set_option maxRecDepth 16384 in
theorem vi_60_5 (l : Launch) : ve_OK vs_A l 59 (ve_HI vs_A l 59 vs_M) (ve_CB vs_A l 59 (ve_HI vs_A l 59 vs_M) vs_M) "Orderbench" prog_1_method_70_code 3 (some .int) "howManySafe" 5 (ve_pu (ve_push 7 (.int (10)))) := ve_pu_ok (ve_bipush_ok (n := 10) (v := 10) (by decide +kernel : decode prog_1_method_70_code 5 = .ok (.bipush (10), 2)) (by decide +kernel))
set_option maxRecDepth 16384 in
theorem vi_60_7 (l : Launch) : ve_OK vs_A l 59 (ve_HI vs_A l 59 vs_M) (ve_CB vs_A l 59 (ve_HI vs_A l 59 vs_M) vs_M) "Orderbench" prog_1_method_70_code 3 (some .int) "howManySafe" 7 (ve_pu (ve_br2 (fun x y => decide (¬ x < y)) 31 10)) := ve_pu_ok (ve_icmp_ge_ok (by decide +kernel : decode prog_1_method_70_code 7 = .ok (.if_icmp .ge (24), 3)) (by decide +kernel))
set_option maxRecDepth 16384 in
theorem vi_60_10 (l : Launch) : ve_OK vs_A l 59 (ve_HI vs_A l 59 vs_M) (ve_CB vs_A l 59 (ve_HI vs_A l 59 vs_M) vs_M) "Orderbench" prog_1_method_70_code 3 (some .int) "howManySafe" 10 (ve_pu (ve_al 11 0)) := ve_pu_ok (ve_aload_n_ok (k := 0) (i := 0) (by decide +kernel : decode prog_1_method_70_code 10 = .ok (.aload_n 0, 1)) rfl)
set_option maxRecDepth 16384 in
theorem vi_60_11 (l : Launch) : ve_OK vs_A l 59 (ve_HI vs_A l 59 vs_M) (ve_CB vs_A l 59 (ve_HI vs_A l 59 vs_M) vs_M) "Orderbench" prog_1_method_70_code 3 (some .int) "howManySafe" 11 (ve_gf 14 1) := ve_getf_ok (k := 1) (by decide +kernel : decode prog_1_method_70_code 11 = .ok (.getfield 18, 3)) vw_56 vf_30
set_option maxRecDepth 16384 in
theorem vi_60_14 (l : Launch) : ve_OK vs_A l 59 (ve_HI vs_A l 59 vs_M) (ve_CB vs_A l 59 (ve_HI vs_A l 59 vs_M) vs_M) "Orderbench" prog_1_method_70_code 3 (some .int) "howManySafe" 14 (ve_pu (ve_il 15 2)) := ve_pu_ok (ve_iload_n_ok (k := 2) (i := 2) (by decide +kernel : decode prog_1_method_70_code 14 = .ok (.iload_n 2, 1)) rfl)
set_option maxRecDepth 16384 in
theorem vi_60_15 (l : Launch) : ve_OK vs_A l 59 (ve_HI vs_A l 59 vs_M) (ve_CB vs_A l 59 (ve_HI vs_A l 59 vs_M) vs_M) "Orderbench" prog_1_method_70_code 3 (some .int) "howManySafe" 15 (ve_ald 16 55) := ve_aald_ok (by decide +kernel : decode prog_1_method_70_code 15 = .ok (.aaload, 1)) vf_109 rfl
set_option maxRecDepth 16384 in
theorem vi_60_16 (l : Launch) : ve_OK vs_A l 59 (ve_HI vs_A l 59 vs_M) (ve_CB vs_A l 59 (ve_HI vs_A l 59 vs_M) vs_M) "Orderbench" prog_1_method_70_code 3 (some .int) "howManySafe" 16 (ve_gf 19 1) := ve_getf_ok (k := 1) (by decide +kernel : decode prog_1_method_70_code 16 = .ok (.getfield 147, 3)) vw_386 vf_111
set_option maxRecDepth 16384 in
theorem vi_60_19 (l : Launch) : ve_OK vs_A l 59 (ve_HI vs_A l 59 vs_M) (ve_CB vs_A l 59 (ve_HI vs_A l 59 vs_M) vs_M) "Orderbench" prog_1_method_70_code 3 (some .int) "howManySafe" 19 (ve_pu (ve_br1 (fun x => decide (x = 0)) 25 22)) := ve_pu_ok (ve_if_eq_ok (by decide +kernel : decode prog_1_method_70_code 19 = .ok (.ifCond .eq (6), 3)) (by decide +kernel))
set_option maxRecDepth 16384 in
theorem vi_60_25 (l : Launch) : ve_OK vs_A l 59 (ve_HI vs_A l 59 vs_M) (ve_CB vs_A l 59 (ve_HI vs_A l 59 vs_M) vs_M) "Orderbench" prog_1_method_70_code 3 (some .int) "howManySafe" 25 (ve_pu (ve_ii 28 2 3 (1))) := ve_pu_ok (ve_iinc_ok (by decide +kernel : decode prog_1_method_70_code 25 = .ok (.iinc 2 (1), 3)))
set_option maxRecDepth 16384 in
theorem vi_60_28 (l : Launch) : ve_OK vs_A l 59 (ve_HI vs_A l 59 vs_M) (ve_CB vs_A l 59 (ve_HI vs_A l 59 vs_M) vs_M) "Orderbench" prog_1_method_70_code 3 (some .int) "howManySafe" 28 (ve_pu (ve_jmp 4)) := ve_pu_ok (ve_goto_ok (by decide +kernel : decode prog_1_method_70_code 28 = .ok (.goto (-24), 3)) (by decide +kernel))
set_option maxRecDepth 16384 in
theorem vi_60_31 (l : Launch) : ve_OK vs_A l 59 (ve_HI vs_A l 59 vs_M) (ve_CB vs_A l 59 (ve_HI vs_A l 59 vs_M) vs_M) "Orderbench" prog_1_method_70_code 3 (some .int) "howManySafe" 31 (ve_pu (ve_il 32 1)) := ve_pu_ok (ve_iload_n_ok (k := 1) (i := 1) (by decide +kernel : decode prog_1_method_70_code 31 = .ok (.iload_n 1, 1)) rfl)
set_option maxRecDepth 16384 in
theorem vi_60_32 (l : Launch) : ve_OK vs_A l 59 (ve_HI vs_A l 59 vs_M) (ve_CB vs_A l 59 (ve_HI vs_A l 59 vs_M) vs_M) "Orderbench" prog_1_method_70_code 3 (some .int) "howManySafe" 32 (ve_rt 1 .int) := ve_iret_ok (by decide +kernel : decode prog_1_method_70_code 32 = .ok (.ireturn, 1)) rfl
set_option maxRecDepth 16384 in
theorem vi_61_0 (l : Launch) : ve_OK vs_A l 59 (ve_HI vs_A l 59 vs_M) (ve_CB vs_A l 59 (ve_HI vs_A l 59 vs_M) vs_M) "Orderbench$Row" prog_4_method_9_code 1 (some .int) "empties" 0 (ve_pu (ve_al 1 0)) := ve_pu_ok (ve_aload_n_ok (k := 0) (i := 0) (by decide +kernel : decode prog_4_method_9_code 0 = .ok (.aload_n 0, 1)) rfl)
set_option maxRecDepth 16384 in
theorem vi_61_1 (l : Launch) : ve_OK vs_A l 59 (ve_HI vs_A l 59 vs_M) (ve_CB vs_A l 59 (ve_HI vs_A l 59 vs_M) vs_M) "Orderbench$Row" prog_4_method_9_code 1 (some .int) "empties" 1 (ve_pu (ve_push 2 (.int (-1)))) := ve_pu_ok (ve_iconst_ok (n := -1) (v := -1) (by decide +kernel : decode prog_4_method_9_code 1 = .ok (.iconst (-1), 1)) rfl)
set_option maxRecDepth 16384 in
theorem vi_61_2 (l : Launch) : ve_OK vs_A l 59 (ve_HI vs_A l 59 vs_M) (ve_CB vs_A l 59 (ve_HI vs_A l 59 vs_M) vs_M) "Orderbench$Row" prog_4_method_9_code 1 (some .int) "empties" 2 (ve_cw 59 2 5 [(3, 62)]) := ve_cw_ok rfl (List.forall_mem_cons.mpr ⟨ve_rowU (md := vs_M) (A0 := vs_A) (mi := 62) (na := 1) (k := 3) (C := "Orderbench$Row") (owner := "Orderbench$Row") (x := ⟨"Orderbench$Row", "howOften", "(I)I"⟩) (by decide +kernel : decode prog_4_method_9_code 2 = .ok (.invokevirtual 35, 3)) (by decide) vw_389 vw_387 vw_50 vw_388 rfl vw_390 vw_391 vf_198 ⟨by decide, by decide⟩ vf_21 vf_131, List.forall_mem_nil _⟩)
set_option maxRecDepth 16384 in
theorem vi_61_5 (l : Launch) : ve_OK vs_A l 59 (ve_HI vs_A l 59 vs_M) (ve_CB vs_A l 59 (ve_HI vs_A l 59 vs_M) vs_M) "Orderbench$Row" prog_4_method_9_code 1 (some .int) "empties" 5 (ve_rt 1 .int) := ve_iret_ok (by decide +kernel : decode prog_4_method_9_code 5 = .ok (.ireturn, 1)) rfl
set_option maxRecDepth 16384 in
theorem vi_62_0 (l : Launch) : ve_OK vs_A l 59 (ve_HI vs_A l 59 vs_M) (ve_CB vs_A l 59 (ve_HI vs_A l 59 vs_M) vs_M) "Orderbench$Row" prog_4_method_10_code 4 (some .int) "howOften" 0 (ve_pu (ve_push 1 (.int (0)))) := ve_pu_ok (ve_iconst_ok (n := 0) (v := 0) (by decide +kernel : decode prog_4_method_10_code 0 = .ok (.iconst (0), 1)) rfl)
set_option maxRecDepth 16384 in
theorem vi_62_1 (l : Launch) : ve_OK vs_A l 59 (ve_HI vs_A l 59 vs_M) (ve_CB vs_A l 59 (ve_HI vs_A l 59 vs_M) vs_M) "Orderbench$Row" prog_4_method_10_code 4 (some .int) "howOften" 1 (ve_pu (ve_is 2 2 4)) := ve_pu_ok (ve_istore_n_ok (k := 2) (i := 2) (by decide +kernel : decode prog_4_method_10_code 1 = .ok (.istore_n 2, 1)) rfl)
set_option maxRecDepth 16384 in
theorem vi_62_2 (l : Launch) : ve_OK vs_A l 59 (ve_HI vs_A l 59 vs_M) (ve_CB vs_A l 59 (ve_HI vs_A l 59 vs_M) vs_M) "Orderbench$Row" prog_4_method_10_code 4 (some .int) "howOften" 2 (ve_pu (ve_push 3 (.int (0)))) := ve_pu_ok (ve_iconst_ok (n := 0) (v := 0) (by decide +kernel : decode prog_4_method_10_code 2 = .ok (.iconst (0), 1)) rfl)
set_option maxRecDepth 16384 in
theorem vi_62_3 (l : Launch) : ve_OK vs_A l 59 (ve_HI vs_A l 59 vs_M) (ve_CB vs_A l 59 (ve_HI vs_A l 59 vs_M) vs_M) "Orderbench$Row" prog_4_method_10_code 4 (some .int) "howOften" 3 (ve_pu (ve_is 4 3 4)) := ve_pu_ok (ve_istore_n_ok (k := 3) (i := 3) (by decide +kernel : decode prog_4_method_10_code 3 = .ok (.istore_n 3, 1)) rfl)
set_option maxRecDepth 16384 in
theorem vi_62_4 (l : Launch) : ve_OK vs_A l 59 (ve_HI vs_A l 59 vs_M) (ve_CB vs_A l 59 (ve_HI vs_A l 59 vs_M) vs_M) "Orderbench$Row" prog_4_method_10_code 4 (some .int) "howOften" 4 (ve_pu (ve_il 5 3)) := ve_pu_ok (ve_iload_n_ok (k := 3) (i := 3) (by decide +kernel : decode prog_4_method_10_code 4 = .ok (.iload_n 3, 1)) rfl)
set_option maxRecDepth 16384 in
theorem vi_62_5 (l : Launch) : ve_OK vs_A l 59 (ve_HI vs_A l 59 vs_M) (ve_CB vs_A l 59 (ve_HI vs_A l 59 vs_M) vs_M) "Orderbench$Row" prog_4_method_10_code 4 (some .int) "howOften" 5 (ve_pu (ve_al 6 0)) := ve_pu_ok (ve_aload_n_ok (k := 0) (i := 0) (by decide +kernel : decode prog_4_method_10_code 5 = .ok (.aload_n 0, 1)) rfl)
set_option maxRecDepth 16384 in
theorem vi_62_6 (l : Launch) : ve_OK vs_A l 59 (ve_HI vs_A l 59 vs_M) (ve_CB vs_A l 59 (ve_HI vs_A l 59 vs_M) vs_M) "Orderbench$Row" prog_4_method_10_code 4 (some .int) "howOften" 6 (ve_gf 9 1) := ve_getf_ok (k := 1) (by decide +kernel : decode prog_4_method_10_code 6 = .ok (.getfield 15, 3)) vw_392 vf_192
set_option maxRecDepth 16384 in
theorem vi_62_9 (l : Launch) : ve_OK vs_A l 59 (ve_HI vs_A l 59 vs_M) (ve_CB vs_A l 59 (ve_HI vs_A l 59 vs_M) vs_M) "Orderbench$Row" prog_4_method_10_code 4 (some .int) "howOften" 9 (ve_pu (ve_br2 (fun x y => decide (¬ x < y)) 40 12)) := ve_pu_ok (ve_icmp_ge_ok (by decide +kernel : decode prog_4_method_10_code 9 = .ok (.if_icmp .ge (31), 3)) (by decide +kernel))
set_option maxRecDepth 16384 in
theorem vi_62_40 (l : Launch) : ve_OK vs_A l 59 (ve_HI vs_A l 59 vs_M) (ve_CB vs_A l 59 (ve_HI vs_A l 59 vs_M) vs_M) "Orderbench$Row" prog_4_method_10_code 4 (some .int) "howOften" 40 (ve_pu (ve_il 41 2)) := ve_pu_ok (ve_iload_n_ok (k := 2) (i := 2) (by decide +kernel : decode prog_4_method_10_code 40 = .ok (.iload_n 2, 1)) rfl)
set_option maxRecDepth 16384 in
theorem vi_62_41 (l : Launch) : ve_OK vs_A l 59 (ve_HI vs_A l 59 vs_M) (ve_CB vs_A l 59 (ve_HI vs_A l 59 vs_M) vs_M) "Orderbench$Row" prog_4_method_10_code 4 (some .int) "howOften" 41 (ve_rt 1 .int) := ve_iret_ok (by decide +kernel : decode prog_4_method_10_code 41 = .ok (.ireturn, 1)) rfl
set_option maxRecDepth 16384 in
theorem vi_63_0 (l : Launch) : ve_OK vs_A l 59 (ve_HI vs_A l 59 vs_M) (ve_CB vs_A l 59 (ve_HI vs_A l 59 vs_M) vs_M) "Orderbench" prog_1_method_72_code 8 (some .long) "digestBench" 0 (ve_pu (ve_al 1 0)) := ve_pu_ok (ve_aload_n_ok (k := 0) (i := 0) (by decide +kernel : decode prog_1_method_72_code 0 = .ok (.aload_n 0, 1)) rfl)
set_option maxRecDepth 16384 in
theorem vi_63_1 (l : Launch) : ve_OK vs_A l 59 (ve_HI vs_A l 59 vs_M) (ve_CB vs_A l 59 (ve_HI vs_A l 59 vs_M) vs_M) "Orderbench" prog_1_method_72_code 8 (some .long) "digestBench" 1 (ve_gf 4 5) := ve_getf_ok (k := 5) (by decide +kernel : decode prog_1_method_72_code 1 = .ok (.getfield 41, 3)) vw_73 vf_199
set_option maxRecDepth 16384 in
theorem vi_63_4 (l : Launch) : ve_OK vs_A l 59 (ve_HI vs_A l 59 vs_M) (ve_CB vs_A l 59 (ve_HI vs_A l 59 vs_M) vs_M) "Orderbench" prog_1_method_72_code 8 (some .long) "digestBench" 4 (ve_pu (ve_push 5 (.int (0)))) := ve_pu_ok (ve_iconst_ok (n := 0) (v := 0) (by decide +kernel : decode prog_1_method_72_code 4 = .ok (.iconst (0), 1)) rfl)
set_option maxRecDepth 16384 in
theorem vi_63_5 (l : Launch) : ve_OK vs_A l 59 (ve_HI vs_A l 59 vs_M) (ve_CB vs_A l 59 (ve_HI vs_A l 59 vs_M) vs_M) "Orderbench" prog_1_method_72_code 8 (some .long) "digestBench" 5 (ve_cw 59 2 8 [(36, 64)]) := ve_cw_ok rfl (List.forall_mem_cons.mpr ⟨ve_rowU (md := vs_M) (A0 := vs_A) (mi := 64) (na := 1) (k := 36) (C := "java/lang/StringBuilder") (owner := "java/lang/StringBuilder") (x := ⟨"java/lang/StringBuilder", "setLength", "(I)V"⟩) (by decide +kernel : decode prog_1_method_72_code 5 = .ok (.invokevirtual 159, 3)) (by decide) vw_395 vw_393 vw_69 vw_394 rfl vw_396 vw_397 vf_200 ⟨by decide, by decide⟩ vf_39 vf_29, List.forall_mem_nil _⟩)
set_option maxRecDepth 16384 in
theorem vi_63_8 (l : Launch) : ve_OK vs_A l 59 (ve_HI vs_A l 59 vs_M) (ve_CB vs_A l 59 (ve_HI vs_A l 59 vs_M) vs_M) "Orderbench" prog_1_method_72_code 8 (some .long) "digestBench" 8 (ve_pu (ve_al 9 0)) := ve_pu_ok (ve_aload_n_ok (k := 0) (i := 0) (by decide +kernel : decode prog_1_method_72_code 8 = .ok (.aload_n 0, 1)) rfl)
set_option maxRecDepth 16384 in
theorem vi_63_9 (l : Launch) : ve_OK vs_A l 59 (ve_HI vs_A l 59 vs_M) (ve_CB vs_A l 59 (ve_HI vs_A l 59 vs_M) vs_M) "Orderbench" prog_1_method_72_code 8 (some .long) "digestBench" 9 (ve_pu (ve_al 10 3)) := ve_pu_ok (ve_aload_n_ok (k := 3) (i := 3) (by decide +kernel : decode prog_1_method_72_code 9 = .ok (.aload_n 3, 1)) rfl)
set_option maxRecDepth 16384 in
theorem vi_63_10 (l : Launch) : ve_OK vs_A l 59 (ve_HI vs_A l 59 vs_M) (ve_CB vs_A l 59 (ve_HI vs_A l 59 vs_M) vs_M) "Orderbench" prog_1_method_72_code 8 (some .long) "digestBench" 10 (ve_cw 59 2 13 [(2, 66)]) := ve_cw_ok rfl (List.forall_mem_cons.mpr ⟨ve_rowU (md := vs_M) (A0 := vs_A) (mi := 66) (na := 1) (k := 2) (C := "Orderbench") (owner := "Orderbench") (x := ⟨"Orderbench", "writeRow", "(LOrderbench$Row;)V"⟩) (by decide +kernel : decode prog_1_method_72_code 10 = .ok (.invokevirtual 185, 3)) (by decide) vw_400 vw_398 vw_2 vw_399 rfl vw_401 vw_402 vf_202 ⟨by decide, by decide⟩ vf_0 vf_201, List.forall_mem_nil _⟩)
set_option maxRecDepth 16384 in
theorem vi_63_13 (l : Launch) : ve_OK vs_A l 59 (ve_HI vs_A l 59 vs_M) (ve_CB vs_A l 59 (ve_HI vs_A l 59 vs_M) vs_M) "Orderbench" prog_1_method_72_code 8 (some .long) "digestBench" 13 (ve_pu (ve_al 14 0)) := ve_pu_ok (ve_aload_n_ok (k := 0) (i := 0) (by decide +kernel : decode prog_1_method_72_code 13 = .ok (.aload_n 0, 1)) rfl)
set_option maxRecDepth 16384 in
theorem vi_63_14 (l : Launch) : ve_OK vs_A l 59 (ve_HI vs_A l 59 vs_M) (ve_CB vs_A l 59 (ve_HI vs_A l 59 vs_M) vs_M) "Orderbench" prog_1_method_72_code 8 (some .long) "digestBench" 14 (ve_pu (ve_ll 15 1)) := ve_pu_ok (ve_lload_n_ok (k := 1) (i := 1) (by decide +kernel : decode prog_1_method_72_code 14 = .ok (.lload_n 1, 1)) rfl)
set_option maxRecDepth 16384 in
theorem vi_63_15 (l : Launch) : ve_OK vs_A l 59 (ve_HI vs_A l 59 vs_M) (ve_CB vs_A l 59 (ve_HI vs_A l 59 vs_M) vs_M) "Orderbench" prog_1_method_72_code 8 (some .long) "digestBench" 15 (ve_cw 59 2 18 [(2, 67)]) := ve_cw_ok rfl (List.forall_mem_cons.mpr ⟨ve_rowU (md := vs_M) (A0 := vs_A) (mi := 67) (na := 1) (k := 2) (C := "Orderbench") (owner := "Orderbench") (x := ⟨"Orderbench", "digestSigns", "(J)J"⟩) (by decide +kernel : decode prog_1_method_72_code 15 = .ok (.invokevirtual 312, 3)) (by decide) vw_405 vw_403 vw_2 vw_404 rfl vw_406 vw_407 vf_204 ⟨by decide, by decide⟩ vf_0 vf_203, List.forall_mem_nil _⟩)
set_option maxRecDepth 16384 in
theorem vi_63_18 (l : Launch) : ve_OK vs_A l 59 (ve_HI vs_A l 59 vs_M) (ve_CB vs_A l 59 (ve_HI vs_A l 59 vs_M) vs_M) "Orderbench" prog_1_method_72_code 8 (some .long) "digestBench" 18 (ve_pu (ve_ls 20 4 8)) := ve_pu_ok (ve_lstore_ok (by decide +kernel : decode prog_1_method_72_code 18 = .ok (.lstore 4, 2)))
set_option maxRecDepth 16384 in
theorem vi_63_20 (l : Launch) : ve_OK vs_A l 59 (ve_HI vs_A l 59 vs_M) (ve_CB vs_A l 59 (ve_HI vs_A l 59 vs_M) vs_M) "Orderbench" prog_1_method_72_code 8 (some .long) "digestBench" 20 (ve_pu (ve_push 21 (.int (0)))) := ve_pu_ok (ve_iconst_ok (n := 0) (v := 0) (by decide +kernel : decode prog_1_method_72_code 20 = .ok (.iconst (0), 1)) rfl)
set_option maxRecDepth 16384 in
theorem vi_63_21 (l : Launch) : ve_OK vs_A l 59 (ve_HI vs_A l 59 vs_M) (ve_CB vs_A l 59 (ve_HI vs_A l 59 vs_M) vs_M) "Orderbench" prog_1_method_72_code 8 (some .long) "digestBench" 21 (ve_pu (ve_is 23 6 8)) := ve_pu_ok (ve_istore_ok (by decide +kernel : decode prog_1_method_72_code 21 = .ok (.istore 6, 2)))
set_option maxRecDepth 16384 in
theorem vi_63_23 (l : Launch) : ve_OK vs_A l 59 (ve_HI vs_A l 59 vs_M) (ve_CB vs_A l 59 (ve_HI vs_A l 59 vs_M) vs_M) "Orderbench" prog_1_method_72_code 8 (some .long) "digestBench" 23 (ve_pu (ve_il 25 6)) := ve_pu_ok (ve_iload_ok (by decide +kernel : decode prog_1_method_72_code 23 = .ok (.iload 6, 2)))
set_option maxRecDepth 16384 in
theorem vi_63_25 (l : Launch) : ve_OK vs_A l 59 (ve_HI vs_A l 59 vs_M) (ve_CB vs_A l 59 (ve_HI vs_A l 59 vs_M) vs_M) "Orderbench" prog_1_method_72_code 8 (some .long) "digestBench" 25 (ve_pu (ve_push 27 (.int (10)))) := ve_pu_ok (ve_bipush_ok (n := 10) (v := 10) (by decide +kernel : decode prog_1_method_72_code 25 = .ok (.bipush (10), 2)) (by decide +kernel))
set_option maxRecDepth 16384 in
theorem vi_63_27 (l : Launch) : ve_OK vs_A l 59 (ve_HI vs_A l 59 vs_M) (ve_CB vs_A l 59 (ve_HI vs_A l 59 vs_M) vs_M) "Orderbench" prog_1_method_72_code 8 (some .long) "digestBench" 27 (ve_pu (ve_br2 (fun x y => decide (¬ x < y)) 119 30)) := ve_pu_ok (ve_icmp_ge_ok (by decide +kernel : decode prog_1_method_72_code 27 = .ok (.if_icmp .ge (92), 3)) (by decide +kernel))
set_option maxRecDepth 16384 in
theorem vi_63_30 (l : Launch) : ve_OK vs_A l 59 (ve_HI vs_A l 59 vs_M) (ve_CB vs_A l 59 (ve_HI vs_A l 59 vs_M) vs_M) "Orderbench" prog_1_method_72_code 8 (some .long) "digestBench" 30 (ve_pu (ve_al 31 0)) := ve_pu_ok (ve_aload_n_ok (k := 0) (i := 0) (by decide +kernel : decode prog_1_method_72_code 30 = .ok (.aload_n 0, 1)) rfl)
set_option maxRecDepth 16384 in
theorem vi_63_31 (l : Launch) : ve_OK vs_A l 59 (ve_HI vs_A l 59 vs_M) (ve_CB vs_A l 59 (ve_HI vs_A l 59 vs_M) vs_M) "Orderbench" prog_1_method_72_code 8 (some .long) "digestBench" 31 (ve_gf 34 1) := ve_getf_ok (k := 1) (by decide +kernel : decode prog_1_method_72_code 31 = .ok (.getfield 18, 3)) vw_56 vf_30
set_option maxRecDepth 16384 in
theorem vi_63_34 (l : Launch) : ve_OK vs_A l 59 (ve_HI vs_A l 59 vs_M) (ve_CB vs_A l 59 (ve_HI vs_A l 59 vs_M) vs_M) "Orderbench" prog_1_method_72_code 8 (some .long) "digestBench" 34 (ve_pu (ve_il 36 6)) := ve_pu_ok (ve_iload_ok (by decide +kernel : decode prog_1_method_72_code 34 = .ok (.iload 6, 2)))
set_option maxRecDepth 16384 in
theorem vi_63_36 (l : Launch) : ve_OK vs_A l 59 (ve_HI vs_A l 59 vs_M) (ve_CB vs_A l 59 (ve_HI vs_A l 59 vs_M) vs_M) "Orderbench" prog_1_method_72_code 8 (some .long) "digestBench" 36 (ve_ald 37 55) := ve_aald_ok (by decide +kernel : decode prog_1_method_72_code 36 = .ok (.aaload, 1)) vf_109 rfl
set_option maxRecDepth 16384 in
theorem vi_63_37 (l : Launch) : ve_OK vs_A l 59 (ve_HI vs_A l 59 vs_M) (ve_CB vs_A l 59 (ve_HI vs_A l 59 vs_M) vs_M) "Orderbench" prog_1_method_72_code 8 (some .long) "digestBench" 37 (ve_pu (ve_as 39 7 8)) := ve_pu_ok (ve_astore_ok (by decide +kernel : decode prog_1_method_72_code 37 = .ok (.astore 7, 2)))
set_option maxRecDepth 16384 in
theorem vi_63_39 (l : Launch) : ve_OK vs_A l 59 (ve_HI vs_A l 59 vs_M) (ve_CB vs_A l 59 (ve_HI vs_A l 59 vs_M) vs_M) "Orderbench" prog_1_method_72_code 8 (some .long) "digestBench" 39 (ve_pu (ve_ll 41 4)) := ve_pu_ok (ve_lload_ok (by decide +kernel : decode prog_1_method_72_code 39 = .ok (.lload 4, 2)))
set_option maxRecDepth 16384 in
theorem vi_63_41 (l : Launch) : ve_OK vs_A l 59 (ve_HI vs_A l 59 vs_M) (ve_CB vs_A l 59 (ve_HI vs_A l 59 vs_M) vs_M) "Orderbench" prog_1_method_72_code 8 (some .long) "digestBench" 41 (ve_pu (ve_push 44 (.long (31)))) := ve_cu_ok (ve_ldc2_ok (v := 31) (by decide +kernel : decode prog_1_method_72_code 41 = .ok (.ldc2_w 228, 3)) vw_351)
set_option maxRecDepth 16384 in
theorem vi_63_44 (l : Launch) : ve_OK vs_A l 59 (ve_HI vs_A l 59 vs_M) (ve_CB vs_A l 59 (ve_HI vs_A l 59 vs_M) vs_M) "Orderbench" prog_1_method_72_code 8 (some .long) "digestBench" 44 (ve_pu (ve_lmul 45)) := ve_pu_ok (ve_lmul_ok (by decide +kernel : decode prog_1_method_72_code 44 = .ok (.lmul, 1)))
set_option maxRecDepth 16384 in
theorem vi_63_45 (l : Launch) : ve_OK vs_A l 59 (ve_HI vs_A l 59 vs_M) (ve_CB vs_A l 59 (ve_HI vs_A l 59 vs_M) vs_M) "Orderbench" prog_1_method_72_code 8 (some .long) "digestBench" 45 (ve_pu (ve_al 46 3)) := ve_pu_ok (ve_aload_n_ok (k := 3) (i := 3) (by decide +kernel : decode prog_1_method_72_code 45 = .ok (.aload_n 3, 1)) rfl)
set_option maxRecDepth 16384 in
theorem vi_63_46 (l : Launch) : ve_OK vs_A l 59 (ve_HI vs_A l 59 vs_M) (ve_CB vs_A l 59 (ve_HI vs_A l 59 vs_M) vs_M) "Orderbench" prog_1_method_72_code 8 (some .long) "digestBench" 46 (ve_pu (ve_al 48 7)) := ve_pu_ok (ve_aload_ok (by decide +kernel : decode prog_1_method_72_code 46 = .ok (.aload 7, 2)))
set_option maxRecDepth 16384 in
theorem vi_63_48 (l : Launch) : ve_OK vs_A l 59 (ve_HI vs_A l 59 vs_M) (ve_CB vs_A l 59 (ve_HI vs_A l 59 vs_M) vs_M) "Orderbench" prog_1_method_72_code 8 (some .long) "digestBench" 48 (ve_cl 59 68 2 51) := ve_cl_ok (ve_rowS (md := vs_M) (A0 := vs_A) (mi := 68) (by decide +kernel : decode prog_1_method_72_code 48 = .ok (.invokestatic 188, 3)) (by decide) vw_408 vw_409 vw_2 vw_410 rfl ⟨by decide, by decide⟩ vf_205)
set_option maxRecDepth 16384 in
theorem vi_63_51 (l : Launch) : ve_OK vs_A l 59 (ve_HI vs_A l 59 vs_M) (ve_CB vs_A l 59 (ve_HI vs_A l 59 vs_M) vs_M) "Orderbench" prog_1_method_72_code 8 (some .long) "digestBench" 51 (ve_pu (ve_br1 (fun x => decide (x = 0)) 58 54)) := ve_pu_ok (ve_if_eq_ok (by decide +kernel : decode prog_1_method_72_code 51 = .ok (.ifCond .eq (7), 3)) (by decide +kernel))
set_option maxRecDepth 16384 in
theorem vi_63_54 (l : Launch) : ve_OK vs_A l 59 (ve_HI vs_A l 59 vs_M) (ve_CB vs_A l 59 (ve_HI vs_A l 59 vs_M) vs_M) "Orderbench" prog_1_method_72_code 8 (some .long) "digestBench" 54 (ve_pu (ve_push 55 (.int (1)))) := ve_pu_ok (ve_iconst_ok (n := 1) (v := 1) (by decide +kernel : decode prog_1_method_72_code 54 = .ok (.iconst (1), 1)) rfl)
set_option maxRecDepth 16384 in
theorem vi_63_55 (l : Launch) : ve_OK vs_A l 59 (ve_HI vs_A l 59 vs_M) (ve_CB vs_A l 59 (ve_HI vs_A l 59 vs_M) vs_M) "Orderbench" prog_1_method_72_code 8 (some .long) "digestBench" 55 (ve_pu (ve_jmp 59)) := ve_pu_ok (ve_goto_ok (by decide +kernel : decode prog_1_method_72_code 55 = .ok (.goto (4), 3)) (by decide +kernel))
set_option maxRecDepth 16384 in
theorem vi_63_59 (l : Launch) : ve_OK vs_A l 59 (ve_HI vs_A l 59 vs_M) (ve_CB vs_A l 59 (ve_HI vs_A l 59 vs_M) vs_M) "Orderbench" prog_1_method_72_code 8 (some .long) "digestBench" 59 (ve_pu (ve_i2l 60)) := ve_pu_ok (ve_i2l_ok (by decide +kernel : decode prog_1_method_72_code 59 = .ok (.i2l, 1)))
set_option maxRecDepth 16384 in
theorem vi_63_60 (l : Launch) : ve_OK vs_A l 59 (ve_HI vs_A l 59 vs_M) (ve_CB vs_A l 59 (ve_HI vs_A l 59 vs_M) vs_M) "Orderbench" prog_1_method_72_code 8 (some .long) "digestBench" 60 (ve_pu (ve_ladd 61)) := ve_pu_ok (ve_ladd_ok (by decide +kernel : decode prog_1_method_72_code 60 = .ok (.ladd, 1)))
set_option maxRecDepth 16384 in
theorem vi_63_61 (l : Launch) : ve_OK vs_A l 59 (ve_HI vs_A l 59 vs_M) (ve_CB vs_A l 59 (ve_HI vs_A l 59 vs_M) vs_M) "Orderbench" prog_1_method_72_code 8 (some .long) "digestBench" 61 (ve_pu (ve_ls 63 4 8)) := ve_pu_ok (ve_lstore_ok (by decide +kernel : decode prog_1_method_72_code 61 = .ok (.lstore 4, 2)))
set_option maxRecDepth 16384 in
theorem vi_63_63 (l : Launch) : ve_OK vs_A l 59 (ve_HI vs_A l 59 vs_M) (ve_CB vs_A l 59 (ve_HI vs_A l 59 vs_M) vs_M) "Orderbench" prog_1_method_72_code 8 (some .long) "digestBench" 63 (ve_pu (ve_ll 65 4)) := ve_pu_ok (ve_lload_ok (by decide +kernel : decode prog_1_method_72_code 63 = .ok (.lload 4, 2)))
set_option maxRecDepth 16384 in
theorem vi_63_65 (l : Launch) : ve_OK vs_A l 59 (ve_HI vs_A l 59 vs_M) (ve_CB vs_A l 59 (ve_HI vs_A l 59 vs_M) vs_M) "Orderbench" prog_1_method_72_code 8 (some .long) "digestBench" 65 (ve_pu (ve_push 68 (.long (31)))) := ve_cu_ok (ve_ldc2_ok (v := 31) (by decide +kernel : decode prog_1_method_72_code 65 = .ok (.ldc2_w 228, 3)) vw_351)
set_option maxRecDepth 16384 in
theorem vi_63_68 (l : Launch) : ve_OK vs_A l 59 (ve_HI vs_A l 59 vs_M) (ve_CB vs_A l 59 (ve_HI vs_A l 59 vs_M) vs_M) "Orderbench" prog_1_method_72_code 8 (some .long) "digestBench" 68 (ve_pu (ve_lmul 69)) := ve_pu_ok (ve_lmul_ok (by decide +kernel : decode prog_1_method_72_code 68 = .ok (.lmul, 1)))
set_option maxRecDepth 16384 in
theorem vi_63_69 (l : Launch) : ve_OK vs_A l 59 (ve_HI vs_A l 59 vs_M) (ve_CB vs_A l 59 (ve_HI vs_A l 59 vs_M) vs_M) "Orderbench" prog_1_method_72_code 8 (some .long) "digestBench" 69 (ve_pu (ve_al 70 3)) := ve_pu_ok (ve_aload_n_ok (k := 3) (i := 3) (by decide +kernel : decode prog_1_method_72_code 69 = .ok (.aload_n 3, 1)) rfl)
set_option maxRecDepth 16384 in
theorem vi_63_70 (l : Launch) : ve_OK vs_A l 59 (ve_HI vs_A l 59 vs_M) (ve_CB vs_A l 59 (ve_HI vs_A l 59 vs_M) vs_M) "Orderbench" prog_1_method_72_code 8 (some .long) "digestBench" 70 (ve_pu (ve_al 72 7)) := ve_pu_ok (ve_aload_ok (by decide +kernel : decode prog_1_method_72_code 70 = .ok (.aload 7, 2)))
set_option maxRecDepth 16384 in
theorem vi_63_72 (l : Launch) : ve_OK vs_A l 59 (ve_HI vs_A l 59 vs_M) (ve_CB vs_A l 59 (ve_HI vs_A l 59 vs_M) vs_M) "Orderbench" prog_1_method_72_code 8 (some .long) "digestBench" 72 (ve_cl 59 71 2 75) := ve_cl_ok (ve_rowS (md := vs_M) (A0 := vs_A) (mi := 71) (by decide +kernel : decode prog_1_method_72_code 72 = .ok (.invokestatic 191, 3)) (by decide) vw_411 vw_412 vw_2 vw_413 rfl ⟨by decide, by decide⟩ vf_206)
set_option maxRecDepth 16384 in
theorem vi_63_75 (l : Launch) : ve_OK vs_A l 59 (ve_HI vs_A l 59 vs_M) (ve_CB vs_A l 59 (ve_HI vs_A l 59 vs_M) vs_M) "Orderbench" prog_1_method_72_code 8 (some .long) "digestBench" 75 (ve_pu (ve_i2l 76)) := ve_pu_ok (ve_i2l_ok (by decide +kernel : decode prog_1_method_72_code 75 = .ok (.i2l, 1)))
set_option maxRecDepth 16384 in
theorem vi_63_76 (l : Launch) : ve_OK vs_A l 59 (ve_HI vs_A l 59 vs_M) (ve_CB vs_A l 59 (ve_HI vs_A l 59 vs_M) vs_M) "Orderbench" prog_1_method_72_code 8 (some .long) "digestBench" 76 (ve_pu (ve_ladd 77)) := ve_pu_ok (ve_ladd_ok (by decide +kernel : decode prog_1_method_72_code 76 = .ok (.ladd, 1)))
set_option maxRecDepth 16384 in
theorem vi_63_77 (l : Launch) : ve_OK vs_A l 59 (ve_HI vs_A l 59 vs_M) (ve_CB vs_A l 59 (ve_HI vs_A l 59 vs_M) vs_M) "Orderbench" prog_1_method_72_code 8 (some .long) "digestBench" 77 (ve_pu (ve_ls 79 4 8)) := ve_pu_ok (ve_lstore_ok (by decide +kernel : decode prog_1_method_72_code 77 = .ok (.lstore 4, 2)))
set_option maxRecDepth 16384 in
theorem vi_63_79 (l : Launch) : ve_OK vs_A l 59 (ve_HI vs_A l 59 vs_M) (ve_CB vs_A l 59 (ve_HI vs_A l 59 vs_M) vs_M) "Orderbench" prog_1_method_72_code 8 (some .long) "digestBench" 79 (ve_pu (ve_ll 81 4)) := ve_pu_ok (ve_lload_ok (by decide +kernel : decode prog_1_method_72_code 79 = .ok (.lload 4, 2)))
set_option maxRecDepth 16384 in
theorem vi_63_81 (l : Launch) : ve_OK vs_A l 59 (ve_HI vs_A l 59 vs_M) (ve_CB vs_A l 59 (ve_HI vs_A l 59 vs_M) vs_M) "Orderbench" prog_1_method_72_code 8 (some .long) "digestBench" 81 (ve_pu (ve_push 84 (.long (31)))) := ve_cu_ok (ve_ldc2_ok (v := 31) (by decide +kernel : decode prog_1_method_72_code 81 = .ok (.ldc2_w 228, 3)) vw_351)
set_option maxRecDepth 16384 in
theorem vi_63_84 (l : Launch) : ve_OK vs_A l 59 (ve_HI vs_A l 59 vs_M) (ve_CB vs_A l 59 (ve_HI vs_A l 59 vs_M) vs_M) "Orderbench" prog_1_method_72_code 8 (some .long) "digestBench" 84 (ve_pu (ve_lmul 85)) := ve_pu_ok (ve_lmul_ok (by decide +kernel : decode prog_1_method_72_code 84 = .ok (.lmul, 1)))
set_option maxRecDepth 16384 in
theorem vi_63_85 (l : Launch) : ve_OK vs_A l 59 (ve_HI vs_A l 59 vs_M) (ve_CB vs_A l 59 (ve_HI vs_A l 59 vs_M) vs_M) "Orderbench" prog_1_method_72_code 8 (some .long) "digestBench" 85 (ve_pu (ve_al 86 3)) := ve_pu_ok (ve_aload_n_ok (k := 3) (i := 3) (by decide +kernel : decode prog_1_method_72_code 85 = .ok (.aload_n 3, 1)) rfl)
set_option maxRecDepth 16384 in
theorem vi_63_86 (l : Launch) : ve_OK vs_A l 59 (ve_HI vs_A l 59 vs_M) (ve_CB vs_A l 59 (ve_HI vs_A l 59 vs_M) vs_M) "Orderbench" prog_1_method_72_code 8 (some .long) "digestBench" 86 (ve_pu (ve_al 88 7)) := ve_pu_ok (ve_aload_ok (by decide +kernel : decode prog_1_method_72_code 86 = .ok (.aload 7, 2)))
set_option maxRecDepth 16384 in
theorem vi_63_88 (l : Launch) : ve_OK vs_A l 59 (ve_HI vs_A l 59 vs_M) (ve_CB vs_A l 59 (ve_HI vs_A l 59 vs_M) vs_M) "Orderbench" prog_1_method_72_code 8 (some .long) "digestBench" 88 (ve_pu (ve_push 89 (.int (-1)))) := ve_pu_ok (ve_iconst_ok (n := -1) (v := -1) (by decide +kernel : decode prog_1_method_72_code 88 = .ok (.iconst (-1), 1)) rfl)
set_option maxRecDepth 16384 in
theorem vi_63_89 (l : Launch) : ve_OK vs_A l 59 (ve_HI vs_A l 59 vs_M) (ve_CB vs_A l 59 (ve_HI vs_A l 59 vs_M) vs_M) "Orderbench" prog_1_method_72_code 8 (some .long) "digestBench" 89 (ve_cl 59 73 3 92) := ve_cl_ok (ve_rowS (md := vs_M) (A0 := vs_A) (mi := 73) (by decide +kernel : decode prog_1_method_72_code 89 = .ok (.invokestatic 195, 3)) (by decide) vw_414 vw_415 vw_2 vw_416 rfl ⟨by decide, by decide⟩ vf_207)
set_option maxRecDepth 16384 in
theorem vi_63_92 (l : Launch) : ve_OK vs_A l 59 (ve_HI vs_A l 59 vs_M) (ve_CB vs_A l 59 (ve_HI vs_A l 59 vs_M) vs_M) "Orderbench" prog_1_method_72_code 8 (some .long) "digestBench" 92 (ve_pu (ve_i2l 93)) := ve_pu_ok (ve_i2l_ok (by decide +kernel : decode prog_1_method_72_code 92 = .ok (.i2l, 1)))
set_option maxRecDepth 16384 in
theorem vi_63_93 (l : Launch) : ve_OK vs_A l 59 (ve_HI vs_A l 59 vs_M) (ve_CB vs_A l 59 (ve_HI vs_A l 59 vs_M) vs_M) "Orderbench" prog_1_method_72_code 8 (some .long) "digestBench" 93 (ve_pu (ve_ladd 94)) := ve_pu_ok (ve_ladd_ok (by decide +kernel : decode prog_1_method_72_code 93 = .ok (.ladd, 1)))
set_option maxRecDepth 16384 in
theorem vi_63_94 (l : Launch) : ve_OK vs_A l 59 (ve_HI vs_A l 59 vs_M) (ve_CB vs_A l 59 (ve_HI vs_A l 59 vs_M) vs_M) "Orderbench" prog_1_method_72_code 8 (some .long) "digestBench" 94 (ve_pu (ve_ls 96 4 8)) := ve_pu_ok (ve_lstore_ok (by decide +kernel : decode prog_1_method_72_code 94 = .ok (.lstore 4, 2)))
set_option maxRecDepth 16384 in
theorem vi_63_96 (l : Launch) : ve_OK vs_A l 59 (ve_HI vs_A l 59 vs_M) (ve_CB vs_A l 59 (ve_HI vs_A l 59 vs_M) vs_M) "Orderbench" prog_1_method_72_code 8 (some .long) "digestBench" 96 (ve_pu (ve_ll 98 4)) := ve_pu_ok (ve_lload_ok (by decide +kernel : decode prog_1_method_72_code 96 = .ok (.lload 4, 2)))
set_option maxRecDepth 16384 in
theorem vi_63_98 (l : Launch) : ve_OK vs_A l 59 (ve_HI vs_A l 59 vs_M) (ve_CB vs_A l 59 (ve_HI vs_A l 59 vs_M) vs_M) "Orderbench" prog_1_method_72_code 8 (some .long) "digestBench" 98 (ve_pu (ve_push 101 (.long (31)))) := ve_cu_ok (ve_ldc2_ok (v := 31) (by decide +kernel : decode prog_1_method_72_code 98 = .ok (.ldc2_w 228, 3)) vw_351)
set_option maxRecDepth 16384 in
theorem vi_63_101 (l : Launch) : ve_OK vs_A l 59 (ve_HI vs_A l 59 vs_M) (ve_CB vs_A l 59 (ve_HI vs_A l 59 vs_M) vs_M) "Orderbench" prog_1_method_72_code 8 (some .long) "digestBench" 101 (ve_pu (ve_lmul 102)) := ve_pu_ok (ve_lmul_ok (by decide +kernel : decode prog_1_method_72_code 101 = .ok (.lmul, 1)))
set_option maxRecDepth 16384 in
theorem vi_63_102 (l : Launch) : ve_OK vs_A l 59 (ve_HI vs_A l 59 vs_M) (ve_CB vs_A l 59 (ve_HI vs_A l 59 vs_M) vs_M) "Orderbench" prog_1_method_72_code 8 (some .long) "digestBench" 102 (ve_pu (ve_al 103 3)) := ve_pu_ok (ve_aload_n_ok (k := 3) (i := 3) (by decide +kernel : decode prog_1_method_72_code 102 = .ok (.aload_n 3, 1)) rfl)
set_option maxRecDepth 16384 in
theorem vi_63_103 (l : Launch) : ve_OK vs_A l 59 (ve_HI vs_A l 59 vs_M) (ve_CB vs_A l 59 (ve_HI vs_A l 59 vs_M) vs_M) "Orderbench" prog_1_method_72_code 8 (some .long) "digestBench" 103 (ve_pu (ve_al 105 7)) := ve_pu_ok (ve_aload_ok (by decide +kernel : decode prog_1_method_72_code 103 = .ok (.aload 7, 2)))
set_option maxRecDepth 16384 in
theorem vi_63_105 (l : Launch) : ve_OK vs_A l 59 (ve_HI vs_A l 59 vs_M) (ve_CB vs_A l 59 (ve_HI vs_A l 59 vs_M) vs_M) "Orderbench" prog_1_method_72_code 8 (some .long) "digestBench" 105 (ve_pu (ve_push 106 (.int (1)))) := ve_pu_ok (ve_iconst_ok (n := 1) (v := 1) (by decide +kernel : decode prog_1_method_72_code 105 = .ok (.iconst (1), 1)) rfl)
set_option maxRecDepth 16384 in
theorem vi_63_106 (l : Launch) : ve_OK vs_A l 59 (ve_HI vs_A l 59 vs_M) (ve_CB vs_A l 59 (ve_HI vs_A l 59 vs_M) vs_M) "Orderbench" prog_1_method_72_code 8 (some .long) "digestBench" 106 (ve_cl 59 73 3 109) := ve_cl_ok (ve_rowS (md := vs_M) (A0 := vs_A) (mi := 73) (by decide +kernel : decode prog_1_method_72_code 106 = .ok (.invokestatic 195, 3)) (by decide) vw_414 vw_415 vw_2 vw_416 rfl ⟨by decide, by decide⟩ vf_207)
set_option maxRecDepth 16384 in
theorem vi_63_109 (l : Launch) : ve_OK vs_A l 59 (ve_HI vs_A l 59 vs_M) (ve_CB vs_A l 59 (ve_HI vs_A l 59 vs_M) vs_M) "Orderbench" prog_1_method_72_code 8 (some .long) "digestBench" 109 (ve_pu (ve_i2l 110)) := ve_pu_ok (ve_i2l_ok (by decide +kernel : decode prog_1_method_72_code 109 = .ok (.i2l, 1)))
set_option maxRecDepth 16384 in
theorem vi_63_110 (l : Launch) : ve_OK vs_A l 59 (ve_HI vs_A l 59 vs_M) (ve_CB vs_A l 59 (ve_HI vs_A l 59 vs_M) vs_M) "Orderbench" prog_1_method_72_code 8 (some .long) "digestBench" 110 (ve_pu (ve_ladd 111)) := ve_pu_ok (ve_ladd_ok (by decide +kernel : decode prog_1_method_72_code 110 = .ok (.ladd, 1)))
set_option maxRecDepth 16384 in
theorem vi_63_111 (l : Launch) : ve_OK vs_A l 59 (ve_HI vs_A l 59 vs_M) (ve_CB vs_A l 59 (ve_HI vs_A l 59 vs_M) vs_M) "Orderbench" prog_1_method_72_code 8 (some .long) "digestBench" 111 (ve_pu (ve_ls 113 4 8)) := ve_pu_ok (ve_lstore_ok (by decide +kernel : decode prog_1_method_72_code 111 = .ok (.lstore 4, 2)))
set_option maxRecDepth 16384 in
theorem vi_63_113 (l : Launch) : ve_OK vs_A l 59 (ve_HI vs_A l 59 vs_M) (ve_CB vs_A l 59 (ve_HI vs_A l 59 vs_M) vs_M) "Orderbench" prog_1_method_72_code 8 (some .long) "digestBench" 113 (ve_pu (ve_ii 116 6 8 (1))) := ve_pu_ok (ve_iinc_ok (by decide +kernel : decode prog_1_method_72_code 113 = .ok (.iinc 6 (1), 3)))
set_option maxRecDepth 16384 in
theorem vi_63_116 (l : Launch) : ve_OK vs_A l 59 (ve_HI vs_A l 59 vs_M) (ve_CB vs_A l 59 (ve_HI vs_A l 59 vs_M) vs_M) "Orderbench" prog_1_method_72_code 8 (some .long) "digestBench" 116 (ve_pu (ve_jmp 23)) := ve_pu_ok (ve_goto_ok (by decide +kernel : decode prog_1_method_72_code 116 = .ok (.goto (-93), 3)) (by decide +kernel))
set_option maxRecDepth 16384 in
theorem vi_63_119 (l : Launch) : ve_OK vs_A l 59 (ve_HI vs_A l 59 vs_M) (ve_CB vs_A l 59 (ve_HI vs_A l 59 vs_M) vs_M) "Orderbench" prog_1_method_72_code 8 (some .long) "digestBench" 119 (ve_pu (ve_ll 121 4)) := ve_pu_ok (ve_lload_ok (by decide +kernel : decode prog_1_method_72_code 119 = .ok (.lload 4, 2)))
set_option maxRecDepth 16384 in
theorem vi_63_121 (l : Launch) : ve_OK vs_A l 59 (ve_HI vs_A l 59 vs_M) (ve_CB vs_A l 59 (ve_HI vs_A l 59 vs_M) vs_M) "Orderbench" prog_1_method_72_code 8 (some .long) "digestBench" 121 (ve_rt 2 .long) := ve_lret_ok (by decide +kernel : decode prog_1_method_72_code 121 = .ok (.lreturn, 1)) rfl
set_option maxRecDepth 16384 in
theorem vi_64_0 (l : Launch) : ve_OK vs_A l 59 (ve_HI vs_A l 59 vs_M) (ve_CB vs_A l 59 (ve_HI vs_A l 59 vs_M) vs_M) "java/lang/StringBuilder" prog_29_method_89_code 2 none "setLength" 0 (ve_pu (ve_al 1 0)) := ve_pu_ok (ve_aload_n_ok (k := 0) (i := 0) (by decide +kernel : decode prog_29_method_89_code 0 = .ok (.aload_n 0, 1)) rfl)
set_option maxRecDepth 16384 in
theorem vi_64_1 (l : Launch) : ve_OK vs_A l 59 (ve_HI vs_A l 59 vs_M) (ve_CB vs_A l 59 (ve_HI vs_A l 59 vs_M) vs_M) "java/lang/StringBuilder" prog_29_method_89_code 2 none "setLength" 1 (ve_pu (ve_il 2 1)) := ve_pu_ok (ve_iload_n_ok (k := 1) (i := 1) (by decide +kernel : decode prog_29_method_89_code 1 = .ok (.iload_n 1, 1)) rfl)
set_option maxRecDepth 16384 in
theorem vi_64_2 (l : Launch) : ve_OK vs_A l 59 (ve_HI vs_A l 59 vs_M) (ve_CB vs_A l 59 (ve_HI vs_A l 59 vs_M) vs_M) "java/lang/StringBuilder" prog_29_method_89_code 2 none "setLength" 2 (ve_cw 59 2 5 [(36, 65)]) := ve_cw_ok rfl (List.forall_mem_cons.mpr ⟨ve_rowSU (md := vs_M) (A0 := vs_A) (mi := 65) (na := 1) (k := 36) (C := "java/lang/StringBuilder") (by decide +kernel : decode prog_29_method_89_code 2 = .ok (.invokespecial 333, 3)) (by decide) vw_419 vw_417 vw_85 vw_418 rfl vw_420 vw_243 (by decide) vf_39 vf_143 vf_29, List.forall_mem_nil _⟩)
set_option maxRecDepth 16384 in
theorem vi_64_5 (l : Launch) : ve_OK vs_A l 59 (ve_HI vs_A l 59 vs_M) (ve_CB vs_A l 59 (ve_HI vs_A l 59 vs_M) vs_M) "java/lang/StringBuilder" prog_29_method_89_code 2 none "setLength" 5 (ve_rt 0 .int) := ve_vret_ok (by decide +kernel : decode prog_29_method_89_code 5 = .ok (.return_, 1)) rfl
set_option maxRecDepth 16384 in
theorem vi_65_0 (l : Launch) : ve_OK vs_A l 59 (ve_HI vs_A l 59 vs_M) (ve_CB vs_A l 59 (ve_HI vs_A l 59 vs_M) vs_M) "java/lang/AbstractStringBuilder" prog_13_method_13_code 2 none "setLength" 0 (ve_pu (ve_il 1 1)) := ve_pu_ok (ve_iload_n_ok (k := 1) (i := 1) (by decide +kernel : decode prog_13_method_13_code 0 = .ok (.iload_n 1, 1)) rfl)
set_option maxRecDepth 16384 in
theorem vi_65_1 (l : Launch) : ve_OK vs_A l 59 (ve_HI vs_A l 59 vs_M) (ve_CB vs_A l 59 (ve_HI vs_A l 59 vs_M) vs_M) "java/lang/AbstractStringBuilder" prog_13_method_13_code 2 none "setLength" 1 (ve_pu (ve_br1 (fun x => decide (¬ x < 0)) 13 4)) := ve_pu_ok (ve_if_ge_ok (by decide +kernel : decode prog_13_method_13_code 1 = .ok (.ifCond .ge (12), 3)) (by decide +kernel))
set_option maxRecDepth 16384 in
theorem vi_65_13 (l : Launch) : ve_OK vs_A l 59 (ve_HI vs_A l 59 vs_M) (ve_CB vs_A l 59 (ve_HI vs_A l 59 vs_M) vs_M) "java/lang/AbstractStringBuilder" prog_13_method_13_code 2 none "setLength" 13 (ve_pu (ve_al 14 0)) := ve_pu_ok (ve_aload_n_ok (k := 0) (i := 0) (by decide +kernel : decode prog_13_method_13_code 13 = .ok (.aload_n 0, 1)) rfl)
set_option maxRecDepth 16384 in
theorem vi_65_14 (l : Launch) : ve_OK vs_A l 59 (ve_HI vs_A l 59 vs_M) (ve_CB vs_A l 59 (ve_HI vs_A l 59 vs_M) vs_M) "java/lang/AbstractStringBuilder" prog_13_method_13_code 2 none "setLength" 14 (ve_pu (ve_il 15 1)) := ve_pu_ok (ve_iload_n_ok (k := 1) (i := 1) (by decide +kernel : decode prog_13_method_13_code 14 = .ok (.iload_n 1, 1)) rfl)
set_option maxRecDepth 16384 in
theorem vi_65_15 (l : Launch) : ve_OK vs_A l 59 (ve_HI vs_A l 59 vs_M) (ve_CB vs_A l 59 (ve_HI vs_A l 59 vs_M) vs_M) "java/lang/AbstractStringBuilder" prog_13_method_13_code 2 none "setLength" 15 (ve_cw 59 2 18 [(36, 33)]) := ve_cw_ok rfl (List.forall_mem_cons.mpr ⟨ve_rowU (md := vs_M) (A0 := vs_A) (mi := 33) (na := 1) (k := 36) (C := "java/lang/StringBuilder") (owner := "java/lang/AbstractStringBuilder") (x := ⟨"java/lang/AbstractStringBuilder", "ensureCapacityInternal", "(I)V"⟩) (by decide +kernel : decode prog_13_method_13_code 15 = .ok (.invokevirtual 100, 3)) (by decide) vw_247 vw_245 vw_85 vw_246 rfl vw_248 vw_249 vf_145 ⟨by decide, by decide⟩ vf_39 vf_29, List.forall_mem_nil _⟩)
set_option maxRecDepth 16384 in
theorem vi_65_18 (l : Launch) : ve_OK vs_A l 59 (ve_HI vs_A l 59 vs_M) (ve_CB vs_A l 59 (ve_HI vs_A l 59 vs_M) vs_M) "java/lang/AbstractStringBuilder" prog_13_method_13_code 2 none "setLength" 18 (ve_pu (ve_al 19 0)) := ve_pu_ok (ve_aload_n_ok (k := 0) (i := 0) (by decide +kernel : decode prog_13_method_13_code 18 = .ok (.aload_n 0, 1)) rfl)
set_option maxRecDepth 16384 in
theorem vi_65_19 (l : Launch) : ve_OK vs_A l 59 (ve_HI vs_A l 59 vs_M) (ve_CB vs_A l 59 (ve_HI vs_A l 59 vs_M) vs_M) "java/lang/AbstractStringBuilder" prog_13_method_13_code 2 none "setLength" 19 (ve_gf 22 3) := ve_getf_ok (k := 3) (by decide +kernel : decode prog_13_method_13_code 19 = .ok (.getfield 79, 3)) vw_244 vf_144
set_option maxRecDepth 16384 in
theorem vi_65_22 (l : Launch) : ve_OK vs_A l 59 (ve_HI vs_A l 59 vs_M) (ve_CB vs_A l 59 (ve_HI vs_A l 59 vs_M) vs_M) "java/lang/AbstractStringBuilder" prog_13_method_13_code 2 none "setLength" 22 (ve_pu (ve_il 23 1)) := ve_pu_ok (ve_iload_n_ok (k := 1) (i := 1) (by decide +kernel : decode prog_13_method_13_code 22 = .ok (.iload_n 1, 1)) rfl)
set_option maxRecDepth 16384 in
theorem vi_65_23 (l : Launch) : ve_OK vs_A l 59 (ve_HI vs_A l 59 vs_M) (ve_CB vs_A l 59 (ve_HI vs_A l 59 vs_M) vs_M) "java/lang/AbstractStringBuilder" prog_13_method_13_code 2 none "setLength" 23 (ve_pu (ve_br2 (fun x y => decide (¬ x < y)) 63 26)) := ve_pu_ok (ve_icmp_ge_ok (by decide +kernel : decode prog_13_method_13_code 23 = .ok (.if_icmp .ge (40), 3)) (by decide +kernel))
set_option maxRecDepth 16384 in
theorem vi_65_63 (l : Launch) : ve_OK vs_A l 59 (ve_HI vs_A l 59 vs_M) (ve_CB vs_A l 59 (ve_HI vs_A l 59 vs_M) vs_M) "java/lang/AbstractStringBuilder" prog_13_method_13_code 2 none "setLength" 63 (ve_pu (ve_al 64 0)) := ve_pu_ok (ve_aload_n_ok (k := 0) (i := 0) (by decide +kernel : decode prog_13_method_13_code 63 = .ok (.aload_n 0, 1)) rfl)
set_option maxRecDepth 16384 in
theorem vi_65_64 (l : Launch) : ve_OK vs_A l 59 (ve_HI vs_A l 59 vs_M) (ve_CB vs_A l 59 (ve_HI vs_A l 59 vs_M) vs_M) "java/lang/AbstractStringBuilder" prog_13_method_13_code 2 none "setLength" 64 (ve_gf 67 3) := ve_getf_ok (k := 3) (by decide +kernel : decode prog_13_method_13_code 64 = .ok (.getfield 79, 3)) vw_244 vf_144
set_option maxRecDepth 16384 in
theorem vi_65_67 (l : Launch) : ve_OK vs_A l 59 (ve_HI vs_A l 59 vs_M) (ve_CB vs_A l 59 (ve_HI vs_A l 59 vs_M) vs_M) "java/lang/AbstractStringBuilder" prog_13_method_13_code 2 none "setLength" 67 (ve_pu (ve_il 68 1)) := ve_pu_ok (ve_iload_n_ok (k := 1) (i := 1) (by decide +kernel : decode prog_13_method_13_code 67 = .ok (.iload_n 1, 1)) rfl)
set_option maxRecDepth 16384 in
theorem vi_65_68 (l : Launch) : ve_OK vs_A l 59 (ve_HI vs_A l 59 vs_M) (ve_CB vs_A l 59 (ve_HI vs_A l 59 vs_M) vs_M) "java/lang/AbstractStringBuilder" prog_13_method_13_code 2 none "setLength" 68 (ve_pu (ve_br2 (fun x y => decide (¬ y < x)) 76 71)) := ve_pu_ok (ve_icmp_le_ok (by decide +kernel : decode prog_13_method_13_code 68 = .ok (.if_icmp .le (8), 3)) (by decide +kernel))
set_option maxRecDepth 16384 in
theorem vi_65_71 (l : Launch) : ve_OK vs_A l 59 (ve_HI vs_A l 59 vs_M) (ve_CB vs_A l 59 (ve_HI vs_A l 59 vs_M) vs_M) "java/lang/AbstractStringBuilder" prog_13_method_13_code 2 none "setLength" 71 (ve_pu (ve_al 72 0)) := ve_pu_ok (ve_aload_n_ok (k := 0) (i := 0) (by decide +kernel : decode prog_13_method_13_code 71 = .ok (.aload_n 0, 1)) rfl)
set_option maxRecDepth 16384 in
theorem vi_65_72 (l : Launch) : ve_OK vs_A l 59 (ve_HI vs_A l 59 vs_M) (ve_CB vs_A l 59 (ve_HI vs_A l 59 vs_M) vs_M) "java/lang/AbstractStringBuilder" prog_13_method_13_code 2 none "setLength" 72 (ve_pu (ve_push 73 (.int (1)))) := ve_pu_ok (ve_iconst_ok (n := 1) (v := 1) (by decide +kernel : decode prog_13_method_13_code 72 = .ok (.iconst (1), 1)) rfl)
set_option maxRecDepth 16384 in
theorem vi_65_73 (l : Launch) : ve_OK vs_A l 59 (ve_HI vs_A l 59 vs_M) (ve_CB vs_A l 59 (ve_HI vs_A l 59 vs_M) vs_M) "java/lang/AbstractStringBuilder" prog_13_method_13_code 2 none "setLength" 73 (ve_pf 76 2 [36] .boolean) := ve_putf_ok (by decide +kernel : decode prog_13_method_13_code 73 = .ok (.putfield 73, 3)) vw_421 vf_209 vf_208
set_option maxRecDepth 16384 in
theorem vi_65_76 (l : Launch) : ve_OK vs_A l 59 (ve_HI vs_A l 59 vs_M) (ve_CB vs_A l 59 (ve_HI vs_A l 59 vs_M) vs_M) "java/lang/AbstractStringBuilder" prog_13_method_13_code 2 none "setLength" 76 (ve_pu (ve_al 77 0)) := ve_pu_ok (ve_aload_n_ok (k := 0) (i := 0) (by decide +kernel : decode prog_13_method_13_code 76 = .ok (.aload_n 0, 1)) rfl)
set_option maxRecDepth 16384 in
theorem vi_65_77 (l : Launch) : ve_OK vs_A l 59 (ve_HI vs_A l 59 vs_M) (ve_CB vs_A l 59 (ve_HI vs_A l 59 vs_M) vs_M) "java/lang/AbstractStringBuilder" prog_13_method_13_code 2 none "setLength" 77 (ve_pu (ve_il 78 1)) := ve_pu_ok (ve_iload_n_ok (k := 1) (i := 1) (by decide +kernel : decode prog_13_method_13_code 77 = .ok (.iload_n 1, 1)) rfl)
set_option maxRecDepth 16384 in
theorem vi_65_78 (l : Launch) : ve_OK vs_A l 59 (ve_HI vs_A l 59 vs_M) (ve_CB vs_A l 59 (ve_HI vs_A l 59 vs_M) vs_M) "java/lang/AbstractStringBuilder" prog_13_method_13_code 2 none "setLength" 78 (ve_pf 81 3 [36] .int) := ve_putf_ok (by decide +kernel : decode prog_13_method_13_code 78 = .ok (.putfield 79, 3)) vw_244 vf_151 vf_150
set_option maxRecDepth 16384 in
theorem vi_65_81 (l : Launch) : ve_OK vs_A l 59 (ve_HI vs_A l 59 vs_M) (ve_CB vs_A l 59 (ve_HI vs_A l 59 vs_M) vs_M) "java/lang/AbstractStringBuilder" prog_13_method_13_code 2 none "setLength" 81 (ve_rt 0 .int) := ve_vret_ok (by decide +kernel : decode prog_13_method_13_code 81 = .ok (.return_, 1)) rfl
set_option maxRecDepth 16384 in
theorem vi_66_0 (l : Launch) : ve_OK vs_A l 59 (ve_HI vs_A l 59 vs_M) (ve_CB vs_A l 59 (ve_HI vs_A l 59 vs_M) vs_M) "Orderbench" prog_1_method_50_code 3 none "writeRow" 0 (ve_pu (ve_push 1 (.int (0)))) := ve_pu_ok (ve_iconst_ok (n := 0) (v := 0) (by decide +kernel : decode prog_1_method_50_code 0 = .ok (.iconst (0), 1)) rfl)
set_option maxRecDepth 16384 in
theorem vi_66_1 (l : Launch) : ve_OK vs_A l 59 (ve_HI vs_A l 59 vs_M) (ve_CB vs_A l 59 (ve_HI vs_A l 59 vs_M) vs_M) "Orderbench" prog_1_method_50_code 3 none "writeRow" 1 (ve_pu (ve_is 2 2 3)) := ve_pu_ok (ve_istore_n_ok (k := 2) (i := 2) (by decide +kernel : decode prog_1_method_50_code 1 = .ok (.istore_n 2, 1)) rfl)
set_option maxRecDepth 16384 in
theorem vi_66_2 (l : Launch) : ve_OK vs_A l 59 (ve_HI vs_A l 59 vs_M) (ve_CB vs_A l 59 (ve_HI vs_A l 59 vs_M) vs_M) "Orderbench" prog_1_method_50_code 3 none "writeRow" 2 (ve_pu (ve_il 3 2)) := ve_pu_ok (ve_iload_n_ok (k := 2) (i := 2) (by decide +kernel : decode prog_1_method_50_code 2 = .ok (.iload_n 2, 1)) rfl)
set_option maxRecDepth 16384 in
theorem vi_66_3 (l : Launch) : ve_OK vs_A l 59 (ve_HI vs_A l 59 vs_M) (ve_CB vs_A l 59 (ve_HI vs_A l 59 vs_M) vs_M) "Orderbench" prog_1_method_50_code 3 none "writeRow" 3 (ve_pu (ve_al 4 1)) := ve_pu_ok (ve_aload_n_ok (k := 1) (i := 1) (by decide +kernel : decode prog_1_method_50_code 3 = .ok (.aload_n 1, 1)) rfl)
set_option maxRecDepth 16384 in
theorem vi_66_4 (l : Launch) : ve_OK vs_A l 59 (ve_HI vs_A l 59 vs_M) (ve_CB vs_A l 59 (ve_HI vs_A l 59 vs_M) vs_M) "Orderbench" prog_1_method_50_code 3 none "writeRow" 4 (ve_gf 7 1) := ve_getfN_ok (k := 1) (by decide +kernel : decode prog_1_method_50_code 4 = .ok (.getfield 64, 3)) vw_372 vf_192
set_option maxRecDepth 16384 in
theorem vi_66_7 (l : Launch) : ve_OK vs_A l 59 (ve_HI vs_A l 59 vs_M) (ve_CB vs_A l 59 (ve_HI vs_A l 59 vs_M) vs_M) "Orderbench" prog_1_method_50_code 3 none "writeRow" 7 (ve_pu (ve_br2 (fun x y => decide (¬ x < y)) 39 10)) := ve_pu_ok (ve_icmp_ge_ok (by decide +kernel : decode prog_1_method_50_code 7 = .ok (.if_icmp .ge (32), 3)) (by decide +kernel))
set_option maxRecDepth 16384 in
theorem vi_66_39 (l : Launch) : ve_OK vs_A l 59 (ve_HI vs_A l 59 vs_M) (ve_CB vs_A l 59 (ve_HI vs_A l 59 vs_M) vs_M) "Orderbench" prog_1_method_50_code 3 none "writeRow" 39 (ve_rt 0 .int) := ve_vret_ok (by decide +kernel : decode prog_1_method_50_code 39 = .ok (.return_, 1)) rfl
set_option maxRecDepth 16384 in
theorem vi_67_0 (l : Launch) : ve_OK vs_A l 59 (ve_HI vs_A l 59 vs_M) (ve_CB vs_A l 59 (ve_HI vs_A l 59 vs_M) vs_M) "Orderbench" prog_1_method_71_code 6 (some .long) "digestSigns" 0 (ve_pu (ve_ll 1 1)) := ve_pu_ok (ve_lload_n_ok (k := 1) (i := 1) (by decide +kernel : decode prog_1_method_71_code 0 = .ok (.lload_n 1, 1)) rfl)
set_option maxRecDepth 16384 in
theorem vi_67_1 (l : Launch) : ve_OK vs_A l 59 (ve_HI vs_A l 59 vs_M) (ve_CB vs_A l 59 (ve_HI vs_A l 59 vs_M) vs_M) "Orderbench" prog_1_method_71_code 6 (some .long) "digestSigns" 1 (ve_pu (ve_ls 2 3 6)) := ve_pu_ok (ve_lstore_n_ok (k := 3) (i := 3) (by decide +kernel : decode prog_1_method_71_code 1 = .ok (.lstore_n 3, 1)) rfl)
set_option maxRecDepth 16384 in
theorem vi_67_2 (l : Launch) : ve_OK vs_A l 59 (ve_HI vs_A l 59 vs_M) (ve_CB vs_A l 59 (ve_HI vs_A l 59 vs_M) vs_M) "Orderbench" prog_1_method_71_code 6 (some .long) "digestSigns" 2 (ve_pu (ve_push 3 (.int (0)))) := ve_pu_ok (ve_iconst_ok (n := 0) (v := 0) (by decide +kernel : decode prog_1_method_71_code 2 = .ok (.iconst (0), 1)) rfl)
set_option maxRecDepth 16384 in
theorem vi_67_3 (l : Launch) : ve_OK vs_A l 59 (ve_HI vs_A l 59 vs_M) (ve_CB vs_A l 59 (ve_HI vs_A l 59 vs_M) vs_M) "Orderbench" prog_1_method_71_code 6 (some .long) "digestSigns" 3 (ve_pu (ve_is 5 5 6)) := ve_pu_ok (ve_istore_ok (by decide +kernel : decode prog_1_method_71_code 3 = .ok (.istore 5, 2)))
set_option maxRecDepth 16384 in
theorem vi_67_5 (l : Launch) : ve_OK vs_A l 59 (ve_HI vs_A l 59 vs_M) (ve_CB vs_A l 59 (ve_HI vs_A l 59 vs_M) vs_M) "Orderbench" prog_1_method_71_code 6 (some .long) "digestSigns" 5 (ve_pu (ve_il 7 5)) := ve_pu_ok (ve_iload_ok (by decide +kernel : decode prog_1_method_71_code 5 = .ok (.iload 5, 2)))
set_option maxRecDepth 16384 in
theorem vi_67_7 (l : Launch) : ve_OK vs_A l 59 (ve_HI vs_A l 59 vs_M) (ve_CB vs_A l 59 (ve_HI vs_A l 59 vs_M) vs_M) "Orderbench" prog_1_method_71_code 6 (some .long) "digestSigns" 7 (ve_pu (ve_al 8 0)) := ve_pu_ok (ve_aload_n_ok (k := 0) (i := 0) (by decide +kernel : decode prog_1_method_71_code 7 = .ok (.aload_n 0, 1)) rfl)
set_option maxRecDepth 16384 in
theorem vi_67_8 (l : Launch) : ve_OK vs_A l 59 (ve_HI vs_A l 59 vs_M) (ve_CB vs_A l 59 (ve_HI vs_A l 59 vs_M) vs_M) "Orderbench" prog_1_method_71_code 6 (some .long) "digestSigns" 8 (ve_gf 11 5) := ve_getf_ok (k := 5) (by decide +kernel : decode prog_1_method_71_code 8 = .ok (.getfield 41, 3)) vw_73 vf_199
set_option maxRecDepth 16384 in
theorem vi_67_11 (l : Launch) : ve_OK vs_A l 59 (ve_HI vs_A l 59 vs_M) (ve_CB vs_A l 59 (ve_HI vs_A l 59 vs_M) vs_M) "Orderbench" prog_1_method_71_code 6 (some .long) "digestSigns" 11 (ve_cw 59 1 14 [(36, 47)]) := ve_cw_ok rfl (List.forall_mem_cons.mpr ⟨ve_rowU (md := vs_M) (A0 := vs_A) (mi := 47) (na := 0) (k := 36) (C := "java/lang/StringBuilder") (owner := "java/lang/StringBuilder") (x := ⟨"java/lang/StringBuilder", "length", "()I"⟩) (by decide +kernel : decode prog_1_method_71_code 11 = .ok (.invokevirtual 307, 3)) (by decide) vw_422 vw_315 vw_69 vw_316 rfl vw_423 vw_424 vf_210 ⟨by decide, by decide⟩ vf_39 vf_11, List.forall_mem_nil _⟩)
set_option maxRecDepth 16384 in
theorem vi_67_14 (l : Launch) : ve_OK vs_A l 59 (ve_HI vs_A l 59 vs_M) (ve_CB vs_A l 59 (ve_HI vs_A l 59 vs_M) vs_M) "Orderbench" prog_1_method_71_code 6 (some .long) "digestSigns" 14 (ve_pu (ve_br2 (fun x y => decide (¬ x < y)) 40 17)) := ve_pu_ok (ve_icmp_ge_ok (by decide +kernel : decode prog_1_method_71_code 14 = .ok (.if_icmp .ge (26), 3)) (by decide +kernel))
set_option maxRecDepth 16384 in
theorem vi_67_17 (l : Launch) : ve_OK vs_A l 59 (ve_HI vs_A l 59 vs_M) (ve_CB vs_A l 59 (ve_HI vs_A l 59 vs_M) vs_M) "Orderbench" prog_1_method_71_code 6 (some .long) "digestSigns" 17 (ve_pu (ve_ll 18 3)) := ve_pu_ok (ve_lload_n_ok (k := 3) (i := 3) (by decide +kernel : decode prog_1_method_71_code 17 = .ok (.lload_n 3, 1)) rfl)
set_option maxRecDepth 16384 in
theorem vi_67_18 (l : Launch) : ve_OK vs_A l 59 (ve_HI vs_A l 59 vs_M) (ve_CB vs_A l 59 (ve_HI vs_A l 59 vs_M) vs_M) "Orderbench" prog_1_method_71_code 6 (some .long) "digestSigns" 18 (ve_pu (ve_push 21 (.long (31)))) := ve_cu_ok (ve_ldc2_ok (v := 31) (by decide +kernel : decode prog_1_method_71_code 18 = .ok (.ldc2_w 228, 3)) vw_351)
set_option maxRecDepth 16384 in
theorem vi_67_21 (l : Launch) : ve_OK vs_A l 59 (ve_HI vs_A l 59 vs_M) (ve_CB vs_A l 59 (ve_HI vs_A l 59 vs_M) vs_M) "Orderbench" prog_1_method_71_code 6 (some .long) "digestSigns" 21 (ve_pu (ve_lmul 22)) := ve_pu_ok (ve_lmul_ok (by decide +kernel : decode prog_1_method_71_code 21 = .ok (.lmul, 1)))
set_option maxRecDepth 16384 in
theorem vi_67_22 (l : Launch) : ve_OK vs_A l 59 (ve_HI vs_A l 59 vs_M) (ve_CB vs_A l 59 (ve_HI vs_A l 59 vs_M) vs_M) "Orderbench" prog_1_method_71_code 6 (some .long) "digestSigns" 22 (ve_pu (ve_al 23 0)) := ve_pu_ok (ve_aload_n_ok (k := 0) (i := 0) (by decide +kernel : decode prog_1_method_71_code 22 = .ok (.aload_n 0, 1)) rfl)
set_option maxRecDepth 16384 in
theorem vi_67_23 (l : Launch) : ve_OK vs_A l 59 (ve_HI vs_A l 59 vs_M) (ve_CB vs_A l 59 (ve_HI vs_A l 59 vs_M) vs_M) "Orderbench" prog_1_method_71_code 6 (some .long) "digestSigns" 23 (ve_gf 26 5) := ve_getf_ok (k := 5) (by decide +kernel : decode prog_1_method_71_code 23 = .ok (.getfield 41, 3)) vw_73 vf_199
set_option maxRecDepth 16384 in
theorem vi_67_26 (l : Launch) : ve_OK vs_A l 59 (ve_HI vs_A l 59 vs_M) (ve_CB vs_A l 59 (ve_HI vs_A l 59 vs_M) vs_M) "Orderbench" prog_1_method_71_code 6 (some .long) "digestSigns" 26 (ve_pu (ve_il 28 5)) := ve_pu_ok (ve_iload_ok (by decide +kernel : decode prog_1_method_71_code 26 = .ok (.iload 5, 2)))
set_option maxRecDepth 16384 in
theorem vi_67_28 (l : Launch) : ve_OK vs_A l 59 (ve_HI vs_A l 59 vs_M) (ve_CB vs_A l 59 (ve_HI vs_A l 59 vs_M) vs_M) "Orderbench" prog_1_method_71_code 6 (some .long) "digestSigns" 28 (ve_cw 59 2 31 [(36, 82)]) := ve_cw_ok rfl (List.forall_mem_cons.mpr ⟨ve_rowU (md := vs_M) (A0 := vs_A) (mi := 82) (na := 1) (k := 36) (C := "java/lang/StringBuilder") (owner := "java/lang/StringBuilder") (x := ⟨"java/lang/StringBuilder", "charAt", "(I)C"⟩) (by decide +kernel : decode prog_1_method_71_code 28 = .ok (.invokevirtual 308, 3)) (by decide) vw_427 vw_425 vw_69 vw_426 rfl vw_428 vw_429 vf_212 ⟨by decide, by decide⟩ vf_39 vf_211, List.forall_mem_nil _⟩)
set_option maxRecDepth 16384 in
theorem vi_67_31 (l : Launch) : ve_OK vs_A l 59 (ve_HI vs_A l 59 vs_M) (ve_CB vs_A l 59 (ve_HI vs_A l 59 vs_M) vs_M) "Orderbench" prog_1_method_71_code 6 (some .long) "digestSigns" 31 (ve_pu (ve_i2l 32)) := ve_pu_ok (ve_i2l_ok (by decide +kernel : decode prog_1_method_71_code 31 = .ok (.i2l, 1)))
set_option maxRecDepth 16384 in
theorem vi_67_32 (l : Launch) : ve_OK vs_A l 59 (ve_HI vs_A l 59 vs_M) (ve_CB vs_A l 59 (ve_HI vs_A l 59 vs_M) vs_M) "Orderbench" prog_1_method_71_code 6 (some .long) "digestSigns" 32 (ve_pu (ve_ladd 33)) := ve_pu_ok (ve_ladd_ok (by decide +kernel : decode prog_1_method_71_code 32 = .ok (.ladd, 1)))
set_option maxRecDepth 16384 in
theorem vi_67_33 (l : Launch) : ve_OK vs_A l 59 (ve_HI vs_A l 59 vs_M) (ve_CB vs_A l 59 (ve_HI vs_A l 59 vs_M) vs_M) "Orderbench" prog_1_method_71_code 6 (some .long) "digestSigns" 33 (ve_pu (ve_ls 34 3 6)) := ve_pu_ok (ve_lstore_n_ok (k := 3) (i := 3) (by decide +kernel : decode prog_1_method_71_code 33 = .ok (.lstore_n 3, 1)) rfl)
set_option maxRecDepth 16384 in
theorem vi_67_34 (l : Launch) : ve_OK vs_A l 59 (ve_HI vs_A l 59 vs_M) (ve_CB vs_A l 59 (ve_HI vs_A l 59 vs_M) vs_M) "Orderbench" prog_1_method_71_code 6 (some .long) "digestSigns" 34 (ve_pu (ve_ii 37 5 6 (1))) := ve_pu_ok (ve_iinc_ok (by decide +kernel : decode prog_1_method_71_code 34 = .ok (.iinc 5 (1), 3)))
set_option maxRecDepth 16384 in
theorem vi_67_37 (l : Launch) : ve_OK vs_A l 59 (ve_HI vs_A l 59 vs_M) (ve_CB vs_A l 59 (ve_HI vs_A l 59 vs_M) vs_M) "Orderbench" prog_1_method_71_code 6 (some .long) "digestSigns" 37 (ve_pu (ve_jmp 5)) := ve_pu_ok (ve_goto_ok (by decide +kernel : decode prog_1_method_71_code 37 = .ok (.goto (-32), 3)) (by decide +kernel))
set_option maxRecDepth 16384 in
theorem vi_67_40 (l : Launch) : ve_OK vs_A l 59 (ve_HI vs_A l 59 vs_M) (ve_CB vs_A l 59 (ve_HI vs_A l 59 vs_M) vs_M) "Orderbench" prog_1_method_71_code 6 (some .long) "digestSigns" 40 (ve_pu (ve_ll 41 3)) := ve_pu_ok (ve_lload_n_ok (k := 3) (i := 3) (by decide +kernel : decode prog_1_method_71_code 40 = .ok (.lload_n 3, 1)) rfl)
set_option maxRecDepth 16384 in
theorem vi_67_41 (l : Launch) : ve_OK vs_A l 59 (ve_HI vs_A l 59 vs_M) (ve_CB vs_A l 59 (ve_HI vs_A l 59 vs_M) vs_M) "Orderbench" prog_1_method_71_code 6 (some .long) "digestSigns" 41 (ve_rt 2 .long) := ve_lret_ok (by decide +kernel : decode prog_1_method_71_code 41 = .ok (.lreturn, 1)) rfl
set_option maxRecDepth 16384 in
theorem vi_68_0 (l : Launch) : ve_OK vs_A l 59 (ve_HI vs_A l 59 vs_M) (ve_CB vs_A l 59 (ve_HI vs_A l 59 vs_M) vs_M) "Orderbench" prog_1_method_59_code 2 (some .boolean) "liesSorted" 0 (ve_pu (ve_al 1 0)) := ve_pu_ok (ve_aload_n_ok (k := 0) (i := 0) (by decide +kernel : decode prog_1_method_59_code 0 = .ok (.aload_n 0, 1)) rfl)
set_option maxRecDepth 16384 in
theorem vi_68_1 (l : Launch) : ve_OK vs_A l 59 (ve_HI vs_A l 59 vs_M) (ve_CB vs_A l 59 (ve_HI vs_A l 59 vs_M) vs_M) "Orderbench" prog_1_method_59_code 2 (some .boolean) "liesSorted" 1 (ve_pu (ve_al 2 1)) := ve_pu_ok (ve_aload_n_ok (k := 1) (i := 1) (by decide +kernel : decode prog_1_method_59_code 1 = .ok (.aload_n 1, 1)) rfl)
set_option maxRecDepth 16384 in
theorem vi_68_2 (l : Launch) : ve_OK vs_A l 59 (ve_HI vs_A l 59 vs_M) (ve_CB vs_A l 59 (ve_HI vs_A l 59 vs_M) vs_M) "Orderbench" prog_1_method_59_code 2 (some .boolean) "liesSorted" 2 (ve_cl 59 69 2 5) := ve_cl_ok (ve_rowS (md := vs_M) (A0 := vs_A) (mi := 69) (by decide +kernel : decode prog_1_method_59_code 2 = .ok (.invokestatic 104, 3)) (by decide) vw_430 vw_431 vw_2 vw_432 rfl ⟨by decide, by decide⟩ vf_205)
set_option maxRecDepth 16384 in
theorem vi_68_5 (l : Launch) : ve_OK vs_A l 59 (ve_HI vs_A l 59 vs_M) (ve_CB vs_A l 59 (ve_HI vs_A l 59 vs_M) vs_M) "Orderbench" prog_1_method_59_code 2 (some .boolean) "liesSorted" 5 (ve_pu (ve_br1 (fun x => decide (x = 0)) 20 8)) := ve_pu_ok (ve_if_eq_ok (by decide +kernel : decode prog_1_method_59_code 5 = .ok (.ifCond .eq (15), 3)) (by decide +kernel))
set_option maxRecDepth 16384 in
theorem vi_68_8 (l : Launch) : ve_OK vs_A l 59 (ve_HI vs_A l 59 vs_M) (ve_CB vs_A l 59 (ve_HI vs_A l 59 vs_M) vs_M) "Orderbench" prog_1_method_59_code 2 (some .boolean) "liesSorted" 8 (ve_pu (ve_al 9 0)) := ve_pu_ok (ve_aload_n_ok (k := 0) (i := 0) (by decide +kernel : decode prog_1_method_59_code 8 = .ok (.aload_n 0, 1)) rfl)
set_option maxRecDepth 16384 in
theorem vi_68_9 (l : Launch) : ve_OK vs_A l 59 (ve_HI vs_A l 59 vs_M) (ve_CB vs_A l 59 (ve_HI vs_A l 59 vs_M) vs_M) "Orderbench" prog_1_method_59_code 2 (some .boolean) "liesSorted" 9 (ve_pu (ve_al 10 1)) := ve_pu_ok (ve_aload_n_ok (k := 1) (i := 1) (by decide +kernel : decode prog_1_method_59_code 9 = .ok (.aload_n 1, 1)) rfl)
set_option maxRecDepth 16384 in
theorem vi_68_10 (l : Launch) : ve_OK vs_A l 59 (ve_HI vs_A l 59 vs_M) (ve_CB vs_A l 59 (ve_HI vs_A l 59 vs_M) vs_M) "Orderbench" prog_1_method_59_code 2 (some .boolean) "liesSorted" 10 (ve_cl 59 70 2 13) := ve_cl_ok (ve_rowS (md := vs_M) (A0 := vs_A) (mi := 70) (by decide +kernel : decode prog_1_method_59_code 10 = .ok (.invokestatic 290, 3)) (by decide) vw_433 vw_434 vw_2 vw_435 rfl ⟨by decide, by decide⟩ vf_205)
set_option maxRecDepth 16384 in
theorem vi_68_13 (l : Launch) : ve_OK vs_A l 59 (ve_HI vs_A l 59 vs_M) (ve_CB vs_A l 59 (ve_HI vs_A l 59 vs_M) vs_M) "Orderbench" prog_1_method_59_code 2 (some .boolean) "liesSorted" 13 (ve_pu (ve_br1 (fun x => decide (x = 0)) 20 16)) := ve_pu_ok (ve_if_eq_ok (by decide +kernel : decode prog_1_method_59_code 13 = .ok (.ifCond .eq (7), 3)) (by decide +kernel))
set_option maxRecDepth 16384 in
theorem vi_68_16 (l : Launch) : ve_OK vs_A l 59 (ve_HI vs_A l 59 vs_M) (ve_CB vs_A l 59 (ve_HI vs_A l 59 vs_M) vs_M) "Orderbench" prog_1_method_59_code 2 (some .boolean) "liesSorted" 16 (ve_pu (ve_push 17 (.int (1)))) := ve_pu_ok (ve_iconst_ok (n := 1) (v := 1) (by decide +kernel : decode prog_1_method_59_code 16 = .ok (.iconst (1), 1)) rfl)
set_option maxRecDepth 16384 in
theorem vi_68_17 (l : Launch) : ve_OK vs_A l 59 (ve_HI vs_A l 59 vs_M) (ve_CB vs_A l 59 (ve_HI vs_A l 59 vs_M) vs_M) "Orderbench" prog_1_method_59_code 2 (some .boolean) "liesSorted" 17 (ve_pu (ve_jmp 21)) := ve_pu_ok (ve_goto_ok (by decide +kernel : decode prog_1_method_59_code 17 = .ok (.goto (4), 3)) (by decide +kernel))
set_option maxRecDepth 16384 in
theorem vi_68_21 (l : Launch) : ve_OK vs_A l 59 (ve_HI vs_A l 59 vs_M) (ve_CB vs_A l 59 (ve_HI vs_A l 59 vs_M) vs_M) "Orderbench" prog_1_method_59_code 2 (some .boolean) "liesSorted" 21 (ve_rt 1 .boolean) := ve_iret_ok (by decide +kernel : decode prog_1_method_59_code 21 = .ok (.ireturn, 1)) rfl
set_option maxRecDepth 16384 in
theorem vi_69_0 (l : Launch) : ve_OK vs_A l 59 (ve_HI vs_A l 59 vs_M) (ve_CB vs_A l 59 (ve_HI vs_A l 59 vs_M) vs_M) "Orderbench" prog_1_method_55_code 2 (some .boolean) "takes" 0 (ve_pu (ve_al 1 0)) := ve_pu_ok (ve_aload_n_ok (k := 0) (i := 0) (by decide +kernel : decode prog_1_method_55_code 0 = .ok (.aload_n 0, 1)) rfl)
set_option maxRecDepth 16384 in
theorem vi_69_1 (l : Launch) : ve_OK vs_A l 59 (ve_HI vs_A l 59 vs_M) (ve_CB vs_A l 59 (ve_HI vs_A l 59 vs_M) vs_M) "Orderbench" prog_1_method_55_code 2 (some .boolean) "takes" 1 (ve_gf 4 1) := ve_getfN_ok (k := 1) (by decide +kernel : decode prog_1_method_55_code 1 = .ok (.getfield 64, 3)) vw_372 vf_192
set_option maxRecDepth 16384 in
theorem vi_69_4 (l : Launch) : ve_OK vs_A l 59 (ve_HI vs_A l 59 vs_M) (ve_CB vs_A l 59 (ve_HI vs_A l 59 vs_M) vs_M) "Orderbench" prog_1_method_55_code 2 (some .boolean) "takes" 4 (ve_pu (ve_push 5 (.int (2)))) := ve_pu_ok (ve_iconst_ok (n := 2) (v := 2) (by decide +kernel : decode prog_1_method_55_code 4 = .ok (.iconst (2), 1)) rfl)
set_option maxRecDepth 16384 in
theorem vi_69_5 (l : Launch) : ve_OK vs_A l 59 (ve_HI vs_A l 59 vs_M) (ve_CB vs_A l 59 (ve_HI vs_A l 59 vs_M) vs_M) "Orderbench" prog_1_method_55_code 2 (some .boolean) "takes" 5 (ve_pu (ve_br2 (fun x y => decide (x < y)) 16 8)) := ve_pu_ok (ve_icmp_lt_ok (by decide +kernel : decode prog_1_method_55_code 5 = .ok (.if_icmp .lt (11), 3)) (by decide +kernel))
set_option maxRecDepth 16384 in
theorem vi_69_16 (l : Launch) : ve_OK vs_A l 59 (ve_HI vs_A l 59 vs_M) (ve_CB vs_A l 59 (ve_HI vs_A l 59 vs_M) vs_M) "Orderbench" prog_1_method_55_code 2 (some .boolean) "takes" 16 (ve_pu (ve_push 17 (.int (1)))) := ve_pu_ok (ve_iconst_ok (n := 1) (v := 1) (by decide +kernel : decode prog_1_method_55_code 16 = .ok (.iconst (1), 1)) rfl)
set_option maxRecDepth 16384 in
theorem vi_69_17 (l : Launch) : ve_OK vs_A l 59 (ve_HI vs_A l 59 vs_M) (ve_CB vs_A l 59 (ve_HI vs_A l 59 vs_M) vs_M) "Orderbench" prog_1_method_55_code 2 (some .boolean) "takes" 17 (ve_pu (ve_jmp 21)) := ve_pu_ok (ve_goto_ok (by decide +kernel : decode prog_1_method_55_code 17 = .ok (.goto (4), 3)) (by decide +kernel))
set_option maxRecDepth 16384 in
theorem vi_69_21 (l : Launch) : ve_OK vs_A l 59 (ve_HI vs_A l 59 vs_M) (ve_CB vs_A l 59 (ve_HI vs_A l 59 vs_M) vs_M) "Orderbench" prog_1_method_55_code 2 (some .boolean) "takes" 21 (ve_rt 1 .boolean) := ve_iret_ok (by decide +kernel : decode prog_1_method_55_code 21 = .ok (.ireturn, 1)) rfl
set_option maxRecDepth 16384 in
theorem vi_70_0 (l : Launch) : ve_OK vs_A l 59 (ve_HI vs_A l 59 vs_M) (ve_CB vs_A l 59 (ve_HI vs_A l 59 vs_M) vs_M) "Orderbench" prog_1_method_60_code 3 (some .boolean) "isAscending" 0 (ve_pu (ve_push 1 (.int (1)))) := ve_pu_ok (ve_iconst_ok (n := 1) (v := 1) (by decide +kernel : decode prog_1_method_60_code 0 = .ok (.iconst (1), 1)) rfl)
set_option maxRecDepth 16384 in
theorem vi_70_1 (l : Launch) : ve_OK vs_A l 59 (ve_HI vs_A l 59 vs_M) (ve_CB vs_A l 59 (ve_HI vs_A l 59 vs_M) vs_M) "Orderbench" prog_1_method_60_code 3 (some .boolean) "isAscending" 1 (ve_pu (ve_is 2 2 3)) := ve_pu_ok (ve_istore_n_ok (k := 2) (i := 2) (by decide +kernel : decode prog_1_method_60_code 1 = .ok (.istore_n 2, 1)) rfl)
set_option maxRecDepth 16384 in
theorem vi_70_2 (l : Launch) : ve_OK vs_A l 59 (ve_HI vs_A l 59 vs_M) (ve_CB vs_A l 59 (ve_HI vs_A l 59 vs_M) vs_M) "Orderbench" prog_1_method_60_code 3 (some .boolean) "isAscending" 2 (ve_pu (ve_il 3 2)) := ve_pu_ok (ve_iload_n_ok (k := 2) (i := 2) (by decide +kernel : decode prog_1_method_60_code 2 = .ok (.iload_n 2, 1)) rfl)
set_option maxRecDepth 16384 in
theorem vi_70_3 (l : Launch) : ve_OK vs_A l 59 (ve_HI vs_A l 59 vs_M) (ve_CB vs_A l 59 (ve_HI vs_A l 59 vs_M) vs_M) "Orderbench" prog_1_method_60_code 3 (some .boolean) "isAscending" 3 (ve_pu (ve_al 4 0)) := ve_pu_ok (ve_aload_n_ok (k := 0) (i := 0) (by decide +kernel : decode prog_1_method_60_code 3 = .ok (.aload_n 0, 1)) rfl)
set_option maxRecDepth 16384 in
theorem vi_70_4 (l : Launch) : ve_OK vs_A l 59 (ve_HI vs_A l 59 vs_M) (ve_CB vs_A l 59 (ve_HI vs_A l 59 vs_M) vs_M) "Orderbench" prog_1_method_60_code 3 (some .boolean) "isAscending" 4 (ve_gf 7 1) := ve_getfN_ok (k := 1) (by decide +kernel : decode prog_1_method_60_code 4 = .ok (.getfield 64, 3)) vw_372 vf_192
set_option maxRecDepth 16384 in
theorem vi_70_7 (l : Launch) : ve_OK vs_A l 59 (ve_HI vs_A l 59 vs_M) (ve_CB vs_A l 59 (ve_HI vs_A l 59 vs_M) vs_M) "Orderbench" prog_1_method_60_code 3 (some .boolean) "isAscending" 7 (ve_pu (ve_br2 (fun x y => decide (¬ x < y)) 38 10)) := ve_pu_ok (ve_icmp_ge_ok (by decide +kernel : decode prog_1_method_60_code 7 = .ok (.if_icmp .ge (31), 3)) (by decide +kernel))
set_option maxRecDepth 16384 in
theorem vi_70_38 (l : Launch) : ve_OK vs_A l 59 (ve_HI vs_A l 59 vs_M) (ve_CB vs_A l 59 (ve_HI vs_A l 59 vs_M) vs_M) "Orderbench" prog_1_method_60_code 3 (some .boolean) "isAscending" 38 (ve_pu (ve_push 39 (.int (1)))) := ve_pu_ok (ve_iconst_ok (n := 1) (v := 1) (by decide +kernel : decode prog_1_method_60_code 38 = .ok (.iconst (1), 1)) rfl)
set_option maxRecDepth 16384 in
theorem vi_70_39 (l : Launch) : ve_OK vs_A l 59 (ve_HI vs_A l 59 vs_M) (ve_CB vs_A l 59 (ve_HI vs_A l 59 vs_M) vs_M) "Orderbench" prog_1_method_60_code 3 (some .boolean) "isAscending" 39 (ve_rt 1 .boolean) := ve_iret_ok (by decide +kernel : decode prog_1_method_60_code 39 = .ok (.ireturn, 1)) rfl
set_option maxRecDepth 16384 in
theorem vi_71_0 (l : Launch) : ve_OK vs_A l 59 (ve_HI vs_A l 59 vs_M) (ve_CB vs_A l 59 (ve_HI vs_A l 59 vs_M) vs_M) "Orderbench" prog_1_method_63_code 4 (some .int) "classesOf" 0 (ve_pu (ve_al 1 0)) := ve_pu_ok (ve_aload_n_ok (k := 0) (i := 0) (by decide +kernel : decode prog_1_method_63_code 0 = .ok (.aload_n 0, 1)) rfl)
set_option maxRecDepth 16384 in
theorem vi_71_1 (l : Launch) : ve_OK vs_A l 59 (ve_HI vs_A l 59 vs_M) (ve_CB vs_A l 59 (ve_HI vs_A l 59 vs_M) vs_M) "Orderbench" prog_1_method_63_code 4 (some .int) "classesOf" 1 (ve_pu (ve_al 2 1)) := ve_pu_ok (ve_aload_n_ok (k := 1) (i := 1) (by decide +kernel : decode prog_1_method_63_code 1 = .ok (.aload_n 1, 1)) rfl)
set_option maxRecDepth 16384 in
theorem vi_71_2 (l : Launch) : ve_OK vs_A l 59 (ve_HI vs_A l 59 vs_M) (ve_CB vs_A l 59 (ve_HI vs_A l 59 vs_M) vs_M) "Orderbench" prog_1_method_63_code 4 (some .int) "classesOf" 2 (ve_cl 59 72 2 5) := ve_cl_ok (ve_rowS (md := vs_M) (A0 := vs_A) (mi := 72) (by decide +kernel : decode prog_1_method_63_code 2 = .ok (.invokestatic 212, 3)) (by decide) vw_436 vw_437 vw_2 vw_438 rfl ⟨by decide, by decide⟩ vf_205)
set_option maxRecDepth 16384 in
theorem vi_71_5 (l : Launch) : ve_OK vs_A l 59 (ve_HI vs_A l 59 vs_M) (ve_CB vs_A l 59 (ve_HI vs_A l 59 vs_M) vs_M) "Orderbench" prog_1_method_63_code 4 (some .int) "classesOf" 5 (ve_pu (ve_br1 (fun x => decide (¬ x = 0)) 11 8)) := ve_pu_ok (ve_if_ne_ok (by decide +kernel : decode prog_1_method_63_code 5 = .ok (.ifCond .ne (6), 3)) (by decide +kernel))
set_option maxRecDepth 16384 in
theorem vi_71_11 (l : Launch) : ve_OK vs_A l 59 (ve_HI vs_A l 59 vs_M) (ve_CB vs_A l 59 (ve_HI vs_A l 59 vs_M) vs_M) "Orderbench" prog_1_method_63_code 4 (some .int) "classesOf" 11 (ve_pu (ve_push 12 (.int (0)))) := ve_pu_ok (ve_iconst_ok (n := 0) (v := 0) (by decide +kernel : decode prog_1_method_63_code 11 = .ok (.iconst (0), 1)) rfl)
set_option maxRecDepth 16384 in
theorem vi_71_12 (l : Launch) : ve_OK vs_A l 59 (ve_HI vs_A l 59 vs_M) (ve_CB vs_A l 59 (ve_HI vs_A l 59 vs_M) vs_M) "Orderbench" prog_1_method_63_code 4 (some .int) "classesOf" 12 (ve_pu (ve_is 13 2 4)) := ve_pu_ok (ve_istore_n_ok (k := 2) (i := 2) (by decide +kernel : decode prog_1_method_63_code 12 = .ok (.istore_n 2, 1)) rfl)
set_option maxRecDepth 16384 in
theorem vi_71_13 (l : Launch) : ve_OK vs_A l 59 (ve_HI vs_A l 59 vs_M) (ve_CB vs_A l 59 (ve_HI vs_A l 59 vs_M) vs_M) "Orderbench" prog_1_method_63_code 4 (some .int) "classesOf" 13 (ve_pu (ve_push 14 (.int (0)))) := ve_pu_ok (ve_iconst_ok (n := 0) (v := 0) (by decide +kernel : decode prog_1_method_63_code 13 = .ok (.iconst (0), 1)) rfl)
set_option maxRecDepth 16384 in
theorem vi_71_14 (l : Launch) : ve_OK vs_A l 59 (ve_HI vs_A l 59 vs_M) (ve_CB vs_A l 59 (ve_HI vs_A l 59 vs_M) vs_M) "Orderbench" prog_1_method_63_code 4 (some .int) "classesOf" 14 (ve_pu (ve_is 15 3 4)) := ve_pu_ok (ve_istore_n_ok (k := 3) (i := 3) (by decide +kernel : decode prog_1_method_63_code 14 = .ok (.istore_n 3, 1)) rfl)
set_option maxRecDepth 16384 in
theorem vi_71_15 (l : Launch) : ve_OK vs_A l 59 (ve_HI vs_A l 59 vs_M) (ve_CB vs_A l 59 (ve_HI vs_A l 59 vs_M) vs_M) "Orderbench" prog_1_method_63_code 4 (some .int) "classesOf" 15 (ve_pu (ve_il 16 3)) := ve_pu_ok (ve_iload_n_ok (k := 3) (i := 3) (by decide +kernel : decode prog_1_method_63_code 15 = .ok (.iload_n 3, 1)) rfl)
set_option maxRecDepth 16384 in
theorem vi_71_16 (l : Launch) : ve_OK vs_A l 59 (ve_HI vs_A l 59 vs_M) (ve_CB vs_A l 59 (ve_HI vs_A l 59 vs_M) vs_M) "Orderbench" prog_1_method_63_code 4 (some .int) "classesOf" 16 (ve_pu (ve_al 17 0)) := ve_pu_ok (ve_aload_n_ok (k := 0) (i := 0) (by decide +kernel : decode prog_1_method_63_code 16 = .ok (.aload_n 0, 1)) rfl)
set_option maxRecDepth 16384 in
theorem vi_71_17 (l : Launch) : ve_OK vs_A l 59 (ve_HI vs_A l 59 vs_M) (ve_CB vs_A l 59 (ve_HI vs_A l 59 vs_M) vs_M) "Orderbench" prog_1_method_63_code 4 (some .int) "classesOf" 17 (ve_gf 20 1) := ve_getfN_ok (k := 1) (by decide +kernel : decode prog_1_method_63_code 17 = .ok (.getfield 64, 3)) vw_372 vf_192
set_option maxRecDepth 16384 in
theorem vi_71_20 (l : Launch) : ve_OK vs_A l 59 (ve_HI vs_A l 59 vs_M) (ve_CB vs_A l 59 (ve_HI vs_A l 59 vs_M) vs_M) "Orderbench" prog_1_method_63_code 4 (some .int) "classesOf" 20 (ve_pu (ve_br2 (fun x y => decide (¬ x < y)) 41 23)) := ve_pu_ok (ve_icmp_ge_ok (by decide +kernel : decode prog_1_method_63_code 20 = .ok (.if_icmp .ge (21), 3)) (by decide +kernel))
set_option maxRecDepth 16384 in
theorem vi_71_41 (l : Launch) : ve_OK vs_A l 59 (ve_HI vs_A l 59 vs_M) (ve_CB vs_A l 59 (ve_HI vs_A l 59 vs_M) vs_M) "Orderbench" prog_1_method_63_code 4 (some .int) "classesOf" 41 (ve_pu (ve_il 42 2)) := ve_pu_ok (ve_iload_n_ok (k := 2) (i := 2) (by decide +kernel : decode prog_1_method_63_code 41 = .ok (.iload_n 2, 1)) rfl)
set_option maxRecDepth 16384 in
theorem vi_71_42 (l : Launch) : ve_OK vs_A l 59 (ve_HI vs_A l 59 vs_M) (ve_CB vs_A l 59 (ve_HI vs_A l 59 vs_M) vs_M) "Orderbench" prog_1_method_63_code 4 (some .int) "classesOf" 42 (ve_rt 1 .int) := ve_iret_ok (by decide +kernel : decode prog_1_method_63_code 42 = .ok (.ireturn, 1)) rfl
set_option maxRecDepth 16384 in
theorem vi_72_0 (l : Launch) : ve_OK vs_A l 59 (ve_HI vs_A l 59 vs_M) (ve_CB vs_A l 59 (ve_HI vs_A l 59 vs_M) vs_M) "Orderbench" prog_1_method_54_code 2 (some .boolean) "takesEach" 0 (ve_pu (ve_al 1 1)) := ve_pu_ok (ve_aload_n_ok (k := 1) (i := 1) (by decide +kernel : decode prog_1_method_54_code 0 = .ok (.aload_n 1, 1)) rfl)
set_option maxRecDepth 16384 in
theorem vi_72_1 (l : Launch) : ve_OK vs_A l 59 (ve_HI vs_A l 59 vs_M) (ve_CB vs_A l 59 (ve_HI vs_A l 59 vs_M) vs_M) "Orderbench" prog_1_method_54_code 2 (some .boolean) "takesEach" 1 (ve_gf 4 1) := ve_getf_ok (k := 1) (by decide +kernel : decode prog_1_method_54_code 1 = .ok (.getfield 147, 3)) vw_386 vf_111
set_option maxRecDepth 16384 in
theorem vi_72_4 (l : Launch) : ve_OK vs_A l 59 (ve_HI vs_A l 59 vs_M) (ve_CB vs_A l 59 (ve_HI vs_A l 59 vs_M) vs_M) "Orderbench" prog_1_method_54_code 2 (some .boolean) "takesEach" 4 (ve_pu (ve_br1 (fun x => decide (¬ x = 0)) 14 7)) := ve_pu_ok (ve_if_ne_ok (by decide +kernel : decode prog_1_method_54_code 4 = .ok (.ifCond .ne (10), 3)) (by decide +kernel))
set_option maxRecDepth 16384 in
theorem vi_72_7 (l : Launch) : ve_OK vs_A l 59 (ve_HI vs_A l 59 vs_M) (ve_CB vs_A l 59 (ve_HI vs_A l 59 vs_M) vs_M) "Orderbench" prog_1_method_54_code 2 (some .boolean) "takesEach" 7 (ve_pu (ve_al 8 0)) := ve_pu_ok (ve_aload_n_ok (k := 0) (i := 0) (by decide +kernel : decode prog_1_method_54_code 7 = .ok (.aload_n 0, 1)) rfl)
set_option maxRecDepth 16384 in
theorem vi_72_8 (l : Launch) : ve_OK vs_A l 59 (ve_HI vs_A l 59 vs_M) (ve_CB vs_A l 59 (ve_HI vs_A l 59 vs_M) vs_M) "Orderbench" prog_1_method_54_code 2 (some .boolean) "takesEach" 8 (ve_cw 59 1 11 [(3, 61)]) := ve_cw_ok rfl (List.forall_mem_cons.mpr ⟨ve_rowU (md := vs_M) (A0 := vs_A) (mi := 61) (na := 0) (k := 3) (C := "Orderbench$Row") (owner := "Orderbench$Row") (x := ⟨"Orderbench$Row", "empties", "()I"⟩) (by decide +kernel : decode prog_1_method_54_code 8 = .ok (.invokevirtual 209, 3)) (by decide) vw_383 vw_381 vw_50 vw_382 rfl vw_384 vw_385 vf_197 ⟨by decide, by decide⟩ vf_21 vf_11, List.forall_mem_nil _⟩)
set_option maxRecDepth 16384 in
theorem vi_72_11 (l : Launch) : ve_OK vs_A l 59 (ve_HI vs_A l 59 vs_M) (ve_CB vs_A l 59 (ve_HI vs_A l 59 vs_M) vs_M) "Orderbench" prog_1_method_54_code 2 (some .boolean) "takesEach" 11 (ve_pu (ve_br1 (fun x => decide (¬ x = 0)) 18 14)) := ve_pu_ok (ve_if_ne_ok (by decide +kernel : decode prog_1_method_54_code 11 = .ok (.ifCond .ne (7), 3)) (by decide +kernel))
set_option maxRecDepth 16384 in
theorem vi_72_14 (l : Launch) : ve_OK vs_A l 59 (ve_HI vs_A l 59 vs_M) (ve_CB vs_A l 59 (ve_HI vs_A l 59 vs_M) vs_M) "Orderbench" prog_1_method_54_code 2 (some .boolean) "takesEach" 14 (ve_pu (ve_push 15 (.int (1)))) := ve_pu_ok (ve_iconst_ok (n := 1) (v := 1) (by decide +kernel : decode prog_1_method_54_code 14 = .ok (.iconst (1), 1)) rfl)
set_option maxRecDepth 16384 in
theorem vi_72_15 (l : Launch) : ve_OK vs_A l 59 (ve_HI vs_A l 59 vs_M) (ve_CB vs_A l 59 (ve_HI vs_A l 59 vs_M) vs_M) "Orderbench" prog_1_method_54_code 2 (some .boolean) "takesEach" 15 (ve_pu (ve_jmp 19)) := ve_pu_ok (ve_goto_ok (by decide +kernel : decode prog_1_method_54_code 15 = .ok (.goto (4), 3)) (by decide +kernel))
set_option maxRecDepth 16384 in
theorem vi_72_19 (l : Launch) : ve_OK vs_A l 59 (ve_HI vs_A l 59 vs_M) (ve_CB vs_A l 59 (ve_HI vs_A l 59 vs_M) vs_M) "Orderbench" prog_1_method_54_code 2 (some .boolean) "takesEach" 19 (ve_rt 1 .boolean) := ve_iret_ok (by decide +kernel : decode prog_1_method_54_code 19 = .ok (.ireturn, 1)) rfl
set_option maxRecDepth 16384 in
theorem vi_73_0 (l : Launch) : ve_OK vs_A l 59 (ve_HI vs_A l 59 vs_M) (ve_CB vs_A l 59 (ve_HI vs_A l 59 vs_M) vs_M) "Orderbench" prog_1_method_65_code 5 (some .int) "alikeToFarthest" 0 (ve_pu (ve_al 1 0)) := ve_pu_ok (ve_aload_n_ok (k := 0) (i := 0) (by decide +kernel : decode prog_1_method_65_code 0 = .ok (.aload_n 0, 1)) rfl)
set_option maxRecDepth 16384 in
theorem vi_73_1 (l : Launch) : ve_OK vs_A l 59 (ve_HI vs_A l 59 vs_M) (ve_CB vs_A l 59 (ve_HI vs_A l 59 vs_M) vs_M) "Orderbench" prog_1_method_65_code 5 (some .int) "alikeToFarthest" 1 (ve_gf 4 1) := ve_getfN_ok (k := 1) (by decide +kernel : decode prog_1_method_65_code 1 = .ok (.getfield 64, 3)) vw_372 vf_192
set_option maxRecDepth 16384 in
theorem vi_73_4 (l : Launch) : ve_OK vs_A l 59 (ve_HI vs_A l 59 vs_M) (ve_CB vs_A l 59 (ve_HI vs_A l 59 vs_M) vs_M) "Orderbench" prog_1_method_65_code 5 (some .int) "alikeToFarthest" 4 (ve_pu (ve_br1 (fun x => decide (x = 0)) 15 7)) := ve_pu_ok (ve_if_eq_ok (by decide +kernel : decode prog_1_method_65_code 4 = .ok (.ifCond .eq (11), 3)) (by decide +kernel))
set_option maxRecDepth 16384 in
theorem vi_73_15 (l : Launch) : ve_OK vs_A l 59 (ve_HI vs_A l 59 vs_M) (ve_CB vs_A l 59 (ve_HI vs_A l 59 vs_M) vs_M) "Orderbench" prog_1_method_65_code 5 (some .int) "alikeToFarthest" 15 (ve_pu (ve_push 17 (.int (-9)))) := ve_pu_ok (ve_bipush_ok (n := -9) (v := -9) (by decide +kernel : decode prog_1_method_65_code 15 = .ok (.bipush (-9), 2)) (by decide +kernel))
set_option maxRecDepth 16384 in
theorem vi_73_17 (l : Launch) : ve_OK vs_A l 59 (ve_HI vs_A l 59 vs_M) (ve_CB vs_A l 59 (ve_HI vs_A l 59 vs_M) vs_M) "Orderbench" prog_1_method_65_code 5 (some .int) "alikeToFarthest" 17 (ve_rt 1 .int) := ve_iret_ok (by decide +kernel : decode prog_1_method_65_code 17 = .ok (.ireturn, 1)) rfl
set_option maxRecDepth 16384 in
theorem vi_74_0 (l : Launch) : ve_OK vs_A l 59 (ve_HI vs_A l 59 vs_M) (ve_CB vs_A l 59 (ve_HI vs_A l 59 vs_M) vs_M) "Orderbench" prog_1_method_73_code 4 (some .long) "digestOrder" 0 (ve_pu (ve_al 1 0)) := ve_pu_ok (ve_aload_n_ok (k := 0) (i := 0) (by decide +kernel : decode prog_1_method_73_code 0 = .ok (.aload_n 0, 1)) rfl)
set_option maxRecDepth 16384 in
theorem vi_74_1 (l : Launch) : ve_OK vs_A l 59 (ve_HI vs_A l 59 vs_M) (ve_CB vs_A l 59 (ve_HI vs_A l 59 vs_M) vs_M) "Orderbench" prog_1_method_73_code 4 (some .long) "digestOrder" 1 (ve_gf 4 5) := ve_getf_ok (k := 5) (by decide +kernel : decode prog_1_method_73_code 1 = .ok (.getfield 41, 3)) vw_73 vf_199
set_option maxRecDepth 16384 in
theorem vi_74_4 (l : Launch) : ve_OK vs_A l 59 (ve_HI vs_A l 59 vs_M) (ve_CB vs_A l 59 (ve_HI vs_A l 59 vs_M) vs_M) "Orderbench" prog_1_method_73_code 4 (some .long) "digestOrder" 4 (ve_pu (ve_push 5 (.int (0)))) := ve_pu_ok (ve_iconst_ok (n := 0) (v := 0) (by decide +kernel : decode prog_1_method_73_code 4 = .ok (.iconst (0), 1)) rfl)
set_option maxRecDepth 16384 in
theorem vi_74_5 (l : Launch) : ve_OK vs_A l 59 (ve_HI vs_A l 59 vs_M) (ve_CB vs_A l 59 (ve_HI vs_A l 59 vs_M) vs_M) "Orderbench" prog_1_method_73_code 4 (some .long) "digestOrder" 5 (ve_cw 59 2 8 [(36, 64)]) := ve_cw_ok rfl (List.forall_mem_cons.mpr ⟨ve_rowU (md := vs_M) (A0 := vs_A) (mi := 64) (na := 1) (k := 36) (C := "java/lang/StringBuilder") (owner := "java/lang/StringBuilder") (x := ⟨"java/lang/StringBuilder", "setLength", "(I)V"⟩) (by decide +kernel : decode prog_1_method_73_code 5 = .ok (.invokevirtual 159, 3)) (by decide) vw_395 vw_393 vw_69 vw_394 rfl vw_396 vw_397 vf_200 ⟨by decide, by decide⟩ vf_39 vf_29, List.forall_mem_nil _⟩)
set_option maxRecDepth 16384 in
theorem vi_74_8 (l : Launch) : ve_OK vs_A l 59 (ve_HI vs_A l 59 vs_M) (ve_CB vs_A l 59 (ve_HI vs_A l 59 vs_M) vs_M) "Orderbench" prog_1_method_73_code 4 (some .long) "digestOrder" 8 (ve_pu (ve_al 9 3)) := ve_pu_ok (ve_aload_n_ok (k := 3) (i := 3) (by decide +kernel : decode prog_1_method_73_code 8 = .ok (.aload_n 3, 1)) rfl)
set_option maxRecDepth 16384 in
theorem vi_74_9 (l : Launch) : ve_OK vs_A l 59 (ve_HI vs_A l 59 vs_M) (ve_CB vs_A l 59 (ve_HI vs_A l 59 vs_M) vs_M) "Orderbench" prog_1_method_73_code 4 (some .long) "digestOrder" 9 (ve_pu (ve_al 10 0)) := ve_pu_ok (ve_aload_n_ok (k := 0) (i := 0) (by decide +kernel : decode prog_1_method_73_code 9 = .ok (.aload_n 0, 1)) rfl)
set_option maxRecDepth 16384 in
theorem vi_74_10 (l : Launch) : ve_OK vs_A l 59 (ve_HI vs_A l 59 vs_M) (ve_CB vs_A l 59 (ve_HI vs_A l 59 vs_M) vs_M) "Orderbench" prog_1_method_73_code 4 (some .long) "digestOrder" 10 (ve_gf 13 5) := ve_getf_ok (k := 5) (by decide +kernel : decode prog_1_method_73_code 10 = .ok (.getfield 41, 3)) vw_73 vf_199
set_option maxRecDepth 16384 in
theorem vi_74_13 (l : Launch) : ve_OK vs_A l 59 (ve_HI vs_A l 59 vs_M) (ve_CB vs_A l 59 (ve_HI vs_A l 59 vs_M) vs_M) "Orderbench" prog_1_method_73_code 4 (some .long) "digestOrder" 13 (ve_pu (ve_push 14 (.int (0)))) := ve_pu_ok (ve_iconst_ok (n := 0) (v := 0) (by decide +kernel : decode prog_1_method_73_code 13 = .ok (.iconst (0), 1)) rfl)
set_option maxRecDepth 16384 in
theorem vi_74_14 (l : Launch) : ve_OK vs_A l 59 (ve_HI vs_A l 59 vs_M) (ve_CB vs_A l 59 (ve_HI vs_A l 59 vs_M) vs_M) "Orderbench" prog_1_method_73_code 4 (some .long) "digestOrder" 14 (ve_cw 59 3 17 [(32, 75)]) := ve_cw_ok rfl (List.forall_mem_cons.mpr ⟨ve_rowU (md := vs_M) (A0 := vs_A) (mi := 75) (na := 2) (k := 32) (C := "Orderbench$Turned") (owner := "Orderbench$Shape") (x := ⟨"Orderbench$Shape", "write", "(Ljava/lang/StringBuilder;I)V"⟩) (by decide +kernel : decode prog_1_method_73_code 14 = .ok (.invokevirtual 162, 3)) (by decide) vw_441 vw_439 vw_166 vw_440 rfl vw_442 vw_443 vf_214 ⟨by decide, by decide⟩ vf_104 vf_213, List.forall_mem_nil _⟩)
set_option maxRecDepth 16384 in
theorem vi_74_17 (l : Launch) : ve_OK vs_A l 59 (ve_HI vs_A l 59 vs_M) (ve_CB vs_A l 59 (ve_HI vs_A l 59 vs_M) vs_M) "Orderbench" prog_1_method_73_code 4 (some .long) "digestOrder" 17 (ve_pu (ve_al 18 0)) := ve_pu_ok (ve_aload_n_ok (k := 0) (i := 0) (by decide +kernel : decode prog_1_method_73_code 17 = .ok (.aload_n 0, 1)) rfl)
set_option maxRecDepth 16384 in
theorem vi_74_18 (l : Launch) : ve_OK vs_A l 59 (ve_HI vs_A l 59 vs_M) (ve_CB vs_A l 59 (ve_HI vs_A l 59 vs_M) vs_M) "Orderbench" prog_1_method_73_code 4 (some .long) "digestOrder" 18 (ve_pu (ve_ll 19 1)) := ve_pu_ok (ve_lload_n_ok (k := 1) (i := 1) (by decide +kernel : decode prog_1_method_73_code 18 = .ok (.lload_n 1, 1)) rfl)
set_option maxRecDepth 16384 in
theorem vi_74_19 (l : Launch) : ve_OK vs_A l 59 (ve_HI vs_A l 59 vs_M) (ve_CB vs_A l 59 (ve_HI vs_A l 59 vs_M) vs_M) "Orderbench" prog_1_method_73_code 4 (some .long) "digestOrder" 19 (ve_cw 59 2 22 [(2, 67)]) := ve_cw_ok rfl (List.forall_mem_cons.mpr ⟨ve_rowU (md := vs_M) (A0 := vs_A) (mi := 67) (na := 1) (k := 2) (C := "Orderbench") (owner := "Orderbench") (x := ⟨"Orderbench", "digestSigns", "(J)J"⟩) (by decide +kernel : decode prog_1_method_73_code 19 = .ok (.invokevirtual 312, 3)) (by decide) vw_405 vw_403 vw_2 vw_404 rfl vw_406 vw_407 vf_204 ⟨by decide, by decide⟩ vf_0 vf_203, List.forall_mem_nil _⟩)
set_option maxRecDepth 16384 in
theorem vi_74_22 (l : Launch) : ve_OK vs_A l 59 (ve_HI vs_A l 59 vs_M) (ve_CB vs_A l 59 (ve_HI vs_A l 59 vs_M) vs_M) "Orderbench" prog_1_method_73_code 4 (some .long) "digestOrder" 22 (ve_pu (ve_push 25 (.long (31)))) := ve_cu_ok (ve_ldc2_ok (v := 31) (by decide +kernel : decode prog_1_method_73_code 22 = .ok (.ldc2_w 228, 3)) vw_351)
set_option maxRecDepth 16384 in
theorem vi_74_25 (l : Launch) : ve_OK vs_A l 59 (ve_HI vs_A l 59 vs_M) (ve_CB vs_A l 59 (ve_HI vs_A l 59 vs_M) vs_M) "Orderbench" prog_1_method_73_code 4 (some .long) "digestOrder" 25 (ve_pu (ve_lmul 26)) := ve_pu_ok (ve_lmul_ok (by decide +kernel : decode prog_1_method_73_code 25 = .ok (.lmul, 1)))
set_option maxRecDepth 16384 in
theorem vi_74_26 (l : Launch) : ve_OK vs_A l 59 (ve_HI vs_A l 59 vs_M) (ve_CB vs_A l 59 (ve_HI vs_A l 59 vs_M) vs_M) "Orderbench" prog_1_method_73_code 4 (some .long) "digestOrder" 26 (ve_pu (ve_al 27 3)) := ve_pu_ok (ve_aload_n_ok (k := 3) (i := 3) (by decide +kernel : decode prog_1_method_73_code 26 = .ok (.aload_n 3, 1)) rfl)
set_option maxRecDepth 16384 in
theorem vi_74_27 (l : Launch) : ve_OK vs_A l 59 (ve_HI vs_A l 59 vs_M) (ve_CB vs_A l 59 (ve_HI vs_A l 59 vs_M) vs_M) "Orderbench" prog_1_method_73_code 4 (some .long) "digestOrder" 27 (ve_gf 30 1) := ve_getf_ok (k := 1) (by decide +kernel : decode prog_1_method_73_code 27 = .ok (.getfield 147, 3)) vw_386 vf_111
set_option maxRecDepth 16384 in
theorem vi_74_30 (l : Launch) : ve_OK vs_A l 59 (ve_HI vs_A l 59 vs_M) (ve_CB vs_A l 59 (ve_HI vs_A l 59 vs_M) vs_M) "Orderbench" prog_1_method_73_code 4 (some .long) "digestOrder" 30 (ve_pu (ve_br1 (fun x => decide (x = 0)) 37 33)) := ve_pu_ok (ve_if_eq_ok (by decide +kernel : decode prog_1_method_73_code 30 = .ok (.ifCond .eq (7), 3)) (by decide +kernel))
set_option maxRecDepth 16384 in
theorem vi_74_37 (l : Launch) : ve_OK vs_A l 59 (ve_HI vs_A l 59 vs_M) (ve_CB vs_A l 59 (ve_HI vs_A l 59 vs_M) vs_M) "Orderbench" prog_1_method_73_code 4 (some .long) "digestOrder" 37 (ve_pu (ve_push 38 (.int (0)))) := ve_pu_ok (ve_iconst_ok (n := 0) (v := 0) (by decide +kernel : decode prog_1_method_73_code 37 = .ok (.iconst (0), 1)) rfl)
set_option maxRecDepth 16384 in
theorem vi_74_38 (l : Launch) : ve_OK vs_A l 59 (ve_HI vs_A l 59 vs_M) (ve_CB vs_A l 59 (ve_HI vs_A l 59 vs_M) vs_M) "Orderbench" prog_1_method_73_code 4 (some .long) "digestOrder" 38 (ve_pu (ve_i2l 39)) := ve_pu_ok (ve_i2l_ok (by decide +kernel : decode prog_1_method_73_code 38 = .ok (.i2l, 1)))
set_option maxRecDepth 16384 in
theorem vi_74_39 (l : Launch) : ve_OK vs_A l 59 (ve_HI vs_A l 59 vs_M) (ve_CB vs_A l 59 (ve_HI vs_A l 59 vs_M) vs_M) "Orderbench" prog_1_method_73_code 4 (some .long) "digestOrder" 39 (ve_pu (ve_ladd 40)) := ve_pu_ok (ve_ladd_ok (by decide +kernel : decode prog_1_method_73_code 39 = .ok (.ladd, 1)))
