set_option maxRecDepth 16384 in
theorem vi_88_45 (l : Launch) : ve_OK vs_A l 59 (ve_HI vs_A l 59 vs_M) (ve_CB vs_A l 59 (ve_HI vs_A l 59 vs_M) vs_M) "Orderbench" prog_1_method_67_code 3 (some .boolean) "sortsWell" 45 (ve_gf 48 2) := ve_getf_ok (k := 2) (by decide +kernel : decode prog_1_method_67_code 45 = .ok (.getfield 27, 3)) vw_57 vf_226
set_option maxRecDepth 16384 in
theorem vi_88_48 (l : Launch) : ve_OK vs_A l 59 (ve_HI vs_A l 59 vs_M) (ve_CB vs_A l 59 (ve_HI vs_A l 59 vs_M) vs_M) "Orderbench" prog_1_method_67_code 3 (some .boolean) "sortsWell" 48 (ve_cw 59 2 51 [(3, 89)]) := ve_cw_ok rfl (List.forall_mem_cons.mpr ⟨ve_rowU (md := vs_M) (A0 := vs_A) (mi := 89) (na := 1) (k := 3) (C := "Orderbench$Row") (owner := "Orderbench$Row") (x := ⟨"Orderbench$Row", "become", "(LOrderbench$Row;)V"⟩) (by decide +kernel : decode prog_1_method_67_code 48 = .ok (.invokevirtual 96, 3)) (by decide) vw_503 vw_501 vw_44 vw_502 rfl vw_504 vw_505 vf_231 ⟨by decide, by decide⟩ vf_18 vf_199, List.forall_mem_nil _⟩)
set_option maxRecDepth 16384 in
theorem vi_88_51 (l : Launch) : ve_OK vs_A l 59 (ve_HI vs_A l 59 vs_M) (ve_CB vs_A l 59 (ve_HI vs_A l 59 vs_M) vs_M) "Orderbench" prog_1_method_67_code 3 (some .boolean) "sortsWell" 51 (ve_pu (ve_al 52 0)) := ve_pu_ok (ve_aload_n_ok (k := 0) (i := 0) (by decide +kernel : decode prog_1_method_67_code 51 = .ok (.aload_n 0, 1)) rfl)
set_option maxRecDepth 16384 in
theorem vi_88_52 (l : Launch) : ve_OK vs_A l 59 (ve_HI vs_A l 59 vs_M) (ve_CB vs_A l 59 (ve_HI vs_A l 59 vs_M) vs_M) "Orderbench" prog_1_method_67_code 3 (some .boolean) "sortsWell" 52 (ve_gf 55 3) := ve_getf_ok (k := 3) (by decide +kernel : decode prog_1_method_67_code 52 = .ok (.getfield 31, 3)) vw_58 vf_235
set_option maxRecDepth 16384 in
theorem vi_88_55 (l : Launch) : ve_OK vs_A l 59 (ve_HI vs_A l 59 vs_M) (ve_CB vs_A l 59 (ve_HI vs_A l 59 vs_M) vs_M) "Orderbench" prog_1_method_67_code 3 (some .boolean) "sortsWell" 55 (ve_pu (ve_al 56 2)) := ve_pu_ok (ve_aload_n_ok (k := 2) (i := 2) (by decide +kernel : decode prog_1_method_67_code 55 = .ok (.aload_n 2, 1)) rfl)
set_option maxRecDepth 16384 in
theorem vi_88_56 (l : Launch) : ve_OK vs_A l 59 (ve_HI vs_A l 59 vs_M) (ve_CB vs_A l 59 (ve_HI vs_A l 59 vs_M) vs_M) "Orderbench" prog_1_method_67_code 3 (some .boolean) "sortsWell" 56 (ve_cw 59 2 59 [(3, 90)]) := ve_cw_ok rfl (List.forall_mem_cons.mpr ⟨ve_rowU (md := vs_M) (A0 := vs_A) (mi := 90) (na := 1) (k := 3) (C := "Orderbench$Row") (owner := "Orderbench$Row") (x := ⟨"Orderbench$Row", "arrange", "(LOrderbench$Shape;)V"⟩) (by decide +kernel : decode prog_1_method_67_code 56 = .ok (.invokevirtual 111, 3)) (by decide) vw_508 vw_506 vw_44 vw_507 rfl vw_509 vw_510 vf_232 ⟨by decide, by decide⟩ vf_18 vf_103, List.forall_mem_nil _⟩)
set_option maxRecDepth 16384 in
theorem vi_88_59 (l : Launch) : ve_OK vs_A l 59 (ve_HI vs_A l 59 vs_M) (ve_CB vs_A l 59 (ve_HI vs_A l 59 vs_M) vs_M) "Orderbench" prog_1_method_67_code 3 (some .boolean) "sortsWell" 59 (ve_pu (ve_al 60 0)) := ve_pu_ok (ve_aload_n_ok (k := 0) (i := 0) (by decide +kernel : decode prog_1_method_67_code 59 = .ok (.aload_n 0, 1)) rfl)
set_option maxRecDepth 16384 in
theorem vi_88_60 (l : Launch) : ve_OK vs_A l 59 (ve_HI vs_A l 59 vs_M) (ve_CB vs_A l 59 (ve_HI vs_A l 59 vs_M) vs_M) "Orderbench" prog_1_method_67_code 3 (some .boolean) "sortsWell" 60 (ve_gf 63 3) := ve_getf_ok (k := 3) (by decide +kernel : decode prog_1_method_67_code 60 = .ok (.getfield 31, 3)) vw_58 vf_235
set_option maxRecDepth 16384 in
theorem vi_88_63 (l : Launch) : ve_OK vs_A l 59 (ve_HI vs_A l 59 vs_M) (ve_CB vs_A l 59 (ve_HI vs_A l 59 vs_M) vs_M) "Orderbench" prog_1_method_67_code 3 (some .boolean) "sortsWell" 63 (ve_pu (ve_al 64 0)) := ve_pu_ok (ve_aload_n_ok (k := 0) (i := 0) (by decide +kernel : decode prog_1_method_67_code 63 = .ok (.aload_n 0, 1)) rfl)
set_option maxRecDepth 16384 in
theorem vi_88_64 (l : Launch) : ve_OK vs_A l 59 (ve_HI vs_A l 59 vs_M) (ve_CB vs_A l 59 (ve_HI vs_A l 59 vs_M) vs_M) "Orderbench" prog_1_method_67_code 3 (some .boolean) "sortsWell" 64 (ve_gf 67 2) := ve_getf_ok (k := 2) (by decide +kernel : decode prog_1_method_67_code 64 = .ok (.getfield 27, 3)) vw_57 vf_226
set_option maxRecDepth 16384 in
theorem vi_88_67 (l : Launch) : ve_OK vs_A l 59 (ve_HI vs_A l 59 vs_M) (ve_CB vs_A l 59 (ve_HI vs_A l 59 vs_M) vs_M) "Orderbench" prog_1_method_67_code 3 (some .boolean) "sortsWell" 67 (ve_cw 59 2 70 [(3, 92)]) := ve_cw_ok rfl (List.forall_mem_cons.mpr ⟨ve_rowU (md := vs_M) (A0 := vs_A) (mi := 92) (na := 1) (k := 3) (C := "Orderbench$Row") (owner := "Orderbench$Row") (x := ⟨"Orderbench$Row", "unlike", "(LOrderbench$Row;)I"⟩) (by decide +kernel : decode prog_1_method_67_code 67 = .ok (.invokevirtual 115, 3)) (by decide) vw_518 vw_516 vw_44 vw_517 rfl vw_519 vw_520 vf_237 ⟨by decide, by decide⟩ vf_18 vf_236, List.forall_mem_nil _⟩)
set_option maxRecDepth 16384 in
theorem vi_88_70 (l : Launch) : ve_OK vs_A l 59 (ve_HI vs_A l 59 vs_M) (ve_CB vs_A l 59 (ve_HI vs_A l 59 vs_M) vs_M) "Orderbench" prog_1_method_67_code 3 (some .boolean) "sortsWell" 70 (ve_pu (ve_br1 (fun x => decide (¬ x = 0)) 77 73)) := ve_pu_ok (ve_if_ne_ok (by decide +kernel : decode prog_1_method_67_code 70 = .ok (.ifCond .ne (7), 3)) (by decide +kernel))
set_option maxRecDepth 16384 in
theorem vi_88_73 (l : Launch) : ve_OK vs_A l 59 (ve_HI vs_A l 59 vs_M) (ve_CB vs_A l 59 (ve_HI vs_A l 59 vs_M) vs_M) "Orderbench" prog_1_method_67_code 3 (some .boolean) "sortsWell" 73 (ve_pu (ve_push 74 (.int (1)))) := ve_pu_ok (ve_iconst_ok (n := 1) (v := 1) (by decide +kernel : decode prog_1_method_67_code 73 = .ok (.iconst (1), 1)) rfl)
set_option maxRecDepth 16384 in
theorem vi_88_74 (l : Launch) : ve_OK vs_A l 59 (ve_HI vs_A l 59 vs_M) (ve_CB vs_A l 59 (ve_HI vs_A l 59 vs_M) vs_M) "Orderbench" prog_1_method_67_code 3 (some .boolean) "sortsWell" 74 (ve_pu (ve_jmp 78)) := ve_pu_ok (ve_goto_ok (by decide +kernel : decode prog_1_method_67_code 74 = .ok (.goto (4), 3)) (by decide +kernel))
set_option maxRecDepth 16384 in
theorem vi_88_78 (l : Launch) : ve_OK vs_A l 59 (ve_HI vs_A l 59 vs_M) (ve_CB vs_A l 59 (ve_HI vs_A l 59 vs_M) vs_M) "Orderbench" prog_1_method_67_code 3 (some .boolean) "sortsWell" 78 (ve_rt 1 .boolean) := ve_iret_ok (by decide +kernel : decode prog_1_method_67_code 78 = .ok (.ireturn, 1)) rfl
set_option maxRecDepth 16384 in
theorem vi_89_0 (l : Launch) : ve_OK vs_A l 59 (ve_HI vs_A l 59 vs_M) (ve_CB vs_A l 59 (ve_HI vs_A l 59 vs_M) vs_M) "Orderbench$Row" prog_4_method_7_code 2 none "become" 0 (ve_pu (ve_al 1 0)) := ve_pu_ok (ve_aload_n_ok (k := 0) (i := 0) (by decide +kernel : decode prog_4_method_7_code 0 = .ok (.aload_n 0, 1)) rfl)
set_option maxRecDepth 16384 in
theorem vi_89_1 (l : Launch) : ve_OK vs_A l 59 (ve_HI vs_A l 59 vs_M) (ve_CB vs_A l 59 (ve_HI vs_A l 59 vs_M) vs_M) "Orderbench$Row" prog_4_method_7_code 2 none "become" 1 (ve_pu (ve_al 2 1)) := ve_pu_ok (ve_aload_n_ok (k := 1) (i := 1) (by decide +kernel : decode prog_4_method_7_code 1 = .ok (.aload_n 1, 1)) rfl)
set_option maxRecDepth 16384 in
theorem vi_89_2 (l : Launch) : ve_OK vs_A l 59 (ve_HI vs_A l 59 vs_M) (ve_CB vs_A l 59 (ve_HI vs_A l 59 vs_M) vs_M) "Orderbench$Row" prog_4_method_7_code 2 none "become" 2 (ve_pu (ve_push 3 (.int (1)))) := ve_pu_ok (ve_iconst_ok (n := 1) (v := 1) (by decide +kernel : decode prog_4_method_7_code 2 = .ok (.iconst (1), 1)) rfl)
set_option maxRecDepth 16384 in
theorem vi_89_3 (l : Launch) : ve_OK vs_A l 59 (ve_HI vs_A l 59 vs_M) (ve_CB vs_A l 59 (ve_HI vs_A l 59 vs_M) vs_M) "Orderbench$Row" prog_4_method_7_code 2 none "become" 3 (ve_cw 59 3 6 [(3, 86)]) := ve_cw_ok rfl (List.forall_mem_cons.mpr ⟨ve_rowU (md := vs_M) (A0 := vs_A) (mi := 86) (na := 2) (k := 3) (C := "Orderbench$Row") (owner := "Orderbench$Row") (x := ⟨"Orderbench$Row", "becomeTaken", "(LOrderbench$Row;Z)V"⟩) (by decide +kernel : decode prog_4_method_7_code 3 = .ok (.invokevirtual 23, 3)) (by decide) vw_521 vw_496 vw_44 vw_497 rfl vw_499 vw_500 vf_228 ⟨by decide, by decide⟩ vf_18 vf_227, List.forall_mem_nil _⟩)
set_option maxRecDepth 16384 in
theorem vi_89_6 (l : Launch) : ve_OK vs_A l 59 (ve_HI vs_A l 59 vs_M) (ve_CB vs_A l 59 (ve_HI vs_A l 59 vs_M) vs_M) "Orderbench$Row" prog_4_method_7_code 2 none "become" 6 (ve_rt 0 .int) := ve_vret_ok (by decide +kernel : decode prog_4_method_7_code 6 = .ok (.return_, 1)) rfl
set_option maxRecDepth 16384 in
theorem vi_90_0 (l : Launch) : ve_OK vs_A l 59 (ve_HI vs_A l 59 vs_M) (ve_CB vs_A l 59 (ve_HI vs_A l 59 vs_M) vs_M) "Orderbench$Row" prog_4_method_13_code 5 none "arrange" 0 (ve_pu (ve_push 1 (.int (1)))) := ve_pu_ok (ve_iconst_ok (n := 1) (v := 1) (by decide +kernel : decode prog_4_method_13_code 0 = .ok (.iconst (1), 1)) rfl)
set_option maxRecDepth 16384 in
theorem vi_90_1 (l : Launch) : ve_OK vs_A l 59 (ve_HI vs_A l 59 vs_M) (ve_CB vs_A l 59 (ve_HI vs_A l 59 vs_M) vs_M) "Orderbench$Row" prog_4_method_13_code 5 none "arrange" 1 (ve_pu (ve_is 2 2 5)) := ve_pu_ok (ve_istore_n_ok (k := 2) (i := 2) (by decide +kernel : decode prog_4_method_13_code 1 = .ok (.istore_n 2, 1)) rfl)
set_option maxRecDepth 16384 in
theorem vi_90_2 (l : Launch) : ve_OK vs_A l 59 (ve_HI vs_A l 59 vs_M) (ve_CB vs_A l 59 (ve_HI vs_A l 59 vs_M) vs_M) "Orderbench$Row" prog_4_method_13_code 5 none "arrange" 2 (ve_pu (ve_il 3 2)) := ve_pu_ok (ve_iload_n_ok (k := 2) (i := 2) (by decide +kernel : decode prog_4_method_13_code 2 = .ok (.iload_n 2, 1)) rfl)
set_option maxRecDepth 16384 in
theorem vi_90_3 (l : Launch) : ve_OK vs_A l 59 (ve_HI vs_A l 59 vs_M) (ve_CB vs_A l 59 (ve_HI vs_A l 59 vs_M) vs_M) "Orderbench$Row" prog_4_method_13_code 5 none "arrange" 3 (ve_pu (ve_al 4 0)) := ve_pu_ok (ve_aload_n_ok (k := 0) (i := 0) (by decide +kernel : decode prog_4_method_13_code 3 = .ok (.aload_n 0, 1)) rfl)
set_option maxRecDepth 16384 in
theorem vi_90_4 (l : Launch) : ve_OK vs_A l 59 (ve_HI vs_A l 59 vs_M) (ve_CB vs_A l 59 (ve_HI vs_A l 59 vs_M) vs_M) "Orderbench$Row" prog_4_method_13_code 5 none "arrange" 4 (ve_gf 7 1) := ve_getf_ok (k := 1) (by decide +kernel : decode prog_4_method_13_code 4 = .ok (.getfield 15, 3)) vw_387 vf_190
set_option maxRecDepth 16384 in
theorem vi_90_7 (l : Launch) : ve_OK vs_A l 59 (ve_HI vs_A l 59 vs_M) (ve_CB vs_A l 59 (ve_HI vs_A l 59 vs_M) vs_M) "Orderbench$Row" prog_4_method_13_code 5 none "arrange" 7 (ve_pu (ve_br2 (fun x y => decide (¬ x < y)) 63 10)) := ve_pu_ok (ve_icmp_ge_ok (by decide +kernel : decode prog_4_method_13_code 7 = .ok (.if_icmp .ge (56), 3)) (by decide +kernel))
set_option maxRecDepth 16384 in
theorem vi_90_63 (l : Launch) : ve_OK vs_A l 59 (ve_HI vs_A l 59 vs_M) (ve_CB vs_A l 59 (ve_HI vs_A l 59 vs_M) vs_M) "Orderbench$Row" prog_4_method_13_code 5 none "arrange" 63 (ve_rt 0 .int) := ve_vret_ok (by decide +kernel : decode prog_4_method_13_code 63 = .ok (.return_, 1)) rfl
set_option maxRecDepth 16384 in
theorem vi_91_0 (l : Launch) : ve_OK vs_A l 59 (ve_HI vs_A l 59 vs_M) (ve_CB vs_A l 59 (ve_HI vs_A l 59 vs_M) vs_M) "Orderbench$Row" prog_4_method_12_code 3 (some .boolean) "holdsAllOf" 0 (ve_pu (ve_al 1 0)) := ve_pu_ok (ve_aload_n_ok (k := 0) (i := 0) (by decide +kernel : decode prog_4_method_12_code 0 = .ok (.aload_n 0, 1)) rfl)
set_option maxRecDepth 16384 in
theorem vi_91_1 (l : Launch) : ve_OK vs_A l 59 (ve_HI vs_A l 59 vs_M) (ve_CB vs_A l 59 (ve_HI vs_A l 59 vs_M) vs_M) "Orderbench$Row" prog_4_method_12_code 3 (some .boolean) "holdsAllOf" 1 (ve_gf 4 1) := ve_getf_ok (k := 1) (by decide +kernel : decode prog_4_method_12_code 1 = .ok (.getfield 15, 3)) vw_387 vf_190
set_option maxRecDepth 16384 in
theorem vi_91_4 (l : Launch) : ve_OK vs_A l 59 (ve_HI vs_A l 59 vs_M) (ve_CB vs_A l 59 (ve_HI vs_A l 59 vs_M) vs_M) "Orderbench$Row" prog_4_method_12_code 3 (some .boolean) "holdsAllOf" 4 (ve_pu (ve_al 5 1)) := ve_pu_ok (ve_aload_n_ok (k := 1) (i := 1) (by decide +kernel : decode prog_4_method_12_code 4 = .ok (.aload_n 1, 1)) rfl)
set_option maxRecDepth 16384 in
theorem vi_91_5 (l : Launch) : ve_OK vs_A l 59 (ve_HI vs_A l 59 vs_M) (ve_CB vs_A l 59 (ve_HI vs_A l 59 vs_M) vs_M) "Orderbench$Row" prog_4_method_12_code 3 (some .boolean) "holdsAllOf" 5 (ve_gf 8 1) := ve_getf_ok (k := 1) (by decide +kernel : decode prog_4_method_12_code 5 = .ok (.getfield 15, 3)) vw_387 vf_190
set_option maxRecDepth 16384 in
theorem vi_91_8 (l : Launch) : ve_OK vs_A l 59 (ve_HI vs_A l 59 vs_M) (ve_CB vs_A l 59 (ve_HI vs_A l 59 vs_M) vs_M) "Orderbench$Row" prog_4_method_12_code 3 (some .boolean) "holdsAllOf" 8 (ve_pu (ve_br2 (fun x y => decide (x = y)) 13 11)) := ve_pu_ok (ve_icmp_eq_ok (by decide +kernel : decode prog_4_method_12_code 8 = .ok (.if_icmp .eq (5), 3)) (by decide +kernel))
set_option maxRecDepth 16384 in
theorem vi_91_13 (l : Launch) : ve_OK vs_A l 59 (ve_HI vs_A l 59 vs_M) (ve_CB vs_A l 59 (ve_HI vs_A l 59 vs_M) vs_M) "Orderbench$Row" prog_4_method_12_code 3 (some .boolean) "holdsAllOf" 13 (ve_pu (ve_push 14 (.int (0)))) := ve_pu_ok (ve_iconst_ok (n := 0) (v := 0) (by decide +kernel : decode prog_4_method_12_code 13 = .ok (.iconst (0), 1)) rfl)
set_option maxRecDepth 16384 in
theorem vi_91_14 (l : Launch) : ve_OK vs_A l 59 (ve_HI vs_A l 59 vs_M) (ve_CB vs_A l 59 (ve_HI vs_A l 59 vs_M) vs_M) "Orderbench$Row" prog_4_method_12_code 3 (some .boolean) "holdsAllOf" 14 (ve_pu (ve_is 15 2 3)) := ve_pu_ok (ve_istore_n_ok (k := 2) (i := 2) (by decide +kernel : decode prog_4_method_12_code 14 = .ok (.istore_n 2, 1)) rfl)
set_option maxRecDepth 16384 in
theorem vi_91_15 (l : Launch) : ve_OK vs_A l 59 (ve_HI vs_A l 59 vs_M) (ve_CB vs_A l 59 (ve_HI vs_A l 59 vs_M) vs_M) "Orderbench$Row" prog_4_method_12_code 3 (some .boolean) "holdsAllOf" 15 (ve_pu (ve_il 16 2)) := ve_pu_ok (ve_iload_n_ok (k := 2) (i := 2) (by decide +kernel : decode prog_4_method_12_code 15 = .ok (.iload_n 2, 1)) rfl)
set_option maxRecDepth 16384 in
theorem vi_91_16 (l : Launch) : ve_OK vs_A l 59 (ve_HI vs_A l 59 vs_M) (ve_CB vs_A l 59 (ve_HI vs_A l 59 vs_M) vs_M) "Orderbench$Row" prog_4_method_12_code 3 (some .boolean) "holdsAllOf" 16 (ve_pu (ve_al 17 0)) := ve_pu_ok (ve_aload_n_ok (k := 0) (i := 0) (by decide +kernel : decode prog_4_method_12_code 16 = .ok (.aload_n 0, 1)) rfl)
set_option maxRecDepth 16384 in
theorem vi_91_17 (l : Launch) : ve_OK vs_A l 59 (ve_HI vs_A l 59 vs_M) (ve_CB vs_A l 59 (ve_HI vs_A l 59 vs_M) vs_M) "Orderbench$Row" prog_4_method_12_code 3 (some .boolean) "holdsAllOf" 17 (ve_gf 20 1) := ve_getf_ok (k := 1) (by decide +kernel : decode prog_4_method_12_code 17 = .ok (.getfield 15, 3)) vw_387 vf_190
set_option maxRecDepth 16384 in
theorem vi_91_20 (l : Launch) : ve_OK vs_A l 59 (ve_HI vs_A l 59 vs_M) (ve_CB vs_A l 59 (ve_HI vs_A l 59 vs_M) vs_M) "Orderbench$Row" prog_4_method_12_code 3 (some .boolean) "holdsAllOf" 20 (ve_pu (ve_br2 (fun x y => decide (¬ x < y)) 52 23)) := ve_pu_ok (ve_icmp_ge_ok (by decide +kernel : decode prog_4_method_12_code 20 = .ok (.if_icmp .ge (32), 3)) (by decide +kernel))
set_option maxRecDepth 16384 in
theorem vi_91_52 (l : Launch) : ve_OK vs_A l 59 (ve_HI vs_A l 59 vs_M) (ve_CB vs_A l 59 (ve_HI vs_A l 59 vs_M) vs_M) "Orderbench$Row" prog_4_method_12_code 3 (some .boolean) "holdsAllOf" 52 (ve_pu (ve_push 53 (.int (1)))) := ve_pu_ok (ve_iconst_ok (n := 1) (v := 1) (by decide +kernel : decode prog_4_method_12_code 52 = .ok (.iconst (1), 1)) rfl)
set_option maxRecDepth 16384 in
theorem vi_91_53 (l : Launch) : ve_OK vs_A l 59 (ve_HI vs_A l 59 vs_M) (ve_CB vs_A l 59 (ve_HI vs_A l 59 vs_M) vs_M) "Orderbench$Row" prog_4_method_12_code 3 (some .boolean) "holdsAllOf" 53 (ve_rt 1 .boolean) := ve_iret_ok (by decide +kernel : decode prog_4_method_12_code 53 = .ok (.ireturn, 1)) rfl
set_option maxRecDepth 16384 in
theorem vi_92_0 (l : Launch) : ve_OK vs_A l 59 (ve_HI vs_A l 59 vs_M) (ve_CB vs_A l 59 (ve_HI vs_A l 59 vs_M) vs_M) "Orderbench$Row" prog_4_method_11_code 4 (some .int) "unlike" 0 (ve_pu (ve_push 1 (.int (0)))) := ve_pu_ok (ve_iconst_ok (n := 0) (v := 0) (by decide +kernel : decode prog_4_method_11_code 0 = .ok (.iconst (0), 1)) rfl)
set_option maxRecDepth 16384 in
theorem vi_92_1 (l : Launch) : ve_OK vs_A l 59 (ve_HI vs_A l 59 vs_M) (ve_CB vs_A l 59 (ve_HI vs_A l 59 vs_M) vs_M) "Orderbench$Row" prog_4_method_11_code 4 (some .int) "unlike" 1 (ve_pu (ve_is 2 2 4)) := ve_pu_ok (ve_istore_n_ok (k := 2) (i := 2) (by decide +kernel : decode prog_4_method_11_code 1 = .ok (.istore_n 2, 1)) rfl)
set_option maxRecDepth 16384 in
theorem vi_92_2 (l : Launch) : ve_OK vs_A l 59 (ve_HI vs_A l 59 vs_M) (ve_CB vs_A l 59 (ve_HI vs_A l 59 vs_M) vs_M) "Orderbench$Row" prog_4_method_11_code 4 (some .int) "unlike" 2 (ve_pu (ve_push 3 (.int (0)))) := ve_pu_ok (ve_iconst_ok (n := 0) (v := 0) (by decide +kernel : decode prog_4_method_11_code 2 = .ok (.iconst (0), 1)) rfl)
set_option maxRecDepth 16384 in
theorem vi_92_3 (l : Launch) : ve_OK vs_A l 59 (ve_HI vs_A l 59 vs_M) (ve_CB vs_A l 59 (ve_HI vs_A l 59 vs_M) vs_M) "Orderbench$Row" prog_4_method_11_code 4 (some .int) "unlike" 3 (ve_pu (ve_is 4 3 4)) := ve_pu_ok (ve_istore_n_ok (k := 3) (i := 3) (by decide +kernel : decode prog_4_method_11_code 3 = .ok (.istore_n 3, 1)) rfl)
set_option maxRecDepth 16384 in
theorem vi_92_4 (l : Launch) : ve_OK vs_A l 59 (ve_HI vs_A l 59 vs_M) (ve_CB vs_A l 59 (ve_HI vs_A l 59 vs_M) vs_M) "Orderbench$Row" prog_4_method_11_code 4 (some .int) "unlike" 4 (ve_pu (ve_il 5 3)) := ve_pu_ok (ve_iload_n_ok (k := 3) (i := 3) (by decide +kernel : decode prog_4_method_11_code 4 = .ok (.iload_n 3, 1)) rfl)
set_option maxRecDepth 16384 in
theorem vi_92_5 (l : Launch) : ve_OK vs_A l 59 (ve_HI vs_A l 59 vs_M) (ve_CB vs_A l 59 (ve_HI vs_A l 59 vs_M) vs_M) "Orderbench$Row" prog_4_method_11_code 4 (some .int) "unlike" 5 (ve_pu (ve_al 6 0)) := ve_pu_ok (ve_aload_n_ok (k := 0) (i := 0) (by decide +kernel : decode prog_4_method_11_code 5 = .ok (.aload_n 0, 1)) rfl)
set_option maxRecDepth 16384 in
theorem vi_92_6 (l : Launch) : ve_OK vs_A l 59 (ve_HI vs_A l 59 vs_M) (ve_CB vs_A l 59 (ve_HI vs_A l 59 vs_M) vs_M) "Orderbench$Row" prog_4_method_11_code 4 (some .int) "unlike" 6 (ve_gf 9 1) := ve_getf_ok (k := 1) (by decide +kernel : decode prog_4_method_11_code 6 = .ok (.getfield 15, 3)) vw_387 vf_190
set_option maxRecDepth 16384 in
theorem vi_92_9 (l : Launch) : ve_OK vs_A l 59 (ve_HI vs_A l 59 vs_M) (ve_CB vs_A l 59 (ve_HI vs_A l 59 vs_M) vs_M) "Orderbench$Row" prog_4_method_11_code 4 (some .int) "unlike" 9 (ve_pu (ve_br2 (fun x y => decide (¬ x < y)) 34 12)) := ve_pu_ok (ve_icmp_ge_ok (by decide +kernel : decode prog_4_method_11_code 9 = .ok (.if_icmp .ge (25), 3)) (by decide +kernel))
set_option maxRecDepth 16384 in
theorem vi_92_34 (l : Launch) : ve_OK vs_A l 59 (ve_HI vs_A l 59 vs_M) (ve_CB vs_A l 59 (ve_HI vs_A l 59 vs_M) vs_M) "Orderbench$Row" prog_4_method_11_code 4 (some .int) "unlike" 34 (ve_pu (ve_il 35 2)) := ve_pu_ok (ve_iload_n_ok (k := 2) (i := 2) (by decide +kernel : decode prog_4_method_11_code 34 = .ok (.iload_n 2, 1)) rfl)
set_option maxRecDepth 16384 in
theorem vi_92_35 (l : Launch) : ve_OK vs_A l 59 (ve_HI vs_A l 59 vs_M) (ve_CB vs_A l 59 (ve_HI vs_A l 59 vs_M) vs_M) "Orderbench$Row" prog_4_method_11_code 4 (some .int) "unlike" 35 (ve_rt 1 .int) := ve_iret_ok (by decide +kernel : decode prog_4_method_11_code 35 = .ok (.ireturn, 1)) rfl
set_option maxRecDepth 16384 in
theorem vi_93_0 (l : Launch) : ve_OK vs_A l 59 (ve_HI vs_A l 59 vs_M) (ve_CB vs_A l 59 (ve_HI vs_A l 59 vs_M) vs_M) "Orderbench" prog_1_method_66_code 4 (some .boolean) "sortsAsTwice" 0 (ve_pu (ve_al 1 1)) := ve_pu_ok (ve_aload_n_ok (k := 1) (i := 1) (by decide +kernel : decode prog_1_method_66_code 0 = .ok (.aload_n 1, 1)) rfl)
set_option maxRecDepth 16384 in
theorem vi_93_1 (l : Launch) : ve_OK vs_A l 59 (ve_HI vs_A l 59 vs_M) (ve_CB vs_A l 59 (ve_HI vs_A l 59 vs_M) vs_M) "Orderbench" prog_1_method_66_code 4 (some .boolean) "sortsAsTwice" 1 (ve_pu (ve_al 2 2)) := ve_pu_ok (ve_aload_n_ok (k := 2) (i := 2) (by decide +kernel : decode prog_1_method_66_code 1 = .ok (.aload_n 2, 1)) rfl)
set_option maxRecDepth 16384 in
theorem vi_93_2 (l : Launch) : ve_OK vs_A l 59 (ve_HI vs_A l 59 vs_M) (ve_CB vs_A l 59 (ve_HI vs_A l 59 vs_M) vs_M) "Orderbench" prog_1_method_66_code 4 (some .boolean) "sortsAsTwice" 2 (ve_cl 59 71 2 5) := ve_cl_ok (ve_rowS (md := vs_M) (A0 := vs_A) (mi := 71) (by decide +kernel : decode prog_1_method_66_code 2 = .ok (.invokestatic 212, 3)) (by decide) vw_431 vw_432 vw_2 vw_433 rfl ⟨by decide, by decide⟩ vf_203)
set_option maxRecDepth 16384 in
theorem vi_93_5 (l : Launch) : ve_OK vs_A l 59 (ve_HI vs_A l 59 vs_M) (ve_CB vs_A l 59 (ve_HI vs_A l 59 vs_M) vs_M) "Orderbench" prog_1_method_66_code 4 (some .boolean) "sortsAsTwice" 5 (ve_pu (ve_br1 (fun x => decide (x = 0)) 16 8)) := ve_pu_ok (ve_if_eq_ok (by decide +kernel : decode prog_1_method_66_code 5 = .ok (.ifCond .eq (11), 3)) (by decide +kernel))
set_option maxRecDepth 16384 in
theorem vi_93_8 (l : Launch) : ve_OK vs_A l 59 (ve_HI vs_A l 59 vs_M) (ve_CB vs_A l 59 (ve_HI vs_A l 59 vs_M) vs_M) "Orderbench" prog_1_method_66_code 4 (some .boolean) "sortsAsTwice" 8 (ve_pu (ve_al 9 1)) := ve_pu_ok (ve_aload_n_ok (k := 1) (i := 1) (by decide +kernel : decode prog_1_method_66_code 8 = .ok (.aload_n 1, 1)) rfl)
set_option maxRecDepth 16384 in
theorem vi_93_9 (l : Launch) : ve_OK vs_A l 59 (ve_HI vs_A l 59 vs_M) (ve_CB vs_A l 59 (ve_HI vs_A l 59 vs_M) vs_M) "Orderbench" prog_1_method_66_code 4 (some .boolean) "sortsAsTwice" 9 (ve_pu (ve_al 10 3)) := ve_pu_ok (ve_aload_n_ok (k := 3) (i := 3) (by decide +kernel : decode prog_1_method_66_code 9 = .ok (.aload_n 3, 1)) rfl)
set_option maxRecDepth 16384 in
theorem vi_93_10 (l : Launch) : ve_OK vs_A l 59 (ve_HI vs_A l 59 vs_M) (ve_CB vs_A l 59 (ve_HI vs_A l 59 vs_M) vs_M) "Orderbench" prog_1_method_66_code 4 (some .boolean) "sortsAsTwice" 10 (ve_cl 59 71 2 13) := ve_cl_ok (ve_rowS (md := vs_M) (A0 := vs_A) (mi := 71) (by decide +kernel : decode prog_1_method_66_code 10 = .ok (.invokestatic 212, 3)) (by decide) vw_431 vw_432 vw_2 vw_433 rfl ⟨by decide, by decide⟩ vf_203)
set_option maxRecDepth 16384 in
theorem vi_93_13 (l : Launch) : ve_OK vs_A l 59 (ve_HI vs_A l 59 vs_M) (ve_CB vs_A l 59 (ve_HI vs_A l 59 vs_M) vs_M) "Orderbench" prog_1_method_66_code 4 (some .boolean) "sortsAsTwice" 13 (ve_pu (ve_br1 (fun x => decide (¬ x = 0)) 18 16)) := ve_pu_ok (ve_if_ne_ok (by decide +kernel : decode prog_1_method_66_code 13 = .ok (.ifCond .ne (5), 3)) (by decide +kernel))
set_option maxRecDepth 16384 in
theorem vi_93_18 (l : Launch) : ve_OK vs_A l 59 (ve_HI vs_A l 59 vs_M) (ve_CB vs_A l 59 (ve_HI vs_A l 59 vs_M) vs_M) "Orderbench" prog_1_method_66_code 4 (some .boolean) "sortsAsTwice" 18 (ve_pu (ve_al 19 0)) := ve_pu_ok (ve_aload_n_ok (k := 0) (i := 0) (by decide +kernel : decode prog_1_method_66_code 18 = .ok (.aload_n 0, 1)) rfl)
set_option maxRecDepth 16384 in
theorem vi_93_19 (l : Launch) : ve_OK vs_A l 59 (ve_HI vs_A l 59 vs_M) (ve_CB vs_A l 59 (ve_HI vs_A l 59 vs_M) vs_M) "Orderbench" prog_1_method_66_code 4 (some .boolean) "sortsAsTwice" 19 (ve_gf 22 2) := ve_getf_ok (k := 2) (by decide +kernel : decode prog_1_method_66_code 19 = .ok (.getfield 27, 3)) vw_57 vf_226
set_option maxRecDepth 16384 in
theorem vi_93_22 (l : Launch) : ve_OK vs_A l 59 (ve_HI vs_A l 59 vs_M) (ve_CB vs_A l 59 (ve_HI vs_A l 59 vs_M) vs_M) "Orderbench" prog_1_method_66_code 4 (some .boolean) "sortsAsTwice" 22 (ve_pu (ve_al 23 1)) := ve_pu_ok (ve_aload_n_ok (k := 1) (i := 1) (by decide +kernel : decode prog_1_method_66_code 22 = .ok (.aload_n 1, 1)) rfl)
set_option maxRecDepth 16384 in
theorem vi_93_23 (l : Launch) : ve_OK vs_A l 59 (ve_HI vs_A l 59 vs_M) (ve_CB vs_A l 59 (ve_HI vs_A l 59 vs_M) vs_M) "Orderbench" prog_1_method_66_code 4 (some .boolean) "sortsAsTwice" 23 (ve_cw 59 2 26 [(3, 89)]) := ve_cw_ok rfl (List.forall_mem_cons.mpr ⟨ve_rowU (md := vs_M) (A0 := vs_A) (mi := 89) (na := 1) (k := 3) (C := "Orderbench$Row") (owner := "Orderbench$Row") (x := ⟨"Orderbench$Row", "become", "(LOrderbench$Row;)V"⟩) (by decide +kernel : decode prog_1_method_66_code 23 = .ok (.invokevirtual 96, 3)) (by decide) vw_503 vw_501 vw_44 vw_502 rfl vw_504 vw_505 vf_231 ⟨by decide, by decide⟩ vf_18 vf_199, List.forall_mem_nil _⟩)
set_option maxRecDepth 16384 in
theorem vi_93_26 (l : Launch) : ve_OK vs_A l 59 (ve_HI vs_A l 59 vs_M) (ve_CB vs_A l 59 (ve_HI vs_A l 59 vs_M) vs_M) "Orderbench" prog_1_method_66_code 4 (some .boolean) "sortsAsTwice" 26 (ve_pu (ve_al 27 0)) := ve_pu_ok (ve_aload_n_ok (k := 0) (i := 0) (by decide +kernel : decode prog_1_method_66_code 26 = .ok (.aload_n 0, 1)) rfl)
set_option maxRecDepth 16384 in
theorem vi_93_27 (l : Launch) : ve_OK vs_A l 59 (ve_HI vs_A l 59 vs_M) (ve_CB vs_A l 59 (ve_HI vs_A l 59 vs_M) vs_M) "Orderbench" prog_1_method_66_code 4 (some .boolean) "sortsAsTwice" 27 (ve_gf 30 2) := ve_getf_ok (k := 2) (by decide +kernel : decode prog_1_method_66_code 27 = .ok (.getfield 27, 3)) vw_57 vf_226
set_option maxRecDepth 16384 in
theorem vi_93_30 (l : Launch) : ve_OK vs_A l 59 (ve_HI vs_A l 59 vs_M) (ve_CB vs_A l 59 (ve_HI vs_A l 59 vs_M) vs_M) "Orderbench" prog_1_method_66_code 4 (some .boolean) "sortsAsTwice" 30 (ve_nw 33 33 [.int 0, .int 0, .null, .null]) := ve_new_ok (C := "Orderbench$Together") (by decide +kernel : decode prog_1_method_66_code 30 = .ok (.new 142, 3)) vw_522 vw_523 vw_524 vf_238 rfl vf_239 rfl
set_option maxRecDepth 16384 in
theorem vi_93_33 (l : Launch) : ve_OK vs_A l 59 (ve_HI vs_A l 59 vs_M) (ve_CB vs_A l 59 (ve_HI vs_A l 59 vs_M) vs_M) "Orderbench" prog_1_method_66_code 4 (some .boolean) "sortsAsTwice" 33 (ve_pu (ve_dup 34)) := ve_pu_ok (ve_dup_ok (by decide +kernel : decode prog_1_method_66_code 33 = .ok (.dup, 1)))
set_option maxRecDepth 16384 in
theorem vi_93_34 (l : Launch) : ve_OK vs_A l 59 (ve_HI vs_A l 59 vs_M) (ve_CB vs_A l 59 (ve_HI vs_A l 59 vs_M) vs_M) "Orderbench" prog_1_method_66_code 4 (some .boolean) "sortsAsTwice" 34 (ve_pu (ve_al 35 2)) := ve_pu_ok (ve_aload_n_ok (k := 2) (i := 2) (by decide +kernel : decode prog_1_method_66_code 34 = .ok (.aload_n 2, 1)) rfl)
set_option maxRecDepth 16384 in
theorem vi_93_35 (l : Launch) : ve_OK vs_A l 59 (ve_HI vs_A l 59 vs_M) (ve_CB vs_A l 59 (ve_HI vs_A l 59 vs_M) vs_M) "Orderbench" prog_1_method_66_code 4 (some .boolean) "sortsAsTwice" 35 (ve_pu (ve_al 36 3)) := ve_pu_ok (ve_aload_n_ok (k := 3) (i := 3) (by decide +kernel : decode prog_1_method_66_code 35 = .ok (.aload_n 3, 1)) rfl)
set_option maxRecDepth 16384 in
theorem vi_93_36 (l : Launch) : ve_OK vs_A l 59 (ve_HI vs_A l 59 vs_M) (ve_CB vs_A l 59 (ve_HI vs_A l 59 vs_M) vs_M) "Orderbench" prog_1_method_66_code 4 (some .boolean) "sortsAsTwice" 36 (ve_cw 59 3 39 [(33, 94)]) := ve_cw_ok rfl (List.forall_mem_cons.mpr ⟨ve_rowI (md := vs_M) (A0 := vs_A) (mi := 94) (na := 2) (by decide +kernel : decode prog_1_method_66_code 36 = .ok (.invokespecial 144, 3)) (by decide) vw_527 vw_525 vw_524 vw_526 rfl ⟨by decide, by decide⟩ vf_240 rfl rfl 33, List.forall_mem_nil _⟩)
set_option maxRecDepth 16384 in
theorem vi_93_39 (l : Launch) : ve_OK vs_A l 59 (ve_HI vs_A l 59 vs_M) (ve_CB vs_A l 59 (ve_HI vs_A l 59 vs_M) vs_M) "Orderbench" prog_1_method_66_code 4 (some .boolean) "sortsAsTwice" 39 (ve_cw 59 2 42 [(3, 90)]) := ve_cw_ok rfl (List.forall_mem_cons.mpr ⟨ve_rowU (md := vs_M) (A0 := vs_A) (mi := 90) (na := 1) (k := 3) (C := "Orderbench$Row") (owner := "Orderbench$Row") (x := ⟨"Orderbench$Row", "arrange", "(LOrderbench$Shape;)V"⟩) (by decide +kernel : decode prog_1_method_66_code 39 = .ok (.invokevirtual 111, 3)) (by decide) vw_508 vw_506 vw_44 vw_507 rfl vw_509 vw_510 vf_232 ⟨by decide, by decide⟩ vf_18 vf_103, List.forall_mem_nil _⟩)
set_option maxRecDepth 16384 in
theorem vi_93_42 (l : Launch) : ve_OK vs_A l 59 (ve_HI vs_A l 59 vs_M) (ve_CB vs_A l 59 (ve_HI vs_A l 59 vs_M) vs_M) "Orderbench" prog_1_method_66_code 4 (some .boolean) "sortsAsTwice" 42 (ve_pu (ve_al 43 0)) := ve_pu_ok (ve_aload_n_ok (k := 0) (i := 0) (by decide +kernel : decode prog_1_method_66_code 42 = .ok (.aload_n 0, 1)) rfl)
set_option maxRecDepth 16384 in
theorem vi_93_43 (l : Launch) : ve_OK vs_A l 59 (ve_HI vs_A l 59 vs_M) (ve_CB vs_A l 59 (ve_HI vs_A l 59 vs_M) vs_M) "Orderbench" prog_1_method_66_code 4 (some .boolean) "sortsAsTwice" 43 (ve_gf 46 3) := ve_getf_ok (k := 3) (by decide +kernel : decode prog_1_method_66_code 43 = .ok (.getfield 31, 3)) vw_58 vf_235
set_option maxRecDepth 16384 in
theorem vi_93_46 (l : Launch) : ve_OK vs_A l 59 (ve_HI vs_A l 59 vs_M) (ve_CB vs_A l 59 (ve_HI vs_A l 59 vs_M) vs_M) "Orderbench" prog_1_method_66_code 4 (some .boolean) "sortsAsTwice" 46 (ve_pu (ve_al 47 1)) := ve_pu_ok (ve_aload_n_ok (k := 1) (i := 1) (by decide +kernel : decode prog_1_method_66_code 46 = .ok (.aload_n 1, 1)) rfl)
set_option maxRecDepth 16384 in
theorem vi_93_47 (l : Launch) : ve_OK vs_A l 59 (ve_HI vs_A l 59 vs_M) (ve_CB vs_A l 59 (ve_HI vs_A l 59 vs_M) vs_M) "Orderbench" prog_1_method_66_code 4 (some .boolean) "sortsAsTwice" 47 (ve_cw 59 2 50 [(3, 89)]) := ve_cw_ok rfl (List.forall_mem_cons.mpr ⟨ve_rowU (md := vs_M) (A0 := vs_A) (mi := 89) (na := 1) (k := 3) (C := "Orderbench$Row") (owner := "Orderbench$Row") (x := ⟨"Orderbench$Row", "become", "(LOrderbench$Row;)V"⟩) (by decide +kernel : decode prog_1_method_66_code 47 = .ok (.invokevirtual 96, 3)) (by decide) vw_503 vw_501 vw_44 vw_502 rfl vw_504 vw_505 vf_231 ⟨by decide, by decide⟩ vf_18 vf_199, List.forall_mem_nil _⟩)
set_option maxRecDepth 16384 in
theorem vi_93_50 (l : Launch) : ve_OK vs_A l 59 (ve_HI vs_A l 59 vs_M) (ve_CB vs_A l 59 (ve_HI vs_A l 59 vs_M) vs_M) "Orderbench" prog_1_method_66_code 4 (some .boolean) "sortsAsTwice" 50 (ve_pu (ve_al 51 0)) := ve_pu_ok (ve_aload_n_ok (k := 0) (i := 0) (by decide +kernel : decode prog_1_method_66_code 50 = .ok (.aload_n 0, 1)) rfl)
set_option maxRecDepth 16384 in
theorem vi_93_51 (l : Launch) : ve_OK vs_A l 59 (ve_HI vs_A l 59 vs_M) (ve_CB vs_A l 59 (ve_HI vs_A l 59 vs_M) vs_M) "Orderbench" prog_1_method_66_code 4 (some .boolean) "sortsAsTwice" 51 (ve_gf 54 3) := ve_getf_ok (k := 3) (by decide +kernel : decode prog_1_method_66_code 51 = .ok (.getfield 31, 3)) vw_58 vf_235
set_option maxRecDepth 16384 in
theorem vi_93_54 (l : Launch) : ve_OK vs_A l 59 (ve_HI vs_A l 59 vs_M) (ve_CB vs_A l 59 (ve_HI vs_A l 59 vs_M) vs_M) "Orderbench" prog_1_method_66_code 4 (some .boolean) "sortsAsTwice" 54 (ve_pu (ve_al 55 3)) := ve_pu_ok (ve_aload_n_ok (k := 3) (i := 3) (by decide +kernel : decode prog_1_method_66_code 54 = .ok (.aload_n 3, 1)) rfl)
set_option maxRecDepth 16384 in
theorem vi_93_55 (l : Launch) : ve_OK vs_A l 59 (ve_HI vs_A l 59 vs_M) (ve_CB vs_A l 59 (ve_HI vs_A l 59 vs_M) vs_M) "Orderbench" prog_1_method_66_code 4 (some .boolean) "sortsAsTwice" 55 (ve_cw 59 2 58 [(3, 90)]) := ve_cw_ok rfl (List.forall_mem_cons.mpr ⟨ve_rowU (md := vs_M) (A0 := vs_A) (mi := 90) (na := 1) (k := 3) (C := "Orderbench$Row") (owner := "Orderbench$Row") (x := ⟨"Orderbench$Row", "arrange", "(LOrderbench$Shape;)V"⟩) (by decide +kernel : decode prog_1_method_66_code 55 = .ok (.invokevirtual 111, 3)) (by decide) vw_508 vw_506 vw_44 vw_507 rfl vw_509 vw_510 vf_232 ⟨by decide, by decide⟩ vf_18 vf_103, List.forall_mem_nil _⟩)
set_option maxRecDepth 16384 in
theorem vi_93_58 (l : Launch) : ve_OK vs_A l 59 (ve_HI vs_A l 59 vs_M) (ve_CB vs_A l 59 (ve_HI vs_A l 59 vs_M) vs_M) "Orderbench" prog_1_method_66_code 4 (some .boolean) "sortsAsTwice" 58 (ve_pu (ve_al 59 0)) := ve_pu_ok (ve_aload_n_ok (k := 0) (i := 0) (by decide +kernel : decode prog_1_method_66_code 58 = .ok (.aload_n 0, 1)) rfl)
set_option maxRecDepth 16384 in
theorem vi_93_59 (l : Launch) : ve_OK vs_A l 59 (ve_HI vs_A l 59 vs_M) (ve_CB vs_A l 59 (ve_HI vs_A l 59 vs_M) vs_M) "Orderbench" prog_1_method_66_code 4 (some .boolean) "sortsAsTwice" 59 (ve_gf 62 3) := ve_getf_ok (k := 3) (by decide +kernel : decode prog_1_method_66_code 59 = .ok (.getfield 31, 3)) vw_58 vf_235
set_option maxRecDepth 16384 in
theorem vi_93_62 (l : Launch) : ve_OK vs_A l 59 (ve_HI vs_A l 59 vs_M) (ve_CB vs_A l 59 (ve_HI vs_A l 59 vs_M) vs_M) "Orderbench" prog_1_method_66_code 4 (some .boolean) "sortsAsTwice" 62 (ve_pu (ve_al 63 2)) := ve_pu_ok (ve_aload_n_ok (k := 2) (i := 2) (by decide +kernel : decode prog_1_method_66_code 62 = .ok (.aload_n 2, 1)) rfl)
set_option maxRecDepth 16384 in
theorem vi_93_63 (l : Launch) : ve_OK vs_A l 59 (ve_HI vs_A l 59 vs_M) (ve_CB vs_A l 59 (ve_HI vs_A l 59 vs_M) vs_M) "Orderbench" prog_1_method_66_code 4 (some .boolean) "sortsAsTwice" 63 (ve_cw 59 2 66 [(3, 90)]) := ve_cw_ok rfl (List.forall_mem_cons.mpr ⟨ve_rowU (md := vs_M) (A0 := vs_A) (mi := 90) (na := 1) (k := 3) (C := "Orderbench$Row") (owner := "Orderbench$Row") (x := ⟨"Orderbench$Row", "arrange", "(LOrderbench$Shape;)V"⟩) (by decide +kernel : decode prog_1_method_66_code 63 = .ok (.invokevirtual 111, 3)) (by decide) vw_508 vw_506 vw_44 vw_507 rfl vw_509 vw_510 vf_232 ⟨by decide, by decide⟩ vf_18 vf_103, List.forall_mem_nil _⟩)
set_option maxRecDepth 16384 in
theorem vi_93_66 (l : Launch) : ve_OK vs_A l 59 (ve_HI vs_A l 59 vs_M) (ve_CB vs_A l 59 (ve_HI vs_A l 59 vs_M) vs_M) "Orderbench" prog_1_method_66_code 4 (some .boolean) "sortsAsTwice" 66 (ve_pu (ve_al 67 0)) := ve_pu_ok (ve_aload_n_ok (k := 0) (i := 0) (by decide +kernel : decode prog_1_method_66_code 66 = .ok (.aload_n 0, 1)) rfl)
set_option maxRecDepth 16384 in
theorem vi_93_67 (l : Launch) : ve_OK vs_A l 59 (ve_HI vs_A l 59 vs_M) (ve_CB vs_A l 59 (ve_HI vs_A l 59 vs_M) vs_M) "Orderbench" prog_1_method_66_code 4 (some .boolean) "sortsAsTwice" 67 (ve_gf 70 2) := ve_getf_ok (k := 2) (by decide +kernel : decode prog_1_method_66_code 67 = .ok (.getfield 27, 3)) vw_57 vf_226
set_option maxRecDepth 16384 in
theorem vi_93_70 (l : Launch) : ve_OK vs_A l 59 (ve_HI vs_A l 59 vs_M) (ve_CB vs_A l 59 (ve_HI vs_A l 59 vs_M) vs_M) "Orderbench" prog_1_method_66_code 4 (some .boolean) "sortsAsTwice" 70 (ve_pu (ve_al 71 0)) := ve_pu_ok (ve_aload_n_ok (k := 0) (i := 0) (by decide +kernel : decode prog_1_method_66_code 70 = .ok (.aload_n 0, 1)) rfl)
set_option maxRecDepth 16384 in
theorem vi_93_71 (l : Launch) : ve_OK vs_A l 59 (ve_HI vs_A l 59 vs_M) (ve_CB vs_A l 59 (ve_HI vs_A l 59 vs_M) vs_M) "Orderbench" prog_1_method_66_code 4 (some .boolean) "sortsAsTwice" 71 (ve_gf 74 3) := ve_getf_ok (k := 3) (by decide +kernel : decode prog_1_method_66_code 71 = .ok (.getfield 31, 3)) vw_58 vf_235
set_option maxRecDepth 16384 in
theorem vi_93_74 (l : Launch) : ve_OK vs_A l 59 (ve_HI vs_A l 59 vs_M) (ve_CB vs_A l 59 (ve_HI vs_A l 59 vs_M) vs_M) "Orderbench" prog_1_method_66_code 4 (some .boolean) "sortsAsTwice" 74 (ve_cw 59 2 77 [(3, 92)]) := ve_cw_ok rfl (List.forall_mem_cons.mpr ⟨ve_rowU (md := vs_M) (A0 := vs_A) (mi := 92) (na := 1) (k := 3) (C := "Orderbench$Row") (owner := "Orderbench$Row") (x := ⟨"Orderbench$Row", "unlike", "(LOrderbench$Row;)I"⟩) (by decide +kernel : decode prog_1_method_66_code 74 = .ok (.invokevirtual 115, 3)) (by decide) vw_518 vw_516 vw_44 vw_517 rfl vw_519 vw_520 vf_237 ⟨by decide, by decide⟩ vf_18 vf_236, List.forall_mem_nil _⟩)
set_option maxRecDepth 16384 in
theorem vi_93_77 (l : Launch) : ve_OK vs_A l 59 (ve_HI vs_A l 59 vs_M) (ve_CB vs_A l 59 (ve_HI vs_A l 59 vs_M) vs_M) "Orderbench" prog_1_method_66_code 4 (some .boolean) "sortsAsTwice" 77 (ve_pu (ve_br1 (fun x => decide (¬ x = 0)) 84 80)) := ve_pu_ok (ve_if_ne_ok (by decide +kernel : decode prog_1_method_66_code 77 = .ok (.ifCond .ne (7), 3)) (by decide +kernel))
set_option maxRecDepth 16384 in
theorem vi_93_80 (l : Launch) : ve_OK vs_A l 59 (ve_HI vs_A l 59 vs_M) (ve_CB vs_A l 59 (ve_HI vs_A l 59 vs_M) vs_M) "Orderbench" prog_1_method_66_code 4 (some .boolean) "sortsAsTwice" 80 (ve_pu (ve_push 81 (.int (1)))) := ve_pu_ok (ve_iconst_ok (n := 1) (v := 1) (by decide +kernel : decode prog_1_method_66_code 80 = .ok (.iconst (1), 1)) rfl)
set_option maxRecDepth 16384 in
theorem vi_93_81 (l : Launch) : ve_OK vs_A l 59 (ve_HI vs_A l 59 vs_M) (ve_CB vs_A l 59 (ve_HI vs_A l 59 vs_M) vs_M) "Orderbench" prog_1_method_66_code 4 (some .boolean) "sortsAsTwice" 81 (ve_pu (ve_jmp 85)) := ve_pu_ok (ve_goto_ok (by decide +kernel : decode prog_1_method_66_code 81 = .ok (.goto (4), 3)) (by decide +kernel))
set_option maxRecDepth 16384 in
theorem vi_93_85 (l : Launch) : ve_OK vs_A l 59 (ve_HI vs_A l 59 vs_M) (ve_CB vs_A l 59 (ve_HI vs_A l 59 vs_M) vs_M) "Orderbench" prog_1_method_66_code 4 (some .boolean) "sortsAsTwice" 85 (ve_rt 1 .boolean) := ve_iret_ok (by decide +kernel : decode prog_1_method_66_code 85 = .ok (.ireturn, 1)) rfl
set_option maxRecDepth 16384 in
theorem vi_94_0 (l : Launch) : ve_OK vs_A l 59 (ve_HI vs_A l 59 vs_M) (ve_CB vs_A l 59 (ve_HI vs_A l 59 vs_M) vs_M) "Orderbench$Together" prog_6_method_1_code 3 none "<init>" 0 (ve_pu (ve_al 1 0)) := ve_pu_ok (ve_aload_n_ok (k := 0) (i := 0) (by decide +kernel : decode prog_6_method_1_code 0 = .ok (.aload_n 0, 1)) rfl)
set_option maxRecDepth 16384 in
theorem vi_94_1 (l : Launch) : ve_OK vs_A l 59 (ve_HI vs_A l 59 vs_M) (ve_CB vs_A l 59 (ve_HI vs_A l 59 vs_M) vs_M) "Orderbench$Together" prog_6_method_1_code 3 none "<init>" 1 (ve_pu (ve_al 2 1)) := ve_pu_ok (ve_aload_n_ok (k := 1) (i := 1) (by decide +kernel : decode prog_6_method_1_code 1 = .ok (.aload_n 1, 1)) rfl)
set_option maxRecDepth 16384 in
theorem vi_94_2 (l : Launch) : ve_OK vs_A l 59 (ve_HI vs_A l 59 vs_M) (ve_CB vs_A l 59 (ve_HI vs_A l 59 vs_M) vs_M) "Orderbench$Together" prog_6_method_1_code 3 none "<init>" 2 (ve_gf 5 0) := ve_getf_ok (k := 0) (by decide +kernel : decode prog_6_method_1_code 2 = .ok (.getfield 3, 3)) vw_528 vf_107
set_option maxRecDepth 16384 in
theorem vi_94_5 (l : Launch) : ve_OK vs_A l 59 (ve_HI vs_A l 59 vs_M) (ve_CB vs_A l 59 (ve_HI vs_A l 59 vs_M) vs_M) "Orderbench$Together" prog_6_method_1_code 3 none "<init>" 5 (ve_pu (ve_al 6 2)) := ve_pu_ok (ve_aload_n_ok (k := 2) (i := 2) (by decide +kernel : decode prog_6_method_1_code 5 = .ok (.aload_n 2, 1)) rfl)
set_option maxRecDepth 16384 in
theorem vi_94_6 (l : Launch) : ve_OK vs_A l 59 (ve_HI vs_A l 59 vs_M) (ve_CB vs_A l 59 (ve_HI vs_A l 59 vs_M) vs_M) "Orderbench$Together" prog_6_method_1_code 3 none "<init>" 6 (ve_gf 9 0) := ve_getf_ok (k := 0) (by decide +kernel : decode prog_6_method_1_code 6 = .ok (.getfield 3, 3)) vw_528 vf_107
set_option maxRecDepth 16384 in
theorem vi_94_9 (l : Launch) : ve_OK vs_A l 59 (ve_HI vs_A l 59 vs_M) (ve_CB vs_A l 59 (ve_HI vs_A l 59 vs_M) vs_M) "Orderbench$Together" prog_6_method_1_code 3 none "<init>" 9 (ve_pu (ve_iadd 10)) := ve_pu_ok (ve_iadd_ok (by decide +kernel : decode prog_6_method_1_code 9 = .ok (.iadd, 1)))
set_option maxRecDepth 16384 in
theorem vi_94_10 (l : Launch) : ve_OK vs_A l 59 (ve_HI vs_A l 59 vs_M) (ve_CB vs_A l 59 (ve_HI vs_A l 59 vs_M) vs_M) "Orderbench$Together" prog_6_method_1_code 3 none "<init>" 10 (ve_pu (ve_push 11 (.int (3)))) := ve_pu_ok (ve_iconst_ok (n := 3) (v := 3) (by decide +kernel : decode prog_6_method_1_code 10 = .ok (.iconst (3), 1)) rfl)
set_option maxRecDepth 16384 in
theorem vi_94_11 (l : Launch) : ve_OK vs_A l 59 (ve_HI vs_A l 59 vs_M) (ve_CB vs_A l 59 (ve_HI vs_A l 59 vs_M) vs_M) "Orderbench$Together" prog_6_method_1_code 3 none "<init>" 11 (ve_pu (ve_iadd 12)) := ve_pu_ok (ve_iadd_ok (by decide +kernel : decode prog_6_method_1_code 11 = .ok (.iadd, 1)))
set_option maxRecDepth 16384 in
theorem vi_94_12 (l : Launch) : ve_OK vs_A l 59 (ve_HI vs_A l 59 vs_M) (ve_CB vs_A l 59 (ve_HI vs_A l 59 vs_M) vs_M) "Orderbench$Together" prog_6_method_1_code 3 none "<init>" 12 (ve_pu (ve_al 13 1)) := ve_pu_ok (ve_aload_n_ok (k := 1) (i := 1) (by decide +kernel : decode prog_6_method_1_code 12 = .ok (.aload_n 1, 1)) rfl)
set_option maxRecDepth 16384 in
theorem vi_94_13 (l : Launch) : ve_OK vs_A l 59 (ve_HI vs_A l 59 vs_M) (ve_CB vs_A l 59 (ve_HI vs_A l 59 vs_M) vs_M) "Orderbench$Together" prog_6_method_1_code 3 none "<init>" 13 (ve_gf 16 1) := ve_getf_ok (k := 1) (by decide +kernel : decode prog_6_method_1_code 13 = .ok (.getfield 9, 3)) vw_529 vf_108
set_option maxRecDepth 16384 in
theorem vi_94_16 (l : Launch) : ve_OK vs_A l 59 (ve_HI vs_A l 59 vs_M) (ve_CB vs_A l 59 (ve_HI vs_A l 59 vs_M) vs_M) "Orderbench$Together" prog_6_method_1_code 3 none "<init>" 16 (ve_pu (ve_br1 (fun x => decide (x = 0)) 30 19)) := ve_pu_ok (ve_if_eq_ok (by decide +kernel : decode prog_6_method_1_code 16 = .ok (.ifCond .eq (14), 3)) (by decide +kernel))
set_option maxRecDepth 16384 in
theorem vi_94_30 (l : Launch) : ve_OK vs_A l 59 (ve_HI vs_A l 59 vs_M) (ve_CB vs_A l 59 (ve_HI vs_A l 59 vs_M) vs_M) "Orderbench$Together" prog_6_method_1_code 3 none "<init>" 30 (ve_pu (ve_push 31 (.int (0)))) := ve_pu_ok (ve_iconst_ok (n := 0) (v := 0) (by decide +kernel : decode prog_6_method_1_code 30 = .ok (.iconst (0), 1)) rfl)
set_option maxRecDepth 16384 in
theorem vi_94_31 (l : Launch) : ve_OK vs_A l 59 (ve_HI vs_A l 59 vs_M) (ve_CB vs_A l 59 (ve_HI vs_A l 59 vs_M) vs_M) "Orderbench$Together" prog_6_method_1_code 3 none "<init>" 31 (ve_cw 59 3 34 [(33, 4)]) := ve_cw_ok rfl (List.forall_mem_cons.mpr ⟨ve_rowI (md := vs_M) (A0 := vs_A) (mi := 4) (na := 2) (by decide +kernel : decode prog_6_method_1_code 31 = .ok (.invokespecial 13, 3)) (by decide) vw_530 vw_70 vw_71 vw_72 rfl ⟨by decide, by decide⟩ vf_42 rfl rfl 33, List.forall_mem_nil _⟩)
set_option maxRecDepth 16384 in
theorem vi_94_34 (l : Launch) : ve_OK vs_A l 59 (ve_HI vs_A l 59 vs_M) (ve_CB vs_A l 59 (ve_HI vs_A l 59 vs_M) vs_M) "Orderbench$Together" prog_6_method_1_code 3 none "<init>" 34 (ve_pu (ve_al 35 0)) := ve_pu_ok (ve_aload_n_ok (k := 0) (i := 0) (by decide +kernel : decode prog_6_method_1_code 34 = .ok (.aload_n 0, 1)) rfl)
set_option maxRecDepth 16384 in
theorem vi_94_35 (l : Launch) : ve_OK vs_A l 59 (ve_HI vs_A l 59 vs_M) (ve_CB vs_A l 59 (ve_HI vs_A l 59 vs_M) vs_M) "Orderbench$Together" prog_6_method_1_code 3 none "<init>" 35 (ve_pu (ve_al 36 1)) := ve_pu_ok (ve_aload_n_ok (k := 1) (i := 1) (by decide +kernel : decode prog_6_method_1_code 35 = .ok (.aload_n 1, 1)) rfl)
set_option maxRecDepth 16384 in
theorem vi_94_36 (l : Launch) : ve_OK vs_A l 59 (ve_HI vs_A l 59 vs_M) (ve_CB vs_A l 59 (ve_HI vs_A l 59 vs_M) vs_M) "Orderbench$Together" prog_6_method_1_code 3 none "<init>" 36 (ve_pf 39 2 [33] (.object "Orderbench$Shape")) := ve_putfF_ok (by decide +kernel : decode prog_6_method_1_code 36 = .ok (.putfield 17, 3)) vw_531 rfl vf_242 vf_241
set_option maxRecDepth 16384 in
theorem vi_94_39 (l : Launch) : ve_OK vs_A l 59 (ve_HI vs_A l 59 vs_M) (ve_CB vs_A l 59 (ve_HI vs_A l 59 vs_M) vs_M) "Orderbench$Together" prog_6_method_1_code 3 none "<init>" 39 (ve_pu (ve_al 40 0)) := ve_pu_ok (ve_aload_n_ok (k := 0) (i := 0) (by decide +kernel : decode prog_6_method_1_code 39 = .ok (.aload_n 0, 1)) rfl)
set_option maxRecDepth 16384 in
theorem vi_94_40 (l : Launch) : ve_OK vs_A l 59 (ve_HI vs_A l 59 vs_M) (ve_CB vs_A l 59 (ve_HI vs_A l 59 vs_M) vs_M) "Orderbench$Together" prog_6_method_1_code 3 none "<init>" 40 (ve_pu (ve_al 41 2)) := ve_pu_ok (ve_aload_n_ok (k := 2) (i := 2) (by decide +kernel : decode prog_6_method_1_code 40 = .ok (.aload_n 2, 1)) rfl)
set_option maxRecDepth 16384 in
theorem vi_94_41 (l : Launch) : ve_OK vs_A l 59 (ve_HI vs_A l 59 vs_M) (ve_CB vs_A l 59 (ve_HI vs_A l 59 vs_M) vs_M) "Orderbench$Together" prog_6_method_1_code 3 none "<init>" 41 (ve_pf 44 3 [33] (.object "Orderbench$Shape")) := ve_putfF_ok (by decide +kernel : decode prog_6_method_1_code 41 = .ok (.putfield 23, 3)) vw_532 rfl vf_244 vf_243
set_option maxRecDepth 16384 in
theorem vi_94_44 (l : Launch) : ve_OK vs_A l 59 (ve_HI vs_A l 59 vs_M) (ve_CB vs_A l 59 (ve_HI vs_A l 59 vs_M) vs_M) "Orderbench$Together" prog_6_method_1_code 3 none "<init>" 44 (ve_rt 0 .int) := ve_vret_ok (by decide +kernel : decode prog_6_method_1_code 44 = .ok (.return_, 1)) rfl
set_option maxRecDepth 16384 in
theorem vi_95_0 (l : Launch) : ve_OK vs_A l 59 (ve_HI vs_A l 59 vs_M) (ve_CB vs_A l 59 (ve_HI vs_A l 59 vs_M) vs_M) "OrderbenchModel" prog_10_method_70_code 5 (some .long) "digest" 0 (ve_pu (ve_al 1 0)) := ve_pu_ok (ve_aload_n_ok (k := 0) (i := 0) (by decide +kernel : decode prog_10_method_70_code 0 = .ok (.aload_n 0, 1)) rfl)
set_option maxRecDepth 16384 in
theorem vi_95_1 (l : Launch) : ve_OK vs_A l 59 (ve_HI vs_A l 59 vs_M) (ve_CB vs_A l 59 (ve_HI vs_A l 59 vs_M) vs_M) "OrderbenchModel" prog_10_method_70_code 5 (some .long) "digest" 1 (ve_pu (ve_push 2 (.int (0)))) := ve_pu_ok (ve_iconst_ok (n := 0) (v := 0) (by decide +kernel : decode prog_10_method_70_code 1 = .ok (.iconst (0), 1)) rfl)
set_option maxRecDepth 16384 in
theorem vi_95_2 (l : Launch) : ve_OK vs_A l 59 (ve_HI vs_A l 59 vs_M) (ve_CB vs_A l 59 (ve_HI vs_A l 59 vs_M) vs_M) "OrderbenchModel" prog_10_method_70_code 5 (some .long) "digest" 2 (ve_pf 5 0 [6] .int) := ve_putf_ok (by decide +kernel : decode prog_10_method_70_code 2 = .ok (.putfield 29, 3)) vw_199 vf_122 vf_121
set_option maxRecDepth 16384 in
theorem vi_95_5 (l : Launch) : ve_OK vs_A l 59 (ve_HI vs_A l 59 vs_M) (ve_CB vs_A l 59 (ve_HI vs_A l 59 vs_M) vs_M) "OrderbenchModel" prog_10_method_70_code 5 (some .long) "digest" 5 (ve_pu (ve_push 8 (.long (7773)))) := ve_cu_ok (ve_ldc2_ok (v := 7773) (by decide +kernel : decode prog_10_method_70_code 5 = .ok (.ldc2_w 236, 3)) vw_533)
set_option maxRecDepth 16384 in
theorem vi_95_8 (l : Launch) : ve_OK vs_A l 59 (ve_HI vs_A l 59 vs_M) (ve_CB vs_A l 59 (ve_HI vs_A l 59 vs_M) vs_M) "OrderbenchModel" prog_10_method_70_code 5 (some .long) "digest" 8 (ve_pu (ve_ls 9 1 5)) := ve_pu_ok (ve_lstore_n_ok (k := 1) (i := 1) (by decide +kernel : decode prog_10_method_70_code 8 = .ok (.lstore_n 1, 1)) rfl)
set_option maxRecDepth 16384 in
theorem vi_95_9 (l : Launch) : ve_OK vs_A l 59 (ve_HI vs_A l 59 vs_M) (ve_CB vs_A l 59 (ve_HI vs_A l 59 vs_M) vs_M) "OrderbenchModel" prog_10_method_70_code 5 (some .long) "digest" 9 (ve_pu (ve_push 10 (.int (0)))) := ve_pu_ok (ve_iconst_ok (n := 0) (v := 0) (by decide +kernel : decode prog_10_method_70_code 9 = .ok (.iconst (0), 1)) rfl)
set_option maxRecDepth 16384 in
theorem vi_95_10 (l : Launch) : ve_OK vs_A l 59 (ve_HI vs_A l 59 vs_M) (ve_CB vs_A l 59 (ve_HI vs_A l 59 vs_M) vs_M) "OrderbenchModel" prog_10_method_70_code 5 (some .long) "digest" 10 (ve_pu (ve_is 11 3 5)) := ve_pu_ok (ve_istore_n_ok (k := 3) (i := 3) (by decide +kernel : decode prog_10_method_70_code 10 = .ok (.istore_n 3, 1)) rfl)
set_option maxRecDepth 16384 in
theorem vi_95_11 (l : Launch) : ve_OK vs_A l 59 (ve_HI vs_A l 59 vs_M) (ve_CB vs_A l 59 (ve_HI vs_A l 59 vs_M) vs_M) "OrderbenchModel" prog_10_method_70_code 5 (some .long) "digest" 11 (ve_pu (ve_il 12 3)) := ve_pu_ok (ve_iload_n_ok (k := 3) (i := 3) (by decide +kernel : decode prog_10_method_70_code 11 = .ok (.iload_n 3, 1)) rfl)
set_option maxRecDepth 16384 in
theorem vi_95_12 (l : Launch) : ve_OK vs_A l 59 (ve_HI vs_A l 59 vs_M) (ve_CB vs_A l 59 (ve_HI vs_A l 59 vs_M) vs_M) "OrderbenchModel" prog_10_method_70_code 5 (some .long) "digest" 12 (ve_pu (ve_push 14 (.int (6)))) := ve_pu_ok (ve_bipush_ok (n := 6) (v := 6) (by decide +kernel : decode prog_10_method_70_code 12 = .ok (.bipush (6), 2)) (by decide +kernel))
set_option maxRecDepth 16384 in
theorem vi_95_14 (l : Launch) : ve_OK vs_A l 59 (ve_HI vs_A l 59 vs_M) (ve_CB vs_A l 59 (ve_HI vs_A l 59 vs_M) vs_M) "OrderbenchModel" prog_10_method_70_code 5 (some .long) "digest" 14 (ve_pu (ve_br2 (fun x y => decide (¬ x < y)) 34 17)) := ve_pu_ok (ve_icmp_ge_ok (by decide +kernel : decode prog_10_method_70_code 14 = .ok (.if_icmp .ge (20), 3)) (by decide +kernel))
set_option maxRecDepth 16384 in
theorem vi_95_17 (l : Launch) : ve_OK vs_A l 59 (ve_HI vs_A l 59 vs_M) (ve_CB vs_A l 59 (ve_HI vs_A l 59 vs_M) vs_M) "OrderbenchModel" prog_10_method_70_code 5 (some .long) "digest" 17 (ve_pu (ve_ll 18 1)) := ve_pu_ok (ve_lload_n_ok (k := 1) (i := 1) (by decide +kernel : decode prog_10_method_70_code 17 = .ok (.lload_n 1, 1)) rfl)
set_option maxRecDepth 16384 in
theorem vi_95_18 (l : Launch) : ve_OK vs_A l 59 (ve_HI vs_A l 59 vs_M) (ve_CB vs_A l 59 (ve_HI vs_A l 59 vs_M) vs_M) "OrderbenchModel" prog_10_method_70_code 5 (some .long) "digest" 18 (ve_pu (ve_al 19 0)) := ve_pu_ok (ve_aload_n_ok (k := 0) (i := 0) (by decide +kernel : decode prog_10_method_70_code 18 = .ok (.aload_n 0, 1)) rfl)
set_option maxRecDepth 16384 in
theorem vi_95_19 (l : Launch) : ve_OK vs_A l 59 (ve_HI vs_A l 59 vs_M) (ve_CB vs_A l 59 (ve_HI vs_A l 59 vs_M) vs_M) "OrderbenchModel" prog_10_method_70_code 5 (some .long) "digest" 19 (ve_pu (ve_il 20 3)) := ve_pu_ok (ve_iload_n_ok (k := 3) (i := 3) (by decide +kernel : decode prog_10_method_70_code 19 = .ok (.iload_n 3, 1)) rfl)
set_option maxRecDepth 16384 in
theorem vi_95_20 (l : Launch) : ve_OK vs_A l 59 (ve_HI vs_A l 59 vs_M) (ve_CB vs_A l 59 (ve_HI vs_A l 59 vs_M) vs_M) "OrderbenchModel" prog_10_method_70_code 5 (some .long) "digest" 20 (ve_cw 59 2 23 [(6, 96)]) := ve_cw_ok rfl (List.forall_mem_cons.mpr ⟨ve_rowU (md := vs_M) (A0 := vs_A) (mi := 96) (na := 1) (k := 6) (C := "OrderbenchModel") (owner := "OrderbenchModel") (x := ⟨"OrderbenchModel", "houseOf", "(I)I"⟩) (by decide +kernel : decode prog_10_method_70_code 20 = .ok (.invokevirtual 228, 3)) (by decide) vw_536 vw_534 vw_8 vw_535 rfl vw_537 vw_538 vf_245 ⟨by decide, by decide⟩ vf_3 vf_129, List.forall_mem_nil _⟩)
set_option maxRecDepth 16384 in
theorem vi_95_23 (l : Launch) : ve_OK vs_A l 59 (ve_HI vs_A l 59 vs_M) (ve_CB vs_A l 59 (ve_HI vs_A l 59 vs_M) vs_M) "OrderbenchModel" prog_10_method_70_code 5 (some .long) "digest" 23 (ve_pu (ve_i2l 24)) := ve_pu_ok (ve_i2l_ok (by decide +kernel : decode prog_10_method_70_code 23 = .ok (.i2l, 1)))
set_option maxRecDepth 16384 in
theorem vi_95_24 (l : Launch) : ve_OK vs_A l 59 (ve_HI vs_A l 59 vs_M) (ve_CB vs_A l 59 (ve_HI vs_A l 59 vs_M) vs_M) "OrderbenchModel" prog_10_method_70_code 5 (some .long) "digest" 24 (ve_cl 59 106 2 27) := ve_cl_ok (ve_rowS (md := vs_M) (A0 := vs_A) (mi := 106) (by decide +kernel : decode prog_10_method_70_code 24 = .ok (.invokestatic 233, 3)) (by decide) vw_539 vw_540 vw_8 vw_541 rfl ⟨by decide, by decide⟩ vf_246)
set_option maxRecDepth 16384 in
theorem vi_95_27 (l : Launch) : ve_OK vs_A l 59 (ve_HI vs_A l 59 vs_M) (ve_CB vs_A l 59 (ve_HI vs_A l 59 vs_M) vs_M) "OrderbenchModel" prog_10_method_70_code 5 (some .long) "digest" 27 (ve_pu (ve_ls 28 1 5)) := ve_pu_ok (ve_lstore_n_ok (k := 1) (i := 1) (by decide +kernel : decode prog_10_method_70_code 27 = .ok (.lstore_n 1, 1)) rfl)
set_option maxRecDepth 16384 in
theorem vi_95_28 (l : Launch) : ve_OK vs_A l 59 (ve_HI vs_A l 59 vs_M) (ve_CB vs_A l 59 (ve_HI vs_A l 59 vs_M) vs_M) "OrderbenchModel" prog_10_method_70_code 5 (some .long) "digest" 28 (ve_pu (ve_ii 31 3 5 (1))) := ve_pu_ok (ve_iinc_ok (by decide +kernel : decode prog_10_method_70_code 28 = .ok (.iinc 3 (1), 3)))
set_option maxRecDepth 16384 in
theorem vi_95_31 (l : Launch) : ve_OK vs_A l 59 (ve_HI vs_A l 59 vs_M) (ve_CB vs_A l 59 (ve_HI vs_A l 59 vs_M) vs_M) "OrderbenchModel" prog_10_method_70_code 5 (some .long) "digest" 31 (ve_pu (ve_jmp 11)) := ve_pu_ok (ve_goto_ok (by decide +kernel : decode prog_10_method_70_code 31 = .ok (.goto (-20), 3)) (by decide +kernel))
set_option maxRecDepth 16384 in
theorem vi_95_34 (l : Launch) : ve_OK vs_A l 59 (ve_HI vs_A l 59 vs_M) (ve_CB vs_A l 59 (ve_HI vs_A l 59 vs_M) vs_M) "OrderbenchModel" prog_10_method_70_code 5 (some .long) "digest" 34 (ve_pu (ve_push 35 (.int (0)))) := ve_pu_ok (ve_iconst_ok (n := 0) (v := 0) (by decide +kernel : decode prog_10_method_70_code 34 = .ok (.iconst (0), 1)) rfl)
set_option maxRecDepth 16384 in
theorem vi_95_35 (l : Launch) : ve_OK vs_A l 59 (ve_HI vs_A l 59 vs_M) (ve_CB vs_A l 59 (ve_HI vs_A l 59 vs_M) vs_M) "OrderbenchModel" prog_10_method_70_code 5 (some .long) "digest" 35 (ve_pu (ve_is 36 3 5)) := ve_pu_ok (ve_istore_n_ok (k := 3) (i := 3) (by decide +kernel : decode prog_10_method_70_code 35 = .ok (.istore_n 3, 1)) rfl)
set_option maxRecDepth 16384 in
theorem vi_95_36 (l : Launch) : ve_OK vs_A l 59 (ve_HI vs_A l 59 vs_M) (ve_CB vs_A l 59 (ve_HI vs_A l 59 vs_M) vs_M) "OrderbenchModel" prog_10_method_70_code 5 (some .long) "digest" 36 (ve_pu (ve_il 37 3)) := ve_pu_ok (ve_iload_n_ok (k := 3) (i := 3) (by decide +kernel : decode prog_10_method_70_code 36 = .ok (.iload_n 3, 1)) rfl)
set_option maxRecDepth 16384 in
theorem vi_95_37 (l : Launch) : ve_OK vs_A l 59 (ve_HI vs_A l 59 vs_M) (ve_CB vs_A l 59 (ve_HI vs_A l 59 vs_M) vs_M) "OrderbenchModel" prog_10_method_70_code 5 (some .long) "digest" 37 (ve_pu (ve_push 38 (.int (2)))) := ve_pu_ok (ve_iconst_ok (n := 2) (v := 2) (by decide +kernel : decode prog_10_method_70_code 37 = .ok (.iconst (2), 1)) rfl)
set_option maxRecDepth 16384 in
theorem vi_95_38 (l : Launch) : ve_OK vs_A l 59 (ve_HI vs_A l 59 vs_M) (ve_CB vs_A l 59 (ve_HI vs_A l 59 vs_M) vs_M) "OrderbenchModel" prog_10_method_70_code 5 (some .long) "digest" 38 (ve_pu (ve_br2 (fun x y => decide (¬ x < y)) 124 41)) := ve_pu_ok (ve_icmp_ge_ok (by decide +kernel : decode prog_10_method_70_code 38 = .ok (.if_icmp .ge (86), 3)) (by decide +kernel))
set_option maxRecDepth 16384 in
theorem vi_95_41 (l : Launch) : ve_OK vs_A l 59 (ve_HI vs_A l 59 vs_M) (ve_CB vs_A l 59 (ve_HI vs_A l 59 vs_M) vs_M) "OrderbenchModel" prog_10_method_70_code 5 (some .long) "digest" 41 (ve_pu (ve_ll 42 1)) := ve_pu_ok (ve_lload_n_ok (k := 1) (i := 1) (by decide +kernel : decode prog_10_method_70_code 41 = .ok (.lload_n 1, 1)) rfl)
set_option maxRecDepth 16384 in
theorem vi_95_42 (l : Launch) : ve_OK vs_A l 59 (ve_HI vs_A l 59 vs_M) (ve_CB vs_A l 59 (ve_HI vs_A l 59 vs_M) vs_M) "OrderbenchModel" prog_10_method_70_code 5 (some .long) "digest" 42 (ve_pu (ve_al 43 0)) := ve_pu_ok (ve_aload_n_ok (k := 0) (i := 0) (by decide +kernel : decode prog_10_method_70_code 42 = .ok (.aload_n 0, 1)) rfl)
set_option maxRecDepth 16384 in
theorem vi_95_43 (l : Launch) : ve_OK vs_A l 59 (ve_HI vs_A l 59 vs_M) (ve_CB vs_A l 59 (ve_HI vs_A l 59 vs_M) vs_M) "OrderbenchModel" prog_10_method_70_code 5 (some .long) "digest" 43 (ve_pu (ve_il 44 3)) := ve_pu_ok (ve_iload_n_ok (k := 3) (i := 3) (by decide +kernel : decode prog_10_method_70_code 43 = .ok (.iload_n 3, 1)) rfl)
set_option maxRecDepth 16384 in
theorem vi_95_44 (l : Launch) : ve_OK vs_A l 59 (ve_HI vs_A l 59 vs_M) (ve_CB vs_A l 59 (ve_HI vs_A l 59 vs_M) vs_M) "OrderbenchModel" prog_10_method_70_code 5 (some .long) "digest" 44 (ve_cw 59 2 47 [(6, 107)]) := ve_cw_ok rfl (List.forall_mem_cons.mpr ⟨ve_rowU (md := vs_M) (A0 := vs_A) (mi := 107) (na := 1) (k := 6) (C := "OrderbenchModel") (owner := "OrderbenchModel") (x := ⟨"OrderbenchModel", "textOf", "(I)Ljava/lang/String;"⟩) (by decide +kernel : decode prog_10_method_70_code 44 = .ok (.invokevirtual 200, 3)) (by decide) vw_544 vw_542 vw_8 vw_543 rfl vw_545 vw_546 vf_248 ⟨by decide, by decide⟩ vf_3 vf_247, List.forall_mem_nil _⟩)
set_option maxRecDepth 16384 in
theorem vi_95_47 (l : Launch) : ve_OK vs_A l 59 (ve_HI vs_A l 59 vs_M) (ve_CB vs_A l 59 (ve_HI vs_A l 59 vs_M) vs_M) "OrderbenchModel" prog_10_method_70_code 5 (some .long) "digest" 47 (ve_cl 59 108 2 50) := ve_cl_ok (ve_rowS (md := vs_M) (A0 := vs_A) (mi := 108) (by decide +kernel : decode prog_10_method_70_code 47 = .ok (.invokestatic 238, 3)) (by decide) vw_547 vw_548 vw_8 vw_549 rfl ⟨by decide, by decide⟩ vf_249)
set_option maxRecDepth 16384 in
theorem vi_95_50 (l : Launch) : ve_OK vs_A l 59 (ve_HI vs_A l 59 vs_M) (ve_CB vs_A l 59 (ve_HI vs_A l 59 vs_M) vs_M) "OrderbenchModel" prog_10_method_70_code 5 (some .long) "digest" 50 (ve_pu (ve_ls 51 1 5)) := ve_pu_ok (ve_lstore_n_ok (k := 1) (i := 1) (by decide +kernel : decode prog_10_method_70_code 50 = .ok (.lstore_n 1, 1)) rfl)
set_option maxRecDepth 16384 in
theorem vi_95_51 (l : Launch) : ve_OK vs_A l 59 (ve_HI vs_A l 59 vs_M) (ve_CB vs_A l 59 (ve_HI vs_A l 59 vs_M) vs_M) "OrderbenchModel" prog_10_method_70_code 5 (some .long) "digest" 51 (ve_pu (ve_push 52 (.int (0)))) := ve_pu_ok (ve_iconst_ok (n := 0) (v := 0) (by decide +kernel : decode prog_10_method_70_code 51 = .ok (.iconst (0), 1)) rfl)
set_option maxRecDepth 16384 in
theorem vi_95_52 (l : Launch) : ve_OK vs_A l 59 (ve_HI vs_A l 59 vs_M) (ve_CB vs_A l 59 (ve_HI vs_A l 59 vs_M) vs_M) "OrderbenchModel" prog_10_method_70_code 5 (some .long) "digest" 52 (ve_pu (ve_is 54 4 5)) := ve_pu_ok (ve_istore_ok (by decide +kernel : decode prog_10_method_70_code 52 = .ok (.istore 4, 2)))
set_option maxRecDepth 16384 in
theorem vi_95_54 (l : Launch) : ve_OK vs_A l 59 (ve_HI vs_A l 59 vs_M) (ve_CB vs_A l 59 (ve_HI vs_A l 59 vs_M) vs_M) "OrderbenchModel" prog_10_method_70_code 5 (some .long) "digest" 54 (ve_pu (ve_il 56 4)) := ve_pu_ok (ve_iload_ok (by decide +kernel : decode prog_10_method_70_code 54 = .ok (.iload 4, 2)))
set_option maxRecDepth 16384 in
theorem vi_95_56 (l : Launch) : ve_OK vs_A l 59 (ve_HI vs_A l 59 vs_M) (ve_CB vs_A l 59 (ve_HI vs_A l 59 vs_M) vs_M) "OrderbenchModel" prog_10_method_70_code 5 (some .long) "digest" 56 (ve_pu (ve_push 58 (.int (10)))) := ve_pu_ok (ve_bipush_ok (n := 10) (v := 10) (by decide +kernel : decode prog_10_method_70_code 56 = .ok (.bipush (10), 2)) (by decide +kernel))
set_option maxRecDepth 16384 in
theorem vi_95_58 (l : Launch) : ve_OK vs_A l 59 (ve_HI vs_A l 59 vs_M) (ve_CB vs_A l 59 (ve_HI vs_A l 59 vs_M) vs_M) "OrderbenchModel" prog_10_method_70_code 5 (some .long) "digest" 58 (ve_pu (ve_br2 (fun x y => decide (¬ x < y)) 118 61)) := ve_pu_ok (ve_icmp_ge_ok (by decide +kernel : decode prog_10_method_70_code 58 = .ok (.if_icmp .ge (60), 3)) (by decide +kernel))
set_option maxRecDepth 16384 in
theorem vi_95_61 (l : Launch) : ve_OK vs_A l 59 (ve_HI vs_A l 59 vs_M) (ve_CB vs_A l 59 (ve_HI vs_A l 59 vs_M) vs_M) "OrderbenchModel" prog_10_method_70_code 5 (some .long) "digest" 61 (ve_pu (ve_ll 62 1)) := ve_pu_ok (ve_lload_n_ok (k := 1) (i := 1) (by decide +kernel : decode prog_10_method_70_code 61 = .ok (.lload_n 1, 1)) rfl)
set_option maxRecDepth 16384 in
theorem vi_95_62 (l : Launch) : ve_OK vs_A l 59 (ve_HI vs_A l 59 vs_M) (ve_CB vs_A l 59 (ve_HI vs_A l 59 vs_M) vs_M) "OrderbenchModel" prog_10_method_70_code 5 (some .long) "digest" 62 (ve_pu (ve_al 63 0)) := ve_pu_ok (ve_aload_n_ok (k := 0) (i := 0) (by decide +kernel : decode prog_10_method_70_code 62 = .ok (.aload_n 0, 1)) rfl)
set_option maxRecDepth 16384 in
theorem vi_95_63 (l : Launch) : ve_OK vs_A l 59 (ve_HI vs_A l 59 vs_M) (ve_CB vs_A l 59 (ve_HI vs_A l 59 vs_M) vs_M) "OrderbenchModel" prog_10_method_70_code 5 (some .long) "digest" 63 (ve_pu (ve_il 64 3)) := ve_pu_ok (ve_iload_n_ok (k := 3) (i := 3) (by decide +kernel : decode prog_10_method_70_code 63 = .ok (.iload_n 3, 1)) rfl)
set_option maxRecDepth 16384 in
theorem vi_95_64 (l : Launch) : ve_OK vs_A l 59 (ve_HI vs_A l 59 vs_M) (ve_CB vs_A l 59 (ve_HI vs_A l 59 vs_M) vs_M) "OrderbenchModel" prog_10_method_70_code 5 (some .long) "digest" 64 (ve_pu (ve_il 66 4)) := ve_pu_ok (ve_iload_ok (by decide +kernel : decode prog_10_method_70_code 64 = .ok (.iload 4, 2)))
set_option maxRecDepth 16384 in
theorem vi_95_66 (l : Launch) : ve_OK vs_A l 59 (ve_HI vs_A l 59 vs_M) (ve_CB vs_A l 59 (ve_HI vs_A l 59 vs_M) vs_M) "OrderbenchModel" prog_10_method_70_code 5 (some .long) "digest" 66 (ve_cw 59 3 69 [(6, 109)]) := ve_cw_ok rfl (List.forall_mem_cons.mpr ⟨ve_rowU (md := vs_M) (A0 := vs_A) (mi := 109) (na := 2) (k := 6) (C := "OrderbenchModel") (owner := "OrderbenchModel") (x := ⟨"OrderbenchModel", "isSortedBy", "(II)Z"⟩) (by decide +kernel : decode prog_10_method_70_code 66 = .ok (.invokevirtual 211, 3)) (by decide) vw_552 vw_550 vw_8 vw_551 rfl vw_553 vw_554 vf_251 ⟨by decide, by decide⟩ vf_3 vf_250, List.forall_mem_nil _⟩)
set_option maxRecDepth 16384 in
theorem vi_95_69 (l : Launch) : ve_OK vs_A l 59 (ve_HI vs_A l 59 vs_M) (ve_CB vs_A l 59 (ve_HI vs_A l 59 vs_M) vs_M) "OrderbenchModel" prog_10_method_70_code 5 (some .long) "digest" 69 (ve_cl 59 99 1 72) := ve_cl_ok (ve_rowS (md := vs_M) (A0 := vs_A) (mi := 99) (by decide +kernel : decode prog_10_method_70_code 69 = .ok (.invokestatic 113, 3)) (by decide) vw_555 vw_556 vw_8 vw_557 rfl ⟨by decide, by decide⟩ vf_252)
set_option maxRecDepth 16384 in
theorem vi_95_72 (l : Launch) : ve_OK vs_A l 59 (ve_HI vs_A l 59 vs_M) (ve_CB vs_A l 59 (ve_HI vs_A l 59 vs_M) vs_M) "OrderbenchModel" prog_10_method_70_code 5 (some .long) "digest" 72 (ve_pu (ve_i2l 73)) := ve_pu_ok (ve_i2l_ok (by decide +kernel : decode prog_10_method_70_code 72 = .ok (.i2l, 1)))
set_option maxRecDepth 16384 in
theorem vi_95_73 (l : Launch) : ve_OK vs_A l 59 (ve_HI vs_A l 59 vs_M) (ve_CB vs_A l 59 (ve_HI vs_A l 59 vs_M) vs_M) "OrderbenchModel" prog_10_method_70_code 5 (some .long) "digest" 73 (ve_cl 59 106 2 76) := ve_cl_ok (ve_rowS (md := vs_M) (A0 := vs_A) (mi := 106) (by decide +kernel : decode prog_10_method_70_code 73 = .ok (.invokestatic 233, 3)) (by decide) vw_539 vw_540 vw_8 vw_541 rfl ⟨by decide, by decide⟩ vf_246)
set_option maxRecDepth 16384 in
theorem vi_95_76 (l : Launch) : ve_OK vs_A l 59 (ve_HI vs_A l 59 vs_M) (ve_CB vs_A l 59 (ve_HI vs_A l 59 vs_M) vs_M) "OrderbenchModel" prog_10_method_70_code 5 (some .long) "digest" 76 (ve_pu (ve_al 77 0)) := ve_pu_ok (ve_aload_n_ok (k := 0) (i := 0) (by decide +kernel : decode prog_10_method_70_code 76 = .ok (.aload_n 0, 1)) rfl)
set_option maxRecDepth 16384 in
theorem vi_95_77 (l : Launch) : ve_OK vs_A l 59 (ve_HI vs_A l 59 vs_M) (ve_CB vs_A l 59 (ve_HI vs_A l 59 vs_M) vs_M) "OrderbenchModel" prog_10_method_70_code 5 (some .long) "digest" 77 (ve_pu (ve_il 78 3)) := ve_pu_ok (ve_iload_n_ok (k := 3) (i := 3) (by decide +kernel : decode prog_10_method_70_code 77 = .ok (.iload_n 3, 1)) rfl)
set_option maxRecDepth 16384 in
theorem vi_95_78 (l : Launch) : ve_OK vs_A l 59 (ve_HI vs_A l 59 vs_M) (ve_CB vs_A l 59 (ve_HI vs_A l 59 vs_M) vs_M) "OrderbenchModel" prog_10_method_70_code 5 (some .long) "digest" 78 (ve_pu (ve_il 80 4)) := ve_pu_ok (ve_iload_ok (by decide +kernel : decode prog_10_method_70_code 78 = .ok (.iload 4, 2)))
set_option maxRecDepth 16384 in
theorem vi_95_80 (l : Launch) : ve_OK vs_A l 59 (ve_HI vs_A l 59 vs_M) (ve_CB vs_A l 59 (ve_HI vs_A l 59 vs_M) vs_M) "OrderbenchModel" prog_10_method_70_code 5 (some .long) "digest" 80 (ve_cw 59 3 83 [(6, 112)]) := ve_cw_ok rfl (List.forall_mem_cons.mpr ⟨ve_rowU (md := vs_M) (A0 := vs_A) (mi := 112) (na := 2) (k := 6) (C := "OrderbenchModel") (owner := "OrderbenchModel") (x := ⟨"OrderbenchModel", "classesOf", "(II)I"⟩) (by decide +kernel : decode prog_10_method_70_code 80 = .ok (.invokevirtual 214, 3)) (by decide) vw_560 vw_558 vw_8 vw_559 rfl vw_561 vw_562 vf_253 ⟨by decide, by decide⟩ vf_3 vf_9, List.forall_mem_nil _⟩)
set_option maxRecDepth 16384 in
theorem vi_95_83 (l : Launch) : ve_OK vs_A l 59 (ve_HI vs_A l 59 vs_M) (ve_CB vs_A l 59 (ve_HI vs_A l 59 vs_M) vs_M) "OrderbenchModel" prog_10_method_70_code 5 (some .long) "digest" 83 (ve_pu (ve_i2l 84)) := ve_pu_ok (ve_i2l_ok (by decide +kernel : decode prog_10_method_70_code 83 = .ok (.i2l, 1)))
set_option maxRecDepth 16384 in
theorem vi_95_84 (l : Launch) : ve_OK vs_A l 59 (ve_HI vs_A l 59 vs_M) (ve_CB vs_A l 59 (ve_HI vs_A l 59 vs_M) vs_M) "OrderbenchModel" prog_10_method_70_code 5 (some .long) "digest" 84 (ve_cl 59 106 2 87) := ve_cl_ok (ve_rowS (md := vs_M) (A0 := vs_A) (mi := 106) (by decide +kernel : decode prog_10_method_70_code 84 = .ok (.invokestatic 233, 3)) (by decide) vw_539 vw_540 vw_8 vw_541 rfl ⟨by decide, by decide⟩ vf_246)
set_option maxRecDepth 16384 in
theorem vi_95_87 (l : Launch) : ve_OK vs_A l 59 (ve_HI vs_A l 59 vs_M) (ve_CB vs_A l 59 (ve_HI vs_A l 59 vs_M) vs_M) "OrderbenchModel" prog_10_method_70_code 5 (some .long) "digest" 87 (ve_pu (ve_al 88 0)) := ve_pu_ok (ve_aload_n_ok (k := 0) (i := 0) (by decide +kernel : decode prog_10_method_70_code 87 = .ok (.aload_n 0, 1)) rfl)
set_option maxRecDepth 16384 in
theorem vi_95_88 (l : Launch) : ve_OK vs_A l 59 (ve_HI vs_A l 59 vs_M) (ve_CB vs_A l 59 (ve_HI vs_A l 59 vs_M) vs_M) "OrderbenchModel" prog_10_method_70_code 5 (some .long) "digest" 88 (ve_pu (ve_il 89 3)) := ve_pu_ok (ve_iload_n_ok (k := 3) (i := 3) (by decide +kernel : decode prog_10_method_70_code 88 = .ok (.iload_n 3, 1)) rfl)
set_option maxRecDepth 16384 in
theorem vi_95_89 (l : Launch) : ve_OK vs_A l 59 (ve_HI vs_A l 59 vs_M) (ve_CB vs_A l 59 (ve_HI vs_A l 59 vs_M) vs_M) "OrderbenchModel" prog_10_method_70_code 5 (some .long) "digest" 89 (ve_pu (ve_il 91 4)) := ve_pu_ok (ve_iload_ok (by decide +kernel : decode prog_10_method_70_code 89 = .ok (.iload 4, 2)))
set_option maxRecDepth 16384 in
theorem vi_95_91 (l : Launch) : ve_OK vs_A l 59 (ve_HI vs_A l 59 vs_M) (ve_CB vs_A l 59 (ve_HI vs_A l 59 vs_M) vs_M) "OrderbenchModel" prog_10_method_70_code 5 (some .long) "digest" 91 (ve_pu (ve_push 92 (.int (-1)))) := ve_pu_ok (ve_iconst_ok (n := -1) (v := -1) (by decide +kernel : decode prog_10_method_70_code 91 = .ok (.iconst (-1), 1)) rfl)
set_option maxRecDepth 16384 in
theorem vi_95_92 (l : Launch) : ve_OK vs_A l 59 (ve_HI vs_A l 59 vs_M) (ve_CB vs_A l 59 (ve_HI vs_A l 59 vs_M) vs_M) "OrderbenchModel" prog_10_method_70_code 5 (some .long) "digest" 92 (ve_cw 59 4 95 [(6, 114)]) := ve_cw_ok rfl (List.forall_mem_cons.mpr ⟨ve_rowU (md := vs_M) (A0 := vs_A) (mi := 114) (na := 3) (k := 6) (C := "OrderbenchModel") (owner := "OrderbenchModel") (x := ⟨"OrderbenchModel", "endOf", "(III)I"⟩) (by decide +kernel : decode prog_10_method_70_code 92 = .ok (.invokevirtual 218, 3)) (by decide) vw_565 vw_563 vw_8 vw_564 rfl vw_566 vw_567 vf_254 ⟨by decide, by decide⟩ vf_3 vf_182, List.forall_mem_nil _⟩)
set_option maxRecDepth 16384 in
theorem vi_95_95 (l : Launch) : ve_OK vs_A l 59 (ve_HI vs_A l 59 vs_M) (ve_CB vs_A l 59 (ve_HI vs_A l 59 vs_M) vs_M) "OrderbenchModel" prog_10_method_70_code 5 (some .long) "digest" 95 (ve_pu (ve_i2l 96)) := ve_pu_ok (ve_i2l_ok (by decide +kernel : decode prog_10_method_70_code 95 = .ok (.i2l, 1)))
set_option maxRecDepth 16384 in
theorem vi_95_96 (l : Launch) : ve_OK vs_A l 59 (ve_HI vs_A l 59 vs_M) (ve_CB vs_A l 59 (ve_HI vs_A l 59 vs_M) vs_M) "OrderbenchModel" prog_10_method_70_code 5 (some .long) "digest" 96 (ve_cl 59 106 2 99) := ve_cl_ok (ve_rowS (md := vs_M) (A0 := vs_A) (mi := 106) (by decide +kernel : decode prog_10_method_70_code 96 = .ok (.invokestatic 233, 3)) (by decide) vw_539 vw_540 vw_8 vw_541 rfl ⟨by decide, by decide⟩ vf_246)
set_option maxRecDepth 16384 in
theorem vi_95_99 (l : Launch) : ve_OK vs_A l 59 (ve_HI vs_A l 59 vs_M) (ve_CB vs_A l 59 (ve_HI vs_A l 59 vs_M) vs_M) "OrderbenchModel" prog_10_method_70_code 5 (some .long) "digest" 99 (ve_pu (ve_al 100 0)) := ve_pu_ok (ve_aload_n_ok (k := 0) (i := 0) (by decide +kernel : decode prog_10_method_70_code 99 = .ok (.aload_n 0, 1)) rfl)
set_option maxRecDepth 16384 in
theorem vi_95_100 (l : Launch) : ve_OK vs_A l 59 (ve_HI vs_A l 59 vs_M) (ve_CB vs_A l 59 (ve_HI vs_A l 59 vs_M) vs_M) "OrderbenchModel" prog_10_method_70_code 5 (some .long) "digest" 100 (ve_pu (ve_il 101 3)) := ve_pu_ok (ve_iload_n_ok (k := 3) (i := 3) (by decide +kernel : decode prog_10_method_70_code 100 = .ok (.iload_n 3, 1)) rfl)
set_option maxRecDepth 16384 in
theorem vi_95_101 (l : Launch) : ve_OK vs_A l 59 (ve_HI vs_A l 59 vs_M) (ve_CB vs_A l 59 (ve_HI vs_A l 59 vs_M) vs_M) "OrderbenchModel" prog_10_method_70_code 5 (some .long) "digest" 101 (ve_pu (ve_il 103 4)) := ve_pu_ok (ve_iload_ok (by decide +kernel : decode prog_10_method_70_code 101 = .ok (.iload 4, 2)))
set_option maxRecDepth 16384 in
theorem vi_95_103 (l : Launch) : ve_OK vs_A l 59 (ve_HI vs_A l 59 vs_M) (ve_CB vs_A l 59 (ve_HI vs_A l 59 vs_M) vs_M) "OrderbenchModel" prog_10_method_70_code 5 (some .long) "digest" 103 (ve_pu (ve_push 104 (.int (1)))) := ve_pu_ok (ve_iconst_ok (n := 1) (v := 1) (by decide +kernel : decode prog_10_method_70_code 103 = .ok (.iconst (1), 1)) rfl)
set_option maxRecDepth 16384 in
theorem vi_95_104 (l : Launch) : ve_OK vs_A l 59 (ve_HI vs_A l 59 vs_M) (ve_CB vs_A l 59 (ve_HI vs_A l 59 vs_M) vs_M) "OrderbenchModel" prog_10_method_70_code 5 (some .long) "digest" 104 (ve_cw 59 4 107 [(6, 114)]) := ve_cw_ok rfl (List.forall_mem_cons.mpr ⟨ve_rowU (md := vs_M) (A0 := vs_A) (mi := 114) (na := 3) (k := 6) (C := "OrderbenchModel") (owner := "OrderbenchModel") (x := ⟨"OrderbenchModel", "endOf", "(III)I"⟩) (by decide +kernel : decode prog_10_method_70_code 104 = .ok (.invokevirtual 218, 3)) (by decide) vw_565 vw_563 vw_8 vw_564 rfl vw_566 vw_567 vf_254 ⟨by decide, by decide⟩ vf_3 vf_182, List.forall_mem_nil _⟩)
set_option maxRecDepth 16384 in
theorem vi_95_107 (l : Launch) : ve_OK vs_A l 59 (ve_HI vs_A l 59 vs_M) (ve_CB vs_A l 59 (ve_HI vs_A l 59 vs_M) vs_M) "OrderbenchModel" prog_10_method_70_code 5 (some .long) "digest" 107 (ve_pu (ve_i2l 108)) := ve_pu_ok (ve_i2l_ok (by decide +kernel : decode prog_10_method_70_code 107 = .ok (.i2l, 1)))
set_option maxRecDepth 16384 in
theorem vi_95_108 (l : Launch) : ve_OK vs_A l 59 (ve_HI vs_A l 59 vs_M) (ve_CB vs_A l 59 (ve_HI vs_A l 59 vs_M) vs_M) "OrderbenchModel" prog_10_method_70_code 5 (some .long) "digest" 108 (ve_cl 59 106 2 111) := ve_cl_ok (ve_rowS (md := vs_M) (A0 := vs_A) (mi := 106) (by decide +kernel : decode prog_10_method_70_code 108 = .ok (.invokestatic 233, 3)) (by decide) vw_539 vw_540 vw_8 vw_541 rfl ⟨by decide, by decide⟩ vf_246)
set_option maxRecDepth 16384 in
theorem vi_95_111 (l : Launch) : ve_OK vs_A l 59 (ve_HI vs_A l 59 vs_M) (ve_CB vs_A l 59 (ve_HI vs_A l 59 vs_M) vs_M) "OrderbenchModel" prog_10_method_70_code 5 (some .long) "digest" 111 (ve_pu (ve_ls 112 1 5)) := ve_pu_ok (ve_lstore_n_ok (k := 1) (i := 1) (by decide +kernel : decode prog_10_method_70_code 111 = .ok (.lstore_n 1, 1)) rfl)
set_option maxRecDepth 16384 in
theorem vi_95_112 (l : Launch) : ve_OK vs_A l 59 (ve_HI vs_A l 59 vs_M) (ve_CB vs_A l 59 (ve_HI vs_A l 59 vs_M) vs_M) "OrderbenchModel" prog_10_method_70_code 5 (some .long) "digest" 112 (ve_pu (ve_ii 115 4 5 (1))) := ve_pu_ok (ve_iinc_ok (by decide +kernel : decode prog_10_method_70_code 112 = .ok (.iinc 4 (1), 3)))
set_option maxRecDepth 16384 in
theorem vi_95_115 (l : Launch) : ve_OK vs_A l 59 (ve_HI vs_A l 59 vs_M) (ve_CB vs_A l 59 (ve_HI vs_A l 59 vs_M) vs_M) "OrderbenchModel" prog_10_method_70_code 5 (some .long) "digest" 115 (ve_pu (ve_jmp 54)) := ve_pu_ok (ve_goto_ok (by decide +kernel : decode prog_10_method_70_code 115 = .ok (.goto (-61), 3)) (by decide +kernel))
set_option maxRecDepth 16384 in
theorem vi_95_118 (l : Launch) : ve_OK vs_A l 59 (ve_HI vs_A l 59 vs_M) (ve_CB vs_A l 59 (ve_HI vs_A l 59 vs_M) vs_M) "OrderbenchModel" prog_10_method_70_code 5 (some .long) "digest" 118 (ve_pu (ve_ii 121 3 5 (1))) := ve_pu_ok (ve_iinc_ok (by decide +kernel : decode prog_10_method_70_code 118 = .ok (.iinc 3 (1), 3)))
set_option maxRecDepth 16384 in
theorem vi_95_121 (l : Launch) : ve_OK vs_A l 59 (ve_HI vs_A l 59 vs_M) (ve_CB vs_A l 59 (ve_HI vs_A l 59 vs_M) vs_M) "OrderbenchModel" prog_10_method_70_code 5 (some .long) "digest" 121 (ve_pu (ve_jmp 36)) := ve_pu_ok (ve_goto_ok (by decide +kernel : decode prog_10_method_70_code 121 = .ok (.goto (-85), 3)) (by decide +kernel))
set_option maxRecDepth 16384 in
theorem vi_95_124 (l : Launch) : ve_OK vs_A l 59 (ve_HI vs_A l 59 vs_M) (ve_CB vs_A l 59 (ve_HI vs_A l 59 vs_M) vs_M) "OrderbenchModel" prog_10_method_70_code 5 (some .long) "digest" 124 (ve_pu (ve_push 125 (.int (0)))) := ve_pu_ok (ve_iconst_ok (n := 0) (v := 0) (by decide +kernel : decode prog_10_method_70_code 124 = .ok (.iconst (0), 1)) rfl)
set_option maxRecDepth 16384 in
theorem vi_95_125 (l : Launch) : ve_OK vs_A l 59 (ve_HI vs_A l 59 vs_M) (ve_CB vs_A l 59 (ve_HI vs_A l 59 vs_M) vs_M) "OrderbenchModel" prog_10_method_70_code 5 (some .long) "digest" 125 (ve_pu (ve_is 126 3 5)) := ve_pu_ok (ve_istore_n_ok (k := 3) (i := 3) (by decide +kernel : decode prog_10_method_70_code 125 = .ok (.istore_n 3, 1)) rfl)
set_option maxRecDepth 16384 in
theorem vi_95_126 (l : Launch) : ve_OK vs_A l 59 (ve_HI vs_A l 59 vs_M) (ve_CB vs_A l 59 (ve_HI vs_A l 59 vs_M) vs_M) "OrderbenchModel" prog_10_method_70_code 5 (some .long) "digest" 126 (ve_pu (ve_il 127 3)) := ve_pu_ok (ve_iload_n_ok (k := 3) (i := 3) (by decide +kernel : decode prog_10_method_70_code 126 = .ok (.iload_n 3, 1)) rfl)
set_option maxRecDepth 16384 in
theorem vi_95_127 (l : Launch) : ve_OK vs_A l 59 (ve_HI vs_A l 59 vs_M) (ve_CB vs_A l 59 (ve_HI vs_A l 59 vs_M) vs_M) "OrderbenchModel" prog_10_method_70_code 5 (some .long) "digest" 127 (ve_pu (ve_push 129 (.int (10)))) := ve_pu_ok (ve_bipush_ok (n := 10) (v := 10) (by decide +kernel : decode prog_10_method_70_code 127 = .ok (.bipush (10), 2)) (by decide +kernel))
set_option maxRecDepth 16384 in
theorem vi_95_129 (l : Launch) : ve_OK vs_A l 59 (ve_HI vs_A l 59 vs_M) (ve_CB vs_A l 59 (ve_HI vs_A l 59 vs_M) vs_M) "OrderbenchModel" prog_10_method_70_code 5 (some .long) "digest" 129 (ve_pu (ve_br2 (fun x y => decide (¬ x < y)) 168 132)) := ve_pu_ok (ve_icmp_ge_ok (by decide +kernel : decode prog_10_method_70_code 129 = .ok (.if_icmp .ge (39), 3)) (by decide +kernel))
set_option maxRecDepth 16384 in
theorem vi_95_132 (l : Launch) : ve_OK vs_A l 59 (ve_HI vs_A l 59 vs_M) (ve_CB vs_A l 59 (ve_HI vs_A l 59 vs_M) vs_M) "OrderbenchModel" prog_10_method_70_code 5 (some .long) "digest" 132 (ve_pu (ve_ll 133 1)) := ve_pu_ok (ve_lload_n_ok (k := 1) (i := 1) (by decide +kernel : decode prog_10_method_70_code 132 = .ok (.lload_n 1, 1)) rfl)
set_option maxRecDepth 16384 in
theorem vi_95_133 (l : Launch) : ve_OK vs_A l 59 (ve_HI vs_A l 59 vs_M) (ve_CB vs_A l 59 (ve_HI vs_A l 59 vs_M) vs_M) "OrderbenchModel" prog_10_method_70_code 5 (some .long) "digest" 133 (ve_pu (ve_al 134 0)) := ve_pu_ok (ve_aload_n_ok (k := 0) (i := 0) (by decide +kernel : decode prog_10_method_70_code 133 = .ok (.aload_n 0, 1)) rfl)
set_option maxRecDepth 16384 in
theorem vi_95_134 (l : Launch) : ve_OK vs_A l 59 (ve_HI vs_A l 59 vs_M) (ve_CB vs_A l 59 (ve_HI vs_A l 59 vs_M) vs_M) "OrderbenchModel" prog_10_method_70_code 5 (some .long) "digest" 134 (ve_gf 137 2) := ve_getf_ok (k := 2) (by decide +kernel : decode prog_10_method_70_code 134 = .ok (.getfield 18, 3)) vw_97 vf_65
set_option maxRecDepth 16384 in
theorem vi_95_137 (l : Launch) : ve_OK vs_A l 59 (ve_HI vs_A l 59 vs_M) (ve_CB vs_A l 59 (ve_HI vs_A l 59 vs_M) vs_M) "OrderbenchModel" prog_10_method_70_code 5 (some .long) "digest" 137 (ve_pu (ve_il 138 3)) := ve_pu_ok (ve_iload_n_ok (k := 3) (i := 3) (by decide +kernel : decode prog_10_method_70_code 137 = .ok (.iload_n 3, 1)) rfl)
set_option maxRecDepth 16384 in
theorem vi_95_138 (l : Launch) : ve_OK vs_A l 59 (ve_HI vs_A l 59 vs_M) (ve_CB vs_A l 59 (ve_HI vs_A l 59 vs_M) vs_M) "OrderbenchModel" prog_10_method_70_code 5 (some .long) "digest" 138 (ve_ald 139 56) := ve_aald_ok (by decide +kernel : decode prog_10_method_70_code 138 = .ok (.aaload, 1)) vf_115 rfl
set_option maxRecDepth 16384 in
theorem vi_95_139 (l : Launch) : ve_OK vs_A l 59 (ve_HI vs_A l 59 vs_M) (ve_CB vs_A l 59 (ve_HI vs_A l 59 vs_M) vs_M) "OrderbenchModel" prog_10_method_70_code 5 (some .long) "digest" 139 (ve_cw 59 1 142 [(11, 30)]) := ve_cw_ok rfl (List.forall_mem_cons.mpr ⟨ve_rowU (md := vs_M) (A0 := vs_A) (mi := 30) (na := 0) (k := 11) (C := "OrderbenchModel$Shape") (owner := "OrderbenchModel$Shape") (x := ⟨"OrderbenchModel$Shape", "text", "()Ljava/lang/String;"⟩) (by decide +kernel : decode prog_10_method_70_code 139 = .ok (.invokevirtual 146, 3)) (by decide) vw_202 vw_200 vw_104 vw_201 rfl vw_203 vw_204 vf_125 ⟨by decide, by decide⟩ vf_66 vf_124, List.forall_mem_nil _⟩)
set_option maxRecDepth 16384 in
theorem vi_95_142 (l : Launch) : ve_OK vs_A l 59 (ve_HI vs_A l 59 vs_M) (ve_CB vs_A l 59 (ve_HI vs_A l 59 vs_M) vs_M) "OrderbenchModel" prog_10_method_70_code 5 (some .long) "digest" 142 (ve_cl 59 108 2 145) := ve_cl_ok (ve_rowS (md := vs_M) (A0 := vs_A) (mi := 108) (by decide +kernel : decode prog_10_method_70_code 142 = .ok (.invokestatic 238, 3)) (by decide) vw_547 vw_548 vw_8 vw_549 rfl ⟨by decide, by decide⟩ vf_249)
set_option maxRecDepth 16384 in
theorem vi_95_145 (l : Launch) : ve_OK vs_A l 59 (ve_HI vs_A l 59 vs_M) (ve_CB vs_A l 59 (ve_HI vs_A l 59 vs_M) vs_M) "OrderbenchModel" prog_10_method_70_code 5 (some .long) "digest" 145 (ve_pu (ve_al 146 0)) := ve_pu_ok (ve_aload_n_ok (k := 0) (i := 0) (by decide +kernel : decode prog_10_method_70_code 145 = .ok (.aload_n 0, 1)) rfl)
set_option maxRecDepth 16384 in
theorem vi_95_146 (l : Launch) : ve_OK vs_A l 59 (ve_HI vs_A l 59 vs_M) (ve_CB vs_A l 59 (ve_HI vs_A l 59 vs_M) vs_M) "OrderbenchModel" prog_10_method_70_code 5 (some .long) "digest" 146 (ve_gf 149 2) := ve_getf_ok (k := 2) (by decide +kernel : decode prog_10_method_70_code 146 = .ok (.getfield 18, 3)) vw_97 vf_65
set_option maxRecDepth 16384 in
theorem vi_95_149 (l : Launch) : ve_OK vs_A l 59 (ve_HI vs_A l 59 vs_M) (ve_CB vs_A l 59 (ve_HI vs_A l 59 vs_M) vs_M) "OrderbenchModel" prog_10_method_70_code 5 (some .long) "digest" 149 (ve_pu (ve_il 150 3)) := ve_pu_ok (ve_iload_n_ok (k := 3) (i := 3) (by decide +kernel : decode prog_10_method_70_code 149 = .ok (.iload_n 3, 1)) rfl)
set_option maxRecDepth 16384 in
theorem vi_95_150 (l : Launch) : ve_OK vs_A l 59 (ve_HI vs_A l 59 vs_M) (ve_CB vs_A l 59 (ve_HI vs_A l 59 vs_M) vs_M) "OrderbenchModel" prog_10_method_70_code 5 (some .long) "digest" 150 (ve_ald 151 56) := ve_aald_ok (by decide +kernel : decode prog_10_method_70_code 150 = .ok (.aaload, 1)) vf_115 rfl
set_option maxRecDepth 16384 in
theorem vi_95_151 (l : Launch) : ve_OK vs_A l 59 (ve_HI vs_A l 59 vs_M) (ve_CB vs_A l 59 (ve_HI vs_A l 59 vs_M) vs_M) "OrderbenchModel" prog_10_method_70_code 5 (some .long) "digest" 151 (ve_cw 59 1 154 [(11, 97)]) := ve_cw_ok rfl (List.forall_mem_cons.mpr ⟨ve_rowU (md := vs_M) (A0 := vs_A) (mi := 97) (na := 0) (k := 11) (C := "OrderbenchModel$Shape") (owner := "OrderbenchModel$Shape") (x := ⟨"OrderbenchModel$Shape", "isSafe", "()Z"⟩) (by decide +kernel : decode prog_10_method_70_code 151 = .ok (.invokevirtual 123, 3)) (by decide) vw_570 vw_568 vw_104 vw_569 rfl vw_571 vw_572 vf_255 ⟨by decide, by decide⟩ vf_66 vf_144, List.forall_mem_nil _⟩)
set_option maxRecDepth 16384 in
theorem vi_95_154 (l : Launch) : ve_OK vs_A l 59 (ve_HI vs_A l 59 vs_M) (ve_CB vs_A l 59 (ve_HI vs_A l 59 vs_M) vs_M) "OrderbenchModel" prog_10_method_70_code 5 (some .long) "digest" 154 (ve_cl 59 99 1 157) := ve_cl_ok (ve_rowS (md := vs_M) (A0 := vs_A) (mi := 99) (by decide +kernel : decode prog_10_method_70_code 154 = .ok (.invokestatic 113, 3)) (by decide) vw_555 vw_556 vw_8 vw_557 rfl ⟨by decide, by decide⟩ vf_252)
set_option maxRecDepth 16384 in
theorem vi_95_157 (l : Launch) : ve_OK vs_A l 59 (ve_HI vs_A l 59 vs_M) (ve_CB vs_A l 59 (ve_HI vs_A l 59 vs_M) vs_M) "OrderbenchModel" prog_10_method_70_code 5 (some .long) "digest" 157 (ve_pu (ve_i2l 158)) := ve_pu_ok (ve_i2l_ok (by decide +kernel : decode prog_10_method_70_code 157 = .ok (.i2l, 1)))
set_option maxRecDepth 16384 in
theorem vi_95_158 (l : Launch) : ve_OK vs_A l 59 (ve_HI vs_A l 59 vs_M) (ve_CB vs_A l 59 (ve_HI vs_A l 59 vs_M) vs_M) "OrderbenchModel" prog_10_method_70_code 5 (some .long) "digest" 158 (ve_cl 59 106 2 161) := ve_cl_ok (ve_rowS (md := vs_M) (A0 := vs_A) (mi := 106) (by decide +kernel : decode prog_10_method_70_code 158 = .ok (.invokestatic 233, 3)) (by decide) vw_539 vw_540 vw_8 vw_541 rfl ⟨by decide, by decide⟩ vf_246)
set_option maxRecDepth 16384 in
theorem vi_95_161 (l : Launch) : ve_OK vs_A l 59 (ve_HI vs_A l 59 vs_M) (ve_CB vs_A l 59 (ve_HI vs_A l 59 vs_M) vs_M) "OrderbenchModel" prog_10_method_70_code 5 (some .long) "digest" 161 (ve_pu (ve_ls 162 1 5)) := ve_pu_ok (ve_lstore_n_ok (k := 1) (i := 1) (by decide +kernel : decode prog_10_method_70_code 161 = .ok (.lstore_n 1, 1)) rfl)
set_option maxRecDepth 16384 in
theorem vi_95_162 (l : Launch) : ve_OK vs_A l 59 (ve_HI vs_A l 59 vs_M) (ve_CB vs_A l 59 (ve_HI vs_A l 59 vs_M) vs_M) "OrderbenchModel" prog_10_method_70_code 5 (some .long) "digest" 162 (ve_pu (ve_ii 165 3 5 (1))) := ve_pu_ok (ve_iinc_ok (by decide +kernel : decode prog_10_method_70_code 162 = .ok (.iinc 3 (1), 3)))
set_option maxRecDepth 16384 in
theorem vi_95_165 (l : Launch) : ve_OK vs_A l 59 (ve_HI vs_A l 59 vs_M) (ve_CB vs_A l 59 (ve_HI vs_A l 59 vs_M) vs_M) "OrderbenchModel" prog_10_method_70_code 5 (some .long) "digest" 165 (ve_pu (ve_jmp 126)) := ve_pu_ok (ve_goto_ok (by decide +kernel : decode prog_10_method_70_code 165 = .ok (.goto (-39), 3)) (by decide +kernel))
set_option maxRecDepth 16384 in
theorem vi_95_168 (l : Launch) : ve_OK vs_A l 59 (ve_HI vs_A l 59 vs_M) (ve_CB vs_A l 59 (ve_HI vs_A l 59 vs_M) vs_M) "OrderbenchModel" prog_10_method_70_code 5 (some .long) "digest" 168 (ve_pu (ve_ll 169 1)) := ve_pu_ok (ve_lload_n_ok (k := 1) (i := 1) (by decide +kernel : decode prog_10_method_70_code 168 = .ok (.lload_n 1, 1)) rfl)
set_option maxRecDepth 16384 in
theorem vi_95_169 (l : Launch) : ve_OK vs_A l 59 (ve_HI vs_A l 59 vs_M) (ve_CB vs_A l 59 (ve_HI vs_A l 59 vs_M) vs_M) "OrderbenchModel" prog_10_method_70_code 5 (some .long) "digest" 169 (ve_pu (ve_push 170 (.long 1))) := ve_pu_ok (ve_lconst_ok (n := 1) (v := 1) (by decide +kernel : decode prog_10_method_70_code 169 = .ok (.lconst 1, 1)) rfl)
set_option maxRecDepth 16384 in
theorem vi_95_170 (l : Launch) : ve_OK vs_A l 59 (ve_HI vs_A l 59 vs_M) (ve_CB vs_A l 59 (ve_HI vs_A l 59 vs_M) vs_M) "OrderbenchModel" prog_10_method_70_code 5 (some .long) "digest" 170 (ve_cl 59 106 2 173) := ve_cl_ok (ve_rowS (md := vs_M) (A0 := vs_A) (mi := 106) (by decide +kernel : decode prog_10_method_70_code 170 = .ok (.invokestatic 233, 3)) (by decide) vw_539 vw_540 vw_8 vw_541 rfl ⟨by decide, by decide⟩ vf_246)
set_option maxRecDepth 16384 in
theorem vi_95_173 (l : Launch) : ve_OK vs_A l 59 (ve_HI vs_A l 59 vs_M) (ve_CB vs_A l 59 (ve_HI vs_A l 59 vs_M) vs_M) "OrderbenchModel" prog_10_method_70_code 5 (some .long) "digest" 173 (ve_rt 2 .long) := ve_lret_ok (by decide +kernel : decode prog_10_method_70_code 173 = .ok (.lreturn, 1)) rfl
set_option maxRecDepth 16384 in
theorem vi_96_0 (l : Launch) : ve_OK vs_A l 59 (ve_HI vs_A l 59 vs_M) (ve_CB vs_A l 59 (ve_HI vs_A l 59 vs_M) vs_M) "OrderbenchModel" prog_10_method_64_code 7 (some .int) "houseOf" 0 (ve_pu (ve_push 1 (.int (0)))) := ve_pu_ok (ve_iconst_ok (n := 0) (v := 0) (by decide +kernel : decode prog_10_method_64_code 0 = .ok (.iconst (0), 1)) rfl)
set_option maxRecDepth 16384 in
theorem vi_96_1 (l : Launch) : ve_OK vs_A l 59 (ve_HI vs_A l 59 vs_M) (ve_CB vs_A l 59 (ve_HI vs_A l 59 vs_M) vs_M) "OrderbenchModel" prog_10_method_64_code 7 (some .int) "houseOf" 1 (ve_pu (ve_is 2 2 7)) := ve_pu_ok (ve_istore_n_ok (k := 2) (i := 2) (by decide +kernel : decode prog_10_method_64_code 1 = .ok (.istore_n 2, 1)) rfl)
set_option maxRecDepth 16384 in
theorem vi_96_2 (l : Launch) : ve_OK vs_A l 59 (ve_HI vs_A l 59 vs_M) (ve_CB vs_A l 59 (ve_HI vs_A l 59 vs_M) vs_M) "OrderbenchModel" prog_10_method_64_code 7 (some .int) "houseOf" 2 (ve_pu (ve_al 3 0)) := ve_pu_ok (ve_aload_n_ok (k := 0) (i := 0) (by decide +kernel : decode prog_10_method_64_code 2 = .ok (.aload_n 0, 1)) rfl)
set_option maxRecDepth 16384 in
theorem vi_96_3 (l : Launch) : ve_OK vs_A l 59 (ve_HI vs_A l 59 vs_M) (ve_CB vs_A l 59 (ve_HI vs_A l 59 vs_M) vs_M) "OrderbenchModel" prog_10_method_64_code 7 (some .int) "houseOf" 3 (ve_gf 6 2) := ve_getf_ok (k := 2) (by decide +kernel : decode prog_10_method_64_code 3 = .ok (.getfield 18, 3)) vw_97 vf_65
set_option maxRecDepth 16384 in
theorem vi_96_6 (l : Launch) : ve_OK vs_A l 59 (ve_HI vs_A l 59 vs_M) (ve_CB vs_A l 59 (ve_HI vs_A l 59 vs_M) vs_M) "OrderbenchModel" prog_10_method_64_code 7 (some .int) "houseOf" 6 (ve_pu (ve_as 7 3 7)) := ve_pu_ok (ve_astore_n_ok (k := 3) (i := 3) (by decide +kernel : decode prog_10_method_64_code 6 = .ok (.astore_n 3, 1)) rfl)
set_option maxRecDepth 16384 in
theorem vi_96_7 (l : Launch) : ve_OK vs_A l 59 (ve_HI vs_A l 59 vs_M) (ve_CB vs_A l 59 (ve_HI vs_A l 59 vs_M) vs_M) "OrderbenchModel" prog_10_method_64_code 7 (some .int) "houseOf" 7 (ve_pu (ve_al 8 3)) := ve_pu_ok (ve_aload_n_ok (k := 3) (i := 3) (by decide +kernel : decode prog_10_method_64_code 7 = .ok (.aload_n 3, 1)) rfl)
set_option maxRecDepth 16384 in
theorem vi_96_8 (l : Launch) : ve_OK vs_A l 59 (ve_HI vs_A l 59 vs_M) (ve_CB vs_A l 59 (ve_HI vs_A l 59 vs_M) vs_M) "OrderbenchModel" prog_10_method_64_code 7 (some .int) "houseOf" 8 (ve_len 9 56) := ve_len_ok (by decide +kernel : decode prog_10_method_64_code 8 = .ok (.arraylength, 1)) vf_115
set_option maxRecDepth 16384 in
theorem vi_96_9 (l : Launch) : ve_OK vs_A l 59 (ve_HI vs_A l 59 vs_M) (ve_CB vs_A l 59 (ve_HI vs_A l 59 vs_M) vs_M) "OrderbenchModel" prog_10_method_64_code 7 (some .int) "houseOf" 9 (ve_pu (ve_is 11 4 7)) := ve_pu_ok (ve_istore_ok (by decide +kernel : decode prog_10_method_64_code 9 = .ok (.istore 4, 2)))
set_option maxRecDepth 16384 in
theorem vi_96_11 (l : Launch) : ve_OK vs_A l 59 (ve_HI vs_A l 59 vs_M) (ve_CB vs_A l 59 (ve_HI vs_A l 59 vs_M) vs_M) "OrderbenchModel" prog_10_method_64_code 7 (some .int) "houseOf" 11 (ve_pu (ve_push 12 (.int (0)))) := ve_pu_ok (ve_iconst_ok (n := 0) (v := 0) (by decide +kernel : decode prog_10_method_64_code 11 = .ok (.iconst (0), 1)) rfl)
set_option maxRecDepth 16384 in
theorem vi_96_12 (l : Launch) : ve_OK vs_A l 59 (ve_HI vs_A l 59 vs_M) (ve_CB vs_A l 59 (ve_HI vs_A l 59 vs_M) vs_M) "OrderbenchModel" prog_10_method_64_code 7 (some .int) "houseOf" 12 (ve_pu (ve_is 14 5 7)) := ve_pu_ok (ve_istore_ok (by decide +kernel : decode prog_10_method_64_code 12 = .ok (.istore 5, 2)))
set_option maxRecDepth 16384 in
theorem vi_96_14 (l : Launch) : ve_OK vs_A l 59 (ve_HI vs_A l 59 vs_M) (ve_CB vs_A l 59 (ve_HI vs_A l 59 vs_M) vs_M) "OrderbenchModel" prog_10_method_64_code 7 (some .int) "houseOf" 14 (ve_pu (ve_il 16 5)) := ve_pu_ok (ve_iload_ok (by decide +kernel : decode prog_10_method_64_code 14 = .ok (.iload 5, 2)))
set_option maxRecDepth 16384 in
theorem vi_96_16 (l : Launch) : ve_OK vs_A l 59 (ve_HI vs_A l 59 vs_M) (ve_CB vs_A l 59 (ve_HI vs_A l 59 vs_M) vs_M) "OrderbenchModel" prog_10_method_64_code 7 (some .int) "houseOf" 16 (ve_pu (ve_il 18 4)) := ve_pu_ok (ve_iload_ok (by decide +kernel : decode prog_10_method_64_code 16 = .ok (.iload 4, 2)))
set_option maxRecDepth 16384 in
theorem vi_96_18 (l : Launch) : ve_OK vs_A l 59 (ve_HI vs_A l 59 vs_M) (ve_CB vs_A l 59 (ve_HI vs_A l 59 vs_M) vs_M) "OrderbenchModel" prog_10_method_64_code 7 (some .int) "houseOf" 18 (ve_pu (ve_br2 (fun x y => decide (¬ x < y)) 44 21)) := ve_pu_ok (ve_icmp_ge_ok (by decide +kernel : decode prog_10_method_64_code 18 = .ok (.if_icmp .ge (26), 3)) (by decide +kernel))
set_option maxRecDepth 16384 in
theorem vi_96_21 (l : Launch) : ve_OK vs_A l 59 (ve_HI vs_A l 59 vs_M) (ve_CB vs_A l 59 (ve_HI vs_A l 59 vs_M) vs_M) "OrderbenchModel" prog_10_method_64_code 7 (some .int) "houseOf" 21 (ve_pu (ve_al 22 3)) := ve_pu_ok (ve_aload_n_ok (k := 3) (i := 3) (by decide +kernel : decode prog_10_method_64_code 21 = .ok (.aload_n 3, 1)) rfl)
set_option maxRecDepth 16384 in
theorem vi_96_22 (l : Launch) : ve_OK vs_A l 59 (ve_HI vs_A l 59 vs_M) (ve_CB vs_A l 59 (ve_HI vs_A l 59 vs_M) vs_M) "OrderbenchModel" prog_10_method_64_code 7 (some .int) "houseOf" 22 (ve_pu (ve_il 24 5)) := ve_pu_ok (ve_iload_ok (by decide +kernel : decode prog_10_method_64_code 22 = .ok (.iload 5, 2)))
set_option maxRecDepth 16384 in
theorem vi_96_24 (l : Launch) : ve_OK vs_A l 59 (ve_HI vs_A l 59 vs_M) (ve_CB vs_A l 59 (ve_HI vs_A l 59 vs_M) vs_M) "OrderbenchModel" prog_10_method_64_code 7 (some .int) "houseOf" 24 (ve_ald 25 56) := ve_aald_ok (by decide +kernel : decode prog_10_method_64_code 24 = .ok (.aaload, 1)) vf_115 rfl
set_option maxRecDepth 16384 in
theorem vi_96_25 (l : Launch) : ve_OK vs_A l 59 (ve_HI vs_A l 59 vs_M) (ve_CB vs_A l 59 (ve_HI vs_A l 59 vs_M) vs_M) "OrderbenchModel" prog_10_method_64_code 7 (some .int) "houseOf" 25 (ve_pu (ve_as 27 6 7)) := ve_pu_ok (ve_astore_ok (by decide +kernel : decode prog_10_method_64_code 25 = .ok (.astore 6, 2)))
set_option maxRecDepth 16384 in
theorem vi_96_27 (l : Launch) : ve_OK vs_A l 59 (ve_HI vs_A l 59 vs_M) (ve_CB vs_A l 59 (ve_HI vs_A l 59 vs_M) vs_M) "OrderbenchModel" prog_10_method_64_code 7 (some .int) "houseOf" 27 (ve_pu (ve_il 28 2)) := ve_pu_ok (ve_iload_n_ok (k := 2) (i := 2) (by decide +kernel : decode prog_10_method_64_code 27 = .ok (.iload_n 2, 1)) rfl)
