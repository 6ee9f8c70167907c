set_option maxRecDepth 16384 in
theorem vi_89_40 (l : Launch) : ve_OK vs_A l 59 (ve_HI vs_A l 59 vs_M) (ve_CB vs_A l 59 (ve_HI vs_A l 59 vs_M) vs_M) "Orderbench" prog_1_method_67_code 3 (some .boolean) "sortsWell" 40 (ve_pu (ve_al 41 0)) := ve_pu_ok (ve_aload_n_ok (k := 0) (i := 0) (by decide +kernel : decode prog_1_method_67_code 40 = .ok (.aload_n 0, 1)) rfl)
set_option maxRecDepth 16384 in
theorem vi_89_41 (l : Launch) : ve_OK vs_A l 59 (ve_HI vs_A l 59 vs_M) (ve_CB vs_A l 59 (ve_HI vs_A l 59 vs_M) vs_M) "Orderbench" prog_1_method_67_code 3 (some .boolean) "sortsWell" 41 (ve_gf 44 3) := ve_getf_ok (k := 3) (by decide +kernel : decode prog_1_method_67_code 41 = .ok (.getfield 31, 3)) vw_64 vf_237
set_option maxRecDepth 16384 in
theorem vi_89_44 (l : Launch) : ve_OK vs_A l 59 (ve_HI vs_A l 59 vs_M) (ve_CB vs_A l 59 (ve_HI vs_A l 59 vs_M) vs_M) "Orderbench" prog_1_method_67_code 3 (some .boolean) "sortsWell" 44 (ve_pu (ve_al 45 0)) := ve_pu_ok (ve_aload_n_ok (k := 0) (i := 0) (by decide +kernel : decode prog_1_method_67_code 44 = .ok (.aload_n 0, 1)) rfl)
set_option maxRecDepth 16384 in
theorem vi_89_45 (l : Launch) : ve_OK vs_A l 59 (ve_HI vs_A l 59 vs_M) (ve_CB vs_A l 59 (ve_HI vs_A l 59 vs_M) vs_M) "Orderbench" prog_1_method_67_code 3 (some .boolean) "sortsWell" 45 (ve_gf 48 2) := ve_getf_ok (k := 2) (by decide +kernel : decode prog_1_method_67_code 45 = .ok (.getfield 27, 3)) vw_63 vf_228
set_option maxRecDepth 16384 in
theorem vi_89_48 (l : Launch) : ve_OK vs_A l 59 (ve_HI vs_A l 59 vs_M) (ve_CB vs_A l 59 (ve_HI vs_A l 59 vs_M) vs_M) "Orderbench" prog_1_method_67_code 3 (some .boolean) "sortsWell" 48 (ve_cw 59 2 51 [(3, 90)]) := ve_cw_ok rfl (List.forall_mem_cons.mpr ⟨ve_rowU (md := vs_M) (A0 := vs_A) (mi := 90) (na := 1) (k := 3) (C := "Orderbench$Row") (owner := "Orderbench$Row") (x := ⟨"Orderbench$Row", "become", "(LOrderbench$Row;)V"⟩) (by decide +kernel : decode prog_1_method_67_code 48 = .ok (.invokevirtual 96, 3)) (by decide) vw_508 vw_506 vw_50 vw_507 rfl vw_509 vw_510 vf_233 ⟨by decide, by decide⟩ vf_21 vf_201, List.forall_mem_nil _⟩)
set_option maxRecDepth 16384 in
theorem vi_89_51 (l : Launch) : ve_OK vs_A l 59 (ve_HI vs_A l 59 vs_M) (ve_CB vs_A l 59 (ve_HI vs_A l 59 vs_M) vs_M) "Orderbench" prog_1_method_67_code 3 (some .boolean) "sortsWell" 51 (ve_pu (ve_al 52 0)) := ve_pu_ok (ve_aload_n_ok (k := 0) (i := 0) (by decide +kernel : decode prog_1_method_67_code 51 = .ok (.aload_n 0, 1)) rfl)
set_option maxRecDepth 16384 in
theorem vi_89_52 (l : Launch) : ve_OK vs_A l 59 (ve_HI vs_A l 59 vs_M) (ve_CB vs_A l 59 (ve_HI vs_A l 59 vs_M) vs_M) "Orderbench" prog_1_method_67_code 3 (some .boolean) "sortsWell" 52 (ve_gf 55 3) := ve_getf_ok (k := 3) (by decide +kernel : decode prog_1_method_67_code 52 = .ok (.getfield 31, 3)) vw_64 vf_237
set_option maxRecDepth 16384 in
theorem vi_89_55 (l : Launch) : ve_OK vs_A l 59 (ve_HI vs_A l 59 vs_M) (ve_CB vs_A l 59 (ve_HI vs_A l 59 vs_M) vs_M) "Orderbench" prog_1_method_67_code 3 (some .boolean) "sortsWell" 55 (ve_pu (ve_al 56 2)) := ve_pu_ok (ve_aload_n_ok (k := 2) (i := 2) (by decide +kernel : decode prog_1_method_67_code 55 = .ok (.aload_n 2, 1)) rfl)
set_option maxRecDepth 16384 in
theorem vi_89_56 (l : Launch) : ve_OK vs_A l 59 (ve_HI vs_A l 59 vs_M) (ve_CB vs_A l 59 (ve_HI vs_A l 59 vs_M) vs_M) "Orderbench" prog_1_method_67_code 3 (some .boolean) "sortsWell" 56 (ve_cw 59 2 59 [(3, 91)]) := ve_cw_ok rfl (List.forall_mem_cons.mpr ⟨ve_rowU (md := vs_M) (A0 := vs_A) (mi := 91) (na := 1) (k := 3) (C := "Orderbench$Row") (owner := "Orderbench$Row") (x := ⟨"Orderbench$Row", "arrange", "(LOrderbench$Shape;)V"⟩) (by decide +kernel : decode prog_1_method_67_code 56 = .ok (.invokevirtual 111, 3)) (by decide) vw_513 vw_511 vw_50 vw_512 rfl vw_514 vw_515 vf_234 ⟨by decide, by decide⟩ vf_21 vf_106, List.forall_mem_nil _⟩)
set_option maxRecDepth 16384 in
theorem vi_89_59 (l : Launch) : ve_OK vs_A l 59 (ve_HI vs_A l 59 vs_M) (ve_CB vs_A l 59 (ve_HI vs_A l 59 vs_M) vs_M) "Orderbench" prog_1_method_67_code 3 (some .boolean) "sortsWell" 59 (ve_pu (ve_al 60 0)) := ve_pu_ok (ve_aload_n_ok (k := 0) (i := 0) (by decide +kernel : decode prog_1_method_67_code 59 = .ok (.aload_n 0, 1)) rfl)
set_option maxRecDepth 16384 in
theorem vi_89_60 (l : Launch) : ve_OK vs_A l 59 (ve_HI vs_A l 59 vs_M) (ve_CB vs_A l 59 (ve_HI vs_A l 59 vs_M) vs_M) "Orderbench" prog_1_method_67_code 3 (some .boolean) "sortsWell" 60 (ve_gf 63 3) := ve_getf_ok (k := 3) (by decide +kernel : decode prog_1_method_67_code 60 = .ok (.getfield 31, 3)) vw_64 vf_237
set_option maxRecDepth 16384 in
theorem vi_89_63 (l : Launch) : ve_OK vs_A l 59 (ve_HI vs_A l 59 vs_M) (ve_CB vs_A l 59 (ve_HI vs_A l 59 vs_M) vs_M) "Orderbench" prog_1_method_67_code 3 (some .boolean) "sortsWell" 63 (ve_pu (ve_al 64 0)) := ve_pu_ok (ve_aload_n_ok (k := 0) (i := 0) (by decide +kernel : decode prog_1_method_67_code 63 = .ok (.aload_n 0, 1)) rfl)
set_option maxRecDepth 16384 in
theorem vi_89_64 (l : Launch) : ve_OK vs_A l 59 (ve_HI vs_A l 59 vs_M) (ve_CB vs_A l 59 (ve_HI vs_A l 59 vs_M) vs_M) "Orderbench" prog_1_method_67_code 3 (some .boolean) "sortsWell" 64 (ve_gf 67 2) := ve_getf_ok (k := 2) (by decide +kernel : decode prog_1_method_67_code 64 = .ok (.getfield 27, 3)) vw_63 vf_228
set_option maxRecDepth 16384 in
theorem vi_89_67 (l : Launch) : ve_OK vs_A l 59 (ve_HI vs_A l 59 vs_M) (ve_CB vs_A l 59 (ve_HI vs_A l 59 vs_M) vs_M) "Orderbench" prog_1_method_67_code 3 (some .boolean) "sortsWell" 67 (ve_cw 59 2 70 [(3, 93)]) := ve_cw_ok rfl (List.forall_mem_cons.mpr ⟨ve_rowU (md := vs_M) (A0 := vs_A) (mi := 93) (na := 1) (k := 3) (C := "Orderbench$Row") (owner := "Orderbench$Row") (x := ⟨"Orderbench$Row", "unlike", "(LOrderbench$Row;)I"⟩) (by decide +kernel : decode prog_1_method_67_code 67 = .ok (.invokevirtual 115, 3)) (by decide) vw_523 vw_521 vw_50 vw_522 rfl vw_524 vw_525 vf_239 ⟨by decide, by decide⟩ vf_21 vf_238, List.forall_mem_nil _⟩)
set_option maxRecDepth 16384 in
theorem vi_89_70 (l : Launch) : ve_OK vs_A l 59 (ve_HI vs_A l 59 vs_M) (ve_CB vs_A l 59 (ve_HI vs_A l 59 vs_M) vs_M) "Orderbench" prog_1_method_67_code 3 (some .boolean) "sortsWell" 70 (ve_pu (ve_br1 (fun x => decide (¬ x = 0)) 77 73)) := ve_pu_ok (ve_if_ne_ok (by decide +kernel : decode prog_1_method_67_code 70 = .ok (.ifCond .ne (7), 3)) (by decide +kernel))
set_option maxRecDepth 16384 in
theorem vi_89_73 (l : Launch) : ve_OK vs_A l 59 (ve_HI vs_A l 59 vs_M) (ve_CB vs_A l 59 (ve_HI vs_A l 59 vs_M) vs_M) "Orderbench" prog_1_method_67_code 3 (some .boolean) "sortsWell" 73 (ve_pu (ve_push 74 (.int (1)))) := ve_pu_ok (ve_iconst_ok (n := 1) (v := 1) (by decide +kernel : decode prog_1_method_67_code 73 = .ok (.iconst (1), 1)) rfl)
set_option maxRecDepth 16384 in
theorem vi_89_74 (l : Launch) : ve_OK vs_A l 59 (ve_HI vs_A l 59 vs_M) (ve_CB vs_A l 59 (ve_HI vs_A l 59 vs_M) vs_M) "Orderbench" prog_1_method_67_code 3 (some .boolean) "sortsWell" 74 (ve_pu (ve_jmp 78)) := ve_pu_ok (ve_goto_ok (by decide +kernel : decode prog_1_method_67_code 74 = .ok (.goto (4), 3)) (by decide +kernel))
set_option maxRecDepth 16384 in
theorem vi_89_78 (l : Launch) : ve_OK vs_A l 59 (ve_HI vs_A l 59 vs_M) (ve_CB vs_A l 59 (ve_HI vs_A l 59 vs_M) vs_M) "Orderbench" prog_1_method_67_code 3 (some .boolean) "sortsWell" 78 (ve_rt 1 .boolean) := ve_iret_ok (by decide +kernel : decode prog_1_method_67_code 78 = .ok (.ireturn, 1)) rfl
set_option maxRecDepth 16384 in
theorem vi_90_0 (l : Launch) : ve_OK vs_A l 59 (ve_HI vs_A l 59 vs_M) (ve_CB vs_A l 59 (ve_HI vs_A l 59 vs_M) vs_M) "Orderbench$Row" prog_4_method_7_code 2 none "become" 0 (ve_pu (ve_al 1 0)) := ve_pu_ok (ve_aload_n_ok (k := 0) (i := 0) (by decide +kernel : decode prog_4_method_7_code 0 = .ok (.aload_n 0, 1)) rfl)
set_option maxRecDepth 16384 in
theorem vi_90_1 (l : Launch) : ve_OK vs_A l 59 (ve_HI vs_A l 59 vs_M) (ve_CB vs_A l 59 (ve_HI vs_A l 59 vs_M) vs_M) "Orderbench$Row" prog_4_method_7_code 2 none "become" 1 (ve_pu (ve_al 2 1)) := ve_pu_ok (ve_aload_n_ok (k := 1) (i := 1) (by decide +kernel : decode prog_4_method_7_code 1 = .ok (.aload_n 1, 1)) rfl)
set_option maxRecDepth 16384 in
theorem vi_90_2 (l : Launch) : ve_OK vs_A l 59 (ve_HI vs_A l 59 vs_M) (ve_CB vs_A l 59 (ve_HI vs_A l 59 vs_M) vs_M) "Orderbench$Row" prog_4_method_7_code 2 none "become" 2 (ve_pu (ve_push 3 (.int (1)))) := ve_pu_ok (ve_iconst_ok (n := 1) (v := 1) (by decide +kernel : decode prog_4_method_7_code 2 = .ok (.iconst (1), 1)) rfl)
set_option maxRecDepth 16384 in
theorem vi_90_3 (l : Launch) : ve_OK vs_A l 59 (ve_HI vs_A l 59 vs_M) (ve_CB vs_A l 59 (ve_HI vs_A l 59 vs_M) vs_M) "Orderbench$Row" prog_4_method_7_code 2 none "become" 3 (ve_cw 59 3 6 [(3, 87)]) := ve_cw_ok rfl (List.forall_mem_cons.mpr ⟨ve_rowU (md := vs_M) (A0 := vs_A) (mi := 87) (na := 2) (k := 3) (C := "Orderbench$Row") (owner := "Orderbench$Row") (x := ⟨"Orderbench$Row", "becomeTaken", "(LOrderbench$Row;Z)V"⟩) (by decide +kernel : decode prog_4_method_7_code 3 = .ok (.invokevirtual 23, 3)) (by decide) vw_526 vw_501 vw_50 vw_502 rfl vw_504 vw_505 vf_230 ⟨by decide, by decide⟩ vf_21 vf_229, List.forall_mem_nil _⟩)
set_option maxRecDepth 16384 in
theorem vi_90_6 (l : Launch) : ve_OK vs_A l 59 (ve_HI vs_A l 59 vs_M) (ve_CB vs_A l 59 (ve_HI vs_A l 59 vs_M) vs_M) "Orderbench$Row" prog_4_method_7_code 2 none "become" 6 (ve_rt 0 .int) := ve_vret_ok (by decide +kernel : decode prog_4_method_7_code 6 = .ok (.return_, 1)) rfl
set_option maxRecDepth 16384 in
theorem vi_91_0 (l : Launch) : ve_OK vs_A l 59 (ve_HI vs_A l 59 vs_M) (ve_CB vs_A l 59 (ve_HI vs_A l 59 vs_M) vs_M) "Orderbench$Row" prog_4_method_13_code 5 none "arrange" 0 (ve_pu (ve_push 1 (.int (1)))) := ve_pu_ok (ve_iconst_ok (n := 1) (v := 1) (by decide +kernel : decode prog_4_method_13_code 0 = .ok (.iconst (1), 1)) rfl)
set_option maxRecDepth 16384 in
theorem vi_91_1 (l : Launch) : ve_OK vs_A l 59 (ve_HI vs_A l 59 vs_M) (ve_CB vs_A l 59 (ve_HI vs_A l 59 vs_M) vs_M) "Orderbench$Row" prog_4_method_13_code 5 none "arrange" 1 (ve_pu (ve_is 2 2 5)) := ve_pu_ok (ve_istore_n_ok (k := 2) (i := 2) (by decide +kernel : decode prog_4_method_13_code 1 = .ok (.istore_n 2, 1)) rfl)
set_option maxRecDepth 16384 in
theorem vi_91_2 (l : Launch) : ve_OK vs_A l 59 (ve_HI vs_A l 59 vs_M) (ve_CB vs_A l 59 (ve_HI vs_A l 59 vs_M) vs_M) "Orderbench$Row" prog_4_method_13_code 5 none "arrange" 2 (ve_pu (ve_il 3 2)) := ve_pu_ok (ve_iload_n_ok (k := 2) (i := 2) (by decide +kernel : decode prog_4_method_13_code 2 = .ok (.iload_n 2, 1)) rfl)
set_option maxRecDepth 16384 in
theorem vi_91_3 (l : Launch) : ve_OK vs_A l 59 (ve_HI vs_A l 59 vs_M) (ve_CB vs_A l 59 (ve_HI vs_A l 59 vs_M) vs_M) "Orderbench$Row" prog_4_method_13_code 5 none "arrange" 3 (ve_pu (ve_al 4 0)) := ve_pu_ok (ve_aload_n_ok (k := 0) (i := 0) (by decide +kernel : decode prog_4_method_13_code 3 = .ok (.aload_n 0, 1)) rfl)
set_option maxRecDepth 16384 in
theorem vi_91_4 (l : Launch) : ve_OK vs_A l 59 (ve_HI vs_A l 59 vs_M) (ve_CB vs_A l 59 (ve_HI vs_A l 59 vs_M) vs_M) "Orderbench$Row" prog_4_method_13_code 5 none "arrange" 4 (ve_gf 7 1) := ve_getf_ok (k := 1) (by decide +kernel : decode prog_4_method_13_code 4 = .ok (.getfield 15, 3)) vw_392 vf_192
set_option maxRecDepth 16384 in
theorem vi_91_7 (l : Launch) : ve_OK vs_A l 59 (ve_HI vs_A l 59 vs_M) (ve_CB vs_A l 59 (ve_HI vs_A l 59 vs_M) vs_M) "Orderbench$Row" prog_4_method_13_code 5 none "arrange" 7 (ve_pu (ve_br2 (fun x y => decide (¬ x < y)) 63 10)) := ve_pu_ok (ve_icmp_ge_ok (by decide +kernel : decode prog_4_method_13_code 7 = .ok (.if_icmp .ge (56), 3)) (by decide +kernel))
set_option maxRecDepth 16384 in
theorem vi_91_63 (l : Launch) : ve_OK vs_A l 59 (ve_HI vs_A l 59 vs_M) (ve_CB vs_A l 59 (ve_HI vs_A l 59 vs_M) vs_M) "Orderbench$Row" prog_4_method_13_code 5 none "arrange" 63 (ve_rt 0 .int) := ve_vret_ok (by decide +kernel : decode prog_4_method_13_code 63 = .ok (.return_, 1)) rfl
set_option maxRecDepth 16384 in
theorem vi_92_0 (l : Launch) : ve_OK vs_A l 59 (ve_HI vs_A l 59 vs_M) (ve_CB vs_A l 59 (ve_HI vs_A l 59 vs_M) vs_M) "Orderbench$Row" prog_4_method_12_code 3 (some .boolean) "holdsAllOf" 0 (ve_pu (ve_al 1 0)) := ve_pu_ok (ve_aload_n_ok (k := 0) (i := 0) (by decide +kernel : decode prog_4_method_12_code 0 = .ok (.aload_n 0, 1)) rfl)
set_option maxRecDepth 16384 in
theorem vi_92_1 (l : Launch) : ve_OK vs_A l 59 (ve_HI vs_A l 59 vs_M) (ve_CB vs_A l 59 (ve_HI vs_A l 59 vs_M) vs_M) "Orderbench$Row" prog_4_method_12_code 3 (some .boolean) "holdsAllOf" 1 (ve_gf 4 1) := ve_getf_ok (k := 1) (by decide +kernel : decode prog_4_method_12_code 1 = .ok (.getfield 15, 3)) vw_392 vf_192
set_option maxRecDepth 16384 in
theorem vi_92_4 (l : Launch) : ve_OK vs_A l 59 (ve_HI vs_A l 59 vs_M) (ve_CB vs_A l 59 (ve_HI vs_A l 59 vs_M) vs_M) "Orderbench$Row" prog_4_method_12_code 3 (some .boolean) "holdsAllOf" 4 (ve_pu (ve_al 5 1)) := ve_pu_ok (ve_aload_n_ok (k := 1) (i := 1) (by decide +kernel : decode prog_4_method_12_code 4 = .ok (.aload_n 1, 1)) rfl)
set_option maxRecDepth 16384 in
theorem vi_92_5 (l : Launch) : ve_OK vs_A l 59 (ve_HI vs_A l 59 vs_M) (ve_CB vs_A l 59 (ve_HI vs_A l 59 vs_M) vs_M) "Orderbench$Row" prog_4_method_12_code 3 (some .boolean) "holdsAllOf" 5 (ve_gf 8 1) := ve_getf_ok (k := 1) (by decide +kernel : decode prog_4_method_12_code 5 = .ok (.getfield 15, 3)) vw_392 vf_192
set_option maxRecDepth 16384 in
theorem vi_92_8 (l : Launch) : ve_OK vs_A l 59 (ve_HI vs_A l 59 vs_M) (ve_CB vs_A l 59 (ve_HI vs_A l 59 vs_M) vs_M) "Orderbench$Row" prog_4_method_12_code 3 (some .boolean) "holdsAllOf" 8 (ve_pu (ve_br2 (fun x y => decide (x = y)) 13 11)) := ve_pu_ok (ve_icmp_eq_ok (by decide +kernel : decode prog_4_method_12_code 8 = .ok (.if_icmp .eq (5), 3)) (by decide +kernel))
set_option maxRecDepth 16384 in
theorem vi_92_13 (l : Launch) : ve_OK vs_A l 59 (ve_HI vs_A l 59 vs_M) (ve_CB vs_A l 59 (ve_HI vs_A l 59 vs_M) vs_M) "Orderbench$Row" prog_4_method_12_code 3 (some .boolean) "holdsAllOf" 13 (ve_pu (ve_push 14 (.int (0)))) := ve_pu_ok (ve_iconst_ok (n := 0) (v := 0) (by decide +kernel : decode prog_4_method_12_code 13 = .ok (.iconst (0), 1)) rfl)
set_option maxRecDepth 16384 in
theorem vi_92_14 (l : Launch) : ve_OK vs_A l 59 (ve_HI vs_A l 59 vs_M) (ve_CB vs_A l 59 (ve_HI vs_A l 59 vs_M) vs_M) "Orderbench$Row" prog_4_method_12_code 3 (some .boolean) "holdsAllOf" 14 (ve_pu (ve_is 15 2 3)) := ve_pu_ok (ve_istore_n_ok (k := 2) (i := 2) (by decide +kernel : decode prog_4_method_12_code 14 = .ok (.istore_n 2, 1)) rfl)
set_option maxRecDepth 16384 in
theorem vi_92_15 (l : Launch) : ve_OK vs_A l 59 (ve_HI vs_A l 59 vs_M) (ve_CB vs_A l 59 (ve_HI vs_A l 59 vs_M) vs_M) "Orderbench$Row" prog_4_method_12_code 3 (some .boolean) "holdsAllOf" 15 (ve_pu (ve_il 16 2)) := ve_pu_ok (ve_iload_n_ok (k := 2) (i := 2) (by decide +kernel : decode prog_4_method_12_code 15 = .ok (.iload_n 2, 1)) rfl)
set_option maxRecDepth 16384 in
theorem vi_92_16 (l : Launch) : ve_OK vs_A l 59 (ve_HI vs_A l 59 vs_M) (ve_CB vs_A l 59 (ve_HI vs_A l 59 vs_M) vs_M) "Orderbench$Row" prog_4_method_12_code 3 (some .boolean) "holdsAllOf" 16 (ve_pu (ve_al 17 0)) := ve_pu_ok (ve_aload_n_ok (k := 0) (i := 0) (by decide +kernel : decode prog_4_method_12_code 16 = .ok (.aload_n 0, 1)) rfl)
set_option maxRecDepth 16384 in
theorem vi_92_17 (l : Launch) : ve_OK vs_A l 59 (ve_HI vs_A l 59 vs_M) (ve_CB vs_A l 59 (ve_HI vs_A l 59 vs_M) vs_M) "Orderbench$Row" prog_4_method_12_code 3 (some .boolean) "holdsAllOf" 17 (ve_gf 20 1) := ve_getf_ok (k := 1) (by decide +kernel : decode prog_4_method_12_code 17 = .ok (.getfield 15, 3)) vw_392 vf_192
set_option maxRecDepth 16384 in
theorem vi_92_20 (l : Launch) : ve_OK vs_A l 59 (ve_HI vs_A l 59 vs_M) (ve_CB vs_A l 59 (ve_HI vs_A l 59 vs_M) vs_M) "Orderbench$Row" prog_4_method_12_code 3 (some .boolean) "holdsAllOf" 20 (ve_pu (ve_br2 (fun x y => decide (¬ x < y)) 52 23)) := ve_pu_ok (ve_icmp_ge_ok (by decide +kernel : decode prog_4_method_12_code 20 = .ok (.if_icmp .ge (32), 3)) (by decide +kernel))
set_option maxRecDepth 16384 in
theorem vi_92_52 (l : Launch) : ve_OK vs_A l 59 (ve_HI vs_A l 59 vs_M) (ve_CB vs_A l 59 (ve_HI vs_A l 59 vs_M) vs_M) "Orderbench$Row" prog_4_method_12_code 3 (some .boolean) "holdsAllOf" 52 (ve_pu (ve_push 53 (.int (1)))) := ve_pu_ok (ve_iconst_ok (n := 1) (v := 1) (by decide +kernel : decode prog_4_method_12_code 52 = .ok (.iconst (1), 1)) rfl)
set_option maxRecDepth 16384 in
theorem vi_92_53 (l : Launch) : ve_OK vs_A l 59 (ve_HI vs_A l 59 vs_M) (ve_CB vs_A l 59 (ve_HI vs_A l 59 vs_M) vs_M) "Orderbench$Row" prog_4_method_12_code 3 (some .boolean) "holdsAllOf" 53 (ve_rt 1 .boolean) := ve_iret_ok (by decide +kernel : decode prog_4_method_12_code 53 = .ok (.ireturn, 1)) rfl
set_option maxRecDepth 16384 in
theorem vi_93_0 (l : Launch) : ve_OK vs_A l 59 (ve_HI vs_A l 59 vs_M) (ve_CB vs_A l 59 (ve_HI vs_A l 59 vs_M) vs_M) "Orderbench$Row" prog_4_method_11_code 4 (some .int) "unlike" 0 (ve_pu (ve_push 1 (.int (0)))) := ve_pu_ok (ve_iconst_ok (n := 0) (v := 0) (by decide +kernel : decode prog_4_method_11_code 0 = .ok (.iconst (0), 1)) rfl)
set_option maxRecDepth 16384 in
theorem vi_93_1 (l : Launch) : ve_OK vs_A l 59 (ve_HI vs_A l 59 vs_M) (ve_CB vs_A l 59 (ve_HI vs_A l 59 vs_M) vs_M) "Orderbench$Row" prog_4_method_11_code 4 (some .int) "unlike" 1 (ve_pu (ve_is 2 2 4)) := ve_pu_ok (ve_istore_n_ok (k := 2) (i := 2) (by decide +kernel : decode prog_4_method_11_code 1 = .ok (.istore_n 2, 1)) rfl)
set_option maxRecDepth 16384 in
theorem vi_93_2 (l : Launch) : ve_OK vs_A l 59 (ve_HI vs_A l 59 vs_M) (ve_CB vs_A l 59 (ve_HI vs_A l 59 vs_M) vs_M) "Orderbench$Row" prog_4_method_11_code 4 (some .int) "unlike" 2 (ve_pu (ve_push 3 (.int (0)))) := ve_pu_ok (ve_iconst_ok (n := 0) (v := 0) (by decide +kernel : decode prog_4_method_11_code 2 = .ok (.iconst (0), 1)) rfl)
set_option maxRecDepth 16384 in
theorem vi_93_3 (l : Launch) : ve_OK vs_A l 59 (ve_HI vs_A l 59 vs_M) (ve_CB vs_A l 59 (ve_HI vs_A l 59 vs_M) vs_M) "Orderbench$Row" prog_4_method_11_code 4 (some .int) "unlike" 3 (ve_pu (ve_is 4 3 4)) := ve_pu_ok (ve_istore_n_ok (k := 3) (i := 3) (by decide +kernel : decode prog_4_method_11_code 3 = .ok (.istore_n 3, 1)) rfl)
set_option maxRecDepth 16384 in
theorem vi_93_4 (l : Launch) : ve_OK vs_A l 59 (ve_HI vs_A l 59 vs_M) (ve_CB vs_A l 59 (ve_HI vs_A l 59 vs_M) vs_M) "Orderbench$Row" prog_4_method_11_code 4 (some .int) "unlike" 4 (ve_pu (ve_il 5 3)) := ve_pu_ok (ve_iload_n_ok (k := 3) (i := 3) (by decide +kernel : decode prog_4_method_11_code 4 = .ok (.iload_n 3, 1)) rfl)
set_option maxRecDepth 16384 in
theorem vi_93_5 (l : Launch) : ve_OK vs_A l 59 (ve_HI vs_A l 59 vs_M) (ve_CB vs_A l 59 (ve_HI vs_A l 59 vs_M) vs_M) "Orderbench$Row" prog_4_method_11_code 4 (some .int) "unlike" 5 (ve_pu (ve_al 6 0)) := ve_pu_ok (ve_aload_n_ok (k := 0) (i := 0) (by decide +kernel : decode prog_4_method_11_code 5 = .ok (.aload_n 0, 1)) rfl)
set_option maxRecDepth 16384 in
theorem vi_93_6 (l : Launch) : ve_OK vs_A l 59 (ve_HI vs_A l 59 vs_M) (ve_CB vs_A l 59 (ve_HI vs_A l 59 vs_M) vs_M) "Orderbench$Row" prog_4_method_11_code 4 (some .int) "unlike" 6 (ve_gf 9 1) := ve_getf_ok (k := 1) (by decide +kernel : decode prog_4_method_11_code 6 = .ok (.getfield 15, 3)) vw_392 vf_192
set_option maxRecDepth 16384 in
theorem vi_93_9 (l : Launch) : ve_OK vs_A l 59 (ve_HI vs_A l 59 vs_M) (ve_CB vs_A l 59 (ve_HI vs_A l 59 vs_M) vs_M) "Orderbench$Row" prog_4_method_11_code 4 (some .int) "unlike" 9 (ve_pu (ve_br2 (fun x y => decide (¬ x < y)) 34 12)) := ve_pu_ok (ve_icmp_ge_ok (by decide +kernel : decode prog_4_method_11_code 9 = .ok (.if_icmp .ge (25), 3)) (by decide +kernel))
set_option maxRecDepth 16384 in
theorem vi_93_34 (l : Launch) : ve_OK vs_A l 59 (ve_HI vs_A l 59 vs_M) (ve_CB vs_A l 59 (ve_HI vs_A l 59 vs_M) vs_M) "Orderbench$Row" prog_4_method_11_code 4 (some .int) "unlike" 34 (ve_pu (ve_il 35 2)) := ve_pu_ok (ve_iload_n_ok (k := 2) (i := 2) (by decide +kernel : decode prog_4_method_11_code 34 = .ok (.iload_n 2, 1)) rfl)
set_option maxRecDepth 16384 in
theorem vi_93_35 (l : Launch) : ve_OK vs_A l 59 (ve_HI vs_A l 59 vs_M) (ve_CB vs_A l 59 (ve_HI vs_A l 59 vs_M) vs_M) "Orderbench$Row" prog_4_method_11_code 4 (some .int) "unlike" 35 (ve_rt 1 .int) := ve_iret_ok (by decide +kernel : decode prog_4_method_11_code 35 = .ok (.ireturn, 1)) rfl
set_option maxRecDepth 16384 in
theorem vi_94_0 (l : Launch) : ve_OK vs_A l 59 (ve_HI vs_A l 59 vs_M) (ve_CB vs_A l 59 (ve_HI vs_A l 59 vs_M) vs_M) "Orderbench" prog_1_method_66_code 4 (some .boolean) "sortsAsTwice" 0 (ve_pu (ve_al 1 1)) := ve_pu_ok (ve_aload_n_ok (k := 1) (i := 1) (by decide +kernel : decode prog_1_method_66_code 0 = .ok (.aload_n 1, 1)) rfl)
set_option maxRecDepth 16384 in
theorem vi_94_1 (l : Launch) : ve_OK vs_A l 59 (ve_HI vs_A l 59 vs_M) (ve_CB vs_A l 59 (ve_HI vs_A l 59 vs_M) vs_M) "Orderbench" prog_1_method_66_code 4 (some .boolean) "sortsAsTwice" 1 (ve_pu (ve_al 2 2)) := ve_pu_ok (ve_aload_n_ok (k := 2) (i := 2) (by decide +kernel : decode prog_1_method_66_code 1 = .ok (.aload_n 2, 1)) rfl)
set_option maxRecDepth 16384 in
theorem vi_94_2 (l : Launch) : ve_OK vs_A l 59 (ve_HI vs_A l 59 vs_M) (ve_CB vs_A l 59 (ve_HI vs_A l 59 vs_M) vs_M) "Orderbench" prog_1_method_66_code 4 (some .boolean) "sortsAsTwice" 2 (ve_cl 59 72 2 5) := ve_cl_ok (ve_rowS (md := vs_M) (A0 := vs_A) (mi := 72) (by decide +kernel : decode prog_1_method_66_code 2 = .ok (.invokestatic 212, 3)) (by decide) vw_436 vw_437 vw_2 vw_438 rfl ⟨by decide, by decide⟩ vf_205)
set_option maxRecDepth 16384 in
theorem vi_94_5 (l : Launch) : ve_OK vs_A l 59 (ve_HI vs_A l 59 vs_M) (ve_CB vs_A l 59 (ve_HI vs_A l 59 vs_M) vs_M) "Orderbench" prog_1_method_66_code 4 (some .boolean) "sortsAsTwice" 5 (ve_pu (ve_br1 (fun x => decide (x = 0)) 16 8)) := ve_pu_ok (ve_if_eq_ok (by decide +kernel : decode prog_1_method_66_code 5 = .ok (.ifCond .eq (11), 3)) (by decide +kernel))
set_option maxRecDepth 16384 in
theorem vi_94_8 (l : Launch) : ve_OK vs_A l 59 (ve_HI vs_A l 59 vs_M) (ve_CB vs_A l 59 (ve_HI vs_A l 59 vs_M) vs_M) "Orderbench" prog_1_method_66_code 4 (some .boolean) "sortsAsTwice" 8 (ve_pu (ve_al 9 1)) := ve_pu_ok (ve_aload_n_ok (k := 1) (i := 1) (by decide +kernel : decode prog_1_method_66_code 8 = .ok (.aload_n 1, 1)) rfl)
set_option maxRecDepth 16384 in
theorem vi_94_9 (l : Launch) : ve_OK vs_A l 59 (ve_HI vs_A l 59 vs_M) (ve_CB vs_A l 59 (ve_HI vs_A l 59 vs_M) vs_M) "Orderbench" prog_1_method_66_code 4 (some .boolean) "sortsAsTwice" 9 (ve_pu (ve_al 10 3)) := ve_pu_ok (ve_aload_n_ok (k := 3) (i := 3) (by decide +kernel : decode prog_1_method_66_code 9 = .ok (.aload_n 3, 1)) rfl)
set_option maxRecDepth 16384 in
theorem vi_94_10 (l : Launch) : ve_OK vs_A l 59 (ve_HI vs_A l 59 vs_M) (ve_CB vs_A l 59 (ve_HI vs_A l 59 vs_M) vs_M) "Orderbench" prog_1_method_66_code 4 (some .boolean) "sortsAsTwice" 10 (ve_cl 59 72 2 13) := ve_cl_ok (ve_rowS (md := vs_M) (A0 := vs_A) (mi := 72) (by decide +kernel : decode prog_1_method_66_code 10 = .ok (.invokestatic 212, 3)) (by decide) vw_436 vw_437 vw_2 vw_438 rfl ⟨by decide, by decide⟩ vf_205)
set_option maxRecDepth 16384 in
theorem vi_94_13 (l : Launch) : ve_OK vs_A l 59 (ve_HI vs_A l 59 vs_M) (ve_CB vs_A l 59 (ve_HI vs_A l 59 vs_M) vs_M) "Orderbench" prog_1_method_66_code 4 (some .boolean) "sortsAsTwice" 13 (ve_pu (ve_br1 (fun x => decide (¬ x = 0)) 18 16)) := ve_pu_ok (ve_if_ne_ok (by decide +kernel : decode prog_1_method_66_code 13 = .ok (.ifCond .ne (5), 3)) (by decide +kernel))
set_option maxRecDepth 16384 in
theorem vi_94_18 (l : Launch) : ve_OK vs_A l 59 (ve_HI vs_A l 59 vs_M) (ve_CB vs_A l 59 (ve_HI vs_A l 59 vs_M) vs_M) "Orderbench" prog_1_method_66_code 4 (some .boolean) "sortsAsTwice" 18 (ve_pu (ve_al 19 0)) := ve_pu_ok (ve_aload_n_ok (k := 0) (i := 0) (by decide +kernel : decode prog_1_method_66_code 18 = .ok (.aload_n 0, 1)) rfl)
set_option maxRecDepth 16384 in
theorem vi_94_19 (l : Launch) : ve_OK vs_A l 59 (ve_HI vs_A l 59 vs_M) (ve_CB vs_A l 59 (ve_HI vs_A l 59 vs_M) vs_M) "Orderbench" prog_1_method_66_code 4 (some .boolean) "sortsAsTwice" 19 (ve_gf 22 2) := ve_getf_ok (k := 2) (by decide +kernel : decode prog_1_method_66_code 19 = .ok (.getfield 27, 3)) vw_63 vf_228
set_option maxRecDepth 16384 in
theorem vi_94_22 (l : Launch) : ve_OK vs_A l 59 (ve_HI vs_A l 59 vs_M) (ve_CB vs_A l 59 (ve_HI vs_A l 59 vs_M) vs_M) "Orderbench" prog_1_method_66_code 4 (some .boolean) "sortsAsTwice" 22 (ve_pu (ve_al 23 1)) := ve_pu_ok (ve_aload_n_ok (k := 1) (i := 1) (by decide +kernel : decode prog_1_method_66_code 22 = .ok (.aload_n 1, 1)) rfl)
set_option maxRecDepth 16384 in
theorem vi_94_23 (l : Launch) : ve_OK vs_A l 59 (ve_HI vs_A l 59 vs_M) (ve_CB vs_A l 59 (ve_HI vs_A l 59 vs_M) vs_M) "Orderbench" prog_1_method_66_code 4 (some .boolean) "sortsAsTwice" 23 (ve_cw 59 2 26 [(3, 90)]) := ve_cw_ok rfl (List.forall_mem_cons.mpr ⟨ve_rowU (md := vs_M) (A0 := vs_A) (mi := 90) (na := 1) (k := 3) (C := "Orderbench$Row") (owner := "Orderbench$Row") (x := ⟨"Orderbench$Row", "become", "(LOrderbench$Row;)V"⟩) (by decide +kernel : decode prog_1_method_66_code 23 = .ok (.invokevirtual 96, 3)) (by decide) vw_508 vw_506 vw_50 vw_507 rfl vw_509 vw_510 vf_233 ⟨by decide, by decide⟩ vf_21 vf_201, List.forall_mem_nil _⟩)
set_option maxRecDepth 16384 in
theorem vi_94_26 (l : Launch) : ve_OK vs_A l 59 (ve_HI vs_A l 59 vs_M) (ve_CB vs_A l 59 (ve_HI vs_A l 59 vs_M) vs_M) "Orderbench" prog_1_method_66_code 4 (some .boolean) "sortsAsTwice" 26 (ve_pu (ve_al 27 0)) := ve_pu_ok (ve_aload_n_ok (k := 0) (i := 0) (by decide +kernel : decode prog_1_method_66_code 26 = .ok (.aload_n 0, 1)) rfl)
set_option maxRecDepth 16384 in
theorem vi_94_27 (l : Launch) : ve_OK vs_A l 59 (ve_HI vs_A l 59 vs_M) (ve_CB vs_A l 59 (ve_HI vs_A l 59 vs_M) vs_M) "Orderbench" prog_1_method_66_code 4 (some .boolean) "sortsAsTwice" 27 (ve_gf 30 2) := ve_getf_ok (k := 2) (by decide +kernel : decode prog_1_method_66_code 27 = .ok (.getfield 27, 3)) vw_63 vf_228
set_option maxRecDepth 16384 in
theorem vi_94_30 (l : Launch) : ve_OK vs_A l 59 (ve_HI vs_A l 59 vs_M) (ve_CB vs_A l 59 (ve_HI vs_A l 59 vs_M) vs_M) "Orderbench" prog_1_method_66_code 4 (some .boolean) "sortsAsTwice" 30 (ve_nw 33 33 [.int 0, .int 0, .null, .null]) := ve_new_ok (C := "Orderbench$Together") (by decide +kernel : decode prog_1_method_66_code 30 = .ok (.new 142, 3)) vw_527 vw_528 vw_529 vf_240 rfl vf_241 rfl
set_option maxRecDepth 16384 in
theorem vi_94_33 (l : Launch) : ve_OK vs_A l 59 (ve_HI vs_A l 59 vs_M) (ve_CB vs_A l 59 (ve_HI vs_A l 59 vs_M) vs_M) "Orderbench" prog_1_method_66_code 4 (some .boolean) "sortsAsTwice" 33 (ve_pu (ve_dup 34)) := ve_pu_ok (ve_dup_ok (by decide +kernel : decode prog_1_method_66_code 33 = .ok (.dup, 1)))
set_option maxRecDepth 16384 in
theorem vi_94_34 (l : Launch) : ve_OK vs_A l 59 (ve_HI vs_A l 59 vs_M) (ve_CB vs_A l 59 (ve_HI vs_A l 59 vs_M) vs_M) "Orderbench" prog_1_method_66_code 4 (some .boolean) "sortsAsTwice" 34 (ve_pu (ve_al 35 2)) := ve_pu_ok (ve_aload_n_ok (k := 2) (i := 2) (by decide +kernel : decode prog_1_method_66_code 34 = .ok (.aload_n 2, 1)) rfl)
set_option maxRecDepth 16384 in
theorem vi_94_35 (l : Launch) : ve_OK vs_A l 59 (ve_HI vs_A l 59 vs_M) (ve_CB vs_A l 59 (ve_HI vs_A l 59 vs_M) vs_M) "Orderbench" prog_1_method_66_code 4 (some .boolean) "sortsAsTwice" 35 (ve_pu (ve_al 36 3)) := ve_pu_ok (ve_aload_n_ok (k := 3) (i := 3) (by decide +kernel : decode prog_1_method_66_code 35 = .ok (.aload_n 3, 1)) rfl)
set_option maxRecDepth 16384 in
theorem vi_94_36 (l : Launch) : ve_OK vs_A l 59 (ve_HI vs_A l 59 vs_M) (ve_CB vs_A l 59 (ve_HI vs_A l 59 vs_M) vs_M) "Orderbench" prog_1_method_66_code 4 (some .boolean) "sortsAsTwice" 36 (ve_cw 59 3 39 [(33, 95)]) := ve_cw_ok rfl (List.forall_mem_cons.mpr ⟨ve_rowI (md := vs_M) (A0 := vs_A) (mi := 95) (na := 2) (by decide +kernel : decode prog_1_method_66_code 36 = .ok (.invokespecial 144, 3)) (by decide) vw_532 vw_530 vw_529 vw_531 rfl ⟨by decide, by decide⟩ vf_242 rfl rfl 33, List.forall_mem_nil _⟩)
set_option maxRecDepth 16384 in
theorem vi_94_39 (l : Launch) : ve_OK vs_A l 59 (ve_HI vs_A l 59 vs_M) (ve_CB vs_A l 59 (ve_HI vs_A l 59 vs_M) vs_M) "Orderbench" prog_1_method_66_code 4 (some .boolean) "sortsAsTwice" 39 (ve_cw 59 2 42 [(3, 91)]) := ve_cw_ok rfl (List.forall_mem_cons.mpr ⟨ve_rowU (md := vs_M) (A0 := vs_A) (mi := 91) (na := 1) (k := 3) (C := "Orderbench$Row") (owner := "Orderbench$Row") (x := ⟨"Orderbench$Row", "arrange", "(LOrderbench$Shape;)V"⟩) (by decide +kernel : decode prog_1_method_66_code 39 = .ok (.invokevirtual 111, 3)) (by decide) vw_513 vw_511 vw_50 vw_512 rfl vw_514 vw_515 vf_234 ⟨by decide, by decide⟩ vf_21 vf_106, List.forall_mem_nil _⟩)
set_option maxRecDepth 16384 in
theorem vi_94_42 (l : Launch) : ve_OK vs_A l 59 (ve_HI vs_A l 59 vs_M) (ve_CB vs_A l 59 (ve_HI vs_A l 59 vs_M) vs_M) "Orderbench" prog_1_method_66_code 4 (some .boolean) "sortsAsTwice" 42 (ve_pu (ve_al 43 0)) := ve_pu_ok (ve_aload_n_ok (k := 0) (i := 0) (by decide +kernel : decode prog_1_method_66_code 42 = .ok (.aload_n 0, 1)) rfl)
set_option maxRecDepth 16384 in
theorem vi_94_43 (l : Launch) : ve_OK vs_A l 59 (ve_HI vs_A l 59 vs_M) (ve_CB vs_A l 59 (ve_HI vs_A l 59 vs_M) vs_M) "Orderbench" prog_1_method_66_code 4 (some .boolean) "sortsAsTwice" 43 (ve_gf 46 3) := ve_getf_ok (k := 3) (by decide +kernel : decode prog_1_method_66_code 43 = .ok (.getfield 31, 3)) vw_64 vf_237
set_option maxRecDepth 16384 in
theorem vi_94_46 (l : Launch) : ve_OK vs_A l 59 (ve_HI vs_A l 59 vs_M) (ve_CB vs_A l 59 (ve_HI vs_A l 59 vs_M) vs_M) "Orderbench" prog_1_method_66_code 4 (some .boolean) "sortsAsTwice" 46 (ve_pu (ve_al 47 1)) := ve_pu_ok (ve_aload_n_ok (k := 1) (i := 1) (by decide +kernel : decode prog_1_method_66_code 46 = .ok (.aload_n 1, 1)) rfl)
set_option maxRecDepth 16384 in
theorem vi_94_47 (l : Launch) : ve_OK vs_A l 59 (ve_HI vs_A l 59 vs_M) (ve_CB vs_A l 59 (ve_HI vs_A l 59 vs_M) vs_M) "Orderbench" prog_1_method_66_code 4 (some .boolean) "sortsAsTwice" 47 (ve_cw 59 2 50 [(3, 90)]) := ve_cw_ok rfl (List.forall_mem_cons.mpr ⟨ve_rowU (md := vs_M) (A0 := vs_A) (mi := 90) (na := 1) (k := 3) (C := "Orderbench$Row") (owner := "Orderbench$Row") (x := ⟨"Orderbench$Row", "become", "(LOrderbench$Row;)V"⟩) (by decide +kernel : decode prog_1_method_66_code 47 = .ok (.invokevirtual 96, 3)) (by decide) vw_508 vw_506 vw_50 vw_507 rfl vw_509 vw_510 vf_233 ⟨by decide, by decide⟩ vf_21 vf_201, List.forall_mem_nil _⟩)
set_option maxRecDepth 16384 in
theorem vi_94_50 (l : Launch) : ve_OK vs_A l 59 (ve_HI vs_A l 59 vs_M) (ve_CB vs_A l 59 (ve_HI vs_A l 59 vs_M) vs_M) "Orderbench" prog_1_method_66_code 4 (some .boolean) "sortsAsTwice" 50 (ve_pu (ve_al 51 0)) := ve_pu_ok (ve_aload_n_ok (k := 0) (i := 0) (by decide +kernel : decode prog_1_method_66_code 50 = .ok (.aload_n 0, 1)) rfl)
set_option maxRecDepth 16384 in
theorem vi_94_51 (l : Launch) : ve_OK vs_A l 59 (ve_HI vs_A l 59 vs_M) (ve_CB vs_A l 59 (ve_HI vs_A l 59 vs_M) vs_M) "Orderbench" prog_1_method_66_code 4 (some .boolean) "sortsAsTwice" 51 (ve_gf 54 3) := ve_getf_ok (k := 3) (by decide +kernel : decode prog_1_method_66_code 51 = .ok (.getfield 31, 3)) vw_64 vf_237
set_option maxRecDepth 16384 in
theorem vi_94_54 (l : Launch) : ve_OK vs_A l 59 (ve_HI vs_A l 59 vs_M) (ve_CB vs_A l 59 (ve_HI vs_A l 59 vs_M) vs_M) "Orderbench" prog_1_method_66_code 4 (some .boolean) "sortsAsTwice" 54 (ve_pu (ve_al 55 3)) := ve_pu_ok (ve_aload_n_ok (k := 3) (i := 3) (by decide +kernel : decode prog_1_method_66_code 54 = .ok (.aload_n 3, 1)) rfl)
set_option maxRecDepth 16384 in
theorem vi_94_55 (l : Launch) : ve_OK vs_A l 59 (ve_HI vs_A l 59 vs_M) (ve_CB vs_A l 59 (ve_HI vs_A l 59 vs_M) vs_M) "Orderbench" prog_1_method_66_code 4 (some .boolean) "sortsAsTwice" 55 (ve_cw 59 2 58 [(3, 91)]) := ve_cw_ok rfl (List.forall_mem_cons.mpr ⟨ve_rowU (md := vs_M) (A0 := vs_A) (mi := 91) (na := 1) (k := 3) (C := "Orderbench$Row") (owner := "Orderbench$Row") (x := ⟨"Orderbench$Row", "arrange", "(LOrderbench$Shape;)V"⟩) (by decide +kernel : decode prog_1_method_66_code 55 = .ok (.invokevirtual 111, 3)) (by decide) vw_513 vw_511 vw_50 vw_512 rfl vw_514 vw_515 vf_234 ⟨by decide, by decide⟩ vf_21 vf_106, List.forall_mem_nil _⟩)
set_option maxRecDepth 16384 in
theorem vi_94_58 (l : Launch) : ve_OK vs_A l 59 (ve_HI vs_A l 59 vs_M) (ve_CB vs_A l 59 (ve_HI vs_A l 59 vs_M) vs_M) "Orderbench" prog_1_method_66_code 4 (some .boolean) "sortsAsTwice" 58 (ve_pu (ve_al 59 0)) := ve_pu_ok (ve_aload_n_ok (k := 0) (i := 0) (by decide +kernel : decode prog_1_method_66_code 58 = .ok (.aload_n 0, 1)) rfl)
set_option maxRecDepth 16384 in
theorem vi_94_59 (l : Launch) : ve_OK vs_A l 59 (ve_HI vs_A l 59 vs_M) (ve_CB vs_A l 59 (ve_HI vs_A l 59 vs_M) vs_M) "Orderbench" prog_1_method_66_code 4 (some .boolean) "sortsAsTwice" 59 (ve_gf 62 3) := ve_getf_ok (k := 3) (by decide +kernel : decode prog_1_method_66_code 59 = .ok (.getfield 31, 3)) vw_64 vf_237
set_option maxRecDepth 16384 in
theorem vi_94_62 (l : Launch) : ve_OK vs_A l 59 (ve_HI vs_A l 59 vs_M) (ve_CB vs_A l 59 (ve_HI vs_A l 59 vs_M) vs_M) "Orderbench" prog_1_method_66_code 4 (some .boolean) "sortsAsTwice" 62 (ve_pu (ve_al 63 2)) := ve_pu_ok (ve_aload_n_ok (k := 2) (i := 2) (by decide +kernel : decode prog_1_method_66_code 62 = .ok (.aload_n 2, 1)) rfl)
set_option maxRecDepth 16384 in
theorem vi_94_63 (l : Launch) : ve_OK vs_A l 59 (ve_HI vs_A l 59 vs_M) (ve_CB vs_A l 59 (ve_HI vs_A l 59 vs_M) vs_M) "Orderbench" prog_1_method_66_code 4 (some .boolean) "sortsAsTwice" 63 (ve_cw 59 2 66 [(3, 91)]) := ve_cw_ok rfl (List.forall_mem_cons.mpr ⟨ve_rowU (md := vs_M) (A0 := vs_A) (mi := 91) (na := 1) (k := 3) (C := "Orderbench$Row") (owner := "Orderbench$Row") (x := ⟨"Orderbench$Row", "arrange", "(LOrderbench$Shape;)V"⟩) (by decide +kernel : decode prog_1_method_66_code 63 = .ok (.invokevirtual 111, 3)) (by decide) vw_513 vw_511 vw_50 vw_512 rfl vw_514 vw_515 vf_234 ⟨by decide, by decide⟩ vf_21 vf_106, List.forall_mem_nil _⟩)
set_option maxRecDepth 16384 in
theorem vi_94_66 (l : Launch) : ve_OK vs_A l 59 (ve_HI vs_A l 59 vs_M) (ve_CB vs_A l 59 (ve_HI vs_A l 59 vs_M) vs_M) "Orderbench" prog_1_method_66_code 4 (some .boolean) "sortsAsTwice" 66 (ve_pu (ve_al 67 0)) := ve_pu_ok (ve_aload_n_ok (k := 0) (i := 0) (by decide +kernel : decode prog_1_method_66_code 66 = .ok (.aload_n 0, 1)) rfl)
set_option maxRecDepth 16384 in
theorem vi_94_67 (l : Launch) : ve_OK vs_A l 59 (ve_HI vs_A l 59 vs_M) (ve_CB vs_A l 59 (ve_HI vs_A l 59 vs_M) vs_M) "Orderbench" prog_1_method_66_code 4 (some .boolean) "sortsAsTwice" 67 (ve_gf 70 2) := ve_getf_ok (k := 2) (by decide +kernel : decode prog_1_method_66_code 67 = .ok (.getfield 27, 3)) vw_63 vf_228
set_option maxRecDepth 16384 in
theorem vi_94_70 (l : Launch) : ve_OK vs_A l 59 (ve_HI vs_A l 59 vs_M) (ve_CB vs_A l 59 (ve_HI vs_A l 59 vs_M) vs_M) "Orderbench" prog_1_method_66_code 4 (some .boolean) "sortsAsTwice" 70 (ve_pu (ve_al 71 0)) := ve_pu_ok (ve_aload_n_ok (k := 0) (i := 0) (by decide +kernel : decode prog_1_method_66_code 70 = .ok (.aload_n 0, 1)) rfl)
set_option maxRecDepth 16384 in
theorem vi_94_71 (l : Launch) : ve_OK vs_A l 59 (ve_HI vs_A l 59 vs_M) (ve_CB vs_A l 59 (ve_HI vs_A l 59 vs_M) vs_M) "Orderbench" prog_1_method_66_code 4 (some .boolean) "sortsAsTwice" 71 (ve_gf 74 3) := ve_getf_ok (k := 3) (by decide +kernel : decode prog_1_method_66_code 71 = .ok (.getfield 31, 3)) vw_64 vf_237
set_option maxRecDepth 16384 in
theorem vi_94_74 (l : Launch) : ve_OK vs_A l 59 (ve_HI vs_A l 59 vs_M) (ve_CB vs_A l 59 (ve_HI vs_A l 59 vs_M) vs_M) "Orderbench" prog_1_method_66_code 4 (some .boolean) "sortsAsTwice" 74 (ve_cw 59 2 77 [(3, 93)]) := ve_cw_ok rfl (List.forall_mem_cons.mpr ⟨ve_rowU (md := vs_M) (A0 := vs_A) (mi := 93) (na := 1) (k := 3) (C := "Orderbench$Row") (owner := "Orderbench$Row") (x := ⟨"Orderbench$Row", "unlike", "(LOrderbench$Row;)I"⟩) (by decide +kernel : decode prog_1_method_66_code 74 = .ok (.invokevirtual 115, 3)) (by decide) vw_523 vw_521 vw_50 vw_522 rfl vw_524 vw_525 vf_239 ⟨by decide, by decide⟩ vf_21 vf_238, List.forall_mem_nil _⟩)
set_option maxRecDepth 16384 in
theorem vi_94_77 (l : Launch) : ve_OK vs_A l 59 (ve_HI vs_A l 59 vs_M) (ve_CB vs_A l 59 (ve_HI vs_A l 59 vs_M) vs_M) "Orderbench" prog_1_method_66_code 4 (some .boolean) "sortsAsTwice" 77 (ve_pu (ve_br1 (fun x => decide (¬ x = 0)) 84 80)) := ve_pu_ok (ve_if_ne_ok (by decide +kernel : decode prog_1_method_66_code 77 = .ok (.ifCond .ne (7), 3)) (by decide +kernel))
set_option maxRecDepth 16384 in
theorem vi_94_80 (l : Launch) : ve_OK vs_A l 59 (ve_HI vs_A l 59 vs_M) (ve_CB vs_A l 59 (ve_HI vs_A l 59 vs_M) vs_M) "Orderbench" prog_1_method_66_code 4 (some .boolean) "sortsAsTwice" 80 (ve_pu (ve_push 81 (.int (1)))) := ve_pu_ok (ve_iconst_ok (n := 1) (v := 1) (by decide +kernel : decode prog_1_method_66_code 80 = .ok (.iconst (1), 1)) rfl)
set_option maxRecDepth 16384 in
theorem vi_94_81 (l : Launch) : ve_OK vs_A l 59 (ve_HI vs_A l 59 vs_M) (ve_CB vs_A l 59 (ve_HI vs_A l 59 vs_M) vs_M) "Orderbench" prog_1_method_66_code 4 (some .boolean) "sortsAsTwice" 81 (ve_pu (ve_jmp 85)) := ve_pu_ok (ve_goto_ok (by decide +kernel : decode prog_1_method_66_code 81 = .ok (.goto (4), 3)) (by decide +kernel))
set_option maxRecDepth 16384 in
theorem vi_94_85 (l : Launch) : ve_OK vs_A l 59 (ve_HI vs_A l 59 vs_M) (ve_CB vs_A l 59 (ve_HI vs_A l 59 vs_M) vs_M) "Orderbench" prog_1_method_66_code 4 (some .boolean) "sortsAsTwice" 85 (ve_rt 1 .boolean) := ve_iret_ok (by decide +kernel : decode prog_1_method_66_code 85 = .ok (.ireturn, 1)) rfl
set_option maxRecDepth 16384 in
theorem vi_95_0 (l : Launch) : ve_OK vs_A l 59 (ve_HI vs_A l 59 vs_M) (ve_CB vs_A l 59 (ve_HI vs_A l 59 vs_M) vs_M) "Orderbench$Together" prog_6_method_1_code 3 none "<init>" 0 (ve_pu (ve_al 1 0)) := ve_pu_ok (ve_aload_n_ok (k := 0) (i := 0) (by decide +kernel : decode prog_6_method_1_code 0 = .ok (.aload_n 0, 1)) rfl)
set_option maxRecDepth 16384 in
theorem vi_95_1 (l : Launch) : ve_OK vs_A l 59 (ve_HI vs_A l 59 vs_M) (ve_CB vs_A l 59 (ve_HI vs_A l 59 vs_M) vs_M) "Orderbench$Together" prog_6_method_1_code 3 none "<init>" 1 (ve_pu (ve_al 2 1)) := ve_pu_ok (ve_aload_n_ok (k := 1) (i := 1) (by decide +kernel : decode prog_6_method_1_code 1 = .ok (.aload_n 1, 1)) rfl)
set_option maxRecDepth 16384 in
theorem vi_95_2 (l : Launch) : ve_OK vs_A l 59 (ve_HI vs_A l 59 vs_M) (ve_CB vs_A l 59 (ve_HI vs_A l 59 vs_M) vs_M) "Orderbench$Together" prog_6_method_1_code 3 none "<init>" 2 (ve_gf 5 0) := ve_getf_ok (k := 0) (by decide +kernel : decode prog_6_method_1_code 2 = .ok (.getfield 3, 3)) vw_533 vf_110
set_option maxRecDepth 16384 in
theorem vi_95_5 (l : Launch) : ve_OK vs_A l 59 (ve_HI vs_A l 59 vs_M) (ve_CB vs_A l 59 (ve_HI vs_A l 59 vs_M) vs_M) "Orderbench$Together" prog_6_method_1_code 3 none "<init>" 5 (ve_pu (ve_al 6 2)) := ve_pu_ok (ve_aload_n_ok (k := 2) (i := 2) (by decide +kernel : decode prog_6_method_1_code 5 = .ok (.aload_n 2, 1)) rfl)
set_option maxRecDepth 16384 in
theorem vi_95_6 (l : Launch) : ve_OK vs_A l 59 (ve_HI vs_A l 59 vs_M) (ve_CB vs_A l 59 (ve_HI vs_A l 59 vs_M) vs_M) "Orderbench$Together" prog_6_method_1_code 3 none "<init>" 6 (ve_gf 9 0) := ve_getf_ok (k := 0) (by decide +kernel : decode prog_6_method_1_code 6 = .ok (.getfield 3, 3)) vw_533 vf_110
set_option maxRecDepth 16384 in
theorem vi_95_9 (l : Launch) : ve_OK vs_A l 59 (ve_HI vs_A l 59 vs_M) (ve_CB vs_A l 59 (ve_HI vs_A l 59 vs_M) vs_M) "Orderbench$Together" prog_6_method_1_code 3 none "<init>" 9 (ve_pu (ve_iadd 10)) := ve_pu_ok (ve_iadd_ok (by decide +kernel : decode prog_6_method_1_code 9 = .ok (.iadd, 1)))
set_option maxRecDepth 16384 in
theorem vi_95_10 (l : Launch) : ve_OK vs_A l 59 (ve_HI vs_A l 59 vs_M) (ve_CB vs_A l 59 (ve_HI vs_A l 59 vs_M) vs_M) "Orderbench$Together" prog_6_method_1_code 3 none "<init>" 10 (ve_pu (ve_push 11 (.int (3)))) := ve_pu_ok (ve_iconst_ok (n := 3) (v := 3) (by decide +kernel : decode prog_6_method_1_code 10 = .ok (.iconst (3), 1)) rfl)
set_option maxRecDepth 16384 in
theorem vi_95_11 (l : Launch) : ve_OK vs_A l 59 (ve_HI vs_A l 59 vs_M) (ve_CB vs_A l 59 (ve_HI vs_A l 59 vs_M) vs_M) "Orderbench$Together" prog_6_method_1_code 3 none "<init>" 11 (ve_pu (ve_iadd 12)) := ve_pu_ok (ve_iadd_ok (by decide +kernel : decode prog_6_method_1_code 11 = .ok (.iadd, 1)))
set_option maxRecDepth 16384 in
theorem vi_95_12 (l : Launch) : ve_OK vs_A l 59 (ve_HI vs_A l 59 vs_M) (ve_CB vs_A l 59 (ve_HI vs_A l 59 vs_M) vs_M) "Orderbench$Together" prog_6_method_1_code 3 none "<init>" 12 (ve_pu (ve_al 13 1)) := ve_pu_ok (ve_aload_n_ok (k := 1) (i := 1) (by decide +kernel : decode prog_6_method_1_code 12 = .ok (.aload_n 1, 1)) rfl)
set_option maxRecDepth 16384 in
theorem vi_95_13 (l : Launch) : ve_OK vs_A l 59 (ve_HI vs_A l 59 vs_M) (ve_CB vs_A l 59 (ve_HI vs_A l 59 vs_M) vs_M) "Orderbench$Together" prog_6_method_1_code 3 none "<init>" 13 (ve_gf 16 1) := ve_getf_ok (k := 1) (by decide +kernel : decode prog_6_method_1_code 13 = .ok (.getfield 9, 3)) vw_534 vf_111
set_option maxRecDepth 16384 in
theorem vi_95_16 (l : Launch) : ve_OK vs_A l 59 (ve_HI vs_A l 59 vs_M) (ve_CB vs_A l 59 (ve_HI vs_A l 59 vs_M) vs_M) "Orderbench$Together" prog_6_method_1_code 3 none "<init>" 16 (ve_pu (ve_br1 (fun x => decide (x = 0)) 30 19)) := ve_pu_ok (ve_if_eq_ok (by decide +kernel : decode prog_6_method_1_code 16 = .ok (.ifCond .eq (14), 3)) (by decide +kernel))
set_option maxRecDepth 16384 in
theorem vi_95_30 (l : Launch) : ve_OK vs_A l 59 (ve_HI vs_A l 59 vs_M) (ve_CB vs_A l 59 (ve_HI vs_A l 59 vs_M) vs_M) "Orderbench$Together" prog_6_method_1_code 3 none "<init>" 30 (ve_pu (ve_push 31 (.int (0)))) := ve_pu_ok (ve_iconst_ok (n := 0) (v := 0) (by decide +kernel : decode prog_6_method_1_code 30 = .ok (.iconst (0), 1)) rfl)
set_option maxRecDepth 16384 in
theorem vi_95_31 (l : Launch) : ve_OK vs_A l 59 (ve_HI vs_A l 59 vs_M) (ve_CB vs_A l 59 (ve_HI vs_A l 59 vs_M) vs_M) "Orderbench$Together" prog_6_method_1_code 3 none "<init>" 31 (ve_cw 59 3 34 [(33, 4)]) := ve_cw_ok rfl (List.forall_mem_cons.mpr ⟨ve_rowI (md := vs_M) (A0 := vs_A) (mi := 4) (na := 2) (by decide +kernel : decode prog_6_method_1_code 31 = .ok (.invokespecial 13, 3)) (by decide) vw_535 vw_76 vw_77 vw_78 rfl ⟨by decide, by decide⟩ vf_45 rfl rfl 33, List.forall_mem_nil _⟩)
set_option maxRecDepth 16384 in
theorem vi_95_34 (l : Launch) : ve_OK vs_A l 59 (ve_HI vs_A l 59 vs_M) (ve_CB vs_A l 59 (ve_HI vs_A l 59 vs_M) vs_M) "Orderbench$Together" prog_6_method_1_code 3 none "<init>" 34 (ve_pu (ve_al 35 0)) := ve_pu_ok (ve_aload_n_ok (k := 0) (i := 0) (by decide +kernel : decode prog_6_method_1_code 34 = .ok (.aload_n 0, 1)) rfl)
set_option maxRecDepth 16384 in
theorem vi_95_35 (l : Launch) : ve_OK vs_A l 59 (ve_HI vs_A l 59 vs_M) (ve_CB vs_A l 59 (ve_HI vs_A l 59 vs_M) vs_M) "Orderbench$Together" prog_6_method_1_code 3 none "<init>" 35 (ve_pu (ve_al 36 1)) := ve_pu_ok (ve_aload_n_ok (k := 1) (i := 1) (by decide +kernel : decode prog_6_method_1_code 35 = .ok (.aload_n 1, 1)) rfl)
set_option maxRecDepth 16384 in
theorem vi_95_36 (l : Launch) : ve_OK vs_A l 59 (ve_HI vs_A l 59 vs_M) (ve_CB vs_A l 59 (ve_HI vs_A l 59 vs_M) vs_M) "Orderbench$Together" prog_6_method_1_code 3 none "<init>" 36 (ve_pf 39 2 [33] (.object "Orderbench$Shape")) := ve_putfF_ok (by decide +kernel : decode prog_6_method_1_code 36 = .ok (.putfield 17, 3)) vw_536 rfl vf_244 vf_243
set_option maxRecDepth 16384 in
theorem vi_95_39 (l : Launch) : ve_OK vs_A l 59 (ve_HI vs_A l 59 vs_M) (ve_CB vs_A l 59 (ve_HI vs_A l 59 vs_M) vs_M) "Orderbench$Together" prog_6_method_1_code 3 none "<init>" 39 (ve_pu (ve_al 40 0)) := ve_pu_ok (ve_aload_n_ok (k := 0) (i := 0) (by decide +kernel : decode prog_6_method_1_code 39 = .ok (.aload_n 0, 1)) rfl)
set_option maxRecDepth 16384 in
theorem vi_95_40 (l : Launch) : ve_OK vs_A l 59 (ve_HI vs_A l 59 vs_M) (ve_CB vs_A l 59 (ve_HI vs_A l 59 vs_M) vs_M) "Orderbench$Together" prog_6_method_1_code 3 none "<init>" 40 (ve_pu (ve_al 41 2)) := ve_pu_ok (ve_aload_n_ok (k := 2) (i := 2) (by decide +kernel : decode prog_6_method_1_code 40 = .ok (.aload_n 2, 1)) rfl)
set_option maxRecDepth 16384 in
theorem vi_95_41 (l : Launch) : ve_OK vs_A l 59 (ve_HI vs_A l 59 vs_M) (ve_CB vs_A l 59 (ve_HI vs_A l 59 vs_M) vs_M) "Orderbench$Together" prog_6_method_1_code 3 none "<init>" 41 (ve_pf 44 3 [33] (.object "Orderbench$Shape")) := ve_putfF_ok (by decide +kernel : decode prog_6_method_1_code 41 = .ok (.putfield 23, 3)) vw_537 rfl vf_246 vf_245
set_option maxRecDepth 16384 in
theorem vi_95_44 (l : Launch) : ve_OK vs_A l 59 (ve_HI vs_A l 59 vs_M) (ve_CB vs_A l 59 (ve_HI vs_A l 59 vs_M) vs_M) "Orderbench$Together" prog_6_method_1_code 3 none "<init>" 44 (ve_rt 0 .int) := ve_vret_ok (by decide +kernel : decode prog_6_method_1_code 44 = .ok (.return_, 1)) rfl
set_option maxRecDepth 16384 in
theorem vi_96_0 (l : Launch) : ve_OK vs_A l 59 (ve_HI vs_A l 59 vs_M) (ve_CB vs_A l 59 (ve_HI vs_A l 59 vs_M) vs_M) "OrderbenchModel" prog_10_method_70_code 5 (some .long) "digest" 0 (ve_pu (ve_al 1 0)) := ve_pu_ok (ve_aload_n_ok (k := 0) (i := 0) (by decide +kernel : decode prog_10_method_70_code 0 = .ok (.aload_n 0, 1)) rfl)
set_option maxRecDepth 16384 in
theorem vi_96_1 (l : Launch) : ve_OK vs_A l 59 (ve_HI vs_A l 59 vs_M) (ve_CB vs_A l 59 (ve_HI vs_A l 59 vs_M) vs_M) "OrderbenchModel" prog_10_method_70_code 5 (some .long) "digest" 1 (ve_pu (ve_push 2 (.int (0)))) := ve_pu_ok (ve_iconst_ok (n := 0) (v := 0) (by decide +kernel : decode prog_10_method_70_code 1 = .ok (.iconst (0), 1)) rfl)
set_option maxRecDepth 16384 in
theorem vi_96_2 (l : Launch) : ve_OK vs_A l 59 (ve_HI vs_A l 59 vs_M) (ve_CB vs_A l 59 (ve_HI vs_A l 59 vs_M) vs_M) "OrderbenchModel" prog_10_method_70_code 5 (some .long) "digest" 2 (ve_pf 5 0 [6] .int) := ve_putf_ok (by decide +kernel : decode prog_10_method_70_code 2 = .ok (.putfield 29, 3)) vw_204 vf_125 vf_124
set_option maxRecDepth 16384 in
theorem vi_96_5 (l : Launch) : ve_OK vs_A l 59 (ve_HI vs_A l 59 vs_M) (ve_CB vs_A l 59 (ve_HI vs_A l 59 vs_M) vs_M) "OrderbenchModel" prog_10_method_70_code 5 (some .long) "digest" 5 (ve_pu (ve_push 8 (.long (7773)))) := ve_cu_ok (ve_ldc2_ok (v := 7773) (by decide +kernel : decode prog_10_method_70_code 5 = .ok (.ldc2_w 236, 3)) vw_538)
set_option maxRecDepth 16384 in
theorem vi_96_8 (l : Launch) : ve_OK vs_A l 59 (ve_HI vs_A l 59 vs_M) (ve_CB vs_A l 59 (ve_HI vs_A l 59 vs_M) vs_M) "OrderbenchModel" prog_10_method_70_code 5 (some .long) "digest" 8 (ve_pu (ve_ls 9 1 5)) := ve_pu_ok (ve_lstore_n_ok (k := 1) (i := 1) (by decide +kernel : decode prog_10_method_70_code 8 = .ok (.lstore_n 1, 1)) rfl)
set_option maxRecDepth 16384 in
theorem vi_96_9 (l : Launch) : ve_OK vs_A l 59 (ve_HI vs_A l 59 vs_M) (ve_CB vs_A l 59 (ve_HI vs_A l 59 vs_M) vs_M) "OrderbenchModel" prog_10_method_70_code 5 (some .long) "digest" 9 (ve_pu (ve_push 10 (.int (0)))) := ve_pu_ok (ve_iconst_ok (n := 0) (v := 0) (by decide +kernel : decode prog_10_method_70_code 9 = .ok (.iconst (0), 1)) rfl)
set_option maxRecDepth 16384 in
theorem vi_96_10 (l : Launch) : ve_OK vs_A l 59 (ve_HI vs_A l 59 vs_M) (ve_CB vs_A l 59 (ve_HI vs_A l 59 vs_M) vs_M) "OrderbenchModel" prog_10_method_70_code 5 (some .long) "digest" 10 (ve_pu (ve_is 11 3 5)) := ve_pu_ok (ve_istore_n_ok (k := 3) (i := 3) (by decide +kernel : decode prog_10_method_70_code 10 = .ok (.istore_n 3, 1)) rfl)
set_option maxRecDepth 16384 in
theorem vi_96_11 (l : Launch) : ve_OK vs_A l 59 (ve_HI vs_A l 59 vs_M) (ve_CB vs_A l 59 (ve_HI vs_A l 59 vs_M) vs_M) "OrderbenchModel" prog_10_method_70_code 5 (some .long) "digest" 11 (ve_pu (ve_il 12 3)) := ve_pu_ok (ve_iload_n_ok (k := 3) (i := 3) (by decide +kernel : decode prog_10_method_70_code 11 = .ok (.iload_n 3, 1)) rfl)
set_option maxRecDepth 16384 in
theorem vi_96_12 (l : Launch) : ve_OK vs_A l 59 (ve_HI vs_A l 59 vs_M) (ve_CB vs_A l 59 (ve_HI vs_A l 59 vs_M) vs_M) "OrderbenchModel" prog_10_method_70_code 5 (some .long) "digest" 12 (ve_pu (ve_push 14 (.int (6)))) := ve_pu_ok (ve_bipush_ok (n := 6) (v := 6) (by decide +kernel : decode prog_10_method_70_code 12 = .ok (.bipush (6), 2)) (by decide +kernel))
set_option maxRecDepth 16384 in
theorem vi_96_14 (l : Launch) : ve_OK vs_A l 59 (ve_HI vs_A l 59 vs_M) (ve_CB vs_A l 59 (ve_HI vs_A l 59 vs_M) vs_M) "OrderbenchModel" prog_10_method_70_code 5 (some .long) "digest" 14 (ve_pu (ve_br2 (fun x y => decide (¬ x < y)) 34 17)) := ve_pu_ok (ve_icmp_ge_ok (by decide +kernel : decode prog_10_method_70_code 14 = .ok (.if_icmp .ge (20), 3)) (by decide +kernel))
set_option maxRecDepth 16384 in
theorem vi_96_17 (l : Launch) : ve_OK vs_A l 59 (ve_HI vs_A l 59 vs_M) (ve_CB vs_A l 59 (ve_HI vs_A l 59 vs_M) vs_M) "OrderbenchModel" prog_10_method_70_code 5 (some .long) "digest" 17 (ve_pu (ve_ll 18 1)) := ve_pu_ok (ve_lload_n_ok (k := 1) (i := 1) (by decide +kernel : decode prog_10_method_70_code 17 = .ok (.lload_n 1, 1)) rfl)
set_option maxRecDepth 16384 in
theorem vi_96_18 (l : Launch) : ve_OK vs_A l 59 (ve_HI vs_A l 59 vs_M) (ve_CB vs_A l 59 (ve_HI vs_A l 59 vs_M) vs_M) "OrderbenchModel" prog_10_method_70_code 5 (some .long) "digest" 18 (ve_pu (ve_al 19 0)) := ve_pu_ok (ve_aload_n_ok (k := 0) (i := 0) (by decide +kernel : decode prog_10_method_70_code 18 = .ok (.aload_n 0, 1)) rfl)
set_option maxRecDepth 16384 in
theorem vi_96_19 (l : Launch) : ve_OK vs_A l 59 (ve_HI vs_A l 59 vs_M) (ve_CB vs_A l 59 (ve_HI vs_A l 59 vs_M) vs_M) "OrderbenchModel" prog_10_method_70_code 5 (some .long) "digest" 19 (ve_pu (ve_il 20 3)) := ve_pu_ok (ve_iload_n_ok (k := 3) (i := 3) (by decide +kernel : decode prog_10_method_70_code 19 = .ok (.iload_n 3, 1)) rfl)
set_option maxRecDepth 16384 in
theorem vi_96_20 (l : Launch) : ve_OK vs_A l 59 (ve_HI vs_A l 59 vs_M) (ve_CB vs_A l 59 (ve_HI vs_A l 59 vs_M) vs_M) "OrderbenchModel" prog_10_method_70_code 5 (some .long) "digest" 20 (ve_cw 59 2 23 [(6, 97)]) := ve_cw_ok rfl (List.forall_mem_cons.mpr ⟨ve_rowU (md := vs_M) (A0 := vs_A) (mi := 97) (na := 1) (k := 6) (C := "OrderbenchModel") (owner := "OrderbenchModel") (x := ⟨"OrderbenchModel", "houseOf", "(I)I"⟩) (by decide +kernel : decode prog_10_method_70_code 20 = .ok (.invokevirtual 228, 3)) (by decide) vw_541 vw_539 vw_8 vw_540 rfl vw_542 vw_543 vf_247 ⟨by decide, by decide⟩ vf_3 vf_131, List.forall_mem_nil _⟩)
set_option maxRecDepth 16384 in
theorem vi_96_23 (l : Launch) : ve_OK vs_A l 59 (ve_HI vs_A l 59 vs_M) (ve_CB vs_A l 59 (ve_HI vs_A l 59 vs_M) vs_M) "OrderbenchModel" prog_10_method_70_code 5 (some .long) "digest" 23 (ve_pu (ve_i2l 24)) := ve_pu_ok (ve_i2l_ok (by decide +kernel : decode prog_10_method_70_code 23 = .ok (.i2l, 1)))
set_option maxRecDepth 16384 in
theorem vi_96_24 (l : Launch) : ve_OK vs_A l 59 (ve_HI vs_A l 59 vs_M) (ve_CB vs_A l 59 (ve_HI vs_A l 59 vs_M) vs_M) "OrderbenchModel" prog_10_method_70_code 5 (some .long) "digest" 24 (ve_cl 59 107 2 27) := ve_cl_ok (ve_rowS (md := vs_M) (A0 := vs_A) (mi := 107) (by decide +kernel : decode prog_10_method_70_code 24 = .ok (.invokestatic 233, 3)) (by decide) vw_544 vw_545 vw_8 vw_546 rfl ⟨by decide, by decide⟩ vf_248)
set_option maxRecDepth 16384 in
theorem vi_96_27 (l : Launch) : ve_OK vs_A l 59 (ve_HI vs_A l 59 vs_M) (ve_CB vs_A l 59 (ve_HI vs_A l 59 vs_M) vs_M) "OrderbenchModel" prog_10_method_70_code 5 (some .long) "digest" 27 (ve_pu (ve_ls 28 1 5)) := ve_pu_ok (ve_lstore_n_ok (k := 1) (i := 1) (by decide +kernel : decode prog_10_method_70_code 27 = .ok (.lstore_n 1, 1)) rfl)
set_option maxRecDepth 16384 in
theorem vi_96_28 (l : Launch) : ve_OK vs_A l 59 (ve_HI vs_A l 59 vs_M) (ve_CB vs_A l 59 (ve_HI vs_A l 59 vs_M) vs_M) "OrderbenchModel" prog_10_method_70_code 5 (some .long) "digest" 28 (ve_pu (ve_ii 31 3 5 (1))) := ve_pu_ok (ve_iinc_ok (by decide +kernel : decode prog_10_method_70_code 28 = .ok (.iinc 3 (1), 3)))
set_option maxRecDepth 16384 in
theorem vi_96_31 (l : Launch) : ve_OK vs_A l 59 (ve_HI vs_A l 59 vs_M) (ve_CB vs_A l 59 (ve_HI vs_A l 59 vs_M) vs_M) "OrderbenchModel" prog_10_method_70_code 5 (some .long) "digest" 31 (ve_pu (ve_jmp 11)) := ve_pu_ok (ve_goto_ok (by decide +kernel : decode prog_10_method_70_code 31 = .ok (.goto (-20), 3)) (by decide +kernel))
set_option maxRecDepth 16384 in
theorem vi_96_34 (l : Launch) : ve_OK vs_A l 59 (ve_HI vs_A l 59 vs_M) (ve_CB vs_A l 59 (ve_HI vs_A l 59 vs_M) vs_M) "OrderbenchModel" prog_10_method_70_code 5 (some .long) "digest" 34 (ve_pu (ve_push 35 (.int (0)))) := ve_pu_ok (ve_iconst_ok (n := 0) (v := 0) (by decide +kernel : decode prog_10_method_70_code 34 = .ok (.iconst (0), 1)) rfl)
set_option maxRecDepth 16384 in
theorem vi_96_35 (l : Launch) : ve_OK vs_A l 59 (ve_HI vs_A l 59 vs_M) (ve_CB vs_A l 59 (ve_HI vs_A l 59 vs_M) vs_M) "OrderbenchModel" prog_10_method_70_code 5 (some .long) "digest" 35 (ve_pu (ve_is 36 3 5)) := ve_pu_ok (ve_istore_n_ok (k := 3) (i := 3) (by decide +kernel : decode prog_10_method_70_code 35 = .ok (.istore_n 3, 1)) rfl)
set_option maxRecDepth 16384 in
theorem vi_96_36 (l : Launch) : ve_OK vs_A l 59 (ve_HI vs_A l 59 vs_M) (ve_CB vs_A l 59 (ve_HI vs_A l 59 vs_M) vs_M) "OrderbenchModel" prog_10_method_70_code 5 (some .long) "digest" 36 (ve_pu (ve_il 37 3)) := ve_pu_ok (ve_iload_n_ok (k := 3) (i := 3) (by decide +kernel : decode prog_10_method_70_code 36 = .ok (.iload_n 3, 1)) rfl)
set_option maxRecDepth 16384 in
theorem vi_96_37 (l : Launch) : ve_OK vs_A l 59 (ve_HI vs_A l 59 vs_M) (ve_CB vs_A l 59 (ve_HI vs_A l 59 vs_M) vs_M) "OrderbenchModel" prog_10_method_70_code 5 (some .long) "digest" 37 (ve_pu (ve_push 38 (.int (2)))) := ve_pu_ok (ve_iconst_ok (n := 2) (v := 2) (by decide +kernel : decode prog_10_method_70_code 37 = .ok (.iconst (2), 1)) rfl)
set_option maxRecDepth 16384 in
theorem vi_96_38 (l : Launch) : ve_OK vs_A l 59 (ve_HI vs_A l 59 vs_M) (ve_CB vs_A l 59 (ve_HI vs_A l 59 vs_M) vs_M) "OrderbenchModel" prog_10_method_70_code 5 (some .long) "digest" 38 (ve_pu (ve_br2 (fun x y => decide (¬ x < y)) 124 41)) := ve_pu_ok (ve_icmp_ge_ok (by decide +kernel : decode prog_10_method_70_code 38 = .ok (.if_icmp .ge (86), 3)) (by decide +kernel))
set_option maxRecDepth 16384 in
theorem vi_96_41 (l : Launch) : ve_OK vs_A l 59 (ve_HI vs_A l 59 vs_M) (ve_CB vs_A l 59 (ve_HI vs_A l 59 vs_M) vs_M) "OrderbenchModel" prog_10_method_70_code 5 (some .long) "digest" 41 (ve_pu (ve_ll 42 1)) := ve_pu_ok (ve_lload_n_ok (k := 1) (i := 1) (by decide +kernel : decode prog_10_method_70_code 41 = .ok (.lload_n 1, 1)) rfl)
set_option maxRecDepth 16384 in
theorem vi_96_42 (l : Launch) : ve_OK vs_A l 59 (ve_HI vs_A l 59 vs_M) (ve_CB vs_A l 59 (ve_HI vs_A l 59 vs_M) vs_M) "OrderbenchModel" prog_10_method_70_code 5 (some .long) "digest" 42 (ve_pu (ve_al 43 0)) := ve_pu_ok (ve_aload_n_ok (k := 0) (i := 0) (by decide +kernel : decode prog_10_method_70_code 42 = .ok (.aload_n 0, 1)) rfl)
set_option maxRecDepth 16384 in
theorem vi_96_43 (l : Launch) : ve_OK vs_A l 59 (ve_HI vs_A l 59 vs_M) (ve_CB vs_A l 59 (ve_HI vs_A l 59 vs_M) vs_M) "OrderbenchModel" prog_10_method_70_code 5 (some .long) "digest" 43 (ve_pu (ve_il 44 3)) := ve_pu_ok (ve_iload_n_ok (k := 3) (i := 3) (by decide +kernel : decode prog_10_method_70_code 43 = .ok (.iload_n 3, 1)) rfl)
set_option maxRecDepth 16384 in
theorem vi_96_44 (l : Launch) : ve_OK vs_A l 59 (ve_HI vs_A l 59 vs_M) (ve_CB vs_A l 59 (ve_HI vs_A l 59 vs_M) vs_M) "OrderbenchModel" prog_10_method_70_code 5 (some .long) "digest" 44 (ve_cw 59 2 47 [(6, 108)]) := ve_cw_ok rfl (List.forall_mem_cons.mpr ⟨ve_rowU (md := vs_M) (A0 := vs_A) (mi := 108) (na := 1) (k := 6) (C := "OrderbenchModel") (owner := "OrderbenchModel") (x := ⟨"OrderbenchModel", "textOf", "(I)Ljava/lang/String;"⟩) (by decide +kernel : decode prog_10_method_70_code 44 = .ok (.invokevirtual 200, 3)) (by decide) vw_549 vw_547 vw_8 vw_548 rfl vw_550 vw_551 vf_250 ⟨by decide, by decide⟩ vf_3 vf_249, List.forall_mem_nil _⟩)
set_option maxRecDepth 16384 in
theorem vi_96_47 (l : Launch) : ve_OK vs_A l 59 (ve_HI vs_A l 59 vs_M) (ve_CB vs_A l 59 (ve_HI vs_A l 59 vs_M) vs_M) "OrderbenchModel" prog_10_method_70_code 5 (some .long) "digest" 47 (ve_cl 59 109 2 50) := ve_cl_ok (ve_rowS (md := vs_M) (A0 := vs_A) (mi := 109) (by decide +kernel : decode prog_10_method_70_code 47 = .ok (.invokestatic 238, 3)) (by decide) vw_552 vw_553 vw_8 vw_554 rfl ⟨by decide, by decide⟩ vf_251)
set_option maxRecDepth 16384 in
theorem vi_96_50 (l : Launch) : ve_OK vs_A l 59 (ve_HI vs_A l 59 vs_M) (ve_CB vs_A l 59 (ve_HI vs_A l 59 vs_M) vs_M) "OrderbenchModel" prog_10_method_70_code 5 (some .long) "digest" 50 (ve_pu (ve_ls 51 1 5)) := ve_pu_ok (ve_lstore_n_ok (k := 1) (i := 1) (by decide +kernel : decode prog_10_method_70_code 50 = .ok (.lstore_n 1, 1)) rfl)
set_option maxRecDepth 16384 in
theorem vi_96_51 (l : Launch) : ve_OK vs_A l 59 (ve_HI vs_A l 59 vs_M) (ve_CB vs_A l 59 (ve_HI vs_A l 59 vs_M) vs_M) "OrderbenchModel" prog_10_method_70_code 5 (some .long) "digest" 51 (ve_pu (ve_push 52 (.int (0)))) := ve_pu_ok (ve_iconst_ok (n := 0) (v := 0) (by decide +kernel : decode prog_10_method_70_code 51 = .ok (.iconst (0), 1)) rfl)
set_option maxRecDepth 16384 in
theorem vi_96_52 (l : Launch) : ve_OK vs_A l 59 (ve_HI vs_A l 59 vs_M) (ve_CB vs_A l 59 (ve_HI vs_A l 59 vs_M) vs_M) "OrderbenchModel" prog_10_method_70_code 5 (some .long) "digest" 52 (ve_pu (ve_is 54 4 5)) := ve_pu_ok (ve_istore_ok (by decide +kernel : decode prog_10_method_70_code 52 = .ok (.istore 4, 2)))
set_option maxRecDepth 16384 in
theorem vi_96_54 (l : Launch) : ve_OK vs_A l 59 (ve_HI vs_A l 59 vs_M) (ve_CB vs_A l 59 (ve_HI vs_A l 59 vs_M) vs_M) "OrderbenchModel" prog_10_method_70_code 5 (some .long) "digest" 54 (ve_pu (ve_il 56 4)) := ve_pu_ok (ve_iload_ok (by decide +kernel : decode prog_10_method_70_code 54 = .ok (.iload 4, 2)))
set_option maxRecDepth 16384 in
theorem vi_96_56 (l : Launch) : ve_OK vs_A l 59 (ve_HI vs_A l 59 vs_M) (ve_CB vs_A l 59 (ve_HI vs_A l 59 vs_M) vs_M) "OrderbenchModel" prog_10_method_70_code 5 (some .long) "digest" 56 (ve_pu (ve_push 58 (.int (10)))) := ve_pu_ok (ve_bipush_ok (n := 10) (v := 10) (by decide +kernel : decode prog_10_method_70_code 56 = .ok (.bipush (10), 2)) (by decide +kernel))
set_option maxRecDepth 16384 in
theorem vi_96_58 (l : Launch) : ve_OK vs_A l 59 (ve_HI vs_A l 59 vs_M) (ve_CB vs_A l 59 (ve_HI vs_A l 59 vs_M) vs_M) "OrderbenchModel" prog_10_method_70_code 5 (some .long) "digest" 58 (ve_pu (ve_br2 (fun x y => decide (¬ x < y)) 118 61)) := ve_pu_ok (ve_icmp_ge_ok (by decide +kernel : decode prog_10_method_70_code 58 = .ok (.if_icmp .ge (60), 3)) (by decide +kernel))
set_option maxRecDepth 16384 in
theorem vi_96_61 (l : Launch) : ve_OK vs_A l 59 (ve_HI vs_A l 59 vs_M) (ve_CB vs_A l 59 (ve_HI vs_A l 59 vs_M) vs_M) "OrderbenchModel" prog_10_method_70_code 5 (some .long) "digest" 61 (ve_pu (ve_ll 62 1)) := ve_pu_ok (ve_lload_n_ok (k := 1) (i := 1) (by decide +kernel : decode prog_10_method_70_code 61 = .ok (.lload_n 1, 1)) rfl)
set_option maxRecDepth 16384 in
theorem vi_96_62 (l : Launch) : ve_OK vs_A l 59 (ve_HI vs_A l 59 vs_M) (ve_CB vs_A l 59 (ve_HI vs_A l 59 vs_M) vs_M) "OrderbenchModel" prog_10_method_70_code 5 (some .long) "digest" 62 (ve_pu (ve_al 63 0)) := ve_pu_ok (ve_aload_n_ok (k := 0) (i := 0) (by decide +kernel : decode prog_10_method_70_code 62 = .ok (.aload_n 0, 1)) rfl)
set_option maxRecDepth 16384 in
theorem vi_96_63 (l : Launch) : ve_OK vs_A l 59 (ve_HI vs_A l 59 vs_M) (ve_CB vs_A l 59 (ve_HI vs_A l 59 vs_M) vs_M) "OrderbenchModel" prog_10_method_70_code 5 (some .long) "digest" 63 (ve_pu (ve_il 64 3)) := ve_pu_ok (ve_iload_n_ok (k := 3) (i := 3) (by decide +kernel : decode prog_10_method_70_code 63 = .ok (.iload_n 3, 1)) rfl)
set_option maxRecDepth 16384 in
theorem vi_96_64 (l : Launch) : ve_OK vs_A l 59 (ve_HI vs_A l 59 vs_M) (ve_CB vs_A l 59 (ve_HI vs_A l 59 vs_M) vs_M) "OrderbenchModel" prog_10_method_70_code 5 (some .long) "digest" 64 (ve_pu (ve_il 66 4)) := ve_pu_ok (ve_iload_ok (by decide +kernel : decode prog_10_method_70_code 64 = .ok (.iload 4, 2)))
set_option maxRecDepth 16384 in
theorem vi_96_66 (l : Launch) : ve_OK vs_A l 59 (ve_HI vs_A l 59 vs_M) (ve_CB vs_A l 59 (ve_HI vs_A l 59 vs_M) vs_M) "OrderbenchModel" prog_10_method_70_code 5 (some .long) "digest" 66 (ve_cw 59 3 69 [(6, 110)]) := ve_cw_ok rfl (List.forall_mem_cons.mpr ⟨ve_rowU (md := vs_M) (A0 := vs_A) (mi := 110) (na := 2) (k := 6) (C := "OrderbenchModel") (owner := "OrderbenchModel") (x := ⟨"OrderbenchModel", "isSortedBy", "(II)Z"⟩) (by decide +kernel : decode prog_10_method_70_code 66 = .ok (.invokevirtual 211, 3)) (by decide) vw_557 vw_555 vw_8 vw_556 rfl vw_558 vw_559 vf_253 ⟨by decide, by decide⟩ vf_3 vf_252, List.forall_mem_nil _⟩)
set_option maxRecDepth 16384 in
theorem vi_96_69 (l : Launch) : ve_OK vs_A l 59 (ve_HI vs_A l 59 vs_M) (ve_CB vs_A l 59 (ve_HI vs_A l 59 vs_M) vs_M) "OrderbenchModel" prog_10_method_70_code 5 (some .long) "digest" 69 (ve_cl 59 100 1 72) := ve_cl_ok (ve_rowS (md := vs_M) (A0 := vs_A) (mi := 100) (by decide +kernel : decode prog_10_method_70_code 69 = .ok (.invokestatic 113, 3)) (by decide) vw_560 vw_561 vw_8 vw_562 rfl ⟨by decide, by decide⟩ vf_254)
set_option maxRecDepth 16384 in
theorem vi_96_72 (l : Launch) : ve_OK vs_A l 59 (ve_HI vs_A l 59 vs_M) (ve_CB vs_A l 59 (ve_HI vs_A l 59 vs_M) vs_M) "OrderbenchModel" prog_10_method_70_code 5 (some .long) "digest" 72 (ve_pu (ve_i2l 73)) := ve_pu_ok (ve_i2l_ok (by decide +kernel : decode prog_10_method_70_code 72 = .ok (.i2l, 1)))
set_option maxRecDepth 16384 in
theorem vi_96_73 (l : Launch) : ve_OK vs_A l 59 (ve_HI vs_A l 59 vs_M) (ve_CB vs_A l 59 (ve_HI vs_A l 59 vs_M) vs_M) "OrderbenchModel" prog_10_method_70_code 5 (some .long) "digest" 73 (ve_cl 59 107 2 76) := ve_cl_ok (ve_rowS (md := vs_M) (A0 := vs_A) (mi := 107) (by decide +kernel : decode prog_10_method_70_code 73 = .ok (.invokestatic 233, 3)) (by decide) vw_544 vw_545 vw_8 vw_546 rfl ⟨by decide, by decide⟩ vf_248)
set_option maxRecDepth 16384 in
theorem vi_96_76 (l : Launch) : ve_OK vs_A l 59 (ve_HI vs_A l 59 vs_M) (ve_CB vs_A l 59 (ve_HI vs_A l 59 vs_M) vs_M) "OrderbenchModel" prog_10_method_70_code 5 (some .long) "digest" 76 (ve_pu (ve_al 77 0)) := ve_pu_ok (ve_aload_n_ok (k := 0) (i := 0) (by decide +kernel : decode prog_10_method_70_code 76 = .ok (.aload_n 0, 1)) rfl)
set_option maxRecDepth 16384 in
theorem vi_96_77 (l : Launch) : ve_OK vs_A l 59 (ve_HI vs_A l 59 vs_M) (ve_CB vs_A l 59 (ve_HI vs_A l 59 vs_M) vs_M) "OrderbenchModel" prog_10_method_70_code 5 (some .long) "digest" 77 (ve_pu (ve_il 78 3)) := ve_pu_ok (ve_iload_n_ok (k := 3) (i := 3) (by decide +kernel : decode prog_10_method_70_code 77 = .ok (.iload_n 3, 1)) rfl)
set_option maxRecDepth 16384 in
theorem vi_96_78 (l : Launch) : ve_OK vs_A l 59 (ve_HI vs_A l 59 vs_M) (ve_CB vs_A l 59 (ve_HI vs_A l 59 vs_M) vs_M) "OrderbenchModel" prog_10_method_70_code 5 (some .long) "digest" 78 (ve_pu (ve_il 80 4)) := ve_pu_ok (ve_iload_ok (by decide +kernel : decode prog_10_method_70_code 78 = .ok (.iload 4, 2)))
set_option maxRecDepth 16384 in
theorem vi_96_80 (l : Launch) : ve_OK vs_A l 59 (ve_HI vs_A l 59 vs_M) (ve_CB vs_A l 59 (ve_HI vs_A l 59 vs_M) vs_M) "OrderbenchModel" prog_10_method_70_code 5 (some .long) "digest" 80 (ve_cw 59 3 83 [(6, 113)]) := ve_cw_ok rfl (List.forall_mem_cons.mpr ⟨ve_rowU (md := vs_M) (A0 := vs_A) (mi := 113) (na := 2) (k := 6) (C := "OrderbenchModel") (owner := "OrderbenchModel") (x := ⟨"OrderbenchModel", "classesOf", "(II)I"⟩) (by decide +kernel : decode prog_10_method_70_code 80 = .ok (.invokevirtual 214, 3)) (by decide) vw_565 vw_563 vw_8 vw_564 rfl vw_566 vw_567 vf_255 ⟨by decide, by decide⟩ vf_3 vf_9, List.forall_mem_nil _⟩)
set_option maxRecDepth 16384 in
theorem vi_96_83 (l : Launch) : ve_OK vs_A l 59 (ve_HI vs_A l 59 vs_M) (ve_CB vs_A l 59 (ve_HI vs_A l 59 vs_M) vs_M) "OrderbenchModel" prog_10_method_70_code 5 (some .long) "digest" 83 (ve_pu (ve_i2l 84)) := ve_pu_ok (ve_i2l_ok (by decide +kernel : decode prog_10_method_70_code 83 = .ok (.i2l, 1)))
set_option maxRecDepth 16384 in
theorem vi_96_84 (l : Launch) : ve_OK vs_A l 59 (ve_HI vs_A l 59 vs_M) (ve_CB vs_A l 59 (ve_HI vs_A l 59 vs_M) vs_M) "OrderbenchModel" prog_10_method_70_code 5 (some .long) "digest" 84 (ve_cl 59 107 2 87) := ve_cl_ok (ve_rowS (md := vs_M) (A0 := vs_A) (mi := 107) (by decide +kernel : decode prog_10_method_70_code 84 = .ok (.invokestatic 233, 3)) (by decide) vw_544 vw_545 vw_8 vw_546 rfl ⟨by decide, by decide⟩ vf_248)
set_option maxRecDepth 16384 in
theorem vi_96_87 (l : Launch) : ve_OK vs_A l 59 (ve_HI vs_A l 59 vs_M) (ve_CB vs_A l 59 (ve_HI vs_A l 59 vs_M) vs_M) "OrderbenchModel" prog_10_method_70_code 5 (some .long) "digest" 87 (ve_pu (ve_al 88 0)) := ve_pu_ok (ve_aload_n_ok (k := 0) (i := 0) (by decide +kernel : decode prog_10_method_70_code 87 = .ok (.aload_n 0, 1)) rfl)
set_option maxRecDepth 16384 in
theorem vi_96_88 (l : Launch) : ve_OK vs_A l 59 (ve_HI vs_A l 59 vs_M) (ve_CB vs_A l 59 (ve_HI vs_A l 59 vs_M) vs_M) "OrderbenchModel" prog_10_method_70_code 5 (some .long) "digest" 88 (ve_pu (ve_il 89 3)) := ve_pu_ok (ve_iload_n_ok (k := 3) (i := 3) (by decide +kernel : decode prog_10_method_70_code 88 = .ok (.iload_n 3, 1)) rfl)
set_option maxRecDepth 16384 in
theorem vi_96_89 (l : Launch) : ve_OK vs_A l 59 (ve_HI vs_A l 59 vs_M) (ve_CB vs_A l 59 (ve_HI vs_A l 59 vs_M) vs_M) "OrderbenchModel" prog_10_method_70_code 5 (some .long) "digest" 89 (ve_pu (ve_il 91 4)) := ve_pu_ok (ve_iload_ok (by decide +kernel : decode prog_10_method_70_code 89 = .ok (.iload 4, 2)))
set_option maxRecDepth 16384 in
theorem vi_96_91 (l : Launch) : ve_OK vs_A l 59 (ve_HI vs_A l 59 vs_M) (ve_CB vs_A l 59 (ve_HI vs_A l 59 vs_M) vs_M) "OrderbenchModel" prog_10_method_70_code 5 (some .long) "digest" 91 (ve_pu (ve_push 92 (.int (-1)))) := ve_pu_ok (ve_iconst_ok (n := -1) (v := -1) (by decide +kernel : decode prog_10_method_70_code 91 = .ok (.iconst (-1), 1)) rfl)
set_option maxRecDepth 16384 in
theorem vi_96_92 (l : Launch) : ve_OK vs_A l 59 (ve_HI vs_A l 59 vs_M) (ve_CB vs_A l 59 (ve_HI vs_A l 59 vs_M) vs_M) "OrderbenchModel" prog_10_method_70_code 5 (some .long) "digest" 92 (ve_cw 59 4 95 [(6, 115)]) := ve_cw_ok rfl (List.forall_mem_cons.mpr ⟨ve_rowU (md := vs_M) (A0 := vs_A) (mi := 115) (na := 3) (k := 6) (C := "OrderbenchModel") (owner := "OrderbenchModel") (x := ⟨"OrderbenchModel", "endOf", "(III)I"⟩) (by decide +kernel : decode prog_10_method_70_code 92 = .ok (.invokevirtual 218, 3)) (by decide) vw_570 vw_568 vw_8 vw_569 rfl vw_571 vw_572 vf_256 ⟨by decide, by decide⟩ vf_3 vf_184, List.forall_mem_nil _⟩)
set_option maxRecDepth 16384 in
theorem vi_96_95 (l : Launch) : ve_OK vs_A l 59 (ve_HI vs_A l 59 vs_M) (ve_CB vs_A l 59 (ve_HI vs_A l 59 vs_M) vs_M) "OrderbenchModel" prog_10_method_70_code 5 (some .long) "digest" 95 (ve_pu (ve_i2l 96)) := ve_pu_ok (ve_i2l_ok (by decide +kernel : decode prog_10_method_70_code 95 = .ok (.i2l, 1)))
set_option maxRecDepth 16384 in
theorem vi_96_96 (l : Launch) : ve_OK vs_A l 59 (ve_HI vs_A l 59 vs_M) (ve_CB vs_A l 59 (ve_HI vs_A l 59 vs_M) vs_M) "OrderbenchModel" prog_10_method_70_code 5 (some .long) "digest" 96 (ve_cl 59 107 2 99) := ve_cl_ok (ve_rowS (md := vs_M) (A0 := vs_A) (mi := 107) (by decide +kernel : decode prog_10_method_70_code 96 = .ok (.invokestatic 233, 3)) (by decide) vw_544 vw_545 vw_8 vw_546 rfl ⟨by decide, by decide⟩ vf_248)
set_option maxRecDepth 16384 in
theorem vi_96_99 (l : Launch) : ve_OK vs_A l 59 (ve_HI vs_A l 59 vs_M) (ve_CB vs_A l 59 (ve_HI vs_A l 59 vs_M) vs_M) "OrderbenchModel" prog_10_method_70_code 5 (some .long) "digest" 99 (ve_pu (ve_al 100 0)) := ve_pu_ok (ve_aload_n_ok (k := 0) (i := 0) (by decide +kernel : decode prog_10_method_70_code 99 = .ok (.aload_n 0, 1)) rfl)
set_option maxRecDepth 16384 in
theorem vi_96_100 (l : Launch) : ve_OK vs_A l 59 (ve_HI vs_A l 59 vs_M) (ve_CB vs_A l 59 (ve_HI vs_A l 59 vs_M) vs_M) "OrderbenchModel" prog_10_method_70_code 5 (some .long) "digest" 100 (ve_pu (ve_il 101 3)) := ve_pu_ok (ve_iload_n_ok (k := 3) (i := 3) (by decide +kernel : decode prog_10_method_70_code 100 = .ok (.iload_n 3, 1)) rfl)
set_option maxRecDepth 16384 in
theorem vi_96_101 (l : Launch) : ve_OK vs_A l 59 (ve_HI vs_A l 59 vs_M) (ve_CB vs_A l 59 (ve_HI vs_A l 59 vs_M) vs_M) "OrderbenchModel" prog_10_method_70_code 5 (some .long) "digest" 101 (ve_pu (ve_il 103 4)) := ve_pu_ok (ve_iload_ok (by decide +kernel : decode prog_10_method_70_code 101 = .ok (.iload 4, 2)))
set_option maxRecDepth 16384 in
theorem vi_96_103 (l : Launch) : ve_OK vs_A l 59 (ve_HI vs_A l 59 vs_M) (ve_CB vs_A l 59 (ve_HI vs_A l 59 vs_M) vs_M) "OrderbenchModel" prog_10_method_70_code 5 (some .long) "digest" 103 (ve_pu (ve_push 104 (.int (1)))) := ve_pu_ok (ve_iconst_ok (n := 1) (v := 1) (by decide +kernel : decode prog_10_method_70_code 103 = .ok (.iconst (1), 1)) rfl)
set_option maxRecDepth 16384 in
theorem vi_96_104 (l : Launch) : ve_OK vs_A l 59 (ve_HI vs_A l 59 vs_M) (ve_CB vs_A l 59 (ve_HI vs_A l 59 vs_M) vs_M) "OrderbenchModel" prog_10_method_70_code 5 (some .long) "digest" 104 (ve_cw 59 4 107 [(6, 115)]) := ve_cw_ok rfl (List.forall_mem_cons.mpr ⟨ve_rowU (md := vs_M) (A0 := vs_A) (mi := 115) (na := 3) (k := 6) (C := "OrderbenchModel") (owner := "OrderbenchModel") (x := ⟨"OrderbenchModel", "endOf", "(III)I"⟩) (by decide +kernel : decode prog_10_method_70_code 104 = .ok (.invokevirtual 218, 3)) (by decide) vw_570 vw_568 vw_8 vw_569 rfl vw_571 vw_572 vf_256 ⟨by decide, by decide⟩ vf_3 vf_184, List.forall_mem_nil _⟩)
set_option maxRecDepth 16384 in
theorem vi_96_107 (l : Launch) : ve_OK vs_A l 59 (ve_HI vs_A l 59 vs_M) (ve_CB vs_A l 59 (ve_HI vs_A l 59 vs_M) vs_M) "OrderbenchModel" prog_10_method_70_code 5 (some .long) "digest" 107 (ve_pu (ve_i2l 108)) := ve_pu_ok (ve_i2l_ok (by decide +kernel : decode prog_10_method_70_code 107 = .ok (.i2l, 1)))
set_option maxRecDepth 16384 in
theorem vi_96_108 (l : Launch) : ve_OK vs_A l 59 (ve_HI vs_A l 59 vs_M) (ve_CB vs_A l 59 (ve_HI vs_A l 59 vs_M) vs_M) "OrderbenchModel" prog_10_method_70_code 5 (some .long) "digest" 108 (ve_cl 59 107 2 111) := ve_cl_ok (ve_rowS (md := vs_M) (A0 := vs_A) (mi := 107) (by decide +kernel : decode prog_10_method_70_code 108 = .ok (.invokestatic 233, 3)) (by decide) vw_544 vw_545 vw_8 vw_546 rfl ⟨by decide, by decide⟩ vf_248)
set_option maxRecDepth 16384 in
theorem vi_96_111 (l : Launch) : ve_OK vs_A l 59 (ve_HI vs_A l 59 vs_M) (ve_CB vs_A l 59 (ve_HI vs_A l 59 vs_M) vs_M) "OrderbenchModel" prog_10_method_70_code 5 (some .long) "digest" 111 (ve_pu (ve_ls 112 1 5)) := ve_pu_ok (ve_lstore_n_ok (k := 1) (i := 1) (by decide +kernel : decode prog_10_method_70_code 111 = .ok (.lstore_n 1, 1)) rfl)
set_option maxRecDepth 16384 in
theorem vi_96_112 (l : Launch) : ve_OK vs_A l 59 (ve_HI vs_A l 59 vs_M) (ve_CB vs_A l 59 (ve_HI vs_A l 59 vs_M) vs_M) "OrderbenchModel" prog_10_method_70_code 5 (some .long) "digest" 112 (ve_pu (ve_ii 115 4 5 (1))) := ve_pu_ok (ve_iinc_ok (by decide +kernel : decode prog_10_method_70_code 112 = .ok (.iinc 4 (1), 3)))
set_option maxRecDepth 16384 in
theorem vi_96_115 (l : Launch) : ve_OK vs_A l 59 (ve_HI vs_A l 59 vs_M) (ve_CB vs_A l 59 (ve_HI vs_A l 59 vs_M) vs_M) "OrderbenchModel" prog_10_method_70_code 5 (some .long) "digest" 115 (ve_pu (ve_jmp 54)) := ve_pu_ok (ve_goto_ok (by decide +kernel : decode prog_10_method_70_code 115 = .ok (.goto (-61), 3)) (by decide +kernel))
set_option maxRecDepth 16384 in
theorem vi_96_118 (l : Launch) : ve_OK vs_A l 59 (ve_HI vs_A l 59 vs_M) (ve_CB vs_A l 59 (ve_HI vs_A l 59 vs_M) vs_M) "OrderbenchModel" prog_10_method_70_code 5 (some .long) "digest" 118 (ve_pu (ve_ii 121 3 5 (1))) := ve_pu_ok (ve_iinc_ok (by decide +kernel : decode prog_10_method_70_code 118 = .ok (.iinc 3 (1), 3)))
set_option maxRecDepth 16384 in
theorem vi_96_121 (l : Launch) : ve_OK vs_A l 59 (ve_HI vs_A l 59 vs_M) (ve_CB vs_A l 59 (ve_HI vs_A l 59 vs_M) vs_M) "OrderbenchModel" prog_10_method_70_code 5 (some .long) "digest" 121 (ve_pu (ve_jmp 36)) := ve_pu_ok (ve_goto_ok (by decide +kernel : decode prog_10_method_70_code 121 = .ok (.goto (-85), 3)) (by decide +kernel))
set_option maxRecDepth 16384 in
theorem vi_96_124 (l : Launch) : ve_OK vs_A l 59 (ve_HI vs_A l 59 vs_M) (ve_CB vs_A l 59 (ve_HI vs_A l 59 vs_M) vs_M) "OrderbenchModel" prog_10_method_70_code 5 (some .long) "digest" 124 (ve_pu (ve_push 125 (.int (0)))) := ve_pu_ok (ve_iconst_ok (n := 0) (v := 0) (by decide +kernel : decode prog_10_method_70_code 124 = .ok (.iconst (0), 1)) rfl)
set_option maxRecDepth 16384 in
theorem vi_96_125 (l : Launch) : ve_OK vs_A l 59 (ve_HI vs_A l 59 vs_M) (ve_CB vs_A l 59 (ve_HI vs_A l 59 vs_M) vs_M) "OrderbenchModel" prog_10_method_70_code 5 (some .long) "digest" 125 (ve_pu (ve_is 126 3 5)) := ve_pu_ok (ve_istore_n_ok (k := 3) (i := 3) (by decide +kernel : decode prog_10_method_70_code 125 = .ok (.istore_n 3, 1)) rfl)
set_option maxRecDepth 16384 in
theorem vi_96_126 (l : Launch) : ve_OK vs_A l 59 (ve_HI vs_A l 59 vs_M) (ve_CB vs_A l 59 (ve_HI vs_A l 59 vs_M) vs_M) "OrderbenchModel" prog_10_method_70_code 5 (some .long) "digest" 126 (ve_pu (ve_il 127 3)) := ve_pu_ok (ve_iload_n_ok (k := 3) (i := 3) (by decide +kernel : decode prog_10_method_70_code 126 = .ok (.iload_n 3, 1)) rfl)
set_option maxRecDepth 16384 in
theorem vi_96_127 (l : Launch) : ve_OK vs_A l 59 (ve_HI vs_A l 59 vs_M) (ve_CB vs_A l 59 (ve_HI vs_A l 59 vs_M) vs_M) "OrderbenchModel" prog_10_method_70_code 5 (some .long) "digest" 127 (ve_pu (ve_push 129 (.int (10)))) := ve_pu_ok (ve_bipush_ok (n := 10) (v := 10) (by decide +kernel : decode prog_10_method_70_code 127 = .ok (.bipush (10), 2)) (by decide +kernel))
set_option maxRecDepth 16384 in
theorem vi_96_129 (l : Launch) : ve_OK vs_A l 59 (ve_HI vs_A l 59 vs_M) (ve_CB vs_A l 59 (ve_HI vs_A l 59 vs_M) vs_M) "OrderbenchModel" prog_10_method_70_code 5 (some .long) "digest" 129 (ve_pu (ve_br2 (fun x y => decide (¬ x < y)) 168 132)) := ve_pu_ok (ve_icmp_ge_ok (by decide +kernel : decode prog_10_method_70_code 129 = .ok (.if_icmp .ge (39), 3)) (by decide +kernel))
set_option maxRecDepth 16384 in
theorem vi_96_132 (l : Launch) : ve_OK vs_A l 59 (ve_HI vs_A l 59 vs_M) (ve_CB vs_A l 59 (ve_HI vs_A l 59 vs_M) vs_M) "OrderbenchModel" prog_10_method_70_code 5 (some .long) "digest" 132 (ve_pu (ve_ll 133 1)) := ve_pu_ok (ve_lload_n_ok (k := 1) (i := 1) (by decide +kernel : decode prog_10_method_70_code 132 = .ok (.lload_n 1, 1)) rfl)
set_option maxRecDepth 16384 in
theorem vi_96_133 (l : Launch) : ve_OK vs_A l 59 (ve_HI vs_A l 59 vs_M) (ve_CB vs_A l 59 (ve_HI vs_A l 59 vs_M) vs_M) "OrderbenchModel" prog_10_method_70_code 5 (some .long) "digest" 133 (ve_pu (ve_al 134 0)) := ve_pu_ok (ve_aload_n_ok (k := 0) (i := 0) (by decide +kernel : decode prog_10_method_70_code 133 = .ok (.aload_n 0, 1)) rfl)
set_option maxRecDepth 16384 in
theorem vi_96_134 (l : Launch) : ve_OK vs_A l 59 (ve_HI vs_A l 59 vs_M) (ve_CB vs_A l 59 (ve_HI vs_A l 59 vs_M) vs_M) "OrderbenchModel" prog_10_method_70_code 5 (some .long) "digest" 134 (ve_gf 137 2) := ve_getf_ok (k := 2) (by decide +kernel : decode prog_10_method_70_code 134 = .ok (.getfield 18, 3)) vw_103 vf_68
set_option maxRecDepth 16384 in
theorem vi_96_137 (l : Launch) : ve_OK vs_A l 59 (ve_HI vs_A l 59 vs_M) (ve_CB vs_A l 59 (ve_HI vs_A l 59 vs_M) vs_M) "OrderbenchModel" prog_10_method_70_code 5 (some .long) "digest" 137 (ve_pu (ve_il 138 3)) := ve_pu_ok (ve_iload_n_ok (k := 3) (i := 3) (by decide +kernel : decode prog_10_method_70_code 137 = .ok (.iload_n 3, 1)) rfl)
set_option maxRecDepth 16384 in
theorem vi_96_138 (l : Launch) : ve_OK vs_A l 59 (ve_HI vs_A l 59 vs_M) (ve_CB vs_A l 59 (ve_HI vs_A l 59 vs_M) vs_M) "OrderbenchModel" prog_10_method_70_code 5 (some .long) "digest" 138 (ve_ald 139 56) := ve_aald_ok (by decide +kernel : decode prog_10_method_70_code 138 = .ok (.aaload, 1)) vf_118 rfl
set_option maxRecDepth 16384 in
theorem vi_96_139 (l : Launch) : ve_OK vs_A l 59 (ve_HI vs_A l 59 vs_M) (ve_CB vs_A l 59 (ve_HI vs_A l 59 vs_M) vs_M) "OrderbenchModel" prog_10_method_70_code 5 (some .long) "digest" 139 (ve_cw 59 1 142 [(11, 30)]) := ve_cw_ok rfl (List.forall_mem_cons.mpr ⟨ve_rowU (md := vs_M) (A0 := vs_A) (mi := 30) (na := 0) (k := 11) (C := "OrderbenchModel$Shape") (owner := "OrderbenchModel$Shape") (x := ⟨"OrderbenchModel$Shape", "text", "()Ljava/lang/String;"⟩) (by decide +kernel : decode prog_10_method_70_code 139 = .ok (.invokevirtual 146, 3)) (by decide) vw_207 vw_205 vw_110 vw_206 rfl vw_208 vw_209 vf_128 ⟨by decide, by decide⟩ vf_69 vf_127, List.forall_mem_nil _⟩)
set_option maxRecDepth 16384 in
theorem vi_96_142 (l : Launch) : ve_OK vs_A l 59 (ve_HI vs_A l 59 vs_M) (ve_CB vs_A l 59 (ve_HI vs_A l 59 vs_M) vs_M) "OrderbenchModel" prog_10_method_70_code 5 (some .long) "digest" 142 (ve_cl 59 109 2 145) := ve_cl_ok (ve_rowS (md := vs_M) (A0 := vs_A) (mi := 109) (by decide +kernel : decode prog_10_method_70_code 142 = .ok (.invokestatic 238, 3)) (by decide) vw_552 vw_553 vw_8 vw_554 rfl ⟨by decide, by decide⟩ vf_251)
set_option maxRecDepth 16384 in
theorem vi_96_145 (l : Launch) : ve_OK vs_A l 59 (ve_HI vs_A l 59 vs_M) (ve_CB vs_A l 59 (ve_HI vs_A l 59 vs_M) vs_M) "OrderbenchModel" prog_10_method_70_code 5 (some .long) "digest" 145 (ve_pu (ve_al 146 0)) := ve_pu_ok (ve_aload_n_ok (k := 0) (i := 0) (by decide +kernel : decode prog_10_method_70_code 145 = .ok (.aload_n 0, 1)) rfl)
set_option maxRecDepth 16384 in
theorem vi_96_146 (l : Launch) : ve_OK vs_A l 59 (ve_HI vs_A l 59 vs_M) (ve_CB vs_A l 59 (ve_HI vs_A l 59 vs_M) vs_M) "OrderbenchModel" prog_10_method_70_code 5 (some .long) "digest" 146 (ve_gf 149 2) := ve_getf_ok (k := 2) (by decide +kernel : decode prog_10_method_70_code 146 = .ok (.getfield 18, 3)) vw_103 vf_68
set_option maxRecDepth 16384 in
theorem vi_96_149 (l : Launch) : ve_OK vs_A l 59 (ve_HI vs_A l 59 vs_M) (ve_CB vs_A l 59 (ve_HI vs_A l 59 vs_M) vs_M) "OrderbenchModel" prog_10_method_70_code 5 (some .long) "digest" 149 (ve_pu (ve_il 150 3)) := ve_pu_ok (ve_iload_n_ok (k := 3) (i := 3) (by decide +kernel : decode prog_10_method_70_code 149 = .ok (.iload_n 3, 1)) rfl)
set_option maxRecDepth 16384 in
theorem vi_96_150 (l : Launch) : ve_OK vs_A l 59 (ve_HI vs_A l 59 vs_M) (ve_CB vs_A l 59 (ve_HI vs_A l 59 vs_M) vs_M) "OrderbenchModel" prog_10_method_70_code 5 (some .long) "digest" 150 (ve_ald 151 56) := ve_aald_ok (by decide +kernel : decode prog_10_method_70_code 150 = .ok (.aaload, 1)) vf_118 rfl
set_option maxRecDepth 16384 in
theorem vi_96_151 (l : Launch) : ve_OK vs_A l 59 (ve_HI vs_A l 59 vs_M) (ve_CB vs_A l 59 (ve_HI vs_A l 59 vs_M) vs_M) "OrderbenchModel" prog_10_method_70_code 5 (some .long) "digest" 151 (ve_cw 59 1 154 [(11, 98)]) := ve_cw_ok rfl (List.forall_mem_cons.mpr ⟨ve_rowU (md := vs_M) (A0 := vs_A) (mi := 98) (na := 0) (k := 11) (C := "OrderbenchModel$Shape") (owner := "OrderbenchModel$Shape") (x := ⟨"OrderbenchModel$Shape", "isSafe", "()Z"⟩) (by decide +kernel : decode prog_10_method_70_code 151 = .ok (.invokevirtual 123, 3)) (by decide) vw_575 vw_573 vw_110 vw_574 rfl vw_576 vw_577 vf_257 ⟨by decide, by decide⟩ vf_69 vf_146, List.forall_mem_nil _⟩)
set_option maxRecDepth 16384 in
theorem vi_96_154 (l : Launch) : ve_OK vs_A l 59 (ve_HI vs_A l 59 vs_M) (ve_CB vs_A l 59 (ve_HI vs_A l 59 vs_M) vs_M) "OrderbenchModel" prog_10_method_70_code 5 (some .long) "digest" 154 (ve_cl 59 100 1 157) := ve_cl_ok (ve_rowS (md := vs_M) (A0 := vs_A) (mi := 100) (by decide +kernel : decode prog_10_method_70_code 154 = .ok (.invokestatic 113, 3)) (by decide) vw_560 vw_561 vw_8 vw_562 rfl ⟨by decide, by decide⟩ vf_254)
set_option maxRecDepth 16384 in
theorem vi_96_157 (l : Launch) : ve_OK vs_A l 59 (ve_HI vs_A l 59 vs_M) (ve_CB vs_A l 59 (ve_HI vs_A l 59 vs_M) vs_M) "OrderbenchModel" prog_10_method_70_code 5 (some .long) "digest" 157 (ve_pu (ve_i2l 158)) := ve_pu_ok (ve_i2l_ok (by decide +kernel : decode prog_10_method_70_code 157 = .ok (.i2l, 1)))
set_option maxRecDepth 16384 in
theorem vi_96_158 (l : Launch) : ve_OK vs_A l 59 (ve_HI vs_A l 59 vs_M) (ve_CB vs_A l 59 (ve_HI vs_A l 59 vs_M) vs_M) "OrderbenchModel" prog_10_method_70_code 5 (some .long) "digest" 158 (ve_cl 59 107 2 161) := ve_cl_ok (ve_rowS (md := vs_M) (A0 := vs_A) (mi := 107) (by decide +kernel : decode prog_10_method_70_code 158 = .ok (.invokestatic 233, 3)) (by decide) vw_544 vw_545 vw_8 vw_546 rfl ⟨by decide, by decide⟩ vf_248)
set_option maxRecDepth 16384 in
theorem vi_96_161 (l : Launch) : ve_OK vs_A l 59 (ve_HI vs_A l 59 vs_M) (ve_CB vs_A l 59 (ve_HI vs_A l 59 vs_M) vs_M) "OrderbenchModel" prog_10_method_70_code 5 (some .long) "digest" 161 (ve_pu (ve_ls 162 1 5)) := ve_pu_ok (ve_lstore_n_ok (k := 1) (i := 1) (by decide +kernel : decode prog_10_method_70_code 161 = .ok (.lstore_n 1, 1)) rfl)
set_option maxRecDepth 16384 in
theorem vi_96_162 (l : Launch) : ve_OK vs_A l 59 (ve_HI vs_A l 59 vs_M) (ve_CB vs_A l 59 (ve_HI vs_A l 59 vs_M) vs_M) "OrderbenchModel" prog_10_method_70_code 5 (some .long) "digest" 162 (ve_pu (ve_ii 165 3 5 (1))) := ve_pu_ok (ve_iinc_ok (by decide +kernel : decode prog_10_method_70_code 162 = .ok (.iinc 3 (1), 3)))
set_option maxRecDepth 16384 in
theorem vi_96_165 (l : Launch) : ve_OK vs_A l 59 (ve_HI vs_A l 59 vs_M) (ve_CB vs_A l 59 (ve_HI vs_A l 59 vs_M) vs_M) "OrderbenchModel" prog_10_method_70_code 5 (some .long) "digest" 165 (ve_pu (ve_jmp 126)) := ve_pu_ok (ve_goto_ok (by decide +kernel : decode prog_10_method_70_code 165 = .ok (.goto (-39), 3)) (by decide +kernel))
set_option maxRecDepth 16384 in
theorem vi_96_168 (l : Launch) : ve_OK vs_A l 59 (ve_HI vs_A l 59 vs_M) (ve_CB vs_A l 59 (ve_HI vs_A l 59 vs_M) vs_M) "OrderbenchModel" prog_10_method_70_code 5 (some .long) "digest" 168 (ve_pu (ve_ll 169 1)) := ve_pu_ok (ve_lload_n_ok (k := 1) (i := 1) (by decide +kernel : decode prog_10_method_70_code 168 = .ok (.lload_n 1, 1)) rfl)
set_option maxRecDepth 16384 in
theorem vi_96_169 (l : Launch) : ve_OK vs_A l 59 (ve_HI vs_A l 59 vs_M) (ve_CB vs_A l 59 (ve_HI vs_A l 59 vs_M) vs_M) "OrderbenchModel" prog_10_method_70_code 5 (some .long) "digest" 169 (ve_pu (ve_push 170 (.long 1))) := ve_pu_ok (ve_lconst_ok (n := 1) (v := 1) (by decide +kernel : decode prog_10_method_70_code 169 = .ok (.lconst 1, 1)) rfl)
set_option maxRecDepth 16384 in
theorem vi_96_170 (l : Launch) : ve_OK vs_A l 59 (ve_HI vs_A l 59 vs_M) (ve_CB vs_A l 59 (ve_HI vs_A l 59 vs_M) vs_M) "OrderbenchModel" prog_10_method_70_code 5 (some .long) "digest" 170 (ve_cl 59 107 2 173) := ve_cl_ok (ve_rowS (md := vs_M) (A0 := vs_A) (mi := 107) (by decide +kernel : decode prog_10_method_70_code 170 = .ok (.invokestatic 233, 3)) (by decide) vw_544 vw_545 vw_8 vw_546 rfl ⟨by decide, by decide⟩ vf_248)
set_option maxRecDepth 16384 in
theorem vi_96_173 (l : Launch) : ve_OK vs_A l 59 (ve_HI vs_A l 59 vs_M) (ve_CB vs_A l 59 (ve_HI vs_A l 59 vs_M) vs_M) "OrderbenchModel" prog_10_method_70_code 5 (some .long) "digest" 173 (ve_rt 2 .long) := ve_lret_ok (by decide +kernel : decode prog_10_method_70_code 173 = .ok (.lreturn, 1)) rfl
set_option maxRecDepth 16384 in
theorem vi_97_0 (l : Launch) : ve_OK vs_A l 59 (ve_HI vs_A l 59 vs_M) (ve_CB vs_A l 59 (ve_HI vs_A l 59 vs_M) vs_M) "OrderbenchModel" prog_10_method_64_code 7 (some .int) "houseOf" 0 (ve_pu (ve_push 1 (.int (0)))) := ve_pu_ok (ve_iconst_ok (n := 0) (v := 0) (by decide +kernel : decode prog_10_method_64_code 0 = .ok (.iconst (0), 1)) rfl)
set_option maxRecDepth 16384 in
theorem vi_97_1 (l : Launch) : ve_OK vs_A l 59 (ve_HI vs_A l 59 vs_M) (ve_CB vs_A l 59 (ve_HI vs_A l 59 vs_M) vs_M) "OrderbenchModel" prog_10_method_64_code 7 (some .int) "houseOf" 1 (ve_pu (ve_is 2 2 7)) := ve_pu_ok (ve_istore_n_ok (k := 2) (i := 2) (by decide +kernel : decode prog_10_method_64_code 1 = .ok (.istore_n 2, 1)) rfl)
set_option maxRecDepth 16384 in
theorem vi_97_2 (l : Launch) : ve_OK vs_A l 59 (ve_HI vs_A l 59 vs_M) (ve_CB vs_A l 59 (ve_HI vs_A l 59 vs_M) vs_M) "OrderbenchModel" prog_10_method_64_code 7 (some .int) "houseOf" 2 (ve_pu (ve_al 3 0)) := ve_pu_ok (ve_aload_n_ok (k := 0) (i := 0) (by decide +kernel : decode prog_10_method_64_code 2 = .ok (.aload_n 0, 1)) rfl)
set_option maxRecDepth 16384 in
theorem vi_97_3 (l : Launch) : ve_OK vs_A l 59 (ve_HI vs_A l 59 vs_M) (ve_CB vs_A l 59 (ve_HI vs_A l 59 vs_M) vs_M) "OrderbenchModel" prog_10_method_64_code 7 (some .int) "houseOf" 3 (ve_gf 6 2) := ve_getf_ok (k := 2) (by decide +kernel : decode prog_10_method_64_code 3 = .ok (.getfield 18, 3)) vw_103 vf_68
set_option maxRecDepth 16384 in
theorem vi_97_6 (l : Launch) : ve_OK vs_A l 59 (ve_HI vs_A l 59 vs_M) (ve_CB vs_A l 59 (ve_HI vs_A l 59 vs_M) vs_M) "OrderbenchModel" prog_10_method_64_code 7 (some .int) "houseOf" 6 (ve_pu (ve_as 7 3 7)) := ve_pu_ok (ve_astore_n_ok (k := 3) (i := 3) (by decide +kernel : decode prog_10_method_64_code 6 = .ok (.astore_n 3, 1)) rfl)
set_option maxRecDepth 16384 in
theorem vi_97_7 (l : Launch) : ve_OK vs_A l 59 (ve_HI vs_A l 59 vs_M) (ve_CB vs_A l 59 (ve_HI vs_A l 59 vs_M) vs_M) "OrderbenchModel" prog_10_method_64_code 7 (some .int) "houseOf" 7 (ve_pu (ve_al 8 3)) := ve_pu_ok (ve_aload_n_ok (k := 3) (i := 3) (by decide +kernel : decode prog_10_method_64_code 7 = .ok (.aload_n 3, 1)) rfl)
set_option maxRecDepth 16384 in
theorem vi_97_8 (l : Launch) : ve_OK vs_A l 59 (ve_HI vs_A l 59 vs_M) (ve_CB vs_A l 59 (ve_HI vs_A l 59 vs_M) vs_M) "OrderbenchModel" prog_10_method_64_code 7 (some .int) "houseOf" 8 (ve_len 9 56) := ve_len_ok (by decide +kernel : decode prog_10_method_64_code 8 = .ok (.arraylength, 1)) vf_118
set_option maxRecDepth 16384 in
theorem vi_97_9 (l : Launch) : ve_OK vs_A l 59 (ve_HI vs_A l 59 vs_M) (ve_CB vs_A l 59 (ve_HI vs_A l 59 vs_M) vs_M) "OrderbenchModel" prog_10_method_64_code 7 (some .int) "houseOf" 9 (ve_pu (ve_is 11 4 7)) := ve_pu_ok (ve_istore_ok (by decide +kernel : decode prog_10_method_64_code 9 = .ok (.istore 4, 2)))
set_option maxRecDepth 16384 in
theorem vi_97_11 (l : Launch) : ve_OK vs_A l 59 (ve_HI vs_A l 59 vs_M) (ve_CB vs_A l 59 (ve_HI vs_A l 59 vs_M) vs_M) "OrderbenchModel" prog_10_method_64_code 7 (some .int) "houseOf" 11 (ve_pu (ve_push 12 (.int (0)))) := ve_pu_ok (ve_iconst_ok (n := 0) (v := 0) (by decide +kernel : decode prog_10_method_64_code 11 = .ok (.iconst (0), 1)) rfl)
set_option maxRecDepth 16384 in
theorem vi_97_12 (l : Launch) : ve_OK vs_A l 59 (ve_HI vs_A l 59 vs_M) (ve_CB vs_A l 59 (ve_HI vs_A l 59 vs_M) vs_M) "OrderbenchModel" prog_10_method_64_code 7 (some .int) "houseOf" 12 (ve_pu (ve_is 14 5 7)) := ve_pu_ok (ve_istore_ok (by decide +kernel : decode prog_10_method_64_code 12 = .ok (.istore 5, 2)))
set_option maxRecDepth 16384 in
theorem vi_97_14 (l : Launch) : ve_OK vs_A l 59 (ve_HI vs_A l 59 vs_M) (ve_CB vs_A l 59 (ve_HI vs_A l 59 vs_M) vs_M) "OrderbenchModel" prog_10_method_64_code 7 (some .int) "houseOf" 14 (ve_pu (ve_il 16 5)) := ve_pu_ok (ve_iload_ok (by decide +kernel : decode prog_10_method_64_code 14 = .ok (.iload 5, 2)))
set_option maxRecDepth 16384 in
theorem vi_97_16 (l : Launch) : ve_OK vs_A l 59 (ve_HI vs_A l 59 vs_M) (ve_CB vs_A l 59 (ve_HI vs_A l 59 vs_M) vs_M) "OrderbenchModel" prog_10_method_64_code 7 (some .int) "houseOf" 16 (ve_pu (ve_il 18 4)) := ve_pu_ok (ve_iload_ok (by decide +kernel : decode prog_10_method_64_code 16 = .ok (.iload 4, 2)))
set_option maxRecDepth 16384 in
theorem vi_97_18 (l : Launch) : ve_OK vs_A l 59 (ve_HI vs_A l 59 vs_M) (ve_CB vs_A l 59 (ve_HI vs_A l 59 vs_M) vs_M) "OrderbenchModel" prog_10_method_64_code 7 (some .int) "houseOf" 18 (ve_pu (ve_br2 (fun x y => decide (¬ x < y)) 44 21)) := ve_pu_ok (ve_icmp_ge_ok (by decide +kernel : decode prog_10_method_64_code 18 = .ok (.if_icmp .ge (26), 3)) (by decide +kernel))
set_option maxRecDepth 16384 in
theorem vi_97_21 (l : Launch) : ve_OK vs_A l 59 (ve_HI vs_A l 59 vs_M) (ve_CB vs_A l 59 (ve_HI vs_A l 59 vs_M) vs_M) "OrderbenchModel" prog_10_method_64_code 7 (some .int) "houseOf" 21 (ve_pu (ve_al 22 3)) := ve_pu_ok (ve_aload_n_ok (k := 3) (i := 3) (by decide +kernel : decode prog_10_method_64_code 21 = .ok (.aload_n 3, 1)) rfl)
set_option maxRecDepth 16384 in
theorem vi_97_22 (l : Launch) : ve_OK vs_A l 59 (ve_HI vs_A l 59 vs_M) (ve_CB vs_A l 59 (ve_HI vs_A l 59 vs_M) vs_M) "OrderbenchModel" prog_10_method_64_code 7 (some .int) "houseOf" 22 (ve_pu (ve_il 24 5)) := ve_pu_ok (ve_iload_ok (by decide +kernel : decode prog_10_method_64_code 22 = .ok (.iload 5, 2)))
set_option maxRecDepth 16384 in
theorem vi_97_24 (l : Launch) : ve_OK vs_A l 59 (ve_HI vs_A l 59 vs_M) (ve_CB vs_A l 59 (ve_HI vs_A l 59 vs_M) vs_M) "OrderbenchModel" prog_10_method_64_code 7 (some .int) "houseOf" 24 (ve_ald 25 56) := ve_aald_ok (by decide +kernel : decode prog_10_method_64_code 24 = .ok (.aaload, 1)) vf_118 rfl
set_option maxRecDepth 16384 in
theorem vi_97_25 (l : Launch) : ve_OK vs_A l 59 (ve_HI vs_A l 59 vs_M) (ve_CB vs_A l 59 (ve_HI vs_A l 59 vs_M) vs_M) "OrderbenchModel" prog_10_method_64_code 7 (some .int) "houseOf" 25 (ve_pu (ve_as 27 6 7)) := ve_pu_ok (ve_astore_ok (by decide +kernel : decode prog_10_method_64_code 25 = .ok (.astore 6, 2)))
