set_option maxRecDepth 16384 in
theorem vi_97_27 (l : Launch) : ve_OK vs_A l 59 (ve_HI vs_A l 59 vs_M) (ve_CB vs_A l 59 (ve_HI vs_A l 59 vs_M) vs_M) "OrderbenchModel" prog_10_method_64_code 7 (some .int) "houseOf" 27 (ve_pu (ve_il 28 2)) := ve_pu_ok (ve_iload_n_ok (k := 2) (i := 2) (by decide +kernel : decode prog_10_method_64_code 27 = .ok (.iload_n 2, 1)) rfl)
set_option maxRecDepth 16384 in
theorem vi_97_28 (l : Launch) : ve_OK vs_A l 59 (ve_HI vs_A l 59 vs_M) (ve_CB vs_A l 59 (ve_HI vs_A l 59 vs_M) vs_M) "OrderbenchModel" prog_10_method_64_code 7 (some .int) "houseOf" 28 (ve_pu (ve_al 30 6)) := ve_pu_ok (ve_aload_ok (by decide +kernel : decode prog_10_method_64_code 28 = .ok (.aload 6, 2)))
set_option maxRecDepth 16384 in
theorem vi_97_30 (l : Launch) : ve_OK vs_A l 59 (ve_HI vs_A l 59 vs_M) (ve_CB vs_A l 59 (ve_HI vs_A l 59 vs_M) vs_M) "OrderbenchModel" prog_10_method_64_code 7 (some .int) "houseOf" 30 (ve_cw 59 1 33 [(11, 98)]) := ve_cw_ok rfl (List.forall_mem_cons.mpr ⟨ve_rowU (md := vs_M) (A0 := vs_A) (mi := 98) (na := 0) (k := 11) (C := "OrderbenchModel$Shape") (owner := "OrderbenchModel$Shape") (x := ⟨"OrderbenchModel$Shape", "isSafe", "()Z"⟩) (by decide +kernel : decode prog_10_method_64_code 30 = .ok (.invokevirtual 123, 3)) (by decide) vw_575 vw_573 vw_110 vw_574 rfl vw_576 vw_577 vf_257 ⟨by decide, by decide⟩ vf_69 vf_146, List.forall_mem_nil _⟩)
set_option maxRecDepth 16384 in
theorem vi_97_33 (l : Launch) : ve_OK vs_A l 59 (ve_HI vs_A l 59 vs_M) (ve_CB vs_A l 59 (ve_HI vs_A l 59 vs_M) vs_M) "OrderbenchModel" prog_10_method_64_code 7 (some .int) "houseOf" 33 (ve_cl 59 100 1 36) := ve_cl_ok (ve_rowS (md := vs_M) (A0 := vs_A) (mi := 100) (by decide +kernel : decode prog_10_method_64_code 33 = .ok (.invokestatic 113, 3)) (by decide) vw_560 vw_561 vw_8 vw_562 rfl ⟨by decide, by decide⟩ vf_254)
set_option maxRecDepth 16384 in
theorem vi_97_36 (l : Launch) : ve_OK vs_A l 59 (ve_HI vs_A l 59 vs_M) (ve_CB vs_A l 59 (ve_HI vs_A l 59 vs_M) vs_M) "OrderbenchModel" prog_10_method_64_code 7 (some .int) "houseOf" 36 (ve_pu (ve_iadd 37)) := ve_pu_ok (ve_iadd_ok (by decide +kernel : decode prog_10_method_64_code 36 = .ok (.iadd, 1)))
set_option maxRecDepth 16384 in
theorem vi_97_37 (l : Launch) : ve_OK vs_A l 59 (ve_HI vs_A l 59 vs_M) (ve_CB vs_A l 59 (ve_HI vs_A l 59 vs_M) vs_M) "OrderbenchModel" prog_10_method_64_code 7 (some .int) "houseOf" 37 (ve_pu (ve_is 38 2 7)) := ve_pu_ok (ve_istore_n_ok (k := 2) (i := 2) (by decide +kernel : decode prog_10_method_64_code 37 = .ok (.istore_n 2, 1)) rfl)
set_option maxRecDepth 16384 in
theorem vi_97_38 (l : Launch) : ve_OK vs_A l 59 (ve_HI vs_A l 59 vs_M) (ve_CB vs_A l 59 (ve_HI vs_A l 59 vs_M) vs_M) "OrderbenchModel" prog_10_method_64_code 7 (some .int) "houseOf" 38 (ve_pu (ve_ii 41 5 7 (1))) := ve_pu_ok (ve_iinc_ok (by decide +kernel : decode prog_10_method_64_code 38 = .ok (.iinc 5 (1), 3)))
set_option maxRecDepth 16384 in
theorem vi_97_41 (l : Launch) : ve_OK vs_A l 59 (ve_HI vs_A l 59 vs_M) (ve_CB vs_A l 59 (ve_HI vs_A l 59 vs_M) vs_M) "OrderbenchModel" prog_10_method_64_code 7 (some .int) "houseOf" 41 (ve_pu (ve_jmp 14)) := ve_pu_ok (ve_goto_ok (by decide +kernel : decode prog_10_method_64_code 41 = .ok (.goto (-27), 3)) (by decide +kernel))
set_option maxRecDepth 16384 in
theorem vi_97_44 (l : Launch) : ve_OK vs_A l 59 (ve_HI vs_A l 59 vs_M) (ve_CB vs_A l 59 (ve_HI vs_A l 59 vs_M) vs_M) "OrderbenchModel" prog_10_method_64_code 7 (some .int) "houseOf" 44 (ve_pu (ve_push 46 (.int (6)))) := ve_pu_ok (ve_bipush_ok (n := 6) (v := 6) (by decide +kernel : decode prog_10_method_64_code 44 = .ok (.bipush (6), 2)) (by decide +kernel))
set_option maxRecDepth 16384 in
theorem vi_97_46 (l : Launch) : ve_OK vs_A l 59 (ve_HI vs_A l 59 vs_M) (ve_CB vs_A l 59 (ve_HI vs_A l 59 vs_M) vs_M) "OrderbenchModel" prog_10_method_64_code 7 (some .int) "houseOf" 46 (ve_na 48 51 (.int 0)) := ve_newa_ok (cls := 51) (ty := .int) (by decide +kernel : decode prog_10_method_64_code 46 = .ok (.newarray .int, 2)) vw_65 vf_36 rfl rfl rfl (by decide)
set_option maxRecDepth 16384 in
theorem vi_97_48 (l : Launch) : ve_OK vs_A l 59 (ve_HI vs_A l 59 vs_M) (ve_CB vs_A l 59 (ve_HI vs_A l 59 vs_M) vs_M) "OrderbenchModel" prog_10_method_64_code 7 (some .int) "houseOf" 48 (ve_pu (ve_dup 49)) := ve_pu_ok (ve_dup_ok (by decide +kernel : decode prog_10_method_64_code 48 = .ok (.dup, 1)))
set_option maxRecDepth 16384 in
theorem vi_97_49 (l : Launch) : ve_OK vs_A l 59 (ve_HI vs_A l 59 vs_M) (ve_CB vs_A l 59 (ve_HI vs_A l 59 vs_M) vs_M) "OrderbenchModel" prog_10_method_64_code 7 (some .int) "houseOf" 49 (ve_pu (ve_push 50 (.int (0)))) := ve_pu_ok (ve_iconst_ok (n := 0) (v := 0) (by decide +kernel : decode prog_10_method_64_code 49 = .ok (.iconst (0), 1)) rfl)
set_option maxRecDepth 16384 in
theorem vi_97_50 (l : Launch) : ve_OK vs_A l 59 (ve_HI vs_A l 59 vs_M) (ve_CB vs_A l 59 (ve_HI vs_A l 59 vs_M) vs_M) "OrderbenchModel" prog_10_method_64_code 7 (some .int) "houseOf" 50 (ve_pu (ve_al 51 0)) := ve_pu_ok (ve_aload_n_ok (k := 0) (i := 0) (by decide +kernel : decode prog_10_method_64_code 50 = .ok (.aload_n 0, 1)) rfl)
set_option maxRecDepth 16384 in
theorem vi_97_51 (l : Launch) : ve_OK vs_A l 59 (ve_HI vs_A l 59 vs_M) (ve_CB vs_A l 59 (ve_HI vs_A l 59 vs_M) vs_M) "OrderbenchModel" prog_10_method_64_code 7 (some .int) "houseOf" 51 (ve_pu (ve_push 52 (.int (0)))) := ve_pu_ok (ve_iconst_ok (n := 0) (v := 0) (by decide +kernel : decode prog_10_method_64_code 51 = .ok (.iconst (0), 1)) rfl)
set_option maxRecDepth 16384 in
theorem vi_97_52 (l : Launch) : ve_OK vs_A l 59 (ve_HI vs_A l 59 vs_M) (ve_CB vs_A l 59 (ve_HI vs_A l 59 vs_M) vs_M) "OrderbenchModel" prog_10_method_64_code 7 (some .int) "houseOf" 52 (ve_cw 59 2 55 [(6, 101)]) := ve_cw_ok rfl (List.forall_mem_cons.mpr ⟨ve_rowU (md := vs_M) (A0 := vs_A) (mi := 101) (na := 1) (k := 6) (C := "OrderbenchModel") (owner := "OrderbenchModel") (x := ⟨"OrderbenchModel", "many", "(I)I"⟩) (by decide +kernel : decode prog_10_method_64_code 52 = .ok (.invokevirtual 86, 3)) (by decide) vw_580 vw_578 vw_8 vw_579 rfl vw_581 vw_582 vf_258 ⟨by decide, by decide⟩ vf_3 vf_131, List.forall_mem_nil _⟩)
set_option maxRecDepth 16384 in
theorem vi_97_55 (l : Launch) : ve_OK vs_A l 59 (ve_HI vs_A l 59 vs_M) (ve_CB vs_A l 59 (ve_HI vs_A l 59 vs_M) vs_M) "OrderbenchModel" prog_10_method_64_code 7 (some .int) "houseOf" 55 (ve_pu (ve_al 56 0)) := ve_pu_ok (ve_aload_n_ok (k := 0) (i := 0) (by decide +kernel : decode prog_10_method_64_code 55 = .ok (.aload_n 0, 1)) rfl)
set_option maxRecDepth 16384 in
theorem vi_97_56 (l : Launch) : ve_OK vs_A l 59 (ve_HI vs_A l 59 vs_M) (ve_CB vs_A l 59 (ve_HI vs_A l 59 vs_M) vs_M) "OrderbenchModel" prog_10_method_64_code 7 (some .int) "houseOf" 56 (ve_pu (ve_push 57 (.int (1)))) := ve_pu_ok (ve_iconst_ok (n := 1) (v := 1) (by decide +kernel : decode prog_10_method_64_code 56 = .ok (.iconst (1), 1)) rfl)
set_option maxRecDepth 16384 in
theorem vi_97_57 (l : Launch) : ve_OK vs_A l 59 (ve_HI vs_A l 59 vs_M) (ve_CB vs_A l 59 (ve_HI vs_A l 59 vs_M) vs_M) "OrderbenchModel" prog_10_method_64_code 7 (some .int) "houseOf" 57 (ve_cw 59 2 60 [(6, 101)]) := ve_cw_ok rfl (List.forall_mem_cons.mpr ⟨ve_rowU (md := vs_M) (A0 := vs_A) (mi := 101) (na := 1) (k := 6) (C := "OrderbenchModel") (owner := "OrderbenchModel") (x := ⟨"OrderbenchModel", "many", "(I)I"⟩) (by decide +kernel : decode prog_10_method_64_code 57 = .ok (.invokevirtual 86, 3)) (by decide) vw_580 vw_578 vw_8 vw_579 rfl vw_581 vw_582 vf_258 ⟨by decide, by decide⟩ vf_3 vf_131, List.forall_mem_nil _⟩)
set_option maxRecDepth 16384 in
theorem vi_97_60 (l : Launch) : ve_OK vs_A l 59 (ve_HI vs_A l 59 vs_M) (ve_CB vs_A l 59 (ve_HI vs_A l 59 vs_M) vs_M) "OrderbenchModel" prog_10_method_64_code 7 (some .int) "houseOf" 60 (ve_pu (ve_iadd 61)) := ve_pu_ok (ve_iadd_ok (by decide +kernel : decode prog_10_method_64_code 60 = .ok (.iadd, 1)))
set_option maxRecDepth 16384 in
theorem vi_97_61 (l : Launch) : ve_OK vs_A l 59 (ve_HI vs_A l 59 vs_M) (ve_CB vs_A l 59 (ve_HI vs_A l 59 vs_M) vs_M) "OrderbenchModel" prog_10_method_64_code 7 (some .int) "houseOf" 61 (ve_ast 62 51 .int) := ve_iast_ok (by decide +kernel : decode prog_10_method_64_code 61 = .ok (.iastore, 1)) vf_7
set_option maxRecDepth 16384 in
theorem vi_97_62 (l : Launch) : ve_OK vs_A l 59 (ve_HI vs_A l 59 vs_M) (ve_CB vs_A l 59 (ve_HI vs_A l 59 vs_M) vs_M) "OrderbenchModel" prog_10_method_64_code 7 (some .int) "houseOf" 62 (ve_pu (ve_dup 63)) := ve_pu_ok (ve_dup_ok (by decide +kernel : decode prog_10_method_64_code 62 = .ok (.dup, 1)))
set_option maxRecDepth 16384 in
theorem vi_97_63 (l : Launch) : ve_OK vs_A l 59 (ve_HI vs_A l 59 vs_M) (ve_CB vs_A l 59 (ve_HI vs_A l 59 vs_M) vs_M) "OrderbenchModel" prog_10_method_64_code 7 (some .int) "houseOf" 63 (ve_pu (ve_push 64 (.int (1)))) := ve_pu_ok (ve_iconst_ok (n := 1) (v := 1) (by decide +kernel : decode prog_10_method_64_code 63 = .ok (.iconst (1), 1)) rfl)
set_option maxRecDepth 16384 in
theorem vi_97_64 (l : Launch) : ve_OK vs_A l 59 (ve_HI vs_A l 59 vs_M) (ve_CB vs_A l 59 (ve_HI vs_A l 59 vs_M) vs_M) "OrderbenchModel" prog_10_method_64_code 7 (some .int) "houseOf" 64 (ve_pu (ve_al 65 0)) := ve_pu_ok (ve_aload_n_ok (k := 0) (i := 0) (by decide +kernel : decode prog_10_method_64_code 64 = .ok (.aload_n 0, 1)) rfl)
set_option maxRecDepth 16384 in
theorem vi_97_65 (l : Launch) : ve_OK vs_A l 59 (ve_HI vs_A l 59 vs_M) (ve_CB vs_A l 59 (ve_HI vs_A l 59 vs_M) vs_M) "OrderbenchModel" prog_10_method_64_code 7 (some .int) "houseOf" 65 (ve_gf 68 3) := ve_getf_ok (k := 3) (by decide +kernel : decode prog_10_method_64_code 65 = .ok (.getfield 79, 3)) vw_583 vf_259
set_option maxRecDepth 16384 in
theorem vi_97_68 (l : Launch) : ve_OK vs_A l 59 (ve_HI vs_A l 59 vs_M) (ve_CB vs_A l 59 (ve_HI vs_A l 59 vs_M) vs_M) "OrderbenchModel" prog_10_method_64_code 7 (some .int) "houseOf" 68 (ve_ast 69 51 .int) := ve_iast_ok (by decide +kernel : decode prog_10_method_64_code 68 = .ok (.iastore, 1)) vf_7
set_option maxRecDepth 16384 in
theorem vi_97_69 (l : Launch) : ve_OK vs_A l 59 (ve_HI vs_A l 59 vs_M) (ve_CB vs_A l 59 (ve_HI vs_A l 59 vs_M) vs_M) "OrderbenchModel" prog_10_method_64_code 7 (some .int) "houseOf" 69 (ve_pu (ve_dup 70)) := ve_pu_ok (ve_dup_ok (by decide +kernel : decode prog_10_method_64_code 69 = .ok (.dup, 1)))
set_option maxRecDepth 16384 in
theorem vi_97_70 (l : Launch) : ve_OK vs_A l 59 (ve_HI vs_A l 59 vs_M) (ve_CB vs_A l 59 (ve_HI vs_A l 59 vs_M) vs_M) "OrderbenchModel" prog_10_method_64_code 7 (some .int) "houseOf" 70 (ve_pu (ve_push 71 (.int (2)))) := ve_pu_ok (ve_iconst_ok (n := 2) (v := 2) (by decide +kernel : decode prog_10_method_64_code 70 = .ok (.iconst (2), 1)) rfl)
set_option maxRecDepth 16384 in
theorem vi_97_71 (l : Launch) : ve_OK vs_A l 59 (ve_HI vs_A l 59 vs_M) (ve_CB vs_A l 59 (ve_HI vs_A l 59 vs_M) vs_M) "OrderbenchModel" prog_10_method_64_code 7 (some .int) "houseOf" 71 (ve_pu (ve_il 72 2)) := ve_pu_ok (ve_iload_n_ok (k := 2) (i := 2) (by decide +kernel : decode prog_10_method_64_code 71 = .ok (.iload_n 2, 1)) rfl)
set_option maxRecDepth 16384 in
theorem vi_97_72 (l : Launch) : ve_OK vs_A l 59 (ve_HI vs_A l 59 vs_M) (ve_CB vs_A l 59 (ve_HI vs_A l 59 vs_M) vs_M) "OrderbenchModel" prog_10_method_64_code 7 (some .int) "houseOf" 72 (ve_ast 73 51 .int) := ve_iast_ok (by decide +kernel : decode prog_10_method_64_code 72 = .ok (.iastore, 1)) vf_7
set_option maxRecDepth 16384 in
theorem vi_97_73 (l : Launch) : ve_OK vs_A l 59 (ve_HI vs_A l 59 vs_M) (ve_CB vs_A l 59 (ve_HI vs_A l 59 vs_M) vs_M) "OrderbenchModel" prog_10_method_64_code 7 (some .int) "houseOf" 73 (ve_pu (ve_dup 74)) := ve_pu_ok (ve_dup_ok (by decide +kernel : decode prog_10_method_64_code 73 = .ok (.dup, 1)))
set_option maxRecDepth 16384 in
theorem vi_97_74 (l : Launch) : ve_OK vs_A l 59 (ve_HI vs_A l 59 vs_M) (ve_CB vs_A l 59 (ve_HI vs_A l 59 vs_M) vs_M) "OrderbenchModel" prog_10_method_64_code 7 (some .int) "houseOf" 74 (ve_pu (ve_push 75 (.int (3)))) := ve_pu_ok (ve_iconst_ok (n := 3) (v := 3) (by decide +kernel : decode prog_10_method_64_code 74 = .ok (.iconst (3), 1)) rfl)
set_option maxRecDepth 16384 in
theorem vi_97_75 (l : Launch) : ve_OK vs_A l 59 (ve_HI vs_A l 59 vs_M) (ve_CB vs_A l 59 (ve_HI vs_A l 59 vs_M) vs_M) "OrderbenchModel" prog_10_method_64_code 7 (some .int) "houseOf" 75 (ve_pu (ve_al 76 0)) := ve_pu_ok (ve_aload_n_ok (k := 0) (i := 0) (by decide +kernel : decode prog_10_method_64_code 75 = .ok (.aload_n 0, 1)) rfl)
set_option maxRecDepth 16384 in
theorem vi_97_76 (l : Launch) : ve_OK vs_A l 59 (ve_HI vs_A l 59 vs_M) (ve_CB vs_A l 59 (ve_HI vs_A l 59 vs_M) vs_M) "OrderbenchModel" prog_10_method_64_code 7 (some .int) "houseOf" 76 (ve_gf 79 4) := ve_getf_ok (k := 4) (by decide +kernel : decode prog_10_method_64_code 76 = .ok (.getfield 53, 3)) vw_584 vf_260
set_option maxRecDepth 16384 in
theorem vi_97_79 (l : Launch) : ve_OK vs_A l 59 (ve_HI vs_A l 59 vs_M) (ve_CB vs_A l 59 (ve_HI vs_A l 59 vs_M) vs_M) "OrderbenchModel" prog_10_method_64_code 7 (some .int) "houseOf" 79 (ve_ast 80 51 .int) := ve_iast_ok (by decide +kernel : decode prog_10_method_64_code 79 = .ok (.iastore, 1)) vf_7
set_option maxRecDepth 16384 in
theorem vi_97_80 (l : Launch) : ve_OK vs_A l 59 (ve_HI vs_A l 59 vs_M) (ve_CB vs_A l 59 (ve_HI vs_A l 59 vs_M) vs_M) "OrderbenchModel" prog_10_method_64_code 7 (some .int) "houseOf" 80 (ve_pu (ve_dup 81)) := ve_pu_ok (ve_dup_ok (by decide +kernel : decode prog_10_method_64_code 80 = .ok (.dup, 1)))
set_option maxRecDepth 16384 in
theorem vi_97_81 (l : Launch) : ve_OK vs_A l 59 (ve_HI vs_A l 59 vs_M) (ve_CB vs_A l 59 (ve_HI vs_A l 59 vs_M) vs_M) "OrderbenchModel" prog_10_method_64_code 7 (some .int) "houseOf" 81 (ve_pu (ve_push 82 (.int (4)))) := ve_pu_ok (ve_iconst_ok (n := 4) (v := 4) (by decide +kernel : decode prog_10_method_64_code 81 = .ok (.iconst (4), 1)) rfl)
set_option maxRecDepth 16384 in
theorem vi_97_82 (l : Launch) : ve_OK vs_A l 59 (ve_HI vs_A l 59 vs_M) (ve_CB vs_A l 59 (ve_HI vs_A l 59 vs_M) vs_M) "OrderbenchModel" prog_10_method_64_code 7 (some .int) "houseOf" 82 (ve_pu (ve_al 83 0)) := ve_pu_ok (ve_aload_n_ok (k := 0) (i := 0) (by decide +kernel : decode prog_10_method_64_code 82 = .ok (.aload_n 0, 1)) rfl)
set_option maxRecDepth 16384 in
theorem vi_97_83 (l : Launch) : ve_OK vs_A l 59 (ve_HI vs_A l 59 vs_M) (ve_CB vs_A l 59 (ve_HI vs_A l 59 vs_M) vs_M) "OrderbenchModel" prog_10_method_64_code 7 (some .int) "houseOf" 83 (ve_gf 86 5) := ve_getf_ok (k := 5) (by decide +kernel : decode prog_10_method_64_code 83 = .ok (.getfield 225, 3)) vw_585 vf_261
set_option maxRecDepth 16384 in
theorem vi_97_86 (l : Launch) : ve_OK vs_A l 59 (ve_HI vs_A l 59 vs_M) (ve_CB vs_A l 59 (ve_HI vs_A l 59 vs_M) vs_M) "OrderbenchModel" prog_10_method_64_code 7 (some .int) "houseOf" 86 (ve_ast 87 51 .int) := ve_iast_ok (by decide +kernel : decode prog_10_method_64_code 86 = .ok (.iastore, 1)) vf_7
set_option maxRecDepth 16384 in
theorem vi_97_87 (l : Launch) : ve_OK vs_A l 59 (ve_HI vs_A l 59 vs_M) (ve_CB vs_A l 59 (ve_HI vs_A l 59 vs_M) vs_M) "OrderbenchModel" prog_10_method_64_code 7 (some .int) "houseOf" 87 (ve_pu (ve_dup 88)) := ve_pu_ok (ve_dup_ok (by decide +kernel : decode prog_10_method_64_code 87 = .ok (.dup, 1)))
set_option maxRecDepth 16384 in
theorem vi_97_88 (l : Launch) : ve_OK vs_A l 59 (ve_HI vs_A l 59 vs_M) (ve_CB vs_A l 59 (ve_HI vs_A l 59 vs_M) vs_M) "OrderbenchModel" prog_10_method_64_code 7 (some .int) "houseOf" 88 (ve_pu (ve_push 89 (.int (5)))) := ve_pu_ok (ve_iconst_ok (n := 5) (v := 5) (by decide +kernel : decode prog_10_method_64_code 88 = .ok (.iconst (5), 1)) rfl)
set_option maxRecDepth 16384 in
theorem vi_97_89 (l : Launch) : ve_OK vs_A l 59 (ve_HI vs_A l 59 vs_M) (ve_CB vs_A l 59 (ve_HI vs_A l 59 vs_M) vs_M) "OrderbenchModel" prog_10_method_64_code 7 (some .int) "houseOf" 89 (ve_pu (ve_al 90 0)) := ve_pu_ok (ve_aload_n_ok (k := 0) (i := 0) (by decide +kernel : decode prog_10_method_64_code 89 = .ok (.aload_n 0, 1)) rfl)
set_option maxRecDepth 16384 in
theorem vi_97_90 (l : Launch) : ve_OK vs_A l 59 (ve_HI vs_A l 59 vs_M) (ve_CB vs_A l 59 (ve_HI vs_A l 59 vs_M) vs_M) "OrderbenchModel" prog_10_method_64_code 7 (some .int) "houseOf" 90 (ve_pu (ve_push 91 (.int (0)))) := ve_pu_ok (ve_iconst_ok (n := 0) (v := 0) (by decide +kernel : decode prog_10_method_64_code 90 = .ok (.iconst (0), 1)) rfl)
set_option maxRecDepth 16384 in
theorem vi_97_91 (l : Launch) : ve_OK vs_A l 59 (ve_HI vs_A l 59 vs_M) (ve_CB vs_A l 59 (ve_HI vs_A l 59 vs_M) vs_M) "OrderbenchModel" prog_10_method_64_code 7 (some .int) "houseOf" 91 (ve_cw 59 2 94 [(6, 106)]) := ve_cw_ok rfl (List.forall_mem_cons.mpr ⟨ve_rowU (md := vs_M) (A0 := vs_A) (mi := 106) (na := 1) (k := 6) (C := "OrderbenchModel") (owner := "OrderbenchModel") (x := ⟨"OrderbenchModel", "nothingsOn", "(I)I"⟩) (by decide +kernel : decode prog_10_method_64_code 91 = .ok (.invokevirtual 120, 3)) (by decide) vw_588 vw_586 vw_8 vw_587 rfl vw_589 vw_590 vf_262 ⟨by decide, by decide⟩ vf_3 vf_131, List.forall_mem_nil _⟩)
set_option maxRecDepth 16384 in
theorem vi_97_94 (l : Launch) : ve_OK vs_A l 59 (ve_HI vs_A l 59 vs_M) (ve_CB vs_A l 59 (ve_HI vs_A l 59 vs_M) vs_M) "OrderbenchModel" prog_10_method_64_code 7 (some .int) "houseOf" 94 (ve_pu (ve_al 95 0)) := ve_pu_ok (ve_aload_n_ok (k := 0) (i := 0) (by decide +kernel : decode prog_10_method_64_code 94 = .ok (.aload_n 0, 1)) rfl)
set_option maxRecDepth 16384 in
theorem vi_97_95 (l : Launch) : ve_OK vs_A l 59 (ve_HI vs_A l 59 vs_M) (ve_CB vs_A l 59 (ve_HI vs_A l 59 vs_M) vs_M) "OrderbenchModel" prog_10_method_64_code 7 (some .int) "houseOf" 95 (ve_pu (ve_push 96 (.int (1)))) := ve_pu_ok (ve_iconst_ok (n := 1) (v := 1) (by decide +kernel : decode prog_10_method_64_code 95 = .ok (.iconst (1), 1)) rfl)
set_option maxRecDepth 16384 in
theorem vi_97_96 (l : Launch) : ve_OK vs_A l 59 (ve_HI vs_A l 59 vs_M) (ve_CB vs_A l 59 (ve_HI vs_A l 59 vs_M) vs_M) "OrderbenchModel" prog_10_method_64_code 7 (some .int) "houseOf" 96 (ve_cw 59 2 99 [(6, 106)]) := ve_cw_ok rfl (List.forall_mem_cons.mpr ⟨ve_rowU (md := vs_M) (A0 := vs_A) (mi := 106) (na := 1) (k := 6) (C := "OrderbenchModel") (owner := "OrderbenchModel") (x := ⟨"OrderbenchModel", "nothingsOn", "(I)I"⟩) (by decide +kernel : decode prog_10_method_64_code 96 = .ok (.invokevirtual 120, 3)) (by decide) vw_588 vw_586 vw_8 vw_587 rfl vw_589 vw_590 vf_262 ⟨by decide, by decide⟩ vf_3 vf_131, List.forall_mem_nil _⟩)
set_option maxRecDepth 16384 in
theorem vi_97_99 (l : Launch) : ve_OK vs_A l 59 (ve_HI vs_A l 59 vs_M) (ve_CB vs_A l 59 (ve_HI vs_A l 59 vs_M) vs_M) "OrderbenchModel" prog_10_method_64_code 7 (some .int) "houseOf" 99 (ve_pu (ve_iadd 100)) := ve_pu_ok (ve_iadd_ok (by decide +kernel : decode prog_10_method_64_code 99 = .ok (.iadd, 1)))
set_option maxRecDepth 16384 in
theorem vi_97_100 (l : Launch) : ve_OK vs_A l 59 (ve_HI vs_A l 59 vs_M) (ve_CB vs_A l 59 (ve_HI vs_A l 59 vs_M) vs_M) "OrderbenchModel" prog_10_method_64_code 7 (some .int) "houseOf" 100 (ve_ast 101 51 .int) := ve_iast_ok (by decide +kernel : decode prog_10_method_64_code 100 = .ok (.iastore, 1)) vf_7
set_option maxRecDepth 16384 in
theorem vi_97_101 (l : Launch) : ve_OK vs_A l 59 (ve_HI vs_A l 59 vs_M) (ve_CB vs_A l 59 (ve_HI vs_A l 59 vs_M) vs_M) "OrderbenchModel" prog_10_method_64_code 7 (some .int) "houseOf" 101 (ve_pu (ve_as 102 3 7)) := ve_pu_ok (ve_astore_n_ok (k := 3) (i := 3) (by decide +kernel : decode prog_10_method_64_code 101 = .ok (.astore_n 3, 1)) rfl)
set_option maxRecDepth 16384 in
theorem vi_97_102 (l : Launch) : ve_OK vs_A l 59 (ve_HI vs_A l 59 vs_M) (ve_CB vs_A l 59 (ve_HI vs_A l 59 vs_M) vs_M) "OrderbenchModel" prog_10_method_64_code 7 (some .int) "houseOf" 102 (ve_pu (ve_al 103 3)) := ve_pu_ok (ve_aload_n_ok (k := 3) (i := 3) (by decide +kernel : decode prog_10_method_64_code 102 = .ok (.aload_n 3, 1)) rfl)
set_option maxRecDepth 16384 in
theorem vi_97_103 (l : Launch) : ve_OK vs_A l 59 (ve_HI vs_A l 59 vs_M) (ve_CB vs_A l 59 (ve_HI vs_A l 59 vs_M) vs_M) "OrderbenchModel" prog_10_method_64_code 7 (some .int) "houseOf" 103 (ve_pu (ve_il 104 1)) := ve_pu_ok (ve_iload_n_ok (k := 1) (i := 1) (by decide +kernel : decode prog_10_method_64_code 103 = .ok (.iload_n 1, 1)) rfl)
set_option maxRecDepth 16384 in
theorem vi_97_104 (l : Launch) : ve_OK vs_A l 59 (ve_HI vs_A l 59 vs_M) (ve_CB vs_A l 59 (ve_HI vs_A l 59 vs_M) vs_M) "OrderbenchModel" prog_10_method_64_code 7 (some .int) "houseOf" 104 (ve_ald 105 51) := ve_iald_ok (by decide +kernel : decode prog_10_method_64_code 104 = .ok (.iaload, 1)) vf_7
set_option maxRecDepth 16384 in
theorem vi_97_105 (l : Launch) : ve_OK vs_A l 59 (ve_HI vs_A l 59 vs_M) (ve_CB vs_A l 59 (ve_HI vs_A l 59 vs_M) vs_M) "OrderbenchModel" prog_10_method_64_code 7 (some .int) "houseOf" 105 (ve_rt 1 .int) := ve_iret_ok (by decide +kernel : decode prog_10_method_64_code 105 = .ok (.ireturn, 1)) rfl
set_option maxRecDepth 16384 in
theorem vi_98_0 (l : Launch) : ve_OK vs_A l 59 (ve_HI vs_A l 59 vs_M) (ve_CB vs_A l 59 (ve_HI vs_A l 59 vs_M) vs_M) "OrderbenchModel$Shape" prog_11_method_4_code 1 (some .boolean) "isSafe" 0 (ve_pu (ve_al 1 0)) := ve_pu_ok (ve_aload_n_ok (k := 0) (i := 0) (by decide +kernel : decode prog_11_method_4_code 0 = .ok (.aload_n 0, 1)) rfl)
set_option maxRecDepth 16384 in
theorem vi_98_1 (l : Launch) : ve_OK vs_A l 59 (ve_HI vs_A l 59 vs_M) (ve_CB vs_A l 59 (ve_HI vs_A l 59 vs_M) vs_M) "OrderbenchModel$Shape" prog_11_method_4_code 1 (some .boolean) "isSafe" 1 (ve_cw 59 1 4 [(11, 99)]) := ve_cw_ok rfl (List.forall_mem_cons.mpr ⟨ve_rowU (md := vs_M) (A0 := vs_A) (mi := 99) (na := 0) (k := 11) (C := "OrderbenchModel$Shape") (owner := "OrderbenchModel$Shape") (x := ⟨"OrderbenchModel$Shape", "isEnds", "()Z"⟩) (by decide +kernel : decode prog_11_method_4_code 1 = .ok (.invokevirtual 47, 3)) (by decide) vw_593 vw_591 vw_110 vw_592 rfl vw_594 vw_595 vf_263 ⟨by decide, by decide⟩ vf_69 vf_146, List.forall_mem_nil _⟩)
set_option maxRecDepth 16384 in
theorem vi_98_4 (l : Launch) : ve_OK vs_A l 59 (ve_HI vs_A l 59 vs_M) (ve_CB vs_A l 59 (ve_HI vs_A l 59 vs_M) vs_M) "OrderbenchModel$Shape" prog_11_method_4_code 1 (some .boolean) "isSafe" 4 (ve_pu (ve_br1 (fun x => decide (¬ x = 0)) 41 7)) := ve_pu_ok (ve_if_ne_ok (by decide +kernel : decode prog_11_method_4_code 4 = .ok (.ifCond .ne (37), 3)) (by decide +kernel))
set_option maxRecDepth 16384 in
theorem vi_98_7 (l : Launch) : ve_OK vs_A l 59 (ve_HI vs_A l 59 vs_M) (ve_CB vs_A l 59 (ve_HI vs_A l 59 vs_M) vs_M) "OrderbenchModel$Shape" prog_11_method_4_code 1 (some .boolean) "isSafe" 7 (ve_pu (ve_al 8 0)) := ve_pu_ok (ve_aload_n_ok (k := 0) (i := 0) (by decide +kernel : decode prog_11_method_4_code 7 = .ok (.aload_n 0, 1)) rfl)
set_option maxRecDepth 16384 in
theorem vi_98_8 (l : Launch) : ve_OK vs_A l 59 (ve_HI vs_A l 59 vs_M) (ve_CB vs_A l 59 (ve_HI vs_A l 59 vs_M) vs_M) "OrderbenchModel$Shape" prog_11_method_4_code 1 (some .boolean) "isSafe" 8 (ve_gf 11 1) := ve_getf_ok (k := 1) (by decide +kernel : decode prog_11_method_4_code 8 = .ok (.getfield 13, 3)) vw_151 vf_134
set_option maxRecDepth 16384 in
theorem vi_98_11 (l : Launch) : ve_OK vs_A l 59 (ve_HI vs_A l 59 vs_M) (ve_CB vs_A l 59 (ve_HI vs_A l 59 vs_M) vs_M) "OrderbenchModel$Shape" prog_11_method_4_code 1 (some .boolean) "isSafe" 11 (ve_pu (ve_nn 14 45)) := ve_pu_ok (ve_ifnull_ok (by decide +kernel : decode prog_11_method_4_code 11 = .ok (.ifnull (34), 3)) (by decide +kernel))
set_option maxRecDepth 16384 in
theorem vi_98_14 (l : Launch) : ve_OK vs_A l 59 (ve_HI vs_A l 59 vs_M) (ve_CB vs_A l 59 (ve_HI vs_A l 59 vs_M) vs_M) "OrderbenchModel$Shape" prog_11_method_4_code 1 (some .boolean) "isSafe" 14 (ve_pu (ve_al 15 0)) := ve_pu_ok (ve_aload_n_ok (k := 0) (i := 0) (by decide +kernel : decode prog_11_method_4_code 14 = .ok (.aload_n 0, 1)) rfl)
set_option maxRecDepth 16384 in
theorem vi_98_15 (l : Launch) : ve_OK vs_A l 59 (ve_HI vs_A l 59 vs_M) (ve_CB vs_A l 59 (ve_HI vs_A l 59 vs_M) vs_M) "OrderbenchModel$Shape" prog_11_method_4_code 1 (some .boolean) "isSafe" 15 (ve_gf 18 1) := ve_getf_ok (k := 1) (by decide +kernel : decode prog_11_method_4_code 15 = .ok (.getfield 13, 3)) vw_151 vf_134
set_option maxRecDepth 16384 in
theorem vi_98_18 (l : Launch) : ve_OK vs_A l 59 (ve_HI vs_A l 59 vs_M) (ve_CB vs_A l 59 (ve_HI vs_A l 59 vs_M) vs_M) "OrderbenchModel$Shape" prog_11_method_4_code 1 (some .boolean) "isSafe" 18 (ve_cw 59 1 21 [(11, 98)]) := ve_cw_ok rfl (List.forall_mem_cons.mpr ⟨ve_rowU (md := vs_M) (A0 := vs_A) (mi := 98) (na := 0) (k := 11) (C := "OrderbenchModel$Shape") (owner := "OrderbenchModel$Shape") (x := ⟨"OrderbenchModel$Shape", "isSafe", "()Z"⟩) (by decide +kernel : decode prog_11_method_4_code 18 = .ok (.invokevirtual 51, 3)) (by decide) vw_596 vw_573 vw_110 vw_574 rfl vw_576 vw_577 vf_257 ⟨by decide, by decide⟩ vf_69 vf_146, List.forall_mem_nil _⟩)
set_option maxRecDepth 16384 in
theorem vi_98_21 (l : Launch) : ve_OK vs_A l 59 (ve_HI vs_A l 59 vs_M) (ve_CB vs_A l 59 (ve_HI vs_A l 59 vs_M) vs_M) "OrderbenchModel$Shape" prog_11_method_4_code 1 (some .boolean) "isSafe" 21 (ve_pu (ve_br1 (fun x => decide (x = 0)) 45 24)) := ve_pu_ok (ve_if_eq_ok (by decide +kernel : decode prog_11_method_4_code 21 = .ok (.ifCond .eq (24), 3)) (by decide +kernel))
set_option maxRecDepth 16384 in
theorem vi_98_45 (l : Launch) : ve_OK vs_A l 59 (ve_HI vs_A l 59 vs_M) (ve_CB vs_A l 59 (ve_HI vs_A l 59 vs_M) vs_M) "OrderbenchModel$Shape" prog_11_method_4_code 1 (some .boolean) "isSafe" 45 (ve_pu (ve_push 46 (.int (0)))) := ve_pu_ok (ve_iconst_ok (n := 0) (v := 0) (by decide +kernel : decode prog_11_method_4_code 45 = .ok (.iconst (0), 1)) rfl)
set_option maxRecDepth 16384 in
theorem vi_98_46 (l : Launch) : ve_OK vs_A l 59 (ve_HI vs_A l 59 vs_M) (ve_CB vs_A l 59 (ve_HI vs_A l 59 vs_M) vs_M) "OrderbenchModel$Shape" prog_11_method_4_code 1 (some .boolean) "isSafe" 46 (ve_rt 1 .boolean) := ve_iret_ok (by decide +kernel : decode prog_11_method_4_code 46 = .ok (.ireturn, 1)) rfl
set_option maxRecDepth 16384 in
theorem vi_99_0 (l : Launch) : ve_OK vs_A l 59 (ve_HI vs_A l 59 vs_M) (ve_CB vs_A l 59 (ve_HI vs_A l 59 vs_M) vs_M) "OrderbenchModel$Shape" prog_11_method_3_code 1 (some .boolean) "isEnds" 0 (ve_pu (ve_al 1 0)) := ve_pu_ok (ve_aload_n_ok (k := 0) (i := 0) (by decide +kernel : decode prog_11_method_3_code 0 = .ok (.aload_n 0, 1)) rfl)
set_option maxRecDepth 16384 in
theorem vi_99_1 (l : Launch) : ve_OK vs_A l 59 (ve_HI vs_A l 59 vs_M) (ve_CB vs_A l 59 (ve_HI vs_A l 59 vs_M) vs_M) "OrderbenchModel$Shape" prog_11_method_3_code 1 (some .boolean) "isEnds" 1 (ve_gf 4 0) := ve_getf_ok (k := 0) (by decide +kernel : decode prog_11_method_3_code 1 = .ok (.getfield 7, 3)) vw_150 vf_133
set_option maxRecDepth 16384 in
theorem vi_99_4 (l : Launch) : ve_OK vs_A l 59 (ve_HI vs_A l 59 vs_M) (ve_CB vs_A l 59 (ve_HI vs_A l 59 vs_M) vs_M) "OrderbenchModel$Shape" prog_11_method_3_code 1 (some .boolean) "isEnds" 4 (ve_pu (ve_push 6 (.int (91)))) := ve_pu_ok (ve_bipush_ok (n := 91) (v := 91) (by decide +kernel : decode prog_11_method_3_code 4 = .ok (.bipush (91), 2)) (by decide +kernel))
set_option maxRecDepth 16384 in
theorem vi_99_6 (l : Launch) : ve_OK vs_A l 59 (ve_HI vs_A l 59 vs_M) (ve_CB vs_A l 59 (ve_HI vs_A l 59 vs_M) vs_M) "OrderbenchModel$Shape" prog_11_method_3_code 1 (some .boolean) "isEnds" 6 (ve_pu (ve_br2 (fun x y => decide (x = y)) 18 9)) := ve_pu_ok (ve_icmp_eq_ok (by decide +kernel : decode prog_11_method_3_code 6 = .ok (.if_icmp .eq (12), 3)) (by decide +kernel))
set_option maxRecDepth 16384 in
theorem vi_99_9 (l : Launch) : ve_OK vs_A l 59 (ve_HI vs_A l 59 vs_M) (ve_CB vs_A l 59 (ve_HI vs_A l 59 vs_M) vs_M) "OrderbenchModel$Shape" prog_11_method_3_code 1 (some .boolean) "isEnds" 9 (ve_pu (ve_al 10 0)) := ve_pu_ok (ve_aload_n_ok (k := 0) (i := 0) (by decide +kernel : decode prog_11_method_3_code 9 = .ok (.aload_n 0, 1)) rfl)
set_option maxRecDepth 16384 in
theorem vi_99_10 (l : Launch) : ve_OK vs_A l 59 (ve_HI vs_A l 59 vs_M) (ve_CB vs_A l 59 (ve_HI vs_A l 59 vs_M) vs_M) "OrderbenchModel$Shape" prog_11_method_3_code 1 (some .boolean) "isEnds" 10 (ve_gf 13 0) := ve_getf_ok (k := 0) (by decide +kernel : decode prog_11_method_3_code 10 = .ok (.getfield 7, 3)) vw_150 vf_133
set_option maxRecDepth 16384 in
theorem vi_99_13 (l : Launch) : ve_OK vs_A l 59 (ve_HI vs_A l 59 vs_M) (ve_CB vs_A l 59 (ve_HI vs_A l 59 vs_M) vs_M) "OrderbenchModel$Shape" prog_11_method_3_code 1 (some .boolean) "isEnds" 13 (ve_pu (ve_push 15 (.int (93)))) := ve_pu_ok (ve_bipush_ok (n := 93) (v := 93) (by decide +kernel : decode prog_11_method_3_code 13 = .ok (.bipush (93), 2)) (by decide +kernel))
set_option maxRecDepth 16384 in
theorem vi_99_15 (l : Launch) : ve_OK vs_A l 59 (ve_HI vs_A l 59 vs_M) (ve_CB vs_A l 59 (ve_HI vs_A l 59 vs_M) vs_M) "OrderbenchModel$Shape" prog_11_method_3_code 1 (some .boolean) "isEnds" 15 (ve_pu (ve_br2 (fun x y => decide (¬ x = y)) 22 18)) := ve_pu_ok (ve_icmp_ne_ok (by decide +kernel : decode prog_11_method_3_code 15 = .ok (.if_icmp .ne (7), 3)) (by decide +kernel))
set_option maxRecDepth 16384 in
theorem vi_99_22 (l : Launch) : ve_OK vs_A l 59 (ve_HI vs_A l 59 vs_M) (ve_CB vs_A l 59 (ve_HI vs_A l 59 vs_M) vs_M) "OrderbenchModel$Shape" prog_11_method_3_code 1 (some .boolean) "isEnds" 22 (ve_pu (ve_push 23 (.int (0)))) := ve_pu_ok (ve_iconst_ok (n := 0) (v := 0) (by decide +kernel : decode prog_11_method_3_code 22 = .ok (.iconst (0), 1)) rfl)
set_option maxRecDepth 16384 in
theorem vi_99_23 (l : Launch) : ve_OK vs_A l 59 (ve_HI vs_A l 59 vs_M) (ve_CB vs_A l 59 (ve_HI vs_A l 59 vs_M) vs_M) "OrderbenchModel$Shape" prog_11_method_3_code 1 (some .boolean) "isEnds" 23 (ve_rt 1 .boolean) := ve_iret_ok (by decide +kernel : decode prog_11_method_3_code 23 = .ok (.ireturn, 1)) rfl
set_option maxRecDepth 16384 in
theorem vi_100_0 (l : Launch) : ve_OK vs_A l 59 (ve_HI vs_A l 59 vs_M) (ve_CB vs_A l 59 (ve_HI vs_A l 59 vs_M) vs_M) "OrderbenchModel" prog_10_method_6_code 1 (some .int) "bit" 0 (ve_pu (ve_il 1 0)) := ve_pu_ok (ve_iload_n_ok (k := 0) (i := 0) (by decide +kernel : decode prog_10_method_6_code 0 = .ok (.iload_n 0, 1)) rfl)
set_option maxRecDepth 16384 in
theorem vi_100_1 (l : Launch) : ve_OK vs_A l 59 (ve_HI vs_A l 59 vs_M) (ve_CB vs_A l 59 (ve_HI vs_A l 59 vs_M) vs_M) "OrderbenchModel" prog_10_method_6_code 1 (some .int) "bit" 1 (ve_pu (ve_br1 (fun x => decide (x = 0)) 8 4)) := ve_pu_ok (ve_if_eq_ok (by decide +kernel : decode prog_10_method_6_code 1 = .ok (.ifCond .eq (7), 3)) (by decide +kernel))
set_option maxRecDepth 16384 in
theorem vi_100_4 (l : Launch) : ve_OK vs_A l 59 (ve_HI vs_A l 59 vs_M) (ve_CB vs_A l 59 (ve_HI vs_A l 59 vs_M) vs_M) "OrderbenchModel" prog_10_method_6_code 1 (some .int) "bit" 4 (ve_pu (ve_push 5 (.int (1)))) := ve_pu_ok (ve_iconst_ok (n := 1) (v := 1) (by decide +kernel : decode prog_10_method_6_code 4 = .ok (.iconst (1), 1)) rfl)
set_option maxRecDepth 16384 in
theorem vi_100_5 (l : Launch) : ve_OK vs_A l 59 (ve_HI vs_A l 59 vs_M) (ve_CB vs_A l 59 (ve_HI vs_A l 59 vs_M) vs_M) "OrderbenchModel" prog_10_method_6_code 1 (some .int) "bit" 5 (ve_pu (ve_jmp 9)) := ve_pu_ok (ve_goto_ok (by decide +kernel : decode prog_10_method_6_code 5 = .ok (.goto (4), 3)) (by decide +kernel))
set_option maxRecDepth 16384 in
theorem vi_100_8 (l : Launch) : ve_OK vs_A l 59 (ve_HI vs_A l 59 vs_M) (ve_CB vs_A l 59 (ve_HI vs_A l 59 vs_M) vs_M) "OrderbenchModel" prog_10_method_6_code 1 (some .int) "bit" 8 (ve_pu (ve_push 9 (.int (0)))) := ve_pu_ok (ve_iconst_ok (n := 0) (v := 0) (by decide +kernel : decode prog_10_method_6_code 8 = .ok (.iconst (0), 1)) rfl)
set_option maxRecDepth 16384 in
theorem vi_100_9 (l : Launch) : ve_OK vs_A l 59 (ve_HI vs_A l 59 vs_M) (ve_CB vs_A l 59 (ve_HI vs_A l 59 vs_M) vs_M) "OrderbenchModel" prog_10_method_6_code 1 (some .int) "bit" 9 (ve_rt 1 .int) := ve_iret_ok (by decide +kernel : decode prog_10_method_6_code 9 = .ok (.ireturn, 1)) rfl
set_option maxRecDepth 16384 in
theorem vi_101_0 (l : Launch) : ve_OK vs_A l 59 (ve_HI vs_A l 59 vs_M) (ve_CB vs_A l 59 (ve_HI vs_A l 59 vs_M) vs_M) "OrderbenchModel" prog_10_method_12_code 2 (some .int) "many" 0 (ve_pu (ve_al 1 0)) := ve_pu_ok (ve_aload_n_ok (k := 0) (i := 0) (by decide +kernel : decode prog_10_method_12_code 0 = .ok (.aload_n 0, 1)) rfl)
set_option maxRecDepth 16384 in
theorem vi_101_1 (l : Launch) : ve_OK vs_A l 59 (ve_HI vs_A l 59 vs_M) (ve_CB vs_A l 59 (ve_HI vs_A l 59 vs_M) vs_M) "OrderbenchModel" prog_10_method_12_code 2 (some .int) "many" 1 (ve_gf 4 1) := ve_getf_ok (k := 1) (by decide +kernel : decode prog_10_method_12_code 1 = .ok (.getfield 10, 3)) vw_100 vf_65
set_option maxRecDepth 16384 in
theorem vi_101_4 (l : Launch) : ve_OK vs_A l 59 (ve_HI vs_A l 59 vs_M) (ve_CB vs_A l 59 (ve_HI vs_A l 59 vs_M) vs_M) "OrderbenchModel" prog_10_method_12_code 2 (some .int) "many" 4 (ve_pu (ve_il 5 1)) := ve_pu_ok (ve_iload_n_ok (k := 1) (i := 1) (by decide +kernel : decode prog_10_method_12_code 4 = .ok (.iload_n 1, 1)) rfl)
set_option maxRecDepth 16384 in
theorem vi_101_5 (l : Launch) : ve_OK vs_A l 59 (ve_HI vs_A l 59 vs_M) (ve_CB vs_A l 59 (ve_HI vs_A l 59 vs_M) vs_M) "OrderbenchModel" prog_10_method_12_code 2 (some .int) "many" 5 (ve_cw 59 2 8 [(47, 102)]) := ve_cw_ok rfl (List.forall_mem_cons.mpr ⟨ve_rowU (md := vs_M) (A0 := vs_A) (mi := 102) (na := 1) (k := 47) (C := "java/util/ArrayList") (owner := "java/util/ArrayList") (x := ⟨"java/util/ArrayList", "get", "(I)Ljava/lang/Object;"⟩) (by decide +kernel : decode prog_10_method_12_code 5 = .ok (.invokevirtual 45, 3)) (by decide) vw_599 vw_597 vw_96 vw_598 rfl vw_600 vw_601 vf_265 ⟨by decide, by decide⟩ vf_58 vf_264, List.forall_mem_nil _⟩)
set_option maxRecDepth 16384 in
theorem vi_101_8 (l : Launch) : ve_OK vs_A l 59 (ve_HI vs_A l 59 vs_M) (ve_CB vs_A l 59 (ve_HI vs_A l 59 vs_M) vs_M) "OrderbenchModel" prog_10_method_12_code 2 (some .int) "many" 8 (ve_cc 11 [47]) := ve_cast_ok (by decide +kernel : decode prog_10_method_12_code 8 = .ok (.checkcast 7, 3)) vw_94 vf_58 vf_266
set_option maxRecDepth 16384 in
theorem vi_101_11 (l : Launch) : ve_OK vs_A l 59 (ve_HI vs_A l 59 vs_M) (ve_CB vs_A l 59 (ve_HI vs_A l 59 vs_M) vs_M) "OrderbenchModel" prog_10_method_12_code 2 (some .int) "many" 11 (ve_cw 59 1 14 [(47, 105)]) := ve_cw_ok rfl (List.forall_mem_cons.mpr ⟨ve_rowU (md := vs_M) (A0 := vs_A) (mi := 105) (na := 0) (k := 47) (C := "java/util/ArrayList") (owner := "java/util/ArrayList") (x := ⟨"java/util/ArrayList", "size", "()I"⟩) (by decide +kernel : decode prog_10_method_12_code 11 = .ok (.invokevirtual 49, 3)) (by decide) vw_604 vw_602 vw_96 vw_603 rfl vw_605 vw_606 vf_267 ⟨by decide, by decide⟩ vf_58 vf_11, List.forall_mem_nil _⟩)
set_option maxRecDepth 16384 in
theorem vi_101_14 (l : Launch) : ve_OK vs_A l 59 (ve_HI vs_A l 59 vs_M) (ve_CB vs_A l 59 (ve_HI vs_A l 59 vs_M) vs_M) "OrderbenchModel" prog_10_method_12_code 2 (some .int) "many" 14 (ve_rt 1 .int) := ve_iret_ok (by decide +kernel : decode prog_10_method_12_code 14 = .ok (.ireturn, 1)) rfl
set_option maxRecDepth 16384 in
theorem vi_102_0 (l : Launch) : ve_OK vs_A l 59 (ve_HI vs_A l 59 vs_M) (ve_CB vs_A l 59 (ve_HI vs_A l 59 vs_M) vs_M) "java/util/ArrayList" prog_39_method_20_code 2 (some (.object "java/lang/Object")) "get" 0 (ve_pu (ve_il 1 1)) := ve_pu_ok (ve_iload_n_ok (k := 1) (i := 1) (by decide +kernel : decode prog_39_method_20_code 0 = .ok (.iload_n 1, 1)) rfl)
set_option maxRecDepth 16384 in
theorem vi_102_1 (l : Launch) : ve_OK vs_A l 59 (ve_HI vs_A l 59 vs_M) (ve_CB vs_A l 59 (ve_HI vs_A l 59 vs_M) vs_M) "java/util/ArrayList" prog_39_method_20_code 2 (some (.object "java/lang/Object")) "get" 1 (ve_pu (ve_al 2 0)) := ve_pu_ok (ve_aload_n_ok (k := 0) (i := 0) (by decide +kernel : decode prog_39_method_20_code 1 = .ok (.aload_n 0, 1)) rfl)
set_option maxRecDepth 16384 in
theorem vi_102_2 (l : Launch) : ve_OK vs_A l 59 (ve_HI vs_A l 59 vs_M) (ve_CB vs_A l 59 (ve_HI vs_A l 59 vs_M) vs_M) "java/util/ArrayList" prog_39_method_20_code 2 (some (.object "java/lang/Object")) "get" 2 (ve_gf 5 2) := ve_getf_ok (k := 2) (by decide +kernel : decode prog_39_method_20_code 2 = .ok (.getfield 48, 3)) vw_127 vf_81
set_option maxRecDepth 16384 in
theorem vi_102_5 (l : Launch) : ve_OK vs_A l 59 (ve_HI vs_A l 59 vs_M) (ve_CB vs_A l 59 (ve_HI vs_A l 59 vs_M) vs_M) "java/util/ArrayList" prog_39_method_20_code 2 (some (.object "java/lang/Object")) "get" 5 (ve_cl 59 103 2 8) := ve_cl_ok (ve_rowS (md := vs_M) (A0 := vs_A) (mi := 103) (by decide +kernel : decode prog_39_method_20_code 5 = .ok (.invokestatic 118, 3)) (by decide) vw_607 vw_608 vw_609 vw_610 rfl ⟨by decide, by decide⟩ vf_9)
set_option maxRecDepth 16384 in
theorem vi_102_8 (l : Launch) : ve_OK vs_A l 59 (ve_HI vs_A l 59 vs_M) (ve_CB vs_A l 59 (ve_HI vs_A l 59 vs_M) vs_M) "java/util/ArrayList" prog_39_method_20_code 2 (some (.object "java/lang/Object")) "get" 8 (ve_pu (ve_pop 9)) := ve_pu_ok (ve_pop_ok (by decide +kernel : decode prog_39_method_20_code 8 = .ok (.pop, 1)))
set_option maxRecDepth 16384 in
theorem vi_102_9 (l : Launch) : ve_OK vs_A l 59 (ve_HI vs_A l 59 vs_M) (ve_CB vs_A l 59 (ve_HI vs_A l 59 vs_M) vs_M) "java/util/ArrayList" prog_39_method_20_code 2 (some (.object "java/lang/Object")) "get" 9 (ve_pu (ve_al 10 0)) := ve_pu_ok (ve_aload_n_ok (k := 0) (i := 0) (by decide +kernel : decode prog_39_method_20_code 9 = .ok (.aload_n 0, 1)) rfl)
set_option maxRecDepth 16384 in
theorem vi_102_10 (l : Launch) : ve_OK vs_A l 59 (ve_HI vs_A l 59 vs_M) (ve_CB vs_A l 59 (ve_HI vs_A l 59 vs_M) vs_M) "java/util/ArrayList" prog_39_method_20_code 2 (some (.object "java/lang/Object")) "get" 10 (ve_pu (ve_il 11 1)) := ve_pu_ok (ve_iload_n_ok (k := 1) (i := 1) (by decide +kernel : decode prog_39_method_20_code 10 = .ok (.iload_n 1, 1)) rfl)
set_option maxRecDepth 16384 in
theorem vi_102_11 (l : Launch) : ve_OK vs_A l 59 (ve_HI vs_A l 59 vs_M) (ve_CB vs_A l 59 (ve_HI vs_A l 59 vs_M) vs_M) "java/util/ArrayList" prog_39_method_20_code 2 (some (.object "java/lang/Object")) "get" 11 (ve_cw 59 2 14 [(47, 104)]) := ve_cw_ok rfl (List.forall_mem_cons.mpr ⟨ve_rowU (md := vs_M) (A0 := vs_A) (mi := 104) (na := 1) (k := 47) (C := "java/util/ArrayList") (owner := "java/util/ArrayList") (x := ⟨"java/util/ArrayList", "elementData", "(I)Ljava/lang/Object;"⟩) (by decide +kernel : decode prog_39_method_20_code 11 = .ok (.invokevirtual 123, 3)) (by decide) vw_613 vw_611 vw_96 vw_612 rfl vw_614 vw_615 vf_268 ⟨by decide, by decide⟩ vf_58 vf_264, List.forall_mem_nil _⟩)
set_option maxRecDepth 16384 in
theorem vi_102_14 (l : Launch) : ve_OK vs_A l 59 (ve_HI vs_A l 59 vs_M) (ve_CB vs_A l 59 (ve_HI vs_A l 59 vs_M) vs_M) "java/util/ArrayList" prog_39_method_20_code 2 (some (.object "java/lang/Object")) "get" 14 (ve_rt 3 (.object "java/lang/Object")) := ve_aret_ok (rt := (.object "java/lang/Object")) (by decide +kernel : decode prog_39_method_20_code 14 = .ok (.areturn, 1)) rfl (Or.inl ⟨_, rfl⟩)
set_option maxRecDepth 16384 in
theorem vi_103_0 (l : Launch) : ve_OK vs_A l 59 (ve_HI vs_A l 59 vs_M) (ve_CB vs_A l 59 (ve_HI vs_A l 59 vs_M) vs_M) "java/util/Objects" prog_45_method_17_code 2 (some .int) "checkIndex" 0 (ve_pu (ve_il 1 0)) := ve_pu_ok (ve_iload_n_ok (k := 0) (i := 0) (by decide +kernel : decode prog_45_method_17_code 0 = .ok (.iload_n 0, 1)) rfl)
set_option maxRecDepth 16384 in
theorem vi_103_1 (l : Launch) : ve_OK vs_A l 59 (ve_HI vs_A l 59 vs_M) (ve_CB vs_A l 59 (ve_HI vs_A l 59 vs_M) vs_M) "java/util/Objects" prog_45_method_17_code 2 (some .int) "checkIndex" 1 (ve_pu (ve_il 2 1)) := ve_pu_ok (ve_iload_n_ok (k := 1) (i := 1) (by decide +kernel : decode prog_45_method_17_code 1 = .ok (.iload_n 1, 1)) rfl)
set_option maxRecDepth 16384 in
theorem vi_103_2 (l : Launch) : ve_OK vs_A l 59 (ve_HI vs_A l 59 vs_M) (ve_CB vs_A l 59 (ve_HI vs_A l 59 vs_M) vs_M) "java/util/Objects" prog_45_method_17_code 2 (some .int) "checkIndex" 2 (ve_pu (ve_push 3 .null)) := ve_pu_ok (ve_null_ok (by decide +kernel : decode prog_45_method_17_code 2 = .ok (.aconst_null, 1)))
set_option maxRecDepth 16384 in
theorem vi_103_3 (l : Launch) : ve_OK vs_A l 59 (ve_HI vs_A l 59 vs_M) (ve_CB vs_A l 59 (ve_HI vs_A l 59 vs_M) vs_M) "java/util/Objects" prog_45_method_17_code 2 (some .int) "checkIndex" 3 (ve_cl 59 81 3 6) := ve_cl_ok (ve_rowS (md := vs_M) (A0 := vs_A) (mi := 81) (by decide +kernel : decode prog_45_method_17_code 3 = .ok (.invokestatic 105, 3)) (by decide) vw_616 vw_469 vw_470 vw_471 rfl ⟨by decide, by decide⟩ vf_222)
set_option maxRecDepth 16384 in
theorem vi_103_6 (l : Launch) : ve_OK vs_A l 59 (ve_HI vs_A l 59 vs_M) (ve_CB vs_A l 59 (ve_HI vs_A l 59 vs_M) vs_M) "java/util/Objects" prog_45_method_17_code 2 (some .int) "checkIndex" 6 (ve_rt 1 .int) := ve_iret_ok (by decide +kernel : decode prog_45_method_17_code 6 = .ok (.ireturn, 1)) rfl
set_option maxRecDepth 16384 in
theorem vi_104_0 (l : Launch) : ve_OK vs_A l 59 (ve_HI vs_A l 59 vs_M) (ve_CB vs_A l 59 (ve_HI vs_A l 59 vs_M) vs_M) "java/util/ArrayList" prog_39_method_18_code 2 (some (.object "java/lang/Object")) "elementData" 0 (ve_pu (ve_al 1 0)) := ve_pu_ok (ve_aload_n_ok (k := 0) (i := 0) (by decide +kernel : decode prog_39_method_18_code 0 = .ok (.aload_n 0, 1)) rfl)
set_option maxRecDepth 16384 in
theorem vi_104_1 (l : Launch) : ve_OK vs_A l 59 (ve_HI vs_A l 59 vs_M) (ve_CB vs_A l 59 (ve_HI vs_A l 59 vs_M) vs_M) "java/util/ArrayList" prog_39_method_18_code 2 (some (.object "java/lang/Object")) "elementData" 1 (ve_gf 4 1) := ve_getf_ok (k := 1) (by decide +kernel : decode prog_39_method_18_code 1 = .ok (.getfield 9, 3)) vw_119 vf_80
set_option maxRecDepth 16384 in
theorem vi_104_4 (l : Launch) : ve_OK vs_A l 59 (ve_HI vs_A l 59 vs_M) (ve_CB vs_A l 59 (ve_HI vs_A l 59 vs_M) vs_M) "java/util/ArrayList" prog_39_method_18_code 2 (some (.object "java/lang/Object")) "elementData" 4 (ve_pu (ve_il 5 1)) := ve_pu_ok (ve_iload_n_ok (k := 1) (i := 1) (by decide +kernel : decode prog_39_method_18_code 4 = .ok (.iload_n 1, 1)) rfl)
set_option maxRecDepth 16384 in
theorem vi_104_5 (l : Launch) : ve_OK vs_A l 59 (ve_HI vs_A l 59 vs_M) (ve_CB vs_A l 59 (ve_HI vs_A l 59 vs_M) vs_M) "java/util/ArrayList" prog_39_method_18_code 2 (some (.object "java/lang/Object")) "elementData" 5 (ve_ald 6 57) := ve_aald_ok (by decide +kernel : decode prog_39_method_18_code 5 = .ok (.aaload, 1)) vf_84 rfl
set_option maxRecDepth 16384 in
theorem vi_104_6 (l : Launch) : ve_OK vs_A l 59 (ve_HI vs_A l 59 vs_M) (ve_CB vs_A l 59 (ve_HI vs_A l 59 vs_M) vs_M) "java/util/ArrayList" prog_39_method_18_code 2 (some (.object "java/lang/Object")) "elementData" 6 (ve_rt 3 (.object "java/lang/Object")) := ve_aret_ok (rt := (.object "java/lang/Object")) (by decide +kernel : decode prog_39_method_18_code 6 = .ok (.areturn, 1)) rfl (Or.inl ⟨_, rfl⟩)
set_option maxRecDepth 16384 in
theorem vi_105_0 (l : Launch) : ve_OK vs_A l 59 (ve_HI vs_A l 59 vs_M) (ve_CB vs_A l 59 (ve_HI vs_A l 59 vs_M) vs_M) "java/util/ArrayList" prog_39_method_8_code 1 (some .int) "size" 0 (ve_pu (ve_al 1 0)) := ve_pu_ok (ve_aload_n_ok (k := 0) (i := 0) (by decide +kernel : decode prog_39_method_8_code 0 = .ok (.aload_n 0, 1)) rfl)
set_option maxRecDepth 16384 in
theorem vi_105_1 (l : Launch) : ve_OK vs_A l 59 (ve_HI vs_A l 59 vs_M) (ve_CB vs_A l 59 (ve_HI vs_A l 59 vs_M) vs_M) "java/util/ArrayList" prog_39_method_8_code 1 (some .int) "size" 1 (ve_gf 4 2) := ve_getf_ok (k := 2) (by decide +kernel : decode prog_39_method_8_code 1 = .ok (.getfield 48, 3)) vw_127 vf_81
set_option maxRecDepth 16384 in
theorem vi_105_4 (l : Launch) : ve_OK vs_A l 59 (ve_HI vs_A l 59 vs_M) (ve_CB vs_A l 59 (ve_HI vs_A l 59 vs_M) vs_M) "java/util/ArrayList" prog_39_method_8_code 1 (some .int) "size" 4 (ve_rt 1 .int) := ve_iret_ok (by decide +kernel : decode prog_39_method_8_code 4 = .ok (.ireturn, 1)) rfl
set_option maxRecDepth 16384 in
theorem vi_106_0 (l : Launch) : ve_OK vs_A l 59 (ve_HI vs_A l 59 vs_M) (ve_CB vs_A l 59 (ve_HI vs_A l 59 vs_M) vs_M) "OrderbenchModel" prog_10_method_23_code 4 (some .int) "nothingsOn" 0 (ve_pu (ve_push 1 (.int (0)))) := ve_pu_ok (ve_iconst_ok (n := 0) (v := 0) (by decide +kernel : decode prog_10_method_23_code 0 = .ok (.iconst (0), 1)) rfl)
set_option maxRecDepth 16384 in
theorem vi_106_1 (l : Launch) : ve_OK vs_A l 59 (ve_HI vs_A l 59 vs_M) (ve_CB vs_A l 59 (ve_HI vs_A l 59 vs_M) vs_M) "OrderbenchModel" prog_10_method_23_code 4 (some .int) "nothingsOn" 1 (ve_pu (ve_is 2 2 4)) := ve_pu_ok (ve_istore_n_ok (k := 2) (i := 2) (by decide +kernel : decode prog_10_method_23_code 1 = .ok (.istore_n 2, 1)) rfl)
set_option maxRecDepth 16384 in
theorem vi_106_2 (l : Launch) : ve_OK vs_A l 59 (ve_HI vs_A l 59 vs_M) (ve_CB vs_A l 59 (ve_HI vs_A l 59 vs_M) vs_M) "OrderbenchModel" prog_10_method_23_code 4 (some .int) "nothingsOn" 2 (ve_pu (ve_push 3 (.int (0)))) := ve_pu_ok (ve_iconst_ok (n := 0) (v := 0) (by decide +kernel : decode prog_10_method_23_code 2 = .ok (.iconst (0), 1)) rfl)
set_option maxRecDepth 16384 in
theorem vi_106_3 (l : Launch) : ve_OK vs_A l 59 (ve_HI vs_A l 59 vs_M) (ve_CB vs_A l 59 (ve_HI vs_A l 59 vs_M) vs_M) "OrderbenchModel" prog_10_method_23_code 4 (some .int) "nothingsOn" 3 (ve_pu (ve_is 4 3 4)) := ve_pu_ok (ve_istore_n_ok (k := 3) (i := 3) (by decide +kernel : decode prog_10_method_23_code 3 = .ok (.istore_n 3, 1)) rfl)
set_option maxRecDepth 16384 in
theorem vi_106_4 (l : Launch) : ve_OK vs_A l 59 (ve_HI vs_A l 59 vs_M) (ve_CB vs_A l 59 (ve_HI vs_A l 59 vs_M) vs_M) "OrderbenchModel" prog_10_method_23_code 4 (some .int) "nothingsOn" 4 (ve_pu (ve_il 5 3)) := ve_pu_ok (ve_iload_n_ok (k := 3) (i := 3) (by decide +kernel : decode prog_10_method_23_code 4 = .ok (.iload_n 3, 1)) rfl)
set_option maxRecDepth 16384 in
theorem vi_106_5 (l : Launch) : ve_OK vs_A l 59 (ve_HI vs_A l 59 vs_M) (ve_CB vs_A l 59 (ve_HI vs_A l 59 vs_M) vs_M) "OrderbenchModel" prog_10_method_23_code 4 (some .int) "nothingsOn" 5 (ve_pu (ve_al 6 0)) := ve_pu_ok (ve_aload_n_ok (k := 0) (i := 0) (by decide +kernel : decode prog_10_method_23_code 5 = .ok (.aload_n 0, 1)) rfl)
set_option maxRecDepth 16384 in
theorem vi_106_6 (l : Launch) : ve_OK vs_A l 59 (ve_HI vs_A l 59 vs_M) (ve_CB vs_A l 59 (ve_HI vs_A l 59 vs_M) vs_M) "OrderbenchModel" prog_10_method_23_code 4 (some .int) "nothingsOn" 6 (ve_pu (ve_il 7 1)) := ve_pu_ok (ve_iload_n_ok (k := 1) (i := 1) (by decide +kernel : decode prog_10_method_23_code 6 = .ok (.iload_n 1, 1)) rfl)
set_option maxRecDepth 16384 in
theorem vi_106_7 (l : Launch) : ve_OK vs_A l 59 (ve_HI vs_A l 59 vs_M) (ve_CB vs_A l 59 (ve_HI vs_A l 59 vs_M) vs_M) "OrderbenchModel" prog_10_method_23_code 4 (some .int) "nothingsOn" 7 (ve_cw 59 2 10 [(6, 101)]) := ve_cw_ok rfl (List.forall_mem_cons.mpr ⟨ve_rowU (md := vs_M) (A0 := vs_A) (mi := 101) (na := 1) (k := 6) (C := "OrderbenchModel") (owner := "OrderbenchModel") (x := ⟨"OrderbenchModel", "many", "(I)I"⟩) (by decide +kernel : decode prog_10_method_23_code 7 = .ok (.invokevirtual 86, 3)) (by decide) vw_580 vw_578 vw_8 vw_579 rfl vw_581 vw_582 vf_258 ⟨by decide, by decide⟩ vf_3 vf_131, List.forall_mem_nil _⟩)
set_option maxRecDepth 16384 in
theorem vi_106_10 (l : Launch) : ve_OK vs_A l 59 (ve_HI vs_A l 59 vs_M) (ve_CB vs_A l 59 (ve_HI vs_A l 59 vs_M) vs_M) "OrderbenchModel" prog_10_method_23_code 4 (some .int) "nothingsOn" 10 (ve_pu (ve_br2 (fun x y => decide (¬ x < y)) 48 13)) := ve_pu_ok (ve_icmp_ge_ok (by decide +kernel : decode prog_10_method_23_code 10 = .ok (.if_icmp .ge (38), 3)) (by decide +kernel))
set_option maxRecDepth 16384 in
theorem vi_106_48 (l : Launch) : ve_OK vs_A l 59 (ve_HI vs_A l 59 vs_M) (ve_CB vs_A l 59 (ve_HI vs_A l 59 vs_M) vs_M) "OrderbenchModel" prog_10_method_23_code 4 (some .int) "nothingsOn" 48 (ve_pu (ve_il 49 2)) := ve_pu_ok (ve_iload_n_ok (k := 2) (i := 2) (by decide +kernel : decode prog_10_method_23_code 48 = .ok (.iload_n 2, 1)) rfl)
set_option maxRecDepth 16384 in
theorem vi_106_49 (l : Launch) : ve_OK vs_A l 59 (ve_HI vs_A l 59 vs_M) (ve_CB vs_A l 59 (ve_HI vs_A l 59 vs_M) vs_M) "OrderbenchModel" prog_10_method_23_code 4 (some .int) "nothingsOn" 49 (ve_rt 1 .int) := ve_iret_ok (by decide +kernel : decode prog_10_method_23_code 49 = .ok (.ireturn, 1)) rfl
set_option maxRecDepth 16384 in
theorem vi_107_0 (l : Launch) : ve_OK vs_A l 59 (ve_HI vs_A l 59 vs_M) (ve_CB vs_A l 59 (ve_HI vs_A l 59 vs_M) vs_M) "OrderbenchModel" prog_10_method_68_code 4 (some .long) "add" 0 (ve_pu (ve_ll 1 0)) := ve_pu_ok (ve_lload_n_ok (k := 0) (i := 0) (by decide +kernel : decode prog_10_method_68_code 0 = .ok (.lload_n 0, 1)) rfl)
set_option maxRecDepth 16384 in
theorem vi_107_1 (l : Launch) : ve_OK vs_A l 59 (ve_HI vs_A l 59 vs_M) (ve_CB vs_A l 59 (ve_HI vs_A l 59 vs_M) vs_M) "OrderbenchModel" prog_10_method_68_code 4 (some .long) "add" 1 (ve_pu (ve_push 4 (.long (31)))) := ve_cu_ok (ve_ldc2_ok (v := 31) (by decide +kernel : decode prog_10_method_68_code 1 = .ok (.ldc2_w 231, 3)) vw_617)
set_option maxRecDepth 16384 in
theorem vi_107_4 (l : Launch) : ve_OK vs_A l 59 (ve_HI vs_A l 59 vs_M) (ve_CB vs_A l 59 (ve_HI vs_A l 59 vs_M) vs_M) "OrderbenchModel" prog_10_method_68_code 4 (some .long) "add" 4 (ve_pu (ve_lmul 5)) := ve_pu_ok (ve_lmul_ok (by decide +kernel : decode prog_10_method_68_code 4 = .ok (.lmul, 1)))
set_option maxRecDepth 16384 in
theorem vi_107_5 (l : Launch) : ve_OK vs_A l 59 (ve_HI vs_A l 59 vs_M) (ve_CB vs_A l 59 (ve_HI vs_A l 59 vs_M) vs_M) "OrderbenchModel" prog_10_method_68_code 4 (some .long) "add" 5 (ve_pu (ve_ll 6 2)) := ve_pu_ok (ve_lload_n_ok (k := 2) (i := 2) (by decide +kernel : decode prog_10_method_68_code 5 = .ok (.lload_n 2, 1)) rfl)
set_option maxRecDepth 16384 in
theorem vi_107_6 (l : Launch) : ve_OK vs_A l 59 (ve_HI vs_A l 59 vs_M) (ve_CB vs_A l 59 (ve_HI vs_A l 59 vs_M) vs_M) "OrderbenchModel" prog_10_method_68_code 4 (some .long) "add" 6 (ve_pu (ve_ladd 7)) := ve_pu_ok (ve_ladd_ok (by decide +kernel : decode prog_10_method_68_code 6 = .ok (.ladd, 1)))
set_option maxRecDepth 16384 in
theorem vi_107_7 (l : Launch) : ve_OK vs_A l 59 (ve_HI vs_A l 59 vs_M) (ve_CB vs_A l 59 (ve_HI vs_A l 59 vs_M) vs_M) "OrderbenchModel" prog_10_method_68_code 4 (some .long) "add" 7 (ve_rt 2 .long) := ve_lret_ok (by decide +kernel : decode prog_10_method_68_code 7 = .ok (.lreturn, 1)) rfl
set_option maxRecDepth 16384 in
theorem vi_108_0 (l : Launch) : ve_OK vs_A l 59 (ve_HI vs_A l 59 vs_M) (ve_CB vs_A l 59 (ve_HI vs_A l 59 vs_M) vs_M) "OrderbenchModel" prog_10_method_44_code 4 (some (.object "java/lang/String")) "textOf" 0 (ve_pu (ve_push 2 (.ref 42))) := ve_cu_ok (ve_ldcS_ok (a := 42) (by decide +kernel : decode prog_10_method_44_code 0 = .ok (.ldc 61, 2)) vf_269 (by decide))
set_option maxRecDepth 16384 in
theorem vi_108_2 (l : Launch) : ve_OK vs_A l 59 (ve_HI vs_A l 59 vs_M) (ve_CB vs_A l 59 (ve_HI vs_A l 59 vs_M) vs_M) "OrderbenchModel" prog_10_method_44_code 4 (some (.object "java/lang/String")) "textOf" 2 (ve_pu (ve_as 3 2 4)) := ve_pu_ok (ve_astore_n_ok (k := 2) (i := 2) (by decide +kernel : decode prog_10_method_44_code 2 = .ok (.astore_n 2, 1)) rfl)
set_option maxRecDepth 16384 in
theorem vi_108_3 (l : Launch) : ve_OK vs_A l 59 (ve_HI vs_A l 59 vs_M) (ve_CB vs_A l 59 (ve_HI vs_A l 59 vs_M) vs_M) "OrderbenchModel" prog_10_method_44_code 4 (some (.object "java/lang/String")) "textOf" 3 (ve_pu (ve_push 4 (.int (0)))) := ve_pu_ok (ve_iconst_ok (n := 0) (v := 0) (by decide +kernel : decode prog_10_method_44_code 3 = .ok (.iconst (0), 1)) rfl)
set_option maxRecDepth 16384 in
theorem vi_108_4 (l : Launch) : ve_OK vs_A l 59 (ve_HI vs_A l 59 vs_M) (ve_CB vs_A l 59 (ve_HI vs_A l 59 vs_M) vs_M) "OrderbenchModel" prog_10_method_44_code 4 (some (.object "java/lang/String")) "textOf" 4 (ve_pu (ve_is 5 3 4)) := ve_pu_ok (ve_istore_n_ok (k := 3) (i := 3) (by decide +kernel : decode prog_10_method_44_code 4 = .ok (.istore_n 3, 1)) rfl)
set_option maxRecDepth 16384 in
theorem vi_108_5 (l : Launch) : ve_OK vs_A l 59 (ve_HI vs_A l 59 vs_M) (ve_CB vs_A l 59 (ve_HI vs_A l 59 vs_M) vs_M) "OrderbenchModel" prog_10_method_44_code 4 (some (.object "java/lang/String")) "textOf" 5 (ve_pu (ve_il 6 3)) := ve_pu_ok (ve_iload_n_ok (k := 3) (i := 3) (by decide +kernel : decode prog_10_method_44_code 5 = .ok (.iload_n 3, 1)) rfl)
set_option maxRecDepth 16384 in
theorem vi_108_6 (l : Launch) : ve_OK vs_A l 59 (ve_HI vs_A l 59 vs_M) (ve_CB vs_A l 59 (ve_HI vs_A l 59 vs_M) vs_M) "OrderbenchModel" prog_10_method_44_code 4 (some (.object "java/lang/String")) "textOf" 6 (ve_pu (ve_al 7 0)) := ve_pu_ok (ve_aload_n_ok (k := 0) (i := 0) (by decide +kernel : decode prog_10_method_44_code 6 = .ok (.aload_n 0, 1)) rfl)
set_option maxRecDepth 16384 in
theorem vi_108_7 (l : Launch) : ve_OK vs_A l 59 (ve_HI vs_A l 59 vs_M) (ve_CB vs_A l 59 (ve_HI vs_A l 59 vs_M) vs_M) "OrderbenchModel" prog_10_method_44_code 4 (some (.object "java/lang/String")) "textOf" 7 (ve_pu (ve_il 8 1)) := ve_pu_ok (ve_iload_n_ok (k := 1) (i := 1) (by decide +kernel : decode prog_10_method_44_code 7 = .ok (.iload_n 1, 1)) rfl)
set_option maxRecDepth 16384 in
theorem vi_108_8 (l : Launch) : ve_OK vs_A l 59 (ve_HI vs_A l 59 vs_M) (ve_CB vs_A l 59 (ve_HI vs_A l 59 vs_M) vs_M) "OrderbenchModel" prog_10_method_44_code 4 (some (.object "java/lang/String")) "textOf" 8 (ve_cw 59 2 11 [(6, 101)]) := ve_cw_ok rfl (List.forall_mem_cons.mpr ⟨ve_rowU (md := vs_M) (A0 := vs_A) (mi := 101) (na := 1) (k := 6) (C := "OrderbenchModel") (owner := "OrderbenchModel") (x := ⟨"OrderbenchModel", "many", "(I)I"⟩) (by decide +kernel : decode prog_10_method_44_code 8 = .ok (.invokevirtual 86, 3)) (by decide) vw_580 vw_578 vw_8 vw_579 rfl vw_581 vw_582 vf_258 ⟨by decide, by decide⟩ vf_3 vf_131, List.forall_mem_nil _⟩)
set_option maxRecDepth 16384 in
theorem vi_108_11 (l : Launch) : ve_OK vs_A l 59 (ve_HI vs_A l 59 vs_M) (ve_CB vs_A l 59 (ve_HI vs_A l 59 vs_M) vs_M) "OrderbenchModel" prog_10_method_44_code 4 (some (.object "java/lang/String")) "textOf" 11 (ve_pu (ve_br2 (fun x y => decide (¬ x < y)) 73 14)) := ve_pu_ok (ve_icmp_ge_ok (by decide +kernel : decode prog_10_method_44_code 11 = .ok (.if_icmp .ge (62), 3)) (by decide +kernel))
set_option maxRecDepth 16384 in
theorem vi_108_73 (l : Launch) : ve_OK vs_A l 59 (ve_HI vs_A l 59 vs_M) (ve_CB vs_A l 59 (ve_HI vs_A l 59 vs_M) vs_M) "OrderbenchModel" prog_10_method_44_code 4 (some (.object "java/lang/String")) "textOf" 73 (ve_pu (ve_al 74 2)) := ve_pu_ok (ve_aload_n_ok (k := 2) (i := 2) (by decide +kernel : decode prog_10_method_44_code 73 = .ok (.aload_n 2, 1)) rfl)
set_option maxRecDepth 16384 in
theorem vi_108_74 (l : Launch) : ve_OK vs_A l 59 (ve_HI vs_A l 59 vs_M) (ve_CB vs_A l 59 (ve_HI vs_A l 59 vs_M) vs_M) "OrderbenchModel" prog_10_method_44_code 4 (some (.object "java/lang/String")) "textOf" 74 (ve_rt 3 (.object "java/lang/String")) := ve_aret_ok (rt := (.object "java/lang/String")) (by decide +kernel : decode prog_10_method_44_code 74 = .ok (.areturn, 1)) rfl (Or.inl ⟨_, rfl⟩)
set_option maxRecDepth 16384 in
theorem vi_109_0 (l : Launch) : ve_OK vs_A l 59 (ve_HI vs_A l 59 vs_M) (ve_CB vs_A l 59 (ve_HI vs_A l 59 vs_M) vs_M) "OrderbenchModel" prog_10_method_69_code 6 (some .long) "add" 0 (ve_pu (ve_ll 1 0)) := ve_pu_ok (ve_lload_n_ok (k := 0) (i := 0) (by decide +kernel : decode prog_10_method_69_code 0 = .ok (.lload_n 0, 1)) rfl)
set_option maxRecDepth 16384 in
theorem vi_109_1 (l : Launch) : ve_OK vs_A l 59 (ve_HI vs_A l 59 vs_M) (ve_CB vs_A l 59 (ve_HI vs_A l 59 vs_M) vs_M) "OrderbenchModel" prog_10_method_69_code 6 (some .long) "add" 1 (ve_pu (ve_ls 2 3 6)) := ve_pu_ok (ve_lstore_n_ok (k := 3) (i := 3) (by decide +kernel : decode prog_10_method_69_code 1 = .ok (.lstore_n 3, 1)) rfl)
set_option maxRecDepth 16384 in
theorem vi_109_2 (l : Launch) : ve_OK vs_A l 59 (ve_HI vs_A l 59 vs_M) (ve_CB vs_A l 59 (ve_HI vs_A l 59 vs_M) vs_M) "OrderbenchModel" prog_10_method_69_code 6 (some .long) "add" 2 (ve_pu (ve_push 3 (.int (0)))) := ve_pu_ok (ve_iconst_ok (n := 0) (v := 0) (by decide +kernel : decode prog_10_method_69_code 2 = .ok (.iconst (0), 1)) rfl)
set_option maxRecDepth 16384 in
theorem vi_109_3 (l : Launch) : ve_OK vs_A l 59 (ve_HI vs_A l 59 vs_M) (ve_CB vs_A l 59 (ve_HI vs_A l 59 vs_M) vs_M) "OrderbenchModel" prog_10_method_69_code 6 (some .long) "add" 3 (ve_pu (ve_is 5 5 6)) := ve_pu_ok (ve_istore_ok (by decide +kernel : decode prog_10_method_69_code 3 = .ok (.istore 5, 2)))
set_option maxRecDepth 16384 in
theorem vi_109_5 (l : Launch) : ve_OK vs_A l 59 (ve_HI vs_A l 59 vs_M) (ve_CB vs_A l 59 (ve_HI vs_A l 59 vs_M) vs_M) "OrderbenchModel" prog_10_method_69_code 6 (some .long) "add" 5 (ve_pu (ve_il 7 5)) := ve_pu_ok (ve_iload_ok (by decide +kernel : decode prog_10_method_69_code 5 = .ok (.iload 5, 2)))
set_option maxRecDepth 16384 in
theorem vi_109_7 (l : Launch) : ve_OK vs_A l 59 (ve_HI vs_A l 59 vs_M) (ve_CB vs_A l 59 (ve_HI vs_A l 59 vs_M) vs_M) "OrderbenchModel" prog_10_method_69_code 6 (some .long) "add" 7 (ve_pu (ve_al 8 2)) := ve_pu_ok (ve_aload_n_ok (k := 2) (i := 2) (by decide +kernel : decode prog_10_method_69_code 7 = .ok (.aload_n 2, 1)) rfl)
set_option maxRecDepth 16384 in
theorem vi_109_8 (l : Launch) : ve_OK vs_A l 59 (ve_HI vs_A l 59 vs_M) (ve_CB vs_A l 59 (ve_HI vs_A l 59 vs_M) vs_M) "OrderbenchModel" prog_10_method_69_code 6 (some .long) "add" 8 (ve_cw 59 1 11 [(28, 38)]) := ve_cw_ok rfl (List.forall_mem_cons.mpr ⟨ve_rowU (md := vs_M) (A0 := vs_A) (mi := 38) (na := 0) (k := 28) (C := "java/lang/String") (owner := "java/lang/String") (x := ⟨"java/lang/String", "length", "()I"⟩) (by decide +kernel : decode prog_10_method_69_code 8 = .ok (.invokevirtual 149, 3)) (by decide) vw_213 vw_210 vw_211 vw_212 rfl vw_214 vw_215 vf_130 ⟨by decide, by decide⟩ vf_129 vf_11, List.forall_mem_nil _⟩)
set_option maxRecDepth 16384 in
theorem vi_109_11 (l : Launch) : ve_OK vs_A l 59 (ve_HI vs_A l 59 vs_M) (ve_CB vs_A l 59 (ve_HI vs_A l 59 vs_M) vs_M) "OrderbenchModel" prog_10_method_69_code 6 (some .long) "add" 11 (ve_pu (ve_br2 (fun x y => decide (¬ x < y)) 32 14)) := ve_pu_ok (ve_icmp_ge_ok (by decide +kernel : decode prog_10_method_69_code 11 = .ok (.if_icmp .ge (21), 3)) (by decide +kernel))
set_option maxRecDepth 16384 in
theorem vi_109_14 (l : Launch) : ve_OK vs_A l 59 (ve_HI vs_A l 59 vs_M) (ve_CB vs_A l 59 (ve_HI vs_A l 59 vs_M) vs_M) "OrderbenchModel" prog_10_method_69_code 6 (some .long) "add" 14 (ve_pu (ve_ll 15 3)) := ve_pu_ok (ve_lload_n_ok (k := 3) (i := 3) (by decide +kernel : decode prog_10_method_69_code 14 = .ok (.lload_n 3, 1)) rfl)
set_option maxRecDepth 16384 in
theorem vi_109_15 (l : Launch) : ve_OK vs_A l 59 (ve_HI vs_A l 59 vs_M) (ve_CB vs_A l 59 (ve_HI vs_A l 59 vs_M) vs_M) "OrderbenchModel" prog_10_method_69_code 6 (some .long) "add" 15 (ve_pu (ve_al 16 2)) := ve_pu_ok (ve_aload_n_ok (k := 2) (i := 2) (by decide +kernel : decode prog_10_method_69_code 15 = .ok (.aload_n 2, 1)) rfl)
set_option maxRecDepth 16384 in
theorem vi_109_16 (l : Launch) : ve_OK vs_A l 59 (ve_HI vs_A l 59 vs_M) (ve_CB vs_A l 59 (ve_HI vs_A l 59 vs_M) vs_M) "OrderbenchModel" prog_10_method_69_code 6 (some .long) "add" 16 (ve_pu (ve_il 18 5)) := ve_pu_ok (ve_iload_ok (by decide +kernel : decode prog_10_method_69_code 16 = .ok (.iload 5, 2)))
set_option maxRecDepth 16384 in
theorem vi_109_18 (l : Launch) : ve_OK vs_A l 59 (ve_HI vs_A l 59 vs_M) (ve_CB vs_A l 59 (ve_HI vs_A l 59 vs_M) vs_M) "OrderbenchModel" prog_10_method_69_code 6 (some .long) "add" 18 (ve_cw 59 2 21 [(28, 77)]) := ve_cw_ok rfl (List.forall_mem_cons.mpr ⟨ve_rowU (md := vs_M) (A0 := vs_A) (mi := 77) (na := 1) (k := 28) (C := "java/lang/String") (owner := "java/lang/String") (x := ⟨"java/lang/String", "charAt", "(I)C"⟩) (by decide +kernel : decode prog_10_method_69_code 18 = .ok (.invokevirtual 159, 3)) (by decide) vw_618 vw_450 vw_211 vw_451 rfl vw_453 vw_454 vf_218 ⟨by decide, by decide⟩ vf_129 vf_211, List.forall_mem_nil _⟩)
set_option maxRecDepth 16384 in
theorem vi_109_21 (l : Launch) : ve_OK vs_A l 59 (ve_HI vs_A l 59 vs_M) (ve_CB vs_A l 59 (ve_HI vs_A l 59 vs_M) vs_M) "OrderbenchModel" prog_10_method_69_code 6 (some .long) "add" 21 (ve_pu (ve_i2l 22)) := ve_pu_ok (ve_i2l_ok (by decide +kernel : decode prog_10_method_69_code 21 = .ok (.i2l, 1)))
set_option maxRecDepth 16384 in
theorem vi_109_22 (l : Launch) : ve_OK vs_A l 59 (ve_HI vs_A l 59 vs_M) (ve_CB vs_A l 59 (ve_HI vs_A l 59 vs_M) vs_M) "OrderbenchModel" prog_10_method_69_code 6 (some .long) "add" 22 (ve_cl 59 107 2 25) := ve_cl_ok (ve_rowS (md := vs_M) (A0 := vs_A) (mi := 107) (by decide +kernel : decode prog_10_method_69_code 22 = .ok (.invokestatic 233, 3)) (by decide) vw_544 vw_545 vw_8 vw_546 rfl ⟨by decide, by decide⟩ vf_248)
set_option maxRecDepth 16384 in
theorem vi_109_25 (l : Launch) : ve_OK vs_A l 59 (ve_HI vs_A l 59 vs_M) (ve_CB vs_A l 59 (ve_HI vs_A l 59 vs_M) vs_M) "OrderbenchModel" prog_10_method_69_code 6 (some .long) "add" 25 (ve_pu (ve_ls 26 3 6)) := ve_pu_ok (ve_lstore_n_ok (k := 3) (i := 3) (by decide +kernel : decode prog_10_method_69_code 25 = .ok (.lstore_n 3, 1)) rfl)
set_option maxRecDepth 16384 in
theorem vi_109_26 (l : Launch) : ve_OK vs_A l 59 (ve_HI vs_A l 59 vs_M) (ve_CB vs_A l 59 (ve_HI vs_A l 59 vs_M) vs_M) "OrderbenchModel" prog_10_method_69_code 6 (some .long) "add" 26 (ve_pu (ve_ii 29 5 6 (1))) := ve_pu_ok (ve_iinc_ok (by decide +kernel : decode prog_10_method_69_code 26 = .ok (.iinc 5 (1), 3)))
set_option maxRecDepth 16384 in
theorem vi_109_29 (l : Launch) : ve_OK vs_A l 59 (ve_HI vs_A l 59 vs_M) (ve_CB vs_A l 59 (ve_HI vs_A l 59 vs_M) vs_M) "OrderbenchModel" prog_10_method_69_code 6 (some .long) "add" 29 (ve_pu (ve_jmp 5)) := ve_pu_ok (ve_goto_ok (by decide +kernel : decode prog_10_method_69_code 29 = .ok (.goto (-24), 3)) (by decide +kernel))
set_option maxRecDepth 16384 in
theorem vi_109_32 (l : Launch) : ve_OK vs_A l 59 (ve_HI vs_A l 59 vs_M) (ve_CB vs_A l 59 (ve_HI vs_A l 59 vs_M) vs_M) "OrderbenchModel" prog_10_method_69_code 6 (some .long) "add" 32 (ve_pu (ve_ll 33 3)) := ve_pu_ok (ve_lload_n_ok (k := 3) (i := 3) (by decide +kernel : decode prog_10_method_69_code 32 = .ok (.lload_n 3, 1)) rfl)
set_option maxRecDepth 16384 in
theorem vi_109_33 (l : Launch) : ve_OK vs_A l 59 (ve_HI vs_A l 59 vs_M) (ve_CB vs_A l 59 (ve_HI vs_A l 59 vs_M) vs_M) "OrderbenchModel" prog_10_method_69_code 6 (some .long) "add" 33 (ve_rt 2 .long) := ve_lret_ok (by decide +kernel : decode prog_10_method_69_code 33 = .ok (.lreturn, 1)) rfl
set_option maxRecDepth 16384 in
theorem vi_110_0 (l : Launch) : ve_OK vs_A l 59 (ve_HI vs_A l 59 vs_M) (ve_CB vs_A l 59 (ve_HI vs_A l 59 vs_M) vs_M) "OrderbenchModel" prog_10_method_52_code 4 (some .boolean) "isSortedBy" 0 (ve_pu (ve_al 1 0)) := ve_pu_ok (ve_aload_n_ok (k := 0) (i := 0) (by decide +kernel : decode prog_10_method_52_code 0 = .ok (.aload_n 0, 1)) rfl)
set_option maxRecDepth 16384 in
theorem vi_110_1 (l : Launch) : ve_OK vs_A l 59 (ve_HI vs_A l 59 vs_M) (ve_CB vs_A l 59 (ve_HI vs_A l 59 vs_M) vs_M) "OrderbenchModel" prog_10_method_52_code 4 (some .boolean) "isSortedBy" 1 (ve_pu (ve_il 2 2)) := ve_pu_ok (ve_iload_n_ok (k := 2) (i := 2) (by decide +kernel : decode prog_10_method_52_code 1 = .ok (.iload_n 2, 1)) rfl)
set_option maxRecDepth 16384 in
theorem vi_110_2 (l : Launch) : ve_OK vs_A l 59 (ve_HI vs_A l 59 vs_M) (ve_CB vs_A l 59 (ve_HI vs_A l 59 vs_M) vs_M) "OrderbenchModel" prog_10_method_52_code 4 (some .boolean) "isSortedBy" 2 (ve_pu (ve_il 3 1)) := ve_pu_ok (ve_iload_n_ok (k := 1) (i := 1) (by decide +kernel : decode prog_10_method_52_code 2 = .ok (.iload_n 1, 1)) rfl)
set_option maxRecDepth 16384 in
theorem vi_110_3 (l : Launch) : ve_OK vs_A l 59 (ve_HI vs_A l 59 vs_M) (ve_CB vs_A l 59 (ve_HI vs_A l 59 vs_M) vs_M) "OrderbenchModel" prog_10_method_52_code 4 (some .boolean) "isSortedBy" 3 (ve_cw 59 3 6 [(6, 111)]) := ve_cw_ok rfl (List.forall_mem_cons.mpr ⟨ve_rowU (md := vs_M) (A0 := vs_A) (mi := 111) (na := 2) (k := 6) (C := "OrderbenchModel") (owner := "OrderbenchModel") (x := ⟨"OrderbenchModel", "takesBench", "(II)Z"⟩) (by decide +kernel : decode prog_10_method_52_code 3 = .ok (.invokevirtual 133, 3)) (by decide) vw_621 vw_619 vw_8 vw_620 rfl vw_622 vw_623 vf_270 ⟨by decide, by decide⟩ vf_3 vf_252, List.forall_mem_nil _⟩)
set_option maxRecDepth 16384 in
theorem vi_110_6 (l : Launch) : ve_OK vs_A l 59 (ve_HI vs_A l 59 vs_M) (ve_CB vs_A l 59 (ve_HI vs_A l 59 vs_M) vs_M) "OrderbenchModel" prog_10_method_52_code 4 (some .boolean) "isSortedBy" 6 (ve_pu (ve_br1 (fun x => decide (¬ x = 0)) 11 9)) := ve_pu_ok (ve_if_ne_ok (by decide +kernel : decode prog_10_method_52_code 6 = .ok (.ifCond .ne (5), 3)) (by decide +kernel))
set_option maxRecDepth 16384 in
theorem vi_110_11 (l : Launch) : ve_OK vs_A l 59 (ve_HI vs_A l 59 vs_M) (ve_CB vs_A l 59 (ve_HI vs_A l 59 vs_M) vs_M) "OrderbenchModel" prog_10_method_52_code 4 (some .boolean) "isSortedBy" 11 (ve_pu (ve_push 12 (.int (1)))) := ve_pu_ok (ve_iconst_ok (n := 1) (v := 1) (by decide +kernel : decode prog_10_method_52_code 11 = .ok (.iconst (1), 1)) rfl)
set_option maxRecDepth 16384 in
theorem vi_110_12 (l : Launch) : ve_OK vs_A l 59 (ve_HI vs_A l 59 vs_M) (ve_CB vs_A l 59 (ve_HI vs_A l 59 vs_M) vs_M) "OrderbenchModel" prog_10_method_52_code 4 (some .boolean) "isSortedBy" 12 (ve_pu (ve_is 13 3 4)) := ve_pu_ok (ve_istore_n_ok (k := 3) (i := 3) (by decide +kernel : decode prog_10_method_52_code 12 = .ok (.istore_n 3, 1)) rfl)
set_option maxRecDepth 16384 in
theorem vi_110_13 (l : Launch) : ve_OK vs_A l 59 (ve_HI vs_A l 59 vs_M) (ve_CB vs_A l 59 (ve_HI vs_A l 59 vs_M) vs_M) "OrderbenchModel" prog_10_method_52_code 4 (some .boolean) "isSortedBy" 13 (ve_pu (ve_il 14 3)) := ve_pu_ok (ve_iload_n_ok (k := 3) (i := 3) (by decide +kernel : decode prog_10_method_52_code 13 = .ok (.iload_n 3, 1)) rfl)
set_option maxRecDepth 16384 in
theorem vi_110_14 (l : Launch) : ve_OK vs_A l 59 (ve_HI vs_A l 59 vs_M) (ve_CB vs_A l 59 (ve_HI vs_A l 59 vs_M) vs_M) "OrderbenchModel" prog_10_method_52_code 4 (some .boolean) "isSortedBy" 14 (ve_pu (ve_al 15 0)) := ve_pu_ok (ve_aload_n_ok (k := 0) (i := 0) (by decide +kernel : decode prog_10_method_52_code 14 = .ok (.aload_n 0, 1)) rfl)
set_option maxRecDepth 16384 in
theorem vi_110_15 (l : Launch) : ve_OK vs_A l 59 (ve_HI vs_A l 59 vs_M) (ve_CB vs_A l 59 (ve_HI vs_A l 59 vs_M) vs_M) "OrderbenchModel" prog_10_method_52_code 4 (some .boolean) "isSortedBy" 15 (ve_pu (ve_il 16 1)) := ve_pu_ok (ve_iload_n_ok (k := 1) (i := 1) (by decide +kernel : decode prog_10_method_52_code 15 = .ok (.iload_n 1, 1)) rfl)
set_option maxRecDepth 16384 in
theorem vi_110_16 (l : Launch) : ve_OK vs_A l 59 (ve_HI vs_A l 59 vs_M) (ve_CB vs_A l 59 (ve_HI vs_A l 59 vs_M) vs_M) "OrderbenchModel" prog_10_method_52_code 4 (some .boolean) "isSortedBy" 16 (ve_cw 59 2 19 [(6, 101)]) := ve_cw_ok rfl (List.forall_mem_cons.mpr ⟨ve_rowU (md := vs_M) (A0 := vs_A) (mi := 101) (na := 1) (k := 6) (C := "OrderbenchModel") (owner := "OrderbenchModel") (x := ⟨"OrderbenchModel", "many", "(I)I"⟩) (by decide +kernel : decode prog_10_method_52_code 16 = .ok (.invokevirtual 86, 3)) (by decide) vw_580 vw_578 vw_8 vw_579 rfl vw_581 vw_582 vf_258 ⟨by decide, by decide⟩ vf_3 vf_131, List.forall_mem_nil _⟩)
set_option maxRecDepth 16384 in
theorem vi_110_19 (l : Launch) : ve_OK vs_A l 59 (ve_HI vs_A l 59 vs_M) (ve_CB vs_A l 59 (ve_HI vs_A l 59 vs_M) vs_M) "OrderbenchModel" prog_10_method_52_code 4 (some .boolean) "isSortedBy" 19 (ve_pu (ve_br2 (fun x y => decide (¬ x < y)) 80 22)) := ve_pu_ok (ve_icmp_ge_ok (by decide +kernel : decode prog_10_method_52_code 19 = .ok (.if_icmp .ge (61), 3)) (by decide +kernel))
set_option maxRecDepth 16384 in
theorem vi_110_80 (l : Launch) : ve_OK vs_A l 59 (ve_HI vs_A l 59 vs_M) (ve_CB vs_A l 59 (ve_HI vs_A l 59 vs_M) vs_M) "OrderbenchModel" prog_10_method_52_code 4 (some .boolean) "isSortedBy" 80 (ve_pu (ve_push 81 (.int (1)))) := ve_pu_ok (ve_iconst_ok (n := 1) (v := 1) (by decide +kernel : decode prog_10_method_52_code 80 = .ok (.iconst (1), 1)) rfl)
set_option maxRecDepth 16384 in
theorem vi_110_81 (l : Launch) : ve_OK vs_A l 59 (ve_HI vs_A l 59 vs_M) (ve_CB vs_A l 59 (ve_HI vs_A l 59 vs_M) vs_M) "OrderbenchModel" prog_10_method_52_code 4 (some .boolean) "isSortedBy" 81 (ve_rt 1 .boolean) := ve_iret_ok (by decide +kernel : decode prog_10_method_52_code 81 = .ok (.ireturn, 1)) rfl
set_option maxRecDepth 16384 in
theorem vi_111_0 (l : Launch) : ve_OK vs_A l 59 (ve_HI vs_A l 59 vs_M) (ve_CB vs_A l 59 (ve_HI vs_A l 59 vs_M) vs_M) "OrderbenchModel" prog_10_method_24_code 3 (some .boolean) "takesBench" 0 (ve_pu (ve_al 1 0)) := ve_pu_ok (ve_aload_n_ok (k := 0) (i := 0) (by decide +kernel : decode prog_10_method_24_code 0 = .ok (.aload_n 0, 1)) rfl)
set_option maxRecDepth 16384 in
theorem vi_111_1 (l : Launch) : ve_OK vs_A l 59 (ve_HI vs_A l 59 vs_M) (ve_CB vs_A l 59 (ve_HI vs_A l 59 vs_M) vs_M) "OrderbenchModel" prog_10_method_24_code 3 (some .boolean) "takesBench" 1 (ve_gf 4 2) := ve_getf_ok (k := 2) (by decide +kernel : decode prog_10_method_24_code 1 = .ok (.getfield 18, 3)) vw_103 vf_68
set_option maxRecDepth 16384 in
theorem vi_111_4 (l : Launch) : ve_OK vs_A l 59 (ve_HI vs_A l 59 vs_M) (ve_CB vs_A l 59 (ve_HI vs_A l 59 vs_M) vs_M) "OrderbenchModel" prog_10_method_24_code 3 (some .boolean) "takesBench" 4 (ve_pu (ve_il 5 1)) := ve_pu_ok (ve_iload_n_ok (k := 1) (i := 1) (by decide +kernel : decode prog_10_method_24_code 4 = .ok (.iload_n 1, 1)) rfl)
set_option maxRecDepth 16384 in
theorem vi_111_5 (l : Launch) : ve_OK vs_A l 59 (ve_HI vs_A l 59 vs_M) (ve_CB vs_A l 59 (ve_HI vs_A l 59 vs_M) vs_M) "OrderbenchModel" prog_10_method_24_code 3 (some .boolean) "takesBench" 5 (ve_ald 6 56) := ve_aald_ok (by decide +kernel : decode prog_10_method_24_code 5 = .ok (.aaload, 1)) vf_118 rfl
set_option maxRecDepth 16384 in
theorem vi_111_6 (l : Launch) : ve_OK vs_A l 59 (ve_HI vs_A l 59 vs_M) (ve_CB vs_A l 59 (ve_HI vs_A l 59 vs_M) vs_M) "OrderbenchModel" prog_10_method_24_code 3 (some .boolean) "takesBench" 6 (ve_cw 59 1 9 [(11, 98)]) := ve_cw_ok rfl (List.forall_mem_cons.mpr ⟨ve_rowU (md := vs_M) (A0 := vs_A) (mi := 98) (na := 0) (k := 11) (C := "OrderbenchModel$Shape") (owner := "OrderbenchModel$Shape") (x := ⟨"OrderbenchModel$Shape", "isSafe", "()Z"⟩) (by decide +kernel : decode prog_10_method_24_code 6 = .ok (.invokevirtual 123, 3)) (by decide) vw_575 vw_573 vw_110 vw_574 rfl vw_576 vw_577 vf_257 ⟨by decide, by decide⟩ vf_69 vf_146, List.forall_mem_nil _⟩)
set_option maxRecDepth 16384 in
theorem vi_111_9 (l : Launch) : ve_OK vs_A l 59 (ve_HI vs_A l 59 vs_M) (ve_CB vs_A l 59 (ve_HI vs_A l 59 vs_M) vs_M) "OrderbenchModel" prog_10_method_24_code 3 (some .boolean) "takesBench" 9 (ve_pu (ve_br1 (fun x => decide (¬ x = 0)) 29 12)) := ve_pu_ok (ve_if_ne_ok (by decide +kernel : decode prog_10_method_24_code 9 = .ok (.ifCond .ne (20), 3)) (by decide +kernel))
set_option maxRecDepth 16384 in
theorem vi_111_12 (l : Launch) : ve_OK vs_A l 59 (ve_HI vs_A l 59 vs_M) (ve_CB vs_A l 59 (ve_HI vs_A l 59 vs_M) vs_M) "OrderbenchModel" prog_10_method_24_code 3 (some .boolean) "takesBench" 12 (ve_pu (ve_al 13 0)) := ve_pu_ok (ve_aload_n_ok (k := 0) (i := 0) (by decide +kernel : decode prog_10_method_24_code 12 = .ok (.aload_n 0, 1)) rfl)
set_option maxRecDepth 16384 in
theorem vi_111_13 (l : Launch) : ve_OK vs_A l 59 (ve_HI vs_A l 59 vs_M) (ve_CB vs_A l 59 (ve_HI vs_A l 59 vs_M) vs_M) "OrderbenchModel" prog_10_method_24_code 3 (some .boolean) "takesBench" 13 (ve_pu (ve_il 14 2)) := ve_pu_ok (ve_iload_n_ok (k := 2) (i := 2) (by decide +kernel : decode prog_10_method_24_code 13 = .ok (.iload_n 2, 1)) rfl)
set_option maxRecDepth 16384 in
theorem vi_111_14 (l : Launch) : ve_OK vs_A l 59 (ve_HI vs_A l 59 vs_M) (ve_CB vs_A l 59 (ve_HI vs_A l 59 vs_M) vs_M) "OrderbenchModel" prog_10_method_24_code 3 (some .boolean) "takesBench" 14 (ve_cw 59 2 17 [(6, 112)]) := ve_cw_ok rfl (List.forall_mem_cons.mpr ⟨ve_rowU (md := vs_M) (A0 := vs_A) (mi := 112) (na := 1) (k := 6) (C := "OrderbenchModel") (owner := "OrderbenchModel") (x := ⟨"OrderbenchModel", "hasNothing", "(I)Z"⟩) (by decide +kernel : decode prog_10_method_24_code 14 = .ok (.invokevirtual 127, 3)) (by decide) vw_626 vw_624 vw_8 vw_625 rfl vw_627 vw_628 vf_271 ⟨by decide, by decide⟩ vf_3 vf_115, List.forall_mem_nil _⟩)
set_option maxRecDepth 16384 in
theorem vi_111_17 (l : Launch) : ve_OK vs_A l 59 (ve_HI vs_A l 59 vs_M) (ve_CB vs_A l 59 (ve_HI vs_A l 59 vs_M) vs_M) "OrderbenchModel" prog_10_method_24_code 3 (some .boolean) "takesBench" 17 (ve_pu (ve_br1 (fun x => decide (x = 0)) 29 20)) := ve_pu_ok (ve_if_eq_ok (by decide +kernel : decode prog_10_method_24_code 17 = .ok (.ifCond .eq (12), 3)) (by decide +kernel))
set_option maxRecDepth 16384 in
theorem vi_111_29 (l : Launch) : ve_OK vs_A l 59 (ve_HI vs_A l 59 vs_M) (ve_CB vs_A l 59 (ve_HI vs_A l 59 vs_M) vs_M) "OrderbenchModel" prog_10_method_24_code 3 (some .boolean) "takesBench" 29 (ve_pu (ve_push 30 (.int (1)))) := ve_pu_ok (ve_iconst_ok (n := 1) (v := 1) (by decide +kernel : decode prog_10_method_24_code 29 = .ok (.iconst (1), 1)) rfl)
set_option maxRecDepth 16384 in
theorem vi_111_30 (l : Launch) : ve_OK vs_A l 59 (ve_HI vs_A l 59 vs_M) (ve_CB vs_A l 59 (ve_HI vs_A l 59 vs_M) vs_M) "OrderbenchModel" prog_10_method_24_code 3 (some .boolean) "takesBench" 30 (ve_pu (ve_jmp 34)) := ve_pu_ok (ve_goto_ok (by decide +kernel : decode prog_10_method_24_code 30 = .ok (.goto (4), 3)) (by decide +kernel))
set_option maxRecDepth 16384 in
theorem vi_111_34 (l : Launch) : ve_OK vs_A l 59 (ve_HI vs_A l 59 vs_M) (ve_CB vs_A l 59 (ve_HI vs_A l 59 vs_M) vs_M) "OrderbenchModel" prog_10_method_24_code 3 (some .boolean) "takesBench" 34 (ve_rt 1 .boolean) := ve_iret_ok (by decide +kernel : decode prog_10_method_24_code 34 = .ok (.ireturn, 1)) rfl
set_option maxRecDepth 16384 in
theorem vi_112_0 (l : Launch) : ve_OK vs_A l 59 (ve_HI vs_A l 59 vs_M) (ve_CB vs_A l 59 (ve_HI vs_A l 59 vs_M) vs_M) "OrderbenchModel" prog_10_method_22_code 2 (some .boolean) "hasNothing" 0 (ve_pu (ve_al 1 0)) := ve_pu_ok (ve_aload_n_ok (k := 0) (i := 0) (by decide +kernel : decode prog_10_method_22_code 0 = .ok (.aload_n 0, 1)) rfl)
set_option maxRecDepth 16384 in
theorem vi_112_1 (l : Launch) : ve_OK vs_A l 59 (ve_HI vs_A l 59 vs_M) (ve_CB vs_A l 59 (ve_HI vs_A l 59 vs_M) vs_M) "OrderbenchModel" prog_10_method_22_code 2 (some .boolean) "hasNothing" 1 (ve_pu (ve_il 2 1)) := ve_pu_ok (ve_iload_n_ok (k := 1) (i := 1) (by decide +kernel : decode prog_10_method_22_code 1 = .ok (.iload_n 1, 1)) rfl)
set_option maxRecDepth 16384 in
theorem vi_112_2 (l : Launch) : ve_OK vs_A l 59 (ve_HI vs_A l 59 vs_M) (ve_CB vs_A l 59 (ve_HI vs_A l 59 vs_M) vs_M) "OrderbenchModel" prog_10_method_22_code 2 (some .boolean) "hasNothing" 2 (ve_cw 59 2 5 [(6, 106)]) := ve_cw_ok rfl (List.forall_mem_cons.mpr ⟨ve_rowU (md := vs_M) (A0 := vs_A) (mi := 106) (na := 1) (k := 6) (C := "OrderbenchModel") (owner := "OrderbenchModel") (x := ⟨"OrderbenchModel", "nothingsOn", "(I)I"⟩) (by decide +kernel : decode prog_10_method_22_code 2 = .ok (.invokevirtual 120, 3)) (by decide) vw_588 vw_586 vw_8 vw_587 rfl vw_589 vw_590 vf_262 ⟨by decide, by decide⟩ vf_3 vf_131, List.forall_mem_nil _⟩)
set_option maxRecDepth 16384 in
theorem vi_112_5 (l : Launch) : ve_OK vs_A l 59 (ve_HI vs_A l 59 vs_M) (ve_CB vs_A l 59 (ve_HI vs_A l 59 vs_M) vs_M) "OrderbenchModel" prog_10_method_22_code 2 (some .boolean) "hasNothing" 5 (ve_pu (ve_br1 (fun x => decide (¬ 0 < x)) 12 8)) := ve_pu_ok (ve_if_le_ok (by decide +kernel : decode prog_10_method_22_code 5 = .ok (.ifCond .le (7), 3)) (by decide +kernel))
set_option maxRecDepth 16384 in
theorem vi_112_12 (l : Launch) : ve_OK vs_A l 59 (ve_HI vs_A l 59 vs_M) (ve_CB vs_A l 59 (ve_HI vs_A l 59 vs_M) vs_M) "OrderbenchModel" prog_10_method_22_code 2 (some .boolean) "hasNothing" 12 (ve_pu (ve_push 13 (.int (0)))) := ve_pu_ok (ve_iconst_ok (n := 0) (v := 0) (by decide +kernel : decode prog_10_method_22_code 12 = .ok (.iconst (0), 1)) rfl)
set_option maxRecDepth 16384 in
theorem vi_112_13 (l : Launch) : ve_OK vs_A l 59 (ve_HI vs_A l 59 vs_M) (ve_CB vs_A l 59 (ve_HI vs_A l 59 vs_M) vs_M) "OrderbenchModel" prog_10_method_22_code 2 (some .boolean) "hasNothing" 13 (ve_rt 1 .boolean) := ve_iret_ok (by decide +kernel : decode prog_10_method_22_code 13 = .ok (.ireturn, 1)) rfl
set_option maxRecDepth 16384 in
theorem vi_113_0 (l : Launch) : ve_OK vs_A l 59 (ve_HI vs_A l 59 vs_M) (ve_CB vs_A l 59 (ve_HI vs_A l 59 vs_M) vs_M) "OrderbenchModel" prog_10_method_55_code 7 (some .int) "classesOf" 0 (ve_pu (ve_al 1 0)) := ve_pu_ok (ve_aload_n_ok (k := 0) (i := 0) (by decide +kernel : decode prog_10_method_55_code 0 = .ok (.aload_n 0, 1)) rfl)
set_option maxRecDepth 16384 in
theorem vi_113_1 (l : Launch) : ve_OK vs_A l 59 (ve_HI vs_A l 59 vs_M) (ve_CB vs_A l 59 (ve_HI vs_A l 59 vs_M) vs_M) "OrderbenchModel" prog_10_method_55_code 7 (some .int) "classesOf" 1 (ve_pu (ve_il 2 1)) := ve_pu_ok (ve_iload_n_ok (k := 1) (i := 1) (by decide +kernel : decode prog_10_method_55_code 1 = .ok (.iload_n 1, 1)) rfl)
set_option maxRecDepth 16384 in
theorem vi_113_2 (l : Launch) : ve_OK vs_A l 59 (ve_HI vs_A l 59 vs_M) (ve_CB vs_A l 59 (ve_HI vs_A l 59 vs_M) vs_M) "OrderbenchModel" prog_10_method_55_code 7 (some .int) "classesOf" 2 (ve_pu (ve_il 3 2)) := ve_pu_ok (ve_iload_n_ok (k := 2) (i := 2) (by decide +kernel : decode prog_10_method_55_code 2 = .ok (.iload_n 2, 1)) rfl)
set_option maxRecDepth 16384 in
theorem vi_113_3 (l : Launch) : ve_OK vs_A l 59 (ve_HI vs_A l 59 vs_M) (ve_CB vs_A l 59 (ve_HI vs_A l 59 vs_M) vs_M) "OrderbenchModel" prog_10_method_55_code 7 (some .int) "classesOf" 3 (ve_cw 59 3 6 [(6, 114)]) := ve_cw_ok rfl (List.forall_mem_cons.mpr ⟨ve_rowU (md := vs_M) (A0 := vs_A) (mi := 114) (na := 2) (k := 6) (C := "OrderbenchModel") (owner := "OrderbenchModel") (x := ⟨"OrderbenchModel", "takesEach", "(II)Z"⟩) (by decide +kernel : decode prog_10_method_55_code 3 = .ok (.invokevirtual 204, 3)) (by decide) vw_631 vw_629 vw_8 vw_630 rfl vw_632 vw_633 vf_272 ⟨by decide, by decide⟩ vf_3 vf_252, List.forall_mem_nil _⟩)
set_option maxRecDepth 16384 in
theorem vi_113_6 (l : Launch) : ve_OK vs_A l 59 (ve_HI vs_A l 59 vs_M) (ve_CB vs_A l 59 (ve_HI vs_A l 59 vs_M) vs_M) "OrderbenchModel" prog_10_method_55_code 7 (some .int) "classesOf" 6 (ve_pu (ve_br1 (fun x => decide (¬ x = 0)) 12 9)) := ve_pu_ok (ve_if_ne_ok (by decide +kernel : decode prog_10_method_55_code 6 = .ok (.ifCond .ne (6), 3)) (by decide +kernel))
set_option maxRecDepth 16384 in
theorem vi_113_12 (l : Launch) : ve_OK vs_A l 59 (ve_HI vs_A l 59 vs_M) (ve_CB vs_A l 59 (ve_HI vs_A l 59 vs_M) vs_M) "OrderbenchModel" prog_10_method_55_code 7 (some .int) "classesOf" 12 (ve_pu (ve_push 13 (.int (0)))) := ve_pu_ok (ve_iconst_ok (n := 0) (v := 0) (by decide +kernel : decode prog_10_method_55_code 12 = .ok (.iconst (0), 1)) rfl)
set_option maxRecDepth 16384 in
theorem vi_113_13 (l : Launch) : ve_OK vs_A l 59 (ve_HI vs_A l 59 vs_M) (ve_CB vs_A l 59 (ve_HI vs_A l 59 vs_M) vs_M) "OrderbenchModel" prog_10_method_55_code 7 (some .int) "classesOf" 13 (ve_pu (ve_is 14 3 7)) := ve_pu_ok (ve_istore_n_ok (k := 3) (i := 3) (by decide +kernel : decode prog_10_method_55_code 13 = .ok (.istore_n 3, 1)) rfl)
set_option maxRecDepth 16384 in
theorem vi_113_14 (l : Launch) : ve_OK vs_A l 59 (ve_HI vs_A l 59 vs_M) (ve_CB vs_A l 59 (ve_HI vs_A l 59 vs_M) vs_M) "OrderbenchModel" prog_10_method_55_code 7 (some .int) "classesOf" 14 (ve_pu (ve_push 15 (.int (0)))) := ve_pu_ok (ve_iconst_ok (n := 0) (v := 0) (by decide +kernel : decode prog_10_method_55_code 14 = .ok (.iconst (0), 1)) rfl)
set_option maxRecDepth 16384 in
theorem vi_113_15 (l : Launch) : ve_OK vs_A l 59 (ve_HI vs_A l 59 vs_M) (ve_CB vs_A l 59 (ve_HI vs_A l 59 vs_M) vs_M) "OrderbenchModel" prog_10_method_55_code 7 (some .int) "classesOf" 15 (ve_pu (ve_is 17 4 7)) := ve_pu_ok (ve_istore_ok (by decide +kernel : decode prog_10_method_55_code 15 = .ok (.istore 4, 2)))
set_option maxRecDepth 16384 in
theorem vi_113_17 (l : Launch) : ve_OK vs_A l 59 (ve_HI vs_A l 59 vs_M) (ve_CB vs_A l 59 (ve_HI vs_A l 59 vs_M) vs_M) "OrderbenchModel" prog_10_method_55_code 7 (some .int) "classesOf" 17 (ve_pu (ve_il 19 4)) := ve_pu_ok (ve_iload_ok (by decide +kernel : decode prog_10_method_55_code 17 = .ok (.iload 4, 2)))
set_option maxRecDepth 16384 in
theorem vi_113_19 (l : Launch) : ve_OK vs_A l 59 (ve_HI vs_A l 59 vs_M) (ve_CB vs_A l 59 (ve_HI vs_A l 59 vs_M) vs_M) "OrderbenchModel" prog_10_method_55_code 7 (some .int) "classesOf" 19 (ve_pu (ve_al 20 0)) := ve_pu_ok (ve_aload_n_ok (k := 0) (i := 0) (by decide +kernel : decode prog_10_method_55_code 19 = .ok (.aload_n 0, 1)) rfl)
set_option maxRecDepth 16384 in
theorem vi_113_20 (l : Launch) : ve_OK vs_A l 59 (ve_HI vs_A l 59 vs_M) (ve_CB vs_A l 59 (ve_HI vs_A l 59 vs_M) vs_M) "OrderbenchModel" prog_10_method_55_code 7 (some .int) "classesOf" 20 (ve_pu (ve_il 21 1)) := ve_pu_ok (ve_iload_n_ok (k := 1) (i := 1) (by decide +kernel : decode prog_10_method_55_code 20 = .ok (.iload_n 1, 1)) rfl)
set_option maxRecDepth 16384 in
theorem vi_113_21 (l : Launch) : ve_OK vs_A l 59 (ve_HI vs_A l 59 vs_M) (ve_CB vs_A l 59 (ve_HI vs_A l 59 vs_M) vs_M) "OrderbenchModel" prog_10_method_55_code 7 (some .int) "classesOf" 21 (ve_cw 59 2 24 [(6, 101)]) := ve_cw_ok rfl (List.forall_mem_cons.mpr ⟨ve_rowU (md := vs_M) (A0 := vs_A) (mi := 101) (na := 1) (k := 6) (C := "OrderbenchModel") (owner := "OrderbenchModel") (x := ⟨"OrderbenchModel", "many", "(I)I"⟩) (by decide +kernel : decode prog_10_method_55_code 21 = .ok (.invokevirtual 86, 3)) (by decide) vw_580 vw_578 vw_8 vw_579 rfl vw_581 vw_582 vf_258 ⟨by decide, by decide⟩ vf_3 vf_131, List.forall_mem_nil _⟩)
set_option maxRecDepth 16384 in
theorem vi_113_24 (l : Launch) : ve_OK vs_A l 59 (ve_HI vs_A l 59 vs_M) (ve_CB vs_A l 59 (ve_HI vs_A l 59 vs_M) vs_M) "OrderbenchModel" prog_10_method_55_code 7 (some .int) "classesOf" 24 (ve_pu (ve_br2 (fun x y => decide (¬ x < y)) 120 27)) := ve_pu_ok (ve_icmp_ge_ok (by decide +kernel : decode prog_10_method_55_code 24 = .ok (.if_icmp .ge (96), 3)) (by decide +kernel))
set_option maxRecDepth 16384 in
theorem vi_113_120 (l : Launch) : ve_OK vs_A l 59 (ve_HI vs_A l 59 vs_M) (ve_CB vs_A l 59 (ve_HI vs_A l 59 vs_M) vs_M) "OrderbenchModel" prog_10_method_55_code 7 (some .int) "classesOf" 120 (ve_pu (ve_il 121 3)) := ve_pu_ok (ve_iload_n_ok (k := 3) (i := 3) (by decide +kernel : decode prog_10_method_55_code 120 = .ok (.iload_n 3, 1)) rfl)
set_option maxRecDepth 16384 in
theorem vi_113_121 (l : Launch) : ve_OK vs_A l 59 (ve_HI vs_A l 59 vs_M) (ve_CB vs_A l 59 (ve_HI vs_A l 59 vs_M) vs_M) "OrderbenchModel" prog_10_method_55_code 7 (some .int) "classesOf" 121 (ve_rt 1 .int) := ve_iret_ok (by decide +kernel : decode prog_10_method_55_code 121 = .ok (.ireturn, 1)) rfl
set_option maxRecDepth 16384 in
theorem vi_114_0 (l : Launch) : ve_OK vs_A l 59 (ve_HI vs_A l 59 vs_M) (ve_CB vs_A l 59 (ve_HI vs_A l 59 vs_M) vs_M) "OrderbenchModel" prog_10_method_54_code 3 (some .boolean) "takesEach" 0 (ve_pu (ve_al 1 0)) := ve_pu_ok (ve_aload_n_ok (k := 0) (i := 0) (by decide +kernel : decode prog_10_method_54_code 0 = .ok (.aload_n 0, 1)) rfl)
set_option maxRecDepth 16384 in
theorem vi_114_1 (l : Launch) : ve_OK vs_A l 59 (ve_HI vs_A l 59 vs_M) (ve_CB vs_A l 59 (ve_HI vs_A l 59 vs_M) vs_M) "OrderbenchModel" prog_10_method_54_code 3 (some .boolean) "takesEach" 1 (ve_gf 4 2) := ve_getf_ok (k := 2) (by decide +kernel : decode prog_10_method_54_code 1 = .ok (.getfield 18, 3)) vw_103 vf_68
set_option maxRecDepth 16384 in
theorem vi_114_4 (l : Launch) : ve_OK vs_A l 59 (ve_HI vs_A l 59 vs_M) (ve_CB vs_A l 59 (ve_HI vs_A l 59 vs_M) vs_M) "OrderbenchModel" prog_10_method_54_code 3 (some .boolean) "takesEach" 4 (ve_pu (ve_il 5 2)) := ve_pu_ok (ve_iload_n_ok (k := 2) (i := 2) (by decide +kernel : decode prog_10_method_54_code 4 = .ok (.iload_n 2, 1)) rfl)
set_option maxRecDepth 16384 in
theorem vi_114_5 (l : Launch) : ve_OK vs_A l 59 (ve_HI vs_A l 59 vs_M) (ve_CB vs_A l 59 (ve_HI vs_A l 59 vs_M) vs_M) "OrderbenchModel" prog_10_method_54_code 3 (some .boolean) "takesEach" 5 (ve_ald 6 56) := ve_aald_ok (by decide +kernel : decode prog_10_method_54_code 5 = .ok (.aaload, 1)) vf_118 rfl
set_option maxRecDepth 16384 in
theorem vi_114_6 (l : Launch) : ve_OK vs_A l 59 (ve_HI vs_A l 59 vs_M) (ve_CB vs_A l 59 (ve_HI vs_A l 59 vs_M) vs_M) "OrderbenchModel" prog_10_method_54_code 3 (some .boolean) "takesEach" 6 (ve_cw 59 1 9 [(11, 98)]) := ve_cw_ok rfl (List.forall_mem_cons.mpr ⟨ve_rowU (md := vs_M) (A0 := vs_A) (mi := 98) (na := 0) (k := 11) (C := "OrderbenchModel$Shape") (owner := "OrderbenchModel$Shape") (x := ⟨"OrderbenchModel$Shape", "isSafe", "()Z"⟩) (by decide +kernel : decode prog_10_method_54_code 6 = .ok (.invokevirtual 123, 3)) (by decide) vw_575 vw_573 vw_110 vw_574 rfl vw_576 vw_577 vf_257 ⟨by decide, by decide⟩ vf_69 vf_146, List.forall_mem_nil _⟩)
set_option maxRecDepth 16384 in
theorem vi_114_9 (l : Launch) : ve_OK vs_A l 59 (ve_HI vs_A l 59 vs_M) (ve_CB vs_A l 59 (ve_HI vs_A l 59 vs_M) vs_M) "OrderbenchModel" prog_10_method_54_code 3 (some .boolean) "takesEach" 9 (ve_pu (ve_br1 (fun x => decide (¬ x = 0)) 20 12)) := ve_pu_ok (ve_if_ne_ok (by decide +kernel : decode prog_10_method_54_code 9 = .ok (.ifCond .ne (11), 3)) (by decide +kernel))
set_option maxRecDepth 16384 in
theorem vi_114_12 (l : Launch) : ve_OK vs_A l 59 (ve_HI vs_A l 59 vs_M) (ve_CB vs_A l 59 (ve_HI vs_A l 59 vs_M) vs_M) "OrderbenchModel" prog_10_method_54_code 3 (some .boolean) "takesEach" 12 (ve_pu (ve_al 13 0)) := ve_pu_ok (ve_aload_n_ok (k := 0) (i := 0) (by decide +kernel : decode prog_10_method_54_code 12 = .ok (.aload_n 0, 1)) rfl)
set_option maxRecDepth 16384 in
theorem vi_114_13 (l : Launch) : ve_OK vs_A l 59 (ve_HI vs_A l 59 vs_M) (ve_CB vs_A l 59 (ve_HI vs_A l 59 vs_M) vs_M) "OrderbenchModel" prog_10_method_54_code 3 (some .boolean) "takesEach" 13 (ve_pu (ve_il 14 1)) := ve_pu_ok (ve_iload_n_ok (k := 1) (i := 1) (by decide +kernel : decode prog_10_method_54_code 13 = .ok (.iload_n 1, 1)) rfl)
set_option maxRecDepth 16384 in
theorem vi_114_14 (l : Launch) : ve_OK vs_A l 59 (ve_HI vs_A l 59 vs_M) (ve_CB vs_A l 59 (ve_HI vs_A l 59 vs_M) vs_M) "OrderbenchModel" prog_10_method_54_code 3 (some .boolean) "takesEach" 14 (ve_cw 59 2 17 [(6, 112)]) := ve_cw_ok rfl (List.forall_mem_cons.mpr ⟨ve_rowU (md := vs_M) (A0 := vs_A) (mi := 112) (na := 1) (k := 6) (C := "OrderbenchModel") (owner := "OrderbenchModel") (x := ⟨"OrderbenchModel", "hasNothing", "(I)Z"⟩) (by decide +kernel : decode prog_10_method_54_code 14 = .ok (.invokevirtual 127, 3)) (by decide) vw_626 vw_624 vw_8 vw_625 rfl vw_627 vw_628 vf_271 ⟨by decide, by decide⟩ vf_3 vf_115, List.forall_mem_nil _⟩)
set_option maxRecDepth 16384 in
theorem vi_114_17 (l : Launch) : ve_OK vs_A l 59 (ve_HI vs_A l 59 vs_M) (ve_CB vs_A l 59 (ve_HI vs_A l 59 vs_M) vs_M) "OrderbenchModel" prog_10_method_54_code 3 (some .boolean) "takesEach" 17 (ve_pu (ve_br1 (fun x => decide (¬ x = 0)) 24 20)) := ve_pu_ok (ve_if_ne_ok (by decide +kernel : decode prog_10_method_54_code 17 = .ok (.ifCond .ne (7), 3)) (by decide +kernel))
set_option maxRecDepth 16384 in
theorem vi_114_20 (l : Launch) : ve_OK vs_A l 59 (ve_HI vs_A l 59 vs_M) (ve_CB vs_A l 59 (ve_HI vs_A l 59 vs_M) vs_M) "OrderbenchModel" prog_10_method_54_code 3 (some .boolean) "takesEach" 20 (ve_pu (ve_push 21 (.int (1)))) := ve_pu_ok (ve_iconst_ok (n := 1) (v := 1) (by decide +kernel : decode prog_10_method_54_code 20 = .ok (.iconst (1), 1)) rfl)
set_option maxRecDepth 16384 in
theorem vi_114_21 (l : Launch) : ve_OK vs_A l 59 (ve_HI vs_A l 59 vs_M) (ve_CB vs_A l 59 (ve_HI vs_A l 59 vs_M) vs_M) "OrderbenchModel" prog_10_method_54_code 3 (some .boolean) "takesEach" 21 (ve_pu (ve_jmp 25)) := ve_pu_ok (ve_goto_ok (by decide +kernel : decode prog_10_method_54_code 21 = .ok (.goto (4), 3)) (by decide +kernel))
set_option maxRecDepth 16384 in
theorem vi_114_25 (l : Launch) : ve_OK vs_A l 59 (ve_HI vs_A l 59 vs_M) (ve_CB vs_A l 59 (ve_HI vs_A l 59 vs_M) vs_M) "OrderbenchModel" prog_10_method_54_code 3 (some .boolean) "takesEach" 25 (ve_rt 1 .boolean) := ve_iret_ok (by decide +kernel : decode prog_10_method_54_code 25 = .ok (.ireturn, 1)) rfl
set_option maxRecDepth 16384 in
theorem vi_115_0 (l : Launch) : ve_OK vs_A l 59 (ve_HI vs_A l 59 vs_M) (ve_CB vs_A l 59 (ve_HI vs_A l 59 vs_M) vs_M) "OrderbenchModel" prog_10_method_57_code 10 (some .int) "endOf" 0 (ve_pu (ve_al 1 0)) := ve_pu_ok (ve_aload_n_ok (k := 0) (i := 0) (by decide +kernel : decode prog_10_method_57_code 0 = .ok (.aload_n 0, 1)) rfl)
set_option maxRecDepth 16384 in
theorem vi_115_1 (l : Launch) : ve_OK vs_A l 59 (ve_HI vs_A l 59 vs_M) (ve_CB vs_A l 59 (ve_HI vs_A l 59 vs_M) vs_M) "OrderbenchModel" prog_10_method_57_code 10 (some .int) "endOf" 1 (ve_pu (ve_il 2 1)) := ve_pu_ok (ve_iload_n_ok (k := 1) (i := 1) (by decide +kernel : decode prog_10_method_57_code 1 = .ok (.iload_n 1, 1)) rfl)
set_option maxRecDepth 16384 in
theorem vi_115_2 (l : Launch) : ve_OK vs_A l 59 (ve_HI vs_A l 59 vs_M) (ve_CB vs_A l 59 (ve_HI vs_A l 59 vs_M) vs_M) "OrderbenchModel" prog_10_method_57_code 10 (some .int) "endOf" 2 (ve_cw 59 2 5 [(6, 101)]) := ve_cw_ok rfl (List.forall_mem_cons.mpr ⟨ve_rowU (md := vs_M) (A0 := vs_A) (mi := 101) (na := 1) (k := 6) (C := "OrderbenchModel") (owner := "OrderbenchModel") (x := ⟨"OrderbenchModel", "many", "(I)I"⟩) (by decide +kernel : decode prog_10_method_57_code 2 = .ok (.invokevirtual 86, 3)) (by decide) vw_580 vw_578 vw_8 vw_579 rfl vw_581 vw_582 vf_258 ⟨by decide, by decide⟩ vf_3 vf_131, List.forall_mem_nil _⟩)
set_option maxRecDepth 16384 in
theorem vi_115_5 (l : Launch) : ve_OK vs_A l 59 (ve_HI vs_A l 59 vs_M) (ve_CB vs_A l 59 (ve_HI vs_A l 59 vs_M) vs_M) "OrderbenchModel" prog_10_method_57_code 10 (some .int) "endOf" 5 (ve_pu (ve_br1 (fun x => decide (x = 0)) 17 8)) := ve_pu_ok (ve_if_eq_ok (by decide +kernel : decode prog_10_method_57_code 5 = .ok (.ifCond .eq (12), 3)) (by decide +kernel))
set_option maxRecDepth 16384 in
theorem vi_115_17 (l : Launch) : ve_OK vs_A l 59 (ve_HI vs_A l 59 vs_M) (ve_CB vs_A l 59 (ve_HI vs_A l 59 vs_M) vs_M) "OrderbenchModel" prog_10_method_57_code 10 (some .int) "endOf" 17 (ve_pu (ve_push 19 (.int (-9)))) := ve_pu_ok (ve_bipush_ok (n := -9) (v := -9) (by decide +kernel : decode prog_10_method_57_code 17 = .ok (.bipush (-9), 2)) (by decide +kernel))
set_option maxRecDepth 16384 in
theorem vi_115_19 (l : Launch) : ve_OK vs_A l 59 (ve_HI vs_A l 59 vs_M) (ve_CB vs_A l 59 (ve_HI vs_A l 59 vs_M) vs_M) "OrderbenchModel" prog_10_method_57_code 10 (some .int) "endOf" 19 (ve_rt 1 .int) := ve_iret_ok (by decide +kernel : decode prog_10_method_57_code 19 = .ok (.ireturn, 1)) rfl
