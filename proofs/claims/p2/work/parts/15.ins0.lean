set_option maxRecDepth 16384 in
theorem vi_0_0 (l : Launch) : ve_OK vs_A l 59 (ve_HI vs_A l 59 vs_M) (ve_CB vs_A l 59 (ve_HI vs_A l 59 vs_M) vs_M) "OrderbenchLaw" code 7 (some .boolean) "law" 0 (ve_nw 3 2 [.null, .null, .null, .null, .null, .null, .int 0, .int 0, .int 0]) := ve_new_ok (C := "Orderbench") (by decide +kernel : decode code 0 = .ok (.new 8, 3)) vw_0 vw_1 vw_2 vf_0 rfl vf_1 rfl
set_option maxRecDepth 16384 in
theorem vi_0_3 (l : Launch) : ve_OK vs_A l 59 (ve_HI vs_A l 59 vs_M) (ve_CB vs_A l 59 (ve_HI vs_A l 59 vs_M) vs_M) "OrderbenchLaw" code 7 (some .boolean) "law" 3 (ve_pu (ve_dup 4)) := ve_pu_ok (ve_dup_ok (by decide +kernel : decode code 3 = .ok (.dup, 1)))
set_option maxRecDepth 16384 in
theorem vi_0_4 (l : Launch) : ve_OK vs_A l 59 (ve_HI vs_A l 59 vs_M) (ve_CB vs_A l 59 (ve_HI vs_A l 59 vs_M) vs_M) "OrderbenchLaw" code 7 (some .boolean) "law" 4 (ve_cw 59 1 7 [(2, 1)]) := ve_cw_ok rfl (List.forall_mem_cons.mpr ⟨ve_rowI (md := vs_M) (A0 := vs_A) (mi := 1) (na := 0) (by decide +kernel : decode code 4 = .ok (.invokespecial 138, 3)) (by decide) vw_5 vw_3 vw_2 vw_4 rfl ⟨by decide, by decide⟩ vf_2 rfl rfl 2, List.forall_mem_nil _⟩)
set_option maxRecDepth 16384 in
theorem vi_0_7 (l : Launch) : ve_OK vs_A l 59 (ve_HI vs_A l 59 vs_M) (ve_CB vs_A l 59 (ve_HI vs_A l 59 vs_M) vs_M) "OrderbenchLaw" code 7 (some .boolean) "law" 7 (ve_pu (ve_as 8 1 7)) := ve_pu_ok (ve_astore_n_ok (k := 1) (i := 1) (by decide +kernel : decode code 7 = .ok (.astore_n 1, 1)) rfl)
set_option maxRecDepth 16384 in
theorem vi_0_8 (l : Launch) : ve_OK vs_A l 59 (ve_HI vs_A l 59 vs_M) (ve_CB vs_A l 59 (ve_HI vs_A l 59 vs_M) vs_M) "OrderbenchLaw" code 7 (some .boolean) "law" 8 (ve_nw 11 6 [.int 0, .null, .null, .int 0, .int 0, .int 0]) := ve_new_ok (C := "OrderbenchModel") (by decide +kernel : decode code 8 = .ok (.new 139, 3)) vw_6 vw_7 vw_8 vf_3 rfl vf_4 rfl
set_option maxRecDepth 16384 in
theorem vi_0_11 (l : Launch) : ve_OK vs_A l 59 (ve_HI vs_A l 59 vs_M) (ve_CB vs_A l 59 (ve_HI vs_A l 59 vs_M) vs_M) "OrderbenchLaw" code 7 (some .boolean) "law" 11 (ve_pu (ve_dup 12)) := ve_pu_ok (ve_dup_ok (by decide +kernel : decode code 11 = .ok (.dup, 1)))
set_option maxRecDepth 16384 in
theorem vi_0_12 (l : Launch) : ve_OK vs_A l 59 (ve_HI vs_A l 59 vs_M) (ve_CB vs_A l 59 (ve_HI vs_A l 59 vs_M) vs_M) "OrderbenchLaw" code 7 (some .boolean) "law" 12 (ve_cw 59 1 15 [(6, 7)]) := ve_cw_ok rfl (List.forall_mem_cons.mpr ⟨ve_rowI (md := vs_M) (A0 := vs_A) (mi := 7) (na := 0) (by decide +kernel : decode code 12 = .ok (.invokespecial 141, 3)) (by decide) vw_11 vw_9 vw_8 vw_10 rfl ⟨by decide, by decide⟩ vf_2 rfl rfl 6, List.forall_mem_nil _⟩)
set_option maxRecDepth 16384 in
theorem vi_0_15 (l : Launch) : ve_OK vs_A l 59 (ve_HI vs_A l 59 vs_M) (ve_CB vs_A l 59 (ve_HI vs_A l 59 vs_M) vs_M) "OrderbenchLaw" code 7 (some .boolean) "law" 15 (ve_pu (ve_as 16 2 7)) := ve_pu_ok (ve_astore_n_ok (k := 2) (i := 2) (by decide +kernel : decode code 15 = .ok (.astore_n 2, 1)) rfl)
set_option maxRecDepth 16384 in
theorem vi_0_16 (l : Launch) : ve_OK vs_A l 59 (ve_HI vs_A l 59 vs_M) (ve_CB vs_A l 59 (ve_HI vs_A l 59 vs_M) vs_M) "OrderbenchLaw" code 7 (some .boolean) "law" 16 (ve_nw 19 12 [.long 0, .null]) := ve_new_ok (C := "OrderbenchLaw$Out") (by decide +kernel : decode code 16 = .ok (.new 14, 3)) vw_12 vw_13 vw_14 vf_5 rfl vf_6 rfl
set_option maxRecDepth 16384 in
theorem vi_0_19 (l : Launch) : ve_OK vs_A l 59 (ve_HI vs_A l 59 vs_M) (ve_CB vs_A l 59 (ve_HI vs_A l 59 vs_M) vs_M) "OrderbenchLaw" code 7 (some .boolean) "law" 19 (ve_pu (ve_dup 20)) := ve_pu_ok (ve_dup_ok (by decide +kernel : decode code 19 = .ok (.dup, 1)))
set_option maxRecDepth 16384 in
theorem vi_0_20 (l : Launch) : ve_OK vs_A l 59 (ve_HI vs_A l 59 vs_M) (ve_CB vs_A l 59 (ve_HI vs_A l 59 vs_M) vs_M) "OrderbenchLaw" code 7 (some .boolean) "law" 20 (ve_cw 59 1 23 [(12, 17)]) := ve_cw_ok rfl (List.forall_mem_cons.mpr ⟨ve_rowIN (md := vs_M) (A0 := vs_A) (mi := 17) (na := 0) (host := "OrderbenchLaw") (by decide +kernel : decode code 20 = .ok (.invokespecial 142, 3)) (by decide) vw_17 vw_15 vw_14 vw_16 rfl ⟨by decide, by decide⟩ vf_2 rfl rfl 12, List.forall_mem_nil _⟩)
set_option maxRecDepth 16384 in
theorem vi_0_23 (l : Launch) : ve_OK vs_A l 59 (ve_HI vs_A l 59 vs_M) (ve_CB vs_A l 59 (ve_HI vs_A l 59 vs_M) vs_M) "OrderbenchLaw" code 7 (some .boolean) "law" 23 (ve_pu (ve_as 24 3 7)) := ve_pu_ok (ve_astore_n_ok (k := 3) (i := 3) (by decide +kernel : decode code 23 = .ok (.astore_n 3, 1)) rfl)
set_option maxRecDepth 16384 in
theorem vi_0_24 (l : Launch) : ve_OK vs_A l 59 (ve_HI vs_A l 59 vs_M) (ve_CB vs_A l 59 (ve_HI vs_A l 59 vs_M) vs_M) "OrderbenchLaw" code 7 (some .boolean) "law" 24 (ve_pu (ve_push 25 (.int (0)))) := ve_pu_ok (ve_iconst_ok (n := 0) (v := 0) (by decide +kernel : decode code 24 = .ok (.iconst (0), 1)) rfl)
set_option maxRecDepth 16384 in
theorem vi_0_25 (l : Launch) : ve_OK vs_A l 59 (ve_HI vs_A l 59 vs_M) (ve_CB vs_A l 59 (ve_HI vs_A l 59 vs_M) vs_M) "OrderbenchLaw" code 7 (some .boolean) "law" 25 (ve_pu (ve_is 27 4 7)) := ve_pu_ok (ve_istore_ok (by decide +kernel : decode code 25 = .ok (.istore 4, 2)))
set_option maxRecDepth 16384 in
theorem vi_0_27 (l : Launch) : ve_OK vs_A l 59 (ve_HI vs_A l 59 vs_M) (ve_CB vs_A l 59 (ve_HI vs_A l 59 vs_M) vs_M) "OrderbenchLaw" code 7 (some .boolean) "law" 27 (ve_pu (ve_il 29 4)) := ve_pu_ok (ve_iload_ok (by decide +kernel : decode code 27 = .ok (.iload 4, 2)))
set_option maxRecDepth 16384 in
theorem vi_0_29 (l : Launch) : ve_OK vs_A l 59 (ve_HI vs_A l 59 vs_M) (ve_CB vs_A l 59 (ve_HI vs_A l 59 vs_M) vs_M) "OrderbenchLaw" code 7 (some .boolean) "law" 29 (ve_pu (ve_al 30 0)) := ve_pu_ok (ve_aload_n_ok (k := 0) (i := 0) (by decide +kernel : decode code 29 = .ok (.aload_n 0, 1)) rfl)
set_option maxRecDepth 16384 in
theorem vi_0_30 (l : Launch) : ve_OK vs_A l 59 (ve_HI vs_A l 59 vs_M) (ve_CB vs_A l 59 (ve_HI vs_A l 59 vs_M) vs_M) "OrderbenchLaw" code 7 (some .boolean) "law" 30 (ve_len 31 51) := ve_len_ok (by decide +kernel : decode code 30 = .ok (.arraylength, 1)) vf_7
set_option maxRecDepth 16384 in
theorem vi_0_31 (l : Launch) : ve_OK vs_A l 59 (ve_HI vs_A l 59 vs_M) (ve_CB vs_A l 59 (ve_HI vs_A l 59 vs_M) vs_M) "OrderbenchLaw" code 7 (some .boolean) "law" 31 (ve_pu (ve_push 33 (.int (6)))) := ve_pu_ok (ve_bipush_ok (n := 6) (v := 6) (by decide +kernel : decode code 31 = .ok (.bipush (6), 2)) (by decide +kernel))
set_option maxRecDepth 16384 in
theorem vi_0_33 (l : Launch) : ve_OK vs_A l 59 (ve_HI vs_A l 59 vs_M) (ve_CB vs_A l 59 (ve_HI vs_A l 59 vs_M) vs_M) "OrderbenchLaw" code 7 (some .boolean) "law" 33 (ve_pu (ve_isub 34)) := ve_pu_ok (ve_isub_ok (by decide +kernel : decode code 33 = .ok (.isub, 1)))
set_option maxRecDepth 16384 in
theorem vi_0_34 (l : Launch) : ve_OK vs_A l 59 (ve_HI vs_A l 59 vs_M) (ve_CB vs_A l 59 (ve_HI vs_A l 59 vs_M) vs_M) "OrderbenchLaw" code 7 (some .boolean) "law" 34 (ve_pu (ve_br2 (fun x y => decide (y < x)) 1766 37)) := ve_pu_ok (ve_icmp_gt_ok (by decide +kernel : decode code 34 = .ok (.if_icmp .gt (1732), 3)) (by decide +kernel))
set_option maxRecDepth 16384 in
theorem vi_0_37 (l : Launch) : ve_OK vs_A l 59 (ve_HI vs_A l 59 vs_M) (ve_CB vs_A l 59 (ve_HI vs_A l 59 vs_M) vs_M) "OrderbenchLaw" code 7 (some .boolean) "law" 37 (ve_pu (ve_al 38 0)) := ve_pu_ok (ve_aload_n_ok (k := 0) (i := 0) (by decide +kernel : decode code 37 = .ok (.aload_n 0, 1)) rfl)
set_option maxRecDepth 16384 in
theorem vi_0_38 (l : Launch) : ve_OK vs_A l 59 (ve_HI vs_A l 59 vs_M) (ve_CB vs_A l 59 (ve_HI vs_A l 59 vs_M) vs_M) "OrderbenchLaw" code 7 (some .boolean) "law" 38 (ve_pu (ve_il 40 4)) := ve_pu_ok (ve_iload_ok (by decide +kernel : decode code 38 = .ok (.iload 4, 2)))
set_option maxRecDepth 16384 in
theorem vi_0_40 (l : Launch) : ve_OK vs_A l 59 (ve_HI vs_A l 59 vs_M) (ve_CB vs_A l 59 (ve_HI vs_A l 59 vs_M) vs_M) "OrderbenchLaw" code 7 (some .boolean) "law" 40 (ve_ald 41 51) := ve_iald_ok (by decide +kernel : decode code 40 = .ok (.iaload, 1)) vf_7
set_option maxRecDepth 16384 in
theorem vi_0_41 (l : Launch) : ve_OK vs_A l 59 (ve_HI vs_A l 59 vs_M) (ve_CB vs_A l 59 (ve_HI vs_A l 59 vs_M) vs_M) "OrderbenchLaw" code 7 (some .boolean) "law" 41 (ve_pu (ve_push 43 (.int (63)))) := ve_pu_ok (ve_bipush_ok (n := 63) (v := 63) (by decide +kernel : decode code 41 = .ok (.bipush (63), 2)) (by decide +kernel))
set_option maxRecDepth 16384 in
theorem vi_0_43 (l : Launch) : ve_OK vs_A l 59 (ve_HI vs_A l 59 vs_M) (ve_CB vs_A l 59 (ve_HI vs_A l 59 vs_M) vs_M) "OrderbenchLaw" code 7 (some .boolean) "law" 43 (ve_pu (ve_iand 44)) := ve_pu_ok (ve_iand_ok (by decide +kernel : decode code 43 = .ok (.iand, 1)))
set_option maxRecDepth 16384 in
theorem vi_0_44 (l : Launch) : ve_OK vs_A l 59 (ve_HI vs_A l 59 vs_M) (ve_CB vs_A l 59 (ve_HI vs_A l 59 vs_M) vs_M) "OrderbenchLaw" code 7 (some .boolean) "law" 44 (ve_pu (ve_tsw (0) (36) [208, 289, 317, 381, 421, 473, 501, 529, 569, 597, 637, 677, 729, 797, 837, 865, 893, 957, 1033, 1085, 1125, 1153, 1193, 1221, 1261, 1301, 1341, 1381, 1445, 1509, 1561, 1589, 1641, 1693, 1721, 1734, 1747] 1760)) := ve_pu_ok (ve_tsw_ok (dflt := 1716) (lo := 0) (hi := 36) (offs := #[164, 245, 273, 337, 377, 429, 457, 485, 525, 553, 593, 633, 685, 753, 793, 821, 849, 913, 989, 1041, 1081, 1109, 1149, 1177, 1217, 1257, 1297, 1337, 1401, 1465, 1517, 1545, 1597, 1649, 1677, 1690, 1703]) (by decide +kernel : decode code 44 = .ok (.tableswitch (1716) (0) (36) #[164, 245, 273, 337, 377, 429, 457, 485, 525, 553, 593, 633, 685, 753, 793, 821, 849, 913, 989, 1041, 1081, 1109, 1149, 1177, 1217, 1257, 1297, 1337, 1401, 1465, 1517, 1545, 1597, 1649, 1677, 1690, 1703], 164)) (by decide +kernel) (by decide +kernel))
set_option maxRecDepth 16384 in
theorem vi_0_637 (l : Launch) : ve_OK vs_A l 59 (ve_HI vs_A l 59 vs_M) (ve_CB vs_A l 59 (ve_HI vs_A l 59 vs_M) vs_M) "OrderbenchLaw" code 7 (some .boolean) "law" 637 (ve_pu (ve_al 638 1)) := ve_pu_ok (ve_aload_n_ok (k := 1) (i := 1) (by decide +kernel : decode code 637 = .ok (.aload_n 1, 1)) rfl)
set_option maxRecDepth 16384 in
theorem vi_0_638 (l : Launch) : ve_OK vs_A l 59 (ve_HI vs_A l 59 vs_M) (ve_CB vs_A l 59 (ve_HI vs_A l 59 vs_M) vs_M) "OrderbenchLaw" code 7 (some .boolean) "law" 638 (ve_pu (ve_al 639 0)) := ve_pu_ok (ve_aload_n_ok (k := 0) (i := 0) (by decide +kernel : decode code 638 = .ok (.aload_n 0, 1)) rfl)
set_option maxRecDepth 16384 in
theorem vi_0_639 (l : Launch) : ve_OK vs_A l 59 (ve_HI vs_A l 59 vs_M) (ve_CB vs_A l 59 (ve_HI vs_A l 59 vs_M) vs_M) "OrderbenchLaw" code 7 (some .boolean) "law" 639 (ve_pu (ve_il 641 4)) := ve_pu_ok (ve_iload_ok (by decide +kernel : decode code 639 = .ok (.iload 4, 2)))
set_option maxRecDepth 16384 in
theorem vi_0_641 (l : Launch) : ve_OK vs_A l 59 (ve_HI vs_A l 59 vs_M) (ve_CB vs_A l 59 (ve_HI vs_A l 59 vs_M) vs_M) "OrderbenchLaw" code 7 (some .boolean) "law" 641 (ve_pu (ve_push 642 (.int (1)))) := ve_pu_ok (ve_iconst_ok (n := 1) (v := 1) (by decide +kernel : decode code 641 = .ok (.iconst (1), 1)) rfl)
set_option maxRecDepth 16384 in
theorem vi_0_642 (l : Launch) : ve_OK vs_A l 59 (ve_HI vs_A l 59 vs_M) (ve_CB vs_A l 59 (ve_HI vs_A l 59 vs_M) vs_M) "OrderbenchLaw" code 7 (some .boolean) "law" 642 (ve_pu (ve_iadd 643)) := ve_pu_ok (ve_iadd_ok (by decide +kernel : decode code 642 = .ok (.iadd, 1)))
set_option maxRecDepth 16384 in
theorem vi_0_643 (l : Launch) : ve_OK vs_A l 59 (ve_HI vs_A l 59 vs_M) (ve_CB vs_A l 59 (ve_HI vs_A l 59 vs_M) vs_M) "OrderbenchLaw" code 7 (some .boolean) "law" 643 (ve_ald 644 51) := ve_iald_ok (by decide +kernel : decode code 643 = .ok (.iaload, 1)) vf_7
set_option maxRecDepth 16384 in
theorem vi_0_644 (l : Launch) : ve_OK vs_A l 59 (ve_HI vs_A l 59 vs_M) (ve_CB vs_A l 59 (ve_HI vs_A l 59 vs_M) vs_M) "OrderbenchLaw" code 7 (some .boolean) "law" 644 (ve_pu (ve_al 645 0)) := ve_pu_ok (ve_aload_n_ok (k := 0) (i := 0) (by decide +kernel : decode code 644 = .ok (.aload_n 0, 1)) rfl)
set_option maxRecDepth 16384 in
theorem vi_0_645 (l : Launch) : ve_OK vs_A l 59 (ve_HI vs_A l 59 vs_M) (ve_CB vs_A l 59 (ve_HI vs_A l 59 vs_M) vs_M) "OrderbenchLaw" code 7 (some .boolean) "law" 645 (ve_pu (ve_il 647 4)) := ve_pu_ok (ve_iload_ok (by decide +kernel : decode code 645 = .ok (.iload 4, 2)))
set_option maxRecDepth 16384 in
theorem vi_0_647 (l : Launch) : ve_OK vs_A l 59 (ve_HI vs_A l 59 vs_M) (ve_CB vs_A l 59 (ve_HI vs_A l 59 vs_M) vs_M) "OrderbenchLaw" code 7 (some .boolean) "law" 647 (ve_pu (ve_push 648 (.int (2)))) := ve_pu_ok (ve_iconst_ok (n := 2) (v := 2) (by decide +kernel : decode code 647 = .ok (.iconst (2), 1)) rfl)
set_option maxRecDepth 16384 in
theorem vi_0_648 (l : Launch) : ve_OK vs_A l 59 (ve_HI vs_A l 59 vs_M) (ve_CB vs_A l 59 (ve_HI vs_A l 59 vs_M) vs_M) "OrderbenchLaw" code 7 (some .boolean) "law" 648 (ve_pu (ve_iadd 649)) := ve_pu_ok (ve_iadd_ok (by decide +kernel : decode code 648 = .ok (.iadd, 1)))
set_option maxRecDepth 16384 in
theorem vi_0_649 (l : Launch) : ve_OK vs_A l 59 (ve_HI vs_A l 59 vs_M) (ve_CB vs_A l 59 (ve_HI vs_A l 59 vs_M) vs_M) "OrderbenchLaw" code 7 (some .boolean) "law" 649 (ve_ald 650 51) := ve_iald_ok (by decide +kernel : decode code 649 = .ok (.iaload, 1)) vf_7
set_option maxRecDepth 16384 in
theorem vi_0_650 (l : Launch) : ve_OK vs_A l 59 (ve_HI vs_A l 59 vs_M) (ve_CB vs_A l 59 (ve_HI vs_A l 59 vs_M) vs_M) "OrderbenchLaw" code 7 (some .boolean) "law" 650 (ve_pu (ve_al 651 3)) := ve_pu_ok (ve_aload_n_ok (k := 3) (i := 3) (by decide +kernel : decode code 650 = .ok (.aload_n 3, 1)) rfl)
set_option maxRecDepth 16384 in
theorem vi_0_651 (l : Launch) : ve_OK vs_A l 59 (ve_HI vs_A l 59 vs_M) (ve_CB vs_A l 59 (ve_HI vs_A l 59 vs_M) vs_M) "OrderbenchLaw" code 7 (some .boolean) "law" 651 (ve_cl 59 18 4 654) := ve_cl_ok (ve_rowSW (md := vs_M) (A0 := vs_A) (mi := 18) (by decide +kernel : decode code 651 = .ok (.invokestatic 183, 3)) (by decide) vw_18 vw_19 vw_20 rfl vw_21 ⟨by decide, by decide⟩ vf_8)
set_option maxRecDepth 16384 in
theorem vi_0_654 (l : Launch) : ve_OK vs_A l 59 (ve_HI vs_A l 59 vs_M) (ve_CB vs_A l 59 (ve_HI vs_A l 59 vs_M) vs_M) "OrderbenchLaw" code 7 (some .boolean) "law" 654 (ve_pu (ve_is 656 5 7)) := ve_pu_ok (ve_istore_ok (by decide +kernel : decode code 654 = .ok (.istore 5, 2)))
set_option maxRecDepth 16384 in
theorem vi_0_656 (l : Launch) : ve_OK vs_A l 59 (ve_HI vs_A l 59 vs_M) (ve_CB vs_A l 59 (ve_HI vs_A l 59 vs_M) vs_M) "OrderbenchLaw" code 7 (some .boolean) "law" 656 (ve_pu (ve_al 657 2)) := ve_pu_ok (ve_aload_n_ok (k := 2) (i := 2) (by decide +kernel : decode code 656 = .ok (.aload_n 2, 1)) rfl)
set_option maxRecDepth 16384 in
theorem vi_0_657 (l : Launch) : ve_OK vs_A l 59 (ve_HI vs_A l 59 vs_M) (ve_CB vs_A l 59 (ve_HI vs_A l 59 vs_M) vs_M) "OrderbenchLaw" code 7 (some .boolean) "law" 657 (ve_pu (ve_al 658 0)) := ve_pu_ok (ve_aload_n_ok (k := 0) (i := 0) (by decide +kernel : decode code 657 = .ok (.aload_n 0, 1)) rfl)
set_option maxRecDepth 16384 in
theorem vi_0_658 (l : Launch) : ve_OK vs_A l 59 (ve_HI vs_A l 59 vs_M) (ve_CB vs_A l 59 (ve_HI vs_A l 59 vs_M) vs_M) "OrderbenchLaw" code 7 (some .boolean) "law" 658 (ve_pu (ve_il 660 4)) := ve_pu_ok (ve_iload_ok (by decide +kernel : decode code 658 = .ok (.iload 4, 2)))
set_option maxRecDepth 16384 in
theorem vi_0_660 (l : Launch) : ve_OK vs_A l 59 (ve_HI vs_A l 59 vs_M) (ve_CB vs_A l 59 (ve_HI vs_A l 59 vs_M) vs_M) "OrderbenchLaw" code 7 (some .boolean) "law" 660 (ve_pu (ve_push 661 (.int (1)))) := ve_pu_ok (ve_iconst_ok (n := 1) (v := 1) (by decide +kernel : decode code 660 = .ok (.iconst (1), 1)) rfl)
set_option maxRecDepth 16384 in
theorem vi_0_661 (l : Launch) : ve_OK vs_A l 59 (ve_HI vs_A l 59 vs_M) (ve_CB vs_A l 59 (ve_HI vs_A l 59 vs_M) vs_M) "OrderbenchLaw" code 7 (some .boolean) "law" 661 (ve_pu (ve_iadd 662)) := ve_pu_ok (ve_iadd_ok (by decide +kernel : decode code 661 = .ok (.iadd, 1)))
set_option maxRecDepth 16384 in
theorem vi_0_662 (l : Launch) : ve_OK vs_A l 59 (ve_HI vs_A l 59 vs_M) (ve_CB vs_A l 59 (ve_HI vs_A l 59 vs_M) vs_M) "OrderbenchLaw" code 7 (some .boolean) "law" 662 (ve_ald 663 51) := ve_iald_ok (by decide +kernel : decode code 662 = .ok (.iaload, 1)) vf_7
set_option maxRecDepth 16384 in
theorem vi_0_663 (l : Launch) : ve_OK vs_A l 59 (ve_HI vs_A l 59 vs_M) (ve_CB vs_A l 59 (ve_HI vs_A l 59 vs_M) vs_M) "OrderbenchLaw" code 7 (some .boolean) "law" 663 (ve_pu (ve_al 664 0)) := ve_pu_ok (ve_aload_n_ok (k := 0) (i := 0) (by decide +kernel : decode code 663 = .ok (.aload_n 0, 1)) rfl)
set_option maxRecDepth 16384 in
theorem vi_0_664 (l : Launch) : ve_OK vs_A l 59 (ve_HI vs_A l 59 vs_M) (ve_CB vs_A l 59 (ve_HI vs_A l 59 vs_M) vs_M) "OrderbenchLaw" code 7 (some .boolean) "law" 664 (ve_pu (ve_il 666 4)) := ve_pu_ok (ve_iload_ok (by decide +kernel : decode code 664 = .ok (.iload 4, 2)))
set_option maxRecDepth 16384 in
theorem vi_0_666 (l : Launch) : ve_OK vs_A l 59 (ve_HI vs_A l 59 vs_M) (ve_CB vs_A l 59 (ve_HI vs_A l 59 vs_M) vs_M) "OrderbenchLaw" code 7 (some .boolean) "law" 666 (ve_pu (ve_push 667 (.int (2)))) := ve_pu_ok (ve_iconst_ok (n := 2) (v := 2) (by decide +kernel : decode code 666 = .ok (.iconst (2), 1)) rfl)
set_option maxRecDepth 16384 in
theorem vi_0_667 (l : Launch) : ve_OK vs_A l 59 (ve_HI vs_A l 59 vs_M) (ve_CB vs_A l 59 (ve_HI vs_A l 59 vs_M) vs_M) "OrderbenchLaw" code 7 (some .boolean) "law" 667 (ve_pu (ve_iadd 668)) := ve_pu_ok (ve_iadd_ok (by decide +kernel : decode code 667 = .ok (.iadd, 1)))
set_option maxRecDepth 16384 in
theorem vi_0_668 (l : Launch) : ve_OK vs_A l 59 (ve_HI vs_A l 59 vs_M) (ve_CB vs_A l 59 (ve_HI vs_A l 59 vs_M) vs_M) "OrderbenchLaw" code 7 (some .boolean) "law" 668 (ve_ald 669 51) := ve_iald_ok (by decide +kernel : decode code 668 = .ok (.iaload, 1)) vf_7
set_option maxRecDepth 16384 in
theorem vi_0_669 (l : Launch) : ve_OK vs_A l 59 (ve_HI vs_A l 59 vs_M) (ve_CB vs_A l 59 (ve_HI vs_A l 59 vs_M) vs_M) "OrderbenchLaw" code 7 (some .boolean) "law" 669 (ve_cw 59 3 672 [(6, 24)]) := ve_cw_ok rfl (List.forall_mem_cons.mpr ⟨ve_rowU (md := vs_M) (A0 := vs_A) (mi := 24) (na := 2) (k := 6) (C := "OrderbenchModel") (owner := "OrderbenchModel") (x := ⟨"OrderbenchModel", "turn", "(II)I"⟩) (by decide +kernel : decode code 669 = .ok (.invokevirtual 185, 3)) (by decide) vw_24 vw_22 vw_8 vw_23 rfl vw_25 vw_26 vf_10 ⟨by decide, by decide⟩ vf_3 vf_9, List.forall_mem_nil _⟩)
set_option maxRecDepth 16384 in
theorem vi_0_672 (l : Launch) : ve_OK vs_A l 59 (ve_HI vs_A l 59 vs_M) (ve_CB vs_A l 59 (ve_HI vs_A l 59 vs_M) vs_M) "OrderbenchLaw" code 7 (some .boolean) "law" 672 (ve_pu (ve_is 674 6 7)) := ve_pu_ok (ve_istore_ok (by decide +kernel : decode code 672 = .ok (.istore 6, 2)))
set_option maxRecDepth 16384 in
theorem vi_0_674 (l : Launch) : ve_OK vs_A l 59 (ve_HI vs_A l 59 vs_M) (ve_CB vs_A l 59 (ve_HI vs_A l 59 vs_M) vs_M) "OrderbenchLaw" code 7 (some .boolean) "law" 674 (ve_pu (ve_jmp 1760)) := ve_pu_ok (ve_goto_ok (by decide +kernel : decode code 674 = .ok (.goto (1086), 3)) (by decide +kernel))
set_option maxRecDepth 16384 in
theorem vi_0_1747 (l : Launch) : ve_OK vs_A l 59 (ve_HI vs_A l 59 vs_M) (ve_CB vs_A l 59 (ve_HI vs_A l 59 vs_M) vs_M) "OrderbenchLaw" code 7 (some .boolean) "law" 1747 (ve_pu (ve_al 1748 1)) := ve_pu_ok (ve_aload_n_ok (k := 1) (i := 1) (by decide +kernel : decode code 1747 = .ok (.aload_n 1, 1)) rfl)
set_option maxRecDepth 16384 in
theorem vi_0_1748 (l : Launch) : ve_OK vs_A l 59 (ve_HI vs_A l 59 vs_M) (ve_CB vs_A l 59 (ve_HI vs_A l 59 vs_M) vs_M) "OrderbenchLaw" code 7 (some .boolean) "law" 1748 (ve_cw 59 1 1751 [(2, 57)]) := ve_cw_ok rfl (List.forall_mem_cons.mpr ⟨ve_rowU (md := vs_M) (A0 := vs_A) (mi := 57) (na := 0) (k := 2) (C := "Orderbench") (owner := "Orderbench") (x := ⟨"Orderbench", "digest", "()J"⟩) (by decide +kernel : decode code 1748 = .ok (.invokevirtual 266, 3)) (by decide) vw_29 vw_27 vw_2 vw_28 rfl vw_30 vw_31 vf_12 ⟨by decide, by decide⟩ vf_0 vf_11, List.forall_mem_nil _⟩)
set_option maxRecDepth 16384 in
theorem vi_0_1751 (l : Launch) : ve_OK vs_A l 59 (ve_HI vs_A l 59 vs_M) (ve_CB vs_A l 59 (ve_HI vs_A l 59 vs_M) vs_M) "OrderbenchLaw" code 7 (some .boolean) "law" 1751 (ve_pu (ve_p2 1752)) := ve_pu_ok (ve_pop2_ok (by decide +kernel : decode code 1751 = .ok (.pop2, 1)))
set_option maxRecDepth 16384 in
theorem vi_0_1752 (l : Launch) : ve_OK vs_A l 59 (ve_HI vs_A l 59 vs_M) (ve_CB vs_A l 59 (ve_HI vs_A l 59 vs_M) vs_M) "OrderbenchLaw" code 7 (some .boolean) "law" 1752 (ve_pu (ve_al 1753 2)) := ve_pu_ok (ve_aload_n_ok (k := 2) (i := 2) (by decide +kernel : decode code 1752 = .ok (.aload_n 2, 1)) rfl)
set_option maxRecDepth 16384 in
theorem vi_0_1753 (l : Launch) : ve_OK vs_A l 59 (ve_HI vs_A l 59 vs_M) (ve_CB vs_A l 59 (ve_HI vs_A l 59 vs_M) vs_M) "OrderbenchLaw" code 7 (some .boolean) "law" 1753 (ve_cw 59 1 1756 [(6, 95)]) := ve_cw_ok rfl (List.forall_mem_cons.mpr ⟨ve_rowU (md := vs_M) (A0 := vs_A) (mi := 95) (na := 0) (k := 6) (C := "OrderbenchModel") (owner := "OrderbenchModel") (x := ⟨"OrderbenchModel", "digest", "()J"⟩) (by decide +kernel : decode code 1753 = .ok (.invokevirtual 270, 3)) (by decide) vw_34 vw_32 vw_8 vw_33 rfl vw_35 vw_36 vf_13 ⟨by decide, by decide⟩ vf_3 vf_11, List.forall_mem_nil _⟩)
set_option maxRecDepth 16384 in
theorem vi_0_1756 (l : Launch) : ve_OK vs_A l 59 (ve_HI vs_A l 59 vs_M) (ve_CB vs_A l 59 (ve_HI vs_A l 59 vs_M) vs_M) "OrderbenchLaw" code 7 (some .boolean) "law" 1756 (ve_pu (ve_p2 1757)) := ve_pu_ok (ve_pop2_ok (by decide +kernel : decode code 1756 = .ok (.pop2, 1)))
set_option maxRecDepth 16384 in
theorem vi_0_1757 (l : Launch) : ve_OK vs_A l 59 (ve_HI vs_A l 59 vs_M) (ve_CB vs_A l 59 (ve_HI vs_A l 59 vs_M) vs_M) "OrderbenchLaw" code 7 (some .boolean) "law" 1757 (ve_pu (ve_jmp 1760)) := ve_pu_ok (ve_goto_ok (by decide +kernel : decode code 1757 = .ok (.goto (3), 3)) (by decide +kernel))
set_option maxRecDepth 16384 in
theorem vi_0_1760 (l : Launch) : ve_OK vs_A l 59 (ve_HI vs_A l 59 vs_M) (ve_CB vs_A l 59 (ve_HI vs_A l 59 vs_M) vs_M) "OrderbenchLaw" code 7 (some .boolean) "law" 1760 (ve_pu (ve_ii 1763 4 7 (6))) := ve_pu_ok (ve_iinc_ok (by decide +kernel : decode code 1760 = .ok (.iinc 4 (6), 3)))
set_option maxRecDepth 16384 in
theorem vi_0_1763 (l : Launch) : ve_OK vs_A l 59 (ve_HI vs_A l 59 vs_M) (ve_CB vs_A l 59 (ve_HI vs_A l 59 vs_M) vs_M) "OrderbenchLaw" code 7 (some .boolean) "law" 1763 (ve_pu (ve_jmp 27)) := ve_pu_ok (ve_goto_ok (by decide +kernel : decode code 1763 = .ok (.goto (-1736), 3)) (by decide +kernel))
set_option maxRecDepth 16384 in
theorem vi_0_1766 (l : Launch) : ve_OK vs_A l 59 (ve_HI vs_A l 59 vs_M) (ve_CB vs_A l 59 (ve_HI vs_A l 59 vs_M) vs_M) "OrderbenchLaw" code 7 (some .boolean) "law" 1766 (ve_pu (ve_push 1767 (.int (1)))) := ve_pu_ok (ve_iconst_ok (n := 1) (v := 1) (by decide +kernel : decode code 1766 = .ok (.iconst (1), 1)) rfl)
set_option maxRecDepth 16384 in
theorem vi_0_1767 (l : Launch) : ve_OK vs_A l 59 (ve_HI vs_A l 59 vs_M) (ve_CB vs_A l 59 (ve_HI vs_A l 59 vs_M) vs_M) "OrderbenchLaw" code 7 (some .boolean) "law" 1767 (ve_rt 1 .boolean) := ve_iret_ok (by decide +kernel : decode code 1767 = .ok (.ireturn, 1)) rfl
set_option maxRecDepth 16384 in
theorem vi_1_0 (l : Launch) : ve_OK vs_A l 59 (ve_HI vs_A l 59 vs_M) (ve_CB vs_A l 59 (ve_HI vs_A l 59 vs_M) vs_M) "Orderbench" prog_1_method_1_code 3 none "<init>" 0 (ve_pu (ve_al 1 0)) := ve_pu_ok (ve_aload_n_ok (k := 0) (i := 0) (by decide +kernel : decode prog_1_method_1_code 0 = .ok (.aload_n 0, 1)) rfl)
set_option maxRecDepth 16384 in
theorem vi_1_1 (l : Launch) : ve_OK vs_A l 59 (ve_HI vs_A l 59 vs_M) (ve_CB vs_A l 59 (ve_HI vs_A l 59 vs_M) vs_M) "Orderbench" prog_1_method_1_code 3 none "<init>" 1 (ve_pu (ve_oi 4)) := ve_cu_ok (ve_oi_ok (by decide +kernel : decode prog_1_method_1_code 1 = .ok (.invokespecial 1, 3)) vw_37 vw_38 vw_39)
set_option maxRecDepth 16384 in
theorem vi_1_4 (l : Launch) : ve_OK vs_A l 59 (ve_HI vs_A l 59 vs_M) (ve_CB vs_A l 59 (ve_HI vs_A l 59 vs_M) vs_M) "Orderbench" prog_1_method_1_code 3 none "<init>" 4 (ve_pu (ve_al 5 0)) := ve_pu_ok (ve_aload_n_ok (k := 0) (i := 0) (by decide +kernel : decode prog_1_method_1_code 4 = .ok (.aload_n 0, 1)) rfl)
set_option maxRecDepth 16384 in
theorem vi_1_5 (l : Launch) : ve_OK vs_A l 59 (ve_HI vs_A l 59 vs_M) (ve_CB vs_A l 59 (ve_HI vs_A l 59 vs_M) vs_M) "Orderbench" prog_1_method_1_code 3 none "<init>" 5 (ve_pu (ve_push 6 (.int (2)))) := ve_pu_ok (ve_iconst_ok (n := 2) (v := 2) (by decide +kernel : decode prog_1_method_1_code 5 = .ok (.iconst (2), 1)) rfl)
set_option maxRecDepth 16384 in
theorem vi_1_6 (l : Launch) : ve_OK vs_A l 59 (ve_HI vs_A l 59 vs_M) (ve_CB vs_A l 59 (ve_HI vs_A l 59 vs_M) vs_M) "Orderbench" prog_1_method_1_code 3 none "<init>" 6 (ve_na 9 54 .null) := ve_anew2_ok (C := "Orderbench$Row") (by decide +kernel : decode prog_1_method_1_code 6 = .ok (.anewarray 9, 3)) vw_40 vw_41 vf_14 rfl
set_option maxRecDepth 16384 in
theorem vi_1_9 (l : Launch) : ve_OK vs_A l 59 (ve_HI vs_A l 59 vs_M) (ve_CB vs_A l 59 (ve_HI vs_A l 59 vs_M) vs_M) "Orderbench" prog_1_method_1_code 3 none "<init>" 9 (ve_pf 12 0 [2] (.array (.object "Orderbench$Row"))) := ve_putfF_ok (by decide +kernel : decode prog_1_method_1_code 9 = .ok (.putfield 11, 3)) vw_42 rfl vf_16 vf_15
set_option maxRecDepth 16384 in
theorem vi_1_12 (l : Launch) : ve_OK vs_A l 59 (ve_HI vs_A l 59 vs_M) (ve_CB vs_A l 59 (ve_HI vs_A l 59 vs_M) vs_M) "Orderbench" prog_1_method_1_code 3 none "<init>" 12 (ve_pu (ve_push 13 (.int (0)))) := ve_pu_ok (ve_iconst_ok (n := 0) (v := 0) (by decide +kernel : decode prog_1_method_1_code 12 = .ok (.iconst (0), 1)) rfl)
set_option maxRecDepth 16384 in
theorem vi_1_13 (l : Launch) : ve_OK vs_A l 59 (ve_HI vs_A l 59 vs_M) (ve_CB vs_A l 59 (ve_HI vs_A l 59 vs_M) vs_M) "Orderbench" prog_1_method_1_code 3 none "<init>" 13 (ve_pu (ve_is 14 1 3)) := ve_pu_ok (ve_istore_n_ok (k := 1) (i := 1) (by decide +kernel : decode prog_1_method_1_code 13 = .ok (.istore_n 1, 1)) rfl)
set_option maxRecDepth 16384 in
theorem vi_1_14 (l : Launch) : ve_OK vs_A l 59 (ve_HI vs_A l 59 vs_M) (ve_CB vs_A l 59 (ve_HI vs_A l 59 vs_M) vs_M) "Orderbench" prog_1_method_1_code 3 none "<init>" 14 (ve_pu (ve_il 15 1)) := ve_pu_ok (ve_iload_n_ok (k := 1) (i := 1) (by decide +kernel : decode prog_1_method_1_code 14 = .ok (.iload_n 1, 1)) rfl)
set_option maxRecDepth 16384 in
theorem vi_1_15 (l : Launch) : ve_OK vs_A l 59 (ve_HI vs_A l 59 vs_M) (ve_CB vs_A l 59 (ve_HI vs_A l 59 vs_M) vs_M) "Orderbench" prog_1_method_1_code 3 none "<init>" 15 (ve_pu (ve_push 16 (.int (2)))) := ve_pu_ok (ve_iconst_ok (n := 2) (v := 2) (by decide +kernel : decode prog_1_method_1_code 15 = .ok (.iconst (2), 1)) rfl)
set_option maxRecDepth 16384 in
theorem vi_1_16 (l : Launch) : ve_OK vs_A l 59 (ve_HI vs_A l 59 vs_M) (ve_CB vs_A l 59 (ve_HI vs_A l 59 vs_M) vs_M) "Orderbench" prog_1_method_1_code 3 none "<init>" 16 (ve_pu (ve_br2 (fun x y => decide (¬ x < y)) 38 19)) := ve_pu_ok (ve_icmp_ge_ok (by decide +kernel : decode prog_1_method_1_code 16 = .ok (.if_icmp .ge (22), 3)) (by decide +kernel))
set_option maxRecDepth 16384 in
theorem vi_1_19 (l : Launch) : ve_OK vs_A l 59 (ve_HI vs_A l 59 vs_M) (ve_CB vs_A l 59 (ve_HI vs_A l 59 vs_M) vs_M) "Orderbench" prog_1_method_1_code 3 none "<init>" 19 (ve_pu (ve_al 20 0)) := ve_pu_ok (ve_aload_n_ok (k := 0) (i := 0) (by decide +kernel : decode prog_1_method_1_code 19 = .ok (.aload_n 0, 1)) rfl)
set_option maxRecDepth 16384 in
theorem vi_1_20 (l : Launch) : ve_OK vs_A l 59 (ve_HI vs_A l 59 vs_M) (ve_CB vs_A l 59 (ve_HI vs_A l 59 vs_M) vs_M) "Orderbench" prog_1_method_1_code 3 none "<init>" 20 (ve_gf 23 0) := ve_getf_ok (k := 0) (by decide +kernel : decode prog_1_method_1_code 20 = .ok (.getfield 11, 3)) vw_42 vf_17
set_option maxRecDepth 16384 in
theorem vi_1_23 (l : Launch) : ve_OK vs_A l 59 (ve_HI vs_A l 59 vs_M) (ve_CB vs_A l 59 (ve_HI vs_A l 59 vs_M) vs_M) "Orderbench" prog_1_method_1_code 3 none "<init>" 23 (ve_pu (ve_il 24 1)) := ve_pu_ok (ve_iload_n_ok (k := 1) (i := 1) (by decide +kernel : decode prog_1_method_1_code 23 = .ok (.iload_n 1, 1)) rfl)
set_option maxRecDepth 16384 in
theorem vi_1_24 (l : Launch) : ve_OK vs_A l 59 (ve_HI vs_A l 59 vs_M) (ve_CB vs_A l 59 (ve_HI vs_A l 59 vs_M) vs_M) "Orderbench" prog_1_method_1_code 3 none "<init>" 24 (ve_nw 27 3 [.null, .int 0]) := ve_new_ok (C := "Orderbench$Row") (by decide +kernel : decode prog_1_method_1_code 24 = .ok (.new 9, 3)) vw_40 vw_43 vw_44 vf_18 rfl vf_19 rfl
set_option maxRecDepth 16384 in
theorem vi_1_27 (l : Launch) : ve_OK vs_A l 59 (ve_HI vs_A l 59 vs_M) (ve_CB vs_A l 59 (ve_HI vs_A l 59 vs_M) vs_M) "Orderbench" prog_1_method_1_code 3 none "<init>" 27 (ve_pu (ve_dup 28)) := ve_pu_ok (ve_dup_ok (by decide +kernel : decode prog_1_method_1_code 27 = .ok (.dup, 1)))
set_option maxRecDepth 16384 in
theorem vi_1_28 (l : Launch) : ve_OK vs_A l 59 (ve_HI vs_A l 59 vs_M) (ve_CB vs_A l 59 (ve_HI vs_A l 59 vs_M) vs_M) "Orderbench" prog_1_method_1_code 3 none "<init>" 28 (ve_cw 59 1 31 [(3, 2)]) := ve_cw_ok rfl (List.forall_mem_cons.mpr ⟨ve_rowIN (md := vs_M) (A0 := vs_A) (mi := 2) (na := 0) (host := "Orderbench") (by decide +kernel : decode prog_1_method_1_code 28 = .ok (.invokespecial 15, 3)) (by decide) vw_47 vw_45 vw_44 vw_46 rfl ⟨by decide, by decide⟩ vf_2 rfl rfl 3, List.forall_mem_nil _⟩)
set_option maxRecDepth 16384 in
theorem vi_1_31 (l : Launch) : ve_OK vs_A l 59 (ve_HI vs_A l 59 vs_M) (ve_CB vs_A l 59 (ve_HI vs_A l 59 vs_M) vs_M) "Orderbench" prog_1_method_1_code 3 none "<init>" 31 (ve_aas 32 54 [3]) := ve_aast_ok (by decide +kernel : decode prog_1_method_1_code 31 = .ok (.aastore, 1)) vf_20
set_option maxRecDepth 16384 in
theorem vi_1_32 (l : Launch) : ve_OK vs_A l 59 (ve_HI vs_A l 59 vs_M) (ve_CB vs_A l 59 (ve_HI vs_A l 59 vs_M) vs_M) "Orderbench" prog_1_method_1_code 3 none "<init>" 32 (ve_pu (ve_ii 35 1 3 (1))) := ve_pu_ok (ve_iinc_ok (by decide +kernel : decode prog_1_method_1_code 32 = .ok (.iinc 1 (1), 3)))
set_option maxRecDepth 16384 in
theorem vi_1_35 (l : Launch) : ve_OK vs_A l 59 (ve_HI vs_A l 59 vs_M) (ve_CB vs_A l 59 (ve_HI vs_A l 59 vs_M) vs_M) "Orderbench" prog_1_method_1_code 3 none "<init>" 35 (ve_pu (ve_jmp 14)) := ve_pu_ok (ve_goto_ok (by decide +kernel : decode prog_1_method_1_code 35 = .ok (.goto (-21), 3)) (by decide +kernel))
set_option maxRecDepth 16384 in
theorem vi_1_38 (l : Launch) : ve_OK vs_A l 59 (ve_HI vs_A l 59 vs_M) (ve_CB vs_A l 59 (ve_HI vs_A l 59 vs_M) vs_M) "Orderbench" prog_1_method_1_code 3 none "<init>" 38 (ve_pu (ve_al 39 0)) := ve_pu_ok (ve_aload_n_ok (k := 0) (i := 0) (by decide +kernel : decode prog_1_method_1_code 38 = .ok (.aload_n 0, 1)) rfl)
set_option maxRecDepth 16384 in
theorem vi_1_39 (l : Launch) : ve_OK vs_A l 59 (ve_HI vs_A l 59 vs_M) (ve_CB vs_A l 59 (ve_HI vs_A l 59 vs_M) vs_M) "Orderbench" prog_1_method_1_code 3 none "<init>" 39 (ve_pu (ve_push 41 (.int (10)))) := ve_pu_ok (ve_bipush_ok (n := 10) (v := 10) (by decide +kernel : decode prog_1_method_1_code 39 = .ok (.bipush (10), 2)) (by decide +kernel))
set_option maxRecDepth 16384 in
theorem vi_1_41 (l : Launch) : ve_OK vs_A l 59 (ve_HI vs_A l 59 vs_M) (ve_CB vs_A l 59 (ve_HI vs_A l 59 vs_M) vs_M) "Orderbench" prog_1_method_1_code 3 none "<init>" 41 (ve_na 44 55 .null) := ve_anew2_ok (C := "Orderbench$Shape") (by decide +kernel : decode prog_1_method_1_code 41 = .ok (.anewarray 16, 3)) vw_48 vw_49 vf_21 rfl
set_option maxRecDepth 16384 in
theorem vi_1_44 (l : Launch) : ve_OK vs_A l 59 (ve_HI vs_A l 59 vs_M) (ve_CB vs_A l 59 (ve_HI vs_A l 59 vs_M) vs_M) "Orderbench" prog_1_method_1_code 3 none "<init>" 44 (ve_pf 47 1 [2] (.array (.object "Orderbench$Shape"))) := ve_putfF_ok (by decide +kernel : decode prog_1_method_1_code 44 = .ok (.putfield 18, 3)) vw_50 rfl vf_23 vf_22
set_option maxRecDepth 16384 in
theorem vi_1_47 (l : Launch) : ve_OK vs_A l 59 (ve_HI vs_A l 59 vs_M) (ve_CB vs_A l 59 (ve_HI vs_A l 59 vs_M) vs_M) "Orderbench" prog_1_method_1_code 3 none "<init>" 47 (ve_nw 50 26 [.int 0, .int 0, .int 0]) := ve_new_ok (C := "Orderbench$Base") (by decide +kernel : decode prog_1_method_1_code 47 = .ok (.new 22, 3)) vw_51 vw_52 vw_53 vf_24 rfl vf_25 rfl
set_option maxRecDepth 16384 in
theorem vi_1_50 (l : Launch) : ve_OK vs_A l 59 (ve_HI vs_A l 59 vs_M) (ve_CB vs_A l 59 (ve_HI vs_A l 59 vs_M) vs_M) "Orderbench" prog_1_method_1_code 3 none "<init>" 50 (ve_pu (ve_dup 51)) := ve_pu_ok (ve_dup_ok (by decide +kernel : decode prog_1_method_1_code 50 = .ok (.dup, 1)))
set_option maxRecDepth 16384 in
theorem vi_1_51 (l : Launch) : ve_OK vs_A l 59 (ve_HI vs_A l 59 vs_M) (ve_CB vs_A l 59 (ve_HI vs_A l 59 vs_M) vs_M) "Orderbench" prog_1_method_1_code 3 none "<init>" 51 (ve_pu (ve_push 52 (.int (0)))) := ve_pu_ok (ve_iconst_ok (n := 0) (v := 0) (by decide +kernel : decode prog_1_method_1_code 51 = .ok (.iconst (0), 1)) rfl)
set_option maxRecDepth 16384 in
theorem vi_1_52 (l : Launch) : ve_OK vs_A l 59 (ve_HI vs_A l 59 vs_M) (ve_CB vs_A l 59 (ve_HI vs_A l 59 vs_M) vs_M) "Orderbench" prog_1_method_1_code 3 none "<init>" 52 (ve_cw 59 2 55 [(26, 3)]) := ve_cw_ok rfl (List.forall_mem_cons.mpr ⟨ve_rowI (md := vs_M) (A0 := vs_A) (mi := 3) (na := 1) (by decide +kernel : decode prog_1_method_1_code 52 = .ok (.invokespecial 24, 3)) (by decide) vw_56 vw_54 vw_53 vw_55 rfl ⟨by decide, by decide⟩ vf_26 rfl rfl 26, List.forall_mem_nil _⟩)
set_option maxRecDepth 16384 in
theorem vi_1_55 (l : Launch) : ve_OK vs_A l 59 (ve_HI vs_A l 59 vs_M) (ve_CB vs_A l 59 (ve_HI vs_A l 59 vs_M) vs_M) "Orderbench" prog_1_method_1_code 3 none "<init>" 55 (ve_pu (ve_as 56 1 3)) := ve_pu_ok (ve_astore_n_ok (k := 1) (i := 1) (by decide +kernel : decode prog_1_method_1_code 55 = .ok (.astore_n 1, 1)) rfl)
set_option maxRecDepth 16384 in
theorem vi_1_56 (l : Launch) : ve_OK vs_A l 59 (ve_HI vs_A l 59 vs_M) (ve_CB vs_A l 59 (ve_HI vs_A l 59 vs_M) vs_M) "Orderbench" prog_1_method_1_code 3 none "<init>" 56 (ve_pu (ve_push 57 (.int (0)))) := ve_pu_ok (ve_iconst_ok (n := 0) (v := 0) (by decide +kernel : decode prog_1_method_1_code 56 = .ok (.iconst (0), 1)) rfl)
set_option maxRecDepth 16384 in
theorem vi_1_57 (l : Launch) : ve_OK vs_A l 59 (ve_HI vs_A l 59 vs_M) (ve_CB vs_A l 59 (ve_HI vs_A l 59 vs_M) vs_M) "Orderbench" prog_1_method_1_code 3 none "<init>" 57 (ve_pu (ve_is 58 2 3)) := ve_pu_ok (ve_istore_n_ok (k := 2) (i := 2) (by decide +kernel : decode prog_1_method_1_code 57 = .ok (.istore_n 2, 1)) rfl)
set_option maxRecDepth 16384 in
theorem vi_1_58 (l : Launch) : ve_OK vs_A l 59 (ve_HI vs_A l 59 vs_M) (ve_CB vs_A l 59 (ve_HI vs_A l 59 vs_M) vs_M) "Orderbench" prog_1_method_1_code 3 none "<init>" 58 (ve_pu (ve_il 59 2)) := ve_pu_ok (ve_iload_n_ok (k := 2) (i := 2) (by decide +kernel : decode prog_1_method_1_code 58 = .ok (.iload_n 2, 1)) rfl)
set_option maxRecDepth 16384 in
theorem vi_1_59 (l : Launch) : ve_OK vs_A l 59 (ve_HI vs_A l 59 vs_M) (ve_CB vs_A l 59 (ve_HI vs_A l 59 vs_M) vs_M) "Orderbench" prog_1_method_1_code 3 none "<init>" 59 (ve_pu (ve_push 61 (.int (10)))) := ve_pu_ok (ve_bipush_ok (n := 10) (v := 10) (by decide +kernel : decode prog_1_method_1_code 59 = .ok (.bipush (10), 2)) (by decide +kernel))
set_option maxRecDepth 16384 in
theorem vi_1_61 (l : Launch) : ve_OK vs_A l 59 (ve_HI vs_A l 59 vs_M) (ve_CB vs_A l 59 (ve_HI vs_A l 59 vs_M) vs_M) "Orderbench" prog_1_method_1_code 3 none "<init>" 61 (ve_pu (ve_br2 (fun x y => decide (¬ x < y)) 77 64)) := ve_pu_ok (ve_icmp_ge_ok (by decide +kernel : decode prog_1_method_1_code 61 = .ok (.if_icmp .ge (16), 3)) (by decide +kernel))
set_option maxRecDepth 16384 in
theorem vi_1_64 (l : Launch) : ve_OK vs_A l 59 (ve_HI vs_A l 59 vs_M) (ve_CB vs_A l 59 (ve_HI vs_A l 59 vs_M) vs_M) "Orderbench" prog_1_method_1_code 3 none "<init>" 64 (ve_pu (ve_al 65 0)) := ve_pu_ok (ve_aload_n_ok (k := 0) (i := 0) (by decide +kernel : decode prog_1_method_1_code 64 = .ok (.aload_n 0, 1)) rfl)
set_option maxRecDepth 16384 in
theorem vi_1_65 (l : Launch) : ve_OK vs_A l 59 (ve_HI vs_A l 59 vs_M) (ve_CB vs_A l 59 (ve_HI vs_A l 59 vs_M) vs_M) "Orderbench" prog_1_method_1_code 3 none "<init>" 65 (ve_gf 68 1) := ve_getf_ok (k := 1) (by decide +kernel : decode prog_1_method_1_code 65 = .ok (.getfield 18, 3)) vw_50 vf_27
set_option maxRecDepth 16384 in
theorem vi_1_68 (l : Launch) : ve_OK vs_A l 59 (ve_HI vs_A l 59 vs_M) (ve_CB vs_A l 59 (ve_HI vs_A l 59 vs_M) vs_M) "Orderbench" prog_1_method_1_code 3 none "<init>" 68 (ve_pu (ve_il 69 2)) := ve_pu_ok (ve_iload_n_ok (k := 2) (i := 2) (by decide +kernel : decode prog_1_method_1_code 68 = .ok (.iload_n 2, 1)) rfl)
set_option maxRecDepth 16384 in
theorem vi_1_69 (l : Launch) : ve_OK vs_A l 59 (ve_HI vs_A l 59 vs_M) (ve_CB vs_A l 59 (ve_HI vs_A l 59 vs_M) vs_M) "Orderbench" prog_1_method_1_code 3 none "<init>" 69 (ve_pu (ve_al 70 1)) := ve_pu_ok (ve_aload_n_ok (k := 1) (i := 1) (by decide +kernel : decode prog_1_method_1_code 69 = .ok (.aload_n 1, 1)) rfl)
set_option maxRecDepth 16384 in
theorem vi_1_70 (l : Launch) : ve_OK vs_A l 59 (ve_HI vs_A l 59 vs_M) (ve_CB vs_A l 59 (ve_HI vs_A l 59 vs_M) vs_M) "Orderbench" prog_1_method_1_code 3 none "<init>" 70 (ve_aas 71 55 [26]) := ve_aast_ok (by decide +kernel : decode prog_1_method_1_code 70 = .ok (.aastore, 1)) vf_28
set_option maxRecDepth 16384 in
theorem vi_1_71 (l : Launch) : ve_OK vs_A l 59 (ve_HI vs_A l 59 vs_M) (ve_CB vs_A l 59 (ve_HI vs_A l 59 vs_M) vs_M) "Orderbench" prog_1_method_1_code 3 none "<init>" 71 (ve_pu (ve_ii 74 2 3 (1))) := ve_pu_ok (ve_iinc_ok (by decide +kernel : decode prog_1_method_1_code 71 = .ok (.iinc 2 (1), 3)))
set_option maxRecDepth 16384 in
theorem vi_1_74 (l : Launch) : ve_OK vs_A l 59 (ve_HI vs_A l 59 vs_M) (ve_CB vs_A l 59 (ve_HI vs_A l 59 vs_M) vs_M) "Orderbench" prog_1_method_1_code 3 none "<init>" 74 (ve_pu (ve_jmp 58)) := ve_pu_ok (ve_goto_ok (by decide +kernel : decode prog_1_method_1_code 74 = .ok (.goto (-16), 3)) (by decide +kernel))
set_option maxRecDepth 16384 in
theorem vi_1_77 (l : Launch) : ve_OK vs_A l 59 (ve_HI vs_A l 59 vs_M) (ve_CB vs_A l 59 (ve_HI vs_A l 59 vs_M) vs_M) "Orderbench" prog_1_method_1_code 3 none "<init>" 77 (ve_pu (ve_al 78 0)) := ve_pu_ok (ve_aload_n_ok (k := 0) (i := 0) (by decide +kernel : decode prog_1_method_1_code 77 = .ok (.aload_n 0, 1)) rfl)
set_option maxRecDepth 16384 in
theorem vi_1_78 (l : Launch) : ve_OK vs_A l 59 (ve_HI vs_A l 59 vs_M) (ve_CB vs_A l 59 (ve_HI vs_A l 59 vs_M) vs_M) "Orderbench" prog_1_method_1_code 3 none "<init>" 78 (ve_nw 81 3 [.null, .int 0]) := ve_new_ok (C := "Orderbench$Row") (by decide +kernel : decode prog_1_method_1_code 78 = .ok (.new 9, 3)) vw_40 vw_43 vw_44 vf_18 rfl vf_19 rfl
set_option maxRecDepth 16384 in
theorem vi_1_81 (l : Launch) : ve_OK vs_A l 59 (ve_HI vs_A l 59 vs_M) (ve_CB vs_A l 59 (ve_HI vs_A l 59 vs_M) vs_M) "Orderbench" prog_1_method_1_code 3 none "<init>" 81 (ve_pu (ve_dup 82)) := ve_pu_ok (ve_dup_ok (by decide +kernel : decode prog_1_method_1_code 81 = .ok (.dup, 1)))
set_option maxRecDepth 16384 in
theorem vi_1_82 (l : Launch) : ve_OK vs_A l 59 (ve_HI vs_A l 59 vs_M) (ve_CB vs_A l 59 (ve_HI vs_A l 59 vs_M) vs_M) "Orderbench" prog_1_method_1_code 3 none "<init>" 82 (ve_cw 59 1 85 [(3, 2)]) := ve_cw_ok rfl (List.forall_mem_cons.mpr ⟨ve_rowIN (md := vs_M) (A0 := vs_A) (mi := 2) (na := 0) (host := "Orderbench") (by decide +kernel : decode prog_1_method_1_code 82 = .ok (.invokespecial 15, 3)) (by decide) vw_47 vw_45 vw_44 vw_46 rfl ⟨by decide, by decide⟩ vf_2 rfl rfl 3, List.forall_mem_nil _⟩)
set_option maxRecDepth 16384 in
theorem vi_1_85 (l : Launch) : ve_OK vs_A l 59 (ve_HI vs_A l 59 vs_M) (ve_CB vs_A l 59 (ve_HI vs_A l 59 vs_M) vs_M) "Orderbench" prog_1_method_1_code 3 none "<init>" 85 (ve_pf 88 2 [2] (.object "Orderbench$Row")) := ve_putfF_ok (by decide +kernel : decode prog_1_method_1_code 85 = .ok (.putfield 27, 3)) vw_57 rfl vf_30 vf_29
set_option maxRecDepth 16384 in
theorem vi_1_88 (l : Launch) : ve_OK vs_A l 59 (ve_HI vs_A l 59 vs_M) (ve_CB vs_A l 59 (ve_HI vs_A l 59 vs_M) vs_M) "Orderbench" prog_1_method_1_code 3 none "<init>" 88 (ve_pu (ve_al 89 0)) := ve_pu_ok (ve_aload_n_ok (k := 0) (i := 0) (by decide +kernel : decode prog_1_method_1_code 88 = .ok (.aload_n 0, 1)) rfl)
set_option maxRecDepth 16384 in
theorem vi_1_89 (l : Launch) : ve_OK vs_A l 59 (ve_HI vs_A l 59 vs_M) (ve_CB vs_A l 59 (ve_HI vs_A l 59 vs_M) vs_M) "Orderbench" prog_1_method_1_code 3 none "<init>" 89 (ve_nw 92 3 [.null, .int 0]) := ve_new_ok (C := "Orderbench$Row") (by decide +kernel : decode prog_1_method_1_code 89 = .ok (.new 9, 3)) vw_40 vw_43 vw_44 vf_18 rfl vf_19 rfl
set_option maxRecDepth 16384 in
theorem vi_1_92 (l : Launch) : ve_OK vs_A l 59 (ve_HI vs_A l 59 vs_M) (ve_CB vs_A l 59 (ve_HI vs_A l 59 vs_M) vs_M) "Orderbench" prog_1_method_1_code 3 none "<init>" 92 (ve_pu (ve_dup 93)) := ve_pu_ok (ve_dup_ok (by decide +kernel : decode prog_1_method_1_code 92 = .ok (.dup, 1)))
set_option maxRecDepth 16384 in
theorem vi_1_93 (l : Launch) : ve_OK vs_A l 59 (ve_HI vs_A l 59 vs_M) (ve_CB vs_A l 59 (ve_HI vs_A l 59 vs_M) vs_M) "Orderbench" prog_1_method_1_code 3 none "<init>" 93 (ve_cw 59 1 96 [(3, 2)]) := ve_cw_ok rfl (List.forall_mem_cons.mpr ⟨ve_rowIN (md := vs_M) (A0 := vs_A) (mi := 2) (na := 0) (host := "Orderbench") (by decide +kernel : decode prog_1_method_1_code 93 = .ok (.invokespecial 15, 3)) (by decide) vw_47 vw_45 vw_44 vw_46 rfl ⟨by decide, by decide⟩ vf_2 rfl rfl 3, List.forall_mem_nil _⟩)
set_option maxRecDepth 16384 in
theorem vi_1_96 (l : Launch) : ve_OK vs_A l 59 (ve_HI vs_A l 59 vs_M) (ve_CB vs_A l 59 (ve_HI vs_A l 59 vs_M) vs_M) "Orderbench" prog_1_method_1_code 3 none "<init>" 96 (ve_pf 99 3 [2] (.object "Orderbench$Row")) := ve_putfF_ok (by decide +kernel : decode prog_1_method_1_code 96 = .ok (.putfield 31, 3)) vw_58 rfl vf_32 vf_31
set_option maxRecDepth 16384 in
theorem vi_1_99 (l : Launch) : ve_OK vs_A l 59 (ve_HI vs_A l 59 vs_M) (ve_CB vs_A l 59 (ve_HI vs_A l 59 vs_M) vs_M) "Orderbench" prog_1_method_1_code 3 none "<init>" 99 (ve_pu (ve_al 100 0)) := ve_pu_ok (ve_aload_n_ok (k := 0) (i := 0) (by decide +kernel : decode prog_1_method_1_code 99 = .ok (.aload_n 0, 1)) rfl)
set_option maxRecDepth 16384 in
theorem vi_1_100 (l : Launch) : ve_OK vs_A l 59 (ve_HI vs_A l 59 vs_M) (ve_CB vs_A l 59 (ve_HI vs_A l 59 vs_M) vs_M) "Orderbench" prog_1_method_1_code 3 none "<init>" 100 (ve_pu (ve_push 102 (.int (16)))) := ve_pu_ok (ve_bipush_ok (n := 16) (v := 16) (by decide +kernel : decode prog_1_method_1_code 100 = .ok (.bipush (16), 2)) (by decide +kernel))
set_option maxRecDepth 16384 in
theorem vi_1_102 (l : Launch) : ve_OK vs_A l 59 (ve_HI vs_A l 59 vs_M) (ve_CB vs_A l 59 (ve_HI vs_A l 59 vs_M) vs_M) "Orderbench" prog_1_method_1_code 3 none "<init>" 102 (ve_na 104 51 (.int 0)) := ve_newa_ok (cls := 51) (ty := .int) (by decide +kernel : decode prog_1_method_1_code 102 = .ok (.newarray .int, 2)) vw_59 vf_33 rfl rfl rfl (by decide)
set_option maxRecDepth 16384 in
theorem vi_1_104 (l : Launch) : ve_OK vs_A l 59 (ve_HI vs_A l 59 vs_M) (ve_CB vs_A l 59 (ve_HI vs_A l 59 vs_M) vs_M) "Orderbench" prog_1_method_1_code 3 none "<init>" 104 (ve_pf 107 4 [2] (.array .int)) := ve_putfF_ok (by decide +kernel : decode prog_1_method_1_code 104 = .ok (.putfield 34, 3)) vw_60 rfl vf_35 vf_34
set_option maxRecDepth 16384 in
theorem vi_1_107 (l : Launch) : ve_OK vs_A l 59 (ve_HI vs_A l 59 vs_M) (ve_CB vs_A l 59 (ve_HI vs_A l 59 vs_M) vs_M) "Orderbench" prog_1_method_1_code 3 none "<init>" 107 (ve_pu (ve_al 108 0)) := ve_pu_ok (ve_aload_n_ok (k := 0) (i := 0) (by decide +kernel : decode prog_1_method_1_code 107 = .ok (.aload_n 0, 1)) rfl)
set_option maxRecDepth 16384 in
theorem vi_1_108 (l : Launch) : ve_OK vs_A l 59 (ve_HI vs_A l 59 vs_M) (ve_CB vs_A l 59 (ve_HI vs_A l 59 vs_M) vs_M) "Orderbench" prog_1_method_1_code 3 none "<init>" 108 (ve_nw 111 36 [.null, .int 0, .int 0, .int 0]) := ve_new_ok (C := "java/lang/StringBuilder") (by decide +kernel : decode prog_1_method_1_code 108 = .ok (.new 38, 3)) vw_61 vw_62 vw_63 vf_36 rfl vf_37 rfl
set_option maxRecDepth 16384 in
theorem vi_1_111 (l : Launch) : ve_OK vs_A l 59 (ve_HI vs_A l 59 vs_M) (ve_CB vs_A l 59 (ve_HI vs_A l 59 vs_M) vs_M) "Orderbench" prog_1_method_1_code 3 none "<init>" 111 (ve_pu (ve_dup 112)) := ve_pu_ok (ve_dup_ok (by decide +kernel : decode prog_1_method_1_code 111 = .ok (.dup, 1)))
set_option maxRecDepth 16384 in
theorem vi_1_112 (l : Launch) : ve_OK vs_A l 59 (ve_HI vs_A l 59 vs_M) (ve_CB vs_A l 59 (ve_HI vs_A l 59 vs_M) vs_M) "Orderbench" prog_1_method_1_code 3 none "<init>" 112 (ve_cw 59 1 115 [(36, 5)]) := ve_cw_ok rfl (List.forall_mem_cons.mpr ⟨ve_rowI (md := vs_M) (A0 := vs_A) (mi := 5) (na := 0) (by decide +kernel : decode prog_1_method_1_code 112 = .ok (.invokespecial 40, 3)) (by decide) vw_66 vw_64 vw_63 vw_65 rfl ⟨by decide, by decide⟩ vf_2 rfl rfl 36, List.forall_mem_nil _⟩)
set_option maxRecDepth 16384 in
theorem vi_1_115 (l : Launch) : ve_OK vs_A l 59 (ve_HI vs_A l 59 vs_M) (ve_CB vs_A l 59 (ve_HI vs_A l 59 vs_M) vs_M) "Orderbench" prog_1_method_1_code 3 none "<init>" 115 (ve_pf 118 5 [2] (.object "java/lang/StringBuilder")) := ve_putfF_ok (by decide +kernel : decode prog_1_method_1_code 115 = .ok (.putfield 41, 3)) vw_67 rfl vf_39 vf_38
set_option maxRecDepth 16384 in
theorem vi_1_118 (l : Launch) : ve_OK vs_A l 59 (ve_HI vs_A l 59 vs_M) (ve_CB vs_A l 59 (ve_HI vs_A l 59 vs_M) vs_M) "Orderbench" prog_1_method_1_code 3 none "<init>" 118 (ve_rt 0 .int) := ve_vret_ok (by decide +kernel : decode prog_1_method_1_code 118 = .ok (.return_, 1)) rfl
set_option maxRecDepth 16384 in
theorem vi_2_0 (l : Launch) : ve_OK vs_A l 59 (ve_HI vs_A l 59 vs_M) (ve_CB vs_A l 59 (ve_HI vs_A l 59 vs_M) vs_M) "Orderbench$Row" prog_4_method_1_code 1 none "<init>" 0 (ve_pu (ve_al 1 0)) := ve_pu_ok (ve_aload_n_ok (k := 0) (i := 0) (by decide +kernel : decode prog_4_method_1_code 0 = .ok (.aload_n 0, 1)) rfl)
set_option maxRecDepth 16384 in
theorem vi_2_1 (l : Launch) : ve_OK vs_A l 59 (ve_HI vs_A l 59 vs_M) (ve_CB vs_A l 59 (ve_HI vs_A l 59 vs_M) vs_M) "Orderbench$Row" prog_4_method_1_code 1 none "<init>" 1 (ve_pu (ve_oi 4)) := ve_cu_ok (ve_oi_ok (by decide +kernel : decode prog_4_method_1_code 1 = .ok (.invokespecial 3, 3)) vw_68 vw_38 vw_39)
set_option maxRecDepth 16384 in
theorem vi_2_4 (l : Launch) : ve_OK vs_A l 59 (ve_HI vs_A l 59 vs_M) (ve_CB vs_A l 59 (ve_HI vs_A l 59 vs_M) vs_M) "Orderbench$Row" prog_4_method_1_code 1 none "<init>" 4 (ve_pu (ve_al 5 0)) := ve_pu_ok (ve_aload_n_ok (k := 0) (i := 0) (by decide +kernel : decode prog_4_method_1_code 4 = .ok (.aload_n 0, 1)) rfl)
set_option maxRecDepth 16384 in
theorem vi_2_5 (l : Launch) : ve_OK vs_A l 59 (ve_HI vs_A l 59 vs_M) (ve_CB vs_A l 59 (ve_HI vs_A l 59 vs_M) vs_M) "Orderbench$Row" prog_4_method_1_code 1 none "<init>" 5 (ve_pu (ve_push 7 (.int (16)))) := ve_pu_ok (ve_bipush_ok (n := 16) (v := 16) (by decide +kernel : decode prog_4_method_1_code 5 = .ok (.bipush (16), 2)) (by decide +kernel))
set_option maxRecDepth 16384 in
theorem vi_2_7 (l : Launch) : ve_OK vs_A l 59 (ve_HI vs_A l 59 vs_M) (ve_CB vs_A l 59 (ve_HI vs_A l 59 vs_M) vs_M) "Orderbench$Row" prog_4_method_1_code 1 none "<init>" 7 (ve_na 9 51 (.int 0)) := ve_newa_ok (cls := 51) (ty := .int) (by decide +kernel : decode prog_4_method_1_code 7 = .ok (.newarray .int, 2)) vw_59 vf_33 rfl rfl rfl (by decide)
set_option maxRecDepth 16384 in
theorem vi_2_9 (l : Launch) : ve_OK vs_A l 59 (ve_HI vs_A l 59 vs_M) (ve_CB vs_A l 59 (ve_HI vs_A l 59 vs_M) vs_M) "Orderbench$Row" prog_4_method_1_code 1 none "<init>" 9 (ve_pf 12 0 [3] (.array .int)) := ve_putfF_ok (by decide +kernel : decode prog_4_method_1_code 9 = .ok (.putfield 9, 3)) vw_69 rfl vf_41 vf_40
set_option maxRecDepth 16384 in
theorem vi_2_12 (l : Launch) : ve_OK vs_A l 59 (ve_HI vs_A l 59 vs_M) (ve_CB vs_A l 59 (ve_HI vs_A l 59 vs_M) vs_M) "Orderbench$Row" prog_4_method_1_code 1 none "<init>" 12 (ve_rt 0 .int) := ve_vret_ok (by decide +kernel : decode prog_4_method_1_code 12 = .ok (.return_, 1)) rfl
set_option maxRecDepth 16384 in
theorem vi_3_0 (l : Launch) : ve_OK vs_A l 59 (ve_HI vs_A l 59 vs_M) (ve_CB vs_A l 59 (ve_HI vs_A l 59 vs_M) vs_M) "Orderbench$Base" prog_2_method_1_code 2 none "<init>" 0 (ve_pu (ve_al 1 0)) := ve_pu_ok (ve_aload_n_ok (k := 0) (i := 0) (by decide +kernel : decode prog_2_method_1_code 0 = .ok (.aload_n 0, 1)) rfl)
set_option maxRecDepth 16384 in
theorem vi_3_1 (l : Launch) : ve_OK vs_A l 59 (ve_HI vs_A l 59 vs_M) (ve_CB vs_A l 59 (ve_HI vs_A l 59 vs_M) vs_M) "Orderbench$Base" prog_2_method_1_code 2 none "<init>" 1 (ve_pu (ve_push 2 (.int (1)))) := ve_pu_ok (ve_iconst_ok (n := 1) (v := 1) (by decide +kernel : decode prog_2_method_1_code 1 = .ok (.iconst (1), 1)) rfl)
set_option maxRecDepth 16384 in
theorem vi_3_2 (l : Launch) : ve_OK vs_A l 59 (ve_HI vs_A l 59 vs_M) (ve_CB vs_A l 59 (ve_HI vs_A l 59 vs_M) vs_M) "Orderbench$Base" prog_2_method_1_code 2 none "<init>" 2 (ve_pu (ve_push 3 (.int (0)))) := ve_pu_ok (ve_iconst_ok (n := 0) (v := 0) (by decide +kernel : decode prog_2_method_1_code 2 = .ok (.iconst (0), 1)) rfl)
set_option maxRecDepth 16384 in
theorem vi_3_3 (l : Launch) : ve_OK vs_A l 59 (ve_HI vs_A l 59 vs_M) (ve_CB vs_A l 59 (ve_HI vs_A l 59 vs_M) vs_M) "Orderbench$Base" prog_2_method_1_code 2 none "<init>" 3 (ve_cw 59 3 6 [(26, 4)]) := ve_cw_ok rfl (List.forall_mem_cons.mpr ⟨ve_rowI (md := vs_M) (A0 := vs_A) (mi := 4) (na := 2) (by decide +kernel : decode prog_2_method_1_code 3 = .ok (.invokespecial 3, 3)) (by decide) vw_73 vw_70 vw_71 vw_72 rfl ⟨by decide, by decide⟩ vf_42 rfl rfl 26, List.forall_mem_nil _⟩)
set_option maxRecDepth 16384 in
theorem vi_3_6 (l : Launch) : ve_OK vs_A l 59 (ve_HI vs_A l 59 vs_M) (ve_CB vs_A l 59 (ve_HI vs_A l 59 vs_M) vs_M) "Orderbench$Base" prog_2_method_1_code 2 none "<init>" 6 (ve_pu (ve_al 7 0)) := ve_pu_ok (ve_aload_n_ok (k := 0) (i := 0) (by decide +kernel : decode prog_2_method_1_code 6 = .ok (.aload_n 0, 1)) rfl)
set_option maxRecDepth 16384 in
theorem vi_3_7 (l : Launch) : ve_OK vs_A l 59 (ve_HI vs_A l 59 vs_M) (ve_CB vs_A l 59 (ve_HI vs_A l 59 vs_M) vs_M) "Orderbench$Base" prog_2_method_1_code 2 none "<init>" 7 (ve_pu (ve_il 8 1)) := ve_pu_ok (ve_iload_n_ok (k := 1) (i := 1) (by decide +kernel : decode prog_2_method_1_code 7 = .ok (.iload_n 1, 1)) rfl)
set_option maxRecDepth 16384 in
theorem vi_3_8 (l : Launch) : ve_OK vs_A l 59 (ve_HI vs_A l 59 vs_M) (ve_CB vs_A l 59 (ve_HI vs_A l 59 vs_M) vs_M) "Orderbench$Base" prog_2_method_1_code 2 none "<init>" 8 (ve_pf 11 2 [26] .int) := ve_putfF_ok (by decide +kernel : decode prog_2_method_1_code 8 = .ok (.putfield 9, 3)) vw_74 rfl vf_44 vf_43
set_option maxRecDepth 16384 in
theorem vi_3_11 (l : Launch) : ve_OK vs_A l 59 (ve_HI vs_A l 59 vs_M) (ve_CB vs_A l 59 (ve_HI vs_A l 59 vs_M) vs_M) "Orderbench$Base" prog_2_method_1_code 2 none "<init>" 11 (ve_rt 0 .int) := ve_vret_ok (by decide +kernel : decode prog_2_method_1_code 11 = .ok (.return_, 1)) rfl
set_option maxRecDepth 16384 in
theorem vi_4_0 (l : Launch) : ve_OK vs_A l 59 (ve_HI vs_A l 59 vs_M) (ve_CB vs_A l 59 (ve_HI vs_A l 59 vs_M) vs_M) "Orderbench$Shape" prog_5_method_1_code 3 none "<init>" 0 (ve_pu (ve_al 1 0)) := ve_pu_ok (ve_aload_n_ok (k := 0) (i := 0) (by decide +kernel : decode prog_5_method_1_code 0 = .ok (.aload_n 0, 1)) rfl)
set_option maxRecDepth 16384 in
theorem vi_4_1 (l : Launch) : ve_OK vs_A l 59 (ve_HI vs_A l 59 vs_M) (ve_CB vs_A l 59 (ve_HI vs_A l 59 vs_M) vs_M) "Orderbench$Shape" prog_5_method_1_code 3 none "<init>" 1 (ve_pu (ve_oi 4)) := ve_cu_ok (ve_oi_ok (by decide +kernel : decode prog_5_method_1_code 1 = .ok (.invokespecial 1, 3)) vw_75 vw_38 vw_39)
set_option maxRecDepth 16384 in
theorem vi_4_4 (l : Launch) : ve_OK vs_A l 59 (ve_HI vs_A l 59 vs_M) (ve_CB vs_A l 59 (ve_HI vs_A l 59 vs_M) vs_M) "Orderbench$Shape" prog_5_method_1_code 3 none "<init>" 4 (ve_pu (ve_al 5 0)) := ve_pu_ok (ve_aload_n_ok (k := 0) (i := 0) (by decide +kernel : decode prog_5_method_1_code 4 = .ok (.aload_n 0, 1)) rfl)
set_option maxRecDepth 16384 in
theorem vi_4_5 (l : Launch) : ve_OK vs_A l 59 (ve_HI vs_A l 59 vs_M) (ve_CB vs_A l 59 (ve_HI vs_A l 59 vs_M) vs_M) "Orderbench$Shape" prog_5_method_1_code 3 none "<init>" 5 (ve_pu (ve_il 6 1)) := ve_pu_ok (ve_iload_n_ok (k := 1) (i := 1) (by decide +kernel : decode prog_5_method_1_code 5 = .ok (.iload_n 1, 1)) rfl)
set_option maxRecDepth 16384 in
theorem vi_4_6 (l : Launch) : ve_OK vs_A l 59 (ve_HI vs_A l 59 vs_M) (ve_CB vs_A l 59 (ve_HI vs_A l 59 vs_M) vs_M) "Orderbench$Shape" prog_5_method_1_code 3 none "<init>" 6 (ve_pf 9 0 [26, 32, 33] .int) := ve_putfF_ok (by decide +kernel : decode prog_5_method_1_code 6 = .ok (.putfield 7, 3)) vw_76 rfl vf_46 vf_45
set_option maxRecDepth 16384 in
theorem vi_4_9 (l : Launch) : ve_OK vs_A l 59 (ve_HI vs_A l 59 vs_M) (ve_CB vs_A l 59 (ve_HI vs_A l 59 vs_M) vs_M) "Orderbench$Shape" prog_5_method_1_code 3 none "<init>" 9 (ve_pu (ve_al 10 0)) := ve_pu_ok (ve_aload_n_ok (k := 0) (i := 0) (by decide +kernel : decode prog_5_method_1_code 9 = .ok (.aload_n 0, 1)) rfl)
set_option maxRecDepth 16384 in
theorem vi_4_10 (l : Launch) : ve_OK vs_A l 59 (ve_HI vs_A l 59 vs_M) (ve_CB vs_A l 59 (ve_HI vs_A l 59 vs_M) vs_M) "Orderbench$Shape" prog_5_method_1_code 3 none "<init>" 10 (ve_pu (ve_il 11 2)) := ve_pu_ok (ve_iload_n_ok (k := 2) (i := 2) (by decide +kernel : decode prog_5_method_1_code 10 = .ok (.iload_n 2, 1)) rfl)
set_option maxRecDepth 16384 in
theorem vi_4_11 (l : Launch) : ve_OK vs_A l 59 (ve_HI vs_A l 59 vs_M) (ve_CB vs_A l 59 (ve_HI vs_A l 59 vs_M) vs_M) "Orderbench$Shape" prog_5_method_1_code 3 none "<init>" 11 (ve_pf 14 1 [26, 32, 33] .boolean) := ve_putfF_ok (by decide +kernel : decode prog_5_method_1_code 11 = .ok (.putfield 13, 3)) vw_77 rfl vf_48 vf_47
set_option maxRecDepth 16384 in
theorem vi_4_14 (l : Launch) : ve_OK vs_A l 59 (ve_HI vs_A l 59 vs_M) (ve_CB vs_A l 59 (ve_HI vs_A l 59 vs_M) vs_M) "Orderbench$Shape" prog_5_method_1_code 3 none "<init>" 14 (ve_rt 0 .int) := ve_vret_ok (by decide +kernel : decode prog_5_method_1_code 14 = .ok (.return_, 1)) rfl
set_option maxRecDepth 16384 in
theorem vi_5_0 (l : Launch) : ve_OK vs_A l 59 (ve_HI vs_A l 59 vs_M) (ve_CB vs_A l 59 (ve_HI vs_A l 59 vs_M) vs_M) "java/lang/StringBuilder" prog_29_method_1_code 1 none "<init>" 0 (ve_pu (ve_al 1 0)) := ve_pu_ok (ve_aload_n_ok (k := 0) (i := 0) (by decide +kernel : decode prog_29_method_1_code 0 = .ok (.aload_n 0, 1)) rfl)
set_option maxRecDepth 16384 in
theorem vi_5_1 (l : Launch) : ve_OK vs_A l 59 (ve_HI vs_A l 59 vs_M) (ve_CB vs_A l 59 (ve_HI vs_A l 59 vs_M) vs_M) "java/lang/StringBuilder" prog_29_method_1_code 1 none "<init>" 1 (ve_pu (ve_push 3 (.int (16)))) := ve_pu_ok (ve_bipush_ok (n := 16) (v := 16) (by decide +kernel : decode prog_29_method_1_code 1 = .ok (.bipush (16), 2)) (by decide +kernel))
set_option maxRecDepth 16384 in
theorem vi_5_3 (l : Launch) : ve_OK vs_A l 59 (ve_HI vs_A l 59 vs_M) (ve_CB vs_A l 59 (ve_HI vs_A l 59 vs_M) vs_M) "java/lang/StringBuilder" prog_29_method_1_code 1 none "<init>" 3 (ve_cw 59 2 6 [(36, 6)]) := ve_cw_ok rfl (List.forall_mem_cons.mpr ⟨ve_rowI (md := vs_M) (A0 := vs_A) (mi := 6) (na := 1) (by decide +kernel : decode prog_29_method_1_code 3 = .ok (.invokespecial 1, 3)) (by decide) vw_81 vw_78 vw_79 vw_80 rfl ⟨by decide, by decide⟩ vf_26 rfl rfl 36, List.forall_mem_nil _⟩)
set_option maxRecDepth 16384 in
theorem vi_5_6 (l : Launch) : ve_OK vs_A l 59 (ve_HI vs_A l 59 vs_M) (ve_CB vs_A l 59 (ve_HI vs_A l 59 vs_M) vs_M) "java/lang/StringBuilder" prog_29_method_1_code 1 none "<init>" 6 (ve_rt 0 .int) := ve_vret_ok (by decide +kernel : decode prog_29_method_1_code 6 = .ok (.return_, 1)) rfl
set_option maxRecDepth 16384 in
theorem vi_6_0 (l : Launch) : ve_OK vs_A l 59 (ve_HI vs_A l 59 vs_M) (ve_CB vs_A l 59 (ve_HI vs_A l 59 vs_M) vs_M) "java/lang/AbstractStringBuilder" prog_13_method_2_code 2 none "<init>" 0 (ve_pu (ve_al 1 0)) := ve_pu_ok (ve_aload_n_ok (k := 0) (i := 0) (by decide +kernel : decode prog_13_method_2_code 0 = .ok (.aload_n 0, 1)) rfl)
set_option maxRecDepth 16384 in
theorem vi_6_1 (l : Launch) : ve_OK vs_A l 59 (ve_HI vs_A l 59 vs_M) (ve_CB vs_A l 59 (ve_HI vs_A l 59 vs_M) vs_M) "java/lang/AbstractStringBuilder" prog_13_method_2_code 2 none "<init>" 1 (ve_pu (ve_oi 4)) := ve_cu_ok (ve_oi_ok (by decide +kernel : decode prog_13_method_2_code 1 = .ok (.invokespecial 3, 3)) vw_82 vw_38 vw_39)
set_option maxRecDepth 16384 in
theorem vi_6_4 (l : Launch) : ve_OK vs_A l 59 (ve_HI vs_A l 59 vs_M) (ve_CB vs_A l 59 (ve_HI vs_A l 59 vs_M) vs_M) "java/lang/AbstractStringBuilder" prog_13_method_2_code 2 none "<init>" 4 (ve_gs 7 3 1) := ve_gets_ok (by decide +kernel : decode prog_13_method_2_code 4 = .ok (.getstatic 18, 3)) vw_83 (by decide) vf_49
set_option maxRecDepth 16384 in
theorem vi_6_7 (l : Launch) : ve_OK vs_A l 59 (ve_HI vs_A l 59 vs_M) (ve_CB vs_A l 59 (ve_HI vs_A l 59 vs_M) vs_M) "java/lang/AbstractStringBuilder" prog_13_method_2_code 2 none "<init>" 7 (ve_pu (ve_br1 (fun x => decide (x = 0)) 25 10)) := ve_pu_ok (ve_if_eq_ok (by decide +kernel : decode prog_13_method_2_code 7 = .ok (.ifCond .eq (18), 3)) (by decide +kernel))
set_option maxRecDepth 16384 in
theorem vi_6_10 (l : Launch) : ve_OK vs_A l 59 (ve_HI vs_A l 59 vs_M) (ve_CB vs_A l 59 (ve_HI vs_A l 59 vs_M) vs_M) "java/lang/AbstractStringBuilder" prog_13_method_2_code 2 none "<init>" 10 (ve_pu (ve_al 11 0)) := ve_pu_ok (ve_aload_n_ok (k := 0) (i := 0) (by decide +kernel : decode prog_13_method_2_code 10 = .ok (.aload_n 0, 1)) rfl)
set_option maxRecDepth 16384 in
theorem vi_6_11 (l : Launch) : ve_OK vs_A l 59 (ve_HI vs_A l 59 vs_M) (ve_CB vs_A l 59 (ve_HI vs_A l 59 vs_M) vs_M) "java/lang/AbstractStringBuilder" prog_13_method_2_code 2 none "<init>" 11 (ve_pu (ve_il 12 1)) := ve_pu_ok (ve_iload_n_ok (k := 1) (i := 1) (by decide +kernel : decode prog_13_method_2_code 11 = .ok (.iload_n 1, 1)) rfl)
set_option maxRecDepth 16384 in
theorem vi_6_12 (l : Launch) : ve_OK vs_A l 59 (ve_HI vs_A l 59 vs_M) (ve_CB vs_A l 59 (ve_HI vs_A l 59 vs_M) vs_M) "java/lang/AbstractStringBuilder" prog_13_method_2_code 2 none "<init>" 12 (ve_na 14 53 (.int 0)) := ve_newa_ok (cls := 53) (ty := .byte) (by decide +kernel : decode prog_13_method_2_code 12 = .ok (.newarray .byte, 2)) vw_84 vf_50 rfl rfl rfl (by decide)
set_option maxRecDepth 16384 in
theorem vi_6_14 (l : Launch) : ve_OK vs_A l 59 (ve_HI vs_A l 59 vs_M) (ve_CB vs_A l 59 (ve_HI vs_A l 59 vs_M) vs_M) "java/lang/AbstractStringBuilder" prog_13_method_2_code 2 none "<init>" 14 (ve_pf 17 0 [36] (.array .byte)) := ve_putf_ok (by decide +kernel : decode prog_13_method_2_code 14 = .ok (.putfield 15, 3)) vw_85 vf_52 vf_51
set_option maxRecDepth 16384 in
theorem vi_6_17 (l : Launch) : ve_OK vs_A l 59 (ve_HI vs_A l 59 vs_M) (ve_CB vs_A l 59 (ve_HI vs_A l 59 vs_M) vs_M) "java/lang/AbstractStringBuilder" prog_13_method_2_code 2 none "<init>" 17 (ve_pu (ve_al 18 0)) := ve_pu_ok (ve_aload_n_ok (k := 0) (i := 0) (by decide +kernel : decode prog_13_method_2_code 17 = .ok (.aload_n 0, 1)) rfl)
set_option maxRecDepth 16384 in
theorem vi_6_18 (l : Launch) : ve_OK vs_A l 59 (ve_HI vs_A l 59 vs_M) (ve_CB vs_A l 59 (ve_HI vs_A l 59 vs_M) vs_M) "java/lang/AbstractStringBuilder" prog_13_method_2_code 2 none "<init>" 18 (ve_pu (ve_push 19 (.int (0)))) := ve_pu_ok (ve_iconst_ok (n := 0) (v := 0) (by decide +kernel : decode prog_13_method_2_code 18 = .ok (.iconst (0), 1)) rfl)
set_option maxRecDepth 16384 in
theorem vi_6_19 (l : Launch) : ve_OK vs_A l 59 (ve_HI vs_A l 59 vs_M) (ve_CB vs_A l 59 (ve_HI vs_A l 59 vs_M) vs_M) "java/lang/AbstractStringBuilder" prog_13_method_2_code 2 none "<init>" 19 (ve_pf 22 1 [36] .byte) := ve_putf_ok (by decide +kernel : decode prog_13_method_2_code 19 = .ok (.putfield 22, 3)) vw_86 vf_54 vf_53
set_option maxRecDepth 16384 in
theorem vi_6_22 (l : Launch) : ve_OK vs_A l 59 (ve_HI vs_A l 59 vs_M) (ve_CB vs_A l 59 (ve_HI vs_A l 59 vs_M) vs_M) "java/lang/AbstractStringBuilder" prog_13_method_2_code 2 none "<init>" 22 (ve_pu (ve_jmp 38)) := ve_pu_ok (ve_goto_ok (by decide +kernel : decode prog_13_method_2_code 22 = .ok (.goto (16), 3)) (by decide +kernel))
set_option maxRecDepth 16384 in
theorem vi_6_38 (l : Launch) : ve_OK vs_A l 59 (ve_HI vs_A l 59 vs_M) (ve_CB vs_A l 59 (ve_HI vs_A l 59 vs_M) vs_M) "java/lang/AbstractStringBuilder" prog_13_method_2_code 2 none "<init>" 38 (ve_rt 0 .int) := ve_vret_ok (by decide +kernel : decode prog_13_method_2_code 38 = .ok (.return_, 1)) rfl
set_option maxRecDepth 16384 in
theorem vi_7_0 (l : Launch) : ve_OK vs_A l 59 (ve_HI vs_A l 59 vs_M) (ve_CB vs_A l 59 (ve_HI vs_A l 59 vs_M) vs_M) "OrderbenchModel" prog_10_method_1_code 2 none "<init>" 0 (ve_pu (ve_al 1 0)) := ve_pu_ok (ve_aload_n_ok (k := 0) (i := 0) (by decide +kernel : decode prog_10_method_1_code 0 = .ok (.aload_n 0, 1)) rfl)
set_option maxRecDepth 16384 in
theorem vi_7_1 (l : Launch) : ve_OK vs_A l 59 (ve_HI vs_A l 59 vs_M) (ve_CB vs_A l 59 (ve_HI vs_A l 59 vs_M) vs_M) "OrderbenchModel" prog_10_method_1_code 2 none "<init>" 1 (ve_pu (ve_oi 4)) := ve_cu_ok (ve_oi_ok (by decide +kernel : decode prog_10_method_1_code 1 = .ok (.invokespecial 1, 3)) vw_87 vw_38 vw_39)
set_option maxRecDepth 16384 in
theorem vi_7_4 (l : Launch) : ve_OK vs_A l 59 (ve_HI vs_A l 59 vs_M) (ve_CB vs_A l 59 (ve_HI vs_A l 59 vs_M) vs_M) "OrderbenchModel" prog_10_method_1_code 2 none "<init>" 4 (ve_pu (ve_al 5 0)) := ve_pu_ok (ve_aload_n_ok (k := 0) (i := 0) (by decide +kernel : decode prog_10_method_1_code 4 = .ok (.aload_n 0, 1)) rfl)
set_option maxRecDepth 16384 in
theorem vi_7_5 (l : Launch) : ve_OK vs_A l 59 (ve_HI vs_A l 59 vs_M) (ve_CB vs_A l 59 (ve_HI vs_A l 59 vs_M) vs_M) "OrderbenchModel" prog_10_method_1_code 2 none "<init>" 5 (ve_nw 8 47 [.int 0, .null, .int 0]) := ve_new_ok (C := "java/util/ArrayList") (by decide +kernel : decode prog_10_method_1_code 5 = .ok (.new 7, 3)) vw_88 vw_89 vw_90 vf_55 rfl vf_56 rfl
set_option maxRecDepth 16384 in
theorem vi_7_8 (l : Launch) : ve_OK vs_A l 59 (ve_HI vs_A l 59 vs_M) (ve_CB vs_A l 59 (ve_HI vs_A l 59 vs_M) vs_M) "OrderbenchModel" prog_10_method_1_code 2 none "<init>" 8 (ve_pu (ve_dup 9)) := ve_pu_ok (ve_dup_ok (by decide +kernel : decode prog_10_method_1_code 8 = .ok (.dup, 1)))
set_option maxRecDepth 16384 in
theorem vi_7_9 (l : Launch) : ve_OK vs_A l 59 (ve_HI vs_A l 59 vs_M) (ve_CB vs_A l 59 (ve_HI vs_A l 59 vs_M) vs_M) "OrderbenchModel" prog_10_method_1_code 2 none "<init>" 9 (ve_cw 59 1 12 [(47, 8)]) := ve_cw_ok rfl (List.forall_mem_cons.mpr ⟨ve_rowI (md := vs_M) (A0 := vs_A) (mi := 8) (na := 0) (by decide +kernel : decode prog_10_method_1_code 9 = .ok (.invokespecial 9, 3)) (by decide) vw_93 vw_91 vw_90 vw_92 rfl ⟨by decide, by decide⟩ vf_2 rfl rfl 47, List.forall_mem_nil _⟩)
set_option maxRecDepth 16384 in
theorem vi_7_12 (l : Launch) : ve_OK vs_A l 59 (ve_HI vs_A l 59 vs_M) (ve_CB vs_A l 59 (ve_HI vs_A l 59 vs_M) vs_M) "OrderbenchModel" prog_10_method_1_code 2 none "<init>" 12 (ve_pf 15 1 [6] (.object "java/util/ArrayList")) := ve_putfF_ok (by decide +kernel : decode prog_10_method_1_code 12 = .ok (.putfield 10, 3)) vw_94 rfl vf_58 vf_57
set_option maxRecDepth 16384 in
theorem vi_7_15 (l : Launch) : ve_OK vs_A l 59 (ve_HI vs_A l 59 vs_M) (ve_CB vs_A l 59 (ve_HI vs_A l 59 vs_M) vs_M) "OrderbenchModel" prog_10_method_1_code 2 none "<init>" 15 (ve_pu (ve_al 16 0)) := ve_pu_ok (ve_aload_n_ok (k := 0) (i := 0) (by decide +kernel : decode prog_10_method_1_code 15 = .ok (.aload_n 0, 1)) rfl)
set_option maxRecDepth 16384 in
theorem vi_7_16 (l : Launch) : ve_OK vs_A l 59 (ve_HI vs_A l 59 vs_M) (ve_CB vs_A l 59 (ve_HI vs_A l 59 vs_M) vs_M) "OrderbenchModel" prog_10_method_1_code 2 none "<init>" 16 (ve_pu (ve_push 18 (.int (10)))) := ve_pu_ok (ve_bipush_ok (n := 10) (v := 10) (by decide +kernel : decode prog_10_method_1_code 16 = .ok (.bipush (10), 2)) (by decide +kernel))
set_option maxRecDepth 16384 in
theorem vi_7_18 (l : Launch) : ve_OK vs_A l 59 (ve_HI vs_A l 59 vs_M) (ve_CB vs_A l 59 (ve_HI vs_A l 59 vs_M) vs_M) "OrderbenchModel" prog_10_method_1_code 2 none "<init>" 18 (ve_na 21 56 .null) := ve_anew2_ok (C := "OrderbenchModel$Shape") (by decide +kernel : decode prog_10_method_1_code 18 = .ok (.anewarray 16, 3)) vw_95 vw_96 vf_59 rfl
set_option maxRecDepth 16384 in
theorem vi_7_21 (l : Launch) : ve_OK vs_A l 59 (ve_HI vs_A l 59 vs_M) (ve_CB vs_A l 59 (ve_HI vs_A l 59 vs_M) vs_M) "OrderbenchModel" prog_10_method_1_code 2 none "<init>" 21 (ve_pf 24 2 [6] (.array (.object "OrderbenchModel$Shape"))) := ve_putfF_ok (by decide +kernel : decode prog_10_method_1_code 21 = .ok (.putfield 18, 3)) vw_97 rfl vf_61 vf_60
set_option maxRecDepth 16384 in
theorem vi_7_24 (l : Launch) : ve_OK vs_A l 59 (ve_HI vs_A l 59 vs_M) (ve_CB vs_A l 59 (ve_HI vs_A l 59 vs_M) vs_M) "OrderbenchModel" prog_10_method_1_code 2 none "<init>" 24 (ve_pu (ve_push 25 (.int (0)))) := ve_pu_ok (ve_iconst_ok (n := 0) (v := 0) (by decide +kernel : decode prog_10_method_1_code 24 = .ok (.iconst (0), 1)) rfl)
set_option maxRecDepth 16384 in
theorem vi_7_25 (l : Launch) : ve_OK vs_A l 59 (ve_HI vs_A l 59 vs_M) (ve_CB vs_A l 59 (ve_HI vs_A l 59 vs_M) vs_M) "OrderbenchModel" prog_10_method_1_code 2 none "<init>" 25 (ve_pu (ve_is 26 1 2)) := ve_pu_ok (ve_istore_n_ok (k := 1) (i := 1) (by decide +kernel : decode prog_10_method_1_code 25 = .ok (.istore_n 1, 1)) rfl)
set_option maxRecDepth 16384 in
theorem vi_7_26 (l : Launch) : ve_OK vs_A l 59 (ve_HI vs_A l 59 vs_M) (ve_CB vs_A l 59 (ve_HI vs_A l 59 vs_M) vs_M) "OrderbenchModel" prog_10_method_1_code 2 none "<init>" 26 (ve_pu (ve_il 27 1)) := ve_pu_ok (ve_iload_n_ok (k := 1) (i := 1) (by decide +kernel : decode prog_10_method_1_code 26 = .ok (.iload_n 1, 1)) rfl)
set_option maxRecDepth 16384 in
theorem vi_7_27 (l : Launch) : ve_OK vs_A l 59 (ve_HI vs_A l 59 vs_M) (ve_CB vs_A l 59 (ve_HI vs_A l 59 vs_M) vs_M) "OrderbenchModel" prog_10_method_1_code 2 none "<init>" 27 (ve_pu (ve_push 28 (.int (2)))) := ve_pu_ok (ve_iconst_ok (n := 2) (v := 2) (by decide +kernel : decode prog_10_method_1_code 27 = .ok (.iconst (2), 1)) rfl)
set_option maxRecDepth 16384 in
theorem vi_7_28 (l : Launch) : ve_OK vs_A l 59 (ve_HI vs_A l 59 vs_M) (ve_CB vs_A l 59 (ve_HI vs_A l 59 vs_M) vs_M) "OrderbenchModel" prog_10_method_1_code 2 none "<init>" 28 (ve_pu (ve_br2 (fun x y => decide (¬ x < y)) 52 31)) := ve_pu_ok (ve_icmp_ge_ok (by decide +kernel : decode prog_10_method_1_code 28 = .ok (.if_icmp .ge (24), 3)) (by decide +kernel))
set_option maxRecDepth 16384 in
theorem vi_7_31 (l : Launch) : ve_OK vs_A l 59 (ve_HI vs_A l 59 vs_M) (ve_CB vs_A l 59 (ve_HI vs_A l 59 vs_M) vs_M) "OrderbenchModel" prog_10_method_1_code 2 none "<init>" 31 (ve_pu (ve_al 32 0)) := ve_pu_ok (ve_aload_n_ok (k := 0) (i := 0) (by decide +kernel : decode prog_10_method_1_code 31 = .ok (.aload_n 0, 1)) rfl)
set_option maxRecDepth 16384 in
theorem vi_7_32 (l : Launch) : ve_OK vs_A l 59 (ve_HI vs_A l 59 vs_M) (ve_CB vs_A l 59 (ve_HI vs_A l 59 vs_M) vs_M) "OrderbenchModel" prog_10_method_1_code 2 none "<init>" 32 (ve_gf 35 1) := ve_getf_ok (k := 1) (by decide +kernel : decode prog_10_method_1_code 32 = .ok (.getfield 10, 3)) vw_94 vf_62
set_option maxRecDepth 16384 in
theorem vi_7_35 (l : Launch) : ve_OK vs_A l 59 (ve_HI vs_A l 59 vs_M) (ve_CB vs_A l 59 (ve_HI vs_A l 59 vs_M) vs_M) "OrderbenchModel" prog_10_method_1_code 2 none "<init>" 35 (ve_nw 38 47 [.int 0, .null, .int 0]) := ve_new_ok (C := "java/util/ArrayList") (by decide +kernel : decode prog_10_method_1_code 35 = .ok (.new 7, 3)) vw_88 vw_89 vw_90 vf_55 rfl vf_56 rfl
set_option maxRecDepth 16384 in
theorem vi_7_38 (l : Launch) : ve_OK vs_A l 59 (ve_HI vs_A l 59 vs_M) (ve_CB vs_A l 59 (ve_HI vs_A l 59 vs_M) vs_M) "OrderbenchModel" prog_10_method_1_code 2 none "<init>" 38 (ve_pu (ve_dup 39)) := ve_pu_ok (ve_dup_ok (by decide +kernel : decode prog_10_method_1_code 38 = .ok (.dup, 1)))
set_option maxRecDepth 16384 in
theorem vi_7_39 (l : Launch) : ve_OK vs_A l 59 (ve_HI vs_A l 59 vs_M) (ve_CB vs_A l 59 (ve_HI vs_A l 59 vs_M) vs_M) "OrderbenchModel" prog_10_method_1_code 2 none "<init>" 39 (ve_cw 59 1 42 [(47, 8)]) := ve_cw_ok rfl (List.forall_mem_cons.mpr ⟨ve_rowI (md := vs_M) (A0 := vs_A) (mi := 8) (na := 0) (by decide +kernel : decode prog_10_method_1_code 39 = .ok (.invokespecial 9, 3)) (by decide) vw_93 vw_91 vw_90 vw_92 rfl ⟨by decide, by decide⟩ vf_2 rfl rfl 47, List.forall_mem_nil _⟩)
set_option maxRecDepth 16384 in
theorem vi_7_42 (l : Launch) : ve_OK vs_A l 59 (ve_HI vs_A l 59 vs_M) (ve_CB vs_A l 59 (ve_HI vs_A l 59 vs_M) vs_M) "OrderbenchModel" prog_10_method_1_code 2 none "<init>" 42 (ve_cw 59 2 45 [(47, 11)]) := ve_cw_ok rfl (List.forall_mem_cons.mpr ⟨ve_rowU (md := vs_M) (A0 := vs_A) (mi := 11) (na := 1) (k := 47) (C := "java/util/ArrayList") (owner := "java/util/ArrayList") (x := ⟨"java/util/ArrayList", "add", "(Ljava/lang/Object;)Z"⟩) (by decide +kernel : decode prog_10_method_1_code 42 = .ok (.invokevirtual 22, 3)) (by decide) vw_100 vw_98 vw_90 vw_99 rfl vw_101 vw_102 vf_64 ⟨by decide, by decide⟩ vf_55 vf_63, List.forall_mem_nil _⟩)
set_option maxRecDepth 16384 in
theorem vi_7_45 (l : Launch) : ve_OK vs_A l 59 (ve_HI vs_A l 59 vs_M) (ve_CB vs_A l 59 (ve_HI vs_A l 59 vs_M) vs_M) "OrderbenchModel" prog_10_method_1_code 2 none "<init>" 45 (ve_pu (ve_pop 46)) := ve_pu_ok (ve_pop_ok (by decide +kernel : decode prog_10_method_1_code 45 = .ok (.pop, 1)))
set_option maxRecDepth 16384 in
theorem vi_7_46 (l : Launch) : ve_OK vs_A l 59 (ve_HI vs_A l 59 vs_M) (ve_CB vs_A l 59 (ve_HI vs_A l 59 vs_M) vs_M) "OrderbenchModel" prog_10_method_1_code 2 none "<init>" 46 (ve_pu (ve_ii 49 1 2 (1))) := ve_pu_ok (ve_iinc_ok (by decide +kernel : decode prog_10_method_1_code 46 = .ok (.iinc 1 (1), 3)))
set_option maxRecDepth 16384 in
theorem vi_7_49 (l : Launch) : ve_OK vs_A l 59 (ve_HI vs_A l 59 vs_M) (ve_CB vs_A l 59 (ve_HI vs_A l 59 vs_M) vs_M) "OrderbenchModel" prog_10_method_1_code 2 none "<init>" 49 (ve_pu (ve_jmp 26)) := ve_pu_ok (ve_goto_ok (by decide +kernel : decode prog_10_method_1_code 49 = .ok (.goto (-23), 3)) (by decide +kernel))
set_option maxRecDepth 16384 in
theorem vi_7_52 (l : Launch) : ve_OK vs_A l 59 (ve_HI vs_A l 59 vs_M) (ve_CB vs_A l 59 (ve_HI vs_A l 59 vs_M) vs_M) "OrderbenchModel" prog_10_method_1_code 2 none "<init>" 52 (ve_pu (ve_push 53 (.int (0)))) := ve_pu_ok (ve_iconst_ok (n := 0) (v := 0) (by decide +kernel : decode prog_10_method_1_code 52 = .ok (.iconst (0), 1)) rfl)
set_option maxRecDepth 16384 in
theorem vi_7_53 (l : Launch) : ve_OK vs_A l 59 (ve_HI vs_A l 59 vs_M) (ve_CB vs_A l 59 (ve_HI vs_A l 59 vs_M) vs_M) "OrderbenchModel" prog_10_method_1_code 2 none "<init>" 53 (ve_pu (ve_is 54 1 2)) := ve_pu_ok (ve_istore_n_ok (k := 1) (i := 1) (by decide +kernel : decode prog_10_method_1_code 53 = .ok (.istore_n 1, 1)) rfl)
set_option maxRecDepth 16384 in
theorem vi_7_54 (l : Launch) : ve_OK vs_A l 59 (ve_HI vs_A l 59 vs_M) (ve_CB vs_A l 59 (ve_HI vs_A l 59 vs_M) vs_M) "OrderbenchModel" prog_10_method_1_code 2 none "<init>" 54 (ve_pu (ve_il 55 1)) := ve_pu_ok (ve_iload_n_ok (k := 1) (i := 1) (by decide +kernel : decode prog_10_method_1_code 54 = .ok (.iload_n 1, 1)) rfl)
set_option maxRecDepth 16384 in
theorem vi_7_55 (l : Launch) : ve_OK vs_A l 59 (ve_HI vs_A l 59 vs_M) (ve_CB vs_A l 59 (ve_HI vs_A l 59 vs_M) vs_M) "OrderbenchModel" prog_10_method_1_code 2 none "<init>" 55 (ve_pu (ve_push 57 (.int (10)))) := ve_pu_ok (ve_bipush_ok (n := 10) (v := 10) (by decide +kernel : decode prog_10_method_1_code 55 = .ok (.bipush (10), 2)) (by decide +kernel))
set_option maxRecDepth 16384 in
theorem vi_7_57 (l : Launch) : ve_OK vs_A l 59 (ve_HI vs_A l 59 vs_M) (ve_CB vs_A l 59 (ve_HI vs_A l 59 vs_M) vs_M) "OrderbenchModel" prog_10_method_1_code 2 none "<init>" 57 (ve_pu (ve_br2 (fun x y => decide (¬ x < y)) 83 60)) := ve_pu_ok (ve_icmp_ge_ok (by decide +kernel : decode prog_10_method_1_code 57 = .ok (.if_icmp .ge (26), 3)) (by decide +kernel))
set_option maxRecDepth 16384 in
theorem vi_7_60 (l : Launch) : ve_OK vs_A l 59 (ve_HI vs_A l 59 vs_M) (ve_CB vs_A l 59 (ve_HI vs_A l 59 vs_M) vs_M) "OrderbenchModel" prog_10_method_1_code 2 none "<init>" 60 (ve_pu (ve_al 61 0)) := ve_pu_ok (ve_aload_n_ok (k := 0) (i := 0) (by decide +kernel : decode prog_10_method_1_code 60 = .ok (.aload_n 0, 1)) rfl)
set_option maxRecDepth 16384 in
theorem vi_7_61 (l : Launch) : ve_OK vs_A l 59 (ve_HI vs_A l 59 vs_M) (ve_CB vs_A l 59 (ve_HI vs_A l 59 vs_M) vs_M) "OrderbenchModel" prog_10_method_1_code 2 none "<init>" 61 (ve_gf 64 2) := ve_getf_ok (k := 2) (by decide +kernel : decode prog_10_method_1_code 61 = .ok (.getfield 18, 3)) vw_97 vf_65
set_option maxRecDepth 16384 in
theorem vi_7_64 (l : Launch) : ve_OK vs_A l 59 (ve_HI vs_A l 59 vs_M) (ve_CB vs_A l 59 (ve_HI vs_A l 59 vs_M) vs_M) "OrderbenchModel" prog_10_method_1_code 2 none "<init>" 64 (ve_pu (ve_il 65 1)) := ve_pu_ok (ve_iload_n_ok (k := 1) (i := 1) (by decide +kernel : decode prog_10_method_1_code 64 = .ok (.iload_n 1, 1)) rfl)
set_option maxRecDepth 16384 in
theorem vi_7_65 (l : Launch) : ve_OK vs_A l 59 (ve_HI vs_A l 59 vs_M) (ve_CB vs_A l 59 (ve_HI vs_A l 59 vs_M) vs_M) "OrderbenchModel" prog_10_method_1_code 2 none "<init>" 65 (ve_nw 68 11 [.int 0, .null, .null]) := ve_new_ok (C := "OrderbenchModel$Shape") (by decide +kernel : decode prog_10_method_1_code 65 = .ok (.new 16, 3)) vw_95 vw_103 vw_104 vf_66 rfl vf_67 rfl
set_option maxRecDepth 16384 in
theorem vi_7_68 (l : Launch) : ve_OK vs_A l 59 (ve_HI vs_A l 59 vs_M) (ve_CB vs_A l 59 (ve_HI vs_A l 59 vs_M) vs_M) "OrderbenchModel" prog_10_method_1_code 2 none "<init>" 68 (ve_pu (ve_dup 69)) := ve_pu_ok (ve_dup_ok (by decide +kernel : decode prog_10_method_1_code 68 = .ok (.dup, 1)))
set_option maxRecDepth 16384 in
theorem vi_7_69 (l : Launch) : ve_OK vs_A l 59 (ve_HI vs_A l 59 vs_M) (ve_CB vs_A l 59 (ve_HI vs_A l 59 vs_M) vs_M) "OrderbenchModel" prog_10_method_1_code 2 none "<init>" 69 (ve_pu (ve_push 71 (.int (119)))) := ve_pu_ok (ve_bipush_ok (n := 119) (v := 119) (by decide +kernel : decode prog_10_method_1_code 69 = .ok (.bipush (119), 2)) (by decide +kernel))
set_option maxRecDepth 16384 in
theorem vi_7_71 (l : Launch) : ve_OK vs_A l 59 (ve_HI vs_A l 59 vs_M) (ve_CB vs_A l 59 (ve_HI vs_A l 59 vs_M) vs_M) "OrderbenchModel" prog_10_method_1_code 2 none "<init>" 71 (ve_pu (ve_push 72 .null)) := ve_pu_ok (ve_null_ok (by decide +kernel : decode prog_10_method_1_code 71 = .ok (.aconst_null, 1)))
set_option maxRecDepth 16384 in
theorem vi_7_72 (l : Launch) : ve_OK vs_A l 59 (ve_HI vs_A l 59 vs_M) (ve_CB vs_A l 59 (ve_HI vs_A l 59 vs_M) vs_M) "OrderbenchModel" prog_10_method_1_code 2 none "<init>" 72 (ve_pu (ve_push 73 .null)) := ve_pu_ok (ve_null_ok (by decide +kernel : decode prog_10_method_1_code 72 = .ok (.aconst_null, 1)))
set_option maxRecDepth 16384 in
theorem vi_7_73 (l : Launch) : ve_OK vs_A l 59 (ve_HI vs_A l 59 vs_M) (ve_CB vs_A l 59 (ve_HI vs_A l 59 vs_M) vs_M) "OrderbenchModel" prog_10_method_1_code 2 none "<init>" 73 (ve_cw 59 4 76 [(11, 16)]) := ve_cw_ok rfl (List.forall_mem_cons.mpr ⟨ve_rowI (md := vs_M) (A0 := vs_A) (mi := 16) (na := 3) (by decide +kernel : decode prog_10_method_1_code 73 = .ok (.invokespecial 26, 3)) (by decide) vw_107 vw_105 vw_104 vw_106 rfl ⟨by decide, by decide⟩ vf_68 rfl rfl 11, List.forall_mem_nil _⟩)
set_option maxRecDepth 16384 in
theorem vi_7_76 (l : Launch) : ve_OK vs_A l 59 (ve_HI vs_A l 59 vs_M) (ve_CB vs_A l 59 (ve_HI vs_A l 59 vs_M) vs_M) "OrderbenchModel" prog_10_method_1_code 2 none "<init>" 76 (ve_aas 77 56 [11]) := ve_aast_ok (by decide +kernel : decode prog_10_method_1_code 76 = .ok (.aastore, 1)) vf_69
set_option maxRecDepth 16384 in
theorem vi_7_77 (l : Launch) : ve_OK vs_A l 59 (ve_HI vs_A l 59 vs_M) (ve_CB vs_A l 59 (ve_HI vs_A l 59 vs_M) vs_M) "OrderbenchModel" prog_10_method_1_code 2 none "<init>" 77 (ve_pu (ve_ii 80 1 2 (1))) := ve_pu_ok (ve_iinc_ok (by decide +kernel : decode prog_10_method_1_code 77 = .ok (.iinc 1 (1), 3)))
set_option maxRecDepth 16384 in
theorem vi_7_80 (l : Launch) : ve_OK vs_A l 59 (ve_HI vs_A l 59 vs_M) (ve_CB vs_A l 59 (ve_HI vs_A l 59 vs_M) vs_M) "OrderbenchModel" prog_10_method_1_code 2 none "<init>" 80 (ve_pu (ve_jmp 54)) := ve_pu_ok (ve_goto_ok (by decide +kernel : decode prog_10_method_1_code 80 = .ok (.goto (-26), 3)) (by decide +kernel))
set_option maxRecDepth 16384 in
theorem vi_7_83 (l : Launch) : ve_OK vs_A l 59 (ve_HI vs_A l 59 vs_M) (ve_CB vs_A l 59 (ve_HI vs_A l 59 vs_M) vs_M) "OrderbenchModel" prog_10_method_1_code 2 none "<init>" 83 (ve_rt 0 .int) := ve_vret_ok (by decide +kernel : decode prog_10_method_1_code 83 = .ok (.return_, 1)) rfl
set_option maxRecDepth 16384 in
theorem vi_8_0 (l : Launch) : ve_OK vs_A l 59 (ve_HI vs_A l 59 vs_M) (ve_CB vs_A l 59 (ve_HI vs_A l 59 vs_M) vs_M) "java/util/ArrayList" prog_39_method_2_code 1 none "<init>" 0 (ve_pu (ve_al 1 0)) := ve_pu_ok (ve_aload_n_ok (k := 0) (i := 0) (by decide +kernel : decode prog_39_method_2_code 0 = .ok (.aload_n 0, 1)) rfl)
set_option maxRecDepth 16384 in
theorem vi_8_1 (l : Launch) : ve_OK vs_A l 59 (ve_HI vs_A l 59 vs_M) (ve_CB vs_A l 59 (ve_HI vs_A l 59 vs_M) vs_M) "java/util/ArrayList" prog_39_method_2_code 1 none "<init>" 1 (ve_cw 59 1 4 [(47, 9)]) := ve_cw_ok rfl (List.forall_mem_cons.mpr ⟨ve_rowI (md := vs_M) (A0 := vs_A) (mi := 9) (na := 0) (by decide +kernel : decode prog_39_method_2_code 1 = .ok (.invokespecial 1, 3)) (by decide) vw_111 vw_108 vw_109 vw_110 rfl ⟨by decide, by decide⟩ vf_2 rfl rfl 47, List.forall_mem_nil _⟩)
set_option maxRecDepth 16384 in
theorem vi_8_4 (l : Launch) : ve_OK vs_A l 59 (ve_HI vs_A l 59 vs_M) (ve_CB vs_A l 59 (ve_HI vs_A l 59 vs_M) vs_M) "java/util/ArrayList" prog_39_method_2_code 1 none "<init>" 4 (ve_pu (ve_al 5 0)) := ve_pu_ok (ve_aload_n_ok (k := 0) (i := 0) (by decide +kernel : decode prog_39_method_2_code 4 = .ok (.aload_n 0, 1)) rfl)
set_option maxRecDepth 16384 in
theorem vi_8_5 (l : Launch) : ve_OK vs_A l 59 (ve_HI vs_A l 59 vs_M) (ve_CB vs_A l 59 (ve_HI vs_A l 59 vs_M) vs_M) "java/util/ArrayList" prog_39_method_2_code 1 none "<init>" 5 (ve_gs 8 6 3) := ve_gets_ok (by decide +kernel : decode prog_39_method_2_code 5 = .ok (.getstatic 39, 3)) vw_112 (by decide) vf_70
set_option maxRecDepth 16384 in
theorem vi_8_8 (l : Launch) : ve_OK vs_A l 59 (ve_HI vs_A l 59 vs_M) (ve_CB vs_A l 59 (ve_HI vs_A l 59 vs_M) vs_M) "java/util/ArrayList" prog_39_method_2_code 1 none "<init>" 8 (ve_pf 11 1 [47] (.array (.object "java/lang/Object"))) := ve_putf_ok (by decide +kernel : decode prog_39_method_2_code 8 = .ok (.putfield 9, 3)) vw_113 vf_72 vf_71
set_option maxRecDepth 16384 in
theorem vi_8_11 (l : Launch) : ve_OK vs_A l 59 (ve_HI vs_A l 59 vs_M) (ve_CB vs_A l 59 (ve_HI vs_A l 59 vs_M) vs_M) "java/util/ArrayList" prog_39_method_2_code 1 none "<init>" 11 (ve_rt 0 .int) := ve_vret_ok (by decide +kernel : decode prog_39_method_2_code 11 = .ok (.return_, 1)) rfl
set_option maxRecDepth 16384 in
theorem vi_9_0 (l : Launch) : ve_OK vs_A l 59 (ve_HI vs_A l 59 vs_M) (ve_CB vs_A l 59 (ve_HI vs_A l 59 vs_M) vs_M) "java/util/AbstractList" prog_38_method_1_code 1 none "<init>" 0 (ve_pu (ve_al 1 0)) := ve_pu_ok (ve_aload_n_ok (k := 0) (i := 0) (by decide +kernel : decode prog_38_method_1_code 0 = .ok (.aload_n 0, 1)) rfl)
set_option maxRecDepth 16384 in
theorem vi_9_1 (l : Launch) : ve_OK vs_A l 59 (ve_HI vs_A l 59 vs_M) (ve_CB vs_A l 59 (ve_HI vs_A l 59 vs_M) vs_M) "java/util/AbstractList" prog_38_method_1_code 1 none "<init>" 1 (ve_cw 59 1 4 [(47, 10)]) := ve_cw_ok rfl (List.forall_mem_cons.mpr ⟨ve_rowI (md := vs_M) (A0 := vs_A) (mi := 10) (na := 0) (by decide +kernel : decode prog_38_method_1_code 1 = .ok (.invokespecial 1, 3)) (by decide) vw_117 vw_114 vw_115 vw_116 rfl ⟨by decide, by decide⟩ vf_2 rfl rfl 47, List.forall_mem_nil _⟩)
set_option maxRecDepth 16384 in
theorem vi_9_4 (l : Launch) : ve_OK vs_A l 59 (ve_HI vs_A l 59 vs_M) (ve_CB vs_A l 59 (ve_HI vs_A l 59 vs_M) vs_M) "java/util/AbstractList" prog_38_method_1_code 1 none "<init>" 4 (ve_pu (ve_al 5 0)) := ve_pu_ok (ve_aload_n_ok (k := 0) (i := 0) (by decide +kernel : decode prog_38_method_1_code 4 = .ok (.aload_n 0, 1)) rfl)
set_option maxRecDepth 16384 in
theorem vi_9_5 (l : Launch) : ve_OK vs_A l 59 (ve_HI vs_A l 59 vs_M) (ve_CB vs_A l 59 (ve_HI vs_A l 59 vs_M) vs_M) "java/util/AbstractList" prog_38_method_1_code 1 none "<init>" 5 (ve_pu (ve_push 6 (.int (0)))) := ve_pu_ok (ve_iconst_ok (n := 0) (v := 0) (by decide +kernel : decode prog_38_method_1_code 5 = .ok (.iconst (0), 1)) rfl)
set_option maxRecDepth 16384 in
theorem vi_9_6 (l : Launch) : ve_OK vs_A l 59 (ve_HI vs_A l 59 vs_M) (ve_CB vs_A l 59 (ve_HI vs_A l 59 vs_M) vs_M) "java/util/AbstractList" prog_38_method_1_code 1 none "<init>" 6 (ve_pf 9 0 [47] .int) := ve_putf_ok (by decide +kernel : decode prog_38_method_1_code 6 = .ok (.putfield 7, 3)) vw_118 vf_74 vf_73
set_option maxRecDepth 16384 in
theorem vi_9_9 (l : Launch) : ve_OK vs_A l 59 (ve_HI vs_A l 59 vs_M) (ve_CB vs_A l 59 (ve_HI vs_A l 59 vs_M) vs_M) "java/util/AbstractList" prog_38_method_1_code 1 none "<init>" 9 (ve_rt 0 .int) := ve_vret_ok (by decide +kernel : decode prog_38_method_1_code 9 = .ok (.return_, 1)) rfl
set_option maxRecDepth 16384 in
theorem vi_10_0 (l : Launch) : ve_OK vs_A l 59 (ve_HI vs_A l 59 vs_M) (ve_CB vs_A l 59 (ve_HI vs_A l 59 vs_M) vs_M) "java/util/AbstractCollection" prog_37_method_1_code 1 none "<init>" 0 (ve_pu (ve_al 1 0)) := ve_pu_ok (ve_aload_n_ok (k := 0) (i := 0) (by decide +kernel : decode prog_37_method_1_code 0 = .ok (.aload_n 0, 1)) rfl)
set_option maxRecDepth 16384 in
theorem vi_10_1 (l : Launch) : ve_OK vs_A l 59 (ve_HI vs_A l 59 vs_M) (ve_CB vs_A l 59 (ve_HI vs_A l 59 vs_M) vs_M) "java/util/AbstractCollection" prog_37_method_1_code 1 none "<init>" 1 (ve_pu (ve_oi 4)) := ve_cu_ok (ve_oi_ok (by decide +kernel : decode prog_37_method_1_code 1 = .ok (.invokespecial 1, 3)) vw_119 vw_38 vw_39)
