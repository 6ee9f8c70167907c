set_option maxRecDepth 16384 in
theorem vi_0_0 (l : Launch) : ve_OK vs_A l 59 (ve_HI vs_A l 59 vs_M) (ve_CB vs_A l 59 (ve_HI vs_A l 59 vs_M) vs_M) "OrderbenchLaw" code 7 (some .boolean) "law" 0 (ve_nw 3 2 [.null, .null, .null, .null, .null, .null, .int 0, .int 0, .int 0]) := ve_new_ok (C := "Orderbench") (by decide +kernel : decode code 0 = .ok (.new 8, 3)) vw_0 vw_1 vw_2 vf_0 rfl vf_1 rfl
set_option maxRecDepth 16384 in
theorem vi_0_3 (l : Launch) : ve_OK vs_A l 59 (ve_HI vs_A l 59 vs_M) (ve_CB vs_A l 59 (ve_HI vs_A l 59 vs_M) vs_M) "OrderbenchLaw" code 7 (some .boolean) "law" 3 (ve_pu (ve_dup 4)) := ve_pu_ok (ve_dup_ok (by decide +kernel : decode code 3 = .ok (.dup, 1)))
set_option maxRecDepth 16384 in
theorem vi_0_4 (l : Launch) : ve_OK vs_A l 59 (ve_HI vs_A l 59 vs_M) (ve_CB vs_A l 59 (ve_HI vs_A l 59 vs_M) vs_M) "OrderbenchLaw" code 7 (some .boolean) "law" 4 (ve_cw 59 1 7 [(2, 1)]) := ve_cw_ok rfl (List.forall_mem_cons.mpr ⟨ve_rowI (md := vs_M) (A0 := vs_A) (mi := 1) (na := 0) (by decide +kernel : decode code 4 = .ok (.invokespecial 138, 3)) (by decide) vw_5 vw_3 vw_2 vw_4 rfl ⟨by decide, by decide⟩ vf_2 rfl rfl 2, List.forall_mem_nil _⟩)
set_option maxRecDepth 16384 in
theorem vi_0_7 (l : Launch) : ve_OK vs_A l 59 (ve_HI vs_A l 59 vs_M) (ve_CB vs_A l 59 (ve_HI vs_A l 59 vs_M) vs_M) "OrderbenchLaw" code 7 (some .boolean) "law" 7 (ve_pu (ve_as 8 1 7)) := ve_pu_ok (ve_astore_n_ok (k := 1) (i := 1) (by decide +kernel : decode code 7 = .ok (.astore_n 1, 1)) rfl)
set_option maxRecDepth 16384 in
theorem vi_0_8 (l : Launch) : ve_OK vs_A l 59 (ve_HI vs_A l 59 vs_M) (ve_CB vs_A l 59 (ve_HI vs_A l 59 vs_M) vs_M) "OrderbenchLaw" code 7 (some .boolean) "law" 8 (ve_nw 11 6 [.int 0, .null, .null, .int 0, .int 0, .int 0]) := ve_new_ok (C := "OrderbenchModel") (by decide +kernel : decode code 8 = .ok (.new 139, 3)) vw_6 vw_7 vw_8 vf_3 rfl vf_4 rfl
set_option maxRecDepth 16384 in
theorem vi_0_11 (l : Launch) : ve_OK vs_A l 59 (ve_HI vs_A l 59 vs_M) (ve_CB vs_A l 59 (ve_HI vs_A l 59 vs_M) vs_M) "OrderbenchLaw" code 7 (some .boolean) "law" 11 (ve_pu (ve_dup 12)) := ve_pu_ok (ve_dup_ok (by decide +kernel : decode code 11 = .ok (.dup, 1)))
set_option maxRecDepth 16384 in
theorem vi_0_12 (l : Launch) : ve_OK vs_A l 59 (ve_HI vs_A l 59 vs_M) (ve_CB vs_A l 59 (ve_HI vs_A l 59 vs_M) vs_M) "OrderbenchLaw" code 7 (some .boolean) "law" 12 (ve_cw 59 1 15 [(6, 7)]) := ve_cw_ok rfl (List.forall_mem_cons.mpr ⟨ve_rowI (md := vs_M) (A0 := vs_A) (mi := 7) (na := 0) (by decide +kernel : decode code 12 = .ok (.invokespecial 141, 3)) (by decide) vw_11 vw_9 vw_8 vw_10 rfl ⟨by decide, by decide⟩ vf_2 rfl rfl 6, List.forall_mem_nil _⟩)
set_option maxRecDepth 16384 in
theorem vi_0_15 (l : Launch) : ve_OK vs_A l 59 (ve_HI vs_A l 59 vs_M) (ve_CB vs_A l 59 (ve_HI vs_A l 59 vs_M) vs_M) "OrderbenchLaw" code 7 (some .boolean) "law" 15 (ve_pu (ve_as 16 2 7)) := ve_pu_ok (ve_astore_n_ok (k := 2) (i := 2) (by decide +kernel : decode code 15 = .ok (.astore_n 2, 1)) rfl)
set_option maxRecDepth 16384 in
theorem vi_0_16 (l : Launch) : ve_OK vs_A l 59 (ve_HI vs_A l 59 vs_M) (ve_CB vs_A l 59 (ve_HI vs_A l 59 vs_M) vs_M) "OrderbenchLaw" code 7 (some .boolean) "law" 16 (ve_nw 19 12 [.long 0, .null]) := ve_new_ok (C := "OrderbenchLaw$Out") (by decide +kernel : decode code 16 = .ok (.new 14, 3)) vw_12 vw_13 vw_14 vf_5 rfl vf_6 rfl
set_option maxRecDepth 16384 in
theorem vi_0_19 (l : Launch) : ve_OK vs_A l 59 (ve_HI vs_A l 59 vs_M) (ve_CB vs_A l 59 (ve_HI vs_A l 59 vs_M) vs_M) "OrderbenchLaw" code 7 (some .boolean) "law" 19 (ve_pu (ve_dup 20)) := ve_pu_ok (ve_dup_ok (by decide +kernel : decode code 19 = .ok (.dup, 1)))
set_option maxRecDepth 16384 in
theorem vi_0_20 (l : Launch) : ve_OK vs_A l 59 (ve_HI vs_A l 59 vs_M) (ve_CB vs_A l 59 (ve_HI vs_A l 59 vs_M) vs_M) "OrderbenchLaw" code 7 (some .boolean) "law" 20 (ve_cw 59 1 23 [(12, 17)]) := ve_cw_ok rfl (List.forall_mem_cons.mpr ⟨ve_rowIN (md := vs_M) (A0 := vs_A) (mi := 17) (na := 0) (host := "OrderbenchLaw") (by decide +kernel : decode code 20 = .ok (.invokespecial 142, 3)) (by decide) vw_17 vw_15 vw_14 vw_16 rfl ⟨by decide, by decide⟩ vf_2 rfl rfl 12, List.forall_mem_nil _⟩)
set_option maxRecDepth 16384 in
theorem vi_0_23 (l : Launch) : ve_OK vs_A l 59 (ve_HI vs_A l 59 vs_M) (ve_CB vs_A l 59 (ve_HI vs_A l 59 vs_M) vs_M) "OrderbenchLaw" code 7 (some .boolean) "law" 23 (ve_pu (ve_as 24 3 7)) := ve_pu_ok (ve_astore_n_ok (k := 3) (i := 3) (by decide +kernel : decode code 23 = .ok (.astore_n 3, 1)) rfl)
set_option maxRecDepth 16384 in
theorem vi_0_24 (l : Launch) : ve_OK vs_A l 59 (ve_HI vs_A l 59 vs_M) (ve_CB vs_A l 59 (ve_HI vs_A l 59 vs_M) vs_M) "OrderbenchLaw" code 7 (some .boolean) "law" 24 (ve_pu (ve_push 25 (.int (0)))) := ve_pu_ok (ve_iconst_ok (n := 0) (v := 0) (by decide +kernel : decode code 24 = .ok (.iconst (0), 1)) rfl)
set_option maxRecDepth 16384 in
theorem vi_0_25 (l : Launch) : ve_OK vs_A l 59 (ve_HI vs_A l 59 vs_M) (ve_CB vs_A l 59 (ve_HI vs_A l 59 vs_M) vs_M) "OrderbenchLaw" code 7 (some .boolean) "law" 25 (ve_pu (ve_is 27 4 7)) := ve_pu_ok (ve_istore_ok (by decide +kernel : decode code 25 = .ok (.istore 4, 2)))
set_option maxRecDepth 16384 in
theorem vi_0_27 (l : Launch) : ve_OK vs_A l 59 (ve_HI vs_A l 59 vs_M) (ve_CB vs_A l 59 (ve_HI vs_A l 59 vs_M) vs_M) "OrderbenchLaw" code 7 (some .boolean) "law" 27 (ve_pu (ve_il 29 4)) := ve_pu_ok (ve_iload_ok (by decide +kernel : decode code 27 = .ok (.iload 4, 2)))
set_option maxRecDepth 16384 in
theorem vi_0_29 (l : Launch) : ve_OK vs_A l 59 (ve_HI vs_A l 59 vs_M) (ve_CB vs_A l 59 (ve_HI vs_A l 59 vs_M) vs_M) "OrderbenchLaw" code 7 (some .boolean) "law" 29 (ve_pu (ve_al 30 0)) := ve_pu_ok (ve_aload_n_ok (k := 0) (i := 0) (by decide +kernel : decode code 29 = .ok (.aload_n 0, 1)) rfl)
set_option maxRecDepth 16384 in
theorem vi_0_30 (l : Launch) : ve_OK vs_A l 59 (ve_HI vs_A l 59 vs_M) (ve_CB vs_A l 59 (ve_HI vs_A l 59 vs_M) vs_M) "OrderbenchLaw" code 7 (some .boolean) "law" 30 (ve_len 31 51) := ve_len_ok (by decide +kernel : decode code 30 = .ok (.arraylength, 1)) vf_7
set_option maxRecDepth 16384 in
theorem vi_0_31 (l : Launch) : ve_OK vs_A l 59 (ve_HI vs_A l 59 vs_M) (ve_CB vs_A l 59 (ve_HI vs_A l 59 vs_M) vs_M) "OrderbenchLaw" code 7 (some .boolean) "law" 31 (ve_pu (ve_push 33 (.int (6)))) := ve_pu_ok (ve_bipush_ok (n := 6) (v := 6) (by decide +kernel : decode code 31 = .ok (.bipush (6), 2)) (by decide +kernel))
set_option maxRecDepth 16384 in
theorem vi_0_33 (l : Launch) : ve_OK vs_A l 59 (ve_HI vs_A l 59 vs_M) (ve_CB vs_A l 59 (ve_HI vs_A l 59 vs_M) vs_M) "OrderbenchLaw" code 7 (some .boolean) "law" 33 (ve_pu (ve_isub 34)) := ve_pu_ok (ve_isub_ok (by decide +kernel : decode code 33 = .ok (.isub, 1)))
set_option maxRecDepth 16384 in
theorem vi_0_34 (l : Launch) : ve_OK vs_A l 59 (ve_HI vs_A l 59 vs_M) (ve_CB vs_A l 59 (ve_HI vs_A l 59 vs_M) vs_M) "OrderbenchLaw" code 7 (some .boolean) "law" 34 (ve_pu (ve_br2 (fun x y => decide (y < x)) 2763 37)) := ve_pu_ok (ve_icmp_gt_ok (by decide +kernel : decode code 34 = .ok (.if_icmp .gt (2729), 3)) (by decide +kernel))
set_option maxRecDepth 16384 in
theorem vi_0_37 (l : Launch) : ve_OK vs_A l 59 (ve_HI vs_A l 59 vs_M) (ve_CB vs_A l 59 (ve_HI vs_A l 59 vs_M) vs_M) "OrderbenchLaw" code 7 (some .boolean) "law" 37 (ve_pu (ve_al 38 0)) := ve_pu_ok (ve_aload_n_ok (k := 0) (i := 0) (by decide +kernel : decode code 37 = .ok (.aload_n 0, 1)) rfl)
set_option maxRecDepth 16384 in
theorem vi_0_38 (l : Launch) : ve_OK vs_A l 59 (ve_HI vs_A l 59 vs_M) (ve_CB vs_A l 59 (ve_HI vs_A l 59 vs_M) vs_M) "OrderbenchLaw" code 7 (some .boolean) "law" 38 (ve_pu (ve_il 40 4)) := ve_pu_ok (ve_iload_ok (by decide +kernel : decode code 38 = .ok (.iload 4, 2)))
set_option maxRecDepth 16384 in
theorem vi_0_40 (l : Launch) : ve_OK vs_A l 59 (ve_HI vs_A l 59 vs_M) (ve_CB vs_A l 59 (ve_HI vs_A l 59 vs_M) vs_M) "OrderbenchLaw" code 7 (some .boolean) "law" 40 (ve_ald 41 51) := ve_iald_ok (by decide +kernel : decode code 40 = .ok (.iaload, 1)) vf_7
set_option maxRecDepth 16384 in
theorem vi_0_41 (l : Launch) : ve_OK vs_A l 59 (ve_HI vs_A l 59 vs_M) (ve_CB vs_A l 59 (ve_HI vs_A l 59 vs_M) vs_M) "OrderbenchLaw" code 7 (some .boolean) "law" 41 (ve_pu (ve_push 43 (.int (63)))) := ve_pu_ok (ve_bipush_ok (n := 63) (v := 63) (by decide +kernel : decode code 41 = .ok (.bipush (63), 2)) (by decide +kernel))
set_option maxRecDepth 16384 in
theorem vi_0_43 (l : Launch) : ve_OK vs_A l 59 (ve_HI vs_A l 59 vs_M) (ve_CB vs_A l 59 (ve_HI vs_A l 59 vs_M) vs_M) "OrderbenchLaw" code 7 (some .boolean) "law" 43 (ve_pu (ve_iand 44)) := ve_pu_ok (ve_iand_ok (by decide +kernel : decode code 43 = .ok (.iand, 1)))
set_option maxRecDepth 16384 in
theorem vi_0_44 (l : Launch) : ve_OK vs_A l 59 (ve_HI vs_A l 59 vs_M) (ve_CB vs_A l 59 (ve_HI vs_A l 59 vs_M) vs_M) "OrderbenchLaw" code 7 (some .boolean) "law" 44 (ve_pu (ve_tsw (0) (36) [208, 289, 346, 439, 509, 590, 647, 704, 773, 830, 899, 968, 1049, 1146, 1215, 1273, 1337, 1430, 1535, 1623, 1699, 1757, 1827, 1884, 1960, 2029, 2098, 2167, 2260, 2353, 2441, 2498, 2579, 2660, 2717, 2730, 2743] 2757)) := ve_pu_ok (ve_tsw_ok (dflt := 2713) (lo := 0) (hi := 36) (offs := #[164, 245, 302, 395, 465, 546, 603, 660, 729, 786, 855, 924, 1005, 1102, 1171, 1229, 1293, 1386, 1491, 1579, 1655, 1713, 1783, 1840, 1916, 1985, 2054, 2123, 2216, 2309, 2397, 2454, 2535, 2616, 2673, 2686, 2699]) (by decide +kernel : decode code 44 = .ok (.tableswitch (2713) (0) (36) #[164, 245, 302, 395, 465, 546, 603, 660, 729, 786, 855, 924, 1005, 1102, 1171, 1229, 1293, 1386, 1491, 1579, 1655, 1713, 1783, 1840, 1916, 1985, 2054, 2123, 2216, 2309, 2397, 2454, 2535, 2616, 2673, 2686, 2699], 164)) (by decide +kernel) (by decide +kernel))
set_option maxRecDepth 16384 in
theorem vi_0_899 (l : Launch) : ve_OK vs_A l 59 (ve_HI vs_A l 59 vs_M) (ve_CB vs_A l 59 (ve_HI vs_A l 59 vs_M) vs_M) "OrderbenchLaw" code 7 (some .boolean) "law" 899 (ve_pu (ve_al 900 1)) := ve_pu_ok (ve_aload_n_ok (k := 1) (i := 1) (by decide +kernel : decode code 899 = .ok (.aload_n 1, 1)) rfl)
set_option maxRecDepth 16384 in
theorem vi_0_900 (l : Launch) : ve_OK vs_A l 59 (ve_HI vs_A l 59 vs_M) (ve_CB vs_A l 59 (ve_HI vs_A l 59 vs_M) vs_M) "OrderbenchLaw" code 7 (some .boolean) "law" 900 (ve_pu (ve_al 901 0)) := ve_pu_ok (ve_aload_n_ok (k := 0) (i := 0) (by decide +kernel : decode code 900 = .ok (.aload_n 0, 1)) rfl)
set_option maxRecDepth 16384 in
theorem vi_0_901 (l : Launch) : ve_OK vs_A l 59 (ve_HI vs_A l 59 vs_M) (ve_CB vs_A l 59 (ve_HI vs_A l 59 vs_M) vs_M) "OrderbenchLaw" code 7 (some .boolean) "law" 901 (ve_pu (ve_il 903 4)) := ve_pu_ok (ve_iload_ok (by decide +kernel : decode code 901 = .ok (.iload 4, 2)))
set_option maxRecDepth 16384 in
theorem vi_0_903 (l : Launch) : ve_OK vs_A l 59 (ve_HI vs_A l 59 vs_M) (ve_CB vs_A l 59 (ve_HI vs_A l 59 vs_M) vs_M) "OrderbenchLaw" code 7 (some .boolean) "law" 903 (ve_pu (ve_push 904 (.int (1)))) := ve_pu_ok (ve_iconst_ok (n := 1) (v := 1) (by decide +kernel : decode code 903 = .ok (.iconst (1), 1)) rfl)
set_option maxRecDepth 16384 in
theorem vi_0_904 (l : Launch) : ve_OK vs_A l 59 (ve_HI vs_A l 59 vs_M) (ve_CB vs_A l 59 (ve_HI vs_A l 59 vs_M) vs_M) "OrderbenchLaw" code 7 (some .boolean) "law" 904 (ve_pu (ve_iadd 905)) := ve_pu_ok (ve_iadd_ok (by decide +kernel : decode code 904 = .ok (.iadd, 1)))
set_option maxRecDepth 16384 in
theorem vi_0_905 (l : Launch) : ve_OK vs_A l 59 (ve_HI vs_A l 59 vs_M) (ve_CB vs_A l 59 (ve_HI vs_A l 59 vs_M) vs_M) "OrderbenchLaw" code 7 (some .boolean) "law" 905 (ve_ald 906 51) := ve_iald_ok (by decide +kernel : decode code 905 = .ok (.iaload, 1)) vf_7
set_option maxRecDepth 16384 in
theorem vi_0_906 (l : Launch) : ve_OK vs_A l 59 (ve_HI vs_A l 59 vs_M) (ve_CB vs_A l 59 (ve_HI vs_A l 59 vs_M) vs_M) "OrderbenchLaw" code 7 (some .boolean) "law" 906 (ve_pu (ve_al 907 0)) := ve_pu_ok (ve_aload_n_ok (k := 0) (i := 0) (by decide +kernel : decode code 906 = .ok (.aload_n 0, 1)) rfl)
set_option maxRecDepth 16384 in
theorem vi_0_907 (l : Launch) : ve_OK vs_A l 59 (ve_HI vs_A l 59 vs_M) (ve_CB vs_A l 59 (ve_HI vs_A l 59 vs_M) vs_M) "OrderbenchLaw" code 7 (some .boolean) "law" 907 (ve_pu (ve_il 909 4)) := ve_pu_ok (ve_iload_ok (by decide +kernel : decode code 907 = .ok (.iload 4, 2)))
set_option maxRecDepth 16384 in
theorem vi_0_909 (l : Launch) : ve_OK vs_A l 59 (ve_HI vs_A l 59 vs_M) (ve_CB vs_A l 59 (ve_HI vs_A l 59 vs_M) vs_M) "OrderbenchLaw" code 7 (some .boolean) "law" 909 (ve_pu (ve_push 910 (.int (2)))) := ve_pu_ok (ve_iconst_ok (n := 2) (v := 2) (by decide +kernel : decode code 909 = .ok (.iconst (2), 1)) rfl)
set_option maxRecDepth 16384 in
theorem vi_0_910 (l : Launch) : ve_OK vs_A l 59 (ve_HI vs_A l 59 vs_M) (ve_CB vs_A l 59 (ve_HI vs_A l 59 vs_M) vs_M) "OrderbenchLaw" code 7 (some .boolean) "law" 910 (ve_pu (ve_iadd 911)) := ve_pu_ok (ve_iadd_ok (by decide +kernel : decode code 910 = .ok (.iadd, 1)))
set_option maxRecDepth 16384 in
theorem vi_0_911 (l : Launch) : ve_OK vs_A l 59 (ve_HI vs_A l 59 vs_M) (ve_CB vs_A l 59 (ve_HI vs_A l 59 vs_M) vs_M) "OrderbenchLaw" code 7 (some .boolean) "law" 911 (ve_ald 912 51) := ve_iald_ok (by decide +kernel : decode code 911 = .ok (.iaload, 1)) vf_7
set_option maxRecDepth 16384 in
theorem vi_0_912 (l : Launch) : ve_OK vs_A l 59 (ve_HI vs_A l 59 vs_M) (ve_CB vs_A l 59 (ve_HI vs_A l 59 vs_M) vs_M) "OrderbenchLaw" code 7 (some .boolean) "law" 912 (ve_pu (ve_al 913 3)) := ve_pu_ok (ve_aload_n_ok (k := 3) (i := 3) (by decide +kernel : decode code 912 = .ok (.aload_n 3, 1)) rfl)
set_option maxRecDepth 16384 in
theorem vi_0_913 (l : Launch) : ve_OK vs_A l 59 (ve_HI vs_A l 59 vs_M) (ve_CB vs_A l 59 (ve_HI vs_A l 59 vs_M) vs_M) "OrderbenchLaw" code 7 (some .boolean) "law" 913 (ve_cl 59 18 4 916) := ve_cl_ok (ve_rowSW (md := vs_M) (A0 := vs_A) (mi := 18) (by decide +kernel : decode code 913 = .ok (.invokestatic 189, 3)) (by decide) vw_18 vw_19 vw_20 rfl vw_21 ⟨by decide, by decide⟩ vf_8)
set_option maxRecDepth 16384 in
theorem vi_0_916 (l : Launch) : ve_OK vs_A l 59 (ve_HI vs_A l 59 vs_M) (ve_CB vs_A l 59 (ve_HI vs_A l 59 vs_M) vs_M) "OrderbenchLaw" code 7 (some .boolean) "law" 916 (ve_pu (ve_is 918 5 7)) := ve_pu_ok (ve_istore_ok (by decide +kernel : decode code 916 = .ok (.istore 5, 2)))
set_option maxRecDepth 16384 in
theorem vi_0_918 (l : Launch) : ve_OK vs_A l 59 (ve_HI vs_A l 59 vs_M) (ve_CB vs_A l 59 (ve_HI vs_A l 59 vs_M) vs_M) "OrderbenchLaw" code 7 (some .boolean) "law" 918 (ve_pu (ve_al 919 2)) := ve_pu_ok (ve_aload_n_ok (k := 2) (i := 2) (by decide +kernel : decode code 918 = .ok (.aload_n 2, 1)) rfl)
set_option maxRecDepth 16384 in
theorem vi_0_919 (l : Launch) : ve_OK vs_A l 59 (ve_HI vs_A l 59 vs_M) (ve_CB vs_A l 59 (ve_HI vs_A l 59 vs_M) vs_M) "OrderbenchLaw" code 7 (some .boolean) "law" 919 (ve_pu (ve_al 920 0)) := ve_pu_ok (ve_aload_n_ok (k := 0) (i := 0) (by decide +kernel : decode code 919 = .ok (.aload_n 0, 1)) rfl)
set_option maxRecDepth 16384 in
theorem vi_0_920 (l : Launch) : ve_OK vs_A l 59 (ve_HI vs_A l 59 vs_M) (ve_CB vs_A l 59 (ve_HI vs_A l 59 vs_M) vs_M) "OrderbenchLaw" code 7 (some .boolean) "law" 920 (ve_pu (ve_il 922 4)) := ve_pu_ok (ve_iload_ok (by decide +kernel : decode code 920 = .ok (.iload 4, 2)))
set_option maxRecDepth 16384 in
theorem vi_0_922 (l : Launch) : ve_OK vs_A l 59 (ve_HI vs_A l 59 vs_M) (ve_CB vs_A l 59 (ve_HI vs_A l 59 vs_M) vs_M) "OrderbenchLaw" code 7 (some .boolean) "law" 922 (ve_pu (ve_push 923 (.int (1)))) := ve_pu_ok (ve_iconst_ok (n := 1) (v := 1) (by decide +kernel : decode code 922 = .ok (.iconst (1), 1)) rfl)
set_option maxRecDepth 16384 in
theorem vi_0_923 (l : Launch) : ve_OK vs_A l 59 (ve_HI vs_A l 59 vs_M) (ve_CB vs_A l 59 (ve_HI vs_A l 59 vs_M) vs_M) "OrderbenchLaw" code 7 (some .boolean) "law" 923 (ve_pu (ve_iadd 924)) := ve_pu_ok (ve_iadd_ok (by decide +kernel : decode code 923 = .ok (.iadd, 1)))
set_option maxRecDepth 16384 in
theorem vi_0_924 (l : Launch) : ve_OK vs_A l 59 (ve_HI vs_A l 59 vs_M) (ve_CB vs_A l 59 (ve_HI vs_A l 59 vs_M) vs_M) "OrderbenchLaw" code 7 (some .boolean) "law" 924 (ve_ald 925 51) := ve_iald_ok (by decide +kernel : decode code 924 = .ok (.iaload, 1)) vf_7
set_option maxRecDepth 16384 in
theorem vi_0_925 (l : Launch) : ve_OK vs_A l 59 (ve_HI vs_A l 59 vs_M) (ve_CB vs_A l 59 (ve_HI vs_A l 59 vs_M) vs_M) "OrderbenchLaw" code 7 (some .boolean) "law" 925 (ve_pu (ve_al 926 0)) := ve_pu_ok (ve_aload_n_ok (k := 0) (i := 0) (by decide +kernel : decode code 925 = .ok (.aload_n 0, 1)) rfl)
set_option maxRecDepth 16384 in
theorem vi_0_926 (l : Launch) : ve_OK vs_A l 59 (ve_HI vs_A l 59 vs_M) (ve_CB vs_A l 59 (ve_HI vs_A l 59 vs_M) vs_M) "OrderbenchLaw" code 7 (some .boolean) "law" 926 (ve_pu (ve_il 928 4)) := ve_pu_ok (ve_iload_ok (by decide +kernel : decode code 926 = .ok (.iload 4, 2)))
set_option maxRecDepth 16384 in
theorem vi_0_928 (l : Launch) : ve_OK vs_A l 59 (ve_HI vs_A l 59 vs_M) (ve_CB vs_A l 59 (ve_HI vs_A l 59 vs_M) vs_M) "OrderbenchLaw" code 7 (some .boolean) "law" 928 (ve_pu (ve_push 929 (.int (2)))) := ve_pu_ok (ve_iconst_ok (n := 2) (v := 2) (by decide +kernel : decode code 928 = .ok (.iconst (2), 1)) rfl)
set_option maxRecDepth 16384 in
theorem vi_0_929 (l : Launch) : ve_OK vs_A l 59 (ve_HI vs_A l 59 vs_M) (ve_CB vs_A l 59 (ve_HI vs_A l 59 vs_M) vs_M) "OrderbenchLaw" code 7 (some .boolean) "law" 929 (ve_pu (ve_iadd 930)) := ve_pu_ok (ve_iadd_ok (by decide +kernel : decode code 929 = .ok (.iadd, 1)))
set_option maxRecDepth 16384 in
theorem vi_0_930 (l : Launch) : ve_OK vs_A l 59 (ve_HI vs_A l 59 vs_M) (ve_CB vs_A l 59 (ve_HI vs_A l 59 vs_M) vs_M) "OrderbenchLaw" code 7 (some .boolean) "law" 930 (ve_ald 931 51) := ve_iald_ok (by decide +kernel : decode code 930 = .ok (.iaload, 1)) vf_7
set_option maxRecDepth 16384 in
theorem vi_0_931 (l : Launch) : ve_OK vs_A l 59 (ve_HI vs_A l 59 vs_M) (ve_CB vs_A l 59 (ve_HI vs_A l 59 vs_M) vs_M) "OrderbenchLaw" code 7 (some .boolean) "law" 931 (ve_cw 59 3 934 [(6, 24)]) := ve_cw_ok rfl (List.forall_mem_cons.mpr ⟨ve_rowU (md := vs_M) (A0 := vs_A) (mi := 24) (na := 2) (k := 6) (C := "OrderbenchModel") (owner := "OrderbenchModel") (x := ⟨"OrderbenchModel", "turn", "(II)I"⟩) (by decide +kernel : decode code 931 = .ok (.invokevirtual 191, 3)) (by decide) vw_24 vw_22 vw_8 vw_23 rfl vw_25 vw_26 vf_10 ⟨by decide, by decide⟩ vf_3 vf_9, List.forall_mem_nil _⟩)
set_option maxRecDepth 16384 in
theorem vi_0_934 (l : Launch) : ve_OK vs_A l 59 (ve_HI vs_A l 59 vs_M) (ve_CB vs_A l 59 (ve_HI vs_A l 59 vs_M) vs_M) "OrderbenchLaw" code 7 (some .boolean) "law" 934 (ve_pu (ve_is 936 6 7)) := ve_pu_ok (ve_istore_ok (by decide +kernel : decode code 934 = .ok (.istore 6, 2)))
set_option maxRecDepth 16384 in
theorem vi_0_936 (l : Launch) : ve_OK vs_A l 59 (ve_HI vs_A l 59 vs_M) (ve_CB vs_A l 59 (ve_HI vs_A l 59 vs_M) vs_M) "OrderbenchLaw" code 7 (some .boolean) "law" 936 (ve_pu (ve_al 937 2)) := ve_pu_ok (ve_aload_n_ok (k := 2) (i := 2) (by decide +kernel : decode code 936 = .ok (.aload_n 2, 1)) rfl)
set_option maxRecDepth 16384 in
theorem vi_0_937 (l : Launch) : ve_OK vs_A l 59 (ve_HI vs_A l 59 vs_M) (ve_CB vs_A l 59 (ve_HI vs_A l 59 vs_M) vs_M) "OrderbenchLaw" code 7 (some .boolean) "law" 937 (ve_cw 59 1 940 [(6, 54)]) := ve_cw_ok rfl (List.forall_mem_cons.mpr ⟨ve_rowU (md := vs_M) (A0 := vs_A) (mi := 54) (na := 0) (k := 6) (C := "OrderbenchModel") (owner := "OrderbenchModel") (x := ⟨"OrderbenchModel", "thrown", "()I"⟩) (by decide +kernel : decode code 937 = .ok (.invokevirtual 149, 3)) (by decide) vw_29 vw_27 vw_8 vw_28 rfl vw_30 vw_31 vf_12 ⟨by decide, by decide⟩ vf_3 vf_11, List.forall_mem_nil _⟩)
set_option maxRecDepth 16384 in
theorem vi_0_940 (l : Launch) : ve_OK vs_A l 59 (ve_HI vs_A l 59 vs_M) (ve_CB vs_A l 59 (ve_HI vs_A l 59 vs_M) vs_M) "OrderbenchLaw" code 7 (some .boolean) "law" 940 (ve_pu (ve_il 942 5)) := ve_pu_ok (ve_iload_ok (by decide +kernel : decode code 940 = .ok (.iload 5, 2)))
set_option maxRecDepth 16384 in
theorem vi_0_942 (l : Launch) : ve_OK vs_A l 59 (ve_HI vs_A l 59 vs_M) (ve_CB vs_A l 59 (ve_HI vs_A l 59 vs_M) vs_M) "OrderbenchLaw" code 7 (some .boolean) "law" 942 (ve_pu (ve_br2 (fun x y => decide (x = y)) 947 945)) := ve_pu_ok (ve_icmp_eq_ok (by decide +kernel : decode code 942 = .ok (.if_icmp .eq (5), 3)) (by decide +kernel))
set_option maxRecDepth 16384 in
theorem vi_0_947 (l : Launch) : ve_OK vs_A l 59 (ve_HI vs_A l 59 vs_M) (ve_CB vs_A l 59 (ve_HI vs_A l 59 vs_M) vs_M) "OrderbenchLaw" code 7 (some .boolean) "law" 947 (ve_pu (ve_il 949 5)) := ve_pu_ok (ve_iload_ok (by decide +kernel : decode code 947 = .ok (.iload 5, 2)))
set_option maxRecDepth 16384 in
theorem vi_0_949 (l : Launch) : ve_OK vs_A l 59 (ve_HI vs_A l 59 vs_M) (ve_CB vs_A l 59 (ve_HI vs_A l 59 vs_M) vs_M) "OrderbenchLaw" code 7 (some .boolean) "law" 949 (ve_pu (ve_br1 (fun x => decide (¬ x = 0)) 965 952)) := ve_pu_ok (ve_if_ne_ok (by decide +kernel : decode code 949 = .ok (.ifCond .ne (16), 3)) (by decide +kernel))
set_option maxRecDepth 16384 in
theorem vi_0_952 (l : Launch) : ve_OK vs_A l 59 (ve_HI vs_A l 59 vs_M) (ve_CB vs_A l 59 (ve_HI vs_A l 59 vs_M) vs_M) "OrderbenchLaw" code 7 (some .boolean) "law" 952 (ve_pu (ve_al 953 3)) := ve_pu_ok (ve_aload_n_ok (k := 3) (i := 3) (by decide +kernel : decode code 952 = .ok (.aload_n 3, 1)) rfl)
set_option maxRecDepth 16384 in
theorem vi_0_953 (l : Launch) : ve_OK vs_A l 59 (ve_HI vs_A l 59 vs_M) (ve_CB vs_A l 59 (ve_HI vs_A l 59 vs_M) vs_M) "OrderbenchLaw" code 7 (some .boolean) "law" 953 (ve_gf 956 0) := ve_getfN_ok (k := 0) (by decide +kernel : decode code 953 = .ok (.getfield 13, 3)) vw_32 vf_13
set_option maxRecDepth 16384 in
theorem vi_0_956 (l : Launch) : ve_OK vs_A l 59 (ve_HI vs_A l 59 vs_M) (ve_CB vs_A l 59 (ve_HI vs_A l 59 vs_M) vs_M) "OrderbenchLaw" code 7 (some .boolean) "law" 956 (ve_pu (ve_il 958 6)) := ve_pu_ok (ve_iload_ok (by decide +kernel : decode code 956 = .ok (.iload 6, 2)))
set_option maxRecDepth 16384 in
theorem vi_0_958 (l : Launch) : ve_OK vs_A l 59 (ve_HI vs_A l 59 vs_M) (ve_CB vs_A l 59 (ve_HI vs_A l 59 vs_M) vs_M) "OrderbenchLaw" code 7 (some .boolean) "law" 958 (ve_pu (ve_i2l 959)) := ve_pu_ok (ve_i2l_ok (by decide +kernel : decode code 958 = .ok (.i2l, 1)))
set_option maxRecDepth 16384 in
theorem vi_0_959 (l : Launch) : ve_OK vs_A l 59 (ve_HI vs_A l 59 vs_M) (ve_CB vs_A l 59 (ve_HI vs_A l 59 vs_M) vs_M) "OrderbenchLaw" code 7 (some .boolean) "law" 959 (ve_pu (ve_lcmp 960)) := ve_pu_ok (ve_lcmp_ok (by decide +kernel : decode code 959 = .ok (.lcmp, 1)))
set_option maxRecDepth 16384 in
theorem vi_0_960 (l : Launch) : ve_OK vs_A l 59 (ve_HI vs_A l 59 vs_M) (ve_CB vs_A l 59 (ve_HI vs_A l 59 vs_M) vs_M) "OrderbenchLaw" code 7 (some .boolean) "law" 960 (ve_pu (ve_br1 (fun x => decide (x = 0)) 965 963)) := ve_pu_ok (ve_if_eq_ok (by decide +kernel : decode code 960 = .ok (.ifCond .eq (5), 3)) (by decide +kernel))
set_option maxRecDepth 16384 in
theorem vi_0_965 (l : Launch) : ve_OK vs_A l 59 (ve_HI vs_A l 59 vs_M) (ve_CB vs_A l 59 (ve_HI vs_A l 59 vs_M) vs_M) "OrderbenchLaw" code 7 (some .boolean) "law" 965 (ve_pu (ve_jmp 2757)) := ve_pu_ok (ve_goto_ok (by decide +kernel : decode code 965 = .ok (.goto (1792), 3)) (by decide +kernel))
set_option maxRecDepth 16384 in
theorem vi_0_2743 (l : Launch) : ve_OK vs_A l 59 (ve_HI vs_A l 59 vs_M) (ve_CB vs_A l 59 (ve_HI vs_A l 59 vs_M) vs_M) "OrderbenchLaw" code 7 (some .boolean) "law" 2743 (ve_pu (ve_al 2744 1)) := ve_pu_ok (ve_aload_n_ok (k := 1) (i := 1) (by decide +kernel : decode code 2743 = .ok (.aload_n 1, 1)) rfl)
set_option maxRecDepth 16384 in
theorem vi_0_2744 (l : Launch) : ve_OK vs_A l 59 (ve_HI vs_A l 59 vs_M) (ve_CB vs_A l 59 (ve_HI vs_A l 59 vs_M) vs_M) "OrderbenchLaw" code 7 (some .boolean) "law" 2744 (ve_cw 59 1 2747 [(2, 58)]) := ve_cw_ok rfl (List.forall_mem_cons.mpr ⟨ve_rowU (md := vs_M) (A0 := vs_A) (mi := 58) (na := 0) (k := 2) (C := "Orderbench") (owner := "Orderbench") (x := ⟨"Orderbench", "digest", "()J"⟩) (by decide +kernel : decode code 2744 = .ok (.invokevirtual 272, 3)) (by decide) vw_35 vw_33 vw_2 vw_34 rfl vw_36 vw_37 vf_15 ⟨by decide, by decide⟩ vf_0 vf_14, List.forall_mem_nil _⟩)
set_option maxRecDepth 16384 in
theorem vi_0_2747 (l : Launch) : ve_OK vs_A l 59 (ve_HI vs_A l 59 vs_M) (ve_CB vs_A l 59 (ve_HI vs_A l 59 vs_M) vs_M) "OrderbenchLaw" code 7 (some .boolean) "law" 2747 (ve_pu (ve_al 2748 2)) := ve_pu_ok (ve_aload_n_ok (k := 2) (i := 2) (by decide +kernel : decode code 2747 = .ok (.aload_n 2, 1)) rfl)
set_option maxRecDepth 16384 in
theorem vi_0_2748 (l : Launch) : ve_OK vs_A l 59 (ve_HI vs_A l 59 vs_M) (ve_CB vs_A l 59 (ve_HI vs_A l 59 vs_M) vs_M) "OrderbenchLaw" code 7 (some .boolean) "law" 2748 (ve_cw 59 1 2751 [(6, 96)]) := ve_cw_ok rfl (List.forall_mem_cons.mpr ⟨ve_rowU (md := vs_M) (A0 := vs_A) (mi := 96) (na := 0) (k := 6) (C := "OrderbenchModel") (owner := "OrderbenchModel") (x := ⟨"OrderbenchModel", "digest", "()J"⟩) (by decide +kernel : decode code 2748 = .ok (.invokevirtual 276, 3)) (by decide) vw_40 vw_38 vw_8 vw_39 rfl vw_41 vw_42 vf_16 ⟨by decide, by decide⟩ vf_3 vf_14, List.forall_mem_nil _⟩)
set_option maxRecDepth 16384 in
theorem vi_0_2751 (l : Launch) : ve_OK vs_A l 59 (ve_HI vs_A l 59 vs_M) (ve_CB vs_A l 59 (ve_HI vs_A l 59 vs_M) vs_M) "OrderbenchLaw" code 7 (some .boolean) "law" 2751 (ve_pu (ve_lcmp 2752)) := ve_pu_ok (ve_lcmp_ok (by decide +kernel : decode code 2751 = .ok (.lcmp, 1)))
set_option maxRecDepth 16384 in
theorem vi_0_2752 (l : Launch) : ve_OK vs_A l 59 (ve_HI vs_A l 59 vs_M) (ve_CB vs_A l 59 (ve_HI vs_A l 59 vs_M) vs_M) "OrderbenchLaw" code 7 (some .boolean) "law" 2752 (ve_pu (ve_br1 (fun x => decide (x = 0)) 2757 2755)) := ve_pu_ok (ve_if_eq_ok (by decide +kernel : decode code 2752 = .ok (.ifCond .eq (5), 3)) (by decide +kernel))
set_option maxRecDepth 16384 in
theorem vi_0_2757 (l : Launch) : ve_OK vs_A l 59 (ve_HI vs_A l 59 vs_M) (ve_CB vs_A l 59 (ve_HI vs_A l 59 vs_M) vs_M) "OrderbenchLaw" code 7 (some .boolean) "law" 2757 (ve_pu (ve_ii 2760 4 7 (6))) := ve_pu_ok (ve_iinc_ok (by decide +kernel : decode code 2757 = .ok (.iinc 4 (6), 3)))
set_option maxRecDepth 16384 in
theorem vi_0_2760 (l : Launch) : ve_OK vs_A l 59 (ve_HI vs_A l 59 vs_M) (ve_CB vs_A l 59 (ve_HI vs_A l 59 vs_M) vs_M) "OrderbenchLaw" code 7 (some .boolean) "law" 2760 (ve_pu (ve_jmp 27)) := ve_pu_ok (ve_goto_ok (by decide +kernel : decode code 2760 = .ok (.goto (-2733), 3)) (by decide +kernel))
set_option maxRecDepth 16384 in
theorem vi_0_2763 (l : Launch) : ve_OK vs_A l 59 (ve_HI vs_A l 59 vs_M) (ve_CB vs_A l 59 (ve_HI vs_A l 59 vs_M) vs_M) "OrderbenchLaw" code 7 (some .boolean) "law" 2763 (ve_pu (ve_push 2764 (.int (1)))) := ve_pu_ok (ve_iconst_ok (n := 1) (v := 1) (by decide +kernel : decode code 2763 = .ok (.iconst (1), 1)) rfl)
set_option maxRecDepth 16384 in
theorem vi_0_2764 (l : Launch) : ve_OK vs_A l 59 (ve_HI vs_A l 59 vs_M) (ve_CB vs_A l 59 (ve_HI vs_A l 59 vs_M) vs_M) "OrderbenchLaw" code 7 (some .boolean) "law" 2764 (ve_rt 1 .boolean) := ve_iret_ok (by decide +kernel : decode code 2764 = .ok (.ireturn, 1)) rfl
set_option maxRecDepth 16384 in
theorem vi_1_0 (l : Launch) : ve_OK vs_A l 59 (ve_HI vs_A l 59 vs_M) (ve_CB vs_A l 59 (ve_HI vs_A l 59 vs_M) vs_M) "Orderbench" prog_1_method_1_code 3 none "<init>" 0 (ve_pu (ve_al 1 0)) := ve_pu_ok (ve_aload_n_ok (k := 0) (i := 0) (by decide +kernel : decode prog_1_method_1_code 0 = .ok (.aload_n 0, 1)) rfl)
set_option maxRecDepth 16384 in
theorem vi_1_1 (l : Launch) : ve_OK vs_A l 59 (ve_HI vs_A l 59 vs_M) (ve_CB vs_A l 59 (ve_HI vs_A l 59 vs_M) vs_M) "Orderbench" prog_1_method_1_code 3 none "<init>" 1 (ve_pu (ve_oi 4)) := ve_cu_ok (ve_oi_ok (by decide +kernel : decode prog_1_method_1_code 1 = .ok (.invokespecial 1, 3)) vw_43 vw_44 vw_45)
set_option maxRecDepth 16384 in
theorem vi_1_4 (l : Launch) : ve_OK vs_A l 59 (ve_HI vs_A l 59 vs_M) (ve_CB vs_A l 59 (ve_HI vs_A l 59 vs_M) vs_M) "Orderbench" prog_1_method_1_code 3 none "<init>" 4 (ve_pu (ve_al 5 0)) := ve_pu_ok (ve_aload_n_ok (k := 0) (i := 0) (by decide +kernel : decode prog_1_method_1_code 4 = .ok (.aload_n 0, 1)) rfl)
set_option maxRecDepth 16384 in
theorem vi_1_5 (l : Launch) : ve_OK vs_A l 59 (ve_HI vs_A l 59 vs_M) (ve_CB vs_A l 59 (ve_HI vs_A l 59 vs_M) vs_M) "Orderbench" prog_1_method_1_code 3 none "<init>" 5 (ve_pu (ve_push 6 (.int (2)))) := ve_pu_ok (ve_iconst_ok (n := 2) (v := 2) (by decide +kernel : decode prog_1_method_1_code 5 = .ok (.iconst (2), 1)) rfl)
set_option maxRecDepth 16384 in
theorem vi_1_6 (l : Launch) : ve_OK vs_A l 59 (ve_HI vs_A l 59 vs_M) (ve_CB vs_A l 59 (ve_HI vs_A l 59 vs_M) vs_M) "Orderbench" prog_1_method_1_code 3 none "<init>" 6 (ve_na 9 54 .null) := ve_anew2_ok (C := "Orderbench$Row") (by decide +kernel : decode prog_1_method_1_code 6 = .ok (.anewarray 9, 3)) vw_46 vw_47 vf_17 rfl
set_option maxRecDepth 16384 in
theorem vi_1_9 (l : Launch) : ve_OK vs_A l 59 (ve_HI vs_A l 59 vs_M) (ve_CB vs_A l 59 (ve_HI vs_A l 59 vs_M) vs_M) "Orderbench" prog_1_method_1_code 3 none "<init>" 9 (ve_pf 12 0 [2] (.array (.object "Orderbench$Row"))) := ve_putfF_ok (by decide +kernel : decode prog_1_method_1_code 9 = .ok (.putfield 11, 3)) vw_48 rfl vf_19 vf_18
set_option maxRecDepth 16384 in
theorem vi_1_12 (l : Launch) : ve_OK vs_A l 59 (ve_HI vs_A l 59 vs_M) (ve_CB vs_A l 59 (ve_HI vs_A l 59 vs_M) vs_M) "Orderbench" prog_1_method_1_code 3 none "<init>" 12 (ve_pu (ve_push 13 (.int (0)))) := ve_pu_ok (ve_iconst_ok (n := 0) (v := 0) (by decide +kernel : decode prog_1_method_1_code 12 = .ok (.iconst (0), 1)) rfl)
set_option maxRecDepth 16384 in
theorem vi_1_13 (l : Launch) : ve_OK vs_A l 59 (ve_HI vs_A l 59 vs_M) (ve_CB vs_A l 59 (ve_HI vs_A l 59 vs_M) vs_M) "Orderbench" prog_1_method_1_code 3 none "<init>" 13 (ve_pu (ve_is 14 1 3)) := ve_pu_ok (ve_istore_n_ok (k := 1) (i := 1) (by decide +kernel : decode prog_1_method_1_code 13 = .ok (.istore_n 1, 1)) rfl)
set_option maxRecDepth 16384 in
theorem vi_1_14 (l : Launch) : ve_OK vs_A l 59 (ve_HI vs_A l 59 vs_M) (ve_CB vs_A l 59 (ve_HI vs_A l 59 vs_M) vs_M) "Orderbench" prog_1_method_1_code 3 none "<init>" 14 (ve_pu (ve_il 15 1)) := ve_pu_ok (ve_iload_n_ok (k := 1) (i := 1) (by decide +kernel : decode prog_1_method_1_code 14 = .ok (.iload_n 1, 1)) rfl)
set_option maxRecDepth 16384 in
theorem vi_1_15 (l : Launch) : ve_OK vs_A l 59 (ve_HI vs_A l 59 vs_M) (ve_CB vs_A l 59 (ve_HI vs_A l 59 vs_M) vs_M) "Orderbench" prog_1_method_1_code 3 none "<init>" 15 (ve_pu (ve_push 16 (.int (2)))) := ve_pu_ok (ve_iconst_ok (n := 2) (v := 2) (by decide +kernel : decode prog_1_method_1_code 15 = .ok (.iconst (2), 1)) rfl)
set_option maxRecDepth 16384 in
theorem vi_1_16 (l : Launch) : ve_OK vs_A l 59 (ve_HI vs_A l 59 vs_M) (ve_CB vs_A l 59 (ve_HI vs_A l 59 vs_M) vs_M) "Orderbench" prog_1_method_1_code 3 none "<init>" 16 (ve_pu (ve_br2 (fun x y => decide (¬ x < y)) 38 19)) := ve_pu_ok (ve_icmp_ge_ok (by decide +kernel : decode prog_1_method_1_code 16 = .ok (.if_icmp .ge (22), 3)) (by decide +kernel))
set_option maxRecDepth 16384 in
theorem vi_1_19 (l : Launch) : ve_OK vs_A l 59 (ve_HI vs_A l 59 vs_M) (ve_CB vs_A l 59 (ve_HI vs_A l 59 vs_M) vs_M) "Orderbench" prog_1_method_1_code 3 none "<init>" 19 (ve_pu (ve_al 20 0)) := ve_pu_ok (ve_aload_n_ok (k := 0) (i := 0) (by decide +kernel : decode prog_1_method_1_code 19 = .ok (.aload_n 0, 1)) rfl)
set_option maxRecDepth 16384 in
theorem vi_1_20 (l : Launch) : ve_OK vs_A l 59 (ve_HI vs_A l 59 vs_M) (ve_CB vs_A l 59 (ve_HI vs_A l 59 vs_M) vs_M) "Orderbench" prog_1_method_1_code 3 none "<init>" 20 (ve_gf 23 0) := ve_getf_ok (k := 0) (by decide +kernel : decode prog_1_method_1_code 20 = .ok (.getfield 11, 3)) vw_48 vf_20
set_option maxRecDepth 16384 in
theorem vi_1_23 (l : Launch) : ve_OK vs_A l 59 (ve_HI vs_A l 59 vs_M) (ve_CB vs_A l 59 (ve_HI vs_A l 59 vs_M) vs_M) "Orderbench" prog_1_method_1_code 3 none "<init>" 23 (ve_pu (ve_il 24 1)) := ve_pu_ok (ve_iload_n_ok (k := 1) (i := 1) (by decide +kernel : decode prog_1_method_1_code 23 = .ok (.iload_n 1, 1)) rfl)
set_option maxRecDepth 16384 in
theorem vi_1_24 (l : Launch) : ve_OK vs_A l 59 (ve_HI vs_A l 59 vs_M) (ve_CB vs_A l 59 (ve_HI vs_A l 59 vs_M) vs_M) "Orderbench" prog_1_method_1_code 3 none "<init>" 24 (ve_nw 27 3 [.null, .int 0]) := ve_new_ok (C := "Orderbench$Row") (by decide +kernel : decode prog_1_method_1_code 24 = .ok (.new 9, 3)) vw_46 vw_49 vw_50 vf_21 rfl vf_22 rfl
set_option maxRecDepth 16384 in
theorem vi_1_27 (l : Launch) : ve_OK vs_A l 59 (ve_HI vs_A l 59 vs_M) (ve_CB vs_A l 59 (ve_HI vs_A l 59 vs_M) vs_M) "Orderbench" prog_1_method_1_code 3 none "<init>" 27 (ve_pu (ve_dup 28)) := ve_pu_ok (ve_dup_ok (by decide +kernel : decode prog_1_method_1_code 27 = .ok (.dup, 1)))
set_option maxRecDepth 16384 in
theorem vi_1_28 (l : Launch) : ve_OK vs_A l 59 (ve_HI vs_A l 59 vs_M) (ve_CB vs_A l 59 (ve_HI vs_A l 59 vs_M) vs_M) "Orderbench" prog_1_method_1_code 3 none "<init>" 28 (ve_cw 59 1 31 [(3, 2)]) := ve_cw_ok rfl (List.forall_mem_cons.mpr ⟨ve_rowIN (md := vs_M) (A0 := vs_A) (mi := 2) (na := 0) (host := "Orderbench") (by decide +kernel : decode prog_1_method_1_code 28 = .ok (.invokespecial 15, 3)) (by decide) vw_53 vw_51 vw_50 vw_52 rfl ⟨by decide, by decide⟩ vf_2 rfl rfl 3, List.forall_mem_nil _⟩)
set_option maxRecDepth 16384 in
theorem vi_1_31 (l : Launch) : ve_OK vs_A l 59 (ve_HI vs_A l 59 vs_M) (ve_CB vs_A l 59 (ve_HI vs_A l 59 vs_M) vs_M) "Orderbench" prog_1_method_1_code 3 none "<init>" 31 (ve_aas 32 54 [3]) := ve_aast_ok (by decide +kernel : decode prog_1_method_1_code 31 = .ok (.aastore, 1)) vf_23
set_option maxRecDepth 16384 in
theorem vi_1_32 (l : Launch) : ve_OK vs_A l 59 (ve_HI vs_A l 59 vs_M) (ve_CB vs_A l 59 (ve_HI vs_A l 59 vs_M) vs_M) "Orderbench" prog_1_method_1_code 3 none "<init>" 32 (ve_pu (ve_ii 35 1 3 (1))) := ve_pu_ok (ve_iinc_ok (by decide +kernel : decode prog_1_method_1_code 32 = .ok (.iinc 1 (1), 3)))
set_option maxRecDepth 16384 in
theorem vi_1_35 (l : Launch) : ve_OK vs_A l 59 (ve_HI vs_A l 59 vs_M) (ve_CB vs_A l 59 (ve_HI vs_A l 59 vs_M) vs_M) "Orderbench" prog_1_method_1_code 3 none "<init>" 35 (ve_pu (ve_jmp 14)) := ve_pu_ok (ve_goto_ok (by decide +kernel : decode prog_1_method_1_code 35 = .ok (.goto (-21), 3)) (by decide +kernel))
set_option maxRecDepth 16384 in
theorem vi_1_38 (l : Launch) : ve_OK vs_A l 59 (ve_HI vs_A l 59 vs_M) (ve_CB vs_A l 59 (ve_HI vs_A l 59 vs_M) vs_M) "Orderbench" prog_1_method_1_code 3 none "<init>" 38 (ve_pu (ve_al 39 0)) := ve_pu_ok (ve_aload_n_ok (k := 0) (i := 0) (by decide +kernel : decode prog_1_method_1_code 38 = .ok (.aload_n 0, 1)) rfl)
set_option maxRecDepth 16384 in
theorem vi_1_39 (l : Launch) : ve_OK vs_A l 59 (ve_HI vs_A l 59 vs_M) (ve_CB vs_A l 59 (ve_HI vs_A l 59 vs_M) vs_M) "Orderbench" prog_1_method_1_code 3 none "<init>" 39 (ve_pu (ve_push 41 (.int (10)))) := ve_pu_ok (ve_bipush_ok (n := 10) (v := 10) (by decide +kernel : decode prog_1_method_1_code 39 = .ok (.bipush (10), 2)) (by decide +kernel))
set_option maxRecDepth 16384 in
theorem vi_1_41 (l : Launch) : ve_OK vs_A l 59 (ve_HI vs_A l 59 vs_M) (ve_CB vs_A l 59 (ve_HI vs_A l 59 vs_M) vs_M) "Orderbench" prog_1_method_1_code 3 none "<init>" 41 (ve_na 44 55 .null) := ve_anew2_ok (C := "Orderbench$Shape") (by decide +kernel : decode prog_1_method_1_code 41 = .ok (.anewarray 16, 3)) vw_54 vw_55 vf_24 rfl
set_option maxRecDepth 16384 in
theorem vi_1_44 (l : Launch) : ve_OK vs_A l 59 (ve_HI vs_A l 59 vs_M) (ve_CB vs_A l 59 (ve_HI vs_A l 59 vs_M) vs_M) "Orderbench" prog_1_method_1_code 3 none "<init>" 44 (ve_pf 47 1 [2] (.array (.object "Orderbench$Shape"))) := ve_putfF_ok (by decide +kernel : decode prog_1_method_1_code 44 = .ok (.putfield 18, 3)) vw_56 rfl vf_26 vf_25
set_option maxRecDepth 16384 in
theorem vi_1_47 (l : Launch) : ve_OK vs_A l 59 (ve_HI vs_A l 59 vs_M) (ve_CB vs_A l 59 (ve_HI vs_A l 59 vs_M) vs_M) "Orderbench" prog_1_method_1_code 3 none "<init>" 47 (ve_nw 50 26 [.int 0, .int 0, .int 0]) := ve_new_ok (C := "Orderbench$Base") (by decide +kernel : decode prog_1_method_1_code 47 = .ok (.new 22, 3)) vw_57 vw_58 vw_59 vf_27 rfl vf_28 rfl
set_option maxRecDepth 16384 in
theorem vi_1_50 (l : Launch) : ve_OK vs_A l 59 (ve_HI vs_A l 59 vs_M) (ve_CB vs_A l 59 (ve_HI vs_A l 59 vs_M) vs_M) "Orderbench" prog_1_method_1_code 3 none "<init>" 50 (ve_pu (ve_dup 51)) := ve_pu_ok (ve_dup_ok (by decide +kernel : decode prog_1_method_1_code 50 = .ok (.dup, 1)))
set_option maxRecDepth 16384 in
theorem vi_1_51 (l : Launch) : ve_OK vs_A l 59 (ve_HI vs_A l 59 vs_M) (ve_CB vs_A l 59 (ve_HI vs_A l 59 vs_M) vs_M) "Orderbench" prog_1_method_1_code 3 none "<init>" 51 (ve_pu (ve_push 52 (.int (0)))) := ve_pu_ok (ve_iconst_ok (n := 0) (v := 0) (by decide +kernel : decode prog_1_method_1_code 51 = .ok (.iconst (0), 1)) rfl)
set_option maxRecDepth 16384 in
theorem vi_1_52 (l : Launch) : ve_OK vs_A l 59 (ve_HI vs_A l 59 vs_M) (ve_CB vs_A l 59 (ve_HI vs_A l 59 vs_M) vs_M) "Orderbench" prog_1_method_1_code 3 none "<init>" 52 (ve_cw 59 2 55 [(26, 3)]) := ve_cw_ok rfl (List.forall_mem_cons.mpr ⟨ve_rowI (md := vs_M) (A0 := vs_A) (mi := 3) (na := 1) (by decide +kernel : decode prog_1_method_1_code 52 = .ok (.invokespecial 24, 3)) (by decide) vw_62 vw_60 vw_59 vw_61 rfl ⟨by decide, by decide⟩ vf_29 rfl rfl 26, List.forall_mem_nil _⟩)
set_option maxRecDepth 16384 in
theorem vi_1_55 (l : Launch) : ve_OK vs_A l 59 (ve_HI vs_A l 59 vs_M) (ve_CB vs_A l 59 (ve_HI vs_A l 59 vs_M) vs_M) "Orderbench" prog_1_method_1_code 3 none "<init>" 55 (ve_pu (ve_as 56 1 3)) := ve_pu_ok (ve_astore_n_ok (k := 1) (i := 1) (by decide +kernel : decode prog_1_method_1_code 55 = .ok (.astore_n 1, 1)) rfl)
set_option maxRecDepth 16384 in
theorem vi_1_56 (l : Launch) : ve_OK vs_A l 59 (ve_HI vs_A l 59 vs_M) (ve_CB vs_A l 59 (ve_HI vs_A l 59 vs_M) vs_M) "Orderbench" prog_1_method_1_code 3 none "<init>" 56 (ve_pu (ve_push 57 (.int (0)))) := ve_pu_ok (ve_iconst_ok (n := 0) (v := 0) (by decide +kernel : decode prog_1_method_1_code 56 = .ok (.iconst (0), 1)) rfl)
set_option maxRecDepth 16384 in
theorem vi_1_57 (l : Launch) : ve_OK vs_A l 59 (ve_HI vs_A l 59 vs_M) (ve_CB vs_A l 59 (ve_HI vs_A l 59 vs_M) vs_M) "Orderbench" prog_1_method_1_code 3 none "<init>" 57 (ve_pu (ve_is 58 2 3)) := ve_pu_ok (ve_istore_n_ok (k := 2) (i := 2) (by decide +kernel : decode prog_1_method_1_code 57 = .ok (.istore_n 2, 1)) rfl)
set_option maxRecDepth 16384 in
theorem vi_1_58 (l : Launch) : ve_OK vs_A l 59 (ve_HI vs_A l 59 vs_M) (ve_CB vs_A l 59 (ve_HI vs_A l 59 vs_M) vs_M) "Orderbench" prog_1_method_1_code 3 none "<init>" 58 (ve_pu (ve_il 59 2)) := ve_pu_ok (ve_iload_n_ok (k := 2) (i := 2) (by decide +kernel : decode prog_1_method_1_code 58 = .ok (.iload_n 2, 1)) rfl)
set_option maxRecDepth 16384 in
theorem vi_1_59 (l : Launch) : ve_OK vs_A l 59 (ve_HI vs_A l 59 vs_M) (ve_CB vs_A l 59 (ve_HI vs_A l 59 vs_M) vs_M) "Orderbench" prog_1_method_1_code 3 none "<init>" 59 (ve_pu (ve_push 61 (.int (10)))) := ve_pu_ok (ve_bipush_ok (n := 10) (v := 10) (by decide +kernel : decode prog_1_method_1_code 59 = .ok (.bipush (10), 2)) (by decide +kernel))
set_option maxRecDepth 16384 in
theorem vi_1_61 (l : Launch) : ve_OK vs_A l 59 (ve_HI vs_A l 59 vs_M) (ve_CB vs_A l 59 (ve_HI vs_A l 59 vs_M) vs_M) "Orderbench" prog_1_method_1_code 3 none "<init>" 61 (ve_pu (ve_br2 (fun x y => decide (¬ x < y)) 77 64)) := ve_pu_ok (ve_icmp_ge_ok (by decide +kernel : decode prog_1_method_1_code 61 = .ok (.if_icmp .ge (16), 3)) (by decide +kernel))
set_option maxRecDepth 16384 in
theorem vi_1_64 (l : Launch) : ve_OK vs_A l 59 (ve_HI vs_A l 59 vs_M) (ve_CB vs_A l 59 (ve_HI vs_A l 59 vs_M) vs_M) "Orderbench" prog_1_method_1_code 3 none "<init>" 64 (ve_pu (ve_al 65 0)) := ve_pu_ok (ve_aload_n_ok (k := 0) (i := 0) (by decide +kernel : decode prog_1_method_1_code 64 = .ok (.aload_n 0, 1)) rfl)
set_option maxRecDepth 16384 in
theorem vi_1_65 (l : Launch) : ve_OK vs_A l 59 (ve_HI vs_A l 59 vs_M) (ve_CB vs_A l 59 (ve_HI vs_A l 59 vs_M) vs_M) "Orderbench" prog_1_method_1_code 3 none "<init>" 65 (ve_gf 68 1) := ve_getf_ok (k := 1) (by decide +kernel : decode prog_1_method_1_code 65 = .ok (.getfield 18, 3)) vw_56 vf_30
set_option maxRecDepth 16384 in
theorem vi_1_68 (l : Launch) : ve_OK vs_A l 59 (ve_HI vs_A l 59 vs_M) (ve_CB vs_A l 59 (ve_HI vs_A l 59 vs_M) vs_M) "Orderbench" prog_1_method_1_code 3 none "<init>" 68 (ve_pu (ve_il 69 2)) := ve_pu_ok (ve_iload_n_ok (k := 2) (i := 2) (by decide +kernel : decode prog_1_method_1_code 68 = .ok (.iload_n 2, 1)) rfl)
set_option maxRecDepth 16384 in
theorem vi_1_69 (l : Launch) : ve_OK vs_A l 59 (ve_HI vs_A l 59 vs_M) (ve_CB vs_A l 59 (ve_HI vs_A l 59 vs_M) vs_M) "Orderbench" prog_1_method_1_code 3 none "<init>" 69 (ve_pu (ve_al 70 1)) := ve_pu_ok (ve_aload_n_ok (k := 1) (i := 1) (by decide +kernel : decode prog_1_method_1_code 69 = .ok (.aload_n 1, 1)) rfl)
set_option maxRecDepth 16384 in
theorem vi_1_70 (l : Launch) : ve_OK vs_A l 59 (ve_HI vs_A l 59 vs_M) (ve_CB vs_A l 59 (ve_HI vs_A l 59 vs_M) vs_M) "Orderbench" prog_1_method_1_code 3 none "<init>" 70 (ve_aas 71 55 [26]) := ve_aast_ok (by decide +kernel : decode prog_1_method_1_code 70 = .ok (.aastore, 1)) vf_31
set_option maxRecDepth 16384 in
theorem vi_1_71 (l : Launch) : ve_OK vs_A l 59 (ve_HI vs_A l 59 vs_M) (ve_CB vs_A l 59 (ve_HI vs_A l 59 vs_M) vs_M) "Orderbench" prog_1_method_1_code 3 none "<init>" 71 (ve_pu (ve_ii 74 2 3 (1))) := ve_pu_ok (ve_iinc_ok (by decide +kernel : decode prog_1_method_1_code 71 = .ok (.iinc 2 (1), 3)))
set_option maxRecDepth 16384 in
theorem vi_1_74 (l : Launch) : ve_OK vs_A l 59 (ve_HI vs_A l 59 vs_M) (ve_CB vs_A l 59 (ve_HI vs_A l 59 vs_M) vs_M) "Orderbench" prog_1_method_1_code 3 none "<init>" 74 (ve_pu (ve_jmp 58)) := ve_pu_ok (ve_goto_ok (by decide +kernel : decode prog_1_method_1_code 74 = .ok (.goto (-16), 3)) (by decide +kernel))
set_option maxRecDepth 16384 in
theorem vi_1_77 (l : Launch) : ve_OK vs_A l 59 (ve_HI vs_A l 59 vs_M) (ve_CB vs_A l 59 (ve_HI vs_A l 59 vs_M) vs_M) "Orderbench" prog_1_method_1_code 3 none "<init>" 77 (ve_pu (ve_al 78 0)) := ve_pu_ok (ve_aload_n_ok (k := 0) (i := 0) (by decide +kernel : decode prog_1_method_1_code 77 = .ok (.aload_n 0, 1)) rfl)
set_option maxRecDepth 16384 in
theorem vi_1_78 (l : Launch) : ve_OK vs_A l 59 (ve_HI vs_A l 59 vs_M) (ve_CB vs_A l 59 (ve_HI vs_A l 59 vs_M) vs_M) "Orderbench" prog_1_method_1_code 3 none "<init>" 78 (ve_nw 81 3 [.null, .int 0]) := ve_new_ok (C := "Orderbench$Row") (by decide +kernel : decode prog_1_method_1_code 78 = .ok (.new 9, 3)) vw_46 vw_49 vw_50 vf_21 rfl vf_22 rfl
set_option maxRecDepth 16384 in
theorem vi_1_81 (l : Launch) : ve_OK vs_A l 59 (ve_HI vs_A l 59 vs_M) (ve_CB vs_A l 59 (ve_HI vs_A l 59 vs_M) vs_M) "Orderbench" prog_1_method_1_code 3 none "<init>" 81 (ve_pu (ve_dup 82)) := ve_pu_ok (ve_dup_ok (by decide +kernel : decode prog_1_method_1_code 81 = .ok (.dup, 1)))
set_option maxRecDepth 16384 in
theorem vi_1_82 (l : Launch) : ve_OK vs_A l 59 (ve_HI vs_A l 59 vs_M) (ve_CB vs_A l 59 (ve_HI vs_A l 59 vs_M) vs_M) "Orderbench" prog_1_method_1_code 3 none "<init>" 82 (ve_cw 59 1 85 [(3, 2)]) := ve_cw_ok rfl (List.forall_mem_cons.mpr ⟨ve_rowIN (md := vs_M) (A0 := vs_A) (mi := 2) (na := 0) (host := "Orderbench") (by decide +kernel : decode prog_1_method_1_code 82 = .ok (.invokespecial 15, 3)) (by decide) vw_53 vw_51 vw_50 vw_52 rfl ⟨by decide, by decide⟩ vf_2 rfl rfl 3, List.forall_mem_nil _⟩)
set_option maxRecDepth 16384 in
theorem vi_1_85 (l : Launch) : ve_OK vs_A l 59 (ve_HI vs_A l 59 vs_M) (ve_CB vs_A l 59 (ve_HI vs_A l 59 vs_M) vs_M) "Orderbench" prog_1_method_1_code 3 none "<init>" 85 (ve_pf 88 2 [2] (.object "Orderbench$Row")) := ve_putfF_ok (by decide +kernel : decode prog_1_method_1_code 85 = .ok (.putfield 27, 3)) vw_63 rfl vf_33 vf_32
set_option maxRecDepth 16384 in
theorem vi_1_88 (l : Launch) : ve_OK vs_A l 59 (ve_HI vs_A l 59 vs_M) (ve_CB vs_A l 59 (ve_HI vs_A l 59 vs_M) vs_M) "Orderbench" prog_1_method_1_code 3 none "<init>" 88 (ve_pu (ve_al 89 0)) := ve_pu_ok (ve_aload_n_ok (k := 0) (i := 0) (by decide +kernel : decode prog_1_method_1_code 88 = .ok (.aload_n 0, 1)) rfl)
set_option maxRecDepth 16384 in
theorem vi_1_89 (l : Launch) : ve_OK vs_A l 59 (ve_HI vs_A l 59 vs_M) (ve_CB vs_A l 59 (ve_HI vs_A l 59 vs_M) vs_M) "Orderbench" prog_1_method_1_code 3 none "<init>" 89 (ve_nw 92 3 [.null, .int 0]) := ve_new_ok (C := "Orderbench$Row") (by decide +kernel : decode prog_1_method_1_code 89 = .ok (.new 9, 3)) vw_46 vw_49 vw_50 vf_21 rfl vf_22 rfl
set_option maxRecDepth 16384 in
theorem vi_1_92 (l : Launch) : ve_OK vs_A l 59 (ve_HI vs_A l 59 vs_M) (ve_CB vs_A l 59 (ve_HI vs_A l 59 vs_M) vs_M) "Orderbench" prog_1_method_1_code 3 none "<init>" 92 (ve_pu (ve_dup 93)) := ve_pu_ok (ve_dup_ok (by decide +kernel : decode prog_1_method_1_code 92 = .ok (.dup, 1)))
set_option maxRecDepth 16384 in
theorem vi_1_93 (l : Launch) : ve_OK vs_A l 59 (ve_HI vs_A l 59 vs_M) (ve_CB vs_A l 59 (ve_HI vs_A l 59 vs_M) vs_M) "Orderbench" prog_1_method_1_code 3 none "<init>" 93 (ve_cw 59 1 96 [(3, 2)]) := ve_cw_ok rfl (List.forall_mem_cons.mpr ⟨ve_rowIN (md := vs_M) (A0 := vs_A) (mi := 2) (na := 0) (host := "Orderbench") (by decide +kernel : decode prog_1_method_1_code 93 = .ok (.invokespecial 15, 3)) (by decide) vw_53 vw_51 vw_50 vw_52 rfl ⟨by decide, by decide⟩ vf_2 rfl rfl 3, List.forall_mem_nil _⟩)
set_option maxRecDepth 16384 in
theorem vi_1_96 (l : Launch) : ve_OK vs_A l 59 (ve_HI vs_A l 59 vs_M) (ve_CB vs_A l 59 (ve_HI vs_A l 59 vs_M) vs_M) "Orderbench" prog_1_method_1_code 3 none "<init>" 96 (ve_pf 99 3 [2] (.object "Orderbench$Row")) := ve_putfF_ok (by decide +kernel : decode prog_1_method_1_code 96 = .ok (.putfield 31, 3)) vw_64 rfl vf_35 vf_34
set_option maxRecDepth 16384 in
theorem vi_1_99 (l : Launch) : ve_OK vs_A l 59 (ve_HI vs_A l 59 vs_M) (ve_CB vs_A l 59 (ve_HI vs_A l 59 vs_M) vs_M) "Orderbench" prog_1_method_1_code 3 none "<init>" 99 (ve_pu (ve_al 100 0)) := ve_pu_ok (ve_aload_n_ok (k := 0) (i := 0) (by decide +kernel : decode prog_1_method_1_code 99 = .ok (.aload_n 0, 1)) rfl)
set_option maxRecDepth 16384 in
theorem vi_1_100 (l : Launch) : ve_OK vs_A l 59 (ve_HI vs_A l 59 vs_M) (ve_CB vs_A l 59 (ve_HI vs_A l 59 vs_M) vs_M) "Orderbench" prog_1_method_1_code 3 none "<init>" 100 (ve_pu (ve_push 102 (.int (16)))) := ve_pu_ok (ve_bipush_ok (n := 16) (v := 16) (by decide +kernel : decode prog_1_method_1_code 100 = .ok (.bipush (16), 2)) (by decide +kernel))
set_option maxRecDepth 16384 in
theorem vi_1_102 (l : Launch) : ve_OK vs_A l 59 (ve_HI vs_A l 59 vs_M) (ve_CB vs_A l 59 (ve_HI vs_A l 59 vs_M) vs_M) "Orderbench" prog_1_method_1_code 3 none "<init>" 102 (ve_na 104 51 (.int 0)) := ve_newa_ok (cls := 51) (ty := .int) (by decide +kernel : decode prog_1_method_1_code 102 = .ok (.newarray .int, 2)) vw_65 vf_36 rfl rfl rfl (by decide)
set_option maxRecDepth 16384 in
theorem vi_1_104 (l : Launch) : ve_OK vs_A l 59 (ve_HI vs_A l 59 vs_M) (ve_CB vs_A l 59 (ve_HI vs_A l 59 vs_M) vs_M) "Orderbench" prog_1_method_1_code 3 none "<init>" 104 (ve_pf 107 4 [2] (.array .int)) := ve_putfF_ok (by decide +kernel : decode prog_1_method_1_code 104 = .ok (.putfield 34, 3)) vw_66 rfl vf_38 vf_37
set_option maxRecDepth 16384 in
theorem vi_1_107 (l : Launch) : ve_OK vs_A l 59 (ve_HI vs_A l 59 vs_M) (ve_CB vs_A l 59 (ve_HI vs_A l 59 vs_M) vs_M) "Orderbench" prog_1_method_1_code 3 none "<init>" 107 (ve_pu (ve_al 108 0)) := ve_pu_ok (ve_aload_n_ok (k := 0) (i := 0) (by decide +kernel : decode prog_1_method_1_code 107 = .ok (.aload_n 0, 1)) rfl)
set_option maxRecDepth 16384 in
theorem vi_1_108 (l : Launch) : ve_OK vs_A l 59 (ve_HI vs_A l 59 vs_M) (ve_CB vs_A l 59 (ve_HI vs_A l 59 vs_M) vs_M) "Orderbench" prog_1_method_1_code 3 none "<init>" 108 (ve_nw 111 36 [.null, .int 0, .int 0, .int 0]) := ve_new_ok (C := "java/lang/StringBuilder") (by decide +kernel : decode prog_1_method_1_code 108 = .ok (.new 38, 3)) vw_67 vw_68 vw_69 vf_39 rfl vf_40 rfl
set_option maxRecDepth 16384 in
theorem vi_1_111 (l : Launch) : ve_OK vs_A l 59 (ve_HI vs_A l 59 vs_M) (ve_CB vs_A l 59 (ve_HI vs_A l 59 vs_M) vs_M) "Orderbench" prog_1_method_1_code 3 none "<init>" 111 (ve_pu (ve_dup 112)) := ve_pu_ok (ve_dup_ok (by decide +kernel : decode prog_1_method_1_code 111 = .ok (.dup, 1)))
set_option maxRecDepth 16384 in
theorem vi_1_112 (l : Launch) : ve_OK vs_A l 59 (ve_HI vs_A l 59 vs_M) (ve_CB vs_A l 59 (ve_HI vs_A l 59 vs_M) vs_M) "Orderbench" prog_1_method_1_code 3 none "<init>" 112 (ve_cw 59 1 115 [(36, 5)]) := ve_cw_ok rfl (List.forall_mem_cons.mpr ⟨ve_rowI (md := vs_M) (A0 := vs_A) (mi := 5) (na := 0) (by decide +kernel : decode prog_1_method_1_code 112 = .ok (.invokespecial 40, 3)) (by decide) vw_72 vw_70 vw_69 vw_71 rfl ⟨by decide, by decide⟩ vf_2 rfl rfl 36, List.forall_mem_nil _⟩)
set_option maxRecDepth 16384 in
theorem vi_1_115 (l : Launch) : ve_OK vs_A l 59 (ve_HI vs_A l 59 vs_M) (ve_CB vs_A l 59 (ve_HI vs_A l 59 vs_M) vs_M) "Orderbench" prog_1_method_1_code 3 none "<init>" 115 (ve_pf 118 5 [2] (.object "java/lang/StringBuilder")) := ve_putfF_ok (by decide +kernel : decode prog_1_method_1_code 115 = .ok (.putfield 41, 3)) vw_73 rfl vf_42 vf_41
set_option maxRecDepth 16384 in
theorem vi_1_118 (l : Launch) : ve_OK vs_A l 59 (ve_HI vs_A l 59 vs_M) (ve_CB vs_A l 59 (ve_HI vs_A l 59 vs_M) vs_M) "Orderbench" prog_1_method_1_code 3 none "<init>" 118 (ve_rt 0 .int) := ve_vret_ok (by decide +kernel : decode prog_1_method_1_code 118 = .ok (.return_, 1)) rfl
set_option maxRecDepth 16384 in
theorem vi_2_0 (l : Launch) : ve_OK vs_A l 59 (ve_HI vs_A l 59 vs_M) (ve_CB vs_A l 59 (ve_HI vs_A l 59 vs_M) vs_M) "Orderbench$Row" prog_4_method_1_code 1 none "<init>" 0 (ve_pu (ve_al 1 0)) := ve_pu_ok (ve_aload_n_ok (k := 0) (i := 0) (by decide +kernel : decode prog_4_method_1_code 0 = .ok (.aload_n 0, 1)) rfl)
set_option maxRecDepth 16384 in
theorem vi_2_1 (l : Launch) : ve_OK vs_A l 59 (ve_HI vs_A l 59 vs_M) (ve_CB vs_A l 59 (ve_HI vs_A l 59 vs_M) vs_M) "Orderbench$Row" prog_4_method_1_code 1 none "<init>" 1 (ve_pu (ve_oi 4)) := ve_cu_ok (ve_oi_ok (by decide +kernel : decode prog_4_method_1_code 1 = .ok (.invokespecial 3, 3)) vw_74 vw_44 vw_45)
set_option maxRecDepth 16384 in
theorem vi_2_4 (l : Launch) : ve_OK vs_A l 59 (ve_HI vs_A l 59 vs_M) (ve_CB vs_A l 59 (ve_HI vs_A l 59 vs_M) vs_M) "Orderbench$Row" prog_4_method_1_code 1 none "<init>" 4 (ve_pu (ve_al 5 0)) := ve_pu_ok (ve_aload_n_ok (k := 0) (i := 0) (by decide +kernel : decode prog_4_method_1_code 4 = .ok (.aload_n 0, 1)) rfl)
set_option maxRecDepth 16384 in
theorem vi_2_5 (l : Launch) : ve_OK vs_A l 59 (ve_HI vs_A l 59 vs_M) (ve_CB vs_A l 59 (ve_HI vs_A l 59 vs_M) vs_M) "Orderbench$Row" prog_4_method_1_code 1 none "<init>" 5 (ve_pu (ve_push 7 (.int (16)))) := ve_pu_ok (ve_bipush_ok (n := 16) (v := 16) (by decide +kernel : decode prog_4_method_1_code 5 = .ok (.bipush (16), 2)) (by decide +kernel))
set_option maxRecDepth 16384 in
theorem vi_2_7 (l : Launch) : ve_OK vs_A l 59 (ve_HI vs_A l 59 vs_M) (ve_CB vs_A l 59 (ve_HI vs_A l 59 vs_M) vs_M) "Orderbench$Row" prog_4_method_1_code 1 none "<init>" 7 (ve_na 9 51 (.int 0)) := ve_newa_ok (cls := 51) (ty := .int) (by decide +kernel : decode prog_4_method_1_code 7 = .ok (.newarray .int, 2)) vw_65 vf_36 rfl rfl rfl (by decide)
set_option maxRecDepth 16384 in
theorem vi_2_9 (l : Launch) : ve_OK vs_A l 59 (ve_HI vs_A l 59 vs_M) (ve_CB vs_A l 59 (ve_HI vs_A l 59 vs_M) vs_M) "Orderbench$Row" prog_4_method_1_code 1 none "<init>" 9 (ve_pf 12 0 [3] (.array .int)) := ve_putfF_ok (by decide +kernel : decode prog_4_method_1_code 9 = .ok (.putfield 9, 3)) vw_75 rfl vf_44 vf_43
set_option maxRecDepth 16384 in
theorem vi_2_12 (l : Launch) : ve_OK vs_A l 59 (ve_HI vs_A l 59 vs_M) (ve_CB vs_A l 59 (ve_HI vs_A l 59 vs_M) vs_M) "Orderbench$Row" prog_4_method_1_code 1 none "<init>" 12 (ve_rt 0 .int) := ve_vret_ok (by decide +kernel : decode prog_4_method_1_code 12 = .ok (.return_, 1)) rfl
set_option maxRecDepth 16384 in
theorem vi_3_0 (l : Launch) : ve_OK vs_A l 59 (ve_HI vs_A l 59 vs_M) (ve_CB vs_A l 59 (ve_HI vs_A l 59 vs_M) vs_M) "Orderbench$Base" prog_2_method_1_code 2 none "<init>" 0 (ve_pu (ve_al 1 0)) := ve_pu_ok (ve_aload_n_ok (k := 0) (i := 0) (by decide +kernel : decode prog_2_method_1_code 0 = .ok (.aload_n 0, 1)) rfl)
set_option maxRecDepth 16384 in
theorem vi_3_1 (l : Launch) : ve_OK vs_A l 59 (ve_HI vs_A l 59 vs_M) (ve_CB vs_A l 59 (ve_HI vs_A l 59 vs_M) vs_M) "Orderbench$Base" prog_2_method_1_code 2 none "<init>" 1 (ve_pu (ve_push 2 (.int (1)))) := ve_pu_ok (ve_iconst_ok (n := 1) (v := 1) (by decide +kernel : decode prog_2_method_1_code 1 = .ok (.iconst (1), 1)) rfl)
set_option maxRecDepth 16384 in
theorem vi_3_2 (l : Launch) : ve_OK vs_A l 59 (ve_HI vs_A l 59 vs_M) (ve_CB vs_A l 59 (ve_HI vs_A l 59 vs_M) vs_M) "Orderbench$Base" prog_2_method_1_code 2 none "<init>" 2 (ve_pu (ve_push 3 (.int (0)))) := ve_pu_ok (ve_iconst_ok (n := 0) (v := 0) (by decide +kernel : decode prog_2_method_1_code 2 = .ok (.iconst (0), 1)) rfl)
set_option maxRecDepth 16384 in
theorem vi_3_3 (l : Launch) : ve_OK vs_A l 59 (ve_HI vs_A l 59 vs_M) (ve_CB vs_A l 59 (ve_HI vs_A l 59 vs_M) vs_M) "Orderbench$Base" prog_2_method_1_code 2 none "<init>" 3 (ve_cw 59 3 6 [(26, 4)]) := ve_cw_ok rfl (List.forall_mem_cons.mpr ⟨ve_rowI (md := vs_M) (A0 := vs_A) (mi := 4) (na := 2) (by decide +kernel : decode prog_2_method_1_code 3 = .ok (.invokespecial 3, 3)) (by decide) vw_79 vw_76 vw_77 vw_78 rfl ⟨by decide, by decide⟩ vf_45 rfl rfl 26, List.forall_mem_nil _⟩)
set_option maxRecDepth 16384 in
theorem vi_3_6 (l : Launch) : ve_OK vs_A l 59 (ve_HI vs_A l 59 vs_M) (ve_CB vs_A l 59 (ve_HI vs_A l 59 vs_M) vs_M) "Orderbench$Base" prog_2_method_1_code 2 none "<init>" 6 (ve_pu (ve_al 7 0)) := ve_pu_ok (ve_aload_n_ok (k := 0) (i := 0) (by decide +kernel : decode prog_2_method_1_code 6 = .ok (.aload_n 0, 1)) rfl)
set_option maxRecDepth 16384 in
theorem vi_3_7 (l : Launch) : ve_OK vs_A l 59 (ve_HI vs_A l 59 vs_M) (ve_CB vs_A l 59 (ve_HI vs_A l 59 vs_M) vs_M) "Orderbench$Base" prog_2_method_1_code 2 none "<init>" 7 (ve_pu (ve_il 8 1)) := ve_pu_ok (ve_iload_n_ok (k := 1) (i := 1) (by decide +kernel : decode prog_2_method_1_code 7 = .ok (.iload_n 1, 1)) rfl)
set_option maxRecDepth 16384 in
theorem vi_3_8 (l : Launch) : ve_OK vs_A l 59 (ve_HI vs_A l 59 vs_M) (ve_CB vs_A l 59 (ve_HI vs_A l 59 vs_M) vs_M) "Orderbench$Base" prog_2_method_1_code 2 none "<init>" 8 (ve_pf 11 2 [26] .int) := ve_putfF_ok (by decide +kernel : decode prog_2_method_1_code 8 = .ok (.putfield 9, 3)) vw_80 rfl vf_47 vf_46
set_option maxRecDepth 16384 in
theorem vi_3_11 (l : Launch) : ve_OK vs_A l 59 (ve_HI vs_A l 59 vs_M) (ve_CB vs_A l 59 (ve_HI vs_A l 59 vs_M) vs_M) "Orderbench$Base" prog_2_method_1_code 2 none "<init>" 11 (ve_rt 0 .int) := ve_vret_ok (by decide +kernel : decode prog_2_method_1_code 11 = .ok (.return_, 1)) rfl
set_option maxRecDepth 16384 in
theorem vi_4_0 (l : Launch) : ve_OK vs_A l 59 (ve_HI vs_A l 59 vs_M) (ve_CB vs_A l 59 (ve_HI vs_A l 59 vs_M) vs_M) "Orderbench$Shape" prog_5_method_1_code 3 none "<init>" 0 (ve_pu (ve_al 1 0)) := ve_pu_ok (ve_aload_n_ok (k := 0) (i := 0) (by decide +kernel : decode prog_5_method_1_code 0 = .ok (.aload_n 0, 1)) rfl)
set_option maxRecDepth 16384 in
theorem vi_4_1 (l : Launch) : ve_OK vs_A l 59 (ve_HI vs_A l 59 vs_M) (ve_CB vs_A l 59 (ve_HI vs_A l 59 vs_M) vs_M) "Orderbench$Shape" prog_5_method_1_code 3 none "<init>" 1 (ve_pu (ve_oi 4)) := ve_cu_ok (ve_oi_ok (by decide +kernel : decode prog_5_method_1_code 1 = .ok (.invokespecial 1, 3)) vw_81 vw_44 vw_45)
set_option maxRecDepth 16384 in
theorem vi_4_4 (l : Launch) : ve_OK vs_A l 59 (ve_HI vs_A l 59 vs_M) (ve_CB vs_A l 59 (ve_HI vs_A l 59 vs_M) vs_M) "Orderbench$Shape" prog_5_method_1_code 3 none "<init>" 4 (ve_pu (ve_al 5 0)) := ve_pu_ok (ve_aload_n_ok (k := 0) (i := 0) (by decide +kernel : decode prog_5_method_1_code 4 = .ok (.aload_n 0, 1)) rfl)
set_option maxRecDepth 16384 in
theorem vi_4_5 (l : Launch) : ve_OK vs_A l 59 (ve_HI vs_A l 59 vs_M) (ve_CB vs_A l 59 (ve_HI vs_A l 59 vs_M) vs_M) "Orderbench$Shape" prog_5_method_1_code 3 none "<init>" 5 (ve_pu (ve_il 6 1)) := ve_pu_ok (ve_iload_n_ok (k := 1) (i := 1) (by decide +kernel : decode prog_5_method_1_code 5 = .ok (.iload_n 1, 1)) rfl)
set_option maxRecDepth 16384 in
theorem vi_4_6 (l : Launch) : ve_OK vs_A l 59 (ve_HI vs_A l 59 vs_M) (ve_CB vs_A l 59 (ve_HI vs_A l 59 vs_M) vs_M) "Orderbench$Shape" prog_5_method_1_code 3 none "<init>" 6 (ve_pf 9 0 [26, 32, 33] .int) := ve_putfF_ok (by decide +kernel : decode prog_5_method_1_code 6 = .ok (.putfield 7, 3)) vw_82 rfl vf_49 vf_48
set_option maxRecDepth 16384 in
theorem vi_4_9 (l : Launch) : ve_OK vs_A l 59 (ve_HI vs_A l 59 vs_M) (ve_CB vs_A l 59 (ve_HI vs_A l 59 vs_M) vs_M) "Orderbench$Shape" prog_5_method_1_code 3 none "<init>" 9 (ve_pu (ve_al 10 0)) := ve_pu_ok (ve_aload_n_ok (k := 0) (i := 0) (by decide +kernel : decode prog_5_method_1_code 9 = .ok (.aload_n 0, 1)) rfl)
set_option maxRecDepth 16384 in
theorem vi_4_10 (l : Launch) : ve_OK vs_A l 59 (ve_HI vs_A l 59 vs_M) (ve_CB vs_A l 59 (ve_HI vs_A l 59 vs_M) vs_M) "Orderbench$Shape" prog_5_method_1_code 3 none "<init>" 10 (ve_pu (ve_il 11 2)) := ve_pu_ok (ve_iload_n_ok (k := 2) (i := 2) (by decide +kernel : decode prog_5_method_1_code 10 = .ok (.iload_n 2, 1)) rfl)
set_option maxRecDepth 16384 in
theorem vi_4_11 (l : Launch) : ve_OK vs_A l 59 (ve_HI vs_A l 59 vs_M) (ve_CB vs_A l 59 (ve_HI vs_A l 59 vs_M) vs_M) "Orderbench$Shape" prog_5_method_1_code 3 none "<init>" 11 (ve_pf 14 1 [26, 32, 33] .boolean) := ve_putfF_ok (by decide +kernel : decode prog_5_method_1_code 11 = .ok (.putfield 13, 3)) vw_83 rfl vf_51 vf_50
set_option maxRecDepth 16384 in
theorem vi_4_14 (l : Launch) : ve_OK vs_A l 59 (ve_HI vs_A l 59 vs_M) (ve_CB vs_A l 59 (ve_HI vs_A l 59 vs_M) vs_M) "Orderbench$Shape" prog_5_method_1_code 3 none "<init>" 14 (ve_rt 0 .int) := ve_vret_ok (by decide +kernel : decode prog_5_method_1_code 14 = .ok (.return_, 1)) rfl
set_option maxRecDepth 16384 in
theorem vi_5_0 (l : Launch) : ve_OK vs_A l 59 (ve_HI vs_A l 59 vs_M) (ve_CB vs_A l 59 (ve_HI vs_A l 59 vs_M) vs_M) "java/lang/StringBuilder" prog_29_method_1_code 1 none "<init>" 0 (ve_pu (ve_al 1 0)) := ve_pu_ok (ve_aload_n_ok (k := 0) (i := 0) (by decide +kernel : decode prog_29_method_1_code 0 = .ok (.aload_n 0, 1)) rfl)
set_option maxRecDepth 16384 in
theorem vi_5_1 (l : Launch) : ve_OK vs_A l 59 (ve_HI vs_A l 59 vs_M) (ve_CB vs_A l 59 (ve_HI vs_A l 59 vs_M) vs_M) "java/lang/StringBuilder" prog_29_method_1_code 1 none "<init>" 1 (ve_pu (ve_push 3 (.int (16)))) := ve_pu_ok (ve_bipush_ok (n := 16) (v := 16) (by decide +kernel : decode prog_29_method_1_code 1 = .ok (.bipush (16), 2)) (by decide +kernel))
set_option maxRecDepth 16384 in
theorem vi_5_3 (l : Launch) : ve_OK vs_A l 59 (ve_HI vs_A l 59 vs_M) (ve_CB vs_A l 59 (ve_HI vs_A l 59 vs_M) vs_M) "java/lang/StringBuilder" prog_29_method_1_code 1 none "<init>" 3 (ve_cw 59 2 6 [(36, 6)]) := ve_cw_ok rfl (List.forall_mem_cons.mpr ⟨ve_rowI (md := vs_M) (A0 := vs_A) (mi := 6) (na := 1) (by decide +kernel : decode prog_29_method_1_code 3 = .ok (.invokespecial 1, 3)) (by decide) vw_87 vw_84 vw_85 vw_86 rfl ⟨by decide, by decide⟩ vf_29 rfl rfl 36, List.forall_mem_nil _⟩)
set_option maxRecDepth 16384 in
theorem vi_5_6 (l : Launch) : ve_OK vs_A l 59 (ve_HI vs_A l 59 vs_M) (ve_CB vs_A l 59 (ve_HI vs_A l 59 vs_M) vs_M) "java/lang/StringBuilder" prog_29_method_1_code 1 none "<init>" 6 (ve_rt 0 .int) := ve_vret_ok (by decide +kernel : decode prog_29_method_1_code 6 = .ok (.return_, 1)) rfl
set_option maxRecDepth 16384 in
theorem vi_6_0 (l : Launch) : ve_OK vs_A l 59 (ve_HI vs_A l 59 vs_M) (ve_CB vs_A l 59 (ve_HI vs_A l 59 vs_M) vs_M) "java/lang/AbstractStringBuilder" prog_13_method_2_code 2 none "<init>" 0 (ve_pu (ve_al 1 0)) := ve_pu_ok (ve_aload_n_ok (k := 0) (i := 0) (by decide +kernel : decode prog_13_method_2_code 0 = .ok (.aload_n 0, 1)) rfl)
set_option maxRecDepth 16384 in
theorem vi_6_1 (l : Launch) : ve_OK vs_A l 59 (ve_HI vs_A l 59 vs_M) (ve_CB vs_A l 59 (ve_HI vs_A l 59 vs_M) vs_M) "java/lang/AbstractStringBuilder" prog_13_method_2_code 2 none "<init>" 1 (ve_pu (ve_oi 4)) := ve_cu_ok (ve_oi_ok (by decide +kernel : decode prog_13_method_2_code 1 = .ok (.invokespecial 3, 3)) vw_88 vw_44 vw_45)
set_option maxRecDepth 16384 in
theorem vi_6_4 (l : Launch) : ve_OK vs_A l 59 (ve_HI vs_A l 59 vs_M) (ve_CB vs_A l 59 (ve_HI vs_A l 59 vs_M) vs_M) "java/lang/AbstractStringBuilder" prog_13_method_2_code 2 none "<init>" 4 (ve_gs 7 3 1) := ve_gets_ok (by decide +kernel : decode prog_13_method_2_code 4 = .ok (.getstatic 18, 3)) vw_89 (by decide) vf_52
set_option maxRecDepth 16384 in
theorem vi_6_7 (l : Launch) : ve_OK vs_A l 59 (ve_HI vs_A l 59 vs_M) (ve_CB vs_A l 59 (ve_HI vs_A l 59 vs_M) vs_M) "java/lang/AbstractStringBuilder" prog_13_method_2_code 2 none "<init>" 7 (ve_pu (ve_br1 (fun x => decide (x = 0)) 25 10)) := ve_pu_ok (ve_if_eq_ok (by decide +kernel : decode prog_13_method_2_code 7 = .ok (.ifCond .eq (18), 3)) (by decide +kernel))
set_option maxRecDepth 16384 in
theorem vi_6_10 (l : Launch) : ve_OK vs_A l 59 (ve_HI vs_A l 59 vs_M) (ve_CB vs_A l 59 (ve_HI vs_A l 59 vs_M) vs_M) "java/lang/AbstractStringBuilder" prog_13_method_2_code 2 none "<init>" 10 (ve_pu (ve_al 11 0)) := ve_pu_ok (ve_aload_n_ok (k := 0) (i := 0) (by decide +kernel : decode prog_13_method_2_code 10 = .ok (.aload_n 0, 1)) rfl)
set_option maxRecDepth 16384 in
theorem vi_6_11 (l : Launch) : ve_OK vs_A l 59 (ve_HI vs_A l 59 vs_M) (ve_CB vs_A l 59 (ve_HI vs_A l 59 vs_M) vs_M) "java/lang/AbstractStringBuilder" prog_13_method_2_code 2 none "<init>" 11 (ve_pu (ve_il 12 1)) := ve_pu_ok (ve_iload_n_ok (k := 1) (i := 1) (by decide +kernel : decode prog_13_method_2_code 11 = .ok (.iload_n 1, 1)) rfl)
set_option maxRecDepth 16384 in
theorem vi_6_12 (l : Launch) : ve_OK vs_A l 59 (ve_HI vs_A l 59 vs_M) (ve_CB vs_A l 59 (ve_HI vs_A l 59 vs_M) vs_M) "java/lang/AbstractStringBuilder" prog_13_method_2_code 2 none "<init>" 12 (ve_na 14 53 (.int 0)) := ve_newa_ok (cls := 53) (ty := .byte) (by decide +kernel : decode prog_13_method_2_code 12 = .ok (.newarray .byte, 2)) vw_90 vf_53 rfl rfl rfl (by decide)
set_option maxRecDepth 16384 in
theorem vi_6_14 (l : Launch) : ve_OK vs_A l 59 (ve_HI vs_A l 59 vs_M) (ve_CB vs_A l 59 (ve_HI vs_A l 59 vs_M) vs_M) "java/lang/AbstractStringBuilder" prog_13_method_2_code 2 none "<init>" 14 (ve_pf 17 0 [36] (.array .byte)) := ve_putf_ok (by decide +kernel : decode prog_13_method_2_code 14 = .ok (.putfield 15, 3)) vw_91 vf_55 vf_54
set_option maxRecDepth 16384 in
theorem vi_6_17 (l : Launch) : ve_OK vs_A l 59 (ve_HI vs_A l 59 vs_M) (ve_CB vs_A l 59 (ve_HI vs_A l 59 vs_M) vs_M) "java/lang/AbstractStringBuilder" prog_13_method_2_code 2 none "<init>" 17 (ve_pu (ve_al 18 0)) := ve_pu_ok (ve_aload_n_ok (k := 0) (i := 0) (by decide +kernel : decode prog_13_method_2_code 17 = .ok (.aload_n 0, 1)) rfl)
set_option maxRecDepth 16384 in
theorem vi_6_18 (l : Launch) : ve_OK vs_A l 59 (ve_HI vs_A l 59 vs_M) (ve_CB vs_A l 59 (ve_HI vs_A l 59 vs_M) vs_M) "java/lang/AbstractStringBuilder" prog_13_method_2_code 2 none "<init>" 18 (ve_pu (ve_push 19 (.int (0)))) := ve_pu_ok (ve_iconst_ok (n := 0) (v := 0) (by decide +kernel : decode prog_13_method_2_code 18 = .ok (.iconst (0), 1)) rfl)
set_option maxRecDepth 16384 in
theorem vi_6_19 (l : Launch) : ve_OK vs_A l 59 (ve_HI vs_A l 59 vs_M) (ve_CB vs_A l 59 (ve_HI vs_A l 59 vs_M) vs_M) "java/lang/AbstractStringBuilder" prog_13_method_2_code 2 none "<init>" 19 (ve_pf 22 1 [36] .byte) := ve_putf_ok (by decide +kernel : decode prog_13_method_2_code 19 = .ok (.putfield 22, 3)) vw_92 vf_57 vf_56
set_option maxRecDepth 16384 in
theorem vi_6_22 (l : Launch) : ve_OK vs_A l 59 (ve_HI vs_A l 59 vs_M) (ve_CB vs_A l 59 (ve_HI vs_A l 59 vs_M) vs_M) "java/lang/AbstractStringBuilder" prog_13_method_2_code 2 none "<init>" 22 (ve_pu (ve_jmp 38)) := ve_pu_ok (ve_goto_ok (by decide +kernel : decode prog_13_method_2_code 22 = .ok (.goto (16), 3)) (by decide +kernel))
set_option maxRecDepth 16384 in
theorem vi_6_38 (l : Launch) : ve_OK vs_A l 59 (ve_HI vs_A l 59 vs_M) (ve_CB vs_A l 59 (ve_HI vs_A l 59 vs_M) vs_M) "java/lang/AbstractStringBuilder" prog_13_method_2_code 2 none "<init>" 38 (ve_rt 0 .int) := ve_vret_ok (by decide +kernel : decode prog_13_method_2_code 38 = .ok (.return_, 1)) rfl
set_option maxRecDepth 16384 in
theorem vi_7_0 (l : Launch) : ve_OK vs_A l 59 (ve_HI vs_A l 59 vs_M) (ve_CB vs_A l 59 (ve_HI vs_A l 59 vs_M) vs_M) "OrderbenchModel" prog_10_method_1_code 2 none "<init>" 0 (ve_pu (ve_al 1 0)) := ve_pu_ok (ve_aload_n_ok (k := 0) (i := 0) (by decide +kernel : decode prog_10_method_1_code 0 = .ok (.aload_n 0, 1)) rfl)
set_option maxRecDepth 16384 in
theorem vi_7_1 (l : Launch) : ve_OK vs_A l 59 (ve_HI vs_A l 59 vs_M) (ve_CB vs_A l 59 (ve_HI vs_A l 59 vs_M) vs_M) "OrderbenchModel" prog_10_method_1_code 2 none "<init>" 1 (ve_pu (ve_oi 4)) := ve_cu_ok (ve_oi_ok (by decide +kernel : decode prog_10_method_1_code 1 = .ok (.invokespecial 1, 3)) vw_93 vw_44 vw_45)
set_option maxRecDepth 16384 in
theorem vi_7_4 (l : Launch) : ve_OK vs_A l 59 (ve_HI vs_A l 59 vs_M) (ve_CB vs_A l 59 (ve_HI vs_A l 59 vs_M) vs_M) "OrderbenchModel" prog_10_method_1_code 2 none "<init>" 4 (ve_pu (ve_al 5 0)) := ve_pu_ok (ve_aload_n_ok (k := 0) (i := 0) (by decide +kernel : decode prog_10_method_1_code 4 = .ok (.aload_n 0, 1)) rfl)
set_option maxRecDepth 16384 in
theorem vi_7_5 (l : Launch) : ve_OK vs_A l 59 (ve_HI vs_A l 59 vs_M) (ve_CB vs_A l 59 (ve_HI vs_A l 59 vs_M) vs_M) "OrderbenchModel" prog_10_method_1_code 2 none "<init>" 5 (ve_nw 8 47 [.int 0, .null, .int 0]) := ve_new_ok (C := "java/util/ArrayList") (by decide +kernel : decode prog_10_method_1_code 5 = .ok (.new 7, 3)) vw_94 vw_95 vw_96 vf_58 rfl vf_59 rfl
set_option maxRecDepth 16384 in
theorem vi_7_8 (l : Launch) : ve_OK vs_A l 59 (ve_HI vs_A l 59 vs_M) (ve_CB vs_A l 59 (ve_HI vs_A l 59 vs_M) vs_M) "OrderbenchModel" prog_10_method_1_code 2 none "<init>" 8 (ve_pu (ve_dup 9)) := ve_pu_ok (ve_dup_ok (by decide +kernel : decode prog_10_method_1_code 8 = .ok (.dup, 1)))
set_option maxRecDepth 16384 in
theorem vi_7_9 (l : Launch) : ve_OK vs_A l 59 (ve_HI vs_A l 59 vs_M) (ve_CB vs_A l 59 (ve_HI vs_A l 59 vs_M) vs_M) "OrderbenchModel" prog_10_method_1_code 2 none "<init>" 9 (ve_cw 59 1 12 [(47, 8)]) := ve_cw_ok rfl (List.forall_mem_cons.mpr ⟨ve_rowI (md := vs_M) (A0 := vs_A) (mi := 8) (na := 0) (by decide +kernel : decode prog_10_method_1_code 9 = .ok (.invokespecial 9, 3)) (by decide) vw_99 vw_97 vw_96 vw_98 rfl ⟨by decide, by decide⟩ vf_2 rfl rfl 47, List.forall_mem_nil _⟩)
set_option maxRecDepth 16384 in
theorem vi_7_12 (l : Launch) : ve_OK vs_A l 59 (ve_HI vs_A l 59 vs_M) (ve_CB vs_A l 59 (ve_HI vs_A l 59 vs_M) vs_M) "OrderbenchModel" prog_10_method_1_code 2 none "<init>" 12 (ve_pf 15 1 [6] (.object "java/util/ArrayList")) := ve_putfF_ok (by decide +kernel : decode prog_10_method_1_code 12 = .ok (.putfield 10, 3)) vw_100 rfl vf_61 vf_60
set_option maxRecDepth 16384 in
theorem vi_7_15 (l : Launch) : ve_OK vs_A l 59 (ve_HI vs_A l 59 vs_M) (ve_CB vs_A l 59 (ve_HI vs_A l 59 vs_M) vs_M) "OrderbenchModel" prog_10_method_1_code 2 none "<init>" 15 (ve_pu (ve_al 16 0)) := ve_pu_ok (ve_aload_n_ok (k := 0) (i := 0) (by decide +kernel : decode prog_10_method_1_code 15 = .ok (.aload_n 0, 1)) rfl)
set_option maxRecDepth 16384 in
theorem vi_7_16 (l : Launch) : ve_OK vs_A l 59 (ve_HI vs_A l 59 vs_M) (ve_CB vs_A l 59 (ve_HI vs_A l 59 vs_M) vs_M) "OrderbenchModel" prog_10_method_1_code 2 none "<init>" 16 (ve_pu (ve_push 18 (.int (10)))) := ve_pu_ok (ve_bipush_ok (n := 10) (v := 10) (by decide +kernel : decode prog_10_method_1_code 16 = .ok (.bipush (10), 2)) (by decide +kernel))
set_option maxRecDepth 16384 in
theorem vi_7_18 (l : Launch) : ve_OK vs_A l 59 (ve_HI vs_A l 59 vs_M) (ve_CB vs_A l 59 (ve_HI vs_A l 59 vs_M) vs_M) "OrderbenchModel" prog_10_method_1_code 2 none "<init>" 18 (ve_na 21 56 .null) := ve_anew2_ok (C := "OrderbenchModel$Shape") (by decide +kernel : decode prog_10_method_1_code 18 = .ok (.anewarray 16, 3)) vw_101 vw_102 vf_62 rfl
set_option maxRecDepth 16384 in
theorem vi_7_21 (l : Launch) : ve_OK vs_A l 59 (ve_HI vs_A l 59 vs_M) (ve_CB vs_A l 59 (ve_HI vs_A l 59 vs_M) vs_M) "OrderbenchModel" prog_10_method_1_code 2 none "<init>" 21 (ve_pf 24 2 [6] (.array (.object "OrderbenchModel$Shape"))) := ve_putfF_ok (by decide +kernel : decode prog_10_method_1_code 21 = .ok (.putfield 18, 3)) vw_103 rfl vf_64 vf_63
set_option maxRecDepth 16384 in
theorem vi_7_24 (l : Launch) : ve_OK vs_A l 59 (ve_HI vs_A l 59 vs_M) (ve_CB vs_A l 59 (ve_HI vs_A l 59 vs_M) vs_M) "OrderbenchModel" prog_10_method_1_code 2 none "<init>" 24 (ve_pu (ve_push 25 (.int (0)))) := ve_pu_ok (ve_iconst_ok (n := 0) (v := 0) (by decide +kernel : decode prog_10_method_1_code 24 = .ok (.iconst (0), 1)) rfl)
set_option maxRecDepth 16384 in
theorem vi_7_25 (l : Launch) : ve_OK vs_A l 59 (ve_HI vs_A l 59 vs_M) (ve_CB vs_A l 59 (ve_HI vs_A l 59 vs_M) vs_M) "OrderbenchModel" prog_10_method_1_code 2 none "<init>" 25 (ve_pu (ve_is 26 1 2)) := ve_pu_ok (ve_istore_n_ok (k := 1) (i := 1) (by decide +kernel : decode prog_10_method_1_code 25 = .ok (.istore_n 1, 1)) rfl)
set_option maxRecDepth 16384 in
theorem vi_7_26 (l : Launch) : ve_OK vs_A l 59 (ve_HI vs_A l 59 vs_M) (ve_CB vs_A l 59 (ve_HI vs_A l 59 vs_M) vs_M) "OrderbenchModel" prog_10_method_1_code 2 none "<init>" 26 (ve_pu (ve_il 27 1)) := ve_pu_ok (ve_iload_n_ok (k := 1) (i := 1) (by decide +kernel : decode prog_10_method_1_code 26 = .ok (.iload_n 1, 1)) rfl)
set_option maxRecDepth 16384 in
theorem vi_7_27 (l : Launch) : ve_OK vs_A l 59 (ve_HI vs_A l 59 vs_M) (ve_CB vs_A l 59 (ve_HI vs_A l 59 vs_M) vs_M) "OrderbenchModel" prog_10_method_1_code 2 none "<init>" 27 (ve_pu (ve_push 28 (.int (2)))) := ve_pu_ok (ve_iconst_ok (n := 2) (v := 2) (by decide +kernel : decode prog_10_method_1_code 27 = .ok (.iconst (2), 1)) rfl)
set_option maxRecDepth 16384 in
theorem vi_7_28 (l : Launch) : ve_OK vs_A l 59 (ve_HI vs_A l 59 vs_M) (ve_CB vs_A l 59 (ve_HI vs_A l 59 vs_M) vs_M) "OrderbenchModel" prog_10_method_1_code 2 none "<init>" 28 (ve_pu (ve_br2 (fun x y => decide (¬ x < y)) 52 31)) := ve_pu_ok (ve_icmp_ge_ok (by decide +kernel : decode prog_10_method_1_code 28 = .ok (.if_icmp .ge (24), 3)) (by decide +kernel))
set_option maxRecDepth 16384 in
theorem vi_7_31 (l : Launch) : ve_OK vs_A l 59 (ve_HI vs_A l 59 vs_M) (ve_CB vs_A l 59 (ve_HI vs_A l 59 vs_M) vs_M) "OrderbenchModel" prog_10_method_1_code 2 none "<init>" 31 (ve_pu (ve_al 32 0)) := ve_pu_ok (ve_aload_n_ok (k := 0) (i := 0) (by decide +kernel : decode prog_10_method_1_code 31 = .ok (.aload_n 0, 1)) rfl)
set_option maxRecDepth 16384 in
theorem vi_7_32 (l : Launch) : ve_OK vs_A l 59 (ve_HI vs_A l 59 vs_M) (ve_CB vs_A l 59 (ve_HI vs_A l 59 vs_M) vs_M) "OrderbenchModel" prog_10_method_1_code 2 none "<init>" 32 (ve_gf 35 1) := ve_getf_ok (k := 1) (by decide +kernel : decode prog_10_method_1_code 32 = .ok (.getfield 10, 3)) vw_100 vf_65
set_option maxRecDepth 16384 in
theorem vi_7_35 (l : Launch) : ve_OK vs_A l 59 (ve_HI vs_A l 59 vs_M) (ve_CB vs_A l 59 (ve_HI vs_A l 59 vs_M) vs_M) "OrderbenchModel" prog_10_method_1_code 2 none "<init>" 35 (ve_nw 38 47 [.int 0, .null, .int 0]) := ve_new_ok (C := "java/util/ArrayList") (by decide +kernel : decode prog_10_method_1_code 35 = .ok (.new 7, 3)) vw_94 vw_95 vw_96 vf_58 rfl vf_59 rfl
set_option maxRecDepth 16384 in
theorem vi_7_38 (l : Launch) : ve_OK vs_A l 59 (ve_HI vs_A l 59 vs_M) (ve_CB vs_A l 59 (ve_HI vs_A l 59 vs_M) vs_M) "OrderbenchModel" prog_10_method_1_code 2 none "<init>" 38 (ve_pu (ve_dup 39)) := ve_pu_ok (ve_dup_ok (by decide +kernel : decode prog_10_method_1_code 38 = .ok (.dup, 1)))
set_option maxRecDepth 16384 in
theorem vi_7_39 (l : Launch) : ve_OK vs_A l 59 (ve_HI vs_A l 59 vs_M) (ve_CB vs_A l 59 (ve_HI vs_A l 59 vs_M) vs_M) "OrderbenchModel" prog_10_method_1_code 2 none "<init>" 39 (ve_cw 59 1 42 [(47, 8)]) := ve_cw_ok rfl (List.forall_mem_cons.mpr ⟨ve_rowI (md := vs_M) (A0 := vs_A) (mi := 8) (na := 0) (by decide +kernel : decode prog_10_method_1_code 39 = .ok (.invokespecial 9, 3)) (by decide) vw_99 vw_97 vw_96 vw_98 rfl ⟨by decide, by decide⟩ vf_2 rfl rfl 47, List.forall_mem_nil _⟩)
set_option maxRecDepth 16384 in
theorem vi_7_42 (l : Launch) : ve_OK vs_A l 59 (ve_HI vs_A l 59 vs_M) (ve_CB vs_A l 59 (ve_HI vs_A l 59 vs_M) vs_M) "OrderbenchModel" prog_10_method_1_code 2 none "<init>" 42 (ve_cw 59 2 45 [(47, 11)]) := ve_cw_ok rfl (List.forall_mem_cons.mpr ⟨ve_rowU (md := vs_M) (A0 := vs_A) (mi := 11) (na := 1) (k := 47) (C := "java/util/ArrayList") (owner := "java/util/ArrayList") (x := ⟨"java/util/ArrayList", "add", "(Ljava/lang/Object;)Z"⟩) (by decide +kernel : decode prog_10_method_1_code 42 = .ok (.invokevirtual 22, 3)) (by decide) vw_106 vw_104 vw_96 vw_105 rfl vw_107 vw_108 vf_67 ⟨by decide, by decide⟩ vf_58 vf_66, List.forall_mem_nil _⟩)
set_option maxRecDepth 16384 in
theorem vi_7_45 (l : Launch) : ve_OK vs_A l 59 (ve_HI vs_A l 59 vs_M) (ve_CB vs_A l 59 (ve_HI vs_A l 59 vs_M) vs_M) "OrderbenchModel" prog_10_method_1_code 2 none "<init>" 45 (ve_pu (ve_pop 46)) := ve_pu_ok (ve_pop_ok (by decide +kernel : decode prog_10_method_1_code 45 = .ok (.pop, 1)))
set_option maxRecDepth 16384 in
theorem vi_7_46 (l : Launch) : ve_OK vs_A l 59 (ve_HI vs_A l 59 vs_M) (ve_CB vs_A l 59 (ve_HI vs_A l 59 vs_M) vs_M) "OrderbenchModel" prog_10_method_1_code 2 none "<init>" 46 (ve_pu (ve_ii 49 1 2 (1))) := ve_pu_ok (ve_iinc_ok (by decide +kernel : decode prog_10_method_1_code 46 = .ok (.iinc 1 (1), 3)))
set_option maxRecDepth 16384 in
theorem vi_7_49 (l : Launch) : ve_OK vs_A l 59 (ve_HI vs_A l 59 vs_M) (ve_CB vs_A l 59 (ve_HI vs_A l 59 vs_M) vs_M) "OrderbenchModel" prog_10_method_1_code 2 none "<init>" 49 (ve_pu (ve_jmp 26)) := ve_pu_ok (ve_goto_ok (by decide +kernel : decode prog_10_method_1_code 49 = .ok (.goto (-23), 3)) (by decide +kernel))
set_option maxRecDepth 16384 in
theorem vi_7_52 (l : Launch) : ve_OK vs_A l 59 (ve_HI vs_A l 59 vs_M) (ve_CB vs_A l 59 (ve_HI vs_A l 59 vs_M) vs_M) "OrderbenchModel" prog_10_method_1_code 2 none "<init>" 52 (ve_pu (ve_push 53 (.int (0)))) := ve_pu_ok (ve_iconst_ok (n := 0) (v := 0) (by decide +kernel : decode prog_10_method_1_code 52 = .ok (.iconst (0), 1)) rfl)
set_option maxRecDepth 16384 in
theorem vi_7_53 (l : Launch) : ve_OK vs_A l 59 (ve_HI vs_A l 59 vs_M) (ve_CB vs_A l 59 (ve_HI vs_A l 59 vs_M) vs_M) "OrderbenchModel" prog_10_method_1_code 2 none "<init>" 53 (ve_pu (ve_is 54 1 2)) := ve_pu_ok (ve_istore_n_ok (k := 1) (i := 1) (by decide +kernel : decode prog_10_method_1_code 53 = .ok (.istore_n 1, 1)) rfl)
set_option maxRecDepth 16384 in
theorem vi_7_54 (l : Launch) : ve_OK vs_A l 59 (ve_HI vs_A l 59 vs_M) (ve_CB vs_A l 59 (ve_HI vs_A l 59 vs_M) vs_M) "OrderbenchModel" prog_10_method_1_code 2 none "<init>" 54 (ve_pu (ve_il 55 1)) := ve_pu_ok (ve_iload_n_ok (k := 1) (i := 1) (by decide +kernel : decode prog_10_method_1_code 54 = .ok (.iload_n 1, 1)) rfl)
set_option maxRecDepth 16384 in
theorem vi_7_55 (l : Launch) : ve_OK vs_A l 59 (ve_HI vs_A l 59 vs_M) (ve_CB vs_A l 59 (ve_HI vs_A l 59 vs_M) vs_M) "OrderbenchModel" prog_10_method_1_code 2 none "<init>" 55 (ve_pu (ve_push 57 (.int (10)))) := ve_pu_ok (ve_bipush_ok (n := 10) (v := 10) (by decide +kernel : decode prog_10_method_1_code 55 = .ok (.bipush (10), 2)) (by decide +kernel))
set_option maxRecDepth 16384 in
theorem vi_7_57 (l : Launch) : ve_OK vs_A l 59 (ve_HI vs_A l 59 vs_M) (ve_CB vs_A l 59 (ve_HI vs_A l 59 vs_M) vs_M) "OrderbenchModel" prog_10_method_1_code 2 none "<init>" 57 (ve_pu (ve_br2 (fun x y => decide (¬ x < y)) 83 60)) := ve_pu_ok (ve_icmp_ge_ok (by decide +kernel : decode prog_10_method_1_code 57 = .ok (.if_icmp .ge (26), 3)) (by decide +kernel))
set_option maxRecDepth 16384 in
theorem vi_7_60 (l : Launch) : ve_OK vs_A l 59 (ve_HI vs_A l 59 vs_M) (ve_CB vs_A l 59 (ve_HI vs_A l 59 vs_M) vs_M) "OrderbenchModel" prog_10_method_1_code 2 none "<init>" 60 (ve_pu (ve_al 61 0)) := ve_pu_ok (ve_aload_n_ok (k := 0) (i := 0) (by decide +kernel : decode prog_10_method_1_code 60 = .ok (.aload_n 0, 1)) rfl)
set_option maxRecDepth 16384 in
theorem vi_7_61 (l : Launch) : ve_OK vs_A l 59 (ve_HI vs_A l 59 vs_M) (ve_CB vs_A l 59 (ve_HI vs_A l 59 vs_M) vs_M) "OrderbenchModel" prog_10_method_1_code 2 none "<init>" 61 (ve_gf 64 2) := ve_getf_ok (k := 2) (by decide +kernel : decode prog_10_method_1_code 61 = .ok (.getfield 18, 3)) vw_103 vf_68
set_option maxRecDepth 16384 in
theorem vi_7_64 (l : Launch) : ve_OK vs_A l 59 (ve_HI vs_A l 59 vs_M) (ve_CB vs_A l 59 (ve_HI vs_A l 59 vs_M) vs_M) "OrderbenchModel" prog_10_method_1_code 2 none "<init>" 64 (ve_pu (ve_il 65 1)) := ve_pu_ok (ve_iload_n_ok (k := 1) (i := 1) (by decide +kernel : decode prog_10_method_1_code 64 = .ok (.iload_n 1, 1)) rfl)
set_option maxRecDepth 16384 in
theorem vi_7_65 (l : Launch) : ve_OK vs_A l 59 (ve_HI vs_A l 59 vs_M) (ve_CB vs_A l 59 (ve_HI vs_A l 59 vs_M) vs_M) "OrderbenchModel" prog_10_method_1_code 2 none "<init>" 65 (ve_nw 68 11 [.int 0, .null, .null]) := ve_new_ok (C := "OrderbenchModel$Shape") (by decide +kernel : decode prog_10_method_1_code 65 = .ok (.new 16, 3)) vw_101 vw_109 vw_110 vf_69 rfl vf_70 rfl
set_option maxRecDepth 16384 in
theorem vi_7_68 (l : Launch) : ve_OK vs_A l 59 (ve_HI vs_A l 59 vs_M) (ve_CB vs_A l 59 (ve_HI vs_A l 59 vs_M) vs_M) "OrderbenchModel" prog_10_method_1_code 2 none "<init>" 68 (ve_pu (ve_dup 69)) := ve_pu_ok (ve_dup_ok (by decide +kernel : decode prog_10_method_1_code 68 = .ok (.dup, 1)))
set_option maxRecDepth 16384 in
theorem vi_7_69 (l : Launch) : ve_OK vs_A l 59 (ve_HI vs_A l 59 vs_M) (ve_CB vs_A l 59 (ve_HI vs_A l 59 vs_M) vs_M) "OrderbenchModel" prog_10_method_1_code 2 none "<init>" 69 (ve_pu (ve_push 71 (.int (119)))) := ve_pu_ok (ve_bipush_ok (n := 119) (v := 119) (by decide +kernel : decode prog_10_method_1_code 69 = .ok (.bipush (119), 2)) (by decide +kernel))
set_option maxRecDepth 16384 in
theorem vi_7_71 (l : Launch) : ve_OK vs_A l 59 (ve_HI vs_A l 59 vs_M) (ve_CB vs_A l 59 (ve_HI vs_A l 59 vs_M) vs_M) "OrderbenchModel" prog_10_method_1_code 2 none "<init>" 71 (ve_pu (ve_push 72 .null)) := ve_pu_ok (ve_null_ok (by decide +kernel : decode prog_10_method_1_code 71 = .ok (.aconst_null, 1)))
set_option maxRecDepth 16384 in
theorem vi_7_72 (l : Launch) : ve_OK vs_A l 59 (ve_HI vs_A l 59 vs_M) (ve_CB vs_A l 59 (ve_HI vs_A l 59 vs_M) vs_M) "OrderbenchModel" prog_10_method_1_code 2 none "<init>" 72 (ve_pu (ve_push 73 .null)) := ve_pu_ok (ve_null_ok (by decide +kernel : decode prog_10_method_1_code 72 = .ok (.aconst_null, 1)))
set_option maxRecDepth 16384 in
theorem vi_7_73 (l : Launch) : ve_OK vs_A l 59 (ve_HI vs_A l 59 vs_M) (ve_CB vs_A l 59 (ve_HI vs_A l 59 vs_M) vs_M) "OrderbenchModel" prog_10_method_1_code 2 none "<init>" 73 (ve_cw 59 4 76 [(11, 16)]) := ve_cw_ok rfl (List.forall_mem_cons.mpr ⟨ve_rowI (md := vs_M) (A0 := vs_A) (mi := 16) (na := 3) (by decide +kernel : decode prog_10_method_1_code 73 = .ok (.invokespecial 26, 3)) (by decide) vw_113 vw_111 vw_110 vw_112 rfl ⟨by decide, by decide⟩ vf_71 rfl rfl 11, List.forall_mem_nil _⟩)
set_option maxRecDepth 16384 in
theorem vi_7_76 (l : Launch) : ve_OK vs_A l 59 (ve_HI vs_A l 59 vs_M) (ve_CB vs_A l 59 (ve_HI vs_A l 59 vs_M) vs_M) "OrderbenchModel" prog_10_method_1_code 2 none "<init>" 76 (ve_aas 77 56 [11]) := ve_aast_ok (by decide +kernel : decode prog_10_method_1_code 76 = .ok (.aastore, 1)) vf_72
set_option maxRecDepth 16384 in
theorem vi_7_77 (l : Launch) : ve_OK vs_A l 59 (ve_HI vs_A l 59 vs_M) (ve_CB vs_A l 59 (ve_HI vs_A l 59 vs_M) vs_M) "OrderbenchModel" prog_10_method_1_code 2 none "<init>" 77 (ve_pu (ve_ii 80 1 2 (1))) := ve_pu_ok (ve_iinc_ok (by decide +kernel : decode prog_10_method_1_code 77 = .ok (.iinc 1 (1), 3)))
set_option maxRecDepth 16384 in
theorem vi_7_80 (l : Launch) : ve_OK vs_A l 59 (ve_HI vs_A l 59 vs_M) (ve_CB vs_A l 59 (ve_HI vs_A l 59 vs_M) vs_M) "OrderbenchModel" prog_10_method_1_code 2 none "<init>" 80 (ve_pu (ve_jmp 54)) := ve_pu_ok (ve_goto_ok (by decide +kernel : decode prog_10_method_1_code 80 = .ok (.goto (-26), 3)) (by decide +kernel))
set_option maxRecDepth 16384 in
theorem vi_7_83 (l : Launch) : ve_OK vs_A l 59 (ve_HI vs_A l 59 vs_M) (ve_CB vs_A l 59 (ve_HI vs_A l 59 vs_M) vs_M) "OrderbenchModel" prog_10_method_1_code 2 none "<init>" 83 (ve_rt 0 .int) := ve_vret_ok (by decide +kernel : decode prog_10_method_1_code 83 = .ok (.return_, 1)) rfl
set_option maxRecDepth 16384 in
theorem vi_8_0 (l : Launch) : ve_OK vs_A l 59 (ve_HI vs_A l 59 vs_M) (ve_CB vs_A l 59 (ve_HI vs_A l 59 vs_M) vs_M) "java/util/ArrayList" prog_39_method_2_code 1 none "<init>" 0 (ve_pu (ve_al 1 0)) := ve_pu_ok (ve_aload_n_ok (k := 0) (i := 0) (by decide +kernel : decode prog_39_method_2_code 0 = .ok (.aload_n 0, 1)) rfl)
set_option maxRecDepth 16384 in
theorem vi_8_1 (l : Launch) : ve_OK vs_A l 59 (ve_HI vs_A l 59 vs_M) (ve_CB vs_A l 59 (ve_HI vs_A l 59 vs_M) vs_M) "java/util/ArrayList" prog_39_method_2_code 1 none "<init>" 1 (ve_cw 59 1 4 [(47, 9)]) := ve_cw_ok rfl (List.forall_mem_cons.mpr ⟨ve_rowI (md := vs_M) (A0 := vs_A) (mi := 9) (na := 0) (by decide +kernel : decode prog_39_method_2_code 1 = .ok (.invokespecial 1, 3)) (by decide) vw_117 vw_114 vw_115 vw_116 rfl ⟨by decide, by decide⟩ vf_2 rfl rfl 47, List.forall_mem_nil _⟩)
set_option maxRecDepth 16384 in
theorem vi_8_4 (l : Launch) : ve_OK vs_A l 59 (ve_HI vs_A l 59 vs_M) (ve_CB vs_A l 59 (ve_HI vs_A l 59 vs_M) vs_M) "java/util/ArrayList" prog_39_method_2_code 1 none "<init>" 4 (ve_pu (ve_al 5 0)) := ve_pu_ok (ve_aload_n_ok (k := 0) (i := 0) (by decide +kernel : decode prog_39_method_2_code 4 = .ok (.aload_n 0, 1)) rfl)
set_option maxRecDepth 16384 in
theorem vi_8_5 (l : Launch) : ve_OK vs_A l 59 (ve_HI vs_A l 59 vs_M) (ve_CB vs_A l 59 (ve_HI vs_A l 59 vs_M) vs_M) "java/util/ArrayList" prog_39_method_2_code 1 none "<init>" 5 (ve_gs 8 6 3) := ve_gets_ok (by decide +kernel : decode prog_39_method_2_code 5 = .ok (.getstatic 39, 3)) vw_118 (by decide) vf_73
