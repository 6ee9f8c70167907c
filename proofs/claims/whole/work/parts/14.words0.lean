def vwl_0 : List Cond := [Cond.classLink "OrderbenchLaw" 8 "Orderbench",
  Cond.instantiable "Orderbench" 9,
  Cond.initialized "Orderbench",
  Cond.instanceMethod ⟨"Orderbench", "<init>", "()V"⟩,
  Cond.code ⟨"Orderbench", "<init>", "()V"⟩ prog_1_method_1_code 3 none,
  Cond.methodLink "OrderbenchLaw" 138 ⟨"Orderbench", "<init>", "()V"⟩,
  Cond.classLink "OrderbenchLaw" 139 "OrderbenchModel",
  Cond.instantiable "OrderbenchModel" 6,
  Cond.initialized "OrderbenchModel",
  Cond.instanceMethod ⟨"OrderbenchModel", "<init>", "()V"⟩,
  Cond.code ⟨"OrderbenchModel", "<init>", "()V"⟩ prog_10_method_1_code 2 none,
  Cond.methodLink "OrderbenchLaw" 141 ⟨"OrderbenchModel", "<init>", "()V"⟩,
  Cond.classLink "OrderbenchLaw" 14 "OrderbenchLaw$Out",
  Cond.instantiable "OrderbenchLaw$Out" 2,
  Cond.initialized "OrderbenchLaw$Out",
  Cond.instanceMethod ⟨"OrderbenchLaw$Out", "<init>", "()V"⟩,
  Cond.code ⟨"OrderbenchLaw$Out", "<init>", "()V"⟩ prog_9_method_1_code 1 none,
  Cond.methodLinkNest "OrderbenchLaw" 142 ⟨"OrderbenchLaw$Out", "<init>", "()V"⟩ "OrderbenchLaw",
  Cond.methodLink "OrderbenchLaw" 189 ⟨"OrderbenchLaw", "turn", "(LOrderbench;IILOrderbenchLaw$Out;)I"⟩,
  Cond.static ⟨"OrderbenchLaw", "turn", "(LOrderbench;IILOrderbenchLaw$Out;)I"⟩,
  Cond.initialized "OrderbenchLaw",
  Cond.codeWith ⟨"OrderbenchLaw", "turn", "(LOrderbench;IILOrderbenchLaw$Out;)I"⟩ method_12_code 5 (some .int) [(0, 11, 14, 19), (0, 11, 18, 23)],
  Cond.instanceMethod ⟨"OrderbenchModel", "turn", "(II)I"⟩,
  Cond.code ⟨"OrderbenchModel", "turn", "(II)I"⟩ prog_10_method_30_code 3 (some .int),
  Cond.methodLink "OrderbenchLaw" 191 ⟨"OrderbenchModel", "turn", "(II)I"⟩,
  Cond.sameMethod "OrderbenchModel" "OrderbenchModel" "turn" "(II)I",
  Cond.selects "OrderbenchModel" ⟨"OrderbenchModel", "turn", "(II)I"⟩ ⟨"OrderbenchModel", "turn", "(II)I"⟩,
  Cond.instanceMethod ⟨"OrderbenchModel", "thrown", "()I"⟩,
  Cond.code ⟨"OrderbenchModel", "thrown", "()I"⟩ prog_10_method_2_code 1 (some .int),
  Cond.methodLink "OrderbenchLaw" 149 ⟨"OrderbenchModel", "thrown", "()I"⟩,
  Cond.sameMethod "OrderbenchModel" "OrderbenchModel" "thrown" "()I",
  Cond.selects "OrderbenchModel" ⟨"OrderbenchModel", "thrown", "()I"⟩ ⟨"OrderbenchModel", "thrown", "()I"⟩,
  Cond.fieldLinkNest "OrderbenchLaw" 13 "OrderbenchLaw$Out" "n" "J" "OrderbenchLaw",
  Cond.instanceMethod ⟨"Orderbench", "digest", "()J"⟩,
  Cond.code ⟨"Orderbench", "digest", "()J"⟩ prog_1_method_38_code 4 (some .long),
  Cond.methodLink "OrderbenchLaw" 272 ⟨"Orderbench", "digest", "()J"⟩,
  Cond.sameMethod "Orderbench" "Orderbench" "digest" "()J",
  Cond.selects "Orderbench" ⟨"Orderbench", "digest", "()J"⟩ ⟨"Orderbench", "digest", "()J"⟩,
  Cond.instanceMethod ⟨"OrderbenchModel", "digest", "()J"⟩,
  Cond.code ⟨"OrderbenchModel", "digest", "()J"⟩ prog_10_method_70_code 5 (some .long)]
set_option maxRecDepth 100000 in
theorem vwb_0 : vwl_0.all (fun w => w.before #[] vs_A) = true := by decide +kernel
theorem vw_0 : (Cond.classLink "OrderbenchLaw" 8 "Orderbench").before #[] vs_A = true := List.all_eq_true.mp vwb_0 _ (List.mem_of_getElem? (i := 0) rfl)
theorem vw_1 : (Cond.instantiable "Orderbench" 9).before #[] vs_A = true := List.all_eq_true.mp vwb_0 _ (List.mem_of_getElem? (i := 1) rfl)
theorem vw_2 : (Cond.initialized "Orderbench").before #[] vs_A = true := List.all_eq_true.mp vwb_0 _ (List.mem_of_getElem? (i := 2) rfl)
theorem vw_3 : (Cond.instanceMethod ⟨"Orderbench", "<init>", "()V"⟩).before #[] vs_A = true := List.all_eq_true.mp vwb_0 _ (List.mem_of_getElem? (i := 3) rfl)
theorem vw_4 : (Cond.code ⟨"Orderbench", "<init>", "()V"⟩ prog_1_method_1_code 3 none).before #[] vs_A = true := List.all_eq_true.mp vwb_0 _ (List.mem_of_getElem? (i := 4) rfl)
theorem vw_5 : (Cond.methodLink "OrderbenchLaw" 138 ⟨"Orderbench", "<init>", "()V"⟩).before #[] vs_A = true := List.all_eq_true.mp vwb_0 _ (List.mem_of_getElem? (i := 5) rfl)
theorem vw_6 : (Cond.classLink "OrderbenchLaw" 139 "OrderbenchModel").before #[] vs_A = true := List.all_eq_true.mp vwb_0 _ (List.mem_of_getElem? (i := 6) rfl)
theorem vw_7 : (Cond.instantiable "OrderbenchModel" 6).before #[] vs_A = true := List.all_eq_true.mp vwb_0 _ (List.mem_of_getElem? (i := 7) rfl)
theorem vw_8 : (Cond.initialized "OrderbenchModel").before #[] vs_A = true := List.all_eq_true.mp vwb_0 _ (List.mem_of_getElem? (i := 8) rfl)
theorem vw_9 : (Cond.instanceMethod ⟨"OrderbenchModel", "<init>", "()V"⟩).before #[] vs_A = true := List.all_eq_true.mp vwb_0 _ (List.mem_of_getElem? (i := 9) rfl)
theorem vw_10 : (Cond.code ⟨"OrderbenchModel", "<init>", "()V"⟩ prog_10_method_1_code 2 none).before #[] vs_A = true := List.all_eq_true.mp vwb_0 _ (List.mem_of_getElem? (i := 10) rfl)
theorem vw_11 : (Cond.methodLink "OrderbenchLaw" 141 ⟨"OrderbenchModel", "<init>", "()V"⟩).before #[] vs_A = true := List.all_eq_true.mp vwb_0 _ (List.mem_of_getElem? (i := 11) rfl)
theorem vw_12 : (Cond.classLink "OrderbenchLaw" 14 "OrderbenchLaw$Out").before #[] vs_A = true := List.all_eq_true.mp vwb_0 _ (List.mem_of_getElem? (i := 12) rfl)
theorem vw_13 : (Cond.instantiable "OrderbenchLaw$Out" 2).before #[] vs_A = true := List.all_eq_true.mp vwb_0 _ (List.mem_of_getElem? (i := 13) rfl)
theorem vw_14 : (Cond.initialized "OrderbenchLaw$Out").before #[] vs_A = true := List.all_eq_true.mp vwb_0 _ (List.mem_of_getElem? (i := 14) rfl)
theorem vw_15 : (Cond.instanceMethod ⟨"OrderbenchLaw$Out", "<init>", "()V"⟩).before #[] vs_A = true := List.all_eq_true.mp vwb_0 _ (List.mem_of_getElem? (i := 15) rfl)
theorem vw_16 : (Cond.code ⟨"OrderbenchLaw$Out", "<init>", "()V"⟩ prog_9_method_1_code 1 none).before #[] vs_A = true := List.all_eq_true.mp vwb_0 _ (List.mem_of_getElem? (i := 16) rfl)
theorem vw_17 : (Cond.methodLinkNest "OrderbenchLaw" 142 ⟨"OrderbenchLaw$Out", "<init>", "()V"⟩ "OrderbenchLaw").before #[] vs_A = true := List.all_eq_true.mp vwb_0 _ (List.mem_of_getElem? (i := 17) rfl)
theorem vw_18 : (Cond.methodLink "OrderbenchLaw" 189 ⟨"OrderbenchLaw", "turn", "(LOrderbench;IILOrderbenchLaw$Out;)I"⟩).before #[] vs_A = true := List.all_eq_true.mp vwb_0 _ (List.mem_of_getElem? (i := 18) rfl)
theorem vw_19 : (Cond.static ⟨"OrderbenchLaw", "turn", "(LOrderbench;IILOrderbenchLaw$Out;)I"⟩).before #[] vs_A = true := List.all_eq_true.mp vwb_0 _ (List.mem_of_getElem? (i := 19) rfl)
theorem vw_20 : (Cond.initialized "OrderbenchLaw").before #[] vs_A = true := List.all_eq_true.mp vwb_0 _ (List.mem_of_getElem? (i := 20) rfl)
theorem vw_21 : (Cond.codeWith ⟨"OrderbenchLaw", "turn", "(LOrderbench;IILOrderbenchLaw$Out;)I"⟩ method_12_code 5 (some .int) [(0, 11, 14, 19), (0, 11, 18, 23)]).before #[] vs_A = true := List.all_eq_true.mp vwb_0 _ (List.mem_of_getElem? (i := 21) rfl)
theorem vw_22 : (Cond.instanceMethod ⟨"OrderbenchModel", "turn", "(II)I"⟩).before #[] vs_A = true := List.all_eq_true.mp vwb_0 _ (List.mem_of_getElem? (i := 22) rfl)
theorem vw_23 : (Cond.code ⟨"OrderbenchModel", "turn", "(II)I"⟩ prog_10_method_30_code 3 (some .int)).before #[] vs_A = true := List.all_eq_true.mp vwb_0 _ (List.mem_of_getElem? (i := 23) rfl)
theorem vw_24 : (Cond.methodLink "OrderbenchLaw" 191 ⟨"OrderbenchModel", "turn", "(II)I"⟩).before #[] vs_A = true := List.all_eq_true.mp vwb_0 _ (List.mem_of_getElem? (i := 24) rfl)
theorem vw_25 : (Cond.sameMethod "OrderbenchModel" "OrderbenchModel" "turn" "(II)I").before #[] vs_A = true := List.all_eq_true.mp vwb_0 _ (List.mem_of_getElem? (i := 25) rfl)
theorem vw_26 : (Cond.selects "OrderbenchModel" ⟨"OrderbenchModel", "turn", "(II)I"⟩ ⟨"OrderbenchModel", "turn", "(II)I"⟩).before #[] vs_A = true := List.all_eq_true.mp vwb_0 _ (List.mem_of_getElem? (i := 26) rfl)
theorem vw_27 : (Cond.instanceMethod ⟨"OrderbenchModel", "thrown", "()I"⟩).before #[] vs_A = true := List.all_eq_true.mp vwb_0 _ (List.mem_of_getElem? (i := 27) rfl)
theorem vw_28 : (Cond.code ⟨"OrderbenchModel", "thrown", "()I"⟩ prog_10_method_2_code 1 (some .int)).before #[] vs_A = true := List.all_eq_true.mp vwb_0 _ (List.mem_of_getElem? (i := 28) rfl)
theorem vw_29 : (Cond.methodLink "OrderbenchLaw" 149 ⟨"OrderbenchModel", "thrown", "()I"⟩).before #[] vs_A = true := List.all_eq_true.mp vwb_0 _ (List.mem_of_getElem? (i := 29) rfl)
theorem vw_30 : (Cond.sameMethod "OrderbenchModel" "OrderbenchModel" "thrown" "()I").before #[] vs_A = true := List.all_eq_true.mp vwb_0 _ (List.mem_of_getElem? (i := 30) rfl)
theorem vw_31 : (Cond.selects "OrderbenchModel" ⟨"OrderbenchModel", "thrown", "()I"⟩ ⟨"OrderbenchModel", "thrown", "()I"⟩).before #[] vs_A = true := List.all_eq_true.mp vwb_0 _ (List.mem_of_getElem? (i := 31) rfl)
theorem vw_32 : (Cond.fieldLinkNest "OrderbenchLaw" 13 "OrderbenchLaw$Out" "n" "J" "OrderbenchLaw").before #[] vs_A = true := List.all_eq_true.mp vwb_0 _ (List.mem_of_getElem? (i := 32) rfl)
theorem vw_33 : (Cond.instanceMethod ⟨"Orderbench", "digest", "()J"⟩).before #[] vs_A = true := List.all_eq_true.mp vwb_0 _ (List.mem_of_getElem? (i := 33) rfl)
theorem vw_34 : (Cond.code ⟨"Orderbench", "digest", "()J"⟩ prog_1_method_38_code 4 (some .long)).before #[] vs_A = true := List.all_eq_true.mp vwb_0 _ (List.mem_of_getElem? (i := 34) rfl)
theorem vw_35 : (Cond.methodLink "OrderbenchLaw" 272 ⟨"Orderbench", "digest", "()J"⟩).before #[] vs_A = true := List.all_eq_true.mp vwb_0 _ (List.mem_of_getElem? (i := 35) rfl)
theorem vw_36 : (Cond.sameMethod "Orderbench" "Orderbench" "digest" "()J").before #[] vs_A = true := List.all_eq_true.mp vwb_0 _ (List.mem_of_getElem? (i := 36) rfl)
theorem vw_37 : (Cond.selects "Orderbench" ⟨"Orderbench", "digest", "()J"⟩ ⟨"Orderbench", "digest", "()J"⟩).before #[] vs_A = true := List.all_eq_true.mp vwb_0 _ (List.mem_of_getElem? (i := 37) rfl)
theorem vw_38 : (Cond.instanceMethod ⟨"OrderbenchModel", "digest", "()J"⟩).before #[] vs_A = true := List.all_eq_true.mp vwb_0 _ (List.mem_of_getElem? (i := 38) rfl)
theorem vw_39 : (Cond.code ⟨"OrderbenchModel", "digest", "()J"⟩ prog_10_method_70_code 5 (some .long)).before #[] vs_A = true := List.all_eq_true.mp vwb_0 _ (List.mem_of_getElem? (i := 39) rfl)
def vwl_1 : List Cond := [Cond.methodLink "OrderbenchLaw" 276 ⟨"OrderbenchModel", "digest", "()J"⟩,
  Cond.sameMethod "OrderbenchModel" "OrderbenchModel" "digest" "()J",
  Cond.selects "OrderbenchModel" ⟨"OrderbenchModel", "digest", "()J"⟩ ⟨"OrderbenchModel", "digest", "()J"⟩,
  Cond.methodLink "Orderbench" 1 Lib.objectInit,
  Cond.instanceMethod Lib.objectInit,
  Cond.code Lib.objectInit ⟨#[0xb1]⟩ 1 none,
  Cond.classLink "Orderbench" 9 "Orderbench$Row",
  Cond.arrayOver (.object "Orderbench$Row"),
  Cond.fieldLink "Orderbench" 11 "Orderbench" "benches" "[LOrderbench$Row;",
  Cond.instantiable "Orderbench$Row" 2,
  Cond.initialized "Orderbench$Row",
  Cond.instanceMethod ⟨"Orderbench$Row", "<init>", "()V"⟩,
  Cond.code ⟨"Orderbench$Row", "<init>", "()V"⟩ prog_4_method_1_code 1 none,
  Cond.methodLinkNest "Orderbench" 15 ⟨"Orderbench$Row", "<init>", "()V"⟩ "Orderbench",
  Cond.classLink "Orderbench" 16 "Orderbench$Shape",
  Cond.arrayOver (.object "Orderbench$Shape"),
  Cond.fieldLink "Orderbench" 18 "Orderbench" "orders" "[LOrderbench$Shape;",
  Cond.classLink "Orderbench" 22 "Orderbench$Base",
  Cond.instantiable "Orderbench$Base" 3,
  Cond.initialized "Orderbench$Base",
  Cond.instanceMethod ⟨"Orderbench$Base", "<init>", "(I)V"⟩,
  Cond.code ⟨"Orderbench$Base", "<init>", "(I)V"⟩ prog_2_method_1_code 2 none,
  Cond.methodLink "Orderbench" 24 ⟨"Orderbench$Base", "<init>", "(I)V"⟩,
  Cond.fieldLink "Orderbench" 27 "Orderbench" "copied" "LOrderbench$Row;",
  Cond.fieldLink "Orderbench" 31 "Orderbench" "copiedToo" "LOrderbench$Row;",
  Cond.arrayClass (newarray.typeOf .int),
  Cond.fieldLink "Orderbench" 34 "Orderbench" "ranks" "[I",
  Cond.classLink "Orderbench" 38 "java/lang/StringBuilder",
  Cond.instantiable "java/lang/StringBuilder" 4,
  Cond.initialized "java/lang/StringBuilder",
  Cond.instanceMethod ⟨"java/lang/StringBuilder", "<init>", "()V"⟩,
  Cond.code ⟨"java/lang/StringBuilder", "<init>", "()V"⟩ prog_29_method_1_code 1 none,
  Cond.methodLink "Orderbench" 40 ⟨"java/lang/StringBuilder", "<init>", "()V"⟩,
  Cond.fieldLink "Orderbench" 41 "Orderbench" "signs" "Ljava/lang/StringBuilder;",
  Cond.methodLink "Orderbench$Row" 3 Lib.objectInit,
  Cond.fieldLink "Orderbench$Row" 9 "Orderbench$Row" "codes" "[I",
  Cond.instanceMethod ⟨"Orderbench$Shape", "<init>", "(IZ)V"⟩,
  Cond.initialized "Orderbench$Shape",
  Cond.code ⟨"Orderbench$Shape", "<init>", "(IZ)V"⟩ prog_5_method_1_code 3 none,
  Cond.methodLink "Orderbench$Base" 3 ⟨"Orderbench$Shape", "<init>", "(IZ)V"⟩]
set_option maxRecDepth 100000 in
theorem vwb_1 : vwl_1.all (fun w => w.before #[] vs_A) = true := by decide +kernel
theorem vw_40 : (Cond.methodLink "OrderbenchLaw" 276 ⟨"OrderbenchModel", "digest", "()J"⟩).before #[] vs_A = true := List.all_eq_true.mp vwb_1 _ (List.mem_of_getElem? (i := 0) rfl)
theorem vw_41 : (Cond.sameMethod "OrderbenchModel" "OrderbenchModel" "digest" "()J").before #[] vs_A = true := List.all_eq_true.mp vwb_1 _ (List.mem_of_getElem? (i := 1) rfl)
theorem vw_42 : (Cond.selects "OrderbenchModel" ⟨"OrderbenchModel", "digest", "()J"⟩ ⟨"OrderbenchModel", "digest", "()J"⟩).before #[] vs_A = true := List.all_eq_true.mp vwb_1 _ (List.mem_of_getElem? (i := 2) rfl)
theorem vw_43 : (Cond.methodLink "Orderbench" 1 Lib.objectInit).before #[] vs_A = true := List.all_eq_true.mp vwb_1 _ (List.mem_of_getElem? (i := 3) rfl)
theorem vw_44 : (Cond.instanceMethod Lib.objectInit).before #[] vs_A = true := List.all_eq_true.mp vwb_1 _ (List.mem_of_getElem? (i := 4) rfl)
theorem vw_45 : (Cond.code Lib.objectInit ⟨#[0xb1]⟩ 1 none).before #[] vs_A = true := List.all_eq_true.mp vwb_1 _ (List.mem_of_getElem? (i := 5) rfl)
theorem vw_46 : (Cond.classLink "Orderbench" 9 "Orderbench$Row").before #[] vs_A = true := List.all_eq_true.mp vwb_1 _ (List.mem_of_getElem? (i := 6) rfl)
theorem vw_47 : (Cond.arrayOver (.object "Orderbench$Row")).before #[] vs_A = true := List.all_eq_true.mp vwb_1 _ (List.mem_of_getElem? (i := 7) rfl)
theorem vw_48 : (Cond.fieldLink "Orderbench" 11 "Orderbench" "benches" "[LOrderbench$Row;").before #[] vs_A = true := List.all_eq_true.mp vwb_1 _ (List.mem_of_getElem? (i := 8) rfl)
theorem vw_49 : (Cond.instantiable "Orderbench$Row" 2).before #[] vs_A = true := List.all_eq_true.mp vwb_1 _ (List.mem_of_getElem? (i := 9) rfl)
theorem vw_50 : (Cond.initialized "Orderbench$Row").before #[] vs_A = true := List.all_eq_true.mp vwb_1 _ (List.mem_of_getElem? (i := 10) rfl)
theorem vw_51 : (Cond.instanceMethod ⟨"Orderbench$Row", "<init>", "()V"⟩).before #[] vs_A = true := List.all_eq_true.mp vwb_1 _ (List.mem_of_getElem? (i := 11) rfl)
theorem vw_52 : (Cond.code ⟨"Orderbench$Row", "<init>", "()V"⟩ prog_4_method_1_code 1 none).before #[] vs_A = true := List.all_eq_true.mp vwb_1 _ (List.mem_of_getElem? (i := 12) rfl)
theorem vw_53 : (Cond.methodLinkNest "Orderbench" 15 ⟨"Orderbench$Row", "<init>", "()V"⟩ "Orderbench").before #[] vs_A = true := List.all_eq_true.mp vwb_1 _ (List.mem_of_getElem? (i := 13) rfl)
theorem vw_54 : (Cond.classLink "Orderbench" 16 "Orderbench$Shape").before #[] vs_A = true := List.all_eq_true.mp vwb_1 _ (List.mem_of_getElem? (i := 14) rfl)
theorem vw_55 : (Cond.arrayOver (.object "Orderbench$Shape")).before #[] vs_A = true := List.all_eq_true.mp vwb_1 _ (List.mem_of_getElem? (i := 15) rfl)
theorem vw_56 : (Cond.fieldLink "Orderbench" 18 "Orderbench" "orders" "[LOrderbench$Shape;").before #[] vs_A = true := List.all_eq_true.mp vwb_1 _ (List.mem_of_getElem? (i := 16) rfl)
theorem vw_57 : (Cond.classLink "Orderbench" 22 "Orderbench$Base").before #[] vs_A = true := List.all_eq_true.mp vwb_1 _ (List.mem_of_getElem? (i := 17) rfl)
theorem vw_58 : (Cond.instantiable "Orderbench$Base" 3).before #[] vs_A = true := List.all_eq_true.mp vwb_1 _ (List.mem_of_getElem? (i := 18) rfl)
theorem vw_59 : (Cond.initialized "Orderbench$Base").before #[] vs_A = true := List.all_eq_true.mp vwb_1 _ (List.mem_of_getElem? (i := 19) rfl)
theorem vw_60 : (Cond.instanceMethod ⟨"Orderbench$Base", "<init>", "(I)V"⟩).before #[] vs_A = true := List.all_eq_true.mp vwb_1 _ (List.mem_of_getElem? (i := 20) rfl)
theorem vw_61 : (Cond.code ⟨"Orderbench$Base", "<init>", "(I)V"⟩ prog_2_method_1_code 2 none).before #[] vs_A = true := List.all_eq_true.mp vwb_1 _ (List.mem_of_getElem? (i := 21) rfl)
theorem vw_62 : (Cond.methodLink "Orderbench" 24 ⟨"Orderbench$Base", "<init>", "(I)V"⟩).before #[] vs_A = true := List.all_eq_true.mp vwb_1 _ (List.mem_of_getElem? (i := 22) rfl)
theorem vw_63 : (Cond.fieldLink "Orderbench" 27 "Orderbench" "copied" "LOrderbench$Row;").before #[] vs_A = true := List.all_eq_true.mp vwb_1 _ (List.mem_of_getElem? (i := 23) rfl)
theorem vw_64 : (Cond.fieldLink "Orderbench" 31 "Orderbench" "copiedToo" "LOrderbench$Row;").before #[] vs_A = true := List.all_eq_true.mp vwb_1 _ (List.mem_of_getElem? (i := 24) rfl)
theorem vw_65 : (Cond.arrayClass (newarray.typeOf .int)).before #[] vs_A = true := List.all_eq_true.mp vwb_1 _ (List.mem_of_getElem? (i := 25) rfl)
theorem vw_66 : (Cond.fieldLink "Orderbench" 34 "Orderbench" "ranks" "[I").before #[] vs_A = true := List.all_eq_true.mp vwb_1 _ (List.mem_of_getElem? (i := 26) rfl)
theorem vw_67 : (Cond.classLink "Orderbench" 38 "java/lang/StringBuilder").before #[] vs_A = true := List.all_eq_true.mp vwb_1 _ (List.mem_of_getElem? (i := 27) rfl)
theorem vw_68 : (Cond.instantiable "java/lang/StringBuilder" 4).before #[] vs_A = true := List.all_eq_true.mp vwb_1 _ (List.mem_of_getElem? (i := 28) rfl)
theorem vw_69 : (Cond.initialized "java/lang/StringBuilder").before #[] vs_A = true := List.all_eq_true.mp vwb_1 _ (List.mem_of_getElem? (i := 29) rfl)
theorem vw_70 : (Cond.instanceMethod ⟨"java/lang/StringBuilder", "<init>", "()V"⟩).before #[] vs_A = true := List.all_eq_true.mp vwb_1 _ (List.mem_of_getElem? (i := 30) rfl)
theorem vw_71 : (Cond.code ⟨"java/lang/StringBuilder", "<init>", "()V"⟩ prog_29_method_1_code 1 none).before #[] vs_A = true := List.all_eq_true.mp vwb_1 _ (List.mem_of_getElem? (i := 31) rfl)
theorem vw_72 : (Cond.methodLink "Orderbench" 40 ⟨"java/lang/StringBuilder", "<init>", "()V"⟩).before #[] vs_A = true := List.all_eq_true.mp vwb_1 _ (List.mem_of_getElem? (i := 32) rfl)
theorem vw_73 : (Cond.fieldLink "Orderbench" 41 "Orderbench" "signs" "Ljava/lang/StringBuilder;").before #[] vs_A = true := List.all_eq_true.mp vwb_1 _ (List.mem_of_getElem? (i := 33) rfl)
theorem vw_74 : (Cond.methodLink "Orderbench$Row" 3 Lib.objectInit).before #[] vs_A = true := List.all_eq_true.mp vwb_1 _ (List.mem_of_getElem? (i := 34) rfl)
theorem vw_75 : (Cond.fieldLink "Orderbench$Row" 9 "Orderbench$Row" "codes" "[I").before #[] vs_A = true := List.all_eq_true.mp vwb_1 _ (List.mem_of_getElem? (i := 35) rfl)
theorem vw_76 : (Cond.instanceMethod ⟨"Orderbench$Shape", "<init>", "(IZ)V"⟩).before #[] vs_A = true := List.all_eq_true.mp vwb_1 _ (List.mem_of_getElem? (i := 36) rfl)
theorem vw_77 : (Cond.initialized "Orderbench$Shape").before #[] vs_A = true := List.all_eq_true.mp vwb_1 _ (List.mem_of_getElem? (i := 37) rfl)
theorem vw_78 : (Cond.code ⟨"Orderbench$Shape", "<init>", "(IZ)V"⟩ prog_5_method_1_code 3 none).before #[] vs_A = true := List.all_eq_true.mp vwb_1 _ (List.mem_of_getElem? (i := 38) rfl)
theorem vw_79 : (Cond.methodLink "Orderbench$Base" 3 ⟨"Orderbench$Shape", "<init>", "(IZ)V"⟩).before #[] vs_A = true := List.all_eq_true.mp vwb_1 _ (List.mem_of_getElem? (i := 39) rfl)
def vwl_2 : List Cond := [Cond.fieldLink "Orderbench$Base" 9 "Orderbench$Base" "kind" "I",
  Cond.methodLink "Orderbench$Shape" 1 Lib.objectInit,
  Cond.fieldLink "Orderbench$Shape" 7 "Orderbench$Shape" "length" "I",
  Cond.fieldLink "Orderbench$Shape" 13 "Orderbench$Shape" "safe" "Z",
  Cond.instanceMethod ⟨"java/lang/AbstractStringBuilder", "<init>", "(I)V"⟩,
  Cond.initialized "java/lang/AbstractStringBuilder",
  Cond.code ⟨"java/lang/AbstractStringBuilder", "<init>", "(I)V"⟩ prog_13_method_2_code 2 none,
  Cond.methodLink "java/lang/StringBuilder" 1 ⟨"java/lang/AbstractStringBuilder", "<init>", "(I)V"⟩,
  Cond.methodLink "java/lang/AbstractStringBuilder" 3 Lib.objectInit,
  Cond.fieldLink "java/lang/AbstractStringBuilder" 18 "java/lang/String" "COMPACT_STRINGS" "Z",
  Cond.arrayClass (newarray.typeOf .byte),
  Cond.fieldLink "java/lang/AbstractStringBuilder" 15 "java/lang/AbstractStringBuilder" "value" "[B",
  Cond.fieldLink "java/lang/AbstractStringBuilder" 22 "java/lang/AbstractStringBuilder" "coder" "B",
  Cond.methodLink "OrderbenchModel" 1 Lib.objectInit,
  Cond.classLink "OrderbenchModel" 7 "java/util/ArrayList",
  Cond.instantiable "java/util/ArrayList" 3,
  Cond.initialized "java/util/ArrayList",
  Cond.instanceMethod ⟨"java/util/ArrayList", "<init>", "()V"⟩,
  Cond.code ⟨"java/util/ArrayList", "<init>", "()V"⟩ prog_39_method_2_code 1 none,
  Cond.methodLink "OrderbenchModel" 9 ⟨"java/util/ArrayList", "<init>", "()V"⟩,
  Cond.fieldLink "OrderbenchModel" 10 "OrderbenchModel" "benches" "Ljava/util/ArrayList;",
  Cond.classLink "OrderbenchModel" 16 "OrderbenchModel$Shape",
  Cond.arrayOver (.object "OrderbenchModel$Shape"),
  Cond.fieldLink "OrderbenchModel" 18 "OrderbenchModel" "shapes" "[LOrderbenchModel$Shape;",
  Cond.instanceMethod ⟨"java/util/ArrayList", "add", "(Ljava/lang/Object;)Z"⟩,
  Cond.code ⟨"java/util/ArrayList", "add", "(Ljava/lang/Object;)Z"⟩ prog_39_method_25_code 2 (some .boolean),
  Cond.methodLink "OrderbenchModel" 22 ⟨"java/util/ArrayList", "add", "(Ljava/lang/Object;)Z"⟩,
  Cond.sameMethod "java/util/ArrayList" "java/util/ArrayList" "add" "(Ljava/lang/Object;)Z",
  Cond.selects "java/util/ArrayList" ⟨"java/util/ArrayList", "add", "(Ljava/lang/Object;)Z"⟩ ⟨"java/util/ArrayList", "add", "(Ljava/lang/Object;)Z"⟩,
  Cond.instantiable "OrderbenchModel$Shape" 3,
  Cond.initialized "OrderbenchModel$Shape",
  Cond.instanceMethod ⟨"OrderbenchModel$Shape", "<init>", "(CLOrderbenchModel$Shape;LOrderbenchModel$Shape;)V"⟩,
  Cond.code ⟨"OrderbenchModel$Shape", "<init>", "(CLOrderbenchModel$Shape;LOrderbenchModel$Shape;)V"⟩ prog_11_method_1_code 4 none,
  Cond.methodLink "OrderbenchModel" 26 ⟨"OrderbenchModel$Shape", "<init>", "(CLOrderbenchModel$Shape;LOrderbenchModel$Shape;)V"⟩,
  Cond.instanceMethod ⟨"java/util/AbstractList", "<init>", "()V"⟩,
  Cond.initialized "java/util/AbstractList",
  Cond.code ⟨"java/util/AbstractList", "<init>", "()V"⟩ prog_38_method_1_code 1 none,
  Cond.methodLink "java/util/ArrayList" 1 ⟨"java/util/AbstractList", "<init>", "()V"⟩,
  Cond.fieldLink "java/util/ArrayList" 39 "java/util/ArrayList" "DEFAULTCAPACITY_EMPTY_ELEMENTDATA" "[Ljava/lang/Object;",
  Cond.fieldLink "java/util/ArrayList" 9 "java/util/ArrayList" "elementData" "[Ljava/lang/Object;"]
set_option maxRecDepth 100000 in
theorem vwb_2 : vwl_2.all (fun w => w.before #[] vs_A) = true := by decide +kernel
theorem vw_80 : (Cond.fieldLink "Orderbench$Base" 9 "Orderbench$Base" "kind" "I").before #[] vs_A = true := List.all_eq_true.mp vwb_2 _ (List.mem_of_getElem? (i := 0) rfl)
theorem vw_81 : (Cond.methodLink "Orderbench$Shape" 1 Lib.objectInit).before #[] vs_A = true := List.all_eq_true.mp vwb_2 _ (List.mem_of_getElem? (i := 1) rfl)
theorem vw_82 : (Cond.fieldLink "Orderbench$Shape" 7 "Orderbench$Shape" "length" "I").before #[] vs_A = true := List.all_eq_true.mp vwb_2 _ (List.mem_of_getElem? (i := 2) rfl)
theorem vw_83 : (Cond.fieldLink "Orderbench$Shape" 13 "Orderbench$Shape" "safe" "Z").before #[] vs_A = true := List.all_eq_true.mp vwb_2 _ (List.mem_of_getElem? (i := 3) rfl)
theorem vw_84 : (Cond.instanceMethod ⟨"java/lang/AbstractStringBuilder", "<init>", "(I)V"⟩).before #[] vs_A = true := List.all_eq_true.mp vwb_2 _ (List.mem_of_getElem? (i := 4) rfl)
theorem vw_85 : (Cond.initialized "java/lang/AbstractStringBuilder").before #[] vs_A = true := List.all_eq_true.mp vwb_2 _ (List.mem_of_getElem? (i := 5) rfl)
theorem vw_86 : (Cond.code ⟨"java/lang/AbstractStringBuilder", "<init>", "(I)V"⟩ prog_13_method_2_code 2 none).before #[] vs_A = true := List.all_eq_true.mp vwb_2 _ (List.mem_of_getElem? (i := 6) rfl)
theorem vw_87 : (Cond.methodLink "java/lang/StringBuilder" 1 ⟨"java/lang/AbstractStringBuilder", "<init>", "(I)V"⟩).before #[] vs_A = true := List.all_eq_true.mp vwb_2 _ (List.mem_of_getElem? (i := 7) rfl)
theorem vw_88 : (Cond.methodLink "java/lang/AbstractStringBuilder" 3 Lib.objectInit).before #[] vs_A = true := List.all_eq_true.mp vwb_2 _ (List.mem_of_getElem? (i := 8) rfl)
theorem vw_89 : (Cond.fieldLink "java/lang/AbstractStringBuilder" 18 "java/lang/String" "COMPACT_STRINGS" "Z").before #[] vs_A = true := List.all_eq_true.mp vwb_2 _ (List.mem_of_getElem? (i := 9) rfl)
theorem vw_90 : (Cond.arrayClass (newarray.typeOf .byte)).before #[] vs_A = true := List.all_eq_true.mp vwb_2 _ (List.mem_of_getElem? (i := 10) rfl)
theorem vw_91 : (Cond.fieldLink "java/lang/AbstractStringBuilder" 15 "java/lang/AbstractStringBuilder" "value" "[B").before #[] vs_A = true := List.all_eq_true.mp vwb_2 _ (List.mem_of_getElem? (i := 11) rfl)
theorem vw_92 : (Cond.fieldLink "java/lang/AbstractStringBuilder" 22 "java/lang/AbstractStringBuilder" "coder" "B").before #[] vs_A = true := List.all_eq_true.mp vwb_2 _ (List.mem_of_getElem? (i := 12) rfl)
theorem vw_93 : (Cond.methodLink "OrderbenchModel" 1 Lib.objectInit).before #[] vs_A = true := List.all_eq_true.mp vwb_2 _ (List.mem_of_getElem? (i := 13) rfl)
theorem vw_94 : (Cond.classLink "OrderbenchModel" 7 "java/util/ArrayList").before #[] vs_A = true := List.all_eq_true.mp vwb_2 _ (List.mem_of_getElem? (i := 14) rfl)
theorem vw_95 : (Cond.instantiable "java/util/ArrayList" 3).before #[] vs_A = true := List.all_eq_true.mp vwb_2 _ (List.mem_of_getElem? (i := 15) rfl)
theorem vw_96 : (Cond.initialized "java/util/ArrayList").before #[] vs_A = true := List.all_eq_true.mp vwb_2 _ (List.mem_of_getElem? (i := 16) rfl)
theorem vw_97 : (Cond.instanceMethod ⟨"java/util/ArrayList", "<init>", "()V"⟩).before #[] vs_A = true := List.all_eq_true.mp vwb_2 _ (List.mem_of_getElem? (i := 17) rfl)
theorem vw_98 : (Cond.code ⟨"java/util/ArrayList", "<init>", "()V"⟩ prog_39_method_2_code 1 none).before #[] vs_A = true := List.all_eq_true.mp vwb_2 _ (List.mem_of_getElem? (i := 18) rfl)
theorem vw_99 : (Cond.methodLink "OrderbenchModel" 9 ⟨"java/util/ArrayList", "<init>", "()V"⟩).before #[] vs_A = true := List.all_eq_true.mp vwb_2 _ (List.mem_of_getElem? (i := 19) rfl)
theorem vw_100 : (Cond.fieldLink "OrderbenchModel" 10 "OrderbenchModel" "benches" "Ljava/util/ArrayList;").before #[] vs_A = true := List.all_eq_true.mp vwb_2 _ (List.mem_of_getElem? (i := 20) rfl)
theorem vw_101 : (Cond.classLink "OrderbenchModel" 16 "OrderbenchModel$Shape").before #[] vs_A = true := List.all_eq_true.mp vwb_2 _ (List.mem_of_getElem? (i := 21) rfl)
theorem vw_102 : (Cond.arrayOver (.object "OrderbenchModel$Shape")).before #[] vs_A = true := List.all_eq_true.mp vwb_2 _ (List.mem_of_getElem? (i := 22) rfl)
theorem vw_103 : (Cond.fieldLink "OrderbenchModel" 18 "OrderbenchModel" "shapes" "[LOrderbenchModel$Shape;").before #[] vs_A = true := List.all_eq_true.mp vwb_2 _ (List.mem_of_getElem? (i := 23) rfl)
theorem vw_104 : (Cond.instanceMethod ⟨"java/util/ArrayList", "add", "(Ljava/lang/Object;)Z"⟩).before #[] vs_A = true := List.all_eq_true.mp vwb_2 _ (List.mem_of_getElem? (i := 24) rfl)
theorem vw_105 : (Cond.code ⟨"java/util/ArrayList", "add", "(Ljava/lang/Object;)Z"⟩ prog_39_method_25_code 2 (some .boolean)).before #[] vs_A = true := List.all_eq_true.mp vwb_2 _ (List.mem_of_getElem? (i := 25) rfl)
theorem vw_106 : (Cond.methodLink "OrderbenchModel" 22 ⟨"java/util/ArrayList", "add", "(Ljava/lang/Object;)Z"⟩).before #[] vs_A = true := List.all_eq_true.mp vwb_2 _ (List.mem_of_getElem? (i := 26) rfl)
theorem vw_107 : (Cond.sameMethod "java/util/ArrayList" "java/util/ArrayList" "add" "(Ljava/lang/Object;)Z").before #[] vs_A = true := List.all_eq_true.mp vwb_2 _ (List.mem_of_getElem? (i := 27) rfl)
theorem vw_108 : (Cond.selects "java/util/ArrayList" ⟨"java/util/ArrayList", "add", "(Ljava/lang/Object;)Z"⟩ ⟨"java/util/ArrayList", "add", "(Ljava/lang/Object;)Z"⟩).before #[] vs_A = true := List.all_eq_true.mp vwb_2 _ (List.mem_of_getElem? (i := 28) rfl)
theorem vw_109 : (Cond.instantiable "OrderbenchModel$Shape" 3).before #[] vs_A = true := List.all_eq_true.mp vwb_2 _ (List.mem_of_getElem? (i := 29) rfl)
theorem vw_110 : (Cond.initialized "OrderbenchModel$Shape").before #[] vs_A = true := List.all_eq_true.mp vwb_2 _ (List.mem_of_getElem? (i := 30) rfl)
theorem vw_111 : (Cond.instanceMethod ⟨"OrderbenchModel$Shape", "<init>", "(CLOrderbenchModel$Shape;LOrderbenchModel$Shape;)V"⟩).before #[] vs_A = true := List.all_eq_true.mp vwb_2 _ (List.mem_of_getElem? (i := 31) rfl)
theorem vw_112 : (Cond.code ⟨"OrderbenchModel$Shape", "<init>", "(CLOrderbenchModel$Shape;LOrderbenchModel$Shape;)V"⟩ prog_11_method_1_code 4 none).before #[] vs_A = true := List.all_eq_true.mp vwb_2 _ (List.mem_of_getElem? (i := 32) rfl)
theorem vw_113 : (Cond.methodLink "OrderbenchModel" 26 ⟨"OrderbenchModel$Shape", "<init>", "(CLOrderbenchModel$Shape;LOrderbenchModel$Shape;)V"⟩).before #[] vs_A = true := List.all_eq_true.mp vwb_2 _ (List.mem_of_getElem? (i := 33) rfl)
theorem vw_114 : (Cond.instanceMethod ⟨"java/util/AbstractList", "<init>", "()V"⟩).before #[] vs_A = true := List.all_eq_true.mp vwb_2 _ (List.mem_of_getElem? (i := 34) rfl)
theorem vw_115 : (Cond.initialized "java/util/AbstractList").before #[] vs_A = true := List.all_eq_true.mp vwb_2 _ (List.mem_of_getElem? (i := 35) rfl)
theorem vw_116 : (Cond.code ⟨"java/util/AbstractList", "<init>", "()V"⟩ prog_38_method_1_code 1 none).before #[] vs_A = true := List.all_eq_true.mp vwb_2 _ (List.mem_of_getElem? (i := 36) rfl)
theorem vw_117 : (Cond.methodLink "java/util/ArrayList" 1 ⟨"java/util/AbstractList", "<init>", "()V"⟩).before #[] vs_A = true := List.all_eq_true.mp vwb_2 _ (List.mem_of_getElem? (i := 37) rfl)
theorem vw_118 : (Cond.fieldLink "java/util/ArrayList" 39 "java/util/ArrayList" "DEFAULTCAPACITY_EMPTY_ELEMENTDATA" "[Ljava/lang/Object;").before #[] vs_A = true := List.all_eq_true.mp vwb_2 _ (List.mem_of_getElem? (i := 38) rfl)
theorem vw_119 : (Cond.fieldLink "java/util/ArrayList" 9 "java/util/ArrayList" "elementData" "[Ljava/lang/Object;").before #[] vs_A = true := List.all_eq_true.mp vwb_2 _ (List.mem_of_getElem? (i := 39) rfl)
def vwl_3 : List Cond := [Cond.instanceMethod ⟨"java/util/AbstractCollection", "<init>", "()V"⟩,
  Cond.initialized "java/util/AbstractCollection",
  Cond.code ⟨"java/util/AbstractCollection", "<init>", "()V"⟩ prog_37_method_1_code 1 none,
  Cond.methodLink "java/util/AbstractList" 1 ⟨"java/util/AbstractCollection", "<init>", "()V"⟩,
  Cond.fieldLink "java/util/AbstractList" 7 "java/util/AbstractList" "modCount" "I",
  Cond.methodLink "java/util/AbstractCollection" 1 Lib.objectInit,
  Cond.fieldLink "java/util/ArrayList" 63 "java/util/ArrayList" "modCount" "I",
  Cond.fieldLink "java/util/ArrayList" 48 "java/util/ArrayList" "size" "I",
  Cond.instanceMethod ⟨"java/util/ArrayList", "add", "(Ljava/lang/Object;[Ljava/lang/Object;I)V"⟩,
  Cond.code ⟨"java/util/ArrayList", "add", "(Ljava/lang/Object;[Ljava/lang/Object;I)V"⟩ prog_39_method_24_code 4 none,
  Cond.methodLink "java/util/ArrayList" 131 ⟨"java/util/ArrayList", "add", "(Ljava/lang/Object;[Ljava/lang/Object;I)V"⟩,
  Cond.sameMethod "java/util/ArrayList" "java/util/ArrayList" "add" "(Ljava/lang/Object;[Ljava/lang/Object;I)V",
  Cond.selects "java/util/ArrayList" ⟨"java/util/ArrayList", "add", "(Ljava/lang/Object;[Ljava/lang/Object;I)V"⟩ ⟨"java/util/ArrayList", "add", "(Ljava/lang/Object;[Ljava/lang/Object;I)V"⟩,
  Cond.instanceMethod ⟨"java/util/ArrayList", "grow", "()[Ljava/lang/Object;"⟩,
  Cond.code ⟨"java/util/ArrayList", "grow", "()[Ljava/lang/Object;"⟩ prog_39_method_7_code 1 (some (.array (.object "java/lang/Object"))),
  Cond.methodLink "java/util/ArrayList" 129 ⟨"java/util/ArrayList", "grow", "()[Ljava/lang/Object;"⟩,
  Cond.sameMethod "java/util/ArrayList" "java/util/ArrayList" "grow" "()[Ljava/lang/Object;",
  Cond.selects "java/util/ArrayList" ⟨"java/util/ArrayList", "grow", "()[Ljava/lang/Object;"⟩ ⟨"java/util/ArrayList", "grow", "()[Ljava/lang/Object;"⟩,
  Cond.instanceMethod ⟨"java/util/ArrayList", "grow", "(I)[Ljava/lang/Object;"⟩,
  Cond.code ⟨"java/util/ArrayList", "grow", "(I)[Ljava/lang/Object;"⟩ prog_39_method_6_code 4 (some (.array (.object "java/lang/Object"))),
  Cond.methodLink "java/util/ArrayList" 69 ⟨"java/util/ArrayList", "grow", "(I)[Ljava/lang/Object;"⟩,
  Cond.sameMethod "java/util/ArrayList" "java/util/ArrayList" "grow" "(I)[Ljava/lang/Object;",
  Cond.selects "java/util/ArrayList" ⟨"java/util/ArrayList", "grow", "(I)[Ljava/lang/Object;"⟩ ⟨"java/util/ArrayList", "grow", "(I)[Ljava/lang/Object;"⟩,
  Cond.methodLink "java/util/ArrayList" 79 ⟨"java/lang/Math", "max", "(II)I"⟩,
  Cond.static ⟨"java/lang/Math", "max", "(II)I"⟩,
  Cond.initialized "java/lang/Math",
  Cond.code ⟨"java/lang/Math", "max", "(II)I"⟩ prog_25_method_65_code 2 (some .int),
  Cond.classLink "java/util/ArrayList" 7 "java/lang/Object",
  Cond.arrayOver (.object "java/lang/Object"),
  Cond.methodLink "OrderbenchModel$Shape" 1 Lib.objectInit,
  Cond.fieldLink "OrderbenchModel$Shape" 7 "OrderbenchModel$Shape" "sort" "C",
  Cond.fieldLink "OrderbenchModel$Shape" 13 "OrderbenchModel$Shape" "one" "LOrderbenchModel$Shape;",
  Cond.fieldLink "OrderbenchModel$Shape" 17 "OrderbenchModel$Shape" "other" "LOrderbenchModel$Shape;",
  Cond.methodLink "OrderbenchLaw$Out" 1 Lib.objectInit,
  Cond.instanceMethod ⟨"Orderbench", "turn", "(II)I"⟩,
  Cond.code ⟨"Orderbench", "turn", "(II)I"⟩ prog_1_method_12_code 4 (some .int),
  Cond.methodLink "OrderbenchLaw" 60 ⟨"Orderbench", "turn", "(II)I"⟩,
  Cond.sameMethod "Orderbench" "Orderbench" "turn" "(II)I",
  Cond.selects "Orderbench" ⟨"Orderbench", "turn", "(II)I"⟩ ⟨"Orderbench", "turn", "(II)I"⟩,
  Cond.instanceMethod ⟨"Orderbench", "orderAt", "(I)LOrderbench$Shape;"⟩]
set_option maxRecDepth 100000 in
theorem vwb_3 : vwl_3.all (fun w => w.before #[] vs_A) = true := by decide +kernel
theorem vw_120 : (Cond.instanceMethod ⟨"java/util/AbstractCollection", "<init>", "()V"⟩).before #[] vs_A = true := List.all_eq_true.mp vwb_3 _ (List.mem_of_getElem? (i := 0) rfl)
theorem vw_121 : (Cond.initialized "java/util/AbstractCollection").before #[] vs_A = true := List.all_eq_true.mp vwb_3 _ (List.mem_of_getElem? (i := 1) rfl)
theorem vw_122 : (Cond.code ⟨"java/util/AbstractCollection", "<init>", "()V"⟩ prog_37_method_1_code 1 none).before #[] vs_A = true := List.all_eq_true.mp vwb_3 _ (List.mem_of_getElem? (i := 2) rfl)
theorem vw_123 : (Cond.methodLink "java/util/AbstractList" 1 ⟨"java/util/AbstractCollection", "<init>", "()V"⟩).before #[] vs_A = true := List.all_eq_true.mp vwb_3 _ (List.mem_of_getElem? (i := 3) rfl)
theorem vw_124 : (Cond.fieldLink "java/util/AbstractList" 7 "java/util/AbstractList" "modCount" "I").before #[] vs_A = true := List.all_eq_true.mp vwb_3 _ (List.mem_of_getElem? (i := 4) rfl)
theorem vw_125 : (Cond.methodLink "java/util/AbstractCollection" 1 Lib.objectInit).before #[] vs_A = true := List.all_eq_true.mp vwb_3 _ (List.mem_of_getElem? (i := 5) rfl)
theorem vw_126 : (Cond.fieldLink "java/util/ArrayList" 63 "java/util/ArrayList" "modCount" "I").before #[] vs_A = true := List.all_eq_true.mp vwb_3 _ (List.mem_of_getElem? (i := 6) rfl)
theorem vw_127 : (Cond.fieldLink "java/util/ArrayList" 48 "java/util/ArrayList" "size" "I").before #[] vs_A = true := List.all_eq_true.mp vwb_3 _ (List.mem_of_getElem? (i := 7) rfl)
theorem vw_128 : (Cond.instanceMethod ⟨"java/util/ArrayList", "add", "(Ljava/lang/Object;[Ljava/lang/Object;I)V"⟩).before #[] vs_A = true := List.all_eq_true.mp vwb_3 _ (List.mem_of_getElem? (i := 8) rfl)
theorem vw_129 : (Cond.code ⟨"java/util/ArrayList", "add", "(Ljava/lang/Object;[Ljava/lang/Object;I)V"⟩ prog_39_method_24_code 4 none).before #[] vs_A = true := List.all_eq_true.mp vwb_3 _ (List.mem_of_getElem? (i := 9) rfl)
theorem vw_130 : (Cond.methodLink "java/util/ArrayList" 131 ⟨"java/util/ArrayList", "add", "(Ljava/lang/Object;[Ljava/lang/Object;I)V"⟩).before #[] vs_A = true := List.all_eq_true.mp vwb_3 _ (List.mem_of_getElem? (i := 10) rfl)
theorem vw_131 : (Cond.sameMethod "java/util/ArrayList" "java/util/ArrayList" "add" "(Ljava/lang/Object;[Ljava/lang/Object;I)V").before #[] vs_A = true := List.all_eq_true.mp vwb_3 _ (List.mem_of_getElem? (i := 11) rfl)
theorem vw_132 : (Cond.selects "java/util/ArrayList" ⟨"java/util/ArrayList", "add", "(Ljava/lang/Object;[Ljava/lang/Object;I)V"⟩ ⟨"java/util/ArrayList", "add", "(Ljava/lang/Object;[Ljava/lang/Object;I)V"⟩).before #[] vs_A = true := List.all_eq_true.mp vwb_3 _ (List.mem_of_getElem? (i := 12) rfl)
theorem vw_133 : (Cond.instanceMethod ⟨"java/util/ArrayList", "grow", "()[Ljava/lang/Object;"⟩).before #[] vs_A = true := List.all_eq_true.mp vwb_3 _ (List.mem_of_getElem? (i := 13) rfl)
theorem vw_134 : (Cond.code ⟨"java/util/ArrayList", "grow", "()[Ljava/lang/Object;"⟩ prog_39_method_7_code 1 (some (.array (.object "java/lang/Object")))).before #[] vs_A = true := List.all_eq_true.mp vwb_3 _ (List.mem_of_getElem? (i := 14) rfl)
theorem vw_135 : (Cond.methodLink "java/util/ArrayList" 129 ⟨"java/util/ArrayList", "grow", "()[Ljava/lang/Object;"⟩).before #[] vs_A = true := List.all_eq_true.mp vwb_3 _ (List.mem_of_getElem? (i := 15) rfl)
theorem vw_136 : (Cond.sameMethod "java/util/ArrayList" "java/util/ArrayList" "grow" "()[Ljava/lang/Object;").before #[] vs_A = true := List.all_eq_true.mp vwb_3 _ (List.mem_of_getElem? (i := 16) rfl)
theorem vw_137 : (Cond.selects "java/util/ArrayList" ⟨"java/util/ArrayList", "grow", "()[Ljava/lang/Object;"⟩ ⟨"java/util/ArrayList", "grow", "()[Ljava/lang/Object;"⟩).before #[] vs_A = true := List.all_eq_true.mp vwb_3 _ (List.mem_of_getElem? (i := 17) rfl)
theorem vw_138 : (Cond.instanceMethod ⟨"java/util/ArrayList", "grow", "(I)[Ljava/lang/Object;"⟩).before #[] vs_A = true := List.all_eq_true.mp vwb_3 _ (List.mem_of_getElem? (i := 18) rfl)
theorem vw_139 : (Cond.code ⟨"java/util/ArrayList", "grow", "(I)[Ljava/lang/Object;"⟩ prog_39_method_6_code 4 (some (.array (.object "java/lang/Object")))).before #[] vs_A = true := List.all_eq_true.mp vwb_3 _ (List.mem_of_getElem? (i := 19) rfl)
theorem vw_140 : (Cond.methodLink "java/util/ArrayList" 69 ⟨"java/util/ArrayList", "grow", "(I)[Ljava/lang/Object;"⟩).before #[] vs_A = true := List.all_eq_true.mp vwb_3 _ (List.mem_of_getElem? (i := 20) rfl)
theorem vw_141 : (Cond.sameMethod "java/util/ArrayList" "java/util/ArrayList" "grow" "(I)[Ljava/lang/Object;").before #[] vs_A = true := List.all_eq_true.mp vwb_3 _ (List.mem_of_getElem? (i := 21) rfl)
theorem vw_142 : (Cond.selects "java/util/ArrayList" ⟨"java/util/ArrayList", "grow", "(I)[Ljava/lang/Object;"⟩ ⟨"java/util/ArrayList", "grow", "(I)[Ljava/lang/Object;"⟩).before #[] vs_A = true := List.all_eq_true.mp vwb_3 _ (List.mem_of_getElem? (i := 22) rfl)
theorem vw_143 : (Cond.methodLink "java/util/ArrayList" 79 ⟨"java/lang/Math", "max", "(II)I"⟩).before #[] vs_A = true := List.all_eq_true.mp vwb_3 _ (List.mem_of_getElem? (i := 23) rfl)
theorem vw_144 : (Cond.static ⟨"java/lang/Math", "max", "(II)I"⟩).before #[] vs_A = true := List.all_eq_true.mp vwb_3 _ (List.mem_of_getElem? (i := 24) rfl)
theorem vw_145 : (Cond.initialized "java/lang/Math").before #[] vs_A = true := List.all_eq_true.mp vwb_3 _ (List.mem_of_getElem? (i := 25) rfl)
theorem vw_146 : (Cond.code ⟨"java/lang/Math", "max", "(II)I"⟩ prog_25_method_65_code 2 (some .int)).before #[] vs_A = true := List.all_eq_true.mp vwb_3 _ (List.mem_of_getElem? (i := 26) rfl)
theorem vw_147 : (Cond.classLink "java/util/ArrayList" 7 "java/lang/Object").before #[] vs_A = true := List.all_eq_true.mp vwb_3 _ (List.mem_of_getElem? (i := 27) rfl)
theorem vw_148 : (Cond.arrayOver (.object "java/lang/Object")).before #[] vs_A = true := List.all_eq_true.mp vwb_3 _ (List.mem_of_getElem? (i := 28) rfl)
theorem vw_149 : (Cond.methodLink "OrderbenchModel$Shape" 1 Lib.objectInit).before #[] vs_A = true := List.all_eq_true.mp vwb_3 _ (List.mem_of_getElem? (i := 29) rfl)
theorem vw_150 : (Cond.fieldLink "OrderbenchModel$Shape" 7 "OrderbenchModel$Shape" "sort" "C").before #[] vs_A = true := List.all_eq_true.mp vwb_3 _ (List.mem_of_getElem? (i := 30) rfl)
theorem vw_151 : (Cond.fieldLink "OrderbenchModel$Shape" 13 "OrderbenchModel$Shape" "one" "LOrderbenchModel$Shape;").before #[] vs_A = true := List.all_eq_true.mp vwb_3 _ (List.mem_of_getElem? (i := 31) rfl)
theorem vw_152 : (Cond.fieldLink "OrderbenchModel$Shape" 17 "OrderbenchModel$Shape" "other" "LOrderbenchModel$Shape;").before #[] vs_A = true := List.all_eq_true.mp vwb_3 _ (List.mem_of_getElem? (i := 32) rfl)
theorem vw_153 : (Cond.methodLink "OrderbenchLaw$Out" 1 Lib.objectInit).before #[] vs_A = true := List.all_eq_true.mp vwb_3 _ (List.mem_of_getElem? (i := 33) rfl)
theorem vw_154 : (Cond.instanceMethod ⟨"Orderbench", "turn", "(II)I"⟩).before #[] vs_A = true := List.all_eq_true.mp vwb_3 _ (List.mem_of_getElem? (i := 34) rfl)
theorem vw_155 : (Cond.code ⟨"Orderbench", "turn", "(II)I"⟩ prog_1_method_12_code 4 (some .int)).before #[] vs_A = true := List.all_eq_true.mp vwb_3 _ (List.mem_of_getElem? (i := 35) rfl)
theorem vw_156 : (Cond.methodLink "OrderbenchLaw" 60 ⟨"Orderbench", "turn", "(II)I"⟩).before #[] vs_A = true := List.all_eq_true.mp vwb_3 _ (List.mem_of_getElem? (i := 36) rfl)
theorem vw_157 : (Cond.sameMethod "Orderbench" "Orderbench" "turn" "(II)I").before #[] vs_A = true := List.all_eq_true.mp vwb_3 _ (List.mem_of_getElem? (i := 37) rfl)
theorem vw_158 : (Cond.selects "Orderbench" ⟨"Orderbench", "turn", "(II)I"⟩ ⟨"Orderbench", "turn", "(II)I"⟩).before #[] vs_A = true := List.all_eq_true.mp vwb_3 _ (List.mem_of_getElem? (i := 38) rfl)
theorem vw_159 : (Cond.instanceMethod ⟨"Orderbench", "orderAt", "(I)LOrderbench$Shape;"⟩).before #[] vs_A = true := List.all_eq_true.mp vwb_3 _ (List.mem_of_getElem? (i := 39) rfl)
def vwl_4 : List Cond := [Cond.code ⟨"Orderbench", "orderAt", "(I)LOrderbench$Shape;"⟩ prog_1_method_40_code 2 (some (.object "Orderbench$Shape")),
  Cond.methodLink "Orderbench" 100 ⟨"Orderbench", "orderAt", "(I)LOrderbench$Shape;"⟩,
  Cond.sameMethod "Orderbench" "Orderbench" "orderAt" "(I)LOrderbench$Shape;",
  Cond.selects "Orderbench" ⟨"Orderbench", "orderAt", "(I)LOrderbench$Shape;"⟩ ⟨"Orderbench", "orderAt", "(I)LOrderbench$Shape;"⟩,
  Cond.classLink "Orderbench" 135 "Orderbench$Turned",
  Cond.instantiable "Orderbench$Turned" 3,
  Cond.initialized "Orderbench$Turned",
  Cond.instanceMethod ⟨"Orderbench$Turned", "<init>", "(LOrderbench$Shape;)V"⟩,
  Cond.code ⟨"Orderbench$Turned", "<init>", "(LOrderbench$Shape;)V"⟩ prog_7_method_1_code 2 none,
  Cond.methodLink "Orderbench" 137 ⟨"Orderbench$Turned", "<init>", "(LOrderbench$Shape;)V"⟩,
  Cond.methodLink "Orderbench" 139 ⟨"Orderbench", "needSize", "(LOrderbench$Shape;)V"⟩,
  Cond.static ⟨"Orderbench", "needSize", "(LOrderbench$Shape;)V"⟩,
  Cond.code ⟨"Orderbench", "needSize", "(LOrderbench$Shape;)V"⟩ prog_1_method_45_code 1 none,
  Cond.instanceMethod ⟨"Orderbench", "makeOrder", "(ILOrderbench$Shape;)I"⟩,
  Cond.code ⟨"Orderbench", "makeOrder", "(ILOrderbench$Shape;)I"⟩ prog_1_method_52_code 3 (some .int),
  Cond.methodLink "Orderbench" 129 ⟨"Orderbench", "makeOrder", "(ILOrderbench$Shape;)I"⟩,
  Cond.sameMethod "Orderbench" "Orderbench" "makeOrder" "(ILOrderbench$Shape;)I",
  Cond.selects "Orderbench" ⟨"Orderbench", "makeOrder", "(ILOrderbench$Shape;)I"⟩ ⟨"Orderbench", "makeOrder", "(ILOrderbench$Shape;)I"⟩,
  Cond.fieldLink "Orderbench$Turned" 3 "Orderbench$Shape" "length" "I",
  Cond.fieldLink "Orderbench$Turned" 9 "Orderbench$Shape" "safe" "Z",
  Cond.methodLink "Orderbench$Turned" 13 ⟨"Orderbench$Shape", "<init>", "(IZ)V"⟩,
  Cond.fieldLink "Orderbench$Turned" 17 "Orderbench$Turned" "of" "LOrderbench$Shape;",
  Cond.fieldLink "Orderbench" 133 "Orderbench$Shape" "length" "I",
  Cond.methodLink "OrderbenchModel" 130 ⟨"OrderbenchModel", "isNoOrder", "(I)Z"⟩,
  Cond.static ⟨"OrderbenchModel", "isNoOrder", "(I)Z"⟩,
  Cond.code ⟨"OrderbenchModel", "isNoOrder", "(I)Z"⟩ prog_10_method_8_code 1 (some .boolean),
  Cond.instanceMethod ⟨"OrderbenchModel", "fails", "(ZZ)Z"⟩,
  Cond.code ⟨"OrderbenchModel", "fails", "(ZZ)Z"⟩ prog_10_method_4_code 3 (some .boolean),
  Cond.methodLink "OrderbenchModel" 94 ⟨"OrderbenchModel", "fails", "(ZZ)Z"⟩,
  Cond.sameMethod "OrderbenchModel" "OrderbenchModel" "fails" "(ZZ)Z",
  Cond.selects "OrderbenchModel" ⟨"OrderbenchModel", "fails", "(ZZ)Z"⟩ ⟨"OrderbenchModel", "fails", "(ZZ)Z"⟩,
  Cond.instanceMethod ⟨"OrderbenchModel", "become", "(ILOrderbenchModel$Shape;)I"⟩,
  Cond.code ⟨"OrderbenchModel", "become", "(ILOrderbenchModel$Shape;)I"⟩ prog_10_method_29_code 3 (some .int),
  Cond.methodLink "OrderbenchModel" 163 ⟨"OrderbenchModel", "become", "(ILOrderbenchModel$Shape;)I"⟩,
  Cond.sameMethod "OrderbenchModel" "OrderbenchModel" "become" "(ILOrderbenchModel$Shape;)I",
  Cond.selects "OrderbenchModel" ⟨"OrderbenchModel", "become", "(ILOrderbenchModel$Shape;)I"⟩ ⟨"OrderbenchModel", "become", "(ILOrderbenchModel$Shape;)I"⟩,
  Cond.methodLink "OrderbenchModel" 37 ⟨"OrderbenchModel", "isIn", "(III)Z"⟩,
  Cond.static ⟨"OrderbenchModel", "isIn", "(III)Z"⟩,
  Cond.code ⟨"OrderbenchModel", "isIn", "(III)Z"⟩ prog_10_method_5_code 3 (some .boolean),
  Cond.instanceMethod ⟨"OrderbenchModel", "fails", "(ZZZ)Z"⟩]
set_option maxRecDepth 100000 in
theorem vwb_4 : vwl_4.all (fun w => w.before #[] vs_A) = true := by decide +kernel
theorem vw_160 : (Cond.code ⟨"Orderbench", "orderAt", "(I)LOrderbench$Shape;"⟩ prog_1_method_40_code 2 (some (.object "Orderbench$Shape"))).before #[] vs_A = true := List.all_eq_true.mp vwb_4 _ (List.mem_of_getElem? (i := 0) rfl)
theorem vw_161 : (Cond.methodLink "Orderbench" 100 ⟨"Orderbench", "orderAt", "(I)LOrderbench$Shape;"⟩).before #[] vs_A = true := List.all_eq_true.mp vwb_4 _ (List.mem_of_getElem? (i := 1) rfl)
theorem vw_162 : (Cond.sameMethod "Orderbench" "Orderbench" "orderAt" "(I)LOrderbench$Shape;").before #[] vs_A = true := List.all_eq_true.mp vwb_4 _ (List.mem_of_getElem? (i := 2) rfl)
theorem vw_163 : (Cond.selects "Orderbench" ⟨"Orderbench", "orderAt", "(I)LOrderbench$Shape;"⟩ ⟨"Orderbench", "orderAt", "(I)LOrderbench$Shape;"⟩).before #[] vs_A = true := List.all_eq_true.mp vwb_4 _ (List.mem_of_getElem? (i := 3) rfl)
theorem vw_164 : (Cond.classLink "Orderbench" 135 "Orderbench$Turned").before #[] vs_A = true := List.all_eq_true.mp vwb_4 _ (List.mem_of_getElem? (i := 4) rfl)
theorem vw_165 : (Cond.instantiable "Orderbench$Turned" 3).before #[] vs_A = true := List.all_eq_true.mp vwb_4 _ (List.mem_of_getElem? (i := 5) rfl)
theorem vw_166 : (Cond.initialized "Orderbench$Turned").before #[] vs_A = true := List.all_eq_true.mp vwb_4 _ (List.mem_of_getElem? (i := 6) rfl)
theorem vw_167 : (Cond.instanceMethod ⟨"Orderbench$Turned", "<init>", "(LOrderbench$Shape;)V"⟩).before #[] vs_A = true := List.all_eq_true.mp vwb_4 _ (List.mem_of_getElem? (i := 7) rfl)
theorem vw_168 : (Cond.code ⟨"Orderbench$Turned", "<init>", "(LOrderbench$Shape;)V"⟩ prog_7_method_1_code 2 none).before #[] vs_A = true := List.all_eq_true.mp vwb_4 _ (List.mem_of_getElem? (i := 8) rfl)
theorem vw_169 : (Cond.methodLink "Orderbench" 137 ⟨"Orderbench$Turned", "<init>", "(LOrderbench$Shape;)V"⟩).before #[] vs_A = true := List.all_eq_true.mp vwb_4 _ (List.mem_of_getElem? (i := 9) rfl)
theorem vw_170 : (Cond.methodLink "Orderbench" 139 ⟨"Orderbench", "needSize", "(LOrderbench$Shape;)V"⟩).before #[] vs_A = true := List.all_eq_true.mp vwb_4 _ (List.mem_of_getElem? (i := 10) rfl)
theorem vw_171 : (Cond.static ⟨"Orderbench", "needSize", "(LOrderbench$Shape;)V"⟩).before #[] vs_A = true := List.all_eq_true.mp vwb_4 _ (List.mem_of_getElem? (i := 11) rfl)
theorem vw_172 : (Cond.code ⟨"Orderbench", "needSize", "(LOrderbench$Shape;)V"⟩ prog_1_method_45_code 1 none).before #[] vs_A = true := List.all_eq_true.mp vwb_4 _ (List.mem_of_getElem? (i := 12) rfl)
theorem vw_173 : (Cond.instanceMethod ⟨"Orderbench", "makeOrder", "(ILOrderbench$Shape;)I"⟩).before #[] vs_A = true := List.all_eq_true.mp vwb_4 _ (List.mem_of_getElem? (i := 13) rfl)
theorem vw_174 : (Cond.code ⟨"Orderbench", "makeOrder", "(ILOrderbench$Shape;)I"⟩ prog_1_method_52_code 3 (some .int)).before #[] vs_A = true := List.all_eq_true.mp vwb_4 _ (List.mem_of_getElem? (i := 14) rfl)
theorem vw_175 : (Cond.methodLink "Orderbench" 129 ⟨"Orderbench", "makeOrder", "(ILOrderbench$Shape;)I"⟩).before #[] vs_A = true := List.all_eq_true.mp vwb_4 _ (List.mem_of_getElem? (i := 15) rfl)
theorem vw_176 : (Cond.sameMethod "Orderbench" "Orderbench" "makeOrder" "(ILOrderbench$Shape;)I").before #[] vs_A = true := List.all_eq_true.mp vwb_4 _ (List.mem_of_getElem? (i := 16) rfl)
theorem vw_177 : (Cond.selects "Orderbench" ⟨"Orderbench", "makeOrder", "(ILOrderbench$Shape;)I"⟩ ⟨"Orderbench", "makeOrder", "(ILOrderbench$Shape;)I"⟩).before #[] vs_A = true := List.all_eq_true.mp vwb_4 _ (List.mem_of_getElem? (i := 17) rfl)
theorem vw_178 : (Cond.fieldLink "Orderbench$Turned" 3 "Orderbench$Shape" "length" "I").before #[] vs_A = true := List.all_eq_true.mp vwb_4 _ (List.mem_of_getElem? (i := 18) rfl)
theorem vw_179 : (Cond.fieldLink "Orderbench$Turned" 9 "Orderbench$Shape" "safe" "Z").before #[] vs_A = true := List.all_eq_true.mp vwb_4 _ (List.mem_of_getElem? (i := 19) rfl)
theorem vw_180 : (Cond.methodLink "Orderbench$Turned" 13 ⟨"Orderbench$Shape", "<init>", "(IZ)V"⟩).before #[] vs_A = true := List.all_eq_true.mp vwb_4 _ (List.mem_of_getElem? (i := 20) rfl)
theorem vw_181 : (Cond.fieldLink "Orderbench$Turned" 17 "Orderbench$Turned" "of" "LOrderbench$Shape;").before #[] vs_A = true := List.all_eq_true.mp vwb_4 _ (List.mem_of_getElem? (i := 21) rfl)
theorem vw_182 : (Cond.fieldLink "Orderbench" 133 "Orderbench$Shape" "length" "I").before #[] vs_A = true := List.all_eq_true.mp vwb_4 _ (List.mem_of_getElem? (i := 22) rfl)
theorem vw_183 : (Cond.methodLink "OrderbenchModel" 130 ⟨"OrderbenchModel", "isNoOrder", "(I)Z"⟩).before #[] vs_A = true := List.all_eq_true.mp vwb_4 _ (List.mem_of_getElem? (i := 23) rfl)
theorem vw_184 : (Cond.static ⟨"OrderbenchModel", "isNoOrder", "(I)Z"⟩).before #[] vs_A = true := List.all_eq_true.mp vwb_4 _ (List.mem_of_getElem? (i := 24) rfl)
theorem vw_185 : (Cond.code ⟨"OrderbenchModel", "isNoOrder", "(I)Z"⟩ prog_10_method_8_code 1 (some .boolean)).before #[] vs_A = true := List.all_eq_true.mp vwb_4 _ (List.mem_of_getElem? (i := 25) rfl)
theorem vw_186 : (Cond.instanceMethod ⟨"OrderbenchModel", "fails", "(ZZ)Z"⟩).before #[] vs_A = true := List.all_eq_true.mp vwb_4 _ (List.mem_of_getElem? (i := 26) rfl)
theorem vw_187 : (Cond.code ⟨"OrderbenchModel", "fails", "(ZZ)Z"⟩ prog_10_method_4_code 3 (some .boolean)).before #[] vs_A = true := List.all_eq_true.mp vwb_4 _ (List.mem_of_getElem? (i := 27) rfl)
theorem vw_188 : (Cond.methodLink "OrderbenchModel" 94 ⟨"OrderbenchModel", "fails", "(ZZ)Z"⟩).before #[] vs_A = true := List.all_eq_true.mp vwb_4 _ (List.mem_of_getElem? (i := 28) rfl)
theorem vw_189 : (Cond.sameMethod "OrderbenchModel" "OrderbenchModel" "fails" "(ZZ)Z").before #[] vs_A = true := List.all_eq_true.mp vwb_4 _ (List.mem_of_getElem? (i := 29) rfl)
theorem vw_190 : (Cond.selects "OrderbenchModel" ⟨"OrderbenchModel", "fails", "(ZZ)Z"⟩ ⟨"OrderbenchModel", "fails", "(ZZ)Z"⟩).before #[] vs_A = true := List.all_eq_true.mp vwb_4 _ (List.mem_of_getElem? (i := 30) rfl)
theorem vw_191 : (Cond.instanceMethod ⟨"OrderbenchModel", "become", "(ILOrderbenchModel$Shape;)I"⟩).before #[] vs_A = true := List.all_eq_true.mp vwb_4 _ (List.mem_of_getElem? (i := 31) rfl)
theorem vw_192 : (Cond.code ⟨"OrderbenchModel", "become", "(ILOrderbenchModel$Shape;)I"⟩ prog_10_method_29_code 3 (some .int)).before #[] vs_A = true := List.all_eq_true.mp vwb_4 _ (List.mem_of_getElem? (i := 32) rfl)
theorem vw_193 : (Cond.methodLink "OrderbenchModel" 163 ⟨"OrderbenchModel", "become", "(ILOrderbenchModel$Shape;)I"⟩).before #[] vs_A = true := List.all_eq_true.mp vwb_4 _ (List.mem_of_getElem? (i := 33) rfl)
theorem vw_194 : (Cond.sameMethod "OrderbenchModel" "OrderbenchModel" "become" "(ILOrderbenchModel$Shape;)I").before #[] vs_A = true := List.all_eq_true.mp vwb_4 _ (List.mem_of_getElem? (i := 34) rfl)
theorem vw_195 : (Cond.selects "OrderbenchModel" ⟨"OrderbenchModel", "become", "(ILOrderbenchModel$Shape;)I"⟩ ⟨"OrderbenchModel", "become", "(ILOrderbenchModel$Shape;)I"⟩).before #[] vs_A = true := List.all_eq_true.mp vwb_4 _ (List.mem_of_getElem? (i := 35) rfl)
theorem vw_196 : (Cond.methodLink "OrderbenchModel" 37 ⟨"OrderbenchModel", "isIn", "(III)Z"⟩).before #[] vs_A = true := List.all_eq_true.mp vwb_4 _ (List.mem_of_getElem? (i := 36) rfl)
theorem vw_197 : (Cond.static ⟨"OrderbenchModel", "isIn", "(III)Z"⟩).before #[] vs_A = true := List.all_eq_true.mp vwb_4 _ (List.mem_of_getElem? (i := 37) rfl)
theorem vw_198 : (Cond.code ⟨"OrderbenchModel", "isIn", "(III)Z"⟩ prog_10_method_5_code 3 (some .boolean)).before #[] vs_A = true := List.all_eq_true.mp vwb_4 _ (List.mem_of_getElem? (i := 38) rfl)
theorem vw_199 : (Cond.instanceMethod ⟨"OrderbenchModel", "fails", "(ZZZ)Z"⟩).before #[] vs_A = true := List.all_eq_true.mp vwb_4 _ (List.mem_of_getElem? (i := 39) rfl)
def vwl_5 : List Cond := [Cond.code ⟨"OrderbenchModel", "fails", "(ZZZ)Z"⟩ prog_10_method_3_code 4 (some .boolean),
  Cond.methodLink "OrderbenchModel" 33 ⟨"OrderbenchModel", "fails", "(ZZZ)Z"⟩,
  Cond.sameMethod "OrderbenchModel" "OrderbenchModel" "fails" "(ZZZ)Z",
  Cond.selects "OrderbenchModel" ⟨"OrderbenchModel", "fails", "(ZZZ)Z"⟩ ⟨"OrderbenchModel", "fails", "(ZZZ)Z"⟩,
  Cond.fieldLink "OrderbenchModel" 29 "OrderbenchModel" "thrown" "I",
  Cond.instanceMethod ⟨"OrderbenchModel$Shape", "text", "()Ljava/lang/String;"⟩,
  Cond.code ⟨"OrderbenchModel$Shape", "text", "()Ljava/lang/String;"⟩ prog_11_method_2_code 1 (some (.object "java/lang/String")),
  Cond.methodLink "OrderbenchModel" 146 ⟨"OrderbenchModel$Shape", "text", "()Ljava/lang/String;"⟩,
  Cond.sameMethod "OrderbenchModel$Shape" "OrderbenchModel$Shape" "text" "()Ljava/lang/String;",
  Cond.selects "OrderbenchModel$Shape" ⟨"OrderbenchModel$Shape", "text", "()Ljava/lang/String;"⟩ ⟨"OrderbenchModel$Shape", "text", "()Ljava/lang/String;"⟩,
  Cond.instanceMethod ⟨"java/lang/String", "length", "()I"⟩,
  Cond.initialized "java/lang/String",
  Cond.code ⟨"java/lang/String", "length", "()I"⟩ prog_28_method_54_code 1 (some .int),
  Cond.methodLink "OrderbenchModel" 149 ⟨"java/lang/String", "length", "()I"⟩,
  Cond.sameMethod "java/lang/String" "java/lang/String" "length" "()I",
  Cond.selects "java/lang/String" ⟨"java/lang/String", "length", "()I"⟩ ⟨"java/lang/String", "length", "()I"⟩,
  Cond.instanceMethod ⟨"OrderbenchModel", "sizeOf", "(I)I"⟩,
  Cond.code ⟨"OrderbenchModel", "sizeOf", "(I)I"⟩ prog_10_method_27_code 2 (some .int),
  Cond.methodLink "OrderbenchModel" 154 ⟨"OrderbenchModel", "sizeOf", "(I)I"⟩,
  Cond.sameMethod "OrderbenchModel" "OrderbenchModel" "sizeOf" "(I)I",
  Cond.selects "OrderbenchModel" ⟨"OrderbenchModel", "sizeOf", "(I)I"⟩ ⟨"OrderbenchModel", "sizeOf", "(I)I"⟩,
  Cond.classLink "OrderbenchModel$Shape" 20 "java/lang/StringBuilder",
  Cond.methodLink "OrderbenchModel$Shape" 22 ⟨"java/lang/StringBuilder", "<init>", "()V"⟩,
  Cond.methodLink "OrderbenchModel$Shape" 23 ⟨"OrderbenchModel$Shape", "text", "()Ljava/lang/String;"⟩,
  Cond.instanceMethod ⟨"java/lang/StringBuilder", "append", "(Ljava/lang/String;)Ljava/lang/StringBuilder;"⟩,
  Cond.code ⟨"java/lang/StringBuilder", "append", "(Ljava/lang/String;)Ljava/lang/StringBuilder;"⟩ prog_29_method_7_code 2 (some (.object "java/lang/StringBuilder")),
  Cond.methodLink "OrderbenchModel$Shape" 27 ⟨"java/lang/StringBuilder", "append", "(Ljava/lang/String;)Ljava/lang/StringBuilder;"⟩,
  Cond.sameMethod "java/lang/StringBuilder" "java/lang/StringBuilder" "append" "(Ljava/lang/String;)Ljava/lang/StringBuilder;",
  Cond.selects "java/lang/StringBuilder" ⟨"java/lang/StringBuilder", "append", "(Ljava/lang/String;)Ljava/lang/StringBuilder;"⟩ ⟨"java/lang/StringBuilder", "append", "(Ljava/lang/String;)Ljava/lang/StringBuilder;"⟩,
  Cond.instanceMethod ⟨"java/lang/StringBuilder", "toString", "()Ljava/lang/String;"⟩,
  Cond.code ⟨"java/lang/StringBuilder", "toString", "()Ljava/lang/String;"⟩ prog_29_method_42_code 1 (some (.object "java/lang/String")),
  Cond.methodLink "OrderbenchModel$Shape" 33 ⟨"java/lang/StringBuilder", "toString", "()Ljava/lang/String;"⟩,
  Cond.sameMethod "java/lang/StringBuilder" "java/lang/StringBuilder" "toString" "()Ljava/lang/String;",
  Cond.selects "java/lang/StringBuilder" ⟨"java/lang/StringBuilder", "toString", "()Ljava/lang/String;"⟩ ⟨"java/lang/StringBuilder", "toString", "()Ljava/lang/String;"⟩,
  Cond.instanceMethod ⟨"java/lang/StringBuilder", "append", "(C)Ljava/lang/StringBuilder;"⟩,
  Cond.code ⟨"java/lang/StringBuilder", "append", "(C)Ljava/lang/StringBuilder;"⟩ prog_29_method_14_code 2 (some (.object "java/lang/StringBuilder")),
  Cond.methodLink "OrderbenchModel$Shape" 42 ⟨"java/lang/StringBuilder", "append", "(C)Ljava/lang/StringBuilder;"⟩,
  Cond.sameMethod "java/lang/StringBuilder" "java/lang/StringBuilder" "append" "(C)Ljava/lang/StringBuilder;",
  Cond.selects "java/lang/StringBuilder" ⟨"java/lang/StringBuilder", "append", "(C)Ljava/lang/StringBuilder;"⟩ ⟨"java/lang/StringBuilder", "append", "(C)Ljava/lang/StringBuilder;"⟩,
  Cond.instanceMethod ⟨"java/lang/AbstractStringBuilder", "append", "(C)Ljava/lang/AbstractStringBuilder;"⟩]
set_option maxRecDepth 100000 in
theorem vwb_5 : vwl_5.all (fun w => w.before #[] vs_A) = true := by decide +kernel
theorem vw_200 : (Cond.code ⟨"OrderbenchModel", "fails", "(ZZZ)Z"⟩ prog_10_method_3_code 4 (some .boolean)).before #[] vs_A = true := List.all_eq_true.mp vwb_5 _ (List.mem_of_getElem? (i := 0) rfl)
theorem vw_201 : (Cond.methodLink "OrderbenchModel" 33 ⟨"OrderbenchModel", "fails", "(ZZZ)Z"⟩).before #[] vs_A = true := List.all_eq_true.mp vwb_5 _ (List.mem_of_getElem? (i := 1) rfl)
theorem vw_202 : (Cond.sameMethod "OrderbenchModel" "OrderbenchModel" "fails" "(ZZZ)Z").before #[] vs_A = true := List.all_eq_true.mp vwb_5 _ (List.mem_of_getElem? (i := 2) rfl)
theorem vw_203 : (Cond.selects "OrderbenchModel" ⟨"OrderbenchModel", "fails", "(ZZZ)Z"⟩ ⟨"OrderbenchModel", "fails", "(ZZZ)Z"⟩).before #[] vs_A = true := List.all_eq_true.mp vwb_5 _ (List.mem_of_getElem? (i := 3) rfl)
theorem vw_204 : (Cond.fieldLink "OrderbenchModel" 29 "OrderbenchModel" "thrown" "I").before #[] vs_A = true := List.all_eq_true.mp vwb_5 _ (List.mem_of_getElem? (i := 4) rfl)
theorem vw_205 : (Cond.instanceMethod ⟨"OrderbenchModel$Shape", "text", "()Ljava/lang/String;"⟩).before #[] vs_A = true := List.all_eq_true.mp vwb_5 _ (List.mem_of_getElem? (i := 5) rfl)
theorem vw_206 : (Cond.code ⟨"OrderbenchModel$Shape", "text", "()Ljava/lang/String;"⟩ prog_11_method_2_code 1 (some (.object "java/lang/String"))).before #[] vs_A = true := List.all_eq_true.mp vwb_5 _ (List.mem_of_getElem? (i := 6) rfl)
theorem vw_207 : (Cond.methodLink "OrderbenchModel" 146 ⟨"OrderbenchModel$Shape", "text", "()Ljava/lang/String;"⟩).before #[] vs_A = true := List.all_eq_true.mp vwb_5 _ (List.mem_of_getElem? (i := 7) rfl)
theorem vw_208 : (Cond.sameMethod "OrderbenchModel$Shape" "OrderbenchModel$Shape" "text" "()Ljava/lang/String;").before #[] vs_A = true := List.all_eq_true.mp vwb_5 _ (List.mem_of_getElem? (i := 8) rfl)
theorem vw_209 : (Cond.selects "OrderbenchModel$Shape" ⟨"OrderbenchModel$Shape", "text", "()Ljava/lang/String;"⟩ ⟨"OrderbenchModel$Shape", "text", "()Ljava/lang/String;"⟩).before #[] vs_A = true := List.all_eq_true.mp vwb_5 _ (List.mem_of_getElem? (i := 9) rfl)
theorem vw_210 : (Cond.instanceMethod ⟨"java/lang/String", "length", "()I"⟩).before #[] vs_A = true := List.all_eq_true.mp vwb_5 _ (List.mem_of_getElem? (i := 10) rfl)
theorem vw_211 : (Cond.initialized "java/lang/String").before #[] vs_A = true := List.all_eq_true.mp vwb_5 _ (List.mem_of_getElem? (i := 11) rfl)
theorem vw_212 : (Cond.code ⟨"java/lang/String", "length", "()I"⟩ prog_28_method_54_code 1 (some .int)).before #[] vs_A = true := List.all_eq_true.mp vwb_5 _ (List.mem_of_getElem? (i := 12) rfl)
theorem vw_213 : (Cond.methodLink "OrderbenchModel" 149 ⟨"java/lang/String", "length", "()I"⟩).before #[] vs_A = true := List.all_eq_true.mp vwb_5 _ (List.mem_of_getElem? (i := 13) rfl)
theorem vw_214 : (Cond.sameMethod "java/lang/String" "java/lang/String" "length" "()I").before #[] vs_A = true := List.all_eq_true.mp vwb_5 _ (List.mem_of_getElem? (i := 14) rfl)
theorem vw_215 : (Cond.selects "java/lang/String" ⟨"java/lang/String", "length", "()I"⟩ ⟨"java/lang/String", "length", "()I"⟩).before #[] vs_A = true := List.all_eq_true.mp vwb_5 _ (List.mem_of_getElem? (i := 15) rfl)
theorem vw_216 : (Cond.instanceMethod ⟨"OrderbenchModel", "sizeOf", "(I)I"⟩).before #[] vs_A = true := List.all_eq_true.mp vwb_5 _ (List.mem_of_getElem? (i := 16) rfl)
theorem vw_217 : (Cond.code ⟨"OrderbenchModel", "sizeOf", "(I)I"⟩ prog_10_method_27_code 2 (some .int)).before #[] vs_A = true := List.all_eq_true.mp vwb_5 _ (List.mem_of_getElem? (i := 17) rfl)
theorem vw_218 : (Cond.methodLink "OrderbenchModel" 154 ⟨"OrderbenchModel", "sizeOf", "(I)I"⟩).before #[] vs_A = true := List.all_eq_true.mp vwb_5 _ (List.mem_of_getElem? (i := 18) rfl)
theorem vw_219 : (Cond.sameMethod "OrderbenchModel" "OrderbenchModel" "sizeOf" "(I)I").before #[] vs_A = true := List.all_eq_true.mp vwb_5 _ (List.mem_of_getElem? (i := 19) rfl)
theorem vw_220 : (Cond.selects "OrderbenchModel" ⟨"OrderbenchModel", "sizeOf", "(I)I"⟩ ⟨"OrderbenchModel", "sizeOf", "(I)I"⟩).before #[] vs_A = true := List.all_eq_true.mp vwb_5 _ (List.mem_of_getElem? (i := 20) rfl)
theorem vw_221 : (Cond.classLink "OrderbenchModel$Shape" 20 "java/lang/StringBuilder").before #[] vs_A = true := List.all_eq_true.mp vwb_5 _ (List.mem_of_getElem? (i := 21) rfl)
theorem vw_222 : (Cond.methodLink "OrderbenchModel$Shape" 22 ⟨"java/lang/StringBuilder", "<init>", "()V"⟩).before #[] vs_A = true := List.all_eq_true.mp vwb_5 _ (List.mem_of_getElem? (i := 22) rfl)
theorem vw_223 : (Cond.methodLink "OrderbenchModel$Shape" 23 ⟨"OrderbenchModel$Shape", "text", "()Ljava/lang/String;"⟩).before #[] vs_A = true := List.all_eq_true.mp vwb_5 _ (List.mem_of_getElem? (i := 23) rfl)
theorem vw_224 : (Cond.instanceMethod ⟨"java/lang/StringBuilder", "append", "(Ljava/lang/String;)Ljava/lang/StringBuilder;"⟩).before #[] vs_A = true := List.all_eq_true.mp vwb_5 _ (List.mem_of_getElem? (i := 24) rfl)
theorem vw_225 : (Cond.code ⟨"java/lang/StringBuilder", "append", "(Ljava/lang/String;)Ljava/lang/StringBuilder;"⟩ prog_29_method_7_code 2 (some (.object "java/lang/StringBuilder"))).before #[] vs_A = true := List.all_eq_true.mp vwb_5 _ (List.mem_of_getElem? (i := 25) rfl)
theorem vw_226 : (Cond.methodLink "OrderbenchModel$Shape" 27 ⟨"java/lang/StringBuilder", "append", "(Ljava/lang/String;)Ljava/lang/StringBuilder;"⟩).before #[] vs_A = true := List.all_eq_true.mp vwb_5 _ (List.mem_of_getElem? (i := 26) rfl)
theorem vw_227 : (Cond.sameMethod "java/lang/StringBuilder" "java/lang/StringBuilder" "append" "(Ljava/lang/String;)Ljava/lang/StringBuilder;").before #[] vs_A = true := List.all_eq_true.mp vwb_5 _ (List.mem_of_getElem? (i := 27) rfl)
theorem vw_228 : (Cond.selects "java/lang/StringBuilder" ⟨"java/lang/StringBuilder", "append", "(Ljava/lang/String;)Ljava/lang/StringBuilder;"⟩ ⟨"java/lang/StringBuilder", "append", "(Ljava/lang/String;)Ljava/lang/StringBuilder;"⟩).before #[] vs_A = true := List.all_eq_true.mp vwb_5 _ (List.mem_of_getElem? (i := 28) rfl)
theorem vw_229 : (Cond.instanceMethod ⟨"java/lang/StringBuilder", "toString", "()Ljava/lang/String;"⟩).before #[] vs_A = true := List.all_eq_true.mp vwb_5 _ (List.mem_of_getElem? (i := 29) rfl)
theorem vw_230 : (Cond.code ⟨"java/lang/StringBuilder", "toString", "()Ljava/lang/String;"⟩ prog_29_method_42_code 1 (some (.object "java/lang/String"))).before #[] vs_A = true := List.all_eq_true.mp vwb_5 _ (List.mem_of_getElem? (i := 30) rfl)
theorem vw_231 : (Cond.methodLink "OrderbenchModel$Shape" 33 ⟨"java/lang/StringBuilder", "toString", "()Ljava/lang/String;"⟩).before #[] vs_A = true := List.all_eq_true.mp vwb_5 _ (List.mem_of_getElem? (i := 31) rfl)
theorem vw_232 : (Cond.sameMethod "java/lang/StringBuilder" "java/lang/StringBuilder" "toString" "()Ljava/lang/String;").before #[] vs_A = true := List.all_eq_true.mp vwb_5 _ (List.mem_of_getElem? (i := 32) rfl)
theorem vw_233 : (Cond.selects "java/lang/StringBuilder" ⟨"java/lang/StringBuilder", "toString", "()Ljava/lang/String;"⟩ ⟨"java/lang/StringBuilder", "toString", "()Ljava/lang/String;"⟩).before #[] vs_A = true := List.all_eq_true.mp vwb_5 _ (List.mem_of_getElem? (i := 33) rfl)
theorem vw_234 : (Cond.instanceMethod ⟨"java/lang/StringBuilder", "append", "(C)Ljava/lang/StringBuilder;"⟩).before #[] vs_A = true := List.all_eq_true.mp vwb_5 _ (List.mem_of_getElem? (i := 34) rfl)
theorem vw_235 : (Cond.code ⟨"java/lang/StringBuilder", "append", "(C)Ljava/lang/StringBuilder;"⟩ prog_29_method_14_code 2 (some (.object "java/lang/StringBuilder"))).before #[] vs_A = true := List.all_eq_true.mp vwb_5 _ (List.mem_of_getElem? (i := 35) rfl)
theorem vw_236 : (Cond.methodLink "OrderbenchModel$Shape" 42 ⟨"java/lang/StringBuilder", "append", "(C)Ljava/lang/StringBuilder;"⟩).before #[] vs_A = true := List.all_eq_true.mp vwb_5 _ (List.mem_of_getElem? (i := 36) rfl)
theorem vw_237 : (Cond.sameMethod "java/lang/StringBuilder" "java/lang/StringBuilder" "append" "(C)Ljava/lang/StringBuilder;").before #[] vs_A = true := List.all_eq_true.mp vwb_5 _ (List.mem_of_getElem? (i := 37) rfl)
theorem vw_238 : (Cond.selects "java/lang/StringBuilder" ⟨"java/lang/StringBuilder", "append", "(C)Ljava/lang/StringBuilder;"⟩ ⟨"java/lang/StringBuilder", "append", "(C)Ljava/lang/StringBuilder;"⟩).before #[] vs_A = true := List.all_eq_true.mp vwb_5 _ (List.mem_of_getElem? (i := 38) rfl)
theorem vw_239 : (Cond.instanceMethod ⟨"java/lang/AbstractStringBuilder", "append", "(C)Ljava/lang/AbstractStringBuilder;"⟩).before #[] vs_A = true := List.all_eq_true.mp vwb_5 _ (List.mem_of_getElem? (i := 39) rfl)
def vwl_6 : List Cond := [Cond.code ⟨"java/lang/AbstractStringBuilder", "append", "(C)Ljava/lang/AbstractStringBuilder;"⟩ prog_13_method_31_code 2 (some (.object "java/lang/AbstractStringBuilder")),
  Cond.methodLink "java/lang/StringBuilder" 50 ⟨"java/lang/AbstractStringBuilder", "append", "(C)Ljava/lang/AbstractStringBuilder;"⟩,
  Cond.sameMethod "java/lang/AbstractStringBuilder" "java/lang/AbstractStringBuilder" "append" "(C)Ljava/lang/AbstractStringBuilder;",
  Cond.superclass "java/lang/StringBuilder" "java/lang/AbstractStringBuilder",
  Cond.fieldLink "java/lang/AbstractStringBuilder" 79 "java/lang/AbstractStringBuilder" "count" "I",
  Cond.instanceMethod ⟨"java/lang/AbstractStringBuilder", "ensureCapacityInternal", "(I)V"⟩,
  Cond.code ⟨"java/lang/AbstractStringBuilder", "ensureCapacityInternal", "(I)V"⟩ prog_13_method_9_code 3 none,
  Cond.methodLink "java/lang/AbstractStringBuilder" 100 ⟨"java/lang/AbstractStringBuilder", "ensureCapacityInternal", "(I)V"⟩,
  Cond.sameMethod "java/lang/AbstractStringBuilder" "java/lang/AbstractStringBuilder" "ensureCapacityInternal" "(I)V",
  Cond.selects "java/lang/StringBuilder" ⟨"java/lang/AbstractStringBuilder", "ensureCapacityInternal", "(I)V"⟩ ⟨"java/lang/AbstractStringBuilder", "ensureCapacityInternal", "(I)V"⟩,
  Cond.instanceMethod ⟨"java/lang/AbstractStringBuilder", "isLatin1", "()Z"⟩,
  Cond.code ⟨"java/lang/AbstractStringBuilder", "isLatin1", "()Z"⟩ prog_13_method_68_code 1 (some .boolean),
  Cond.methodLink "java/lang/AbstractStringBuilder" 83 ⟨"java/lang/AbstractStringBuilder", "isLatin1", "()Z"⟩,
  Cond.sameMethod "java/lang/AbstractStringBuilder" "java/lang/AbstractStringBuilder" "isLatin1" "()Z",
  Cond.selects "java/lang/StringBuilder" ⟨"java/lang/AbstractStringBuilder", "isLatin1", "()Z"⟩ ⟨"java/lang/AbstractStringBuilder", "isLatin1", "()Z"⟩,
  Cond.methodLink "java/lang/AbstractStringBuilder" 191 ⟨"java/lang/StringLatin1", "canEncode", "(C)Z"⟩,
  Cond.static ⟨"java/lang/StringLatin1", "canEncode", "(C)Z"⟩,
  Cond.initialized "java/lang/StringLatin1",
  Cond.code ⟨"java/lang/StringLatin1", "canEncode", "(C)Z"⟩ prog_31_method_3_code 1 (some .boolean),
  Cond.instanceMethod ⟨"java/lang/AbstractStringBuilder", "newCapacity", "(I)I"⟩,
  Cond.code ⟨"java/lang/AbstractStringBuilder", "newCapacity", "(I)I"⟩ prog_13_method_10_code 6 (some .int),
  Cond.methodLink "java/lang/AbstractStringBuilder" 104 ⟨"java/lang/AbstractStringBuilder", "newCapacity", "(I)I"⟩,
  Cond.sameMethod "java/lang/AbstractStringBuilder" "java/lang/AbstractStringBuilder" "newCapacity" "(I)I",
  Cond.selects "java/lang/StringBuilder" ⟨"java/lang/AbstractStringBuilder", "newCapacity", "(I)I"⟩ ⟨"java/lang/AbstractStringBuilder", "newCapacity", "(I)I"⟩,
  Cond.methodLink "java/lang/AbstractStringBuilder" 108 ⟨"java/util/Arrays", "copyOf", "([BI)[B"⟩,
  Cond.static ⟨"java/util/Arrays", "copyOf", "([BI)[B"⟩,
  Cond.initialized "java/util/Arrays",
  Cond.code ⟨"java/util/Arrays", "copyOf", "([BI)[B"⟩ prog_41_method_121_code 3 (some (.array .byte)),
  Cond.instanceMethod ⟨"java/lang/AbstractStringBuilder", "append", "(Ljava/lang/String;)Ljava/lang/AbstractStringBuilder;"⟩,
  Cond.code ⟨"java/lang/AbstractStringBuilder", "append", "(Ljava/lang/String;)Ljava/lang/AbstractStringBuilder;"⟩ prog_13_method_22_code 3 (some (.object "java/lang/AbstractStringBuilder")),
  Cond.methodLink "java/lang/StringBuilder" 29 ⟨"java/lang/AbstractStringBuilder", "append", "(Ljava/lang/String;)Ljava/lang/AbstractStringBuilder;"⟩,
  Cond.sameMethod "java/lang/AbstractStringBuilder" "java/lang/AbstractStringBuilder" "append" "(Ljava/lang/String;)Ljava/lang/AbstractStringBuilder;",
  Cond.methodLink "java/lang/AbstractStringBuilder" 32 ⟨"java/lang/String", "length", "()I"⟩,
  Cond.instanceMethod ⟨"java/lang/AbstractStringBuilder", "putStringAt", "(ILjava/lang/String;)V"⟩,
  Cond.code ⟨"java/lang/AbstractStringBuilder", "putStringAt", "(ILjava/lang/String;)V"⟩ prog_13_method_73_code 3 none,
  Cond.methodLink "java/lang/AbstractStringBuilder" 208 ⟨"java/lang/AbstractStringBuilder", "putStringAt", "(ILjava/lang/String;)V"⟩,
  Cond.sameMethod "java/lang/AbstractStringBuilder" "java/lang/AbstractStringBuilder" "putStringAt" "(ILjava/lang/String;)V",
  Cond.selects "java/lang/StringBuilder" ⟨"java/lang/AbstractStringBuilder", "putStringAt", "(ILjava/lang/String;)V"⟩ ⟨"java/lang/AbstractStringBuilder", "putStringAt", "(ILjava/lang/String;)V"⟩,
  Cond.fieldLink "java/lang/String" 9 "java/lang/String" "value" "[B",
  Cond.instanceMethod ⟨"java/lang/String", "coder", "()B"⟩]
set_option maxRecDepth 100000 in
theorem vwb_6 : vwl_6.all (fun w => w.before #[] vs_A) = true := by decide +kernel
theorem vw_240 : (Cond.code ⟨"java/lang/AbstractStringBuilder", "append", "(C)Ljava/lang/AbstractStringBuilder;"⟩ prog_13_method_31_code 2 (some (.object "java/lang/AbstractStringBuilder"))).before #[] vs_A = true := List.all_eq_true.mp vwb_6 _ (List.mem_of_getElem? (i := 0) rfl)
theorem vw_241 : (Cond.methodLink "java/lang/StringBuilder" 50 ⟨"java/lang/AbstractStringBuilder", "append", "(C)Ljava/lang/AbstractStringBuilder;"⟩).before #[] vs_A = true := List.all_eq_true.mp vwb_6 _ (List.mem_of_getElem? (i := 1) rfl)
theorem vw_242 : (Cond.sameMethod "java/lang/AbstractStringBuilder" "java/lang/AbstractStringBuilder" "append" "(C)Ljava/lang/AbstractStringBuilder;").before #[] vs_A = true := List.all_eq_true.mp vwb_6 _ (List.mem_of_getElem? (i := 2) rfl)
theorem vw_243 : (Cond.superclass "java/lang/StringBuilder" "java/lang/AbstractStringBuilder").before #[] vs_A = true := List.all_eq_true.mp vwb_6 _ (List.mem_of_getElem? (i := 3) rfl)
theorem vw_244 : (Cond.fieldLink "java/lang/AbstractStringBuilder" 79 "java/lang/AbstractStringBuilder" "count" "I").before #[] vs_A = true := List.all_eq_true.mp vwb_6 _ (List.mem_of_getElem? (i := 4) rfl)
theorem vw_245 : (Cond.instanceMethod ⟨"java/lang/AbstractStringBuilder", "ensureCapacityInternal", "(I)V"⟩).before #[] vs_A = true := List.all_eq_true.mp vwb_6 _ (List.mem_of_getElem? (i := 5) rfl)
theorem vw_246 : (Cond.code ⟨"java/lang/AbstractStringBuilder", "ensureCapacityInternal", "(I)V"⟩ prog_13_method_9_code 3 none).before #[] vs_A = true := List.all_eq_true.mp vwb_6 _ (List.mem_of_getElem? (i := 6) rfl)
theorem vw_247 : (Cond.methodLink "java/lang/AbstractStringBuilder" 100 ⟨"java/lang/AbstractStringBuilder", "ensureCapacityInternal", "(I)V"⟩).before #[] vs_A = true := List.all_eq_true.mp vwb_6 _ (List.mem_of_getElem? (i := 7) rfl)
theorem vw_248 : (Cond.sameMethod "java/lang/AbstractStringBuilder" "java/lang/AbstractStringBuilder" "ensureCapacityInternal" "(I)V").before #[] vs_A = true := List.all_eq_true.mp vwb_6 _ (List.mem_of_getElem? (i := 8) rfl)
theorem vw_249 : (Cond.selects "java/lang/StringBuilder" ⟨"java/lang/AbstractStringBuilder", "ensureCapacityInternal", "(I)V"⟩ ⟨"java/lang/AbstractStringBuilder", "ensureCapacityInternal", "(I)V"⟩).before #[] vs_A = true := List.all_eq_true.mp vwb_6 _ (List.mem_of_getElem? (i := 9) rfl)
theorem vw_250 : (Cond.instanceMethod ⟨"java/lang/AbstractStringBuilder", "isLatin1", "()Z"⟩).before #[] vs_A = true := List.all_eq_true.mp vwb_6 _ (List.mem_of_getElem? (i := 10) rfl)
theorem vw_251 : (Cond.code ⟨"java/lang/AbstractStringBuilder", "isLatin1", "()Z"⟩ prog_13_method_68_code 1 (some .boolean)).before #[] vs_A = true := List.all_eq_true.mp vwb_6 _ (List.mem_of_getElem? (i := 11) rfl)
theorem vw_252 : (Cond.methodLink "java/lang/AbstractStringBuilder" 83 ⟨"java/lang/AbstractStringBuilder", "isLatin1", "()Z"⟩).before #[] vs_A = true := List.all_eq_true.mp vwb_6 _ (List.mem_of_getElem? (i := 12) rfl)
theorem vw_253 : (Cond.sameMethod "java/lang/AbstractStringBuilder" "java/lang/AbstractStringBuilder" "isLatin1" "()Z").before #[] vs_A = true := List.all_eq_true.mp vwb_6 _ (List.mem_of_getElem? (i := 13) rfl)
theorem vw_254 : (Cond.selects "java/lang/StringBuilder" ⟨"java/lang/AbstractStringBuilder", "isLatin1", "()Z"⟩ ⟨"java/lang/AbstractStringBuilder", "isLatin1", "()Z"⟩).before #[] vs_A = true := List.all_eq_true.mp vwb_6 _ (List.mem_of_getElem? (i := 14) rfl)
theorem vw_255 : (Cond.methodLink "java/lang/AbstractStringBuilder" 191 ⟨"java/lang/StringLatin1", "canEncode", "(C)Z"⟩).before #[] vs_A = true := List.all_eq_true.mp vwb_6 _ (List.mem_of_getElem? (i := 15) rfl)
theorem vw_256 : (Cond.static ⟨"java/lang/StringLatin1", "canEncode", "(C)Z"⟩).before #[] vs_A = true := List.all_eq_true.mp vwb_6 _ (List.mem_of_getElem? (i := 16) rfl)
theorem vw_257 : (Cond.initialized "java/lang/StringLatin1").before #[] vs_A = true := List.all_eq_true.mp vwb_6 _ (List.mem_of_getElem? (i := 17) rfl)
theorem vw_258 : (Cond.code ⟨"java/lang/StringLatin1", "canEncode", "(C)Z"⟩ prog_31_method_3_code 1 (some .boolean)).before #[] vs_A = true := List.all_eq_true.mp vwb_6 _ (List.mem_of_getElem? (i := 18) rfl)
theorem vw_259 : (Cond.instanceMethod ⟨"java/lang/AbstractStringBuilder", "newCapacity", "(I)I"⟩).before #[] vs_A = true := List.all_eq_true.mp vwb_6 _ (List.mem_of_getElem? (i := 19) rfl)
theorem vw_260 : (Cond.code ⟨"java/lang/AbstractStringBuilder", "newCapacity", "(I)I"⟩ prog_13_method_10_code 6 (some .int)).before #[] vs_A = true := List.all_eq_true.mp vwb_6 _ (List.mem_of_getElem? (i := 20) rfl)
theorem vw_261 : (Cond.methodLink "java/lang/AbstractStringBuilder" 104 ⟨"java/lang/AbstractStringBuilder", "newCapacity", "(I)I"⟩).before #[] vs_A = true := List.all_eq_true.mp vwb_6 _ (List.mem_of_getElem? (i := 21) rfl)
theorem vw_262 : (Cond.sameMethod "java/lang/AbstractStringBuilder" "java/lang/AbstractStringBuilder" "newCapacity" "(I)I").before #[] vs_A = true := List.all_eq_true.mp vwb_6 _ (List.mem_of_getElem? (i := 22) rfl)
theorem vw_263 : (Cond.selects "java/lang/StringBuilder" ⟨"java/lang/AbstractStringBuilder", "newCapacity", "(I)I"⟩ ⟨"java/lang/AbstractStringBuilder", "newCapacity", "(I)I"⟩).before #[] vs_A = true := List.all_eq_true.mp vwb_6 _ (List.mem_of_getElem? (i := 23) rfl)
theorem vw_264 : (Cond.methodLink "java/lang/AbstractStringBuilder" 108 ⟨"java/util/Arrays", "copyOf", "([BI)[B"⟩).before #[] vs_A = true := List.all_eq_true.mp vwb_6 _ (List.mem_of_getElem? (i := 24) rfl)
theorem vw_265 : (Cond.static ⟨"java/util/Arrays", "copyOf", "([BI)[B"⟩).before #[] vs_A = true := List.all_eq_true.mp vwb_6 _ (List.mem_of_getElem? (i := 25) rfl)
theorem vw_266 : (Cond.initialized "java/util/Arrays").before #[] vs_A = true := List.all_eq_true.mp vwb_6 _ (List.mem_of_getElem? (i := 26) rfl)
theorem vw_267 : (Cond.code ⟨"java/util/Arrays", "copyOf", "([BI)[B"⟩ prog_41_method_121_code 3 (some (.array .byte))).before #[] vs_A = true := List.all_eq_true.mp vwb_6 _ (List.mem_of_getElem? (i := 27) rfl)
theorem vw_268 : (Cond.instanceMethod ⟨"java/lang/AbstractStringBuilder", "append", "(Ljava/lang/String;)Ljava/lang/AbstractStringBuilder;"⟩).before #[] vs_A = true := List.all_eq_true.mp vwb_6 _ (List.mem_of_getElem? (i := 28) rfl)
theorem vw_269 : (Cond.code ⟨"java/lang/AbstractStringBuilder", "append", "(Ljava/lang/String;)Ljava/lang/AbstractStringBuilder;"⟩ prog_13_method_22_code 3 (some (.object "java/lang/AbstractStringBuilder"))).before #[] vs_A = true := List.all_eq_true.mp vwb_6 _ (List.mem_of_getElem? (i := 29) rfl)
theorem vw_270 : (Cond.methodLink "java/lang/StringBuilder" 29 ⟨"java/lang/AbstractStringBuilder", "append", "(Ljava/lang/String;)Ljava/lang/AbstractStringBuilder;"⟩).before #[] vs_A = true := List.all_eq_true.mp vwb_6 _ (List.mem_of_getElem? (i := 30) rfl)
theorem vw_271 : (Cond.sameMethod "java/lang/AbstractStringBuilder" "java/lang/AbstractStringBuilder" "append" "(Ljava/lang/String;)Ljava/lang/AbstractStringBuilder;").before #[] vs_A = true := List.all_eq_true.mp vwb_6 _ (List.mem_of_getElem? (i := 31) rfl)
theorem vw_272 : (Cond.methodLink "java/lang/AbstractStringBuilder" 32 ⟨"java/lang/String", "length", "()I"⟩).before #[] vs_A = true := List.all_eq_true.mp vwb_6 _ (List.mem_of_getElem? (i := 32) rfl)
theorem vw_273 : (Cond.instanceMethod ⟨"java/lang/AbstractStringBuilder", "putStringAt", "(ILjava/lang/String;)V"⟩).before #[] vs_A = true := List.all_eq_true.mp vwb_6 _ (List.mem_of_getElem? (i := 33) rfl)
theorem vw_274 : (Cond.code ⟨"java/lang/AbstractStringBuilder", "putStringAt", "(ILjava/lang/String;)V"⟩ prog_13_method_73_code 3 none).before #[] vs_A = true := List.all_eq_true.mp vwb_6 _ (List.mem_of_getElem? (i := 34) rfl)
theorem vw_275 : (Cond.methodLink "java/lang/AbstractStringBuilder" 208 ⟨"java/lang/AbstractStringBuilder", "putStringAt", "(ILjava/lang/String;)V"⟩).before #[] vs_A = true := List.all_eq_true.mp vwb_6 _ (List.mem_of_getElem? (i := 35) rfl)
theorem vw_276 : (Cond.sameMethod "java/lang/AbstractStringBuilder" "java/lang/AbstractStringBuilder" "putStringAt" "(ILjava/lang/String;)V").before #[] vs_A = true := List.all_eq_true.mp vwb_6 _ (List.mem_of_getElem? (i := 36) rfl)
theorem vw_277 : (Cond.selects "java/lang/StringBuilder" ⟨"java/lang/AbstractStringBuilder", "putStringAt", "(ILjava/lang/String;)V"⟩ ⟨"java/lang/AbstractStringBuilder", "putStringAt", "(ILjava/lang/String;)V"⟩).before #[] vs_A = true := List.all_eq_true.mp vwb_6 _ (List.mem_of_getElem? (i := 37) rfl)
theorem vw_278 : (Cond.fieldLink "java/lang/String" 9 "java/lang/String" "value" "[B").before #[] vs_A = true := List.all_eq_true.mp vwb_6 _ (List.mem_of_getElem? (i := 38) rfl)
theorem vw_279 : (Cond.instanceMethod ⟨"java/lang/String", "coder", "()B"⟩).before #[] vs_A = true := List.all_eq_true.mp vwb_6 _ (List.mem_of_getElem? (i := 39) rfl)
def vwl_7 : List Cond := [Cond.code ⟨"java/lang/String", "coder", "()B"⟩ prog_28_method_152_code 1 (some .byte),
  Cond.methodLink "java/lang/String" 335 ⟨"java/lang/String", "coder", "()B"⟩,
  Cond.sameMethod "java/lang/String" "java/lang/String" "coder" "()B",
  Cond.selects "java/lang/String" ⟨"java/lang/String", "coder", "()B"⟩ ⟨"java/lang/String", "coder", "()B"⟩,
  Cond.fieldLink "java/lang/String" 38 "java/lang/String" "COMPACT_STRINGS" "Z",
  Cond.fieldLink "java/lang/String" 15 "java/lang/String" "coder" "B",
  Cond.instanceMethod ⟨"java/lang/AbstractStringBuilder", "inflateIfNeededFor", "(Ljava/lang/String;)V"⟩,
  Cond.code ⟨"java/lang/AbstractStringBuilder", "inflateIfNeededFor", "(Ljava/lang/String;)V"⟩ prog_13_method_71_code 2 none,
  Cond.methodLink "java/lang/AbstractStringBuilder" 397 ⟨"java/lang/AbstractStringBuilder", "inflateIfNeededFor", "(Ljava/lang/String;)V"⟩,
  Cond.sameMethod "java/lang/AbstractStringBuilder" "java/lang/AbstractStringBuilder" "inflateIfNeededFor" "(Ljava/lang/String;)V",
  Cond.selects "java/lang/StringBuilder" ⟨"java/lang/AbstractStringBuilder", "inflateIfNeededFor", "(Ljava/lang/String;)V"⟩ ⟨"java/lang/AbstractStringBuilder", "inflateIfNeededFor", "(Ljava/lang/String;)V"⟩,
  Cond.instanceMethod ⟨"java/lang/String", "getBytes", "([BIB)V"⟩,
  Cond.code ⟨"java/lang/String", "getBytes", "([BIB)V"⟩ prog_28_method_147_code 4 none,
  Cond.methodLink "java/lang/AbstractStringBuilder" 399 ⟨"java/lang/String", "getBytes", "([BIB)V"⟩,
  Cond.sameMethod "java/lang/String" "java/lang/String" "getBytes" "([BIB)V",
  Cond.selects "java/lang/String" ⟨"java/lang/String", "getBytes", "([BIB)V"⟩ ⟨"java/lang/String", "getBytes", "([BIB)V"⟩,
  Cond.methodLink "java/lang/AbstractStringBuilder" 40 ⟨"java/lang/String", "coder", "()B"⟩,
  Cond.methodLink "java/lang/String" 212 arraycopyName,
  Cond.native arraycopyName,
  Cond.static arraycopyName,
  Cond.initialized "java/lang/System",
  Cond.classLink "java/lang/StringBuilder" 18 "java/lang/String",
  Cond.instantiable "java/lang/String" 4,
  Cond.instanceMethod ⟨"java/lang/String", "<init>", "(Ljava/lang/StringBuilder;)V"⟩,
  Cond.code ⟨"java/lang/String", "<init>", "(Ljava/lang/StringBuilder;)V"⟩ prog_28_method_53_code 2 none,
  Cond.methodLink "java/lang/StringBuilder" 137 ⟨"java/lang/String", "<init>", "(Ljava/lang/StringBuilder;)V"⟩,
  Cond.instanceMethod ⟨"java/lang/String", "<init>", "(Ljava/lang/AbstractStringBuilder;Ljava/lang/Void;)V"⟩,
  Cond.code ⟨"java/lang/String", "<init>", "(Ljava/lang/AbstractStringBuilder;Ljava/lang/Void;)V"⟩ prog_28_method_150_code 5 none,
  Cond.methodLink "java/lang/String" 489 ⟨"java/lang/String", "<init>", "(Ljava/lang/AbstractStringBuilder;Ljava/lang/Void;)V"⟩,
  Cond.methodLink "java/lang/String" 1 Lib.objectInit,
  Cond.instanceMethod ⟨"java/lang/AbstractStringBuilder", "getValue", "()[B"⟩,
  Cond.code ⟨"java/lang/AbstractStringBuilder", "getValue", "()[B"⟩ prog_13_method_64_code 1 (some (.array .byte)),
  Cond.methodLink "java/lang/String" 552 ⟨"java/lang/AbstractStringBuilder", "getValue", "()[B"⟩,
  Cond.sameMethod "java/lang/AbstractStringBuilder" "java/lang/AbstractStringBuilder" "getValue" "()[B",
  Cond.selects "java/lang/StringBuilder" ⟨"java/lang/AbstractStringBuilder", "getValue", "()[B"⟩ ⟨"java/lang/AbstractStringBuilder", "getValue", "()[B"⟩,
  Cond.instanceMethod ⟨"java/lang/StringBuilder", "length", "()I"⟩,
  Cond.code ⟨"java/lang/StringBuilder", "length", "()I"⟩ prog_29_method_93_code 1 (some .int),
  Cond.methodLink "java/lang/String" 549 ⟨"java/lang/AbstractStringBuilder", "length", "()I"⟩,
  Cond.sameMethod "java/lang/AbstractStringBuilder" "java/lang/AbstractStringBuilder" "length" "()I",
  Cond.selects "java/lang/StringBuilder" ⟨"java/lang/AbstractStringBuilder", "length", "()I"⟩ ⟨"java/lang/StringBuilder", "length", "()I"⟩]
set_option maxRecDepth 100000 in
theorem vwb_7 : vwl_7.all (fun w => w.before #[] vs_A) = true := by decide +kernel
theorem vw_280 : (Cond.code ⟨"java/lang/String", "coder", "()B"⟩ prog_28_method_152_code 1 (some .byte)).before #[] vs_A = true := List.all_eq_true.mp vwb_7 _ (List.mem_of_getElem? (i := 0) rfl)
theorem vw_281 : (Cond.methodLink "java/lang/String" 335 ⟨"java/lang/String", "coder", "()B"⟩).before #[] vs_A = true := List.all_eq_true.mp vwb_7 _ (List.mem_of_getElem? (i := 1) rfl)
theorem vw_282 : (Cond.sameMethod "java/lang/String" "java/lang/String" "coder" "()B").before #[] vs_A = true := List.all_eq_true.mp vwb_7 _ (List.mem_of_getElem? (i := 2) rfl)
theorem vw_283 : (Cond.selects "java/lang/String" ⟨"java/lang/String", "coder", "()B"⟩ ⟨"java/lang/String", "coder", "()B"⟩).before #[] vs_A = true := List.all_eq_true.mp vwb_7 _ (List.mem_of_getElem? (i := 3) rfl)
theorem vw_284 : (Cond.fieldLink "java/lang/String" 38 "java/lang/String" "COMPACT_STRINGS" "Z").before #[] vs_A = true := List.all_eq_true.mp vwb_7 _ (List.mem_of_getElem? (i := 4) rfl)
theorem vw_285 : (Cond.fieldLink "java/lang/String" 15 "java/lang/String" "coder" "B").before #[] vs_A = true := List.all_eq_true.mp vwb_7 _ (List.mem_of_getElem? (i := 5) rfl)
theorem vw_286 : (Cond.instanceMethod ⟨"java/lang/AbstractStringBuilder", "inflateIfNeededFor", "(Ljava/lang/String;)V"⟩).before #[] vs_A = true := List.all_eq_true.mp vwb_7 _ (List.mem_of_getElem? (i := 6) rfl)
theorem vw_287 : (Cond.code ⟨"java/lang/AbstractStringBuilder", "inflateIfNeededFor", "(Ljava/lang/String;)V"⟩ prog_13_method_71_code 2 none).before #[] vs_A = true := List.all_eq_true.mp vwb_7 _ (List.mem_of_getElem? (i := 7) rfl)
theorem vw_288 : (Cond.methodLink "java/lang/AbstractStringBuilder" 397 ⟨"java/lang/AbstractStringBuilder", "inflateIfNeededFor", "(Ljava/lang/String;)V"⟩).before #[] vs_A = true := List.all_eq_true.mp vwb_7 _ (List.mem_of_getElem? (i := 8) rfl)
theorem vw_289 : (Cond.sameMethod "java/lang/AbstractStringBuilder" "java/lang/AbstractStringBuilder" "inflateIfNeededFor" "(Ljava/lang/String;)V").before #[] vs_A = true := List.all_eq_true.mp vwb_7 _ (List.mem_of_getElem? (i := 9) rfl)
theorem vw_290 : (Cond.selects "java/lang/StringBuilder" ⟨"java/lang/AbstractStringBuilder", "inflateIfNeededFor", "(Ljava/lang/String;)V"⟩ ⟨"java/lang/AbstractStringBuilder", "inflateIfNeededFor", "(Ljava/lang/String;)V"⟩).before #[] vs_A = true := List.all_eq_true.mp vwb_7 _ (List.mem_of_getElem? (i := 10) rfl)
theorem vw_291 : (Cond.instanceMethod ⟨"java/lang/String", "getBytes", "([BIB)V"⟩).before #[] vs_A = true := List.all_eq_true.mp vwb_7 _ (List.mem_of_getElem? (i := 11) rfl)
theorem vw_292 : (Cond.code ⟨"java/lang/String", "getBytes", "([BIB)V"⟩ prog_28_method_147_code 4 none).before #[] vs_A = true := List.all_eq_true.mp vwb_7 _ (List.mem_of_getElem? (i := 12) rfl)
theorem vw_293 : (Cond.methodLink "java/lang/AbstractStringBuilder" 399 ⟨"java/lang/String", "getBytes", "([BIB)V"⟩).before #[] vs_A = true := List.all_eq_true.mp vwb_7 _ (List.mem_of_getElem? (i := 13) rfl)
theorem vw_294 : (Cond.sameMethod "java/lang/String" "java/lang/String" "getBytes" "([BIB)V").before #[] vs_A = true := List.all_eq_true.mp vwb_7 _ (List.mem_of_getElem? (i := 14) rfl)
theorem vw_295 : (Cond.selects "java/lang/String" ⟨"java/lang/String", "getBytes", "([BIB)V"⟩ ⟨"java/lang/String", "getBytes", "([BIB)V"⟩).before #[] vs_A = true := List.all_eq_true.mp vwb_7 _ (List.mem_of_getElem? (i := 15) rfl)
theorem vw_296 : (Cond.methodLink "java/lang/AbstractStringBuilder" 40 ⟨"java/lang/String", "coder", "()B"⟩).before #[] vs_A = true := List.all_eq_true.mp vwb_7 _ (List.mem_of_getElem? (i := 16) rfl)
theorem vw_297 : (Cond.methodLink "java/lang/String" 212 arraycopyName).before #[] vs_A = true := List.all_eq_true.mp vwb_7 _ (List.mem_of_getElem? (i := 17) rfl)
theorem vw_298 : (Cond.native arraycopyName).before #[] vs_A = true := List.all_eq_true.mp vwb_7 _ (List.mem_of_getElem? (i := 18) rfl)
theorem vw_299 : (Cond.static arraycopyName).before #[] vs_A = true := List.all_eq_true.mp vwb_7 _ (List.mem_of_getElem? (i := 19) rfl)
theorem vw_300 : (Cond.initialized "java/lang/System").before #[] vs_A = true := List.all_eq_true.mp vwb_7 _ (List.mem_of_getElem? (i := 20) rfl)
theorem vw_301 : (Cond.classLink "java/lang/StringBuilder" 18 "java/lang/String").before #[] vs_A = true := List.all_eq_true.mp vwb_7 _ (List.mem_of_getElem? (i := 21) rfl)
theorem vw_302 : (Cond.instantiable "java/lang/String" 4).before #[] vs_A = true := List.all_eq_true.mp vwb_7 _ (List.mem_of_getElem? (i := 22) rfl)
theorem vw_303 : (Cond.instanceMethod ⟨"java/lang/String", "<init>", "(Ljava/lang/StringBuilder;)V"⟩).before #[] vs_A = true := List.all_eq_true.mp vwb_7 _ (List.mem_of_getElem? (i := 23) rfl)
theorem vw_304 : (Cond.code ⟨"java/lang/String", "<init>", "(Ljava/lang/StringBuilder;)V"⟩ prog_28_method_53_code 2 none).before #[] vs_A = true := List.all_eq_true.mp vwb_7 _ (List.mem_of_getElem? (i := 24) rfl)
theorem vw_305 : (Cond.methodLink "java/lang/StringBuilder" 137 ⟨"java/lang/String", "<init>", "(Ljava/lang/StringBuilder;)V"⟩).before #[] vs_A = true := List.all_eq_true.mp vwb_7 _ (List.mem_of_getElem? (i := 25) rfl)
theorem vw_306 : (Cond.instanceMethod ⟨"java/lang/String", "<init>", "(Ljava/lang/AbstractStringBuilder;Ljava/lang/Void;)V"⟩).before #[] vs_A = true := List.all_eq_true.mp vwb_7 _ (List.mem_of_getElem? (i := 26) rfl)
theorem vw_307 : (Cond.code ⟨"java/lang/String", "<init>", "(Ljava/lang/AbstractStringBuilder;Ljava/lang/Void;)V"⟩ prog_28_method_150_code 5 none).before #[] vs_A = true := List.all_eq_true.mp vwb_7 _ (List.mem_of_getElem? (i := 27) rfl)
theorem vw_308 : (Cond.methodLink "java/lang/String" 489 ⟨"java/lang/String", "<init>", "(Ljava/lang/AbstractStringBuilder;Ljava/lang/Void;)V"⟩).before #[] vs_A = true := List.all_eq_true.mp vwb_7 _ (List.mem_of_getElem? (i := 28) rfl)
theorem vw_309 : (Cond.methodLink "java/lang/String" 1 Lib.objectInit).before #[] vs_A = true := List.all_eq_true.mp vwb_7 _ (List.mem_of_getElem? (i := 29) rfl)
theorem vw_310 : (Cond.instanceMethod ⟨"java/lang/AbstractStringBuilder", "getValue", "()[B"⟩).before #[] vs_A = true := List.all_eq_true.mp vwb_7 _ (List.mem_of_getElem? (i := 30) rfl)
theorem vw_311 : (Cond.code ⟨"java/lang/AbstractStringBuilder", "getValue", "()[B"⟩ prog_13_method_64_code 1 (some (.array .byte))).before #[] vs_A = true := List.all_eq_true.mp vwb_7 _ (List.mem_of_getElem? (i := 31) rfl)
theorem vw_312 : (Cond.methodLink "java/lang/String" 552 ⟨"java/lang/AbstractStringBuilder", "getValue", "()[B"⟩).before #[] vs_A = true := List.all_eq_true.mp vwb_7 _ (List.mem_of_getElem? (i := 32) rfl)
theorem vw_313 : (Cond.sameMethod "java/lang/AbstractStringBuilder" "java/lang/AbstractStringBuilder" "getValue" "()[B").before #[] vs_A = true := List.all_eq_true.mp vwb_7 _ (List.mem_of_getElem? (i := 33) rfl)
theorem vw_314 : (Cond.selects "java/lang/StringBuilder" ⟨"java/lang/AbstractStringBuilder", "getValue", "()[B"⟩ ⟨"java/lang/AbstractStringBuilder", "getValue", "()[B"⟩).before #[] vs_A = true := List.all_eq_true.mp vwb_7 _ (List.mem_of_getElem? (i := 34) rfl)
theorem vw_315 : (Cond.instanceMethod ⟨"java/lang/StringBuilder", "length", "()I"⟩).before #[] vs_A = true := List.all_eq_true.mp vwb_7 _ (List.mem_of_getElem? (i := 35) rfl)
theorem vw_316 : (Cond.code ⟨"java/lang/StringBuilder", "length", "()I"⟩ prog_29_method_93_code 1 (some .int)).before #[] vs_A = true := List.all_eq_true.mp vwb_7 _ (List.mem_of_getElem? (i := 36) rfl)
theorem vw_317 : (Cond.methodLink "java/lang/String" 549 ⟨"java/lang/AbstractStringBuilder", "length", "()I"⟩).before #[] vs_A = true := List.all_eq_true.mp vwb_7 _ (List.mem_of_getElem? (i := 37) rfl)
theorem vw_318 : (Cond.sameMethod "java/lang/AbstractStringBuilder" "java/lang/AbstractStringBuilder" "length" "()I").before #[] vs_A = true := List.all_eq_true.mp vwb_7 _ (List.mem_of_getElem? (i := 38) rfl)
theorem vw_319 : (Cond.selects "java/lang/StringBuilder" ⟨"java/lang/AbstractStringBuilder", "length", "()I"⟩ ⟨"java/lang/StringBuilder", "length", "()I"⟩).before #[] vs_A = true := List.all_eq_true.mp vwb_7 _ (List.mem_of_getElem? (i := 39) rfl)
def vwl_8 : List Cond := [Cond.methodLink "java/lang/String" 1047 ⟨"java/lang/AbstractStringBuilder", "isLatin1", "()Z"⟩,
  Cond.methodLink "java/lang/String" 54 ⟨"java/util/Arrays", "copyOfRange", "([BII)[B"⟩,
  Cond.static ⟨"java/util/Arrays", "copyOfRange", "([BII)[B"⟩,
  Cond.code ⟨"java/util/Arrays", "copyOfRange", "([BII)[B"⟩ prog_41_method_132_code 3 (some (.array .byte)),
  Cond.instanceMethod ⟨"java/lang/AbstractStringBuilder", "length", "()I"⟩,
  Cond.code ⟨"java/lang/AbstractStringBuilder", "length", "()I"⟩ prog_13_method_6_code 1 (some .int),
  Cond.methodLink "java/lang/StringBuilder" 343 ⟨"java/lang/AbstractStringBuilder", "length", "()I"⟩,
  Cond.methodLink "java/util/Arrays" 339 ⟨"java/util/Arrays", "copyOfRangeByte", "([BII)[B"⟩,
  Cond.static ⟨"java/util/Arrays", "copyOfRangeByte", "([BII)[B"⟩,
  Cond.code ⟨"java/util/Arrays", "copyOfRangeByte", "([BII)[B"⟩ prog_41_method_133_code 5 (some (.array .byte)),
  Cond.methodLink "java/util/Arrays" 310 ⟨"[B", "clone", "()Ljava/lang/Object;"⟩,
  Cond.sameMethod "[B" "java/lang/Object" "clone" "()Ljava/lang/Object;",
  Cond.native ⟨"java/lang/Object", "clone", "()Ljava/lang/Object;"⟩,
  Cond.instanceMethod ⟨"java/lang/Object", "clone", "()Ljava/lang/Object;"⟩,
  Cond.selects "[B" ⟨"[B", "clone", "()Ljava/lang/Object;"⟩ ⟨"java/lang/Object", "clone", "()Ljava/lang/Object;"⟩,
  Cond.classLink "java/util/Arrays" 311 "[B",
  Cond.methodLink "java/util/Arrays" 343 ⟨"java/util/Arrays", "checkLength", "(II)V"⟩,
  Cond.static ⟨"java/util/Arrays", "checkLength", "(II)V"⟩,
  Cond.code ⟨"java/util/Arrays", "checkLength", "(II)V"⟩ prog_41_method_131_code 2 none,
  Cond.methodLink "java/util/Arrays" 304 ⟨"java/lang/Math", "min", "(II)I"⟩,
  Cond.static ⟨"java/lang/Math", "min", "(II)I"⟩,
  Cond.code ⟨"java/lang/Math", "min", "(II)I"⟩ prog_25_method_69_code 2 (some .int),
  Cond.methodLink "java/util/Arrays" 150 arraycopyName,
  Cond.methodLink "java/lang/AbstractStringBuilder" 114 ⟨"jdk/internal/util/ArraysSupport", "newLength", "(III)I"⟩,
  Cond.static ⟨"jdk/internal/util/ArraysSupport", "newLength", "(III)I"⟩,
  Cond.initialized "jdk/internal/util/ArraysSupport",
  Cond.code ⟨"jdk/internal/util/ArraysSupport", "newLength", "(III)I"⟩ prog_48_method_27_code 4 (some .int),
  Cond.constant "java/lang/AbstractStringBuilder" 39 (2147483647),
  Cond.methodLink "jdk/internal/util/ArraysSupport" 194 ⟨"java/lang/Math", "max", "(II)I"⟩,
  Cond.constant "jdk/internal/util/ArraysSupport" 200 (2147483639),
  Cond.constantLong "Orderbench" 226 (7773),
  Cond.constantLong "Orderbench" 228 (31),
  Cond.instanceMethod ⟨"Orderbench", "houseNumber", "(I)I"⟩,
  Cond.code ⟨"Orderbench", "houseNumber", "(I)I"⟩ prog_1_method_69_code 2 (some .int),
  Cond.methodLink "Orderbench" 217 ⟨"Orderbench", "houseNumber", "(I)I"⟩,
  Cond.sameMethod "Orderbench" "Orderbench" "houseNumber" "(I)I",
  Cond.selects "Orderbench" ⟨"Orderbench", "houseNumber", "(I)I"⟩ ⟨"Orderbench", "houseNumber", "(I)I"⟩,
  Cond.instanceMethod ⟨"Orderbench", "digestBench", "(JLOrderbench$Row;)J"⟩,
  Cond.code ⟨"Orderbench", "digestBench", "(JLOrderbench$Row;)J"⟩ prog_1_method_72_code 8 (some .long),
  Cond.methodLink "Orderbench" 230 ⟨"Orderbench", "digestBench", "(JLOrderbench$Row;)J"⟩]
set_option maxRecDepth 100000 in
theorem vwb_8 : vwl_8.all (fun w => w.before #[] vs_A) = true := by decide +kernel
theorem vw_320 : (Cond.methodLink "java/lang/String" 1047 ⟨"java/lang/AbstractStringBuilder", "isLatin1", "()Z"⟩).before #[] vs_A = true := List.all_eq_true.mp vwb_8 _ (List.mem_of_getElem? (i := 0) rfl)
theorem vw_321 : (Cond.methodLink "java/lang/String" 54 ⟨"java/util/Arrays", "copyOfRange", "([BII)[B"⟩).before #[] vs_A = true := List.all_eq_true.mp vwb_8 _ (List.mem_of_getElem? (i := 1) rfl)
theorem vw_322 : (Cond.static ⟨"java/util/Arrays", "copyOfRange", "([BII)[B"⟩).before #[] vs_A = true := List.all_eq_true.mp vwb_8 _ (List.mem_of_getElem? (i := 2) rfl)
theorem vw_323 : (Cond.code ⟨"java/util/Arrays", "copyOfRange", "([BII)[B"⟩ prog_41_method_132_code 3 (some (.array .byte))).before #[] vs_A = true := List.all_eq_true.mp vwb_8 _ (List.mem_of_getElem? (i := 3) rfl)
theorem vw_324 : (Cond.instanceMethod ⟨"java/lang/AbstractStringBuilder", "length", "()I"⟩).before #[] vs_A = true := List.all_eq_true.mp vwb_8 _ (List.mem_of_getElem? (i := 4) rfl)
theorem vw_325 : (Cond.code ⟨"java/lang/AbstractStringBuilder", "length", "()I"⟩ prog_13_method_6_code 1 (some .int)).before #[] vs_A = true := List.all_eq_true.mp vwb_8 _ (List.mem_of_getElem? (i := 5) rfl)
theorem vw_326 : (Cond.methodLink "java/lang/StringBuilder" 343 ⟨"java/lang/AbstractStringBuilder", "length", "()I"⟩).before #[] vs_A = true := List.all_eq_true.mp vwb_8 _ (List.mem_of_getElem? (i := 6) rfl)
theorem vw_327 : (Cond.methodLink "java/util/Arrays" 339 ⟨"java/util/Arrays", "copyOfRangeByte", "([BII)[B"⟩).before #[] vs_A = true := List.all_eq_true.mp vwb_8 _ (List.mem_of_getElem? (i := 7) rfl)
theorem vw_328 : (Cond.static ⟨"java/util/Arrays", "copyOfRangeByte", "([BII)[B"⟩).before #[] vs_A = true := List.all_eq_true.mp vwb_8 _ (List.mem_of_getElem? (i := 8) rfl)
theorem vw_329 : (Cond.code ⟨"java/util/Arrays", "copyOfRangeByte", "([BII)[B"⟩ prog_41_method_133_code 5 (some (.array .byte))).before #[] vs_A = true := List.all_eq_true.mp vwb_8 _ (List.mem_of_getElem? (i := 9) rfl)
theorem vw_330 : (Cond.methodLink "java/util/Arrays" 310 ⟨"[B", "clone", "()Ljava/lang/Object;"⟩).before #[] vs_A = true := List.all_eq_true.mp vwb_8 _ (List.mem_of_getElem? (i := 10) rfl)
theorem vw_331 : (Cond.sameMethod "[B" "java/lang/Object" "clone" "()Ljava/lang/Object;").before #[] vs_A = true := List.all_eq_true.mp vwb_8 _ (List.mem_of_getElem? (i := 11) rfl)
theorem vw_332 : (Cond.native ⟨"java/lang/Object", "clone", "()Ljava/lang/Object;"⟩).before #[] vs_A = true := List.all_eq_true.mp vwb_8 _ (List.mem_of_getElem? (i := 12) rfl)
theorem vw_333 : (Cond.instanceMethod ⟨"java/lang/Object", "clone", "()Ljava/lang/Object;"⟩).before #[] vs_A = true := List.all_eq_true.mp vwb_8 _ (List.mem_of_getElem? (i := 13) rfl)
theorem vw_334 : (Cond.selects "[B" ⟨"[B", "clone", "()Ljava/lang/Object;"⟩ ⟨"java/lang/Object", "clone", "()Ljava/lang/Object;"⟩).before #[] vs_A = true := List.all_eq_true.mp vwb_8 _ (List.mem_of_getElem? (i := 14) rfl)
theorem vw_335 : (Cond.classLink "java/util/Arrays" 311 "[B").before #[] vs_A = true := List.all_eq_true.mp vwb_8 _ (List.mem_of_getElem? (i := 15) rfl)
theorem vw_336 : (Cond.methodLink "java/util/Arrays" 343 ⟨"java/util/Arrays", "checkLength", "(II)V"⟩).before #[] vs_A = true := List.all_eq_true.mp vwb_8 _ (List.mem_of_getElem? (i := 16) rfl)
theorem vw_337 : (Cond.static ⟨"java/util/Arrays", "checkLength", "(II)V"⟩).before #[] vs_A = true := List.all_eq_true.mp vwb_8 _ (List.mem_of_getElem? (i := 17) rfl)
theorem vw_338 : (Cond.code ⟨"java/util/Arrays", "checkLength", "(II)V"⟩ prog_41_method_131_code 2 none).before #[] vs_A = true := List.all_eq_true.mp vwb_8 _ (List.mem_of_getElem? (i := 18) rfl)
theorem vw_339 : (Cond.methodLink "java/util/Arrays" 304 ⟨"java/lang/Math", "min", "(II)I"⟩).before #[] vs_A = true := List.all_eq_true.mp vwb_8 _ (List.mem_of_getElem? (i := 19) rfl)
theorem vw_340 : (Cond.static ⟨"java/lang/Math", "min", "(II)I"⟩).before #[] vs_A = true := List.all_eq_true.mp vwb_8 _ (List.mem_of_getElem? (i := 20) rfl)
theorem vw_341 : (Cond.code ⟨"java/lang/Math", "min", "(II)I"⟩ prog_25_method_69_code 2 (some .int)).before #[] vs_A = true := List.all_eq_true.mp vwb_8 _ (List.mem_of_getElem? (i := 21) rfl)
theorem vw_342 : (Cond.methodLink "java/util/Arrays" 150 arraycopyName).before #[] vs_A = true := List.all_eq_true.mp vwb_8 _ (List.mem_of_getElem? (i := 22) rfl)
theorem vw_343 : (Cond.methodLink "java/lang/AbstractStringBuilder" 114 ⟨"jdk/internal/util/ArraysSupport", "newLength", "(III)I"⟩).before #[] vs_A = true := List.all_eq_true.mp vwb_8 _ (List.mem_of_getElem? (i := 23) rfl)
theorem vw_344 : (Cond.static ⟨"jdk/internal/util/ArraysSupport", "newLength", "(III)I"⟩).before #[] vs_A = true := List.all_eq_true.mp vwb_8 _ (List.mem_of_getElem? (i := 24) rfl)
theorem vw_345 : (Cond.initialized "jdk/internal/util/ArraysSupport").before #[] vs_A = true := List.all_eq_true.mp vwb_8 _ (List.mem_of_getElem? (i := 25) rfl)
theorem vw_346 : (Cond.code ⟨"jdk/internal/util/ArraysSupport", "newLength", "(III)I"⟩ prog_48_method_27_code 4 (some .int)).before #[] vs_A = true := List.all_eq_true.mp vwb_8 _ (List.mem_of_getElem? (i := 26) rfl)
theorem vw_347 : (Cond.constant "java/lang/AbstractStringBuilder" 39 (2147483647)).before #[] vs_A = true := List.all_eq_true.mp vwb_8 _ (List.mem_of_getElem? (i := 27) rfl)
theorem vw_348 : (Cond.methodLink "jdk/internal/util/ArraysSupport" 194 ⟨"java/lang/Math", "max", "(II)I"⟩).before #[] vs_A = true := List.all_eq_true.mp vwb_8 _ (List.mem_of_getElem? (i := 28) rfl)
theorem vw_349 : (Cond.constant "jdk/internal/util/ArraysSupport" 200 (2147483639)).before #[] vs_A = true := List.all_eq_true.mp vwb_8 _ (List.mem_of_getElem? (i := 29) rfl)
theorem vw_350 : (Cond.constantLong "Orderbench" 226 (7773)).before #[] vs_A = true := List.all_eq_true.mp vwb_8 _ (List.mem_of_getElem? (i := 30) rfl)
theorem vw_351 : (Cond.constantLong "Orderbench" 228 (31)).before #[] vs_A = true := List.all_eq_true.mp vwb_8 _ (List.mem_of_getElem? (i := 31) rfl)
theorem vw_352 : (Cond.instanceMethod ⟨"Orderbench", "houseNumber", "(I)I"⟩).before #[] vs_A = true := List.all_eq_true.mp vwb_8 _ (List.mem_of_getElem? (i := 32) rfl)
theorem vw_353 : (Cond.code ⟨"Orderbench", "houseNumber", "(I)I"⟩ prog_1_method_69_code 2 (some .int)).before #[] vs_A = true := List.all_eq_true.mp vwb_8 _ (List.mem_of_getElem? (i := 33) rfl)
theorem vw_354 : (Cond.methodLink "Orderbench" 217 ⟨"Orderbench", "houseNumber", "(I)I"⟩).before #[] vs_A = true := List.all_eq_true.mp vwb_8 _ (List.mem_of_getElem? (i := 34) rfl)
theorem vw_355 : (Cond.sameMethod "Orderbench" "Orderbench" "houseNumber" "(I)I").before #[] vs_A = true := List.all_eq_true.mp vwb_8 _ (List.mem_of_getElem? (i := 35) rfl)
theorem vw_356 : (Cond.selects "Orderbench" ⟨"Orderbench", "houseNumber", "(I)I"⟩ ⟨"Orderbench", "houseNumber", "(I)I"⟩).before #[] vs_A = true := List.all_eq_true.mp vwb_8 _ (List.mem_of_getElem? (i := 36) rfl)
theorem vw_357 : (Cond.instanceMethod ⟨"Orderbench", "digestBench", "(JLOrderbench$Row;)J"⟩).before #[] vs_A = true := List.all_eq_true.mp vwb_8 _ (List.mem_of_getElem? (i := 37) rfl)
theorem vw_358 : (Cond.code ⟨"Orderbench", "digestBench", "(JLOrderbench$Row;)J"⟩ prog_1_method_72_code 8 (some .long)).before #[] vs_A = true := List.all_eq_true.mp vwb_8 _ (List.mem_of_getElem? (i := 38) rfl)
theorem vw_359 : (Cond.methodLink "Orderbench" 230 ⟨"Orderbench", "digestBench", "(JLOrderbench$Row;)J"⟩).before #[] vs_A = true := List.all_eq_true.mp vwb_8 _ (List.mem_of_getElem? (i := 39) rfl)
def vwl_9 : List Cond := [Cond.sameMethod "Orderbench" "Orderbench" "digestBench" "(JLOrderbench$Row;)J",
  Cond.selects "Orderbench" ⟨"Orderbench", "digestBench", "(JLOrderbench$Row;)J"⟩ ⟨"Orderbench", "digestBench", "(JLOrderbench$Row;)J"⟩,
  Cond.instanceMethod ⟨"Orderbench", "digestOrder", "(JLOrderbench$Shape;)J"⟩,
  Cond.code ⟨"Orderbench", "digestOrder", "(JLOrderbench$Shape;)J"⟩ prog_1_method_73_code 4 (some .long),
  Cond.methodLink "Orderbench" 234 ⟨"Orderbench", "digestOrder", "(JLOrderbench$Shape;)J"⟩,
  Cond.sameMethod "Orderbench" "Orderbench" "digestOrder" "(JLOrderbench$Shape;)J",
  Cond.selects "Orderbench" ⟨"Orderbench", "digestOrder", "(JLOrderbench$Shape;)J"⟩ ⟨"Orderbench", "digestOrder", "(JLOrderbench$Shape;)J"⟩,
  Cond.instanceMethod ⟨"Orderbench", "isSound", "()Z"⟩,
  Cond.code ⟨"Orderbench", "isSound", "()Z"⟩ prog_1_method_37_code 3 (some .boolean),
  Cond.methodLink "Orderbench" 238 ⟨"Orderbench", "isSound", "()Z"⟩,
  Cond.sameMethod "Orderbench" "Orderbench" "isSound" "()Z",
  Cond.selects "Orderbench" ⟨"Orderbench", "isSound", "()Z"⟩ ⟨"Orderbench", "isSound", "()Z"⟩,
  Cond.fieldLinkNest "Orderbench" 64 "Orderbench$Row" "many" "I" "Orderbench",
  Cond.fieldLink "Orderbench" 263 "Orderbench" "laid" "I",
  Cond.instanceMethod ⟨"Orderbench", "howManySafe", "()I"⟩,
  Cond.code ⟨"Orderbench", "howManySafe", "()I"⟩ prog_1_method_70_code 3 (some .int),
  Cond.methodLink "Orderbench" 304 ⟨"Orderbench", "howManySafe", "()I"⟩,
  Cond.sameMethod "Orderbench" "Orderbench" "howManySafe" "()I",
  Cond.selects "Orderbench" ⟨"Orderbench", "howManySafe", "()I"⟩ ⟨"Orderbench", "howManySafe", "()I"⟩,
  Cond.fieldLink "Orderbench" 276 "Orderbench" "refusals" "I",
  Cond.fieldLink "Orderbench" 220 "Orderbench" "knocks" "I",
  Cond.instanceMethod ⟨"Orderbench$Row", "empties", "()I"⟩,
  Cond.code ⟨"Orderbench$Row", "empties", "()I"⟩ prog_4_method_9_code 1 (some .int),
  Cond.methodLink "Orderbench" 209 ⟨"Orderbench$Row", "empties", "()I"⟩,
  Cond.sameMethod "Orderbench$Row" "Orderbench$Row" "empties" "()I",
  Cond.selects "Orderbench$Row" ⟨"Orderbench$Row", "empties", "()I"⟩ ⟨"Orderbench$Row", "empties", "()I"⟩,
  Cond.fieldLink "Orderbench" 147 "Orderbench$Shape" "safe" "Z",
  Cond.instanceMethod ⟨"Orderbench$Row", "howOften", "(I)I"⟩,
  Cond.code ⟨"Orderbench$Row", "howOften", "(I)I"⟩ prog_4_method_10_code 4 (some .int),
  Cond.methodLink "Orderbench$Row" 35 ⟨"Orderbench$Row", "howOften", "(I)I"⟩,
  Cond.sameMethod "Orderbench$Row" "Orderbench$Row" "howOften" "(I)I",
  Cond.selects "Orderbench$Row" ⟨"Orderbench$Row", "howOften", "(I)I"⟩ ⟨"Orderbench$Row", "howOften", "(I)I"⟩,
  Cond.fieldLink "Orderbench$Row" 15 "Orderbench$Row" "many" "I",
  Cond.instanceMethod ⟨"java/lang/StringBuilder", "setLength", "(I)V"⟩,
  Cond.code ⟨"java/lang/StringBuilder", "setLength", "(I)V"⟩ prog_29_method_89_code 2 none,
  Cond.methodLink "Orderbench" 159 ⟨"java/lang/StringBuilder", "setLength", "(I)V"⟩,
  Cond.sameMethod "java/lang/StringBuilder" "java/lang/StringBuilder" "setLength" "(I)V",
  Cond.selects "java/lang/StringBuilder" ⟨"java/lang/StringBuilder", "setLength", "(I)V"⟩ ⟨"java/lang/StringBuilder", "setLength", "(I)V"⟩,
  Cond.instanceMethod ⟨"Orderbench", "writeRow", "(LOrderbench$Row;)V"⟩,
  Cond.code ⟨"Orderbench", "writeRow", "(LOrderbench$Row;)V"⟩ prog_1_method_50_code 3 none]
set_option maxRecDepth 100000 in
theorem vwb_9 : vwl_9.all (fun w => w.before #[] vs_A) = true := by decide +kernel
theorem vw_360 : (Cond.sameMethod "Orderbench" "Orderbench" "digestBench" "(JLOrderbench$Row;)J").before #[] vs_A = true := List.all_eq_true.mp vwb_9 _ (List.mem_of_getElem? (i := 0) rfl)
theorem vw_361 : (Cond.selects "Orderbench" ⟨"Orderbench", "digestBench", "(JLOrderbench$Row;)J"⟩ ⟨"Orderbench", "digestBench", "(JLOrderbench$Row;)J"⟩).before #[] vs_A = true := List.all_eq_true.mp vwb_9 _ (List.mem_of_getElem? (i := 1) rfl)
theorem vw_362 : (Cond.instanceMethod ⟨"Orderbench", "digestOrder", "(JLOrderbench$Shape;)J"⟩).before #[] vs_A = true := List.all_eq_true.mp vwb_9 _ (List.mem_of_getElem? (i := 2) rfl)
theorem vw_363 : (Cond.code ⟨"Orderbench", "digestOrder", "(JLOrderbench$Shape;)J"⟩ prog_1_method_73_code 4 (some .long)).before #[] vs_A = true := List.all_eq_true.mp vwb_9 _ (List.mem_of_getElem? (i := 3) rfl)
theorem vw_364 : (Cond.methodLink "Orderbench" 234 ⟨"Orderbench", "digestOrder", "(JLOrderbench$Shape;)J"⟩).before #[] vs_A = true := List.all_eq_true.mp vwb_9 _ (List.mem_of_getElem? (i := 4) rfl)
theorem vw_365 : (Cond.sameMethod "Orderbench" "Orderbench" "digestOrder" "(JLOrderbench$Shape;)J").before #[] vs_A = true := List.all_eq_true.mp vwb_9 _ (List.mem_of_getElem? (i := 5) rfl)
theorem vw_366 : (Cond.selects "Orderbench" ⟨"Orderbench", "digestOrder", "(JLOrderbench$Shape;)J"⟩ ⟨"Orderbench", "digestOrder", "(JLOrderbench$Shape;)J"⟩).before #[] vs_A = true := List.all_eq_true.mp vwb_9 _ (List.mem_of_getElem? (i := 6) rfl)
theorem vw_367 : (Cond.instanceMethod ⟨"Orderbench", "isSound", "()Z"⟩).before #[] vs_A = true := List.all_eq_true.mp vwb_9 _ (List.mem_of_getElem? (i := 7) rfl)
theorem vw_368 : (Cond.code ⟨"Orderbench", "isSound", "()Z"⟩ prog_1_method_37_code 3 (some .boolean)).before #[] vs_A = true := List.all_eq_true.mp vwb_9 _ (List.mem_of_getElem? (i := 8) rfl)
theorem vw_369 : (Cond.methodLink "Orderbench" 238 ⟨"Orderbench", "isSound", "()Z"⟩).before #[] vs_A = true := List.all_eq_true.mp vwb_9 _ (List.mem_of_getElem? (i := 9) rfl)
theorem vw_370 : (Cond.sameMethod "Orderbench" "Orderbench" "isSound" "()Z").before #[] vs_A = true := List.all_eq_true.mp vwb_9 _ (List.mem_of_getElem? (i := 10) rfl)
theorem vw_371 : (Cond.selects "Orderbench" ⟨"Orderbench", "isSound", "()Z"⟩ ⟨"Orderbench", "isSound", "()Z"⟩).before #[] vs_A = true := List.all_eq_true.mp vwb_9 _ (List.mem_of_getElem? (i := 11) rfl)
theorem vw_372 : (Cond.fieldLinkNest "Orderbench" 64 "Orderbench$Row" "many" "I" "Orderbench").before #[] vs_A = true := List.all_eq_true.mp vwb_9 _ (List.mem_of_getElem? (i := 12) rfl)
theorem vw_373 : (Cond.fieldLink "Orderbench" 263 "Orderbench" "laid" "I").before #[] vs_A = true := List.all_eq_true.mp vwb_9 _ (List.mem_of_getElem? (i := 13) rfl)
theorem vw_374 : (Cond.instanceMethod ⟨"Orderbench", "howManySafe", "()I"⟩).before #[] vs_A = true := List.all_eq_true.mp vwb_9 _ (List.mem_of_getElem? (i := 14) rfl)
theorem vw_375 : (Cond.code ⟨"Orderbench", "howManySafe", "()I"⟩ prog_1_method_70_code 3 (some .int)).before #[] vs_A = true := List.all_eq_true.mp vwb_9 _ (List.mem_of_getElem? (i := 15) rfl)
theorem vw_376 : (Cond.methodLink "Orderbench" 304 ⟨"Orderbench", "howManySafe", "()I"⟩).before #[] vs_A = true := List.all_eq_true.mp vwb_9 _ (List.mem_of_getElem? (i := 16) rfl)
theorem vw_377 : (Cond.sameMethod "Orderbench" "Orderbench" "howManySafe" "()I").before #[] vs_A = true := List.all_eq_true.mp vwb_9 _ (List.mem_of_getElem? (i := 17) rfl)
theorem vw_378 : (Cond.selects "Orderbench" ⟨"Orderbench", "howManySafe", "()I"⟩ ⟨"Orderbench", "howManySafe", "()I"⟩).before #[] vs_A = true := List.all_eq_true.mp vwb_9 _ (List.mem_of_getElem? (i := 18) rfl)
theorem vw_379 : (Cond.fieldLink "Orderbench" 276 "Orderbench" "refusals" "I").before #[] vs_A = true := List.all_eq_true.mp vwb_9 _ (List.mem_of_getElem? (i := 19) rfl)
theorem vw_380 : (Cond.fieldLink "Orderbench" 220 "Orderbench" "knocks" "I").before #[] vs_A = true := List.all_eq_true.mp vwb_9 _ (List.mem_of_getElem? (i := 20) rfl)
theorem vw_381 : (Cond.instanceMethod ⟨"Orderbench$Row", "empties", "()I"⟩).before #[] vs_A = true := List.all_eq_true.mp vwb_9 _ (List.mem_of_getElem? (i := 21) rfl)
theorem vw_382 : (Cond.code ⟨"Orderbench$Row", "empties", "()I"⟩ prog_4_method_9_code 1 (some .int)).before #[] vs_A = true := List.all_eq_true.mp vwb_9 _ (List.mem_of_getElem? (i := 22) rfl)
theorem vw_383 : (Cond.methodLink "Orderbench" 209 ⟨"Orderbench$Row", "empties", "()I"⟩).before #[] vs_A = true := List.all_eq_true.mp vwb_9 _ (List.mem_of_getElem? (i := 23) rfl)
theorem vw_384 : (Cond.sameMethod "Orderbench$Row" "Orderbench$Row" "empties" "()I").before #[] vs_A = true := List.all_eq_true.mp vwb_9 _ (List.mem_of_getElem? (i := 24) rfl)
theorem vw_385 : (Cond.selects "Orderbench$Row" ⟨"Orderbench$Row", "empties", "()I"⟩ ⟨"Orderbench$Row", "empties", "()I"⟩).before #[] vs_A = true := List.all_eq_true.mp vwb_9 _ (List.mem_of_getElem? (i := 25) rfl)
theorem vw_386 : (Cond.fieldLink "Orderbench" 147 "Orderbench$Shape" "safe" "Z").before #[] vs_A = true := List.all_eq_true.mp vwb_9 _ (List.mem_of_getElem? (i := 26) rfl)
theorem vw_387 : (Cond.instanceMethod ⟨"Orderbench$Row", "howOften", "(I)I"⟩).before #[] vs_A = true := List.all_eq_true.mp vwb_9 _ (List.mem_of_getElem? (i := 27) rfl)
theorem vw_388 : (Cond.code ⟨"Orderbench$Row", "howOften", "(I)I"⟩ prog_4_method_10_code 4 (some .int)).before #[] vs_A = true := List.all_eq_true.mp vwb_9 _ (List.mem_of_getElem? (i := 28) rfl)
theorem vw_389 : (Cond.methodLink "Orderbench$Row" 35 ⟨"Orderbench$Row", "howOften", "(I)I"⟩).before #[] vs_A = true := List.all_eq_true.mp vwb_9 _ (List.mem_of_getElem? (i := 29) rfl)
theorem vw_390 : (Cond.sameMethod "Orderbench$Row" "Orderbench$Row" "howOften" "(I)I").before #[] vs_A = true := List.all_eq_true.mp vwb_9 _ (List.mem_of_getElem? (i := 30) rfl)
theorem vw_391 : (Cond.selects "Orderbench$Row" ⟨"Orderbench$Row", "howOften", "(I)I"⟩ ⟨"Orderbench$Row", "howOften", "(I)I"⟩).before #[] vs_A = true := List.all_eq_true.mp vwb_9 _ (List.mem_of_getElem? (i := 31) rfl)
theorem vw_392 : (Cond.fieldLink "Orderbench$Row" 15 "Orderbench$Row" "many" "I").before #[] vs_A = true := List.all_eq_true.mp vwb_9 _ (List.mem_of_getElem? (i := 32) rfl)
theorem vw_393 : (Cond.instanceMethod ⟨"java/lang/StringBuilder", "setLength", "(I)V"⟩).before #[] vs_A = true := List.all_eq_true.mp vwb_9 _ (List.mem_of_getElem? (i := 33) rfl)
theorem vw_394 : (Cond.code ⟨"java/lang/StringBuilder", "setLength", "(I)V"⟩ prog_29_method_89_code 2 none).before #[] vs_A = true := List.all_eq_true.mp vwb_9 _ (List.mem_of_getElem? (i := 34) rfl)
theorem vw_395 : (Cond.methodLink "Orderbench" 159 ⟨"java/lang/StringBuilder", "setLength", "(I)V"⟩).before #[] vs_A = true := List.all_eq_true.mp vwb_9 _ (List.mem_of_getElem? (i := 35) rfl)
theorem vw_396 : (Cond.sameMethod "java/lang/StringBuilder" "java/lang/StringBuilder" "setLength" "(I)V").before #[] vs_A = true := List.all_eq_true.mp vwb_9 _ (List.mem_of_getElem? (i := 36) rfl)
theorem vw_397 : (Cond.selects "java/lang/StringBuilder" ⟨"java/lang/StringBuilder", "setLength", "(I)V"⟩ ⟨"java/lang/StringBuilder", "setLength", "(I)V"⟩).before #[] vs_A = true := List.all_eq_true.mp vwb_9 _ (List.mem_of_getElem? (i := 37) rfl)
theorem vw_398 : (Cond.instanceMethod ⟨"Orderbench", "writeRow", "(LOrderbench$Row;)V"⟩).before #[] vs_A = true := List.all_eq_true.mp vwb_9 _ (List.mem_of_getElem? (i := 38) rfl)
theorem vw_399 : (Cond.code ⟨"Orderbench", "writeRow", "(LOrderbench$Row;)V"⟩ prog_1_method_50_code 3 none).before #[] vs_A = true := List.all_eq_true.mp vwb_9 _ (List.mem_of_getElem? (i := 39) rfl)
def vwl_10 : List Cond := [Cond.methodLink "Orderbench" 185 ⟨"Orderbench", "writeRow", "(LOrderbench$Row;)V"⟩,
  Cond.sameMethod "Orderbench" "Orderbench" "writeRow" "(LOrderbench$Row;)V",
  Cond.selects "Orderbench" ⟨"Orderbench", "writeRow", "(LOrderbench$Row;)V"⟩ ⟨"Orderbench", "writeRow", "(LOrderbench$Row;)V"⟩,
  Cond.instanceMethod ⟨"Orderbench", "digestSigns", "(J)J"⟩,
  Cond.code ⟨"Orderbench", "digestSigns", "(J)J"⟩ prog_1_method_71_code 6 (some .long),
  Cond.methodLink "Orderbench" 312 ⟨"Orderbench", "digestSigns", "(J)J"⟩,
  Cond.sameMethod "Orderbench" "Orderbench" "digestSigns" "(J)J",
  Cond.selects "Orderbench" ⟨"Orderbench", "digestSigns", "(J)J"⟩ ⟨"Orderbench", "digestSigns", "(J)J"⟩,
  Cond.methodLink "Orderbench" 188 ⟨"Orderbench", "liesSorted", "(LOrderbench$Row;LOrderbench$Shape;)Z"⟩,
  Cond.static ⟨"Orderbench", "liesSorted", "(LOrderbench$Row;LOrderbench$Shape;)Z"⟩,
  Cond.code ⟨"Orderbench", "liesSorted", "(LOrderbench$Row;LOrderbench$Shape;)Z"⟩ prog_1_method_59_code 2 (some .boolean),
  Cond.methodLink "Orderbench" 191 ⟨"Orderbench", "classesOf", "(LOrderbench$Row;LOrderbench$Shape;)I"⟩,
  Cond.static ⟨"Orderbench", "classesOf", "(LOrderbench$Row;LOrderbench$Shape;)I"⟩,
  Cond.code ⟨"Orderbench", "classesOf", "(LOrderbench$Row;LOrderbench$Shape;)I"⟩ prog_1_method_63_code 4 (some .int),
  Cond.methodLink "Orderbench" 195 ⟨"Orderbench", "alikeToFarthest", "(LOrderbench$Row;LOrderbench$Shape;I)I"⟩,
  Cond.static ⟨"Orderbench", "alikeToFarthest", "(LOrderbench$Row;LOrderbench$Shape;I)I"⟩,
  Cond.code ⟨"Orderbench", "alikeToFarthest", "(LOrderbench$Row;LOrderbench$Shape;I)I"⟩ prog_1_method_65_code 5 (some .int),
  Cond.instanceMethod ⟨"java/lang/AbstractStringBuilder", "setLength", "(I)V"⟩,
  Cond.code ⟨"java/lang/AbstractStringBuilder", "setLength", "(I)V"⟩ prog_13_method_13_code 2 none,
  Cond.methodLink "java/lang/StringBuilder" 333 ⟨"java/lang/AbstractStringBuilder", "setLength", "(I)V"⟩,
  Cond.sameMethod "java/lang/AbstractStringBuilder" "java/lang/AbstractStringBuilder" "setLength" "(I)V",
  Cond.fieldLink "java/lang/AbstractStringBuilder" 73 "java/lang/AbstractStringBuilder" "maybeLatin1" "Z",
  Cond.methodLink "Orderbench" 307 ⟨"java/lang/StringBuilder", "length", "()I"⟩,
  Cond.sameMethod "java/lang/StringBuilder" "java/lang/StringBuilder" "length" "()I",
  Cond.selects "java/lang/StringBuilder" ⟨"java/lang/StringBuilder", "length", "()I"⟩ ⟨"java/lang/StringBuilder", "length", "()I"⟩,
  Cond.instanceMethod ⟨"java/lang/StringBuilder", "charAt", "(I)C"⟩,
  Cond.code ⟨"java/lang/StringBuilder", "charAt", "(I)C"⟩ prog_29_method_88_code 2 (some .char),
  Cond.methodLink "Orderbench" 308 ⟨"java/lang/StringBuilder", "charAt", "(I)C"⟩,
  Cond.sameMethod "java/lang/StringBuilder" "java/lang/StringBuilder" "charAt" "(I)C",
  Cond.selects "java/lang/StringBuilder" ⟨"java/lang/StringBuilder", "charAt", "(I)C"⟩ ⟨"java/lang/StringBuilder", "charAt", "(I)C"⟩,
  Cond.methodLink "Orderbench" 104 ⟨"Orderbench", "takes", "(LOrderbench$Row;LOrderbench$Shape;)Z"⟩,
  Cond.static ⟨"Orderbench", "takes", "(LOrderbench$Row;LOrderbench$Shape;)Z"⟩,
  Cond.code ⟨"Orderbench", "takes", "(LOrderbench$Row;LOrderbench$Shape;)Z"⟩ prog_1_method_55_code 2 (some .boolean),
  Cond.methodLink "Orderbench" 290 ⟨"Orderbench", "isAscending", "(LOrderbench$Row;LOrderbench$Shape;)Z"⟩,
  Cond.static ⟨"Orderbench", "isAscending", "(LOrderbench$Row;LOrderbench$Shape;)Z"⟩,
  Cond.code ⟨"Orderbench", "isAscending", "(LOrderbench$Row;LOrderbench$Shape;)Z"⟩ prog_1_method_60_code 3 (some .boolean),
  Cond.methodLink "Orderbench" 212 ⟨"Orderbench", "takesEach", "(LOrderbench$Row;LOrderbench$Shape;)Z"⟩,
  Cond.static ⟨"Orderbench", "takesEach", "(LOrderbench$Row;LOrderbench$Shape;)Z"⟩,
  Cond.code ⟨"Orderbench", "takesEach", "(LOrderbench$Row;LOrderbench$Shape;)Z"⟩ prog_1_method_54_code 2 (some .boolean),
  Cond.instanceMethod ⟨"Orderbench$Turned", "write", "(Ljava/lang/StringBuilder;I)V"⟩]
set_option maxRecDepth 100000 in
theorem vwb_10 : vwl_10.all (fun w => w.before #[] vs_A) = true := by decide +kernel
theorem vw_400 : (Cond.methodLink "Orderbench" 185 ⟨"Orderbench", "writeRow", "(LOrderbench$Row;)V"⟩).before #[] vs_A = true := List.all_eq_true.mp vwb_10 _ (List.mem_of_getElem? (i := 0) rfl)
theorem vw_401 : (Cond.sameMethod "Orderbench" "Orderbench" "writeRow" "(LOrderbench$Row;)V").before #[] vs_A = true := List.all_eq_true.mp vwb_10 _ (List.mem_of_getElem? (i := 1) rfl)
theorem vw_402 : (Cond.selects "Orderbench" ⟨"Orderbench", "writeRow", "(LOrderbench$Row;)V"⟩ ⟨"Orderbench", "writeRow", "(LOrderbench$Row;)V"⟩).before #[] vs_A = true := List.all_eq_true.mp vwb_10 _ (List.mem_of_getElem? (i := 2) rfl)
theorem vw_403 : (Cond.instanceMethod ⟨"Orderbench", "digestSigns", "(J)J"⟩).before #[] vs_A = true := List.all_eq_true.mp vwb_10 _ (List.mem_of_getElem? (i := 3) rfl)
theorem vw_404 : (Cond.code ⟨"Orderbench", "digestSigns", "(J)J"⟩ prog_1_method_71_code 6 (some .long)).before #[] vs_A = true := List.all_eq_true.mp vwb_10 _ (List.mem_of_getElem? (i := 4) rfl)
theorem vw_405 : (Cond.methodLink "Orderbench" 312 ⟨"Orderbench", "digestSigns", "(J)J"⟩).before #[] vs_A = true := List.all_eq_true.mp vwb_10 _ (List.mem_of_getElem? (i := 5) rfl)
theorem vw_406 : (Cond.sameMethod "Orderbench" "Orderbench" "digestSigns" "(J)J").before #[] vs_A = true := List.all_eq_true.mp vwb_10 _ (List.mem_of_getElem? (i := 6) rfl)
theorem vw_407 : (Cond.selects "Orderbench" ⟨"Orderbench", "digestSigns", "(J)J"⟩ ⟨"Orderbench", "digestSigns", "(J)J"⟩).before #[] vs_A = true := List.all_eq_true.mp vwb_10 _ (List.mem_of_getElem? (i := 7) rfl)
theorem vw_408 : (Cond.methodLink "Orderbench" 188 ⟨"Orderbench", "liesSorted", "(LOrderbench$Row;LOrderbench$Shape;)Z"⟩).before #[] vs_A = true := List.all_eq_true.mp vwb_10 _ (List.mem_of_getElem? (i := 8) rfl)
theorem vw_409 : (Cond.static ⟨"Orderbench", "liesSorted", "(LOrderbench$Row;LOrderbench$Shape;)Z"⟩).before #[] vs_A = true := List.all_eq_true.mp vwb_10 _ (List.mem_of_getElem? (i := 9) rfl)
theorem vw_410 : (Cond.code ⟨"Orderbench", "liesSorted", "(LOrderbench$Row;LOrderbench$Shape;)Z"⟩ prog_1_method_59_code 2 (some .boolean)).before #[] vs_A = true := List.all_eq_true.mp vwb_10 _ (List.mem_of_getElem? (i := 10) rfl)
theorem vw_411 : (Cond.methodLink "Orderbench" 191 ⟨"Orderbench", "classesOf", "(LOrderbench$Row;LOrderbench$Shape;)I"⟩).before #[] vs_A = true := List.all_eq_true.mp vwb_10 _ (List.mem_of_getElem? (i := 11) rfl)
theorem vw_412 : (Cond.static ⟨"Orderbench", "classesOf", "(LOrderbench$Row;LOrderbench$Shape;)I"⟩).before #[] vs_A = true := List.all_eq_true.mp vwb_10 _ (List.mem_of_getElem? (i := 12) rfl)
theorem vw_413 : (Cond.code ⟨"Orderbench", "classesOf", "(LOrderbench$Row;LOrderbench$Shape;)I"⟩ prog_1_method_63_code 4 (some .int)).before #[] vs_A = true := List.all_eq_true.mp vwb_10 _ (List.mem_of_getElem? (i := 13) rfl)
theorem vw_414 : (Cond.methodLink "Orderbench" 195 ⟨"Orderbench", "alikeToFarthest", "(LOrderbench$Row;LOrderbench$Shape;I)I"⟩).before #[] vs_A = true := List.all_eq_true.mp vwb_10 _ (List.mem_of_getElem? (i := 14) rfl)
theorem vw_415 : (Cond.static ⟨"Orderbench", "alikeToFarthest", "(LOrderbench$Row;LOrderbench$Shape;I)I"⟩).before #[] vs_A = true := List.all_eq_true.mp vwb_10 _ (List.mem_of_getElem? (i := 15) rfl)
theorem vw_416 : (Cond.code ⟨"Orderbench", "alikeToFarthest", "(LOrderbench$Row;LOrderbench$Shape;I)I"⟩ prog_1_method_65_code 5 (some .int)).before #[] vs_A = true := List.all_eq_true.mp vwb_10 _ (List.mem_of_getElem? (i := 16) rfl)
theorem vw_417 : (Cond.instanceMethod ⟨"java/lang/AbstractStringBuilder", "setLength", "(I)V"⟩).before #[] vs_A = true := List.all_eq_true.mp vwb_10 _ (List.mem_of_getElem? (i := 17) rfl)
theorem vw_418 : (Cond.code ⟨"java/lang/AbstractStringBuilder", "setLength", "(I)V"⟩ prog_13_method_13_code 2 none).before #[] vs_A = true := List.all_eq_true.mp vwb_10 _ (List.mem_of_getElem? (i := 18) rfl)
theorem vw_419 : (Cond.methodLink "java/lang/StringBuilder" 333 ⟨"java/lang/AbstractStringBuilder", "setLength", "(I)V"⟩).before #[] vs_A = true := List.all_eq_true.mp vwb_10 _ (List.mem_of_getElem? (i := 19) rfl)
theorem vw_420 : (Cond.sameMethod "java/lang/AbstractStringBuilder" "java/lang/AbstractStringBuilder" "setLength" "(I)V").before #[] vs_A = true := List.all_eq_true.mp vwb_10 _ (List.mem_of_getElem? (i := 20) rfl)
theorem vw_421 : (Cond.fieldLink "java/lang/AbstractStringBuilder" 73 "java/lang/AbstractStringBuilder" "maybeLatin1" "Z").before #[] vs_A = true := List.all_eq_true.mp vwb_10 _ (List.mem_of_getElem? (i := 21) rfl)
theorem vw_422 : (Cond.methodLink "Orderbench" 307 ⟨"java/lang/StringBuilder", "length", "()I"⟩).before #[] vs_A = true := List.all_eq_true.mp vwb_10 _ (List.mem_of_getElem? (i := 22) rfl)
theorem vw_423 : (Cond.sameMethod "java/lang/StringBuilder" "java/lang/StringBuilder" "length" "()I").before #[] vs_A = true := List.all_eq_true.mp vwb_10 _ (List.mem_of_getElem? (i := 23) rfl)
theorem vw_424 : (Cond.selects "java/lang/StringBuilder" ⟨"java/lang/StringBuilder", "length", "()I"⟩ ⟨"java/lang/StringBuilder", "length", "()I"⟩).before #[] vs_A = true := List.all_eq_true.mp vwb_10 _ (List.mem_of_getElem? (i := 24) rfl)
theorem vw_425 : (Cond.instanceMethod ⟨"java/lang/StringBuilder", "charAt", "(I)C"⟩).before #[] vs_A = true := List.all_eq_true.mp vwb_10 _ (List.mem_of_getElem? (i := 25) rfl)
theorem vw_426 : (Cond.code ⟨"java/lang/StringBuilder", "charAt", "(I)C"⟩ prog_29_method_88_code 2 (some .char)).before #[] vs_A = true := List.all_eq_true.mp vwb_10 _ (List.mem_of_getElem? (i := 26) rfl)
theorem vw_427 : (Cond.methodLink "Orderbench" 308 ⟨"java/lang/StringBuilder", "charAt", "(I)C"⟩).before #[] vs_A = true := List.all_eq_true.mp vwb_10 _ (List.mem_of_getElem? (i := 27) rfl)
theorem vw_428 : (Cond.sameMethod "java/lang/StringBuilder" "java/lang/StringBuilder" "charAt" "(I)C").before #[] vs_A = true := List.all_eq_true.mp vwb_10 _ (List.mem_of_getElem? (i := 28) rfl)
theorem vw_429 : (Cond.selects "java/lang/StringBuilder" ⟨"java/lang/StringBuilder", "charAt", "(I)C"⟩ ⟨"java/lang/StringBuilder", "charAt", "(I)C"⟩).before #[] vs_A = true := List.all_eq_true.mp vwb_10 _ (List.mem_of_getElem? (i := 29) rfl)
theorem vw_430 : (Cond.methodLink "Orderbench" 104 ⟨"Orderbench", "takes", "(LOrderbench$Row;LOrderbench$Shape;)Z"⟩).before #[] vs_A = true := List.all_eq_true.mp vwb_10 _ (List.mem_of_getElem? (i := 30) rfl)
theorem vw_431 : (Cond.static ⟨"Orderbench", "takes", "(LOrderbench$Row;LOrderbench$Shape;)Z"⟩).before #[] vs_A = true := List.all_eq_true.mp vwb_10 _ (List.mem_of_getElem? (i := 31) rfl)
theorem vw_432 : (Cond.code ⟨"Orderbench", "takes", "(LOrderbench$Row;LOrderbench$Shape;)Z"⟩ prog_1_method_55_code 2 (some .boolean)).before #[] vs_A = true := List.all_eq_true.mp vwb_10 _ (List.mem_of_getElem? (i := 32) rfl)
theorem vw_433 : (Cond.methodLink "Orderbench" 290 ⟨"Orderbench", "isAscending", "(LOrderbench$Row;LOrderbench$Shape;)Z"⟩).before #[] vs_A = true := List.all_eq_true.mp vwb_10 _ (List.mem_of_getElem? (i := 33) rfl)
theorem vw_434 : (Cond.static ⟨"Orderbench", "isAscending", "(LOrderbench$Row;LOrderbench$Shape;)Z"⟩).before #[] vs_A = true := List.all_eq_true.mp vwb_10 _ (List.mem_of_getElem? (i := 34) rfl)
theorem vw_435 : (Cond.code ⟨"Orderbench", "isAscending", "(LOrderbench$Row;LOrderbench$Shape;)Z"⟩ prog_1_method_60_code 3 (some .boolean)).before #[] vs_A = true := List.all_eq_true.mp vwb_10 _ (List.mem_of_getElem? (i := 35) rfl)
theorem vw_436 : (Cond.methodLink "Orderbench" 212 ⟨"Orderbench", "takesEach", "(LOrderbench$Row;LOrderbench$Shape;)Z"⟩).before #[] vs_A = true := List.all_eq_true.mp vwb_10 _ (List.mem_of_getElem? (i := 36) rfl)
theorem vw_437 : (Cond.static ⟨"Orderbench", "takesEach", "(LOrderbench$Row;LOrderbench$Shape;)Z"⟩).before #[] vs_A = true := List.all_eq_true.mp vwb_10 _ (List.mem_of_getElem? (i := 37) rfl)
theorem vw_438 : (Cond.code ⟨"Orderbench", "takesEach", "(LOrderbench$Row;LOrderbench$Shape;)Z"⟩ prog_1_method_54_code 2 (some .boolean)).before #[] vs_A = true := List.all_eq_true.mp vwb_10 _ (List.mem_of_getElem? (i := 38) rfl)
theorem vw_439 : (Cond.instanceMethod ⟨"Orderbench$Turned", "write", "(Ljava/lang/StringBuilder;I)V"⟩).before #[] vs_A = true := List.all_eq_true.mp vwb_10 _ (List.mem_of_getElem? (i := 39) rfl)
def vwl_11 : List Cond := [Cond.code ⟨"Orderbench$Turned", "write", "(Ljava/lang/StringBuilder;I)V"⟩ prog_7_method_3_code 3 none,
  Cond.methodLink "Orderbench" 162 ⟨"Orderbench$Shape", "write", "(Ljava/lang/StringBuilder;I)V"⟩,
  Cond.sameMethod "Orderbench$Shape" "Orderbench$Shape" "write" "(Ljava/lang/StringBuilder;I)V",
  Cond.selects "Orderbench$Turned" ⟨"Orderbench$Shape", "write", "(Ljava/lang/StringBuilder;I)V"⟩ ⟨"Orderbench$Turned", "write", "(Ljava/lang/StringBuilder;I)V"⟩,
  Cond.methodLink "Orderbench$Turned" 27 ⟨"Orderbench$Shape", "write", "(Ljava/lang/StringBuilder;I)V"⟩,
  Cond.instanceMethod ⟨"Orderbench$Base", "write", "(Ljava/lang/StringBuilder;I)V"⟩,
  Cond.code ⟨"Orderbench$Base", "write", "(Ljava/lang/StringBuilder;I)V"⟩ prog_2_method_3_code 3 none,
  Cond.selects "Orderbench$Base" ⟨"Orderbench$Shape", "write", "(Ljava/lang/StringBuilder;I)V"⟩ ⟨"Orderbench$Base", "write", "(Ljava/lang/StringBuilder;I)V"⟩,
  Cond.methodLink "Orderbench$Turned" 31 ⟨"java/lang/StringBuilder", "append", "(C)Ljava/lang/StringBuilder;"⟩,
  Cond.methodLink "Orderbench$Base" 25 ⟨"java/lang/String", "length", "()I"⟩,
  Cond.instanceMethod ⟨"java/lang/String", "charAt", "(I)C"⟩,
  Cond.code ⟨"java/lang/String", "charAt", "(I)C"⟩ prog_28_method_56_code 2 (some .char),
  Cond.methodLink "Orderbench$Base" 31 ⟨"java/lang/String", "charAt", "(I)C"⟩,
  Cond.sameMethod "java/lang/String" "java/lang/String" "charAt" "(I)C",
  Cond.selects "java/lang/String" ⟨"java/lang/String", "charAt", "(I)C"⟩ ⟨"java/lang/String", "charAt", "(I)C"⟩,
  Cond.methodLink "Orderbench$Base" 35 ⟨"java/lang/StringBuilder", "append", "(C)Ljava/lang/StringBuilder;"⟩,
  Cond.instanceMethod ⟨"java/lang/String", "isLatin1", "()Z"⟩,
  Cond.code ⟨"java/lang/String", "isLatin1", "()Z"⟩ prog_28_method_154_code 1 (some .boolean),
  Cond.methodLink "java/lang/String" 492 ⟨"java/lang/String", "isLatin1", "()Z"⟩,
  Cond.sameMethod "java/lang/String" "java/lang/String" "isLatin1" "()Z",
  Cond.selects "java/lang/String" ⟨"java/lang/String", "isLatin1", "()Z"⟩ ⟨"java/lang/String", "isLatin1", "()Z"⟩,
  Cond.methodLink "java/lang/String" 495 ⟨"java/lang/StringLatin1", "charAt", "([BI)C"⟩,
  Cond.static ⟨"java/lang/StringLatin1", "charAt", "([BI)C"⟩,
  Cond.code ⟨"java/lang/StringLatin1", "charAt", "([BI)C"⟩ prog_31_method_2_code 2 (some .char),
  Cond.methodLink "java/lang/StringLatin1" 9 ⟨"java/lang/String", "checkIndex", "(II)V"⟩,
  Cond.static ⟨"java/lang/String", "checkIndex", "(II)V"⟩,
  Cond.code ⟨"java/lang/String", "checkIndex", "(II)V"⟩ prog_28_method_155_code 2 none,
  Cond.fieldLink "java/lang/String" 1053 "jdk/internal/util/Preconditions" "SIOOBE_FORMATTER" "Ljava/util/function/BiFunction;",
  Cond.methodLink "java/lang/String" 1059 ⟨"jdk/internal/util/Preconditions", "checkIndex", "(IILjava/util/function/BiFunction;)I"⟩,
  Cond.static ⟨"jdk/internal/util/Preconditions", "checkIndex", "(IILjava/util/function/BiFunction;)I"⟩,
  Cond.initialized "jdk/internal/util/Preconditions",
  Cond.code ⟨"jdk/internal/util/Preconditions", "checkIndex", "(IILjava/util/function/BiFunction;)I"⟩ prog_49_method_11_code 3 (some .int),
  Cond.instanceMethod ⟨"java/lang/AbstractStringBuilder", "charAt", "(I)C"⟩,
  Cond.code ⟨"java/lang/AbstractStringBuilder", "charAt", "(I)C"⟩ prog_13_method_14_code 5 (some .char),
  Cond.methodLink "java/lang/StringBuilder" 329 ⟨"java/lang/AbstractStringBuilder", "charAt", "(I)C"⟩,
  Cond.sameMethod "java/lang/AbstractStringBuilder" "java/lang/AbstractStringBuilder" "charAt" "(I)C",
  Cond.methodLink "java/lang/AbstractStringBuilder" 138 ⟨"java/lang/Math", "min", "(II)I"⟩,
  Cond.methodLink "java/lang/AbstractStringBuilder" 144 ⟨"java/lang/String", "checkIndex", "(II)V"⟩,
  Cond.instanceMethod ⟨"Orderbench", "isSoundOn", "(LOrderbench$Row;LOrderbench$Shape;)Z"⟩,
  Cond.code ⟨"Orderbench", "isSoundOn", "(LOrderbench$Row;LOrderbench$Shape;)Z"⟩ prog_1_method_68_code 4 (some .boolean)]
set_option maxRecDepth 100000 in
theorem vwb_11 : vwl_11.all (fun w => w.before #[] vs_A) = true := by decide +kernel
theorem vw_440 : (Cond.code ⟨"Orderbench$Turned", "write", "(Ljava/lang/StringBuilder;I)V"⟩ prog_7_method_3_code 3 none).before #[] vs_A = true := List.all_eq_true.mp vwb_11 _ (List.mem_of_getElem? (i := 0) rfl)
theorem vw_441 : (Cond.methodLink "Orderbench" 162 ⟨"Orderbench$Shape", "write", "(Ljava/lang/StringBuilder;I)V"⟩).before #[] vs_A = true := List.all_eq_true.mp vwb_11 _ (List.mem_of_getElem? (i := 1) rfl)
theorem vw_442 : (Cond.sameMethod "Orderbench$Shape" "Orderbench$Shape" "write" "(Ljava/lang/StringBuilder;I)V").before #[] vs_A = true := List.all_eq_true.mp vwb_11 _ (List.mem_of_getElem? (i := 2) rfl)
theorem vw_443 : (Cond.selects "Orderbench$Turned" ⟨"Orderbench$Shape", "write", "(Ljava/lang/StringBuilder;I)V"⟩ ⟨"Orderbench$Turned", "write", "(Ljava/lang/StringBuilder;I)V"⟩).before #[] vs_A = true := List.all_eq_true.mp vwb_11 _ (List.mem_of_getElem? (i := 3) rfl)
theorem vw_444 : (Cond.methodLink "Orderbench$Turned" 27 ⟨"Orderbench$Shape", "write", "(Ljava/lang/StringBuilder;I)V"⟩).before #[] vs_A = true := List.all_eq_true.mp vwb_11 _ (List.mem_of_getElem? (i := 4) rfl)
theorem vw_445 : (Cond.instanceMethod ⟨"Orderbench$Base", "write", "(Ljava/lang/StringBuilder;I)V"⟩).before #[] vs_A = true := List.all_eq_true.mp vwb_11 _ (List.mem_of_getElem? (i := 5) rfl)
theorem vw_446 : (Cond.code ⟨"Orderbench$Base", "write", "(Ljava/lang/StringBuilder;I)V"⟩ prog_2_method_3_code 3 none).before #[] vs_A = true := List.all_eq_true.mp vwb_11 _ (List.mem_of_getElem? (i := 6) rfl)
theorem vw_447 : (Cond.selects "Orderbench$Base" ⟨"Orderbench$Shape", "write", "(Ljava/lang/StringBuilder;I)V"⟩ ⟨"Orderbench$Base", "write", "(Ljava/lang/StringBuilder;I)V"⟩).before #[] vs_A = true := List.all_eq_true.mp vwb_11 _ (List.mem_of_getElem? (i := 7) rfl)
theorem vw_448 : (Cond.methodLink "Orderbench$Turned" 31 ⟨"java/lang/StringBuilder", "append", "(C)Ljava/lang/StringBuilder;"⟩).before #[] vs_A = true := List.all_eq_true.mp vwb_11 _ (List.mem_of_getElem? (i := 8) rfl)
theorem vw_449 : (Cond.methodLink "Orderbench$Base" 25 ⟨"java/lang/String", "length", "()I"⟩).before #[] vs_A = true := List.all_eq_true.mp vwb_11 _ (List.mem_of_getElem? (i := 9) rfl)
theorem vw_450 : (Cond.instanceMethod ⟨"java/lang/String", "charAt", "(I)C"⟩).before #[] vs_A = true := List.all_eq_true.mp vwb_11 _ (List.mem_of_getElem? (i := 10) rfl)
