set_option maxRecDepth 16384 in
theorem vw_0 : (Cond.classLink "OrderbenchLaw" 8 "Orderbench").before #[] vs_A = true := by decide +kernel
set_option maxRecDepth 16384 in
theorem vw_1 : (Cond.instantiable "Orderbench" 9).before #[] vs_A = true := by decide +kernel
set_option maxRecDepth 16384 in
theorem vw_2 : (Cond.initialized "Orderbench").before #[] vs_A = true := by decide +kernel
set_option maxRecDepth 16384 in
theorem vw_3 : (Cond.instanceMethod ⟨"Orderbench", "<init>", "()V"⟩).before #[] vs_A = true := by decide +kernel
set_option maxRecDepth 16384 in
theorem vw_4 : (Cond.code ⟨"Orderbench", "<init>", "()V"⟩ prog_1_method_1_code 3 none).before #[] vs_A = true := by decide +kernel
set_option maxRecDepth 16384 in
theorem vw_5 : (Cond.methodLink "OrderbenchLaw" 138 ⟨"Orderbench", "<init>", "()V"⟩).before #[] vs_A = true := by decide +kernel
set_option maxRecDepth 16384 in
theorem vw_6 : (Cond.classLink "OrderbenchLaw" 139 "OrderbenchModel").before #[] vs_A = true := by decide +kernel
set_option maxRecDepth 16384 in
theorem vw_7 : (Cond.instantiable "OrderbenchModel" 6).before #[] vs_A = true := by decide +kernel
set_option maxRecDepth 16384 in
theorem vw_8 : (Cond.initialized "OrderbenchModel").before #[] vs_A = true := by decide +kernel
set_option maxRecDepth 16384 in
theorem vw_9 : (Cond.instanceMethod ⟨"OrderbenchModel", "<init>", "()V"⟩).before #[] vs_A = true := by decide +kernel
set_option maxRecDepth 16384 in
theorem vw_10 : (Cond.code ⟨"OrderbenchModel", "<init>", "()V"⟩ prog_10_method_1_code 2 none).before #[] vs_A = true := by decide +kernel
set_option maxRecDepth 16384 in
theorem vw_11 : (Cond.methodLink "OrderbenchLaw" 141 ⟨"OrderbenchModel", "<init>", "()V"⟩).before #[] vs_A = true := by decide +kernel
set_option maxRecDepth 16384 in
theorem vw_12 : (Cond.classLink "OrderbenchLaw" 14 "OrderbenchLaw$Out").before #[] vs_A = true := by decide +kernel
set_option maxRecDepth 16384 in
theorem vw_13 : (Cond.instantiable "OrderbenchLaw$Out" 2).before #[] vs_A = true := by decide +kernel
set_option maxRecDepth 16384 in
theorem vw_14 : (Cond.initialized "OrderbenchLaw$Out").before #[] vs_A = true := by decide +kernel
set_option maxRecDepth 16384 in
theorem vw_15 : (Cond.instanceMethod ⟨"OrderbenchLaw$Out", "<init>", "()V"⟩).before #[] vs_A = true := by decide +kernel
set_option maxRecDepth 16384 in
theorem vw_16 : (Cond.code ⟨"OrderbenchLaw$Out", "<init>", "()V"⟩ prog_9_method_1_code 1 none).before #[] vs_A = true := by decide +kernel
set_option maxRecDepth 16384 in
theorem vw_17 : (Cond.methodLinkNest "OrderbenchLaw" 142 ⟨"OrderbenchLaw$Out", "<init>", "()V"⟩ "OrderbenchLaw").before #[] vs_A = true := by decide +kernel
set_option maxRecDepth 16384 in
theorem vw_18 : (Cond.methodLink "OrderbenchLaw" 183 ⟨"OrderbenchLaw", "turn", "(LOrderbench;IILOrderbenchLaw$Out;)I"⟩).before #[] vs_A = true := by decide +kernel
set_option maxRecDepth 16384 in
theorem vw_19 : (Cond.static ⟨"OrderbenchLaw", "turn", "(LOrderbench;IILOrderbenchLaw$Out;)I"⟩).before #[] vs_A = true := by decide +kernel
set_option maxRecDepth 16384 in
theorem vw_20 : (Cond.initialized "OrderbenchLaw").before #[] vs_A = true := by decide +kernel
set_option maxRecDepth 16384 in
theorem vw_21 : (Cond.codeWith ⟨"OrderbenchLaw", "turn", "(LOrderbench;IILOrderbenchLaw$Out;)I"⟩ method_12_code 5 (some .int) [(0, 11, 14, 19), (0, 11, 18, 23)]).before #[] vs_A = true := by decide +kernel
set_option maxRecDepth 16384 in
theorem vw_22 : (Cond.instanceMethod ⟨"OrderbenchModel", "turn", "(II)I"⟩).before #[] vs_A = true := by decide +kernel
set_option maxRecDepth 16384 in
theorem vw_23 : (Cond.code ⟨"OrderbenchModel", "turn", "(II)I"⟩ prog_10_method_30_code 3 (some .int)).before #[] vs_A = true := by decide +kernel
set_option maxRecDepth 16384 in
theorem vw_24 : (Cond.methodLink "OrderbenchLaw" 185 ⟨"OrderbenchModel", "turn", "(II)I"⟩).before #[] vs_A = true := by decide +kernel
set_option maxRecDepth 16384 in
theorem vw_25 : (Cond.sameMethod "OrderbenchModel" "OrderbenchModel" "turn" "(II)I").before #[] vs_A = true := by decide +kernel
set_option maxRecDepth 16384 in
theorem vw_26 : (Cond.selects "OrderbenchModel" ⟨"OrderbenchModel", "turn", "(II)I"⟩ ⟨"OrderbenchModel", "turn", "(II)I"⟩).before #[] vs_A = true := by decide +kernel
set_option maxRecDepth 16384 in
theorem vw_27 : (Cond.instanceMethod ⟨"Orderbench", "digest", "()J"⟩).before #[] vs_A = true := by decide +kernel
set_option maxRecDepth 16384 in
theorem vw_28 : (Cond.code ⟨"Orderbench", "digest", "()J"⟩ prog_1_method_38_code 4 (some .long)).before #[] vs_A = true := by decide +kernel
set_option maxRecDepth 16384 in
theorem vw_29 : (Cond.methodLink "OrderbenchLaw" 266 ⟨"Orderbench", "digest", "()J"⟩).before #[] vs_A = true := by decide +kernel
set_option maxRecDepth 16384 in
theorem vw_30 : (Cond.sameMethod "Orderbench" "Orderbench" "digest" "()J").before #[] vs_A = true := by decide +kernel
set_option maxRecDepth 16384 in
theorem vw_31 : (Cond.selects "Orderbench" ⟨"Orderbench", "digest", "()J"⟩ ⟨"Orderbench", "digest", "()J"⟩).before #[] vs_A = true := by decide +kernel
set_option maxRecDepth 16384 in
theorem vw_32 : (Cond.instanceMethod ⟨"OrderbenchModel", "digest", "()J"⟩).before #[] vs_A = true := by decide +kernel
set_option maxRecDepth 16384 in
theorem vw_33 : (Cond.code ⟨"OrderbenchModel", "digest", "()J"⟩ prog_10_method_70_code 5 (some .long)).before #[] vs_A = true := by decide +kernel
set_option maxRecDepth 16384 in
theorem vw_34 : (Cond.methodLink "OrderbenchLaw" 270 ⟨"OrderbenchModel", "digest", "()J"⟩).before #[] vs_A = true := by decide +kernel
set_option maxRecDepth 16384 in
theorem vw_35 : (Cond.sameMethod "OrderbenchModel" "OrderbenchModel" "digest" "()J").before #[] vs_A = true := by decide +kernel
set_option maxRecDepth 16384 in
theorem vw_36 : (Cond.selects "OrderbenchModel" ⟨"OrderbenchModel", "digest", "()J"⟩ ⟨"OrderbenchModel", "digest", "()J"⟩).before #[] vs_A = true := by decide +kernel
set_option maxRecDepth 16384 in
theorem vw_37 : (Cond.methodLink "Orderbench" 1 Lib.objectInit).before #[] vs_A = true := by decide +kernel
set_option maxRecDepth 16384 in
theorem vw_38 : (Cond.instanceMethod Lib.objectInit).before #[] vs_A = true := by decide +kernel
set_option maxRecDepth 16384 in
theorem vw_39 : (Cond.code Lib.objectInit ⟨#[0xb1]⟩ 1 none).before #[] vs_A = true := by decide +kernel
set_option maxRecDepth 16384 in
theorem vw_40 : (Cond.classLink "Orderbench" 9 "Orderbench$Row").before #[] vs_A = true := by decide +kernel
set_option maxRecDepth 16384 in
theorem vw_41 : (Cond.arrayOver (.object "Orderbench$Row")).before #[] vs_A = true := by decide +kernel
set_option maxRecDepth 16384 in
theorem vw_42 : (Cond.fieldLink "Orderbench" 11 "Orderbench" "benches" "[LOrderbench$Row;").before #[] vs_A = true := by decide +kernel
set_option maxRecDepth 16384 in
theorem vw_43 : (Cond.instantiable "Orderbench$Row" 2).before #[] vs_A = true := by decide +kernel
set_option maxRecDepth 16384 in
theorem vw_44 : (Cond.initialized "Orderbench$Row").before #[] vs_A = true := by decide +kernel
set_option maxRecDepth 16384 in
theorem vw_45 : (Cond.instanceMethod ⟨"Orderbench$Row", "<init>", "()V"⟩).before #[] vs_A = true := by decide +kernel
set_option maxRecDepth 16384 in
theorem vw_46 : (Cond.code ⟨"Orderbench$Row", "<init>", "()V"⟩ prog_4_method_1_code 1 none).before #[] vs_A = true := by decide +kernel
set_option maxRecDepth 16384 in
theorem vw_47 : (Cond.methodLinkNest "Orderbench" 15 ⟨"Orderbench$Row", "<init>", "()V"⟩ "Orderbench").before #[] vs_A = true := by decide +kernel
set_option maxRecDepth 16384 in
theorem vw_48 : (Cond.classLink "Orderbench" 16 "Orderbench$Shape").before #[] vs_A = true := by decide +kernel
set_option maxRecDepth 16384 in
theorem vw_49 : (Cond.arrayOver (.object "Orderbench$Shape")).before #[] vs_A = true := by decide +kernel
set_option maxRecDepth 16384 in
theorem vw_50 : (Cond.fieldLink "Orderbench" 18 "Orderbench" "orders" "[LOrderbench$Shape;").before #[] vs_A = true := by decide +kernel
set_option maxRecDepth 16384 in
theorem vw_51 : (Cond.classLink "Orderbench" 22 "Orderbench$Base").before #[] vs_A = true := by decide +kernel
set_option maxRecDepth 16384 in
theorem vw_52 : (Cond.instantiable "Orderbench$Base" 3).before #[] vs_A = true := by decide +kernel
set_option maxRecDepth 16384 in
theorem vw_53 : (Cond.initialized "Orderbench$Base").before #[] vs_A = true := by decide +kernel
set_option maxRecDepth 16384 in
theorem vw_54 : (Cond.instanceMethod ⟨"Orderbench$Base", "<init>", "(I)V"⟩).before #[] vs_A = true := by decide +kernel
set_option maxRecDepth 16384 in
theorem vw_55 : (Cond.code ⟨"Orderbench$Base", "<init>", "(I)V"⟩ prog_2_method_1_code 2 none).before #[] vs_A = true := by decide +kernel
set_option maxRecDepth 16384 in
theorem vw_56 : (Cond.methodLink "Orderbench" 24 ⟨"Orderbench$Base", "<init>", "(I)V"⟩).before #[] vs_A = true := by decide +kernel
set_option maxRecDepth 16384 in
theorem vw_57 : (Cond.fieldLink "Orderbench" 27 "Orderbench" "copied" "LOrderbench$Row;").before #[] vs_A = true := by decide +kernel
set_option maxRecDepth 16384 in
theorem vw_58 : (Cond.fieldLink "Orderbench" 31 "Orderbench" "copiedToo" "LOrderbench$Row;").before #[] vs_A = true := by decide +kernel
set_option maxRecDepth 16384 in
theorem vw_59 : (Cond.arrayClass (newarray.typeOf .int)).before #[] vs_A = true := by decide +kernel
set_option maxRecDepth 16384 in
theorem vw_60 : (Cond.fieldLink "Orderbench" 34 "Orderbench" "ranks" "[I").before #[] vs_A = true := by decide +kernel
set_option maxRecDepth 16384 in
theorem vw_61 : (Cond.classLink "Orderbench" 38 "java/lang/StringBuilder").before #[] vs_A = true := by decide +kernel
set_option maxRecDepth 16384 in
theorem vw_62 : (Cond.instantiable "java/lang/StringBuilder" 4).before #[] vs_A = true := by decide +kernel
set_option maxRecDepth 16384 in
theorem vw_63 : (Cond.initialized "java/lang/StringBuilder").before #[] vs_A = true := by decide +kernel
set_option maxRecDepth 16384 in
theorem vw_64 : (Cond.instanceMethod ⟨"java/lang/StringBuilder", "<init>", "()V"⟩).before #[] vs_A = true := by decide +kernel
set_option maxRecDepth 16384 in
theorem vw_65 : (Cond.code ⟨"java/lang/StringBuilder", "<init>", "()V"⟩ prog_29_method_1_code 1 none).before #[] vs_A = true := by decide +kernel
set_option maxRecDepth 16384 in
theorem vw_66 : (Cond.methodLink "Orderbench" 40 ⟨"java/lang/StringBuilder", "<init>", "()V"⟩).before #[] vs_A = true := by decide +kernel
set_option maxRecDepth 16384 in
theorem vw_67 : (Cond.fieldLink "Orderbench" 41 "Orderbench" "signs" "Ljava/lang/StringBuilder;").before #[] vs_A = true := by decide +kernel
set_option maxRecDepth 16384 in
theorem vw_68 : (Cond.methodLink "Orderbench$Row" 3 Lib.objectInit).before #[] vs_A = true := by decide +kernel
set_option maxRecDepth 16384 in
theorem vw_69 : (Cond.fieldLink "Orderbench$Row" 9 "Orderbench$Row" "codes" "[I").before #[] vs_A = true := by decide +kernel
set_option maxRecDepth 16384 in
theorem vw_70 : (Cond.instanceMethod ⟨"Orderbench$Shape", "<init>", "(IZ)V"⟩).before #[] vs_A = true := by decide +kernel
set_option maxRecDepth 16384 in
theorem vw_71 : (Cond.initialized "Orderbench$Shape").before #[] vs_A = true := by decide +kernel
set_option maxRecDepth 16384 in
theorem vw_72 : (Cond.code ⟨"Orderbench$Shape", "<init>", "(IZ)V"⟩ prog_5_method_1_code 3 none).before #[] vs_A = true := by decide +kernel
set_option maxRecDepth 16384 in
theorem vw_73 : (Cond.methodLink "Orderbench$Base" 3 ⟨"Orderbench$Shape", "<init>", "(IZ)V"⟩).before #[] vs_A = true := by decide +kernel
set_option maxRecDepth 16384 in
theorem vw_74 : (Cond.fieldLink "Orderbench$Base" 9 "Orderbench$Base" "kind" "I").before #[] vs_A = true := by decide +kernel
set_option maxRecDepth 16384 in
theorem vw_75 : (Cond.methodLink "Orderbench$Shape" 1 Lib.objectInit).before #[] vs_A = true := by decide +kernel
set_option maxRecDepth 16384 in
theorem vw_76 : (Cond.fieldLink "Orderbench$Shape" 7 "Orderbench$Shape" "length" "I").before #[] vs_A = true := by decide +kernel
set_option maxRecDepth 16384 in
theorem vw_77 : (Cond.fieldLink "Orderbench$Shape" 13 "Orderbench$Shape" "safe" "Z").before #[] vs_A = true := by decide +kernel
set_option maxRecDepth 16384 in
theorem vw_78 : (Cond.instanceMethod ⟨"java/lang/AbstractStringBuilder", "<init>", "(I)V"⟩).before #[] vs_A = true := by decide +kernel
set_option maxRecDepth 16384 in
theorem vw_79 : (Cond.initialized "java/lang/AbstractStringBuilder").before #[] vs_A = true := by decide +kernel
set_option maxRecDepth 16384 in
theorem vw_80 : (Cond.code ⟨"java/lang/AbstractStringBuilder", "<init>", "(I)V"⟩ prog_13_method_2_code 2 none).before #[] vs_A = true := by decide +kernel
set_option maxRecDepth 16384 in
theorem vw_81 : (Cond.methodLink "java/lang/StringBuilder" 1 ⟨"java/lang/AbstractStringBuilder", "<init>", "(I)V"⟩).before #[] vs_A = true := by decide +kernel
set_option maxRecDepth 16384 in
theorem vw_82 : (Cond.methodLink "java/lang/AbstractStringBuilder" 3 Lib.objectInit).before #[] vs_A = true := by decide +kernel
set_option maxRecDepth 16384 in
theorem vw_83 : (Cond.fieldLink "java/lang/AbstractStringBuilder" 18 "java/lang/String" "COMPACT_STRINGS" "Z").before #[] vs_A = true := by decide +kernel
set_option maxRecDepth 16384 in
theorem vw_84 : (Cond.arrayClass (newarray.typeOf .byte)).before #[] vs_A = true := by decide +kernel
set_option maxRecDepth 16384 in
theorem vw_85 : (Cond.fieldLink "java/lang/AbstractStringBuilder" 15 "java/lang/AbstractStringBuilder" "value" "[B").before #[] vs_A = true := by decide +kernel
set_option maxRecDepth 16384 in
theorem vw_86 : (Cond.fieldLink "java/lang/AbstractStringBuilder" 22 "java/lang/AbstractStringBuilder" "coder" "B").before #[] vs_A = true := by decide +kernel
set_option maxRecDepth 16384 in
theorem vw_87 : (Cond.methodLink "OrderbenchModel" 1 Lib.objectInit).before #[] vs_A = true := by decide +kernel
set_option maxRecDepth 16384 in
theorem vw_88 : (Cond.classLink "OrderbenchModel" 7 "java/util/ArrayList").before #[] vs_A = true := by decide +kernel
set_option maxRecDepth 16384 in
theorem vw_89 : (Cond.instantiable "java/util/ArrayList" 3).before #[] vs_A = true := by decide +kernel
set_option maxRecDepth 16384 in
theorem vw_90 : (Cond.initialized "java/util/ArrayList").before #[] vs_A = true := by decide +kernel
set_option maxRecDepth 16384 in
theorem vw_91 : (Cond.instanceMethod ⟨"java/util/ArrayList", "<init>", "()V"⟩).before #[] vs_A = true := by decide +kernel
set_option maxRecDepth 16384 in
theorem vw_92 : (Cond.code ⟨"java/util/ArrayList", "<init>", "()V"⟩ prog_39_method_2_code 1 none).before #[] vs_A = true := by decide +kernel
set_option maxRecDepth 16384 in
theorem vw_93 : (Cond.methodLink "OrderbenchModel" 9 ⟨"java/util/ArrayList", "<init>", "()V"⟩).before #[] vs_A = true := by decide +kernel
set_option maxRecDepth 16384 in
theorem vw_94 : (Cond.fieldLink "OrderbenchModel" 10 "OrderbenchModel" "benches" "Ljava/util/ArrayList;").before #[] vs_A = true := by decide +kernel
set_option maxRecDepth 16384 in
theorem vw_95 : (Cond.classLink "OrderbenchModel" 16 "OrderbenchModel$Shape").before #[] vs_A = true := by decide +kernel
set_option maxRecDepth 16384 in
theorem vw_96 : (Cond.arrayOver (.object "OrderbenchModel$Shape")).before #[] vs_A = true := by decide +kernel
set_option maxRecDepth 16384 in
theorem vw_97 : (Cond.fieldLink "OrderbenchModel" 18 "OrderbenchModel" "shapes" "[LOrderbenchModel$Shape;").before #[] vs_A = true := by decide +kernel
set_option maxRecDepth 16384 in
theorem vw_98 : (Cond.instanceMethod ⟨"java/util/ArrayList", "add", "(Ljava/lang/Object;)Z"⟩).before #[] vs_A = true := by decide +kernel
set_option maxRecDepth 16384 in
theorem vw_99 : (Cond.code ⟨"java/util/ArrayList", "add", "(Ljava/lang/Object;)Z"⟩ prog_39_method_25_code 2 (some .boolean)).before #[] vs_A = true := by decide +kernel
set_option maxRecDepth 16384 in
theorem vw_100 : (Cond.methodLink "OrderbenchModel" 22 ⟨"java/util/ArrayList", "add", "(Ljava/lang/Object;)Z"⟩).before #[] vs_A = true := by decide +kernel
set_option maxRecDepth 16384 in
theorem vw_101 : (Cond.sameMethod "java/util/ArrayList" "java/util/ArrayList" "add" "(Ljava/lang/Object;)Z").before #[] vs_A = true := by decide +kernel
set_option maxRecDepth 16384 in
theorem vw_102 : (Cond.selects "java/util/ArrayList" ⟨"java/util/ArrayList", "add", "(Ljava/lang/Object;)Z"⟩ ⟨"java/util/ArrayList", "add", "(Ljava/lang/Object;)Z"⟩).before #[] vs_A = true := by decide +kernel
set_option maxRecDepth 16384 in
theorem vw_103 : (Cond.instantiable "OrderbenchModel$Shape" 3).before #[] vs_A = true := by decide +kernel
set_option maxRecDepth 16384 in
theorem vw_104 : (Cond.initialized "OrderbenchModel$Shape").before #[] vs_A = true := by decide +kernel
set_option maxRecDepth 16384 in
theorem vw_105 : (Cond.instanceMethod ⟨"OrderbenchModel$Shape", "<init>", "(CLOrderbenchModel$Shape;LOrderbenchModel$Shape;)V"⟩).before #[] vs_A = true := by decide +kernel
set_option maxRecDepth 16384 in
theorem vw_106 : (Cond.code ⟨"OrderbenchModel$Shape", "<init>", "(CLOrderbenchModel$Shape;LOrderbenchModel$Shape;)V"⟩ prog_11_method_1_code 4 none).before #[] vs_A = true := by decide +kernel
set_option maxRecDepth 16384 in
theorem vw_107 : (Cond.methodLink "OrderbenchModel" 26 ⟨"OrderbenchModel$Shape", "<init>", "(CLOrderbenchModel$Shape;LOrderbenchModel$Shape;)V"⟩).before #[] vs_A = true := by decide +kernel
set_option maxRecDepth 16384 in
theorem vw_108 : (Cond.instanceMethod ⟨"java/util/AbstractList", "<init>", "()V"⟩).before #[] vs_A = true := by decide +kernel
set_option maxRecDepth 16384 in
theorem vw_109 : (Cond.initialized "java/util/AbstractList").before #[] vs_A = true := by decide +kernel
set_option maxRecDepth 16384 in
theorem vw_110 : (Cond.code ⟨"java/util/AbstractList", "<init>", "()V"⟩ prog_38_method_1_code 1 none).before #[] vs_A = true := by decide +kernel
set_option maxRecDepth 16384 in
theorem vw_111 : (Cond.methodLink "java/util/ArrayList" 1 ⟨"java/util/AbstractList", "<init>", "()V"⟩).before #[] vs_A = true := by decide +kernel
set_option maxRecDepth 16384 in
theorem vw_112 : (Cond.fieldLink "java/util/ArrayList" 39 "java/util/ArrayList" "DEFAULTCAPACITY_EMPTY_ELEMENTDATA" "[Ljava/lang/Object;").before #[] vs_A = true := by decide +kernel
set_option maxRecDepth 16384 in
theorem vw_113 : (Cond.fieldLink "java/util/ArrayList" 9 "java/util/ArrayList" "elementData" "[Ljava/lang/Object;").before #[] vs_A = true := by decide +kernel
set_option maxRecDepth 16384 in
theorem vw_114 : (Cond.instanceMethod ⟨"java/util/AbstractCollection", "<init>", "()V"⟩).before #[] vs_A = true := by decide +kernel
set_option maxRecDepth 16384 in
theorem vw_115 : (Cond.initialized "java/util/AbstractCollection").before #[] vs_A = true := by decide +kernel
set_option maxRecDepth 16384 in
theorem vw_116 : (Cond.code ⟨"java/util/AbstractCollection", "<init>", "()V"⟩ prog_37_method_1_code 1 none).before #[] vs_A = true := by decide +kernel
set_option maxRecDepth 16384 in
theorem vw_117 : (Cond.methodLink "java/util/AbstractList" 1 ⟨"java/util/AbstractCollection", "<init>", "()V"⟩).before #[] vs_A = true := by decide +kernel
set_option maxRecDepth 16384 in
theorem vw_118 : (Cond.fieldLink "java/util/AbstractList" 7 "java/util/AbstractList" "modCount" "I").before #[] vs_A = true := by decide +kernel
set_option maxRecDepth 16384 in
theorem vw_119 : (Cond.methodLink "java/util/AbstractCollection" 1 Lib.objectInit).before #[] vs_A = true := by decide +kernel
set_option maxRecDepth 16384 in
theorem vw_120 : (Cond.fieldLink "java/util/ArrayList" 63 "java/util/ArrayList" "modCount" "I").before #[] vs_A = true := by decide +kernel
set_option maxRecDepth 16384 in
theorem vw_121 : (Cond.fieldLink "java/util/ArrayList" 48 "java/util/ArrayList" "size" "I").before #[] vs_A = true := by decide +kernel
set_option maxRecDepth 16384 in
theorem vw_122 : (Cond.instanceMethod ⟨"java/util/ArrayList", "add", "(Ljava/lang/Object;[Ljava/lang/Object;I)V"⟩).before #[] vs_A = true := by decide +kernel
set_option maxRecDepth 16384 in
theorem vw_123 : (Cond.code ⟨"java/util/ArrayList", "add", "(Ljava/lang/Object;[Ljava/lang/Object;I)V"⟩ prog_39_method_24_code 4 none).before #[] vs_A = true := by decide +kernel
set_option maxRecDepth 16384 in
theorem vw_124 : (Cond.methodLink "java/util/ArrayList" 131 ⟨"java/util/ArrayList", "add", "(Ljava/lang/Object;[Ljava/lang/Object;I)V"⟩).before #[] vs_A = true := by decide +kernel
set_option maxRecDepth 16384 in
theorem vw_125 : (Cond.sameMethod "java/util/ArrayList" "java/util/ArrayList" "add" "(Ljava/lang/Object;[Ljava/lang/Object;I)V").before #[] vs_A = true := by decide +kernel
set_option maxRecDepth 16384 in
theorem vw_126 : (Cond.selects "java/util/ArrayList" ⟨"java/util/ArrayList", "add", "(Ljava/lang/Object;[Ljava/lang/Object;I)V"⟩ ⟨"java/util/ArrayList", "add", "(Ljava/lang/Object;[Ljava/lang/Object;I)V"⟩).before #[] vs_A = true := by decide +kernel
set_option maxRecDepth 16384 in
theorem vw_127 : (Cond.instanceMethod ⟨"java/util/ArrayList", "grow", "()[Ljava/lang/Object;"⟩).before #[] vs_A = true := by decide +kernel
set_option maxRecDepth 16384 in
theorem vw_128 : (Cond.code ⟨"java/util/ArrayList", "grow", "()[Ljava/lang/Object;"⟩ prog_39_method_7_code 1 (some (.array (.object "java/lang/Object")))).before #[] vs_A = true := by decide +kernel
set_option maxRecDepth 16384 in
theorem vw_129 : (Cond.methodLink "java/util/ArrayList" 129 ⟨"java/util/ArrayList", "grow", "()[Ljava/lang/Object;"⟩).before #[] vs_A = true := by decide +kernel
set_option maxRecDepth 16384 in
theorem vw_130 : (Cond.sameMethod "java/util/ArrayList" "java/util/ArrayList" "grow" "()[Ljava/lang/Object;").before #[] vs_A = true := by decide +kernel
set_option maxRecDepth 16384 in
theorem vw_131 : (Cond.selects "java/util/ArrayList" ⟨"java/util/ArrayList", "grow", "()[Ljava/lang/Object;"⟩ ⟨"java/util/ArrayList", "grow", "()[Ljava/lang/Object;"⟩).before #[] vs_A = true := by decide +kernel
set_option maxRecDepth 16384 in
theorem vw_132 : (Cond.instanceMethod ⟨"java/util/ArrayList", "grow", "(I)[Ljava/lang/Object;"⟩).before #[] vs_A = true := by decide +kernel
set_option maxRecDepth 16384 in
theorem vw_133 : (Cond.code ⟨"java/util/ArrayList", "grow", "(I)[Ljava/lang/Object;"⟩ prog_39_method_6_code 4 (some (.array (.object "java/lang/Object")))).before #[] vs_A = true := by decide +kernel
set_option maxRecDepth 16384 in
theorem vw_134 : (Cond.methodLink "java/util/ArrayList" 69 ⟨"java/util/ArrayList", "grow", "(I)[Ljava/lang/Object;"⟩).before #[] vs_A = true := by decide +kernel
set_option maxRecDepth 16384 in
theorem vw_135 : (Cond.sameMethod "java/util/ArrayList" "java/util/ArrayList" "grow" "(I)[Ljava/lang/Object;").before #[] vs_A = true := by decide +kernel
set_option maxRecDepth 16384 in
theorem vw_136 : (Cond.selects "java/util/ArrayList" ⟨"java/util/ArrayList", "grow", "(I)[Ljava/lang/Object;"⟩ ⟨"java/util/ArrayList", "grow", "(I)[Ljava/lang/Object;"⟩).before #[] vs_A = true := by decide +kernel
set_option maxRecDepth 16384 in
theorem vw_137 : (Cond.methodLink "java/util/ArrayList" 79 ⟨"java/lang/Math", "max", "(II)I"⟩).before #[] vs_A = true := by decide +kernel
set_option maxRecDepth 16384 in
theorem vw_138 : (Cond.static ⟨"java/lang/Math", "max", "(II)I"⟩).before #[] vs_A = true := by decide +kernel
set_option maxRecDepth 16384 in
theorem vw_139 : (Cond.initialized "java/lang/Math").before #[] vs_A = true := by decide +kernel
set_option maxRecDepth 16384 in
theorem vw_140 : (Cond.code ⟨"java/lang/Math", "max", "(II)I"⟩ prog_25_method_65_code 2 (some .int)).before #[] vs_A = true := by decide +kernel
set_option maxRecDepth 16384 in
theorem vw_141 : (Cond.classLink "java/util/ArrayList" 7 "java/lang/Object").before #[] vs_A = true := by decide +kernel
set_option maxRecDepth 16384 in
theorem vw_142 : (Cond.arrayOver (.object "java/lang/Object")).before #[] vs_A = true := by decide +kernel
set_option maxRecDepth 16384 in
theorem vw_143 : (Cond.methodLink "OrderbenchModel$Shape" 1 Lib.objectInit).before #[] vs_A = true := by decide +kernel
set_option maxRecDepth 16384 in
theorem vw_144 : (Cond.fieldLink "OrderbenchModel$Shape" 7 "OrderbenchModel$Shape" "sort" "C").before #[] vs_A = true := by decide +kernel
set_option maxRecDepth 16384 in
theorem vw_145 : (Cond.fieldLink "OrderbenchModel$Shape" 13 "OrderbenchModel$Shape" "one" "LOrderbenchModel$Shape;").before #[] vs_A = true := by decide +kernel
set_option maxRecDepth 16384 in
theorem vw_146 : (Cond.fieldLink "OrderbenchModel$Shape" 17 "OrderbenchModel$Shape" "other" "LOrderbenchModel$Shape;").before #[] vs_A = true := by decide +kernel
set_option maxRecDepth 16384 in
theorem vw_147 : (Cond.methodLink "OrderbenchLaw$Out" 1 Lib.objectInit).before #[] vs_A = true := by decide +kernel
set_option maxRecDepth 16384 in
theorem vw_148 : (Cond.instanceMethod ⟨"Orderbench", "turn", "(II)I"⟩).before #[] vs_A = true := by decide +kernel
set_option maxRecDepth 16384 in
theorem vw_149 : (Cond.code ⟨"Orderbench", "turn", "(II)I"⟩ prog_1_method_12_code 4 (some .int)).before #[] vs_A = true := by decide +kernel
set_option maxRecDepth 16384 in
theorem vw_150 : (Cond.methodLink "OrderbenchLaw" 60 ⟨"Orderbench", "turn", "(II)I"⟩).before #[] vs_A = true := by decide +kernel
set_option maxRecDepth 16384 in
theorem vw_151 : (Cond.sameMethod "Orderbench" "Orderbench" "turn" "(II)I").before #[] vs_A = true := by decide +kernel
set_option maxRecDepth 16384 in
theorem vw_152 : (Cond.selects "Orderbench" ⟨"Orderbench", "turn", "(II)I"⟩ ⟨"Orderbench", "turn", "(II)I"⟩).before #[] vs_A = true := by decide +kernel
set_option maxRecDepth 16384 in
theorem vw_153 : (Cond.fieldLinkNest "OrderbenchLaw" 13 "OrderbenchLaw$Out" "n" "J" "OrderbenchLaw").before #[] vs_A = true := by decide +kernel
set_option maxRecDepth 16384 in
theorem vw_154 : (Cond.instanceMethod ⟨"Orderbench", "orderAt", "(I)LOrderbench$Shape;"⟩).before #[] vs_A = true := by decide +kernel
set_option maxRecDepth 16384 in
theorem vw_155 : (Cond.code ⟨"Orderbench", "orderAt", "(I)LOrderbench$Shape;"⟩ prog_1_method_40_code 2 (some (.object "Orderbench$Shape"))).before #[] vs_A = true := by decide +kernel
set_option maxRecDepth 16384 in
theorem vw_156 : (Cond.methodLink "Orderbench" 100 ⟨"Orderbench", "orderAt", "(I)LOrderbench$Shape;"⟩).before #[] vs_A = true := by decide +kernel
set_option maxRecDepth 16384 in
theorem vw_157 : (Cond.sameMethod "Orderbench" "Orderbench" "orderAt" "(I)LOrderbench$Shape;").before #[] vs_A = true := by decide +kernel
set_option maxRecDepth 16384 in
theorem vw_158 : (Cond.selects "Orderbench" ⟨"Orderbench", "orderAt", "(I)LOrderbench$Shape;"⟩ ⟨"Orderbench", "orderAt", "(I)LOrderbench$Shape;"⟩).before #[] vs_A = true := by decide +kernel
set_option maxRecDepth 16384 in
theorem vw_159 : (Cond.classLink "Orderbench" 135 "Orderbench$Turned").before #[] vs_A = true := by decide +kernel
set_option maxRecDepth 16384 in
theorem vw_160 : (Cond.instantiable "Orderbench$Turned" 3).before #[] vs_A = true := by decide +kernel
set_option maxRecDepth 16384 in
theorem vw_161 : (Cond.initialized "Orderbench$Turned").before #[] vs_A = true := by decide +kernel
set_option maxRecDepth 16384 in
theorem vw_162 : (Cond.instanceMethod ⟨"Orderbench$Turned", "<init>", "(LOrderbench$Shape;)V"⟩).before #[] vs_A = true := by decide +kernel
set_option maxRecDepth 16384 in
theorem vw_163 : (Cond.code ⟨"Orderbench$Turned", "<init>", "(LOrderbench$Shape;)V"⟩ prog_7_method_1_code 2 none).before #[] vs_A = true := by decide +kernel
set_option maxRecDepth 16384 in
theorem vw_164 : (Cond.methodLink "Orderbench" 137 ⟨"Orderbench$Turned", "<init>", "(LOrderbench$Shape;)V"⟩).before #[] vs_A = true := by decide +kernel
set_option maxRecDepth 16384 in
theorem vw_165 : (Cond.methodLink "Orderbench" 139 ⟨"Orderbench", "needSize", "(LOrderbench$Shape;)V"⟩).before #[] vs_A = true := by decide +kernel
set_option maxRecDepth 16384 in
theorem vw_166 : (Cond.static ⟨"Orderbench", "needSize", "(LOrderbench$Shape;)V"⟩).before #[] vs_A = true := by decide +kernel
set_option maxRecDepth 16384 in
theorem vw_167 : (Cond.code ⟨"Orderbench", "needSize", "(LOrderbench$Shape;)V"⟩ prog_1_method_45_code 1 none).before #[] vs_A = true := by decide +kernel
set_option maxRecDepth 16384 in
theorem vw_168 : (Cond.instanceMethod ⟨"Orderbench", "makeOrder", "(ILOrderbench$Shape;)I"⟩).before #[] vs_A = true := by decide +kernel
set_option maxRecDepth 16384 in
theorem vw_169 : (Cond.code ⟨"Orderbench", "makeOrder", "(ILOrderbench$Shape;)I"⟩ prog_1_method_52_code 3 (some .int)).before #[] vs_A = true := by decide +kernel
set_option maxRecDepth 16384 in
theorem vw_170 : (Cond.methodLink "Orderbench" 129 ⟨"Orderbench", "makeOrder", "(ILOrderbench$Shape;)I"⟩).before #[] vs_A = true := by decide +kernel
set_option maxRecDepth 16384 in
theorem vw_171 : (Cond.sameMethod "Orderbench" "Orderbench" "makeOrder" "(ILOrderbench$Shape;)I").before #[] vs_A = true := by decide +kernel
set_option maxRecDepth 16384 in
theorem vw_172 : (Cond.selects "Orderbench" ⟨"Orderbench", "makeOrder", "(ILOrderbench$Shape;)I"⟩ ⟨"Orderbench", "makeOrder", "(ILOrderbench$Shape;)I"⟩).before #[] vs_A = true := by decide +kernel
set_option maxRecDepth 16384 in
theorem vw_173 : (Cond.fieldLink "Orderbench$Turned" 3 "Orderbench$Shape" "length" "I").before #[] vs_A = true := by decide +kernel
set_option maxRecDepth 16384 in
theorem vw_174 : (Cond.fieldLink "Orderbench$Turned" 9 "Orderbench$Shape" "safe" "Z").before #[] vs_A = true := by decide +kernel
set_option maxRecDepth 16384 in
theorem vw_175 : (Cond.methodLink "Orderbench$Turned" 13 ⟨"Orderbench$Shape", "<init>", "(IZ)V"⟩).before #[] vs_A = true := by decide +kernel
set_option maxRecDepth 16384 in
theorem vw_176 : (Cond.fieldLink "Orderbench$Turned" 17 "Orderbench$Turned" "of" "LOrderbench$Shape;").before #[] vs_A = true := by decide +kernel
set_option maxRecDepth 16384 in
theorem vw_177 : (Cond.fieldLink "Orderbench" 133 "Orderbench$Shape" "length" "I").before #[] vs_A = true := by decide +kernel
set_option maxRecDepth 16384 in
theorem vw_178 : (Cond.methodLink "OrderbenchModel" 130 ⟨"OrderbenchModel", "isNoOrder", "(I)Z"⟩).before #[] vs_A = true := by decide +kernel
set_option maxRecDepth 16384 in
theorem vw_179 : (Cond.static ⟨"OrderbenchModel", "isNoOrder", "(I)Z"⟩).before #[] vs_A = true := by decide +kernel
set_option maxRecDepth 16384 in
theorem vw_180 : (Cond.code ⟨"OrderbenchModel", "isNoOrder", "(I)Z"⟩ prog_10_method_8_code 1 (some .boolean)).before #[] vs_A = true := by decide +kernel
set_option maxRecDepth 16384 in
theorem vw_181 : (Cond.instanceMethod ⟨"OrderbenchModel", "fails", "(ZZ)Z"⟩).before #[] vs_A = true := by decide +kernel
set_option maxRecDepth 16384 in
theorem vw_182 : (Cond.code ⟨"OrderbenchModel", "fails", "(ZZ)Z"⟩ prog_10_method_4_code 3 (some .boolean)).before #[] vs_A = true := by decide +kernel
set_option maxRecDepth 16384 in
theorem vw_183 : (Cond.methodLink "OrderbenchModel" 94 ⟨"OrderbenchModel", "fails", "(ZZ)Z"⟩).before #[] vs_A = true := by decide +kernel
set_option maxRecDepth 16384 in
theorem vw_184 : (Cond.sameMethod "OrderbenchModel" "OrderbenchModel" "fails" "(ZZ)Z").before #[] vs_A = true := by decide +kernel
set_option maxRecDepth 16384 in
theorem vw_185 : (Cond.selects "OrderbenchModel" ⟨"OrderbenchModel", "fails", "(ZZ)Z"⟩ ⟨"OrderbenchModel", "fails", "(ZZ)Z"⟩).before #[] vs_A = true := by decide +kernel
set_option maxRecDepth 16384 in
theorem vw_186 : (Cond.instanceMethod ⟨"OrderbenchModel", "become", "(ILOrderbenchModel$Shape;)I"⟩).before #[] vs_A = true := by decide +kernel
set_option maxRecDepth 16384 in
theorem vw_187 : (Cond.code ⟨"OrderbenchModel", "become", "(ILOrderbenchModel$Shape;)I"⟩ prog_10_method_29_code 3 (some .int)).before #[] vs_A = true := by decide +kernel
set_option maxRecDepth 16384 in
theorem vw_188 : (Cond.methodLink "OrderbenchModel" 163 ⟨"OrderbenchModel", "become", "(ILOrderbenchModel$Shape;)I"⟩).before #[] vs_A = true := by decide +kernel
set_option maxRecDepth 16384 in
theorem vw_189 : (Cond.sameMethod "OrderbenchModel" "OrderbenchModel" "become" "(ILOrderbenchModel$Shape;)I").before #[] vs_A = true := by decide +kernel
set_option maxRecDepth 16384 in
theorem vw_190 : (Cond.selects "OrderbenchModel" ⟨"OrderbenchModel", "become", "(ILOrderbenchModel$Shape;)I"⟩ ⟨"OrderbenchModel", "become", "(ILOrderbenchModel$Shape;)I"⟩).before #[] vs_A = true := by decide +kernel
set_option maxRecDepth 16384 in
theorem vw_191 : (Cond.methodLink "OrderbenchModel" 37 ⟨"OrderbenchModel", "isIn", "(III)Z"⟩).before #[] vs_A = true := by decide +kernel
set_option maxRecDepth 16384 in
theorem vw_192 : (Cond.static ⟨"OrderbenchModel", "isIn", "(III)Z"⟩).before #[] vs_A = true := by decide +kernel
set_option maxRecDepth 16384 in
theorem vw_193 : (Cond.code ⟨"OrderbenchModel", "isIn", "(III)Z"⟩ prog_10_method_5_code 3 (some .boolean)).before #[] vs_A = true := by decide +kernel
set_option maxRecDepth 16384 in
theorem vw_194 : (Cond.instanceMethod ⟨"OrderbenchModel", "fails", "(ZZZ)Z"⟩).before #[] vs_A = true := by decide +kernel
set_option maxRecDepth 16384 in
theorem vw_195 : (Cond.code ⟨"OrderbenchModel", "fails", "(ZZZ)Z"⟩ prog_10_method_3_code 4 (some .boolean)).before #[] vs_A = true := by decide +kernel
set_option maxRecDepth 16384 in
theorem vw_196 : (Cond.methodLink "OrderbenchModel" 33 ⟨"OrderbenchModel", "fails", "(ZZZ)Z"⟩).before #[] vs_A = true := by decide +kernel
set_option maxRecDepth 16384 in
theorem vw_197 : (Cond.sameMethod "OrderbenchModel" "OrderbenchModel" "fails" "(ZZZ)Z").before #[] vs_A = true := by decide +kernel
set_option maxRecDepth 16384 in
theorem vw_198 : (Cond.selects "OrderbenchModel" ⟨"OrderbenchModel", "fails", "(ZZZ)Z"⟩ ⟨"OrderbenchModel", "fails", "(ZZZ)Z"⟩).before #[] vs_A = true := by decide +kernel
set_option maxRecDepth 16384 in
theorem vw_199 : (Cond.fieldLink "OrderbenchModel" 29 "OrderbenchModel" "thrown" "I").before #[] vs_A = true := by decide +kernel
set_option maxRecDepth 16384 in
theorem vw_200 : (Cond.instanceMethod ⟨"OrderbenchModel$Shape", "text", "()Ljava/lang/String;"⟩).before #[] vs_A = true := by decide +kernel
set_option maxRecDepth 16384 in
theorem vw_201 : (Cond.code ⟨"OrderbenchModel$Shape", "text", "()Ljava/lang/String;"⟩ prog_11_method_2_code 1 (some (.object "java/lang/String"))).before #[] vs_A = true := by decide +kernel
set_option maxRecDepth 16384 in
theorem vw_202 : (Cond.methodLink "OrderbenchModel" 146 ⟨"OrderbenchModel$Shape", "text", "()Ljava/lang/String;"⟩).before #[] vs_A = true := by decide +kernel
set_option maxRecDepth 16384 in
theorem vw_203 : (Cond.sameMethod "OrderbenchModel$Shape" "OrderbenchModel$Shape" "text" "()Ljava/lang/String;").before #[] vs_A = true := by decide +kernel
set_option maxRecDepth 16384 in
theorem vw_204 : (Cond.selects "OrderbenchModel$Shape" ⟨"OrderbenchModel$Shape", "text", "()Ljava/lang/String;"⟩ ⟨"OrderbenchModel$Shape", "text", "()Ljava/lang/String;"⟩).before #[] vs_A = true := by decide +kernel
set_option maxRecDepth 16384 in
theorem vw_205 : (Cond.instanceMethod ⟨"java/lang/String", "length", "()I"⟩).before #[] vs_A = true := by decide +kernel
set_option maxRecDepth 16384 in
theorem vw_206 : (Cond.initialized "java/lang/String").before #[] vs_A = true := by decide +kernel
set_option maxRecDepth 16384 in
theorem vw_207 : (Cond.code ⟨"java/lang/String", "length", "()I"⟩ prog_28_method_54_code 1 (some .int)).before #[] vs_A = true := by decide +kernel
set_option maxRecDepth 16384 in
theorem vw_208 : (Cond.methodLink "OrderbenchModel" 149 ⟨"java/lang/String", "length", "()I"⟩).before #[] vs_A = true := by decide +kernel
set_option maxRecDepth 16384 in
theorem vw_209 : (Cond.sameMethod "java/lang/String" "java/lang/String" "length" "()I").before #[] vs_A = true := by decide +kernel
set_option maxRecDepth 16384 in
theorem vw_210 : (Cond.selects "java/lang/String" ⟨"java/lang/String", "length", "()I"⟩ ⟨"java/lang/String", "length", "()I"⟩).before #[] vs_A = true := by decide +kernel
set_option maxRecDepth 16384 in
theorem vw_211 : (Cond.instanceMethod ⟨"OrderbenchModel", "sizeOf", "(I)I"⟩).before #[] vs_A = true := by decide +kernel
set_option maxRecDepth 16384 in
theorem vw_212 : (Cond.code ⟨"OrderbenchModel", "sizeOf", "(I)I"⟩ prog_10_method_27_code 2 (some .int)).before #[] vs_A = true := by decide +kernel
set_option maxRecDepth 16384 in
theorem vw_213 : (Cond.methodLink "OrderbenchModel" 154 ⟨"OrderbenchModel", "sizeOf", "(I)I"⟩).before #[] vs_A = true := by decide +kernel
set_option maxRecDepth 16384 in
theorem vw_214 : (Cond.sameMethod "OrderbenchModel" "OrderbenchModel" "sizeOf" "(I)I").before #[] vs_A = true := by decide +kernel
set_option maxRecDepth 16384 in
theorem vw_215 : (Cond.selects "OrderbenchModel" ⟨"OrderbenchModel", "sizeOf", "(I)I"⟩ ⟨"OrderbenchModel", "sizeOf", "(I)I"⟩).before #[] vs_A = true := by decide +kernel
set_option maxRecDepth 16384 in
theorem vw_216 : (Cond.classLink "OrderbenchModel$Shape" 20 "java/lang/StringBuilder").before #[] vs_A = true := by decide +kernel
set_option maxRecDepth 16384 in
theorem vw_217 : (Cond.methodLink "OrderbenchModel$Shape" 22 ⟨"java/lang/StringBuilder", "<init>", "()V"⟩).before #[] vs_A = true := by decide +kernel
set_option maxRecDepth 16384 in
theorem vw_218 : (Cond.methodLink "OrderbenchModel$Shape" 23 ⟨"OrderbenchModel$Shape", "text", "()Ljava/lang/String;"⟩).before #[] vs_A = true := by decide +kernel
set_option maxRecDepth 16384 in
theorem vw_219 : (Cond.instanceMethod ⟨"java/lang/StringBuilder", "append", "(Ljava/lang/String;)Ljava/lang/StringBuilder;"⟩).before #[] vs_A = true := by decide +kernel
set_option maxRecDepth 16384 in
theorem vw_220 : (Cond.code ⟨"java/lang/StringBuilder", "append", "(Ljava/lang/String;)Ljava/lang/StringBuilder;"⟩ prog_29_method_7_code 2 (some (.object "java/lang/StringBuilder"))).before #[] vs_A = true := by decide +kernel
set_option maxRecDepth 16384 in
theorem vw_221 : (Cond.methodLink "OrderbenchModel$Shape" 27 ⟨"java/lang/StringBuilder", "append", "(Ljava/lang/String;)Ljava/lang/StringBuilder;"⟩).before #[] vs_A = true := by decide +kernel
set_option maxRecDepth 16384 in
theorem vw_222 : (Cond.sameMethod "java/lang/StringBuilder" "java/lang/StringBuilder" "append" "(Ljava/lang/String;)Ljava/lang/StringBuilder;").before #[] vs_A = true := by decide +kernel
set_option maxRecDepth 16384 in
theorem vw_223 : (Cond.selects "java/lang/StringBuilder" ⟨"java/lang/StringBuilder", "append", "(Ljava/lang/String;)Ljava/lang/StringBuilder;"⟩ ⟨"java/lang/StringBuilder", "append", "(Ljava/lang/String;)Ljava/lang/StringBuilder;"⟩).before #[] vs_A = true := by decide +kernel
set_option maxRecDepth 16384 in
theorem vw_224 : (Cond.instanceMethod ⟨"java/lang/StringBuilder", "toString", "()Ljava/lang/String;"⟩).before #[] vs_A = true := by decide +kernel
