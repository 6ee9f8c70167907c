set_option maxRecDepth 16384 in
theorem vf_46 : (vs_A.fieldFound? "Orderbench$Shape" "length" "I").any (fun q => q.2.2.2.slot.beq 0 && (!q.2.2.2.isStatic && (decide (vs_A.vm.findClass "Orderbench$Shape" = some q.1) && decide (q.2.2.2.type = .int)))) = true := by decide +kernel
set_option maxRecDepth 16384 in
theorem vf_47 : ve_cs vs_A 1 [26, 32, 33] .boolean = true := by decide +kernel
set_option maxRecDepth 16384 in
theorem vf_48 : (vs_A.fieldFound? "Orderbench$Shape" "safe" "Z").any (fun q => q.2.2.2.slot.beq 1 && (!q.2.2.2.isStatic && (decide (vs_A.vm.findClass "Orderbench$Shape" = some q.1) && decide (q.2.2.2.type = .boolean)))) = true := by decide +kernel
set_option maxRecDepth 16384 in
theorem vf_49 : (vs_A.fieldFound? "java/lang/String" "COMPACT_STRINGS" "Z").any (fun q => q.2.2.2.slot.beq 1 && (q.2.2.2.isStatic && (decide (q.2.1.init = .initialized) && decide (q.2.1.statics = some 3)))) = true := by decide +kernel
set_option maxRecDepth 16384 in
theorem vf_50 : vs_A.vm.findClass ("[" ++ (newarray.typeOf .byte).toString) = some 53 := by decide +kernel
set_option maxRecDepth 16384 in
theorem vf_51 : ve_cs vs_A 0 [36] (.array .byte) = true := by decide +kernel
set_option maxRecDepth 16384 in
theorem vf_52 : (vs_A.fieldFound? "java/lang/AbstractStringBuilder" "value" "[B").any (fun q => q.2.2.2.slot.beq 0 && (!q.2.2.2.isStatic && (!hasFlag q.2.2.2.accessFlags Acc.final && decide (q.2.2.2.type = (.array .byte))))) = true := by decide +kernel
set_option maxRecDepth 16384 in
theorem vf_53 : ve_cs vs_A 1 [36] .byte = true := by decide +kernel
set_option maxRecDepth 16384 in
theorem vf_54 : (vs_A.fieldFound? "java/lang/AbstractStringBuilder" "coder" "B").any (fun q => q.2.2.2.slot.beq 1 && (!q.2.2.2.isStatic && (!hasFlag q.2.2.2.accessFlags Acc.final && decide (q.2.2.2.type = .byte)))) = true := by decide +kernel
set_option maxRecDepth 16384 in
theorem vf_55 : vs_A.vm.findClass "java/util/ArrayList" = some 47 := by decide +kernel
set_option maxRecDepth 16384 in
theorem vf_56 : (vs_A.vm.classes[47]?).any (fun k => decide (k.instanceTypes.map defaultValue = ([.int 0, .null, .int 0] : List Value).toArray)) = true := by decide +kernel
set_option maxRecDepth 16384 in
theorem vf_57 : ve_cs vs_A 1 [6] (.object "java/util/ArrayList") = true := by decide +kernel
set_option maxRecDepth 16384 in
theorem vf_58 : (vs_A.fieldFound? "OrderbenchModel" "benches" "Ljava/util/ArrayList;").any (fun q => q.2.2.2.slot.beq 1 && (!q.2.2.2.isStatic && (decide (vs_A.vm.findClass "OrderbenchModel" = some q.1) && decide (q.2.2.2.type = (.object "java/util/ArrayList"))))) = true := by decide +kernel
set_option maxRecDepth 16384 in
theorem vf_59 : vs_A.vm.findClass ("[" ++ (FieldType.object "OrderbenchModel$Shape").toString) = some 56 := by decide +kernel
set_option maxRecDepth 16384 in
theorem vf_60 : ve_cs vs_A 2 [6] (.array (.object "OrderbenchModel$Shape")) = true := by decide +kernel
set_option maxRecDepth 16384 in
theorem vf_61 : (vs_A.fieldFound? "OrderbenchModel" "shapes" "[LOrderbenchModel$Shape;").any (fun q => q.2.2.2.slot.beq 2 && (!q.2.2.2.isStatic && (decide (vs_A.vm.findClass "OrderbenchModel" = some q.1) && decide (q.2.2.2.type = (.array (.object "OrderbenchModel$Shape")))))) = true := by decide +kernel
set_option maxRecDepth 16384 in
theorem vf_62 : (vs_A.fieldFound? "OrderbenchModel" "benches" "Ljava/util/ArrayList;").any (fun q => q.2.2.2.slot.beq 1 && !q.2.2.2.isStatic) = true := by decide +kernel
set_option maxRecDepth 16384 in
theorem vf_63 : (parseMethodDescriptor "(Ljava/lang/Object;)Z").map (fun d => d.parameters.length) = some 1 := by decide +kernel
set_option maxRecDepth 16384 in
theorem vf_64 : ve_de vs_A ⟨"java/util/ArrayList", "add", "(Ljava/lang/Object;)Z"⟩ = true := by decide +kernel
set_option maxRecDepth 16384 in
theorem vf_65 : (vs_A.fieldFound? "OrderbenchModel" "shapes" "[LOrderbenchModel$Shape;").any (fun q => q.2.2.2.slot.beq 2 && !q.2.2.2.isStatic) = true := by decide +kernel
set_option maxRecDepth 16384 in
theorem vf_66 : vs_A.vm.findClass "OrderbenchModel$Shape" = some 11 := by decide +kernel
set_option maxRecDepth 16384 in
theorem vf_67 : (vs_A.vm.classes[11]?).any (fun k => decide (k.instanceTypes.map defaultValue = ([.int 0, .null, .null] : List Value).toArray)) = true := by decide +kernel
set_option maxRecDepth 16384 in
theorem vf_68 : (parseMethodDescriptor "(CLOrderbenchModel$Shape;LOrderbenchModel$Shape;)V").map (fun d => d.parameters.length) = some 3 := by decide +kernel
set_option maxRecDepth 16384 in
theorem vf_69 : ve_aa vs_A 56 [11] = true := by decide +kernel
set_option maxRecDepth 16384 in
theorem vf_70 : (vs_A.fieldFound? "java/util/ArrayList" "DEFAULTCAPACITY_EMPTY_ELEMENTDATA" "[Ljava/lang/Object;").any (fun q => q.2.2.2.slot.beq 3 && (q.2.2.2.isStatic && (decide (q.2.1.init = .initialized) && decide (q.2.1.statics = some 6)))) = true := by decide +kernel
set_option maxRecDepth 16384 in
theorem vf_71 : ve_cs vs_A 1 [47] (.array (.object "java/lang/Object")) = true := by decide +kernel
set_option maxRecDepth 16384 in
theorem vf_72 : (vs_A.fieldFound? "java/util/ArrayList" "elementData" "[Ljava/lang/Object;").any (fun q => q.2.2.2.slot.beq 1 && (!q.2.2.2.isStatic && (!hasFlag q.2.2.2.accessFlags Acc.final && decide (q.2.2.2.type = (.array (.object "java/lang/Object")))))) = true := by decide +kernel
set_option maxRecDepth 16384 in
theorem vf_73 : ve_cs vs_A 0 [47] .int = true := by decide +kernel
set_option maxRecDepth 16384 in
theorem vf_74 : (vs_A.fieldFound? "java/util/AbstractList" "modCount" "I").any (fun q => q.2.2.2.slot.beq 0 && (!q.2.2.2.isStatic && (!hasFlag q.2.2.2.accessFlags Acc.final && decide (q.2.2.2.type = .int)))) = true := by decide +kernel
set_option maxRecDepth 16384 in
theorem vf_75 : (vs_A.fieldFound? "java/util/ArrayList" "modCount" "I").any (fun q => q.2.2.2.slot.beq 0 && !q.2.2.2.isStatic) = true := by decide +kernel
set_option maxRecDepth 16384 in
theorem vf_76 : (vs_A.fieldFound? "java/util/ArrayList" "modCount" "I").any (fun q => q.2.2.2.slot.beq 0 && (!q.2.2.2.isStatic && (!hasFlag q.2.2.2.accessFlags Acc.final && decide (q.2.2.2.type = .int)))) = true := by decide +kernel
set_option maxRecDepth 16384 in
theorem vf_77 : (vs_A.fieldFound? "java/util/ArrayList" "elementData" "[Ljava/lang/Object;").any (fun q => q.2.2.2.slot.beq 1 && !q.2.2.2.isStatic) = true := by decide +kernel
set_option maxRecDepth 16384 in
theorem vf_78 : (vs_A.fieldFound? "java/util/ArrayList" "size" "I").any (fun q => q.2.2.2.slot.beq 2 && !q.2.2.2.isStatic) = true := by decide +kernel
set_option maxRecDepth 16384 in
theorem vf_79 : (parseMethodDescriptor "(Ljava/lang/Object;[Ljava/lang/Object;I)V").map (fun d => d.parameters.length) = some 3 := by decide +kernel
set_option maxRecDepth 16384 in
theorem vf_80 : ve_de vs_A ⟨"java/util/ArrayList", "add", "(Ljava/lang/Object;[Ljava/lang/Object;I)V"⟩ = true := by decide +kernel
set_option maxRecDepth 16384 in
theorem vf_81 : ve_ar vs_A 57 (.object "java/lang/Object") = true := by decide +kernel
set_option maxRecDepth 16384 in
theorem vf_82 : (parseMethodDescriptor "()[Ljava/lang/Object;").map (fun d => d.parameters.length) = some 0 := by decide +kernel
set_option maxRecDepth 16384 in
theorem vf_83 : ve_de vs_A ⟨"java/util/ArrayList", "grow", "()[Ljava/lang/Object;"⟩ = true := by decide +kernel
set_option maxRecDepth 16384 in
theorem vf_84 : ve_aa vs_A 57 [47] = true := by decide +kernel
set_option maxRecDepth 16384 in
theorem vf_85 : ve_cs vs_A 2 [47] .int = true := by decide +kernel
set_option maxRecDepth 16384 in
theorem vf_86 : (vs_A.fieldFound? "java/util/ArrayList" "size" "I").any (fun q => q.2.2.2.slot.beq 2 && (!q.2.2.2.isStatic && (!hasFlag q.2.2.2.accessFlags Acc.final && decide (q.2.2.2.type = .int)))) = true := by decide +kernel
set_option maxRecDepth 16384 in
theorem vf_87 : (parseMethodDescriptor "(I)[Ljava/lang/Object;").map (fun d => d.parameters.length) = some 1 := by decide +kernel
set_option maxRecDepth 16384 in
theorem vf_88 : ve_de vs_A ⟨"java/util/ArrayList", "grow", "(I)[Ljava/lang/Object;"⟩ = true := by decide +kernel
set_option maxRecDepth 16384 in
theorem vf_89 : vs_A.vm.findClass ("[" ++ (FieldType.object "java/lang/Object").toString) = some 57 := by decide +kernel
set_option maxRecDepth 16384 in
theorem vf_90 : ve_cs vs_A 0 [11] .char = true := by decide +kernel
set_option maxRecDepth 16384 in
theorem vf_91 : (vs_A.fieldFound? "OrderbenchModel$Shape" "sort" "C").any (fun q => q.2.2.2.slot.beq 0 && (!q.2.2.2.isStatic && (decide (vs_A.vm.findClass "OrderbenchModel$Shape" = some q.1) && decide (q.2.2.2.type = .char)))) = true := by decide +kernel
set_option maxRecDepth 16384 in
theorem vf_92 : ve_cs vs_A 1 [11] (.object "OrderbenchModel$Shape") = true := by decide +kernel
set_option maxRecDepth 16384 in
theorem vf_93 : (vs_A.fieldFound? "OrderbenchModel$Shape" "one" "LOrderbenchModel$Shape;").any (fun q => q.2.2.2.slot.beq 1 && (!q.2.2.2.isStatic && (decide (vs_A.vm.findClass "OrderbenchModel$Shape" = some q.1) && decide (q.2.2.2.type = (.object "OrderbenchModel$Shape"))))) = true := by decide +kernel
set_option maxRecDepth 16384 in
theorem vf_94 : ve_cs vs_A 2 [11] (.object "OrderbenchModel$Shape") = true := by decide +kernel
set_option maxRecDepth 16384 in
theorem vf_95 : (vs_A.fieldFound? "OrderbenchModel$Shape" "other" "LOrderbenchModel$Shape;").any (fun q => q.2.2.2.slot.beq 2 && (!q.2.2.2.isStatic && (decide (vs_A.vm.findClass "OrderbenchModel$Shape" = some q.1) && decide (q.2.2.2.type = (.object "OrderbenchModel$Shape"))))) = true := by decide +kernel
set_option maxRecDepth 16384 in
theorem vf_96 : ve_de vs_A ⟨"Orderbench", "turn", "(II)I"⟩ = true := by decide +kernel
set_option maxRecDepth 16384 in
theorem vf_97 : ve_cs vs_A 0 [12] .long = true := by decide +kernel
set_option maxRecDepth 16384 in
theorem vf_98 : (vs_A.fieldFound? "OrderbenchLaw$Out" "n" "J").any (fun q => q.2.2.2.slot.beq 0 && (!q.2.2.2.isStatic && (!hasFlag q.2.2.2.accessFlags Acc.final && decide (q.2.2.2.type = .long)))) = true := by decide +kernel
set_option maxRecDepth 16384 in
theorem vf_99 : (parseMethodDescriptor "(I)LOrderbench$Shape;").map (fun d => d.parameters.length) = some 1 := by decide +kernel
set_option maxRecDepth 16384 in
theorem vf_100 : ve_de vs_A ⟨"Orderbench", "orderAt", "(I)LOrderbench$Shape;"⟩ = true := by decide +kernel
set_option maxRecDepth 16384 in
theorem vf_101 : vs_A.vm.findClass "Orderbench$Turned" = some 32 := by decide +kernel
set_option maxRecDepth 16384 in
theorem vf_102 : (vs_A.vm.classes[32]?).any (fun k => decide (k.instanceTypes.map defaultValue = ([.int 0, .int 0, .null] : List Value).toArray)) = true := by decide +kernel
set_option maxRecDepth 16384 in
theorem vf_103 : (parseMethodDescriptor "(LOrderbench$Shape;)V").map (fun d => d.parameters.length) = some 1 := by decide +kernel
set_option maxRecDepth 16384 in
theorem vf_104 : (parseMethodDescriptor "(ILOrderbench$Shape;)I").map (fun d => d.parameters.length) = some 2 := by decide +kernel
set_option maxRecDepth 16384 in
theorem vf_105 : ve_de vs_A ⟨"Orderbench", "makeOrder", "(ILOrderbench$Shape;)I"⟩ = true := by decide +kernel
set_option maxRecDepth 16384 in
theorem vf_106 : ve_ar vs_A 55 (.object "Orderbench$Shape") = true := by decide +kernel
set_option maxRecDepth 16384 in
theorem vf_107 : (vs_A.fieldFound? "Orderbench$Shape" "length" "I").any (fun q => q.2.2.2.slot.beq 0 && !q.2.2.2.isStatic) = true := by decide +kernel
set_option maxRecDepth 16384 in
theorem vf_108 : (vs_A.fieldFound? "Orderbench$Shape" "safe" "Z").any (fun q => q.2.2.2.slot.beq 1 && !q.2.2.2.isStatic) = true := by decide +kernel
set_option maxRecDepth 16384 in
theorem vf_109 : ve_cs vs_A 2 [32] (.object "Orderbench$Shape") = true := by decide +kernel
set_option maxRecDepth 16384 in
theorem vf_110 : (vs_A.fieldFound? "Orderbench$Turned" "of" "LOrderbench$Shape;").any (fun q => q.2.2.2.slot.beq 2 && (!q.2.2.2.isStatic && (decide (vs_A.vm.findClass "Orderbench$Turned" = some q.1) && decide (q.2.2.2.type = (.object "Orderbench$Shape"))))) = true := by decide +kernel
set_option maxRecDepth 16384 in
theorem vf_111 : ve_aa vs_A 55 [32] = true := by decide +kernel
set_option maxRecDepth 16384 in
theorem vf_112 : (parseMethodDescriptor "(I)Z").map (fun d => d.parameters.length) = some 1 := by decide +kernel
set_option maxRecDepth 16384 in
theorem vf_113 : (parseMethodDescriptor "(ZZ)Z").map (fun d => d.parameters.length) = some 2 := by decide +kernel
set_option maxRecDepth 16384 in
theorem vf_114 : ve_de vs_A ⟨"OrderbenchModel", "fails", "(ZZ)Z"⟩ = true := by decide +kernel
set_option maxRecDepth 16384 in
theorem vf_115 : ve_ar vs_A 56 (.object "OrderbenchModel$Shape") = true := by decide +kernel
set_option maxRecDepth 16384 in
theorem vf_116 : (parseMethodDescriptor "(ILOrderbenchModel$Shape;)I").map (fun d => d.parameters.length) = some 2 := by decide +kernel
set_option maxRecDepth 16384 in
theorem vf_117 : ve_de vs_A ⟨"OrderbenchModel", "become", "(ILOrderbenchModel$Shape;)I"⟩ = true := by decide +kernel
set_option maxRecDepth 16384 in
theorem vf_118 : (parseMethodDescriptor "(III)Z").map (fun d => d.parameters.length) = some 3 := by decide +kernel
set_option maxRecDepth 16384 in
theorem vf_119 : (parseMethodDescriptor "(ZZZ)Z").map (fun d => d.parameters.length) = some 3 := by decide +kernel
set_option maxRecDepth 16384 in
theorem vf_120 : ve_de vs_A ⟨"OrderbenchModel", "fails", "(ZZZ)Z"⟩ = true := by decide +kernel
set_option maxRecDepth 16384 in
theorem vf_121 : ve_cs vs_A 0 [6] .int = true := by decide +kernel
set_option maxRecDepth 16384 in
theorem vf_122 : (vs_A.fieldFound? "OrderbenchModel" "thrown" "I").any (fun q => q.2.2.2.slot.beq 0 && (!q.2.2.2.isStatic && (!hasFlag q.2.2.2.accessFlags Acc.final && decide (q.2.2.2.type = .int)))) = true := by decide +kernel
set_option maxRecDepth 16384 in
theorem vf_123 : (vs_A.fieldFound? "OrderbenchModel" "thrown" "I").any (fun q => q.2.2.2.slot.beq 0 && !q.2.2.2.isStatic) = true := by decide +kernel
set_option maxRecDepth 16384 in
theorem vf_124 : (parseMethodDescriptor "()Ljava/lang/String;").map (fun d => d.parameters.length) = some 0 := by decide +kernel
set_option maxRecDepth 16384 in
theorem vf_125 : ve_de vs_A ⟨"OrderbenchModel$Shape", "text", "()Ljava/lang/String;"⟩ = true := by decide +kernel
set_option maxRecDepth 16384 in
theorem vf_126 : (parseMethodDescriptor "()I").map (fun d => d.parameters.length) = some 0 := by decide +kernel
set_option maxRecDepth 16384 in
theorem vf_127 : vs_A.vm.findClass "java/lang/String" = some 28 := by decide +kernel
set_option maxRecDepth 16384 in
theorem vf_128 : ve_de vs_A ⟨"java/lang/String", "length", "()I"⟩ = true := by decide +kernel
set_option maxRecDepth 16384 in
theorem vf_129 : (parseMethodDescriptor "(I)I").map (fun d => d.parameters.length) = some 1 := by decide +kernel
set_option maxRecDepth 16384 in
theorem vf_130 : ve_de vs_A ⟨"OrderbenchModel", "sizeOf", "(I)I"⟩ = true := by decide +kernel
set_option maxRecDepth 16384 in
theorem vf_131 : (vs_A.fieldFound? "OrderbenchModel$Shape" "sort" "C").any (fun q => q.2.2.2.slot.beq 0 && !q.2.2.2.isStatic) = true := by decide +kernel
set_option maxRecDepth 16384 in
theorem vf_132 : (vs_A.fieldFound? "OrderbenchModel$Shape" "one" "LOrderbenchModel$Shape;").any (fun q => q.2.2.2.slot.beq 1 && !q.2.2.2.isStatic) = true := by decide +kernel
set_option maxRecDepth 16384 in
theorem vf_133 : (parseMethodDescriptor "(Ljava/lang/String;)Ljava/lang/StringBuilder;").map (fun d => d.parameters.length) = some 1 := by decide +kernel
set_option maxRecDepth 16384 in
theorem vf_134 : ve_de vs_A ⟨"java/lang/StringBuilder", "append", "(Ljava/lang/String;)Ljava/lang/StringBuilder;"⟩ = true := by decide +kernel
set_option maxRecDepth 16384 in
theorem vf_135 : vk_R "OrderbenchModel$Shape" 31 "~" 52 vs_A := ⟨by decide +kernel, by decide +kernel⟩
set_option maxRecDepth 16384 in
theorem vf_136 : ve_de vs_A ⟨"java/lang/StringBuilder", "toString", "()Ljava/lang/String;"⟩ = true := by decide +kernel
set_option maxRecDepth 16384 in
theorem vf_137 : (parseMethodDescriptor "(C)Ljava/lang/StringBuilder;").map (fun d => d.parameters.length) = some 1 := by decide +kernel
set_option maxRecDepth 16384 in
theorem vf_138 : ve_de vs_A ⟨"java/lang/StringBuilder", "append", "(C)Ljava/lang/StringBuilder;"⟩ = true := by decide +kernel
set_option maxRecDepth 16384 in
theorem vf_139 : vk_R "OrderbenchModel$Shape" 45 "" 42 vs_A := ⟨by decide +kernel, by decide +kernel⟩
set_option maxRecDepth 16384 in
theorem vf_140 : (parseMethodDescriptor "(C)Ljava/lang/AbstractStringBuilder;").map (fun d => d.parameters.length) = some 1 := by decide +kernel
set_option maxRecDepth 16384 in
theorem vf_141 : (vs_A.vm.classes[36]?).any (fun x => decide (x.kind = .ordinary)) = true := by decide +kernel
set_option maxRecDepth 16384 in
theorem vf_142 : (vs_A.fieldFound? "java/lang/AbstractStringBuilder" "count" "I").any (fun q => q.2.2.2.slot.beq 3 && !q.2.2.2.isStatic) = true := by decide +kernel
set_option maxRecDepth 16384 in
theorem vf_143 : ve_de vs_A ⟨"java/lang/AbstractStringBuilder", "ensureCapacityInternal", "(I)V"⟩ = true := by decide +kernel
set_option maxRecDepth 16384 in
theorem vf_144 : (parseMethodDescriptor "()Z").map (fun d => d.parameters.length) = some 0 := by decide +kernel
set_option maxRecDepth 16384 in
theorem vf_145 : ve_de vs_A ⟨"java/lang/AbstractStringBuilder", "isLatin1", "()Z"⟩ = true := by decide +kernel
set_option maxRecDepth 16384 in
theorem vf_146 : (parseMethodDescriptor "(C)Z").map (fun d => d.parameters.length) = some 1 := by decide +kernel
set_option maxRecDepth 16384 in
theorem vf_147 : (vs_A.fieldFound? "java/lang/AbstractStringBuilder" "value" "[B").any (fun q => q.2.2.2.slot.beq 0 && !q.2.2.2.isStatic) = true := by decide +kernel
set_option maxRecDepth 16384 in
theorem vf_148 : ve_cs vs_A 3 [36] .int = true := by decide +kernel
set_option maxRecDepth 16384 in
theorem vf_149 : (vs_A.fieldFound? "java/lang/AbstractStringBuilder" "count" "I").any (fun q => q.2.2.2.slot.beq 3 && (!q.2.2.2.isStatic && (!hasFlag q.2.2.2.accessFlags Acc.final && decide (q.2.2.2.type = .int)))) = true := by decide +kernel
set_option maxRecDepth 16384 in
theorem vf_150 : ve_ar vs_A 53 .byte = true := by decide +kernel
set_option maxRecDepth 16384 in
theorem vf_151 : (vs_A.fieldFound? "java/lang/AbstractStringBuilder" "coder" "B").any (fun q => q.2.2.2.slot.beq 1 && !q.2.2.2.isStatic) = true := by decide +kernel
set_option maxRecDepth 16384 in
theorem vf_152 : ve_de vs_A ⟨"java/lang/AbstractStringBuilder", "newCapacity", "(I)I"⟩ = true := by decide +kernel
set_option maxRecDepth 16384 in
theorem vf_153 : (parseMethodDescriptor "([BI)[B").map (fun d => d.parameters.length) = some 2 := by decide +kernel
set_option maxRecDepth 16384 in
theorem vf_154 : (parseMethodDescriptor "(Ljava/lang/String;)Ljava/lang/AbstractStringBuilder;").map (fun d => d.parameters.length) = some 1 := by decide +kernel
set_option maxRecDepth 16384 in
theorem vf_155 : (parseMethodDescriptor "(ILjava/lang/String;)V").map (fun d => d.parameters.length) = some 2 := by decide +kernel
set_option maxRecDepth 16384 in
theorem vf_156 : ve_de vs_A ⟨"java/lang/AbstractStringBuilder", "putStringAt", "(ILjava/lang/String;)V"⟩ = true := by decide +kernel
set_option maxRecDepth 16384 in
theorem vf_157 : (vs_A.fieldFound? "java/lang/String" "value" "[B").any (fun q => q.2.2.2.slot.beq 0 && !q.2.2.2.isStatic) = true := by decide +kernel
set_option maxRecDepth 16384 in
theorem vf_158 : (parseMethodDescriptor "()B").map (fun d => d.parameters.length) = some 0 := by decide +kernel
set_option maxRecDepth 16384 in
theorem vf_159 : ve_de vs_A ⟨"java/lang/String", "coder", "()B"⟩ = true := by decide +kernel
set_option maxRecDepth 16384 in
theorem vf_160 : (vs_A.fieldFound? "java/lang/String" "coder" "B").any (fun q => q.2.2.2.slot.beq 1 && !q.2.2.2.isStatic) = true := by decide +kernel
set_option maxRecDepth 16384 in
theorem vf_161 : (parseMethodDescriptor "(Ljava/lang/String;)V").map (fun d => d.parameters.length) = some 1 := by decide +kernel
set_option maxRecDepth 16384 in
theorem vf_162 : ve_de vs_A ⟨"java/lang/AbstractStringBuilder", "inflateIfNeededFor", "(Ljava/lang/String;)V"⟩ = true := by decide +kernel
set_option maxRecDepth 16384 in
theorem vf_163 : (parseMethodDescriptor "([BIB)V").map (fun d => d.parameters.length) = some 3 := by decide +kernel
set_option maxRecDepth 16384 in
theorem vf_164 : ve_de vs_A ⟨"java/lang/String", "getBytes", "([BIB)V"⟩ = true := by decide +kernel
set_option maxRecDepth 16384 in
theorem vf_165 : (vs_A.vm.classes[28]?).any (fun k => decide (k.instanceTypes.map defaultValue = ([.null, .int 0, .int 0, .int 0] : List Value).toArray)) = true := by decide +kernel
set_option maxRecDepth 16384 in
theorem vf_166 : (parseMethodDescriptor "(Ljava/lang/StringBuilder;)V").map (fun d => d.parameters.length) = some 1 := by decide +kernel
set_option maxRecDepth 16384 in
theorem vf_167 : (parseMethodDescriptor "(Ljava/lang/AbstractStringBuilder;Ljava/lang/Void;)V").map (fun d => d.parameters.length) = some 2 := by decide +kernel
set_option maxRecDepth 16384 in
theorem vf_168 : (parseMethodDescriptor "()[B").map (fun d => d.parameters.length) = some 0 := by decide +kernel
set_option maxRecDepth 16384 in
theorem vf_169 : ve_de vs_A ⟨"java/lang/AbstractStringBuilder", "getValue", "()[B"⟩ = true := by decide +kernel
set_option maxRecDepth 16384 in
theorem vf_170 : ve_de vs_A ⟨"java/lang/AbstractStringBuilder", "length", "()I"⟩ = true := by decide +kernel
set_option maxRecDepth 16384 in
theorem vf_171 : ve_cs vs_A 1 [28] .byte = true := by decide +kernel
set_option maxRecDepth 16384 in
theorem vf_172 : (vs_A.fieldFound? "java/lang/String" "coder" "B").any (fun q => q.2.2.2.slot.beq 1 && (!q.2.2.2.isStatic && (decide (vs_A.vm.findClass "java/lang/String" = some q.1) && decide (q.2.2.2.type = .byte)))) = true := by decide +kernel
set_option maxRecDepth 16384 in
theorem vf_173 : (parseMethodDescriptor "([BII)[B").map (fun d => d.parameters.length) = some 3 := by decide +kernel
set_option maxRecDepth 16384 in
theorem vf_174 : ve_cs vs_A 0 [28] (.array .byte) = true := by decide +kernel
set_option maxRecDepth 16384 in
theorem vf_175 : (vs_A.fieldFound? "java/lang/String" "value" "[B").any (fun q => q.2.2.2.slot.beq 0 && (!q.2.2.2.isStatic && (decide (vs_A.vm.findClass "java/lang/String" = some q.1) && decide (q.2.2.2.type = (.array .byte))))) = true := by decide +kernel
set_option maxRecDepth 16384 in
theorem vf_176 : vs_A.vm.findClass "java/lang/Cloneable" = some 17 := by decide +kernel
set_option maxRecDepth 16384 in
theorem vf_177 : vs_A.vm.assignable 53 17 = true := by decide +kernel
set_option maxRecDepth 16384 in
theorem vf_178 : vs_A.vm.findClass "[B" = some 53 := by decide +kernel
set_option maxRecDepth 16384 in
theorem vf_179 : ∀ k, vs_A.slotType? 53 .none k = some .byte := fun _ => rfl
set_option maxRecDepth 16384 in
theorem vf_180 : ([53] : List Nat).all (fun x => x.blt 1000 && vs_A.vm.assignable x 53) = true := by decide +kernel
set_option maxRecDepth 16384 in
theorem vf_181 : (parseMethodDescriptor "(II)V").map (fun d => d.parameters.length) = some 2 := by decide +kernel
set_option maxRecDepth 16384 in
theorem vf_182 : (parseMethodDescriptor "(III)I").map (fun d => d.parameters.length) = some 3 := by decide +kernel
set_option maxRecDepth 16384 in
theorem vf_183 : ve_de vs_A ⟨"Orderbench", "houseNumber", "(I)I"⟩ = true := by decide +kernel
set_option maxRecDepth 16384 in
theorem vf_184 : ve_ar vs_A 54 (.object "Orderbench$Row") = true := by decide +kernel
set_option maxRecDepth 16384 in
theorem vf_185 : (parseMethodDescriptor "(JLOrderbench$Row;)J").map (fun d => d.parameters.length) = some 2 := by decide +kernel
set_option maxRecDepth 16384 in
theorem vf_186 : ve_de vs_A ⟨"Orderbench", "digestBench", "(JLOrderbench$Row;)J"⟩ = true := by decide +kernel
set_option maxRecDepth 16384 in
theorem vf_187 : (parseMethodDescriptor "(JLOrderbench$Shape;)J").map (fun d => d.parameters.length) = some 2 := by decide +kernel
set_option maxRecDepth 16384 in
theorem vf_188 : ve_de vs_A ⟨"Orderbench", "digestOrder", "(JLOrderbench$Shape;)J"⟩ = true := by decide +kernel
set_option maxRecDepth 16384 in
theorem vf_189 : ve_de vs_A ⟨"Orderbench", "isSound", "()Z"⟩ = true := by decide +kernel
set_option maxRecDepth 16384 in
theorem vf_190 : (vs_A.fieldFound? "Orderbench$Row" "many" "I").any (fun q => q.2.2.2.slot.beq 1 && !q.2.2.2.isStatic) = true := by decide +kernel
set_option maxRecDepth 16384 in
theorem vf_191 : (vs_A.fieldFound? "Orderbench" "laid" "I").any (fun q => q.2.2.2.slot.beq 6 && !q.2.2.2.isStatic) = true := by decide +kernel
set_option maxRecDepth 16384 in
theorem vf_192 : ve_de vs_A ⟨"Orderbench", "howManySafe", "()I"⟩ = true := by decide +kernel
set_option maxRecDepth 16384 in
theorem vf_193 : (vs_A.fieldFound? "Orderbench" "refusals" "I").any (fun q => q.2.2.2.slot.beq 7 && !q.2.2.2.isStatic) = true := by decide +kernel
set_option maxRecDepth 16384 in
theorem vf_194 : (vs_A.fieldFound? "Orderbench" "knocks" "I").any (fun q => q.2.2.2.slot.beq 8 && !q.2.2.2.isStatic) = true := by decide +kernel
set_option maxRecDepth 16384 in
theorem vf_195 : ve_de vs_A ⟨"Orderbench$Row", "empties", "()I"⟩ = true := by decide +kernel
set_option maxRecDepth 16384 in
theorem vf_196 : ve_de vs_A ⟨"Orderbench$Row", "howOften", "(I)I"⟩ = true := by decide +kernel
set_option maxRecDepth 16384 in
theorem vf_197 : (vs_A.fieldFound? "Orderbench" "signs" "Ljava/lang/StringBuilder;").any (fun q => q.2.2.2.slot.beq 5 && !q.2.2.2.isStatic) = true := by decide +kernel
set_option maxRecDepth 16384 in
theorem vf_198 : ve_de vs_A ⟨"java/lang/StringBuilder", "setLength", "(I)V"⟩ = true := by decide +kernel
set_option maxRecDepth 16384 in
theorem vf_199 : (parseMethodDescriptor "(LOrderbench$Row;)V").map (fun d => d.parameters.length) = some 1 := by decide +kernel
set_option maxRecDepth 16384 in
theorem vf_200 : ve_de vs_A ⟨"Orderbench", "writeRow", "(LOrderbench$Row;)V"⟩ = true := by decide +kernel
set_option maxRecDepth 16384 in
theorem vf_201 : (parseMethodDescriptor "(J)J").map (fun d => d.parameters.length) = some 1 := by decide +kernel
set_option maxRecDepth 16384 in
theorem vf_202 : ve_de vs_A ⟨"Orderbench", "digestSigns", "(J)J"⟩ = true := by decide +kernel
set_option maxRecDepth 16384 in
theorem vf_203 : (parseMethodDescriptor "(LOrderbench$Row;LOrderbench$Shape;)Z").map (fun d => d.parameters.length) = some 2 := by decide +kernel
set_option maxRecDepth 16384 in
theorem vf_204 : (parseMethodDescriptor "(LOrderbench$Row;LOrderbench$Shape;)I").map (fun d => d.parameters.length) = some 2 := by decide +kernel
set_option maxRecDepth 16384 in
theorem vf_205 : (parseMethodDescriptor "(LOrderbench$Row;LOrderbench$Shape;I)I").map (fun d => d.parameters.length) = some 3 := by decide +kernel
set_option maxRecDepth 16384 in
theorem vf_206 : ve_cs vs_A 2 [36] .boolean = true := by decide +kernel
set_option maxRecDepth 16384 in
theorem vf_207 : (vs_A.fieldFound? "java/lang/AbstractStringBuilder" "maybeLatin1" "Z").any (fun q => q.2.2.2.slot.beq 2 && (!q.2.2.2.isStatic && (!hasFlag q.2.2.2.accessFlags Acc.final && decide (q.2.2.2.type = .boolean)))) = true := by decide +kernel
set_option maxRecDepth 16384 in
theorem vf_208 : ve_de vs_A ⟨"java/lang/StringBuilder", "length", "()I"⟩ = true := by decide +kernel
set_option maxRecDepth 16384 in
theorem vf_209 : (parseMethodDescriptor "(I)C").map (fun d => d.parameters.length) = some 1 := by decide +kernel
set_option maxRecDepth 16384 in
theorem vf_210 : ve_de vs_A ⟨"java/lang/StringBuilder", "charAt", "(I)C"⟩ = true := by decide +kernel
set_option maxRecDepth 16384 in
theorem vf_211 : (parseMethodDescriptor "(Ljava/lang/StringBuilder;I)V").map (fun d => d.parameters.length) = some 2 := by decide +kernel
set_option maxRecDepth 16384 in
theorem vf_212 : ve_de vs_A ⟨"Orderbench$Shape", "write", "(Ljava/lang/StringBuilder;I)V"⟩ = true := by decide +kernel
set_option maxRecDepth 16384 in
theorem vf_213 : (vs_A.fieldFound? "Orderbench$Turned" "of" "LOrderbench$Shape;").any (fun q => q.2.2.2.slot.beq 2 && !q.2.2.2.isStatic) = true := by decide +kernel
set_option maxRecDepth 16384 in
theorem vf_214 : (vs_A.fieldFound? "Orderbench$Base" "kind" "I").any (fun q => q.2.2.2.slot.beq 2 && !q.2.2.2.isStatic) = true := by decide +kernel
set_option maxRecDepth 16384 in
theorem vf_215 : vk_R "Orderbench$Base" 23 "wlpnbdt" 22 vs_A := ⟨by decide +kernel, by decide +kernel⟩
set_option maxRecDepth 16384 in
theorem vf_216 : ve_de vs_A ⟨"java/lang/String", "charAt", "(I)C"⟩ = true := by decide +kernel
set_option maxRecDepth 16384 in
theorem vf_217 : ve_de vs_A ⟨"java/lang/String", "isLatin1", "()Z"⟩ = true := by decide +kernel
set_option maxRecDepth 16384 in
theorem vf_218 : (parseMethodDescriptor "([BI)C").map (fun d => d.parameters.length) = some 2 := by decide +kernel
set_option maxRecDepth 16384 in
theorem vf_219 : (vs_A.fieldFound? "jdk/internal/util/Preconditions" "SIOOBE_FORMATTER" "Ljava/util/function/BiFunction;").any (fun q => q.2.2.2.slot.beq 2 && (q.2.2.2.isStatic && (decide (q.2.1.init = .initialized) && decide (q.2.1.statics = some 2)))) = true := by decide +kernel
set_option maxRecDepth 16384 in
theorem vf_220 : (parseMethodDescriptor "(IILjava/util/function/BiFunction;)I").map (fun d => d.parameters.length) = some 3 := by decide +kernel
set_option maxRecDepth 16384 in
theorem vf_221 : ve_de vs_A ⟨"Orderbench", "isSoundOn", "(LOrderbench$Row;LOrderbench$Shape;)Z"⟩ = true := by decide +kernel
set_option maxRecDepth 16384 in
theorem vf_222 : ve_de vs_A ⟨"Orderbench", "ranksAll", "(LOrderbench$Row;LOrderbench$Shape;)Z"⟩ = true := by decide +kernel
set_option maxRecDepth 16384 in
theorem vf_223 : (parseMethodDescriptor "(LOrderbench$Row;LOrderbench$Shape;LOrderbench$Shape;)Z").map (fun d => d.parameters.length) = some 3 := by decide +kernel
set_option maxRecDepth 16384 in
theorem vf_224 : ve_de vs_A ⟨"Orderbench", "sortsWell", "(LOrderbench$Row;LOrderbench$Shape;)Z"⟩ = true := by decide +kernel
set_option maxRecDepth 16384 in
theorem vf_225 : ve_de vs_A ⟨"Orderbench", "sortsAsTwice", "(LOrderbench$Row;LOrderbench$Shape;LOrderbench$Shape;)Z"⟩ = true := by decide +kernel
set_option maxRecDepth 16384 in
theorem vf_226 : (vs_A.fieldFound? "Orderbench" "copied" "LOrderbench$Row;").any (fun q => q.2.2.2.slot.beq 2 && !q.2.2.2.isStatic) = true := by decide +kernel
set_option maxRecDepth 16384 in
theorem vf_227 : (parseMethodDescriptor "(LOrderbench$Row;Z)V").map (fun d => d.parameters.length) = some 2 := by decide +kernel
set_option maxRecDepth 16384 in
theorem vf_228 : ve_de vs_A ⟨"Orderbench$Row", "becomeTaken", "(LOrderbench$Row;Z)V"⟩ = true := by decide +kernel
set_option maxRecDepth 16384 in
theorem vf_229 : ve_cs vs_A 1 [3] .int = true := by decide +kernel
set_option maxRecDepth 16384 in
theorem vf_230 : (vs_A.fieldFound? "Orderbench$Row" "many" "I").any (fun q => q.2.2.2.slot.beq 1 && (!q.2.2.2.isStatic && (!hasFlag q.2.2.2.accessFlags Acc.final && decide (q.2.2.2.type = .int)))) = true := by decide +kernel
set_option maxRecDepth 16384 in
theorem vf_231 : ve_de vs_A ⟨"Orderbench$Row", "become", "(LOrderbench$Row;)V"⟩ = true := by decide +kernel
set_option maxRecDepth 16384 in
theorem vf_232 : ve_de vs_A ⟨"Orderbench$Row", "arrange", "(LOrderbench$Shape;)V"⟩ = true := by decide +kernel
set_option maxRecDepth 16384 in
theorem vf_233 : (parseMethodDescriptor "(LOrderbench$Row;)Z").map (fun d => d.parameters.length) = some 1 := by decide +kernel
set_option maxRecDepth 16384 in
theorem vf_234 : ve_de vs_A ⟨"Orderbench$Row", "holdsAllOf", "(LOrderbench$Row;)Z"⟩ = true := by decide +kernel
set_option maxRecDepth 16384 in
theorem vf_235 : (vs_A.fieldFound? "Orderbench" "copiedToo" "LOrderbench$Row;").any (fun q => q.2.2.2.slot.beq 3 && !q.2.2.2.isStatic) = true := by decide +kernel
set_option maxRecDepth 16384 in
theorem vf_236 : (parseMethodDescriptor "(LOrderbench$Row;)I").map (fun d => d.parameters.length) = some 1 := by decide +kernel
set_option maxRecDepth 16384 in
theorem vf_237 : ve_de vs_A ⟨"Orderbench$Row", "unlike", "(LOrderbench$Row;)I"⟩ = true := by decide +kernel
set_option maxRecDepth 16384 in
theorem vf_238 : vs_A.vm.findClass "Orderbench$Together" = some 33 := by decide +kernel
set_option maxRecDepth 16384 in
theorem vf_239 : (vs_A.vm.classes[33]?).any (fun k => decide (k.instanceTypes.map defaultValue = ([.int 0, .int 0, .null, .null] : List Value).toArray)) = true := by decide +kernel
set_option maxRecDepth 16384 in
theorem vf_240 : (parseMethodDescriptor "(LOrderbench$Shape;LOrderbench$Shape;)V").map (fun d => d.parameters.length) = some 2 := by decide +kernel
set_option maxRecDepth 16384 in
theorem vf_241 : ve_cs vs_A 2 [33] (.object "Orderbench$Shape") = true := by decide +kernel
set_option maxRecDepth 16384 in
theorem vf_242 : (vs_A.fieldFound? "Orderbench$Together" "first" "LOrderbench$Shape;").any (fun q => q.2.2.2.slot.beq 2 && (!q.2.2.2.isStatic && (decide (vs_A.vm.findClass "Orderbench$Together" = some q.1) && decide (q.2.2.2.type = (.object "Orderbench$Shape"))))) = true := by decide +kernel
set_option maxRecDepth 16384 in
theorem vf_243 : ve_cs vs_A 3 [33] (.object "Orderbench$Shape") = true := by decide +kernel
set_option maxRecDepth 16384 in
theorem vf_244 : (vs_A.fieldFound? "Orderbench$Together" "second" "LOrderbench$Shape;").any (fun q => q.2.2.2.slot.beq 3 && (!q.2.2.2.isStatic && (decide (vs_A.vm.findClass "Orderbench$Together" = some q.1) && decide (q.2.2.2.type = (.object "Orderbench$Shape"))))) = true := by decide +kernel
set_option maxRecDepth 16384 in
theorem vf_245 : ve_de vs_A ⟨"OrderbenchModel", "houseOf", "(I)I"⟩ = true := by decide +kernel
set_option maxRecDepth 16384 in
theorem vf_246 : (parseMethodDescriptor "(JJ)J").map (fun d => d.parameters.length) = some 2 := by decide +kernel
set_option maxRecDepth 16384 in
theorem vf_247 : (parseMethodDescriptor "(I)Ljava/lang/String;").map (fun d => d.parameters.length) = some 1 := by decide +kernel
set_option maxRecDepth 16384 in
theorem vf_248 : ve_de vs_A ⟨"OrderbenchModel", "textOf", "(I)Ljava/lang/String;"⟩ = true := by decide +kernel
set_option maxRecDepth 16384 in
theorem vf_249 : (parseMethodDescriptor "(JLjava/lang/String;)J").map (fun d => d.parameters.length) = some 2 := by decide +kernel
set_option maxRecDepth 16384 in
theorem vf_250 : (parseMethodDescriptor "(II)Z").map (fun d => d.parameters.length) = some 2 := by decide +kernel
set_option maxRecDepth 16384 in
theorem vf_251 : ve_de vs_A ⟨"OrderbenchModel", "isSortedBy", "(II)Z"⟩ = true := by decide +kernel
set_option maxRecDepth 16384 in
theorem vf_252 : (parseMethodDescriptor "(Z)I").map (fun d => d.parameters.length) = some 1 := by decide +kernel
set_option maxRecDepth 16384 in
theorem vf_253 : ve_de vs_A ⟨"OrderbenchModel", "classesOf", "(II)I"⟩ = true := by decide +kernel
set_option maxRecDepth 16384 in
theorem vf_254 : ve_de vs_A ⟨"OrderbenchModel", "endOf", "(III)I"⟩ = true := by decide +kernel
set_option maxRecDepth 16384 in
theorem vf_255 : ve_de vs_A ⟨"OrderbenchModel$Shape", "isSafe", "()Z"⟩ = true := by decide +kernel
set_option maxRecDepth 16384 in
theorem vf_256 : ve_de vs_A ⟨"OrderbenchModel", "many", "(I)I"⟩ = true := by decide +kernel
set_option maxRecDepth 16384 in
theorem vf_257 : (vs_A.fieldFound? "OrderbenchModel" "laid" "I").any (fun q => q.2.2.2.slot.beq 3 && !q.2.2.2.isStatic) = true := by decide +kernel
set_option maxRecDepth 16384 in
theorem vf_258 : (vs_A.fieldFound? "OrderbenchModel" "refused" "I").any (fun q => q.2.2.2.slot.beq 4 && !q.2.2.2.isStatic) = true := by decide +kernel
set_option maxRecDepth 16384 in
theorem vf_259 : (vs_A.fieldFound? "OrderbenchModel" "knocks" "I").any (fun q => q.2.2.2.slot.beq 5 && !q.2.2.2.isStatic) = true := by decide +kernel
set_option maxRecDepth 16384 in
theorem vf_260 : ve_de vs_A ⟨"OrderbenchModel", "nothingsOn", "(I)I"⟩ = true := by decide +kernel
set_option maxRecDepth 16384 in
theorem vf_261 : ve_de vs_A ⟨"OrderbenchModel$Shape", "isEnds", "()Z"⟩ = true := by decide +kernel
set_option maxRecDepth 16384 in
theorem vf_262 : (parseMethodDescriptor "(I)Ljava/lang/Object;").map (fun d => d.parameters.length) = some 1 := by decide +kernel
set_option maxRecDepth 16384 in
theorem vf_263 : ve_de vs_A ⟨"java/util/ArrayList", "get", "(I)Ljava/lang/Object;"⟩ = true := by decide +kernel
set_option maxRecDepth 16384 in
theorem vf_264 : ([47] : List Nat).all (fun x => x.blt 1000 && vs_A.vm.assignable x 47) = true := by decide +kernel
set_option maxRecDepth 16384 in
theorem vf_265 : ve_de vs_A ⟨"java/util/ArrayList", "size", "()I"⟩ = true := by decide +kernel
set_option maxRecDepth 16384 in
theorem vf_266 : ve_de vs_A ⟨"java/util/ArrayList", "elementData", "(I)Ljava/lang/Object;"⟩ = true := by decide +kernel
set_option maxRecDepth 16384 in
theorem vf_267 : vk_R "OrderbenchModel" 61 "" 42 vs_A := ⟨by decide +kernel, by decide +kernel⟩
set_option maxRecDepth 16384 in
theorem vf_268 : ve_de vs_A ⟨"OrderbenchModel", "takesBench", "(II)Z"⟩ = true := by decide +kernel
set_option maxRecDepth 16384 in
theorem vf_269 : ve_de vs_A ⟨"OrderbenchModel", "hasNothing", "(I)Z"⟩ = true := by decide +kernel
set_option maxRecDepth 16384 in
theorem vf_270 : ve_de vs_A ⟨"OrderbenchModel", "takesEach", "(II)Z"⟩ = true := by decide +kernel
