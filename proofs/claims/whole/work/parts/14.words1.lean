theorem vw_451 : (Cond.code ⟨"java/lang/String", "charAt", "(I)C"⟩ prog_28_method_56_code 2 (some .char)).before #[] vs_A = true := List.all_eq_true.mp vwb_11 _ (List.mem_of_getElem? (i := 11) rfl)
theorem vw_452 : (Cond.methodLink "Orderbench$Base" 31 ⟨"java/lang/String", "charAt", "(I)C"⟩).before #[] vs_A = true := List.all_eq_true.mp vwb_11 _ (List.mem_of_getElem? (i := 12) rfl)
theorem vw_453 : (Cond.sameMethod "java/lang/String" "java/lang/String" "charAt" "(I)C").before #[] vs_A = true := List.all_eq_true.mp vwb_11 _ (List.mem_of_getElem? (i := 13) rfl)
theorem vw_454 : (Cond.selects "java/lang/String" ⟨"java/lang/String", "charAt", "(I)C"⟩ ⟨"java/lang/String", "charAt", "(I)C"⟩).before #[] vs_A = true := List.all_eq_true.mp vwb_11 _ (List.mem_of_getElem? (i := 14) rfl)
theorem vw_455 : (Cond.methodLink "Orderbench$Base" 35 ⟨"java/lang/StringBuilder", "append", "(C)Ljava/lang/StringBuilder;"⟩).before #[] vs_A = true := List.all_eq_true.mp vwb_11 _ (List.mem_of_getElem? (i := 15) rfl)
theorem vw_456 : (Cond.instanceMethod ⟨"java/lang/String", "isLatin1", "()Z"⟩).before #[] vs_A = true := List.all_eq_true.mp vwb_11 _ (List.mem_of_getElem? (i := 16) rfl)
theorem vw_457 : (Cond.code ⟨"java/lang/String", "isLatin1", "()Z"⟩ prog_28_method_154_code 1 (some .boolean)).before #[] vs_A = true := List.all_eq_true.mp vwb_11 _ (List.mem_of_getElem? (i := 17) rfl)
theorem vw_458 : (Cond.methodLink "java/lang/String" 492 ⟨"java/lang/String", "isLatin1", "()Z"⟩).before #[] vs_A = true := List.all_eq_true.mp vwb_11 _ (List.mem_of_getElem? (i := 18) rfl)
theorem vw_459 : (Cond.sameMethod "java/lang/String" "java/lang/String" "isLatin1" "()Z").before #[] vs_A = true := List.all_eq_true.mp vwb_11 _ (List.mem_of_getElem? (i := 19) rfl)
theorem vw_460 : (Cond.selects "java/lang/String" ⟨"java/lang/String", "isLatin1", "()Z"⟩ ⟨"java/lang/String", "isLatin1", "()Z"⟩).before #[] vs_A = true := List.all_eq_true.mp vwb_11 _ (List.mem_of_getElem? (i := 20) rfl)
theorem vw_461 : (Cond.methodLink "java/lang/String" 495 ⟨"java/lang/StringLatin1", "charAt", "([BI)C"⟩).before #[] vs_A = true := List.all_eq_true.mp vwb_11 _ (List.mem_of_getElem? (i := 21) rfl)
theorem vw_462 : (Cond.static ⟨"java/lang/StringLatin1", "charAt", "([BI)C"⟩).before #[] vs_A = true := List.all_eq_true.mp vwb_11 _ (List.mem_of_getElem? (i := 22) rfl)
theorem vw_463 : (Cond.code ⟨"java/lang/StringLatin1", "charAt", "([BI)C"⟩ prog_31_method_2_code 2 (some .char)).before #[] vs_A = true := List.all_eq_true.mp vwb_11 _ (List.mem_of_getElem? (i := 23) rfl)
theorem vw_464 : (Cond.methodLink "java/lang/StringLatin1" 9 ⟨"java/lang/String", "checkIndex", "(II)V"⟩).before #[] vs_A = true := List.all_eq_true.mp vwb_11 _ (List.mem_of_getElem? (i := 24) rfl)
theorem vw_465 : (Cond.static ⟨"java/lang/String", "checkIndex", "(II)V"⟩).before #[] vs_A = true := List.all_eq_true.mp vwb_11 _ (List.mem_of_getElem? (i := 25) rfl)
theorem vw_466 : (Cond.code ⟨"java/lang/String", "checkIndex", "(II)V"⟩ prog_28_method_155_code 2 none).before #[] vs_A = true := List.all_eq_true.mp vwb_11 _ (List.mem_of_getElem? (i := 26) rfl)
theorem vw_467 : (Cond.fieldLink "java/lang/String" 1053 "jdk/internal/util/Preconditions" "SIOOBE_FORMATTER" "Ljava/util/function/BiFunction;").before #[] vs_A = true := List.all_eq_true.mp vwb_11 _ (List.mem_of_getElem? (i := 27) rfl)
theorem vw_468 : (Cond.methodLink "java/lang/String" 1059 ⟨"jdk/internal/util/Preconditions", "checkIndex", "(IILjava/util/function/BiFunction;)I"⟩).before #[] vs_A = true := List.all_eq_true.mp vwb_11 _ (List.mem_of_getElem? (i := 28) rfl)
theorem vw_469 : (Cond.static ⟨"jdk/internal/util/Preconditions", "checkIndex", "(IILjava/util/function/BiFunction;)I"⟩).before #[] vs_A = true := List.all_eq_true.mp vwb_11 _ (List.mem_of_getElem? (i := 29) rfl)
theorem vw_470 : (Cond.initialized "jdk/internal/util/Preconditions").before #[] vs_A = true := List.all_eq_true.mp vwb_11 _ (List.mem_of_getElem? (i := 30) rfl)
theorem vw_471 : (Cond.code ⟨"jdk/internal/util/Preconditions", "checkIndex", "(IILjava/util/function/BiFunction;)I"⟩ prog_49_method_11_code 3 (some .int)).before #[] vs_A = true := List.all_eq_true.mp vwb_11 _ (List.mem_of_getElem? (i := 31) rfl)
theorem vw_472 : (Cond.instanceMethod ⟨"java/lang/AbstractStringBuilder", "charAt", "(I)C"⟩).before #[] vs_A = true := List.all_eq_true.mp vwb_11 _ (List.mem_of_getElem? (i := 32) rfl)
theorem vw_473 : (Cond.code ⟨"java/lang/AbstractStringBuilder", "charAt", "(I)C"⟩ prog_13_method_14_code 5 (some .char)).before #[] vs_A = true := List.all_eq_true.mp vwb_11 _ (List.mem_of_getElem? (i := 33) rfl)
theorem vw_474 : (Cond.methodLink "java/lang/StringBuilder" 329 ⟨"java/lang/AbstractStringBuilder", "charAt", "(I)C"⟩).before #[] vs_A = true := List.all_eq_true.mp vwb_11 _ (List.mem_of_getElem? (i := 34) rfl)
theorem vw_475 : (Cond.sameMethod "java/lang/AbstractStringBuilder" "java/lang/AbstractStringBuilder" "charAt" "(I)C").before #[] vs_A = true := List.all_eq_true.mp vwb_11 _ (List.mem_of_getElem? (i := 35) rfl)
theorem vw_476 : (Cond.methodLink "java/lang/AbstractStringBuilder" 138 ⟨"java/lang/Math", "min", "(II)I"⟩).before #[] vs_A = true := List.all_eq_true.mp vwb_11 _ (List.mem_of_getElem? (i := 36) rfl)
theorem vw_477 : (Cond.methodLink "java/lang/AbstractStringBuilder" 144 ⟨"java/lang/String", "checkIndex", "(II)V"⟩).before #[] vs_A = true := List.all_eq_true.mp vwb_11 _ (List.mem_of_getElem? (i := 37) rfl)
theorem vw_478 : (Cond.instanceMethod ⟨"Orderbench", "isSoundOn", "(LOrderbench$Row;LOrderbench$Shape;)Z"⟩).before #[] vs_A = true := List.all_eq_true.mp vwb_11 _ (List.mem_of_getElem? (i := 38) rfl)
theorem vw_479 : (Cond.code ⟨"Orderbench", "isSoundOn", "(LOrderbench$Row;LOrderbench$Shape;)Z"⟩ prog_1_method_68_code 4 (some .boolean)).before #[] vs_A = true := List.all_eq_true.mp vwb_11 _ (List.mem_of_getElem? (i := 39) rfl)
def vwl_12 : List Cond := [Cond.methodLink "Orderbench" 223 ⟨"Orderbench", "isSoundOn", "(LOrderbench$Row;LOrderbench$Shape;)Z"⟩,
  Cond.sameMethod "Orderbench" "Orderbench" "isSoundOn" "(LOrderbench$Row;LOrderbench$Shape;)Z",
  Cond.selects "Orderbench" ⟨"Orderbench", "isSoundOn", "(LOrderbench$Row;LOrderbench$Shape;)Z"⟩ ⟨"Orderbench", "isSoundOn", "(LOrderbench$Row;LOrderbench$Shape;)Z"⟩,
  Cond.instanceMethod ⟨"Orderbench", "ranksAll", "(LOrderbench$Row;LOrderbench$Shape;)Z"⟩,
  Cond.code ⟨"Orderbench", "ranksAll", "(LOrderbench$Row;LOrderbench$Shape;)Z"⟩ prog_1_method_57_code 6 (some .boolean),
  Cond.methodLink "Orderbench" 182 ⟨"Orderbench", "ranksAll", "(LOrderbench$Row;LOrderbench$Shape;)Z"⟩,
  Cond.sameMethod "Orderbench" "Orderbench" "ranksAll" "(LOrderbench$Row;LOrderbench$Shape;)Z",
  Cond.selects "Orderbench" ⟨"Orderbench", "ranksAll", "(LOrderbench$Row;LOrderbench$Shape;)Z"⟩ ⟨"Orderbench", "ranksAll", "(LOrderbench$Row;LOrderbench$Shape;)Z"⟩,
  Cond.methodLink "Orderbench" 178 ⟨"Orderbench", "tellTheSame", "(LOrderbench$Row;LOrderbench$Shape;LOrderbench$Shape;)Z"⟩,
  Cond.static ⟨"Orderbench", "tellTheSame", "(LOrderbench$Row;LOrderbench$Shape;LOrderbench$Shape;)Z"⟩,
  Cond.code ⟨"Orderbench", "tellTheSame", "(LOrderbench$Row;LOrderbench$Shape;LOrderbench$Shape;)Z"⟩ prog_1_method_56_code 7 (some .boolean),
  Cond.instanceMethod ⟨"Orderbench", "sortsWell", "(LOrderbench$Row;LOrderbench$Shape;)Z"⟩,
  Cond.code ⟨"Orderbench", "sortsWell", "(LOrderbench$Row;LOrderbench$Shape;)Z"⟩ prog_1_method_67_code 3 (some .boolean),
  Cond.methodLink "Orderbench" 301 ⟨"Orderbench", "sortsWell", "(LOrderbench$Row;LOrderbench$Shape;)Z"⟩,
  Cond.sameMethod "Orderbench" "Orderbench" "sortsWell" "(LOrderbench$Row;LOrderbench$Shape;)Z",
  Cond.selects "Orderbench" ⟨"Orderbench", "sortsWell", "(LOrderbench$Row;LOrderbench$Shape;)Z"⟩ ⟨"Orderbench", "sortsWell", "(LOrderbench$Row;LOrderbench$Shape;)Z"⟩,
  Cond.instanceMethod ⟨"Orderbench", "sortsAsTwice", "(LOrderbench$Row;LOrderbench$Shape;LOrderbench$Shape;)Z"⟩,
  Cond.code ⟨"Orderbench", "sortsAsTwice", "(LOrderbench$Row;LOrderbench$Shape;LOrderbench$Shape;)Z"⟩ prog_1_method_66_code 4 (some .boolean),
  Cond.methodLink "Orderbench" 206 ⟨"Orderbench", "sortsAsTwice", "(LOrderbench$Row;LOrderbench$Shape;LOrderbench$Shape;)Z"⟩,
  Cond.sameMethod "Orderbench" "Orderbench" "sortsAsTwice" "(LOrderbench$Row;LOrderbench$Shape;LOrderbench$Shape;)Z",
  Cond.selects "Orderbench" ⟨"Orderbench", "sortsAsTwice", "(LOrderbench$Row;LOrderbench$Shape;LOrderbench$Shape;)Z"⟩ ⟨"Orderbench", "sortsAsTwice", "(LOrderbench$Row;LOrderbench$Shape;LOrderbench$Shape;)Z"⟩,
  Cond.instanceMethod ⟨"Orderbench$Row", "becomeTaken", "(LOrderbench$Row;Z)V"⟩,
  Cond.code ⟨"Orderbench$Row", "becomeTaken", "(LOrderbench$Row;Z)V"⟩ prog_4_method_8_code 5 none,
  Cond.methodLink "Orderbench" 282 ⟨"Orderbench$Row", "becomeTaken", "(LOrderbench$Row;Z)V"⟩,
  Cond.sameMethod "Orderbench$Row" "Orderbench$Row" "becomeTaken" "(LOrderbench$Row;Z)V",
  Cond.selects "Orderbench$Row" ⟨"Orderbench$Row", "becomeTaken", "(LOrderbench$Row;Z)V"⟩ ⟨"Orderbench$Row", "becomeTaken", "(LOrderbench$Row;Z)V"⟩,
  Cond.instanceMethod ⟨"Orderbench$Row", "become", "(LOrderbench$Row;)V"⟩,
  Cond.code ⟨"Orderbench$Row", "become", "(LOrderbench$Row;)V"⟩ prog_4_method_7_code 2 none,
  Cond.methodLink "Orderbench" 96 ⟨"Orderbench$Row", "become", "(LOrderbench$Row;)V"⟩,
  Cond.sameMethod "Orderbench$Row" "Orderbench$Row" "become" "(LOrderbench$Row;)V",
  Cond.selects "Orderbench$Row" ⟨"Orderbench$Row", "become", "(LOrderbench$Row;)V"⟩ ⟨"Orderbench$Row", "become", "(LOrderbench$Row;)V"⟩,
  Cond.instanceMethod ⟨"Orderbench$Row", "arrange", "(LOrderbench$Shape;)V"⟩,
  Cond.code ⟨"Orderbench$Row", "arrange", "(LOrderbench$Shape;)V"⟩ prog_4_method_13_code 5 none,
  Cond.methodLink "Orderbench" 111 ⟨"Orderbench$Row", "arrange", "(LOrderbench$Shape;)V"⟩,
  Cond.sameMethod "Orderbench$Row" "Orderbench$Row" "arrange" "(LOrderbench$Shape;)V",
  Cond.selects "Orderbench$Row" ⟨"Orderbench$Row", "arrange", "(LOrderbench$Shape;)V"⟩ ⟨"Orderbench$Row", "arrange", "(LOrderbench$Shape;)V"⟩,
  Cond.instanceMethod ⟨"Orderbench$Row", "holdsAllOf", "(LOrderbench$Row;)Z"⟩,
  Cond.code ⟨"Orderbench$Row", "holdsAllOf", "(LOrderbench$Row;)Z"⟩ prog_4_method_12_code 3 (some .boolean),
  Cond.methodLink "Orderbench" 297 ⟨"Orderbench$Row", "holdsAllOf", "(LOrderbench$Row;)Z"⟩,
  Cond.sameMethod "Orderbench$Row" "Orderbench$Row" "holdsAllOf" "(LOrderbench$Row;)Z"]
set_option maxRecDepth 100000 in
theorem vwb_12 : vwl_12.all (fun w => w.before #[] vs_A) = true := by decide +kernel
theorem vw_480 : (Cond.methodLink "Orderbench" 223 ⟨"Orderbench", "isSoundOn", "(LOrderbench$Row;LOrderbench$Shape;)Z"⟩).before #[] vs_A = true := List.all_eq_true.mp vwb_12 _ (List.mem_of_getElem? (i := 0) rfl)
theorem vw_481 : (Cond.sameMethod "Orderbench" "Orderbench" "isSoundOn" "(LOrderbench$Row;LOrderbench$Shape;)Z").before #[] vs_A = true := List.all_eq_true.mp vwb_12 _ (List.mem_of_getElem? (i := 1) rfl)
theorem vw_482 : (Cond.selects "Orderbench" ⟨"Orderbench", "isSoundOn", "(LOrderbench$Row;LOrderbench$Shape;)Z"⟩ ⟨"Orderbench", "isSoundOn", "(LOrderbench$Row;LOrderbench$Shape;)Z"⟩).before #[] vs_A = true := List.all_eq_true.mp vwb_12 _ (List.mem_of_getElem? (i := 2) rfl)
theorem vw_483 : (Cond.instanceMethod ⟨"Orderbench", "ranksAll", "(LOrderbench$Row;LOrderbench$Shape;)Z"⟩).before #[] vs_A = true := List.all_eq_true.mp vwb_12 _ (List.mem_of_getElem? (i := 3) rfl)
theorem vw_484 : (Cond.code ⟨"Orderbench", "ranksAll", "(LOrderbench$Row;LOrderbench$Shape;)Z"⟩ prog_1_method_57_code 6 (some .boolean)).before #[] vs_A = true := List.all_eq_true.mp vwb_12 _ (List.mem_of_getElem? (i := 4) rfl)
theorem vw_485 : (Cond.methodLink "Orderbench" 182 ⟨"Orderbench", "ranksAll", "(LOrderbench$Row;LOrderbench$Shape;)Z"⟩).before #[] vs_A = true := List.all_eq_true.mp vwb_12 _ (List.mem_of_getElem? (i := 5) rfl)
theorem vw_486 : (Cond.sameMethod "Orderbench" "Orderbench" "ranksAll" "(LOrderbench$Row;LOrderbench$Shape;)Z").before #[] vs_A = true := List.all_eq_true.mp vwb_12 _ (List.mem_of_getElem? (i := 6) rfl)
theorem vw_487 : (Cond.selects "Orderbench" ⟨"Orderbench", "ranksAll", "(LOrderbench$Row;LOrderbench$Shape;)Z"⟩ ⟨"Orderbench", "ranksAll", "(LOrderbench$Row;LOrderbench$Shape;)Z"⟩).before #[] vs_A = true := List.all_eq_true.mp vwb_12 _ (List.mem_of_getElem? (i := 7) rfl)
theorem vw_488 : (Cond.methodLink "Orderbench" 178 ⟨"Orderbench", "tellTheSame", "(LOrderbench$Row;LOrderbench$Shape;LOrderbench$Shape;)Z"⟩).before #[] vs_A = true := List.all_eq_true.mp vwb_12 _ (List.mem_of_getElem? (i := 8) rfl)
theorem vw_489 : (Cond.static ⟨"Orderbench", "tellTheSame", "(LOrderbench$Row;LOrderbench$Shape;LOrderbench$Shape;)Z"⟩).before #[] vs_A = true := List.all_eq_true.mp vwb_12 _ (List.mem_of_getElem? (i := 9) rfl)
theorem vw_490 : (Cond.code ⟨"Orderbench", "tellTheSame", "(LOrderbench$Row;LOrderbench$Shape;LOrderbench$Shape;)Z"⟩ prog_1_method_56_code 7 (some .boolean)).before #[] vs_A = true := List.all_eq_true.mp vwb_12 _ (List.mem_of_getElem? (i := 10) rfl)
theorem vw_491 : (Cond.instanceMethod ⟨"Orderbench", "sortsWell", "(LOrderbench$Row;LOrderbench$Shape;)Z"⟩).before #[] vs_A = true := List.all_eq_true.mp vwb_12 _ (List.mem_of_getElem? (i := 11) rfl)
theorem vw_492 : (Cond.code ⟨"Orderbench", "sortsWell", "(LOrderbench$Row;LOrderbench$Shape;)Z"⟩ prog_1_method_67_code 3 (some .boolean)).before #[] vs_A = true := List.all_eq_true.mp vwb_12 _ (List.mem_of_getElem? (i := 12) rfl)
theorem vw_493 : (Cond.methodLink "Orderbench" 301 ⟨"Orderbench", "sortsWell", "(LOrderbench$Row;LOrderbench$Shape;)Z"⟩).before #[] vs_A = true := List.all_eq_true.mp vwb_12 _ (List.mem_of_getElem? (i := 13) rfl)
theorem vw_494 : (Cond.sameMethod "Orderbench" "Orderbench" "sortsWell" "(LOrderbench$Row;LOrderbench$Shape;)Z").before #[] vs_A = true := List.all_eq_true.mp vwb_12 _ (List.mem_of_getElem? (i := 14) rfl)
theorem vw_495 : (Cond.selects "Orderbench" ⟨"Orderbench", "sortsWell", "(LOrderbench$Row;LOrderbench$Shape;)Z"⟩ ⟨"Orderbench", "sortsWell", "(LOrderbench$Row;LOrderbench$Shape;)Z"⟩).before #[] vs_A = true := List.all_eq_true.mp vwb_12 _ (List.mem_of_getElem? (i := 15) rfl)
theorem vw_496 : (Cond.instanceMethod ⟨"Orderbench", "sortsAsTwice", "(LOrderbench$Row;LOrderbench$Shape;LOrderbench$Shape;)Z"⟩).before #[] vs_A = true := List.all_eq_true.mp vwb_12 _ (List.mem_of_getElem? (i := 16) rfl)
theorem vw_497 : (Cond.code ⟨"Orderbench", "sortsAsTwice", "(LOrderbench$Row;LOrderbench$Shape;LOrderbench$Shape;)Z"⟩ prog_1_method_66_code 4 (some .boolean)).before #[] vs_A = true := List.all_eq_true.mp vwb_12 _ (List.mem_of_getElem? (i := 17) rfl)
theorem vw_498 : (Cond.methodLink "Orderbench" 206 ⟨"Orderbench", "sortsAsTwice", "(LOrderbench$Row;LOrderbench$Shape;LOrderbench$Shape;)Z"⟩).before #[] vs_A = true := List.all_eq_true.mp vwb_12 _ (List.mem_of_getElem? (i := 18) rfl)
theorem vw_499 : (Cond.sameMethod "Orderbench" "Orderbench" "sortsAsTwice" "(LOrderbench$Row;LOrderbench$Shape;LOrderbench$Shape;)Z").before #[] vs_A = true := List.all_eq_true.mp vwb_12 _ (List.mem_of_getElem? (i := 19) rfl)
theorem vw_500 : (Cond.selects "Orderbench" ⟨"Orderbench", "sortsAsTwice", "(LOrderbench$Row;LOrderbench$Shape;LOrderbench$Shape;)Z"⟩ ⟨"Orderbench", "sortsAsTwice", "(LOrderbench$Row;LOrderbench$Shape;LOrderbench$Shape;)Z"⟩).before #[] vs_A = true := List.all_eq_true.mp vwb_12 _ (List.mem_of_getElem? (i := 20) rfl)
theorem vw_501 : (Cond.instanceMethod ⟨"Orderbench$Row", "becomeTaken", "(LOrderbench$Row;Z)V"⟩).before #[] vs_A = true := List.all_eq_true.mp vwb_12 _ (List.mem_of_getElem? (i := 21) rfl)
theorem vw_502 : (Cond.code ⟨"Orderbench$Row", "becomeTaken", "(LOrderbench$Row;Z)V"⟩ prog_4_method_8_code 5 none).before #[] vs_A = true := List.all_eq_true.mp vwb_12 _ (List.mem_of_getElem? (i := 22) rfl)
theorem vw_503 : (Cond.methodLink "Orderbench" 282 ⟨"Orderbench$Row", "becomeTaken", "(LOrderbench$Row;Z)V"⟩).before #[] vs_A = true := List.all_eq_true.mp vwb_12 _ (List.mem_of_getElem? (i := 23) rfl)
theorem vw_504 : (Cond.sameMethod "Orderbench$Row" "Orderbench$Row" "becomeTaken" "(LOrderbench$Row;Z)V").before #[] vs_A = true := List.all_eq_true.mp vwb_12 _ (List.mem_of_getElem? (i := 24) rfl)
theorem vw_505 : (Cond.selects "Orderbench$Row" ⟨"Orderbench$Row", "becomeTaken", "(LOrderbench$Row;Z)V"⟩ ⟨"Orderbench$Row", "becomeTaken", "(LOrderbench$Row;Z)V"⟩).before #[] vs_A = true := List.all_eq_true.mp vwb_12 _ (List.mem_of_getElem? (i := 25) rfl)
theorem vw_506 : (Cond.instanceMethod ⟨"Orderbench$Row", "become", "(LOrderbench$Row;)V"⟩).before #[] vs_A = true := List.all_eq_true.mp vwb_12 _ (List.mem_of_getElem? (i := 26) rfl)
theorem vw_507 : (Cond.code ⟨"Orderbench$Row", "become", "(LOrderbench$Row;)V"⟩ prog_4_method_7_code 2 none).before #[] vs_A = true := List.all_eq_true.mp vwb_12 _ (List.mem_of_getElem? (i := 27) rfl)
theorem vw_508 : (Cond.methodLink "Orderbench" 96 ⟨"Orderbench$Row", "become", "(LOrderbench$Row;)V"⟩).before #[] vs_A = true := List.all_eq_true.mp vwb_12 _ (List.mem_of_getElem? (i := 28) rfl)
theorem vw_509 : (Cond.sameMethod "Orderbench$Row" "Orderbench$Row" "become" "(LOrderbench$Row;)V").before #[] vs_A = true := List.all_eq_true.mp vwb_12 _ (List.mem_of_getElem? (i := 29) rfl)
theorem vw_510 : (Cond.selects "Orderbench$Row" ⟨"Orderbench$Row", "become", "(LOrderbench$Row;)V"⟩ ⟨"Orderbench$Row", "become", "(LOrderbench$Row;)V"⟩).before #[] vs_A = true := List.all_eq_true.mp vwb_12 _ (List.mem_of_getElem? (i := 30) rfl)
theorem vw_511 : (Cond.instanceMethod ⟨"Orderbench$Row", "arrange", "(LOrderbench$Shape;)V"⟩).before #[] vs_A = true := List.all_eq_true.mp vwb_12 _ (List.mem_of_getElem? (i := 31) rfl)
theorem vw_512 : (Cond.code ⟨"Orderbench$Row", "arrange", "(LOrderbench$Shape;)V"⟩ prog_4_method_13_code 5 none).before #[] vs_A = true := List.all_eq_true.mp vwb_12 _ (List.mem_of_getElem? (i := 32) rfl)
theorem vw_513 : (Cond.methodLink "Orderbench" 111 ⟨"Orderbench$Row", "arrange", "(LOrderbench$Shape;)V"⟩).before #[] vs_A = true := List.all_eq_true.mp vwb_12 _ (List.mem_of_getElem? (i := 33) rfl)
theorem vw_514 : (Cond.sameMethod "Orderbench$Row" "Orderbench$Row" "arrange" "(LOrderbench$Shape;)V").before #[] vs_A = true := List.all_eq_true.mp vwb_12 _ (List.mem_of_getElem? (i := 34) rfl)
theorem vw_515 : (Cond.selects "Orderbench$Row" ⟨"Orderbench$Row", "arrange", "(LOrderbench$Shape;)V"⟩ ⟨"Orderbench$Row", "arrange", "(LOrderbench$Shape;)V"⟩).before #[] vs_A = true := List.all_eq_true.mp vwb_12 _ (List.mem_of_getElem? (i := 35) rfl)
theorem vw_516 : (Cond.instanceMethod ⟨"Orderbench$Row", "holdsAllOf", "(LOrderbench$Row;)Z"⟩).before #[] vs_A = true := List.all_eq_true.mp vwb_12 _ (List.mem_of_getElem? (i := 36) rfl)
theorem vw_517 : (Cond.code ⟨"Orderbench$Row", "holdsAllOf", "(LOrderbench$Row;)Z"⟩ prog_4_method_12_code 3 (some .boolean)).before #[] vs_A = true := List.all_eq_true.mp vwb_12 _ (List.mem_of_getElem? (i := 37) rfl)
theorem vw_518 : (Cond.methodLink "Orderbench" 297 ⟨"Orderbench$Row", "holdsAllOf", "(LOrderbench$Row;)Z"⟩).before #[] vs_A = true := List.all_eq_true.mp vwb_12 _ (List.mem_of_getElem? (i := 38) rfl)
theorem vw_519 : (Cond.sameMethod "Orderbench$Row" "Orderbench$Row" "holdsAllOf" "(LOrderbench$Row;)Z").before #[] vs_A = true := List.all_eq_true.mp vwb_12 _ (List.mem_of_getElem? (i := 39) rfl)
def vwl_13 : List Cond := [Cond.selects "Orderbench$Row" ⟨"Orderbench$Row", "holdsAllOf", "(LOrderbench$Row;)Z"⟩ ⟨"Orderbench$Row", "holdsAllOf", "(LOrderbench$Row;)Z"⟩,
  Cond.instanceMethod ⟨"Orderbench$Row", "unlike", "(LOrderbench$Row;)I"⟩,
  Cond.code ⟨"Orderbench$Row", "unlike", "(LOrderbench$Row;)I"⟩ prog_4_method_11_code 4 (some .int),
  Cond.methodLink "Orderbench" 115 ⟨"Orderbench$Row", "unlike", "(LOrderbench$Row;)I"⟩,
  Cond.sameMethod "Orderbench$Row" "Orderbench$Row" "unlike" "(LOrderbench$Row;)I",
  Cond.selects "Orderbench$Row" ⟨"Orderbench$Row", "unlike", "(LOrderbench$Row;)I"⟩ ⟨"Orderbench$Row", "unlike", "(LOrderbench$Row;)I"⟩,
  Cond.methodLink "Orderbench$Row" 23 ⟨"Orderbench$Row", "becomeTaken", "(LOrderbench$Row;Z)V"⟩,
  Cond.classLink "Orderbench" 142 "Orderbench$Together",
  Cond.instantiable "Orderbench$Together" 4,
  Cond.initialized "Orderbench$Together",
  Cond.instanceMethod ⟨"Orderbench$Together", "<init>", "(LOrderbench$Shape;LOrderbench$Shape;)V"⟩,
  Cond.code ⟨"Orderbench$Together", "<init>", "(LOrderbench$Shape;LOrderbench$Shape;)V"⟩ prog_6_method_1_code 3 none,
  Cond.methodLink "Orderbench" 144 ⟨"Orderbench$Together", "<init>", "(LOrderbench$Shape;LOrderbench$Shape;)V"⟩,
  Cond.fieldLink "Orderbench$Together" 3 "Orderbench$Shape" "length" "I",
  Cond.fieldLink "Orderbench$Together" 9 "Orderbench$Shape" "safe" "Z",
  Cond.methodLink "Orderbench$Together" 13 ⟨"Orderbench$Shape", "<init>", "(IZ)V"⟩,
  Cond.fieldLink "Orderbench$Together" 17 "Orderbench$Together" "first" "LOrderbench$Shape;",
  Cond.fieldLink "Orderbench$Together" 23 "Orderbench$Together" "second" "LOrderbench$Shape;",
  Cond.constantLong "OrderbenchModel" 236 (7773),
  Cond.instanceMethod ⟨"OrderbenchModel", "houseOf", "(I)I"⟩,
  Cond.code ⟨"OrderbenchModel", "houseOf", "(I)I"⟩ prog_10_method_64_code 7 (some .int),
  Cond.methodLink "OrderbenchModel" 228 ⟨"OrderbenchModel", "houseOf", "(I)I"⟩,
  Cond.sameMethod "OrderbenchModel" "OrderbenchModel" "houseOf" "(I)I",
  Cond.selects "OrderbenchModel" ⟨"OrderbenchModel", "houseOf", "(I)I"⟩ ⟨"OrderbenchModel", "houseOf", "(I)I"⟩,
  Cond.methodLink "OrderbenchModel" 233 ⟨"OrderbenchModel", "add", "(JJ)J"⟩,
  Cond.static ⟨"OrderbenchModel", "add", "(JJ)J"⟩,
  Cond.code ⟨"OrderbenchModel", "add", "(JJ)J"⟩ prog_10_method_68_code 4 (some .long),
  Cond.instanceMethod ⟨"OrderbenchModel", "textOf", "(I)Ljava/lang/String;"⟩,
  Cond.code ⟨"OrderbenchModel", "textOf", "(I)Ljava/lang/String;"⟩ prog_10_method_44_code 4 (some (.object "java/lang/String")),
  Cond.methodLink "OrderbenchModel" 200 ⟨"OrderbenchModel", "textOf", "(I)Ljava/lang/String;"⟩,
  Cond.sameMethod "OrderbenchModel" "OrderbenchModel" "textOf" "(I)Ljava/lang/String;",
  Cond.selects "OrderbenchModel" ⟨"OrderbenchModel", "textOf", "(I)Ljava/lang/String;"⟩ ⟨"OrderbenchModel", "textOf", "(I)Ljava/lang/String;"⟩,
  Cond.methodLink "OrderbenchModel" 238 ⟨"OrderbenchModel", "add", "(JLjava/lang/String;)J"⟩,
  Cond.static ⟨"OrderbenchModel", "add", "(JLjava/lang/String;)J"⟩,
  Cond.code ⟨"OrderbenchModel", "add", "(JLjava/lang/String;)J"⟩ prog_10_method_69_code 6 (some .long),
  Cond.instanceMethod ⟨"OrderbenchModel", "isSortedBy", "(II)Z"⟩,
  Cond.code ⟨"OrderbenchModel", "isSortedBy", "(II)Z"⟩ prog_10_method_52_code 4 (some .boolean),
  Cond.methodLink "OrderbenchModel" 211 ⟨"OrderbenchModel", "isSortedBy", "(II)Z"⟩,
  Cond.sameMethod "OrderbenchModel" "OrderbenchModel" "isSortedBy" "(II)Z",
  Cond.selects "OrderbenchModel" ⟨"OrderbenchModel", "isSortedBy", "(II)Z"⟩ ⟨"OrderbenchModel", "isSortedBy", "(II)Z"⟩]
set_option maxRecDepth 100000 in
theorem vwb_13 : vwl_13.all (fun w => w.before #[] vs_A) = true := by decide +kernel
theorem vw_520 : (Cond.selects "Orderbench$Row" ⟨"Orderbench$Row", "holdsAllOf", "(LOrderbench$Row;)Z"⟩ ⟨"Orderbench$Row", "holdsAllOf", "(LOrderbench$Row;)Z"⟩).before #[] vs_A = true := List.all_eq_true.mp vwb_13 _ (List.mem_of_getElem? (i := 0) rfl)
theorem vw_521 : (Cond.instanceMethod ⟨"Orderbench$Row", "unlike", "(LOrderbench$Row;)I"⟩).before #[] vs_A = true := List.all_eq_true.mp vwb_13 _ (List.mem_of_getElem? (i := 1) rfl)
theorem vw_522 : (Cond.code ⟨"Orderbench$Row", "unlike", "(LOrderbench$Row;)I"⟩ prog_4_method_11_code 4 (some .int)).before #[] vs_A = true := List.all_eq_true.mp vwb_13 _ (List.mem_of_getElem? (i := 2) rfl)
theorem vw_523 : (Cond.methodLink "Orderbench" 115 ⟨"Orderbench$Row", "unlike", "(LOrderbench$Row;)I"⟩).before #[] vs_A = true := List.all_eq_true.mp vwb_13 _ (List.mem_of_getElem? (i := 3) rfl)
theorem vw_524 : (Cond.sameMethod "Orderbench$Row" "Orderbench$Row" "unlike" "(LOrderbench$Row;)I").before #[] vs_A = true := List.all_eq_true.mp vwb_13 _ (List.mem_of_getElem? (i := 4) rfl)
theorem vw_525 : (Cond.selects "Orderbench$Row" ⟨"Orderbench$Row", "unlike", "(LOrderbench$Row;)I"⟩ ⟨"Orderbench$Row", "unlike", "(LOrderbench$Row;)I"⟩).before #[] vs_A = true := List.all_eq_true.mp vwb_13 _ (List.mem_of_getElem? (i := 5) rfl)
theorem vw_526 : (Cond.methodLink "Orderbench$Row" 23 ⟨"Orderbench$Row", "becomeTaken", "(LOrderbench$Row;Z)V"⟩).before #[] vs_A = true := List.all_eq_true.mp vwb_13 _ (List.mem_of_getElem? (i := 6) rfl)
theorem vw_527 : (Cond.classLink "Orderbench" 142 "Orderbench$Together").before #[] vs_A = true := List.all_eq_true.mp vwb_13 _ (List.mem_of_getElem? (i := 7) rfl)
theorem vw_528 : (Cond.instantiable "Orderbench$Together" 4).before #[] vs_A = true := List.all_eq_true.mp vwb_13 _ (List.mem_of_getElem? (i := 8) rfl)
theorem vw_529 : (Cond.initialized "Orderbench$Together").before #[] vs_A = true := List.all_eq_true.mp vwb_13 _ (List.mem_of_getElem? (i := 9) rfl)
theorem vw_530 : (Cond.instanceMethod ⟨"Orderbench$Together", "<init>", "(LOrderbench$Shape;LOrderbench$Shape;)V"⟩).before #[] vs_A = true := List.all_eq_true.mp vwb_13 _ (List.mem_of_getElem? (i := 10) rfl)
theorem vw_531 : (Cond.code ⟨"Orderbench$Together", "<init>", "(LOrderbench$Shape;LOrderbench$Shape;)V"⟩ prog_6_method_1_code 3 none).before #[] vs_A = true := List.all_eq_true.mp vwb_13 _ (List.mem_of_getElem? (i := 11) rfl)
theorem vw_532 : (Cond.methodLink "Orderbench" 144 ⟨"Orderbench$Together", "<init>", "(LOrderbench$Shape;LOrderbench$Shape;)V"⟩).before #[] vs_A = true := List.all_eq_true.mp vwb_13 _ (List.mem_of_getElem? (i := 12) rfl)
theorem vw_533 : (Cond.fieldLink "Orderbench$Together" 3 "Orderbench$Shape" "length" "I").before #[] vs_A = true := List.all_eq_true.mp vwb_13 _ (List.mem_of_getElem? (i := 13) rfl)
theorem vw_534 : (Cond.fieldLink "Orderbench$Together" 9 "Orderbench$Shape" "safe" "Z").before #[] vs_A = true := List.all_eq_true.mp vwb_13 _ (List.mem_of_getElem? (i := 14) rfl)
theorem vw_535 : (Cond.methodLink "Orderbench$Together" 13 ⟨"Orderbench$Shape", "<init>", "(IZ)V"⟩).before #[] vs_A = true := List.all_eq_true.mp vwb_13 _ (List.mem_of_getElem? (i := 15) rfl)
theorem vw_536 : (Cond.fieldLink "Orderbench$Together" 17 "Orderbench$Together" "first" "LOrderbench$Shape;").before #[] vs_A = true := List.all_eq_true.mp vwb_13 _ (List.mem_of_getElem? (i := 16) rfl)
theorem vw_537 : (Cond.fieldLink "Orderbench$Together" 23 "Orderbench$Together" "second" "LOrderbench$Shape;").before #[] vs_A = true := List.all_eq_true.mp vwb_13 _ (List.mem_of_getElem? (i := 17) rfl)
theorem vw_538 : (Cond.constantLong "OrderbenchModel" 236 (7773)).before #[] vs_A = true := List.all_eq_true.mp vwb_13 _ (List.mem_of_getElem? (i := 18) rfl)
theorem vw_539 : (Cond.instanceMethod ⟨"OrderbenchModel", "houseOf", "(I)I"⟩).before #[] vs_A = true := List.all_eq_true.mp vwb_13 _ (List.mem_of_getElem? (i := 19) rfl)
theorem vw_540 : (Cond.code ⟨"OrderbenchModel", "houseOf", "(I)I"⟩ prog_10_method_64_code 7 (some .int)).before #[] vs_A = true := List.all_eq_true.mp vwb_13 _ (List.mem_of_getElem? (i := 20) rfl)
theorem vw_541 : (Cond.methodLink "OrderbenchModel" 228 ⟨"OrderbenchModel", "houseOf", "(I)I"⟩).before #[] vs_A = true := List.all_eq_true.mp vwb_13 _ (List.mem_of_getElem? (i := 21) rfl)
theorem vw_542 : (Cond.sameMethod "OrderbenchModel" "OrderbenchModel" "houseOf" "(I)I").before #[] vs_A = true := List.all_eq_true.mp vwb_13 _ (List.mem_of_getElem? (i := 22) rfl)
theorem vw_543 : (Cond.selects "OrderbenchModel" ⟨"OrderbenchModel", "houseOf", "(I)I"⟩ ⟨"OrderbenchModel", "houseOf", "(I)I"⟩).before #[] vs_A = true := List.all_eq_true.mp vwb_13 _ (List.mem_of_getElem? (i := 23) rfl)
theorem vw_544 : (Cond.methodLink "OrderbenchModel" 233 ⟨"OrderbenchModel", "add", "(JJ)J"⟩).before #[] vs_A = true := List.all_eq_true.mp vwb_13 _ (List.mem_of_getElem? (i := 24) rfl)
theorem vw_545 : (Cond.static ⟨"OrderbenchModel", "add", "(JJ)J"⟩).before #[] vs_A = true := List.all_eq_true.mp vwb_13 _ (List.mem_of_getElem? (i := 25) rfl)
theorem vw_546 : (Cond.code ⟨"OrderbenchModel", "add", "(JJ)J"⟩ prog_10_method_68_code 4 (some .long)).before #[] vs_A = true := List.all_eq_true.mp vwb_13 _ (List.mem_of_getElem? (i := 26) rfl)
theorem vw_547 : (Cond.instanceMethod ⟨"OrderbenchModel", "textOf", "(I)Ljava/lang/String;"⟩).before #[] vs_A = true := List.all_eq_true.mp vwb_13 _ (List.mem_of_getElem? (i := 27) rfl)
theorem vw_548 : (Cond.code ⟨"OrderbenchModel", "textOf", "(I)Ljava/lang/String;"⟩ prog_10_method_44_code 4 (some (.object "java/lang/String"))).before #[] vs_A = true := List.all_eq_true.mp vwb_13 _ (List.mem_of_getElem? (i := 28) rfl)
theorem vw_549 : (Cond.methodLink "OrderbenchModel" 200 ⟨"OrderbenchModel", "textOf", "(I)Ljava/lang/String;"⟩).before #[] vs_A = true := List.all_eq_true.mp vwb_13 _ (List.mem_of_getElem? (i := 29) rfl)
theorem vw_550 : (Cond.sameMethod "OrderbenchModel" "OrderbenchModel" "textOf" "(I)Ljava/lang/String;").before #[] vs_A = true := List.all_eq_true.mp vwb_13 _ (List.mem_of_getElem? (i := 30) rfl)
theorem vw_551 : (Cond.selects "OrderbenchModel" ⟨"OrderbenchModel", "textOf", "(I)Ljava/lang/String;"⟩ ⟨"OrderbenchModel", "textOf", "(I)Ljava/lang/String;"⟩).before #[] vs_A = true := List.all_eq_true.mp vwb_13 _ (List.mem_of_getElem? (i := 31) rfl)
theorem vw_552 : (Cond.methodLink "OrderbenchModel" 238 ⟨"OrderbenchModel", "add", "(JLjava/lang/String;)J"⟩).before #[] vs_A = true := List.all_eq_true.mp vwb_13 _ (List.mem_of_getElem? (i := 32) rfl)
theorem vw_553 : (Cond.static ⟨"OrderbenchModel", "add", "(JLjava/lang/String;)J"⟩).before #[] vs_A = true := List.all_eq_true.mp vwb_13 _ (List.mem_of_getElem? (i := 33) rfl)
theorem vw_554 : (Cond.code ⟨"OrderbenchModel", "add", "(JLjava/lang/String;)J"⟩ prog_10_method_69_code 6 (some .long)).before #[] vs_A = true := List.all_eq_true.mp vwb_13 _ (List.mem_of_getElem? (i := 34) rfl)
theorem vw_555 : (Cond.instanceMethod ⟨"OrderbenchModel", "isSortedBy", "(II)Z"⟩).before #[] vs_A = true := List.all_eq_true.mp vwb_13 _ (List.mem_of_getElem? (i := 35) rfl)
theorem vw_556 : (Cond.code ⟨"OrderbenchModel", "isSortedBy", "(II)Z"⟩ prog_10_method_52_code 4 (some .boolean)).before #[] vs_A = true := List.all_eq_true.mp vwb_13 _ (List.mem_of_getElem? (i := 36) rfl)
theorem vw_557 : (Cond.methodLink "OrderbenchModel" 211 ⟨"OrderbenchModel", "isSortedBy", "(II)Z"⟩).before #[] vs_A = true := List.all_eq_true.mp vwb_13 _ (List.mem_of_getElem? (i := 37) rfl)
theorem vw_558 : (Cond.sameMethod "OrderbenchModel" "OrderbenchModel" "isSortedBy" "(II)Z").before #[] vs_A = true := List.all_eq_true.mp vwb_13 _ (List.mem_of_getElem? (i := 38) rfl)
theorem vw_559 : (Cond.selects "OrderbenchModel" ⟨"OrderbenchModel", "isSortedBy", "(II)Z"⟩ ⟨"OrderbenchModel", "isSortedBy", "(II)Z"⟩).before #[] vs_A = true := List.all_eq_true.mp vwb_13 _ (List.mem_of_getElem? (i := 39) rfl)
def vwl_14 : List Cond := [Cond.methodLink "OrderbenchModel" 113 ⟨"OrderbenchModel", "bit", "(Z)I"⟩,
  Cond.static ⟨"OrderbenchModel", "bit", "(Z)I"⟩,
  Cond.code ⟨"OrderbenchModel", "bit", "(Z)I"⟩ prog_10_method_6_code 1 (some .int),
  Cond.instanceMethod ⟨"OrderbenchModel", "classesOf", "(II)I"⟩,
  Cond.code ⟨"OrderbenchModel", "classesOf", "(II)I"⟩ prog_10_method_55_code 7 (some .int),
  Cond.methodLink "OrderbenchModel" 214 ⟨"OrderbenchModel", "classesOf", "(II)I"⟩,
  Cond.sameMethod "OrderbenchModel" "OrderbenchModel" "classesOf" "(II)I",
  Cond.selects "OrderbenchModel" ⟨"OrderbenchModel", "classesOf", "(II)I"⟩ ⟨"OrderbenchModel", "classesOf", "(II)I"⟩,
  Cond.instanceMethod ⟨"OrderbenchModel", "endOf", "(III)I"⟩,
  Cond.code ⟨"OrderbenchModel", "endOf", "(III)I"⟩ prog_10_method_57_code 10 (some .int),
  Cond.methodLink "OrderbenchModel" 218 ⟨"OrderbenchModel", "endOf", "(III)I"⟩,
  Cond.sameMethod "OrderbenchModel" "OrderbenchModel" "endOf" "(III)I",
  Cond.selects "OrderbenchModel" ⟨"OrderbenchModel", "endOf", "(III)I"⟩ ⟨"OrderbenchModel", "endOf", "(III)I"⟩,
  Cond.instanceMethod ⟨"OrderbenchModel$Shape", "isSafe", "()Z"⟩,
  Cond.code ⟨"OrderbenchModel$Shape", "isSafe", "()Z"⟩ prog_11_method_4_code 1 (some .boolean),
  Cond.methodLink "OrderbenchModel" 123 ⟨"OrderbenchModel$Shape", "isSafe", "()Z"⟩,
  Cond.sameMethod "OrderbenchModel$Shape" "OrderbenchModel$Shape" "isSafe" "()Z",
  Cond.selects "OrderbenchModel$Shape" ⟨"OrderbenchModel$Shape", "isSafe", "()Z"⟩ ⟨"OrderbenchModel$Shape", "isSafe", "()Z"⟩,
  Cond.instanceMethod ⟨"OrderbenchModel", "many", "(I)I"⟩,
  Cond.code ⟨"OrderbenchModel", "many", "(I)I"⟩ prog_10_method_12_code 2 (some .int),
  Cond.methodLink "OrderbenchModel" 86 ⟨"OrderbenchModel", "many", "(I)I"⟩,
  Cond.sameMethod "OrderbenchModel" "OrderbenchModel" "many" "(I)I",
  Cond.selects "OrderbenchModel" ⟨"OrderbenchModel", "many", "(I)I"⟩ ⟨"OrderbenchModel", "many", "(I)I"⟩,
  Cond.fieldLink "OrderbenchModel" 79 "OrderbenchModel" "laid" "I",
  Cond.fieldLink "OrderbenchModel" 53 "OrderbenchModel" "refused" "I",
  Cond.fieldLink "OrderbenchModel" 225 "OrderbenchModel" "knocks" "I",
  Cond.instanceMethod ⟨"OrderbenchModel", "nothingsOn", "(I)I"⟩,
  Cond.code ⟨"OrderbenchModel", "nothingsOn", "(I)I"⟩ prog_10_method_23_code 4 (some .int),
  Cond.methodLink "OrderbenchModel" 120 ⟨"OrderbenchModel", "nothingsOn", "(I)I"⟩,
  Cond.sameMethod "OrderbenchModel" "OrderbenchModel" "nothingsOn" "(I)I",
  Cond.selects "OrderbenchModel" ⟨"OrderbenchModel", "nothingsOn", "(I)I"⟩ ⟨"OrderbenchModel", "nothingsOn", "(I)I"⟩,
  Cond.instanceMethod ⟨"OrderbenchModel$Shape", "isEnds", "()Z"⟩,
  Cond.code ⟨"OrderbenchModel$Shape", "isEnds", "()Z"⟩ prog_11_method_3_code 1 (some .boolean),
  Cond.methodLink "OrderbenchModel$Shape" 47 ⟨"OrderbenchModel$Shape", "isEnds", "()Z"⟩,
  Cond.sameMethod "OrderbenchModel$Shape" "OrderbenchModel$Shape" "isEnds" "()Z",
  Cond.selects "OrderbenchModel$Shape" ⟨"OrderbenchModel$Shape", "isEnds", "()Z"⟩ ⟨"OrderbenchModel$Shape", "isEnds", "()Z"⟩,
  Cond.methodLink "OrderbenchModel$Shape" 51 ⟨"OrderbenchModel$Shape", "isSafe", "()Z"⟩,
  Cond.instanceMethod ⟨"java/util/ArrayList", "get", "(I)Ljava/lang/Object;"⟩,
  Cond.code ⟨"java/util/ArrayList", "get", "(I)Ljava/lang/Object;"⟩ prog_39_method_20_code 2 (some (.object "java/lang/Object")),
  Cond.methodLink "OrderbenchModel" 45 ⟨"java/util/ArrayList", "get", "(I)Ljava/lang/Object;"⟩]
set_option maxRecDepth 100000 in
theorem vwb_14 : vwl_14.all (fun w => w.before #[] vs_A) = true := by decide +kernel
theorem vw_560 : (Cond.methodLink "OrderbenchModel" 113 ⟨"OrderbenchModel", "bit", "(Z)I"⟩).before #[] vs_A = true := List.all_eq_true.mp vwb_14 _ (List.mem_of_getElem? (i := 0) rfl)
theorem vw_561 : (Cond.static ⟨"OrderbenchModel", "bit", "(Z)I"⟩).before #[] vs_A = true := List.all_eq_true.mp vwb_14 _ (List.mem_of_getElem? (i := 1) rfl)
theorem vw_562 : (Cond.code ⟨"OrderbenchModel", "bit", "(Z)I"⟩ prog_10_method_6_code 1 (some .int)).before #[] vs_A = true := List.all_eq_true.mp vwb_14 _ (List.mem_of_getElem? (i := 2) rfl)
theorem vw_563 : (Cond.instanceMethod ⟨"OrderbenchModel", "classesOf", "(II)I"⟩).before #[] vs_A = true := List.all_eq_true.mp vwb_14 _ (List.mem_of_getElem? (i := 3) rfl)
theorem vw_564 : (Cond.code ⟨"OrderbenchModel", "classesOf", "(II)I"⟩ prog_10_method_55_code 7 (some .int)).before #[] vs_A = true := List.all_eq_true.mp vwb_14 _ (List.mem_of_getElem? (i := 4) rfl)
theorem vw_565 : (Cond.methodLink "OrderbenchModel" 214 ⟨"OrderbenchModel", "classesOf", "(II)I"⟩).before #[] vs_A = true := List.all_eq_true.mp vwb_14 _ (List.mem_of_getElem? (i := 5) rfl)
theorem vw_566 : (Cond.sameMethod "OrderbenchModel" "OrderbenchModel" "classesOf" "(II)I").before #[] vs_A = true := List.all_eq_true.mp vwb_14 _ (List.mem_of_getElem? (i := 6) rfl)
theorem vw_567 : (Cond.selects "OrderbenchModel" ⟨"OrderbenchModel", "classesOf", "(II)I"⟩ ⟨"OrderbenchModel", "classesOf", "(II)I"⟩).before #[] vs_A = true := List.all_eq_true.mp vwb_14 _ (List.mem_of_getElem? (i := 7) rfl)
theorem vw_568 : (Cond.instanceMethod ⟨"OrderbenchModel", "endOf", "(III)I"⟩).before #[] vs_A = true := List.all_eq_true.mp vwb_14 _ (List.mem_of_getElem? (i := 8) rfl)
theorem vw_569 : (Cond.code ⟨"OrderbenchModel", "endOf", "(III)I"⟩ prog_10_method_57_code 10 (some .int)).before #[] vs_A = true := List.all_eq_true.mp vwb_14 _ (List.mem_of_getElem? (i := 9) rfl)
theorem vw_570 : (Cond.methodLink "OrderbenchModel" 218 ⟨"OrderbenchModel", "endOf", "(III)I"⟩).before #[] vs_A = true := List.all_eq_true.mp vwb_14 _ (List.mem_of_getElem? (i := 10) rfl)
theorem vw_571 : (Cond.sameMethod "OrderbenchModel" "OrderbenchModel" "endOf" "(III)I").before #[] vs_A = true := List.all_eq_true.mp vwb_14 _ (List.mem_of_getElem? (i := 11) rfl)
theorem vw_572 : (Cond.selects "OrderbenchModel" ⟨"OrderbenchModel", "endOf", "(III)I"⟩ ⟨"OrderbenchModel", "endOf", "(III)I"⟩).before #[] vs_A = true := List.all_eq_true.mp vwb_14 _ (List.mem_of_getElem? (i := 12) rfl)
theorem vw_573 : (Cond.instanceMethod ⟨"OrderbenchModel$Shape", "isSafe", "()Z"⟩).before #[] vs_A = true := List.all_eq_true.mp vwb_14 _ (List.mem_of_getElem? (i := 13) rfl)
theorem vw_574 : (Cond.code ⟨"OrderbenchModel$Shape", "isSafe", "()Z"⟩ prog_11_method_4_code 1 (some .boolean)).before #[] vs_A = true := List.all_eq_true.mp vwb_14 _ (List.mem_of_getElem? (i := 14) rfl)
theorem vw_575 : (Cond.methodLink "OrderbenchModel" 123 ⟨"OrderbenchModel$Shape", "isSafe", "()Z"⟩).before #[] vs_A = true := List.all_eq_true.mp vwb_14 _ (List.mem_of_getElem? (i := 15) rfl)
theorem vw_576 : (Cond.sameMethod "OrderbenchModel$Shape" "OrderbenchModel$Shape" "isSafe" "()Z").before #[] vs_A = true := List.all_eq_true.mp vwb_14 _ (List.mem_of_getElem? (i := 16) rfl)
theorem vw_577 : (Cond.selects "OrderbenchModel$Shape" ⟨"OrderbenchModel$Shape", "isSafe", "()Z"⟩ ⟨"OrderbenchModel$Shape", "isSafe", "()Z"⟩).before #[] vs_A = true := List.all_eq_true.mp vwb_14 _ (List.mem_of_getElem? (i := 17) rfl)
theorem vw_578 : (Cond.instanceMethod ⟨"OrderbenchModel", "many", "(I)I"⟩).before #[] vs_A = true := List.all_eq_true.mp vwb_14 _ (List.mem_of_getElem? (i := 18) rfl)
theorem vw_579 : (Cond.code ⟨"OrderbenchModel", "many", "(I)I"⟩ prog_10_method_12_code 2 (some .int)).before #[] vs_A = true := List.all_eq_true.mp vwb_14 _ (List.mem_of_getElem? (i := 19) rfl)
theorem vw_580 : (Cond.methodLink "OrderbenchModel" 86 ⟨"OrderbenchModel", "many", "(I)I"⟩).before #[] vs_A = true := List.all_eq_true.mp vwb_14 _ (List.mem_of_getElem? (i := 20) rfl)
theorem vw_581 : (Cond.sameMethod "OrderbenchModel" "OrderbenchModel" "many" "(I)I").before #[] vs_A = true := List.all_eq_true.mp vwb_14 _ (List.mem_of_getElem? (i := 21) rfl)
theorem vw_582 : (Cond.selects "OrderbenchModel" ⟨"OrderbenchModel", "many", "(I)I"⟩ ⟨"OrderbenchModel", "many", "(I)I"⟩).before #[] vs_A = true := List.all_eq_true.mp vwb_14 _ (List.mem_of_getElem? (i := 22) rfl)
theorem vw_583 : (Cond.fieldLink "OrderbenchModel" 79 "OrderbenchModel" "laid" "I").before #[] vs_A = true := List.all_eq_true.mp vwb_14 _ (List.mem_of_getElem? (i := 23) rfl)
theorem vw_584 : (Cond.fieldLink "OrderbenchModel" 53 "OrderbenchModel" "refused" "I").before #[] vs_A = true := List.all_eq_true.mp vwb_14 _ (List.mem_of_getElem? (i := 24) rfl)
theorem vw_585 : (Cond.fieldLink "OrderbenchModel" 225 "OrderbenchModel" "knocks" "I").before #[] vs_A = true := List.all_eq_true.mp vwb_14 _ (List.mem_of_getElem? (i := 25) rfl)
theorem vw_586 : (Cond.instanceMethod ⟨"OrderbenchModel", "nothingsOn", "(I)I"⟩).before #[] vs_A = true := List.all_eq_true.mp vwb_14 _ (List.mem_of_getElem? (i := 26) rfl)
theorem vw_587 : (Cond.code ⟨"OrderbenchModel", "nothingsOn", "(I)I"⟩ prog_10_method_23_code 4 (some .int)).before #[] vs_A = true := List.all_eq_true.mp vwb_14 _ (List.mem_of_getElem? (i := 27) rfl)
theorem vw_588 : (Cond.methodLink "OrderbenchModel" 120 ⟨"OrderbenchModel", "nothingsOn", "(I)I"⟩).before #[] vs_A = true := List.all_eq_true.mp vwb_14 _ (List.mem_of_getElem? (i := 28) rfl)
theorem vw_589 : (Cond.sameMethod "OrderbenchModel" "OrderbenchModel" "nothingsOn" "(I)I").before #[] vs_A = true := List.all_eq_true.mp vwb_14 _ (List.mem_of_getElem? (i := 29) rfl)
theorem vw_590 : (Cond.selects "OrderbenchModel" ⟨"OrderbenchModel", "nothingsOn", "(I)I"⟩ ⟨"OrderbenchModel", "nothingsOn", "(I)I"⟩).before #[] vs_A = true := List.all_eq_true.mp vwb_14 _ (List.mem_of_getElem? (i := 30) rfl)
theorem vw_591 : (Cond.instanceMethod ⟨"OrderbenchModel$Shape", "isEnds", "()Z"⟩).before #[] vs_A = true := List.all_eq_true.mp vwb_14 _ (List.mem_of_getElem? (i := 31) rfl)
theorem vw_592 : (Cond.code ⟨"OrderbenchModel$Shape", "isEnds", "()Z"⟩ prog_11_method_3_code 1 (some .boolean)).before #[] vs_A = true := List.all_eq_true.mp vwb_14 _ (List.mem_of_getElem? (i := 32) rfl)
theorem vw_593 : (Cond.methodLink "OrderbenchModel$Shape" 47 ⟨"OrderbenchModel$Shape", "isEnds", "()Z"⟩).before #[] vs_A = true := List.all_eq_true.mp vwb_14 _ (List.mem_of_getElem? (i := 33) rfl)
theorem vw_594 : (Cond.sameMethod "OrderbenchModel$Shape" "OrderbenchModel$Shape" "isEnds" "()Z").before #[] vs_A = true := List.all_eq_true.mp vwb_14 _ (List.mem_of_getElem? (i := 34) rfl)
theorem vw_595 : (Cond.selects "OrderbenchModel$Shape" ⟨"OrderbenchModel$Shape", "isEnds", "()Z"⟩ ⟨"OrderbenchModel$Shape", "isEnds", "()Z"⟩).before #[] vs_A = true := List.all_eq_true.mp vwb_14 _ (List.mem_of_getElem? (i := 35) rfl)
theorem vw_596 : (Cond.methodLink "OrderbenchModel$Shape" 51 ⟨"OrderbenchModel$Shape", "isSafe", "()Z"⟩).before #[] vs_A = true := List.all_eq_true.mp vwb_14 _ (List.mem_of_getElem? (i := 36) rfl)
theorem vw_597 : (Cond.instanceMethod ⟨"java/util/ArrayList", "get", "(I)Ljava/lang/Object;"⟩).before #[] vs_A = true := List.all_eq_true.mp vwb_14 _ (List.mem_of_getElem? (i := 37) rfl)
theorem vw_598 : (Cond.code ⟨"java/util/ArrayList", "get", "(I)Ljava/lang/Object;"⟩ prog_39_method_20_code 2 (some (.object "java/lang/Object"))).before #[] vs_A = true := List.all_eq_true.mp vwb_14 _ (List.mem_of_getElem? (i := 38) rfl)
theorem vw_599 : (Cond.methodLink "OrderbenchModel" 45 ⟨"java/util/ArrayList", "get", "(I)Ljava/lang/Object;"⟩).before #[] vs_A = true := List.all_eq_true.mp vwb_14 _ (List.mem_of_getElem? (i := 39) rfl)
def vwl_15 : List Cond := [Cond.sameMethod "java/util/ArrayList" "java/util/ArrayList" "get" "(I)Ljava/lang/Object;",
  Cond.selects "java/util/ArrayList" ⟨"java/util/ArrayList", "get", "(I)Ljava/lang/Object;"⟩ ⟨"java/util/ArrayList", "get", "(I)Ljava/lang/Object;"⟩,
  Cond.instanceMethod ⟨"java/util/ArrayList", "size", "()I"⟩,
  Cond.code ⟨"java/util/ArrayList", "size", "()I"⟩ prog_39_method_8_code 1 (some .int),
  Cond.methodLink "OrderbenchModel" 49 ⟨"java/util/ArrayList", "size", "()I"⟩,
  Cond.sameMethod "java/util/ArrayList" "java/util/ArrayList" "size" "()I",
  Cond.selects "java/util/ArrayList" ⟨"java/util/ArrayList", "size", "()I"⟩ ⟨"java/util/ArrayList", "size", "()I"⟩,
  Cond.methodLink "java/util/ArrayList" 118 ⟨"java/util/Objects", "checkIndex", "(II)I"⟩,
  Cond.static ⟨"java/util/Objects", "checkIndex", "(II)I"⟩,
  Cond.initialized "java/util/Objects",
  Cond.code ⟨"java/util/Objects", "checkIndex", "(II)I"⟩ prog_45_method_17_code 2 (some .int),
  Cond.instanceMethod ⟨"java/util/ArrayList", "elementData", "(I)Ljava/lang/Object;"⟩,
  Cond.code ⟨"java/util/ArrayList", "elementData", "(I)Ljava/lang/Object;"⟩ prog_39_method_18_code 2 (some (.object "java/lang/Object")),
  Cond.methodLink "java/util/ArrayList" 123 ⟨"java/util/ArrayList", "elementData", "(I)Ljava/lang/Object;"⟩,
  Cond.sameMethod "java/util/ArrayList" "java/util/ArrayList" "elementData" "(I)Ljava/lang/Object;",
  Cond.selects "java/util/ArrayList" ⟨"java/util/ArrayList", "elementData", "(I)Ljava/lang/Object;"⟩ ⟨"java/util/ArrayList", "elementData", "(I)Ljava/lang/Object;"⟩,
  Cond.methodLink "java/util/Objects" 105 ⟨"jdk/internal/util/Preconditions", "checkIndex", "(IILjava/util/function/BiFunction;)I"⟩,
  Cond.constantLong "OrderbenchModel" 231 (31),
  Cond.methodLink "OrderbenchModel" 159 ⟨"java/lang/String", "charAt", "(I)C"⟩,
  Cond.instanceMethod ⟨"OrderbenchModel", "takesBench", "(II)Z"⟩,
  Cond.code ⟨"OrderbenchModel", "takesBench", "(II)Z"⟩ prog_10_method_24_code 3 (some .boolean),
  Cond.methodLink "OrderbenchModel" 133 ⟨"OrderbenchModel", "takesBench", "(II)Z"⟩,
  Cond.sameMethod "OrderbenchModel" "OrderbenchModel" "takesBench" "(II)Z",
  Cond.selects "OrderbenchModel" ⟨"OrderbenchModel", "takesBench", "(II)Z"⟩ ⟨"OrderbenchModel", "takesBench", "(II)Z"⟩,
  Cond.instanceMethod ⟨"OrderbenchModel", "hasNothing", "(I)Z"⟩,
  Cond.code ⟨"OrderbenchModel", "hasNothing", "(I)Z"⟩ prog_10_method_22_code 2 (some .boolean),
  Cond.methodLink "OrderbenchModel" 127 ⟨"OrderbenchModel", "hasNothing", "(I)Z"⟩,
  Cond.sameMethod "OrderbenchModel" "OrderbenchModel" "hasNothing" "(I)Z",
  Cond.selects "OrderbenchModel" ⟨"OrderbenchModel", "hasNothing", "(I)Z"⟩ ⟨"OrderbenchModel", "hasNothing", "(I)Z"⟩,
  Cond.instanceMethod ⟨"OrderbenchModel", "takesEach", "(II)Z"⟩,
  Cond.code ⟨"OrderbenchModel", "takesEach", "(II)Z"⟩ prog_10_method_54_code 3 (some .boolean),
  Cond.methodLink "OrderbenchModel" 204 ⟨"OrderbenchModel", "takesEach", "(II)Z"⟩,
  Cond.sameMethod "OrderbenchModel" "OrderbenchModel" "takesEach" "(II)Z",
  Cond.selects "OrderbenchModel" ⟨"OrderbenchModel", "takesEach", "(II)Z"⟩ ⟨"OrderbenchModel", "takesEach", "(II)Z"⟩]
set_option maxRecDepth 100000 in
theorem vwb_15 : vwl_15.all (fun w => w.before #[] vs_A) = true := by decide +kernel
theorem vw_600 : (Cond.sameMethod "java/util/ArrayList" "java/util/ArrayList" "get" "(I)Ljava/lang/Object;").before #[] vs_A = true := List.all_eq_true.mp vwb_15 _ (List.mem_of_getElem? (i := 0) rfl)
theorem vw_601 : (Cond.selects "java/util/ArrayList" ⟨"java/util/ArrayList", "get", "(I)Ljava/lang/Object;"⟩ ⟨"java/util/ArrayList", "get", "(I)Ljava/lang/Object;"⟩).before #[] vs_A = true := List.all_eq_true.mp vwb_15 _ (List.mem_of_getElem? (i := 1) rfl)
theorem vw_602 : (Cond.instanceMethod ⟨"java/util/ArrayList", "size", "()I"⟩).before #[] vs_A = true := List.all_eq_true.mp vwb_15 _ (List.mem_of_getElem? (i := 2) rfl)
theorem vw_603 : (Cond.code ⟨"java/util/ArrayList", "size", "()I"⟩ prog_39_method_8_code 1 (some .int)).before #[] vs_A = true := List.all_eq_true.mp vwb_15 _ (List.mem_of_getElem? (i := 3) rfl)
theorem vw_604 : (Cond.methodLink "OrderbenchModel" 49 ⟨"java/util/ArrayList", "size", "()I"⟩).before #[] vs_A = true := List.all_eq_true.mp vwb_15 _ (List.mem_of_getElem? (i := 4) rfl)
theorem vw_605 : (Cond.sameMethod "java/util/ArrayList" "java/util/ArrayList" "size" "()I").before #[] vs_A = true := List.all_eq_true.mp vwb_15 _ (List.mem_of_getElem? (i := 5) rfl)
theorem vw_606 : (Cond.selects "java/util/ArrayList" ⟨"java/util/ArrayList", "size", "()I"⟩ ⟨"java/util/ArrayList", "size", "()I"⟩).before #[] vs_A = true := List.all_eq_true.mp vwb_15 _ (List.mem_of_getElem? (i := 6) rfl)
theorem vw_607 : (Cond.methodLink "java/util/ArrayList" 118 ⟨"java/util/Objects", "checkIndex", "(II)I"⟩).before #[] vs_A = true := List.all_eq_true.mp vwb_15 _ (List.mem_of_getElem? (i := 7) rfl)
theorem vw_608 : (Cond.static ⟨"java/util/Objects", "checkIndex", "(II)I"⟩).before #[] vs_A = true := List.all_eq_true.mp vwb_15 _ (List.mem_of_getElem? (i := 8) rfl)
theorem vw_609 : (Cond.initialized "java/util/Objects").before #[] vs_A = true := List.all_eq_true.mp vwb_15 _ (List.mem_of_getElem? (i := 9) rfl)
theorem vw_610 : (Cond.code ⟨"java/util/Objects", "checkIndex", "(II)I"⟩ prog_45_method_17_code 2 (some .int)).before #[] vs_A = true := List.all_eq_true.mp vwb_15 _ (List.mem_of_getElem? (i := 10) rfl)
theorem vw_611 : (Cond.instanceMethod ⟨"java/util/ArrayList", "elementData", "(I)Ljava/lang/Object;"⟩).before #[] vs_A = true := List.all_eq_true.mp vwb_15 _ (List.mem_of_getElem? (i := 11) rfl)
theorem vw_612 : (Cond.code ⟨"java/util/ArrayList", "elementData", "(I)Ljava/lang/Object;"⟩ prog_39_method_18_code 2 (some (.object "java/lang/Object"))).before #[] vs_A = true := List.all_eq_true.mp vwb_15 _ (List.mem_of_getElem? (i := 12) rfl)
theorem vw_613 : (Cond.methodLink "java/util/ArrayList" 123 ⟨"java/util/ArrayList", "elementData", "(I)Ljava/lang/Object;"⟩).before #[] vs_A = true := List.all_eq_true.mp vwb_15 _ (List.mem_of_getElem? (i := 13) rfl)
theorem vw_614 : (Cond.sameMethod "java/util/ArrayList" "java/util/ArrayList" "elementData" "(I)Ljava/lang/Object;").before #[] vs_A = true := List.all_eq_true.mp vwb_15 _ (List.mem_of_getElem? (i := 14) rfl)
theorem vw_615 : (Cond.selects "java/util/ArrayList" ⟨"java/util/ArrayList", "elementData", "(I)Ljava/lang/Object;"⟩ ⟨"java/util/ArrayList", "elementData", "(I)Ljava/lang/Object;"⟩).before #[] vs_A = true := List.all_eq_true.mp vwb_15 _ (List.mem_of_getElem? (i := 15) rfl)
theorem vw_616 : (Cond.methodLink "java/util/Objects" 105 ⟨"jdk/internal/util/Preconditions", "checkIndex", "(IILjava/util/function/BiFunction;)I"⟩).before #[] vs_A = true := List.all_eq_true.mp vwb_15 _ (List.mem_of_getElem? (i := 16) rfl)
theorem vw_617 : (Cond.constantLong "OrderbenchModel" 231 (31)).before #[] vs_A = true := List.all_eq_true.mp vwb_15 _ (List.mem_of_getElem? (i := 17) rfl)
theorem vw_618 : (Cond.methodLink "OrderbenchModel" 159 ⟨"java/lang/String", "charAt", "(I)C"⟩).before #[] vs_A = true := List.all_eq_true.mp vwb_15 _ (List.mem_of_getElem? (i := 18) rfl)
theorem vw_619 : (Cond.instanceMethod ⟨"OrderbenchModel", "takesBench", "(II)Z"⟩).before #[] vs_A = true := List.all_eq_true.mp vwb_15 _ (List.mem_of_getElem? (i := 19) rfl)
theorem vw_620 : (Cond.code ⟨"OrderbenchModel", "takesBench", "(II)Z"⟩ prog_10_method_24_code 3 (some .boolean)).before #[] vs_A = true := List.all_eq_true.mp vwb_15 _ (List.mem_of_getElem? (i := 20) rfl)
theorem vw_621 : (Cond.methodLink "OrderbenchModel" 133 ⟨"OrderbenchModel", "takesBench", "(II)Z"⟩).before #[] vs_A = true := List.all_eq_true.mp vwb_15 _ (List.mem_of_getElem? (i := 21) rfl)
theorem vw_622 : (Cond.sameMethod "OrderbenchModel" "OrderbenchModel" "takesBench" "(II)Z").before #[] vs_A = true := List.all_eq_true.mp vwb_15 _ (List.mem_of_getElem? (i := 22) rfl)
theorem vw_623 : (Cond.selects "OrderbenchModel" ⟨"OrderbenchModel", "takesBench", "(II)Z"⟩ ⟨"OrderbenchModel", "takesBench", "(II)Z"⟩).before #[] vs_A = true := List.all_eq_true.mp vwb_15 _ (List.mem_of_getElem? (i := 23) rfl)
theorem vw_624 : (Cond.instanceMethod ⟨"OrderbenchModel", "hasNothing", "(I)Z"⟩).before #[] vs_A = true := List.all_eq_true.mp vwb_15 _ (List.mem_of_getElem? (i := 24) rfl)
theorem vw_625 : (Cond.code ⟨"OrderbenchModel", "hasNothing", "(I)Z"⟩ prog_10_method_22_code 2 (some .boolean)).before #[] vs_A = true := List.all_eq_true.mp vwb_15 _ (List.mem_of_getElem? (i := 25) rfl)
theorem vw_626 : (Cond.methodLink "OrderbenchModel" 127 ⟨"OrderbenchModel", "hasNothing", "(I)Z"⟩).before #[] vs_A = true := List.all_eq_true.mp vwb_15 _ (List.mem_of_getElem? (i := 26) rfl)
theorem vw_627 : (Cond.sameMethod "OrderbenchModel" "OrderbenchModel" "hasNothing" "(I)Z").before #[] vs_A = true := List.all_eq_true.mp vwb_15 _ (List.mem_of_getElem? (i := 27) rfl)
theorem vw_628 : (Cond.selects "OrderbenchModel" ⟨"OrderbenchModel", "hasNothing", "(I)Z"⟩ ⟨"OrderbenchModel", "hasNothing", "(I)Z"⟩).before #[] vs_A = true := List.all_eq_true.mp vwb_15 _ (List.mem_of_getElem? (i := 28) rfl)
theorem vw_629 : (Cond.instanceMethod ⟨"OrderbenchModel", "takesEach", "(II)Z"⟩).before #[] vs_A = true := List.all_eq_true.mp vwb_15 _ (List.mem_of_getElem? (i := 29) rfl)
theorem vw_630 : (Cond.code ⟨"OrderbenchModel", "takesEach", "(II)Z"⟩ prog_10_method_54_code 3 (some .boolean)).before #[] vs_A = true := List.all_eq_true.mp vwb_15 _ (List.mem_of_getElem? (i := 30) rfl)
theorem vw_631 : (Cond.methodLink "OrderbenchModel" 204 ⟨"OrderbenchModel", "takesEach", "(II)Z"⟩).before #[] vs_A = true := List.all_eq_true.mp vwb_15 _ (List.mem_of_getElem? (i := 31) rfl)
theorem vw_632 : (Cond.sameMethod "OrderbenchModel" "OrderbenchModel" "takesEach" "(II)Z").before #[] vs_A = true := List.all_eq_true.mp vwb_15 _ (List.mem_of_getElem? (i := 32) rfl)
theorem vw_633 : (Cond.selects "OrderbenchModel" ⟨"OrderbenchModel", "takesEach", "(II)Z"⟩ ⟨"OrderbenchModel", "takesEach", "(II)Z"⟩).before #[] vs_A = true := List.all_eq_true.mp vwb_15 _ (List.mem_of_getElem? (i := 33) rfl)
set_option maxRecDepth 100000 in
theorem vfb_0 : (vs_A.vm.findClass "Orderbench" = some 2) ∧ (((vs_A.vm.classes[2]?).any (fun k => decide (k.instanceTypes.map defaultValue = ([.null, .null, .null, .null, .null, .null, .int 0, .int 0, .int 0] : List Value).toArray)) = true) ∧ (((parseMethodDescriptor "()V").map (fun d => d.parameters.length) = some 0) ∧ ((vs_A.vm.findClass "OrderbenchModel" = some 6) ∧ (((vs_A.vm.classes[6]?).any (fun k => decide (k.instanceTypes.map defaultValue = ([.int 0, .null, .null, .int 0, .int 0, .int 0] : List Value).toArray)) = true) ∧ ((vs_A.vm.findClass "OrderbenchLaw$Out" = some 12) ∧ (((vs_A.vm.classes[12]?).any (fun k => decide (k.instanceTypes.map defaultValue = ([.long 0, .null] : List Value).toArray)) = true) ∧ ((ve_ar vs_A 51 .int = true) ∧ (((parseMethodDescriptor "(LOrderbench;IILOrderbenchLaw$Out;)I").map (fun d => d.parameters.length) = some 4) ∧ (((parseMethodDescriptor "(II)I").map (fun d => d.parameters.length) = some 2) ∧ ((ve_de vs_A ⟨"OrderbenchModel", "turn", "(II)I"⟩ = true) ∧ (((parseMethodDescriptor "()I").map (fun d => d.parameters.length) = some 0) ∧ ((ve_de vs_A ⟨"OrderbenchModel", "thrown", "()I"⟩ = true) ∧ (((vs_A.fieldFound? "OrderbenchLaw$Out" "n" "J").any (fun q => q.2.2.2.slot.beq 0 && !q.2.2.2.isStatic) = true) ∧ (((parseMethodDescriptor "()J").map (fun d => d.parameters.length) = some 0) ∧ ((ve_de vs_A ⟨"Orderbench", "digest", "()J"⟩ = true) ∧ ((ve_de vs_A ⟨"OrderbenchModel", "digest", "()J"⟩ = true) ∧ ((vs_A.vm.findClass ("[" ++ (FieldType.object "Orderbench$Row").toString) = some 54) ∧ ((ve_cs vs_A 0 [2] (.array (.object "Orderbench$Row")) = true) ∧ (((vs_A.fieldFound? "Orderbench" "benches" "[LOrderbench$Row;").any (fun q => q.2.2.2.slot.beq 0 && (!q.2.2.2.isStatic && (decide (vs_A.vm.findClass "Orderbench" = some q.1) && decide (q.2.2.2.type = (.array (.object "Orderbench$Row")))))) = true) ∧ (((vs_A.fieldFound? "Orderbench" "benches" "[LOrderbench$Row;").any (fun q => q.2.2.2.slot.beq 0 && !q.2.2.2.isStatic) = true) ∧ ((vs_A.vm.findClass "Orderbench$Row" = some 3) ∧ (((vs_A.vm.classes[3]?).any (fun k => decide (k.instanceTypes.map defaultValue = ([.null, .int 0] : List Value).toArray)) = true) ∧ ((ve_aa vs_A 54 [3] = true) ∧ ((vs_A.vm.findClass ("[" ++ (FieldType.object "Orderbench$Shape").toString) = some 55))))))))))))))))))))))))) := by decide +kernel
theorem vf_0 : vs_A.vm.findClass "Orderbench" = some 2 := vfb_0.1
theorem vf_1 : (vs_A.vm.classes[2]?).any (fun k => decide (k.instanceTypes.map defaultValue = ([.null, .null, .null, .null, .null, .null, .int 0, .int 0, .int 0] : List Value).toArray)) = true := vfb_0.2.1
theorem vf_2 : (parseMethodDescriptor "()V").map (fun d => d.parameters.length) = some 0 := vfb_0.2.2.1
theorem vf_3 : vs_A.vm.findClass "OrderbenchModel" = some 6 := vfb_0.2.2.2.1
theorem vf_4 : (vs_A.vm.classes[6]?).any (fun k => decide (k.instanceTypes.map defaultValue = ([.int 0, .null, .null, .int 0, .int 0, .int 0] : List Value).toArray)) = true := vfb_0.2.2.2.2.1
theorem vf_5 : vs_A.vm.findClass "OrderbenchLaw$Out" = some 12 := vfb_0.2.2.2.2.2.1
theorem vf_6 : (vs_A.vm.classes[12]?).any (fun k => decide (k.instanceTypes.map defaultValue = ([.long 0, .null] : List Value).toArray)) = true := vfb_0.2.2.2.2.2.2.1
theorem vf_7 : ve_ar vs_A 51 .int = true := vfb_0.2.2.2.2.2.2.2.1
theorem vf_8 : (parseMethodDescriptor "(LOrderbench;IILOrderbenchLaw$Out;)I").map (fun d => d.parameters.length) = some 4 := vfb_0.2.2.2.2.2.2.2.2.1
theorem vf_9 : (parseMethodDescriptor "(II)I").map (fun d => d.parameters.length) = some 2 := vfb_0.2.2.2.2.2.2.2.2.2.1
theorem vf_10 : ve_de vs_A ⟨"OrderbenchModel", "turn", "(II)I"⟩ = true := vfb_0.2.2.2.2.2.2.2.2.2.2.1
theorem vf_11 : (parseMethodDescriptor "()I").map (fun d => d.parameters.length) = some 0 := vfb_0.2.2.2.2.2.2.2.2.2.2.2.1
theorem vf_12 : ve_de vs_A ⟨"OrderbenchModel", "thrown", "()I"⟩ = true := vfb_0.2.2.2.2.2.2.2.2.2.2.2.2.1
theorem vf_13 : (vs_A.fieldFound? "OrderbenchLaw$Out" "n" "J").any (fun q => q.2.2.2.slot.beq 0 && !q.2.2.2.isStatic) = true := vfb_0.2.2.2.2.2.2.2.2.2.2.2.2.2.1
theorem vf_14 : (parseMethodDescriptor "()J").map (fun d => d.parameters.length) = some 0 := vfb_0.2.2.2.2.2.2.2.2.2.2.2.2.2.2.1
theorem vf_15 : ve_de vs_A ⟨"Orderbench", "digest", "()J"⟩ = true := vfb_0.2.2.2.2.2.2.2.2.2.2.2.2.2.2.2.1
theorem vf_16 : ve_de vs_A ⟨"OrderbenchModel", "digest", "()J"⟩ = true := vfb_0.2.2.2.2.2.2.2.2.2.2.2.2.2.2.2.2.1
theorem vf_17 : vs_A.vm.findClass ("[" ++ (FieldType.object "Orderbench$Row").toString) = some 54 := vfb_0.2.2.2.2.2.2.2.2.2.2.2.2.2.2.2.2.2.1
theorem vf_18 : ve_cs vs_A 0 [2] (.array (.object "Orderbench$Row")) = true := vfb_0.2.2.2.2.2.2.2.2.2.2.2.2.2.2.2.2.2.2.1
theorem vf_19 : (vs_A.fieldFound? "Orderbench" "benches" "[LOrderbench$Row;").any (fun q => q.2.2.2.slot.beq 0 && (!q.2.2.2.isStatic && (decide (vs_A.vm.findClass "Orderbench" = some q.1) && decide (q.2.2.2.type = (.array (.object "Orderbench$Row")))))) = true := vfb_0.2.2.2.2.2.2.2.2.2.2.2.2.2.2.2.2.2.2.2.1
theorem vf_20 : (vs_A.fieldFound? "Orderbench" "benches" "[LOrderbench$Row;").any (fun q => q.2.2.2.slot.beq 0 && !q.2.2.2.isStatic) = true := vfb_0.2.2.2.2.2.2.2.2.2.2.2.2.2.2.2.2.2.2.2.2.1
theorem vf_21 : vs_A.vm.findClass "Orderbench$Row" = some 3 := vfb_0.2.2.2.2.2.2.2.2.2.2.2.2.2.2.2.2.2.2.2.2.2.1
theorem vf_22 : (vs_A.vm.classes[3]?).any (fun k => decide (k.instanceTypes.map defaultValue = ([.null, .int 0] : List Value).toArray)) = true := vfb_0.2.2.2.2.2.2.2.2.2.2.2.2.2.2.2.2.2.2.2.2.2.2.1
theorem vf_23 : ve_aa vs_A 54 [3] = true := vfb_0.2.2.2.2.2.2.2.2.2.2.2.2.2.2.2.2.2.2.2.2.2.2.2.1
theorem vf_24 : vs_A.vm.findClass ("[" ++ (FieldType.object "Orderbench$Shape").toString) = some 55 := vfb_0.2.2.2.2.2.2.2.2.2.2.2.2.2.2.2.2.2.2.2.2.2.2.2.2
set_option maxRecDepth 100000 in
theorem vfb_1 : (ve_cs vs_A 1 [2] (.array (.object "Orderbench$Shape")) = true) ∧ (((vs_A.fieldFound? "Orderbench" "orders" "[LOrderbench$Shape;").any (fun q => q.2.2.2.slot.beq 1 && (!q.2.2.2.isStatic && (decide (vs_A.vm.findClass "Orderbench" = some q.1) && decide (q.2.2.2.type = (.array (.object "Orderbench$Shape")))))) = true) ∧ ((vs_A.vm.findClass "Orderbench$Base" = some 26) ∧ (((vs_A.vm.classes[26]?).any (fun k => decide (k.instanceTypes.map defaultValue = ([.int 0, .int 0, .int 0] : List Value).toArray)) = true) ∧ (((parseMethodDescriptor "(I)V").map (fun d => d.parameters.length) = some 1) ∧ (((vs_A.fieldFound? "Orderbench" "orders" "[LOrderbench$Shape;").any (fun q => q.2.2.2.slot.beq 1 && !q.2.2.2.isStatic) = true) ∧ ((ve_aa vs_A 55 [26] = true) ∧ ((ve_cs vs_A 2 [2] (.object "Orderbench$Row") = true) ∧ (((vs_A.fieldFound? "Orderbench" "copied" "LOrderbench$Row;").any (fun q => q.2.2.2.slot.beq 2 && (!q.2.2.2.isStatic && (decide (vs_A.vm.findClass "Orderbench" = some q.1) && decide (q.2.2.2.type = (.object "Orderbench$Row"))))) = true) ∧ ((ve_cs vs_A 3 [2] (.object "Orderbench$Row") = true) ∧ (((vs_A.fieldFound? "Orderbench" "copiedToo" "LOrderbench$Row;").any (fun q => q.2.2.2.slot.beq 3 && (!q.2.2.2.isStatic && (decide (vs_A.vm.findClass "Orderbench" = some q.1) && decide (q.2.2.2.type = (.object "Orderbench$Row"))))) = true) ∧ ((vs_A.vm.findClass ("[" ++ (newarray.typeOf .int).toString) = some 51) ∧ ((ve_cs vs_A 4 [2] (.array .int) = true) ∧ (((vs_A.fieldFound? "Orderbench" "ranks" "[I").any (fun q => q.2.2.2.slot.beq 4 && (!q.2.2.2.isStatic && (decide (vs_A.vm.findClass "Orderbench" = some q.1) && decide (q.2.2.2.type = (.array .int))))) = true) ∧ ((vs_A.vm.findClass "java/lang/StringBuilder" = some 36) ∧ (((vs_A.vm.classes[36]?).any (fun k => decide (k.instanceTypes.map defaultValue = ([.null, .int 0, .int 0, .int 0] : List Value).toArray)) = true) ∧ ((ve_cs vs_A 5 [2] (.object "java/lang/StringBuilder") = true) ∧ (((vs_A.fieldFound? "Orderbench" "signs" "Ljava/lang/StringBuilder;").any (fun q => q.2.2.2.slot.beq 5 && (!q.2.2.2.isStatic && (decide (vs_A.vm.findClass "Orderbench" = some q.1) && decide (q.2.2.2.type = (.object "java/lang/StringBuilder"))))) = true) ∧ ((ve_cs vs_A 0 [3] (.array .int) = true) ∧ (((vs_A.fieldFound? "Orderbench$Row" "codes" "[I").any (fun q => q.2.2.2.slot.beq 0 && (!q.2.2.2.isStatic && (decide (vs_A.vm.findClass "Orderbench$Row" = some q.1) && decide (q.2.2.2.type = (.array .int))))) = true) ∧ (((parseMethodDescriptor "(IZ)V").map (fun d => d.parameters.length) = some 2) ∧ ((ve_cs vs_A 2 [26] .int = true) ∧ (((vs_A.fieldFound? "Orderbench$Base" "kind" "I").any (fun q => q.2.2.2.slot.beq 2 && (!q.2.2.2.isStatic && (decide (vs_A.vm.findClass "Orderbench$Base" = some q.1) && decide (q.2.2.2.type = .int)))) = true) ∧ ((ve_cs vs_A 0 [26, 32, 33] .int = true) ∧ (((vs_A.fieldFound? "Orderbench$Shape" "length" "I").any (fun q => q.2.2.2.slot.beq 0 && (!q.2.2.2.isStatic && (decide (vs_A.vm.findClass "Orderbench$Shape" = some q.1) && decide (q.2.2.2.type = .int)))) = true))))))))))))))))))))))))) := by decide +kernel
theorem vf_25 : ve_cs vs_A 1 [2] (.array (.object "Orderbench$Shape")) = true := vfb_1.1
theorem vf_26 : (vs_A.fieldFound? "Orderbench" "orders" "[LOrderbench$Shape;").any (fun q => q.2.2.2.slot.beq 1 && (!q.2.2.2.isStatic && (decide (vs_A.vm.findClass "Orderbench" = some q.1) && decide (q.2.2.2.type = (.array (.object "Orderbench$Shape")))))) = true := vfb_1.2.1
theorem vf_27 : vs_A.vm.findClass "Orderbench$Base" = some 26 := vfb_1.2.2.1
theorem vf_28 : (vs_A.vm.classes[26]?).any (fun k => decide (k.instanceTypes.map defaultValue = ([.int 0, .int 0, .int 0] : List Value).toArray)) = true := vfb_1.2.2.2.1
theorem vf_29 : (parseMethodDescriptor "(I)V").map (fun d => d.parameters.length) = some 1 := vfb_1.2.2.2.2.1
theorem vf_30 : (vs_A.fieldFound? "Orderbench" "orders" "[LOrderbench$Shape;").any (fun q => q.2.2.2.slot.beq 1 && !q.2.2.2.isStatic) = true := vfb_1.2.2.2.2.2.1
theorem vf_31 : ve_aa vs_A 55 [26] = true := vfb_1.2.2.2.2.2.2.1
theorem vf_32 : ve_cs vs_A 2 [2] (.object "Orderbench$Row") = true := vfb_1.2.2.2.2.2.2.2.1
theorem vf_33 : (vs_A.fieldFound? "Orderbench" "copied" "LOrderbench$Row;").any (fun q => q.2.2.2.slot.beq 2 && (!q.2.2.2.isStatic && (decide (vs_A.vm.findClass "Orderbench" = some q.1) && decide (q.2.2.2.type = (.object "Orderbench$Row"))))) = true := vfb_1.2.2.2.2.2.2.2.2.1
theorem vf_34 : ve_cs vs_A 3 [2] (.object "Orderbench$Row") = true := vfb_1.2.2.2.2.2.2.2.2.2.1
theorem vf_35 : (vs_A.fieldFound? "Orderbench" "copiedToo" "LOrderbench$Row;").any (fun q => q.2.2.2.slot.beq 3 && (!q.2.2.2.isStatic && (decide (vs_A.vm.findClass "Orderbench" = some q.1) && decide (q.2.2.2.type = (.object "Orderbench$Row"))))) = true := vfb_1.2.2.2.2.2.2.2.2.2.2.1
theorem vf_36 : vs_A.vm.findClass ("[" ++ (newarray.typeOf .int).toString) = some 51 := vfb_1.2.2.2.2.2.2.2.2.2.2.2.1
theorem vf_37 : ve_cs vs_A 4 [2] (.array .int) = true := vfb_1.2.2.2.2.2.2.2.2.2.2.2.2.1
theorem vf_38 : (vs_A.fieldFound? "Orderbench" "ranks" "[I").any (fun q => q.2.2.2.slot.beq 4 && (!q.2.2.2.isStatic && (decide (vs_A.vm.findClass "Orderbench" = some q.1) && decide (q.2.2.2.type = (.array .int))))) = true := vfb_1.2.2.2.2.2.2.2.2.2.2.2.2.2.1
theorem vf_39 : vs_A.vm.findClass "java/lang/StringBuilder" = some 36 := vfb_1.2.2.2.2.2.2.2.2.2.2.2.2.2.2.1
theorem vf_40 : (vs_A.vm.classes[36]?).any (fun k => decide (k.instanceTypes.map defaultValue = ([.null, .int 0, .int 0, .int 0] : List Value).toArray)) = true := vfb_1.2.2.2.2.2.2.2.2.2.2.2.2.2.2.2.1
theorem vf_41 : ve_cs vs_A 5 [2] (.object "java/lang/StringBuilder") = true := vfb_1.2.2.2.2.2.2.2.2.2.2.2.2.2.2.2.2.1
theorem vf_42 : (vs_A.fieldFound? "Orderbench" "signs" "Ljava/lang/StringBuilder;").any (fun q => q.2.2.2.slot.beq 5 && (!q.2.2.2.isStatic && (decide (vs_A.vm.findClass "Orderbench" = some q.1) && decide (q.2.2.2.type = (.object "java/lang/StringBuilder"))))) = true := vfb_1.2.2.2.2.2.2.2.2.2.2.2.2.2.2.2.2.2.1
theorem vf_43 : ve_cs vs_A 0 [3] (.array .int) = true := vfb_1.2.2.2.2.2.2.2.2.2.2.2.2.2.2.2.2.2.2.1
theorem vf_44 : (vs_A.fieldFound? "Orderbench$Row" "codes" "[I").any (fun q => q.2.2.2.slot.beq 0 && (!q.2.2.2.isStatic && (decide (vs_A.vm.findClass "Orderbench$Row" = some q.1) && decide (q.2.2.2.type = (.array .int))))) = true := vfb_1.2.2.2.2.2.2.2.2.2.2.2.2.2.2.2.2.2.2.2.1
theorem vf_45 : (parseMethodDescriptor "(IZ)V").map (fun d => d.parameters.length) = some 2 := vfb_1.2.2.2.2.2.2.2.2.2.2.2.2.2.2.2.2.2.2.2.2.1
theorem vf_46 : ve_cs vs_A 2 [26] .int = true := vfb_1.2.2.2.2.2.2.2.2.2.2.2.2.2.2.2.2.2.2.2.2.2.1
theorem vf_47 : (vs_A.fieldFound? "Orderbench$Base" "kind" "I").any (fun q => q.2.2.2.slot.beq 2 && (!q.2.2.2.isStatic && (decide (vs_A.vm.findClass "Orderbench$Base" = some q.1) && decide (q.2.2.2.type = .int)))) = true := vfb_1.2.2.2.2.2.2.2.2.2.2.2.2.2.2.2.2.2.2.2.2.2.2.1
theorem vf_48 : ve_cs vs_A 0 [26, 32, 33] .int = true := vfb_1.2.2.2.2.2.2.2.2.2.2.2.2.2.2.2.2.2.2.2.2.2.2.2.1
theorem vf_49 : (vs_A.fieldFound? "Orderbench$Shape" "length" "I").any (fun q => q.2.2.2.slot.beq 0 && (!q.2.2.2.isStatic && (decide (vs_A.vm.findClass "Orderbench$Shape" = some q.1) && decide (q.2.2.2.type = .int)))) = true := vfb_1.2.2.2.2.2.2.2.2.2.2.2.2.2.2.2.2.2.2.2.2.2.2.2.2
set_option maxRecDepth 100000 in
theorem vfb_2 : (ve_cs vs_A 1 [26, 32, 33] .boolean = true) ∧ (((vs_A.fieldFound? "Orderbench$Shape" "safe" "Z").any (fun q => q.2.2.2.slot.beq 1 && (!q.2.2.2.isStatic && (decide (vs_A.vm.findClass "Orderbench$Shape" = some q.1) && decide (q.2.2.2.type = .boolean)))) = true) ∧ (((vs_A.fieldFound? "java/lang/String" "COMPACT_STRINGS" "Z").any (fun q => q.2.2.2.slot.beq 1 && (q.2.2.2.isStatic && (decide (q.2.1.init = .initialized) && decide (q.2.1.statics = some 3)))) = true) ∧ ((vs_A.vm.findClass ("[" ++ (newarray.typeOf .byte).toString) = some 53) ∧ ((ve_cs vs_A 0 [36] (.array .byte) = true) ∧ (((vs_A.fieldFound? "java/lang/AbstractStringBuilder" "value" "[B").any (fun q => q.2.2.2.slot.beq 0 && (!q.2.2.2.isStatic && (!hasFlag q.2.2.2.accessFlags Acc.final && decide (q.2.2.2.type = (.array .byte))))) = true) ∧ ((ve_cs vs_A 1 [36] .byte = true) ∧ (((vs_A.fieldFound? "java/lang/AbstractStringBuilder" "coder" "B").any (fun q => q.2.2.2.slot.beq 1 && (!q.2.2.2.isStatic && (!hasFlag q.2.2.2.accessFlags Acc.final && decide (q.2.2.2.type = .byte)))) = true) ∧ ((vs_A.vm.findClass "java/util/ArrayList" = some 47) ∧ (((vs_A.vm.classes[47]?).any (fun k => decide (k.instanceTypes.map defaultValue = ([.int 0, .null, .int 0] : List Value).toArray)) = true) ∧ ((ve_cs vs_A 1 [6] (.object "java/util/ArrayList") = true) ∧ (((vs_A.fieldFound? "OrderbenchModel" "benches" "Ljava/util/ArrayList;").any (fun q => q.2.2.2.slot.beq 1 && (!q.2.2.2.isStatic && (decide (vs_A.vm.findClass "OrderbenchModel" = some q.1) && decide (q.2.2.2.type = (.object "java/util/ArrayList"))))) = true) ∧ ((vs_A.vm.findClass ("[" ++ (FieldType.object "OrderbenchModel$Shape").toString) = some 56) ∧ ((ve_cs vs_A 2 [6] (.array (.object "OrderbenchModel$Shape")) = true) ∧ (((vs_A.fieldFound? "OrderbenchModel" "shapes" "[LOrderbenchModel$Shape;").any (fun q => q.2.2.2.slot.beq 2 && (!q.2.2.2.isStatic && (decide (vs_A.vm.findClass "OrderbenchModel" = some q.1) && decide (q.2.2.2.type = (.array (.object "OrderbenchModel$Shape")))))) = true) ∧ (((vs_A.fieldFound? "OrderbenchModel" "benches" "Ljava/util/ArrayList;").any (fun q => q.2.2.2.slot.beq 1 && !q.2.2.2.isStatic) = true) ∧ (((parseMethodDescriptor "(Ljava/lang/Object;)Z").map (fun d => d.parameters.length) = some 1) ∧ ((ve_de vs_A ⟨"java/util/ArrayList", "add", "(Ljava/lang/Object;)Z"⟩ = true) ∧ (((vs_A.fieldFound? "OrderbenchModel" "shapes" "[LOrderbenchModel$Shape;").any (fun q => q.2.2.2.slot.beq 2 && !q.2.2.2.isStatic) = true) ∧ ((vs_A.vm.findClass "OrderbenchModel$Shape" = some 11) ∧ (((vs_A.vm.classes[11]?).any (fun k => decide (k.instanceTypes.map defaultValue = ([.int 0, .null, .null] : List Value).toArray)) = true) ∧ (((parseMethodDescriptor "(CLOrderbenchModel$Shape;LOrderbenchModel$Shape;)V").map (fun d => d.parameters.length) = some 3) ∧ ((ve_aa vs_A 56 [11] = true) ∧ (((vs_A.fieldFound? "java/util/ArrayList" "DEFAULTCAPACITY_EMPTY_ELEMENTDATA" "[Ljava/lang/Object;").any (fun q => q.2.2.2.slot.beq 3 && (q.2.2.2.isStatic && (decide (q.2.1.init = .initialized) && decide (q.2.1.statics = some 6)))) = true) ∧ ((ve_cs vs_A 1 [47] (.array (.object "java/lang/Object")) = true))))))))))))))))))))))))) := by decide +kernel
theorem vf_50 : ve_cs vs_A 1 [26, 32, 33] .boolean = true := vfb_2.1
theorem vf_51 : (vs_A.fieldFound? "Orderbench$Shape" "safe" "Z").any (fun q => q.2.2.2.slot.beq 1 && (!q.2.2.2.isStatic && (decide (vs_A.vm.findClass "Orderbench$Shape" = some q.1) && decide (q.2.2.2.type = .boolean)))) = true := vfb_2.2.1
theorem vf_52 : (vs_A.fieldFound? "java/lang/String" "COMPACT_STRINGS" "Z").any (fun q => q.2.2.2.slot.beq 1 && (q.2.2.2.isStatic && (decide (q.2.1.init = .initialized) && decide (q.2.1.statics = some 3)))) = true := vfb_2.2.2.1
theorem vf_53 : vs_A.vm.findClass ("[" ++ (newarray.typeOf .byte).toString) = some 53 := vfb_2.2.2.2.1
theorem vf_54 : ve_cs vs_A 0 [36] (.array .byte) = true := vfb_2.2.2.2.2.1
theorem vf_55 : (vs_A.fieldFound? "java/lang/AbstractStringBuilder" "value" "[B").any (fun q => q.2.2.2.slot.beq 0 && (!q.2.2.2.isStatic && (!hasFlag q.2.2.2.accessFlags Acc.final && decide (q.2.2.2.type = (.array .byte))))) = true := vfb_2.2.2.2.2.2.1
theorem vf_56 : ve_cs vs_A 1 [36] .byte = true := vfb_2.2.2.2.2.2.2.1
theorem vf_57 : (vs_A.fieldFound? "java/lang/AbstractStringBuilder" "coder" "B").any (fun q => q.2.2.2.slot.beq 1 && (!q.2.2.2.isStatic && (!hasFlag q.2.2.2.accessFlags Acc.final && decide (q.2.2.2.type = .byte)))) = true := vfb_2.2.2.2.2.2.2.2.1
theorem vf_58 : vs_A.vm.findClass "java/util/ArrayList" = some 47 := vfb_2.2.2.2.2.2.2.2.2.1
theorem vf_59 : (vs_A.vm.classes[47]?).any (fun k => decide (k.instanceTypes.map defaultValue = ([.int 0, .null, .int 0] : List Value).toArray)) = true := vfb_2.2.2.2.2.2.2.2.2.2.1
theorem vf_60 : ve_cs vs_A 1 [6] (.object "java/util/ArrayList") = true := vfb_2.2.2.2.2.2.2.2.2.2.2.1
theorem vf_61 : (vs_A.fieldFound? "OrderbenchModel" "benches" "Ljava/util/ArrayList;").any (fun q => q.2.2.2.slot.beq 1 && (!q.2.2.2.isStatic && (decide (vs_A.vm.findClass "OrderbenchModel" = some q.1) && decide (q.2.2.2.type = (.object "java/util/ArrayList"))))) = true := vfb_2.2.2.2.2.2.2.2.2.2.2.2.1
theorem vf_62 : vs_A.vm.findClass ("[" ++ (FieldType.object "OrderbenchModel$Shape").toString) = some 56 := vfb_2.2.2.2.2.2.2.2.2.2.2.2.2.1
theorem vf_63 : ve_cs vs_A 2 [6] (.array (.object "OrderbenchModel$Shape")) = true := vfb_2.2.2.2.2.2.2.2.2.2.2.2.2.2.1
theorem vf_64 : (vs_A.fieldFound? "OrderbenchModel" "shapes" "[LOrderbenchModel$Shape;").any (fun q => q.2.2.2.slot.beq 2 && (!q.2.2.2.isStatic && (decide (vs_A.vm.findClass "OrderbenchModel" = some q.1) && decide (q.2.2.2.type = (.array (.object "OrderbenchModel$Shape")))))) = true := vfb_2.2.2.2.2.2.2.2.2.2.2.2.2.2.2.1
theorem vf_65 : (vs_A.fieldFound? "OrderbenchModel" "benches" "Ljava/util/ArrayList;").any (fun q => q.2.2.2.slot.beq 1 && !q.2.2.2.isStatic) = true := vfb_2.2.2.2.2.2.2.2.2.2.2.2.2.2.2.2.1
theorem vf_66 : (parseMethodDescriptor "(Ljava/lang/Object;)Z").map (fun d => d.parameters.length) = some 1 := vfb_2.2.2.2.2.2.2.2.2.2.2.2.2.2.2.2.2.1
theorem vf_67 : ve_de vs_A ⟨"java/util/ArrayList", "add", "(Ljava/lang/Object;)Z"⟩ = true := vfb_2.2.2.2.2.2.2.2.2.2.2.2.2.2.2.2.2.2.1
theorem vf_68 : (vs_A.fieldFound? "OrderbenchModel" "shapes" "[LOrderbenchModel$Shape;").any (fun q => q.2.2.2.slot.beq 2 && !q.2.2.2.isStatic) = true := vfb_2.2.2.2.2.2.2.2.2.2.2.2.2.2.2.2.2.2.2.1
theorem vf_69 : vs_A.vm.findClass "OrderbenchModel$Shape" = some 11 := vfb_2.2.2.2.2.2.2.2.2.2.2.2.2.2.2.2.2.2.2.2.1
theorem vf_70 : (vs_A.vm.classes[11]?).any (fun k => decide (k.instanceTypes.map defaultValue = ([.int 0, .null, .null] : List Value).toArray)) = true := vfb_2.2.2.2.2.2.2.2.2.2.2.2.2.2.2.2.2.2.2.2.2.1
theorem vf_71 : (parseMethodDescriptor "(CLOrderbenchModel$Shape;LOrderbenchModel$Shape;)V").map (fun d => d.parameters.length) = some 3 := vfb_2.2.2.2.2.2.2.2.2.2.2.2.2.2.2.2.2.2.2.2.2.2.1
theorem vf_72 : ve_aa vs_A 56 [11] = true := vfb_2.2.2.2.2.2.2.2.2.2.2.2.2.2.2.2.2.2.2.2.2.2.2.1
theorem vf_73 : (vs_A.fieldFound? "java/util/ArrayList" "DEFAULTCAPACITY_EMPTY_ELEMENTDATA" "[Ljava/lang/Object;").any (fun q => q.2.2.2.slot.beq 3 && (q.2.2.2.isStatic && (decide (q.2.1.init = .initialized) && decide (q.2.1.statics = some 6)))) = true := vfb_2.2.2.2.2.2.2.2.2.2.2.2.2.2.2.2.2.2.2.2.2.2.2.2.1
theorem vf_74 : ve_cs vs_A 1 [47] (.array (.object "java/lang/Object")) = true := vfb_2.2.2.2.2.2.2.2.2.2.2.2.2.2.2.2.2.2.2.2.2.2.2.2.2
set_option maxRecDepth 100000 in
theorem vfb_3 : ((vs_A.fieldFound? "java/util/ArrayList" "elementData" "[Ljava/lang/Object;").any (fun q => q.2.2.2.slot.beq 1 && (!q.2.2.2.isStatic && (!hasFlag q.2.2.2.accessFlags Acc.final && decide (q.2.2.2.type = (.array (.object "java/lang/Object")))))) = true) ∧ ((ve_cs vs_A 0 [47] .int = true) ∧ (((vs_A.fieldFound? "java/util/AbstractList" "modCount" "I").any (fun q => q.2.2.2.slot.beq 0 && (!q.2.2.2.isStatic && (!hasFlag q.2.2.2.accessFlags Acc.final && decide (q.2.2.2.type = .int)))) = true) ∧ (((vs_A.fieldFound? "java/util/ArrayList" "modCount" "I").any (fun q => q.2.2.2.slot.beq 0 && !q.2.2.2.isStatic) = true) ∧ (((vs_A.fieldFound? "java/util/ArrayList" "modCount" "I").any (fun q => q.2.2.2.slot.beq 0 && (!q.2.2.2.isStatic && (!hasFlag q.2.2.2.accessFlags Acc.final && decide (q.2.2.2.type = .int)))) = true) ∧ (((vs_A.fieldFound? "java/util/ArrayList" "elementData" "[Ljava/lang/Object;").any (fun q => q.2.2.2.slot.beq 1 && !q.2.2.2.isStatic) = true) ∧ (((vs_A.fieldFound? "java/util/ArrayList" "size" "I").any (fun q => q.2.2.2.slot.beq 2 && !q.2.2.2.isStatic) = true) ∧ (((parseMethodDescriptor "(Ljava/lang/Object;[Ljava/lang/Object;I)V").map (fun d => d.parameters.length) = some 3) ∧ ((ve_de vs_A ⟨"java/util/ArrayList", "add", "(Ljava/lang/Object;[Ljava/lang/Object;I)V"⟩ = true) ∧ ((ve_ar vs_A 57 (.object "java/lang/Object") = true) ∧ (((parseMethodDescriptor "()[Ljava/lang/Object;").map (fun d => d.parameters.length) = some 0) ∧ ((ve_de vs_A ⟨"java/util/ArrayList", "grow", "()[Ljava/lang/Object;"⟩ = true) ∧ ((ve_aa vs_A 57 [47] = true) ∧ ((ve_cs vs_A 2 [47] .int = true) ∧ (((vs_A.fieldFound? "java/util/ArrayList" "size" "I").any (fun q => q.2.2.2.slot.beq 2 && (!q.2.2.2.isStatic && (!hasFlag q.2.2.2.accessFlags Acc.final && decide (q.2.2.2.type = .int)))) = true) ∧ (((parseMethodDescriptor "(I)[Ljava/lang/Object;").map (fun d => d.parameters.length) = some 1) ∧ ((ve_de vs_A ⟨"java/util/ArrayList", "grow", "(I)[Ljava/lang/Object;"⟩ = true) ∧ ((vs_A.vm.findClass ("[" ++ (FieldType.object "java/lang/Object").toString) = some 57) ∧ ((ve_cs vs_A 0 [11] .char = true) ∧ (((vs_A.fieldFound? "OrderbenchModel$Shape" "sort" "C").any (fun q => q.2.2.2.slot.beq 0 && (!q.2.2.2.isStatic && (decide (vs_A.vm.findClass "OrderbenchModel$Shape" = some q.1) && decide (q.2.2.2.type = .char)))) = true) ∧ ((ve_cs vs_A 1 [11] (.object "OrderbenchModel$Shape") = true) ∧ (((vs_A.fieldFound? "OrderbenchModel$Shape" "one" "LOrderbenchModel$Shape;").any (fun q => q.2.2.2.slot.beq 1 && (!q.2.2.2.isStatic && (decide (vs_A.vm.findClass "OrderbenchModel$Shape" = some q.1) && decide (q.2.2.2.type = (.object "OrderbenchModel$Shape"))))) = true) ∧ ((ve_cs vs_A 2 [11] (.object "OrderbenchModel$Shape") = true) ∧ (((vs_A.fieldFound? "OrderbenchModel$Shape" "other" "LOrderbenchModel$Shape;").any (fun q => q.2.2.2.slot.beq 2 && (!q.2.2.2.isStatic && (decide (vs_A.vm.findClass "OrderbenchModel$Shape" = some q.1) && decide (q.2.2.2.type = (.object "OrderbenchModel$Shape"))))) = true) ∧ ((ve_de vs_A ⟨"Orderbench", "turn", "(II)I"⟩ = true))))))))))))))))))))))))) := by decide +kernel
theorem vf_75 : (vs_A.fieldFound? "java/util/ArrayList" "elementData" "[Ljava/lang/Object;").any (fun q => q.2.2.2.slot.beq 1 && (!q.2.2.2.isStatic && (!hasFlag q.2.2.2.accessFlags Acc.final && decide (q.2.2.2.type = (.array (.object "java/lang/Object")))))) = true := vfb_3.1
theorem vf_76 : ve_cs vs_A 0 [47] .int = true := vfb_3.2.1
theorem vf_77 : (vs_A.fieldFound? "java/util/AbstractList" "modCount" "I").any (fun q => q.2.2.2.slot.beq 0 && (!q.2.2.2.isStatic && (!hasFlag q.2.2.2.accessFlags Acc.final && decide (q.2.2.2.type = .int)))) = true := vfb_3.2.2.1
theorem vf_78 : (vs_A.fieldFound? "java/util/ArrayList" "modCount" "I").any (fun q => q.2.2.2.slot.beq 0 && !q.2.2.2.isStatic) = true := vfb_3.2.2.2.1
theorem vf_79 : (vs_A.fieldFound? "java/util/ArrayList" "modCount" "I").any (fun q => q.2.2.2.slot.beq 0 && (!q.2.2.2.isStatic && (!hasFlag q.2.2.2.accessFlags Acc.final && decide (q.2.2.2.type = .int)))) = true := vfb_3.2.2.2.2.1
theorem vf_80 : (vs_A.fieldFound? "java/util/ArrayList" "elementData" "[Ljava/lang/Object;").any (fun q => q.2.2.2.slot.beq 1 && !q.2.2.2.isStatic) = true := vfb_3.2.2.2.2.2.1
theorem vf_81 : (vs_A.fieldFound? "java/util/ArrayList" "size" "I").any (fun q => q.2.2.2.slot.beq 2 && !q.2.2.2.isStatic) = true := vfb_3.2.2.2.2.2.2.1
theorem vf_82 : (parseMethodDescriptor "(Ljava/lang/Object;[Ljava/lang/Object;I)V").map (fun d => d.parameters.length) = some 3 := vfb_3.2.2.2.2.2.2.2.1
theorem vf_83 : ve_de vs_A ⟨"java/util/ArrayList", "add", "(Ljava/lang/Object;[Ljava/lang/Object;I)V"⟩ = true := vfb_3.2.2.2.2.2.2.2.2.1
theorem vf_84 : ve_ar vs_A 57 (.object "java/lang/Object") = true := vfb_3.2.2.2.2.2.2.2.2.2.1
theorem vf_85 : (parseMethodDescriptor "()[Ljava/lang/Object;").map (fun d => d.parameters.length) = some 0 := vfb_3.2.2.2.2.2.2.2.2.2.2.1
theorem vf_86 : ve_de vs_A ⟨"java/util/ArrayList", "grow", "()[Ljava/lang/Object;"⟩ = true := vfb_3.2.2.2.2.2.2.2.2.2.2.2.1
theorem vf_87 : ve_aa vs_A 57 [47] = true := vfb_3.2.2.2.2.2.2.2.2.2.2.2.2.1
theorem vf_88 : ve_cs vs_A 2 [47] .int = true := vfb_3.2.2.2.2.2.2.2.2.2.2.2.2.2.1
theorem vf_89 : (vs_A.fieldFound? "java/util/ArrayList" "size" "I").any (fun q => q.2.2.2.slot.beq 2 && (!q.2.2.2.isStatic && (!hasFlag q.2.2.2.accessFlags Acc.final && decide (q.2.2.2.type = .int)))) = true := vfb_3.2.2.2.2.2.2.2.2.2.2.2.2.2.2.1
theorem vf_90 : (parseMethodDescriptor "(I)[Ljava/lang/Object;").map (fun d => d.parameters.length) = some 1 := vfb_3.2.2.2.2.2.2.2.2.2.2.2.2.2.2.2.1
theorem vf_91 : ve_de vs_A ⟨"java/util/ArrayList", "grow", "(I)[Ljava/lang/Object;"⟩ = true := vfb_3.2.2.2.2.2.2.2.2.2.2.2.2.2.2.2.2.1
theorem vf_92 : vs_A.vm.findClass ("[" ++ (FieldType.object "java/lang/Object").toString) = some 57 := vfb_3.2.2.2.2.2.2.2.2.2.2.2.2.2.2.2.2.2.1
theorem vf_93 : ve_cs vs_A 0 [11] .char = true := vfb_3.2.2.2.2.2.2.2.2.2.2.2.2.2.2.2.2.2.2.1
theorem vf_94 : (vs_A.fieldFound? "OrderbenchModel$Shape" "sort" "C").any (fun q => q.2.2.2.slot.beq 0 && (!q.2.2.2.isStatic && (decide (vs_A.vm.findClass "OrderbenchModel$Shape" = some q.1) && decide (q.2.2.2.type = .char)))) = true := vfb_3.2.2.2.2.2.2.2.2.2.2.2.2.2.2.2.2.2.2.2.1
theorem vf_95 : ve_cs vs_A 1 [11] (.object "OrderbenchModel$Shape") = true := vfb_3.2.2.2.2.2.2.2.2.2.2.2.2.2.2.2.2.2.2.2.2.1
theorem vf_96 : (vs_A.fieldFound? "OrderbenchModel$Shape" "one" "LOrderbenchModel$Shape;").any (fun q => q.2.2.2.slot.beq 1 && (!q.2.2.2.isStatic && (decide (vs_A.vm.findClass "OrderbenchModel$Shape" = some q.1) && decide (q.2.2.2.type = (.object "OrderbenchModel$Shape"))))) = true := vfb_3.2.2.2.2.2.2.2.2.2.2.2.2.2.2.2.2.2.2.2.2.2.1
theorem vf_97 : ve_cs vs_A 2 [11] (.object "OrderbenchModel$Shape") = true := vfb_3.2.2.2.2.2.2.2.2.2.2.2.2.2.2.2.2.2.2.2.2.2.2.1
theorem vf_98 : (vs_A.fieldFound? "OrderbenchModel$Shape" "other" "LOrderbenchModel$Shape;").any (fun q => q.2.2.2.slot.beq 2 && (!q.2.2.2.isStatic && (decide (vs_A.vm.findClass "OrderbenchModel$Shape" = some q.1) && decide (q.2.2.2.type = (.object "OrderbenchModel$Shape"))))) = true := vfb_3.2.2.2.2.2.2.2.2.2.2.2.2.2.2.2.2.2.2.2.2.2.2.2.1
theorem vf_99 : ve_de vs_A ⟨"Orderbench", "turn", "(II)I"⟩ = true := vfb_3.2.2.2.2.2.2.2.2.2.2.2.2.2.2.2.2.2.2.2.2.2.2.2.2
set_option maxRecDepth 100000 in
theorem vfb_4 : (ve_cs vs_A 0 [12] .long = true) ∧ (((vs_A.fieldFound? "OrderbenchLaw$Out" "n" "J").any (fun q => q.2.2.2.slot.beq 0 && (!q.2.2.2.isStatic && (!hasFlag q.2.2.2.accessFlags Acc.final && decide (q.2.2.2.type = .long)))) = true) ∧ (((parseMethodDescriptor "(I)LOrderbench$Shape;").map (fun d => d.parameters.length) = some 1) ∧ ((ve_de vs_A ⟨"Orderbench", "orderAt", "(I)LOrderbench$Shape;"⟩ = true) ∧ ((vs_A.vm.findClass "Orderbench$Turned" = some 32) ∧ (((vs_A.vm.classes[32]?).any (fun k => decide (k.instanceTypes.map defaultValue = ([.int 0, .int 0, .null] : List Value).toArray)) = true) ∧ (((parseMethodDescriptor "(LOrderbench$Shape;)V").map (fun d => d.parameters.length) = some 1) ∧ (((parseMethodDescriptor "(ILOrderbench$Shape;)I").map (fun d => d.parameters.length) = some 2) ∧ ((ve_de vs_A ⟨"Orderbench", "makeOrder", "(ILOrderbench$Shape;)I"⟩ = true) ∧ ((ve_ar vs_A 55 (.object "Orderbench$Shape") = true) ∧ (((vs_A.fieldFound? "Orderbench$Shape" "length" "I").any (fun q => q.2.2.2.slot.beq 0 && !q.2.2.2.isStatic) = true) ∧ (((vs_A.fieldFound? "Orderbench$Shape" "safe" "Z").any (fun q => q.2.2.2.slot.beq 1 && !q.2.2.2.isStatic) = true) ∧ ((ve_cs vs_A 2 [32] (.object "Orderbench$Shape") = true) ∧ (((vs_A.fieldFound? "Orderbench$Turned" "of" "LOrderbench$Shape;").any (fun q => q.2.2.2.slot.beq 2 && (!q.2.2.2.isStatic && (decide (vs_A.vm.findClass "Orderbench$Turned" = some q.1) && decide (q.2.2.2.type = (.object "Orderbench$Shape"))))) = true) ∧ ((ve_aa vs_A 55 [32] = true) ∧ (((parseMethodDescriptor "(I)Z").map (fun d => d.parameters.length) = some 1) ∧ (((parseMethodDescriptor "(ZZ)Z").map (fun d => d.parameters.length) = some 2) ∧ ((ve_de vs_A ⟨"OrderbenchModel", "fails", "(ZZ)Z"⟩ = true) ∧ ((ve_ar vs_A 56 (.object "OrderbenchModel$Shape") = true) ∧ (((parseMethodDescriptor "(ILOrderbenchModel$Shape;)I").map (fun d => d.parameters.length) = some 2) ∧ ((ve_de vs_A ⟨"OrderbenchModel", "become", "(ILOrderbenchModel$Shape;)I"⟩ = true) ∧ (((parseMethodDescriptor "(III)Z").map (fun d => d.parameters.length) = some 3) ∧ (((parseMethodDescriptor "(ZZZ)Z").map (fun d => d.parameters.length) = some 3) ∧ ((ve_de vs_A ⟨"OrderbenchModel", "fails", "(ZZZ)Z"⟩ = true) ∧ ((ve_cs vs_A 0 [6] .int = true))))))))))))))))))))))))) := by decide +kernel
theorem vf_100 : ve_cs vs_A 0 [12] .long = true := vfb_4.1
theorem vf_101 : (vs_A.fieldFound? "OrderbenchLaw$Out" "n" "J").any (fun q => q.2.2.2.slot.beq 0 && (!q.2.2.2.isStatic && (!hasFlag q.2.2.2.accessFlags Acc.final && decide (q.2.2.2.type = .long)))) = true := vfb_4.2.1
theorem vf_102 : (parseMethodDescriptor "(I)LOrderbench$Shape;").map (fun d => d.parameters.length) = some 1 := vfb_4.2.2.1
theorem vf_103 : ve_de vs_A ⟨"Orderbench", "orderAt", "(I)LOrderbench$Shape;"⟩ = true := vfb_4.2.2.2.1
theorem vf_104 : vs_A.vm.findClass "Orderbench$Turned" = some 32 := vfb_4.2.2.2.2.1
theorem vf_105 : (vs_A.vm.classes[32]?).any (fun k => decide (k.instanceTypes.map defaultValue = ([.int 0, .int 0, .null] : List Value).toArray)) = true := vfb_4.2.2.2.2.2.1
theorem vf_106 : (parseMethodDescriptor "(LOrderbench$Shape;)V").map (fun d => d.parameters.length) = some 1 := vfb_4.2.2.2.2.2.2.1
theorem vf_107 : (parseMethodDescriptor "(ILOrderbench$Shape;)I").map (fun d => d.parameters.length) = some 2 := vfb_4.2.2.2.2.2.2.2.1
theorem vf_108 : ve_de vs_A ⟨"Orderbench", "makeOrder", "(ILOrderbench$Shape;)I"⟩ = true := vfb_4.2.2.2.2.2.2.2.2.1
theorem vf_109 : ve_ar vs_A 55 (.object "Orderbench$Shape") = true := vfb_4.2.2.2.2.2.2.2.2.2.1
theorem vf_110 : (vs_A.fieldFound? "Orderbench$Shape" "length" "I").any (fun q => q.2.2.2.slot.beq 0 && !q.2.2.2.isStatic) = true := vfb_4.2.2.2.2.2.2.2.2.2.2.1
theorem vf_111 : (vs_A.fieldFound? "Orderbench$Shape" "safe" "Z").any (fun q => q.2.2.2.slot.beq 1 && !q.2.2.2.isStatic) = true := vfb_4.2.2.2.2.2.2.2.2.2.2.2.1
theorem vf_112 : ve_cs vs_A 2 [32] (.object "Orderbench$Shape") = true := vfb_4.2.2.2.2.2.2.2.2.2.2.2.2.1
theorem vf_113 : (vs_A.fieldFound? "Orderbench$Turned" "of" "LOrderbench$Shape;").any (fun q => q.2.2.2.slot.beq 2 && (!q.2.2.2.isStatic && (decide (vs_A.vm.findClass "Orderbench$Turned" = some q.1) && decide (q.2.2.2.type = (.object "Orderbench$Shape"))))) = true := vfb_4.2.2.2.2.2.2.2.2.2.2.2.2.2.1
theorem vf_114 : ve_aa vs_A 55 [32] = true := vfb_4.2.2.2.2.2.2.2.2.2.2.2.2.2.2.1
theorem vf_115 : (parseMethodDescriptor "(I)Z").map (fun d => d.parameters.length) = some 1 := vfb_4.2.2.2.2.2.2.2.2.2.2.2.2.2.2.2.1
theorem vf_116 : (parseMethodDescriptor "(ZZ)Z").map (fun d => d.parameters.length) = some 2 := vfb_4.2.2.2.2.2.2.2.2.2.2.2.2.2.2.2.2.1
theorem vf_117 : ve_de vs_A ⟨"OrderbenchModel", "fails", "(ZZ)Z"⟩ = true := vfb_4.2.2.2.2.2.2.2.2.2.2.2.2.2.2.2.2.2.1
theorem vf_118 : ve_ar vs_A 56 (.object "OrderbenchModel$Shape") = true := vfb_4.2.2.2.2.2.2.2.2.2.2.2.2.2.2.2.2.2.2.1
theorem vf_119 : (parseMethodDescriptor "(ILOrderbenchModel$Shape;)I").map (fun d => d.parameters.length) = some 2 := vfb_4.2.2.2.2.2.2.2.2.2.2.2.2.2.2.2.2.2.2.2.1
theorem vf_120 : ve_de vs_A ⟨"OrderbenchModel", "become", "(ILOrderbenchModel$Shape;)I"⟩ = true := vfb_4.2.2.2.2.2.2.2.2.2.2.2.2.2.2.2.2.2.2.2.2.1
theorem vf_121 : (parseMethodDescriptor "(III)Z").map (fun d => d.parameters.length) = some 3 := vfb_4.2.2.2.2.2.2.2.2.2.2.2.2.2.2.2.2.2.2.2.2.2.1
theorem vf_122 : (parseMethodDescriptor "(ZZZ)Z").map (fun d => d.parameters.length) = some 3 := vfb_4.2.2.2.2.2.2.2.2.2.2.2.2.2.2.2.2.2.2.2.2.2.2.1
theorem vf_123 : ve_de vs_A ⟨"OrderbenchModel", "fails", "(ZZZ)Z"⟩ = true := vfb_4.2.2.2.2.2.2.2.2.2.2.2.2.2.2.2.2.2.2.2.2.2.2.2.1
theorem vf_124 : ve_cs vs_A 0 [6] .int = true := vfb_4.2.2.2.2.2.2.2.2.2.2.2.2.2.2.2.2.2.2.2.2.2.2.2.2
set_option maxRecDepth 100000 in
theorem vfb_5 : ((vs_A.fieldFound? "OrderbenchModel" "thrown" "I").any (fun q => q.2.2.2.slot.beq 0 && (!q.2.2.2.isStatic && (!hasFlag q.2.2.2.accessFlags Acc.final && decide (q.2.2.2.type = .int)))) = true) ∧ (((vs_A.fieldFound? "OrderbenchModel" "thrown" "I").any (fun q => q.2.2.2.slot.beq 0 && !q.2.2.2.isStatic) = true) ∧ (((parseMethodDescriptor "()Ljava/lang/String;").map (fun d => d.parameters.length) = some 0) ∧ ((ve_de vs_A ⟨"OrderbenchModel$Shape", "text", "()Ljava/lang/String;"⟩ = true) ∧ ((vs_A.vm.findClass "java/lang/String" = some 28) ∧ ((ve_de vs_A ⟨"java/lang/String", "length", "()I"⟩ = true) ∧ (((parseMethodDescriptor "(I)I").map (fun d => d.parameters.length) = some 1) ∧ ((ve_de vs_A ⟨"OrderbenchModel", "sizeOf", "(I)I"⟩ = true) ∧ (((vs_A.fieldFound? "OrderbenchModel$Shape" "sort" "C").any (fun q => q.2.2.2.slot.beq 0 && !q.2.2.2.isStatic) = true) ∧ (((vs_A.fieldFound? "OrderbenchModel$Shape" "one" "LOrderbenchModel$Shape;").any (fun q => q.2.2.2.slot.beq 1 && !q.2.2.2.isStatic) = true) ∧ (((parseMethodDescriptor "(Ljava/lang/String;)Ljava/lang/StringBuilder;").map (fun d => d.parameters.length) = some 1) ∧ ((ve_de vs_A ⟨"java/lang/StringBuilder", "append", "(Ljava/lang/String;)Ljava/lang/StringBuilder;"⟩ = true) ∧ ((ve_de vs_A ⟨"java/lang/StringBuilder", "toString", "()Ljava/lang/String;"⟩ = true) ∧ (((parseMethodDescriptor "(C)Ljava/lang/StringBuilder;").map (fun d => d.parameters.length) = some 1) ∧ ((ve_de vs_A ⟨"java/lang/StringBuilder", "append", "(C)Ljava/lang/StringBuilder;"⟩ = true) ∧ (((parseMethodDescriptor "(C)Ljava/lang/AbstractStringBuilder;").map (fun d => d.parameters.length) = some 1) ∧ (((vs_A.vm.classes[36]?).any (fun x => decide (x.kind = .ordinary)) = true) ∧ (((vs_A.fieldFound? "java/lang/AbstractStringBuilder" "count" "I").any (fun q => q.2.2.2.slot.beq 3 && !q.2.2.2.isStatic) = true) ∧ ((ve_de vs_A ⟨"java/lang/AbstractStringBuilder", "ensureCapacityInternal", "(I)V"⟩ = true) ∧ (((parseMethodDescriptor "()Z").map (fun d => d.parameters.length) = some 0) ∧ ((ve_de vs_A ⟨"java/lang/AbstractStringBuilder", "isLatin1", "()Z"⟩ = true) ∧ (((parseMethodDescriptor "(C)Z").map (fun d => d.parameters.length) = some 1) ∧ (((vs_A.fieldFound? "java/lang/AbstractStringBuilder" "value" "[B").any (fun q => q.2.2.2.slot.beq 0 && !q.2.2.2.isStatic) = true) ∧ ((ve_cs vs_A 3 [36] .int = true) ∧ (((vs_A.fieldFound? "java/lang/AbstractStringBuilder" "count" "I").any (fun q => q.2.2.2.slot.beq 3 && (!q.2.2.2.isStatic && (!hasFlag q.2.2.2.accessFlags Acc.final && decide (q.2.2.2.type = .int)))) = true))))))))))))))))))))))))) := by decide +kernel
theorem vf_125 : (vs_A.fieldFound? "OrderbenchModel" "thrown" "I").any (fun q => q.2.2.2.slot.beq 0 && (!q.2.2.2.isStatic && (!hasFlag q.2.2.2.accessFlags Acc.final && decide (q.2.2.2.type = .int)))) = true := vfb_5.1
theorem vf_126 : (vs_A.fieldFound? "OrderbenchModel" "thrown" "I").any (fun q => q.2.2.2.slot.beq 0 && !q.2.2.2.isStatic) = true := vfb_5.2.1
theorem vf_127 : (parseMethodDescriptor "()Ljava/lang/String;").map (fun d => d.parameters.length) = some 0 := vfb_5.2.2.1
theorem vf_128 : ve_de vs_A ⟨"OrderbenchModel$Shape", "text", "()Ljava/lang/String;"⟩ = true := vfb_5.2.2.2.1
theorem vf_129 : vs_A.vm.findClass "java/lang/String" = some 28 := vfb_5.2.2.2.2.1
theorem vf_130 : ve_de vs_A ⟨"java/lang/String", "length", "()I"⟩ = true := vfb_5.2.2.2.2.2.1
theorem vf_131 : (parseMethodDescriptor "(I)I").map (fun d => d.parameters.length) = some 1 := vfb_5.2.2.2.2.2.2.1
theorem vf_132 : ve_de vs_A ⟨"OrderbenchModel", "sizeOf", "(I)I"⟩ = true := vfb_5.2.2.2.2.2.2.2.1
theorem vf_133 : (vs_A.fieldFound? "OrderbenchModel$Shape" "sort" "C").any (fun q => q.2.2.2.slot.beq 0 && !q.2.2.2.isStatic) = true := vfb_5.2.2.2.2.2.2.2.2.1
theorem vf_134 : (vs_A.fieldFound? "OrderbenchModel$Shape" "one" "LOrderbenchModel$Shape;").any (fun q => q.2.2.2.slot.beq 1 && !q.2.2.2.isStatic) = true := vfb_5.2.2.2.2.2.2.2.2.2.1
theorem vf_135 : (parseMethodDescriptor "(Ljava/lang/String;)Ljava/lang/StringBuilder;").map (fun d => d.parameters.length) = some 1 := vfb_5.2.2.2.2.2.2.2.2.2.2.1
theorem vf_136 : ve_de vs_A ⟨"java/lang/StringBuilder", "append", "(Ljava/lang/String;)Ljava/lang/StringBuilder;"⟩ = true := vfb_5.2.2.2.2.2.2.2.2.2.2.2.1
theorem vf_138 : ve_de vs_A ⟨"java/lang/StringBuilder", "toString", "()Ljava/lang/String;"⟩ = true := vfb_5.2.2.2.2.2.2.2.2.2.2.2.2.1
theorem vf_139 : (parseMethodDescriptor "(C)Ljava/lang/StringBuilder;").map (fun d => d.parameters.length) = some 1 := vfb_5.2.2.2.2.2.2.2.2.2.2.2.2.2.1
theorem vf_140 : ve_de vs_A ⟨"java/lang/StringBuilder", "append", "(C)Ljava/lang/StringBuilder;"⟩ = true := vfb_5.2.2.2.2.2.2.2.2.2.2.2.2.2.2.1
theorem vf_142 : (parseMethodDescriptor "(C)Ljava/lang/AbstractStringBuilder;").map (fun d => d.parameters.length) = some 1 := vfb_5.2.2.2.2.2.2.2.2.2.2.2.2.2.2.2.1
theorem vf_143 : (vs_A.vm.classes[36]?).any (fun x => decide (x.kind = .ordinary)) = true := vfb_5.2.2.2.2.2.2.2.2.2.2.2.2.2.2.2.2.1
theorem vf_144 : (vs_A.fieldFound? "java/lang/AbstractStringBuilder" "count" "I").any (fun q => q.2.2.2.slot.beq 3 && !q.2.2.2.isStatic) = true := vfb_5.2.2.2.2.2.2.2.2.2.2.2.2.2.2.2.2.2.1
theorem vf_145 : ve_de vs_A ⟨"java/lang/AbstractStringBuilder", "ensureCapacityInternal", "(I)V"⟩ = true := vfb_5.2.2.2.2.2.2.2.2.2.2.2.2.2.2.2.2.2.2.1
theorem vf_146 : (parseMethodDescriptor "()Z").map (fun d => d.parameters.length) = some 0 := vfb_5.2.2.2.2.2.2.2.2.2.2.2.2.2.2.2.2.2.2.2.1
theorem vf_147 : ve_de vs_A ⟨"java/lang/AbstractStringBuilder", "isLatin1", "()Z"⟩ = true := vfb_5.2.2.2.2.2.2.2.2.2.2.2.2.2.2.2.2.2.2.2.2.1
theorem vf_148 : (parseMethodDescriptor "(C)Z").map (fun d => d.parameters.length) = some 1 := vfb_5.2.2.2.2.2.2.2.2.2.2.2.2.2.2.2.2.2.2.2.2.2.1
theorem vf_149 : (vs_A.fieldFound? "java/lang/AbstractStringBuilder" "value" "[B").any (fun q => q.2.2.2.slot.beq 0 && !q.2.2.2.isStatic) = true := vfb_5.2.2.2.2.2.2.2.2.2.2.2.2.2.2.2.2.2.2.2.2.2.2.1
theorem vf_150 : ve_cs vs_A 3 [36] .int = true := vfb_5.2.2.2.2.2.2.2.2.2.2.2.2.2.2.2.2.2.2.2.2.2.2.2.1
theorem vf_151 : (vs_A.fieldFound? "java/lang/AbstractStringBuilder" "count" "I").any (fun q => q.2.2.2.slot.beq 3 && (!q.2.2.2.isStatic && (!hasFlag q.2.2.2.accessFlags Acc.final && decide (q.2.2.2.type = .int)))) = true := vfb_5.2.2.2.2.2.2.2.2.2.2.2.2.2.2.2.2.2.2.2.2.2.2.2.2
set_option maxRecDepth 100000 in
theorem vfb_6 : (ve_ar vs_A 53 .byte = true) ∧ (((vs_A.fieldFound? "java/lang/AbstractStringBuilder" "coder" "B").any (fun q => q.2.2.2.slot.beq 1 && !q.2.2.2.isStatic) = true) ∧ ((ve_de vs_A ⟨"java/lang/AbstractStringBuilder", "newCapacity", "(I)I"⟩ = true) ∧ (((parseMethodDescriptor "([BI)[B").map (fun d => d.parameters.length) = some 2) ∧ (((parseMethodDescriptor "(Ljava/lang/String;)Ljava/lang/AbstractStringBuilder;").map (fun d => d.parameters.length) = some 1) ∧ (((parseMethodDescriptor "(ILjava/lang/String;)V").map (fun d => d.parameters.length) = some 2) ∧ ((ve_de vs_A ⟨"java/lang/AbstractStringBuilder", "putStringAt", "(ILjava/lang/String;)V"⟩ = true) ∧ (((vs_A.fieldFound? "java/lang/String" "value" "[B").any (fun q => q.2.2.2.slot.beq 0 && !q.2.2.2.isStatic) = true) ∧ (((parseMethodDescriptor "()B").map (fun d => d.parameters.length) = some 0) ∧ ((ve_de vs_A ⟨"java/lang/String", "coder", "()B"⟩ = true) ∧ (((vs_A.fieldFound? "java/lang/String" "coder" "B").any (fun q => q.2.2.2.slot.beq 1 && !q.2.2.2.isStatic) = true) ∧ (((parseMethodDescriptor "(Ljava/lang/String;)V").map (fun d => d.parameters.length) = some 1) ∧ ((ve_de vs_A ⟨"java/lang/AbstractStringBuilder", "inflateIfNeededFor", "(Ljava/lang/String;)V"⟩ = true) ∧ (((parseMethodDescriptor "([BIB)V").map (fun d => d.parameters.length) = some 3) ∧ ((ve_de vs_A ⟨"java/lang/String", "getBytes", "([BIB)V"⟩ = true) ∧ (((vs_A.vm.classes[28]?).any (fun k => decide (k.instanceTypes.map defaultValue = ([.null, .int 0, .int 0, .int 0] : List Value).toArray)) = true) ∧ (((parseMethodDescriptor "(Ljava/lang/StringBuilder;)V").map (fun d => d.parameters.length) = some 1) ∧ (((parseMethodDescriptor "(Ljava/lang/AbstractStringBuilder;Ljava/lang/Void;)V").map (fun d => d.parameters.length) = some 2) ∧ (((parseMethodDescriptor "()[B").map (fun d => d.parameters.length) = some 0) ∧ ((ve_de vs_A ⟨"java/lang/AbstractStringBuilder", "getValue", "()[B"⟩ = true) ∧ ((ve_de vs_A ⟨"java/lang/AbstractStringBuilder", "length", "()I"⟩ = true) ∧ ((ve_cs vs_A 1 [28] .byte = true) ∧ (((vs_A.fieldFound? "java/lang/String" "coder" "B").any (fun q => q.2.2.2.slot.beq 1 && (!q.2.2.2.isStatic && (decide (vs_A.vm.findClass "java/lang/String" = some q.1) && decide (q.2.2.2.type = .byte)))) = true) ∧ (((parseMethodDescriptor "([BII)[B").map (fun d => d.parameters.length) = some 3) ∧ ((ve_cs vs_A 0 [28] (.array .byte) = true))))))))))))))))))))))))) := by decide +kernel
theorem vf_152 : ve_ar vs_A 53 .byte = true := vfb_6.1
theorem vf_153 : (vs_A.fieldFound? "java/lang/AbstractStringBuilder" "coder" "B").any (fun q => q.2.2.2.slot.beq 1 && !q.2.2.2.isStatic) = true := vfb_6.2.1
theorem vf_154 : ve_de vs_A ⟨"java/lang/AbstractStringBuilder", "newCapacity", "(I)I"⟩ = true := vfb_6.2.2.1
theorem vf_155 : (parseMethodDescriptor "([BI)[B").map (fun d => d.parameters.length) = some 2 := vfb_6.2.2.2.1
theorem vf_156 : (parseMethodDescriptor "(Ljava/lang/String;)Ljava/lang/AbstractStringBuilder;").map (fun d => d.parameters.length) = some 1 := vfb_6.2.2.2.2.1
theorem vf_157 : (parseMethodDescriptor "(ILjava/lang/String;)V").map (fun d => d.parameters.length) = some 2 := vfb_6.2.2.2.2.2.1
theorem vf_158 : ve_de vs_A ⟨"java/lang/AbstractStringBuilder", "putStringAt", "(ILjava/lang/String;)V"⟩ = true := vfb_6.2.2.2.2.2.2.1
theorem vf_159 : (vs_A.fieldFound? "java/lang/String" "value" "[B").any (fun q => q.2.2.2.slot.beq 0 && !q.2.2.2.isStatic) = true := vfb_6.2.2.2.2.2.2.2.1
theorem vf_160 : (parseMethodDescriptor "()B").map (fun d => d.parameters.length) = some 0 := vfb_6.2.2.2.2.2.2.2.2.1
theorem vf_161 : ve_de vs_A ⟨"java/lang/String", "coder", "()B"⟩ = true := vfb_6.2.2.2.2.2.2.2.2.2.1
theorem vf_162 : (vs_A.fieldFound? "java/lang/String" "coder" "B").any (fun q => q.2.2.2.slot.beq 1 && !q.2.2.2.isStatic) = true := vfb_6.2.2.2.2.2.2.2.2.2.2.1
theorem vf_163 : (parseMethodDescriptor "(Ljava/lang/String;)V").map (fun d => d.parameters.length) = some 1 := vfb_6.2.2.2.2.2.2.2.2.2.2.2.1
theorem vf_164 : ve_de vs_A ⟨"java/lang/AbstractStringBuilder", "inflateIfNeededFor", "(Ljava/lang/String;)V"⟩ = true := vfb_6.2.2.2.2.2.2.2.2.2.2.2.2.1
theorem vf_165 : (parseMethodDescriptor "([BIB)V").map (fun d => d.parameters.length) = some 3 := vfb_6.2.2.2.2.2.2.2.2.2.2.2.2.2.1
theorem vf_166 : ve_de vs_A ⟨"java/lang/String", "getBytes", "([BIB)V"⟩ = true := vfb_6.2.2.2.2.2.2.2.2.2.2.2.2.2.2.1
theorem vf_167 : (vs_A.vm.classes[28]?).any (fun k => decide (k.instanceTypes.map defaultValue = ([.null, .int 0, .int 0, .int 0] : List Value).toArray)) = true := vfb_6.2.2.2.2.2.2.2.2.2.2.2.2.2.2.2.1
theorem vf_168 : (parseMethodDescriptor "(Ljava/lang/StringBuilder;)V").map (fun d => d.parameters.length) = some 1 := vfb_6.2.2.2.2.2.2.2.2.2.2.2.2.2.2.2.2.1
theorem vf_169 : (parseMethodDescriptor "(Ljava/lang/AbstractStringBuilder;Ljava/lang/Void;)V").map (fun d => d.parameters.length) = some 2 := vfb_6.2.2.2.2.2.2.2.2.2.2.2.2.2.2.2.2.2.1
theorem vf_170 : (parseMethodDescriptor "()[B").map (fun d => d.parameters.length) = some 0 := vfb_6.2.2.2.2.2.2.2.2.2.2.2.2.2.2.2.2.2.2.1
theorem vf_171 : ve_de vs_A ⟨"java/lang/AbstractStringBuilder", "getValue", "()[B"⟩ = true := vfb_6.2.2.2.2.2.2.2.2.2.2.2.2.2.2.2.2.2.2.2.1
theorem vf_172 : ve_de vs_A ⟨"java/lang/AbstractStringBuilder", "length", "()I"⟩ = true := vfb_6.2.2.2.2.2.2.2.2.2.2.2.2.2.2.2.2.2.2.2.2.1
theorem vf_173 : ve_cs vs_A 1 [28] .byte = true := vfb_6.2.2.2.2.2.2.2.2.2.2.2.2.2.2.2.2.2.2.2.2.2.1
theorem vf_174 : (vs_A.fieldFound? "java/lang/String" "coder" "B").any (fun q => q.2.2.2.slot.beq 1 && (!q.2.2.2.isStatic && (decide (vs_A.vm.findClass "java/lang/String" = some q.1) && decide (q.2.2.2.type = .byte)))) = true := vfb_6.2.2.2.2.2.2.2.2.2.2.2.2.2.2.2.2.2.2.2.2.2.2.1
theorem vf_175 : (parseMethodDescriptor "([BII)[B").map (fun d => d.parameters.length) = some 3 := vfb_6.2.2.2.2.2.2.2.2.2.2.2.2.2.2.2.2.2.2.2.2.2.2.2.1
theorem vf_176 : ve_cs vs_A 0 [28] (.array .byte) = true := vfb_6.2.2.2.2.2.2.2.2.2.2.2.2.2.2.2.2.2.2.2.2.2.2.2.2
set_option maxRecDepth 100000 in
theorem vfb_7 : ((vs_A.fieldFound? "java/lang/String" "value" "[B").any (fun q => q.2.2.2.slot.beq 0 && (!q.2.2.2.isStatic && (decide (vs_A.vm.findClass "java/lang/String" = some q.1) && decide (q.2.2.2.type = (.array .byte))))) = true) ∧ ((vs_A.vm.findClass "java/lang/Cloneable" = some 17) ∧ ((vs_A.vm.assignable 53 17 = true) ∧ ((vs_A.vm.findClass "[B" = some 53) ∧ ((([53] : List Nat).all (fun x => x.blt 1000 && vs_A.vm.assignable x 53) = true) ∧ (((parseMethodDescriptor "(II)V").map (fun d => d.parameters.length) = some 2) ∧ (((parseMethodDescriptor "(III)I").map (fun d => d.parameters.length) = some 3) ∧ ((ve_de vs_A ⟨"Orderbench", "houseNumber", "(I)I"⟩ = true) ∧ ((ve_ar vs_A 54 (.object "Orderbench$Row") = true) ∧ (((parseMethodDescriptor "(JLOrderbench$Row;)J").map (fun d => d.parameters.length) = some 2) ∧ ((ve_de vs_A ⟨"Orderbench", "digestBench", "(JLOrderbench$Row;)J"⟩ = true) ∧ (((parseMethodDescriptor "(JLOrderbench$Shape;)J").map (fun d => d.parameters.length) = some 2) ∧ ((ve_de vs_A ⟨"Orderbench", "digestOrder", "(JLOrderbench$Shape;)J"⟩ = true) ∧ ((ve_de vs_A ⟨"Orderbench", "isSound", "()Z"⟩ = true) ∧ (((vs_A.fieldFound? "Orderbench$Row" "many" "I").any (fun q => q.2.2.2.slot.beq 1 && !q.2.2.2.isStatic) = true) ∧ (((vs_A.fieldFound? "Orderbench" "laid" "I").any (fun q => q.2.2.2.slot.beq 6 && !q.2.2.2.isStatic) = true) ∧ ((ve_de vs_A ⟨"Orderbench", "howManySafe", "()I"⟩ = true) ∧ (((vs_A.fieldFound? "Orderbench" "refusals" "I").any (fun q => q.2.2.2.slot.beq 7 && !q.2.2.2.isStatic) = true) ∧ (((vs_A.fieldFound? "Orderbench" "knocks" "I").any (fun q => q.2.2.2.slot.beq 8 && !q.2.2.2.isStatic) = true) ∧ ((ve_de vs_A ⟨"Orderbench$Row", "empties", "()I"⟩ = true) ∧ ((ve_de vs_A ⟨"Orderbench$Row", "howOften", "(I)I"⟩ = true) ∧ (((vs_A.fieldFound? "Orderbench" "signs" "Ljava/lang/StringBuilder;").any (fun q => q.2.2.2.slot.beq 5 && !q.2.2.2.isStatic) = true) ∧ ((ve_de vs_A ⟨"java/lang/StringBuilder", "setLength", "(I)V"⟩ = true) ∧ (((parseMethodDescriptor "(LOrderbench$Row;)V").map (fun d => d.parameters.length) = some 1) ∧ ((ve_de vs_A ⟨"Orderbench", "writeRow", "(LOrderbench$Row;)V"⟩ = true))))))))))))))))))))))))) := by decide +kernel
theorem vf_177 : (vs_A.fieldFound? "java/lang/String" "value" "[B").any (fun q => q.2.2.2.slot.beq 0 && (!q.2.2.2.isStatic && (decide (vs_A.vm.findClass "java/lang/String" = some q.1) && decide (q.2.2.2.type = (.array .byte))))) = true := vfb_7.1
theorem vf_178 : vs_A.vm.findClass "java/lang/Cloneable" = some 17 := vfb_7.2.1
theorem vf_179 : vs_A.vm.assignable 53 17 = true := vfb_7.2.2.1
theorem vf_180 : vs_A.vm.findClass "[B" = some 53 := vfb_7.2.2.2.1
theorem vf_182 : ([53] : List Nat).all (fun x => x.blt 1000 && vs_A.vm.assignable x 53) = true := vfb_7.2.2.2.2.1
theorem vf_183 : (parseMethodDescriptor "(II)V").map (fun d => d.parameters.length) = some 2 := vfb_7.2.2.2.2.2.1
theorem vf_184 : (parseMethodDescriptor "(III)I").map (fun d => d.parameters.length) = some 3 := vfb_7.2.2.2.2.2.2.1
theorem vf_185 : ve_de vs_A ⟨"Orderbench", "houseNumber", "(I)I"⟩ = true := vfb_7.2.2.2.2.2.2.2.1
theorem vf_186 : ve_ar vs_A 54 (.object "Orderbench$Row") = true := vfb_7.2.2.2.2.2.2.2.2.1
theorem vf_187 : (parseMethodDescriptor "(JLOrderbench$Row;)J").map (fun d => d.parameters.length) = some 2 := vfb_7.2.2.2.2.2.2.2.2.2.1
theorem vf_188 : ve_de vs_A ⟨"Orderbench", "digestBench", "(JLOrderbench$Row;)J"⟩ = true := vfb_7.2.2.2.2.2.2.2.2.2.2.1
theorem vf_189 : (parseMethodDescriptor "(JLOrderbench$Shape;)J").map (fun d => d.parameters.length) = some 2 := vfb_7.2.2.2.2.2.2.2.2.2.2.2.1
theorem vf_190 : ve_de vs_A ⟨"Orderbench", "digestOrder", "(JLOrderbench$Shape;)J"⟩ = true := vfb_7.2.2.2.2.2.2.2.2.2.2.2.2.1
theorem vf_191 : ve_de vs_A ⟨"Orderbench", "isSound", "()Z"⟩ = true := vfb_7.2.2.2.2.2.2.2.2.2.2.2.2.2.1
theorem vf_192 : (vs_A.fieldFound? "Orderbench$Row" "many" "I").any (fun q => q.2.2.2.slot.beq 1 && !q.2.2.2.isStatic) = true := vfb_7.2.2.2.2.2.2.2.2.2.2.2.2.2.2.1
theorem vf_193 : (vs_A.fieldFound? "Orderbench" "laid" "I").any (fun q => q.2.2.2.slot.beq 6 && !q.2.2.2.isStatic) = true := vfb_7.2.2.2.2.2.2.2.2.2.2.2.2.2.2.2.1
theorem vf_194 : ve_de vs_A ⟨"Orderbench", "howManySafe", "()I"⟩ = true := vfb_7.2.2.2.2.2.2.2.2.2.2.2.2.2.2.2.2.1
theorem vf_195 : (vs_A.fieldFound? "Orderbench" "refusals" "I").any (fun q => q.2.2.2.slot.beq 7 && !q.2.2.2.isStatic) = true := vfb_7.2.2.2.2.2.2.2.2.2.2.2.2.2.2.2.2.2.1
theorem vf_196 : (vs_A.fieldFound? "Orderbench" "knocks" "I").any (fun q => q.2.2.2.slot.beq 8 && !q.2.2.2.isStatic) = true := vfb_7.2.2.2.2.2.2.2.2.2.2.2.2.2.2.2.2.2.2.1
theorem vf_197 : ve_de vs_A ⟨"Orderbench$Row", "empties", "()I"⟩ = true := vfb_7.2.2.2.2.2.2.2.2.2.2.2.2.2.2.2.2.2.2.2.1
theorem vf_198 : ve_de vs_A ⟨"Orderbench$Row", "howOften", "(I)I"⟩ = true := vfb_7.2.2.2.2.2.2.2.2.2.2.2.2.2.2.2.2.2.2.2.2.1
theorem vf_199 : (vs_A.fieldFound? "Orderbench" "signs" "Ljava/lang/StringBuilder;").any (fun q => q.2.2.2.slot.beq 5 && !q.2.2.2.isStatic) = true := vfb_7.2.2.2.2.2.2.2.2.2.2.2.2.2.2.2.2.2.2.2.2.2.1
theorem vf_200 : ve_de vs_A ⟨"java/lang/StringBuilder", "setLength", "(I)V"⟩ = true := vfb_7.2.2.2.2.2.2.2.2.2.2.2.2.2.2.2.2.2.2.2.2.2.2.1
theorem vf_201 : (parseMethodDescriptor "(LOrderbench$Row;)V").map (fun d => d.parameters.length) = some 1 := vfb_7.2.2.2.2.2.2.2.2.2.2.2.2.2.2.2.2.2.2.2.2.2.2.2.1
theorem vf_202 : ve_de vs_A ⟨"Orderbench", "writeRow", "(LOrderbench$Row;)V"⟩ = true := vfb_7.2.2.2.2.2.2.2.2.2.2.2.2.2.2.2.2.2.2.2.2.2.2.2.2
set_option maxRecDepth 100000 in
theorem vfb_8 : ((parseMethodDescriptor "(J)J").map (fun d => d.parameters.length) = some 1) ∧ ((ve_de vs_A ⟨"Orderbench", "digestSigns", "(J)J"⟩ = true) ∧ (((parseMethodDescriptor "(LOrderbench$Row;LOrderbench$Shape;)Z").map (fun d => d.parameters.length) = some 2) ∧ (((parseMethodDescriptor "(LOrderbench$Row;LOrderbench$Shape;)I").map (fun d => d.parameters.length) = some 2) ∧ (((parseMethodDescriptor "(LOrderbench$Row;LOrderbench$Shape;I)I").map (fun d => d.parameters.length) = some 3) ∧ ((ve_cs vs_A 2 [36] .boolean = true) ∧ (((vs_A.fieldFound? "java/lang/AbstractStringBuilder" "maybeLatin1" "Z").any (fun q => q.2.2.2.slot.beq 2 && (!q.2.2.2.isStatic && (!hasFlag q.2.2.2.accessFlags Acc.final && decide (q.2.2.2.type = .boolean)))) = true) ∧ ((ve_de vs_A ⟨"java/lang/StringBuilder", "length", "()I"⟩ = true) ∧ (((parseMethodDescriptor "(I)C").map (fun d => d.parameters.length) = some 1) ∧ ((ve_de vs_A ⟨"java/lang/StringBuilder", "charAt", "(I)C"⟩ = true) ∧ (((parseMethodDescriptor "(Ljava/lang/StringBuilder;I)V").map (fun d => d.parameters.length) = some 2) ∧ ((ve_de vs_A ⟨"Orderbench$Shape", "write", "(Ljava/lang/StringBuilder;I)V"⟩ = true) ∧ (((vs_A.fieldFound? "Orderbench$Turned" "of" "LOrderbench$Shape;").any (fun q => q.2.2.2.slot.beq 2 && !q.2.2.2.isStatic) = true) ∧ (((vs_A.fieldFound? "Orderbench$Base" "kind" "I").any (fun q => q.2.2.2.slot.beq 2 && !q.2.2.2.isStatic) = true) ∧ ((ve_de vs_A ⟨"java/lang/String", "charAt", "(I)C"⟩ = true) ∧ ((ve_de vs_A ⟨"java/lang/String", "isLatin1", "()Z"⟩ = true) ∧ (((parseMethodDescriptor "([BI)C").map (fun d => d.parameters.length) = some 2) ∧ (((vs_A.fieldFound? "jdk/internal/util/Preconditions" "SIOOBE_FORMATTER" "Ljava/util/function/BiFunction;").any (fun q => q.2.2.2.slot.beq 0 && (q.2.2.2.isStatic && (decide (q.2.1.init = .initialized) && decide (q.2.1.statics = some 2)))) = true) ∧ (((parseMethodDescriptor "(IILjava/util/function/BiFunction;)I").map (fun d => d.parameters.length) = some 3) ∧ ((ve_de vs_A ⟨"Orderbench", "isSoundOn", "(LOrderbench$Row;LOrderbench$Shape;)Z"⟩ = true) ∧ ((ve_de vs_A ⟨"Orderbench", "ranksAll", "(LOrderbench$Row;LOrderbench$Shape;)Z"⟩ = true) ∧ (((parseMethodDescriptor "(LOrderbench$Row;LOrderbench$Shape;LOrderbench$Shape;)Z").map (fun d => d.parameters.length) = some 3) ∧ ((ve_de vs_A ⟨"Orderbench", "sortsWell", "(LOrderbench$Row;LOrderbench$Shape;)Z"⟩ = true) ∧ ((ve_de vs_A ⟨"Orderbench", "sortsAsTwice", "(LOrderbench$Row;LOrderbench$Shape;LOrderbench$Shape;)Z"⟩ = true) ∧ (((vs_A.fieldFound? "Orderbench" "copied" "LOrderbench$Row;").any (fun q => q.2.2.2.slot.beq 2 && !q.2.2.2.isStatic) = true))))))))))))))))))))))))) := by decide +kernel
theorem vf_203 : (parseMethodDescriptor "(J)J").map (fun d => d.parameters.length) = some 1 := vfb_8.1
theorem vf_204 : ve_de vs_A ⟨"Orderbench", "digestSigns", "(J)J"⟩ = true := vfb_8.2.1
theorem vf_205 : (parseMethodDescriptor "(LOrderbench$Row;LOrderbench$Shape;)Z").map (fun d => d.parameters.length) = some 2 := vfb_8.2.2.1
theorem vf_206 : (parseMethodDescriptor "(LOrderbench$Row;LOrderbench$Shape;)I").map (fun d => d.parameters.length) = some 2 := vfb_8.2.2.2.1
theorem vf_207 : (parseMethodDescriptor "(LOrderbench$Row;LOrderbench$Shape;I)I").map (fun d => d.parameters.length) = some 3 := vfb_8.2.2.2.2.1
theorem vf_208 : ve_cs vs_A 2 [36] .boolean = true := vfb_8.2.2.2.2.2.1
theorem vf_209 : (vs_A.fieldFound? "java/lang/AbstractStringBuilder" "maybeLatin1" "Z").any (fun q => q.2.2.2.slot.beq 2 && (!q.2.2.2.isStatic && (!hasFlag q.2.2.2.accessFlags Acc.final && decide (q.2.2.2.type = .boolean)))) = true := vfb_8.2.2.2.2.2.2.1
theorem vf_210 : ve_de vs_A ⟨"java/lang/StringBuilder", "length", "()I"⟩ = true := vfb_8.2.2.2.2.2.2.2.1
theorem vf_211 : (parseMethodDescriptor "(I)C").map (fun d => d.parameters.length) = some 1 := vfb_8.2.2.2.2.2.2.2.2.1
theorem vf_212 : ve_de vs_A ⟨"java/lang/StringBuilder", "charAt", "(I)C"⟩ = true := vfb_8.2.2.2.2.2.2.2.2.2.1
theorem vf_213 : (parseMethodDescriptor "(Ljava/lang/StringBuilder;I)V").map (fun d => d.parameters.length) = some 2 := vfb_8.2.2.2.2.2.2.2.2.2.2.1
theorem vf_214 : ve_de vs_A ⟨"Orderbench$Shape", "write", "(Ljava/lang/StringBuilder;I)V"⟩ = true := vfb_8.2.2.2.2.2.2.2.2.2.2.2.1
theorem vf_215 : (vs_A.fieldFound? "Orderbench$Turned" "of" "LOrderbench$Shape;").any (fun q => q.2.2.2.slot.beq 2 && !q.2.2.2.isStatic) = true := vfb_8.2.2.2.2.2.2.2.2.2.2.2.2.1
theorem vf_216 : (vs_A.fieldFound? "Orderbench$Base" "kind" "I").any (fun q => q.2.2.2.slot.beq 2 && !q.2.2.2.isStatic) = true := vfb_8.2.2.2.2.2.2.2.2.2.2.2.2.2.1
theorem vf_218 : ve_de vs_A ⟨"java/lang/String", "charAt", "(I)C"⟩ = true := vfb_8.2.2.2.2.2.2.2.2.2.2.2.2.2.2.1
theorem vf_219 : ve_de vs_A ⟨"java/lang/String", "isLatin1", "()Z"⟩ = true := vfb_8.2.2.2.2.2.2.2.2.2.2.2.2.2.2.2.1
theorem vf_220 : (parseMethodDescriptor "([BI)C").map (fun d => d.parameters.length) = some 2 := vfb_8.2.2.2.2.2.2.2.2.2.2.2.2.2.2.2.2.1
theorem vf_221 : (vs_A.fieldFound? "jdk/internal/util/Preconditions" "SIOOBE_FORMATTER" "Ljava/util/function/BiFunction;").any (fun q => q.2.2.2.slot.beq 0 && (q.2.2.2.isStatic && (decide (q.2.1.init = .initialized) && decide (q.2.1.statics = some 2)))) = true := vfb_8.2.2.2.2.2.2.2.2.2.2.2.2.2.2.2.2.2.1
theorem vf_222 : (parseMethodDescriptor "(IILjava/util/function/BiFunction;)I").map (fun d => d.parameters.length) = some 3 := vfb_8.2.2.2.2.2.2.2.2.2.2.2.2.2.2.2.2.2.2.1
theorem vf_223 : ve_de vs_A ⟨"Orderbench", "isSoundOn", "(LOrderbench$Row;LOrderbench$Shape;)Z"⟩ = true := vfb_8.2.2.2.2.2.2.2.2.2.2.2.2.2.2.2.2.2.2.2.1
theorem vf_224 : ve_de vs_A ⟨"Orderbench", "ranksAll", "(LOrderbench$Row;LOrderbench$Shape;)Z"⟩ = true := vfb_8.2.2.2.2.2.2.2.2.2.2.2.2.2.2.2.2.2.2.2.2.1
theorem vf_225 : (parseMethodDescriptor "(LOrderbench$Row;LOrderbench$Shape;LOrderbench$Shape;)Z").map (fun d => d.parameters.length) = some 3 := vfb_8.2.2.2.2.2.2.2.2.2.2.2.2.2.2.2.2.2.2.2.2.2.1
theorem vf_226 : ve_de vs_A ⟨"Orderbench", "sortsWell", "(LOrderbench$Row;LOrderbench$Shape;)Z"⟩ = true := vfb_8.2.2.2.2.2.2.2.2.2.2.2.2.2.2.2.2.2.2.2.2.2.2.1
theorem vf_227 : ve_de vs_A ⟨"Orderbench", "sortsAsTwice", "(LOrderbench$Row;LOrderbench$Shape;LOrderbench$Shape;)Z"⟩ = true := vfb_8.2.2.2.2.2.2.2.2.2.2.2.2.2.2.2.2.2.2.2.2.2.2.2.1
theorem vf_228 : (vs_A.fieldFound? "Orderbench" "copied" "LOrderbench$Row;").any (fun q => q.2.2.2.slot.beq 2 && !q.2.2.2.isStatic) = true := vfb_8.2.2.2.2.2.2.2.2.2.2.2.2.2.2.2.2.2.2.2.2.2.2.2.2
set_option maxRecDepth 100000 in
theorem vfb_9 : ((parseMethodDescriptor "(LOrderbench$Row;Z)V").map (fun d => d.parameters.length) = some 2) ∧ ((ve_de vs_A ⟨"Orderbench$Row", "becomeTaken", "(LOrderbench$Row;Z)V"⟩ = true) ∧ ((ve_cs vs_A 1 [3] .int = true) ∧ (((vs_A.fieldFound? "Orderbench$Row" "many" "I").any (fun q => q.2.2.2.slot.beq 1 && (!q.2.2.2.isStatic && (!hasFlag q.2.2.2.accessFlags Acc.final && decide (q.2.2.2.type = .int)))) = true) ∧ ((ve_de vs_A ⟨"Orderbench$Row", "become", "(LOrderbench$Row;)V"⟩ = true) ∧ ((ve_de vs_A ⟨"Orderbench$Row", "arrange", "(LOrderbench$Shape;)V"⟩ = true) ∧ (((parseMethodDescriptor "(LOrderbench$Row;)Z").map (fun d => d.parameters.length) = some 1) ∧ ((ve_de vs_A ⟨"Orderbench$Row", "holdsAllOf", "(LOrderbench$Row;)Z"⟩ = true) ∧ (((vs_A.fieldFound? "Orderbench" "copiedToo" "LOrderbench$Row;").any (fun q => q.2.2.2.slot.beq 3 && !q.2.2.2.isStatic) = true) ∧ (((parseMethodDescriptor "(LOrderbench$Row;)I").map (fun d => d.parameters.length) = some 1) ∧ ((ve_de vs_A ⟨"Orderbench$Row", "unlike", "(LOrderbench$Row;)I"⟩ = true) ∧ ((vs_A.vm.findClass "Orderbench$Together" = some 33) ∧ (((vs_A.vm.classes[33]?).any (fun k => decide (k.instanceTypes.map defaultValue = ([.int 0, .int 0, .null, .null] : List Value).toArray)) = true) ∧ (((parseMethodDescriptor "(LOrderbench$Shape;LOrderbench$Shape;)V").map (fun d => d.parameters.length) = some 2) ∧ ((ve_cs vs_A 2 [33] (.object "Orderbench$Shape") = true) ∧ (((vs_A.fieldFound? "Orderbench$Together" "first" "LOrderbench$Shape;").any (fun q => q.2.2.2.slot.beq 2 && (!q.2.2.2.isStatic && (decide (vs_A.vm.findClass "Orderbench$Together" = some q.1) && decide (q.2.2.2.type = (.object "Orderbench$Shape"))))) = true) ∧ ((ve_cs vs_A 3 [33] (.object "Orderbench$Shape") = true) ∧ (((vs_A.fieldFound? "Orderbench$Together" "second" "LOrderbench$Shape;").any (fun q => q.2.2.2.slot.beq 3 && (!q.2.2.2.isStatic && (decide (vs_A.vm.findClass "Orderbench$Together" = some q.1) && decide (q.2.2.2.type = (.object "Orderbench$Shape"))))) = true) ∧ ((ve_de vs_A ⟨"OrderbenchModel", "houseOf", "(I)I"⟩ = true) ∧ (((parseMethodDescriptor "(JJ)J").map (fun d => d.parameters.length) = some 2) ∧ (((parseMethodDescriptor "(I)Ljava/lang/String;").map (fun d => d.parameters.length) = some 1) ∧ ((ve_de vs_A ⟨"OrderbenchModel", "textOf", "(I)Ljava/lang/String;"⟩ = true) ∧ (((parseMethodDescriptor "(JLjava/lang/String;)J").map (fun d => d.parameters.length) = some 2) ∧ (((parseMethodDescriptor "(II)Z").map (fun d => d.parameters.length) = some 2) ∧ ((ve_de vs_A ⟨"OrderbenchModel", "isSortedBy", "(II)Z"⟩ = true))))))))))))))))))))))))) := by decide +kernel
theorem vf_229 : (parseMethodDescriptor "(LOrderbench$Row;Z)V").map (fun d => d.parameters.length) = some 2 := vfb_9.1
theorem vf_230 : ve_de vs_A ⟨"Orderbench$Row", "becomeTaken", "(LOrderbench$Row;Z)V"⟩ = true := vfb_9.2.1
theorem vf_231 : ve_cs vs_A 1 [3] .int = true := vfb_9.2.2.1
theorem vf_232 : (vs_A.fieldFound? "Orderbench$Row" "many" "I").any (fun q => q.2.2.2.slot.beq 1 && (!q.2.2.2.isStatic && (!hasFlag q.2.2.2.accessFlags Acc.final && decide (q.2.2.2.type = .int)))) = true := vfb_9.2.2.2.1
theorem vf_233 : ve_de vs_A ⟨"Orderbench$Row", "become", "(LOrderbench$Row;)V"⟩ = true := vfb_9.2.2.2.2.1
theorem vf_234 : ve_de vs_A ⟨"Orderbench$Row", "arrange", "(LOrderbench$Shape;)V"⟩ = true := vfb_9.2.2.2.2.2.1
theorem vf_235 : (parseMethodDescriptor "(LOrderbench$Row;)Z").map (fun d => d.parameters.length) = some 1 := vfb_9.2.2.2.2.2.2.1
theorem vf_236 : ve_de vs_A ⟨"Orderbench$Row", "holdsAllOf", "(LOrderbench$Row;)Z"⟩ = true := vfb_9.2.2.2.2.2.2.2.1
theorem vf_237 : (vs_A.fieldFound? "Orderbench" "copiedToo" "LOrderbench$Row;").any (fun q => q.2.2.2.slot.beq 3 && !q.2.2.2.isStatic) = true := vfb_9.2.2.2.2.2.2.2.2.1
theorem vf_238 : (parseMethodDescriptor "(LOrderbench$Row;)I").map (fun d => d.parameters.length) = some 1 := vfb_9.2.2.2.2.2.2.2.2.2.1
theorem vf_239 : ve_de vs_A ⟨"Orderbench$Row", "unlike", "(LOrderbench$Row;)I"⟩ = true := vfb_9.2.2.2.2.2.2.2.2.2.2.1
theorem vf_240 : vs_A.vm.findClass "Orderbench$Together" = some 33 := vfb_9.2.2.2.2.2.2.2.2.2.2.2.1
theorem vf_241 : (vs_A.vm.classes[33]?).any (fun k => decide (k.instanceTypes.map defaultValue = ([.int 0, .int 0, .null, .null] : List Value).toArray)) = true := vfb_9.2.2.2.2.2.2.2.2.2.2.2.2.1
theorem vf_242 : (parseMethodDescriptor "(LOrderbench$Shape;LOrderbench$Shape;)V").map (fun d => d.parameters.length) = some 2 := vfb_9.2.2.2.2.2.2.2.2.2.2.2.2.2.1
theorem vf_243 : ve_cs vs_A 2 [33] (.object "Orderbench$Shape") = true := vfb_9.2.2.2.2.2.2.2.2.2.2.2.2.2.2.1
theorem vf_244 : (vs_A.fieldFound? "Orderbench$Together" "first" "LOrderbench$Shape;").any (fun q => q.2.2.2.slot.beq 2 && (!q.2.2.2.isStatic && (decide (vs_A.vm.findClass "Orderbench$Together" = some q.1) && decide (q.2.2.2.type = (.object "Orderbench$Shape"))))) = true := vfb_9.2.2.2.2.2.2.2.2.2.2.2.2.2.2.2.1
theorem vf_245 : ve_cs vs_A 3 [33] (.object "Orderbench$Shape") = true := vfb_9.2.2.2.2.2.2.2.2.2.2.2.2.2.2.2.2.1
theorem vf_246 : (vs_A.fieldFound? "Orderbench$Together" "second" "LOrderbench$Shape;").any (fun q => q.2.2.2.slot.beq 3 && (!q.2.2.2.isStatic && (decide (vs_A.vm.findClass "Orderbench$Together" = some q.1) && decide (q.2.2.2.type = (.object "Orderbench$Shape"))))) = true := vfb_9.2.2.2.2.2.2.2.2.2.2.2.2.2.2.2.2.2.1
theorem vf_247 : ve_de vs_A ⟨"OrderbenchModel", "houseOf", "(I)I"⟩ = true := vfb_9.2.2.2.2.2.2.2.2.2.2.2.2.2.2.2.2.2.2.1
theorem vf_248 : (parseMethodDescriptor "(JJ)J").map (fun d => d.parameters.length) = some 2 := vfb_9.2.2.2.2.2.2.2.2.2.2.2.2.2.2.2.2.2.2.2.1
theorem vf_249 : (parseMethodDescriptor "(I)Ljava/lang/String;").map (fun d => d.parameters.length) = some 1 := vfb_9.2.2.2.2.2.2.2.2.2.2.2.2.2.2.2.2.2.2.2.2.1
theorem vf_250 : ve_de vs_A ⟨"OrderbenchModel", "textOf", "(I)Ljava/lang/String;"⟩ = true := vfb_9.2.2.2.2.2.2.2.2.2.2.2.2.2.2.2.2.2.2.2.2.2.1
theorem vf_251 : (parseMethodDescriptor "(JLjava/lang/String;)J").map (fun d => d.parameters.length) = some 2 := vfb_9.2.2.2.2.2.2.2.2.2.2.2.2.2.2.2.2.2.2.2.2.2.2.1
theorem vf_252 : (parseMethodDescriptor "(II)Z").map (fun d => d.parameters.length) = some 2 := vfb_9.2.2.2.2.2.2.2.2.2.2.2.2.2.2.2.2.2.2.2.2.2.2.2.1
theorem vf_253 : ve_de vs_A ⟨"OrderbenchModel", "isSortedBy", "(II)Z"⟩ = true := vfb_9.2.2.2.2.2.2.2.2.2.2.2.2.2.2.2.2.2.2.2.2.2.2.2.2
set_option maxRecDepth 100000 in
theorem vfb_10 : ((parseMethodDescriptor "(Z)I").map (fun d => d.parameters.length) = some 1) ∧ ((ve_de vs_A ⟨"OrderbenchModel", "classesOf", "(II)I"⟩ = true) ∧ ((ve_de vs_A ⟨"OrderbenchModel", "endOf", "(III)I"⟩ = true) ∧ ((ve_de vs_A ⟨"OrderbenchModel$Shape", "isSafe", "()Z"⟩ = true) ∧ ((ve_de vs_A ⟨"OrderbenchModel", "many", "(I)I"⟩ = true) ∧ (((vs_A.fieldFound? "OrderbenchModel" "laid" "I").any (fun q => q.2.2.2.slot.beq 3 && !q.2.2.2.isStatic) = true) ∧ (((vs_A.fieldFound? "OrderbenchModel" "refused" "I").any (fun q => q.2.2.2.slot.beq 4 && !q.2.2.2.isStatic) = true) ∧ (((vs_A.fieldFound? "OrderbenchModel" "knocks" "I").any (fun q => q.2.2.2.slot.beq 5 && !q.2.2.2.isStatic) = true) ∧ ((ve_de vs_A ⟨"OrderbenchModel", "nothingsOn", "(I)I"⟩ = true) ∧ ((ve_de vs_A ⟨"OrderbenchModel$Shape", "isEnds", "()Z"⟩ = true) ∧ (((parseMethodDescriptor "(I)Ljava/lang/Object;").map (fun d => d.parameters.length) = some 1) ∧ ((ve_de vs_A ⟨"java/util/ArrayList", "get", "(I)Ljava/lang/Object;"⟩ = true) ∧ ((([47] : List Nat).all (fun x => x.blt 1000 && vs_A.vm.assignable x 47) = true) ∧ ((ve_de vs_A ⟨"java/util/ArrayList", "size", "()I"⟩ = true) ∧ ((ve_de vs_A ⟨"java/util/ArrayList", "elementData", "(I)Ljava/lang/Object;"⟩ = true) ∧ ((ve_de vs_A ⟨"OrderbenchModel", "takesBench", "(II)Z"⟩ = true) ∧ ((ve_de vs_A ⟨"OrderbenchModel", "hasNothing", "(I)Z"⟩ = true) ∧ ((ve_de vs_A ⟨"OrderbenchModel", "takesEach", "(II)Z"⟩ = true)))))))))))))))))) := by decide +kernel
theorem vf_254 : (parseMethodDescriptor "(Z)I").map (fun d => d.parameters.length) = some 1 := vfb_10.1
theorem vf_255 : ve_de vs_A ⟨"OrderbenchModel", "classesOf", "(II)I"⟩ = true := vfb_10.2.1
theorem vf_256 : ve_de vs_A ⟨"OrderbenchModel", "endOf", "(III)I"⟩ = true := vfb_10.2.2.1
theorem vf_257 : ve_de vs_A ⟨"OrderbenchModel$Shape", "isSafe", "()Z"⟩ = true := vfb_10.2.2.2.1
theorem vf_258 : ve_de vs_A ⟨"OrderbenchModel", "many", "(I)I"⟩ = true := vfb_10.2.2.2.2.1
theorem vf_259 : (vs_A.fieldFound? "OrderbenchModel" "laid" "I").any (fun q => q.2.2.2.slot.beq 3 && !q.2.2.2.isStatic) = true := vfb_10.2.2.2.2.2.1
theorem vf_260 : (vs_A.fieldFound? "OrderbenchModel" "refused" "I").any (fun q => q.2.2.2.slot.beq 4 && !q.2.2.2.isStatic) = true := vfb_10.2.2.2.2.2.2.1
theorem vf_261 : (vs_A.fieldFound? "OrderbenchModel" "knocks" "I").any (fun q => q.2.2.2.slot.beq 5 && !q.2.2.2.isStatic) = true := vfb_10.2.2.2.2.2.2.2.1
theorem vf_262 : ve_de vs_A ⟨"OrderbenchModel", "nothingsOn", "(I)I"⟩ = true := vfb_10.2.2.2.2.2.2.2.2.1
theorem vf_263 : ve_de vs_A ⟨"OrderbenchModel$Shape", "isEnds", "()Z"⟩ = true := vfb_10.2.2.2.2.2.2.2.2.2.1
theorem vf_264 : (parseMethodDescriptor "(I)Ljava/lang/Object;").map (fun d => d.parameters.length) = some 1 := vfb_10.2.2.2.2.2.2.2.2.2.2.1
theorem vf_265 : ve_de vs_A ⟨"java/util/ArrayList", "get", "(I)Ljava/lang/Object;"⟩ = true := vfb_10.2.2.2.2.2.2.2.2.2.2.2.1
theorem vf_266 : ([47] : List Nat).all (fun x => x.blt 1000 && vs_A.vm.assignable x 47) = true := vfb_10.2.2.2.2.2.2.2.2.2.2.2.2.1
theorem vf_267 : ve_de vs_A ⟨"java/util/ArrayList", "size", "()I"⟩ = true := vfb_10.2.2.2.2.2.2.2.2.2.2.2.2.2.1
theorem vf_268 : ve_de vs_A ⟨"java/util/ArrayList", "elementData", "(I)Ljava/lang/Object;"⟩ = true := vfb_10.2.2.2.2.2.2.2.2.2.2.2.2.2.2.1
theorem vf_270 : ve_de vs_A ⟨"OrderbenchModel", "takesBench", "(II)Z"⟩ = true := vfb_10.2.2.2.2.2.2.2.2.2.2.2.2.2.2.2.1
theorem vf_271 : ve_de vs_A ⟨"OrderbenchModel", "hasNothing", "(I)Z"⟩ = true := vfb_10.2.2.2.2.2.2.2.2.2.2.2.2.2.2.2.2.1
theorem vf_272 : ve_de vs_A ⟨"OrderbenchModel", "takesEach", "(II)Z"⟩ = true := vfb_10.2.2.2.2.2.2.2.2.2.2.2.2.2.2.2.2.2
set_option maxRecDepth 16384 in
theorem vf_137 : vk_R "OrderbenchModel$Shape" 31 "~" 52 vs_A := ⟨by decide +kernel, by decide +kernel⟩
set_option maxRecDepth 16384 in
theorem vf_141 : vk_R "OrderbenchModel$Shape" 45 "" 42 vs_A := ⟨by decide +kernel, by decide +kernel⟩
set_option maxRecDepth 16384 in
theorem vf_181 : ∀ k, vs_A.slotType? 53 .none k = some .byte := fun _ => rfl
set_option maxRecDepth 16384 in
theorem vf_217 : vk_R "Orderbench$Base" 23 "wlpnbdt" 22 vs_A := ⟨by decide +kernel, by decide +kernel⟩
set_option maxRecDepth 16384 in
theorem vf_269 : vk_R "OrderbenchModel" 61 "" 42 vs_A := ⟨by decide +kernel, by decide +kernel⟩
