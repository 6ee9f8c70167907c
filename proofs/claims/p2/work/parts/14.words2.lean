set_option maxRecDepth 16384 in
theorem vw_450 : (Cond.methodLink "Orderbench$Base" 35 ⟨"java/lang/StringBuilder", "append", "(C)Ljava/lang/StringBuilder;"⟩).before #[] vs_A = true := by decide +kernel
set_option maxRecDepth 16384 in
theorem vw_451 : (Cond.instanceMethod ⟨"java/lang/String", "isLatin1", "()Z"⟩).before #[] vs_A = true := by decide +kernel
set_option maxRecDepth 16384 in
theorem vw_452 : (Cond.code ⟨"java/lang/String", "isLatin1", "()Z"⟩ prog_28_method_154_code 1 (some .boolean)).before #[] vs_A = true := by decide +kernel
set_option maxRecDepth 16384 in
theorem vw_453 : (Cond.methodLink "java/lang/String" 492 ⟨"java/lang/String", "isLatin1", "()Z"⟩).before #[] vs_A = true := by decide +kernel
set_option maxRecDepth 16384 in
theorem vw_454 : (Cond.sameMethod "java/lang/String" "java/lang/String" "isLatin1" "()Z").before #[] vs_A = true := by decide +kernel
set_option maxRecDepth 16384 in
theorem vw_455 : (Cond.selects "java/lang/String" ⟨"java/lang/String", "isLatin1", "()Z"⟩ ⟨"java/lang/String", "isLatin1", "()Z"⟩).before #[] vs_A = true := by decide +kernel
set_option maxRecDepth 16384 in
theorem vw_456 : (Cond.methodLink "java/lang/String" 495 ⟨"java/lang/StringLatin1", "charAt", "([BI)C"⟩).before #[] vs_A = true := by decide +kernel
set_option maxRecDepth 16384 in
theorem vw_457 : (Cond.static ⟨"java/lang/StringLatin1", "charAt", "([BI)C"⟩).before #[] vs_A = true := by decide +kernel
set_option maxRecDepth 16384 in
theorem vw_458 : (Cond.code ⟨"java/lang/StringLatin1", "charAt", "([BI)C"⟩ prog_31_method_2_code 2 (some .char)).before #[] vs_A = true := by decide +kernel
set_option maxRecDepth 16384 in
theorem vw_459 : (Cond.methodLink "java/lang/StringLatin1" 9 ⟨"java/lang/String", "checkIndex", "(II)V"⟩).before #[] vs_A = true := by decide +kernel
set_option maxRecDepth 16384 in
theorem vw_460 : (Cond.static ⟨"java/lang/String", "checkIndex", "(II)V"⟩).before #[] vs_A = true := by decide +kernel
set_option maxRecDepth 16384 in
theorem vw_461 : (Cond.code ⟨"java/lang/String", "checkIndex", "(II)V"⟩ prog_28_method_155_code 2 none).before #[] vs_A = true := by decide +kernel
set_option maxRecDepth 16384 in
theorem vw_462 : (Cond.fieldLink "java/lang/String" 1053 "jdk/internal/util/Preconditions" "SIOOBE_FORMATTER" "Ljava/util/function/BiFunction;").before #[] vs_A = true := by decide +kernel
set_option maxRecDepth 16384 in
theorem vw_463 : (Cond.methodLink "java/lang/String" 1059 ⟨"jdk/internal/util/Preconditions", "checkIndex", "(IILjava/util/function/BiFunction;)I"⟩).before #[] vs_A = true := by decide +kernel
set_option maxRecDepth 16384 in
theorem vw_464 : (Cond.static ⟨"jdk/internal/util/Preconditions", "checkIndex", "(IILjava/util/function/BiFunction;)I"⟩).before #[] vs_A = true := by decide +kernel
set_option maxRecDepth 16384 in
theorem vw_465 : (Cond.initialized "jdk/internal/util/Preconditions").before #[] vs_A = true := by decide +kernel
set_option maxRecDepth 16384 in
theorem vw_466 : (Cond.code ⟨"jdk/internal/util/Preconditions", "checkIndex", "(IILjava/util/function/BiFunction;)I"⟩ prog_49_method_11_code 3 (some .int)).before #[] vs_A = true := by decide +kernel
set_option maxRecDepth 16384 in
theorem vw_467 : (Cond.instanceMethod ⟨"java/lang/AbstractStringBuilder", "charAt", "(I)C"⟩).before #[] vs_A = true := by decide +kernel
set_option maxRecDepth 16384 in
theorem vw_468 : (Cond.code ⟨"java/lang/AbstractStringBuilder", "charAt", "(I)C"⟩ prog_13_method_14_code 5 (some .char)).before #[] vs_A = true := by decide +kernel
set_option maxRecDepth 16384 in
theorem vw_469 : (Cond.methodLink "java/lang/StringBuilder" 329 ⟨"java/lang/AbstractStringBuilder", "charAt", "(I)C"⟩).before #[] vs_A = true := by decide +kernel
set_option maxRecDepth 16384 in
theorem vw_470 : (Cond.sameMethod "java/lang/AbstractStringBuilder" "java/lang/AbstractStringBuilder" "charAt" "(I)C").before #[] vs_A = true := by decide +kernel
set_option maxRecDepth 16384 in
theorem vw_471 : (Cond.methodLink "java/lang/AbstractStringBuilder" 138 ⟨"java/lang/Math", "min", "(II)I"⟩).before #[] vs_A = true := by decide +kernel
set_option maxRecDepth 16384 in
theorem vw_472 : (Cond.methodLink "java/lang/AbstractStringBuilder" 144 ⟨"java/lang/String", "checkIndex", "(II)V"⟩).before #[] vs_A = true := by decide +kernel
set_option maxRecDepth 16384 in
theorem vw_473 : (Cond.instanceMethod ⟨"Orderbench", "isSoundOn", "(LOrderbench$Row;LOrderbench$Shape;)Z"⟩).before #[] vs_A = true := by decide +kernel
set_option maxRecDepth 16384 in
theorem vw_474 : (Cond.code ⟨"Orderbench", "isSoundOn", "(LOrderbench$Row;LOrderbench$Shape;)Z"⟩ prog_1_method_68_code 4 (some .boolean)).before #[] vs_A = true := by decide +kernel
set_option maxRecDepth 16384 in
theorem vw_475 : (Cond.methodLink "Orderbench" 223 ⟨"Orderbench", "isSoundOn", "(LOrderbench$Row;LOrderbench$Shape;)Z"⟩).before #[] vs_A = true := by decide +kernel
set_option maxRecDepth 16384 in
theorem vw_476 : (Cond.sameMethod "Orderbench" "Orderbench" "isSoundOn" "(LOrderbench$Row;LOrderbench$Shape;)Z").before #[] vs_A = true := by decide +kernel
set_option maxRecDepth 16384 in
theorem vw_477 : (Cond.selects "Orderbench" ⟨"Orderbench", "isSoundOn", "(LOrderbench$Row;LOrderbench$Shape;)Z"⟩ ⟨"Orderbench", "isSoundOn", "(LOrderbench$Row;LOrderbench$Shape;)Z"⟩).before #[] vs_A = true := by decide +kernel
set_option maxRecDepth 16384 in
theorem vw_478 : (Cond.instanceMethod ⟨"Orderbench", "ranksAll", "(LOrderbench$Row;LOrderbench$Shape;)Z"⟩).before #[] vs_A = true := by decide +kernel
set_option maxRecDepth 16384 in
theorem vw_479 : (Cond.code ⟨"Orderbench", "ranksAll", "(LOrderbench$Row;LOrderbench$Shape;)Z"⟩ prog_1_method_57_code 6 (some .boolean)).before #[] vs_A = true := by decide +kernel
set_option maxRecDepth 16384 in
theorem vw_480 : (Cond.methodLink "Orderbench" 182 ⟨"Orderbench", "ranksAll", "(LOrderbench$Row;LOrderbench$Shape;)Z"⟩).before #[] vs_A = true := by decide +kernel
set_option maxRecDepth 16384 in
theorem vw_481 : (Cond.sameMethod "Orderbench" "Orderbench" "ranksAll" "(LOrderbench$Row;LOrderbench$Shape;)Z").before #[] vs_A = true := by decide +kernel
set_option maxRecDepth 16384 in
theorem vw_482 : (Cond.selects "Orderbench" ⟨"Orderbench", "ranksAll", "(LOrderbench$Row;LOrderbench$Shape;)Z"⟩ ⟨"Orderbench", "ranksAll", "(LOrderbench$Row;LOrderbench$Shape;)Z"⟩).before #[] vs_A = true := by decide +kernel
set_option maxRecDepth 16384 in
theorem vw_483 : (Cond.methodLink "Orderbench" 178 ⟨"Orderbench", "tellTheSame", "(LOrderbench$Row;LOrderbench$Shape;LOrderbench$Shape;)Z"⟩).before #[] vs_A = true := by decide +kernel
set_option maxRecDepth 16384 in
theorem vw_484 : (Cond.static ⟨"Orderbench", "tellTheSame", "(LOrderbench$Row;LOrderbench$Shape;LOrderbench$Shape;)Z"⟩).before #[] vs_A = true := by decide +kernel
set_option maxRecDepth 16384 in
theorem vw_485 : (Cond.code ⟨"Orderbench", "tellTheSame", "(LOrderbench$Row;LOrderbench$Shape;LOrderbench$Shape;)Z"⟩ prog_1_method_56_code 7 (some .boolean)).before #[] vs_A = true := by decide +kernel
set_option maxRecDepth 16384 in
theorem vw_486 : (Cond.instanceMethod ⟨"Orderbench", "sortsWell", "(LOrderbench$Row;LOrderbench$Shape;)Z"⟩).before #[] vs_A = true := by decide +kernel
set_option maxRecDepth 16384 in
theorem vw_487 : (Cond.code ⟨"Orderbench", "sortsWell", "(LOrderbench$Row;LOrderbench$Shape;)Z"⟩ prog_1_method_67_code 3 (some .boolean)).before #[] vs_A = true := by decide +kernel
set_option maxRecDepth 16384 in
theorem vw_488 : (Cond.methodLink "Orderbench" 301 ⟨"Orderbench", "sortsWell", "(LOrderbench$Row;LOrderbench$Shape;)Z"⟩).before #[] vs_A = true := by decide +kernel
set_option maxRecDepth 16384 in
theorem vw_489 : (Cond.sameMethod "Orderbench" "Orderbench" "sortsWell" "(LOrderbench$Row;LOrderbench$Shape;)Z").before #[] vs_A = true := by decide +kernel
set_option maxRecDepth 16384 in
theorem vw_490 : (Cond.selects "Orderbench" ⟨"Orderbench", "sortsWell", "(LOrderbench$Row;LOrderbench$Shape;)Z"⟩ ⟨"Orderbench", "sortsWell", "(LOrderbench$Row;LOrderbench$Shape;)Z"⟩).before #[] vs_A = true := by decide +kernel
set_option maxRecDepth 16384 in
theorem vw_491 : (Cond.instanceMethod ⟨"Orderbench", "sortsAsTwice", "(LOrderbench$Row;LOrderbench$Shape;LOrderbench$Shape;)Z"⟩).before #[] vs_A = true := by decide +kernel
set_option maxRecDepth 16384 in
theorem vw_492 : (Cond.code ⟨"Orderbench", "sortsAsTwice", "(LOrderbench$Row;LOrderbench$Shape;LOrderbench$Shape;)Z"⟩ prog_1_method_66_code 4 (some .boolean)).before #[] vs_A = true := by decide +kernel
set_option maxRecDepth 16384 in
theorem vw_493 : (Cond.methodLink "Orderbench" 206 ⟨"Orderbench", "sortsAsTwice", "(LOrderbench$Row;LOrderbench$Shape;LOrderbench$Shape;)Z"⟩).before #[] vs_A = true := by decide +kernel
set_option maxRecDepth 16384 in
theorem vw_494 : (Cond.sameMethod "Orderbench" "Orderbench" "sortsAsTwice" "(LOrderbench$Row;LOrderbench$Shape;LOrderbench$Shape;)Z").before #[] vs_A = true := by decide +kernel
set_option maxRecDepth 16384 in
theorem vw_495 : (Cond.selects "Orderbench" ⟨"Orderbench", "sortsAsTwice", "(LOrderbench$Row;LOrderbench$Shape;LOrderbench$Shape;)Z"⟩ ⟨"Orderbench", "sortsAsTwice", "(LOrderbench$Row;LOrderbench$Shape;LOrderbench$Shape;)Z"⟩).before #[] vs_A = true := by decide +kernel
set_option maxRecDepth 16384 in
theorem vw_496 : (Cond.instanceMethod ⟨"Orderbench$Row", "becomeTaken", "(LOrderbench$Row;Z)V"⟩).before #[] vs_A = true := by decide +kernel
set_option maxRecDepth 16384 in
theorem vw_497 : (Cond.code ⟨"Orderbench$Row", "becomeTaken", "(LOrderbench$Row;Z)V"⟩ prog_4_method_8_code 5 none).before #[] vs_A = true := by decide +kernel
set_option maxRecDepth 16384 in
theorem vw_498 : (Cond.methodLink "Orderbench" 282 ⟨"Orderbench$Row", "becomeTaken", "(LOrderbench$Row;Z)V"⟩).before #[] vs_A = true := by decide +kernel
set_option maxRecDepth 16384 in
theorem vw_499 : (Cond.sameMethod "Orderbench$Row" "Orderbench$Row" "becomeTaken" "(LOrderbench$Row;Z)V").before #[] vs_A = true := by decide +kernel
set_option maxRecDepth 16384 in
theorem vw_500 : (Cond.selects "Orderbench$Row" ⟨"Orderbench$Row", "becomeTaken", "(LOrderbench$Row;Z)V"⟩ ⟨"Orderbench$Row", "becomeTaken", "(LOrderbench$Row;Z)V"⟩).before #[] vs_A = true := by decide +kernel
set_option maxRecDepth 16384 in
theorem vw_501 : (Cond.instanceMethod ⟨"Orderbench$Row", "become", "(LOrderbench$Row;)V"⟩).before #[] vs_A = true := by decide +kernel
set_option maxRecDepth 16384 in
theorem vw_502 : (Cond.code ⟨"Orderbench$Row", "become", "(LOrderbench$Row;)V"⟩ prog_4_method_7_code 2 none).before #[] vs_A = true := by decide +kernel
set_option maxRecDepth 16384 in
theorem vw_503 : (Cond.methodLink "Orderbench" 96 ⟨"Orderbench$Row", "become", "(LOrderbench$Row;)V"⟩).before #[] vs_A = true := by decide +kernel
set_option maxRecDepth 16384 in
theorem vw_504 : (Cond.sameMethod "Orderbench$Row" "Orderbench$Row" "become" "(LOrderbench$Row;)V").before #[] vs_A = true := by decide +kernel
set_option maxRecDepth 16384 in
theorem vw_505 : (Cond.selects "Orderbench$Row" ⟨"Orderbench$Row", "become", "(LOrderbench$Row;)V"⟩ ⟨"Orderbench$Row", "become", "(LOrderbench$Row;)V"⟩).before #[] vs_A = true := by decide +kernel
set_option maxRecDepth 16384 in
theorem vw_506 : (Cond.instanceMethod ⟨"Orderbench$Row", "arrange", "(LOrderbench$Shape;)V"⟩).before #[] vs_A = true := by decide +kernel
set_option maxRecDepth 16384 in
theorem vw_507 : (Cond.code ⟨"Orderbench$Row", "arrange", "(LOrderbench$Shape;)V"⟩ prog_4_method_13_code 5 none).before #[] vs_A = true := by decide +kernel
set_option maxRecDepth 16384 in
theorem vw_508 : (Cond.methodLink "Orderbench" 111 ⟨"Orderbench$Row", "arrange", "(LOrderbench$Shape;)V"⟩).before #[] vs_A = true := by decide +kernel
set_option maxRecDepth 16384 in
theorem vw_509 : (Cond.sameMethod "Orderbench$Row" "Orderbench$Row" "arrange" "(LOrderbench$Shape;)V").before #[] vs_A = true := by decide +kernel
set_option maxRecDepth 16384 in
theorem vw_510 : (Cond.selects "Orderbench$Row" ⟨"Orderbench$Row", "arrange", "(LOrderbench$Shape;)V"⟩ ⟨"Orderbench$Row", "arrange", "(LOrderbench$Shape;)V"⟩).before #[] vs_A = true := by decide +kernel
set_option maxRecDepth 16384 in
theorem vw_511 : (Cond.instanceMethod ⟨"Orderbench$Row", "holdsAllOf", "(LOrderbench$Row;)Z"⟩).before #[] vs_A = true := by decide +kernel
set_option maxRecDepth 16384 in
theorem vw_512 : (Cond.code ⟨"Orderbench$Row", "holdsAllOf", "(LOrderbench$Row;)Z"⟩ prog_4_method_12_code 3 (some .boolean)).before #[] vs_A = true := by decide +kernel
set_option maxRecDepth 16384 in
theorem vw_513 : (Cond.methodLink "Orderbench" 297 ⟨"Orderbench$Row", "holdsAllOf", "(LOrderbench$Row;)Z"⟩).before #[] vs_A = true := by decide +kernel
set_option maxRecDepth 16384 in
theorem vw_514 : (Cond.sameMethod "Orderbench$Row" "Orderbench$Row" "holdsAllOf" "(LOrderbench$Row;)Z").before #[] vs_A = true := by decide +kernel
set_option maxRecDepth 16384 in
theorem vw_515 : (Cond.selects "Orderbench$Row" ⟨"Orderbench$Row", "holdsAllOf", "(LOrderbench$Row;)Z"⟩ ⟨"Orderbench$Row", "holdsAllOf", "(LOrderbench$Row;)Z"⟩).before #[] vs_A = true := by decide +kernel
set_option maxRecDepth 16384 in
theorem vw_516 : (Cond.instanceMethod ⟨"Orderbench$Row", "unlike", "(LOrderbench$Row;)I"⟩).before #[] vs_A = true := by decide +kernel
set_option maxRecDepth 16384 in
theorem vw_517 : (Cond.code ⟨"Orderbench$Row", "unlike", "(LOrderbench$Row;)I"⟩ prog_4_method_11_code 4 (some .int)).before #[] vs_A = true := by decide +kernel
set_option maxRecDepth 16384 in
theorem vw_518 : (Cond.methodLink "Orderbench" 115 ⟨"Orderbench$Row", "unlike", "(LOrderbench$Row;)I"⟩).before #[] vs_A = true := by decide +kernel
set_option maxRecDepth 16384 in
theorem vw_519 : (Cond.sameMethod "Orderbench$Row" "Orderbench$Row" "unlike" "(LOrderbench$Row;)I").before #[] vs_A = true := by decide +kernel
set_option maxRecDepth 16384 in
theorem vw_520 : (Cond.selects "Orderbench$Row" ⟨"Orderbench$Row", "unlike", "(LOrderbench$Row;)I"⟩ ⟨"Orderbench$Row", "unlike", "(LOrderbench$Row;)I"⟩).before #[] vs_A = true := by decide +kernel
set_option maxRecDepth 16384 in
theorem vw_521 : (Cond.methodLink "Orderbench$Row" 23 ⟨"Orderbench$Row", "becomeTaken", "(LOrderbench$Row;Z)V"⟩).before #[] vs_A = true := by decide +kernel
set_option maxRecDepth 16384 in
theorem vw_522 : (Cond.classLink "Orderbench" 142 "Orderbench$Together").before #[] vs_A = true := by decide +kernel
set_option maxRecDepth 16384 in
theorem vw_523 : (Cond.instantiable "Orderbench$Together" 4).before #[] vs_A = true := by decide +kernel
set_option maxRecDepth 16384 in
theorem vw_524 : (Cond.initialized "Orderbench$Together").before #[] vs_A = true := by decide +kernel
set_option maxRecDepth 16384 in
theorem vw_525 : (Cond.instanceMethod ⟨"Orderbench$Together", "<init>", "(LOrderbench$Shape;LOrderbench$Shape;)V"⟩).before #[] vs_A = true := by decide +kernel
set_option maxRecDepth 16384 in
theorem vw_526 : (Cond.code ⟨"Orderbench$Together", "<init>", "(LOrderbench$Shape;LOrderbench$Shape;)V"⟩ prog_6_method_1_code 3 none).before #[] vs_A = true := by decide +kernel
set_option maxRecDepth 16384 in
theorem vw_527 : (Cond.methodLink "Orderbench" 144 ⟨"Orderbench$Together", "<init>", "(LOrderbench$Shape;LOrderbench$Shape;)V"⟩).before #[] vs_A = true := by decide +kernel
set_option maxRecDepth 16384 in
theorem vw_528 : (Cond.fieldLink "Orderbench$Together" 3 "Orderbench$Shape" "length" "I").before #[] vs_A = true := by decide +kernel
set_option maxRecDepth 16384 in
theorem vw_529 : (Cond.fieldLink "Orderbench$Together" 9 "Orderbench$Shape" "safe" "Z").before #[] vs_A = true := by decide +kernel
set_option maxRecDepth 16384 in
theorem vw_530 : (Cond.methodLink "Orderbench$Together" 13 ⟨"Orderbench$Shape", "<init>", "(IZ)V"⟩).before #[] vs_A = true := by decide +kernel
set_option maxRecDepth 16384 in
theorem vw_531 : (Cond.fieldLink "Orderbench$Together" 17 "Orderbench$Together" "first" "LOrderbench$Shape;").before #[] vs_A = true := by decide +kernel
set_option maxRecDepth 16384 in
theorem vw_532 : (Cond.fieldLink "Orderbench$Together" 23 "Orderbench$Together" "second" "LOrderbench$Shape;").before #[] vs_A = true := by decide +kernel
set_option maxRecDepth 16384 in
theorem vw_533 : (Cond.constantLong "OrderbenchModel" 236 (7773)).before #[] vs_A = true := by decide +kernel
set_option maxRecDepth 16384 in
theorem vw_534 : (Cond.instanceMethod ⟨"OrderbenchModel", "houseOf", "(I)I"⟩).before #[] vs_A = true := by decide +kernel
set_option maxRecDepth 16384 in
theorem vw_535 : (Cond.code ⟨"OrderbenchModel", "houseOf", "(I)I"⟩ prog_10_method_64_code 7 (some .int)).before #[] vs_A = true := by decide +kernel
set_option maxRecDepth 16384 in
theorem vw_536 : (Cond.methodLink "OrderbenchModel" 228 ⟨"OrderbenchModel", "houseOf", "(I)I"⟩).before #[] vs_A = true := by decide +kernel
set_option maxRecDepth 16384 in
theorem vw_537 : (Cond.sameMethod "OrderbenchModel" "OrderbenchModel" "houseOf" "(I)I").before #[] vs_A = true := by decide +kernel
set_option maxRecDepth 16384 in
theorem vw_538 : (Cond.selects "OrderbenchModel" ⟨"OrderbenchModel", "houseOf", "(I)I"⟩ ⟨"OrderbenchModel", "houseOf", "(I)I"⟩).before #[] vs_A = true := by decide +kernel
set_option maxRecDepth 16384 in
theorem vw_539 : (Cond.methodLink "OrderbenchModel" 233 ⟨"OrderbenchModel", "add", "(JJ)J"⟩).before #[] vs_A = true := by decide +kernel
set_option maxRecDepth 16384 in
theorem vw_540 : (Cond.static ⟨"OrderbenchModel", "add", "(JJ)J"⟩).before #[] vs_A = true := by decide +kernel
set_option maxRecDepth 16384 in
theorem vw_541 : (Cond.code ⟨"OrderbenchModel", "add", "(JJ)J"⟩ prog_10_method_68_code 4 (some .long)).before #[] vs_A = true := by decide +kernel
set_option maxRecDepth 16384 in
theorem vw_542 : (Cond.instanceMethod ⟨"OrderbenchModel", "textOf", "(I)Ljava/lang/String;"⟩).before #[] vs_A = true := by decide +kernel
set_option maxRecDepth 16384 in
theorem vw_543 : (Cond.code ⟨"OrderbenchModel", "textOf", "(I)Ljava/lang/String;"⟩ prog_10_method_44_code 4 (some (.object "java/lang/String"))).before #[] vs_A = true := by decide +kernel
set_option maxRecDepth 16384 in
theorem vw_544 : (Cond.methodLink "OrderbenchModel" 200 ⟨"OrderbenchModel", "textOf", "(I)Ljava/lang/String;"⟩).before #[] vs_A = true := by decide +kernel
set_option maxRecDepth 16384 in
theorem vw_545 : (Cond.sameMethod "OrderbenchModel" "OrderbenchModel" "textOf" "(I)Ljava/lang/String;").before #[] vs_A = true := by decide +kernel
set_option maxRecDepth 16384 in
theorem vw_546 : (Cond.selects "OrderbenchModel" ⟨"OrderbenchModel", "textOf", "(I)Ljava/lang/String;"⟩ ⟨"OrderbenchModel", "textOf", "(I)Ljava/lang/String;"⟩).before #[] vs_A = true := by decide +kernel
set_option maxRecDepth 16384 in
theorem vw_547 : (Cond.methodLink "OrderbenchModel" 238 ⟨"OrderbenchModel", "add", "(JLjava/lang/String;)J"⟩).before #[] vs_A = true := by decide +kernel
set_option maxRecDepth 16384 in
theorem vw_548 : (Cond.static ⟨"OrderbenchModel", "add", "(JLjava/lang/String;)J"⟩).before #[] vs_A = true := by decide +kernel
set_option maxRecDepth 16384 in
theorem vw_549 : (Cond.code ⟨"OrderbenchModel", "add", "(JLjava/lang/String;)J"⟩ prog_10_method_69_code 6 (some .long)).before #[] vs_A = true := by decide +kernel
set_option maxRecDepth 16384 in
theorem vw_550 : (Cond.instanceMethod ⟨"OrderbenchModel", "isSortedBy", "(II)Z"⟩).before #[] vs_A = true := by decide +kernel
set_option maxRecDepth 16384 in
theorem vw_551 : (Cond.code ⟨"OrderbenchModel", "isSortedBy", "(II)Z"⟩ prog_10_method_52_code 4 (some .boolean)).before #[] vs_A = true := by decide +kernel
set_option maxRecDepth 16384 in
theorem vw_552 : (Cond.methodLink "OrderbenchModel" 211 ⟨"OrderbenchModel", "isSortedBy", "(II)Z"⟩).before #[] vs_A = true := by decide +kernel
set_option maxRecDepth 16384 in
theorem vw_553 : (Cond.sameMethod "OrderbenchModel" "OrderbenchModel" "isSortedBy" "(II)Z").before #[] vs_A = true := by decide +kernel
set_option maxRecDepth 16384 in
theorem vw_554 : (Cond.selects "OrderbenchModel" ⟨"OrderbenchModel", "isSortedBy", "(II)Z"⟩ ⟨"OrderbenchModel", "isSortedBy", "(II)Z"⟩).before #[] vs_A = true := by decide +kernel
set_option maxRecDepth 16384 in
theorem vw_555 : (Cond.methodLink "OrderbenchModel" 113 ⟨"OrderbenchModel", "bit", "(Z)I"⟩).before #[] vs_A = true := by decide +kernel
set_option maxRecDepth 16384 in
theorem vw_556 : (Cond.static ⟨"OrderbenchModel", "bit", "(Z)I"⟩).before #[] vs_A = true := by decide +kernel
set_option maxRecDepth 16384 in
theorem vw_557 : (Cond.code ⟨"OrderbenchModel", "bit", "(Z)I"⟩ prog_10_method_6_code 1 (some .int)).before #[] vs_A = true := by decide +kernel
set_option maxRecDepth 16384 in
theorem vw_558 : (Cond.instanceMethod ⟨"OrderbenchModel", "classesOf", "(II)I"⟩).before #[] vs_A = true := by decide +kernel
set_option maxRecDepth 16384 in
theorem vw_559 : (Cond.code ⟨"OrderbenchModel", "classesOf", "(II)I"⟩ prog_10_method_55_code 7 (some .int)).before #[] vs_A = true := by decide +kernel
set_option maxRecDepth 16384 in
theorem vw_560 : (Cond.methodLink "OrderbenchModel" 214 ⟨"OrderbenchModel", "classesOf", "(II)I"⟩).before #[] vs_A = true := by decide +kernel
set_option maxRecDepth 16384 in
theorem vw_561 : (Cond.sameMethod "OrderbenchModel" "OrderbenchModel" "classesOf" "(II)I").before #[] vs_A = true := by decide +kernel
set_option maxRecDepth 16384 in
theorem vw_562 : (Cond.selects "OrderbenchModel" ⟨"OrderbenchModel", "classesOf", "(II)I"⟩ ⟨"OrderbenchModel", "classesOf", "(II)I"⟩).before #[] vs_A = true := by decide +kernel
set_option maxRecDepth 16384 in
theorem vw_563 : (Cond.instanceMethod ⟨"OrderbenchModel", "endOf", "(III)I"⟩).before #[] vs_A = true := by decide +kernel
set_option maxRecDepth 16384 in
theorem vw_564 : (Cond.code ⟨"OrderbenchModel", "endOf", "(III)I"⟩ prog_10_method_57_code 10 (some .int)).before #[] vs_A = true := by decide +kernel
set_option maxRecDepth 16384 in
theorem vw_565 : (Cond.methodLink "OrderbenchModel" 218 ⟨"OrderbenchModel", "endOf", "(III)I"⟩).before #[] vs_A = true := by decide +kernel
set_option maxRecDepth 16384 in
theorem vw_566 : (Cond.sameMethod "OrderbenchModel" "OrderbenchModel" "endOf" "(III)I").before #[] vs_A = true := by decide +kernel
set_option maxRecDepth 16384 in
theorem vw_567 : (Cond.selects "OrderbenchModel" ⟨"OrderbenchModel", "endOf", "(III)I"⟩ ⟨"OrderbenchModel", "endOf", "(III)I"⟩).before #[] vs_A = true := by decide +kernel
set_option maxRecDepth 16384 in
theorem vw_568 : (Cond.instanceMethod ⟨"OrderbenchModel$Shape", "isSafe", "()Z"⟩).before #[] vs_A = true := by decide +kernel
set_option maxRecDepth 16384 in
theorem vw_569 : (Cond.code ⟨"OrderbenchModel$Shape", "isSafe", "()Z"⟩ prog_11_method_4_code 1 (some .boolean)).before #[] vs_A = true := by decide +kernel
set_option maxRecDepth 16384 in
theorem vw_570 : (Cond.methodLink "OrderbenchModel" 123 ⟨"OrderbenchModel$Shape", "isSafe", "()Z"⟩).before #[] vs_A = true := by decide +kernel
set_option maxRecDepth 16384 in
theorem vw_571 : (Cond.sameMethod "OrderbenchModel$Shape" "OrderbenchModel$Shape" "isSafe" "()Z").before #[] vs_A = true := by decide +kernel
set_option maxRecDepth 16384 in
theorem vw_572 : (Cond.selects "OrderbenchModel$Shape" ⟨"OrderbenchModel$Shape", "isSafe", "()Z"⟩ ⟨"OrderbenchModel$Shape", "isSafe", "()Z"⟩).before #[] vs_A = true := by decide +kernel
set_option maxRecDepth 16384 in
theorem vw_573 : (Cond.instanceMethod ⟨"OrderbenchModel", "many", "(I)I"⟩).before #[] vs_A = true := by decide +kernel
set_option maxRecDepth 16384 in
theorem vw_574 : (Cond.code ⟨"OrderbenchModel", "many", "(I)I"⟩ prog_10_method_12_code 2 (some .int)).before #[] vs_A = true := by decide +kernel
set_option maxRecDepth 16384 in
theorem vw_575 : (Cond.methodLink "OrderbenchModel" 86 ⟨"OrderbenchModel", "many", "(I)I"⟩).before #[] vs_A = true := by decide +kernel
set_option maxRecDepth 16384 in
theorem vw_576 : (Cond.sameMethod "OrderbenchModel" "OrderbenchModel" "many" "(I)I").before #[] vs_A = true := by decide +kernel
set_option maxRecDepth 16384 in
theorem vw_577 : (Cond.selects "OrderbenchModel" ⟨"OrderbenchModel", "many", "(I)I"⟩ ⟨"OrderbenchModel", "many", "(I)I"⟩).before #[] vs_A = true := by decide +kernel
set_option maxRecDepth 16384 in
theorem vw_578 : (Cond.fieldLink "OrderbenchModel" 79 "OrderbenchModel" "laid" "I").before #[] vs_A = true := by decide +kernel
set_option maxRecDepth 16384 in
theorem vw_579 : (Cond.fieldLink "OrderbenchModel" 53 "OrderbenchModel" "refused" "I").before #[] vs_A = true := by decide +kernel
set_option maxRecDepth 16384 in
theorem vw_580 : (Cond.fieldLink "OrderbenchModel" 225 "OrderbenchModel" "knocks" "I").before #[] vs_A = true := by decide +kernel
set_option maxRecDepth 16384 in
theorem vw_581 : (Cond.instanceMethod ⟨"OrderbenchModel", "nothingsOn", "(I)I"⟩).before #[] vs_A = true := by decide +kernel
set_option maxRecDepth 16384 in
theorem vw_582 : (Cond.code ⟨"OrderbenchModel", "nothingsOn", "(I)I"⟩ prog_10_method_23_code 4 (some .int)).before #[] vs_A = true := by decide +kernel
set_option maxRecDepth 16384 in
theorem vw_583 : (Cond.methodLink "OrderbenchModel" 120 ⟨"OrderbenchModel", "nothingsOn", "(I)I"⟩).before #[] vs_A = true := by decide +kernel
set_option maxRecDepth 16384 in
theorem vw_584 : (Cond.sameMethod "OrderbenchModel" "OrderbenchModel" "nothingsOn" "(I)I").before #[] vs_A = true := by decide +kernel
set_option maxRecDepth 16384 in
theorem vw_585 : (Cond.selects "OrderbenchModel" ⟨"OrderbenchModel", "nothingsOn", "(I)I"⟩ ⟨"OrderbenchModel", "nothingsOn", "(I)I"⟩).before #[] vs_A = true := by decide +kernel
set_option maxRecDepth 16384 in
theorem vw_586 : (Cond.instanceMethod ⟨"OrderbenchModel$Shape", "isEnds", "()Z"⟩).before #[] vs_A = true := by decide +kernel
set_option maxRecDepth 16384 in
theorem vw_587 : (Cond.code ⟨"OrderbenchModel$Shape", "isEnds", "()Z"⟩ prog_11_method_3_code 1 (some .boolean)).before #[] vs_A = true := by decide +kernel
set_option maxRecDepth 16384 in
theorem vw_588 : (Cond.methodLink "OrderbenchModel$Shape" 47 ⟨"OrderbenchModel$Shape", "isEnds", "()Z"⟩).before #[] vs_A = true := by decide +kernel
set_option maxRecDepth 16384 in
theorem vw_589 : (Cond.sameMethod "OrderbenchModel$Shape" "OrderbenchModel$Shape" "isEnds" "()Z").before #[] vs_A = true := by decide +kernel
set_option maxRecDepth 16384 in
theorem vw_590 : (Cond.selects "OrderbenchModel$Shape" ⟨"OrderbenchModel$Shape", "isEnds", "()Z"⟩ ⟨"OrderbenchModel$Shape", "isEnds", "()Z"⟩).before #[] vs_A = true := by decide +kernel
set_option maxRecDepth 16384 in
theorem vw_591 : (Cond.methodLink "OrderbenchModel$Shape" 51 ⟨"OrderbenchModel$Shape", "isSafe", "()Z"⟩).before #[] vs_A = true := by decide +kernel
set_option maxRecDepth 16384 in
theorem vw_592 : (Cond.instanceMethod ⟨"java/util/ArrayList", "get", "(I)Ljava/lang/Object;"⟩).before #[] vs_A = true := by decide +kernel
set_option maxRecDepth 16384 in
theorem vw_593 : (Cond.code ⟨"java/util/ArrayList", "get", "(I)Ljava/lang/Object;"⟩ prog_39_method_20_code 2 (some (.object "java/lang/Object"))).before #[] vs_A = true := by decide +kernel
set_option maxRecDepth 16384 in
theorem vw_594 : (Cond.methodLink "OrderbenchModel" 45 ⟨"java/util/ArrayList", "get", "(I)Ljava/lang/Object;"⟩).before #[] vs_A = true := by decide +kernel
set_option maxRecDepth 16384 in
theorem vw_595 : (Cond.sameMethod "java/util/ArrayList" "java/util/ArrayList" "get" "(I)Ljava/lang/Object;").before #[] vs_A = true := by decide +kernel
set_option maxRecDepth 16384 in
theorem vw_596 : (Cond.selects "java/util/ArrayList" ⟨"java/util/ArrayList", "get", "(I)Ljava/lang/Object;"⟩ ⟨"java/util/ArrayList", "get", "(I)Ljava/lang/Object;"⟩).before #[] vs_A = true := by decide +kernel
set_option maxRecDepth 16384 in
theorem vw_597 : (Cond.instanceMethod ⟨"java/util/ArrayList", "size", "()I"⟩).before #[] vs_A = true := by decide +kernel
set_option maxRecDepth 16384 in
theorem vw_598 : (Cond.code ⟨"java/util/ArrayList", "size", "()I"⟩ prog_39_method_8_code 1 (some .int)).before #[] vs_A = true := by decide +kernel
set_option maxRecDepth 16384 in
theorem vw_599 : (Cond.methodLink "OrderbenchModel" 49 ⟨"java/util/ArrayList", "size", "()I"⟩).before #[] vs_A = true := by decide +kernel
set_option maxRecDepth 16384 in
theorem vw_600 : (Cond.sameMethod "java/util/ArrayList" "java/util/ArrayList" "size" "()I").before #[] vs_A = true := by decide +kernel
set_option maxRecDepth 16384 in
theorem vw_601 : (Cond.selects "java/util/ArrayList" ⟨"java/util/ArrayList", "size", "()I"⟩ ⟨"java/util/ArrayList", "size", "()I"⟩).before #[] vs_A = true := by decide +kernel
set_option maxRecDepth 16384 in
theorem vw_602 : (Cond.methodLink "java/util/ArrayList" 118 ⟨"java/util/Objects", "checkIndex", "(II)I"⟩).before #[] vs_A = true := by decide +kernel
set_option maxRecDepth 16384 in
theorem vw_603 : (Cond.static ⟨"java/util/Objects", "checkIndex", "(II)I"⟩).before #[] vs_A = true := by decide +kernel
set_option maxRecDepth 16384 in
theorem vw_604 : (Cond.initialized "java/util/Objects").before #[] vs_A = true := by decide +kernel
set_option maxRecDepth 16384 in
theorem vw_605 : (Cond.code ⟨"java/util/Objects", "checkIndex", "(II)I"⟩ prog_45_method_17_code 2 (some .int)).before #[] vs_A = true := by decide +kernel
set_option maxRecDepth 16384 in
theorem vw_606 : (Cond.instanceMethod ⟨"java/util/ArrayList", "elementData", "(I)Ljava/lang/Object;"⟩).before #[] vs_A = true := by decide +kernel
set_option maxRecDepth 16384 in
theorem vw_607 : (Cond.code ⟨"java/util/ArrayList", "elementData", "(I)Ljava/lang/Object;"⟩ prog_39_method_18_code 2 (some (.object "java/lang/Object"))).before #[] vs_A = true := by decide +kernel
set_option maxRecDepth 16384 in
theorem vw_608 : (Cond.methodLink "java/util/ArrayList" 123 ⟨"java/util/ArrayList", "elementData", "(I)Ljava/lang/Object;"⟩).before #[] vs_A = true := by decide +kernel
set_option maxRecDepth 16384 in
theorem vw_609 : (Cond.sameMethod "java/util/ArrayList" "java/util/ArrayList" "elementData" "(I)Ljava/lang/Object;").before #[] vs_A = true := by decide +kernel
set_option maxRecDepth 16384 in
theorem vw_610 : (Cond.selects "java/util/ArrayList" ⟨"java/util/ArrayList", "elementData", "(I)Ljava/lang/Object;"⟩ ⟨"java/util/ArrayList", "elementData", "(I)Ljava/lang/Object;"⟩).before #[] vs_A = true := by decide +kernel
set_option maxRecDepth 16384 in
theorem vw_611 : (Cond.methodLink "java/util/Objects" 105 ⟨"jdk/internal/util/Preconditions", "checkIndex", "(IILjava/util/function/BiFunction;)I"⟩).before #[] vs_A = true := by decide +kernel
set_option maxRecDepth 16384 in
theorem vw_612 : (Cond.constantLong "OrderbenchModel" 231 (31)).before #[] vs_A = true := by decide +kernel
set_option maxRecDepth 16384 in
theorem vw_613 : (Cond.methodLink "OrderbenchModel" 159 ⟨"java/lang/String", "charAt", "(I)C"⟩).before #[] vs_A = true := by decide +kernel
set_option maxRecDepth 16384 in
theorem vw_614 : (Cond.instanceMethod ⟨"OrderbenchModel", "takesBench", "(II)Z"⟩).before #[] vs_A = true := by decide +kernel
set_option maxRecDepth 16384 in
theorem vw_615 : (Cond.code ⟨"OrderbenchModel", "takesBench", "(II)Z"⟩ prog_10_method_24_code 3 (some .boolean)).before #[] vs_A = true := by decide +kernel
set_option maxRecDepth 16384 in
theorem vw_616 : (Cond.methodLink "OrderbenchModel" 133 ⟨"OrderbenchModel", "takesBench", "(II)Z"⟩).before #[] vs_A = true := by decide +kernel
set_option maxRecDepth 16384 in
theorem vw_617 : (Cond.sameMethod "OrderbenchModel" "OrderbenchModel" "takesBench" "(II)Z").before #[] vs_A = true := by decide +kernel
set_option maxRecDepth 16384 in
theorem vw_618 : (Cond.selects "OrderbenchModel" ⟨"OrderbenchModel", "takesBench", "(II)Z"⟩ ⟨"OrderbenchModel", "takesBench", "(II)Z"⟩).before #[] vs_A = true := by decide +kernel
set_option maxRecDepth 16384 in
theorem vw_619 : (Cond.instanceMethod ⟨"OrderbenchModel", "hasNothing", "(I)Z"⟩).before #[] vs_A = true := by decide +kernel
set_option maxRecDepth 16384 in
theorem vw_620 : (Cond.code ⟨"OrderbenchModel", "hasNothing", "(I)Z"⟩ prog_10_method_22_code 2 (some .boolean)).before #[] vs_A = true := by decide +kernel
set_option maxRecDepth 16384 in
theorem vw_621 : (Cond.methodLink "OrderbenchModel" 127 ⟨"OrderbenchModel", "hasNothing", "(I)Z"⟩).before #[] vs_A = true := by decide +kernel
set_option maxRecDepth 16384 in
theorem vw_622 : (Cond.sameMethod "OrderbenchModel" "OrderbenchModel" "hasNothing" "(I)Z").before #[] vs_A = true := by decide +kernel
set_option maxRecDepth 16384 in
theorem vw_623 : (Cond.selects "OrderbenchModel" ⟨"OrderbenchModel", "hasNothing", "(I)Z"⟩ ⟨"OrderbenchModel", "hasNothing", "(I)Z"⟩).before #[] vs_A = true := by decide +kernel
set_option maxRecDepth 16384 in
theorem vw_624 : (Cond.instanceMethod ⟨"OrderbenchModel", "takesEach", "(II)Z"⟩).before #[] vs_A = true := by decide +kernel
set_option maxRecDepth 16384 in
theorem vw_625 : (Cond.code ⟨"OrderbenchModel", "takesEach", "(II)Z"⟩ prog_10_method_54_code 3 (some .boolean)).before #[] vs_A = true := by decide +kernel
set_option maxRecDepth 16384 in
theorem vw_626 : (Cond.methodLink "OrderbenchModel" 204 ⟨"OrderbenchModel", "takesEach", "(II)Z"⟩).before #[] vs_A = true := by decide +kernel
set_option maxRecDepth 16384 in
theorem vw_627 : (Cond.sameMethod "OrderbenchModel" "OrderbenchModel" "takesEach" "(II)Z").before #[] vs_A = true := by decide +kernel
set_option maxRecDepth 16384 in
theorem vw_628 : (Cond.selects "OrderbenchModel" ⟨"OrderbenchModel", "takesEach", "(II)Z"⟩ ⟨"OrderbenchModel", "takesEach", "(II)Z"⟩).before #[] vs_A = true := by decide +kernel
set_option maxRecDepth 16384 in
theorem vf_0 : vs_A.vm.findClass "Orderbench" = some 2 := by decide +kernel
set_option maxRecDepth 16384 in
theorem vf_1 : (vs_A.vm.classes[2]?).any (fun k => decide (k.instanceTypes.map defaultValue = ([.null, .null, .null, .null, .null, .null, .int 0, .int 0, .int 0] : List Value).toArray)) = true := by decide +kernel
set_option maxRecDepth 16384 in
theorem vf_2 : (parseMethodDescriptor "()V").map (fun d => d.parameters.length) = some 0 := by decide +kernel
set_option maxRecDepth 16384 in
theorem vf_3 : vs_A.vm.findClass "OrderbenchModel" = some 6 := by decide +kernel
set_option maxRecDepth 16384 in
theorem vf_4 : (vs_A.vm.classes[6]?).any (fun k => decide (k.instanceTypes.map defaultValue = ([.int 0, .null, .null, .int 0, .int 0, .int 0] : List Value).toArray)) = true := by decide +kernel
set_option maxRecDepth 16384 in
theorem vf_5 : vs_A.vm.findClass "OrderbenchLaw$Out" = some 12 := by decide +kernel
set_option maxRecDepth 16384 in
theorem vf_6 : (vs_A.vm.classes[12]?).any (fun k => decide (k.instanceTypes.map defaultValue = ([.long 0, .null] : List Value).toArray)) = true := by decide +kernel
set_option maxRecDepth 16384 in
theorem vf_7 : ve_ar vs_A 51 .int = true := by decide +kernel
set_option maxRecDepth 16384 in
theorem vf_8 : (parseMethodDescriptor "(LOrderbench;IILOrderbenchLaw$Out;)I").map (fun d => d.parameters.length) = some 4 := by decide +kernel
set_option maxRecDepth 16384 in
theorem vf_9 : (parseMethodDescriptor "(II)I").map (fun d => d.parameters.length) = some 2 := by decide +kernel
set_option maxRecDepth 16384 in
theorem vf_10 : ve_de vs_A ⟨"OrderbenchModel", "turn", "(II)I"⟩ = true := by decide +kernel
set_option maxRecDepth 16384 in
theorem vf_11 : (parseMethodDescriptor "()J").map (fun d => d.parameters.length) = some 0 := by decide +kernel
set_option maxRecDepth 16384 in
theorem vf_12 : ve_de vs_A ⟨"Orderbench", "digest", "()J"⟩ = true := by decide +kernel
set_option maxRecDepth 16384 in
theorem vf_13 : ve_de vs_A ⟨"OrderbenchModel", "digest", "()J"⟩ = true := by decide +kernel
set_option maxRecDepth 16384 in
theorem vf_14 : vs_A.vm.findClass ("[" ++ (FieldType.object "Orderbench$Row").toString) = some 54 := by decide +kernel
set_option maxRecDepth 16384 in
theorem vf_15 : ve_cs vs_A 0 [2] (.array (.object "Orderbench$Row")) = true := by decide +kernel
set_option maxRecDepth 16384 in
theorem vf_16 : (vs_A.fieldFound? "Orderbench" "benches" "[LOrderbench$Row;").any (fun q => q.2.2.2.slot.beq 0 && (!q.2.2.2.isStatic && (decide (vs_A.vm.findClass "Orderbench" = some q.1) && decide (q.2.2.2.type = (.array (.object "Orderbench$Row")))))) = true := by decide +kernel
set_option maxRecDepth 16384 in
theorem vf_17 : (vs_A.fieldFound? "Orderbench" "benches" "[LOrderbench$Row;").any (fun q => q.2.2.2.slot.beq 0 && !q.2.2.2.isStatic) = true := by decide +kernel
set_option maxRecDepth 16384 in
theorem vf_18 : vs_A.vm.findClass "Orderbench$Row" = some 3 := by decide +kernel
set_option maxRecDepth 16384 in
theorem vf_19 : (vs_A.vm.classes[3]?).any (fun k => decide (k.instanceTypes.map defaultValue = ([.null, .int 0] : List Value).toArray)) = true := by decide +kernel
set_option maxRecDepth 16384 in
theorem vf_20 : ve_aa vs_A 54 [3] = true := by decide +kernel
set_option maxRecDepth 16384 in
theorem vf_21 : vs_A.vm.findClass ("[" ++ (FieldType.object "Orderbench$Shape").toString) = some 55 := by decide +kernel
set_option maxRecDepth 16384 in
theorem vf_22 : ve_cs vs_A 1 [2] (.array (.object "Orderbench$Shape")) = true := by decide +kernel
set_option maxRecDepth 16384 in
theorem vf_23 : (vs_A.fieldFound? "Orderbench" "orders" "[LOrderbench$Shape;").any (fun q => q.2.2.2.slot.beq 1 && (!q.2.2.2.isStatic && (decide (vs_A.vm.findClass "Orderbench" = some q.1) && decide (q.2.2.2.type = (.array (.object "Orderbench$Shape")))))) = true := by decide +kernel
set_option maxRecDepth 16384 in
theorem vf_24 : vs_A.vm.findClass "Orderbench$Base" = some 26 := by decide +kernel
set_option maxRecDepth 16384 in
theorem vf_25 : (vs_A.vm.classes[26]?).any (fun k => decide (k.instanceTypes.map defaultValue = ([.int 0, .int 0, .int 0] : List Value).toArray)) = true := by decide +kernel
set_option maxRecDepth 16384 in
theorem vf_26 : (parseMethodDescriptor "(I)V").map (fun d => d.parameters.length) = some 1 := by decide +kernel
set_option maxRecDepth 16384 in
theorem vf_27 : (vs_A.fieldFound? "Orderbench" "orders" "[LOrderbench$Shape;").any (fun q => q.2.2.2.slot.beq 1 && !q.2.2.2.isStatic) = true := by decide +kernel
set_option maxRecDepth 16384 in
theorem vf_28 : ve_aa vs_A 55 [26] = true := by decide +kernel
set_option maxRecDepth 16384 in
theorem vf_29 : ve_cs vs_A 2 [2] (.object "Orderbench$Row") = true := by decide +kernel
set_option maxRecDepth 16384 in
theorem vf_30 : (vs_A.fieldFound? "Orderbench" "copied" "LOrderbench$Row;").any (fun q => q.2.2.2.slot.beq 2 && (!q.2.2.2.isStatic && (decide (vs_A.vm.findClass "Orderbench" = some q.1) && decide (q.2.2.2.type = (.object "Orderbench$Row"))))) = true := by decide +kernel
set_option maxRecDepth 16384 in
theorem vf_31 : ve_cs vs_A 3 [2] (.object "Orderbench$Row") = true := by decide +kernel
set_option maxRecDepth 16384 in
theorem vf_32 : (vs_A.fieldFound? "Orderbench" "copiedToo" "LOrderbench$Row;").any (fun q => q.2.2.2.slot.beq 3 && (!q.2.2.2.isStatic && (decide (vs_A.vm.findClass "Orderbench" = some q.1) && decide (q.2.2.2.type = (.object "Orderbench$Row"))))) = true := by decide +kernel
set_option maxRecDepth 16384 in
theorem vf_33 : vs_A.vm.findClass ("[" ++ (newarray.typeOf .int).toString) = some 51 := by decide +kernel
set_option maxRecDepth 16384 in
theorem vf_34 : ve_cs vs_A 4 [2] (.array .int) = true := by decide +kernel
set_option maxRecDepth 16384 in
theorem vf_35 : (vs_A.fieldFound? "Orderbench" "ranks" "[I").any (fun q => q.2.2.2.slot.beq 4 && (!q.2.2.2.isStatic && (decide (vs_A.vm.findClass "Orderbench" = some q.1) && decide (q.2.2.2.type = (.array .int))))) = true := by decide +kernel
set_option maxRecDepth 16384 in
theorem vf_36 : vs_A.vm.findClass "java/lang/StringBuilder" = some 36 := by decide +kernel
set_option maxRecDepth 16384 in
theorem vf_37 : (vs_A.vm.classes[36]?).any (fun k => decide (k.instanceTypes.map defaultValue = ([.null, .int 0, .int 0, .int 0] : List Value).toArray)) = true := by decide +kernel
set_option maxRecDepth 16384 in
theorem vf_38 : ve_cs vs_A 5 [2] (.object "java/lang/StringBuilder") = true := by decide +kernel
set_option maxRecDepth 16384 in
theorem vf_39 : (vs_A.fieldFound? "Orderbench" "signs" "Ljava/lang/StringBuilder;").any (fun q => q.2.2.2.slot.beq 5 && (!q.2.2.2.isStatic && (decide (vs_A.vm.findClass "Orderbench" = some q.1) && decide (q.2.2.2.type = (.object "java/lang/StringBuilder"))))) = true := by decide +kernel
set_option maxRecDepth 16384 in
theorem vf_40 : ve_cs vs_A 0 [3] (.array .int) = true := by decide +kernel
set_option maxRecDepth 16384 in
theorem vf_41 : (vs_A.fieldFound? "Orderbench$Row" "codes" "[I").any (fun q => q.2.2.2.slot.beq 0 && (!q.2.2.2.isStatic && (decide (vs_A.vm.findClass "Orderbench$Row" = some q.1) && decide (q.2.2.2.type = (.array .int))))) = true := by decide +kernel
set_option maxRecDepth 16384 in
theorem vf_42 : (parseMethodDescriptor "(IZ)V").map (fun d => d.parameters.length) = some 2 := by decide +kernel
set_option maxRecDepth 16384 in
theorem vf_43 : ve_cs vs_A 2 [26] .int = true := by decide +kernel
set_option maxRecDepth 16384 in
theorem vf_44 : (vs_A.fieldFound? "Orderbench$Base" "kind" "I").any (fun q => q.2.2.2.slot.beq 2 && (!q.2.2.2.isStatic && (decide (vs_A.vm.findClass "Orderbench$Base" = some q.1) && decide (q.2.2.2.type = .int)))) = true := by decide +kernel
set_option maxRecDepth 16384 in
theorem vf_45 : ve_cs vs_A 0 [26, 32, 33] .int = true := by decide +kernel
