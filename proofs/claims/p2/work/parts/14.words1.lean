set_option maxRecDepth 16384 in
theorem vw_225 : (Cond.code ⟨"java/lang/StringBuilder", "toString", "()Ljava/lang/String;"⟩ prog_29_method_42_code 1 (some (.object "java/lang/String"))).before #[] vs_A = true := by decide +kernel
set_option maxRecDepth 16384 in
theorem vw_226 : (Cond.methodLink "OrderbenchModel$Shape" 33 ⟨"java/lang/StringBuilder", "toString", "()Ljava/lang/String;"⟩).before #[] vs_A = true := by decide +kernel
set_option maxRecDepth 16384 in
theorem vw_227 : (Cond.sameMethod "java/lang/StringBuilder" "java/lang/StringBuilder" "toString" "()Ljava/lang/String;").before #[] vs_A = true := by decide +kernel
set_option maxRecDepth 16384 in
theorem vw_228 : (Cond.selects "java/lang/StringBuilder" ⟨"java/lang/StringBuilder", "toString", "()Ljava/lang/String;"⟩ ⟨"java/lang/StringBuilder", "toString", "()Ljava/lang/String;"⟩).before #[] vs_A = true := by decide +kernel
set_option maxRecDepth 16384 in
theorem vw_229 : (Cond.instanceMethod ⟨"java/lang/StringBuilder", "append", "(C)Ljava/lang/StringBuilder;"⟩).before #[] vs_A = true := by decide +kernel
set_option maxRecDepth 16384 in
theorem vw_230 : (Cond.code ⟨"java/lang/StringBuilder", "append", "(C)Ljava/lang/StringBuilder;"⟩ prog_29_method_14_code 2 (some (.object "java/lang/StringBuilder"))).before #[] vs_A = true := by decide +kernel
set_option maxRecDepth 16384 in
theorem vw_231 : (Cond.methodLink "OrderbenchModel$Shape" 42 ⟨"java/lang/StringBuilder", "append", "(C)Ljava/lang/StringBuilder;"⟩).before #[] vs_A = true := by decide +kernel
set_option maxRecDepth 16384 in
theorem vw_232 : (Cond.sameMethod "java/lang/StringBuilder" "java/lang/StringBuilder" "append" "(C)Ljava/lang/StringBuilder;").before #[] vs_A = true := by decide +kernel
set_option maxRecDepth 16384 in
theorem vw_233 : (Cond.selects "java/lang/StringBuilder" ⟨"java/lang/StringBuilder", "append", "(C)Ljava/lang/StringBuilder;"⟩ ⟨"java/lang/StringBuilder", "append", "(C)Ljava/lang/StringBuilder;"⟩).before #[] vs_A = true := by decide +kernel
set_option maxRecDepth 16384 in
theorem vw_234 : (Cond.instanceMethod ⟨"java/lang/AbstractStringBuilder", "append", "(C)Ljava/lang/AbstractStringBuilder;"⟩).before #[] vs_A = true := by decide +kernel
set_option maxRecDepth 16384 in
theorem vw_235 : (Cond.code ⟨"java/lang/AbstractStringBuilder", "append", "(C)Ljava/lang/AbstractStringBuilder;"⟩ prog_13_method_31_code 2 (some (.object "java/lang/AbstractStringBuilder"))).before #[] vs_A = true := by decide +kernel
set_option maxRecDepth 16384 in
theorem vw_236 : (Cond.methodLink "java/lang/StringBuilder" 50 ⟨"java/lang/AbstractStringBuilder", "append", "(C)Ljava/lang/AbstractStringBuilder;"⟩).before #[] vs_A = true := by decide +kernel
set_option maxRecDepth 16384 in
theorem vw_237 : (Cond.sameMethod "java/lang/AbstractStringBuilder" "java/lang/AbstractStringBuilder" "append" "(C)Ljava/lang/AbstractStringBuilder;").before #[] vs_A = true := by decide +kernel
set_option maxRecDepth 16384 in
theorem vw_238 : (Cond.superclass "java/lang/StringBuilder" "java/lang/AbstractStringBuilder").before #[] vs_A = true := by decide +kernel
set_option maxRecDepth 16384 in
theorem vw_239 : (Cond.fieldLink "java/lang/AbstractStringBuilder" 79 "java/lang/AbstractStringBuilder" "count" "I").before #[] vs_A = true := by decide +kernel
set_option maxRecDepth 16384 in
theorem vw_240 : (Cond.instanceMethod ⟨"java/lang/AbstractStringBuilder", "ensureCapacityInternal", "(I)V"⟩).before #[] vs_A = true := by decide +kernel
set_option maxRecDepth 16384 in
theorem vw_241 : (Cond.code ⟨"java/lang/AbstractStringBuilder", "ensureCapacityInternal", "(I)V"⟩ prog_13_method_9_code 3 none).before #[] vs_A = true := by decide +kernel
set_option maxRecDepth 16384 in
theorem vw_242 : (Cond.methodLink "java/lang/AbstractStringBuilder" 100 ⟨"java/lang/AbstractStringBuilder", "ensureCapacityInternal", "(I)V"⟩).before #[] vs_A = true := by decide +kernel
set_option maxRecDepth 16384 in
theorem vw_243 : (Cond.sameMethod "java/lang/AbstractStringBuilder" "java/lang/AbstractStringBuilder" "ensureCapacityInternal" "(I)V").before #[] vs_A = true := by decide +kernel
set_option maxRecDepth 16384 in
theorem vw_244 : (Cond.selects "java/lang/StringBuilder" ⟨"java/lang/AbstractStringBuilder", "ensureCapacityInternal", "(I)V"⟩ ⟨"java/lang/AbstractStringBuilder", "ensureCapacityInternal", "(I)V"⟩).before #[] vs_A = true := by decide +kernel
set_option maxRecDepth 16384 in
theorem vw_245 : (Cond.instanceMethod ⟨"java/lang/AbstractStringBuilder", "isLatin1", "()Z"⟩).before #[] vs_A = true := by decide +kernel
set_option maxRecDepth 16384 in
theorem vw_246 : (Cond.code ⟨"java/lang/AbstractStringBuilder", "isLatin1", "()Z"⟩ prog_13_method_68_code 1 (some .boolean)).before #[] vs_A = true := by decide +kernel
set_option maxRecDepth 16384 in
theorem vw_247 : (Cond.methodLink "java/lang/AbstractStringBuilder" 83 ⟨"java/lang/AbstractStringBuilder", "isLatin1", "()Z"⟩).before #[] vs_A = true := by decide +kernel
set_option maxRecDepth 16384 in
theorem vw_248 : (Cond.sameMethod "java/lang/AbstractStringBuilder" "java/lang/AbstractStringBuilder" "isLatin1" "()Z").before #[] vs_A = true := by decide +kernel
set_option maxRecDepth 16384 in
theorem vw_249 : (Cond.selects "java/lang/StringBuilder" ⟨"java/lang/AbstractStringBuilder", "isLatin1", "()Z"⟩ ⟨"java/lang/AbstractStringBuilder", "isLatin1", "()Z"⟩).before #[] vs_A = true := by decide +kernel
set_option maxRecDepth 16384 in
theorem vw_250 : (Cond.methodLink "java/lang/AbstractStringBuilder" 191 ⟨"java/lang/StringLatin1", "canEncode", "(C)Z"⟩).before #[] vs_A = true := by decide +kernel
set_option maxRecDepth 16384 in
theorem vw_251 : (Cond.static ⟨"java/lang/StringLatin1", "canEncode", "(C)Z"⟩).before #[] vs_A = true := by decide +kernel
set_option maxRecDepth 16384 in
theorem vw_252 : (Cond.initialized "java/lang/StringLatin1").before #[] vs_A = true := by decide +kernel
set_option maxRecDepth 16384 in
theorem vw_253 : (Cond.code ⟨"java/lang/StringLatin1", "canEncode", "(C)Z"⟩ prog_31_method_3_code 1 (some .boolean)).before #[] vs_A = true := by decide +kernel
set_option maxRecDepth 16384 in
theorem vw_254 : (Cond.instanceMethod ⟨"java/lang/AbstractStringBuilder", "newCapacity", "(I)I"⟩).before #[] vs_A = true := by decide +kernel
set_option maxRecDepth 16384 in
theorem vw_255 : (Cond.code ⟨"java/lang/AbstractStringBuilder", "newCapacity", "(I)I"⟩ prog_13_method_10_code 6 (some .int)).before #[] vs_A = true := by decide +kernel
set_option maxRecDepth 16384 in
theorem vw_256 : (Cond.methodLink "java/lang/AbstractStringBuilder" 104 ⟨"java/lang/AbstractStringBuilder", "newCapacity", "(I)I"⟩).before #[] vs_A = true := by decide +kernel
set_option maxRecDepth 16384 in
theorem vw_257 : (Cond.sameMethod "java/lang/AbstractStringBuilder" "java/lang/AbstractStringBuilder" "newCapacity" "(I)I").before #[] vs_A = true := by decide +kernel
set_option maxRecDepth 16384 in
theorem vw_258 : (Cond.selects "java/lang/StringBuilder" ⟨"java/lang/AbstractStringBuilder", "newCapacity", "(I)I"⟩ ⟨"java/lang/AbstractStringBuilder", "newCapacity", "(I)I"⟩).before #[] vs_A = true := by decide +kernel
set_option maxRecDepth 16384 in
theorem vw_259 : (Cond.methodLink "java/lang/AbstractStringBuilder" 108 ⟨"java/util/Arrays", "copyOf", "([BI)[B"⟩).before #[] vs_A = true := by decide +kernel
set_option maxRecDepth 16384 in
theorem vw_260 : (Cond.static ⟨"java/util/Arrays", "copyOf", "([BI)[B"⟩).before #[] vs_A = true := by decide +kernel
set_option maxRecDepth 16384 in
theorem vw_261 : (Cond.initialized "java/util/Arrays").before #[] vs_A = true := by decide +kernel
set_option maxRecDepth 16384 in
theorem vw_262 : (Cond.code ⟨"java/util/Arrays", "copyOf", "([BI)[B"⟩ prog_41_method_121_code 3 (some (.array .byte))).before #[] vs_A = true := by decide +kernel
set_option maxRecDepth 16384 in
theorem vw_263 : (Cond.instanceMethod ⟨"java/lang/AbstractStringBuilder", "append", "(Ljava/lang/String;)Ljava/lang/AbstractStringBuilder;"⟩).before #[] vs_A = true := by decide +kernel
set_option maxRecDepth 16384 in
theorem vw_264 : (Cond.code ⟨"java/lang/AbstractStringBuilder", "append", "(Ljava/lang/String;)Ljava/lang/AbstractStringBuilder;"⟩ prog_13_method_22_code 3 (some (.object "java/lang/AbstractStringBuilder"))).before #[] vs_A = true := by decide +kernel
set_option maxRecDepth 16384 in
theorem vw_265 : (Cond.methodLink "java/lang/StringBuilder" 29 ⟨"java/lang/AbstractStringBuilder", "append", "(Ljava/lang/String;)Ljava/lang/AbstractStringBuilder;"⟩).before #[] vs_A = true := by decide +kernel
set_option maxRecDepth 16384 in
theorem vw_266 : (Cond.sameMethod "java/lang/AbstractStringBuilder" "java/lang/AbstractStringBuilder" "append" "(Ljava/lang/String;)Ljava/lang/AbstractStringBuilder;").before #[] vs_A = true := by decide +kernel
set_option maxRecDepth 16384 in
theorem vw_267 : (Cond.methodLink "java/lang/AbstractStringBuilder" 32 ⟨"java/lang/String", "length", "()I"⟩).before #[] vs_A = true := by decide +kernel
set_option maxRecDepth 16384 in
theorem vw_268 : (Cond.instanceMethod ⟨"java/lang/AbstractStringBuilder", "putStringAt", "(ILjava/lang/String;)V"⟩).before #[] vs_A = true := by decide +kernel
set_option maxRecDepth 16384 in
theorem vw_269 : (Cond.code ⟨"java/lang/AbstractStringBuilder", "putStringAt", "(ILjava/lang/String;)V"⟩ prog_13_method_73_code 3 none).before #[] vs_A = true := by decide +kernel
set_option maxRecDepth 16384 in
theorem vw_270 : (Cond.methodLink "java/lang/AbstractStringBuilder" 208 ⟨"java/lang/AbstractStringBuilder", "putStringAt", "(ILjava/lang/String;)V"⟩).before #[] vs_A = true := by decide +kernel
set_option maxRecDepth 16384 in
theorem vw_271 : (Cond.sameMethod "java/lang/AbstractStringBuilder" "java/lang/AbstractStringBuilder" "putStringAt" "(ILjava/lang/String;)V").before #[] vs_A = true := by decide +kernel
set_option maxRecDepth 16384 in
theorem vw_272 : (Cond.selects "java/lang/StringBuilder" ⟨"java/lang/AbstractStringBuilder", "putStringAt", "(ILjava/lang/String;)V"⟩ ⟨"java/lang/AbstractStringBuilder", "putStringAt", "(ILjava/lang/String;)V"⟩).before #[] vs_A = true := by decide +kernel
set_option maxRecDepth 16384 in
theorem vw_273 : (Cond.fieldLink "java/lang/String" 9 "java/lang/String" "value" "[B").before #[] vs_A = true := by decide +kernel
set_option maxRecDepth 16384 in
theorem vw_274 : (Cond.instanceMethod ⟨"java/lang/String", "coder", "()B"⟩).before #[] vs_A = true := by decide +kernel
set_option maxRecDepth 16384 in
theorem vw_275 : (Cond.code ⟨"java/lang/String", "coder", "()B"⟩ prog_28_method_152_code 1 (some .byte)).before #[] vs_A = true := by decide +kernel
set_option maxRecDepth 16384 in
theorem vw_276 : (Cond.methodLink "java/lang/String" 335 ⟨"java/lang/String", "coder", "()B"⟩).before #[] vs_A = true := by decide +kernel
set_option maxRecDepth 16384 in
theorem vw_277 : (Cond.sameMethod "java/lang/String" "java/lang/String" "coder" "()B").before #[] vs_A = true := by decide +kernel
set_option maxRecDepth 16384 in
theorem vw_278 : (Cond.selects "java/lang/String" ⟨"java/lang/String", "coder", "()B"⟩ ⟨"java/lang/String", "coder", "()B"⟩).before #[] vs_A = true := by decide +kernel
set_option maxRecDepth 16384 in
theorem vw_279 : (Cond.fieldLink "java/lang/String" 38 "java/lang/String" "COMPACT_STRINGS" "Z").before #[] vs_A = true := by decide +kernel
set_option maxRecDepth 16384 in
theorem vw_280 : (Cond.fieldLink "java/lang/String" 15 "java/lang/String" "coder" "B").before #[] vs_A = true := by decide +kernel
set_option maxRecDepth 16384 in
theorem vw_281 : (Cond.instanceMethod ⟨"java/lang/AbstractStringBuilder", "inflateIfNeededFor", "(Ljava/lang/String;)V"⟩).before #[] vs_A = true := by decide +kernel
set_option maxRecDepth 16384 in
theorem vw_282 : (Cond.code ⟨"java/lang/AbstractStringBuilder", "inflateIfNeededFor", "(Ljava/lang/String;)V"⟩ prog_13_method_71_code 2 none).before #[] vs_A = true := by decide +kernel
set_option maxRecDepth 16384 in
theorem vw_283 : (Cond.methodLink "java/lang/AbstractStringBuilder" 397 ⟨"java/lang/AbstractStringBuilder", "inflateIfNeededFor", "(Ljava/lang/String;)V"⟩).before #[] vs_A = true := by decide +kernel
set_option maxRecDepth 16384 in
theorem vw_284 : (Cond.sameMethod "java/lang/AbstractStringBuilder" "java/lang/AbstractStringBuilder" "inflateIfNeededFor" "(Ljava/lang/String;)V").before #[] vs_A = true := by decide +kernel
set_option maxRecDepth 16384 in
theorem vw_285 : (Cond.selects "java/lang/StringBuilder" ⟨"java/lang/AbstractStringBuilder", "inflateIfNeededFor", "(Ljava/lang/String;)V"⟩ ⟨"java/lang/AbstractStringBuilder", "inflateIfNeededFor", "(Ljava/lang/String;)V"⟩).before #[] vs_A = true := by decide +kernel
set_option maxRecDepth 16384 in
theorem vw_286 : (Cond.instanceMethod ⟨"java/lang/String", "getBytes", "([BIB)V"⟩).before #[] vs_A = true := by decide +kernel
set_option maxRecDepth 16384 in
theorem vw_287 : (Cond.code ⟨"java/lang/String", "getBytes", "([BIB)V"⟩ prog_28_method_147_code 4 none).before #[] vs_A = true := by decide +kernel
set_option maxRecDepth 16384 in
theorem vw_288 : (Cond.methodLink "java/lang/AbstractStringBuilder" 399 ⟨"java/lang/String", "getBytes", "([BIB)V"⟩).before #[] vs_A = true := by decide +kernel
set_option maxRecDepth 16384 in
theorem vw_289 : (Cond.sameMethod "java/lang/String" "java/lang/String" "getBytes" "([BIB)V").before #[] vs_A = true := by decide +kernel
set_option maxRecDepth 16384 in
theorem vw_290 : (Cond.selects "java/lang/String" ⟨"java/lang/String", "getBytes", "([BIB)V"⟩ ⟨"java/lang/String", "getBytes", "([BIB)V"⟩).before #[] vs_A = true := by decide +kernel
set_option maxRecDepth 16384 in
theorem vw_291 : (Cond.methodLink "java/lang/AbstractStringBuilder" 40 ⟨"java/lang/String", "coder", "()B"⟩).before #[] vs_A = true := by decide +kernel
set_option maxRecDepth 16384 in
theorem vw_292 : (Cond.methodLink "java/lang/String" 212 arraycopyName).before #[] vs_A = true := by decide +kernel
set_option maxRecDepth 16384 in
theorem vw_293 : (Cond.native arraycopyName).before #[] vs_A = true := by decide +kernel
set_option maxRecDepth 16384 in
theorem vw_294 : (Cond.static arraycopyName).before #[] vs_A = true := by decide +kernel
set_option maxRecDepth 16384 in
theorem vw_295 : (Cond.initialized "java/lang/System").before #[] vs_A = true := by decide +kernel
set_option maxRecDepth 16384 in
theorem vw_296 : (Cond.classLink "java/lang/StringBuilder" 18 "java/lang/String").before #[] vs_A = true := by decide +kernel
set_option maxRecDepth 16384 in
theorem vw_297 : (Cond.instantiable "java/lang/String" 4).before #[] vs_A = true := by decide +kernel
set_option maxRecDepth 16384 in
theorem vw_298 : (Cond.instanceMethod ⟨"java/lang/String", "<init>", "(Ljava/lang/StringBuilder;)V"⟩).before #[] vs_A = true := by decide +kernel
set_option maxRecDepth 16384 in
theorem vw_299 : (Cond.code ⟨"java/lang/String", "<init>", "(Ljava/lang/StringBuilder;)V"⟩ prog_28_method_53_code 2 none).before #[] vs_A = true := by decide +kernel
set_option maxRecDepth 16384 in
theorem vw_300 : (Cond.methodLink "java/lang/StringBuilder" 137 ⟨"java/lang/String", "<init>", "(Ljava/lang/StringBuilder;)V"⟩).before #[] vs_A = true := by decide +kernel
set_option maxRecDepth 16384 in
theorem vw_301 : (Cond.instanceMethod ⟨"java/lang/String", "<init>", "(Ljava/lang/AbstractStringBuilder;Ljava/lang/Void;)V"⟩).before #[] vs_A = true := by decide +kernel
set_option maxRecDepth 16384 in
theorem vw_302 : (Cond.code ⟨"java/lang/String", "<init>", "(Ljava/lang/AbstractStringBuilder;Ljava/lang/Void;)V"⟩ prog_28_method_150_code 5 none).before #[] vs_A = true := by decide +kernel
set_option maxRecDepth 16384 in
theorem vw_303 : (Cond.methodLink "java/lang/String" 489 ⟨"java/lang/String", "<init>", "(Ljava/lang/AbstractStringBuilder;Ljava/lang/Void;)V"⟩).before #[] vs_A = true := by decide +kernel
set_option maxRecDepth 16384 in
theorem vw_304 : (Cond.methodLink "java/lang/String" 1 Lib.objectInit).before #[] vs_A = true := by decide +kernel
set_option maxRecDepth 16384 in
theorem vw_305 : (Cond.instanceMethod ⟨"java/lang/AbstractStringBuilder", "getValue", "()[B"⟩).before #[] vs_A = true := by decide +kernel
set_option maxRecDepth 16384 in
theorem vw_306 : (Cond.code ⟨"java/lang/AbstractStringBuilder", "getValue", "()[B"⟩ prog_13_method_64_code 1 (some (.array .byte))).before #[] vs_A = true := by decide +kernel
set_option maxRecDepth 16384 in
theorem vw_307 : (Cond.methodLink "java/lang/String" 552 ⟨"java/lang/AbstractStringBuilder", "getValue", "()[B"⟩).before #[] vs_A = true := by decide +kernel
set_option maxRecDepth 16384 in
theorem vw_308 : (Cond.sameMethod "java/lang/AbstractStringBuilder" "java/lang/AbstractStringBuilder" "getValue" "()[B").before #[] vs_A = true := by decide +kernel
set_option maxRecDepth 16384 in
theorem vw_309 : (Cond.selects "java/lang/StringBuilder" ⟨"java/lang/AbstractStringBuilder", "getValue", "()[B"⟩ ⟨"java/lang/AbstractStringBuilder", "getValue", "()[B"⟩).before #[] vs_A = true := by decide +kernel
set_option maxRecDepth 16384 in
theorem vw_310 : (Cond.instanceMethod ⟨"java/lang/StringBuilder", "length", "()I"⟩).before #[] vs_A = true := by decide +kernel
set_option maxRecDepth 16384 in
theorem vw_311 : (Cond.code ⟨"java/lang/StringBuilder", "length", "()I"⟩ prog_29_method_93_code 1 (some .int)).before #[] vs_A = true := by decide +kernel
set_option maxRecDepth 16384 in
theorem vw_312 : (Cond.methodLink "java/lang/String" 549 ⟨"java/lang/AbstractStringBuilder", "length", "()I"⟩).before #[] vs_A = true := by decide +kernel
set_option maxRecDepth 16384 in
theorem vw_313 : (Cond.sameMethod "java/lang/AbstractStringBuilder" "java/lang/AbstractStringBuilder" "length" "()I").before #[] vs_A = true := by decide +kernel
set_option maxRecDepth 16384 in
theorem vw_314 : (Cond.selects "java/lang/StringBuilder" ⟨"java/lang/AbstractStringBuilder", "length", "()I"⟩ ⟨"java/lang/StringBuilder", "length", "()I"⟩).before #[] vs_A = true := by decide +kernel
set_option maxRecDepth 16384 in
theorem vw_315 : (Cond.methodLink "java/lang/String" 1047 ⟨"java/lang/AbstractStringBuilder", "isLatin1", "()Z"⟩).before #[] vs_A = true := by decide +kernel
set_option maxRecDepth 16384 in
theorem vw_316 : (Cond.methodLink "java/lang/String" 54 ⟨"java/util/Arrays", "copyOfRange", "([BII)[B"⟩).before #[] vs_A = true := by decide +kernel
set_option maxRecDepth 16384 in
theorem vw_317 : (Cond.static ⟨"java/util/Arrays", "copyOfRange", "([BII)[B"⟩).before #[] vs_A = true := by decide +kernel
set_option maxRecDepth 16384 in
theorem vw_318 : (Cond.code ⟨"java/util/Arrays", "copyOfRange", "([BII)[B"⟩ prog_41_method_132_code 3 (some (.array .byte))).before #[] vs_A = true := by decide +kernel
set_option maxRecDepth 16384 in
theorem vw_319 : (Cond.instanceMethod ⟨"java/lang/AbstractStringBuilder", "length", "()I"⟩).before #[] vs_A = true := by decide +kernel
set_option maxRecDepth 16384 in
theorem vw_320 : (Cond.code ⟨"java/lang/AbstractStringBuilder", "length", "()I"⟩ prog_13_method_6_code 1 (some .int)).before #[] vs_A = true := by decide +kernel
set_option maxRecDepth 16384 in
theorem vw_321 : (Cond.methodLink "java/lang/StringBuilder" 343 ⟨"java/lang/AbstractStringBuilder", "length", "()I"⟩).before #[] vs_A = true := by decide +kernel
set_option maxRecDepth 16384 in
theorem vw_322 : (Cond.methodLink "java/util/Arrays" 339 ⟨"java/util/Arrays", "copyOfRangeByte", "([BII)[B"⟩).before #[] vs_A = true := by decide +kernel
set_option maxRecDepth 16384 in
theorem vw_323 : (Cond.static ⟨"java/util/Arrays", "copyOfRangeByte", "([BII)[B"⟩).before #[] vs_A = true := by decide +kernel
set_option maxRecDepth 16384 in
theorem vw_324 : (Cond.code ⟨"java/util/Arrays", "copyOfRangeByte", "([BII)[B"⟩ prog_41_method_133_code 5 (some (.array .byte))).before #[] vs_A = true := by decide +kernel
set_option maxRecDepth 16384 in
theorem vw_325 : (Cond.methodLink "java/util/Arrays" 310 ⟨"[B", "clone", "()Ljava/lang/Object;"⟩).before #[] vs_A = true := by decide +kernel
set_option maxRecDepth 16384 in
theorem vw_326 : (Cond.sameMethod "[B" "java/lang/Object" "clone" "()Ljava/lang/Object;").before #[] vs_A = true := by decide +kernel
set_option maxRecDepth 16384 in
theorem vw_327 : (Cond.native ⟨"java/lang/Object", "clone", "()Ljava/lang/Object;"⟩).before #[] vs_A = true := by decide +kernel
set_option maxRecDepth 16384 in
theorem vw_328 : (Cond.instanceMethod ⟨"java/lang/Object", "clone", "()Ljava/lang/Object;"⟩).before #[] vs_A = true := by decide +kernel
set_option maxRecDepth 16384 in
theorem vw_329 : (Cond.selects "[B" ⟨"[B", "clone", "()Ljava/lang/Object;"⟩ ⟨"java/lang/Object", "clone", "()Ljava/lang/Object;"⟩).before #[] vs_A = true := by decide +kernel
set_option maxRecDepth 16384 in
theorem vw_330 : (Cond.classLink "java/util/Arrays" 311 "[B").before #[] vs_A = true := by decide +kernel
set_option maxRecDepth 16384 in
theorem vw_331 : (Cond.methodLink "java/util/Arrays" 343 ⟨"java/util/Arrays", "checkLength", "(II)V"⟩).before #[] vs_A = true := by decide +kernel
set_option maxRecDepth 16384 in
theorem vw_332 : (Cond.static ⟨"java/util/Arrays", "checkLength", "(II)V"⟩).before #[] vs_A = true := by decide +kernel
set_option maxRecDepth 16384 in
theorem vw_333 : (Cond.code ⟨"java/util/Arrays", "checkLength", "(II)V"⟩ prog_41_method_131_code 2 none).before #[] vs_A = true := by decide +kernel
set_option maxRecDepth 16384 in
theorem vw_334 : (Cond.methodLink "java/util/Arrays" 304 ⟨"java/lang/Math", "min", "(II)I"⟩).before #[] vs_A = true := by decide +kernel
set_option maxRecDepth 16384 in
theorem vw_335 : (Cond.static ⟨"java/lang/Math", "min", "(II)I"⟩).before #[] vs_A = true := by decide +kernel
set_option maxRecDepth 16384 in
theorem vw_336 : (Cond.code ⟨"java/lang/Math", "min", "(II)I"⟩ prog_25_method_69_code 2 (some .int)).before #[] vs_A = true := by decide +kernel
set_option maxRecDepth 16384 in
theorem vw_337 : (Cond.methodLink "java/util/Arrays" 150 arraycopyName).before #[] vs_A = true := by decide +kernel
set_option maxRecDepth 16384 in
theorem vw_338 : (Cond.methodLink "java/lang/AbstractStringBuilder" 114 ⟨"jdk/internal/util/ArraysSupport", "newLength", "(III)I"⟩).before #[] vs_A = true := by decide +kernel
set_option maxRecDepth 16384 in
theorem vw_339 : (Cond.static ⟨"jdk/internal/util/ArraysSupport", "newLength", "(III)I"⟩).before #[] vs_A = true := by decide +kernel
set_option maxRecDepth 16384 in
theorem vw_340 : (Cond.initialized "jdk/internal/util/ArraysSupport").before #[] vs_A = true := by decide +kernel
set_option maxRecDepth 16384 in
theorem vw_341 : (Cond.code ⟨"jdk/internal/util/ArraysSupport", "newLength", "(III)I"⟩ prog_48_method_27_code 4 (some .int)).before #[] vs_A = true := by decide +kernel
set_option maxRecDepth 16384 in
theorem vw_342 : (Cond.constant "java/lang/AbstractStringBuilder" 39 (2147483647)).before #[] vs_A = true := by decide +kernel
set_option maxRecDepth 16384 in
theorem vw_343 : (Cond.methodLink "jdk/internal/util/ArraysSupport" 194 ⟨"java/lang/Math", "max", "(II)I"⟩).before #[] vs_A = true := by decide +kernel
set_option maxRecDepth 16384 in
theorem vw_344 : (Cond.constant "jdk/internal/util/ArraysSupport" 200 (2147483639)).before #[] vs_A = true := by decide +kernel
set_option maxRecDepth 16384 in
theorem vw_345 : (Cond.constantLong "Orderbench" 226 (7773)).before #[] vs_A = true := by decide +kernel
set_option maxRecDepth 16384 in
theorem vw_346 : (Cond.constantLong "Orderbench" 228 (31)).before #[] vs_A = true := by decide +kernel
set_option maxRecDepth 16384 in
theorem vw_347 : (Cond.instanceMethod ⟨"Orderbench", "houseNumber", "(I)I"⟩).before #[] vs_A = true := by decide +kernel
set_option maxRecDepth 16384 in
theorem vw_348 : (Cond.code ⟨"Orderbench", "houseNumber", "(I)I"⟩ prog_1_method_69_code 2 (some .int)).before #[] vs_A = true := by decide +kernel
set_option maxRecDepth 16384 in
theorem vw_349 : (Cond.methodLink "Orderbench" 217 ⟨"Orderbench", "houseNumber", "(I)I"⟩).before #[] vs_A = true := by decide +kernel
set_option maxRecDepth 16384 in
theorem vw_350 : (Cond.sameMethod "Orderbench" "Orderbench" "houseNumber" "(I)I").before #[] vs_A = true := by decide +kernel
set_option maxRecDepth 16384 in
theorem vw_351 : (Cond.selects "Orderbench" ⟨"Orderbench", "houseNumber", "(I)I"⟩ ⟨"Orderbench", "houseNumber", "(I)I"⟩).before #[] vs_A = true := by decide +kernel
set_option maxRecDepth 16384 in
theorem vw_352 : (Cond.instanceMethod ⟨"Orderbench", "digestBench", "(JLOrderbench$Row;)J"⟩).before #[] vs_A = true := by decide +kernel
set_option maxRecDepth 16384 in
theorem vw_353 : (Cond.code ⟨"Orderbench", "digestBench", "(JLOrderbench$Row;)J"⟩ prog_1_method_72_code 8 (some .long)).before #[] vs_A = true := by decide +kernel
set_option maxRecDepth 16384 in
theorem vw_354 : (Cond.methodLink "Orderbench" 230 ⟨"Orderbench", "digestBench", "(JLOrderbench$Row;)J"⟩).before #[] vs_A = true := by decide +kernel
set_option maxRecDepth 16384 in
theorem vw_355 : (Cond.sameMethod "Orderbench" "Orderbench" "digestBench" "(JLOrderbench$Row;)J").before #[] vs_A = true := by decide +kernel
set_option maxRecDepth 16384 in
theorem vw_356 : (Cond.selects "Orderbench" ⟨"Orderbench", "digestBench", "(JLOrderbench$Row;)J"⟩ ⟨"Orderbench", "digestBench", "(JLOrderbench$Row;)J"⟩).before #[] vs_A = true := by decide +kernel
set_option maxRecDepth 16384 in
theorem vw_357 : (Cond.instanceMethod ⟨"Orderbench", "digestOrder", "(JLOrderbench$Shape;)J"⟩).before #[] vs_A = true := by decide +kernel
set_option maxRecDepth 16384 in
theorem vw_358 : (Cond.code ⟨"Orderbench", "digestOrder", "(JLOrderbench$Shape;)J"⟩ prog_1_method_73_code 4 (some .long)).before #[] vs_A = true := by decide +kernel
set_option maxRecDepth 16384 in
theorem vw_359 : (Cond.methodLink "Orderbench" 234 ⟨"Orderbench", "digestOrder", "(JLOrderbench$Shape;)J"⟩).before #[] vs_A = true := by decide +kernel
set_option maxRecDepth 16384 in
theorem vw_360 : (Cond.sameMethod "Orderbench" "Orderbench" "digestOrder" "(JLOrderbench$Shape;)J").before #[] vs_A = true := by decide +kernel
set_option maxRecDepth 16384 in
theorem vw_361 : (Cond.selects "Orderbench" ⟨"Orderbench", "digestOrder", "(JLOrderbench$Shape;)J"⟩ ⟨"Orderbench", "digestOrder", "(JLOrderbench$Shape;)J"⟩).before #[] vs_A = true := by decide +kernel
set_option maxRecDepth 16384 in
theorem vw_362 : (Cond.instanceMethod ⟨"Orderbench", "isSound", "()Z"⟩).before #[] vs_A = true := by decide +kernel
set_option maxRecDepth 16384 in
theorem vw_363 : (Cond.code ⟨"Orderbench", "isSound", "()Z"⟩ prog_1_method_37_code 3 (some .boolean)).before #[] vs_A = true := by decide +kernel
set_option maxRecDepth 16384 in
theorem vw_364 : (Cond.methodLink "Orderbench" 238 ⟨"Orderbench", "isSound", "()Z"⟩).before #[] vs_A = true := by decide +kernel
set_option maxRecDepth 16384 in
theorem vw_365 : (Cond.sameMethod "Orderbench" "Orderbench" "isSound" "()Z").before #[] vs_A = true := by decide +kernel
set_option maxRecDepth 16384 in
theorem vw_366 : (Cond.selects "Orderbench" ⟨"Orderbench", "isSound", "()Z"⟩ ⟨"Orderbench", "isSound", "()Z"⟩).before #[] vs_A = true := by decide +kernel
set_option maxRecDepth 16384 in
theorem vw_367 : (Cond.fieldLinkNest "Orderbench" 64 "Orderbench$Row" "many" "I" "Orderbench").before #[] vs_A = true := by decide +kernel
set_option maxRecDepth 16384 in
theorem vw_368 : (Cond.fieldLink "Orderbench" 263 "Orderbench" "laid" "I").before #[] vs_A = true := by decide +kernel
set_option maxRecDepth 16384 in
theorem vw_369 : (Cond.instanceMethod ⟨"Orderbench", "howManySafe", "()I"⟩).before #[] vs_A = true := by decide +kernel
set_option maxRecDepth 16384 in
theorem vw_370 : (Cond.code ⟨"Orderbench", "howManySafe", "()I"⟩ prog_1_method_70_code 3 (some .int)).before #[] vs_A = true := by decide +kernel
set_option maxRecDepth 16384 in
theorem vw_371 : (Cond.methodLink "Orderbench" 304 ⟨"Orderbench", "howManySafe", "()I"⟩).before #[] vs_A = true := by decide +kernel
set_option maxRecDepth 16384 in
theorem vw_372 : (Cond.sameMethod "Orderbench" "Orderbench" "howManySafe" "()I").before #[] vs_A = true := by decide +kernel
set_option maxRecDepth 16384 in
theorem vw_373 : (Cond.selects "Orderbench" ⟨"Orderbench", "howManySafe", "()I"⟩ ⟨"Orderbench", "howManySafe", "()I"⟩).before #[] vs_A = true := by decide +kernel
set_option maxRecDepth 16384 in
theorem vw_374 : (Cond.fieldLink "Orderbench" 276 "Orderbench" "refusals" "I").before #[] vs_A = true := by decide +kernel
set_option maxRecDepth 16384 in
theorem vw_375 : (Cond.fieldLink "Orderbench" 220 "Orderbench" "knocks" "I").before #[] vs_A = true := by decide +kernel
set_option maxRecDepth 16384 in
theorem vw_376 : (Cond.instanceMethod ⟨"Orderbench$Row", "empties", "()I"⟩).before #[] vs_A = true := by decide +kernel
set_option maxRecDepth 16384 in
theorem vw_377 : (Cond.code ⟨"Orderbench$Row", "empties", "()I"⟩ prog_4_method_9_code 1 (some .int)).before #[] vs_A = true := by decide +kernel
set_option maxRecDepth 16384 in
theorem vw_378 : (Cond.methodLink "Orderbench" 209 ⟨"Orderbench$Row", "empties", "()I"⟩).before #[] vs_A = true := by decide +kernel
set_option maxRecDepth 16384 in
theorem vw_379 : (Cond.sameMethod "Orderbench$Row" "Orderbench$Row" "empties" "()I").before #[] vs_A = true := by decide +kernel
set_option maxRecDepth 16384 in
theorem vw_380 : (Cond.selects "Orderbench$Row" ⟨"Orderbench$Row", "empties", "()I"⟩ ⟨"Orderbench$Row", "empties", "()I"⟩).before #[] vs_A = true := by decide +kernel
set_option maxRecDepth 16384 in
theorem vw_381 : (Cond.fieldLink "Orderbench" 147 "Orderbench$Shape" "safe" "Z").before #[] vs_A = true := by decide +kernel
set_option maxRecDepth 16384 in
theorem vw_382 : (Cond.instanceMethod ⟨"Orderbench$Row", "howOften", "(I)I"⟩).before #[] vs_A = true := by decide +kernel
set_option maxRecDepth 16384 in
theorem vw_383 : (Cond.code ⟨"Orderbench$Row", "howOften", "(I)I"⟩ prog_4_method_10_code 4 (some .int)).before #[] vs_A = true := by decide +kernel
set_option maxRecDepth 16384 in
theorem vw_384 : (Cond.methodLink "Orderbench$Row" 35 ⟨"Orderbench$Row", "howOften", "(I)I"⟩).before #[] vs_A = true := by decide +kernel
set_option maxRecDepth 16384 in
theorem vw_385 : (Cond.sameMethod "Orderbench$Row" "Orderbench$Row" "howOften" "(I)I").before #[] vs_A = true := by decide +kernel
set_option maxRecDepth 16384 in
theorem vw_386 : (Cond.selects "Orderbench$Row" ⟨"Orderbench$Row", "howOften", "(I)I"⟩ ⟨"Orderbench$Row", "howOften", "(I)I"⟩).before #[] vs_A = true := by decide +kernel
set_option maxRecDepth 16384 in
theorem vw_387 : (Cond.fieldLink "Orderbench$Row" 15 "Orderbench$Row" "many" "I").before #[] vs_A = true := by decide +kernel
set_option maxRecDepth 16384 in
theorem vw_388 : (Cond.instanceMethod ⟨"java/lang/StringBuilder", "setLength", "(I)V"⟩).before #[] vs_A = true := by decide +kernel
set_option maxRecDepth 16384 in
theorem vw_389 : (Cond.code ⟨"java/lang/StringBuilder", "setLength", "(I)V"⟩ prog_29_method_89_code 2 none).before #[] vs_A = true := by decide +kernel
set_option maxRecDepth 16384 in
theorem vw_390 : (Cond.methodLink "Orderbench" 159 ⟨"java/lang/StringBuilder", "setLength", "(I)V"⟩).before #[] vs_A = true := by decide +kernel
set_option maxRecDepth 16384 in
theorem vw_391 : (Cond.sameMethod "java/lang/StringBuilder" "java/lang/StringBuilder" "setLength" "(I)V").before #[] vs_A = true := by decide +kernel
set_option maxRecDepth 16384 in
theorem vw_392 : (Cond.selects "java/lang/StringBuilder" ⟨"java/lang/StringBuilder", "setLength", "(I)V"⟩ ⟨"java/lang/StringBuilder", "setLength", "(I)V"⟩).before #[] vs_A = true := by decide +kernel
set_option maxRecDepth 16384 in
theorem vw_393 : (Cond.instanceMethod ⟨"Orderbench", "writeRow", "(LOrderbench$Row;)V"⟩).before #[] vs_A = true := by decide +kernel
set_option maxRecDepth 16384 in
theorem vw_394 : (Cond.code ⟨"Orderbench", "writeRow", "(LOrderbench$Row;)V"⟩ prog_1_method_50_code 3 none).before #[] vs_A = true := by decide +kernel
set_option maxRecDepth 16384 in
theorem vw_395 : (Cond.methodLink "Orderbench" 185 ⟨"Orderbench", "writeRow", "(LOrderbench$Row;)V"⟩).before #[] vs_A = true := by decide +kernel
set_option maxRecDepth 16384 in
theorem vw_396 : (Cond.sameMethod "Orderbench" "Orderbench" "writeRow" "(LOrderbench$Row;)V").before #[] vs_A = true := by decide +kernel
set_option maxRecDepth 16384 in
theorem vw_397 : (Cond.selects "Orderbench" ⟨"Orderbench", "writeRow", "(LOrderbench$Row;)V"⟩ ⟨"Orderbench", "writeRow", "(LOrderbench$Row;)V"⟩).before #[] vs_A = true := by decide +kernel
set_option maxRecDepth 16384 in
theorem vw_398 : (Cond.instanceMethod ⟨"Orderbench", "digestSigns", "(J)J"⟩).before #[] vs_A = true := by decide +kernel
set_option maxRecDepth 16384 in
theorem vw_399 : (Cond.code ⟨"Orderbench", "digestSigns", "(J)J"⟩ prog_1_method_71_code 6 (some .long)).before #[] vs_A = true := by decide +kernel
set_option maxRecDepth 16384 in
theorem vw_400 : (Cond.methodLink "Orderbench" 312 ⟨"Orderbench", "digestSigns", "(J)J"⟩).before #[] vs_A = true := by decide +kernel
set_option maxRecDepth 16384 in
theorem vw_401 : (Cond.sameMethod "Orderbench" "Orderbench" "digestSigns" "(J)J").before #[] vs_A = true := by decide +kernel
set_option maxRecDepth 16384 in
theorem vw_402 : (Cond.selects "Orderbench" ⟨"Orderbench", "digestSigns", "(J)J"⟩ ⟨"Orderbench", "digestSigns", "(J)J"⟩).before #[] vs_A = true := by decide +kernel
set_option maxRecDepth 16384 in
theorem vw_403 : (Cond.methodLink "Orderbench" 188 ⟨"Orderbench", "liesSorted", "(LOrderbench$Row;LOrderbench$Shape;)Z"⟩).before #[] vs_A = true := by decide +kernel
set_option maxRecDepth 16384 in
theorem vw_404 : (Cond.static ⟨"Orderbench", "liesSorted", "(LOrderbench$Row;LOrderbench$Shape;)Z"⟩).before #[] vs_A = true := by decide +kernel
set_option maxRecDepth 16384 in
theorem vw_405 : (Cond.code ⟨"Orderbench", "liesSorted", "(LOrderbench$Row;LOrderbench$Shape;)Z"⟩ prog_1_method_59_code 2 (some .boolean)).before #[] vs_A = true := by decide +kernel
set_option maxRecDepth 16384 in
theorem vw_406 : (Cond.methodLink "Orderbench" 191 ⟨"Orderbench", "classesOf", "(LOrderbench$Row;LOrderbench$Shape;)I"⟩).before #[] vs_A = true := by decide +kernel
set_option maxRecDepth 16384 in
theorem vw_407 : (Cond.static ⟨"Orderbench", "classesOf", "(LOrderbench$Row;LOrderbench$Shape;)I"⟩).before #[] vs_A = true := by decide +kernel
set_option maxRecDepth 16384 in
theorem vw_408 : (Cond.code ⟨"Orderbench", "classesOf", "(LOrderbench$Row;LOrderbench$Shape;)I"⟩ prog_1_method_63_code 4 (some .int)).before #[] vs_A = true := by decide +kernel
set_option maxRecDepth 16384 in
theorem vw_409 : (Cond.methodLink "Orderbench" 195 ⟨"Orderbench", "alikeToFarthest", "(LOrderbench$Row;LOrderbench$Shape;I)I"⟩).before #[] vs_A = true := by decide +kernel
set_option maxRecDepth 16384 in
theorem vw_410 : (Cond.static ⟨"Orderbench", "alikeToFarthest", "(LOrderbench$Row;LOrderbench$Shape;I)I"⟩).before #[] vs_A = true := by decide +kernel
set_option maxRecDepth 16384 in
theorem vw_411 : (Cond.code ⟨"Orderbench", "alikeToFarthest", "(LOrderbench$Row;LOrderbench$Shape;I)I"⟩ prog_1_method_65_code 5 (some .int)).before #[] vs_A = true := by decide +kernel
set_option maxRecDepth 16384 in
theorem vw_412 : (Cond.instanceMethod ⟨"java/lang/AbstractStringBuilder", "setLength", "(I)V"⟩).before #[] vs_A = true := by decide +kernel
set_option maxRecDepth 16384 in
theorem vw_413 : (Cond.code ⟨"java/lang/AbstractStringBuilder", "setLength", "(I)V"⟩ prog_13_method_13_code 2 none).before #[] vs_A = true := by decide +kernel
set_option maxRecDepth 16384 in
theorem vw_414 : (Cond.methodLink "java/lang/StringBuilder" 333 ⟨"java/lang/AbstractStringBuilder", "setLength", "(I)V"⟩).before #[] vs_A = true := by decide +kernel
set_option maxRecDepth 16384 in
theorem vw_415 : (Cond.sameMethod "java/lang/AbstractStringBuilder" "java/lang/AbstractStringBuilder" "setLength" "(I)V").before #[] vs_A = true := by decide +kernel
set_option maxRecDepth 16384 in
theorem vw_416 : (Cond.fieldLink "java/lang/AbstractStringBuilder" 73 "java/lang/AbstractStringBuilder" "maybeLatin1" "Z").before #[] vs_A = true := by decide +kernel
set_option maxRecDepth 16384 in
theorem vw_417 : (Cond.methodLink "Orderbench" 307 ⟨"java/lang/StringBuilder", "length", "()I"⟩).before #[] vs_A = true := by decide +kernel
set_option maxRecDepth 16384 in
theorem vw_418 : (Cond.sameMethod "java/lang/StringBuilder" "java/lang/StringBuilder" "length" "()I").before #[] vs_A = true := by decide +kernel
set_option maxRecDepth 16384 in
theorem vw_419 : (Cond.selects "java/lang/StringBuilder" ⟨"java/lang/StringBuilder", "length", "()I"⟩ ⟨"java/lang/StringBuilder", "length", "()I"⟩).before #[] vs_A = true := by decide +kernel
set_option maxRecDepth 16384 in
theorem vw_420 : (Cond.instanceMethod ⟨"java/lang/StringBuilder", "charAt", "(I)C"⟩).before #[] vs_A = true := by decide +kernel
set_option maxRecDepth 16384 in
theorem vw_421 : (Cond.code ⟨"java/lang/StringBuilder", "charAt", "(I)C"⟩ prog_29_method_88_code 2 (some .char)).before #[] vs_A = true := by decide +kernel
set_option maxRecDepth 16384 in
theorem vw_422 : (Cond.methodLink "Orderbench" 308 ⟨"java/lang/StringBuilder", "charAt", "(I)C"⟩).before #[] vs_A = true := by decide +kernel
set_option maxRecDepth 16384 in
theorem vw_423 : (Cond.sameMethod "java/lang/StringBuilder" "java/lang/StringBuilder" "charAt" "(I)C").before #[] vs_A = true := by decide +kernel
set_option maxRecDepth 16384 in
theorem vw_424 : (Cond.selects "java/lang/StringBuilder" ⟨"java/lang/StringBuilder", "charAt", "(I)C"⟩ ⟨"java/lang/StringBuilder", "charAt", "(I)C"⟩).before #[] vs_A = true := by decide +kernel
set_option maxRecDepth 16384 in
theorem vw_425 : (Cond.methodLink "Orderbench" 104 ⟨"Orderbench", "takes", "(LOrderbench$Row;LOrderbench$Shape;)Z"⟩).before #[] vs_A = true := by decide +kernel
set_option maxRecDepth 16384 in
theorem vw_426 : (Cond.static ⟨"Orderbench", "takes", "(LOrderbench$Row;LOrderbench$Shape;)Z"⟩).before #[] vs_A = true := by decide +kernel
set_option maxRecDepth 16384 in
theorem vw_427 : (Cond.code ⟨"Orderbench", "takes", "(LOrderbench$Row;LOrderbench$Shape;)Z"⟩ prog_1_method_55_code 2 (some .boolean)).before #[] vs_A = true := by decide +kernel
set_option maxRecDepth 16384 in
theorem vw_428 : (Cond.methodLink "Orderbench" 290 ⟨"Orderbench", "isAscending", "(LOrderbench$Row;LOrderbench$Shape;)Z"⟩).before #[] vs_A = true := by decide +kernel
set_option maxRecDepth 16384 in
theorem vw_429 : (Cond.static ⟨"Orderbench", "isAscending", "(LOrderbench$Row;LOrderbench$Shape;)Z"⟩).before #[] vs_A = true := by decide +kernel
set_option maxRecDepth 16384 in
theorem vw_430 : (Cond.code ⟨"Orderbench", "isAscending", "(LOrderbench$Row;LOrderbench$Shape;)Z"⟩ prog_1_method_60_code 3 (some .boolean)).before #[] vs_A = true := by decide +kernel
set_option maxRecDepth 16384 in
theorem vw_431 : (Cond.methodLink "Orderbench" 212 ⟨"Orderbench", "takesEach", "(LOrderbench$Row;LOrderbench$Shape;)Z"⟩).before #[] vs_A = true := by decide +kernel
set_option maxRecDepth 16384 in
theorem vw_432 : (Cond.static ⟨"Orderbench", "takesEach", "(LOrderbench$Row;LOrderbench$Shape;)Z"⟩).before #[] vs_A = true := by decide +kernel
set_option maxRecDepth 16384 in
theorem vw_433 : (Cond.code ⟨"Orderbench", "takesEach", "(LOrderbench$Row;LOrderbench$Shape;)Z"⟩ prog_1_method_54_code 2 (some .boolean)).before #[] vs_A = true := by decide +kernel
set_option maxRecDepth 16384 in
theorem vw_434 : (Cond.instanceMethod ⟨"Orderbench$Turned", "write", "(Ljava/lang/StringBuilder;I)V"⟩).before #[] vs_A = true := by decide +kernel
set_option maxRecDepth 16384 in
theorem vw_435 : (Cond.code ⟨"Orderbench$Turned", "write", "(Ljava/lang/StringBuilder;I)V"⟩ prog_7_method_3_code 3 none).before #[] vs_A = true := by decide +kernel
set_option maxRecDepth 16384 in
theorem vw_436 : (Cond.methodLink "Orderbench" 162 ⟨"Orderbench$Shape", "write", "(Ljava/lang/StringBuilder;I)V"⟩).before #[] vs_A = true := by decide +kernel
set_option maxRecDepth 16384 in
theorem vw_437 : (Cond.sameMethod "Orderbench$Shape" "Orderbench$Shape" "write" "(Ljava/lang/StringBuilder;I)V").before #[] vs_A = true := by decide +kernel
set_option maxRecDepth 16384 in
theorem vw_438 : (Cond.selects "Orderbench$Turned" ⟨"Orderbench$Shape", "write", "(Ljava/lang/StringBuilder;I)V"⟩ ⟨"Orderbench$Turned", "write", "(Ljava/lang/StringBuilder;I)V"⟩).before #[] vs_A = true := by decide +kernel
set_option maxRecDepth 16384 in
theorem vw_439 : (Cond.methodLink "Orderbench$Turned" 27 ⟨"Orderbench$Shape", "write", "(Ljava/lang/StringBuilder;I)V"⟩).before #[] vs_A = true := by decide +kernel
set_option maxRecDepth 16384 in
theorem vw_440 : (Cond.instanceMethod ⟨"Orderbench$Base", "write", "(Ljava/lang/StringBuilder;I)V"⟩).before #[] vs_A = true := by decide +kernel
set_option maxRecDepth 16384 in
theorem vw_441 : (Cond.code ⟨"Orderbench$Base", "write", "(Ljava/lang/StringBuilder;I)V"⟩ prog_2_method_3_code 3 none).before #[] vs_A = true := by decide +kernel
set_option maxRecDepth 16384 in
theorem vw_442 : (Cond.selects "Orderbench$Base" ⟨"Orderbench$Shape", "write", "(Ljava/lang/StringBuilder;I)V"⟩ ⟨"Orderbench$Base", "write", "(Ljava/lang/StringBuilder;I)V"⟩).before #[] vs_A = true := by decide +kernel
set_option maxRecDepth 16384 in
theorem vw_443 : (Cond.methodLink "Orderbench$Turned" 31 ⟨"java/lang/StringBuilder", "append", "(C)Ljava/lang/StringBuilder;"⟩).before #[] vs_A = true := by decide +kernel
set_option maxRecDepth 16384 in
theorem vw_444 : (Cond.methodLink "Orderbench$Base" 25 ⟨"java/lang/String", "length", "()I"⟩).before #[] vs_A = true := by decide +kernel
set_option maxRecDepth 16384 in
theorem vw_445 : (Cond.instanceMethod ⟨"java/lang/String", "charAt", "(I)C"⟩).before #[] vs_A = true := by decide +kernel
set_option maxRecDepth 16384 in
theorem vw_446 : (Cond.code ⟨"java/lang/String", "charAt", "(I)C"⟩ prog_28_method_56_code 2 (some .char)).before #[] vs_A = true := by decide +kernel
set_option maxRecDepth 16384 in
theorem vw_447 : (Cond.methodLink "Orderbench$Base" 31 ⟨"java/lang/String", "charAt", "(I)C"⟩).before #[] vs_A = true := by decide +kernel
set_option maxRecDepth 16384 in
theorem vw_448 : (Cond.sameMethod "java/lang/String" "java/lang/String" "charAt" "(I)C").before #[] vs_A = true := by decide +kernel
set_option maxRecDepth 16384 in
theorem vw_449 : (Cond.selects "java/lang/String" ⟨"java/lang/String", "charAt", "(I)C"⟩ ⟨"java/lang/String", "charAt", "(I)C"⟩).before #[] vs_A = true := by decide +kernel
