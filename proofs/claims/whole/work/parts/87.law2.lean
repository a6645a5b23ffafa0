theorem tw_155 : (Jvm.Cond.classLink "CorpuslineLaw" (13 : Nat) "java/lang/IndexOutOfBoundsException") ∈ TB := tb_of 155 (by decide +kernel) rfl
theorem tw_156 : (Jvm.Cond.classLink "CorpuslineLaw" (15 : Nat) "java/lang/IllegalArgumentException") ∈ TB := tb_of 156 (by decide +kernel) rfl
theorem tw_157 : (Jvm.Cond.classLink "CorpuslineLaw" (17 : Nat) "java/lang/IllegalStateException") ∈ TB := tb_of 157 (by decide +kernel) rfl
theorem tw_158 : (Jvm.Cond.methodLink "CorpuslineLaw" (7 : Nat) ({ cls := "Corpusline", name := "token", desc := "(IIII)I" } : Jvm.MethodName)) ∈ TB := tb_of 158 (by decide +kernel) rfl
theorem tw_159 : (Jvm.Cond.instanceMethod ({ cls := "Corpusline", name := "token", desc := "(IIII)I" } : Jvm.MethodName)) ∈ TB := tb_of 159 (by decide +kernel) rfl
theorem tw_160 : (Jvm.Cond.selects "Corpusline" ({ cls := "Corpusline", name := "token", desc := "(IIII)I" } : Jvm.MethodName) ({ cls := "Corpusline", name := "token", desc := "(IIII)I" } : Jvm.MethodName)) ∈ TB := tb_of 160 (by decide +kernel) rfl
theorem tw_161 : (Jvm.Cond.code ({ cls := "Corpusline", name := "token", desc := "(IIII)I" } : Jvm.MethodName) prog_1_method_2_code (6 : Nat) (Option.some Jvm.ClassFile.FieldType.int)) ∈ TB := tb_of 161 (by decide +kernel) rfl
theorem tw_276 : (Jvm.Cond.methodLink "CorpuslineLaw" (19 : Nat) ({ cls := "Corpusline", name := "end", desc := "(IZ)I" } : Jvm.MethodName)) ∈ TB := tb_of 276 (by decide +kernel) rfl
theorem tw_277 : (Jvm.Cond.instanceMethod ({ cls := "Corpusline", name := "end", desc := "(IZ)I" } : Jvm.MethodName)) ∈ TB := tb_of 277 (by decide +kernel) rfl
theorem tw_278 : (Jvm.Cond.selects "Corpusline" ({ cls := "Corpusline", name := "end", desc := "(IZ)I" } : Jvm.MethodName) ({ cls := "Corpusline", name := "end", desc := "(IZ)I" } : Jvm.MethodName)) ∈ TB := tb_of 278 (by decide +kernel) rfl
theorem tw_279 : (Jvm.Cond.code ({ cls := "Corpusline", name := "end", desc := "(IZ)I" } : Jvm.MethodName) prog_1_method_3_code (4 : Nat) (Option.some Jvm.ClassFile.FieldType.int)) ∈ TB := tb_of 279 (by decide +kernel) rfl
theorem tw_284 : (Jvm.Cond.methodLink "CorpuslineLaw" (23 : Nat) ({ cls := "Corpusline", name := "align", desc := "(II)I" } : Jvm.MethodName)) ∈ TB := tb_of 284 (by decide +kernel) rfl
theorem tw_285 : (Jvm.Cond.instanceMethod ({ cls := "Corpusline", name := "align", desc := "(II)I" } : Jvm.MethodName)) ∈ TB := tb_of 285 (by decide +kernel) rfl
theorem tw_286 : (Jvm.Cond.selects "Corpusline" ({ cls := "Corpusline", name := "align", desc := "(II)I" } : Jvm.MethodName) ({ cls := "Corpusline", name := "align", desc := "(II)I" } : Jvm.MethodName)) ∈ TB := tb_of 286 (by decide +kernel) rfl
theorem tw_287 : (Jvm.Cond.code ({ cls := "Corpusline", name := "align", desc := "(II)I" } : Jvm.MethodName) prog_1_method_4_code (5 : Nat) (Option.some Jvm.ClassFile.FieldType.int)) ∈ TB := tb_of 287 (by decide +kernel) rfl
theorem tw_296 : (Jvm.Cond.methodLink "CorpuslineLaw" (27 : Nat) ({ cls := "Corpusline", name := "tokens", desc := "(I)I" } : Jvm.MethodName)) ∈ TB := tb_of 296 (by decide +kernel) rfl
theorem tw_297 : (Jvm.Cond.instanceMethod ({ cls := "Corpusline", name := "tokens", desc := "(I)I" } : Jvm.MethodName)) ∈ TB := tb_of 297 (by decide +kernel) rfl
theorem tw_298 : (Jvm.Cond.selects "Corpusline" ({ cls := "Corpusline", name := "tokens", desc := "(I)I" } : Jvm.MethodName) ({ cls := "Corpusline", name := "tokens", desc := "(I)I" } : Jvm.MethodName)) ∈ TB := tb_of 298 (by decide +kernel) rfl
theorem tw_299 : (Jvm.Cond.code ({ cls := "Corpusline", name := "tokens", desc := "(I)I" } : Jvm.MethodName) prog_1_method_5_code (2 : Nat) (Option.some Jvm.ClassFile.FieldType.int)) ∈ TB := tb_of 299 (by decide +kernel) rfl
theorem tw_303 : (Jvm.Cond.methodLink "CorpuslineLaw" (31 : Nat) ({ cls := "Corpusline", name := "sentenceOf", desc := "(II)I" } : Jvm.MethodName)) ∈ TB := tb_of 303 (by decide +kernel) rfl
theorem tw_304 : (Jvm.Cond.instanceMethod ({ cls := "Corpusline", name := "sentenceOf", desc := "(II)I" } : Jvm.MethodName)) ∈ TB := tb_of 304 (by decide +kernel) rfl
theorem tw_305 : (Jvm.Cond.selects "Corpusline" ({ cls := "Corpusline", name := "sentenceOf", desc := "(II)I" } : Jvm.MethodName) ({ cls := "Corpusline", name := "sentenceOf", desc := "(II)I" } : Jvm.MethodName)) ∈ TB := tb_of 305 (by decide +kernel) rfl
theorem tw_306 : (Jvm.Cond.code ({ cls := "Corpusline", name := "sentenceOf", desc := "(II)I" } : Jvm.MethodName) prog_1_method_6_code (4 : Nat) (Option.some Jvm.ClassFile.FieldType.int)) ∈ TB := tb_of 306 (by decide +kernel) rfl
theorem tw_311 : (Jvm.Cond.methodLink "CorpuslineLaw" (34 : Nat) ({ cls := "Corpusline", name := "occurs", desc := "(III)I" } : Jvm.MethodName)) ∈ TB := tb_of 311 (by decide +kernel) rfl
theorem tw_312 : (Jvm.Cond.instanceMethod ({ cls := "Corpusline", name := "occurs", desc := "(III)I" } : Jvm.MethodName)) ∈ TB := tb_of 312 (by decide +kernel) rfl
theorem tw_313 : (Jvm.Cond.selects "Corpusline" ({ cls := "Corpusline", name := "occurs", desc := "(III)I" } : Jvm.MethodName) ({ cls := "Corpusline", name := "occurs", desc := "(III)I" } : Jvm.MethodName)) ∈ TB := tb_of 313 (by decide +kernel) rfl
theorem tw_314 : (Jvm.Cond.code ({ cls := "Corpusline", name := "occurs", desc := "(III)I" } : Jvm.MethodName) prog_1_method_7_code (7 : Nat) (Option.some Jvm.ClassFile.FieldType.int)) ∈ TB := tb_of 314 (by decide +kernel) rfl
theorem tw_322 : (Jvm.Cond.methodLink "CorpuslineLaw" (38 : Nat) ({ cls := "Corpusline", name := "test", desc := "(IIZ)I" } : Jvm.MethodName)) ∈ TB := tb_of 322 (by decide +kernel) rfl
theorem tw_323 : (Jvm.Cond.instanceMethod ({ cls := "Corpusline", name := "test", desc := "(IIZ)I" } : Jvm.MethodName)) ∈ TB := tb_of 323 (by decide +kernel) rfl
theorem tw_324 : (Jvm.Cond.selects "Corpusline" ({ cls := "Corpusline", name := "test", desc := "(IIZ)I" } : Jvm.MethodName) ({ cls := "Corpusline", name := "test", desc := "(IIZ)I" } : Jvm.MethodName)) ∈ TB := tb_of 324 (by decide +kernel) rfl
theorem tw_325 : (Jvm.Cond.code ({ cls := "Corpusline", name := "test", desc := "(IIZ)I" } : Jvm.MethodName) prog_1_method_8_code (4 : Nat) (Option.some Jvm.ClassFile.FieldType.int)) ∈ TB := tb_of 325 (by decide +kernel) rfl
theorem tw_412 : (Jvm.Cond.methodLink "CorpuslineLaw" (42 : Nat) ({ cls := "Corpusline", name := "any", desc := "()I" } : Jvm.MethodName)) ∈ TB := tb_of 412 (by decide +kernel) rfl
theorem tw_413 : (Jvm.Cond.instanceMethod ({ cls := "Corpusline", name := "any", desc := "()I" } : Jvm.MethodName)) ∈ TB := tb_of 413 (by decide +kernel) rfl
theorem tw_414 : (Jvm.Cond.selects "Corpusline" ({ cls := "Corpusline", name := "any", desc := "()I" } : Jvm.MethodName) ({ cls := "Corpusline", name := "any", desc := "()I" } : Jvm.MethodName)) ∈ TB := tb_of 414 (by decide +kernel) rfl
theorem tw_415 : (Jvm.Cond.code ({ cls := "Corpusline", name := "any", desc := "()I" } : Jvm.MethodName) prog_1_method_9_code (1 : Nat) (Option.some Jvm.ClassFile.FieldType.int)) ∈ TB := tb_of 415 (by decide +kernel) rfl
theorem tw_420 : (Jvm.Cond.methodLink "CorpuslineLaw" (46 : Nat) ({ cls := "Corpusline", name := "same", desc := "(II)I" } : Jvm.MethodName)) ∈ TB := tb_of 420 (by decide +kernel) rfl
theorem tw_421 : (Jvm.Cond.instanceMethod ({ cls := "Corpusline", name := "same", desc := "(II)I" } : Jvm.MethodName)) ∈ TB := tb_of 421 (by decide +kernel) rfl
theorem tw_422 : (Jvm.Cond.selects "Corpusline" ({ cls := "Corpusline", name := "same", desc := "(II)I" } : Jvm.MethodName) ({ cls := "Corpusline", name := "same", desc := "(II)I" } : Jvm.MethodName)) ∈ TB := tb_of 422 (by decide +kernel) rfl
theorem tw_423 : (Jvm.Cond.code ({ cls := "Corpusline", name := "same", desc := "(II)I" } : Jvm.MethodName) prog_1_method_10_code (3 : Nat) (Option.some Jvm.ClassFile.FieldType.int)) ∈ TB := tb_of 423 (by decide +kernel) rfl
theorem tw_427 : (Jvm.Cond.methodLink "CorpuslineLaw" (49 : Nat) ({ cls := "Corpusline", name := "label", desc := "(I)V" } : Jvm.MethodName)) ∈ TB := tb_of 427 (by decide +kernel) rfl
theorem tw_428 : (Jvm.Cond.instanceMethod ({ cls := "Corpusline", name := "label", desc := "(I)V" } : Jvm.MethodName)) ∈ TB := tb_of 428 (by decide +kernel) rfl
theorem tw_429 : (Jvm.Cond.selects "Corpusline" ({ cls := "Corpusline", name := "label", desc := "(I)V" } : Jvm.MethodName) ({ cls := "Corpusline", name := "label", desc := "(I)V" } : Jvm.MethodName)) ∈ TB := tb_of 429 (by decide +kernel) rfl
theorem tw_430 : (Jvm.Cond.code ({ cls := "Corpusline", name := "label", desc := "(I)V" } : Jvm.MethodName) prog_1_method_11_code (3 : Nat) (Option.none : Option Jvm.ClassFile.FieldType)) ∈ TB := tb_of 430 (by decide +kernel) rfl
theorem tw_451 : (Jvm.Cond.methodLink "CorpuslineLaw" (53 : Nat) ({ cls := "Corpusline", name := "both", desc := "()I" } : Jvm.MethodName)) ∈ TB := tb_of 451 (by decide +kernel) rfl
theorem tw_452 : (Jvm.Cond.instanceMethod ({ cls := "Corpusline", name := "both", desc := "()I" } : Jvm.MethodName)) ∈ TB := tb_of 452 (by decide +kernel) rfl
theorem tw_453 : (Jvm.Cond.selects "Corpusline" ({ cls := "Corpusline", name := "both", desc := "()I" } : Jvm.MethodName) ({ cls := "Corpusline", name := "both", desc := "()I" } : Jvm.MethodName)) ∈ TB := tb_of 453 (by decide +kernel) rfl
theorem tw_454 : (Jvm.Cond.code ({ cls := "Corpusline", name := "both", desc := "()I" } : Jvm.MethodName) prog_1_method_12_code (3 : Nat) (Option.some Jvm.ClassFile.FieldType.int)) ∈ TB := tb_of 454 (by decide +kernel) rfl
theorem tw_459 : (Jvm.Cond.methodLink "CorpuslineLaw" (56 : Nat) ({ cls := "Corpusline", name := "chain", desc := "()I" } : Jvm.MethodName)) ∈ TB := tb_of 459 (by decide +kernel) rfl
theorem tw_460 : (Jvm.Cond.instanceMethod ({ cls := "Corpusline", name := "chain", desc := "()I" } : Jvm.MethodName)) ∈ TB := tb_of 460 (by decide +kernel) rfl
theorem tw_461 : (Jvm.Cond.selects "Corpusline" ({ cls := "Corpusline", name := "chain", desc := "()I" } : Jvm.MethodName) ({ cls := "Corpusline", name := "chain", desc := "()I" } : Jvm.MethodName)) ∈ TB := tb_of 461 (by decide +kernel) rfl
theorem tw_462 : (Jvm.Cond.code ({ cls := "Corpusline", name := "chain", desc := "()I" } : Jvm.MethodName) prog_1_method_13_code (3 : Nat) (Option.some Jvm.ClassFile.FieldType.int)) ∈ TB := tb_of 462 (by decide +kernel) rfl
theorem tw_476 : (Jvm.Cond.methodLink "CorpuslineLaw" (59 : Nat) ({ cls := "Corpusline", name := "either", desc := "()I" } : Jvm.MethodName)) ∈ TB := tb_of 476 (by decide +kernel) rfl
theorem tw_477 : (Jvm.Cond.instanceMethod ({ cls := "Corpusline", name := "either", desc := "()I" } : Jvm.MethodName)) ∈ TB := tb_of 477 (by decide +kernel) rfl
theorem tw_478 : (Jvm.Cond.selects "Corpusline" ({ cls := "Corpusline", name := "either", desc := "()I" } : Jvm.MethodName) ({ cls := "Corpusline", name := "either", desc := "()I" } : Jvm.MethodName)) ∈ TB := tb_of 478 (by decide +kernel) rfl
theorem tw_479 : (Jvm.Cond.code ({ cls := "Corpusline", name := "either", desc := "()I" } : Jvm.MethodName) prog_1_method_14_code (3 : Nat) (Option.some Jvm.ClassFile.FieldType.int)) ∈ TB := tb_of 479 (by decide +kernel) rfl
theorem tw_486 : (Jvm.Cond.methodLink "CorpuslineLaw" (62 : Nat) ({ cls := "Corpusline", name := "repeat", desc := "(II)I" } : Jvm.MethodName)) ∈ TB := tb_of 486 (by decide +kernel) rfl
theorem tw_487 : (Jvm.Cond.instanceMethod ({ cls := "Corpusline", name := "repeat", desc := "(II)I" } : Jvm.MethodName)) ∈ TB := tb_of 487 (by decide +kernel) rfl
theorem tw_488 : (Jvm.Cond.selects "Corpusline" ({ cls := "Corpusline", name := "repeat", desc := "(II)I" } : Jvm.MethodName) ({ cls := "Corpusline", name := "repeat", desc := "(II)I" } : Jvm.MethodName)) ∈ TB := tb_of 488 (by decide +kernel) rfl
theorem tw_489 : (Jvm.Cond.code ({ cls := "Corpusline", name := "repeat", desc := "(II)I" } : Jvm.MethodName) prog_1_method_15_code (5 : Nat) (Option.some Jvm.ClassFile.FieldType.int)) ∈ TB := tb_of 489 (by decide +kernel) rfl
theorem tw_501 : (Jvm.Cond.methodLink "CorpuslineLaw" (65 : Nat) ({ cls := "Corpusline", name := "keep", desc := "()I" } : Jvm.MethodName)) ∈ TB := tb_of 501 (by decide +kernel) rfl
theorem tw_502 : (Jvm.Cond.instanceMethod ({ cls := "Corpusline", name := "keep", desc := "()I" } : Jvm.MethodName)) ∈ TB := tb_of 502 (by decide +kernel) rfl
theorem tw_503 : (Jvm.Cond.selects "Corpusline" ({ cls := "Corpusline", name := "keep", desc := "()I" } : Jvm.MethodName) ({ cls := "Corpusline", name := "keep", desc := "()I" } : Jvm.MethodName)) ∈ TB := tb_of 503 (by decide +kernel) rfl
theorem tw_504 : (Jvm.Cond.code ({ cls := "Corpusline", name := "keep", desc := "()I" } : Jvm.MethodName) prog_1_method_16_code (2 : Nat) (Option.some Jvm.ClassFile.FieldType.int)) ∈ TB := tb_of 504 (by decide +kernel) rfl
theorem tw_509 : (Jvm.Cond.methodLink "CorpuslineLaw" (68 : Nat) ({ cls := "Corpusline", name := "run", desc := "(IIIIZ)I" } : Jvm.MethodName)) ∈ TB := tb_of 509 (by decide +kernel) rfl
theorem tw_510 : (Jvm.Cond.instanceMethod ({ cls := "Corpusline", name := "run", desc := "(IIIIZ)I" } : Jvm.MethodName)) ∈ TB := tb_of 510 (by decide +kernel) rfl
theorem tw_511 : (Jvm.Cond.selects "Corpusline" ({ cls := "Corpusline", name := "run", desc := "(IIIIZ)I" } : Jvm.MethodName) ({ cls := "Corpusline", name := "run", desc := "(IIIIZ)I" } : Jvm.MethodName)) ∈ TB := tb_of 511 (by decide +kernel) rfl
theorem tw_512 : (Jvm.Cond.code ({ cls := "Corpusline", name := "run", desc := "(IIIIZ)I" } : Jvm.MethodName) prog_1_method_18_code (11 : Nat) (Option.some Jvm.ClassFile.FieldType.int)) ∈ TB := tb_of 512 (by decide +kernel) rfl
theorem tw_568 : (Jvm.Cond.methodLink "CorpuslineLaw" (72 : Nat) ({ cls := "Corpusline", name := "walk", desc := "(IIIZ)I" } : Jvm.MethodName)) ∈ TB := tb_of 568 (by decide +kernel) rfl
theorem tw_569 : (Jvm.Cond.instanceMethod ({ cls := "Corpusline", name := "walk", desc := "(IIIZ)I" } : Jvm.MethodName)) ∈ TB := tb_of 569 (by decide +kernel) rfl
theorem tw_570 : (Jvm.Cond.selects "Corpusline" ({ cls := "Corpusline", name := "walk", desc := "(IIIZ)I" } : Jvm.MethodName) ({ cls := "Corpusline", name := "walk", desc := "(IIIZ)I" } : Jvm.MethodName)) ∈ TB := tb_of 570 (by decide +kernel) rfl
theorem tw_571 : (Jvm.Cond.code ({ cls := "Corpusline", name := "walk", desc := "(IIIZ)I" } : Jvm.MethodName) prog_1_method_19_code (11 : Nat) (Option.some Jvm.ClassFile.FieldType.int)) ∈ TB := tb_of 571 (by decide +kernel) rfl
theorem tw_575 : (Jvm.Cond.methodLink "CorpuslineLaw" (76 : Nat) ({ cls := "Corpusline", name := "join", desc := "(III)I" } : Jvm.MethodName)) ∈ TB := tb_of 575 (by decide +kernel) rfl
theorem tw_576 : (Jvm.Cond.instanceMethod ({ cls := "Corpusline", name := "join", desc := "(III)I" } : Jvm.MethodName)) ∈ TB := tb_of 576 (by decide +kernel) rfl
theorem tw_577 : (Jvm.Cond.selects "Corpusline" ({ cls := "Corpusline", name := "join", desc := "(III)I" } : Jvm.MethodName) ({ cls := "Corpusline", name := "join", desc := "(III)I" } : Jvm.MethodName)) ∈ TB := tb_of 577 (by decide +kernel) rfl
theorem tw_578 : (Jvm.Cond.code ({ cls := "Corpusline", name := "join", desc := "(III)I" } : Jvm.MethodName) prog_1_method_20_code (7 : Nat) (Option.some Jvm.ClassFile.FieldType.int)) ∈ TB := tb_of 578 (by decide +kernel) rfl
theorem tw_591 : (Jvm.Cond.methodLink "CorpuslineLaw" (79 : Nat) ({ cls := "Corpusline", name := "thin", desc := "(I)I" } : Jvm.MethodName)) ∈ TB := tb_of 591 (by decide +kernel) rfl
theorem tw_592 : (Jvm.Cond.instanceMethod ({ cls := "Corpusline", name := "thin", desc := "(I)I" } : Jvm.MethodName)) ∈ TB := tb_of 592 (by decide +kernel) rfl
theorem tw_593 : (Jvm.Cond.selects "Corpusline" ({ cls := "Corpusline", name := "thin", desc := "(I)I" } : Jvm.MethodName) ({ cls := "Corpusline", name := "thin", desc := "(I)I" } : Jvm.MethodName)) ∈ TB := tb_of 593 (by decide +kernel) rfl
theorem tw_594 : (Jvm.Cond.code ({ cls := "Corpusline", name := "thin", desc := "(I)I" } : Jvm.MethodName) prog_1_method_21_code (6 : Nat) (Option.some Jvm.ClassFile.FieldType.int)) ∈ TB := tb_of 594 (by decide +kernel) rfl
theorem tw_609 : (Jvm.Cond.methodLink "CorpuslineLaw" (82 : Nat) ({ cls := "Corpusline", name := "aligned", desc := "(IIZ)I" } : Jvm.MethodName)) ∈ TB := tb_of 609 (by decide +kernel) rfl
theorem tw_610 : (Jvm.Cond.instanceMethod ({ cls := "Corpusline", name := "aligned", desc := "(IIZ)I" } : Jvm.MethodName)) ∈ TB := tb_of 610 (by decide +kernel) rfl
theorem tw_611 : (Jvm.Cond.selects "Corpusline" ({ cls := "Corpusline", name := "aligned", desc := "(IIZ)I" } : Jvm.MethodName) ({ cls := "Corpusline", name := "aligned", desc := "(IIZ)I" } : Jvm.MethodName)) ∈ TB := tb_of 611 (by decide +kernel) rfl
theorem tw_612 : (Jvm.Cond.code ({ cls := "Corpusline", name := "aligned", desc := "(IIZ)I" } : Jvm.MethodName) prog_1_method_22_code (11 : Nat) (Option.some Jvm.ClassFile.FieldType.int)) ∈ TB := tb_of 612 (by decide +kernel) rfl
theorem tw_620 : (Jvm.Cond.methodLink "CorpuslineLaw" (85 : Nat) ({ cls := "Corpusline", name := "drop", desc := "(I)I" } : Jvm.MethodName)) ∈ TB := tb_of 620 (by decide +kernel) rfl
theorem tw_621 : (Jvm.Cond.instanceMethod ({ cls := "Corpusline", name := "drop", desc := "(I)I" } : Jvm.MethodName)) ∈ TB := tb_of 621 (by decide +kernel) rfl
theorem tw_622 : (Jvm.Cond.selects "Corpusline" ({ cls := "Corpusline", name := "drop", desc := "(I)I" } : Jvm.MethodName) ({ cls := "Corpusline", name := "drop", desc := "(I)I" } : Jvm.MethodName)) ∈ TB := tb_of 622 (by decide +kernel) rfl
theorem tw_623 : (Jvm.Cond.code ({ cls := "Corpusline", name := "drop", desc := "(I)I" } : Jvm.MethodName) prog_1_method_23_code (3 : Nat) (Option.some Jvm.ClassFile.FieldType.int)) ∈ TB := tb_of 623 (by decide +kernel) rfl
theorem tw_627 : (Jvm.Cond.methodLink "CorpuslineLaw" (88 : Nat) ({ cls := "Corpusline", name := "match", desc := "(II)I" } : Jvm.MethodName)) ∈ TB := tb_of 627 (by decide +kernel) rfl
theorem tw_628 : (Jvm.Cond.instanceMethod ({ cls := "Corpusline", name := "match", desc := "(II)I" } : Jvm.MethodName)) ∈ TB := tb_of 628 (by decide +kernel) rfl
theorem tw_629 : (Jvm.Cond.selects "Corpusline" ({ cls := "Corpusline", name := "match", desc := "(II)I" } : Jvm.MethodName) ({ cls := "Corpusline", name := "match", desc := "(II)I" } : Jvm.MethodName)) ∈ TB := tb_of 629 (by decide +kernel) rfl
theorem tw_630 : (Jvm.Cond.code ({ cls := "Corpusline", name := "match", desc := "(II)I" } : Jvm.MethodName) prog_1_method_25_code (7 : Nat) (Option.some Jvm.ClassFile.FieldType.int)) ∈ TB := tb_of 630 (by decide +kernel) rfl
theorem tw_635 : (Jvm.Cond.methodLink "CorpuslineLaw" (91 : Nat) ({ cls := "Corpusline", name := "groups", desc := "(IIZ)I" } : Jvm.MethodName)) ∈ TB := tb_of 635 (by decide +kernel) rfl
theorem tw_636 : (Jvm.Cond.instanceMethod ({ cls := "Corpusline", name := "groups", desc := "(IIZ)I" } : Jvm.MethodName)) ∈ TB := tb_of 636 (by decide +kernel) rfl
theorem tw_637 : (Jvm.Cond.selects "Corpusline" ({ cls := "Corpusline", name := "groups", desc := "(IIZ)I" } : Jvm.MethodName) ({ cls := "Corpusline", name := "groups", desc := "(IIZ)I" } : Jvm.MethodName)) ∈ TB := tb_of 637 (by decide +kernel) rfl
theorem tw_638 : (Jvm.Cond.code ({ cls := "Corpusline", name := "groups", desc := "(IIZ)I" } : Jvm.MethodName) prog_1_method_26_code (7 : Nat) (Option.some Jvm.ClassFile.FieldType.int)) ∈ TB := tb_of 638 (by decide +kernel) rfl
theorem tw_646 : (Jvm.Cond.methodLink "CorpuslineLaw" (94 : Nat) ({ cls := "Corpusline", name := "groupAt", desc := "(IIZI)I" } : Jvm.MethodName)) ∈ TB := tb_of 646 (by decide +kernel) rfl
theorem tw_647 : (Jvm.Cond.instanceMethod ({ cls := "Corpusline", name := "groupAt", desc := "(IIZI)I" } : Jvm.MethodName)) ∈ TB := tb_of 647 (by decide +kernel) rfl
theorem tw_648 : (Jvm.Cond.selects "Corpusline" ({ cls := "Corpusline", name := "groupAt", desc := "(IIZI)I" } : Jvm.MethodName) ({ cls := "Corpusline", name := "groupAt", desc := "(IIZI)I" } : Jvm.MethodName)) ∈ TB := tb_of 648 (by decide +kernel) rfl
theorem tw_649 : (Jvm.Cond.code ({ cls := "Corpusline", name := "groupAt", desc := "(IIZI)I" } : Jvm.MethodName) prog_1_method_27_code (7 : Nat) (Option.some Jvm.ClassFile.FieldType.int)) ∈ TB := tb_of 649 (by decide +kernel) rfl
theorem ok_RL_7 : okV RL 7 yX6_token cX6_token 6 (Option.some Jvm.ClassFile.FieldType.int) 4 := ⟨tw_158, tw_159, tw_160, tw_1, tw_161, ⟨by decide, by decide, by decide +kernel⟩⟩
theorem ok_RL_19 : okV RL 19 yX6_end cX6_end 4 (Option.some Jvm.ClassFile.FieldType.int) 2 := ⟨tw_276, tw_277, tw_278, tw_1, tw_279, ⟨by decide, by decide, by decide +kernel⟩⟩
theorem ok_RL_23 : okV RL 23 yX6_align cX6_align 5 (Option.some Jvm.ClassFile.FieldType.int) 2 := ⟨tw_284, tw_285, tw_286, tw_1, tw_287, ⟨by decide, by decide, by decide +kernel⟩⟩
theorem ok_RL_27 : okV RL 27 yX6_tokens cX6_tokens 2 (Option.some Jvm.ClassFile.FieldType.int) 1 := ⟨tw_296, tw_297, tw_298, tw_1, tw_299, ⟨by decide, by decide, by decide +kernel⟩⟩
theorem ok_RL_31 : okV RL 31 yX6_sentenceOf cX6_sentenceOf 4 (Option.some Jvm.ClassFile.FieldType.int) 2 := ⟨tw_303, tw_304, tw_305, tw_1, tw_306, ⟨by decide, by decide, by decide +kernel⟩⟩
theorem ok_RL_34 : okV RL 34 yX6_occurs cX6_occurs 7 (Option.some Jvm.ClassFile.FieldType.int) 3 := ⟨tw_311, tw_312, tw_313, tw_1, tw_314, ⟨by decide, by decide, by decide +kernel⟩⟩
theorem ok_RL_38 : okV RL 38 yX6_test cX6_test 4 (Option.some Jvm.ClassFile.FieldType.int) 3 := ⟨tw_322, tw_323, tw_324, tw_1, tw_325, ⟨by decide, by decide, by decide +kernel⟩⟩
theorem ok_RL_42 : okV RL 42 yX6_any cX6_any 1 (Option.some Jvm.ClassFile.FieldType.int) 0 := ⟨tw_412, tw_413, tw_414, tw_1, tw_415, ⟨by decide, by decide, by decide +kernel⟩⟩
theorem ok_RL_46 : okV RL 46 yX6_same cX6_same 3 (Option.some Jvm.ClassFile.FieldType.int) 2 := ⟨tw_420, tw_421, tw_422, tw_1, tw_423, ⟨by decide, by decide, by decide +kernel⟩⟩
theorem ok_RL_49 : okV RL 49 yX6_label cX6_label 3 (Option.none : Option Jvm.ClassFile.FieldType) 1 := ⟨tw_427, tw_428, tw_429, tw_1, tw_430, ⟨by decide, by decide, by decide +kernel⟩⟩
theorem ok_RL_53 : okV RL 53 yX6_both cX6_both 3 (Option.some Jvm.ClassFile.FieldType.int) 0 := ⟨tw_451, tw_452, tw_453, tw_1, tw_454, ⟨by decide, by decide, by decide +kernel⟩⟩
theorem ok_RL_56 : okV RL 56 yX6_chain cX6_chain 3 (Option.some Jvm.ClassFile.FieldType.int) 0 := ⟨tw_459, tw_460, tw_461, tw_1, tw_462, ⟨by decide, by decide, by decide +kernel⟩⟩
theorem ok_RL_59 : okV RL 59 yX6_either cX6_either 3 (Option.some Jvm.ClassFile.FieldType.int) 0 := ⟨tw_476, tw_477, tw_478, tw_1, tw_479, ⟨by decide, by decide, by decide +kernel⟩⟩
theorem ok_RL_62 : okV RL 62 yX6_repeat cX6_repeat 5 (Option.some Jvm.ClassFile.FieldType.int) 2 := ⟨tw_486, tw_487, tw_488, tw_1, tw_489, ⟨by decide, by decide, by decide +kernel⟩⟩
theorem ok_RL_65 : okV RL 65 yX6_keep cX6_keep 2 (Option.some Jvm.ClassFile.FieldType.int) 0 := ⟨tw_501, tw_502, tw_503, tw_1, tw_504, ⟨by decide, by decide, by decide +kernel⟩⟩
theorem ok_RL_68 : okV RL 68 yX6_run cX6_run 11 (Option.some Jvm.ClassFile.FieldType.int) 5 := ⟨tw_509, tw_510, tw_511, tw_1, tw_512, ⟨by decide, by decide, by decide +kernel⟩⟩
theorem ok_RL_72 : okV RL 72 yX6_walk cX6_walk 11 (Option.some Jvm.ClassFile.FieldType.int) 4 := ⟨tw_568, tw_569, tw_570, tw_1, tw_571, ⟨by decide, by decide, by decide +kernel⟩⟩
theorem ok_RL_76 : okV RL 76 yX6_join cX6_join 7 (Option.some Jvm.ClassFile.FieldType.int) 3 := ⟨tw_575, tw_576, tw_577, tw_1, tw_578, ⟨by decide, by decide, by decide +kernel⟩⟩
theorem ok_RL_79 : okV RL 79 yX6_thin cX6_thin 6 (Option.some Jvm.ClassFile.FieldType.int) 1 := ⟨tw_591, tw_592, tw_593, tw_1, tw_594, ⟨by decide, by decide, by decide +kernel⟩⟩
theorem ok_RL_82 : okV RL 82 yX6_aligned cX6_aligned 11 (Option.some Jvm.ClassFile.FieldType.int) 3 := ⟨tw_609, tw_610, tw_611, tw_1, tw_612, ⟨by decide, by decide, by decide +kernel⟩⟩
theorem ok_RL_85 : okV RL 85 yX6_drop cX6_drop 3 (Option.some Jvm.ClassFile.FieldType.int) 1 := ⟨tw_620, tw_621, tw_622, tw_1, tw_623, ⟨by decide, by decide, by decide +kernel⟩⟩
theorem ok_RL_88 : okV RL 88 yX6_match cX6_match 7 (Option.some Jvm.ClassFile.FieldType.int) 2 := ⟨tw_627, tw_628, tw_629, tw_1, tw_630, ⟨by decide, by decide, by decide +kernel⟩⟩
theorem ok_RL_91 : okV RL 91 yX6_groups cX6_groups 7 (Option.some Jvm.ClassFile.FieldType.int) 3 := ⟨tw_635, tw_636, tw_637, tw_1, tw_638, ⟨by decide, by decide, by decide +kernel⟩⟩
theorem ok_RL_94 : okV RL 94 yX6_groupAt cX6_groupAt 7 (Option.some Jvm.ClassFile.FieldType.int) 4 := ⟨tw_646, tw_647, tw_648, tw_1, tw_649, ⟨by decide, by decide, by decide +kernel⟩⟩
theorem cxL_eq {l l' : Launch} {x : CX} (a : cxL l x) (b : cxL l' x) : l' = l := by
  obtain ⟨p, l0, e, R, s, m, args, below, meth, c, Q, n⟩ := x
  exact (show l0 = l' from b).symm.trans (show l0 = l from a)
theorem MH.ofL {l : Launch} {G : eG} {y : MethodName} {b : ByteArray} {nL : Nat} {ret : Option FieldType} {hd : List (Nat × Nat × Nat × Nat)} {rm : Room} {av : List Value} {h : hp} {post : Option Value → hp → Prop} (hy : plainName y.cls = true) (hlen : (lg_sl av).length ≤ nL)
    (body : ∀ x, cxL l x → cxOk G y.cls b rm nL x → cxR G post rm.cells rm.slots x → cxT ret x → cxH hd x → VV G x 0 0 h 0 (lv_args 0 av) []) : MH l G y b nL ret hd rm av h post := by
  refine vx_ofWH (cc := b) (maxL := nL) (ret := ret) (hh := hd) hy rfl ?_
  intro p e s m args below meth c s₁ B hml hv
  obtain ⟨rfl, hH0, hK0, hZ0⟩ := hv
  have hts := atoms_spec (ws := wsh y b nL ret hd) B.pre
  have hown : s.vm.findClass y.cls = some m.cls := findClass_of_methodNamed B.named
  have htab := vx_table (x := y) B (hts (.codeWith y b nL ret hd) List.mem_cons_self)
  rw [lg_entry_eq]
  exact body (p, l, e, _, s, m, av.toArray, below, meth, c, _, nL) rfl ⟨B.exec, B.bytes, hml, hown, fun w hw => hts w (List.mem_cons_of_mem _ hw), hK0, hZ0, B.notSynchronized, rfl, rfl, hH0.1⟩ (fun H locs g k => vx_ret k) B.returns htab s.heap [] _ hH0 va_S.rf (lv_entry av hlen)
theorem lnk.HL {G : eG} {ad : Nat → Nat → Nat} {h : hp} {g : mS} {T : Nat → tC3} {X Y : Nat → pA} (k : lnk G ad h g T X Y) : ∀ i, i < mK g 16 → (X i).2.2.1 < 2 ^ (X i).1 := fun i hi => (k.1 i hi).2.2.2.2.1.2.1.2.1
theorem stpO.of {G : eG} {ad : Nat → Nat → Nat} {h9 : hp} {S' g9 : mS} {Y : Nat → pA} (k : shr S' g9 ∧ AI (mrg S' g9) ∧ ∃ T' X', lnk G ad h9 (mrg S' g9) T' X' Y) : stpO G ad h9 S' g9 := by
  obtain ⟨a, b, T, X, c⟩ := k
  exact ⟨a, b, T, X, Y, c⟩
def dl_L_token : List (Nat × Instr × Nat) := [(0, .aload 5, 2), (2, .iconst 0, 1), (3, .aload_n 0, 1), (4, .iload_n 1, 1), (5, .iload_n 2, 1), (6, .iload_n 3, 1), (7, .iload 4, 2), (9, .invokevirtual 7, 3), (12, .i2l, 1), (13, .lastore, 1), (14, .goto 15, 3), (17, .astore 6, 2), (19, .iconst 1, 1), (20, .ireturn, 1), (21, .astore 6, 2), (23, .iconst 2, 1), (24, .ireturn, 1), (25, .astore 6, 2), (27, .iconst 3, 1), (28, .ireturn, 1), (29, .iconst 0, 1), (30, .ireturn, 1)]
theorem dc_L_token : dnL cL_token dl_L_token = true := by decide +kernel
theorem d_L_token_0 : dn cL_token 0 (.aload 5) 2 2 := dnAt dc_L_token 0 rfl rfl
theorem d_L_token_2 : dn cL_token 2 (.iconst 0) 1 3 := dnAt dc_L_token 1 rfl rfl
theorem d_L_token_3 : dn cL_token 3 (.aload_n 0) 1 4 := dnAt dc_L_token 2 rfl rfl
theorem d_L_token_4 : dn cL_token 4 (.iload_n 1) 1 5 := dnAt dc_L_token 3 rfl rfl
theorem d_L_token_5 : dn cL_token 5 (.iload_n 2) 1 6 := dnAt dc_L_token 4 rfl rfl
theorem d_L_token_6 : dn cL_token 6 (.iload_n 3) 1 7 := dnAt dc_L_token 5 rfl rfl
theorem d_L_token_7 : dn cL_token 7 (.iload 4) 2 9 := dnAt dc_L_token 6 rfl rfl
theorem d_L_token_9 : dn cL_token 9 (.invokevirtual 7) 3 12 := dnAt dc_L_token 7 rfl rfl
theorem d_L_token_12 : dn cL_token 12 (.i2l) 1 13 := dnAt dc_L_token 8 rfl rfl
theorem d_L_token_13 : dn cL_token 13 (.lastore) 1 14 := dnAt dc_L_token 9 rfl rfl
theorem d_L_token_14 : dn cL_token 14 (.goto 15) 3 17 := dnAt dc_L_token 10 rfl rfl
theorem d_L_token_17 : dn cL_token 17 (.astore 6) 2 19 := dnAt dc_L_token 11 rfl rfl
theorem d_L_token_19 : dn cL_token 19 (.iconst 1) 1 20 := dnAt dc_L_token 12 rfl rfl
theorem d_L_token_20 : dn cL_token 20 (.ireturn) 1 21 := dnAt dc_L_token 13 rfl rfl
theorem d_L_token_21 : dn cL_token 21 (.astore 6) 2 23 := dnAt dc_L_token 14 rfl rfl
theorem d_L_token_23 : dn cL_token 23 (.iconst 2) 1 24 := dnAt dc_L_token 15 rfl rfl
theorem d_L_token_24 : dn cL_token 24 (.ireturn) 1 25 := dnAt dc_L_token 16 rfl rfl
theorem d_L_token_25 : dn cL_token 25 (.astore 6) 2 27 := dnAt dc_L_token 17 rfl rfl
theorem d_L_token_27 : dn cL_token 27 (.iconst 3) 1 28 := dnAt dc_L_token 18 rfl rfl
theorem d_L_token_28 : dn cL_token 28 (.ireturn) 1 29 := dnAt dc_L_token 19 rfl rfl
theorem d_L_token_29 : dn cL_token 29 (.iconst 0) 1 30 := dnAt dc_L_token 20 rfl rfl
theorem d_L_token_30 : dn cL_token 30 (.ireturn) 1 31 := dnAt dc_L_token 21 rfl rfl
set_option maxHeartbeats 4000000 in
set_option maxRecDepth 100000 in
theorem lwx_token {l : Launch} {G : eG} {ad : Nat → Nat → Nat} {q : Nat → Nat} {o : Nat} {h : hp} {g : mS} {z1 : Int32} {z2 : Int32} {z3 : Int32} {z4 : Int32} (hlf : l.stackTraces = false) (s : lst ad q o) (w : lwo G ad q o g h) : MH l G yL_token cL_token 7 (Option.some Jvm.ClassFile.FieldType.int) [((0 : Nat), (14 : Nat), (17 : Nat), (13 : Nat)), ((0 : Nat), (14 : Nat), (21 : Nat), (15 : Nat)), ((0 : Nat), (14 : Nat), (25 : Nat), (17 : Nat))] { frames := 8, cells := 5, slots := 30, locals := 137 } [.ref (ad 0 0), .int z1, .int z2, .int z3, .int z4, .ref o] h (lres G ad q o g (fun v9 T9 => v9 = (some (.int (nI (rToken g z1 z2 z3 z4)))) ∧ T9 = tToken g z1 z2 z3 z4)) := by
  obtain ⟨⟨f, w1⟩, A, T, X, Y, k⟩ := w
  refine MH.ofL (by decide) (Nat.le_of_ble_eq_true rfl) ?_
  intro x LX C AA TY XH
  show VV G x 0 0 h 0 [(0, .ref (ad 0 0)), (1, .int z1), (2, .int z2), (3, .int z3), (4, .int z4), (5, .ref o)] []
  refine r_aload C d_L_token_0 5 rfl ?_
  refine r_iconst C d_L_token_2 (v := nI 0) rfl ?_
  refine r_aload_n C d_L_token_3 0 rfl ?_
  refine r_iload_n C d_L_token_4 1 rfl ?_
  refine r_iload_n C d_L_token_5 2 rfl ?_
  refine r_iload_n C d_L_token_6 3 rfl ?_
  refine r_iload C d_L_token_7 4 rfl ?_
  refine r_callVH (As := [.int z1, .int z2, .int z3, .int z4]) C XH (fun l2 e2 => by rw [cxL_eq LX e2]; exact hlf) d_L_token_9 ok_RL_7 (fun l hlf => k_token hlf w1.1 A.1) (w1.1.1 0 0 rfl) rfl rfl rfl (rest := [.int (nI 0), .ref o]) rfl (Nat.le_of_ble_eq_true rfl) ⟨⟨by decide, by decide⟩, Nat.le_of_ble_eq_true rfl, Nat.le_of_ble_eq_true rfl⟩ (fun E9 h1 e9 => ?_) (fun v9 h1 e9 => ?_)
  · obtain ⟨g9, ⟨hx, hs⟩, hm1, hF⟩ := e9
    rcases hx with ⟨rfl, e9⟩ | ⟨rfl, e9⟩ | ⟨rfl, e9⟩
    · refine ⟨17, ⟨[], ⟨0, 14, 17, 13⟩, [⟨0, 14, 21, 15⟩, ⟨0, 14, 25, 17⟩], rfl, fun _ h => absurd h List.not_mem_nil, rfl, by decide, tw_155, by decide, rfl⟩, fun z => ?_⟩
      refine r_astore C d_L_token_17 (lv' := [(6, .ref z), (0, .ref (ad 0 0)), (1, .int z1), (2, .int z2), (3, .int z3), (4, .int z4), (5, .ref o)]) (by decide) rfl ?_
      refine r_iconst C d_L_token_19 (v := nI 1) rfl ?_
      have hT : tToken g z1 z2 z3 z4 = uK g 0 1 := by
        unfold tToken; rw [if_neg (by rw [e9]; decide)]
        rw [e9]
      subst hs
      exact r_iret C AA TY d_L_token_20 rfl (Nat.le_of_ble_eq_true rfl) (Nat.le_of_ble_eq_true rfl) (lw_no s w1 hm1 hF (by decide) (fun v9 T9 ⟨p, q9⟩ => by rw [q9, hT]; exact ⟨rfl, step_K A k hF⟩))
    · refine ⟨21, ⟨[⟨0, 14, 17, 13⟩], ⟨0, 14, 21, 15⟩, [⟨0, 14, 25, 17⟩], rfl, List.forall_mem_cons.mpr ⟨⟨by decide, _, tw_155, by decide, by decide⟩, fun _ h => absurd h List.not_mem_nil⟩, rfl, by decide, tw_156, by decide, rfl⟩, fun z => ?_⟩
      refine r_astore C d_L_token_21 (lv' := [(6, .ref z), (0, .ref (ad 0 0)), (1, .int z1), (2, .int z2), (3, .int z3), (4, .int z4), (5, .ref o)]) (by decide) rfl ?_
      refine r_iconst C d_L_token_23 (v := nI 2) rfl ?_
      have hT : tToken g z1 z2 z3 z4 = uK g 0 2 := by
        unfold tToken; rw [if_neg (by rw [e9]; decide)]
        rw [e9]
      subst hs
      exact r_iret C AA TY d_L_token_24 rfl (Nat.le_of_ble_eq_true rfl) (Nat.le_of_ble_eq_true rfl) (lw_no s w1 hm1 hF (by decide) (fun v9 T9 ⟨p, q9⟩ => by rw [q9, hT]; exact ⟨rfl, step_K A k hF⟩))
    · refine ⟨25, ⟨[⟨0, 14, 17, 13⟩, ⟨0, 14, 21, 15⟩], ⟨0, 14, 25, 17⟩, [], rfl, List.forall_mem_cons.mpr ⟨⟨by decide, _, tw_155, by decide, by decide⟩, List.forall_mem_cons.mpr ⟨⟨by decide, _, tw_156, by decide, by decide⟩, fun _ h => absurd h List.not_mem_nil⟩⟩, rfl, by decide, tw_157, by decide, rfl⟩, fun z => ?_⟩
      refine r_astore C d_L_token_25 (lv' := [(6, .ref z), (0, .ref (ad 0 0)), (1, .int z1), (2, .int z2), (3, .int z3), (4, .int z4), (5, .ref o)]) (by decide) rfl ?_
      refine r_iconst C d_L_token_27 (v := nI 3) rfl ?_
      have hT : tToken g z1 z2 z3 z4 = uK g 0 3 := by
        unfold tToken; rw [if_neg (by rw [e9]; decide)]
        rw [e9]
      subst hs
      exact r_iret C AA TY d_L_token_28 rfl (Nat.le_of_ble_eq_true rfl) (Nat.le_of_ble_eq_true rfl) (lw_no s w1 hm1 hF (by decide) (fun v9 T9 ⟨p, q9⟩ => by rw [q9, hT]; exact ⟨rfl, step_K A k hF⟩))
  · obtain ⟨g9, ⟨rfl, rfl, c0⟩, hm1, hF⟩ := e9
    refine r_i2l C d_L_token_12 ?_
    refine r_last (f := f) C d_L_token_13 (hF _ _ s.1 w1.2.2) (i := 0) (by decide) (by decide) ?_
    refine r_goto C d_L_token_14 (tgt := 29) rfl ?_
    refine r_iconst C d_L_token_29 (v := nI 0) rfl ?_
    exact r_iret C AA TY d_L_token_30 rfl (Nat.le_of_ble_eq_true rfl) (Nat.le_of_ble_eq_true rfl) (lw_ok s w1 hm1 hF (fun v9 T9 ⟨p, q9⟩ => ⟨(by rw [q9]; show mK (tToken g z1 z2 z3 z4) 0 = 0; unfold tToken; rw [if_pos c0]; first | rfl | (split <;> rfl)), p, by rw [q9]; exact step_token A k hF c0⟩))
def dl_L_end : List (Nat × Instr × Nat) := [(0, .aload_n 3, 1), (1, .iconst 0, 1), (2, .aload_n 0, 1), (3, .iload_n 1, 1), (4, .iload_n 2, 1), (5, .invokevirtual 19, 3), (8, .i2l, 1), (9, .lastore, 1), (10, .goto 11, 3), (13, .astore 4, 2), (15, .iconst 1, 1), (16, .ireturn, 1), (17, .astore 4, 2), (19, .iconst 2, 1), (20, .ireturn, 1), (21, .iconst 0, 1), (22, .ireturn, 1)]
theorem dc_L_end : dnL cL_end dl_L_end = true := by decide +kernel
theorem d_L_end_0 : dn cL_end 0 (.aload_n 3) 1 1 := dnAt dc_L_end 0 rfl rfl
theorem d_L_end_1 : dn cL_end 1 (.iconst 0) 1 2 := dnAt dc_L_end 1 rfl rfl
theorem d_L_end_2 : dn cL_end 2 (.aload_n 0) 1 3 := dnAt dc_L_end 2 rfl rfl
theorem d_L_end_3 : dn cL_end 3 (.iload_n 1) 1 4 := dnAt dc_L_end 3 rfl rfl
theorem d_L_end_4 : dn cL_end 4 (.iload_n 2) 1 5 := dnAt dc_L_end 4 rfl rfl
theorem d_L_end_5 : dn cL_end 5 (.invokevirtual 19) 3 8 := dnAt dc_L_end 5 rfl rfl
theorem d_L_end_8 : dn cL_end 8 (.i2l) 1 9 := dnAt dc_L_end 6 rfl rfl
theorem d_L_end_9 : dn cL_end 9 (.lastore) 1 10 := dnAt dc_L_end 7 rfl rfl
theorem d_L_end_10 : dn cL_end 10 (.goto 11) 3 13 := dnAt dc_L_end 8 rfl rfl
theorem d_L_end_13 : dn cL_end 13 (.astore 4) 2 15 := dnAt dc_L_end 9 rfl rfl
theorem d_L_end_15 : dn cL_end 15 (.iconst 1) 1 16 := dnAt dc_L_end 10 rfl rfl
theorem d_L_end_16 : dn cL_end 16 (.ireturn) 1 17 := dnAt dc_L_end 11 rfl rfl
theorem d_L_end_17 : dn cL_end 17 (.astore 4) 2 19 := dnAt dc_L_end 12 rfl rfl
theorem d_L_end_19 : dn cL_end 19 (.iconst 2) 1 20 := dnAt dc_L_end 13 rfl rfl
theorem d_L_end_20 : dn cL_end 20 (.ireturn) 1 21 := dnAt dc_L_end 14 rfl rfl
theorem d_L_end_21 : dn cL_end 21 (.iconst 0) 1 22 := dnAt dc_L_end 15 rfl rfl
theorem d_L_end_22 : dn cL_end 22 (.ireturn) 1 23 := dnAt dc_L_end 16 rfl rfl
set_option maxHeartbeats 4000000 in
set_option maxRecDepth 100000 in
theorem lwx_end {l : Launch} {G : eG} {ad : Nat → Nat → Nat} {q : Nat → Nat} {o : Nat} {h : hp} {g : mS} {z1 : Int32} {z2 : Bool} (hlf : l.stackTraces = false) (s : lst ad q o) (w : lwo G ad q o g h) : MH l G yL_end cL_end 5 (Option.some Jvm.ClassFile.FieldType.int) [((0 : Nat), (10 : Nat), (13 : Nat), (13 : Nat)), ((0 : Nat), (10 : Nat), (17 : Nat), (17 : Nat))] { frames := 8, cells := 2, slots := 12, locals := 134 } [.ref (ad 0 0), .int z1, .int (bI z2), .ref o] h (lres G ad q o g (fun v9 T9 => v9 = (some (.int (nI (rEnd g z1)))) ∧ T9 = tEnd g z1 z2)) := by
  obtain ⟨⟨f, w1⟩, A, T, X, Y, k⟩ := w
  refine MH.ofL (by decide) (Nat.le_of_ble_eq_true rfl) ?_
  intro x LX C AA TY XH
  show VV G x 0 0 h 0 [(0, .ref (ad 0 0)), (1, .int z1), (2, .int (bI z2)), (3, .ref o)] []
  refine r_aload_n C d_L_end_0 3 rfl ?_
  refine r_iconst C d_L_end_1 (v := nI 0) rfl ?_
  refine r_aload_n C d_L_end_2 0 rfl ?_
  refine r_iload_n C d_L_end_3 1 rfl ?_
  refine r_iload_n C d_L_end_4 2 rfl ?_
  refine r_callVH (As := [.int z1, .int (bI z2)]) C XH (fun l2 e2 => by rw [cxL_eq LX e2]; exact hlf) d_L_end_5 ok_RL_19 (fun l hlf => k_end hlf w1.1 A.1) (w1.1.1 0 0 rfl) rfl rfl rfl (rest := [.int (nI 0), .ref o]) rfl (Nat.le_of_ble_eq_true rfl) ⟨⟨by decide, by decide⟩, Nat.le_of_ble_eq_true rfl, Nat.le_of_ble_eq_true rfl⟩ (fun E9 h1 e9 => ?_) (fun v9 h1 e9 => ?_)
  · obtain ⟨g9, ⟨hx, hs⟩, hm1, hF⟩ := e9
    rcases hx with ⟨rfl, e9⟩ | ⟨rfl, e9⟩
    · refine ⟨13, ⟨[], ⟨0, 10, 13, 13⟩, [⟨0, 10, 17, 17⟩], rfl, fun _ h => absurd h List.not_mem_nil, rfl, by decide, tw_155, by decide, rfl⟩, fun z => ?_⟩
      refine r_astore C d_L_end_13 (lv' := [(4, .ref z), (0, .ref (ad 0 0)), (1, .int z1), (2, .int (bI z2)), (3, .ref o)]) (by decide) rfl ?_
      refine r_iconst C d_L_end_15 (v := nI 1) rfl ?_
      have hT : tEnd g z1 z2 = uK g 0 1 := by
        unfold tEnd; rw [if_neg (by rw [e9]; decide)]
        rw [e9]
      subst hs
      exact r_iret C AA TY d_L_end_16 rfl (Nat.le_of_ble_eq_true rfl) (Nat.le_of_ble_eq_true rfl) (lw_no s w1 hm1 hF (by decide) (fun v9 T9 ⟨p, q9⟩ => by rw [q9, hT]; exact ⟨rfl, step_K A k hF⟩))
    · refine ⟨17, ⟨[⟨0, 10, 13, 13⟩], ⟨0, 10, 17, 17⟩, [], rfl, List.forall_mem_cons.mpr ⟨⟨by decide, _, tw_155, by decide, by decide⟩, fun _ h => absurd h List.not_mem_nil⟩, rfl, by decide, tw_157, by decide, rfl⟩, fun z => ?_⟩
      refine r_astore C d_L_end_17 (lv' := [(4, .ref z), (0, .ref (ad 0 0)), (1, .int z1), (2, .int (bI z2)), (3, .ref o)]) (by decide) rfl ?_
      refine r_iconst C d_L_end_19 (v := nI 2) rfl ?_
      have hT : tEnd g z1 z2 = uK g 0 2 := by
        unfold tEnd; rw [if_neg (by rw [e9]; decide)]
        rw [e9]
      subst hs
      exact r_iret C AA TY d_L_end_20 rfl (Nat.le_of_ble_eq_true rfl) (Nat.le_of_ble_eq_true rfl) (lw_no s w1 hm1 hF (by decide) (fun v9 T9 ⟨p, q9⟩ => by rw [q9, hT]; exact ⟨rfl, step_K A k hF⟩))
  · obtain ⟨g9, ⟨rfl, rfl, c0⟩, hm1, hF⟩ := e9
    refine r_i2l C d_L_end_8 ?_
    refine r_last (f := f) C d_L_end_9 (hF _ _ s.1 w1.2.2) (i := 0) (by decide) (by decide) ?_
    refine r_goto C d_L_end_10 (tgt := 21) rfl ?_
    refine r_iconst C d_L_end_21 (v := nI 0) rfl ?_
    exact r_iret C AA TY d_L_end_22 rfl (Nat.le_of_ble_eq_true rfl) (Nat.le_of_ble_eq_true rfl) (lw_ok s w1 hm1 hF (fun v9 T9 ⟨p, q9⟩ => ⟨(by rw [q9]; show mK (tEnd g z1 z2) 0 = 0; unfold tEnd; rw [if_pos c0]; first | rfl | (split <;> rfl)), p, by rw [q9]; exact step_end A k hF c0⟩))
def dl_L_align : List (Nat × Instr × Nat) := [(0, .aload_n 3, 1), (1, .iconst 0, 1), (2, .aload_n 0, 1), (3, .iload_n 1, 1), (4, .iload_n 2, 1), (5, .invokevirtual 23, 3), (8, .i2l, 1), (9, .lastore, 1), (10, .goto 7, 3), (13, .astore 4, 2), (15, .iconst 1, 1), (16, .ireturn, 1), (17, .iconst 0, 1), (18, .ireturn, 1)]
theorem dc_L_align : dnL cL_align dl_L_align = true := by decide +kernel
theorem d_L_align_0 : dn cL_align 0 (.aload_n 3) 1 1 := dnAt dc_L_align 0 rfl rfl
theorem d_L_align_1 : dn cL_align 1 (.iconst 0) 1 2 := dnAt dc_L_align 1 rfl rfl
theorem d_L_align_2 : dn cL_align 2 (.aload_n 0) 1 3 := dnAt dc_L_align 2 rfl rfl
theorem d_L_align_3 : dn cL_align 3 (.iload_n 1) 1 4 := dnAt dc_L_align 3 rfl rfl
theorem d_L_align_4 : dn cL_align 4 (.iload_n 2) 1 5 := dnAt dc_L_align 4 rfl rfl
theorem d_L_align_5 : dn cL_align 5 (.invokevirtual 23) 3 8 := dnAt dc_L_align 5 rfl rfl
theorem d_L_align_8 : dn cL_align 8 (.i2l) 1 9 := dnAt dc_L_align 6 rfl rfl
theorem d_L_align_9 : dn cL_align 9 (.lastore) 1 10 := dnAt dc_L_align 7 rfl rfl
theorem d_L_align_10 : dn cL_align 10 (.goto 7) 3 13 := dnAt dc_L_align 8 rfl rfl
theorem d_L_align_13 : dn cL_align 13 (.astore 4) 2 15 := dnAt dc_L_align 9 rfl rfl
theorem d_L_align_15 : dn cL_align 15 (.iconst 1) 1 16 := dnAt dc_L_align 10 rfl rfl
theorem d_L_align_16 : dn cL_align 16 (.ireturn) 1 17 := dnAt dc_L_align 11 rfl rfl
theorem d_L_align_17 : dn cL_align 17 (.iconst 0) 1 18 := dnAt dc_L_align 12 rfl rfl
theorem d_L_align_18 : dn cL_align 18 (.ireturn) 1 19 := dnAt dc_L_align 13 rfl rfl
set_option maxHeartbeats 4000000 in
set_option maxRecDepth 100000 in
theorem lwx_align {l : Launch} {G : eG} {ad : Nat → Nat → Nat} {q : Nat → Nat} {o : Nat} {h : hp} {g : mS} {z1 : Int32} {z2 : Int32} (hlf : l.stackTraces = false) (s : lst ad q o) (w : lwo G ad q o g h) : MH l G yL_align cL_align 5 (Option.some Jvm.ClassFile.FieldType.int) [((0 : Nat), (10 : Nat), (13 : Nat), (13 : Nat))] { frames := 7, cells := 1, slots := 6, locals := 114 } [.ref (ad 0 0), .int z1, .int z2, .ref o] h (lres G ad q o g (fun v9 T9 => v9 = (some (.int (nI (rAlign g z1 z2)))) ∧ T9 = tAlign g z1 z2)) := by
  obtain ⟨⟨f, w1⟩, A, T, X, Y, k⟩ := w
  refine MH.ofL (by decide) (Nat.le_of_ble_eq_true rfl) ?_
  intro x LX C AA TY XH
  show VV G x 0 0 h 0 [(0, .ref (ad 0 0)), (1, .int z1), (2, .int z2), (3, .ref o)] []
  refine r_aload_n C d_L_align_0 3 rfl ?_
  refine r_iconst C d_L_align_1 (v := nI 0) rfl ?_
  refine r_aload_n C d_L_align_2 0 rfl ?_
  refine r_iload_n C d_L_align_3 1 rfl ?_
  refine r_iload_n C d_L_align_4 2 rfl ?_
  refine r_callVH (As := [.int z1, .int z2]) C XH (fun l2 e2 => by rw [cxL_eq LX e2]; exact hlf) d_L_align_5 ok_RL_23 (fun l hlf => k_align hlf w1.1 A.1 A.2.2.1) (w1.1.1 0 0 rfl) rfl rfl rfl (rest := [.int (nI 0), .ref o]) rfl (Nat.le_of_ble_eq_true rfl) ⟨⟨by decide, by decide⟩, Nat.le_of_ble_eq_true rfl, Nat.le_of_ble_eq_true rfl⟩ (fun E9 h1 e9 => ?_) (fun v9 h1 e9 => ?_)
  · obtain ⟨g9, ⟨hx, hs⟩, hm1, hF⟩ := e9
    rcases hx with ⟨rfl, e9⟩
    · refine ⟨13, ⟨[], ⟨0, 10, 13, 13⟩, [], rfl, fun _ h => absurd h List.not_mem_nil, rfl, by decide, tw_155, by decide, rfl⟩, fun z => ?_⟩
      refine r_astore C d_L_align_13 (lv' := [(4, .ref z), (0, .ref (ad 0 0)), (1, .int z1), (2, .int z2), (3, .ref o)]) (by decide) rfl ?_
      refine r_iconst C d_L_align_15 (v := nI 1) rfl ?_
      have hT : tAlign g z1 z2 = uK g 0 1 := by
        unfold tAlign; rw [if_neg (by rw [e9]; decide)]
      subst hs
      exact r_iret C AA TY d_L_align_16 rfl (Nat.le_of_ble_eq_true rfl) (Nat.le_of_ble_eq_true rfl) (lw_no s w1 hm1 hF (by decide) (fun v9 T9 ⟨p, q9⟩ => by rw [q9, hT]; exact ⟨rfl, step_K A k hF⟩))
  · obtain ⟨g9, ⟨rfl, rfl, c0⟩, hm1, hF⟩ := e9
    refine r_i2l C d_L_align_8 ?_
    refine r_last (f := f) C d_L_align_9 (hF _ _ s.1 w1.2.2) (i := 0) (by decide) (by decide) ?_
    refine r_goto C d_L_align_10 (tgt := 17) rfl ?_
    refine r_iconst C d_L_align_17 (v := nI 0) rfl ?_
    exact r_iret C AA TY d_L_align_18 rfl (Nat.le_of_ble_eq_true rfl) (Nat.le_of_ble_eq_true rfl) (lw_ok s w1 hm1 hF (fun v9 T9 ⟨p, q9⟩ => ⟨(by rw [q9]; show mK (tAlign g z1 z2) 0 = 0; unfold tAlign; rw [if_pos c0]; first | rfl | (split <;> rfl)), by rw [p, (step_align A k hF c0).2], by rw [q9]; exact (step_align A k hF c0).1⟩))
def dl_L_tokens : List (Nat × Instr × Nat) := [(0, .aload_n 2, 1), (1, .iconst 0, 1), (2, .aload_n 0, 1), (3, .iload_n 1, 1), (4, .invokevirtual 27, 3), (7, .i2l, 1), (8, .lastore, 1), (9, .goto 6, 3), (12, .astore_n 3, 1), (13, .iconst 1, 1), (14, .ireturn, 1), (15, .iconst 0, 1), (16, .ireturn, 1)]
theorem dc_L_tokens : dnL cL_tokens dl_L_tokens = true := by decide +kernel
theorem d_L_tokens_0 : dn cL_tokens 0 (.aload_n 2) 1 1 := dnAt dc_L_tokens 0 rfl rfl
theorem d_L_tokens_1 : dn cL_tokens 1 (.iconst 0) 1 2 := dnAt dc_L_tokens 1 rfl rfl
theorem d_L_tokens_2 : dn cL_tokens 2 (.aload_n 0) 1 3 := dnAt dc_L_tokens 2 rfl rfl
theorem d_L_tokens_3 : dn cL_tokens 3 (.iload_n 1) 1 4 := dnAt dc_L_tokens 3 rfl rfl
theorem d_L_tokens_4 : dn cL_tokens 4 (.invokevirtual 27) 3 7 := dnAt dc_L_tokens 4 rfl rfl
theorem d_L_tokens_7 : dn cL_tokens 7 (.i2l) 1 8 := dnAt dc_L_tokens 5 rfl rfl
theorem d_L_tokens_8 : dn cL_tokens 8 (.lastore) 1 9 := dnAt dc_L_tokens 6 rfl rfl
theorem d_L_tokens_9 : dn cL_tokens 9 (.goto 6) 3 12 := dnAt dc_L_tokens 7 rfl rfl
theorem d_L_tokens_12 : dn cL_tokens 12 (.astore_n 3) 1 13 := dnAt dc_L_tokens 8 rfl rfl
theorem d_L_tokens_13 : dn cL_tokens 13 (.iconst 1) 1 14 := dnAt dc_L_tokens 9 rfl rfl
theorem d_L_tokens_14 : dn cL_tokens 14 (.ireturn) 1 15 := dnAt dc_L_tokens 10 rfl rfl
theorem d_L_tokens_15 : dn cL_tokens 15 (.iconst 0) 1 16 := dnAt dc_L_tokens 11 rfl rfl
theorem d_L_tokens_16 : dn cL_tokens 16 (.ireturn) 1 17 := dnAt dc_L_tokens 12 rfl rfl
set_option maxHeartbeats 4000000 in
set_option maxRecDepth 100000 in
theorem lwx_tokens {l : Launch} {G : eG} {ad : Nat → Nat → Nat} {q : Nat → Nat} {o : Nat} {h : hp} {g : mS} {z1 : Int32} (hlf : l.stackTraces = false) (s : lst ad q o) (w : lwo G ad q o g h) : MH l G yL_tokens cL_tokens 4 (Option.some Jvm.ClassFile.FieldType.int) [((0 : Nat), (9 : Nat), (12 : Nat), (13 : Nat))] { frames := 8, cells := 1, slots := 6, locals := 132 } [.ref (ad 0 0), .int z1, .ref o] h (lres G ad q o g (fun v9 T9 => v9 = (some (.int (nI (rTokens g z1)))) ∧ T9 = uK g 0 (cSide z1))) := by
  obtain ⟨⟨f, w1⟩, A, T, X, Y, k⟩ := w
  refine MH.ofL (by decide) (Nat.le_of_ble_eq_true rfl) ?_
  intro x LX C AA TY XH
  show VV G x 0 0 h 0 [(0, .ref (ad 0 0)), (1, .int z1), (2, .ref o)] []
  refine r_aload_n C d_L_tokens_0 2 rfl ?_
  refine r_iconst C d_L_tokens_1 (v := nI 0) rfl ?_
  refine r_aload_n C d_L_tokens_2 0 rfl ?_
  refine r_iload_n C d_L_tokens_3 1 rfl ?_
  refine r_callVH (As := [.int z1]) C XH (fun l2 e2 => by rw [cxL_eq LX e2]; exact hlf) d_L_tokens_4 ok_RL_27 (fun l hlf => k_tokens hlf w1.1) (w1.1.1 0 0 rfl) rfl rfl rfl (rest := [.int (nI 0), .ref o]) rfl (Nat.le_of_ble_eq_true rfl) ⟨⟨by decide, by decide⟩, Nat.le_of_ble_eq_true rfl, Nat.le_of_ble_eq_true rfl⟩ (fun E9 h1 e9 => ?_) (fun v9 h1 e9 => ?_)
  · obtain ⟨g9, ⟨hx, hs⟩, hm1, hF⟩ := e9
    rcases hx with ⟨rfl, e9⟩
    · refine ⟨12, ⟨[], ⟨0, 9, 12, 13⟩, [], rfl, fun _ h => absurd h List.not_mem_nil, rfl, by decide, tw_155, by decide, rfl⟩, fun z => ?_⟩
      refine r_astore_n C d_L_tokens_12 (lv' := [(3, .ref z), (0, .ref (ad 0 0)), (1, .int z1), (2, .ref o)]) (by decide) rfl ?_
      refine r_iconst C d_L_tokens_13 (v := nI 1) rfl ?_
      subst hs
      exact r_iret C AA TY d_L_tokens_14 rfl (Nat.le_of_ble_eq_true rfl) (Nat.le_of_ble_eq_true rfl) (lw_no s w1 hm1 hF (by decide) (fun v9 T9 ⟨p, q9⟩ => by rw [q9, e9]; exact ⟨rfl, step_K A k hF⟩))
  · obtain ⟨g9, ⟨rfl, rfl, c0⟩, hm1, hF⟩ := e9
    refine r_i2l C d_L_tokens_7 ?_
    refine r_last (f := f) C d_L_tokens_8 (hF _ _ s.1 w1.2.2) (i := 0) (by decide) (by decide) ?_
    refine r_goto C d_L_tokens_9 (tgt := 15) rfl ?_
    refine r_iconst C d_L_tokens_15 (v := nI 0) rfl ?_
    exact r_iret C AA TY d_L_tokens_16 rfl (Nat.le_of_ble_eq_true rfl) (Nat.le_of_ble_eq_true rfl) (lw_ok s w1 hm1 hF (fun v9 T9 ⟨p, q9⟩ => ⟨(by rw [q9]; exact c0), p, by rw [q9]; exact step_K A k hF⟩))
def dl_L_sentenceOf : List (Nat × Instr × Nat) := [(0, .aload_n 3, 1), (1, .iconst 0, 1), (2, .aload_n 0, 1), (3, .iload_n 1, 1), (4, .iload_n 2, 1), (5, .invokevirtual 31, 3), (8, .i2l, 1), (9, .lastore, 1), (10, .goto 7, 3), (13, .astore 4, 2), (15, .iconst 1, 1), (16, .ireturn, 1), (17, .iconst 0, 1), (18, .ireturn, 1)]
theorem dc_L_sentenceOf : dnL cL_sentenceOf dl_L_sentenceOf = true := by decide +kernel
theorem d_L_sentenceOf_0 : dn cL_sentenceOf 0 (.aload_n 3) 1 1 := dnAt dc_L_sentenceOf 0 rfl rfl
theorem d_L_sentenceOf_1 : dn cL_sentenceOf 1 (.iconst 0) 1 2 := dnAt dc_L_sentenceOf 1 rfl rfl
theorem d_L_sentenceOf_2 : dn cL_sentenceOf 2 (.aload_n 0) 1 3 := dnAt dc_L_sentenceOf 2 rfl rfl
theorem d_L_sentenceOf_3 : dn cL_sentenceOf 3 (.iload_n 1) 1 4 := dnAt dc_L_sentenceOf 3 rfl rfl
theorem d_L_sentenceOf_4 : dn cL_sentenceOf 4 (.iload_n 2) 1 5 := dnAt dc_L_sentenceOf 4 rfl rfl
theorem d_L_sentenceOf_5 : dn cL_sentenceOf 5 (.invokevirtual 31) 3 8 := dnAt dc_L_sentenceOf 5 rfl rfl
theorem d_L_sentenceOf_8 : dn cL_sentenceOf 8 (.i2l) 1 9 := dnAt dc_L_sentenceOf 6 rfl rfl
theorem d_L_sentenceOf_9 : dn cL_sentenceOf 9 (.lastore) 1 10 := dnAt dc_L_sentenceOf 7 rfl rfl
theorem d_L_sentenceOf_10 : dn cL_sentenceOf 10 (.goto 7) 3 13 := dnAt dc_L_sentenceOf 8 rfl rfl
theorem d_L_sentenceOf_13 : dn cL_sentenceOf 13 (.astore 4) 2 15 := dnAt dc_L_sentenceOf 9 rfl rfl
theorem d_L_sentenceOf_15 : dn cL_sentenceOf 15 (.iconst 1) 1 16 := dnAt dc_L_sentenceOf 10 rfl rfl
theorem d_L_sentenceOf_16 : dn cL_sentenceOf 16 (.ireturn) 1 17 := dnAt dc_L_sentenceOf 11 rfl rfl
theorem d_L_sentenceOf_17 : dn cL_sentenceOf 17 (.iconst 0) 1 18 := dnAt dc_L_sentenceOf 12 rfl rfl
theorem d_L_sentenceOf_18 : dn cL_sentenceOf 18 (.ireturn) 1 19 := dnAt dc_L_sentenceOf 13 rfl rfl
set_option maxHeartbeats 4000000 in
set_option maxRecDepth 100000 in
theorem lwx_sentenceOf {l : Launch} {G : eG} {ad : Nat → Nat → Nat} {q : Nat → Nat} {o : Nat} {h : hp} {g : mS} {z1 : Int32} {z2 : Int32} (hlf : l.stackTraces = false) (s : lst ad q o) (w : lwo G ad q o g h) : MH l G yL_sentenceOf cL_sentenceOf 5 (Option.some Jvm.ClassFile.FieldType.int) [((0 : Nat), (10 : Nat), (13 : Nat), (13 : Nat))] { frames := 8, cells := 2, slots := 12, locals := 134 } [.ref (ad 0 0), .int z1, .int z2, .ref o] h (lres G ad q o g (fun v9 T9 => v9 = (some (.int (nI (rSent g z1 z2)))) ∧ T9 = uK g 0 (cSent g z1 z2))) := by
  obtain ⟨⟨f, w1⟩, A, T, X, Y, k⟩ := w
  refine MH.ofL (by decide) (Nat.le_of_ble_eq_true rfl) ?_
  intro x LX C AA TY XH
  show VV G x 0 0 h 0 [(0, .ref (ad 0 0)), (1, .int z1), (2, .int z2), (3, .ref o)] []
  refine r_aload_n C d_L_sentenceOf_0 3 rfl ?_
  refine r_iconst C d_L_sentenceOf_1 (v := nI 0) rfl ?_
  refine r_aload_n C d_L_sentenceOf_2 0 rfl ?_
  refine r_iload_n C d_L_sentenceOf_3 1 rfl ?_
  refine r_iload_n C d_L_sentenceOf_4 2 rfl ?_
  refine r_callVH (As := [.int z1, .int z2]) C XH (fun l2 e2 => by rw [cxL_eq LX e2]; exact hlf) d_L_sentenceOf_5 ok_RL_31 (fun l hlf => k_sentenceOf hlf w1.1 A.1) (w1.1.1 0 0 rfl) rfl rfl rfl (rest := [.int (nI 0), .ref o]) rfl (Nat.le_of_ble_eq_true rfl) ⟨⟨by decide, by decide⟩, Nat.le_of_ble_eq_true rfl, Nat.le_of_ble_eq_true rfl⟩ (fun E9 h1 e9 => ?_) (fun v9 h1 e9 => ?_)
  · obtain ⟨g9, ⟨hx, hs⟩, hm1, hF⟩ := e9
    rcases hx with ⟨rfl, e9⟩
    · refine ⟨13, ⟨[], ⟨0, 10, 13, 13⟩, [], rfl, fun _ h => absurd h List.not_mem_nil, rfl, by decide, tw_155, by decide, rfl⟩, fun z => ?_⟩
      refine r_astore C d_L_sentenceOf_13 (lv' := [(4, .ref z), (0, .ref (ad 0 0)), (1, .int z1), (2, .int z2), (3, .ref o)]) (by decide) rfl ?_
      refine r_iconst C d_L_sentenceOf_15 (v := nI 1) rfl ?_
      subst hs
      exact r_iret C AA TY d_L_sentenceOf_16 rfl (Nat.le_of_ble_eq_true rfl) (Nat.le_of_ble_eq_true rfl) (lw_no s w1 hm1 hF (by decide) (fun v9 T9 ⟨p, q9⟩ => by rw [q9, e9]; exact ⟨rfl, step_K A k hF⟩))
  · obtain ⟨g9, ⟨rfl, rfl, c0⟩, hm1, hF⟩ := e9
    refine r_i2l C d_L_sentenceOf_8 ?_
    refine r_last (f := f) C d_L_sentenceOf_9 (hF _ _ s.1 w1.2.2) (i := 0) (by decide) (by decide) ?_
    refine r_goto C d_L_sentenceOf_10 (tgt := 17) rfl ?_
    refine r_iconst C d_L_sentenceOf_17 (v := nI 0) rfl ?_
    exact r_iret C AA TY d_L_sentenceOf_18 rfl (Nat.le_of_ble_eq_true rfl) (Nat.le_of_ble_eq_true rfl) (lw_ok s w1 hm1 hF (fun v9 T9 ⟨p, q9⟩ => ⟨(by rw [q9]; exact c0), p, by rw [q9]; exact step_K A k hF⟩))
def dl_L_occurs : List (Nat × Instr × Nat) := [(0, .aload 4, 2), (2, .iconst 0, 1), (3, .aload_n 0, 1), (4, .iload_n 1, 1), (5, .iload_n 2, 1), (6, .iload_n 3, 1), (7, .invokevirtual 34, 3), (10, .i2l, 1), (11, .lastore, 1), (12, .goto 11, 3), (15, .astore 5, 2), (17, .iconst 1, 1), (18, .ireturn, 1), (19, .astore 5, 2), (21, .iconst 2, 1), (22, .ireturn, 1), (23, .iconst 0, 1), (24, .ireturn, 1)]
theorem dc_L_occurs : dnL cL_occurs dl_L_occurs = true := by decide +kernel
theorem d_L_occurs_0 : dn cL_occurs 0 (.aload 4) 2 2 := dnAt dc_L_occurs 0 rfl rfl
theorem d_L_occurs_2 : dn cL_occurs 2 (.iconst 0) 1 3 := dnAt dc_L_occurs 1 rfl rfl
theorem d_L_occurs_3 : dn cL_occurs 3 (.aload_n 0) 1 4 := dnAt dc_L_occurs 2 rfl rfl
theorem d_L_occurs_4 : dn cL_occurs 4 (.iload_n 1) 1 5 := dnAt dc_L_occurs 3 rfl rfl
theorem d_L_occurs_5 : dn cL_occurs 5 (.iload_n 2) 1 6 := dnAt dc_L_occurs 4 rfl rfl
theorem d_L_occurs_6 : dn cL_occurs 6 (.iload_n 3) 1 7 := dnAt dc_L_occurs 5 rfl rfl
theorem d_L_occurs_7 : dn cL_occurs 7 (.invokevirtual 34) 3 10 := dnAt dc_L_occurs 6 rfl rfl
theorem d_L_occurs_10 : dn cL_occurs 10 (.i2l) 1 11 := dnAt dc_L_occurs 7 rfl rfl
theorem d_L_occurs_11 : dn cL_occurs 11 (.lastore) 1 12 := dnAt dc_L_occurs 8 rfl rfl
theorem d_L_occurs_12 : dn cL_occurs 12 (.goto 11) 3 15 := dnAt dc_L_occurs 9 rfl rfl
theorem d_L_occurs_15 : dn cL_occurs 15 (.astore 5) 2 17 := dnAt dc_L_occurs 10 rfl rfl
theorem d_L_occurs_17 : dn cL_occurs 17 (.iconst 1) 1 18 := dnAt dc_L_occurs 11 rfl rfl
theorem d_L_occurs_18 : dn cL_occurs 18 (.ireturn) 1 19 := dnAt dc_L_occurs 12 rfl rfl
theorem d_L_occurs_19 : dn cL_occurs 19 (.astore 5) 2 21 := dnAt dc_L_occurs 13 rfl rfl
theorem d_L_occurs_21 : dn cL_occurs 21 (.iconst 2) 1 22 := dnAt dc_L_occurs 14 rfl rfl
theorem d_L_occurs_22 : dn cL_occurs 22 (.ireturn) 1 23 := dnAt dc_L_occurs 15 rfl rfl
theorem d_L_occurs_23 : dn cL_occurs 23 (.iconst 0) 1 24 := dnAt dc_L_occurs 16 rfl rfl
theorem d_L_occurs_24 : dn cL_occurs 24 (.ireturn) 1 25 := dnAt dc_L_occurs 17 rfl rfl
set_option maxHeartbeats 4000000 in
set_option maxRecDepth 100000 in
theorem lwx_occurs {l : Launch} {G : eG} {ad : Nat → Nat → Nat} {q : Nat → Nat} {o : Nat} {h : hp} {g : mS} {z1 : Int32} {z2 : Int32} {z3 : Int32} (hlf : l.stackTraces = false) (s : lst ad q o) (w : lwo G ad q o g h) : MH l G yL_occurs cL_occurs 6 (Option.some Jvm.ClassFile.FieldType.int) [((0 : Nat), (12 : Nat), (15 : Nat), (13 : Nat)), ((0 : Nat), (12 : Nat), (19 : Nat), (15 : Nat))] { frames := 8, cells := 2, slots := 12, locals := 138 } [.ref (ad 0 0), .int z1, .int z2, .int z3, .ref o] h (lres G ad q o g (fun v9 T9 => v9 = (some (.int (nI (rOccurs g z1 z2 z3)))) ∧ T9 = uK g 0 (cOccurs z1 z2))) := by
  obtain ⟨⟨f, w1⟩, A, T, X, Y, k⟩ := w
  refine MH.ofL (by decide) (Nat.le_of_ble_eq_true rfl) ?_
  intro x LX C AA TY XH
  show VV G x 0 0 h 0 [(0, .ref (ad 0 0)), (1, .int z1), (2, .int z2), (3, .int z3), (4, .ref o)] []
  refine r_aload C d_L_occurs_0 4 rfl ?_
  refine r_iconst C d_L_occurs_2 (v := nI 0) rfl ?_
  refine r_aload_n C d_L_occurs_3 0 rfl ?_
  refine r_iload_n C d_L_occurs_4 1 rfl ?_
  refine r_iload_n C d_L_occurs_5 2 rfl ?_
  refine r_iload_n C d_L_occurs_6 3 rfl ?_
  refine r_callVH (As := [.int z1, .int z2, .int z3]) C XH (fun l2 e2 => by rw [cxL_eq LX e2]; exact hlf) d_L_occurs_7 ok_RL_34 (fun l hlf => k_occurs hlf w1.1 A.1) (w1.1.1 0 0 rfl) rfl rfl rfl (rest := [.int (nI 0), .ref o]) rfl (Nat.le_of_ble_eq_true rfl) ⟨⟨by decide, by decide⟩, Nat.le_of_ble_eq_true rfl, Nat.le_of_ble_eq_true rfl⟩ (fun E9 h1 e9 => ?_) (fun v9 h1 e9 => ?_)
  · obtain ⟨g9, ⟨hx, hs⟩, hm1, hF⟩ := e9
    rcases hx with ⟨rfl, e9⟩ | ⟨rfl, e9⟩
    · refine ⟨15, ⟨[], ⟨0, 12, 15, 13⟩, [⟨0, 12, 19, 15⟩], rfl, fun _ h => absurd h List.not_mem_nil, rfl, by decide, tw_155, by decide, rfl⟩, fun z => ?_⟩
      refine r_astore C d_L_occurs_15 (lv' := [(5, .ref z), (0, .ref (ad 0 0)), (1, .int z1), (2, .int z2), (3, .int z3), (4, .ref o)]) (by decide) rfl ?_
      refine r_iconst C d_L_occurs_17 (v := nI 1) rfl ?_
      subst hs
      exact r_iret C AA TY d_L_occurs_18 rfl (Nat.le_of_ble_eq_true rfl) (Nat.le_of_ble_eq_true rfl) (lw_no s w1 hm1 hF (by decide) (fun v9 T9 ⟨p, q9⟩ => by rw [q9, e9]; exact ⟨rfl, step_K A k hF⟩))
    · refine ⟨19, ⟨[⟨0, 12, 15, 13⟩], ⟨0, 12, 19, 15⟩, [], rfl, List.forall_mem_cons.mpr ⟨⟨by decide, _, tw_155, by decide, by decide⟩, fun _ h => absurd h List.not_mem_nil⟩, rfl, by decide, tw_156, by decide, rfl⟩, fun z => ?_⟩
      refine r_astore C d_L_occurs_19 (lv' := [(5, .ref z), (0, .ref (ad 0 0)), (1, .int z1), (2, .int z2), (3, .int z3), (4, .ref o)]) (by decide) rfl ?_
      refine r_iconst C d_L_occurs_21 (v := nI 2) rfl ?_
      subst hs
      exact r_iret C AA TY d_L_occurs_22 rfl (Nat.le_of_ble_eq_true rfl) (Nat.le_of_ble_eq_true rfl) (lw_no s w1 hm1 hF (by decide) (fun v9 T9 ⟨p, q9⟩ => by rw [q9, e9]; exact ⟨rfl, step_K A k hF⟩))
  · obtain ⟨g9, ⟨rfl, rfl, c0⟩, hm1, hF⟩ := e9
    refine r_i2l C d_L_occurs_10 ?_
    refine r_last (f := f) C d_L_occurs_11 (hF _ _ s.1 w1.2.2) (i := 0) (by decide) (by decide) ?_
    refine r_goto C d_L_occurs_12 (tgt := 23) rfl ?_
    refine r_iconst C d_L_occurs_23 (v := nI 0) rfl ?_
    exact r_iret C AA TY d_L_occurs_24 rfl (Nat.le_of_ble_eq_true rfl) (Nat.le_of_ble_eq_true rfl) (lw_ok s w1 hm1 hF (fun v9 T9 ⟨p, q9⟩ => ⟨(by rw [q9]; exact c0), p, by rw [q9]; exact step_K A k hF⟩))
def dl_L_test : List (Nat × Instr × Nat) := [(0, .aload 4, 2), (2, .iconst 0, 1), (3, .aload_n 0, 1), (4, .iload_n 1, 1), (5, .iload_n 2, 1), (6, .iload_n 3, 1), (7, .invokevirtual 38, 3), (10, .i2l, 1), (11, .lastore, 1), (12, .goto 11, 3), (15, .astore 5, 2), (17, .iconst 1, 1), (18, .ireturn, 1), (19, .astore 5, 2), (21, .iconst 2, 1), (22, .ireturn, 1), (23, .iconst 0, 1), (24, .ireturn, 1)]
theorem dc_L_test : dnL cL_test dl_L_test = true := by decide +kernel
theorem d_L_test_0 : dn cL_test 0 (.aload 4) 2 2 := dnAt dc_L_test 0 rfl rfl
theorem d_L_test_2 : dn cL_test 2 (.iconst 0) 1 3 := dnAt dc_L_test 1 rfl rfl
theorem d_L_test_3 : dn cL_test 3 (.aload_n 0) 1 4 := dnAt dc_L_test 2 rfl rfl
theorem d_L_test_4 : dn cL_test 4 (.iload_n 1) 1 5 := dnAt dc_L_test 3 rfl rfl
theorem d_L_test_5 : dn cL_test 5 (.iload_n 2) 1 6 := dnAt dc_L_test 4 rfl rfl
theorem d_L_test_6 : dn cL_test 6 (.iload_n 3) 1 7 := dnAt dc_L_test 5 rfl rfl
theorem d_L_test_7 : dn cL_test 7 (.invokevirtual 38) 3 10 := dnAt dc_L_test 6 rfl rfl
theorem d_L_test_10 : dn cL_test 10 (.i2l) 1 11 := dnAt dc_L_test 7 rfl rfl
theorem d_L_test_11 : dn cL_test 11 (.lastore) 1 12 := dnAt dc_L_test 8 rfl rfl
theorem d_L_test_12 : dn cL_test 12 (.goto 11) 3 15 := dnAt dc_L_test 9 rfl rfl
theorem d_L_test_15 : dn cL_test 15 (.astore 5) 2 17 := dnAt dc_L_test 10 rfl rfl
theorem d_L_test_17 : dn cL_test 17 (.iconst 1) 1 18 := dnAt dc_L_test 11 rfl rfl
theorem d_L_test_18 : dn cL_test 18 (.ireturn) 1 19 := dnAt dc_L_test 12 rfl rfl
theorem d_L_test_19 : dn cL_test 19 (.astore 5) 2 21 := dnAt dc_L_test 13 rfl rfl
theorem d_L_test_21 : dn cL_test 21 (.iconst 2) 1 22 := dnAt dc_L_test 14 rfl rfl
theorem d_L_test_22 : dn cL_test 22 (.ireturn) 1 23 := dnAt dc_L_test 15 rfl rfl
theorem d_L_test_23 : dn cL_test 23 (.iconst 0) 1 24 := dnAt dc_L_test 16 rfl rfl
theorem d_L_test_24 : dn cL_test 24 (.ireturn) 1 25 := dnAt dc_L_test 17 rfl rfl
set_option maxHeartbeats 4000000 in
set_option maxRecDepth 100000 in
theorem lwx_test {l : Launch} {G : eG} {ad : Nat → Nat → Nat} {q : Nat → Nat} {o : Nat} {h : hp} {g : mS} {z1 : Int32} {z2 : Int32} {z3 : Bool} (hlf : l.stackTraces = false) (s : lst ad q o) (w : lwo G ad q o g h) : MH l G yL_test cL_test 6 (Option.some Jvm.ClassFile.FieldType.int) [((0 : Nat), (12 : Nat), (15 : Nat), (15 : Nat)), ((0 : Nat), (12 : Nat), (19 : Nat), (17 : Nat))] { frames := 8, cells := 9, slots := 51, locals := 135 } [.ref (ad 0 0), .int z1, .int z2, .int (bI z3), .ref o] h (lres G ad q o g (fun v9 T9 => v9 = (some (.int (nI (rPut g (cTest g z1 z2))))) ∧ T9 = tTest g z1 z2 z3)) := by
  obtain ⟨⟨f, w1⟩, A, T, X, Y, k⟩ := w
  refine MH.ofL (by decide) (Nat.le_of_ble_eq_true rfl) ?_
  intro x LX C AA TY XH
  show VV G x 0 0 h 0 [(0, .ref (ad 0 0)), (1, .int z1), (2, .int z2), (3, .int (bI z3)), (4, .ref o)] []
  refine r_aload C d_L_test_0 4 rfl ?_
  refine r_iconst C d_L_test_2 (v := nI 0) rfl ?_
  refine r_aload_n C d_L_test_3 0 rfl ?_
  refine r_iload_n C d_L_test_4 1 rfl ?_
  refine r_iload_n C d_L_test_5 2 rfl ?_
  refine r_iload_n C d_L_test_6 3 rfl ?_
  refine r_callVH (As := [.int z1, .int z2, .int (bI z3)]) C XH (fun l2 e2 => by rw [cxL_eq LX e2]; exact hlf) d_L_test_7 ok_RL_38 (fun l hlf => k_test hlf w1.1 A.1 (k.pl A.1).pil) (w1.1.1 0 0 rfl) rfl rfl rfl (rest := [.int (nI 0), .ref o]) rfl (Nat.le_of_ble_eq_true rfl) ⟨⟨by decide, by decide⟩, Nat.le_of_ble_eq_true rfl, Nat.le_of_ble_eq_true rfl⟩ (fun E9 h1 e9 => ?_) (fun v9 h1 e9 => ?_)
  · obtain ⟨g9, ⟨hx, hs⟩, hm1, hF⟩ := e9
    rcases hx with ⟨rfl, e9⟩ | ⟨rfl, e9⟩
    · refine ⟨15, ⟨[], ⟨0, 12, 15, 15⟩, [⟨0, 12, 19, 17⟩], rfl, fun _ h => absurd h List.not_mem_nil, rfl, by decide, tw_156, by decide, rfl⟩, fun z => ?_⟩
      refine r_astore C d_L_test_15 (lv' := [(5, .ref z), (0, .ref (ad 0 0)), (1, .int z1), (2, .int z2), (3, .int (bI z3)), (4, .ref o)]) (by decide) rfl ?_
      refine r_iconst C d_L_test_17 (v := nI 1) rfl ?_
      have hT : tTest g z1 z2 z3 = uK g 0 1 := by
        unfold tTest; rw [if_neg (by rw [e9]; decide)]
        rw [e9]
      subst hs
      exact r_iret C AA TY d_L_test_18 rfl (Nat.le_of_ble_eq_true rfl) (Nat.le_of_ble_eq_true rfl) (lw_no s w1 hm1 hF (by decide) (fun v9 T9 ⟨p, q9⟩ => by rw [q9, hT]; exact ⟨rfl, step_K A k hF⟩))
    · refine ⟨19, ⟨[⟨0, 12, 15, 15⟩], ⟨0, 12, 19, 17⟩, [], rfl, List.forall_mem_cons.mpr ⟨⟨by decide, _, tw_156, by decide, by decide⟩, fun _ h => absurd h List.not_mem_nil⟩, rfl, by decide, tw_157, by decide, rfl⟩, fun z => ?_⟩
      refine r_astore C d_L_test_19 (lv' := [(5, .ref z), (0, .ref (ad 0 0)), (1, .int z1), (2, .int z2), (3, .int (bI z3)), (4, .ref o)]) (by decide) rfl ?_
      refine r_iconst C d_L_test_21 (v := nI 2) rfl ?_
      have hT : tTest g z1 z2 z3 = uK g 0 2 := by
        unfold tTest; rw [if_neg (by rw [e9]; decide)]
        rw [e9]
      subst hs
      exact r_iret C AA TY d_L_test_22 rfl (Nat.le_of_ble_eq_true rfl) (Nat.le_of_ble_eq_true rfl) (lw_no s w1 hm1 hF (by decide) (fun v9 T9 ⟨p, q9⟩ => by rw [q9, hT]; exact ⟨rfl, step_K A k hF⟩))
  · obtain ⟨g9, ⟨rfl, c0, a9, t9, rfl, hp9, ht9, hn9⟩, hm1, hF⟩ := e9
    refine r_i2l C d_L_test_10 ?_
    refine r_last (f := f) C d_L_test_11 (hF _ _ s.1 w1.2.2) (i := 0) (by decide) (by decide) ?_
    refine r_goto C d_L_test_12 (tgt := 23) rfl ?_
    refine r_iconst C d_L_test_23 (v := nI 0) rfl ?_
    exact r_iret C AA TY d_L_test_24 rfl (Nat.le_of_ble_eq_true rfl) (Nat.le_of_ble_eq_true rfl) (lw_ok s w1 hm1 hF (fun v9 T9 ⟨p, q9⟩ => ⟨(by rw [q9]; show mK (tTest g z1 z2 z3) 0 = 0; unfold tTest; rw [if_pos c0]; first | rfl | (split <;> rfl)), p, by rw [q9]; exact stpO.of (step_test A k hF c0 hn9 hp9 ht9)⟩))
def dl_L_any : List (Nat × Instr × Nat) := [(0, .aload_n 1, 1), (1, .iconst 0, 1), (2, .aload_n 0, 1), (3, .invokevirtual 42, 3), (6, .i2l, 1), (7, .lastore, 1), (8, .goto 6, 3), (11, .astore_n 2, 1), (12, .iconst 1, 1), (13, .ireturn, 1), (14, .iconst 0, 1), (15, .ireturn, 1)]
theorem dc_L_any : dnL cL_any dl_L_any = true := by decide +kernel
theorem d_L_any_0 : dn cL_any 0 (.aload_n 1) 1 1 := dnAt dc_L_any 0 rfl rfl
theorem d_L_any_1 : dn cL_any 1 (.iconst 0) 1 2 := dnAt dc_L_any 1 rfl rfl
theorem d_L_any_2 : dn cL_any 2 (.aload_n 0) 1 3 := dnAt dc_L_any 2 rfl rfl
theorem d_L_any_3 : dn cL_any 3 (.invokevirtual 42) 3 6 := dnAt dc_L_any 3 rfl rfl
theorem d_L_any_6 : dn cL_any 6 (.i2l) 1 7 := dnAt dc_L_any 4 rfl rfl
theorem d_L_any_7 : dn cL_any 7 (.lastore) 1 8 := dnAt dc_L_any 5 rfl rfl
theorem d_L_any_8 : dn cL_any 8 (.goto 6) 3 11 := dnAt dc_L_any 6 rfl rfl
theorem d_L_any_11 : dn cL_any 11 (.astore_n 2) 1 12 := dnAt dc_L_any 7 rfl rfl
theorem d_L_any_12 : dn cL_any 12 (.iconst 1) 1 13 := dnAt dc_L_any 8 rfl rfl
theorem d_L_any_13 : dn cL_any 13 (.ireturn) 1 14 := dnAt dc_L_any 9 rfl rfl
theorem d_L_any_14 : dn cL_any 14 (.iconst 0) 1 15 := dnAt dc_L_any 10 rfl rfl
theorem d_L_any_15 : dn cL_any 15 (.ireturn) 1 16 := dnAt dc_L_any 11 rfl rfl
set_option maxHeartbeats 4000000 in
set_option maxRecDepth 100000 in
theorem lwx_any {l : Launch} {G : eG} {ad : Nat → Nat → Nat} {q : Nat → Nat} {o : Nat} {h : hp} {g : mS} (hlf : l.stackTraces = false) (s : lst ad q o) (w : lwo G ad q o g h) : MH l G yL_any cL_any 3 (Option.some Jvm.ClassFile.FieldType.int) [((0 : Nat), (8 : Nat), (11 : Nat), (17 : Nat))] { frames := 8, cells := 7, slots := 39, locals := 130 } [.ref (ad 0 0), .ref o] h (lres G ad q o g (fun v9 T9 => v9 = (some (.int (nI (rPut g (cAny g))))) ∧ T9 = tAny g)) := by
  obtain ⟨⟨f, w1⟩, A, T, X, Y, k⟩ := w
  refine MH.ofL (by decide) (Nat.le_of_ble_eq_true rfl) ?_
  intro x LX C AA TY XH
  show VV G x 0 0 h 0 [(0, .ref (ad 0 0)), (1, .ref o)] []
  refine r_aload_n C d_L_any_0 1 rfl ?_
  refine r_iconst C d_L_any_1 (v := nI 0) rfl ?_
  refine r_aload_n C d_L_any_2 0 rfl ?_
  refine r_callVH (As := []) C XH (fun l2 e2 => by rw [cxL_eq LX e2]; exact hlf) d_L_any_3 ok_RL_42 (fun l hlf => k_any hlf w1.1 A.1 (k.pl A.1).pil) (w1.1.1 0 0 rfl) rfl rfl rfl (rest := [.int (nI 0), .ref o]) rfl (Nat.le_of_ble_eq_true rfl) ⟨⟨by decide, by decide⟩, Nat.le_of_ble_eq_true rfl, Nat.le_of_ble_eq_true rfl⟩ (fun E9 h1 e9 => ?_) (fun v9 h1 e9 => ?_)
  · obtain ⟨g9, ⟨hx, hs⟩, hm1, hF⟩ := e9
    rcases hx with ⟨rfl, e9⟩
    · refine ⟨11, ⟨[], ⟨0, 8, 11, 17⟩, [], rfl, fun _ h => absurd h List.not_mem_nil, rfl, by decide, tw_157, by decide, rfl⟩, fun z => ?_⟩
      refine r_astore_n C d_L_any_11 (lv' := [(2, .ref z), (0, .ref (ad 0 0)), (1, .ref o)]) (by decide) rfl ?_
      refine r_iconst C d_L_any_12 (v := nI 1) rfl ?_
      have hT : tAny g = uK g 0 1 := by
        unfold tAny; rw [if_neg (by rw [e9]; decide)]
      subst hs
      exact r_iret C AA TY d_L_any_13 rfl (Nat.le_of_ble_eq_true rfl) (Nat.le_of_ble_eq_true rfl) (lw_no s w1 hm1 hF (by decide) (fun v9 T9 ⟨p, q9⟩ => by rw [q9, hT]; exact ⟨rfl, step_K A k hF⟩))
  · obtain ⟨g9, ⟨rfl, c0, a9, t9, rfl, hp9, ht9, hn9⟩, hm1, hF⟩ := e9
    refine r_i2l C d_L_any_6 ?_
    refine r_last (f := f) C d_L_any_7 (hF _ _ s.1 w1.2.2) (i := 0) (by decide) (by decide) ?_
    refine r_goto C d_L_any_8 (tgt := 14) rfl ?_
    refine r_iconst C d_L_any_14 (v := nI 0) rfl ?_
    exact r_iret C AA TY d_L_any_15 rfl (Nat.le_of_ble_eq_true rfl) (Nat.le_of_ble_eq_true rfl) (lw_ok s w1 hm1 hF (fun v9 T9 ⟨p, q9⟩ => ⟨(by rw [q9]; show mK (tAny g) 0 = 0; unfold tAny; rw [if_pos c0]; first | rfl | (split <;> rfl)), p, by rw [q9]; exact stpO.of (step_any A k hF c0 hn9 hp9 ht9)⟩))
def dl_L_same : List (Nat × Instr × Nat) := [(0, .aload_n 3, 1), (1, .iconst 0, 1), (2, .aload_n 0, 1), (3, .iload_n 1, 1), (4, .iload_n 2, 1), (5, .invokevirtual 46, 3), (8, .i2l, 1), (9, .lastore, 1), (10, .goto 11, 3), (13, .astore 4, 2), (15, .iconst 1, 1), (16, .ireturn, 1), (17, .astore 4, 2), (19, .iconst 2, 1), (20, .ireturn, 1), (21, .iconst 0, 1), (22, .ireturn, 1)]
theorem dc_L_same : dnL cL_same dl_L_same = true := by decide +kernel
theorem d_L_same_0 : dn cL_same 0 (.aload_n 3) 1 1 := dnAt dc_L_same 0 rfl rfl
theorem d_L_same_1 : dn cL_same 1 (.iconst 0) 1 2 := dnAt dc_L_same 1 rfl rfl
theorem d_L_same_2 : dn cL_same 2 (.aload_n 0) 1 3 := dnAt dc_L_same 2 rfl rfl
theorem d_L_same_3 : dn cL_same 3 (.iload_n 1) 1 4 := dnAt dc_L_same 3 rfl rfl
theorem d_L_same_4 : dn cL_same 4 (.iload_n 2) 1 5 := dnAt dc_L_same 4 rfl rfl
theorem d_L_same_5 : dn cL_same 5 (.invokevirtual 46) 3 8 := dnAt dc_L_same 5 rfl rfl
theorem d_L_same_8 : dn cL_same 8 (.i2l) 1 9 := dnAt dc_L_same 6 rfl rfl
theorem d_L_same_9 : dn cL_same 9 (.lastore) 1 10 := dnAt dc_L_same 7 rfl rfl
theorem d_L_same_10 : dn cL_same 10 (.goto 11) 3 13 := dnAt dc_L_same 8 rfl rfl
theorem d_L_same_13 : dn cL_same 13 (.astore 4) 2 15 := dnAt dc_L_same 9 rfl rfl
theorem d_L_same_15 : dn cL_same 15 (.iconst 1) 1 16 := dnAt dc_L_same 10 rfl rfl
theorem d_L_same_16 : dn cL_same 16 (.ireturn) 1 17 := dnAt dc_L_same 11 rfl rfl
theorem d_L_same_17 : dn cL_same 17 (.astore 4) 2 19 := dnAt dc_L_same 12 rfl rfl
theorem d_L_same_19 : dn cL_same 19 (.iconst 2) 1 20 := dnAt dc_L_same 13 rfl rfl
theorem d_L_same_20 : dn cL_same 20 (.ireturn) 1 21 := dnAt dc_L_same 14 rfl rfl
theorem d_L_same_21 : dn cL_same 21 (.iconst 0) 1 22 := dnAt dc_L_same 15 rfl rfl
theorem d_L_same_22 : dn cL_same 22 (.ireturn) 1 23 := dnAt dc_L_same 16 rfl rfl
set_option maxHeartbeats 4000000 in
set_option maxRecDepth 100000 in
theorem lwx_same {l : Launch} {G : eG} {ad : Nat → Nat → Nat} {q : Nat → Nat} {o : Nat} {h : hp} {g : mS} {z1 : Int32} {z2 : Int32} (hlf : l.stackTraces = false) (s : lst ad q o) (w : lwo G ad q o g h) : MH l G yL_same cL_same 5 (Option.some Jvm.ClassFile.FieldType.int) [((0 : Nat), (10 : Nat), (13 : Nat), (15 : Nat)), ((0 : Nat), (10 : Nat), (17 : Nat), (17 : Nat))] { frames := 8, cells := 9, slots := 51, locals := 134 } [.ref (ad 0 0), .int z1, .int z2, .ref o] h (lres G ad q o g (fun v9 T9 => v9 = (some (.int (nI (rPut g (cSame g z1 z2))))) ∧ T9 = tSame g z1 z2)) := by
  obtain ⟨⟨f, w1⟩, A, T, X, Y, k⟩ := w
  refine MH.ofL (by decide) (Nat.le_of_ble_eq_true rfl) ?_
  intro x LX C AA TY XH
  show VV G x 0 0 h 0 [(0, .ref (ad 0 0)), (1, .int z1), (2, .int z2), (3, .ref o)] []
  refine r_aload_n C d_L_same_0 3 rfl ?_
  refine r_iconst C d_L_same_1 (v := nI 0) rfl ?_
  refine r_aload_n C d_L_same_2 0 rfl ?_
  refine r_iload_n C d_L_same_3 1 rfl ?_
  refine r_iload_n C d_L_same_4 2 rfl ?_
  refine r_callVH (As := [.int z1, .int z2]) C XH (fun l2 e2 => by rw [cxL_eq LX e2]; exact hlf) d_L_same_5 ok_RL_46 (fun l hlf => k_same hlf w1.1 A.1 (k.pl A.1).pil) (w1.1.1 0 0 rfl) rfl rfl rfl (rest := [.int (nI 0), .ref o]) rfl (Nat.le_of_ble_eq_true rfl) ⟨⟨by decide, by decide⟩, Nat.le_of_ble_eq_true rfl, Nat.le_of_ble_eq_true rfl⟩ (fun E9 h1 e9 => ?_) (fun v9 h1 e9 => ?_)
  · obtain ⟨g9, ⟨hx, hs⟩, hm1, hF⟩ := e9
    rcases hx with ⟨rfl, e9⟩ | ⟨rfl, e9⟩
    · refine ⟨13, ⟨[], ⟨0, 10, 13, 15⟩, [⟨0, 10, 17, 17⟩], rfl, fun _ h => absurd h List.not_mem_nil, rfl, by decide, tw_156, by decide, rfl⟩, fun z => ?_⟩
      refine r_astore C d_L_same_13 (lv' := [(4, .ref z), (0, .ref (ad 0 0)), (1, .int z1), (2, .int z2), (3, .ref o)]) (by decide) rfl ?_
      refine r_iconst C d_L_same_15 (v := nI 1) rfl ?_
      have hT : tSame g z1 z2 = uK g 0 1 := by
        unfold tSame; rw [if_neg (by rw [e9]; decide)]
        rw [e9]
      subst hs
      exact r_iret C AA TY d_L_same_16 rfl (Nat.le_of_ble_eq_true rfl) (Nat.le_of_ble_eq_true rfl) (lw_no s w1 hm1 hF (by decide) (fun v9 T9 ⟨p, q9⟩ => by rw [q9, hT]; exact ⟨rfl, step_K A k hF⟩))
    · refine ⟨17, ⟨[⟨0, 10, 13, 15⟩], ⟨0, 10, 17, 17⟩, [], rfl, List.forall_mem_cons.mpr ⟨⟨by decide, _, tw_156, by decide, by decide⟩, fun _ h => absurd h List.not_mem_nil⟩, rfl, by decide, tw_157, by decide, rfl⟩, fun z => ?_⟩
      refine r_astore C d_L_same_17 (lv' := [(4, .ref z), (0, .ref (ad 0 0)), (1, .int z1), (2, .int z2), (3, .ref o)]) (by decide) rfl ?_
      refine r_iconst C d_L_same_19 (v := nI 2) rfl ?_
      have hT : tSame g z1 z2 = uK g 0 2 := by
        unfold tSame; rw [if_neg (by rw [e9]; decide)]
        rw [e9]
      subst hs
      exact r_iret C AA TY d_L_same_20 rfl (Nat.le_of_ble_eq_true rfl) (Nat.le_of_ble_eq_true rfl) (lw_no s w1 hm1 hF (by decide) (fun v9 T9 ⟨p, q9⟩ => by rw [q9, hT]; exact ⟨rfl, step_K A k hF⟩))
  · obtain ⟨g9, ⟨rfl, c0, a9, t9, rfl, hp9, ht9, hn9⟩, hm1, hF⟩ := e9
    refine r_i2l C d_L_same_8 ?_
    refine r_last (f := f) C d_L_same_9 (hF _ _ s.1 w1.2.2) (i := 0) (by decide) (by decide) ?_
    refine r_goto C d_L_same_10 (tgt := 21) rfl ?_
    refine r_iconst C d_L_same_21 (v := nI 0) rfl ?_
    exact r_iret C AA TY d_L_same_22 rfl (Nat.le_of_ble_eq_true rfl) (Nat.le_of_ble_eq_true rfl) (lw_ok s w1 hm1 hF (fun v9 T9 ⟨p, q9⟩ => ⟨(by rw [q9]; show mK (tSame g z1 z2) 0 = 0; unfold tSame; rw [if_pos c0]; first | rfl | (split <;> rfl)), p, by rw [q9]; exact stpO.of (step_same A k hF c0 hn9 hp9 ht9)⟩))
def dl_L_label : List (Nat × Instr × Nat) := [(0, .aload_n 0, 1), (1, .iload_n 1, 1), (2, .invokevirtual 49, 3), (5, .goto 9, 3), (8, .astore_n 2, 1), (9, .iconst 1, 1), (10, .ireturn, 1), (11, .astore_n 2, 1), (12, .iconst 2, 1), (13, .ireturn, 1), (14, .iconst 0, 1), (15, .ireturn, 1)]
theorem dc_L_label : dnL cL_label dl_L_label = true := by decide +kernel
theorem d_L_label_0 : dn cL_label 0 (.aload_n 0) 1 1 := dnAt dc_L_label 0 rfl rfl
theorem d_L_label_1 : dn cL_label 1 (.iload_n 1) 1 2 := dnAt dc_L_label 1 rfl rfl
theorem d_L_label_2 : dn cL_label 2 (.invokevirtual 49) 3 5 := dnAt dc_L_label 2 rfl rfl
theorem d_L_label_5 : dn cL_label 5 (.goto 9) 3 8 := dnAt dc_L_label 3 rfl rfl
theorem d_L_label_8 : dn cL_label 8 (.astore_n 2) 1 9 := dnAt dc_L_label 4 rfl rfl
theorem d_L_label_9 : dn cL_label 9 (.iconst 1) 1 10 := dnAt dc_L_label 5 rfl rfl
theorem d_L_label_10 : dn cL_label 10 (.ireturn) 1 11 := dnAt dc_L_label 6 rfl rfl
theorem d_L_label_11 : dn cL_label 11 (.astore_n 2) 1 12 := dnAt dc_L_label 7 rfl rfl
theorem d_L_label_12 : dn cL_label 12 (.iconst 2) 1 13 := dnAt dc_L_label 8 rfl rfl
theorem d_L_label_13 : dn cL_label 13 (.ireturn) 1 14 := dnAt dc_L_label 9 rfl rfl
theorem d_L_label_14 : dn cL_label 14 (.iconst 0) 1 15 := dnAt dc_L_label 10 rfl rfl
theorem d_L_label_15 : dn cL_label 15 (.ireturn) 1 16 := dnAt dc_L_label 11 rfl rfl
set_option maxHeartbeats 4000000 in
set_option maxRecDepth 100000 in
theorem lwx_label {l : Launch} {G : eG} {ad : Nat → Nat → Nat} {q : Nat → Nat} {o : Nat} {h : hp} {g : mS} {z1 : Int32} (hlf : l.stackTraces = false) (s : lst ad q o) (w : lwo G ad q o g h) : MH l G yL_label cL_label 3 (Option.some Jvm.ClassFile.FieldType.int) [((0 : Nat), (5 : Nat), (8 : Nat), (15 : Nat)), ((0 : Nat), (5 : Nat), (11 : Nat), (17 : Nat))] { frames := 9, cells := 8, slots := 50, locals := 155 } [.ref (ad 0 0), .int z1] h (lres G ad q o g (fun v9 T9 => v9 = none ∧ T9 = tLabel g z1)) := by
  obtain ⟨⟨f, w1⟩, A, T, X, Y, k⟩ := w
  refine MH.ofL (by decide) (Nat.le_of_ble_eq_true rfl) ?_
  intro x LX C AA TY XH
  show VV G x 0 0 h 0 [(0, .ref (ad 0 0)), (1, .int z1)] []
  refine r_aload_n C d_L_label_0 0 rfl ?_
  refine r_iload_n C d_L_label_1 1 rfl ?_
  refine r_callVH (As := [.int z1]) C XH (fun l2 e2 => by rw [cxL_eq LX e2]; exact hlf) d_L_label_2 ok_RL_49 (fun l hlf => k_label hlf w1.1 A.1 (k.pl A.1)) (w1.1.1 0 0 rfl) rfl rfl rfl (rest := []) rfl (Nat.le_of_ble_eq_true rfl) ⟨⟨by decide, by decide⟩, Nat.le_of_ble_eq_true rfl, Nat.le_of_ble_eq_true rfl⟩ (fun E9 h1 e9 => ?_) (fun v9 h1 e9 => ?_)
  · obtain ⟨g9, ⟨hx, hs⟩, hm1, hF⟩ := e9
    rcases hx with ⟨rfl, e9⟩ | ⟨rfl, e9⟩
    · refine ⟨8, ⟨[], ⟨0, 5, 8, 15⟩, [⟨0, 5, 11, 17⟩], rfl, fun _ h => absurd h List.not_mem_nil, rfl, by decide, tw_156, by decide, rfl⟩, fun z => ?_⟩
      refine r_astore_n C d_L_label_8 (lv' := [(2, .ref z), (0, .ref (ad 0 0)), (1, .int z1)]) (by decide) rfl ?_
      refine r_iconst C d_L_label_9 (v := nI 1) rfl ?_
      have hT : tLabel g z1 = uK g 0 1 := by
        unfold tLabel; rw [if_neg (by rw [e9]; decide)]
        rw [e9]
      subst hs
      exact r_iret C AA TY d_L_label_10 rfl (Nat.le_of_ble_eq_true rfl) (Nat.le_of_ble_eq_true rfl) (lw_no s w1 hm1 hF (by decide) (fun v9 T9 ⟨p, q9⟩ => by rw [q9, hT]; exact ⟨rfl, step_K A k hF⟩))
    · refine ⟨11, ⟨[⟨0, 5, 8, 15⟩], ⟨0, 5, 11, 17⟩, [], rfl, List.forall_mem_cons.mpr ⟨⟨by decide, _, tw_156, by decide, by decide⟩, fun _ h => absurd h List.not_mem_nil⟩, rfl, by decide, tw_157, by decide, rfl⟩, fun z => ?_⟩
      refine r_astore_n C d_L_label_11 (lv' := [(2, .ref z), (0, .ref (ad 0 0)), (1, .int z1)]) (by decide) rfl ?_
      refine r_iconst C d_L_label_12 (v := nI 2) rfl ?_
      have hT : tLabel g z1 = uK g 0 2 := by
        unfold tLabel; rw [if_neg (by rw [e9]; decide)]
        rw [e9]
      subst hs
      exact r_iret C AA TY d_L_label_13 rfl (Nat.le_of_ble_eq_true rfl) (Nat.le_of_ble_eq_true rfl) (lw_no s w1 hm1 hF (by decide) (fun v9 T9 ⟨p, q9⟩ => by rw [q9, hT]; exact ⟨rfl, step_K A k hF⟩))
  · obtain ⟨g9, ⟨rfl, c0, a9, t9, rfl, hp9, ht9, hn9⟩, hm1, hF⟩ := e9
    refine r_goto C d_L_label_5 (tgt := 14) rfl ?_
    refine r_iconst C d_L_label_14 (v := nI 0) rfl ?_
    exact r_iret C AA TY d_L_label_15 rfl (Nat.le_of_ble_eq_true rfl) (Nat.le_of_ble_eq_true rfl) (lw_ok0 s w1 hm1 hF (fun v9 T9 ⟨p, q9⟩ => ⟨(by rw [q9]; show mK (tLabel g z1) 0 = 0; unfold tLabel; rw [if_pos c0]; first | rfl | (split <;> rfl)), p, by rw [q9]; exact stpO.of (step_label A k hF c0 rfl hn9 hp9 ht9)⟩))
def dl_L_both : List (Nat × Instr × Nat) := [(0, .aload_n 1, 1), (1, .iconst 0, 1), (2, .aload_n 0, 1), (3, .invokevirtual 53, 3), (6, .i2l, 1), (7, .lastore, 1), (8, .goto 6, 3), (11, .astore_n 2, 1), (12, .iconst 1, 1), (13, .ireturn, 1), (14, .iconst 0, 1), (15, .ireturn, 1)]
theorem dc_L_both : dnL cL_both dl_L_both = true := by decide +kernel
theorem d_L_both_0 : dn cL_both 0 (.aload_n 1) 1 1 := dnAt dc_L_both 0 rfl rfl
theorem d_L_both_1 : dn cL_both 1 (.iconst 0) 1 2 := dnAt dc_L_both 1 rfl rfl
theorem d_L_both_2 : dn cL_both 2 (.aload_n 0) 1 3 := dnAt dc_L_both 2 rfl rfl
theorem d_L_both_3 : dn cL_both 3 (.invokevirtual 53) 3 6 := dnAt dc_L_both 3 rfl rfl
theorem d_L_both_6 : dn cL_both 6 (.i2l) 1 7 := dnAt dc_L_both 4 rfl rfl
theorem d_L_both_7 : dn cL_both 7 (.lastore) 1 8 := dnAt dc_L_both 5 rfl rfl
theorem d_L_both_8 : dn cL_both 8 (.goto 6) 3 11 := dnAt dc_L_both 6 rfl rfl
theorem d_L_both_11 : dn cL_both 11 (.astore_n 2) 1 12 := dnAt dc_L_both 7 rfl rfl
theorem d_L_both_12 : dn cL_both 12 (.iconst 1) 1 13 := dnAt dc_L_both 8 rfl rfl
theorem d_L_both_13 : dn cL_both 13 (.ireturn) 1 14 := dnAt dc_L_both 9 rfl rfl
theorem d_L_both_14 : dn cL_both 14 (.iconst 0) 1 15 := dnAt dc_L_both 10 rfl rfl
theorem d_L_both_15 : dn cL_both 15 (.ireturn) 1 16 := dnAt dc_L_both 11 rfl rfl
set_option maxHeartbeats 4000000 in
set_option maxRecDepth 100000 in
theorem lwx_both {l : Launch} {G : eG} {ad : Nat → Nat → Nat} {q : Nat → Nat} {o : Nat} {h : hp} {g : mS} (hlf : l.stackTraces = false) (s : lst ad q o) (w : lwo G ad q o g h) : MH l G yL_both cL_both 3 (Option.some Jvm.ClassFile.FieldType.int) [((0 : Nat), (8 : Nat), (11 : Nat), (17 : Nat))] { frames := 9, cells := 9, slots := 56, locals := 155 } [.ref (ad 0 0), .ref o] h (lres G ad q o g (fun v9 T9 => v9 = (some (.int (nI (rBoth g)))) ∧ T9 = tBoth g)) := by
  obtain ⟨⟨f, w1⟩, A, T, X, Y, k⟩ := w
  refine MH.ofL (by decide) (Nat.le_of_ble_eq_true rfl) ?_
  intro x LX C AA TY XH
  show VV G x 0 0 h 0 [(0, .ref (ad 0 0)), (1, .ref o)] []
  refine r_aload_n C d_L_both_0 1 rfl ?_
  refine r_iconst C d_L_both_1 (v := nI 0) rfl ?_
  refine r_aload_n C d_L_both_2 0 rfl ?_
  refine r_callVH (As := []) C XH (fun l2 e2 => by rw [cxL_eq LX e2]; exact hlf) d_L_both_3 ok_RL_53 (fun l hlf => k_both hlf w1.1 A.1 (k.pl A.1)) (w1.1.1 0 0 rfl) rfl rfl rfl (rest := [.int (nI 0), .ref o]) rfl (Nat.le_of_ble_eq_true rfl) ⟨⟨by decide, by decide⟩, Nat.le_of_ble_eq_true rfl, Nat.le_of_ble_eq_true rfl⟩ (fun E9 h1 e9 => ?_) (fun v9 h1 e9 => ?_)
  · obtain ⟨g9, ⟨hx, hs⟩, hm1, hF⟩ := e9
    rcases hx with ⟨rfl, e9⟩
    · refine ⟨11, ⟨[], ⟨0, 8, 11, 17⟩, [], rfl, fun _ h => absurd h List.not_mem_nil, rfl, by decide, tw_157, by decide, rfl⟩, fun z => ?_⟩
      refine r_astore_n C d_L_both_11 (lv' := [(2, .ref z), (0, .ref (ad 0 0)), (1, .ref o)]) (by decide) rfl ?_
      refine r_iconst C d_L_both_12 (v := nI 1) rfl ?_
      have hT : tBoth g = uK g 0 1 := by
        unfold tBoth; rw [if_neg (by rw [e9]; decide)]
      subst hs
      exact r_iret C AA TY d_L_both_13 rfl (Nat.le_of_ble_eq_true rfl) (Nat.le_of_ble_eq_true rfl) (lw_no s w1 hm1 hF (by decide) (fun v9 T9 ⟨p, q9⟩ => by rw [q9, hT]; exact ⟨rfl, step_K A k hF⟩))
  · obtain ⟨g9, ⟨rfl, c0, a9, t9, rfl, hp9, ht9, hn9⟩, hm1, hF⟩ := e9
    refine r_i2l C d_L_both_6 ?_
    refine r_last (f := f) C d_L_both_7 (hF _ _ s.1 w1.2.2) (i := 0) (by decide) (by decide) ?_
    refine r_goto C d_L_both_8 (tgt := 14) rfl ?_
    refine r_iconst C d_L_both_14 (v := nI 0) rfl ?_
    exact r_iret C AA TY d_L_both_15 rfl (Nat.le_of_ble_eq_true rfl) (Nat.le_of_ble_eq_true rfl) (lw_ok s w1 hm1 hF (fun v9 T9 ⟨p, q9⟩ => ⟨(by rw [q9]; show mK (tBoth g) 0 = 0; unfold tBoth; rw [if_pos c0]; first | rfl | (split <;> rfl)), p, by rw [q9]; exact stpO.of (step_both A k hF c0 rfl rfl hn9 hp9 ht9)⟩))
def dl_L_chain : List (Nat × Instr × Nat) := [(0, .aload_n 1, 1), (1, .iconst 0, 1), (2, .aload_n 0, 1), (3, .invokevirtual 56, 3), (6, .i2l, 1), (7, .lastore, 1), (8, .goto 6, 3), (11, .astore_n 2, 1), (12, .iconst 1, 1), (13, .ireturn, 1), (14, .iconst 0, 1), (15, .ireturn, 1)]
theorem dc_L_chain : dnL cL_chain dl_L_chain = true := by decide +kernel
theorem d_L_chain_0 : dn cL_chain 0 (.aload_n 1) 1 1 := dnAt dc_L_chain 0 rfl rfl
theorem d_L_chain_1 : dn cL_chain 1 (.iconst 0) 1 2 := dnAt dc_L_chain 1 rfl rfl
theorem d_L_chain_2 : dn cL_chain 2 (.aload_n 0) 1 3 := dnAt dc_L_chain 2 rfl rfl
theorem d_L_chain_3 : dn cL_chain 3 (.invokevirtual 56) 3 6 := dnAt dc_L_chain 3 rfl rfl
theorem d_L_chain_6 : dn cL_chain 6 (.i2l) 1 7 := dnAt dc_L_chain 4 rfl rfl
theorem d_L_chain_7 : dn cL_chain 7 (.lastore) 1 8 := dnAt dc_L_chain 5 rfl rfl
theorem d_L_chain_8 : dn cL_chain 8 (.goto 6) 3 11 := dnAt dc_L_chain 6 rfl rfl
theorem d_L_chain_11 : dn cL_chain 11 (.astore_n 2) 1 12 := dnAt dc_L_chain 7 rfl rfl
theorem d_L_chain_12 : dn cL_chain 12 (.iconst 1) 1 13 := dnAt dc_L_chain 8 rfl rfl
theorem d_L_chain_13 : dn cL_chain 13 (.ireturn) 1 14 := dnAt dc_L_chain 9 rfl rfl
theorem d_L_chain_14 : dn cL_chain 14 (.iconst 0) 1 15 := dnAt dc_L_chain 10 rfl rfl
theorem d_L_chain_15 : dn cL_chain 15 (.ireturn) 1 16 := dnAt dc_L_chain 11 rfl rfl
set_option maxHeartbeats 4000000 in
set_option maxRecDepth 100000 in
theorem lwx_chain {l : Launch} {G : eG} {ad : Nat → Nat → Nat} {q : Nat → Nat} {o : Nat} {h : hp} {g : mS} (hlf : l.stackTraces = false) (s : lst ad q o) (w : lwo G ad q o g h) : MH l G yL_chain cL_chain 3 (Option.some Jvm.ClassFile.FieldType.int) [((0 : Nat), (8 : Nat), (11 : Nat), (17 : Nat))] { frames := 8, cells := 6, slots := 42, locals := 133 } [.ref (ad 0 0), .ref o] h (lres G ad q o g (fun v9 T9 => v9 = (some (.int (nI (rTwo g)))) ∧ T9 = tTwo g wCh)) := by
  obtain ⟨⟨f, w1⟩, A, T, X, Y, k⟩ := w
  refine MH.ofL (by decide) (Nat.le_of_ble_eq_true rfl) ?_
  intro x LX C AA TY XH
  show VV G x 0 0 h 0 [(0, .ref (ad 0 0)), (1, .ref o)] []
  refine r_aload_n C d_L_chain_0 1 rfl ?_
  refine r_iconst C d_L_chain_1 (v := nI 0) rfl ?_
  refine r_aload_n C d_L_chain_2 0 rfl ?_
  refine r_callVH (As := []) C XH (fun l2 e2 => by rw [cxL_eq LX e2]; exact hlf) d_L_chain_3 ok_RL_56 (fun l hlf => k_chain hlf w1.1 A.1 (k.pl A.1)) (w1.1.1 0 0 rfl) rfl rfl rfl (rest := [.int (nI 0), .ref o]) rfl (Nat.le_of_ble_eq_true rfl) ⟨⟨by decide, by decide⟩, Nat.le_of_ble_eq_true rfl, Nat.le_of_ble_eq_true rfl⟩ (fun E9 h1 e9 => ?_) (fun v9 h1 e9 => ?_)
  · obtain ⟨g9, ⟨hx, hs⟩, hm1, hF⟩ := e9
    rcases hx with ⟨rfl, e9⟩
    · refine ⟨11, ⟨[], ⟨0, 8, 11, 17⟩, [], rfl, fun _ h => absurd h List.not_mem_nil, rfl, by decide, tw_157, by decide, rfl⟩, fun z => ?_⟩
      refine r_astore_n C d_L_chain_11 (lv' := [(2, .ref z), (0, .ref (ad 0 0)), (1, .ref o)]) (by decide) rfl ?_
      refine r_iconst C d_L_chain_12 (v := nI 1) rfl ?_
      have hT : tTwo g wCh = uK g 0 1 := by
        unfold tTwo; rw [if_neg (by rw [e9]; decide)]
      subst hs
      exact r_iret C AA TY d_L_chain_13 rfl (Nat.le_of_ble_eq_true rfl) (Nat.le_of_ble_eq_true rfl) (lw_no s w1 hm1 hF (by decide) (fun v9 T9 ⟨p, q9⟩ => by rw [q9, hT]; exact ⟨rfl, step_K A k hF⟩))
  · obtain ⟨g9, ⟨rfl, c0, a9, rfl, hp9⟩, hm1, hF⟩ := e9
    refine r_i2l C d_L_chain_6 ?_
    refine r_last (f := f) C d_L_chain_7 (hF _ _ s.1 w1.2.2) (i := 0) (by decide) (by decide) ?_
    refine r_goto C d_L_chain_8 (tgt := 14) rfl ?_
    refine r_iconst C d_L_chain_14 (v := nI 0) rfl ?_
    exact r_iret C AA TY d_L_chain_15 rfl (Nat.le_of_ble_eq_true rfl) (Nat.le_of_ble_eq_true rfl) (lw_ok s w1 hm1 hF (fun v9 T9 ⟨p, q9⟩ => ⟨(by rw [q9]; show mK (tTwo g wCh) 0 = 0; unfold tTwo; rw [if_pos c0]; first | rfl | (split <;> rfl)), p, by rw [q9]; exact stpO.of (step_chain A k hF c0 hp9)⟩))
def dl_L_either : List (Nat × Instr × Nat) := [(0, .aload_n 1, 1), (1, .iconst 0, 1), (2, .aload_n 0, 1), (3, .invokevirtual 59, 3), (6, .i2l, 1), (7, .lastore, 1), (8, .goto 6, 3), (11, .astore_n 2, 1), (12, .iconst 1, 1), (13, .ireturn, 1), (14, .iconst 0, 1), (15, .ireturn, 1)]
theorem dc_L_either : dnL cL_either dl_L_either = true := by decide +kernel
theorem d_L_either_0 : dn cL_either 0 (.aload_n 1) 1 1 := dnAt dc_L_either 0 rfl rfl
theorem d_L_either_1 : dn cL_either 1 (.iconst 0) 1 2 := dnAt dc_L_either 1 rfl rfl
theorem d_L_either_2 : dn cL_either 2 (.aload_n 0) 1 3 := dnAt dc_L_either 2 rfl rfl
theorem d_L_either_3 : dn cL_either 3 (.invokevirtual 59) 3 6 := dnAt dc_L_either 3 rfl rfl
theorem d_L_either_6 : dn cL_either 6 (.i2l) 1 7 := dnAt dc_L_either 4 rfl rfl
theorem d_L_either_7 : dn cL_either 7 (.lastore) 1 8 := dnAt dc_L_either 5 rfl rfl
theorem d_L_either_8 : dn cL_either 8 (.goto 6) 3 11 := dnAt dc_L_either 6 rfl rfl
theorem d_L_either_11 : dn cL_either 11 (.astore_n 2) 1 12 := dnAt dc_L_either 7 rfl rfl
theorem d_L_either_12 : dn cL_either 12 (.iconst 1) 1 13 := dnAt dc_L_either 8 rfl rfl
theorem d_L_either_13 : dn cL_either 13 (.ireturn) 1 14 := dnAt dc_L_either 9 rfl rfl
theorem d_L_either_14 : dn cL_either 14 (.iconst 0) 1 15 := dnAt dc_L_either 10 rfl rfl
theorem d_L_either_15 : dn cL_either 15 (.ireturn) 1 16 := dnAt dc_L_either 11 rfl rfl
set_option maxHeartbeats 4000000 in
set_option maxRecDepth 100000 in
theorem lwx_either {l : Launch} {G : eG} {ad : Nat → Nat → Nat} {q : Nat → Nat} {o : Nat} {h : hp} {g : mS} (hlf : l.stackTraces = false) (s : lst ad q o) (w : lwo G ad q o g h) : MH l G yL_either cL_either 3 (Option.some Jvm.ClassFile.FieldType.int) [((0 : Nat), (8 : Nat), (11 : Nat), (17 : Nat))] { frames := 8, cells := 6, slots := 42, locals := 133 } [.ref (ad 0 0), .ref o] h (lres G ad q o g (fun v9 T9 => v9 = (some (.int (nI (rTwo g)))) ∧ T9 = tTwo g wEi)) := by
  obtain ⟨⟨f, w1⟩, A, T, X, Y, k⟩ := w
  refine MH.ofL (by decide) (Nat.le_of_ble_eq_true rfl) ?_
  intro x LX C AA TY XH
  show VV G x 0 0 h 0 [(0, .ref (ad 0 0)), (1, .ref o)] []
  refine r_aload_n C d_L_either_0 1 rfl ?_
  refine r_iconst C d_L_either_1 (v := nI 0) rfl ?_
  refine r_aload_n C d_L_either_2 0 rfl ?_
  refine r_callVH (As := []) C XH (fun l2 e2 => by rw [cxL_eq LX e2]; exact hlf) d_L_either_3 ok_RL_59 (fun l hlf => k_either hlf w1.1 A.1 (k.pl A.1)) (w1.1.1 0 0 rfl) rfl rfl rfl (rest := [.int (nI 0), .ref o]) rfl (Nat.le_of_ble_eq_true rfl) ⟨⟨by decide, by decide⟩, Nat.le_of_ble_eq_true rfl, Nat.le_of_ble_eq_true rfl⟩ (fun E9 h1 e9 => ?_) (fun v9 h1 e9 => ?_)
  · obtain ⟨g9, ⟨hx, hs⟩, hm1, hF⟩ := e9
    rcases hx with ⟨rfl, e9⟩
    · refine ⟨11, ⟨[], ⟨0, 8, 11, 17⟩, [], rfl, fun _ h => absurd h List.not_mem_nil, rfl, by decide, tw_157, by decide, rfl⟩, fun z => ?_⟩
      refine r_astore_n C d_L_either_11 (lv' := [(2, .ref z), (0, .ref (ad 0 0)), (1, .ref o)]) (by decide) rfl ?_
      refine r_iconst C d_L_either_12 (v := nI 1) rfl ?_
      have hT : tTwo g wEi = uK g 0 1 := by
        unfold tTwo; rw [if_neg (by rw [e9]; decide)]
      subst hs
      exact r_iret C AA TY d_L_either_13 rfl (Nat.le_of_ble_eq_true rfl) (Nat.le_of_ble_eq_true rfl) (lw_no s w1 hm1 hF (by decide) (fun v9 T9 ⟨p, q9⟩ => by rw [q9, hT]; exact ⟨rfl, step_K A k hF⟩))
  · obtain ⟨g9, ⟨rfl, c0, a9, rfl, hp9⟩, hm1, hF⟩ := e9
    refine r_i2l C d_L_either_6 ?_
    refine r_last (f := f) C d_L_either_7 (hF _ _ s.1 w1.2.2) (i := 0) (by decide) (by decide) ?_
    refine r_goto C d_L_either_8 (tgt := 14) rfl ?_
    refine r_iconst C d_L_either_14 (v := nI 0) rfl ?_
    exact r_iret C AA TY d_L_either_15 rfl (Nat.le_of_ble_eq_true rfl) (Nat.le_of_ble_eq_true rfl) (lw_ok s w1 hm1 hF (fun v9 T9 ⟨p, q9⟩ => ⟨(by rw [q9]; show mK (tTwo g wEi) 0 = 0; unfold tTwo; rw [if_pos c0]; first | rfl | (split <;> rfl)), p, by rw [q9]; exact stpO.of (step_either A k hF c0 hp9)⟩))
def dl_L_repeat : List (Nat × Instr × Nat) := [(0, .aload_n 3, 1), (1, .iconst 0, 1), (2, .aload_n 0, 1), (3, .iload_n 1, 1), (4, .iload_n 2, 1), (5, .invokevirtual 62, 3), (8, .i2l, 1), (9, .lastore, 1), (10, .goto 11, 3), (13, .astore 4, 2), (15, .iconst 1, 1), (16, .ireturn, 1), (17, .astore 4, 2), (19, .iconst 2, 1), (20, .ireturn, 1), (21, .iconst 0, 1), (22, .ireturn, 1)]
theorem dc_L_repeat : dnL cL_repeat dl_L_repeat = true := by decide +kernel
theorem d_L_repeat_0 : dn cL_repeat 0 (.aload_n 3) 1 1 := dnAt dc_L_repeat 0 rfl rfl
theorem d_L_repeat_1 : dn cL_repeat 1 (.iconst 0) 1 2 := dnAt dc_L_repeat 1 rfl rfl
theorem d_L_repeat_2 : dn cL_repeat 2 (.aload_n 0) 1 3 := dnAt dc_L_repeat 2 rfl rfl
theorem d_L_repeat_3 : dn cL_repeat 3 (.iload_n 1) 1 4 := dnAt dc_L_repeat 3 rfl rfl
theorem d_L_repeat_4 : dn cL_repeat 4 (.iload_n 2) 1 5 := dnAt dc_L_repeat 4 rfl rfl
theorem d_L_repeat_5 : dn cL_repeat 5 (.invokevirtual 62) 3 8 := dnAt dc_L_repeat 5 rfl rfl
theorem d_L_repeat_8 : dn cL_repeat 8 (.i2l) 1 9 := dnAt dc_L_repeat 6 rfl rfl
theorem d_L_repeat_9 : dn cL_repeat 9 (.lastore) 1 10 := dnAt dc_L_repeat 7 rfl rfl
theorem d_L_repeat_10 : dn cL_repeat 10 (.goto 11) 3 13 := dnAt dc_L_repeat 8 rfl rfl
theorem d_L_repeat_13 : dn cL_repeat 13 (.astore 4) 2 15 := dnAt dc_L_repeat 9 rfl rfl
theorem d_L_repeat_15 : dn cL_repeat 15 (.iconst 1) 1 16 := dnAt dc_L_repeat 10 rfl rfl
theorem d_L_repeat_16 : dn cL_repeat 16 (.ireturn) 1 17 := dnAt dc_L_repeat 11 rfl rfl
theorem d_L_repeat_17 : dn cL_repeat 17 (.astore 4) 2 19 := dnAt dc_L_repeat 12 rfl rfl
theorem d_L_repeat_19 : dn cL_repeat 19 (.iconst 2) 1 20 := dnAt dc_L_repeat 13 rfl rfl
theorem d_L_repeat_20 : dn cL_repeat 20 (.ireturn) 1 21 := dnAt dc_L_repeat 14 rfl rfl
theorem d_L_repeat_21 : dn cL_repeat 21 (.iconst 0) 1 22 := dnAt dc_L_repeat 15 rfl rfl
theorem d_L_repeat_22 : dn cL_repeat 22 (.ireturn) 1 23 := dnAt dc_L_repeat 16 rfl rfl
set_option maxHeartbeats 4000000 in
set_option maxRecDepth 100000 in
theorem lwx_repeat {l : Launch} {G : eG} {ad : Nat → Nat → Nat} {q : Nat → Nat} {o : Nat} {h : hp} {g : mS} {z1 : Int32} {z2 : Int32} (hlf : l.stackTraces = false) (s : lst ad q o) (w : lwo G ad q o g h) : MH l G yL_repeat cL_repeat 5 (Option.some Jvm.ClassFile.FieldType.int) [((0 : Nat), (10 : Nat), (13 : Nat), (15 : Nat)), ((0 : Nat), (10 : Nat), (17 : Nat), (17 : Nat))] { frames := 8, cells := 18, slots := 133, locals := 136 } [.ref (ad 0 0), .int z1, .int z2, .ref o] h (lres G ad q o g (fun v9 T9 => v9 = (some (.int (nI (rRep g z1 z2)))) ∧ T9 = tRep g z1 z2)) := by
  obtain ⟨⟨f, w1⟩, A, T, X, Y, k⟩ := w
  refine MH.ofL (by decide) (Nat.le_of_ble_eq_true rfl) ?_
  intro x LX C AA TY XH
  show VV G x 0 0 h 0 [(0, .ref (ad 0 0)), (1, .int z1), (2, .int z2), (3, .ref o)] []
  refine r_aload_n C d_L_repeat_0 3 rfl ?_
  refine r_iconst C d_L_repeat_1 (v := nI 0) rfl ?_
  refine r_aload_n C d_L_repeat_2 0 rfl ?_
  refine r_iload_n C d_L_repeat_3 1 rfl ?_
  refine r_iload_n C d_L_repeat_4 2 rfl ?_
  refine r_callVH (As := [.int z1, .int z2]) C XH (fun l2 e2 => by rw [cxL_eq LX e2]; exact hlf) d_L_repeat_5 ok_RL_62 (fun l hlf => k_repeat hlf w1.1 A.1 (k.pl A.1) k.HL) (w1.1.1 0 0 rfl) rfl rfl rfl (rest := [.int (nI 0), .ref o]) rfl (Nat.le_of_ble_eq_true rfl) ⟨⟨by decide, by decide⟩, Nat.le_of_ble_eq_true rfl, Nat.le_of_ble_eq_true rfl⟩ (fun E9 h1 e9 => ?_) (fun v9 h1 e9 => ?_)
  · obtain ⟨g9, ⟨hx, hs⟩, hm1, hF⟩ := e9
    rcases hx with ⟨rfl, e9⟩ | ⟨rfl, e9⟩
    · refine ⟨13, ⟨[], ⟨0, 10, 13, 15⟩, [⟨0, 10, 17, 17⟩], rfl, fun _ h => absurd h List.not_mem_nil, rfl, by decide, tw_156, by decide, rfl⟩, fun z => ?_⟩
      refine r_astore C d_L_repeat_13 (lv' := [(4, .ref z), (0, .ref (ad 0 0)), (1, .int z1), (2, .int z2), (3, .ref o)]) (by decide) rfl ?_
      refine r_iconst C d_L_repeat_15 (v := nI 1) rfl ?_
      have hT : tRep g z1 z2 = uK g 0 1 := by
        unfold tRep; rw [if_neg (by rw [e9]; decide)]
        rw [e9]
      subst hs
      exact r_iret C AA TY d_L_repeat_16 rfl (Nat.le_of_ble_eq_true rfl) (Nat.le_of_ble_eq_true rfl) (lw_no s w1 hm1 hF (by decide) (fun v9 T9 ⟨p, q9⟩ => by rw [q9, hT]; exact ⟨rfl, step_K A k hF⟩))
    · refine ⟨17, ⟨[⟨0, 10, 13, 15⟩], ⟨0, 10, 17, 17⟩, [], rfl, List.forall_mem_cons.mpr ⟨⟨by decide, _, tw_156, by decide, by decide⟩, fun _ h => absurd h List.not_mem_nil⟩, rfl, by decide, tw_157, by decide, rfl⟩, fun z => ?_⟩
      refine r_astore C d_L_repeat_17 (lv' := [(4, .ref z), (0, .ref (ad 0 0)), (1, .int z1), (2, .int z2), (3, .ref o)]) (by decide) rfl ?_
      refine r_iconst C d_L_repeat_19 (v := nI 2) rfl ?_
      have hT : tRep g z1 z2 = uK g 0 2 := by
        unfold tRep; rw [if_neg (by rw [e9]; decide)]
        rw [e9]
      subst hs
      exact r_iret C AA TY d_L_repeat_20 rfl (Nat.le_of_ble_eq_true rfl) (Nat.le_of_ble_eq_true rfl) (lw_no s w1 hm1 hF (by decide) (fun v9 T9 ⟨p, q9⟩ => by rw [q9, hT]; exact ⟨rfl, step_K A k hF⟩))
  · obtain ⟨g9, ⟨rfl, c0, a9, rfl, hp9⟩, hm1, hF⟩ := e9
    refine r_i2l C d_L_repeat_8 ?_
    refine r_last (f := f) C d_L_repeat_9 (hF _ _ s.1 w1.2.2) (i := 0) (by decide) (by decide) ?_
    refine r_goto C d_L_repeat_10 (tgt := 21) rfl ?_
    refine r_iconst C d_L_repeat_21 (v := nI 0) rfl ?_
    exact r_iret C AA TY d_L_repeat_22 rfl (Nat.le_of_ble_eq_true rfl) (Nat.le_of_ble_eq_true rfl) (lw_ok s w1 hm1 hF (fun v9 T9 ⟨p, q9⟩ => ⟨(by rw [q9]; show mK (tRep g z1 z2) 0 = 0; unfold tRep; rw [if_pos c0]; first | rfl | (split <;> rfl)), by rw [p, (step_repeat A k hF c0 hp9).2], by rw [q9]; exact stpO.of (step_repeat A k hF c0 hp9).1⟩))
def dl_L_keep : List (Nat × Instr × Nat) := [(0, .aload_n 1, 1), (1, .iconst 0, 1), (2, .aload_n 0, 1), (3, .invokevirtual 65, 3), (6, .i2l, 1), (7, .lastore, 1), (8, .goto 6, 3), (11, .astore_n 2, 1), (12, .iconst 1, 1), (13, .ireturn, 1), (14, .iconst 0, 1), (15, .ireturn, 1)]
theorem dc_L_keep : dnL cL_keep dl_L_keep = true := by decide +kernel
theorem d_L_keep_0 : dn cL_keep 0 (.aload_n 1) 1 1 := dnAt dc_L_keep 0 rfl rfl
theorem d_L_keep_1 : dn cL_keep 1 (.iconst 0) 1 2 := dnAt dc_L_keep 1 rfl rfl
theorem d_L_keep_2 : dn cL_keep 2 (.aload_n 0) 1 3 := dnAt dc_L_keep 2 rfl rfl
theorem d_L_keep_3 : dn cL_keep 3 (.invokevirtual 65) 3 6 := dnAt dc_L_keep 3 rfl rfl
theorem d_L_keep_6 : dn cL_keep 6 (.i2l) 1 7 := dnAt dc_L_keep 4 rfl rfl
theorem d_L_keep_7 : dn cL_keep 7 (.lastore) 1 8 := dnAt dc_L_keep 5 rfl rfl
theorem d_L_keep_8 : dn cL_keep 8 (.goto 6) 3 11 := dnAt dc_L_keep 6 rfl rfl
theorem d_L_keep_11 : dn cL_keep 11 (.astore_n 2) 1 12 := dnAt dc_L_keep 7 rfl rfl
theorem d_L_keep_12 : dn cL_keep 12 (.iconst 1) 1 13 := dnAt dc_L_keep 8 rfl rfl
theorem d_L_keep_13 : dn cL_keep 13 (.ireturn) 1 14 := dnAt dc_L_keep 9 rfl rfl
theorem d_L_keep_14 : dn cL_keep 14 (.iconst 0) 1 15 := dnAt dc_L_keep 10 rfl rfl
theorem d_L_keep_15 : dn cL_keep 15 (.ireturn) 1 16 := dnAt dc_L_keep 11 rfl rfl
set_option maxHeartbeats 4000000 in
set_option maxRecDepth 100000 in
theorem lwx_keep {l : Launch} {G : eG} {ad : Nat → Nat → Nat} {q : Nat → Nat} {o : Nat} {h : hp} {g : mS} (hlf : l.stackTraces = false) (s : lst ad q o) (w : lwo G ad q o g h) : MH l G yL_keep cL_keep 3 (Option.some Jvm.ClassFile.FieldType.int) [((0 : Nat), (8 : Nat), (11 : Nat), (17 : Nat))] { frames := 7, cells := 1, slots := 6, locals := 111 } [.ref (ad 0 0), .ref o] h (lres G ad q o g (fun v9 T9 => v9 = (some (.int (nI (rKeep g)))) ∧ T9 = tKeep g)) := by
  obtain ⟨⟨f, w1⟩, A, T, X, Y, k⟩ := w
  refine MH.ofL (by decide) (Nat.le_of_ble_eq_true rfl) ?_
  intro x LX C AA TY XH
  show VV G x 0 0 h 0 [(0, .ref (ad 0 0)), (1, .ref o)] []
  refine r_aload_n C d_L_keep_0 1 rfl ?_
  refine r_iconst C d_L_keep_1 (v := nI 0) rfl ?_
  refine r_aload_n C d_L_keep_2 0 rfl ?_
  refine r_callVH (As := []) C XH (fun l2 e2 => by rw [cxL_eq LX e2]; exact hlf) d_L_keep_3 ok_RL_65 (fun l hlf => k_keep hlf w1.1 A.1 (k.pl A.1)) (w1.1.1 0 0 rfl) rfl rfl rfl (rest := [.int (nI 0), .ref o]) rfl (Nat.le_of_ble_eq_true rfl) ⟨⟨by decide, by decide⟩, Nat.le_of_ble_eq_true rfl, Nat.le_of_ble_eq_true rfl⟩ (fun E9 h1 e9 => ?_) (fun v9 h1 e9 => ?_)
  · obtain ⟨g9, ⟨hx, hs⟩, hm1, hF⟩ := e9
    rcases hx with ⟨rfl, e9⟩
    · refine ⟨11, ⟨[], ⟨0, 8, 11, 17⟩, [], rfl, fun _ h => absurd h List.not_mem_nil, rfl, by decide, tw_157, by decide, rfl⟩, fun z => ?_⟩
      refine r_astore_n C d_L_keep_11 (lv' := [(2, .ref z), (0, .ref (ad 0 0)), (1, .ref o)]) (by decide) rfl ?_
      refine r_iconst C d_L_keep_12 (v := nI 1) rfl ?_
      have hT : tKeep g = uK g 0 1 := by
        unfold tKeep; rw [if_neg (by rw [e9]; decide)]
      subst hs
      exact r_iret C AA TY d_L_keep_13 rfl (Nat.le_of_ble_eq_true rfl) (Nat.le_of_ble_eq_true rfl) (lw_no s w1 hm1 hF (by decide) (fun v9 T9 ⟨p, q9⟩ => by rw [q9, hT]; exact ⟨rfl, step_K A k hF⟩))
  · obtain ⟨g9, ⟨rfl, c0, rfl⟩, hm1, hF⟩ := e9
    refine r_i2l C d_L_keep_6 ?_
    refine r_last (f := f) C d_L_keep_7 (hF _ _ s.1 w1.2.2) (i := 0) (by decide) (by decide) ?_
    refine r_goto C d_L_keep_8 (tgt := 14) rfl ?_
    refine r_iconst C d_L_keep_14 (v := nI 0) rfl ?_
    exact r_iret C AA TY d_L_keep_15 rfl (Nat.le_of_ble_eq_true rfl) (Nat.le_of_ble_eq_true rfl) (lw_ok s w1 hm1 hF (fun v9 T9 ⟨p, q9⟩ => ⟨(by rw [q9]; show mK (tKeep g) 0 = 0; unfold tKeep; rw [if_pos c0]; first | rfl | (split <;> rfl)), by rw [p, (show rKeep g = mK g 15 from if_pos c0)], by rw [q9]; exact step_keep A k hF c0⟩))
def dl_L_run : List (Nat × Instr × Nat) := [(0, .aload 6, 2), (2, .iconst 0, 1), (3, .aload_n 0, 1), (4, .iload_n 1, 1), (5, .iload_n 2, 1), (6, .iload_n 3, 1), (7, .iload 4, 2), (9, .iload 5, 2), (11, .invokevirtual 68, 3), (14, .i2l, 1), (15, .lastore, 1), (16, .goto 11, 3), (19, .astore 7, 2), (21, .iconst 1, 1), (22, .ireturn, 1), (23, .astore 7, 2), (25, .iconst 2, 1), (26, .ireturn, 1), (27, .iconst 0, 1), (28, .ireturn, 1)]
theorem dc_L_run : dnL cL_run dl_L_run = true := by decide +kernel
theorem d_L_run_0 : dn cL_run 0 (.aload 6) 2 2 := dnAt dc_L_run 0 rfl rfl
theorem d_L_run_2 : dn cL_run 2 (.iconst 0) 1 3 := dnAt dc_L_run 1 rfl rfl
theorem d_L_run_3 : dn cL_run 3 (.aload_n 0) 1 4 := dnAt dc_L_run 2 rfl rfl
theorem d_L_run_4 : dn cL_run 4 (.iload_n 1) 1 5 := dnAt dc_L_run 3 rfl rfl
theorem d_L_run_5 : dn cL_run 5 (.iload_n 2) 1 6 := dnAt dc_L_run 4 rfl rfl
theorem d_L_run_6 : dn cL_run 6 (.iload_n 3) 1 7 := dnAt dc_L_run 5 rfl rfl
theorem d_L_run_7 : dn cL_run 7 (.iload 4) 2 9 := dnAt dc_L_run 6 rfl rfl
theorem d_L_run_9 : dn cL_run 9 (.iload 5) 2 11 := dnAt dc_L_run 7 rfl rfl
theorem d_L_run_11 : dn cL_run 11 (.invokevirtual 68) 3 14 := dnAt dc_L_run 8 rfl rfl
theorem d_L_run_14 : dn cL_run 14 (.i2l) 1 15 := dnAt dc_L_run 9 rfl rfl
theorem d_L_run_15 : dn cL_run 15 (.lastore) 1 16 := dnAt dc_L_run 10 rfl rfl
theorem d_L_run_16 : dn cL_run 16 (.goto 11) 3 19 := dnAt dc_L_run 11 rfl rfl
theorem d_L_run_19 : dn cL_run 19 (.astore 7) 2 21 := dnAt dc_L_run 12 rfl rfl
theorem d_L_run_21 : dn cL_run 21 (.iconst 1) 1 22 := dnAt dc_L_run 13 rfl rfl
theorem d_L_run_22 : dn cL_run 22 (.ireturn) 1 23 := dnAt dc_L_run 14 rfl rfl
theorem d_L_run_23 : dn cL_run 23 (.astore 7) 2 25 := dnAt dc_L_run 15 rfl rfl
theorem d_L_run_25 : dn cL_run 25 (.iconst 2) 1 26 := dnAt dc_L_run 16 rfl rfl
theorem d_L_run_26 : dn cL_run 26 (.ireturn) 1 27 := dnAt dc_L_run 17 rfl rfl
theorem d_L_run_27 : dn cL_run 27 (.iconst 0) 1 28 := dnAt dc_L_run 18 rfl rfl
theorem d_L_run_28 : dn cL_run 28 (.ireturn) 1 29 := dnAt dc_L_run 19 rfl rfl
set_option maxHeartbeats 4000000 in
set_option maxRecDepth 100000 in
theorem lwx_run {l : Launch} {G : eG} {ad : Nat → Nat → Nat} {q : Nat → Nat} {o : Nat} {h : hp} {g : mS} {z1 : Int32} {z2 : Int32} {z3 : Int32} {z4 : Int32} {z5 : Bool} (hlf : l.stackTraces = false) (s : lst ad q o) (w : lwo G ad q o g h) : MH l G yL_run cL_run 8 (Option.some Jvm.ClassFile.FieldType.int) [((0 : Nat), (16 : Nat), (19 : Nat), (13 : Nat)), ((0 : Nat), (16 : Nat), (23 : Nat), (15 : Nat))] { frames := 8, cells := 4, slots := 24, locals := 182 } [.ref (ad 0 0), .int z1, .int z2, .int z3, .int z4, .int (bI z5), .ref o] h (lres G ad q o g (fun v9 T9 => v9 = some (.int (nI (rRun g z1 z2 z3 z4 z5))) ∧ ∃ f9, T9 = sI (tRun g z1 z2 z3 z4 z5) 19 f9)) := by
  obtain ⟨⟨f, w1⟩, A, T, X, Y, k⟩ := w
  refine MH.ofL (by decide) (Nat.le_of_ble_eq_true rfl) ?_
  intro x LX C AA TY XH
  show VV G x 0 0 h 0 [(0, .ref (ad 0 0)), (1, .int z1), (2, .int z2), (3, .int z3), (4, .int z4), (5, .int (bI z5)), (6, .ref o)] []
  refine r_aload C d_L_run_0 6 rfl ?_
  refine r_iconst C d_L_run_2 (v := nI 0) rfl ?_
  refine r_aload_n C d_L_run_3 0 rfl ?_
  refine r_iload_n C d_L_run_4 1 rfl ?_
  refine r_iload_n C d_L_run_5 2 rfl ?_
  refine r_iload_n C d_L_run_6 3 rfl ?_
  refine r_iload C d_L_run_7 4 rfl ?_
  refine r_iload C d_L_run_9 5 rfl ?_
  refine r_callVH (As := [.int z1, .int z2, .int z3, .int z4, .int (bI z5)]) C XH (fun l2 e2 => by rw [cxL_eq LX e2]; exact hlf) d_L_run_11 ok_RL_68 (fun l hlf => k_run hlf w1.1 A.1 A.2.2.2.2.1 k.pt) (w1.1.1 0 0 rfl) rfl rfl rfl (rest := [.int (nI 0), .ref o]) rfl (Nat.le_of_ble_eq_true rfl) ⟨⟨by decide, by decide⟩, Nat.le_of_ble_eq_true rfl, Nat.le_of_ble_eq_true rfl⟩ (fun E9 h1 e9 => ?_) (fun v9 h1 e9 => ?_)
  · obtain ⟨g9, ⟨hx, hs⟩, hm1, hF⟩ := e9
    rcases hx with ⟨rfl, e9⟩ | ⟨rfl, e9⟩
    · refine ⟨19, ⟨[], ⟨0, 16, 19, 13⟩, [⟨0, 16, 23, 15⟩], rfl, fun _ h => absurd h List.not_mem_nil, rfl, by decide, tw_155, by decide, rfl⟩, fun z => ?_⟩
      refine r_astore C d_L_run_19 (lv' := [(7, .ref z), (0, .ref (ad 0 0)), (1, .int z1), (2, .int z2), (3, .int z3), (4, .int z4), (5, .int (bI z5)), (6, .ref o)]) (by decide) rfl ?_
      refine r_iconst C d_L_run_21 (v := nI 1) rfl ?_
      have hT : tRun g z1 z2 z3 z4 z5 = uK g 0 1 := by
        unfold tRun; rw [if_neg (by rw [e9]; decide)]
        rw [e9]
      subst hs
      exact r_iret C AA TY d_L_run_22 rfl (Nat.le_of_ble_eq_true rfl) (Nat.le_of_ble_eq_true rfl) (lw_no s w1 hm1 hF (by decide) (fun v9 T9 ⟨p, f9, q9⟩ => by rw [q9, hT]; exact ⟨rfl, step_KI A k hF⟩))
    · refine ⟨23, ⟨[⟨0, 16, 19, 13⟩], ⟨0, 16, 23, 15⟩, [], rfl, List.forall_mem_cons.mpr ⟨⟨by decide, _, tw_155, by decide, by decide⟩, fun _ h => absurd h List.not_mem_nil⟩, rfl, by decide, tw_156, by decide, rfl⟩, fun z => ?_⟩
      refine r_astore C d_L_run_23 (lv' := [(7, .ref z), (0, .ref (ad 0 0)), (1, .int z1), (2, .int z2), (3, .int z3), (4, .int z4), (5, .int (bI z5)), (6, .ref o)]) (by decide) rfl ?_
      refine r_iconst C d_L_run_25 (v := nI 2) rfl ?_
      have hT : tRun g z1 z2 z3 z4 z5 = uK g 0 2 := by
        unfold tRun; rw [if_neg (by rw [e9]; decide)]
        rw [e9]
      subst hs
      exact r_iret C AA TY d_L_run_26 rfl (Nat.le_of_ble_eq_true rfl) (Nat.le_of_ble_eq_true rfl) (lw_no s w1 hm1 hF (by decide) (fun v9 T9 ⟨p, f9, q9⟩ => by rw [q9, hT]; exact ⟨rfl, step_KI A k hF⟩))
  · obtain ⟨g9, ⟨rfl, c0, f8, k8, b8, rfl, hq8⟩, hm1, hF⟩ := e9
    refine r_i2l C d_L_run_14 ?_
    refine r_last (f := f) C d_L_run_15 (hF _ _ s.1 w1.2.2) (i := 0) (by decide) (by decide) ?_
    refine r_goto C d_L_run_16 (tgt := 27) rfl ?_
    refine r_iconst C d_L_run_27 (v := nI 0) rfl ?_
    exact r_iret C AA TY d_L_run_28 rfl (Nat.le_of_ble_eq_true rfl) (Nat.le_of_ble_eq_true rfl) (lw_ok s w1 hm1 hF (fun v9 T9 ⟨p, f9, q9⟩ => ⟨(by rw [q9]; show mK (tRun g z1 z2 z3 z4 z5) 0 = 0; unfold tRun; rw [if_pos c0]; rfl), by rw [p, (step_run (f9 := f9) (kq := k8) (bq := b8) A k hF c0 hq8).2], by rw [q9]; exact (step_run A k hF c0 hq8).1⟩))
def dl_L_walk : List (Nat × Instr × Nat) := [(0, .aload 5, 2), (2, .iconst 0, 1), (3, .aload_n 0, 1), (4, .iload_n 1, 1), (5, .iload_n 2, 1), (6, .iload_n 3, 1), (7, .iload 4, 2), (9, .invokevirtual 72, 3), (12, .i2l, 1), (13, .lastore, 1), (14, .goto 11, 3), (17, .astore 6, 2), (19, .iconst 1, 1), (20, .ireturn, 1), (21, .astore 6, 2), (23, .iconst 2, 1), (24, .ireturn, 1), (25, .iconst 0, 1), (26, .ireturn, 1)]
theorem dc_L_walk : dnL cL_walk dl_L_walk = true := by decide +kernel
theorem d_L_walk_0 : dn cL_walk 0 (.aload 5) 2 2 := dnAt dc_L_walk 0 rfl rfl
theorem d_L_walk_2 : dn cL_walk 2 (.iconst 0) 1 3 := dnAt dc_L_walk 1 rfl rfl
theorem d_L_walk_3 : dn cL_walk 3 (.aload_n 0) 1 4 := dnAt dc_L_walk 2 rfl rfl
theorem d_L_walk_4 : dn cL_walk 4 (.iload_n 1) 1 5 := dnAt dc_L_walk 3 rfl rfl
theorem d_L_walk_5 : dn cL_walk 5 (.iload_n 2) 1 6 := dnAt dc_L_walk 4 rfl rfl
theorem d_L_walk_6 : dn cL_walk 6 (.iload_n 3) 1 7 := dnAt dc_L_walk 5 rfl rfl
theorem d_L_walk_7 : dn cL_walk 7 (.iload 4) 2 9 := dnAt dc_L_walk 6 rfl rfl
theorem d_L_walk_9 : dn cL_walk 9 (.invokevirtual 72) 3 12 := dnAt dc_L_walk 7 rfl rfl
theorem d_L_walk_12 : dn cL_walk 12 (.i2l) 1 13 := dnAt dc_L_walk 8 rfl rfl
theorem d_L_walk_13 : dn cL_walk 13 (.lastore) 1 14 := dnAt dc_L_walk 9 rfl rfl
theorem d_L_walk_14 : dn cL_walk 14 (.goto 11) 3 17 := dnAt dc_L_walk 10 rfl rfl
theorem d_L_walk_17 : dn cL_walk 17 (.astore 6) 2 19 := dnAt dc_L_walk 11 rfl rfl
theorem d_L_walk_19 : dn cL_walk 19 (.iconst 1) 1 20 := dnAt dc_L_walk 12 rfl rfl
theorem d_L_walk_20 : dn cL_walk 20 (.ireturn) 1 21 := dnAt dc_L_walk 13 rfl rfl
theorem d_L_walk_21 : dn cL_walk 21 (.astore 6) 2 23 := dnAt dc_L_walk 14 rfl rfl
theorem d_L_walk_23 : dn cL_walk 23 (.iconst 2) 1 24 := dnAt dc_L_walk 15 rfl rfl
theorem d_L_walk_24 : dn cL_walk 24 (.ireturn) 1 25 := dnAt dc_L_walk 16 rfl rfl
theorem d_L_walk_25 : dn cL_walk 25 (.iconst 0) 1 26 := dnAt dc_L_walk 17 rfl rfl
theorem d_L_walk_26 : dn cL_walk 26 (.ireturn) 1 27 := dnAt dc_L_walk 18 rfl rfl
set_option maxHeartbeats 4000000 in
set_option maxRecDepth 100000 in
theorem lwx_walk {l : Launch} {G : eG} {ad : Nat → Nat → Nat} {q : Nat → Nat} {o : Nat} {h : hp} {g : mS} {z1 : Int32} {z2 : Int32} {z3 : Int32} {z4 : Bool} (hlf : l.stackTraces = false) (s : lst ad q o) (w : lwo G ad q o g h) : MH l G yL_walk cL_walk 7 (Option.some Jvm.ClassFile.FieldType.int) [((0 : Nat), (14 : Nat), (17 : Nat), (13 : Nat)), ((0 : Nat), (14 : Nat), (21 : Nat), (15 : Nat))] { frames := 8, cells := 3, slots := 18, locals := 182 } [.ref (ad 0 0), .int z1, .int z2, .int z3, .int (bI z4), .ref o] h (lres G ad q o g (fun v9 T9 => v9 = some (.int (nI (rWalk g z1 z2 z3 z4))) ∧ ∃ f9, T9 = sI (uK g 0 (cWalk g z1 z2 z3)) 19 f9)) := by
  obtain ⟨⟨f, w1⟩, A, T, X, Y, k⟩ := w
  refine MH.ofL (by decide) (Nat.le_of_ble_eq_true rfl) ?_
  intro x LX C AA TY XH
  show VV G x 0 0 h 0 [(0, .ref (ad 0 0)), (1, .int z1), (2, .int z2), (3, .int z3), (4, .int (bI z4)), (5, .ref o)] []
  refine r_aload C d_L_walk_0 5 rfl ?_
  refine r_iconst C d_L_walk_2 (v := nI 0) rfl ?_
  refine r_aload_n C d_L_walk_3 0 rfl ?_
  refine r_iload_n C d_L_walk_4 1 rfl ?_
  refine r_iload_n C d_L_walk_5 2 rfl ?_
  refine r_iload_n C d_L_walk_6 3 rfl ?_
  refine r_iload C d_L_walk_7 4 rfl ?_
  refine r_callVH (As := [.int z1, .int z2, .int z3, .int (bI z4)]) C XH (fun l2 e2 => by rw [cxL_eq LX e2]; exact hlf) d_L_walk_9 ok_RL_72 (fun l hlf => k_walk hlf w1.1 A.1 A.2.2.2.2.1 k.pt) (w1.1.1 0 0 rfl) rfl rfl rfl (rest := [.int (nI 0), .ref o]) rfl (Nat.le_of_ble_eq_true rfl) ⟨⟨by decide, by decide⟩, Nat.le_of_ble_eq_true rfl, Nat.le_of_ble_eq_true rfl⟩ (fun E9 h1 e9 => ?_) (fun v9 h1 e9 => ?_)
  · obtain ⟨g9, ⟨hx, hs⟩, hm1, hF⟩ := e9
    rcases hx with ⟨rfl, e9⟩ | ⟨rfl, e9⟩
    · refine ⟨17, ⟨[], ⟨0, 14, 17, 13⟩, [⟨0, 14, 21, 15⟩], rfl, fun _ h => absurd h List.not_mem_nil, rfl, by decide, tw_155, by decide, rfl⟩, fun z => ?_⟩
      refine r_astore C d_L_walk_17 (lv' := [(6, .ref z), (0, .ref (ad 0 0)), (1, .int z1), (2, .int z2), (3, .int z3), (4, .int (bI z4)), (5, .ref o)]) (by decide) rfl ?_
      refine r_iconst C d_L_walk_19 (v := nI 1) rfl ?_
      subst hs
      exact r_iret C AA TY d_L_walk_20 rfl (Nat.le_of_ble_eq_true rfl) (Nat.le_of_ble_eq_true rfl) (lw_no s w1 hm1 hF (by decide) (fun v9 T9 ⟨p, f9, q9⟩ => by rw [q9, e9]; exact ⟨rfl, step_KI A k hF⟩))
    · refine ⟨21, ⟨[⟨0, 14, 17, 13⟩], ⟨0, 14, 21, 15⟩, [], rfl, List.forall_mem_cons.mpr ⟨⟨by decide, _, tw_155, by decide, by decide⟩, fun _ h => absurd h List.not_mem_nil⟩, rfl, by decide, tw_156, by decide, rfl⟩, fun z => ?_⟩
      refine r_astore C d_L_walk_21 (lv' := [(6, .ref z), (0, .ref (ad 0 0)), (1, .int z1), (2, .int z2), (3, .int z3), (4, .int (bI z4)), (5, .ref o)]) (by decide) rfl ?_
      refine r_iconst C d_L_walk_23 (v := nI 2) rfl ?_
      subst hs
      exact r_iret C AA TY d_L_walk_24 rfl (Nat.le_of_ble_eq_true rfl) (Nat.le_of_ble_eq_true rfl) (lw_no s w1 hm1 hF (by decide) (fun v9 T9 ⟨p, f9, q9⟩ => by rw [q9, e9]; exact ⟨rfl, step_KI A k hF⟩))
  · obtain ⟨g9, ⟨rfl, c0, f8, k8, b8, rfl, hq8⟩, hm1, hF⟩ := e9
    refine r_i2l C d_L_walk_12 ?_
    refine r_last (f := f) C d_L_walk_13 (hF _ _ s.1 w1.2.2) (i := 0) (by decide) (by decide) ?_
    refine r_goto C d_L_walk_14 (tgt := 25) rfl ?_
    refine r_iconst C d_L_walk_25 (v := nI 0) rfl ?_
    exact r_iret C AA TY d_L_walk_26 rfl (Nat.le_of_ble_eq_true rfl) (Nat.le_of_ble_eq_true rfl) (lw_ok s w1 hm1 hF (fun v9 T9 ⟨p, f9, q9⟩ => ⟨(by rw [q9]; exact c0), p, by rw [q9]; exact step_Kw A k hF hq8⟩))
def dl_L_join : List (Nat × Instr × Nat) := [(0, .aload 4, 2), (2, .iconst 0, 1), (3, .aload_n 0, 1), (4, .iload_n 1, 1), (5, .iload_n 2, 1), (6, .iload_n 3, 1), (7, .invokevirtual 76, 3), (10, .i2l, 1), (11, .lastore, 1), (12, .goto 15, 3), (15, .astore 5, 2), (17, .iconst 1, 1), (18, .ireturn, 1), (19, .astore 5, 2), (21, .iconst 2, 1), (22, .ireturn, 1), (23, .astore 5, 2), (25, .iconst 3, 1), (26, .ireturn, 1), (27, .iconst 0, 1), (28, .ireturn, 1)]
theorem dc_L_join : dnL cL_join dl_L_join = true := by decide +kernel
theorem d_L_join_0 : dn cL_join 0 (.aload 4) 2 2 := dnAt dc_L_join 0 rfl rfl
theorem d_L_join_2 : dn cL_join 2 (.iconst 0) 1 3 := dnAt dc_L_join 1 rfl rfl
theorem d_L_join_3 : dn cL_join 3 (.aload_n 0) 1 4 := dnAt dc_L_join 2 rfl rfl
theorem d_L_join_4 : dn cL_join 4 (.iload_n 1) 1 5 := dnAt dc_L_join 3 rfl rfl
theorem d_L_join_5 : dn cL_join 5 (.iload_n 2) 1 6 := dnAt dc_L_join 4 rfl rfl
theorem d_L_join_6 : dn cL_join 6 (.iload_n 3) 1 7 := dnAt dc_L_join 5 rfl rfl
theorem d_L_join_7 : dn cL_join 7 (.invokevirtual 76) 3 10 := dnAt dc_L_join 6 rfl rfl
theorem d_L_join_10 : dn cL_join 10 (.i2l) 1 11 := dnAt dc_L_join 7 rfl rfl
theorem d_L_join_11 : dn cL_join 11 (.lastore) 1 12 := dnAt dc_L_join 8 rfl rfl
theorem d_L_join_12 : dn cL_join 12 (.goto 15) 3 15 := dnAt dc_L_join 9 rfl rfl
theorem d_L_join_15 : dn cL_join 15 (.astore 5) 2 17 := dnAt dc_L_join 10 rfl rfl
theorem d_L_join_17 : dn cL_join 17 (.iconst 1) 1 18 := dnAt dc_L_join 11 rfl rfl
theorem d_L_join_18 : dn cL_join 18 (.ireturn) 1 19 := dnAt dc_L_join 12 rfl rfl
theorem d_L_join_19 : dn cL_join 19 (.astore 5) 2 21 := dnAt dc_L_join 13 rfl rfl
theorem d_L_join_21 : dn cL_join 21 (.iconst 2) 1 22 := dnAt dc_L_join 14 rfl rfl
theorem d_L_join_22 : dn cL_join 22 (.ireturn) 1 23 := dnAt dc_L_join 15 rfl rfl
theorem d_L_join_23 : dn cL_join 23 (.astore 5) 2 25 := dnAt dc_L_join 16 rfl rfl
theorem d_L_join_25 : dn cL_join 25 (.iconst 3) 1 26 := dnAt dc_L_join 17 rfl rfl
theorem d_L_join_26 : dn cL_join 26 (.ireturn) 1 27 := dnAt dc_L_join 18 rfl rfl
theorem d_L_join_27 : dn cL_join 27 (.iconst 0) 1 28 := dnAt dc_L_join 19 rfl rfl
theorem d_L_join_28 : dn cL_join 28 (.ireturn) 1 29 := dnAt dc_L_join 20 rfl rfl
set_option maxHeartbeats 4000000 in
set_option maxRecDepth 100000 in
theorem lwx_join {l : Launch} {G : eG} {ad : Nat → Nat → Nat} {q : Nat → Nat} {o : Nat} {h : hp} {g : mS} {z1 : Int32} {z2 : Int32} {z3 : Int32} (hlf : l.stackTraces = false) (s : lst ad q o) (w : lwo G ad q o g h) : MH l G yL_join cL_join 6 (Option.some Jvm.ClassFile.FieldType.int) [((0 : Nat), (12 : Nat), (15 : Nat), (13 : Nat)), ((0 : Nat), (12 : Nat), (19 : Nat), (15 : Nat)), ((0 : Nat), (12 : Nat), (23 : Nat), (17 : Nat))] { frames := 8, cells := 4, slots := 24, locals := 138 } [.ref (ad 0 0), .int z1, .int z2, .int z3, .ref o] h (lres G ad q o g (fun v9 T9 => v9 = (some (.int (nI (rJoin g z1 z2 z3)))) ∧ T9 = tJoin g z1 z2 z3)) := by
  obtain ⟨⟨f, w1⟩, A, T, X, Y, k⟩ := w
  refine MH.ofL (by decide) (Nat.le_of_ble_eq_true rfl) ?_
  intro x LX C AA TY XH
  show VV G x 0 0 h 0 [(0, .ref (ad 0 0)), (1, .int z1), (2, .int z2), (3, .int z3), (4, .ref o)] []
  refine r_aload C d_L_join_0 4 rfl ?_
  refine r_iconst C d_L_join_2 (v := nI 0) rfl ?_
  refine r_aload_n C d_L_join_3 0 rfl ?_
  refine r_iload_n C d_L_join_4 1 rfl ?_
  refine r_iload_n C d_L_join_5 2 rfl ?_
  refine r_iload_n C d_L_join_6 3 rfl ?_
  refine r_callVH (As := [.int z1, .int z2, .int z3]) C XH (fun l2 e2 => by rw [cxL_eq LX e2]; exact hlf) d_L_join_7 ok_RL_76 (fun l hlf => k_join hlf w1.1 A.1 A.2.1) (w1.1.1 0 0 rfl) rfl rfl rfl (rest := [.int (nI 0), .ref o]) rfl (Nat.le_of_ble_eq_true rfl) ⟨⟨by decide, by decide⟩, Nat.le_of_ble_eq_true rfl, Nat.le_of_ble_eq_true rfl⟩ (fun E9 h1 e9 => ?_) (fun v9 h1 e9 => ?_)
  · obtain ⟨g9, ⟨hx, hs⟩, hm1, hF⟩ := e9
    rcases hx with ⟨rfl, e9⟩ | ⟨rfl, e9⟩ | ⟨rfl, e9⟩
    · refine ⟨15, ⟨[], ⟨0, 12, 15, 13⟩, [⟨0, 12, 19, 15⟩, ⟨0, 12, 23, 17⟩], rfl, fun _ h => absurd h List.not_mem_nil, rfl, by decide, tw_155, by decide, rfl⟩, fun z => ?_⟩
      refine r_astore C d_L_join_15 (lv' := [(5, .ref z), (0, .ref (ad 0 0)), (1, .int z1), (2, .int z2), (3, .int z3), (4, .ref o)]) (by decide) rfl ?_
      refine r_iconst C d_L_join_17 (v := nI 1) rfl ?_
      have hT : tJoin g z1 z2 z3 = uK g 0 1 := by
        unfold tJoin; rw [if_neg (by rw [e9]; decide)]
        rw [e9]
      subst hs
      exact r_iret C AA TY d_L_join_18 rfl (Nat.le_of_ble_eq_true rfl) (Nat.le_of_ble_eq_true rfl) (lw_no s w1 hm1 hF (by decide) (fun v9 T9 ⟨p, q9⟩ => by rw [q9, hT]; exact ⟨rfl, step_K A k hF⟩))
    · refine ⟨19, ⟨[⟨0, 12, 15, 13⟩], ⟨0, 12, 19, 15⟩, [⟨0, 12, 23, 17⟩], rfl, List.forall_mem_cons.mpr ⟨⟨by decide, _, tw_155, by decide, by decide⟩, fun _ h => absurd h List.not_mem_nil⟩, rfl, by decide, tw_156, by decide, rfl⟩, fun z => ?_⟩
      refine r_astore C d_L_join_19 (lv' := [(5, .ref z), (0, .ref (ad 0 0)), (1, .int z1), (2, .int z2), (3, .int z3), (4, .ref o)]) (by decide) rfl ?_
      refine r_iconst C d_L_join_21 (v := nI 2) rfl ?_
      have hT : tJoin g z1 z2 z3 = uK g 0 2 := by
        unfold tJoin; rw [if_neg (by rw [e9]; decide)]
        rw [e9]
      subst hs
      exact r_iret C AA TY d_L_join_22 rfl (Nat.le_of_ble_eq_true rfl) (Nat.le_of_ble_eq_true rfl) (lw_no s w1 hm1 hF (by decide) (fun v9 T9 ⟨p, q9⟩ => by rw [q9, hT]; exact ⟨rfl, step_K A k hF⟩))
    · refine ⟨23, ⟨[⟨0, 12, 15, 13⟩, ⟨0, 12, 19, 15⟩], ⟨0, 12, 23, 17⟩, [], rfl, List.forall_mem_cons.mpr ⟨⟨by decide, _, tw_155, by decide, by decide⟩, List.forall_mem_cons.mpr ⟨⟨by decide, _, tw_156, by decide, by decide⟩, fun _ h => absurd h List.not_mem_nil⟩⟩, rfl, by decide, tw_157, by decide, rfl⟩, fun z => ?_⟩
      refine r_astore C d_L_join_23 (lv' := [(5, .ref z), (0, .ref (ad 0 0)), (1, .int z1), (2, .int z2), (3, .int z3), (4, .ref o)]) (by decide) rfl ?_
      refine r_iconst C d_L_join_25 (v := nI 3) rfl ?_
      have hT : tJoin g z1 z2 z3 = uK g 0 3 := by
        unfold tJoin; rw [if_neg (by rw [e9]; decide)]
        rw [e9]
      subst hs
      exact r_iret C AA TY d_L_join_26 rfl (Nat.le_of_ble_eq_true rfl) (Nat.le_of_ble_eq_true rfl) (lw_no s w1 hm1 hF (by decide) (fun v9 T9 ⟨p, q9⟩ => by rw [q9, hT]; exact ⟨rfl, step_K A k hF⟩))
  · obtain ⟨g9, ⟨rfl, rfl, c0⟩, hm1, hF⟩ := e9
    refine r_i2l C d_L_join_10 ?_
    refine r_last (f := f) C d_L_join_11 (hF _ _ s.1 w1.2.2) (i := 0) (by decide) (by decide) ?_
    refine r_goto C d_L_join_12 (tgt := 27) rfl ?_
    refine r_iconst C d_L_join_27 (v := nI 0) rfl ?_
    exact r_iret C AA TY d_L_join_28 rfl (Nat.le_of_ble_eq_true rfl) (Nat.le_of_ble_eq_true rfl) (lw_ok s w1 hm1 hF (fun v9 T9 ⟨p, q9⟩ => ⟨(by rw [q9]; show mK (tJoin g z1 z2 z3) 0 = 0; unfold tJoin; rw [if_pos c0]; first | rfl | (split <;> rfl)), p, by rw [q9]; exact step_join A k hF c0⟩))
def dl_L_thin : List (Nat × Instr × Nat) := [(0, .aload_n 2, 1), (1, .iconst 0, 1), (2, .aload_n 0, 1), (3, .iload_n 1, 1), (4, .invokevirtual 79, 3), (7, .i2l, 1), (8, .lastore, 1), (9, .goto 6, 3), (12, .astore_n 3, 1), (13, .iconst 1, 1), (14, .ireturn, 1), (15, .iconst 0, 1), (16, .ireturn, 1)]
theorem dc_L_thin : dnL cL_thin dl_L_thin = true := by decide +kernel
theorem d_L_thin_0 : dn cL_thin 0 (.aload_n 2) 1 1 := dnAt dc_L_thin 0 rfl rfl
theorem d_L_thin_1 : dn cL_thin 1 (.iconst 0) 1 2 := dnAt dc_L_thin 1 rfl rfl
theorem d_L_thin_2 : dn cL_thin 2 (.aload_n 0) 1 3 := dnAt dc_L_thin 2 rfl rfl
theorem d_L_thin_3 : dn cL_thin 3 (.iload_n 1) 1 4 := dnAt dc_L_thin 3 rfl rfl
theorem d_L_thin_4 : dn cL_thin 4 (.invokevirtual 79) 3 7 := dnAt dc_L_thin 4 rfl rfl
theorem d_L_thin_7 : dn cL_thin 7 (.i2l) 1 8 := dnAt dc_L_thin 5 rfl rfl
theorem d_L_thin_8 : dn cL_thin 8 (.lastore) 1 9 := dnAt dc_L_thin 6 rfl rfl
theorem d_L_thin_9 : dn cL_thin 9 (.goto 6) 3 12 := dnAt dc_L_thin 7 rfl rfl
theorem d_L_thin_12 : dn cL_thin 12 (.astore_n 3) 1 13 := dnAt dc_L_thin 8 rfl rfl
theorem d_L_thin_13 : dn cL_thin 13 (.iconst 1) 1 14 := dnAt dc_L_thin 9 rfl rfl
theorem d_L_thin_14 : dn cL_thin 14 (.ireturn) 1 15 := dnAt dc_L_thin 10 rfl rfl
theorem d_L_thin_15 : dn cL_thin 15 (.iconst 0) 1 16 := dnAt dc_L_thin 11 rfl rfl
theorem d_L_thin_16 : dn cL_thin 16 (.ireturn) 1 17 := dnAt dc_L_thin 12 rfl rfl
set_option maxHeartbeats 4000000 in
set_option maxRecDepth 100000 in
theorem lwx_thin {l : Launch} {G : eG} {ad : Nat → Nat → Nat} {q : Nat → Nat} {o : Nat} {h : hp} {g : mS} {z1 : Int32} (hlf : l.stackTraces = false) (s : lst ad q o) (w : lwo G ad q o g h) : MH l G yL_thin cL_thin 4 (Option.some Jvm.ClassFile.FieldType.int) [((0 : Nat), (9 : Nat), (12 : Nat), (13 : Nat))] { frames := 8, cells := 1, slots := 6, locals := 136 } [.ref (ad 0 0), .int z1, .ref o] h (lres G ad q o g (fun v9 T9 => v9 = (some (.int (nI (rThin g z1)))) ∧ T9 = tThin g z1)) := by
  obtain ⟨⟨f, w1⟩, A, T, X, Y, k⟩ := w
  refine MH.ofL (by decide) (Nat.le_of_ble_eq_true rfl) ?_
  intro x LX C AA TY XH
  show VV G x 0 0 h 0 [(0, .ref (ad 0 0)), (1, .int z1), (2, .ref o)] []
  refine r_aload_n C d_L_thin_0 2 rfl ?_
  refine r_iconst C d_L_thin_1 (v := nI 0) rfl ?_
  refine r_aload_n C d_L_thin_2 0 rfl ?_
  refine r_iload_n C d_L_thin_3 1 rfl ?_
  refine r_callVH (As := [.int z1]) C XH (fun l2 e2 => by rw [cxL_eq LX e2]; exact hlf) d_L_thin_4 ok_RL_79 (fun l hlf => k_thin hlf w1.1 A.1 A.2.1) (w1.1.1 0 0 rfl) rfl rfl rfl (rest := [.int (nI 0), .ref o]) rfl (Nat.le_of_ble_eq_true rfl) ⟨⟨by decide, by decide⟩, Nat.le_of_ble_eq_true rfl, Nat.le_of_ble_eq_true rfl⟩ (fun E9 h1 e9 => ?_) (fun v9 h1 e9 => ?_)
  · obtain ⟨g9, ⟨hx, hs⟩, hm1, hF⟩ := e9
    rcases hx with ⟨rfl, e9⟩
    · refine ⟨12, ⟨[], ⟨0, 9, 12, 13⟩, [], rfl, fun _ h => absurd h List.not_mem_nil, rfl, by decide, tw_155, by decide, rfl⟩, fun z => ?_⟩
      refine r_astore_n C d_L_thin_12 (lv' := [(3, .ref z), (0, .ref (ad 0 0)), (1, .int z1), (2, .ref o)]) (by decide) rfl ?_
      refine r_iconst C d_L_thin_13 (v := nI 1) rfl ?_
      have hT : tThin g z1 = uK g 0 1 := by
        unfold tThin; rw [if_neg (fun z => by rw [cWR, if_pos z] at e9; cases e9)]
      subst hs
      exact r_iret C AA TY d_L_thin_14 rfl (Nat.le_of_ble_eq_true rfl) (Nat.le_of_ble_eq_true rfl) (lw_no s w1 hm1 hF (by decide) (fun v9 T9 ⟨p, q9⟩ => by rw [q9, hT]; exact ⟨rfl, step_K A k hF⟩))
  · obtain ⟨g9, ⟨rfl, rfl, c0⟩, hm1, hF⟩ := e9
    refine r_i2l C d_L_thin_7 ?_
    refine r_last (f := f) C d_L_thin_8 (hF _ _ s.1 w1.2.2) (i := 0) (by decide) (by decide) ?_
    refine r_goto C d_L_thin_9 (tgt := 15) rfl ?_
    refine r_iconst C d_L_thin_15 (v := nI 0) rfl ?_
    exact r_iret C AA TY d_L_thin_16 rfl (Nat.le_of_ble_eq_true rfl) (Nat.le_of_ble_eq_true rfl) (lw_ok s w1 hm1 hF (fun v9 T9 ⟨p, q9⟩ => ⟨(by rw [q9]; show mK (tThin g z1) 0 = 0; unfold tThin; rw [if_pos c0]; first | rfl | (split <;> rfl)), p, by rw [q9]; exact step_thin A k hF c0⟩))
def dl_L_aligned : List (Nat × Instr × Nat) := [(0, .aload 4, 2), (2, .iconst 0, 1), (3, .aload_n 0, 1), (4, .iload_n 1, 1), (5, .iload_n 2, 1), (6, .iload_n 3, 1), (7, .invokevirtual 82, 3), (10, .i2l, 1), (11, .lastore, 1), (12, .goto 7, 3), (15, .astore 5, 2), (17, .iconst 1, 1), (18, .ireturn, 1), (19, .iconst 0, 1), (20, .ireturn, 1)]
theorem dc_L_aligned : dnL cL_aligned dl_L_aligned = true := by decide +kernel
theorem d_L_aligned_0 : dn cL_aligned 0 (.aload 4) 2 2 := dnAt dc_L_aligned 0 rfl rfl
theorem d_L_aligned_2 : dn cL_aligned 2 (.iconst 0) 1 3 := dnAt dc_L_aligned 1 rfl rfl
theorem d_L_aligned_3 : dn cL_aligned 3 (.aload_n 0) 1 4 := dnAt dc_L_aligned 2 rfl rfl
theorem d_L_aligned_4 : dn cL_aligned 4 (.iload_n 1) 1 5 := dnAt dc_L_aligned 3 rfl rfl
theorem d_L_aligned_5 : dn cL_aligned 5 (.iload_n 2) 1 6 := dnAt dc_L_aligned 4 rfl rfl
theorem d_L_aligned_6 : dn cL_aligned 6 (.iload_n 3) 1 7 := dnAt dc_L_aligned 5 rfl rfl
theorem d_L_aligned_7 : dn cL_aligned 7 (.invokevirtual 82) 3 10 := dnAt dc_L_aligned 6 rfl rfl
theorem d_L_aligned_10 : dn cL_aligned 10 (.i2l) 1 11 := dnAt dc_L_aligned 7 rfl rfl
theorem d_L_aligned_11 : dn cL_aligned 11 (.lastore) 1 12 := dnAt dc_L_aligned 8 rfl rfl
theorem d_L_aligned_12 : dn cL_aligned 12 (.goto 7) 3 15 := dnAt dc_L_aligned 9 rfl rfl
theorem d_L_aligned_15 : dn cL_aligned 15 (.astore 5) 2 17 := dnAt dc_L_aligned 10 rfl rfl
theorem d_L_aligned_17 : dn cL_aligned 17 (.iconst 1) 1 18 := dnAt dc_L_aligned 11 rfl rfl
theorem d_L_aligned_18 : dn cL_aligned 18 (.ireturn) 1 19 := dnAt dc_L_aligned 12 rfl rfl
theorem d_L_aligned_19 : dn cL_aligned 19 (.iconst 0) 1 20 := dnAt dc_L_aligned 13 rfl rfl
theorem d_L_aligned_20 : dn cL_aligned 20 (.ireturn) 1 21 := dnAt dc_L_aligned 14 rfl rfl
set_option maxHeartbeats 4000000 in
set_option maxRecDepth 100000 in
theorem lwx_aligned {l : Launch} {G : eG} {ad : Nat → Nat → Nat} {q : Nat → Nat} {o : Nat} {h : hp} {g : mS} {z1 : Int32} {z2 : Int32} {z3 : Bool} (hlf : l.stackTraces = false) (s : lst ad q o) (w : lwo G ad q o g h) : MH l G yL_aligned cL_aligned 6 (Option.some Jvm.ClassFile.FieldType.int) [((0 : Nat), (12 : Nat), (15 : Nat), (13 : Nat))] { frames := 8, cells := 2, slots := 12, locals := 209 } [.ref (ad 0 0), .int z1, .int z2, .int (bI z3), .ref o] h (lres G ad q o g (fun v9 T9 => v9 = some (.int (nI (rAl g z1 z2 z3))) ∧ ∃ f9, T9 = sI (tAl g z1 z2 z3) 19 f9)) := by
  obtain ⟨⟨f, w1⟩, A, T, X, Y, k⟩ := w
  refine MH.ofL (by decide) (Nat.le_of_ble_eq_true rfl) ?_
  intro x LX C AA TY XH
  show VV G x 0 0 h 0 [(0, .ref (ad 0 0)), (1, .int z1), (2, .int z2), (3, .int (bI z3)), (4, .ref o)] []
  refine r_aload C d_L_aligned_0 4 rfl ?_
  refine r_iconst C d_L_aligned_2 (v := nI 0) rfl ?_
  refine r_aload_n C d_L_aligned_3 0 rfl ?_
  refine r_iload_n C d_L_aligned_4 1 rfl ?_
  refine r_iload_n C d_L_aligned_5 2 rfl ?_
  refine r_iload_n C d_L_aligned_6 3 rfl ?_
  refine r_callVH (As := [.int z1, .int z2, .int (bI z3)]) C XH (fun l2 e2 => by rw [cxL_eq LX e2]; exact hlf) d_L_aligned_7 ok_RL_82 (fun l hlf => k_aligned hlf w1.1 A.1 A.2.1 A.2.2.1 A.2.2.2.1 A.2.2.2.2.1 k.pt) (w1.1.1 0 0 rfl) rfl rfl rfl (rest := [.int (nI 0), .ref o]) rfl (Nat.le_of_ble_eq_true rfl) ⟨⟨by decide, by decide⟩, Nat.le_of_ble_eq_true rfl, Nat.le_of_ble_eq_true rfl⟩ (fun E9 h1 e9 => ?_) (fun v9 h1 e9 => ?_)
  · obtain ⟨g9, ⟨hx, hs⟩, hm1, hF⟩ := e9
    rcases hx with ⟨rfl, e9⟩
    · refine ⟨15, ⟨[], ⟨0, 12, 15, 13⟩, [], rfl, fun _ h => absurd h List.not_mem_nil, rfl, by decide, tw_155, by decide, rfl⟩, fun z => ?_⟩
      refine r_astore C d_L_aligned_15 (lv' := [(5, .ref z), (0, .ref (ad 0 0)), (1, .int z1), (2, .int z2), (3, .int (bI z3)), (4, .ref o)]) (by decide) rfl ?_
      refine r_iconst C d_L_aligned_17 (v := nI 1) rfl ?_
      have hT : tAl g z1 z2 z3 = uK g 0 1 := by
        unfold tAl; rw [if_neg (by rw [e9]; decide)]
      subst hs
      exact r_iret C AA TY d_L_aligned_18 rfl (Nat.le_of_ble_eq_true rfl) (Nat.le_of_ble_eq_true rfl) (lw_no s w1 hm1 hF (by decide) (fun v9 T9 ⟨p, f9, q9⟩ => by rw [q9, hT]; exact ⟨rfl, step_KI A k hF⟩))
  · obtain ⟨g9, ⟨rfl, c0, f8, k8, b8, rfl, hq8⟩, hm1, hF⟩ := e9
    refine r_i2l C d_L_aligned_10 ?_
    refine r_last (f := f) C d_L_aligned_11 (hF _ _ s.1 w1.2.2) (i := 0) (by decide) (by decide) ?_
    refine r_goto C d_L_aligned_12 (tgt := 19) rfl ?_
    refine r_iconst C d_L_aligned_19 (v := nI 0) rfl ?_
    exact r_iret C AA TY d_L_aligned_20 rfl (Nat.le_of_ble_eq_true rfl) (Nat.le_of_ble_eq_true rfl) (lw_ok s w1 hm1 hF (fun v9 T9 ⟨p, f9, q9⟩ => ⟨(by rw [q9]; show mK (tAl g z1 z2 z3) 0 = 0; unfold tAl; rw [if_pos c0]; rfl), p, by rw [q9]; exact step_aligned A k hF c0 hq8⟩))
def dl_L_drop : List (Nat × Instr × Nat) := [(0, .aload_n 2, 1), (1, .iconst 0, 1), (2, .aload_n 0, 1), (3, .iload_n 1, 1), (4, .invokevirtual 85, 3), (7, .i2l, 1), (8, .lastore, 1), (9, .goto 6, 3), (12, .astore_n 3, 1), (13, .iconst 1, 1), (14, .ireturn, 1), (15, .iconst 0, 1), (16, .ireturn, 1)]
theorem dc_L_drop : dnL cL_drop dl_L_drop = true := by decide +kernel
theorem d_L_drop_0 : dn cL_drop 0 (.aload_n 2) 1 1 := dnAt dc_L_drop 0 rfl rfl
theorem d_L_drop_1 : dn cL_drop 1 (.iconst 0) 1 2 := dnAt dc_L_drop 1 rfl rfl
theorem d_L_drop_2 : dn cL_drop 2 (.aload_n 0) 1 3 := dnAt dc_L_drop 2 rfl rfl
theorem d_L_drop_3 : dn cL_drop 3 (.iload_n 1) 1 4 := dnAt dc_L_drop 3 rfl rfl
theorem d_L_drop_4 : dn cL_drop 4 (.invokevirtual 85) 3 7 := dnAt dc_L_drop 4 rfl rfl
theorem d_L_drop_7 : dn cL_drop 7 (.i2l) 1 8 := dnAt dc_L_drop 5 rfl rfl
theorem d_L_drop_8 : dn cL_drop 8 (.lastore) 1 9 := dnAt dc_L_drop 6 rfl rfl
theorem d_L_drop_9 : dn cL_drop 9 (.goto 6) 3 12 := dnAt dc_L_drop 7 rfl rfl
theorem d_L_drop_12 : dn cL_drop 12 (.astore_n 3) 1 13 := dnAt dc_L_drop 8 rfl rfl
theorem d_L_drop_13 : dn cL_drop 13 (.iconst 1) 1 14 := dnAt dc_L_drop 9 rfl rfl
theorem d_L_drop_14 : dn cL_drop 14 (.ireturn) 1 15 := dnAt dc_L_drop 10 rfl rfl
theorem d_L_drop_15 : dn cL_drop 15 (.iconst 0) 1 16 := dnAt dc_L_drop 11 rfl rfl
theorem d_L_drop_16 : dn cL_drop 16 (.ireturn) 1 17 := dnAt dc_L_drop 12 rfl rfl
set_option maxHeartbeats 4000000 in
set_option maxRecDepth 100000 in
theorem lwx_drop {l : Launch} {G : eG} {ad : Nat → Nat → Nat} {q : Nat → Nat} {o : Nat} {h : hp} {g : mS} {z1 : Int32} (hlf : l.stackTraces = false) (s : lst ad q o) (w : lwo G ad q o g h) : MH l G yL_drop cL_drop 4 (Option.some Jvm.ClassFile.FieldType.int) [((0 : Nat), (9 : Nat), (12 : Nat), (13 : Nat))] { frames := 8, cells := 1, slots := 6, locals := 133 } [.ref (ad 0 0), .int z1, .ref o] h (lres G ad q o g (fun v9 T9 => v9 = (some (.int (nI (rDrop g z1)))) ∧ T9 = tDrop g z1)) := by
  obtain ⟨⟨f, w1⟩, A, T, X, Y, k⟩ := w
  refine MH.ofL (by decide) (Nat.le_of_ble_eq_true rfl) ?_
  intro x LX C AA TY XH
  show VV G x 0 0 h 0 [(0, .ref (ad 0 0)), (1, .int z1), (2, .ref o)] []
  refine r_aload_n C d_L_drop_0 2 rfl ?_
  refine r_iconst C d_L_drop_1 (v := nI 0) rfl ?_
  refine r_aload_n C d_L_drop_2 0 rfl ?_
  refine r_iload_n C d_L_drop_3 1 rfl ?_
  refine r_callVH (As := [.int z1]) C XH (fun l2 e2 => by rw [cxL_eq LX e2]; exact hlf) d_L_drop_4 ok_RL_85 (fun l hlf => k_drop hlf w1.1 A.1 A.2.1) (w1.1.1 0 0 rfl) rfl rfl rfl (rest := [.int (nI 0), .ref o]) rfl (Nat.le_of_ble_eq_true rfl) ⟨⟨by decide, by decide⟩, Nat.le_of_ble_eq_true rfl, Nat.le_of_ble_eq_true rfl⟩ (fun E9 h1 e9 => ?_) (fun v9 h1 e9 => ?_)
  · obtain ⟨g9, ⟨hx, hs⟩, hm1, hF⟩ := e9
    rcases hx with ⟨rfl, e9⟩
    · refine ⟨12, ⟨[], ⟨0, 9, 12, 13⟩, [], rfl, fun _ h => absurd h List.not_mem_nil, rfl, by decide, tw_155, by decide, rfl⟩, fun z => ?_⟩
      refine r_astore_n C d_L_drop_12 (lv' := [(3, .ref z), (0, .ref (ad 0 0)), (1, .int z1), (2, .ref o)]) (by decide) rfl ?_
      refine r_iconst C d_L_drop_13 (v := nI 1) rfl ?_
      have hT : tDrop g z1 = uK g 0 1 := by
        unfold tDrop; rw [if_neg (fun z => by rw [cWR, if_pos z] at e9; cases e9)]
      subst hs
      exact r_iret C AA TY d_L_drop_14 rfl (Nat.le_of_ble_eq_true rfl) (Nat.le_of_ble_eq_true rfl) (lw_no s w1 hm1 hF (by decide) (fun v9 T9 ⟨p, q9⟩ => by rw [q9, hT]; exact ⟨rfl, step_K A k hF⟩))
  · obtain ⟨g9, ⟨rfl, rfl, c0⟩, hm1, hF⟩ := e9
    refine r_i2l C d_L_drop_7 ?_
    refine r_last (f := f) C d_L_drop_8 (hF _ _ s.1 w1.2.2) (i := 0) (by decide) (by decide) ?_
    refine r_goto C d_L_drop_9 (tgt := 15) rfl ?_
    refine r_iconst C d_L_drop_15 (v := nI 0) rfl ?_
    exact r_iret C AA TY d_L_drop_16 rfl (Nat.le_of_ble_eq_true rfl) (Nat.le_of_ble_eq_true rfl) (lw_ok s w1 hm1 hF (fun v9 T9 ⟨p, q9⟩ => ⟨(by rw [q9]; show mK (tDrop g z1) 0 = 0; unfold tDrop; rw [if_pos c0]; first | rfl | (split <;> rfl)), p, by rw [q9]; exact step_drop A k hF c0⟩))
def dl_L_match : List (Nat × Instr × Nat) := [(0, .aload_n 3, 1), (1, .iconst 0, 1), (2, .aload_n 0, 1), (3, .iload_n 1, 1), (4, .iload_n 2, 1), (5, .invokevirtual 88, 3), (8, .i2l, 1), (9, .lastore, 1), (10, .goto 7, 3), (13, .astore 4, 2), (15, .iconst 1, 1), (16, .ireturn, 1), (17, .iconst 0, 1), (18, .ireturn, 1)]
theorem dc_L_match : dnL cL_match dl_L_match = true := by decide +kernel
theorem d_L_match_0 : dn cL_match 0 (.aload_n 3) 1 1 := dnAt dc_L_match 0 rfl rfl
theorem d_L_match_1 : dn cL_match 1 (.iconst 0) 1 2 := dnAt dc_L_match 1 rfl rfl
theorem d_L_match_2 : dn cL_match 2 (.aload_n 0) 1 3 := dnAt dc_L_match 2 rfl rfl
theorem d_L_match_3 : dn cL_match 3 (.iload_n 1) 1 4 := dnAt dc_L_match 3 rfl rfl
theorem d_L_match_4 : dn cL_match 4 (.iload_n 2) 1 5 := dnAt dc_L_match 4 rfl rfl
theorem d_L_match_5 : dn cL_match 5 (.invokevirtual 88) 3 8 := dnAt dc_L_match 5 rfl rfl
theorem d_L_match_8 : dn cL_match 8 (.i2l) 1 9 := dnAt dc_L_match 6 rfl rfl
theorem d_L_match_9 : dn cL_match 9 (.lastore) 1 10 := dnAt dc_L_match 7 rfl rfl
theorem d_L_match_10 : dn cL_match 10 (.goto 7) 3 13 := dnAt dc_L_match 8 rfl rfl
theorem d_L_match_13 : dn cL_match 13 (.astore 4) 2 15 := dnAt dc_L_match 9 rfl rfl
theorem d_L_match_15 : dn cL_match 15 (.iconst 1) 1 16 := dnAt dc_L_match 10 rfl rfl
theorem d_L_match_16 : dn cL_match 16 (.ireturn) 1 17 := dnAt dc_L_match 11 rfl rfl
theorem d_L_match_17 : dn cL_match 17 (.iconst 0) 1 18 := dnAt dc_L_match 12 rfl rfl
theorem d_L_match_18 : dn cL_match 18 (.ireturn) 1 19 := dnAt dc_L_match 13 rfl rfl
set_option maxHeartbeats 4000000 in
set_option maxRecDepth 100000 in
theorem lwx_match {l : Launch} {G : eG} {ad : Nat → Nat → Nat} {q : Nat → Nat} {o : Nat} {h : hp} {g : mS} {z1 : Int32} {z2 : Int32} (hlf : l.stackTraces = false) (s : lst ad q o) (w : lwo G ad q o g h) : MH l G yL_match cL_match 5 (Option.some Jvm.ClassFile.FieldType.int) [((0 : Nat), (10 : Nat), (13 : Nat), (13 : Nat))] { frames := 8, cells := 2, slots := 12, locals := 137 } [.ref (ad 0 0), .int z1, .int z2, .ref o] h (lres G ad q o g (fun v9 T9 => v9 = (some (.int (nI (rMatch g z1 z2)))) ∧ T9 = uK g 0 (cMatch g z1 z2))) := by
  obtain ⟨⟨f, w1⟩, A, T, X, Y, k⟩ := w
  refine MH.ofL (by decide) (Nat.le_of_ble_eq_true rfl) ?_
  intro x LX C AA TY XH
  show VV G x 0 0 h 0 [(0, .ref (ad 0 0)), (1, .int z1), (2, .int z2), (3, .ref o)] []
  refine r_aload_n C d_L_match_0 3 rfl ?_
  refine r_iconst C d_L_match_1 (v := nI 0) rfl ?_
  refine r_aload_n C d_L_match_2 0 rfl ?_
  refine r_iload_n C d_L_match_3 1 rfl ?_
  refine r_iload_n C d_L_match_4 2 rfl ?_
  refine r_callVH (As := [.int z1, .int z2]) C XH (fun l2 e2 => by rw [cxL_eq LX e2]; exact hlf) d_L_match_5 ok_RL_88 (fun l hlf => k_match hlf w1.1 A.1 A.2.1) (w1.1.1 0 0 rfl) rfl rfl rfl (rest := [.int (nI 0), .ref o]) rfl (Nat.le_of_ble_eq_true rfl) ⟨⟨by decide, by decide⟩, Nat.le_of_ble_eq_true rfl, Nat.le_of_ble_eq_true rfl⟩ (fun E9 h1 e9 => ?_) (fun v9 h1 e9 => ?_)
  · obtain ⟨g9, ⟨hx, hs⟩, hm1, hF⟩ := e9
    rcases hx with ⟨rfl, e9⟩
    · refine ⟨13, ⟨[], ⟨0, 10, 13, 13⟩, [], rfl, fun _ h => absurd h List.not_mem_nil, rfl, by decide, tw_155, by decide, rfl⟩, fun z => ?_⟩
      refine r_astore C d_L_match_13 (lv' := [(4, .ref z), (0, .ref (ad 0 0)), (1, .int z1), (2, .int z2), (3, .ref o)]) (by decide) rfl ?_
      refine r_iconst C d_L_match_15 (v := nI 1) rfl ?_
      subst hs
      exact r_iret C AA TY d_L_match_16 rfl (Nat.le_of_ble_eq_true rfl) (Nat.le_of_ble_eq_true rfl) (lw_no s w1 hm1 hF (by decide) (fun v9 T9 ⟨p, q9⟩ => by rw [q9, e9]; exact ⟨rfl, step_K A k hF⟩))
  · obtain ⟨g9, ⟨rfl, rfl, c0⟩, hm1, hF⟩ := e9
    refine r_i2l C d_L_match_8 ?_
    refine r_last (f := f) C d_L_match_9 (hF _ _ s.1 w1.2.2) (i := 0) (by decide) (by decide) ?_
    refine r_goto C d_L_match_10 (tgt := 17) rfl ?_
    refine r_iconst C d_L_match_17 (v := nI 0) rfl ?_
    exact r_iret C AA TY d_L_match_18 rfl (Nat.le_of_ble_eq_true rfl) (Nat.le_of_ble_eq_true rfl) (lw_ok s w1 hm1 hF (fun v9 T9 ⟨p, q9⟩ => ⟨(by rw [q9]; exact c0), p, by rw [q9]; exact step_K A k hF⟩))
def dl_L_groups : List (Nat × Instr × Nat) := [(0, .aload 4, 2), (2, .iconst 0, 1), (3, .aload_n 0, 1), (4, .iload_n 1, 1), (5, .iload_n 2, 1), (6, .iload_n 3, 1), (7, .invokevirtual 91, 3), (10, .i2l, 1), (11, .lastore, 1), (12, .goto 11, 3), (15, .astore 5, 2), (17, .iconst 1, 1), (18, .ireturn, 1), (19, .astore 5, 2), (21, .iconst 2, 1), (22, .ireturn, 1), (23, .iconst 0, 1), (24, .ireturn, 1)]
theorem dc_L_groups : dnL cL_groups dl_L_groups = true := by decide +kernel
theorem d_L_groups_0 : dn cL_groups 0 (.aload 4) 2 2 := dnAt dc_L_groups 0 rfl rfl
theorem d_L_groups_2 : dn cL_groups 2 (.iconst 0) 1 3 := dnAt dc_L_groups 1 rfl rfl
theorem d_L_groups_3 : dn cL_groups 3 (.aload_n 0) 1 4 := dnAt dc_L_groups 2 rfl rfl
theorem d_L_groups_4 : dn cL_groups 4 (.iload_n 1) 1 5 := dnAt dc_L_groups 3 rfl rfl
theorem d_L_groups_5 : dn cL_groups 5 (.iload_n 2) 1 6 := dnAt dc_L_groups 4 rfl rfl
theorem d_L_groups_6 : dn cL_groups 6 (.iload_n 3) 1 7 := dnAt dc_L_groups 5 rfl rfl
theorem d_L_groups_7 : dn cL_groups 7 (.invokevirtual 91) 3 10 := dnAt dc_L_groups 6 rfl rfl
theorem d_L_groups_10 : dn cL_groups 10 (.i2l) 1 11 := dnAt dc_L_groups 7 rfl rfl
theorem d_L_groups_11 : dn cL_groups 11 (.lastore) 1 12 := dnAt dc_L_groups 8 rfl rfl
theorem d_L_groups_12 : dn cL_groups 12 (.goto 11) 3 15 := dnAt dc_L_groups 9 rfl rfl
theorem d_L_groups_15 : dn cL_groups 15 (.astore 5) 2 17 := dnAt dc_L_groups 10 rfl rfl
theorem d_L_groups_17 : dn cL_groups 17 (.iconst 1) 1 18 := dnAt dc_L_groups 11 rfl rfl
theorem d_L_groups_18 : dn cL_groups 18 (.ireturn) 1 19 := dnAt dc_L_groups 12 rfl rfl
theorem d_L_groups_19 : dn cL_groups 19 (.astore 5) 2 21 := dnAt dc_L_groups 13 rfl rfl
theorem d_L_groups_21 : dn cL_groups 21 (.iconst 2) 1 22 := dnAt dc_L_groups 14 rfl rfl
theorem d_L_groups_22 : dn cL_groups 22 (.ireturn) 1 23 := dnAt dc_L_groups 15 rfl rfl
theorem d_L_groups_23 : dn cL_groups 23 (.iconst 0) 1 24 := dnAt dc_L_groups 16 rfl rfl
theorem d_L_groups_24 : dn cL_groups 24 (.ireturn) 1 25 := dnAt dc_L_groups 17 rfl rfl
set_option maxHeartbeats 4000000 in
set_option maxRecDepth 100000 in
theorem lwx_groups {l : Launch} {G : eG} {ad : Nat → Nat → Nat} {q : Nat → Nat} {o : Nat} {h : hp} {g : mS} {z1 : Int32} {z2 : Int32} {z3 : Bool} (hlf : l.stackTraces = false) (s : lst ad q o) (w : lwo G ad q o g h) : MH l G yL_groups cL_groups 6 (Option.some Jvm.ClassFile.FieldType.int) [((0 : Nat), (12 : Nat), (15 : Nat), (13 : Nat)), ((0 : Nat), (12 : Nat), (19 : Nat), (15 : Nat))] { frames := 8, cells := 2, slots := 12, locals := 138 } [.ref (ad 0 0), .int z1, .int z2, .int (bI z3), .ref o] h (lres G ad q o g (fun v9 T9 => v9 = some (.int (nI (rGr g z1 z2 z3))) ∧ ∃ f9, T9 = sN (uK g 0 (cGr g z1 z2)) 22 f9)) := by
  obtain ⟨⟨f, w1⟩, A, T, X, Y, k⟩ := w
  refine MH.ofL (by decide) (Nat.le_of_ble_eq_true rfl) ?_
  intro x LX C AA TY XH
  show VV G x 0 0 h 0 [(0, .ref (ad 0 0)), (1, .int z1), (2, .int z2), (3, .int (bI z3)), (4, .ref o)] []
  refine r_aload C d_L_groups_0 4 rfl ?_
  refine r_iconst C d_L_groups_2 (v := nI 0) rfl ?_
  refine r_aload_n C d_L_groups_3 0 rfl ?_
  refine r_iload_n C d_L_groups_4 1 rfl ?_
  refine r_iload_n C d_L_groups_5 2 rfl ?_
  refine r_iload_n C d_L_groups_6 3 rfl ?_
  refine r_callVH (As := [.int z1, .int z2, .int (bI z3)]) C XH (fun l2 e2 => by rw [cxL_eq LX e2]; exact hlf) d_L_groups_7 ok_RL_91 (fun l hlf => k_groups hlf w1.1 A.1 A.2.1) (w1.1.1 0 0 rfl) rfl rfl rfl (rest := [.int (nI 0), .ref o]) rfl (Nat.le_of_ble_eq_true rfl) ⟨⟨by decide, by decide⟩, Nat.le_of_ble_eq_true rfl, Nat.le_of_ble_eq_true rfl⟩ (fun E9 h1 e9 => ?_) (fun v9 h1 e9 => ?_)
  · obtain ⟨g9, ⟨hx, hs⟩, hm1, hF⟩ := e9
    rcases hx with ⟨rfl, e9⟩ | ⟨rfl, e9⟩
    · refine ⟨15, ⟨[], ⟨0, 12, 15, 13⟩, [⟨0, 12, 19, 15⟩], rfl, fun _ h => absurd h List.not_mem_nil, rfl, by decide, tw_155, by decide, rfl⟩, fun z => ?_⟩
      refine r_astore C d_L_groups_15 (lv' := [(5, .ref z), (0, .ref (ad 0 0)), (1, .int z1), (2, .int z2), (3, .int (bI z3)), (4, .ref o)]) (by decide) rfl ?_
      refine r_iconst C d_L_groups_17 (v := nI 1) rfl ?_
      subst hs
      exact r_iret C AA TY d_L_groups_18 rfl (Nat.le_of_ble_eq_true rfl) (Nat.le_of_ble_eq_true rfl) (lw_no s w1 hm1 hF (by decide) (fun v9 T9 ⟨p, f9, q9⟩ => by rw [q9, e9]; exact ⟨rfl, step_KN0 A k hF⟩))
    · refine ⟨19, ⟨[⟨0, 12, 15, 13⟩], ⟨0, 12, 19, 15⟩, [], rfl, List.forall_mem_cons.mpr ⟨⟨by decide, _, tw_155, by decide, by decide⟩, fun _ h => absurd h List.not_mem_nil⟩, rfl, by decide, tw_156, by decide, rfl⟩, fun z => ?_⟩
      refine r_astore C d_L_groups_19 (lv' := [(5, .ref z), (0, .ref (ad 0 0)), (1, .int z1), (2, .int z2), (3, .int (bI z3)), (4, .ref o)]) (by decide) rfl ?_
      refine r_iconst C d_L_groups_21 (v := nI 2) rfl ?_
      subst hs
      exact r_iret C AA TY d_L_groups_22 rfl (Nat.le_of_ble_eq_true rfl) (Nat.le_of_ble_eq_true rfl) (lw_no s w1 hm1 hF (by decide) (fun v9 T9 ⟨p, f9, q9⟩ => by rw [q9, e9]; exact ⟨rfl, step_KN0 A k hF⟩))
  · obtain ⟨g9, ⟨rfl, rfl, c0⟩, hm1, hF⟩ := e9
    refine r_i2l C d_L_groups_10 ?_
    refine r_last (f := f) C d_L_groups_11 (hF _ _ s.1 w1.2.2) (i := 0) (by decide) (by decide) ?_
    refine r_goto C d_L_groups_12 (tgt := 23) rfl ?_
    refine r_iconst C d_L_groups_23 (v := nI 0) rfl ?_
    exact r_iret C AA TY d_L_groups_24 rfl (Nat.le_of_ble_eq_true rfl) (Nat.le_of_ble_eq_true rfl) (lw_ok s w1 hm1 hF (fun v9 T9 ⟨p, f9, q9⟩ => ⟨(by rw [q9]; exact c0), p, by rw [q9]; exact step_KN A k hF rfl⟩))
def dl_L_groupAt : List (Nat × Instr × Nat) := [(0, .aload 5, 2), (2, .iconst 0, 1), (3, .aload_n 0, 1), (4, .iload_n 1, 1), (5, .iload_n 2, 1), (6, .iload_n 3, 1), (7, .iload 4, 2), (9, .invokevirtual 94, 3), (12, .i2l, 1), (13, .lastore, 1), (14, .goto 11, 3), (17, .astore 6, 2), (19, .iconst 1, 1), (20, .ireturn, 1), (21, .astore 6, 2), (23, .iconst 2, 1), (24, .ireturn, 1), (25, .iconst 0, 1), (26, .ireturn, 1)]
theorem dc_L_groupAt : dnL cL_groupAt dl_L_groupAt = true := by decide +kernel
theorem d_L_groupAt_0 : dn cL_groupAt 0 (.aload 5) 2 2 := dnAt dc_L_groupAt 0 rfl rfl
theorem d_L_groupAt_2 : dn cL_groupAt 2 (.iconst 0) 1 3 := dnAt dc_L_groupAt 1 rfl rfl
theorem d_L_groupAt_3 : dn cL_groupAt 3 (.aload_n 0) 1 4 := dnAt dc_L_groupAt 2 rfl rfl
theorem d_L_groupAt_4 : dn cL_groupAt 4 (.iload_n 1) 1 5 := dnAt dc_L_groupAt 3 rfl rfl
theorem d_L_groupAt_5 : dn cL_groupAt 5 (.iload_n 2) 1 6 := dnAt dc_L_groupAt 4 rfl rfl
theorem d_L_groupAt_6 : dn cL_groupAt 6 (.iload_n 3) 1 7 := dnAt dc_L_groupAt 5 rfl rfl
theorem d_L_groupAt_7 : dn cL_groupAt 7 (.iload 4) 2 9 := dnAt dc_L_groupAt 6 rfl rfl
theorem d_L_groupAt_9 : dn cL_groupAt 9 (.invokevirtual 94) 3 12 := dnAt dc_L_groupAt 7 rfl rfl
theorem d_L_groupAt_12 : dn cL_groupAt 12 (.i2l) 1 13 := dnAt dc_L_groupAt 8 rfl rfl
theorem d_L_groupAt_13 : dn cL_groupAt 13 (.lastore) 1 14 := dnAt dc_L_groupAt 9 rfl rfl
theorem d_L_groupAt_14 : dn cL_groupAt 14 (.goto 11) 3 17 := dnAt dc_L_groupAt 10 rfl rfl
theorem d_L_groupAt_17 : dn cL_groupAt 17 (.astore 6) 2 19 := dnAt dc_L_groupAt 11 rfl rfl
theorem d_L_groupAt_19 : dn cL_groupAt 19 (.iconst 1) 1 20 := dnAt dc_L_groupAt 12 rfl rfl
theorem d_L_groupAt_20 : dn cL_groupAt 20 (.ireturn) 1 21 := dnAt dc_L_groupAt 13 rfl rfl
theorem d_L_groupAt_21 : dn cL_groupAt 21 (.astore 6) 2 23 := dnAt dc_L_groupAt 14 rfl rfl
theorem d_L_groupAt_23 : dn cL_groupAt 23 (.iconst 2) 1 24 := dnAt dc_L_groupAt 15 rfl rfl
theorem d_L_groupAt_24 : dn cL_groupAt 24 (.ireturn) 1 25 := dnAt dc_L_groupAt 16 rfl rfl
theorem d_L_groupAt_25 : dn cL_groupAt 25 (.iconst 0) 1 26 := dnAt dc_L_groupAt 17 rfl rfl
theorem d_L_groupAt_26 : dn cL_groupAt 26 (.ireturn) 1 27 := dnAt dc_L_groupAt 18 rfl rfl
set_option maxHeartbeats 4000000 in
set_option maxRecDepth 100000 in
theorem lwx_groupAt {l : Launch} {G : eG} {ad : Nat → Nat → Nat} {q : Nat → Nat} {o : Nat} {h : hp} {g : mS} {z1 : Int32} {z2 : Int32} {z3 : Bool} {z4 : Int32} (hlf : l.stackTraces = false) (s : lst ad q o) (w : lwo G ad q o g h) : MH l G yL_groupAt cL_groupAt 7 (Option.some Jvm.ClassFile.FieldType.int) [((0 : Nat), (14 : Nat), (17 : Nat), (13 : Nat)), ((0 : Nat), (14 : Nat), (21 : Nat), (15 : Nat))] { frames := 8, cells := 3, slots := 18, locals := 138 } [.ref (ad 0 0), .int z1, .int z2, .int (bI z3), .int z4, .ref o] h (lres G ad q o g (fun v9 T9 => v9 = some (.int (nI (rGA g z1 z2 z3 z4))) ∧ ∃ f9, T9 = sN (uK g 0 (cGA g z1 z2 z3 z4)) 22 f9)) := by
  obtain ⟨⟨f, w1⟩, A, T, X, Y, k⟩ := w
  refine MH.ofL (by decide) (Nat.le_of_ble_eq_true rfl) ?_
  intro x LX C AA TY XH
  show VV G x 0 0 h 0 [(0, .ref (ad 0 0)), (1, .int z1), (2, .int z2), (3, .int (bI z3)), (4, .int z4), (5, .ref o)] []
  refine r_aload C d_L_groupAt_0 5 rfl ?_
  refine r_iconst C d_L_groupAt_2 (v := nI 0) rfl ?_
  refine r_aload_n C d_L_groupAt_3 0 rfl ?_
  refine r_iload_n C d_L_groupAt_4 1 rfl ?_
  refine r_iload_n C d_L_groupAt_5 2 rfl ?_
  refine r_iload_n C d_L_groupAt_6 3 rfl ?_
  refine r_iload C d_L_groupAt_7 4 rfl ?_
  refine r_callVH (As := [.int z1, .int z2, .int (bI z3), .int z4]) C XH (fun l2 e2 => by rw [cxL_eq LX e2]; exact hlf) d_L_groupAt_9 ok_RL_94 (fun l hlf => k_groupAt hlf w1.1 A.1 A.2.1) (w1.1.1 0 0 rfl) rfl rfl rfl (rest := [.int (nI 0), .ref o]) rfl (Nat.le_of_ble_eq_true rfl) ⟨⟨by decide, by decide⟩, Nat.le_of_ble_eq_true rfl, Nat.le_of_ble_eq_true rfl⟩ (fun E9 h1 e9 => ?_) (fun v9 h1 e9 => ?_)
  · obtain ⟨g9, ⟨hx, hs⟩, hm1, hF⟩ := e9
    rcases hx with ⟨rfl, e9⟩ | ⟨rfl, e9⟩
    · refine ⟨17, ⟨[], ⟨0, 14, 17, 13⟩, [⟨0, 14, 21, 15⟩], rfl, fun _ h => absurd h List.not_mem_nil, rfl, by decide, tw_155, by decide, rfl⟩, fun z => ?_⟩
      refine r_astore C d_L_groupAt_17 (lv' := [(6, .ref z), (0, .ref (ad 0 0)), (1, .int z1), (2, .int z2), (3, .int (bI z3)), (4, .int z4), (5, .ref o)]) (by decide) rfl ?_
      refine r_iconst C d_L_groupAt_19 (v := nI 1) rfl ?_
      exact r_iret C AA TY d_L_groupAt_20 rfl (Nat.le_of_ble_eq_true rfl) (Nat.le_of_ble_eq_true rfl) (lw_no s w1 hm1 hF (by decide) (fun v9 T9 ⟨p, f9, q9⟩ => by rw [q9, e9]; exact ⟨rfl, step_KN A k hF hs.choose_spec⟩))
    · refine ⟨21, ⟨[⟨0, 14, 17, 13⟩], ⟨0, 14, 21, 15⟩, [], rfl, List.forall_mem_cons.mpr ⟨⟨by decide, _, tw_155, by decide, by decide⟩, fun _ h => absurd h List.not_mem_nil⟩, rfl, by decide, tw_156, by decide, rfl⟩, fun z => ?_⟩
      refine r_astore C d_L_groupAt_21 (lv' := [(6, .ref z), (0, .ref (ad 0 0)), (1, .int z1), (2, .int z2), (3, .int (bI z3)), (4, .int z4), (5, .ref o)]) (by decide) rfl ?_
      refine r_iconst C d_L_groupAt_23 (v := nI 2) rfl ?_
      exact r_iret C AA TY d_L_groupAt_24 rfl (Nat.le_of_ble_eq_true rfl) (Nat.le_of_ble_eq_true rfl) (lw_no s w1 hm1 hF (by decide) (fun v9 T9 ⟨p, f9, q9⟩ => by rw [q9, e9]; exact ⟨rfl, step_KN A k hF hs.choose_spec⟩))
  · obtain ⟨g9, ⟨rfl, rfl, c0⟩, hm1, hF⟩ := e9
    refine r_i2l C d_L_groupAt_12 ?_
    refine r_last (f := f) C d_L_groupAt_13 (hF _ _ s.1 w1.2.2) (i := 0) (by decide) (by decide) ?_
    refine r_goto C d_L_groupAt_14 (tgt := 25) rfl ?_
    refine r_iconst C d_L_groupAt_25 (v := nI 0) rfl ?_
    exact r_iret C AA TY d_L_groupAt_26 rfl (Nat.le_of_ble_eq_true rfl) (Nat.le_of_ble_eq_true rfl) (lw_ok s w1 hm1 hF (fun v9 T9 ⟨p, f9, q9⟩ => ⟨(by rw [q9]; exact c0), p, by rw [q9]; exact step_KN A k hF rfl⟩))
