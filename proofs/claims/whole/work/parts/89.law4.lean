theorem tw_0 : (Jvm.Cond.initialized "CorpuslineLaw") ∈ TB := tb_of 0 (by decide +kernel) rfl
theorem tw_126 : (Jvm.Cond.methodLink "CorpuslineLaw" (160 : Nat) ({ cls := "Corpusline", name := "wipe", desc := "()I" } : Jvm.MethodName)) ∈ TB := tb_of 126 (by decide +kernel) rfl
theorem tw_127 : (Jvm.Cond.instanceMethod ({ cls := "Corpusline", name := "wipe", desc := "()I" } : Jvm.MethodName)) ∈ TB := tb_of 127 (by decide +kernel) rfl
theorem tw_128 : (Jvm.Cond.selects "Corpusline" ({ cls := "Corpusline", name := "wipe", desc := "()I" } : Jvm.MethodName) ({ cls := "Corpusline", name := "wipe", desc := "()I" } : Jvm.MethodName)) ∈ TB := tb_of 128 (by decide +kernel) rfl
theorem tw_129 : (Jvm.Cond.code ({ cls := "Corpusline", name := "wipe", desc := "()I" } : Jvm.MethodName) prog_1_method_17_code (2 : Nat) (Option.some Jvm.ClassFile.FieldType.int)) ∈ TB := tb_of 129 (by decide +kernel) rfl
theorem tw_134 : (Jvm.Cond.methodLink "CorpuslineLaw" (184 : Nat) ({ cls := "Corpusline", name := "size", desc := "(I)I" } : Jvm.MethodName)) ∈ TB := tb_of 134 (by decide +kernel) rfl
theorem tw_135 : (Jvm.Cond.instanceMethod ({ cls := "Corpusline", name := "size", desc := "(I)I" } : Jvm.MethodName)) ∈ TB := tb_of 135 (by decide +kernel) rfl
theorem tw_136 : (Jvm.Cond.selects "Corpusline" ({ cls := "Corpusline", name := "size", desc := "(I)I" } : Jvm.MethodName) ({ cls := "Corpusline", name := "size", desc := "(I)I" } : Jvm.MethodName)) ∈ TB := tb_of 136 (by decide +kernel) rfl
theorem tw_137 : (Jvm.Cond.code ({ cls := "Corpusline", name := "size", desc := "(I)I" } : Jvm.MethodName) prog_1_method_24_code (2 : Nat) (Option.some Jvm.ClassFile.FieldType.int)) ∈ TB := tb_of 137 (by decide +kernel) rfl
theorem tw_152 : (Jvm.Cond.methodLink "CorpuslineLaw" (102 : Nat) ({ cls := "CorpuslineLaw", name := "token", desc := "(LCorpusline;IIII[J)I" } : Jvm.MethodName)) ∈ TB := tb_of 152 (by decide +kernel) rfl
theorem tw_153 : (Jvm.Cond.static ({ cls := "CorpuslineLaw", name := "token", desc := "(LCorpusline;IIII[J)I" } : Jvm.MethodName)) ∈ TB := tb_of 153 (by decide +kernel) rfl
theorem tw_154 : (Jvm.Cond.codeWith ({ cls := "CorpuslineLaw", name := "token", desc := "(LCorpusline;IIII[J)I" } : Jvm.MethodName) method_3_code (7 : Nat) (Option.some Jvm.ClassFile.FieldType.int) [((0 : Nat), (14 : Nat), (17 : Nat), (13 : Nat)), ((0 : Nat), (14 : Nat), (21 : Nat), (15 : Nat)), ((0 : Nat), (14 : Nat), (25 : Nat), (17 : Nat))]) ∈ TB := tb_of 154 (by decide +kernel) rfl
theorem tw_273 : (Jvm.Cond.methodLink "CorpuslineLaw" (111 : Nat) ({ cls := "CorpuslineLaw", name := "end", desc := "(LCorpusline;IZ[J)I" } : Jvm.MethodName)) ∈ TB := tb_of 273 (by decide +kernel) rfl
theorem tw_274 : (Jvm.Cond.static ({ cls := "CorpuslineLaw", name := "end", desc := "(LCorpusline;IZ[J)I" } : Jvm.MethodName)) ∈ TB := tb_of 274 (by decide +kernel) rfl
theorem tw_275 : (Jvm.Cond.codeWith ({ cls := "CorpuslineLaw", name := "end", desc := "(LCorpusline;IZ[J)I" } : Jvm.MethodName) method_4_code (5 : Nat) (Option.some Jvm.ClassFile.FieldType.int) [((0 : Nat), (10 : Nat), (13 : Nat), (13 : Nat)), ((0 : Nat), (10 : Nat), (17 : Nat), (17 : Nat))]) ∈ TB := tb_of 275 (by decide +kernel) rfl
theorem tw_281 : (Jvm.Cond.methodLink "CorpuslineLaw" (115 : Nat) ({ cls := "CorpuslineLaw", name := "align", desc := "(LCorpusline;II[J)I" } : Jvm.MethodName)) ∈ TB := tb_of 281 (by decide +kernel) rfl
theorem tw_282 : (Jvm.Cond.static ({ cls := "CorpuslineLaw", name := "align", desc := "(LCorpusline;II[J)I" } : Jvm.MethodName)) ∈ TB := tb_of 282 (by decide +kernel) rfl
theorem tw_283 : (Jvm.Cond.codeWith ({ cls := "CorpuslineLaw", name := "align", desc := "(LCorpusline;II[J)I" } : Jvm.MethodName) method_5_code (5 : Nat) (Option.some Jvm.ClassFile.FieldType.int) [((0 : Nat), (10 : Nat), (13 : Nat), (13 : Nat))]) ∈ TB := tb_of 283 (by decide +kernel) rfl
theorem tw_293 : (Jvm.Cond.methodLink "CorpuslineLaw" (119 : Nat) ({ cls := "CorpuslineLaw", name := "tokens", desc := "(LCorpusline;I[J)I" } : Jvm.MethodName)) ∈ TB := tb_of 293 (by decide +kernel) rfl
theorem tw_294 : (Jvm.Cond.static ({ cls := "CorpuslineLaw", name := "tokens", desc := "(LCorpusline;I[J)I" } : Jvm.MethodName)) ∈ TB := tb_of 294 (by decide +kernel) rfl
theorem tw_295 : (Jvm.Cond.codeWith ({ cls := "CorpuslineLaw", name := "tokens", desc := "(LCorpusline;I[J)I" } : Jvm.MethodName) method_6_code (4 : Nat) (Option.some Jvm.ClassFile.FieldType.int) [((0 : Nat), (9 : Nat), (12 : Nat), (13 : Nat))]) ∈ TB := tb_of 295 (by decide +kernel) rfl
theorem tw_300 : (Jvm.Cond.methodLink "CorpuslineLaw" (123 : Nat) ({ cls := "CorpuslineLaw", name := "sentenceOf", desc := "(LCorpusline;II[J)I" } : Jvm.MethodName)) ∈ TB := tb_of 300 (by decide +kernel) rfl
theorem tw_301 : (Jvm.Cond.static ({ cls := "CorpuslineLaw", name := "sentenceOf", desc := "(LCorpusline;II[J)I" } : Jvm.MethodName)) ∈ TB := tb_of 301 (by decide +kernel) rfl
theorem tw_302 : (Jvm.Cond.codeWith ({ cls := "CorpuslineLaw", name := "sentenceOf", desc := "(LCorpusline;II[J)I" } : Jvm.MethodName) method_7_code (5 : Nat) (Option.some Jvm.ClassFile.FieldType.int) [((0 : Nat), (10 : Nat), (13 : Nat), (13 : Nat))]) ∈ TB := tb_of 302 (by decide +kernel) rfl
theorem tw_308 : (Jvm.Cond.methodLink "CorpuslineLaw" (126 : Nat) ({ cls := "CorpuslineLaw", name := "occurs", desc := "(LCorpusline;III[J)I" } : Jvm.MethodName)) ∈ TB := tb_of 308 (by decide +kernel) rfl
theorem tw_309 : (Jvm.Cond.static ({ cls := "CorpuslineLaw", name := "occurs", desc := "(LCorpusline;III[J)I" } : Jvm.MethodName)) ∈ TB := tb_of 309 (by decide +kernel) rfl
theorem tw_310 : (Jvm.Cond.codeWith ({ cls := "CorpuslineLaw", name := "occurs", desc := "(LCorpusline;III[J)I" } : Jvm.MethodName) method_8_code (6 : Nat) (Option.some Jvm.ClassFile.FieldType.int) [((0 : Nat), (12 : Nat), (15 : Nat), (13 : Nat)), ((0 : Nat), (12 : Nat), (19 : Nat), (15 : Nat))]) ∈ TB := tb_of 310 (by decide +kernel) rfl
theorem tw_319 : (Jvm.Cond.methodLink "CorpuslineLaw" (130 : Nat) ({ cls := "CorpuslineLaw", name := "test", desc := "(LCorpusline;IIZ[J)I" } : Jvm.MethodName)) ∈ TB := tb_of 319 (by decide +kernel) rfl
theorem tw_320 : (Jvm.Cond.static ({ cls := "CorpuslineLaw", name := "test", desc := "(LCorpusline;IIZ[J)I" } : Jvm.MethodName)) ∈ TB := tb_of 320 (by decide +kernel) rfl
theorem tw_321 : (Jvm.Cond.codeWith ({ cls := "CorpuslineLaw", name := "test", desc := "(LCorpusline;IIZ[J)I" } : Jvm.MethodName) method_9_code (6 : Nat) (Option.some Jvm.ClassFile.FieldType.int) [((0 : Nat), (12 : Nat), (15 : Nat), (15 : Nat)), ((0 : Nat), (12 : Nat), (19 : Nat), (17 : Nat))]) ∈ TB := tb_of 321 (by decide +kernel) rfl
theorem tw_409 : (Jvm.Cond.methodLink "CorpuslineLaw" (134 : Nat) ({ cls := "CorpuslineLaw", name := "any", desc := "(LCorpusline;[J)I" } : Jvm.MethodName)) ∈ TB := tb_of 409 (by decide +kernel) rfl
theorem tw_410 : (Jvm.Cond.static ({ cls := "CorpuslineLaw", name := "any", desc := "(LCorpusline;[J)I" } : Jvm.MethodName)) ∈ TB := tb_of 410 (by decide +kernel) rfl
theorem tw_411 : (Jvm.Cond.codeWith ({ cls := "CorpuslineLaw", name := "any", desc := "(LCorpusline;[J)I" } : Jvm.MethodName) method_10_code (3 : Nat) (Option.some Jvm.ClassFile.FieldType.int) [((0 : Nat), (8 : Nat), (11 : Nat), (17 : Nat))]) ∈ TB := tb_of 411 (by decide +kernel) rfl
theorem tw_417 : (Jvm.Cond.methodLink "CorpuslineLaw" (138 : Nat) ({ cls := "CorpuslineLaw", name := "same", desc := "(LCorpusline;II[J)I" } : Jvm.MethodName)) ∈ TB := tb_of 417 (by decide +kernel) rfl
theorem tw_418 : (Jvm.Cond.static ({ cls := "CorpuslineLaw", name := "same", desc := "(LCorpusline;II[J)I" } : Jvm.MethodName)) ∈ TB := tb_of 418 (by decide +kernel) rfl
theorem tw_419 : (Jvm.Cond.codeWith ({ cls := "CorpuslineLaw", name := "same", desc := "(LCorpusline;II[J)I" } : Jvm.MethodName) method_11_code (5 : Nat) (Option.some Jvm.ClassFile.FieldType.int) [((0 : Nat), (10 : Nat), (13 : Nat), (15 : Nat)), ((0 : Nat), (10 : Nat), (17 : Nat), (17 : Nat))]) ∈ TB := tb_of 419 (by decide +kernel) rfl
theorem tw_424 : (Jvm.Cond.methodLink "CorpuslineLaw" (141 : Nat) ({ cls := "CorpuslineLaw", name := "label", desc := "(LCorpusline;I)I" } : Jvm.MethodName)) ∈ TB := tb_of 424 (by decide +kernel) rfl
theorem tw_425 : (Jvm.Cond.static ({ cls := "CorpuslineLaw", name := "label", desc := "(LCorpusline;I)I" } : Jvm.MethodName)) ∈ TB := tb_of 425 (by decide +kernel) rfl
theorem tw_426 : (Jvm.Cond.codeWith ({ cls := "CorpuslineLaw", name := "label", desc := "(LCorpusline;I)I" } : Jvm.MethodName) method_12_code (3 : Nat) (Option.some Jvm.ClassFile.FieldType.int) [((0 : Nat), (5 : Nat), (8 : Nat), (15 : Nat)), ((0 : Nat), (5 : Nat), (11 : Nat), (17 : Nat))]) ∈ TB := tb_of 426 (by decide +kernel) rfl
theorem tw_448 : (Jvm.Cond.methodLink "CorpuslineLaw" (145 : Nat) ({ cls := "CorpuslineLaw", name := "both", desc := "(LCorpusline;[J)I" } : Jvm.MethodName)) ∈ TB := tb_of 448 (by decide +kernel) rfl
theorem tw_449 : (Jvm.Cond.static ({ cls := "CorpuslineLaw", name := "both", desc := "(LCorpusline;[J)I" } : Jvm.MethodName)) ∈ TB := tb_of 449 (by decide +kernel) rfl
theorem tw_450 : (Jvm.Cond.codeWith ({ cls := "CorpuslineLaw", name := "both", desc := "(LCorpusline;[J)I" } : Jvm.MethodName) method_13_code (3 : Nat) (Option.some Jvm.ClassFile.FieldType.int) [((0 : Nat), (8 : Nat), (11 : Nat), (17 : Nat))]) ∈ TB := tb_of 450 (by decide +kernel) rfl
theorem tw_456 : (Jvm.Cond.methodLink "CorpuslineLaw" (148 : Nat) ({ cls := "CorpuslineLaw", name := "chain", desc := "(LCorpusline;[J)I" } : Jvm.MethodName)) ∈ TB := tb_of 456 (by decide +kernel) rfl
theorem tw_457 : (Jvm.Cond.static ({ cls := "CorpuslineLaw", name := "chain", desc := "(LCorpusline;[J)I" } : Jvm.MethodName)) ∈ TB := tb_of 457 (by decide +kernel) rfl
theorem tw_458 : (Jvm.Cond.codeWith ({ cls := "CorpuslineLaw", name := "chain", desc := "(LCorpusline;[J)I" } : Jvm.MethodName) method_14_code (3 : Nat) (Option.some Jvm.ClassFile.FieldType.int) [((0 : Nat), (8 : Nat), (11 : Nat), (17 : Nat))]) ∈ TB := tb_of 458 (by decide +kernel) rfl
theorem tw_473 : (Jvm.Cond.methodLink "CorpuslineLaw" (151 : Nat) ({ cls := "CorpuslineLaw", name := "either", desc := "(LCorpusline;[J)I" } : Jvm.MethodName)) ∈ TB := tb_of 473 (by decide +kernel) rfl
theorem tw_474 : (Jvm.Cond.static ({ cls := "CorpuslineLaw", name := "either", desc := "(LCorpusline;[J)I" } : Jvm.MethodName)) ∈ TB := tb_of 474 (by decide +kernel) rfl
theorem tw_475 : (Jvm.Cond.codeWith ({ cls := "CorpuslineLaw", name := "either", desc := "(LCorpusline;[J)I" } : Jvm.MethodName) method_15_code (3 : Nat) (Option.some Jvm.ClassFile.FieldType.int) [((0 : Nat), (8 : Nat), (11 : Nat), (17 : Nat))]) ∈ TB := tb_of 475 (by decide +kernel) rfl
theorem tw_483 : (Jvm.Cond.methodLink "CorpuslineLaw" (154 : Nat) ({ cls := "CorpuslineLaw", name := "repeat", desc := "(LCorpusline;II[J)I" } : Jvm.MethodName)) ∈ TB := tb_of 483 (by decide +kernel) rfl
theorem tw_484 : (Jvm.Cond.static ({ cls := "CorpuslineLaw", name := "repeat", desc := "(LCorpusline;II[J)I" } : Jvm.MethodName)) ∈ TB := tb_of 484 (by decide +kernel) rfl
theorem tw_485 : (Jvm.Cond.codeWith ({ cls := "CorpuslineLaw", name := "repeat", desc := "(LCorpusline;II[J)I" } : Jvm.MethodName) method_16_code (5 : Nat) (Option.some Jvm.ClassFile.FieldType.int) [((0 : Nat), (10 : Nat), (13 : Nat), (15 : Nat)), ((0 : Nat), (10 : Nat), (17 : Nat), (17 : Nat))]) ∈ TB := tb_of 485 (by decide +kernel) rfl
theorem tw_498 : (Jvm.Cond.methodLink "CorpuslineLaw" (157 : Nat) ({ cls := "CorpuslineLaw", name := "keep", desc := "(LCorpusline;[J)I" } : Jvm.MethodName)) ∈ TB := tb_of 498 (by decide +kernel) rfl
theorem tw_499 : (Jvm.Cond.static ({ cls := "CorpuslineLaw", name := "keep", desc := "(LCorpusline;[J)I" } : Jvm.MethodName)) ∈ TB := tb_of 499 (by decide +kernel) rfl
theorem tw_500 : (Jvm.Cond.codeWith ({ cls := "CorpuslineLaw", name := "keep", desc := "(LCorpusline;[J)I" } : Jvm.MethodName) method_17_code (3 : Nat) (Option.some Jvm.ClassFile.FieldType.int) [((0 : Nat), (8 : Nat), (11 : Nat), (17 : Nat))]) ∈ TB := tb_of 500 (by decide +kernel) rfl
theorem tw_506 : (Jvm.Cond.methodLink "CorpuslineLaw" (164 : Nat) ({ cls := "CorpuslineLaw", name := "run", desc := "(LCorpusline;IIIIZ[J)I" } : Jvm.MethodName)) ∈ TB := tb_of 506 (by decide +kernel) rfl
theorem tw_507 : (Jvm.Cond.static ({ cls := "CorpuslineLaw", name := "run", desc := "(LCorpusline;IIIIZ[J)I" } : Jvm.MethodName)) ∈ TB := tb_of 507 (by decide +kernel) rfl
theorem tw_508 : (Jvm.Cond.codeWith ({ cls := "CorpuslineLaw", name := "run", desc := "(LCorpusline;IIIIZ[J)I" } : Jvm.MethodName) method_18_code (8 : Nat) (Option.some Jvm.ClassFile.FieldType.int) [((0 : Nat), (16 : Nat), (19 : Nat), (13 : Nat)), ((0 : Nat), (16 : Nat), (23 : Nat), (15 : Nat))]) ∈ TB := tb_of 508 (by decide +kernel) rfl
theorem tw_565 : (Jvm.Cond.methodLink "CorpuslineLaw" (168 : Nat) ({ cls := "CorpuslineLaw", name := "walk", desc := "(LCorpusline;IIIZ[J)I" } : Jvm.MethodName)) ∈ TB := tb_of 565 (by decide +kernel) rfl
theorem tw_566 : (Jvm.Cond.static ({ cls := "CorpuslineLaw", name := "walk", desc := "(LCorpusline;IIIZ[J)I" } : Jvm.MethodName)) ∈ TB := tb_of 566 (by decide +kernel) rfl
theorem tw_567 : (Jvm.Cond.codeWith ({ cls := "CorpuslineLaw", name := "walk", desc := "(LCorpusline;IIIZ[J)I" } : Jvm.MethodName) method_19_code (7 : Nat) (Option.some Jvm.ClassFile.FieldType.int) [((0 : Nat), (14 : Nat), (17 : Nat), (13 : Nat)), ((0 : Nat), (14 : Nat), (21 : Nat), (15 : Nat))]) ∈ TB := tb_of 567 (by decide +kernel) rfl
theorem tw_572 : (Jvm.Cond.methodLink "CorpuslineLaw" (172 : Nat) ({ cls := "CorpuslineLaw", name := "join", desc := "(LCorpusline;III[J)I" } : Jvm.MethodName)) ∈ TB := tb_of 572 (by decide +kernel) rfl
theorem tw_573 : (Jvm.Cond.static ({ cls := "CorpuslineLaw", name := "join", desc := "(LCorpusline;III[J)I" } : Jvm.MethodName)) ∈ TB := tb_of 573 (by decide +kernel) rfl
theorem tw_574 : (Jvm.Cond.codeWith ({ cls := "CorpuslineLaw", name := "join", desc := "(LCorpusline;III[J)I" } : Jvm.MethodName) method_20_code (6 : Nat) (Option.some Jvm.ClassFile.FieldType.int) [((0 : Nat), (12 : Nat), (15 : Nat), (13 : Nat)), ((0 : Nat), (12 : Nat), (19 : Nat), (15 : Nat)), ((0 : Nat), (12 : Nat), (23 : Nat), (17 : Nat))]) ∈ TB := tb_of 574 (by decide +kernel) rfl
theorem tw_588 : (Jvm.Cond.methodLink "CorpuslineLaw" (175 : Nat) ({ cls := "CorpuslineLaw", name := "thin", desc := "(LCorpusline;I[J)I" } : Jvm.MethodName)) ∈ TB := tb_of 588 (by decide +kernel) rfl
theorem tw_589 : (Jvm.Cond.static ({ cls := "CorpuslineLaw", name := "thin", desc := "(LCorpusline;I[J)I" } : Jvm.MethodName)) ∈ TB := tb_of 589 (by decide +kernel) rfl
theorem tw_590 : (Jvm.Cond.codeWith ({ cls := "CorpuslineLaw", name := "thin", desc := "(LCorpusline;I[J)I" } : Jvm.MethodName) method_21_code (4 : Nat) (Option.some Jvm.ClassFile.FieldType.int) [((0 : Nat), (9 : Nat), (12 : Nat), (13 : Nat))]) ∈ TB := tb_of 590 (by decide +kernel) rfl
theorem tw_606 : (Jvm.Cond.methodLink "CorpuslineLaw" (178 : Nat) ({ cls := "CorpuslineLaw", name := "aligned", desc := "(LCorpusline;IIZ[J)I" } : Jvm.MethodName)) ∈ TB := tb_of 606 (by decide +kernel) rfl
theorem tw_607 : (Jvm.Cond.static ({ cls := "CorpuslineLaw", name := "aligned", desc := "(LCorpusline;IIZ[J)I" } : Jvm.MethodName)) ∈ TB := tb_of 607 (by decide +kernel) rfl
theorem tw_608 : (Jvm.Cond.codeWith ({ cls := "CorpuslineLaw", name := "aligned", desc := "(LCorpusline;IIZ[J)I" } : Jvm.MethodName) method_22_code (6 : Nat) (Option.some Jvm.ClassFile.FieldType.int) [((0 : Nat), (12 : Nat), (15 : Nat), (13 : Nat))]) ∈ TB := tb_of 608 (by decide +kernel) rfl
theorem tw_617 : (Jvm.Cond.methodLink "CorpuslineLaw" (181 : Nat) ({ cls := "CorpuslineLaw", name := "drop", desc := "(LCorpusline;I[J)I" } : Jvm.MethodName)) ∈ TB := tb_of 617 (by decide +kernel) rfl
theorem tw_618 : (Jvm.Cond.static ({ cls := "CorpuslineLaw", name := "drop", desc := "(LCorpusline;I[J)I" } : Jvm.MethodName)) ∈ TB := tb_of 618 (by decide +kernel) rfl
theorem tw_619 : (Jvm.Cond.codeWith ({ cls := "CorpuslineLaw", name := "drop", desc := "(LCorpusline;I[J)I" } : Jvm.MethodName) method_23_code (4 : Nat) (Option.some Jvm.ClassFile.FieldType.int) [((0 : Nat), (9 : Nat), (12 : Nat), (13 : Nat))]) ∈ TB := tb_of 619 (by decide +kernel) rfl
theorem tw_624 : (Jvm.Cond.methodLink "CorpuslineLaw" (188 : Nat) ({ cls := "CorpuslineLaw", name := "match", desc := "(LCorpusline;II[J)I" } : Jvm.MethodName)) ∈ TB := tb_of 624 (by decide +kernel) rfl
theorem tw_625 : (Jvm.Cond.static ({ cls := "CorpuslineLaw", name := "match", desc := "(LCorpusline;II[J)I" } : Jvm.MethodName)) ∈ TB := tb_of 625 (by decide +kernel) rfl
theorem tw_626 : (Jvm.Cond.codeWith ({ cls := "CorpuslineLaw", name := "match", desc := "(LCorpusline;II[J)I" } : Jvm.MethodName) method_24_code (5 : Nat) (Option.some Jvm.ClassFile.FieldType.int) [((0 : Nat), (10 : Nat), (13 : Nat), (13 : Nat))]) ∈ TB := tb_of 626 (by decide +kernel) rfl
theorem tw_632 : (Jvm.Cond.methodLink "CorpuslineLaw" (191 : Nat) ({ cls := "CorpuslineLaw", name := "groups", desc := "(LCorpusline;IIZ[J)I" } : Jvm.MethodName)) ∈ TB := tb_of 632 (by decide +kernel) rfl
theorem tw_633 : (Jvm.Cond.static ({ cls := "CorpuslineLaw", name := "groups", desc := "(LCorpusline;IIZ[J)I" } : Jvm.MethodName)) ∈ TB := tb_of 633 (by decide +kernel) rfl
theorem tw_634 : (Jvm.Cond.codeWith ({ cls := "CorpuslineLaw", name := "groups", desc := "(LCorpusline;IIZ[J)I" } : Jvm.MethodName) method_25_code (6 : Nat) (Option.some Jvm.ClassFile.FieldType.int) [((0 : Nat), (12 : Nat), (15 : Nat), (13 : Nat)), ((0 : Nat), (12 : Nat), (19 : Nat), (15 : Nat))]) ∈ TB := tb_of 634 (by decide +kernel) rfl
theorem tw_643 : (Jvm.Cond.methodLink "CorpuslineLaw" (194 : Nat) ({ cls := "CorpuslineLaw", name := "groupAt", desc := "(LCorpusline;IIZI[J)I" } : Jvm.MethodName)) ∈ TB := tb_of 643 (by decide +kernel) rfl
theorem tw_644 : (Jvm.Cond.static ({ cls := "CorpuslineLaw", name := "groupAt", desc := "(LCorpusline;IIZI[J)I" } : Jvm.MethodName)) ∈ TB := tb_of 644 (by decide +kernel) rfl
theorem tw_645 : (Jvm.Cond.codeWith ({ cls := "CorpuslineLaw", name := "groupAt", desc := "(LCorpusline;IIZI[J)I" } : Jvm.MethodName) method_26_code (7 : Nat) (Option.some Jvm.ClassFile.FieldType.int) [((0 : Nat), (14 : Nat), (17 : Nat), (13 : Nat)), ((0 : Nat), (14 : Nat), (21 : Nat), (15 : Nat))]) ∈ TB := tb_of 645 (by decide +kernel) rfl
theorem tw_732 : (Jvm.Cond.methodLink "CorpuslineLaw" (108 : Nat) ({ cls := "CorpuslineModel", name := "thrown", desc := "()I" } : Jvm.MethodName)) ∈ TB := tb_of 732 (by decide +kernel) rfl
theorem tw_733 : (Jvm.Cond.instanceMethod ({ cls := "CorpuslineModel", name := "thrown", desc := "()I" } : Jvm.MethodName)) ∈ TB := tb_of 733 (by decide +kernel) rfl
theorem tw_734 : (Jvm.Cond.selects "CorpuslineModel" ({ cls := "CorpuslineModel", name := "thrown", desc := "()I" } : Jvm.MethodName) ({ cls := "CorpuslineModel", name := "thrown", desc := "()I" } : Jvm.MethodName)) ∈ TB := tb_of 734 (by decide +kernel) rfl
theorem tw_735 : (Jvm.Cond.code ({ cls := "CorpuslineModel", name := "thrown", desc := "()I" } : Jvm.MethodName) prog_9_method_2_code (1 : Nat) (Option.some Jvm.ClassFile.FieldType.int)) ∈ TB := tb_of 735 (by decide +kernel) rfl
theorem tw_736 : (Jvm.Cond.methodLink "CorpuslineLaw" (107 : Nat) ({ cls := "CorpuslineModel", name := "token", desc := "(IIII)I" } : Jvm.MethodName)) ∈ TB := tb_of 736 (by decide +kernel) rfl
theorem tw_737 : (Jvm.Cond.instanceMethod ({ cls := "CorpuslineModel", name := "token", desc := "(IIII)I" } : Jvm.MethodName)) ∈ TB := tb_of 737 (by decide +kernel) rfl
theorem tw_738 : (Jvm.Cond.selects "CorpuslineModel" ({ cls := "CorpuslineModel", name := "token", desc := "(IIII)I" } : Jvm.MethodName) ({ cls := "CorpuslineModel", name := "token", desc := "(IIII)I" } : Jvm.MethodName)) ∈ TB := tb_of 738 (by decide +kernel) rfl
theorem tw_739 : (Jvm.Cond.code ({ cls := "CorpuslineModel", name := "token", desc := "(IIII)I" } : Jvm.MethodName) prog_9_method_7_code (8 : Nat) (Option.some Jvm.ClassFile.FieldType.int)) ∈ TB := tb_of 739 (by decide +kernel) rfl
theorem tw_750 : (Jvm.Cond.methodLink "CorpuslineLaw" (114 : Nat) ({ cls := "CorpuslineModel", name := "end", desc := "(IZ)I" } : Jvm.MethodName)) ∈ TB := tb_of 750 (by decide +kernel) rfl
theorem tw_751 : (Jvm.Cond.instanceMethod ({ cls := "CorpuslineModel", name := "end", desc := "(IZ)I" } : Jvm.MethodName)) ∈ TB := tb_of 751 (by decide +kernel) rfl
theorem tw_752 : (Jvm.Cond.selects "CorpuslineModel" ({ cls := "CorpuslineModel", name := "end", desc := "(IZ)I" } : Jvm.MethodName) ({ cls := "CorpuslineModel", name := "end", desc := "(IZ)I" } : Jvm.MethodName)) ∈ TB := tb_of 752 (by decide +kernel) rfl
theorem tw_753 : (Jvm.Cond.code ({ cls := "CorpuslineModel", name := "end", desc := "(IZ)I" } : Jvm.MethodName) prog_9_method_8_code (4 : Nat) (Option.some Jvm.ClassFile.FieldType.int)) ∈ TB := tb_of 753 (by decide +kernel) rfl
theorem tw_754 : (Jvm.Cond.methodLink "CorpuslineLaw" (118 : Nat) ({ cls := "CorpuslineModel", name := "align", desc := "(II)I" } : Jvm.MethodName)) ∈ TB := tb_of 754 (by decide +kernel) rfl
theorem tw_755 : (Jvm.Cond.instanceMethod ({ cls := "CorpuslineModel", name := "align", desc := "(II)I" } : Jvm.MethodName)) ∈ TB := tb_of 755 (by decide +kernel) rfl
theorem tw_756 : (Jvm.Cond.selects "CorpuslineModel" ({ cls := "CorpuslineModel", name := "align", desc := "(II)I" } : Jvm.MethodName) ({ cls := "CorpuslineModel", name := "align", desc := "(II)I" } : Jvm.MethodName)) ∈ TB := tb_of 756 (by decide +kernel) rfl
theorem tw_757 : (Jvm.Cond.code ({ cls := "CorpuslineModel", name := "align", desc := "(II)I" } : Jvm.MethodName) prog_9_method_10_code (5 : Nat) (Option.some Jvm.ClassFile.FieldType.int)) ∈ TB := tb_of 757 (by decide +kernel) rfl
theorem tw_762 : (Jvm.Cond.methodLink "CorpuslineLaw" (122 : Nat) ({ cls := "CorpuslineModel", name := "tokens", desc := "(I)I" } : Jvm.MethodName)) ∈ TB := tb_of 762 (by decide +kernel) rfl
theorem tw_763 : (Jvm.Cond.instanceMethod ({ cls := "CorpuslineModel", name := "tokens", desc := "(I)I" } : Jvm.MethodName)) ∈ TB := tb_of 763 (by decide +kernel) rfl
theorem tw_764 : (Jvm.Cond.selects "CorpuslineModel" ({ cls := "CorpuslineModel", name := "tokens", desc := "(I)I" } : Jvm.MethodName) ({ cls := "CorpuslineModel", name := "tokens", desc := "(I)I" } : Jvm.MethodName)) ∈ TB := tb_of 764 (by decide +kernel) rfl
theorem tw_765 : (Jvm.Cond.code ({ cls := "CorpuslineModel", name := "tokens", desc := "(I)I" } : Jvm.MethodName) prog_9_method_11_code (2 : Nat) (Option.some Jvm.ClassFile.FieldType.int)) ∈ TB := tb_of 765 (by decide +kernel) rfl
theorem tw_766 : (Jvm.Cond.methodLink "CorpuslineLaw" (125 : Nat) ({ cls := "CorpuslineModel", name := "sentenceOf", desc := "(II)I" } : Jvm.MethodName)) ∈ TB := tb_of 766 (by decide +kernel) rfl
theorem tw_767 : (Jvm.Cond.instanceMethod ({ cls := "CorpuslineModel", name := "sentenceOf", desc := "(II)I" } : Jvm.MethodName)) ∈ TB := tb_of 767 (by decide +kernel) rfl
theorem tw_768 : (Jvm.Cond.selects "CorpuslineModel" ({ cls := "CorpuslineModel", name := "sentenceOf", desc := "(II)I" } : Jvm.MethodName) ({ cls := "CorpuslineModel", name := "sentenceOf", desc := "(II)I" } : Jvm.MethodName)) ∈ TB := tb_of 768 (by decide +kernel) rfl
theorem tw_769 : (Jvm.Cond.code ({ cls := "CorpuslineModel", name := "sentenceOf", desc := "(II)I" } : Jvm.MethodName) prog_9_method_12_code (4 : Nat) (Option.some Jvm.ClassFile.FieldType.int)) ∈ TB := tb_of 769 (by decide +kernel) rfl
theorem tw_770 : (Jvm.Cond.methodLink "CorpuslineLaw" (129 : Nat) ({ cls := "CorpuslineModel", name := "occurs", desc := "(III)I" } : Jvm.MethodName)) ∈ TB := tb_of 770 (by decide +kernel) rfl
theorem tw_771 : (Jvm.Cond.instanceMethod ({ cls := "CorpuslineModel", name := "occurs", desc := "(III)I" } : Jvm.MethodName)) ∈ TB := tb_of 771 (by decide +kernel) rfl
theorem tw_772 : (Jvm.Cond.selects "CorpuslineModel" ({ cls := "CorpuslineModel", name := "occurs", desc := "(III)I" } : Jvm.MethodName) ({ cls := "CorpuslineModel", name := "occurs", desc := "(III)I" } : Jvm.MethodName)) ∈ TB := tb_of 772 (by decide +kernel) rfl
theorem tw_773 : (Jvm.Cond.code ({ cls := "CorpuslineModel", name := "occurs", desc := "(III)I" } : Jvm.MethodName) prog_9_method_14_code (6 : Nat) (Option.some Jvm.ClassFile.FieldType.int)) ∈ TB := tb_of 773 (by decide +kernel) rfl
theorem tw_781 : (Jvm.Cond.methodLink "CorpuslineLaw" (133 : Nat) ({ cls := "CorpuslineModel", name := "test", desc := "(IIZ)I" } : Jvm.MethodName)) ∈ TB := tb_of 781 (by decide +kernel) rfl
theorem tw_782 : (Jvm.Cond.instanceMethod ({ cls := "CorpuslineModel", name := "test", desc := "(IIZ)I" } : Jvm.MethodName)) ∈ TB := tb_of 782 (by decide +kernel) rfl
theorem tw_783 : (Jvm.Cond.selects "CorpuslineModel" ({ cls := "CorpuslineModel", name := "test", desc := "(IIZ)I" } : Jvm.MethodName) ({ cls := "CorpuslineModel", name := "test", desc := "(IIZ)I" } : Jvm.MethodName)) ∈ TB := tb_of 783 (by decide +kernel) rfl
theorem tw_784 : (Jvm.Cond.code ({ cls := "CorpuslineModel", name := "test", desc := "(IIZ)I" } : Jvm.MethodName) prog_9_method_19_code (5 : Nat) (Option.some Jvm.ClassFile.FieldType.int)) ∈ TB := tb_of 784 (by decide +kernel) rfl
theorem tw_793 : (Jvm.Cond.methodLink "CorpuslineLaw" (137 : Nat) ({ cls := "CorpuslineModel", name := "any", desc := "()I" } : Jvm.MethodName)) ∈ TB := tb_of 793 (by decide +kernel) rfl
theorem tw_794 : (Jvm.Cond.instanceMethod ({ cls := "CorpuslineModel", name := "any", desc := "()I" } : Jvm.MethodName)) ∈ TB := tb_of 794 (by decide +kernel) rfl
theorem tw_795 : (Jvm.Cond.selects "CorpuslineModel" ({ cls := "CorpuslineModel", name := "any", desc := "()I" } : Jvm.MethodName) ({ cls := "CorpuslineModel", name := "any", desc := "()I" } : Jvm.MethodName)) ∈ TB := tb_of 795 (by decide +kernel) rfl
theorem tw_796 : (Jvm.Cond.code ({ cls := "CorpuslineModel", name := "any", desc := "()I" } : Jvm.MethodName) prog_9_method_20_code (2 : Nat) (Option.some Jvm.ClassFile.FieldType.int)) ∈ TB := tb_of 796 (by decide +kernel) rfl
theorem tw_797 : (Jvm.Cond.methodLink "CorpuslineLaw" (140 : Nat) ({ cls := "CorpuslineModel", name := "same", desc := "(II)I" } : Jvm.MethodName)) ∈ TB := tb_of 797 (by decide +kernel) rfl
theorem tw_798 : (Jvm.Cond.instanceMethod ({ cls := "CorpuslineModel", name := "same", desc := "(II)I" } : Jvm.MethodName)) ∈ TB := tb_of 798 (by decide +kernel) rfl
theorem tw_799 : (Jvm.Cond.selects "CorpuslineModel" ({ cls := "CorpuslineModel", name := "same", desc := "(II)I" } : Jvm.MethodName) ({ cls := "CorpuslineModel", name := "same", desc := "(II)I" } : Jvm.MethodName)) ∈ TB := tb_of 799 (by decide +kernel) rfl
theorem tw_800 : (Jvm.Cond.code ({ cls := "CorpuslineModel", name := "same", desc := "(II)I" } : Jvm.MethodName) prog_9_method_22_code (4 : Nat) (Option.some Jvm.ClassFile.FieldType.int)) ∈ TB := tb_of 800 (by decide +kernel) rfl
theorem tw_804 : (Jvm.Cond.methodLink "CorpuslineLaw" (144 : Nat) ({ cls := "CorpuslineModel", name := "label", desc := "(I)V" } : Jvm.MethodName)) ∈ TB := tb_of 804 (by decide +kernel) rfl
theorem tw_805 : (Jvm.Cond.instanceMethod ({ cls := "CorpuslineModel", name := "label", desc := "(I)V" } : Jvm.MethodName)) ∈ TB := tb_of 805 (by decide +kernel) rfl
theorem tw_806 : (Jvm.Cond.selects "CorpuslineModel" ({ cls := "CorpuslineModel", name := "label", desc := "(I)V" } : Jvm.MethodName) ({ cls := "CorpuslineModel", name := "label", desc := "(I)V" } : Jvm.MethodName)) ∈ TB := tb_of 806 (by decide +kernel) rfl
theorem tw_807 : (Jvm.Cond.code ({ cls := "CorpuslineModel", name := "label", desc := "(I)V" } : Jvm.MethodName) prog_9_method_23_code (3 : Nat) (Option.none : Option Jvm.ClassFile.FieldType)) ∈ TB := tb_of 807 (by decide +kernel) rfl
theorem tw_808 : (Jvm.Cond.methodLink "CorpuslineLaw" (147 : Nat) ({ cls := "CorpuslineModel", name := "both", desc := "()I" } : Jvm.MethodName)) ∈ TB := tb_of 808 (by decide +kernel) rfl
theorem tw_809 : (Jvm.Cond.instanceMethod ({ cls := "CorpuslineModel", name := "both", desc := "()I" } : Jvm.MethodName)) ∈ TB := tb_of 809 (by decide +kernel) rfl
theorem tw_810 : (Jvm.Cond.selects "CorpuslineModel" ({ cls := "CorpuslineModel", name := "both", desc := "()I" } : Jvm.MethodName) ({ cls := "CorpuslineModel", name := "both", desc := "()I" } : Jvm.MethodName)) ∈ TB := tb_of 810 (by decide +kernel) rfl
theorem tw_811 : (Jvm.Cond.code ({ cls := "CorpuslineModel", name := "both", desc := "()I" } : Jvm.MethodName) prog_9_method_24_code (7 : Nat) (Option.some Jvm.ClassFile.FieldType.int)) ∈ TB := tb_of 811 (by decide +kernel) rfl
theorem tw_812 : (Jvm.Cond.methodLink "CorpuslineLaw" (150 : Nat) ({ cls := "CorpuslineModel", name := "chain", desc := "()I" } : Jvm.MethodName)) ∈ TB := tb_of 812 (by decide +kernel) rfl
theorem tw_813 : (Jvm.Cond.instanceMethod ({ cls := "CorpuslineModel", name := "chain", desc := "()I" } : Jvm.MethodName)) ∈ TB := tb_of 813 (by decide +kernel) rfl
theorem tw_814 : (Jvm.Cond.selects "CorpuslineModel" ({ cls := "CorpuslineModel", name := "chain", desc := "()I" } : Jvm.MethodName) ({ cls := "CorpuslineModel", name := "chain", desc := "()I" } : Jvm.MethodName)) ∈ TB := tb_of 814 (by decide +kernel) rfl
theorem tw_815 : (Jvm.Cond.code ({ cls := "CorpuslineModel", name := "chain", desc := "()I" } : Jvm.MethodName) prog_9_method_26_code (3 : Nat) (Option.some Jvm.ClassFile.FieldType.int)) ∈ TB := tb_of 815 (by decide +kernel) rfl
theorem tw_828 : (Jvm.Cond.methodLink "CorpuslineLaw" (153 : Nat) ({ cls := "CorpuslineModel", name := "either", desc := "()I" } : Jvm.MethodName)) ∈ TB := tb_of 828 (by decide +kernel) rfl
theorem tw_829 : (Jvm.Cond.instanceMethod ({ cls := "CorpuslineModel", name := "either", desc := "()I" } : Jvm.MethodName)) ∈ TB := tb_of 829 (by decide +kernel) rfl
theorem tw_830 : (Jvm.Cond.selects "CorpuslineModel" ({ cls := "CorpuslineModel", name := "either", desc := "()I" } : Jvm.MethodName) ({ cls := "CorpuslineModel", name := "either", desc := "()I" } : Jvm.MethodName)) ∈ TB := tb_of 830 (by decide +kernel) rfl
theorem tw_831 : (Jvm.Cond.code ({ cls := "CorpuslineModel", name := "either", desc := "()I" } : Jvm.MethodName) prog_9_method_27_code (4 : Nat) (Option.some Jvm.ClassFile.FieldType.int)) ∈ TB := tb_of 831 (by decide +kernel) rfl
theorem tw_832 : (Jvm.Cond.methodLink "CorpuslineLaw" (156 : Nat) ({ cls := "CorpuslineModel", name := "repeat", desc := "(II)I" } : Jvm.MethodName)) ∈ TB := tb_of 832 (by decide +kernel) rfl
theorem tw_833 : (Jvm.Cond.instanceMethod ({ cls := "CorpuslineModel", name := "repeat", desc := "(II)I" } : Jvm.MethodName)) ∈ TB := tb_of 833 (by decide +kernel) rfl
theorem tw_834 : (Jvm.Cond.selects "CorpuslineModel" ({ cls := "CorpuslineModel", name := "repeat", desc := "(II)I" } : Jvm.MethodName) ({ cls := "CorpuslineModel", name := "repeat", desc := "(II)I" } : Jvm.MethodName)) ∈ TB := tb_of 834 (by decide +kernel) rfl
theorem tw_835 : (Jvm.Cond.code ({ cls := "CorpuslineModel", name := "repeat", desc := "(II)I" } : Jvm.MethodName) prog_9_method_29_code (10 : Nat) (Option.some Jvm.ClassFile.FieldType.int)) ∈ TB := tb_of 835 (by decide +kernel) rfl
theorem tw_836 : (Jvm.Cond.methodLink "CorpuslineLaw" (159 : Nat) ({ cls := "CorpuslineModel", name := "keep", desc := "()I" } : Jvm.MethodName)) ∈ TB := tb_of 836 (by decide +kernel) rfl
theorem tw_837 : (Jvm.Cond.instanceMethod ({ cls := "CorpuslineModel", name := "keep", desc := "()I" } : Jvm.MethodName)) ∈ TB := tb_of 837 (by decide +kernel) rfl
theorem tw_838 : (Jvm.Cond.selects "CorpuslineModel" ({ cls := "CorpuslineModel", name := "keep", desc := "()I" } : Jvm.MethodName) ({ cls := "CorpuslineModel", name := "keep", desc := "()I" } : Jvm.MethodName)) ∈ TB := tb_of 838 (by decide +kernel) rfl
theorem tw_839 : (Jvm.Cond.code ({ cls := "CorpuslineModel", name := "keep", desc := "()I" } : Jvm.MethodName) prog_9_method_30_code (1 : Nat) (Option.some Jvm.ClassFile.FieldType.int)) ∈ TB := tb_of 839 (by decide +kernel) rfl
theorem tw_844 : (Jvm.Cond.methodLink "CorpuslineLaw" (163 : Nat) ({ cls := "CorpuslineModel", name := "wipe", desc := "()I" } : Jvm.MethodName)) ∈ TB := tb_of 844 (by decide +kernel) rfl
theorem tw_845 : (Jvm.Cond.instanceMethod ({ cls := "CorpuslineModel", name := "wipe", desc := "()I" } : Jvm.MethodName)) ∈ TB := tb_of 845 (by decide +kernel) rfl
theorem tw_846 : (Jvm.Cond.selects "CorpuslineModel" ({ cls := "CorpuslineModel", name := "wipe", desc := "()I" } : Jvm.MethodName) ({ cls := "CorpuslineModel", name := "wipe", desc := "()I" } : Jvm.MethodName)) ∈ TB := tb_of 846 (by decide +kernel) rfl
theorem tw_847 : (Jvm.Cond.code ({ cls := "CorpuslineModel", name := "wipe", desc := "()I" } : Jvm.MethodName) prog_9_method_31_code (2 : Nat) (Option.some Jvm.ClassFile.FieldType.int)) ∈ TB := tb_of 847 (by decide +kernel) rfl
theorem tw_848 : (Jvm.Cond.methodLink "CorpuslineLaw" (167 : Nat) ({ cls := "CorpuslineModel", name := "run", desc := "(IIIIZ)I" } : Jvm.MethodName)) ∈ TB := tb_of 848 (by decide +kernel) rfl
theorem tw_849 : (Jvm.Cond.instanceMethod ({ cls := "CorpuslineModel", name := "run", desc := "(IIIIZ)I" } : Jvm.MethodName)) ∈ TB := tb_of 849 (by decide +kernel) rfl
theorem tw_850 : (Jvm.Cond.selects "CorpuslineModel" ({ cls := "CorpuslineModel", name := "run", desc := "(IIIIZ)I" } : Jvm.MethodName) ({ cls := "CorpuslineModel", name := "run", desc := "(IIIIZ)I" } : Jvm.MethodName)) ∈ TB := tb_of 850 (by decide +kernel) rfl
theorem tw_851 : (Jvm.Cond.code ({ cls := "CorpuslineModel", name := "run", desc := "(IIIIZ)I" } : Jvm.MethodName) prog_9_method_40_code (9 : Nat) (Option.some Jvm.ClassFile.FieldType.int)) ∈ TB := tb_of 851 (by decide +kernel) rfl
theorem tw_882 : (Jvm.Cond.methodLink "CorpuslineLaw" (171 : Nat) ({ cls := "CorpuslineModel", name := "walk", desc := "(IIIZ)I" } : Jvm.MethodName)) ∈ TB := tb_of 882 (by decide +kernel) rfl
theorem tw_883 : (Jvm.Cond.instanceMethod ({ cls := "CorpuslineModel", name := "walk", desc := "(IIIZ)I" } : Jvm.MethodName)) ∈ TB := tb_of 883 (by decide +kernel) rfl
theorem tw_884 : (Jvm.Cond.selects "CorpuslineModel" ({ cls := "CorpuslineModel", name := "walk", desc := "(IIIZ)I" } : Jvm.MethodName) ({ cls := "CorpuslineModel", name := "walk", desc := "(IIIZ)I" } : Jvm.MethodName)) ∈ TB := tb_of 884 (by decide +kernel) rfl
theorem tw_885 : (Jvm.Cond.code ({ cls := "CorpuslineModel", name := "walk", desc := "(IIIZ)I" } : Jvm.MethodName) prog_9_method_41_code (10 : Nat) (Option.some Jvm.ClassFile.FieldType.int)) ∈ TB := tb_of 885 (by decide +kernel) rfl
theorem tw_886 : (Jvm.Cond.methodLink "CorpuslineLaw" (174 : Nat) ({ cls := "CorpuslineModel", name := "join", desc := "(III)I" } : Jvm.MethodName)) ∈ TB := tb_of 886 (by decide +kernel) rfl
theorem tw_887 : (Jvm.Cond.instanceMethod ({ cls := "CorpuslineModel", name := "join", desc := "(III)I" } : Jvm.MethodName)) ∈ TB := tb_of 887 (by decide +kernel) rfl
theorem tw_888 : (Jvm.Cond.selects "CorpuslineModel" ({ cls := "CorpuslineModel", name := "join", desc := "(III)I" } : Jvm.MethodName) ({ cls := "CorpuslineModel", name := "join", desc := "(III)I" } : Jvm.MethodName)) ∈ TB := tb_of 888 (by decide +kernel) rfl
theorem tw_889 : (Jvm.Cond.code ({ cls := "CorpuslineModel", name := "join", desc := "(III)I" } : Jvm.MethodName) prog_9_method_43_code (8 : Nat) (Option.some Jvm.ClassFile.FieldType.int)) ∈ TB := tb_of 889 (by decide +kernel) rfl
theorem tw_894 : (Jvm.Cond.methodLink "CorpuslineLaw" (177 : Nat) ({ cls := "CorpuslineModel", name := "thin", desc := "(I)I" } : Jvm.MethodName)) ∈ TB := tb_of 894 (by decide +kernel) rfl
theorem tw_895 : (Jvm.Cond.instanceMethod ({ cls := "CorpuslineModel", name := "thin", desc := "(I)I" } : Jvm.MethodName)) ∈ TB := tb_of 895 (by decide +kernel) rfl
theorem tw_896 : (Jvm.Cond.selects "CorpuslineModel" ({ cls := "CorpuslineModel", name := "thin", desc := "(I)I" } : Jvm.MethodName) ({ cls := "CorpuslineModel", name := "thin", desc := "(I)I" } : Jvm.MethodName)) ∈ TB := tb_of 896 (by decide +kernel) rfl
theorem tw_897 : (Jvm.Cond.code ({ cls := "CorpuslineModel", name := "thin", desc := "(I)I" } : Jvm.MethodName) prog_9_method_44_code (5 : Nat) (Option.some Jvm.ClassFile.FieldType.int)) ∈ TB := tb_of 897 (by decide +kernel) rfl
theorem tw_898 : (Jvm.Cond.methodLink "CorpuslineLaw" (180 : Nat) ({ cls := "CorpuslineModel", name := "aligned", desc := "(IIZ)I" } : Jvm.MethodName)) ∈ TB := tb_of 898 (by decide +kernel) rfl
theorem tw_899 : (Jvm.Cond.instanceMethod ({ cls := "CorpuslineModel", name := "aligned", desc := "(IIZ)I" } : Jvm.MethodName)) ∈ TB := tb_of 899 (by decide +kernel) rfl
theorem tw_900 : (Jvm.Cond.selects "CorpuslineModel" ({ cls := "CorpuslineModel", name := "aligned", desc := "(IIZ)I" } : Jvm.MethodName) ({ cls := "CorpuslineModel", name := "aligned", desc := "(IIZ)I" } : Jvm.MethodName)) ∈ TB := tb_of 900 (by decide +kernel) rfl
theorem tw_901 : (Jvm.Cond.code ({ cls := "CorpuslineModel", name := "aligned", desc := "(IIZ)I" } : Jvm.MethodName) prog_9_method_46_code (7 : Nat) (Option.some Jvm.ClassFile.FieldType.int)) ∈ TB := tb_of 901 (by decide +kernel) rfl
theorem tw_906 : (Jvm.Cond.methodLink "CorpuslineLaw" (183 : Nat) ({ cls := "CorpuslineModel", name := "drop", desc := "(I)I" } : Jvm.MethodName)) ∈ TB := tb_of 906 (by decide +kernel) rfl
theorem tw_907 : (Jvm.Cond.instanceMethod ({ cls := "CorpuslineModel", name := "drop", desc := "(I)I" } : Jvm.MethodName)) ∈ TB := tb_of 907 (by decide +kernel) rfl
theorem tw_908 : (Jvm.Cond.selects "CorpuslineModel" ({ cls := "CorpuslineModel", name := "drop", desc := "(I)I" } : Jvm.MethodName) ({ cls := "CorpuslineModel", name := "drop", desc := "(I)I" } : Jvm.MethodName)) ∈ TB := tb_of 908 (by decide +kernel) rfl
theorem tw_909 : (Jvm.Cond.code ({ cls := "CorpuslineModel", name := "drop", desc := "(I)I" } : Jvm.MethodName) prog_9_method_47_code (2 : Nat) (Option.some Jvm.ClassFile.FieldType.int)) ∈ TB := tb_of 909 (by decide +kernel) rfl
theorem tw_910 : (Jvm.Cond.methodLink "CorpuslineLaw" (187 : Nat) ({ cls := "CorpuslineModel", name := "size", desc := "(I)I" } : Jvm.MethodName)) ∈ TB := tb_of 910 (by decide +kernel) rfl
theorem tw_911 : (Jvm.Cond.instanceMethod ({ cls := "CorpuslineModel", name := "size", desc := "(I)I" } : Jvm.MethodName)) ∈ TB := tb_of 911 (by decide +kernel) rfl
theorem tw_912 : (Jvm.Cond.selects "CorpuslineModel" ({ cls := "CorpuslineModel", name := "size", desc := "(I)I" } : Jvm.MethodName) ({ cls := "CorpuslineModel", name := "size", desc := "(I)I" } : Jvm.MethodName)) ∈ TB := tb_of 912 (by decide +kernel) rfl
theorem tw_913 : (Jvm.Cond.code ({ cls := "CorpuslineModel", name := "size", desc := "(I)I" } : Jvm.MethodName) prog_9_method_48_code (2 : Nat) (Option.some Jvm.ClassFile.FieldType.int)) ∈ TB := tb_of 913 (by decide +kernel) rfl
theorem tw_914 : (Jvm.Cond.methodLink "CorpuslineLaw" (190 : Nat) ({ cls := "CorpuslineModel", name := "match", desc := "(II)I" } : Jvm.MethodName)) ∈ TB := tb_of 914 (by decide +kernel) rfl
theorem tw_915 : (Jvm.Cond.instanceMethod ({ cls := "CorpuslineModel", name := "match", desc := "(II)I" } : Jvm.MethodName)) ∈ TB := tb_of 915 (by decide +kernel) rfl
theorem tw_916 : (Jvm.Cond.selects "CorpuslineModel" ({ cls := "CorpuslineModel", name := "match", desc := "(II)I" } : Jvm.MethodName) ({ cls := "CorpuslineModel", name := "match", desc := "(II)I" } : Jvm.MethodName)) ∈ TB := tb_of 916 (by decide +kernel) rfl
theorem tw_917 : (Jvm.Cond.code ({ cls := "CorpuslineModel", name := "match", desc := "(II)I" } : Jvm.MethodName) prog_9_method_49_code (8 : Nat) (Option.some Jvm.ClassFile.FieldType.int)) ∈ TB := tb_of 917 (by decide +kernel) rfl
theorem tw_918 : (Jvm.Cond.methodLink "CorpuslineLaw" (193 : Nat) ({ cls := "CorpuslineModel", name := "groups", desc := "(IIZ)I" } : Jvm.MethodName)) ∈ TB := tb_of 918 (by decide +kernel) rfl
theorem tw_919 : (Jvm.Cond.instanceMethod ({ cls := "CorpuslineModel", name := "groups", desc := "(IIZ)I" } : Jvm.MethodName)) ∈ TB := tb_of 919 (by decide +kernel) rfl
theorem tw_920 : (Jvm.Cond.selects "CorpuslineModel" ({ cls := "CorpuslineModel", name := "groups", desc := "(IIZ)I" } : Jvm.MethodName) ({ cls := "CorpuslineModel", name := "groups", desc := "(IIZ)I" } : Jvm.MethodName)) ∈ TB := tb_of 920 (by decide +kernel) rfl
theorem tw_921 : (Jvm.Cond.code ({ cls := "CorpuslineModel", name := "groups", desc := "(IIZ)I" } : Jvm.MethodName) prog_9_method_51_code (4 : Nat) (Option.some Jvm.ClassFile.FieldType.int)) ∈ TB := tb_of 921 (by decide +kernel) rfl
theorem tw_926 : (Jvm.Cond.methodLink "CorpuslineLaw" (197 : Nat) ({ cls := "CorpuslineModel", name := "groupAt", desc := "(IIZI)I" } : Jvm.MethodName)) ∈ TB := tb_of 926 (by decide +kernel) rfl
theorem tw_927 : (Jvm.Cond.instanceMethod ({ cls := "CorpuslineModel", name := "groupAt", desc := "(IIZI)I" } : Jvm.MethodName)) ∈ TB := tb_of 927 (by decide +kernel) rfl
theorem tw_928 : (Jvm.Cond.selects "CorpuslineModel" ({ cls := "CorpuslineModel", name := "groupAt", desc := "(IIZI)I" } : Jvm.MethodName) ({ cls := "CorpuslineModel", name := "groupAt", desc := "(IIZI)I" } : Jvm.MethodName)) ∈ TB := tb_of 928 (by decide +kernel) rfl
theorem tw_929 : (Jvm.Cond.code ({ cls := "CorpuslineModel", name := "groupAt", desc := "(IIZI)I" } : Jvm.MethodName) prog_9_method_52_code (11 : Nat) (Option.some Jvm.ClassFile.FieldType.int)) ∈ TB := tb_of 929 (by decide +kernel) rfl
theorem ok_RL_107 : okV RL 107 yX7_token cX7_token 8 (Option.some Jvm.ClassFile.FieldType.int) 4 := ⟨tw_736, tw_737, tw_738, tw_5, tw_739, ⟨by decide, by decide, by decide +kernel⟩⟩
theorem ok_RL_108 : okV RL 108 yX7_thrown cX7_thrown 1 (Option.some Jvm.ClassFile.FieldType.int) 0 := ⟨tw_732, tw_733, tw_734, tw_5, tw_735, ⟨by decide, by decide, by decide +kernel⟩⟩
theorem ok_RL_114 : okV RL 114 yX7_end cX7_end 4 (Option.some Jvm.ClassFile.FieldType.int) 2 := ⟨tw_750, tw_751, tw_752, tw_5, tw_753, ⟨by decide, by decide, by decide +kernel⟩⟩
theorem ok_RL_118 : okV RL 118 yX7_align cX7_align 5 (Option.some Jvm.ClassFile.FieldType.int) 2 := ⟨tw_754, tw_755, tw_756, tw_5, tw_757, ⟨by decide, by decide, by decide +kernel⟩⟩
theorem ok_RL_122 : okV RL 122 yX7_tokens cX7_tokens 2 (Option.some Jvm.ClassFile.FieldType.int) 1 := ⟨tw_762, tw_763, tw_764, tw_5, tw_765, ⟨by decide, by decide, by decide +kernel⟩⟩
theorem ok_RL_125 : okV RL 125 yX7_sentenceOf cX7_sentenceOf 4 (Option.some Jvm.ClassFile.FieldType.int) 2 := ⟨tw_766, tw_767, tw_768, tw_5, tw_769, ⟨by decide, by decide, by decide +kernel⟩⟩
theorem ok_RL_129 : okV RL 129 yX7_occurs cX7_occurs 6 (Option.some Jvm.ClassFile.FieldType.int) 3 := ⟨tw_770, tw_771, tw_772, tw_5, tw_773, ⟨by decide, by decide, by decide +kernel⟩⟩
theorem ok_RL_133 : okV RL 133 yX7_test cX7_test 5 (Option.some Jvm.ClassFile.FieldType.int) 3 := ⟨tw_781, tw_782, tw_783, tw_5, tw_784, ⟨by decide, by decide, by decide +kernel⟩⟩
theorem ok_RL_137 : okV RL 137 yX7_any cX7_any 2 (Option.some Jvm.ClassFile.FieldType.int) 0 := ⟨tw_793, tw_794, tw_795, tw_5, tw_796, ⟨by decide, by decide, by decide +kernel⟩⟩
theorem ok_RL_140 : okV RL 140 yX7_same cX7_same 4 (Option.some Jvm.ClassFile.FieldType.int) 2 := ⟨tw_797, tw_798, tw_799, tw_5, tw_800, ⟨by decide, by decide, by decide +kernel⟩⟩
theorem ok_RL_144 : okV RL 144 yX7_label cX7_label 3 (Option.none : Option Jvm.ClassFile.FieldType) 1 := ⟨tw_804, tw_805, tw_806, tw_5, tw_807, ⟨by decide, by decide, by decide +kernel⟩⟩
theorem ok_RL_147 : okV RL 147 yX7_both cX7_both 7 (Option.some Jvm.ClassFile.FieldType.int) 0 := ⟨tw_808, tw_809, tw_810, tw_5, tw_811, ⟨by decide, by decide, by decide +kernel⟩⟩
theorem ok_RL_150 : okV RL 150 yX7_chain cX7_chain 3 (Option.some Jvm.ClassFile.FieldType.int) 0 := ⟨tw_812, tw_813, tw_814, tw_5, tw_815, ⟨by decide, by decide, by decide +kernel⟩⟩
theorem ok_RL_153 : okV RL 153 yX7_either cX7_either 4 (Option.some Jvm.ClassFile.FieldType.int) 0 := ⟨tw_828, tw_829, tw_830, tw_5, tw_831, ⟨by decide, by decide, by decide +kernel⟩⟩
theorem ok_RL_156 : okV RL 156 yX7_repeat cX7_repeat 10 (Option.some Jvm.ClassFile.FieldType.int) 2 := ⟨tw_832, tw_833, tw_834, tw_5, tw_835, ⟨by decide, by decide, by decide +kernel⟩⟩
theorem ok_RL_159 : okV RL 159 yX7_keep cX7_keep 1 (Option.some Jvm.ClassFile.FieldType.int) 0 := ⟨tw_836, tw_837, tw_838, tw_5, tw_839, ⟨by decide, by decide, by decide +kernel⟩⟩
theorem ok_RL_160 : okV RL 160 yX6_wipe cX6_wipe 2 (Option.some Jvm.ClassFile.FieldType.int) 0 := ⟨tw_126, tw_127, tw_128, tw_1, tw_129, ⟨by decide, by decide, by decide +kernel⟩⟩
theorem ok_RL_163 : okV RL 163 yX7_wipe cX7_wipe 2 (Option.some Jvm.ClassFile.FieldType.int) 0 := ⟨tw_844, tw_845, tw_846, tw_5, tw_847, ⟨by decide, by decide, by decide +kernel⟩⟩
theorem ok_RL_167 : okV RL 167 yX7_run cX7_run 9 (Option.some Jvm.ClassFile.FieldType.int) 5 := ⟨tw_848, tw_849, tw_850, tw_5, tw_851, ⟨by decide, by decide, by decide +kernel⟩⟩
theorem ok_RL_171 : okV RL 171 yX7_walk cX7_walk 10 (Option.some Jvm.ClassFile.FieldType.int) 4 := ⟨tw_882, tw_883, tw_884, tw_5, tw_885, ⟨by decide, by decide, by decide +kernel⟩⟩
theorem ok_RL_174 : okV RL 174 yX7_join cX7_join 8 (Option.some Jvm.ClassFile.FieldType.int) 3 := ⟨tw_886, tw_887, tw_888, tw_5, tw_889, ⟨by decide, by decide, by decide +kernel⟩⟩
theorem ok_RL_177 : okV RL 177 yX7_thin cX7_thin 5 (Option.some Jvm.ClassFile.FieldType.int) 1 := ⟨tw_894, tw_895, tw_896, tw_5, tw_897, ⟨by decide, by decide, by decide +kernel⟩⟩
theorem ok_RL_180 : okV RL 180 yX7_aligned cX7_aligned 7 (Option.some Jvm.ClassFile.FieldType.int) 3 := ⟨tw_898, tw_899, tw_900, tw_5, tw_901, ⟨by decide, by decide, by decide +kernel⟩⟩
theorem ok_RL_183 : okV RL 183 yX7_drop cX7_drop 2 (Option.some Jvm.ClassFile.FieldType.int) 1 := ⟨tw_906, tw_907, tw_908, tw_5, tw_909, ⟨by decide, by decide, by decide +kernel⟩⟩
theorem ok_RL_184 : okV RL 184 yX6_size cX6_size 2 (Option.some Jvm.ClassFile.FieldType.int) 1 := ⟨tw_134, tw_135, tw_136, tw_1, tw_137, ⟨by decide, by decide, by decide +kernel⟩⟩
theorem ok_RL_187 : okV RL 187 yX7_size cX7_size 2 (Option.some Jvm.ClassFile.FieldType.int) 1 := ⟨tw_910, tw_911, tw_912, tw_5, tw_913, ⟨by decide, by decide, by decide +kernel⟩⟩
theorem ok_RL_190 : okV RL 190 yX7_match cX7_match 8 (Option.some Jvm.ClassFile.FieldType.int) 2 := ⟨tw_914, tw_915, tw_916, tw_5, tw_917, ⟨by decide, by decide, by decide +kernel⟩⟩
theorem ok_RL_193 : okV RL 193 yX7_groups cX7_groups 4 (Option.some Jvm.ClassFile.FieldType.int) 3 := ⟨tw_918, tw_919, tw_920, tw_5, tw_921, ⟨by decide, by decide, by decide +kernel⟩⟩
theorem ok_RL_197 : okV RL 197 yX7_groupAt cX7_groupAt 11 (Option.some Jvm.ClassFile.FieldType.int) 4 := ⟨tw_926, tw_927, tw_928, tw_5, tw_929, ⟨by decide, by decide, by decide +kernel⟩⟩
theorem ok_RL_102 : okSH RL 102 yL_token cL_token 7 (Option.some Jvm.ClassFile.FieldType.int) [((0 : Nat), (14 : Nat), (17 : Nat), (13 : Nat)), ((0 : Nat), (14 : Nat), (21 : Nat), (15 : Nat)), ((0 : Nat), (14 : Nat), (25 : Nat), (17 : Nat))] 6 := ⟨tw_152, tw_153, tw_0, tw_154, ⟨by decide, by decide, by decide +kernel⟩⟩
theorem ok_RL_111 : okSH RL 111 yL_end cL_end 5 (Option.some Jvm.ClassFile.FieldType.int) [((0 : Nat), (10 : Nat), (13 : Nat), (13 : Nat)), ((0 : Nat), (10 : Nat), (17 : Nat), (17 : Nat))] 4 := ⟨tw_273, tw_274, tw_0, tw_275, ⟨by decide, by decide, by decide +kernel⟩⟩
theorem ok_RL_115 : okSH RL 115 yL_align cL_align 5 (Option.some Jvm.ClassFile.FieldType.int) [((0 : Nat), (10 : Nat), (13 : Nat), (13 : Nat))] 4 := ⟨tw_281, tw_282, tw_0, tw_283, ⟨by decide, by decide, by decide +kernel⟩⟩
theorem ok_RL_119 : okSH RL 119 yL_tokens cL_tokens 4 (Option.some Jvm.ClassFile.FieldType.int) [((0 : Nat), (9 : Nat), (12 : Nat), (13 : Nat))] 3 := ⟨tw_293, tw_294, tw_0, tw_295, ⟨by decide, by decide, by decide +kernel⟩⟩
theorem ok_RL_123 : okSH RL 123 yL_sentenceOf cL_sentenceOf 5 (Option.some Jvm.ClassFile.FieldType.int) [((0 : Nat), (10 : Nat), (13 : Nat), (13 : Nat))] 4 := ⟨tw_300, tw_301, tw_0, tw_302, ⟨by decide, by decide, by decide +kernel⟩⟩
theorem ok_RL_126 : okSH RL 126 yL_occurs cL_occurs 6 (Option.some Jvm.ClassFile.FieldType.int) [((0 : Nat), (12 : Nat), (15 : Nat), (13 : Nat)), ((0 : Nat), (12 : Nat), (19 : Nat), (15 : Nat))] 5 := ⟨tw_308, tw_309, tw_0, tw_310, ⟨by decide, by decide, by decide +kernel⟩⟩
theorem ok_RL_130 : okSH RL 130 yL_test cL_test 6 (Option.some Jvm.ClassFile.FieldType.int) [((0 : Nat), (12 : Nat), (15 : Nat), (15 : Nat)), ((0 : Nat), (12 : Nat), (19 : Nat), (17 : Nat))] 5 := ⟨tw_319, tw_320, tw_0, tw_321, ⟨by decide, by decide, by decide +kernel⟩⟩
theorem ok_RL_134 : okSH RL 134 yL_any cL_any 3 (Option.some Jvm.ClassFile.FieldType.int) [((0 : Nat), (8 : Nat), (11 : Nat), (17 : Nat))] 2 := ⟨tw_409, tw_410, tw_0, tw_411, ⟨by decide, by decide, by decide +kernel⟩⟩
theorem ok_RL_138 : okSH RL 138 yL_same cL_same 5 (Option.some Jvm.ClassFile.FieldType.int) [((0 : Nat), (10 : Nat), (13 : Nat), (15 : Nat)), ((0 : Nat), (10 : Nat), (17 : Nat), (17 : Nat))] 4 := ⟨tw_417, tw_418, tw_0, tw_419, ⟨by decide, by decide, by decide +kernel⟩⟩
theorem ok_RL_141 : okSH RL 141 yL_label cL_label 3 (Option.some Jvm.ClassFile.FieldType.int) [((0 : Nat), (5 : Nat), (8 : Nat), (15 : Nat)), ((0 : Nat), (5 : Nat), (11 : Nat), (17 : Nat))] 2 := ⟨tw_424, tw_425, tw_0, tw_426, ⟨by decide, by decide, by decide +kernel⟩⟩
theorem ok_RL_145 : okSH RL 145 yL_both cL_both 3 (Option.some Jvm.ClassFile.FieldType.int) [((0 : Nat), (8 : Nat), (11 : Nat), (17 : Nat))] 2 := ⟨tw_448, tw_449, tw_0, tw_450, ⟨by decide, by decide, by decide +kernel⟩⟩
theorem ok_RL_148 : okSH RL 148 yL_chain cL_chain 3 (Option.some Jvm.ClassFile.FieldType.int) [((0 : Nat), (8 : Nat), (11 : Nat), (17 : Nat))] 2 := ⟨tw_456, tw_457, tw_0, tw_458, ⟨by decide, by decide, by decide +kernel⟩⟩
theorem ok_RL_151 : okSH RL 151 yL_either cL_either 3 (Option.some Jvm.ClassFile.FieldType.int) [((0 : Nat), (8 : Nat), (11 : Nat), (17 : Nat))] 2 := ⟨tw_473, tw_474, tw_0, tw_475, ⟨by decide, by decide, by decide +kernel⟩⟩
theorem ok_RL_154 : okSH RL 154 yL_repeat cL_repeat 5 (Option.some Jvm.ClassFile.FieldType.int) [((0 : Nat), (10 : Nat), (13 : Nat), (15 : Nat)), ((0 : Nat), (10 : Nat), (17 : Nat), (17 : Nat))] 4 := ⟨tw_483, tw_484, tw_0, tw_485, ⟨by decide, by decide, by decide +kernel⟩⟩
theorem ok_RL_157 : okSH RL 157 yL_keep cL_keep 3 (Option.some Jvm.ClassFile.FieldType.int) [((0 : Nat), (8 : Nat), (11 : Nat), (17 : Nat))] 2 := ⟨tw_498, tw_499, tw_0, tw_500, ⟨by decide, by decide, by decide +kernel⟩⟩
theorem ok_RL_164 : okSH RL 164 yL_run cL_run 8 (Option.some Jvm.ClassFile.FieldType.int) [((0 : Nat), (16 : Nat), (19 : Nat), (13 : Nat)), ((0 : Nat), (16 : Nat), (23 : Nat), (15 : Nat))] 7 := ⟨tw_506, tw_507, tw_0, tw_508, ⟨by decide, by decide, by decide +kernel⟩⟩
theorem ok_RL_168 : okSH RL 168 yL_walk cL_walk 7 (Option.some Jvm.ClassFile.FieldType.int) [((0 : Nat), (14 : Nat), (17 : Nat), (13 : Nat)), ((0 : Nat), (14 : Nat), (21 : Nat), (15 : Nat))] 6 := ⟨tw_565, tw_566, tw_0, tw_567, ⟨by decide, by decide, by decide +kernel⟩⟩
theorem ok_RL_172 : okSH RL 172 yL_join cL_join 6 (Option.some Jvm.ClassFile.FieldType.int) [((0 : Nat), (12 : Nat), (15 : Nat), (13 : Nat)), ((0 : Nat), (12 : Nat), (19 : Nat), (15 : Nat)), ((0 : Nat), (12 : Nat), (23 : Nat), (17 : Nat))] 5 := ⟨tw_572, tw_573, tw_0, tw_574, ⟨by decide, by decide, by decide +kernel⟩⟩
theorem ok_RL_175 : okSH RL 175 yL_thin cL_thin 4 (Option.some Jvm.ClassFile.FieldType.int) [((0 : Nat), (9 : Nat), (12 : Nat), (13 : Nat))] 3 := ⟨tw_588, tw_589, tw_0, tw_590, ⟨by decide, by decide, by decide +kernel⟩⟩
theorem ok_RL_178 : okSH RL 178 yL_aligned cL_aligned 6 (Option.some Jvm.ClassFile.FieldType.int) [((0 : Nat), (12 : Nat), (15 : Nat), (13 : Nat))] 5 := ⟨tw_606, tw_607, tw_0, tw_608, ⟨by decide, by decide, by decide +kernel⟩⟩
theorem ok_RL_181 : okSH RL 181 yL_drop cL_drop 4 (Option.some Jvm.ClassFile.FieldType.int) [((0 : Nat), (9 : Nat), (12 : Nat), (13 : Nat))] 3 := ⟨tw_617, tw_618, tw_0, tw_619, ⟨by decide, by decide, by decide +kernel⟩⟩
theorem ok_RL_188 : okSH RL 188 yL_match cL_match 5 (Option.some Jvm.ClassFile.FieldType.int) [((0 : Nat), (10 : Nat), (13 : Nat), (13 : Nat))] 4 := ⟨tw_624, tw_625, tw_0, tw_626, ⟨by decide, by decide, by decide +kernel⟩⟩
theorem ok_RL_191 : okSH RL 191 yL_groups cL_groups 6 (Option.some Jvm.ClassFile.FieldType.int) [((0 : Nat), (12 : Nat), (15 : Nat), (13 : Nat)), ((0 : Nat), (12 : Nat), (19 : Nat), (15 : Nat))] 5 := ⟨tw_632, tw_633, tw_0, tw_634, ⟨by decide, by decide, by decide +kernel⟩⟩
theorem ok_RL_194 : okSH RL 194 yL_groupAt cL_groupAt 7 (Option.some Jvm.ClassFile.FieldType.int) [((0 : Nat), (14 : Nat), (17 : Nat), (13 : Nat)), ((0 : Nat), (14 : Nat), (21 : Nat), (15 : Nat))] 6 := ⟨tw_643, tw_644, tw_0, tw_645, ⟨by decide, by decide, by decide +kernel⟩⟩
theorem lg_cmp_0 (a : Int64) : lg_cmp a a = 0 := by
  unfold lg_cmp
  simp
def dl_L_law0 : List (Nat × Instr × Nat) := [(0, .new 8, 3), (3, .dup, 1), (4, .invokespecial 98, 3), (7, .astore_n 1, 1), (8, .new 99, 3), (11, .dup, 1), (12, .invokespecial 101, 3), (15, .astore_n 2, 1), (16, .iconst 1, 1), (17, .newarray .long, 2), (19, .astore_n 3, 1), (20, .iconst 0, 1), (21, .istore 4, 2), (23, .iload 4, 2), (25, .aload_n 0, 1), (26, .arraylength, 1), (27, .bipush 6, 2), (29, .isub, 1), (30, .if_icmp .gt 1898, 3), (33, .aload_n 0, 1), (34, .iload 4, 2), (36, .iaload, 1), (37, .bipush 31, 2), (39, .iand, 1)]
theorem dc_L_law0 : dnL cL_law dl_L_law0 = true := by decide +kernel
theorem d_L_law_0 : dn cL_law 0 (.new 8) 3 3 := dnAt dc_L_law0 0 rfl rfl
theorem d_L_law_3 : dn cL_law 3 (.dup) 1 4 := dnAt dc_L_law0 1 rfl rfl
theorem d_L_law_4 : dn cL_law 4 (.invokespecial 98) 3 7 := dnAt dc_L_law0 2 rfl rfl
theorem d_L_law_7 : dn cL_law 7 (.astore_n 1) 1 8 := dnAt dc_L_law0 3 rfl rfl
theorem d_L_law_8 : dn cL_law 8 (.new 99) 3 11 := dnAt dc_L_law0 4 rfl rfl
theorem d_L_law_11 : dn cL_law 11 (.dup) 1 12 := dnAt dc_L_law0 5 rfl rfl
theorem d_L_law_12 : dn cL_law 12 (.invokespecial 101) 3 15 := dnAt dc_L_law0 6 rfl rfl
theorem d_L_law_15 : dn cL_law 15 (.astore_n 2) 1 16 := dnAt dc_L_law0 7 rfl rfl
theorem d_L_law_16 : dn cL_law 16 (.iconst 1) 1 17 := dnAt dc_L_law0 8 rfl rfl
theorem d_L_law_17 : dn cL_law 17 (.newarray .long) 2 19 := dnAt dc_L_law0 9 rfl rfl
theorem d_L_law_19 : dn cL_law 19 (.astore_n 3) 1 20 := dnAt dc_L_law0 10 rfl rfl
theorem d_L_law_20 : dn cL_law 20 (.iconst 0) 1 21 := dnAt dc_L_law0 11 rfl rfl
theorem d_L_law_21 : dn cL_law 21 (.istore 4) 2 23 := dnAt dc_L_law0 12 rfl rfl
theorem d_L_law_23 : dn cL_law 23 (.iload 4) 2 25 := dnAt dc_L_law0 13 rfl rfl
theorem d_L_law_25 : dn cL_law 25 (.aload_n 0) 1 26 := dnAt dc_L_law0 14 rfl rfl
theorem d_L_law_26 : dn cL_law 26 (.arraylength) 1 27 := dnAt dc_L_law0 15 rfl rfl
theorem d_L_law_27 : dn cL_law 27 (.bipush 6) 2 29 := dnAt dc_L_law0 16 rfl rfl
theorem d_L_law_29 : dn cL_law 29 (.isub) 1 30 := dnAt dc_L_law0 17 rfl rfl
theorem d_L_law_30 : dn cL_law 30 (.if_icmp .gt 1898) 3 33 := dnAt dc_L_law0 18 rfl rfl
theorem d_L_law_33 : dn cL_law 33 (.aload_n 0) 1 34 := dnAt dc_L_law0 19 rfl rfl
theorem d_L_law_34 : dn cL_law 34 (.iload 4) 2 36 := dnAt dc_L_law0 20 rfl rfl
theorem d_L_law_36 : dn cL_law 36 (.iaload) 1 37 := dnAt dc_L_law0 21 rfl rfl
theorem d_L_law_37 : dn cL_law 37 (.bipush 31) 2 39 := dnAt dc_L_law0 22 rfl rfl
theorem d_L_law_39 : dn cL_law 39 (.iand) 1 40 := dnAt dc_L_law0 23 rfl rfl
def dl_L_law1 : List (Nat × Instr × Nat) := [(40, .tableswitch 1882 0 25 #[120, 212, 296, 364, 420, 488, 568, 664, 708, 776, 812, 856, 900, 944, 1012, 1056, 1069, 1189, 1297, 1377, 1433, 1529, 1585, 1610, 1678, 1774], 120), (160, .aload_n 1, 1), (161, .aload_n 0, 1), (162, .iload 4, 2), (164, .iconst 1, 1), (165, .iadd, 1), (166, .iaload, 1), (167, .aload_n 0, 1), (168, .iload 4, 2), (170, .iconst 2, 1), (171, .iadd, 1), (172, .iaload, 1), (173, .aload_n 0, 1), (174, .iload 4, 2), (176, .iconst 3, 1), (177, .iadd, 1), (178, .iaload, 1), (179, .aload_n 0, 1), (180, .iload 4, 2), (182, .iconst 4, 1), (183, .iadd, 1), (184, .iaload, 1), (185, .aload_n 3, 1), (186, .invokestatic 102, 3)]
theorem dc_L_law1 : dnL cL_law dl_L_law1 = true := by decide +kernel
theorem d_L_law_40 : dn cL_law 40 (.tableswitch 1882 0 25 #[120, 212, 296, 364, 420, 488, 568, 664, 708, 776, 812, 856, 900, 944, 1012, 1056, 1069, 1189, 1297, 1377, 1433, 1529, 1585, 1610, 1678, 1774]) 120 160 := dnAt dc_L_law1 0 rfl rfl
theorem d_L_law_160 : dn cL_law 160 (.aload_n 1) 1 161 := dnAt dc_L_law1 1 rfl rfl
theorem d_L_law_161 : dn cL_law 161 (.aload_n 0) 1 162 := dnAt dc_L_law1 2 rfl rfl
theorem d_L_law_162 : dn cL_law 162 (.iload 4) 2 164 := dnAt dc_L_law1 3 rfl rfl
theorem d_L_law_164 : dn cL_law 164 (.iconst 1) 1 165 := dnAt dc_L_law1 4 rfl rfl
theorem d_L_law_165 : dn cL_law 165 (.iadd) 1 166 := dnAt dc_L_law1 5 rfl rfl
theorem d_L_law_166 : dn cL_law 166 (.iaload) 1 167 := dnAt dc_L_law1 6 rfl rfl
theorem d_L_law_167 : dn cL_law 167 (.aload_n 0) 1 168 := dnAt dc_L_law1 7 rfl rfl
theorem d_L_law_168 : dn cL_law 168 (.iload 4) 2 170 := dnAt dc_L_law1 8 rfl rfl
theorem d_L_law_170 : dn cL_law 170 (.iconst 2) 1 171 := dnAt dc_L_law1 9 rfl rfl
theorem d_L_law_171 : dn cL_law 171 (.iadd) 1 172 := dnAt dc_L_law1 10 rfl rfl
theorem d_L_law_172 : dn cL_law 172 (.iaload) 1 173 := dnAt dc_L_law1 11 rfl rfl
theorem d_L_law_173 : dn cL_law 173 (.aload_n 0) 1 174 := dnAt dc_L_law1 12 rfl rfl
theorem d_L_law_174 : dn cL_law 174 (.iload 4) 2 176 := dnAt dc_L_law1 13 rfl rfl
theorem d_L_law_176 : dn cL_law 176 (.iconst 3) 1 177 := dnAt dc_L_law1 14 rfl rfl
theorem d_L_law_177 : dn cL_law 177 (.iadd) 1 178 := dnAt dc_L_law1 15 rfl rfl
theorem d_L_law_178 : dn cL_law 178 (.iaload) 1 179 := dnAt dc_L_law1 16 rfl rfl
theorem d_L_law_179 : dn cL_law 179 (.aload_n 0) 1 180 := dnAt dc_L_law1 17 rfl rfl
theorem d_L_law_180 : dn cL_law 180 (.iload 4) 2 182 := dnAt dc_L_law1 18 rfl rfl
theorem d_L_law_182 : dn cL_law 182 (.iconst 4) 1 183 := dnAt dc_L_law1 19 rfl rfl
theorem d_L_law_183 : dn cL_law 183 (.iadd) 1 184 := dnAt dc_L_law1 20 rfl rfl
theorem d_L_law_184 : dn cL_law 184 (.iaload) 1 185 := dnAt dc_L_law1 21 rfl rfl
theorem d_L_law_185 : dn cL_law 185 (.aload_n 3) 1 186 := dnAt dc_L_law1 22 rfl rfl
theorem d_L_law_186 : dn cL_law 186 (.invokestatic 102) 3 189 := dnAt dc_L_law1 23 rfl rfl
def dl_L_law2 : List (Nat × Instr × Nat) := [(189, .istore 5, 2), (191, .aload_n 2, 1), (192, .aload_n 0, 1), (193, .iload 4, 2), (195, .iconst 1, 1), (196, .iadd, 1), (197, .iaload, 1), (198, .aload_n 0, 1), (199, .iload 4, 2), (201, .iconst 2, 1), (202, .iadd, 1), (203, .iaload, 1), (204, .aload_n 0, 1), (205, .iload 4, 2), (207, .iconst 3, 1), (208, .iadd, 1), (209, .iaload, 1), (210, .aload_n 0, 1), (211, .iload 4, 2), (213, .iconst 4, 1), (214, .iadd, 1), (215, .iaload, 1), (216, .invokevirtual 107, 3), (219, .istore 6, 2)]
theorem dc_L_law2 : dnL cL_law dl_L_law2 = true := by decide +kernel
theorem d_L_law_189 : dn cL_law 189 (.istore 5) 2 191 := dnAt dc_L_law2 0 rfl rfl
theorem d_L_law_191 : dn cL_law 191 (.aload_n 2) 1 192 := dnAt dc_L_law2 1 rfl rfl
theorem d_L_law_192 : dn cL_law 192 (.aload_n 0) 1 193 := dnAt dc_L_law2 2 rfl rfl
theorem d_L_law_193 : dn cL_law 193 (.iload 4) 2 195 := dnAt dc_L_law2 3 rfl rfl
theorem d_L_law_195 : dn cL_law 195 (.iconst 1) 1 196 := dnAt dc_L_law2 4 rfl rfl
theorem d_L_law_196 : dn cL_law 196 (.iadd) 1 197 := dnAt dc_L_law2 5 rfl rfl
theorem d_L_law_197 : dn cL_law 197 (.iaload) 1 198 := dnAt dc_L_law2 6 rfl rfl
theorem d_L_law_198 : dn cL_law 198 (.aload_n 0) 1 199 := dnAt dc_L_law2 7 rfl rfl
theorem d_L_law_199 : dn cL_law 199 (.iload 4) 2 201 := dnAt dc_L_law2 8 rfl rfl
theorem d_L_law_201 : dn cL_law 201 (.iconst 2) 1 202 := dnAt dc_L_law2 9 rfl rfl
theorem d_L_law_202 : dn cL_law 202 (.iadd) 1 203 := dnAt dc_L_law2 10 rfl rfl
theorem d_L_law_203 : dn cL_law 203 (.iaload) 1 204 := dnAt dc_L_law2 11 rfl rfl
theorem d_L_law_204 : dn cL_law 204 (.aload_n 0) 1 205 := dnAt dc_L_law2 12 rfl rfl
theorem d_L_law_205 : dn cL_law 205 (.iload 4) 2 207 := dnAt dc_L_law2 13 rfl rfl
theorem d_L_law_207 : dn cL_law 207 (.iconst 3) 1 208 := dnAt dc_L_law2 14 rfl rfl
theorem d_L_law_208 : dn cL_law 208 (.iadd) 1 209 := dnAt dc_L_law2 15 rfl rfl
theorem d_L_law_209 : dn cL_law 209 (.iaload) 1 210 := dnAt dc_L_law2 16 rfl rfl
theorem d_L_law_210 : dn cL_law 210 (.aload_n 0) 1 211 := dnAt dc_L_law2 17 rfl rfl
theorem d_L_law_211 : dn cL_law 211 (.iload 4) 2 213 := dnAt dc_L_law2 18 rfl rfl
theorem d_L_law_213 : dn cL_law 213 (.iconst 4) 1 214 := dnAt dc_L_law2 19 rfl rfl
theorem d_L_law_214 : dn cL_law 214 (.iadd) 1 215 := dnAt dc_L_law2 20 rfl rfl
theorem d_L_law_215 : dn cL_law 215 (.iaload) 1 216 := dnAt dc_L_law2 21 rfl rfl
theorem d_L_law_216 : dn cL_law 216 (.invokevirtual 107) 3 219 := dnAt dc_L_law2 22 rfl rfl
theorem d_L_law_219 : dn cL_law 219 (.istore 6) 2 221 := dnAt dc_L_law2 23 rfl rfl
def dl_L_law3 : List (Nat × Instr × Nat) := [(221, .aload_n 2, 1), (222, .invokevirtual 108, 3), (225, .iload 5, 2), (227, .if_icmp .eq 5, 3), (230, .iconst 0, 1), (231, .ireturn, 1), (232, .iload 5, 2), (234, .ifCond .ne 15, 3), (237, .aload_n 3, 1), (238, .iconst 0, 1), (239, .laload, 1), (240, .iload 6, 2), (242, .i2l, 1), (243, .lcmp, 1), (244, .ifCond .eq 5, 3), (247, .iconst 0, 1), (248, .ireturn, 1), (249, .goto 1673, 3), (252, .aload_n 1, 1), (253, .aload_n 0, 1), (254, .iload 4, 2), (256, .iconst 1, 1), (257, .iadd, 1), (258, .iaload, 1)]
theorem dc_L_law3 : dnL cL_law dl_L_law3 = true := by decide +kernel
theorem d_L_law_221 : dn cL_law 221 (.aload_n 2) 1 222 := dnAt dc_L_law3 0 rfl rfl
theorem d_L_law_222 : dn cL_law 222 (.invokevirtual 108) 3 225 := dnAt dc_L_law3 1 rfl rfl
theorem d_L_law_225 : dn cL_law 225 (.iload 5) 2 227 := dnAt dc_L_law3 2 rfl rfl
theorem d_L_law_227 : dn cL_law 227 (.if_icmp .eq 5) 3 230 := dnAt dc_L_law3 3 rfl rfl
theorem d_L_law_230 : dn cL_law 230 (.iconst 0) 1 231 := dnAt dc_L_law3 4 rfl rfl
theorem d_L_law_231 : dn cL_law 231 (.ireturn) 1 232 := dnAt dc_L_law3 5 rfl rfl
theorem d_L_law_232 : dn cL_law 232 (.iload 5) 2 234 := dnAt dc_L_law3 6 rfl rfl
theorem d_L_law_234 : dn cL_law 234 (.ifCond .ne 15) 3 237 := dnAt dc_L_law3 7 rfl rfl
theorem d_L_law_237 : dn cL_law 237 (.aload_n 3) 1 238 := dnAt dc_L_law3 8 rfl rfl
theorem d_L_law_238 : dn cL_law 238 (.iconst 0) 1 239 := dnAt dc_L_law3 9 rfl rfl
theorem d_L_law_239 : dn cL_law 239 (.laload) 1 240 := dnAt dc_L_law3 10 rfl rfl
theorem d_L_law_240 : dn cL_law 240 (.iload 6) 2 242 := dnAt dc_L_law3 11 rfl rfl
theorem d_L_law_242 : dn cL_law 242 (.i2l) 1 243 := dnAt dc_L_law3 12 rfl rfl
theorem d_L_law_243 : dn cL_law 243 (.lcmp) 1 244 := dnAt dc_L_law3 13 rfl rfl
theorem d_L_law_244 : dn cL_law 244 (.ifCond .eq 5) 3 247 := dnAt dc_L_law3 14 rfl rfl
theorem d_L_law_247 : dn cL_law 247 (.iconst 0) 1 248 := dnAt dc_L_law3 15 rfl rfl
theorem d_L_law_248 : dn cL_law 248 (.ireturn) 1 249 := dnAt dc_L_law3 16 rfl rfl
theorem d_L_law_249 : dn cL_law 249 (.goto 1673) 3 252 := dnAt dc_L_law3 17 rfl rfl
theorem d_L_law_252 : dn cL_law 252 (.aload_n 1) 1 253 := dnAt dc_L_law3 18 rfl rfl
theorem d_L_law_253 : dn cL_law 253 (.aload_n 0) 1 254 := dnAt dc_L_law3 19 rfl rfl
theorem d_L_law_254 : dn cL_law 254 (.iload 4) 2 256 := dnAt dc_L_law3 20 rfl rfl
theorem d_L_law_256 : dn cL_law 256 (.iconst 1) 1 257 := dnAt dc_L_law3 21 rfl rfl
theorem d_L_law_257 : dn cL_law 257 (.iadd) 1 258 := dnAt dc_L_law3 22 rfl rfl
theorem d_L_law_258 : dn cL_law 258 (.iaload) 1 259 := dnAt dc_L_law3 23 rfl rfl
def dl_L_law4 : List (Nat × Instr × Nat) := [(259, .aload_n 0, 1), (260, .iload 4, 2), (262, .iconst 2, 1), (263, .iadd, 1), (264, .iaload, 1), (265, .ifCond .eq 7, 3), (268, .iconst 1, 1), (269, .goto 4, 3), (272, .iconst 0, 1), (273, .aload_n 3, 1), (274, .invokestatic 111, 3), (277, .istore 5, 2), (279, .aload_n 2, 1), (280, .aload_n 0, 1), (281, .iload 4, 2), (283, .iconst 1, 1), (284, .iadd, 1), (285, .iaload, 1), (286, .aload_n 0, 1), (287, .iload 4, 2), (289, .iconst 2, 1), (290, .iadd, 1), (291, .iaload, 1), (292, .ifCond .eq 7, 3)]
theorem dc_L_law4 : dnL cL_law dl_L_law4 = true := by decide +kernel
theorem d_L_law_259 : dn cL_law 259 (.aload_n 0) 1 260 := dnAt dc_L_law4 0 rfl rfl
theorem d_L_law_260 : dn cL_law 260 (.iload 4) 2 262 := dnAt dc_L_law4 1 rfl rfl
theorem d_L_law_262 : dn cL_law 262 (.iconst 2) 1 263 := dnAt dc_L_law4 2 rfl rfl
theorem d_L_law_263 : dn cL_law 263 (.iadd) 1 264 := dnAt dc_L_law4 3 rfl rfl
theorem d_L_law_264 : dn cL_law 264 (.iaload) 1 265 := dnAt dc_L_law4 4 rfl rfl
theorem d_L_law_265 : dn cL_law 265 (.ifCond .eq 7) 3 268 := dnAt dc_L_law4 5 rfl rfl
theorem d_L_law_268 : dn cL_law 268 (.iconst 1) 1 269 := dnAt dc_L_law4 6 rfl rfl
theorem d_L_law_269 : dn cL_law 269 (.goto 4) 3 272 := dnAt dc_L_law4 7 rfl rfl
theorem d_L_law_272 : dn cL_law 272 (.iconst 0) 1 273 := dnAt dc_L_law4 8 rfl rfl
theorem d_L_law_273 : dn cL_law 273 (.aload_n 3) 1 274 := dnAt dc_L_law4 9 rfl rfl
theorem d_L_law_274 : dn cL_law 274 (.invokestatic 111) 3 277 := dnAt dc_L_law4 10 rfl rfl
theorem d_L_law_277 : dn cL_law 277 (.istore 5) 2 279 := dnAt dc_L_law4 11 rfl rfl
theorem d_L_law_279 : dn cL_law 279 (.aload_n 2) 1 280 := dnAt dc_L_law4 12 rfl rfl
theorem d_L_law_280 : dn cL_law 280 (.aload_n 0) 1 281 := dnAt dc_L_law4 13 rfl rfl
theorem d_L_law_281 : dn cL_law 281 (.iload 4) 2 283 := dnAt dc_L_law4 14 rfl rfl
theorem d_L_law_283 : dn cL_law 283 (.iconst 1) 1 284 := dnAt dc_L_law4 15 rfl rfl
theorem d_L_law_284 : dn cL_law 284 (.iadd) 1 285 := dnAt dc_L_law4 16 rfl rfl
theorem d_L_law_285 : dn cL_law 285 (.iaload) 1 286 := dnAt dc_L_law4 17 rfl rfl
theorem d_L_law_286 : dn cL_law 286 (.aload_n 0) 1 287 := dnAt dc_L_law4 18 rfl rfl
theorem d_L_law_287 : dn cL_law 287 (.iload 4) 2 289 := dnAt dc_L_law4 19 rfl rfl
theorem d_L_law_289 : dn cL_law 289 (.iconst 2) 1 290 := dnAt dc_L_law4 20 rfl rfl
theorem d_L_law_290 : dn cL_law 290 (.iadd) 1 291 := dnAt dc_L_law4 21 rfl rfl
theorem d_L_law_291 : dn cL_law 291 (.iaload) 1 292 := dnAt dc_L_law4 22 rfl rfl
theorem d_L_law_292 : dn cL_law 292 (.ifCond .eq 7) 3 295 := dnAt dc_L_law4 23 rfl rfl
def dl_L_law5 : List (Nat × Instr × Nat) := [(295, .iconst 1, 1), (296, .goto 4, 3), (299, .iconst 0, 1), (300, .invokevirtual 114, 3), (303, .istore 6, 2), (305, .aload_n 2, 1), (306, .invokevirtual 108, 3), (309, .iload 5, 2), (311, .if_icmp .eq 5, 3), (314, .iconst 0, 1), (315, .ireturn, 1), (316, .iload 5, 2), (318, .ifCond .ne 15, 3), (321, .aload_n 3, 1), (322, .iconst 0, 1), (323, .laload, 1), (324, .iload 6, 2), (326, .i2l, 1), (327, .lcmp, 1), (328, .ifCond .eq 5, 3), (331, .iconst 0, 1), (332, .ireturn, 1), (333, .goto 1589, 3), (336, .aload_n 1, 1)]
theorem dc_L_law5 : dnL cL_law dl_L_law5 = true := by decide +kernel
theorem d_L_law_295 : dn cL_law 295 (.iconst 1) 1 296 := dnAt dc_L_law5 0 rfl rfl
theorem d_L_law_296 : dn cL_law 296 (.goto 4) 3 299 := dnAt dc_L_law5 1 rfl rfl
theorem d_L_law_299 : dn cL_law 299 (.iconst 0) 1 300 := dnAt dc_L_law5 2 rfl rfl
theorem d_L_law_300 : dn cL_law 300 (.invokevirtual 114) 3 303 := dnAt dc_L_law5 3 rfl rfl
theorem d_L_law_303 : dn cL_law 303 (.istore 6) 2 305 := dnAt dc_L_law5 4 rfl rfl
theorem d_L_law_305 : dn cL_law 305 (.aload_n 2) 1 306 := dnAt dc_L_law5 5 rfl rfl
theorem d_L_law_306 : dn cL_law 306 (.invokevirtual 108) 3 309 := dnAt dc_L_law5 6 rfl rfl
theorem d_L_law_309 : dn cL_law 309 (.iload 5) 2 311 := dnAt dc_L_law5 7 rfl rfl
theorem d_L_law_311 : dn cL_law 311 (.if_icmp .eq 5) 3 314 := dnAt dc_L_law5 8 rfl rfl
theorem d_L_law_314 : dn cL_law 314 (.iconst 0) 1 315 := dnAt dc_L_law5 9 rfl rfl
theorem d_L_law_315 : dn cL_law 315 (.ireturn) 1 316 := dnAt dc_L_law5 10 rfl rfl
theorem d_L_law_316 : dn cL_law 316 (.iload 5) 2 318 := dnAt dc_L_law5 11 rfl rfl
theorem d_L_law_318 : dn cL_law 318 (.ifCond .ne 15) 3 321 := dnAt dc_L_law5 12 rfl rfl
theorem d_L_law_321 : dn cL_law 321 (.aload_n 3) 1 322 := dnAt dc_L_law5 13 rfl rfl
theorem d_L_law_322 : dn cL_law 322 (.iconst 0) 1 323 := dnAt dc_L_law5 14 rfl rfl
theorem d_L_law_323 : dn cL_law 323 (.laload) 1 324 := dnAt dc_L_law5 15 rfl rfl
theorem d_L_law_324 : dn cL_law 324 (.iload 6) 2 326 := dnAt dc_L_law5 16 rfl rfl
theorem d_L_law_326 : dn cL_law 326 (.i2l) 1 327 := dnAt dc_L_law5 17 rfl rfl
theorem d_L_law_327 : dn cL_law 327 (.lcmp) 1 328 := dnAt dc_L_law5 18 rfl rfl
theorem d_L_law_328 : dn cL_law 328 (.ifCond .eq 5) 3 331 := dnAt dc_L_law5 19 rfl rfl
theorem d_L_law_331 : dn cL_law 331 (.iconst 0) 1 332 := dnAt dc_L_law5 20 rfl rfl
theorem d_L_law_332 : dn cL_law 332 (.ireturn) 1 333 := dnAt dc_L_law5 21 rfl rfl
theorem d_L_law_333 : dn cL_law 333 (.goto 1589) 3 336 := dnAt dc_L_law5 22 rfl rfl
theorem d_L_law_336 : dn cL_law 336 (.aload_n 1) 1 337 := dnAt dc_L_law5 23 rfl rfl
def dl_L_law6 : List (Nat × Instr × Nat) := [(337, .aload_n 0, 1), (338, .iload 4, 2), (340, .iconst 1, 1), (341, .iadd, 1), (342, .iaload, 1), (343, .aload_n 0, 1), (344, .iload 4, 2), (346, .iconst 2, 1), (347, .iadd, 1), (348, .iaload, 1), (349, .aload_n 3, 1), (350, .invokestatic 115, 3), (353, .istore 5, 2), (355, .aload_n 2, 1), (356, .aload_n 0, 1), (357, .iload 4, 2), (359, .iconst 1, 1), (360, .iadd, 1), (361, .iaload, 1), (362, .aload_n 0, 1), (363, .iload 4, 2), (365, .iconst 2, 1), (366, .iadd, 1), (367, .iaload, 1)]
theorem dc_L_law6 : dnL cL_law dl_L_law6 = true := by decide +kernel
theorem d_L_law_337 : dn cL_law 337 (.aload_n 0) 1 338 := dnAt dc_L_law6 0 rfl rfl
theorem d_L_law_338 : dn cL_law 338 (.iload 4) 2 340 := dnAt dc_L_law6 1 rfl rfl
theorem d_L_law_340 : dn cL_law 340 (.iconst 1) 1 341 := dnAt dc_L_law6 2 rfl rfl
theorem d_L_law_341 : dn cL_law 341 (.iadd) 1 342 := dnAt dc_L_law6 3 rfl rfl
theorem d_L_law_342 : dn cL_law 342 (.iaload) 1 343 := dnAt dc_L_law6 4 rfl rfl
theorem d_L_law_343 : dn cL_law 343 (.aload_n 0) 1 344 := dnAt dc_L_law6 5 rfl rfl
theorem d_L_law_344 : dn cL_law 344 (.iload 4) 2 346 := dnAt dc_L_law6 6 rfl rfl
theorem d_L_law_346 : dn cL_law 346 (.iconst 2) 1 347 := dnAt dc_L_law6 7 rfl rfl
theorem d_L_law_347 : dn cL_law 347 (.iadd) 1 348 := dnAt dc_L_law6 8 rfl rfl
theorem d_L_law_348 : dn cL_law 348 (.iaload) 1 349 := dnAt dc_L_law6 9 rfl rfl
theorem d_L_law_349 : dn cL_law 349 (.aload_n 3) 1 350 := dnAt dc_L_law6 10 rfl rfl
theorem d_L_law_350 : dn cL_law 350 (.invokestatic 115) 3 353 := dnAt dc_L_law6 11 rfl rfl
theorem d_L_law_353 : dn cL_law 353 (.istore 5) 2 355 := dnAt dc_L_law6 12 rfl rfl
theorem d_L_law_355 : dn cL_law 355 (.aload_n 2) 1 356 := dnAt dc_L_law6 13 rfl rfl
theorem d_L_law_356 : dn cL_law 356 (.aload_n 0) 1 357 := dnAt dc_L_law6 14 rfl rfl
theorem d_L_law_357 : dn cL_law 357 (.iload 4) 2 359 := dnAt dc_L_law6 15 rfl rfl
theorem d_L_law_359 : dn cL_law 359 (.iconst 1) 1 360 := dnAt dc_L_law6 16 rfl rfl
theorem d_L_law_360 : dn cL_law 360 (.iadd) 1 361 := dnAt dc_L_law6 17 rfl rfl
theorem d_L_law_361 : dn cL_law 361 (.iaload) 1 362 := dnAt dc_L_law6 18 rfl rfl
theorem d_L_law_362 : dn cL_law 362 (.aload_n 0) 1 363 := dnAt dc_L_law6 19 rfl rfl
theorem d_L_law_363 : dn cL_law 363 (.iload 4) 2 365 := dnAt dc_L_law6 20 rfl rfl
theorem d_L_law_365 : dn cL_law 365 (.iconst 2) 1 366 := dnAt dc_L_law6 21 rfl rfl
theorem d_L_law_366 : dn cL_law 366 (.iadd) 1 367 := dnAt dc_L_law6 22 rfl rfl
theorem d_L_law_367 : dn cL_law 367 (.iaload) 1 368 := dnAt dc_L_law6 23 rfl rfl
def dl_L_law7 : List (Nat × Instr × Nat) := [(368, .invokevirtual 118, 3), (371, .istore 6, 2), (373, .aload_n 2, 1), (374, .invokevirtual 108, 3), (377, .iload 5, 2), (379, .if_icmp .eq 5, 3), (382, .iconst 0, 1), (383, .ireturn, 1), (384, .iload 5, 2), (386, .ifCond .ne 15, 3), (389, .aload_n 3, 1), (390, .iconst 0, 1), (391, .laload, 1), (392, .iload 6, 2), (394, .i2l, 1), (395, .lcmp, 1), (396, .ifCond .eq 5, 3), (399, .iconst 0, 1), (400, .ireturn, 1), (401, .goto 1521, 3), (404, .aload_n 1, 1), (405, .aload_n 0, 1), (406, .iload 4, 2), (408, .iconst 1, 1)]
theorem dc_L_law7 : dnL cL_law dl_L_law7 = true := by decide +kernel
theorem d_L_law_368 : dn cL_law 368 (.invokevirtual 118) 3 371 := dnAt dc_L_law7 0 rfl rfl
theorem d_L_law_371 : dn cL_law 371 (.istore 6) 2 373 := dnAt dc_L_law7 1 rfl rfl
theorem d_L_law_373 : dn cL_law 373 (.aload_n 2) 1 374 := dnAt dc_L_law7 2 rfl rfl
theorem d_L_law_374 : dn cL_law 374 (.invokevirtual 108) 3 377 := dnAt dc_L_law7 3 rfl rfl
theorem d_L_law_377 : dn cL_law 377 (.iload 5) 2 379 := dnAt dc_L_law7 4 rfl rfl
theorem d_L_law_379 : dn cL_law 379 (.if_icmp .eq 5) 3 382 := dnAt dc_L_law7 5 rfl rfl
theorem d_L_law_382 : dn cL_law 382 (.iconst 0) 1 383 := dnAt dc_L_law7 6 rfl rfl
theorem d_L_law_383 : dn cL_law 383 (.ireturn) 1 384 := dnAt dc_L_law7 7 rfl rfl
theorem d_L_law_384 : dn cL_law 384 (.iload 5) 2 386 := dnAt dc_L_law7 8 rfl rfl
theorem d_L_law_386 : dn cL_law 386 (.ifCond .ne 15) 3 389 := dnAt dc_L_law7 9 rfl rfl
theorem d_L_law_389 : dn cL_law 389 (.aload_n 3) 1 390 := dnAt dc_L_law7 10 rfl rfl
theorem d_L_law_390 : dn cL_law 390 (.iconst 0) 1 391 := dnAt dc_L_law7 11 rfl rfl
theorem d_L_law_391 : dn cL_law 391 (.laload) 1 392 := dnAt dc_L_law7 12 rfl rfl
theorem d_L_law_392 : dn cL_law 392 (.iload 6) 2 394 := dnAt dc_L_law7 13 rfl rfl
theorem d_L_law_394 : dn cL_law 394 (.i2l) 1 395 := dnAt dc_L_law7 14 rfl rfl
theorem d_L_law_395 : dn cL_law 395 (.lcmp) 1 396 := dnAt dc_L_law7 15 rfl rfl
theorem d_L_law_396 : dn cL_law 396 (.ifCond .eq 5) 3 399 := dnAt dc_L_law7 16 rfl rfl
theorem d_L_law_399 : dn cL_law 399 (.iconst 0) 1 400 := dnAt dc_L_law7 17 rfl rfl
theorem d_L_law_400 : dn cL_law 400 (.ireturn) 1 401 := dnAt dc_L_law7 18 rfl rfl
theorem d_L_law_401 : dn cL_law 401 (.goto 1521) 3 404 := dnAt dc_L_law7 19 rfl rfl
theorem d_L_law_404 : dn cL_law 404 (.aload_n 1) 1 405 := dnAt dc_L_law7 20 rfl rfl
theorem d_L_law_405 : dn cL_law 405 (.aload_n 0) 1 406 := dnAt dc_L_law7 21 rfl rfl
theorem d_L_law_406 : dn cL_law 406 (.iload 4) 2 408 := dnAt dc_L_law7 22 rfl rfl
theorem d_L_law_408 : dn cL_law 408 (.iconst 1) 1 409 := dnAt dc_L_law7 23 rfl rfl
def dl_L_law8 : List (Nat × Instr × Nat) := [(409, .iadd, 1), (410, .iaload, 1), (411, .aload_n 3, 1), (412, .invokestatic 119, 3), (415, .istore 5, 2), (417, .aload_n 2, 1), (418, .aload_n 0, 1), (419, .iload 4, 2), (421, .iconst 1, 1), (422, .iadd, 1), (423, .iaload, 1), (424, .invokevirtual 122, 3), (427, .istore 6, 2), (429, .aload_n 2, 1), (430, .invokevirtual 108, 3), (433, .iload 5, 2), (435, .if_icmp .eq 5, 3), (438, .iconst 0, 1), (439, .ireturn, 1), (440, .iload 5, 2), (442, .ifCond .ne 15, 3), (445, .aload_n 3, 1), (446, .iconst 0, 1), (447, .laload, 1)]
theorem dc_L_law8 : dnL cL_law dl_L_law8 = true := by decide +kernel
theorem d_L_law_409 : dn cL_law 409 (.iadd) 1 410 := dnAt dc_L_law8 0 rfl rfl
theorem d_L_law_410 : dn cL_law 410 (.iaload) 1 411 := dnAt dc_L_law8 1 rfl rfl
theorem d_L_law_411 : dn cL_law 411 (.aload_n 3) 1 412 := dnAt dc_L_law8 2 rfl rfl
theorem d_L_law_412 : dn cL_law 412 (.invokestatic 119) 3 415 := dnAt dc_L_law8 3 rfl rfl
theorem d_L_law_415 : dn cL_law 415 (.istore 5) 2 417 := dnAt dc_L_law8 4 rfl rfl
theorem d_L_law_417 : dn cL_law 417 (.aload_n 2) 1 418 := dnAt dc_L_law8 5 rfl rfl
theorem d_L_law_418 : dn cL_law 418 (.aload_n 0) 1 419 := dnAt dc_L_law8 6 rfl rfl
theorem d_L_law_419 : dn cL_law 419 (.iload 4) 2 421 := dnAt dc_L_law8 7 rfl rfl
theorem d_L_law_421 : dn cL_law 421 (.iconst 1) 1 422 := dnAt dc_L_law8 8 rfl rfl
theorem d_L_law_422 : dn cL_law 422 (.iadd) 1 423 := dnAt dc_L_law8 9 rfl rfl
theorem d_L_law_423 : dn cL_law 423 (.iaload) 1 424 := dnAt dc_L_law8 10 rfl rfl
theorem d_L_law_424 : dn cL_law 424 (.invokevirtual 122) 3 427 := dnAt dc_L_law8 11 rfl rfl
theorem d_L_law_427 : dn cL_law 427 (.istore 6) 2 429 := dnAt dc_L_law8 12 rfl rfl
theorem d_L_law_429 : dn cL_law 429 (.aload_n 2) 1 430 := dnAt dc_L_law8 13 rfl rfl
theorem d_L_law_430 : dn cL_law 430 (.invokevirtual 108) 3 433 := dnAt dc_L_law8 14 rfl rfl
theorem d_L_law_433 : dn cL_law 433 (.iload 5) 2 435 := dnAt dc_L_law8 15 rfl rfl
theorem d_L_law_435 : dn cL_law 435 (.if_icmp .eq 5) 3 438 := dnAt dc_L_law8 16 rfl rfl
theorem d_L_law_438 : dn cL_law 438 (.iconst 0) 1 439 := dnAt dc_L_law8 17 rfl rfl
theorem d_L_law_439 : dn cL_law 439 (.ireturn) 1 440 := dnAt dc_L_law8 18 rfl rfl
theorem d_L_law_440 : dn cL_law 440 (.iload 5) 2 442 := dnAt dc_L_law8 19 rfl rfl
theorem d_L_law_442 : dn cL_law 442 (.ifCond .ne 15) 3 445 := dnAt dc_L_law8 20 rfl rfl
theorem d_L_law_445 : dn cL_law 445 (.aload_n 3) 1 446 := dnAt dc_L_law8 21 rfl rfl
theorem d_L_law_446 : dn cL_law 446 (.iconst 0) 1 447 := dnAt dc_L_law8 22 rfl rfl
theorem d_L_law_447 : dn cL_law 447 (.laload) 1 448 := dnAt dc_L_law8 23 rfl rfl
def dl_L_law9 : List (Nat × Instr × Nat) := [(448, .iload 6, 2), (450, .i2l, 1), (451, .lcmp, 1), (452, .ifCond .eq 5, 3), (455, .iconst 0, 1), (456, .ireturn, 1), (457, .goto 1465, 3), (460, .aload_n 1, 1), (461, .aload_n 0, 1), (462, .iload 4, 2), (464, .iconst 1, 1), (465, .iadd, 1), (466, .iaload, 1), (467, .aload_n 0, 1), (468, .iload 4, 2), (470, .iconst 2, 1), (471, .iadd, 1), (472, .iaload, 1), (473, .aload_n 3, 1), (474, .invokestatic 123, 3), (477, .istore 5, 2), (479, .aload_n 2, 1), (480, .aload_n 0, 1), (481, .iload 4, 2)]
theorem dc_L_law9 : dnL cL_law dl_L_law9 = true := by decide +kernel
theorem d_L_law_448 : dn cL_law 448 (.iload 6) 2 450 := dnAt dc_L_law9 0 rfl rfl
theorem d_L_law_450 : dn cL_law 450 (.i2l) 1 451 := dnAt dc_L_law9 1 rfl rfl
theorem d_L_law_451 : dn cL_law 451 (.lcmp) 1 452 := dnAt dc_L_law9 2 rfl rfl
theorem d_L_law_452 : dn cL_law 452 (.ifCond .eq 5) 3 455 := dnAt dc_L_law9 3 rfl rfl
theorem d_L_law_455 : dn cL_law 455 (.iconst 0) 1 456 := dnAt dc_L_law9 4 rfl rfl
theorem d_L_law_456 : dn cL_law 456 (.ireturn) 1 457 := dnAt dc_L_law9 5 rfl rfl
theorem d_L_law_457 : dn cL_law 457 (.goto 1465) 3 460 := dnAt dc_L_law9 6 rfl rfl
theorem d_L_law_460 : dn cL_law 460 (.aload_n 1) 1 461 := dnAt dc_L_law9 7 rfl rfl
theorem d_L_law_461 : dn cL_law 461 (.aload_n 0) 1 462 := dnAt dc_L_law9 8 rfl rfl
theorem d_L_law_462 : dn cL_law 462 (.iload 4) 2 464 := dnAt dc_L_law9 9 rfl rfl
theorem d_L_law_464 : dn cL_law 464 (.iconst 1) 1 465 := dnAt dc_L_law9 10 rfl rfl
theorem d_L_law_465 : dn cL_law 465 (.iadd) 1 466 := dnAt dc_L_law9 11 rfl rfl
theorem d_L_law_466 : dn cL_law 466 (.iaload) 1 467 := dnAt dc_L_law9 12 rfl rfl
theorem d_L_law_467 : dn cL_law 467 (.aload_n 0) 1 468 := dnAt dc_L_law9 13 rfl rfl
theorem d_L_law_468 : dn cL_law 468 (.iload 4) 2 470 := dnAt dc_L_law9 14 rfl rfl
theorem d_L_law_470 : dn cL_law 470 (.iconst 2) 1 471 := dnAt dc_L_law9 15 rfl rfl
theorem d_L_law_471 : dn cL_law 471 (.iadd) 1 472 := dnAt dc_L_law9 16 rfl rfl
theorem d_L_law_472 : dn cL_law 472 (.iaload) 1 473 := dnAt dc_L_law9 17 rfl rfl
theorem d_L_law_473 : dn cL_law 473 (.aload_n 3) 1 474 := dnAt dc_L_law9 18 rfl rfl
theorem d_L_law_474 : dn cL_law 474 (.invokestatic 123) 3 477 := dnAt dc_L_law9 19 rfl rfl
theorem d_L_law_477 : dn cL_law 477 (.istore 5) 2 479 := dnAt dc_L_law9 20 rfl rfl
theorem d_L_law_479 : dn cL_law 479 (.aload_n 2) 1 480 := dnAt dc_L_law9 21 rfl rfl
theorem d_L_law_480 : dn cL_law 480 (.aload_n 0) 1 481 := dnAt dc_L_law9 22 rfl rfl
theorem d_L_law_481 : dn cL_law 481 (.iload 4) 2 483 := dnAt dc_L_law9 23 rfl rfl
def dl_L_law10 : List (Nat × Instr × Nat) := [(483, .iconst 1, 1), (484, .iadd, 1), (485, .iaload, 1), (486, .aload_n 0, 1), (487, .iload 4, 2), (489, .iconst 2, 1), (490, .iadd, 1), (491, .iaload, 1), (492, .invokevirtual 125, 3), (495, .istore 6, 2), (497, .aload_n 2, 1), (498, .invokevirtual 108, 3), (501, .iload 5, 2), (503, .if_icmp .eq 5, 3), (506, .iconst 0, 1), (507, .ireturn, 1), (508, .iload 5, 2), (510, .ifCond .ne 15, 3), (513, .aload_n 3, 1), (514, .iconst 0, 1), (515, .laload, 1), (516, .iload 6, 2), (518, .i2l, 1), (519, .lcmp, 1)]
theorem dc_L_law10 : dnL cL_law dl_L_law10 = true := by decide +kernel
theorem d_L_law_483 : dn cL_law 483 (.iconst 1) 1 484 := dnAt dc_L_law10 0 rfl rfl
theorem d_L_law_484 : dn cL_law 484 (.iadd) 1 485 := dnAt dc_L_law10 1 rfl rfl
theorem d_L_law_485 : dn cL_law 485 (.iaload) 1 486 := dnAt dc_L_law10 2 rfl rfl
theorem d_L_law_486 : dn cL_law 486 (.aload_n 0) 1 487 := dnAt dc_L_law10 3 rfl rfl
theorem d_L_law_487 : dn cL_law 487 (.iload 4) 2 489 := dnAt dc_L_law10 4 rfl rfl
theorem d_L_law_489 : dn cL_law 489 (.iconst 2) 1 490 := dnAt dc_L_law10 5 rfl rfl
theorem d_L_law_490 : dn cL_law 490 (.iadd) 1 491 := dnAt dc_L_law10 6 rfl rfl
theorem d_L_law_491 : dn cL_law 491 (.iaload) 1 492 := dnAt dc_L_law10 7 rfl rfl
theorem d_L_law_492 : dn cL_law 492 (.invokevirtual 125) 3 495 := dnAt dc_L_law10 8 rfl rfl
theorem d_L_law_495 : dn cL_law 495 (.istore 6) 2 497 := dnAt dc_L_law10 9 rfl rfl
theorem d_L_law_497 : dn cL_law 497 (.aload_n 2) 1 498 := dnAt dc_L_law10 10 rfl rfl
theorem d_L_law_498 : dn cL_law 498 (.invokevirtual 108) 3 501 := dnAt dc_L_law10 11 rfl rfl
theorem d_L_law_501 : dn cL_law 501 (.iload 5) 2 503 := dnAt dc_L_law10 12 rfl rfl
theorem d_L_law_503 : dn cL_law 503 (.if_icmp .eq 5) 3 506 := dnAt dc_L_law10 13 rfl rfl
theorem d_L_law_506 : dn cL_law 506 (.iconst 0) 1 507 := dnAt dc_L_law10 14 rfl rfl
theorem d_L_law_507 : dn cL_law 507 (.ireturn) 1 508 := dnAt dc_L_law10 15 rfl rfl
theorem d_L_law_508 : dn cL_law 508 (.iload 5) 2 510 := dnAt dc_L_law10 16 rfl rfl
theorem d_L_law_510 : dn cL_law 510 (.ifCond .ne 15) 3 513 := dnAt dc_L_law10 17 rfl rfl
theorem d_L_law_513 : dn cL_law 513 (.aload_n 3) 1 514 := dnAt dc_L_law10 18 rfl rfl
theorem d_L_law_514 : dn cL_law 514 (.iconst 0) 1 515 := dnAt dc_L_law10 19 rfl rfl
theorem d_L_law_515 : dn cL_law 515 (.laload) 1 516 := dnAt dc_L_law10 20 rfl rfl
theorem d_L_law_516 : dn cL_law 516 (.iload 6) 2 518 := dnAt dc_L_law10 21 rfl rfl
theorem d_L_law_518 : dn cL_law 518 (.i2l) 1 519 := dnAt dc_L_law10 22 rfl rfl
theorem d_L_law_519 : dn cL_law 519 (.lcmp) 1 520 := dnAt dc_L_law10 23 rfl rfl
def dl_L_law11 : List (Nat × Instr × Nat) := [(520, .ifCond .eq 5, 3), (523, .iconst 0, 1), (524, .ireturn, 1), (525, .goto 1397, 3), (528, .aload_n 1, 1), (529, .aload_n 0, 1), (530, .iload 4, 2), (532, .iconst 1, 1), (533, .iadd, 1), (534, .iaload, 1), (535, .aload_n 0, 1), (536, .iload 4, 2), (538, .iconst 2, 1), (539, .iadd, 1), (540, .iaload, 1), (541, .aload_n 0, 1), (542, .iload 4, 2), (544, .iconst 3, 1), (545, .iadd, 1), (546, .iaload, 1), (547, .aload_n 3, 1), (548, .invokestatic 126, 3), (551, .istore 5, 2), (553, .aload_n 2, 1)]
theorem dc_L_law11 : dnL cL_law dl_L_law11 = true := by decide +kernel
theorem d_L_law_520 : dn cL_law 520 (.ifCond .eq 5) 3 523 := dnAt dc_L_law11 0 rfl rfl
theorem d_L_law_523 : dn cL_law 523 (.iconst 0) 1 524 := dnAt dc_L_law11 1 rfl rfl
theorem d_L_law_524 : dn cL_law 524 (.ireturn) 1 525 := dnAt dc_L_law11 2 rfl rfl
theorem d_L_law_525 : dn cL_law 525 (.goto 1397) 3 528 := dnAt dc_L_law11 3 rfl rfl
theorem d_L_law_528 : dn cL_law 528 (.aload_n 1) 1 529 := dnAt dc_L_law11 4 rfl rfl
theorem d_L_law_529 : dn cL_law 529 (.aload_n 0) 1 530 := dnAt dc_L_law11 5 rfl rfl
theorem d_L_law_530 : dn cL_law 530 (.iload 4) 2 532 := dnAt dc_L_law11 6 rfl rfl
theorem d_L_law_532 : dn cL_law 532 (.iconst 1) 1 533 := dnAt dc_L_law11 7 rfl rfl
theorem d_L_law_533 : dn cL_law 533 (.iadd) 1 534 := dnAt dc_L_law11 8 rfl rfl
theorem d_L_law_534 : dn cL_law 534 (.iaload) 1 535 := dnAt dc_L_law11 9 rfl rfl
theorem d_L_law_535 : dn cL_law 535 (.aload_n 0) 1 536 := dnAt dc_L_law11 10 rfl rfl
theorem d_L_law_536 : dn cL_law 536 (.iload 4) 2 538 := dnAt dc_L_law11 11 rfl rfl
theorem d_L_law_538 : dn cL_law 538 (.iconst 2) 1 539 := dnAt dc_L_law11 12 rfl rfl
theorem d_L_law_539 : dn cL_law 539 (.iadd) 1 540 := dnAt dc_L_law11 13 rfl rfl
theorem d_L_law_540 : dn cL_law 540 (.iaload) 1 541 := dnAt dc_L_law11 14 rfl rfl
theorem d_L_law_541 : dn cL_law 541 (.aload_n 0) 1 542 := dnAt dc_L_law11 15 rfl rfl
theorem d_L_law_542 : dn cL_law 542 (.iload 4) 2 544 := dnAt dc_L_law11 16 rfl rfl
theorem d_L_law_544 : dn cL_law 544 (.iconst 3) 1 545 := dnAt dc_L_law11 17 rfl rfl
theorem d_L_law_545 : dn cL_law 545 (.iadd) 1 546 := dnAt dc_L_law11 18 rfl rfl
theorem d_L_law_546 : dn cL_law 546 (.iaload) 1 547 := dnAt dc_L_law11 19 rfl rfl
theorem d_L_law_547 : dn cL_law 547 (.aload_n 3) 1 548 := dnAt dc_L_law11 20 rfl rfl
theorem d_L_law_548 : dn cL_law 548 (.invokestatic 126) 3 551 := dnAt dc_L_law11 21 rfl rfl
theorem d_L_law_551 : dn cL_law 551 (.istore 5) 2 553 := dnAt dc_L_law11 22 rfl rfl
theorem d_L_law_553 : dn cL_law 553 (.aload_n 2) 1 554 := dnAt dc_L_law11 23 rfl rfl
def dl_L_law12 : List (Nat × Instr × Nat) := [(554, .aload_n 0, 1), (555, .iload 4, 2), (557, .iconst 1, 1), (558, .iadd, 1), (559, .iaload, 1), (560, .aload_n 0, 1), (561, .iload 4, 2), (563, .iconst 2, 1), (564, .iadd, 1), (565, .iaload, 1), (566, .aload_n 0, 1), (567, .iload 4, 2), (569, .iconst 3, 1), (570, .iadd, 1), (571, .iaload, 1), (572, .invokevirtual 129, 3), (575, .istore 6, 2), (577, .aload_n 2, 1), (578, .invokevirtual 108, 3), (581, .iload 5, 2), (583, .if_icmp .eq 5, 3), (586, .iconst 0, 1), (587, .ireturn, 1), (588, .iload 5, 2)]
theorem dc_L_law12 : dnL cL_law dl_L_law12 = true := by decide +kernel
theorem d_L_law_554 : dn cL_law 554 (.aload_n 0) 1 555 := dnAt dc_L_law12 0 rfl rfl
theorem d_L_law_555 : dn cL_law 555 (.iload 4) 2 557 := dnAt dc_L_law12 1 rfl rfl
theorem d_L_law_557 : dn cL_law 557 (.iconst 1) 1 558 := dnAt dc_L_law12 2 rfl rfl
theorem d_L_law_558 : dn cL_law 558 (.iadd) 1 559 := dnAt dc_L_law12 3 rfl rfl
theorem d_L_law_559 : dn cL_law 559 (.iaload) 1 560 := dnAt dc_L_law12 4 rfl rfl
theorem d_L_law_560 : dn cL_law 560 (.aload_n 0) 1 561 := dnAt dc_L_law12 5 rfl rfl
theorem d_L_law_561 : dn cL_law 561 (.iload 4) 2 563 := dnAt dc_L_law12 6 rfl rfl
theorem d_L_law_563 : dn cL_law 563 (.iconst 2) 1 564 := dnAt dc_L_law12 7 rfl rfl
theorem d_L_law_564 : dn cL_law 564 (.iadd) 1 565 := dnAt dc_L_law12 8 rfl rfl
theorem d_L_law_565 : dn cL_law 565 (.iaload) 1 566 := dnAt dc_L_law12 9 rfl rfl
theorem d_L_law_566 : dn cL_law 566 (.aload_n 0) 1 567 := dnAt dc_L_law12 10 rfl rfl
theorem d_L_law_567 : dn cL_law 567 (.iload 4) 2 569 := dnAt dc_L_law12 11 rfl rfl
theorem d_L_law_569 : dn cL_law 569 (.iconst 3) 1 570 := dnAt dc_L_law12 12 rfl rfl
theorem d_L_law_570 : dn cL_law 570 (.iadd) 1 571 := dnAt dc_L_law12 13 rfl rfl
theorem d_L_law_571 : dn cL_law 571 (.iaload) 1 572 := dnAt dc_L_law12 14 rfl rfl
theorem d_L_law_572 : dn cL_law 572 (.invokevirtual 129) 3 575 := dnAt dc_L_law12 15 rfl rfl
theorem d_L_law_575 : dn cL_law 575 (.istore 6) 2 577 := dnAt dc_L_law12 16 rfl rfl
theorem d_L_law_577 : dn cL_law 577 (.aload_n 2) 1 578 := dnAt dc_L_law12 17 rfl rfl
theorem d_L_law_578 : dn cL_law 578 (.invokevirtual 108) 3 581 := dnAt dc_L_law12 18 rfl rfl
theorem d_L_law_581 : dn cL_law 581 (.iload 5) 2 583 := dnAt dc_L_law12 19 rfl rfl
theorem d_L_law_583 : dn cL_law 583 (.if_icmp .eq 5) 3 586 := dnAt dc_L_law12 20 rfl rfl
theorem d_L_law_586 : dn cL_law 586 (.iconst 0) 1 587 := dnAt dc_L_law12 21 rfl rfl
theorem d_L_law_587 : dn cL_law 587 (.ireturn) 1 588 := dnAt dc_L_law12 22 rfl rfl
theorem d_L_law_588 : dn cL_law 588 (.iload 5) 2 590 := dnAt dc_L_law12 23 rfl rfl
def dl_L_law13 : List (Nat × Instr × Nat) := [(590, .ifCond .ne 15, 3), (593, .aload_n 3, 1), (594, .iconst 0, 1), (595, .laload, 1), (596, .iload 6, 2), (598, .i2l, 1), (599, .lcmp, 1), (600, .ifCond .eq 5, 3), (603, .iconst 0, 1), (604, .ireturn, 1), (605, .goto 1317, 3), (608, .aload_n 1, 1), (609, .aload_n 0, 1), (610, .iload 4, 2), (612, .iconst 1, 1), (613, .iadd, 1), (614, .iaload, 1), (615, .aload_n 0, 1), (616, .iload 4, 2), (618, .iconst 2, 1), (619, .iadd, 1), (620, .iaload, 1), (621, .aload_n 0, 1), (622, .iload 4, 2)]
theorem dc_L_law13 : dnL cL_law dl_L_law13 = true := by decide +kernel
theorem d_L_law_590 : dn cL_law 590 (.ifCond .ne 15) 3 593 := dnAt dc_L_law13 0 rfl rfl
theorem d_L_law_593 : dn cL_law 593 (.aload_n 3) 1 594 := dnAt dc_L_law13 1 rfl rfl
theorem d_L_law_594 : dn cL_law 594 (.iconst 0) 1 595 := dnAt dc_L_law13 2 rfl rfl
theorem d_L_law_595 : dn cL_law 595 (.laload) 1 596 := dnAt dc_L_law13 3 rfl rfl
theorem d_L_law_596 : dn cL_law 596 (.iload 6) 2 598 := dnAt dc_L_law13 4 rfl rfl
theorem d_L_law_598 : dn cL_law 598 (.i2l) 1 599 := dnAt dc_L_law13 5 rfl rfl
theorem d_L_law_599 : dn cL_law 599 (.lcmp) 1 600 := dnAt dc_L_law13 6 rfl rfl
theorem d_L_law_600 : dn cL_law 600 (.ifCond .eq 5) 3 603 := dnAt dc_L_law13 7 rfl rfl
theorem d_L_law_603 : dn cL_law 603 (.iconst 0) 1 604 := dnAt dc_L_law13 8 rfl rfl
theorem d_L_law_604 : dn cL_law 604 (.ireturn) 1 605 := dnAt dc_L_law13 9 rfl rfl
theorem d_L_law_605 : dn cL_law 605 (.goto 1317) 3 608 := dnAt dc_L_law13 10 rfl rfl
theorem d_L_law_608 : dn cL_law 608 (.aload_n 1) 1 609 := dnAt dc_L_law13 11 rfl rfl
theorem d_L_law_609 : dn cL_law 609 (.aload_n 0) 1 610 := dnAt dc_L_law13 12 rfl rfl
theorem d_L_law_610 : dn cL_law 610 (.iload 4) 2 612 := dnAt dc_L_law13 13 rfl rfl
theorem d_L_law_612 : dn cL_law 612 (.iconst 1) 1 613 := dnAt dc_L_law13 14 rfl rfl
theorem d_L_law_613 : dn cL_law 613 (.iadd) 1 614 := dnAt dc_L_law13 15 rfl rfl
theorem d_L_law_614 : dn cL_law 614 (.iaload) 1 615 := dnAt dc_L_law13 16 rfl rfl
theorem d_L_law_615 : dn cL_law 615 (.aload_n 0) 1 616 := dnAt dc_L_law13 17 rfl rfl
theorem d_L_law_616 : dn cL_law 616 (.iload 4) 2 618 := dnAt dc_L_law13 18 rfl rfl
theorem d_L_law_618 : dn cL_law 618 (.iconst 2) 1 619 := dnAt dc_L_law13 19 rfl rfl
theorem d_L_law_619 : dn cL_law 619 (.iadd) 1 620 := dnAt dc_L_law13 20 rfl rfl
theorem d_L_law_620 : dn cL_law 620 (.iaload) 1 621 := dnAt dc_L_law13 21 rfl rfl
theorem d_L_law_621 : dn cL_law 621 (.aload_n 0) 1 622 := dnAt dc_L_law13 22 rfl rfl
theorem d_L_law_622 : dn cL_law 622 (.iload 4) 2 624 := dnAt dc_L_law13 23 rfl rfl
def dl_L_law14 : List (Nat × Instr × Nat) := [(624, .iconst 3, 1), (625, .iadd, 1), (626, .iaload, 1), (627, .ifCond .eq 7, 3), (630, .iconst 1, 1), (631, .goto 4, 3), (634, .iconst 0, 1), (635, .aload_n 3, 1), (636, .invokestatic 130, 3), (639, .istore 5, 2), (641, .aload_n 2, 1), (642, .aload_n 0, 1), (643, .iload 4, 2), (645, .iconst 1, 1), (646, .iadd, 1), (647, .iaload, 1), (648, .aload_n 0, 1), (649, .iload 4, 2), (651, .iconst 2, 1), (652, .iadd, 1), (653, .iaload, 1), (654, .aload_n 0, 1), (655, .iload 4, 2), (657, .iconst 3, 1)]
theorem dc_L_law14 : dnL cL_law dl_L_law14 = true := by decide +kernel
theorem d_L_law_624 : dn cL_law 624 (.iconst 3) 1 625 := dnAt dc_L_law14 0 rfl rfl
theorem d_L_law_625 : dn cL_law 625 (.iadd) 1 626 := dnAt dc_L_law14 1 rfl rfl
theorem d_L_law_626 : dn cL_law 626 (.iaload) 1 627 := dnAt dc_L_law14 2 rfl rfl
theorem d_L_law_627 : dn cL_law 627 (.ifCond .eq 7) 3 630 := dnAt dc_L_law14 3 rfl rfl
theorem d_L_law_630 : dn cL_law 630 (.iconst 1) 1 631 := dnAt dc_L_law14 4 rfl rfl
theorem d_L_law_631 : dn cL_law 631 (.goto 4) 3 634 := dnAt dc_L_law14 5 rfl rfl
theorem d_L_law_634 : dn cL_law 634 (.iconst 0) 1 635 := dnAt dc_L_law14 6 rfl rfl
theorem d_L_law_635 : dn cL_law 635 (.aload_n 3) 1 636 := dnAt dc_L_law14 7 rfl rfl
theorem d_L_law_636 : dn cL_law 636 (.invokestatic 130) 3 639 := dnAt dc_L_law14 8 rfl rfl
theorem d_L_law_639 : dn cL_law 639 (.istore 5) 2 641 := dnAt dc_L_law14 9 rfl rfl
theorem d_L_law_641 : dn cL_law 641 (.aload_n 2) 1 642 := dnAt dc_L_law14 10 rfl rfl
theorem d_L_law_642 : dn cL_law 642 (.aload_n 0) 1 643 := dnAt dc_L_law14 11 rfl rfl
theorem d_L_law_643 : dn cL_law 643 (.iload 4) 2 645 := dnAt dc_L_law14 12 rfl rfl
theorem d_L_law_645 : dn cL_law 645 (.iconst 1) 1 646 := dnAt dc_L_law14 13 rfl rfl
theorem d_L_law_646 : dn cL_law 646 (.iadd) 1 647 := dnAt dc_L_law14 14 rfl rfl
theorem d_L_law_647 : dn cL_law 647 (.iaload) 1 648 := dnAt dc_L_law14 15 rfl rfl
theorem d_L_law_648 : dn cL_law 648 (.aload_n 0) 1 649 := dnAt dc_L_law14 16 rfl rfl
theorem d_L_law_649 : dn cL_law 649 (.iload 4) 2 651 := dnAt dc_L_law14 17 rfl rfl
theorem d_L_law_651 : dn cL_law 651 (.iconst 2) 1 652 := dnAt dc_L_law14 18 rfl rfl
theorem d_L_law_652 : dn cL_law 652 (.iadd) 1 653 := dnAt dc_L_law14 19 rfl rfl
theorem d_L_law_653 : dn cL_law 653 (.iaload) 1 654 := dnAt dc_L_law14 20 rfl rfl
theorem d_L_law_654 : dn cL_law 654 (.aload_n 0) 1 655 := dnAt dc_L_law14 21 rfl rfl
theorem d_L_law_655 : dn cL_law 655 (.iload 4) 2 657 := dnAt dc_L_law14 22 rfl rfl
theorem d_L_law_657 : dn cL_law 657 (.iconst 3) 1 658 := dnAt dc_L_law14 23 rfl rfl
def dl_L_law15 : List (Nat × Instr × Nat) := [(658, .iadd, 1), (659, .iaload, 1), (660, .ifCond .eq 7, 3), (663, .iconst 1, 1), (664, .goto 4, 3), (667, .iconst 0, 1), (668, .invokevirtual 133, 3), (671, .istore 6, 2), (673, .aload_n 2, 1), (674, .invokevirtual 108, 3), (677, .iload 5, 2), (679, .if_icmp .eq 5, 3), (682, .iconst 0, 1), (683, .ireturn, 1), (684, .iload 5, 2), (686, .ifCond .ne 15, 3), (689, .aload_n 3, 1), (690, .iconst 0, 1), (691, .laload, 1), (692, .iload 6, 2), (694, .i2l, 1), (695, .lcmp, 1), (696, .ifCond .eq 5, 3), (699, .iconst 0, 1)]
theorem dc_L_law15 : dnL cL_law dl_L_law15 = true := by decide +kernel
theorem d_L_law_658 : dn cL_law 658 (.iadd) 1 659 := dnAt dc_L_law15 0 rfl rfl
theorem d_L_law_659 : dn cL_law 659 (.iaload) 1 660 := dnAt dc_L_law15 1 rfl rfl
theorem d_L_law_660 : dn cL_law 660 (.ifCond .eq 7) 3 663 := dnAt dc_L_law15 2 rfl rfl
theorem d_L_law_663 : dn cL_law 663 (.iconst 1) 1 664 := dnAt dc_L_law15 3 rfl rfl
theorem d_L_law_664 : dn cL_law 664 (.goto 4) 3 667 := dnAt dc_L_law15 4 rfl rfl
theorem d_L_law_667 : dn cL_law 667 (.iconst 0) 1 668 := dnAt dc_L_law15 5 rfl rfl
theorem d_L_law_668 : dn cL_law 668 (.invokevirtual 133) 3 671 := dnAt dc_L_law15 6 rfl rfl
theorem d_L_law_671 : dn cL_law 671 (.istore 6) 2 673 := dnAt dc_L_law15 7 rfl rfl
theorem d_L_law_673 : dn cL_law 673 (.aload_n 2) 1 674 := dnAt dc_L_law15 8 rfl rfl
theorem d_L_law_674 : dn cL_law 674 (.invokevirtual 108) 3 677 := dnAt dc_L_law15 9 rfl rfl
theorem d_L_law_677 : dn cL_law 677 (.iload 5) 2 679 := dnAt dc_L_law15 10 rfl rfl
theorem d_L_law_679 : dn cL_law 679 (.if_icmp .eq 5) 3 682 := dnAt dc_L_law15 11 rfl rfl
theorem d_L_law_682 : dn cL_law 682 (.iconst 0) 1 683 := dnAt dc_L_law15 12 rfl rfl
theorem d_L_law_683 : dn cL_law 683 (.ireturn) 1 684 := dnAt dc_L_law15 13 rfl rfl
theorem d_L_law_684 : dn cL_law 684 (.iload 5) 2 686 := dnAt dc_L_law15 14 rfl rfl
theorem d_L_law_686 : dn cL_law 686 (.ifCond .ne 15) 3 689 := dnAt dc_L_law15 15 rfl rfl
theorem d_L_law_689 : dn cL_law 689 (.aload_n 3) 1 690 := dnAt dc_L_law15 16 rfl rfl
theorem d_L_law_690 : dn cL_law 690 (.iconst 0) 1 691 := dnAt dc_L_law15 17 rfl rfl
theorem d_L_law_691 : dn cL_law 691 (.laload) 1 692 := dnAt dc_L_law15 18 rfl rfl
theorem d_L_law_692 : dn cL_law 692 (.iload 6) 2 694 := dnAt dc_L_law15 19 rfl rfl
theorem d_L_law_694 : dn cL_law 694 (.i2l) 1 695 := dnAt dc_L_law15 20 rfl rfl
theorem d_L_law_695 : dn cL_law 695 (.lcmp) 1 696 := dnAt dc_L_law15 21 rfl rfl
theorem d_L_law_696 : dn cL_law 696 (.ifCond .eq 5) 3 699 := dnAt dc_L_law15 22 rfl rfl
theorem d_L_law_699 : dn cL_law 699 (.iconst 0) 1 700 := dnAt dc_L_law15 23 rfl rfl
def dl_L_law16 : List (Nat × Instr × Nat) := [(700, .ireturn, 1), (701, .goto 1221, 3), (704, .aload_n 1, 1), (705, .aload_n 3, 1), (706, .invokestatic 134, 3), (709, .istore 5, 2), (711, .aload_n 2, 1), (712, .invokevirtual 137, 3), (715, .istore 6, 2), (717, .aload_n 2, 1), (718, .invokevirtual 108, 3), (721, .iload 5, 2), (723, .if_icmp .eq 5, 3), (726, .iconst 0, 1), (727, .ireturn, 1), (728, .iload 5, 2), (730, .ifCond .ne 15, 3), (733, .aload_n 3, 1), (734, .iconst 0, 1), (735, .laload, 1), (736, .iload 6, 2), (738, .i2l, 1), (739, .lcmp, 1), (740, .ifCond .eq 5, 3)]
theorem dc_L_law16 : dnL cL_law dl_L_law16 = true := by decide +kernel
theorem d_L_law_700 : dn cL_law 700 (.ireturn) 1 701 := dnAt dc_L_law16 0 rfl rfl
theorem d_L_law_701 : dn cL_law 701 (.goto 1221) 3 704 := dnAt dc_L_law16 1 rfl rfl
theorem d_L_law_704 : dn cL_law 704 (.aload_n 1) 1 705 := dnAt dc_L_law16 2 rfl rfl
theorem d_L_law_705 : dn cL_law 705 (.aload_n 3) 1 706 := dnAt dc_L_law16 3 rfl rfl
theorem d_L_law_706 : dn cL_law 706 (.invokestatic 134) 3 709 := dnAt dc_L_law16 4 rfl rfl
theorem d_L_law_709 : dn cL_law 709 (.istore 5) 2 711 := dnAt dc_L_law16 5 rfl rfl
theorem d_L_law_711 : dn cL_law 711 (.aload_n 2) 1 712 := dnAt dc_L_law16 6 rfl rfl
theorem d_L_law_712 : dn cL_law 712 (.invokevirtual 137) 3 715 := dnAt dc_L_law16 7 rfl rfl
theorem d_L_law_715 : dn cL_law 715 (.istore 6) 2 717 := dnAt dc_L_law16 8 rfl rfl
theorem d_L_law_717 : dn cL_law 717 (.aload_n 2) 1 718 := dnAt dc_L_law16 9 rfl rfl
theorem d_L_law_718 : dn cL_law 718 (.invokevirtual 108) 3 721 := dnAt dc_L_law16 10 rfl rfl
theorem d_L_law_721 : dn cL_law 721 (.iload 5) 2 723 := dnAt dc_L_law16 11 rfl rfl
theorem d_L_law_723 : dn cL_law 723 (.if_icmp .eq 5) 3 726 := dnAt dc_L_law16 12 rfl rfl
theorem d_L_law_726 : dn cL_law 726 (.iconst 0) 1 727 := dnAt dc_L_law16 13 rfl rfl
theorem d_L_law_727 : dn cL_law 727 (.ireturn) 1 728 := dnAt dc_L_law16 14 rfl rfl
theorem d_L_law_728 : dn cL_law 728 (.iload 5) 2 730 := dnAt dc_L_law16 15 rfl rfl
theorem d_L_law_730 : dn cL_law 730 (.ifCond .ne 15) 3 733 := dnAt dc_L_law16 16 rfl rfl
theorem d_L_law_733 : dn cL_law 733 (.aload_n 3) 1 734 := dnAt dc_L_law16 17 rfl rfl
theorem d_L_law_734 : dn cL_law 734 (.iconst 0) 1 735 := dnAt dc_L_law16 18 rfl rfl
theorem d_L_law_735 : dn cL_law 735 (.laload) 1 736 := dnAt dc_L_law16 19 rfl rfl
theorem d_L_law_736 : dn cL_law 736 (.iload 6) 2 738 := dnAt dc_L_law16 20 rfl rfl
theorem d_L_law_738 : dn cL_law 738 (.i2l) 1 739 := dnAt dc_L_law16 21 rfl rfl
theorem d_L_law_739 : dn cL_law 739 (.lcmp) 1 740 := dnAt dc_L_law16 22 rfl rfl
theorem d_L_law_740 : dn cL_law 740 (.ifCond .eq 5) 3 743 := dnAt dc_L_law16 23 rfl rfl
def dl_L_law17 : List (Nat × Instr × Nat) := [(743, .iconst 0, 1), (744, .ireturn, 1), (745, .goto 1177, 3), (748, .aload_n 1, 1), (749, .aload_n 0, 1), (750, .iload 4, 2), (752, .iconst 1, 1), (753, .iadd, 1), (754, .iaload, 1), (755, .aload_n 0, 1), (756, .iload 4, 2), (758, .iconst 2, 1), (759, .iadd, 1), (760, .iaload, 1), (761, .aload_n 3, 1), (762, .invokestatic 138, 3), (765, .istore 5, 2), (767, .aload_n 2, 1), (768, .aload_n 0, 1), (769, .iload 4, 2), (771, .iconst 1, 1), (772, .iadd, 1), (773, .iaload, 1), (774, .aload_n 0, 1)]
theorem dc_L_law17 : dnL cL_law dl_L_law17 = true := by decide +kernel
theorem d_L_law_743 : dn cL_law 743 (.iconst 0) 1 744 := dnAt dc_L_law17 0 rfl rfl
theorem d_L_law_744 : dn cL_law 744 (.ireturn) 1 745 := dnAt dc_L_law17 1 rfl rfl
theorem d_L_law_745 : dn cL_law 745 (.goto 1177) 3 748 := dnAt dc_L_law17 2 rfl rfl
theorem d_L_law_748 : dn cL_law 748 (.aload_n 1) 1 749 := dnAt dc_L_law17 3 rfl rfl
theorem d_L_law_749 : dn cL_law 749 (.aload_n 0) 1 750 := dnAt dc_L_law17 4 rfl rfl
theorem d_L_law_750 : dn cL_law 750 (.iload 4) 2 752 := dnAt dc_L_law17 5 rfl rfl
theorem d_L_law_752 : dn cL_law 752 (.iconst 1) 1 753 := dnAt dc_L_law17 6 rfl rfl
theorem d_L_law_753 : dn cL_law 753 (.iadd) 1 754 := dnAt dc_L_law17 7 rfl rfl
theorem d_L_law_754 : dn cL_law 754 (.iaload) 1 755 := dnAt dc_L_law17 8 rfl rfl
theorem d_L_law_755 : dn cL_law 755 (.aload_n 0) 1 756 := dnAt dc_L_law17 9 rfl rfl
theorem d_L_law_756 : dn cL_law 756 (.iload 4) 2 758 := dnAt dc_L_law17 10 rfl rfl
theorem d_L_law_758 : dn cL_law 758 (.iconst 2) 1 759 := dnAt dc_L_law17 11 rfl rfl
theorem d_L_law_759 : dn cL_law 759 (.iadd) 1 760 := dnAt dc_L_law17 12 rfl rfl
theorem d_L_law_760 : dn cL_law 760 (.iaload) 1 761 := dnAt dc_L_law17 13 rfl rfl
theorem d_L_law_761 : dn cL_law 761 (.aload_n 3) 1 762 := dnAt dc_L_law17 14 rfl rfl
theorem d_L_law_762 : dn cL_law 762 (.invokestatic 138) 3 765 := dnAt dc_L_law17 15 rfl rfl
theorem d_L_law_765 : dn cL_law 765 (.istore 5) 2 767 := dnAt dc_L_law17 16 rfl rfl
theorem d_L_law_767 : dn cL_law 767 (.aload_n 2) 1 768 := dnAt dc_L_law17 17 rfl rfl
theorem d_L_law_768 : dn cL_law 768 (.aload_n 0) 1 769 := dnAt dc_L_law17 18 rfl rfl
theorem d_L_law_769 : dn cL_law 769 (.iload 4) 2 771 := dnAt dc_L_law17 19 rfl rfl
theorem d_L_law_771 : dn cL_law 771 (.iconst 1) 1 772 := dnAt dc_L_law17 20 rfl rfl
theorem d_L_law_772 : dn cL_law 772 (.iadd) 1 773 := dnAt dc_L_law17 21 rfl rfl
theorem d_L_law_773 : dn cL_law 773 (.iaload) 1 774 := dnAt dc_L_law17 22 rfl rfl
theorem d_L_law_774 : dn cL_law 774 (.aload_n 0) 1 775 := dnAt dc_L_law17 23 rfl rfl
def dl_L_law18 : List (Nat × Instr × Nat) := [(775, .iload 4, 2), (777, .iconst 2, 1), (778, .iadd, 1), (779, .iaload, 1), (780, .invokevirtual 140, 3), (783, .istore 6, 2), (785, .aload_n 2, 1), (786, .invokevirtual 108, 3), (789, .iload 5, 2), (791, .if_icmp .eq 5, 3), (794, .iconst 0, 1), (795, .ireturn, 1), (796, .iload 5, 2), (798, .ifCond .ne 15, 3), (801, .aload_n 3, 1), (802, .iconst 0, 1), (803, .laload, 1), (804, .iload 6, 2), (806, .i2l, 1), (807, .lcmp, 1), (808, .ifCond .eq 5, 3), (811, .iconst 0, 1), (812, .ireturn, 1), (813, .goto 1109, 3)]
theorem dc_L_law18 : dnL cL_law dl_L_law18 = true := by decide +kernel
theorem d_L_law_775 : dn cL_law 775 (.iload 4) 2 777 := dnAt dc_L_law18 0 rfl rfl
theorem d_L_law_777 : dn cL_law 777 (.iconst 2) 1 778 := dnAt dc_L_law18 1 rfl rfl
theorem d_L_law_778 : dn cL_law 778 (.iadd) 1 779 := dnAt dc_L_law18 2 rfl rfl
theorem d_L_law_779 : dn cL_law 779 (.iaload) 1 780 := dnAt dc_L_law18 3 rfl rfl
theorem d_L_law_780 : dn cL_law 780 (.invokevirtual 140) 3 783 := dnAt dc_L_law18 4 rfl rfl
theorem d_L_law_783 : dn cL_law 783 (.istore 6) 2 785 := dnAt dc_L_law18 5 rfl rfl
theorem d_L_law_785 : dn cL_law 785 (.aload_n 2) 1 786 := dnAt dc_L_law18 6 rfl rfl
theorem d_L_law_786 : dn cL_law 786 (.invokevirtual 108) 3 789 := dnAt dc_L_law18 7 rfl rfl
theorem d_L_law_789 : dn cL_law 789 (.iload 5) 2 791 := dnAt dc_L_law18 8 rfl rfl
theorem d_L_law_791 : dn cL_law 791 (.if_icmp .eq 5) 3 794 := dnAt dc_L_law18 9 rfl rfl
theorem d_L_law_794 : dn cL_law 794 (.iconst 0) 1 795 := dnAt dc_L_law18 10 rfl rfl
theorem d_L_law_795 : dn cL_law 795 (.ireturn) 1 796 := dnAt dc_L_law18 11 rfl rfl
theorem d_L_law_796 : dn cL_law 796 (.iload 5) 2 798 := dnAt dc_L_law18 12 rfl rfl
theorem d_L_law_798 : dn cL_law 798 (.ifCond .ne 15) 3 801 := dnAt dc_L_law18 13 rfl rfl
theorem d_L_law_801 : dn cL_law 801 (.aload_n 3) 1 802 := dnAt dc_L_law18 14 rfl rfl
theorem d_L_law_802 : dn cL_law 802 (.iconst 0) 1 803 := dnAt dc_L_law18 15 rfl rfl
theorem d_L_law_803 : dn cL_law 803 (.laload) 1 804 := dnAt dc_L_law18 16 rfl rfl
theorem d_L_law_804 : dn cL_law 804 (.iload 6) 2 806 := dnAt dc_L_law18 17 rfl rfl
theorem d_L_law_806 : dn cL_law 806 (.i2l) 1 807 := dnAt dc_L_law18 18 rfl rfl
theorem d_L_law_807 : dn cL_law 807 (.lcmp) 1 808 := dnAt dc_L_law18 19 rfl rfl
theorem d_L_law_808 : dn cL_law 808 (.ifCond .eq 5) 3 811 := dnAt dc_L_law18 20 rfl rfl
theorem d_L_law_811 : dn cL_law 811 (.iconst 0) 1 812 := dnAt dc_L_law18 21 rfl rfl
theorem d_L_law_812 : dn cL_law 812 (.ireturn) 1 813 := dnAt dc_L_law18 22 rfl rfl
theorem d_L_law_813 : dn cL_law 813 (.goto 1109) 3 816 := dnAt dc_L_law18 23 rfl rfl
def dl_L_law19 : List (Nat × Instr × Nat) := [(816, .aload_n 1, 1), (817, .aload_n 0, 1), (818, .iload 4, 2), (820, .iconst 1, 1), (821, .iadd, 1), (822, .iaload, 1), (823, .invokestatic 141, 3), (826, .istore 5, 2), (828, .aload_n 2, 1), (829, .aload_n 0, 1), (830, .iload 4, 2), (832, .iconst 1, 1), (833, .iadd, 1), (834, .iaload, 1), (835, .invokevirtual 144, 3), (838, .aload_n 2, 1), (839, .invokevirtual 108, 3), (842, .iload 5, 2), (844, .if_icmp .eq 5, 3), (847, .iconst 0, 1), (848, .ireturn, 1), (849, .goto 1073, 3), (852, .aload_n 1, 1), (853, .aload_n 3, 1)]
theorem dc_L_law19 : dnL cL_law dl_L_law19 = true := by decide +kernel
theorem d_L_law_816 : dn cL_law 816 (.aload_n 1) 1 817 := dnAt dc_L_law19 0 rfl rfl
theorem d_L_law_817 : dn cL_law 817 (.aload_n 0) 1 818 := dnAt dc_L_law19 1 rfl rfl
theorem d_L_law_818 : dn cL_law 818 (.iload 4) 2 820 := dnAt dc_L_law19 2 rfl rfl
theorem d_L_law_820 : dn cL_law 820 (.iconst 1) 1 821 := dnAt dc_L_law19 3 rfl rfl
theorem d_L_law_821 : dn cL_law 821 (.iadd) 1 822 := dnAt dc_L_law19 4 rfl rfl
theorem d_L_law_822 : dn cL_law 822 (.iaload) 1 823 := dnAt dc_L_law19 5 rfl rfl
theorem d_L_law_823 : dn cL_law 823 (.invokestatic 141) 3 826 := dnAt dc_L_law19 6 rfl rfl
theorem d_L_law_826 : dn cL_law 826 (.istore 5) 2 828 := dnAt dc_L_law19 7 rfl rfl
theorem d_L_law_828 : dn cL_law 828 (.aload_n 2) 1 829 := dnAt dc_L_law19 8 rfl rfl
theorem d_L_law_829 : dn cL_law 829 (.aload_n 0) 1 830 := dnAt dc_L_law19 9 rfl rfl
theorem d_L_law_830 : dn cL_law 830 (.iload 4) 2 832 := dnAt dc_L_law19 10 rfl rfl
theorem d_L_law_832 : dn cL_law 832 (.iconst 1) 1 833 := dnAt dc_L_law19 11 rfl rfl
theorem d_L_law_833 : dn cL_law 833 (.iadd) 1 834 := dnAt dc_L_law19 12 rfl rfl
theorem d_L_law_834 : dn cL_law 834 (.iaload) 1 835 := dnAt dc_L_law19 13 rfl rfl
theorem d_L_law_835 : dn cL_law 835 (.invokevirtual 144) 3 838 := dnAt dc_L_law19 14 rfl rfl
theorem d_L_law_838 : dn cL_law 838 (.aload_n 2) 1 839 := dnAt dc_L_law19 15 rfl rfl
theorem d_L_law_839 : dn cL_law 839 (.invokevirtual 108) 3 842 := dnAt dc_L_law19 16 rfl rfl
theorem d_L_law_842 : dn cL_law 842 (.iload 5) 2 844 := dnAt dc_L_law19 17 rfl rfl
theorem d_L_law_844 : dn cL_law 844 (.if_icmp .eq 5) 3 847 := dnAt dc_L_law19 18 rfl rfl
theorem d_L_law_847 : dn cL_law 847 (.iconst 0) 1 848 := dnAt dc_L_law19 19 rfl rfl
theorem d_L_law_848 : dn cL_law 848 (.ireturn) 1 849 := dnAt dc_L_law19 20 rfl rfl
theorem d_L_law_849 : dn cL_law 849 (.goto 1073) 3 852 := dnAt dc_L_law19 21 rfl rfl
theorem d_L_law_852 : dn cL_law 852 (.aload_n 1) 1 853 := dnAt dc_L_law19 22 rfl rfl
theorem d_L_law_853 : dn cL_law 853 (.aload_n 3) 1 854 := dnAt dc_L_law19 23 rfl rfl
def dl_L_law20 : List (Nat × Instr × Nat) := [(854, .invokestatic 145, 3), (857, .istore 5, 2), (859, .aload_n 2, 1), (860, .invokevirtual 147, 3), (863, .istore 6, 2), (865, .aload_n 2, 1), (866, .invokevirtual 108, 3), (869, .iload 5, 2), (871, .if_icmp .eq 5, 3), (874, .iconst 0, 1), (875, .ireturn, 1), (876, .iload 5, 2), (878, .ifCond .ne 15, 3), (881, .aload_n 3, 1), (882, .iconst 0, 1), (883, .laload, 1), (884, .iload 6, 2), (886, .i2l, 1), (887, .lcmp, 1), (888, .ifCond .eq 5, 3), (891, .iconst 0, 1), (892, .ireturn, 1), (893, .goto 1029, 3), (896, .aload_n 1, 1)]
theorem dc_L_law20 : dnL cL_law dl_L_law20 = true := by decide +kernel
theorem d_L_law_854 : dn cL_law 854 (.invokestatic 145) 3 857 := dnAt dc_L_law20 0 rfl rfl
theorem d_L_law_857 : dn cL_law 857 (.istore 5) 2 859 := dnAt dc_L_law20 1 rfl rfl
theorem d_L_law_859 : dn cL_law 859 (.aload_n 2) 1 860 := dnAt dc_L_law20 2 rfl rfl
theorem d_L_law_860 : dn cL_law 860 (.invokevirtual 147) 3 863 := dnAt dc_L_law20 3 rfl rfl
theorem d_L_law_863 : dn cL_law 863 (.istore 6) 2 865 := dnAt dc_L_law20 4 rfl rfl
theorem d_L_law_865 : dn cL_law 865 (.aload_n 2) 1 866 := dnAt dc_L_law20 5 rfl rfl
theorem d_L_law_866 : dn cL_law 866 (.invokevirtual 108) 3 869 := dnAt dc_L_law20 6 rfl rfl
theorem d_L_law_869 : dn cL_law 869 (.iload 5) 2 871 := dnAt dc_L_law20 7 rfl rfl
theorem d_L_law_871 : dn cL_law 871 (.if_icmp .eq 5) 3 874 := dnAt dc_L_law20 8 rfl rfl
theorem d_L_law_874 : dn cL_law 874 (.iconst 0) 1 875 := dnAt dc_L_law20 9 rfl rfl
theorem d_L_law_875 : dn cL_law 875 (.ireturn) 1 876 := dnAt dc_L_law20 10 rfl rfl
theorem d_L_law_876 : dn cL_law 876 (.iload 5) 2 878 := dnAt dc_L_law20 11 rfl rfl
theorem d_L_law_878 : dn cL_law 878 (.ifCond .ne 15) 3 881 := dnAt dc_L_law20 12 rfl rfl
theorem d_L_law_881 : dn cL_law 881 (.aload_n 3) 1 882 := dnAt dc_L_law20 13 rfl rfl
theorem d_L_law_882 : dn cL_law 882 (.iconst 0) 1 883 := dnAt dc_L_law20 14 rfl rfl
theorem d_L_law_883 : dn cL_law 883 (.laload) 1 884 := dnAt dc_L_law20 15 rfl rfl
theorem d_L_law_884 : dn cL_law 884 (.iload 6) 2 886 := dnAt dc_L_law20 16 rfl rfl
theorem d_L_law_886 : dn cL_law 886 (.i2l) 1 887 := dnAt dc_L_law20 17 rfl rfl
theorem d_L_law_887 : dn cL_law 887 (.lcmp) 1 888 := dnAt dc_L_law20 18 rfl rfl
theorem d_L_law_888 : dn cL_law 888 (.ifCond .eq 5) 3 891 := dnAt dc_L_law20 19 rfl rfl
theorem d_L_law_891 : dn cL_law 891 (.iconst 0) 1 892 := dnAt dc_L_law20 20 rfl rfl
theorem d_L_law_892 : dn cL_law 892 (.ireturn) 1 893 := dnAt dc_L_law20 21 rfl rfl
theorem d_L_law_893 : dn cL_law 893 (.goto 1029) 3 896 := dnAt dc_L_law20 22 rfl rfl
theorem d_L_law_896 : dn cL_law 896 (.aload_n 1) 1 897 := dnAt dc_L_law20 23 rfl rfl
def dl_L_law21 : List (Nat × Instr × Nat) := [(897, .aload_n 3, 1), (898, .invokestatic 148, 3), (901, .istore 5, 2), (903, .aload_n 2, 1), (904, .invokevirtual 150, 3), (907, .istore 6, 2), (909, .aload_n 2, 1), (910, .invokevirtual 108, 3), (913, .iload 5, 2), (915, .if_icmp .eq 5, 3), (918, .iconst 0, 1), (919, .ireturn, 1), (920, .iload 5, 2), (922, .ifCond .ne 15, 3), (925, .aload_n 3, 1), (926, .iconst 0, 1), (927, .laload, 1), (928, .iload 6, 2), (930, .i2l, 1), (931, .lcmp, 1), (932, .ifCond .eq 5, 3), (935, .iconst 0, 1), (936, .ireturn, 1), (937, .goto 985, 3)]
theorem dc_L_law21 : dnL cL_law dl_L_law21 = true := by decide +kernel
theorem d_L_law_897 : dn cL_law 897 (.aload_n 3) 1 898 := dnAt dc_L_law21 0 rfl rfl
theorem d_L_law_898 : dn cL_law 898 (.invokestatic 148) 3 901 := dnAt dc_L_law21 1 rfl rfl
theorem d_L_law_901 : dn cL_law 901 (.istore 5) 2 903 := dnAt dc_L_law21 2 rfl rfl
theorem d_L_law_903 : dn cL_law 903 (.aload_n 2) 1 904 := dnAt dc_L_law21 3 rfl rfl
theorem d_L_law_904 : dn cL_law 904 (.invokevirtual 150) 3 907 := dnAt dc_L_law21 4 rfl rfl
theorem d_L_law_907 : dn cL_law 907 (.istore 6) 2 909 := dnAt dc_L_law21 5 rfl rfl
theorem d_L_law_909 : dn cL_law 909 (.aload_n 2) 1 910 := dnAt dc_L_law21 6 rfl rfl
theorem d_L_law_910 : dn cL_law 910 (.invokevirtual 108) 3 913 := dnAt dc_L_law21 7 rfl rfl
theorem d_L_law_913 : dn cL_law 913 (.iload 5) 2 915 := dnAt dc_L_law21 8 rfl rfl
theorem d_L_law_915 : dn cL_law 915 (.if_icmp .eq 5) 3 918 := dnAt dc_L_law21 9 rfl rfl
theorem d_L_law_918 : dn cL_law 918 (.iconst 0) 1 919 := dnAt dc_L_law21 10 rfl rfl
theorem d_L_law_919 : dn cL_law 919 (.ireturn) 1 920 := dnAt dc_L_law21 11 rfl rfl
theorem d_L_law_920 : dn cL_law 920 (.iload 5) 2 922 := dnAt dc_L_law21 12 rfl rfl
theorem d_L_law_922 : dn cL_law 922 (.ifCond .ne 15) 3 925 := dnAt dc_L_law21 13 rfl rfl
theorem d_L_law_925 : dn cL_law 925 (.aload_n 3) 1 926 := dnAt dc_L_law21 14 rfl rfl
theorem d_L_law_926 : dn cL_law 926 (.iconst 0) 1 927 := dnAt dc_L_law21 15 rfl rfl
theorem d_L_law_927 : dn cL_law 927 (.laload) 1 928 := dnAt dc_L_law21 16 rfl rfl
theorem d_L_law_928 : dn cL_law 928 (.iload 6) 2 930 := dnAt dc_L_law21 17 rfl rfl
theorem d_L_law_930 : dn cL_law 930 (.i2l) 1 931 := dnAt dc_L_law21 18 rfl rfl
theorem d_L_law_931 : dn cL_law 931 (.lcmp) 1 932 := dnAt dc_L_law21 19 rfl rfl
theorem d_L_law_932 : dn cL_law 932 (.ifCond .eq 5) 3 935 := dnAt dc_L_law21 20 rfl rfl
theorem d_L_law_935 : dn cL_law 935 (.iconst 0) 1 936 := dnAt dc_L_law21 21 rfl rfl
theorem d_L_law_936 : dn cL_law 936 (.ireturn) 1 937 := dnAt dc_L_law21 22 rfl rfl
theorem d_L_law_937 : dn cL_law 937 (.goto 985) 3 940 := dnAt dc_L_law21 23 rfl rfl
def dl_L_law22 : List (Nat × Instr × Nat) := [(940, .aload_n 1, 1), (941, .aload_n 3, 1), (942, .invokestatic 151, 3), (945, .istore 5, 2), (947, .aload_n 2, 1), (948, .invokevirtual 153, 3), (951, .istore 6, 2), (953, .aload_n 2, 1), (954, .invokevirtual 108, 3), (957, .iload 5, 2), (959, .if_icmp .eq 5, 3), (962, .iconst 0, 1), (963, .ireturn, 1), (964, .iload 5, 2), (966, .ifCond .ne 15, 3), (969, .aload_n 3, 1), (970, .iconst 0, 1), (971, .laload, 1), (972, .iload 6, 2), (974, .i2l, 1), (975, .lcmp, 1), (976, .ifCond .eq 5, 3), (979, .iconst 0, 1), (980, .ireturn, 1)]
theorem dc_L_law22 : dnL cL_law dl_L_law22 = true := by decide +kernel
theorem d_L_law_940 : dn cL_law 940 (.aload_n 1) 1 941 := dnAt dc_L_law22 0 rfl rfl
theorem d_L_law_941 : dn cL_law 941 (.aload_n 3) 1 942 := dnAt dc_L_law22 1 rfl rfl
theorem d_L_law_942 : dn cL_law 942 (.invokestatic 151) 3 945 := dnAt dc_L_law22 2 rfl rfl
theorem d_L_law_945 : dn cL_law 945 (.istore 5) 2 947 := dnAt dc_L_law22 3 rfl rfl
theorem d_L_law_947 : dn cL_law 947 (.aload_n 2) 1 948 := dnAt dc_L_law22 4 rfl rfl
theorem d_L_law_948 : dn cL_law 948 (.invokevirtual 153) 3 951 := dnAt dc_L_law22 5 rfl rfl
theorem d_L_law_951 : dn cL_law 951 (.istore 6) 2 953 := dnAt dc_L_law22 6 rfl rfl
theorem d_L_law_953 : dn cL_law 953 (.aload_n 2) 1 954 := dnAt dc_L_law22 7 rfl rfl
theorem d_L_law_954 : dn cL_law 954 (.invokevirtual 108) 3 957 := dnAt dc_L_law22 8 rfl rfl
theorem d_L_law_957 : dn cL_law 957 (.iload 5) 2 959 := dnAt dc_L_law22 9 rfl rfl
theorem d_L_law_959 : dn cL_law 959 (.if_icmp .eq 5) 3 962 := dnAt dc_L_law22 10 rfl rfl
theorem d_L_law_962 : dn cL_law 962 (.iconst 0) 1 963 := dnAt dc_L_law22 11 rfl rfl
theorem d_L_law_963 : dn cL_law 963 (.ireturn) 1 964 := dnAt dc_L_law22 12 rfl rfl
theorem d_L_law_964 : dn cL_law 964 (.iload 5) 2 966 := dnAt dc_L_law22 13 rfl rfl
theorem d_L_law_966 : dn cL_law 966 (.ifCond .ne 15) 3 969 := dnAt dc_L_law22 14 rfl rfl
theorem d_L_law_969 : dn cL_law 969 (.aload_n 3) 1 970 := dnAt dc_L_law22 15 rfl rfl
theorem d_L_law_970 : dn cL_law 970 (.iconst 0) 1 971 := dnAt dc_L_law22 16 rfl rfl
theorem d_L_law_971 : dn cL_law 971 (.laload) 1 972 := dnAt dc_L_law22 17 rfl rfl
theorem d_L_law_972 : dn cL_law 972 (.iload 6) 2 974 := dnAt dc_L_law22 18 rfl rfl
theorem d_L_law_974 : dn cL_law 974 (.i2l) 1 975 := dnAt dc_L_law22 19 rfl rfl
theorem d_L_law_975 : dn cL_law 975 (.lcmp) 1 976 := dnAt dc_L_law22 20 rfl rfl
theorem d_L_law_976 : dn cL_law 976 (.ifCond .eq 5) 3 979 := dnAt dc_L_law22 21 rfl rfl
theorem d_L_law_979 : dn cL_law 979 (.iconst 0) 1 980 := dnAt dc_L_law22 22 rfl rfl
theorem d_L_law_980 : dn cL_law 980 (.ireturn) 1 981 := dnAt dc_L_law22 23 rfl rfl
def dl_L_law23 : List (Nat × Instr × Nat) := [(981, .goto 941, 3), (984, .aload_n 1, 1), (985, .aload_n 0, 1), (986, .iload 4, 2), (988, .iconst 1, 1), (989, .iadd, 1), (990, .iaload, 1), (991, .aload_n 0, 1), (992, .iload 4, 2), (994, .iconst 2, 1), (995, .iadd, 1), (996, .iaload, 1), (997, .aload_n 3, 1), (998, .invokestatic 154, 3), (1001, .istore 5, 2), (1003, .aload_n 2, 1), (1004, .aload_n 0, 1), (1005, .iload 4, 2), (1007, .iconst 1, 1), (1008, .iadd, 1), (1009, .iaload, 1), (1010, .aload_n 0, 1), (1011, .iload 4, 2), (1013, .iconst 2, 1)]
theorem dc_L_law23 : dnL cL_law dl_L_law23 = true := by decide +kernel
theorem d_L_law_981 : dn cL_law 981 (.goto 941) 3 984 := dnAt dc_L_law23 0 rfl rfl
theorem d_L_law_984 : dn cL_law 984 (.aload_n 1) 1 985 := dnAt dc_L_law23 1 rfl rfl
theorem d_L_law_985 : dn cL_law 985 (.aload_n 0) 1 986 := dnAt dc_L_law23 2 rfl rfl
theorem d_L_law_986 : dn cL_law 986 (.iload 4) 2 988 := dnAt dc_L_law23 3 rfl rfl
theorem d_L_law_988 : dn cL_law 988 (.iconst 1) 1 989 := dnAt dc_L_law23 4 rfl rfl
theorem d_L_law_989 : dn cL_law 989 (.iadd) 1 990 := dnAt dc_L_law23 5 rfl rfl
theorem d_L_law_990 : dn cL_law 990 (.iaload) 1 991 := dnAt dc_L_law23 6 rfl rfl
theorem d_L_law_991 : dn cL_law 991 (.aload_n 0) 1 992 := dnAt dc_L_law23 7 rfl rfl
theorem d_L_law_992 : dn cL_law 992 (.iload 4) 2 994 := dnAt dc_L_law23 8 rfl rfl
theorem d_L_law_994 : dn cL_law 994 (.iconst 2) 1 995 := dnAt dc_L_law23 9 rfl rfl
theorem d_L_law_995 : dn cL_law 995 (.iadd) 1 996 := dnAt dc_L_law23 10 rfl rfl
theorem d_L_law_996 : dn cL_law 996 (.iaload) 1 997 := dnAt dc_L_law23 11 rfl rfl
theorem d_L_law_997 : dn cL_law 997 (.aload_n 3) 1 998 := dnAt dc_L_law23 12 rfl rfl
theorem d_L_law_998 : dn cL_law 998 (.invokestatic 154) 3 1001 := dnAt dc_L_law23 13 rfl rfl
theorem d_L_law_1001 : dn cL_law 1001 (.istore 5) 2 1003 := dnAt dc_L_law23 14 rfl rfl
theorem d_L_law_1003 : dn cL_law 1003 (.aload_n 2) 1 1004 := dnAt dc_L_law23 15 rfl rfl
theorem d_L_law_1004 : dn cL_law 1004 (.aload_n 0) 1 1005 := dnAt dc_L_law23 16 rfl rfl
theorem d_L_law_1005 : dn cL_law 1005 (.iload 4) 2 1007 := dnAt dc_L_law23 17 rfl rfl
theorem d_L_law_1007 : dn cL_law 1007 (.iconst 1) 1 1008 := dnAt dc_L_law23 18 rfl rfl
theorem d_L_law_1008 : dn cL_law 1008 (.iadd) 1 1009 := dnAt dc_L_law23 19 rfl rfl
theorem d_L_law_1009 : dn cL_law 1009 (.iaload) 1 1010 := dnAt dc_L_law23 20 rfl rfl
theorem d_L_law_1010 : dn cL_law 1010 (.aload_n 0) 1 1011 := dnAt dc_L_law23 21 rfl rfl
theorem d_L_law_1011 : dn cL_law 1011 (.iload 4) 2 1013 := dnAt dc_L_law23 22 rfl rfl
theorem d_L_law_1013 : dn cL_law 1013 (.iconst 2) 1 1014 := dnAt dc_L_law23 23 rfl rfl
def dl_L_law24 : List (Nat × Instr × Nat) := [(1014, .iadd, 1), (1015, .iaload, 1), (1016, .invokevirtual 156, 3), (1019, .istore 6, 2), (1021, .aload_n 2, 1), (1022, .invokevirtual 108, 3), (1025, .iload 5, 2), (1027, .if_icmp .eq 5, 3), (1030, .iconst 0, 1), (1031, .ireturn, 1), (1032, .iload 5, 2), (1034, .ifCond .ne 15, 3), (1037, .aload_n 3, 1), (1038, .iconst 0, 1), (1039, .laload, 1), (1040, .iload 6, 2), (1042, .i2l, 1), (1043, .lcmp, 1), (1044, .ifCond .eq 5, 3), (1047, .iconst 0, 1), (1048, .ireturn, 1), (1049, .goto 873, 3), (1052, .aload_n 1, 1), (1053, .aload_n 3, 1)]
theorem dc_L_law24 : dnL cL_law dl_L_law24 = true := by decide +kernel
theorem d_L_law_1014 : dn cL_law 1014 (.iadd) 1 1015 := dnAt dc_L_law24 0 rfl rfl
theorem d_L_law_1015 : dn cL_law 1015 (.iaload) 1 1016 := dnAt dc_L_law24 1 rfl rfl
theorem d_L_law_1016 : dn cL_law 1016 (.invokevirtual 156) 3 1019 := dnAt dc_L_law24 2 rfl rfl
theorem d_L_law_1019 : dn cL_law 1019 (.istore 6) 2 1021 := dnAt dc_L_law24 3 rfl rfl
theorem d_L_law_1021 : dn cL_law 1021 (.aload_n 2) 1 1022 := dnAt dc_L_law24 4 rfl rfl
theorem d_L_law_1022 : dn cL_law 1022 (.invokevirtual 108) 3 1025 := dnAt dc_L_law24 5 rfl rfl
theorem d_L_law_1025 : dn cL_law 1025 (.iload 5) 2 1027 := dnAt dc_L_law24 6 rfl rfl
theorem d_L_law_1027 : dn cL_law 1027 (.if_icmp .eq 5) 3 1030 := dnAt dc_L_law24 7 rfl rfl
theorem d_L_law_1030 : dn cL_law 1030 (.iconst 0) 1 1031 := dnAt dc_L_law24 8 rfl rfl
theorem d_L_law_1031 : dn cL_law 1031 (.ireturn) 1 1032 := dnAt dc_L_law24 9 rfl rfl
theorem d_L_law_1032 : dn cL_law 1032 (.iload 5) 2 1034 := dnAt dc_L_law24 10 rfl rfl
theorem d_L_law_1034 : dn cL_law 1034 (.ifCond .ne 15) 3 1037 := dnAt dc_L_law24 11 rfl rfl
theorem d_L_law_1037 : dn cL_law 1037 (.aload_n 3) 1 1038 := dnAt dc_L_law24 12 rfl rfl
theorem d_L_law_1038 : dn cL_law 1038 (.iconst 0) 1 1039 := dnAt dc_L_law24 13 rfl rfl
theorem d_L_law_1039 : dn cL_law 1039 (.laload) 1 1040 := dnAt dc_L_law24 14 rfl rfl
theorem d_L_law_1040 : dn cL_law 1040 (.iload 6) 2 1042 := dnAt dc_L_law24 15 rfl rfl
theorem d_L_law_1042 : dn cL_law 1042 (.i2l) 1 1043 := dnAt dc_L_law24 16 rfl rfl
theorem d_L_law_1043 : dn cL_law 1043 (.lcmp) 1 1044 := dnAt dc_L_law24 17 rfl rfl
theorem d_L_law_1044 : dn cL_law 1044 (.ifCond .eq 5) 3 1047 := dnAt dc_L_law24 18 rfl rfl
theorem d_L_law_1047 : dn cL_law 1047 (.iconst 0) 1 1048 := dnAt dc_L_law24 19 rfl rfl
theorem d_L_law_1048 : dn cL_law 1048 (.ireturn) 1 1049 := dnAt dc_L_law24 20 rfl rfl
theorem d_L_law_1049 : dn cL_law 1049 (.goto 873) 3 1052 := dnAt dc_L_law24 21 rfl rfl
theorem d_L_law_1052 : dn cL_law 1052 (.aload_n 1) 1 1053 := dnAt dc_L_law24 22 rfl rfl
theorem d_L_law_1053 : dn cL_law 1053 (.aload_n 3) 1 1054 := dnAt dc_L_law24 23 rfl rfl
def dl_L_law25 : List (Nat × Instr × Nat) := [(1054, .invokestatic 157, 3), (1057, .istore 5, 2), (1059, .aload_n 2, 1), (1060, .invokevirtual 159, 3), (1063, .istore 6, 2), (1065, .aload_n 2, 1), (1066, .invokevirtual 108, 3), (1069, .iload 5, 2), (1071, .if_icmp .eq 5, 3), (1074, .iconst 0, 1), (1075, .ireturn, 1), (1076, .iload 5, 2), (1078, .ifCond .ne 15, 3), (1081, .aload_n 3, 1), (1082, .iconst 0, 1), (1083, .laload, 1), (1084, .iload 6, 2), (1086, .i2l, 1), (1087, .lcmp, 1), (1088, .ifCond .eq 5, 3), (1091, .iconst 0, 1), (1092, .ireturn, 1), (1093, .goto 829, 3), (1096, .aload_n 1, 1)]
theorem dc_L_law25 : dnL cL_law dl_L_law25 = true := by decide +kernel
theorem d_L_law_1054 : dn cL_law 1054 (.invokestatic 157) 3 1057 := dnAt dc_L_law25 0 rfl rfl
theorem d_L_law_1057 : dn cL_law 1057 (.istore 5) 2 1059 := dnAt dc_L_law25 1 rfl rfl
theorem d_L_law_1059 : dn cL_law 1059 (.aload_n 2) 1 1060 := dnAt dc_L_law25 2 rfl rfl
theorem d_L_law_1060 : dn cL_law 1060 (.invokevirtual 159) 3 1063 := dnAt dc_L_law25 3 rfl rfl
theorem d_L_law_1063 : dn cL_law 1063 (.istore 6) 2 1065 := dnAt dc_L_law25 4 rfl rfl
theorem d_L_law_1065 : dn cL_law 1065 (.aload_n 2) 1 1066 := dnAt dc_L_law25 5 rfl rfl
theorem d_L_law_1066 : dn cL_law 1066 (.invokevirtual 108) 3 1069 := dnAt dc_L_law25 6 rfl rfl
theorem d_L_law_1069 : dn cL_law 1069 (.iload 5) 2 1071 := dnAt dc_L_law25 7 rfl rfl
theorem d_L_law_1071 : dn cL_law 1071 (.if_icmp .eq 5) 3 1074 := dnAt dc_L_law25 8 rfl rfl
theorem d_L_law_1074 : dn cL_law 1074 (.iconst 0) 1 1075 := dnAt dc_L_law25 9 rfl rfl
theorem d_L_law_1075 : dn cL_law 1075 (.ireturn) 1 1076 := dnAt dc_L_law25 10 rfl rfl
theorem d_L_law_1076 : dn cL_law 1076 (.iload 5) 2 1078 := dnAt dc_L_law25 11 rfl rfl
theorem d_L_law_1078 : dn cL_law 1078 (.ifCond .ne 15) 3 1081 := dnAt dc_L_law25 12 rfl rfl
theorem d_L_law_1081 : dn cL_law 1081 (.aload_n 3) 1 1082 := dnAt dc_L_law25 13 rfl rfl
theorem d_L_law_1082 : dn cL_law 1082 (.iconst 0) 1 1083 := dnAt dc_L_law25 14 rfl rfl
theorem d_L_law_1083 : dn cL_law 1083 (.laload) 1 1084 := dnAt dc_L_law25 15 rfl rfl
theorem d_L_law_1084 : dn cL_law 1084 (.iload 6) 2 1086 := dnAt dc_L_law25 16 rfl rfl
theorem d_L_law_1086 : dn cL_law 1086 (.i2l) 1 1087 := dnAt dc_L_law25 17 rfl rfl
theorem d_L_law_1087 : dn cL_law 1087 (.lcmp) 1 1088 := dnAt dc_L_law25 18 rfl rfl
theorem d_L_law_1088 : dn cL_law 1088 (.ifCond .eq 5) 3 1091 := dnAt dc_L_law25 19 rfl rfl
theorem d_L_law_1091 : dn cL_law 1091 (.iconst 0) 1 1092 := dnAt dc_L_law25 20 rfl rfl
theorem d_L_law_1092 : dn cL_law 1092 (.ireturn) 1 1093 := dnAt dc_L_law25 21 rfl rfl
theorem d_L_law_1093 : dn cL_law 1093 (.goto 829) 3 1096 := dnAt dc_L_law25 22 rfl rfl
theorem d_L_law_1096 : dn cL_law 1096 (.aload_n 1) 1 1097 := dnAt dc_L_law25 23 rfl rfl
def dl_L_law26 : List (Nat × Instr × Nat) := [(1097, .invokevirtual 160, 3), (1100, .aload_n 2, 1), (1101, .invokevirtual 163, 3), (1104, .if_icmp .eq 818, 3), (1107, .iconst 0, 1), (1108, .ireturn, 1), (1109, .aload_n 1, 1), (1110, .aload_n 0, 1), (1111, .iload 4, 2), (1113, .iconst 1, 1), (1114, .iadd, 1), (1115, .iaload, 1), (1116, .aload_n 0, 1), (1117, .iload 4, 2), (1119, .iconst 2, 1), (1120, .iadd, 1), (1121, .iaload, 1), (1122, .aload_n 0, 1), (1123, .iload 4, 2), (1125, .iconst 3, 1), (1126, .iadd, 1), (1127, .iaload, 1), (1128, .aload_n 0, 1), (1129, .iload 4, 2)]
theorem dc_L_law26 : dnL cL_law dl_L_law26 = true := by decide +kernel
theorem d_L_law_1097 : dn cL_law 1097 (.invokevirtual 160) 3 1100 := dnAt dc_L_law26 0 rfl rfl
theorem d_L_law_1100 : dn cL_law 1100 (.aload_n 2) 1 1101 := dnAt dc_L_law26 1 rfl rfl
theorem d_L_law_1101 : dn cL_law 1101 (.invokevirtual 163) 3 1104 := dnAt dc_L_law26 2 rfl rfl
theorem d_L_law_1104 : dn cL_law 1104 (.if_icmp .eq 818) 3 1107 := dnAt dc_L_law26 3 rfl rfl
theorem d_L_law_1107 : dn cL_law 1107 (.iconst 0) 1 1108 := dnAt dc_L_law26 4 rfl rfl
theorem d_L_law_1108 : dn cL_law 1108 (.ireturn) 1 1109 := dnAt dc_L_law26 5 rfl rfl
theorem d_L_law_1109 : dn cL_law 1109 (.aload_n 1) 1 1110 := dnAt dc_L_law26 6 rfl rfl
theorem d_L_law_1110 : dn cL_law 1110 (.aload_n 0) 1 1111 := dnAt dc_L_law26 7 rfl rfl
theorem d_L_law_1111 : dn cL_law 1111 (.iload 4) 2 1113 := dnAt dc_L_law26 8 rfl rfl
theorem d_L_law_1113 : dn cL_law 1113 (.iconst 1) 1 1114 := dnAt dc_L_law26 9 rfl rfl
theorem d_L_law_1114 : dn cL_law 1114 (.iadd) 1 1115 := dnAt dc_L_law26 10 rfl rfl
theorem d_L_law_1115 : dn cL_law 1115 (.iaload) 1 1116 := dnAt dc_L_law26 11 rfl rfl
theorem d_L_law_1116 : dn cL_law 1116 (.aload_n 0) 1 1117 := dnAt dc_L_law26 12 rfl rfl
theorem d_L_law_1117 : dn cL_law 1117 (.iload 4) 2 1119 := dnAt dc_L_law26 13 rfl rfl
theorem d_L_law_1119 : dn cL_law 1119 (.iconst 2) 1 1120 := dnAt dc_L_law26 14 rfl rfl
theorem d_L_law_1120 : dn cL_law 1120 (.iadd) 1 1121 := dnAt dc_L_law26 15 rfl rfl
theorem d_L_law_1121 : dn cL_law 1121 (.iaload) 1 1122 := dnAt dc_L_law26 16 rfl rfl
theorem d_L_law_1122 : dn cL_law 1122 (.aload_n 0) 1 1123 := dnAt dc_L_law26 17 rfl rfl
theorem d_L_law_1123 : dn cL_law 1123 (.iload 4) 2 1125 := dnAt dc_L_law26 18 rfl rfl
theorem d_L_law_1125 : dn cL_law 1125 (.iconst 3) 1 1126 := dnAt dc_L_law26 19 rfl rfl
theorem d_L_law_1126 : dn cL_law 1126 (.iadd) 1 1127 := dnAt dc_L_law26 20 rfl rfl
theorem d_L_law_1127 : dn cL_law 1127 (.iaload) 1 1128 := dnAt dc_L_law26 21 rfl rfl
theorem d_L_law_1128 : dn cL_law 1128 (.aload_n 0) 1 1129 := dnAt dc_L_law26 22 rfl rfl
theorem d_L_law_1129 : dn cL_law 1129 (.iload 4) 2 1131 := dnAt dc_L_law26 23 rfl rfl
def dl_L_law27 : List (Nat × Instr × Nat) := [(1131, .iconst 4, 1), (1132, .iadd, 1), (1133, .iaload, 1), (1134, .aload_n 0, 1), (1135, .iload 4, 2), (1137, .iconst 5, 1), (1138, .iadd, 1), (1139, .iaload, 1), (1140, .ifCond .eq 7, 3), (1143, .iconst 1, 1), (1144, .goto 4, 3), (1147, .iconst 0, 1), (1148, .aload_n 3, 1), (1149, .invokestatic 164, 3), (1152, .istore 5, 2), (1154, .aload_n 2, 1), (1155, .aload_n 0, 1), (1156, .iload 4, 2), (1158, .iconst 1, 1), (1159, .iadd, 1), (1160, .iaload, 1), (1161, .aload_n 0, 1), (1162, .iload 4, 2), (1164, .iconst 2, 1)]
theorem dc_L_law27 : dnL cL_law dl_L_law27 = true := by decide +kernel
theorem d_L_law_1131 : dn cL_law 1131 (.iconst 4) 1 1132 := dnAt dc_L_law27 0 rfl rfl
theorem d_L_law_1132 : dn cL_law 1132 (.iadd) 1 1133 := dnAt dc_L_law27 1 rfl rfl
theorem d_L_law_1133 : dn cL_law 1133 (.iaload) 1 1134 := dnAt dc_L_law27 2 rfl rfl
theorem d_L_law_1134 : dn cL_law 1134 (.aload_n 0) 1 1135 := dnAt dc_L_law27 3 rfl rfl
theorem d_L_law_1135 : dn cL_law 1135 (.iload 4) 2 1137 := dnAt dc_L_law27 4 rfl rfl
theorem d_L_law_1137 : dn cL_law 1137 (.iconst 5) 1 1138 := dnAt dc_L_law27 5 rfl rfl
theorem d_L_law_1138 : dn cL_law 1138 (.iadd) 1 1139 := dnAt dc_L_law27 6 rfl rfl
theorem d_L_law_1139 : dn cL_law 1139 (.iaload) 1 1140 := dnAt dc_L_law27 7 rfl rfl
theorem d_L_law_1140 : dn cL_law 1140 (.ifCond .eq 7) 3 1143 := dnAt dc_L_law27 8 rfl rfl
theorem d_L_law_1143 : dn cL_law 1143 (.iconst 1) 1 1144 := dnAt dc_L_law27 9 rfl rfl
theorem d_L_law_1144 : dn cL_law 1144 (.goto 4) 3 1147 := dnAt dc_L_law27 10 rfl rfl
theorem d_L_law_1147 : dn cL_law 1147 (.iconst 0) 1 1148 := dnAt dc_L_law27 11 rfl rfl
theorem d_L_law_1148 : dn cL_law 1148 (.aload_n 3) 1 1149 := dnAt dc_L_law27 12 rfl rfl
theorem d_L_law_1149 : dn cL_law 1149 (.invokestatic 164) 3 1152 := dnAt dc_L_law27 13 rfl rfl
theorem d_L_law_1152 : dn cL_law 1152 (.istore 5) 2 1154 := dnAt dc_L_law27 14 rfl rfl
theorem d_L_law_1154 : dn cL_law 1154 (.aload_n 2) 1 1155 := dnAt dc_L_law27 15 rfl rfl
theorem d_L_law_1155 : dn cL_law 1155 (.aload_n 0) 1 1156 := dnAt dc_L_law27 16 rfl rfl
theorem d_L_law_1156 : dn cL_law 1156 (.iload 4) 2 1158 := dnAt dc_L_law27 17 rfl rfl
theorem d_L_law_1158 : dn cL_law 1158 (.iconst 1) 1 1159 := dnAt dc_L_law27 18 rfl rfl
theorem d_L_law_1159 : dn cL_law 1159 (.iadd) 1 1160 := dnAt dc_L_law27 19 rfl rfl
theorem d_L_law_1160 : dn cL_law 1160 (.iaload) 1 1161 := dnAt dc_L_law27 20 rfl rfl
theorem d_L_law_1161 : dn cL_law 1161 (.aload_n 0) 1 1162 := dnAt dc_L_law27 21 rfl rfl
theorem d_L_law_1162 : dn cL_law 1162 (.iload 4) 2 1164 := dnAt dc_L_law27 22 rfl rfl
theorem d_L_law_1164 : dn cL_law 1164 (.iconst 2) 1 1165 := dnAt dc_L_law27 23 rfl rfl
def dl_L_law28 : List (Nat × Instr × Nat) := [(1165, .iadd, 1), (1166, .iaload, 1), (1167, .aload_n 0, 1), (1168, .iload 4, 2), (1170, .iconst 3, 1), (1171, .iadd, 1), (1172, .iaload, 1), (1173, .aload_n 0, 1), (1174, .iload 4, 2), (1176, .iconst 4, 1), (1177, .iadd, 1), (1178, .iaload, 1), (1179, .aload_n 0, 1), (1180, .iload 4, 2), (1182, .iconst 5, 1), (1183, .iadd, 1), (1184, .iaload, 1), (1185, .ifCond .eq 7, 3), (1188, .iconst 1, 1), (1189, .goto 4, 3), (1192, .iconst 0, 1), (1193, .invokevirtual 167, 3), (1196, .istore 6, 2), (1198, .aload_n 2, 1)]
theorem dc_L_law28 : dnL cL_law dl_L_law28 = true := by decide +kernel
theorem d_L_law_1165 : dn cL_law 1165 (.iadd) 1 1166 := dnAt dc_L_law28 0 rfl rfl
theorem d_L_law_1166 : dn cL_law 1166 (.iaload) 1 1167 := dnAt dc_L_law28 1 rfl rfl
theorem d_L_law_1167 : dn cL_law 1167 (.aload_n 0) 1 1168 := dnAt dc_L_law28 2 rfl rfl
theorem d_L_law_1168 : dn cL_law 1168 (.iload 4) 2 1170 := dnAt dc_L_law28 3 rfl rfl
theorem d_L_law_1170 : dn cL_law 1170 (.iconst 3) 1 1171 := dnAt dc_L_law28 4 rfl rfl
theorem d_L_law_1171 : dn cL_law 1171 (.iadd) 1 1172 := dnAt dc_L_law28 5 rfl rfl
theorem d_L_law_1172 : dn cL_law 1172 (.iaload) 1 1173 := dnAt dc_L_law28 6 rfl rfl
theorem d_L_law_1173 : dn cL_law 1173 (.aload_n 0) 1 1174 := dnAt dc_L_law28 7 rfl rfl
theorem d_L_law_1174 : dn cL_law 1174 (.iload 4) 2 1176 := dnAt dc_L_law28 8 rfl rfl
theorem d_L_law_1176 : dn cL_law 1176 (.iconst 4) 1 1177 := dnAt dc_L_law28 9 rfl rfl
theorem d_L_law_1177 : dn cL_law 1177 (.iadd) 1 1178 := dnAt dc_L_law28 10 rfl rfl
theorem d_L_law_1178 : dn cL_law 1178 (.iaload) 1 1179 := dnAt dc_L_law28 11 rfl rfl
theorem d_L_law_1179 : dn cL_law 1179 (.aload_n 0) 1 1180 := dnAt dc_L_law28 12 rfl rfl
theorem d_L_law_1180 : dn cL_law 1180 (.iload 4) 2 1182 := dnAt dc_L_law28 13 rfl rfl
theorem d_L_law_1182 : dn cL_law 1182 (.iconst 5) 1 1183 := dnAt dc_L_law28 14 rfl rfl
theorem d_L_law_1183 : dn cL_law 1183 (.iadd) 1 1184 := dnAt dc_L_law28 15 rfl rfl
theorem d_L_law_1184 : dn cL_law 1184 (.iaload) 1 1185 := dnAt dc_L_law28 16 rfl rfl
theorem d_L_law_1185 : dn cL_law 1185 (.ifCond .eq 7) 3 1188 := dnAt dc_L_law28 17 rfl rfl
theorem d_L_law_1188 : dn cL_law 1188 (.iconst 1) 1 1189 := dnAt dc_L_law28 18 rfl rfl
theorem d_L_law_1189 : dn cL_law 1189 (.goto 4) 3 1192 := dnAt dc_L_law28 19 rfl rfl
theorem d_L_law_1192 : dn cL_law 1192 (.iconst 0) 1 1193 := dnAt dc_L_law28 20 rfl rfl
theorem d_L_law_1193 : dn cL_law 1193 (.invokevirtual 167) 3 1196 := dnAt dc_L_law28 21 rfl rfl
theorem d_L_law_1196 : dn cL_law 1196 (.istore 6) 2 1198 := dnAt dc_L_law28 22 rfl rfl
theorem d_L_law_1198 : dn cL_law 1198 (.aload_n 2) 1 1199 := dnAt dc_L_law28 23 rfl rfl
def dl_L_law29 : List (Nat × Instr × Nat) := [(1199, .invokevirtual 108, 3), (1202, .iload 5, 2), (1204, .if_icmp .eq 5, 3), (1207, .iconst 0, 1), (1208, .ireturn, 1), (1209, .iload 5, 2), (1211, .ifCond .ne 15, 3), (1214, .aload_n 3, 1), (1215, .iconst 0, 1), (1216, .laload, 1), (1217, .iload 6, 2), (1219, .i2l, 1), (1220, .lcmp, 1), (1221, .ifCond .eq 5, 3), (1224, .iconst 0, 1), (1225, .ireturn, 1), (1226, .goto 696, 3), (1229, .aload_n 1, 1), (1230, .aload_n 0, 1), (1231, .iload 4, 2), (1233, .iconst 1, 1), (1234, .iadd, 1), (1235, .iaload, 1), (1236, .aload_n 0, 1)]
theorem dc_L_law29 : dnL cL_law dl_L_law29 = true := by decide +kernel
theorem d_L_law_1199 : dn cL_law 1199 (.invokevirtual 108) 3 1202 := dnAt dc_L_law29 0 rfl rfl
theorem d_L_law_1202 : dn cL_law 1202 (.iload 5) 2 1204 := dnAt dc_L_law29 1 rfl rfl
theorem d_L_law_1204 : dn cL_law 1204 (.if_icmp .eq 5) 3 1207 := dnAt dc_L_law29 2 rfl rfl
theorem d_L_law_1207 : dn cL_law 1207 (.iconst 0) 1 1208 := dnAt dc_L_law29 3 rfl rfl
theorem d_L_law_1208 : dn cL_law 1208 (.ireturn) 1 1209 := dnAt dc_L_law29 4 rfl rfl
theorem d_L_law_1209 : dn cL_law 1209 (.iload 5) 2 1211 := dnAt dc_L_law29 5 rfl rfl
theorem d_L_law_1211 : dn cL_law 1211 (.ifCond .ne 15) 3 1214 := dnAt dc_L_law29 6 rfl rfl
theorem d_L_law_1214 : dn cL_law 1214 (.aload_n 3) 1 1215 := dnAt dc_L_law29 7 rfl rfl
theorem d_L_law_1215 : dn cL_law 1215 (.iconst 0) 1 1216 := dnAt dc_L_law29 8 rfl rfl
theorem d_L_law_1216 : dn cL_law 1216 (.laload) 1 1217 := dnAt dc_L_law29 9 rfl rfl
theorem d_L_law_1217 : dn cL_law 1217 (.iload 6) 2 1219 := dnAt dc_L_law29 10 rfl rfl
theorem d_L_law_1219 : dn cL_law 1219 (.i2l) 1 1220 := dnAt dc_L_law29 11 rfl rfl
theorem d_L_law_1220 : dn cL_law 1220 (.lcmp) 1 1221 := dnAt dc_L_law29 12 rfl rfl
theorem d_L_law_1221 : dn cL_law 1221 (.ifCond .eq 5) 3 1224 := dnAt dc_L_law29 13 rfl rfl
theorem d_L_law_1224 : dn cL_law 1224 (.iconst 0) 1 1225 := dnAt dc_L_law29 14 rfl rfl
theorem d_L_law_1225 : dn cL_law 1225 (.ireturn) 1 1226 := dnAt dc_L_law29 15 rfl rfl
theorem d_L_law_1226 : dn cL_law 1226 (.goto 696) 3 1229 := dnAt dc_L_law29 16 rfl rfl
theorem d_L_law_1229 : dn cL_law 1229 (.aload_n 1) 1 1230 := dnAt dc_L_law29 17 rfl rfl
theorem d_L_law_1230 : dn cL_law 1230 (.aload_n 0) 1 1231 := dnAt dc_L_law29 18 rfl rfl
theorem d_L_law_1231 : dn cL_law 1231 (.iload 4) 2 1233 := dnAt dc_L_law29 19 rfl rfl
theorem d_L_law_1233 : dn cL_law 1233 (.iconst 1) 1 1234 := dnAt dc_L_law29 20 rfl rfl
theorem d_L_law_1234 : dn cL_law 1234 (.iadd) 1 1235 := dnAt dc_L_law29 21 rfl rfl
theorem d_L_law_1235 : dn cL_law 1235 (.iaload) 1 1236 := dnAt dc_L_law29 22 rfl rfl
theorem d_L_law_1236 : dn cL_law 1236 (.aload_n 0) 1 1237 := dnAt dc_L_law29 23 rfl rfl
def dl_L_law30 : List (Nat × Instr × Nat) := [(1237, .iload 4, 2), (1239, .iconst 2, 1), (1240, .iadd, 1), (1241, .iaload, 1), (1242, .aload_n 0, 1), (1243, .iload 4, 2), (1245, .iconst 3, 1), (1246, .iadd, 1), (1247, .iaload, 1), (1248, .aload_n 0, 1), (1249, .iload 4, 2), (1251, .iconst 4, 1), (1252, .iadd, 1), (1253, .iaload, 1), (1254, .ifCond .eq 7, 3), (1257, .iconst 1, 1), (1258, .goto 4, 3), (1261, .iconst 0, 1), (1262, .aload_n 3, 1), (1263, .invokestatic 168, 3), (1266, .istore 5, 2), (1268, .aload_n 2, 1), (1269, .aload_n 0, 1), (1270, .iload 4, 2)]
theorem dc_L_law30 : dnL cL_law dl_L_law30 = true := by decide +kernel
theorem d_L_law_1237 : dn cL_law 1237 (.iload 4) 2 1239 := dnAt dc_L_law30 0 rfl rfl
theorem d_L_law_1239 : dn cL_law 1239 (.iconst 2) 1 1240 := dnAt dc_L_law30 1 rfl rfl
theorem d_L_law_1240 : dn cL_law 1240 (.iadd) 1 1241 := dnAt dc_L_law30 2 rfl rfl
theorem d_L_law_1241 : dn cL_law 1241 (.iaload) 1 1242 := dnAt dc_L_law30 3 rfl rfl
theorem d_L_law_1242 : dn cL_law 1242 (.aload_n 0) 1 1243 := dnAt dc_L_law30 4 rfl rfl
theorem d_L_law_1243 : dn cL_law 1243 (.iload 4) 2 1245 := dnAt dc_L_law30 5 rfl rfl
theorem d_L_law_1245 : dn cL_law 1245 (.iconst 3) 1 1246 := dnAt dc_L_law30 6 rfl rfl
theorem d_L_law_1246 : dn cL_law 1246 (.iadd) 1 1247 := dnAt dc_L_law30 7 rfl rfl
theorem d_L_law_1247 : dn cL_law 1247 (.iaload) 1 1248 := dnAt dc_L_law30 8 rfl rfl
theorem d_L_law_1248 : dn cL_law 1248 (.aload_n 0) 1 1249 := dnAt dc_L_law30 9 rfl rfl
theorem d_L_law_1249 : dn cL_law 1249 (.iload 4) 2 1251 := dnAt dc_L_law30 10 rfl rfl
theorem d_L_law_1251 : dn cL_law 1251 (.iconst 4) 1 1252 := dnAt dc_L_law30 11 rfl rfl
theorem d_L_law_1252 : dn cL_law 1252 (.iadd) 1 1253 := dnAt dc_L_law30 12 rfl rfl
theorem d_L_law_1253 : dn cL_law 1253 (.iaload) 1 1254 := dnAt dc_L_law30 13 rfl rfl
theorem d_L_law_1254 : dn cL_law 1254 (.ifCond .eq 7) 3 1257 := dnAt dc_L_law30 14 rfl rfl
theorem d_L_law_1257 : dn cL_law 1257 (.iconst 1) 1 1258 := dnAt dc_L_law30 15 rfl rfl
theorem d_L_law_1258 : dn cL_law 1258 (.goto 4) 3 1261 := dnAt dc_L_law30 16 rfl rfl
theorem d_L_law_1261 : dn cL_law 1261 (.iconst 0) 1 1262 := dnAt dc_L_law30 17 rfl rfl
theorem d_L_law_1262 : dn cL_law 1262 (.aload_n 3) 1 1263 := dnAt dc_L_law30 18 rfl rfl
theorem d_L_law_1263 : dn cL_law 1263 (.invokestatic 168) 3 1266 := dnAt dc_L_law30 19 rfl rfl
theorem d_L_law_1266 : dn cL_law 1266 (.istore 5) 2 1268 := dnAt dc_L_law30 20 rfl rfl
theorem d_L_law_1268 : dn cL_law 1268 (.aload_n 2) 1 1269 := dnAt dc_L_law30 21 rfl rfl
theorem d_L_law_1269 : dn cL_law 1269 (.aload_n 0) 1 1270 := dnAt dc_L_law30 22 rfl rfl
theorem d_L_law_1270 : dn cL_law 1270 (.iload 4) 2 1272 := dnAt dc_L_law30 23 rfl rfl
def dl_L_law31 : List (Nat × Instr × Nat) := [(1272, .iconst 1, 1), (1273, .iadd, 1), (1274, .iaload, 1), (1275, .aload_n 0, 1), (1276, .iload 4, 2), (1278, .iconst 2, 1), (1279, .iadd, 1), (1280, .iaload, 1), (1281, .aload_n 0, 1), (1282, .iload 4, 2), (1284, .iconst 3, 1), (1285, .iadd, 1), (1286, .iaload, 1), (1287, .aload_n 0, 1), (1288, .iload 4, 2), (1290, .iconst 4, 1), (1291, .iadd, 1), (1292, .iaload, 1), (1293, .ifCond .eq 7, 3), (1296, .iconst 1, 1), (1297, .goto 4, 3), (1300, .iconst 0, 1), (1301, .invokevirtual 171, 3), (1304, .istore 6, 2)]
theorem dc_L_law31 : dnL cL_law dl_L_law31 = true := by decide +kernel
theorem d_L_law_1272 : dn cL_law 1272 (.iconst 1) 1 1273 := dnAt dc_L_law31 0 rfl rfl
theorem d_L_law_1273 : dn cL_law 1273 (.iadd) 1 1274 := dnAt dc_L_law31 1 rfl rfl
theorem d_L_law_1274 : dn cL_law 1274 (.iaload) 1 1275 := dnAt dc_L_law31 2 rfl rfl
theorem d_L_law_1275 : dn cL_law 1275 (.aload_n 0) 1 1276 := dnAt dc_L_law31 3 rfl rfl
theorem d_L_law_1276 : dn cL_law 1276 (.iload 4) 2 1278 := dnAt dc_L_law31 4 rfl rfl
theorem d_L_law_1278 : dn cL_law 1278 (.iconst 2) 1 1279 := dnAt dc_L_law31 5 rfl rfl
theorem d_L_law_1279 : dn cL_law 1279 (.iadd) 1 1280 := dnAt dc_L_law31 6 rfl rfl
theorem d_L_law_1280 : dn cL_law 1280 (.iaload) 1 1281 := dnAt dc_L_law31 7 rfl rfl
theorem d_L_law_1281 : dn cL_law 1281 (.aload_n 0) 1 1282 := dnAt dc_L_law31 8 rfl rfl
theorem d_L_law_1282 : dn cL_law 1282 (.iload 4) 2 1284 := dnAt dc_L_law31 9 rfl rfl
theorem d_L_law_1284 : dn cL_law 1284 (.iconst 3) 1 1285 := dnAt dc_L_law31 10 rfl rfl
theorem d_L_law_1285 : dn cL_law 1285 (.iadd) 1 1286 := dnAt dc_L_law31 11 rfl rfl
theorem d_L_law_1286 : dn cL_law 1286 (.iaload) 1 1287 := dnAt dc_L_law31 12 rfl rfl
theorem d_L_law_1287 : dn cL_law 1287 (.aload_n 0) 1 1288 := dnAt dc_L_law31 13 rfl rfl
theorem d_L_law_1288 : dn cL_law 1288 (.iload 4) 2 1290 := dnAt dc_L_law31 14 rfl rfl
theorem d_L_law_1290 : dn cL_law 1290 (.iconst 4) 1 1291 := dnAt dc_L_law31 15 rfl rfl
theorem d_L_law_1291 : dn cL_law 1291 (.iadd) 1 1292 := dnAt dc_L_law31 16 rfl rfl
theorem d_L_law_1292 : dn cL_law 1292 (.iaload) 1 1293 := dnAt dc_L_law31 17 rfl rfl
theorem d_L_law_1293 : dn cL_law 1293 (.ifCond .eq 7) 3 1296 := dnAt dc_L_law31 18 rfl rfl
theorem d_L_law_1296 : dn cL_law 1296 (.iconst 1) 1 1297 := dnAt dc_L_law31 19 rfl rfl
theorem d_L_law_1297 : dn cL_law 1297 (.goto 4) 3 1300 := dnAt dc_L_law31 20 rfl rfl
theorem d_L_law_1300 : dn cL_law 1300 (.iconst 0) 1 1301 := dnAt dc_L_law31 21 rfl rfl
theorem d_L_law_1301 : dn cL_law 1301 (.invokevirtual 171) 3 1304 := dnAt dc_L_law31 22 rfl rfl
theorem d_L_law_1304 : dn cL_law 1304 (.istore 6) 2 1306 := dnAt dc_L_law31 23 rfl rfl
def dl_L_law32 : List (Nat × Instr × Nat) := [(1306, .aload_n 2, 1), (1307, .invokevirtual 108, 3), (1310, .iload 5, 2), (1312, .if_icmp .eq 5, 3), (1315, .iconst 0, 1), (1316, .ireturn, 1), (1317, .iload 5, 2), (1319, .ifCond .ne 15, 3), (1322, .aload_n 3, 1), (1323, .iconst 0, 1), (1324, .laload, 1), (1325, .iload 6, 2), (1327, .i2l, 1), (1328, .lcmp, 1), (1329, .ifCond .eq 5, 3), (1332, .iconst 0, 1), (1333, .ireturn, 1), (1334, .goto 588, 3), (1337, .aload_n 1, 1), (1338, .aload_n 0, 1), (1339, .iload 4, 2), (1341, .iconst 1, 1), (1342, .iadd, 1), (1343, .iaload, 1)]
theorem dc_L_law32 : dnL cL_law dl_L_law32 = true := by decide +kernel
theorem d_L_law_1306 : dn cL_law 1306 (.aload_n 2) 1 1307 := dnAt dc_L_law32 0 rfl rfl
theorem d_L_law_1307 : dn cL_law 1307 (.invokevirtual 108) 3 1310 := dnAt dc_L_law32 1 rfl rfl
theorem d_L_law_1310 : dn cL_law 1310 (.iload 5) 2 1312 := dnAt dc_L_law32 2 rfl rfl
theorem d_L_law_1312 : dn cL_law 1312 (.if_icmp .eq 5) 3 1315 := dnAt dc_L_law32 3 rfl rfl
theorem d_L_law_1315 : dn cL_law 1315 (.iconst 0) 1 1316 := dnAt dc_L_law32 4 rfl rfl
theorem d_L_law_1316 : dn cL_law 1316 (.ireturn) 1 1317 := dnAt dc_L_law32 5 rfl rfl
theorem d_L_law_1317 : dn cL_law 1317 (.iload 5) 2 1319 := dnAt dc_L_law32 6 rfl rfl
theorem d_L_law_1319 : dn cL_law 1319 (.ifCond .ne 15) 3 1322 := dnAt dc_L_law32 7 rfl rfl
theorem d_L_law_1322 : dn cL_law 1322 (.aload_n 3) 1 1323 := dnAt dc_L_law32 8 rfl rfl
theorem d_L_law_1323 : dn cL_law 1323 (.iconst 0) 1 1324 := dnAt dc_L_law32 9 rfl rfl
theorem d_L_law_1324 : dn cL_law 1324 (.laload) 1 1325 := dnAt dc_L_law32 10 rfl rfl
theorem d_L_law_1325 : dn cL_law 1325 (.iload 6) 2 1327 := dnAt dc_L_law32 11 rfl rfl
theorem d_L_law_1327 : dn cL_law 1327 (.i2l) 1 1328 := dnAt dc_L_law32 12 rfl rfl
theorem d_L_law_1328 : dn cL_law 1328 (.lcmp) 1 1329 := dnAt dc_L_law32 13 rfl rfl
theorem d_L_law_1329 : dn cL_law 1329 (.ifCond .eq 5) 3 1332 := dnAt dc_L_law32 14 rfl rfl
theorem d_L_law_1332 : dn cL_law 1332 (.iconst 0) 1 1333 := dnAt dc_L_law32 15 rfl rfl
theorem d_L_law_1333 : dn cL_law 1333 (.ireturn) 1 1334 := dnAt dc_L_law32 16 rfl rfl
theorem d_L_law_1334 : dn cL_law 1334 (.goto 588) 3 1337 := dnAt dc_L_law32 17 rfl rfl
theorem d_L_law_1337 : dn cL_law 1337 (.aload_n 1) 1 1338 := dnAt dc_L_law32 18 rfl rfl
theorem d_L_law_1338 : dn cL_law 1338 (.aload_n 0) 1 1339 := dnAt dc_L_law32 19 rfl rfl
theorem d_L_law_1339 : dn cL_law 1339 (.iload 4) 2 1341 := dnAt dc_L_law32 20 rfl rfl
theorem d_L_law_1341 : dn cL_law 1341 (.iconst 1) 1 1342 := dnAt dc_L_law32 21 rfl rfl
theorem d_L_law_1342 : dn cL_law 1342 (.iadd) 1 1343 := dnAt dc_L_law32 22 rfl rfl
theorem d_L_law_1343 : dn cL_law 1343 (.iaload) 1 1344 := dnAt dc_L_law32 23 rfl rfl
def dl_L_law33 : List (Nat × Instr × Nat) := [(1344, .aload_n 0, 1), (1345, .iload 4, 2), (1347, .iconst 2, 1), (1348, .iadd, 1), (1349, .iaload, 1), (1350, .aload_n 0, 1), (1351, .iload 4, 2), (1353, .iconst 3, 1), (1354, .iadd, 1), (1355, .iaload, 1), (1356, .aload_n 3, 1), (1357, .invokestatic 172, 3), (1360, .istore 5, 2), (1362, .aload_n 2, 1), (1363, .aload_n 0, 1), (1364, .iload 4, 2), (1366, .iconst 1, 1), (1367, .iadd, 1), (1368, .iaload, 1), (1369, .aload_n 0, 1), (1370, .iload 4, 2), (1372, .iconst 2, 1), (1373, .iadd, 1), (1374, .iaload, 1)]
theorem dc_L_law33 : dnL cL_law dl_L_law33 = true := by decide +kernel
theorem d_L_law_1344 : dn cL_law 1344 (.aload_n 0) 1 1345 := dnAt dc_L_law33 0 rfl rfl
theorem d_L_law_1345 : dn cL_law 1345 (.iload 4) 2 1347 := dnAt dc_L_law33 1 rfl rfl
theorem d_L_law_1347 : dn cL_law 1347 (.iconst 2) 1 1348 := dnAt dc_L_law33 2 rfl rfl
theorem d_L_law_1348 : dn cL_law 1348 (.iadd) 1 1349 := dnAt dc_L_law33 3 rfl rfl
theorem d_L_law_1349 : dn cL_law 1349 (.iaload) 1 1350 := dnAt dc_L_law33 4 rfl rfl
theorem d_L_law_1350 : dn cL_law 1350 (.aload_n 0) 1 1351 := dnAt dc_L_law33 5 rfl rfl
theorem d_L_law_1351 : dn cL_law 1351 (.iload 4) 2 1353 := dnAt dc_L_law33 6 rfl rfl
theorem d_L_law_1353 : dn cL_law 1353 (.iconst 3) 1 1354 := dnAt dc_L_law33 7 rfl rfl
theorem d_L_law_1354 : dn cL_law 1354 (.iadd) 1 1355 := dnAt dc_L_law33 8 rfl rfl
theorem d_L_law_1355 : dn cL_law 1355 (.iaload) 1 1356 := dnAt dc_L_law33 9 rfl rfl
theorem d_L_law_1356 : dn cL_law 1356 (.aload_n 3) 1 1357 := dnAt dc_L_law33 10 rfl rfl
theorem d_L_law_1357 : dn cL_law 1357 (.invokestatic 172) 3 1360 := dnAt dc_L_law33 11 rfl rfl
theorem d_L_law_1360 : dn cL_law 1360 (.istore 5) 2 1362 := dnAt dc_L_law33 12 rfl rfl
theorem d_L_law_1362 : dn cL_law 1362 (.aload_n 2) 1 1363 := dnAt dc_L_law33 13 rfl rfl
theorem d_L_law_1363 : dn cL_law 1363 (.aload_n 0) 1 1364 := dnAt dc_L_law33 14 rfl rfl
theorem d_L_law_1364 : dn cL_law 1364 (.iload 4) 2 1366 := dnAt dc_L_law33 15 rfl rfl
theorem d_L_law_1366 : dn cL_law 1366 (.iconst 1) 1 1367 := dnAt dc_L_law33 16 rfl rfl
theorem d_L_law_1367 : dn cL_law 1367 (.iadd) 1 1368 := dnAt dc_L_law33 17 rfl rfl
theorem d_L_law_1368 : dn cL_law 1368 (.iaload) 1 1369 := dnAt dc_L_law33 18 rfl rfl
theorem d_L_law_1369 : dn cL_law 1369 (.aload_n 0) 1 1370 := dnAt dc_L_law33 19 rfl rfl
theorem d_L_law_1370 : dn cL_law 1370 (.iload 4) 2 1372 := dnAt dc_L_law33 20 rfl rfl
theorem d_L_law_1372 : dn cL_law 1372 (.iconst 2) 1 1373 := dnAt dc_L_law33 21 rfl rfl
theorem d_L_law_1373 : dn cL_law 1373 (.iadd) 1 1374 := dnAt dc_L_law33 22 rfl rfl
theorem d_L_law_1374 : dn cL_law 1374 (.iaload) 1 1375 := dnAt dc_L_law33 23 rfl rfl
def dl_L_law34 : List (Nat × Instr × Nat) := [(1375, .aload_n 0, 1), (1376, .iload 4, 2), (1378, .iconst 3, 1), (1379, .iadd, 1), (1380, .iaload, 1), (1381, .invokevirtual 174, 3), (1384, .istore 6, 2), (1386, .aload_n 2, 1), (1387, .invokevirtual 108, 3), (1390, .iload 5, 2), (1392, .if_icmp .eq 5, 3), (1395, .iconst 0, 1), (1396, .ireturn, 1), (1397, .iload 5, 2), (1399, .ifCond .ne 15, 3), (1402, .aload_n 3, 1), (1403, .iconst 0, 1), (1404, .laload, 1), (1405, .iload 6, 2), (1407, .i2l, 1), (1408, .lcmp, 1), (1409, .ifCond .eq 5, 3), (1412, .iconst 0, 1), (1413, .ireturn, 1)]
theorem dc_L_law34 : dnL cL_law dl_L_law34 = true := by decide +kernel
theorem d_L_law_1375 : dn cL_law 1375 (.aload_n 0) 1 1376 := dnAt dc_L_law34 0 rfl rfl
theorem d_L_law_1376 : dn cL_law 1376 (.iload 4) 2 1378 := dnAt dc_L_law34 1 rfl rfl
theorem d_L_law_1378 : dn cL_law 1378 (.iconst 3) 1 1379 := dnAt dc_L_law34 2 rfl rfl
theorem d_L_law_1379 : dn cL_law 1379 (.iadd) 1 1380 := dnAt dc_L_law34 3 rfl rfl
theorem d_L_law_1380 : dn cL_law 1380 (.iaload) 1 1381 := dnAt dc_L_law34 4 rfl rfl
theorem d_L_law_1381 : dn cL_law 1381 (.invokevirtual 174) 3 1384 := dnAt dc_L_law34 5 rfl rfl
theorem d_L_law_1384 : dn cL_law 1384 (.istore 6) 2 1386 := dnAt dc_L_law34 6 rfl rfl
theorem d_L_law_1386 : dn cL_law 1386 (.aload_n 2) 1 1387 := dnAt dc_L_law34 7 rfl rfl
theorem d_L_law_1387 : dn cL_law 1387 (.invokevirtual 108) 3 1390 := dnAt dc_L_law34 8 rfl rfl
theorem d_L_law_1390 : dn cL_law 1390 (.iload 5) 2 1392 := dnAt dc_L_law34 9 rfl rfl
theorem d_L_law_1392 : dn cL_law 1392 (.if_icmp .eq 5) 3 1395 := dnAt dc_L_law34 10 rfl rfl
theorem d_L_law_1395 : dn cL_law 1395 (.iconst 0) 1 1396 := dnAt dc_L_law34 11 rfl rfl
theorem d_L_law_1396 : dn cL_law 1396 (.ireturn) 1 1397 := dnAt dc_L_law34 12 rfl rfl
theorem d_L_law_1397 : dn cL_law 1397 (.iload 5) 2 1399 := dnAt dc_L_law34 13 rfl rfl
theorem d_L_law_1399 : dn cL_law 1399 (.ifCond .ne 15) 3 1402 := dnAt dc_L_law34 14 rfl rfl
theorem d_L_law_1402 : dn cL_law 1402 (.aload_n 3) 1 1403 := dnAt dc_L_law34 15 rfl rfl
theorem d_L_law_1403 : dn cL_law 1403 (.iconst 0) 1 1404 := dnAt dc_L_law34 16 rfl rfl
theorem d_L_law_1404 : dn cL_law 1404 (.laload) 1 1405 := dnAt dc_L_law34 17 rfl rfl
theorem d_L_law_1405 : dn cL_law 1405 (.iload 6) 2 1407 := dnAt dc_L_law34 18 rfl rfl
theorem d_L_law_1407 : dn cL_law 1407 (.i2l) 1 1408 := dnAt dc_L_law34 19 rfl rfl
theorem d_L_law_1408 : dn cL_law 1408 (.lcmp) 1 1409 := dnAt dc_L_law34 20 rfl rfl
theorem d_L_law_1409 : dn cL_law 1409 (.ifCond .eq 5) 3 1412 := dnAt dc_L_law34 21 rfl rfl
theorem d_L_law_1412 : dn cL_law 1412 (.iconst 0) 1 1413 := dnAt dc_L_law34 22 rfl rfl
theorem d_L_law_1413 : dn cL_law 1413 (.ireturn) 1 1414 := dnAt dc_L_law34 23 rfl rfl
def dl_L_law35 : List (Nat × Instr × Nat) := [(1414, .goto 508, 3), (1417, .aload_n 1, 1), (1418, .aload_n 0, 1), (1419, .iload 4, 2), (1421, .iconst 1, 1), (1422, .iadd, 1), (1423, .iaload, 1), (1424, .aload_n 3, 1), (1425, .invokestatic 175, 3), (1428, .istore 5, 2), (1430, .aload_n 2, 1), (1431, .aload_n 0, 1), (1432, .iload 4, 2), (1434, .iconst 1, 1), (1435, .iadd, 1), (1436, .iaload, 1), (1437, .invokevirtual 177, 3), (1440, .istore 6, 2), (1442, .aload_n 2, 1), (1443, .invokevirtual 108, 3), (1446, .iload 5, 2), (1448, .if_icmp .eq 5, 3), (1451, .iconst 0, 1), (1452, .ireturn, 1)]
theorem dc_L_law35 : dnL cL_law dl_L_law35 = true := by decide +kernel
theorem d_L_law_1414 : dn cL_law 1414 (.goto 508) 3 1417 := dnAt dc_L_law35 0 rfl rfl
theorem d_L_law_1417 : dn cL_law 1417 (.aload_n 1) 1 1418 := dnAt dc_L_law35 1 rfl rfl
theorem d_L_law_1418 : dn cL_law 1418 (.aload_n 0) 1 1419 := dnAt dc_L_law35 2 rfl rfl
theorem d_L_law_1419 : dn cL_law 1419 (.iload 4) 2 1421 := dnAt dc_L_law35 3 rfl rfl
theorem d_L_law_1421 : dn cL_law 1421 (.iconst 1) 1 1422 := dnAt dc_L_law35 4 rfl rfl
theorem d_L_law_1422 : dn cL_law 1422 (.iadd) 1 1423 := dnAt dc_L_law35 5 rfl rfl
theorem d_L_law_1423 : dn cL_law 1423 (.iaload) 1 1424 := dnAt dc_L_law35 6 rfl rfl
theorem d_L_law_1424 : dn cL_law 1424 (.aload_n 3) 1 1425 := dnAt dc_L_law35 7 rfl rfl
theorem d_L_law_1425 : dn cL_law 1425 (.invokestatic 175) 3 1428 := dnAt dc_L_law35 8 rfl rfl
theorem d_L_law_1428 : dn cL_law 1428 (.istore 5) 2 1430 := dnAt dc_L_law35 9 rfl rfl
theorem d_L_law_1430 : dn cL_law 1430 (.aload_n 2) 1 1431 := dnAt dc_L_law35 10 rfl rfl
theorem d_L_law_1431 : dn cL_law 1431 (.aload_n 0) 1 1432 := dnAt dc_L_law35 11 rfl rfl
theorem d_L_law_1432 : dn cL_law 1432 (.iload 4) 2 1434 := dnAt dc_L_law35 12 rfl rfl
theorem d_L_law_1434 : dn cL_law 1434 (.iconst 1) 1 1435 := dnAt dc_L_law35 13 rfl rfl
theorem d_L_law_1435 : dn cL_law 1435 (.iadd) 1 1436 := dnAt dc_L_law35 14 rfl rfl
theorem d_L_law_1436 : dn cL_law 1436 (.iaload) 1 1437 := dnAt dc_L_law35 15 rfl rfl
theorem d_L_law_1437 : dn cL_law 1437 (.invokevirtual 177) 3 1440 := dnAt dc_L_law35 16 rfl rfl
theorem d_L_law_1440 : dn cL_law 1440 (.istore 6) 2 1442 := dnAt dc_L_law35 17 rfl rfl
theorem d_L_law_1442 : dn cL_law 1442 (.aload_n 2) 1 1443 := dnAt dc_L_law35 18 rfl rfl
theorem d_L_law_1443 : dn cL_law 1443 (.invokevirtual 108) 3 1446 := dnAt dc_L_law35 19 rfl rfl
theorem d_L_law_1446 : dn cL_law 1446 (.iload 5) 2 1448 := dnAt dc_L_law35 20 rfl rfl
theorem d_L_law_1448 : dn cL_law 1448 (.if_icmp .eq 5) 3 1451 := dnAt dc_L_law35 21 rfl rfl
theorem d_L_law_1451 : dn cL_law 1451 (.iconst 0) 1 1452 := dnAt dc_L_law35 22 rfl rfl
theorem d_L_law_1452 : dn cL_law 1452 (.ireturn) 1 1453 := dnAt dc_L_law35 23 rfl rfl
def dl_L_law36 : List (Nat × Instr × Nat) := [(1453, .iload 5, 2), (1455, .ifCond .ne 15, 3), (1458, .aload_n 3, 1), (1459, .iconst 0, 1), (1460, .laload, 1), (1461, .iload 6, 2), (1463, .i2l, 1), (1464, .lcmp, 1), (1465, .ifCond .eq 5, 3), (1468, .iconst 0, 1), (1469, .ireturn, 1), (1470, .goto 452, 3), (1473, .aload_n 1, 1), (1474, .aload_n 0, 1), (1475, .iload 4, 2), (1477, .iconst 1, 1), (1478, .iadd, 1), (1479, .iaload, 1), (1480, .aload_n 0, 1), (1481, .iload 4, 2), (1483, .iconst 2, 1), (1484, .iadd, 1), (1485, .iaload, 1), (1486, .aload_n 0, 1)]
theorem dc_L_law36 : dnL cL_law dl_L_law36 = true := by decide +kernel
theorem d_L_law_1453 : dn cL_law 1453 (.iload 5) 2 1455 := dnAt dc_L_law36 0 rfl rfl
theorem d_L_law_1455 : dn cL_law 1455 (.ifCond .ne 15) 3 1458 := dnAt dc_L_law36 1 rfl rfl
theorem d_L_law_1458 : dn cL_law 1458 (.aload_n 3) 1 1459 := dnAt dc_L_law36 2 rfl rfl
theorem d_L_law_1459 : dn cL_law 1459 (.iconst 0) 1 1460 := dnAt dc_L_law36 3 rfl rfl
theorem d_L_law_1460 : dn cL_law 1460 (.laload) 1 1461 := dnAt dc_L_law36 4 rfl rfl
theorem d_L_law_1461 : dn cL_law 1461 (.iload 6) 2 1463 := dnAt dc_L_law36 5 rfl rfl
theorem d_L_law_1463 : dn cL_law 1463 (.i2l) 1 1464 := dnAt dc_L_law36 6 rfl rfl
theorem d_L_law_1464 : dn cL_law 1464 (.lcmp) 1 1465 := dnAt dc_L_law36 7 rfl rfl
theorem d_L_law_1465 : dn cL_law 1465 (.ifCond .eq 5) 3 1468 := dnAt dc_L_law36 8 rfl rfl
theorem d_L_law_1468 : dn cL_law 1468 (.iconst 0) 1 1469 := dnAt dc_L_law36 9 rfl rfl
theorem d_L_law_1469 : dn cL_law 1469 (.ireturn) 1 1470 := dnAt dc_L_law36 10 rfl rfl
theorem d_L_law_1470 : dn cL_law 1470 (.goto 452) 3 1473 := dnAt dc_L_law36 11 rfl rfl
theorem d_L_law_1473 : dn cL_law 1473 (.aload_n 1) 1 1474 := dnAt dc_L_law36 12 rfl rfl
theorem d_L_law_1474 : dn cL_law 1474 (.aload_n 0) 1 1475 := dnAt dc_L_law36 13 rfl rfl
theorem d_L_law_1475 : dn cL_law 1475 (.iload 4) 2 1477 := dnAt dc_L_law36 14 rfl rfl
theorem d_L_law_1477 : dn cL_law 1477 (.iconst 1) 1 1478 := dnAt dc_L_law36 15 rfl rfl
theorem d_L_law_1478 : dn cL_law 1478 (.iadd) 1 1479 := dnAt dc_L_law36 16 rfl rfl
theorem d_L_law_1479 : dn cL_law 1479 (.iaload) 1 1480 := dnAt dc_L_law36 17 rfl rfl
theorem d_L_law_1480 : dn cL_law 1480 (.aload_n 0) 1 1481 := dnAt dc_L_law36 18 rfl rfl
theorem d_L_law_1481 : dn cL_law 1481 (.iload 4) 2 1483 := dnAt dc_L_law36 19 rfl rfl
theorem d_L_law_1483 : dn cL_law 1483 (.iconst 2) 1 1484 := dnAt dc_L_law36 20 rfl rfl
theorem d_L_law_1484 : dn cL_law 1484 (.iadd) 1 1485 := dnAt dc_L_law36 21 rfl rfl
theorem d_L_law_1485 : dn cL_law 1485 (.iaload) 1 1486 := dnAt dc_L_law36 22 rfl rfl
theorem d_L_law_1486 : dn cL_law 1486 (.aload_n 0) 1 1487 := dnAt dc_L_law36 23 rfl rfl
def dl_L_law37 : List (Nat × Instr × Nat) := [(1487, .iload 4, 2), (1489, .iconst 3, 1), (1490, .iadd, 1), (1491, .iaload, 1), (1492, .ifCond .eq 7, 3), (1495, .iconst 1, 1), (1496, .goto 4, 3), (1499, .iconst 0, 1), (1500, .aload_n 3, 1), (1501, .invokestatic 178, 3), (1504, .istore 5, 2), (1506, .aload_n 2, 1), (1507, .aload_n 0, 1), (1508, .iload 4, 2), (1510, .iconst 1, 1), (1511, .iadd, 1), (1512, .iaload, 1), (1513, .aload_n 0, 1), (1514, .iload 4, 2), (1516, .iconst 2, 1), (1517, .iadd, 1), (1518, .iaload, 1), (1519, .aload_n 0, 1), (1520, .iload 4, 2)]
theorem dc_L_law37 : dnL cL_law dl_L_law37 = true := by decide +kernel
theorem d_L_law_1487 : dn cL_law 1487 (.iload 4) 2 1489 := dnAt dc_L_law37 0 rfl rfl
theorem d_L_law_1489 : dn cL_law 1489 (.iconst 3) 1 1490 := dnAt dc_L_law37 1 rfl rfl
theorem d_L_law_1490 : dn cL_law 1490 (.iadd) 1 1491 := dnAt dc_L_law37 2 rfl rfl
theorem d_L_law_1491 : dn cL_law 1491 (.iaload) 1 1492 := dnAt dc_L_law37 3 rfl rfl
theorem d_L_law_1492 : dn cL_law 1492 (.ifCond .eq 7) 3 1495 := dnAt dc_L_law37 4 rfl rfl
theorem d_L_law_1495 : dn cL_law 1495 (.iconst 1) 1 1496 := dnAt dc_L_law37 5 rfl rfl
theorem d_L_law_1496 : dn cL_law 1496 (.goto 4) 3 1499 := dnAt dc_L_law37 6 rfl rfl
theorem d_L_law_1499 : dn cL_law 1499 (.iconst 0) 1 1500 := dnAt dc_L_law37 7 rfl rfl
theorem d_L_law_1500 : dn cL_law 1500 (.aload_n 3) 1 1501 := dnAt dc_L_law37 8 rfl rfl
theorem d_L_law_1501 : dn cL_law 1501 (.invokestatic 178) 3 1504 := dnAt dc_L_law37 9 rfl rfl
theorem d_L_law_1504 : dn cL_law 1504 (.istore 5) 2 1506 := dnAt dc_L_law37 10 rfl rfl
theorem d_L_law_1506 : dn cL_law 1506 (.aload_n 2) 1 1507 := dnAt dc_L_law37 11 rfl rfl
theorem d_L_law_1507 : dn cL_law 1507 (.aload_n 0) 1 1508 := dnAt dc_L_law37 12 rfl rfl
theorem d_L_law_1508 : dn cL_law 1508 (.iload 4) 2 1510 := dnAt dc_L_law37 13 rfl rfl
theorem d_L_law_1510 : dn cL_law 1510 (.iconst 1) 1 1511 := dnAt dc_L_law37 14 rfl rfl
theorem d_L_law_1511 : dn cL_law 1511 (.iadd) 1 1512 := dnAt dc_L_law37 15 rfl rfl
theorem d_L_law_1512 : dn cL_law 1512 (.iaload) 1 1513 := dnAt dc_L_law37 16 rfl rfl
theorem d_L_law_1513 : dn cL_law 1513 (.aload_n 0) 1 1514 := dnAt dc_L_law37 17 rfl rfl
theorem d_L_law_1514 : dn cL_law 1514 (.iload 4) 2 1516 := dnAt dc_L_law37 18 rfl rfl
theorem d_L_law_1516 : dn cL_law 1516 (.iconst 2) 1 1517 := dnAt dc_L_law37 19 rfl rfl
theorem d_L_law_1517 : dn cL_law 1517 (.iadd) 1 1518 := dnAt dc_L_law37 20 rfl rfl
theorem d_L_law_1518 : dn cL_law 1518 (.iaload) 1 1519 := dnAt dc_L_law37 21 rfl rfl
theorem d_L_law_1519 : dn cL_law 1519 (.aload_n 0) 1 1520 := dnAt dc_L_law37 22 rfl rfl
theorem d_L_law_1520 : dn cL_law 1520 (.iload 4) 2 1522 := dnAt dc_L_law37 23 rfl rfl
def dl_L_law38 : List (Nat × Instr × Nat) := [(1522, .iconst 3, 1), (1523, .iadd, 1), (1524, .iaload, 1), (1525, .ifCond .eq 7, 3), (1528, .iconst 1, 1), (1529, .goto 4, 3), (1532, .iconst 0, 1), (1533, .invokevirtual 180, 3), (1536, .istore 6, 2), (1538, .aload_n 2, 1), (1539, .invokevirtual 108, 3), (1542, .iload 5, 2), (1544, .if_icmp .eq 5, 3), (1547, .iconst 0, 1), (1548, .ireturn, 1), (1549, .iload 5, 2), (1551, .ifCond .ne 15, 3), (1554, .aload_n 3, 1), (1555, .iconst 0, 1), (1556, .laload, 1), (1557, .iload 6, 2), (1559, .i2l, 1), (1560, .lcmp, 1), (1561, .ifCond .eq 5, 3)]
theorem dc_L_law38 : dnL cL_law dl_L_law38 = true := by decide +kernel
theorem d_L_law_1522 : dn cL_law 1522 (.iconst 3) 1 1523 := dnAt dc_L_law38 0 rfl rfl
theorem d_L_law_1523 : dn cL_law 1523 (.iadd) 1 1524 := dnAt dc_L_law38 1 rfl rfl
theorem d_L_law_1524 : dn cL_law 1524 (.iaload) 1 1525 := dnAt dc_L_law38 2 rfl rfl
theorem d_L_law_1525 : dn cL_law 1525 (.ifCond .eq 7) 3 1528 := dnAt dc_L_law38 3 rfl rfl
theorem d_L_law_1528 : dn cL_law 1528 (.iconst 1) 1 1529 := dnAt dc_L_law38 4 rfl rfl
theorem d_L_law_1529 : dn cL_law 1529 (.goto 4) 3 1532 := dnAt dc_L_law38 5 rfl rfl
theorem d_L_law_1532 : dn cL_law 1532 (.iconst 0) 1 1533 := dnAt dc_L_law38 6 rfl rfl
theorem d_L_law_1533 : dn cL_law 1533 (.invokevirtual 180) 3 1536 := dnAt dc_L_law38 7 rfl rfl
theorem d_L_law_1536 : dn cL_law 1536 (.istore 6) 2 1538 := dnAt dc_L_law38 8 rfl rfl
theorem d_L_law_1538 : dn cL_law 1538 (.aload_n 2) 1 1539 := dnAt dc_L_law38 9 rfl rfl
theorem d_L_law_1539 : dn cL_law 1539 (.invokevirtual 108) 3 1542 := dnAt dc_L_law38 10 rfl rfl
theorem d_L_law_1542 : dn cL_law 1542 (.iload 5) 2 1544 := dnAt dc_L_law38 11 rfl rfl
theorem d_L_law_1544 : dn cL_law 1544 (.if_icmp .eq 5) 3 1547 := dnAt dc_L_law38 12 rfl rfl
theorem d_L_law_1547 : dn cL_law 1547 (.iconst 0) 1 1548 := dnAt dc_L_law38 13 rfl rfl
theorem d_L_law_1548 : dn cL_law 1548 (.ireturn) 1 1549 := dnAt dc_L_law38 14 rfl rfl
theorem d_L_law_1549 : dn cL_law 1549 (.iload 5) 2 1551 := dnAt dc_L_law38 15 rfl rfl
theorem d_L_law_1551 : dn cL_law 1551 (.ifCond .ne 15) 3 1554 := dnAt dc_L_law38 16 rfl rfl
theorem d_L_law_1554 : dn cL_law 1554 (.aload_n 3) 1 1555 := dnAt dc_L_law38 17 rfl rfl
theorem d_L_law_1555 : dn cL_law 1555 (.iconst 0) 1 1556 := dnAt dc_L_law38 18 rfl rfl
theorem d_L_law_1556 : dn cL_law 1556 (.laload) 1 1557 := dnAt dc_L_law38 19 rfl rfl
theorem d_L_law_1557 : dn cL_law 1557 (.iload 6) 2 1559 := dnAt dc_L_law38 20 rfl rfl
theorem d_L_law_1559 : dn cL_law 1559 (.i2l) 1 1560 := dnAt dc_L_law38 21 rfl rfl
theorem d_L_law_1560 : dn cL_law 1560 (.lcmp) 1 1561 := dnAt dc_L_law38 22 rfl rfl
theorem d_L_law_1561 : dn cL_law 1561 (.ifCond .eq 5) 3 1564 := dnAt dc_L_law38 23 rfl rfl
def dl_L_law39 : List (Nat × Instr × Nat) := [(1564, .iconst 0, 1), (1565, .ireturn, 1), (1566, .goto 356, 3), (1569, .aload_n 1, 1), (1570, .aload_n 0, 1), (1571, .iload 4, 2), (1573, .iconst 1, 1), (1574, .iadd, 1), (1575, .iaload, 1), (1576, .aload_n 3, 1), (1577, .invokestatic 181, 3), (1580, .istore 5, 2), (1582, .aload_n 2, 1), (1583, .aload_n 0, 1), (1584, .iload 4, 2), (1586, .iconst 1, 1), (1587, .iadd, 1), (1588, .iaload, 1), (1589, .invokevirtual 183, 3), (1592, .istore 6, 2), (1594, .aload_n 2, 1), (1595, .invokevirtual 108, 3), (1598, .iload 5, 2), (1600, .if_icmp .eq 5, 3)]
theorem dc_L_law39 : dnL cL_law dl_L_law39 = true := by decide +kernel
theorem d_L_law_1564 : dn cL_law 1564 (.iconst 0) 1 1565 := dnAt dc_L_law39 0 rfl rfl
theorem d_L_law_1565 : dn cL_law 1565 (.ireturn) 1 1566 := dnAt dc_L_law39 1 rfl rfl
theorem d_L_law_1566 : dn cL_law 1566 (.goto 356) 3 1569 := dnAt dc_L_law39 2 rfl rfl
theorem d_L_law_1569 : dn cL_law 1569 (.aload_n 1) 1 1570 := dnAt dc_L_law39 3 rfl rfl
theorem d_L_law_1570 : dn cL_law 1570 (.aload_n 0) 1 1571 := dnAt dc_L_law39 4 rfl rfl
theorem d_L_law_1571 : dn cL_law 1571 (.iload 4) 2 1573 := dnAt dc_L_law39 5 rfl rfl
theorem d_L_law_1573 : dn cL_law 1573 (.iconst 1) 1 1574 := dnAt dc_L_law39 6 rfl rfl
theorem d_L_law_1574 : dn cL_law 1574 (.iadd) 1 1575 := dnAt dc_L_law39 7 rfl rfl
theorem d_L_law_1575 : dn cL_law 1575 (.iaload) 1 1576 := dnAt dc_L_law39 8 rfl rfl
theorem d_L_law_1576 : dn cL_law 1576 (.aload_n 3) 1 1577 := dnAt dc_L_law39 9 rfl rfl
theorem d_L_law_1577 : dn cL_law 1577 (.invokestatic 181) 3 1580 := dnAt dc_L_law39 10 rfl rfl
theorem d_L_law_1580 : dn cL_law 1580 (.istore 5) 2 1582 := dnAt dc_L_law39 11 rfl rfl
theorem d_L_law_1582 : dn cL_law 1582 (.aload_n 2) 1 1583 := dnAt dc_L_law39 12 rfl rfl
theorem d_L_law_1583 : dn cL_law 1583 (.aload_n 0) 1 1584 := dnAt dc_L_law39 13 rfl rfl
theorem d_L_law_1584 : dn cL_law 1584 (.iload 4) 2 1586 := dnAt dc_L_law39 14 rfl rfl
theorem d_L_law_1586 : dn cL_law 1586 (.iconst 1) 1 1587 := dnAt dc_L_law39 15 rfl rfl
theorem d_L_law_1587 : dn cL_law 1587 (.iadd) 1 1588 := dnAt dc_L_law39 16 rfl rfl
theorem d_L_law_1588 : dn cL_law 1588 (.iaload) 1 1589 := dnAt dc_L_law39 17 rfl rfl
theorem d_L_law_1589 : dn cL_law 1589 (.invokevirtual 183) 3 1592 := dnAt dc_L_law39 18 rfl rfl
theorem d_L_law_1592 : dn cL_law 1592 (.istore 6) 2 1594 := dnAt dc_L_law39 19 rfl rfl
theorem d_L_law_1594 : dn cL_law 1594 (.aload_n 2) 1 1595 := dnAt dc_L_law39 20 rfl rfl
theorem d_L_law_1595 : dn cL_law 1595 (.invokevirtual 108) 3 1598 := dnAt dc_L_law39 21 rfl rfl
theorem d_L_law_1598 : dn cL_law 1598 (.iload 5) 2 1600 := dnAt dc_L_law39 22 rfl rfl
theorem d_L_law_1600 : dn cL_law 1600 (.if_icmp .eq 5) 3 1603 := dnAt dc_L_law39 23 rfl rfl
def dl_L_law40 : List (Nat × Instr × Nat) := [(1603, .iconst 0, 1), (1604, .ireturn, 1), (1605, .iload 5, 2), (1607, .ifCond .ne 15, 3), (1610, .aload_n 3, 1), (1611, .iconst 0, 1), (1612, .laload, 1), (1613, .iload 6, 2), (1615, .i2l, 1), (1616, .lcmp, 1), (1617, .ifCond .eq 5, 3), (1620, .iconst 0, 1), (1621, .ireturn, 1), (1622, .goto 300, 3), (1625, .aload_n 1, 1), (1626, .aload_n 0, 1), (1627, .iload 4, 2), (1629, .iconst 1, 1), (1630, .iadd, 1), (1631, .iaload, 1), (1632, .invokevirtual 184, 3), (1635, .aload_n 2, 1), (1636, .aload_n 0, 1), (1637, .iload 4, 2)]
theorem dc_L_law40 : dnL cL_law dl_L_law40 = true := by decide +kernel
theorem d_L_law_1603 : dn cL_law 1603 (.iconst 0) 1 1604 := dnAt dc_L_law40 0 rfl rfl
theorem d_L_law_1604 : dn cL_law 1604 (.ireturn) 1 1605 := dnAt dc_L_law40 1 rfl rfl
theorem d_L_law_1605 : dn cL_law 1605 (.iload 5) 2 1607 := dnAt dc_L_law40 2 rfl rfl
theorem d_L_law_1607 : dn cL_law 1607 (.ifCond .ne 15) 3 1610 := dnAt dc_L_law40 3 rfl rfl
theorem d_L_law_1610 : dn cL_law 1610 (.aload_n 3) 1 1611 := dnAt dc_L_law40 4 rfl rfl
theorem d_L_law_1611 : dn cL_law 1611 (.iconst 0) 1 1612 := dnAt dc_L_law40 5 rfl rfl
theorem d_L_law_1612 : dn cL_law 1612 (.laload) 1 1613 := dnAt dc_L_law40 6 rfl rfl
theorem d_L_law_1613 : dn cL_law 1613 (.iload 6) 2 1615 := dnAt dc_L_law40 7 rfl rfl
theorem d_L_law_1615 : dn cL_law 1615 (.i2l) 1 1616 := dnAt dc_L_law40 8 rfl rfl
theorem d_L_law_1616 : dn cL_law 1616 (.lcmp) 1 1617 := dnAt dc_L_law40 9 rfl rfl
theorem d_L_law_1617 : dn cL_law 1617 (.ifCond .eq 5) 3 1620 := dnAt dc_L_law40 10 rfl rfl
theorem d_L_law_1620 : dn cL_law 1620 (.iconst 0) 1 1621 := dnAt dc_L_law40 11 rfl rfl
theorem d_L_law_1621 : dn cL_law 1621 (.ireturn) 1 1622 := dnAt dc_L_law40 12 rfl rfl
theorem d_L_law_1622 : dn cL_law 1622 (.goto 300) 3 1625 := dnAt dc_L_law40 13 rfl rfl
theorem d_L_law_1625 : dn cL_law 1625 (.aload_n 1) 1 1626 := dnAt dc_L_law40 14 rfl rfl
theorem d_L_law_1626 : dn cL_law 1626 (.aload_n 0) 1 1627 := dnAt dc_L_law40 15 rfl rfl
theorem d_L_law_1627 : dn cL_law 1627 (.iload 4) 2 1629 := dnAt dc_L_law40 16 rfl rfl
theorem d_L_law_1629 : dn cL_law 1629 (.iconst 1) 1 1630 := dnAt dc_L_law40 17 rfl rfl
theorem d_L_law_1630 : dn cL_law 1630 (.iadd) 1 1631 := dnAt dc_L_law40 18 rfl rfl
theorem d_L_law_1631 : dn cL_law 1631 (.iaload) 1 1632 := dnAt dc_L_law40 19 rfl rfl
theorem d_L_law_1632 : dn cL_law 1632 (.invokevirtual 184) 3 1635 := dnAt dc_L_law40 20 rfl rfl
theorem d_L_law_1635 : dn cL_law 1635 (.aload_n 2) 1 1636 := dnAt dc_L_law40 21 rfl rfl
theorem d_L_law_1636 : dn cL_law 1636 (.aload_n 0) 1 1637 := dnAt dc_L_law40 22 rfl rfl
theorem d_L_law_1637 : dn cL_law 1637 (.iload 4) 2 1639 := dnAt dc_L_law40 23 rfl rfl
def dl_L_law41 : List (Nat × Instr × Nat) := [(1639, .iconst 1, 1), (1640, .iadd, 1), (1641, .iaload, 1), (1642, .invokevirtual 187, 3), (1645, .if_icmp .eq 277, 3), (1648, .iconst 0, 1), (1649, .ireturn, 1), (1650, .aload_n 1, 1), (1651, .aload_n 0, 1), (1652, .iload 4, 2), (1654, .iconst 1, 1), (1655, .iadd, 1), (1656, .iaload, 1), (1657, .aload_n 0, 1), (1658, .iload 4, 2), (1660, .iconst 2, 1), (1661, .iadd, 1), (1662, .iaload, 1), (1663, .aload_n 3, 1), (1664, .invokestatic 188, 3), (1667, .istore 5, 2), (1669, .aload_n 2, 1), (1670, .aload_n 0, 1), (1671, .iload 4, 2)]
theorem dc_L_law41 : dnL cL_law dl_L_law41 = true := by decide +kernel
theorem d_L_law_1639 : dn cL_law 1639 (.iconst 1) 1 1640 := dnAt dc_L_law41 0 rfl rfl
theorem d_L_law_1640 : dn cL_law 1640 (.iadd) 1 1641 := dnAt dc_L_law41 1 rfl rfl
theorem d_L_law_1641 : dn cL_law 1641 (.iaload) 1 1642 := dnAt dc_L_law41 2 rfl rfl
theorem d_L_law_1642 : dn cL_law 1642 (.invokevirtual 187) 3 1645 := dnAt dc_L_law41 3 rfl rfl
theorem d_L_law_1645 : dn cL_law 1645 (.if_icmp .eq 277) 3 1648 := dnAt dc_L_law41 4 rfl rfl
theorem d_L_law_1648 : dn cL_law 1648 (.iconst 0) 1 1649 := dnAt dc_L_law41 5 rfl rfl
theorem d_L_law_1649 : dn cL_law 1649 (.ireturn) 1 1650 := dnAt dc_L_law41 6 rfl rfl
theorem d_L_law_1650 : dn cL_law 1650 (.aload_n 1) 1 1651 := dnAt dc_L_law41 7 rfl rfl
theorem d_L_law_1651 : dn cL_law 1651 (.aload_n 0) 1 1652 := dnAt dc_L_law41 8 rfl rfl
theorem d_L_law_1652 : dn cL_law 1652 (.iload 4) 2 1654 := dnAt dc_L_law41 9 rfl rfl
theorem d_L_law_1654 : dn cL_law 1654 (.iconst 1) 1 1655 := dnAt dc_L_law41 10 rfl rfl
theorem d_L_law_1655 : dn cL_law 1655 (.iadd) 1 1656 := dnAt dc_L_law41 11 rfl rfl
theorem d_L_law_1656 : dn cL_law 1656 (.iaload) 1 1657 := dnAt dc_L_law41 12 rfl rfl
theorem d_L_law_1657 : dn cL_law 1657 (.aload_n 0) 1 1658 := dnAt dc_L_law41 13 rfl rfl
theorem d_L_law_1658 : dn cL_law 1658 (.iload 4) 2 1660 := dnAt dc_L_law41 14 rfl rfl
theorem d_L_law_1660 : dn cL_law 1660 (.iconst 2) 1 1661 := dnAt dc_L_law41 15 rfl rfl
theorem d_L_law_1661 : dn cL_law 1661 (.iadd) 1 1662 := dnAt dc_L_law41 16 rfl rfl
theorem d_L_law_1662 : dn cL_law 1662 (.iaload) 1 1663 := dnAt dc_L_law41 17 rfl rfl
theorem d_L_law_1663 : dn cL_law 1663 (.aload_n 3) 1 1664 := dnAt dc_L_law41 18 rfl rfl
theorem d_L_law_1664 : dn cL_law 1664 (.invokestatic 188) 3 1667 := dnAt dc_L_law41 19 rfl rfl
theorem d_L_law_1667 : dn cL_law 1667 (.istore 5) 2 1669 := dnAt dc_L_law41 20 rfl rfl
theorem d_L_law_1669 : dn cL_law 1669 (.aload_n 2) 1 1670 := dnAt dc_L_law41 21 rfl rfl
theorem d_L_law_1670 : dn cL_law 1670 (.aload_n 0) 1 1671 := dnAt dc_L_law41 22 rfl rfl
theorem d_L_law_1671 : dn cL_law 1671 (.iload 4) 2 1673 := dnAt dc_L_law41 23 rfl rfl
def dl_L_law42 : List (Nat × Instr × Nat) := [(1673, .iconst 1, 1), (1674, .iadd, 1), (1675, .iaload, 1), (1676, .aload_n 0, 1), (1677, .iload 4, 2), (1679, .iconst 2, 1), (1680, .iadd, 1), (1681, .iaload, 1), (1682, .invokevirtual 190, 3), (1685, .istore 6, 2), (1687, .aload_n 2, 1), (1688, .invokevirtual 108, 3), (1691, .iload 5, 2), (1693, .if_icmp .eq 5, 3), (1696, .iconst 0, 1), (1697, .ireturn, 1), (1698, .iload 5, 2), (1700, .ifCond .ne 15, 3), (1703, .aload_n 3, 1), (1704, .iconst 0, 1), (1705, .laload, 1), (1706, .iload 6, 2), (1708, .i2l, 1), (1709, .lcmp, 1)]
theorem dc_L_law42 : dnL cL_law dl_L_law42 = true := by decide +kernel
theorem d_L_law_1673 : dn cL_law 1673 (.iconst 1) 1 1674 := dnAt dc_L_law42 0 rfl rfl
theorem d_L_law_1674 : dn cL_law 1674 (.iadd) 1 1675 := dnAt dc_L_law42 1 rfl rfl
theorem d_L_law_1675 : dn cL_law 1675 (.iaload) 1 1676 := dnAt dc_L_law42 2 rfl rfl
theorem d_L_law_1676 : dn cL_law 1676 (.aload_n 0) 1 1677 := dnAt dc_L_law42 3 rfl rfl
theorem d_L_law_1677 : dn cL_law 1677 (.iload 4) 2 1679 := dnAt dc_L_law42 4 rfl rfl
theorem d_L_law_1679 : dn cL_law 1679 (.iconst 2) 1 1680 := dnAt dc_L_law42 5 rfl rfl
theorem d_L_law_1680 : dn cL_law 1680 (.iadd) 1 1681 := dnAt dc_L_law42 6 rfl rfl
theorem d_L_law_1681 : dn cL_law 1681 (.iaload) 1 1682 := dnAt dc_L_law42 7 rfl rfl
theorem d_L_law_1682 : dn cL_law 1682 (.invokevirtual 190) 3 1685 := dnAt dc_L_law42 8 rfl rfl
theorem d_L_law_1685 : dn cL_law 1685 (.istore 6) 2 1687 := dnAt dc_L_law42 9 rfl rfl
theorem d_L_law_1687 : dn cL_law 1687 (.aload_n 2) 1 1688 := dnAt dc_L_law42 10 rfl rfl
theorem d_L_law_1688 : dn cL_law 1688 (.invokevirtual 108) 3 1691 := dnAt dc_L_law42 11 rfl rfl
theorem d_L_law_1691 : dn cL_law 1691 (.iload 5) 2 1693 := dnAt dc_L_law42 12 rfl rfl
theorem d_L_law_1693 : dn cL_law 1693 (.if_icmp .eq 5) 3 1696 := dnAt dc_L_law42 13 rfl rfl
theorem d_L_law_1696 : dn cL_law 1696 (.iconst 0) 1 1697 := dnAt dc_L_law42 14 rfl rfl
theorem d_L_law_1697 : dn cL_law 1697 (.ireturn) 1 1698 := dnAt dc_L_law42 15 rfl rfl
theorem d_L_law_1698 : dn cL_law 1698 (.iload 5) 2 1700 := dnAt dc_L_law42 16 rfl rfl
theorem d_L_law_1700 : dn cL_law 1700 (.ifCond .ne 15) 3 1703 := dnAt dc_L_law42 17 rfl rfl
theorem d_L_law_1703 : dn cL_law 1703 (.aload_n 3) 1 1704 := dnAt dc_L_law42 18 rfl rfl
theorem d_L_law_1704 : dn cL_law 1704 (.iconst 0) 1 1705 := dnAt dc_L_law42 19 rfl rfl
theorem d_L_law_1705 : dn cL_law 1705 (.laload) 1 1706 := dnAt dc_L_law42 20 rfl rfl
theorem d_L_law_1706 : dn cL_law 1706 (.iload 6) 2 1708 := dnAt dc_L_law42 21 rfl rfl
theorem d_L_law_1708 : dn cL_law 1708 (.i2l) 1 1709 := dnAt dc_L_law42 22 rfl rfl
theorem d_L_law_1709 : dn cL_law 1709 (.lcmp) 1 1710 := dnAt dc_L_law42 23 rfl rfl
def dl_L_law43 : List (Nat × Instr × Nat) := [(1710, .ifCond .eq 5, 3), (1713, .iconst 0, 1), (1714, .ireturn, 1), (1715, .goto 207, 3), (1718, .aload_n 1, 1), (1719, .aload_n 0, 1), (1720, .iload 4, 2), (1722, .iconst 1, 1), (1723, .iadd, 1), (1724, .iaload, 1), (1725, .aload_n 0, 1), (1726, .iload 4, 2), (1728, .iconst 2, 1), (1729, .iadd, 1), (1730, .iaload, 1), (1731, .aload_n 0, 1), (1732, .iload 4, 2), (1734, .iconst 3, 1), (1735, .iadd, 1), (1736, .iaload, 1), (1737, .ifCond .eq 7, 3), (1740, .iconst 1, 1), (1741, .goto 4, 3), (1744, .iconst 0, 1)]
theorem dc_L_law43 : dnL cL_law dl_L_law43 = true := by decide +kernel
theorem d_L_law_1710 : dn cL_law 1710 (.ifCond .eq 5) 3 1713 := dnAt dc_L_law43 0 rfl rfl
theorem d_L_law_1713 : dn cL_law 1713 (.iconst 0) 1 1714 := dnAt dc_L_law43 1 rfl rfl
theorem d_L_law_1714 : dn cL_law 1714 (.ireturn) 1 1715 := dnAt dc_L_law43 2 rfl rfl
theorem d_L_law_1715 : dn cL_law 1715 (.goto 207) 3 1718 := dnAt dc_L_law43 3 rfl rfl
theorem d_L_law_1718 : dn cL_law 1718 (.aload_n 1) 1 1719 := dnAt dc_L_law43 4 rfl rfl
theorem d_L_law_1719 : dn cL_law 1719 (.aload_n 0) 1 1720 := dnAt dc_L_law43 5 rfl rfl
theorem d_L_law_1720 : dn cL_law 1720 (.iload 4) 2 1722 := dnAt dc_L_law43 6 rfl rfl
theorem d_L_law_1722 : dn cL_law 1722 (.iconst 1) 1 1723 := dnAt dc_L_law43 7 rfl rfl
theorem d_L_law_1723 : dn cL_law 1723 (.iadd) 1 1724 := dnAt dc_L_law43 8 rfl rfl
theorem d_L_law_1724 : dn cL_law 1724 (.iaload) 1 1725 := dnAt dc_L_law43 9 rfl rfl
theorem d_L_law_1725 : dn cL_law 1725 (.aload_n 0) 1 1726 := dnAt dc_L_law43 10 rfl rfl
theorem d_L_law_1726 : dn cL_law 1726 (.iload 4) 2 1728 := dnAt dc_L_law43 11 rfl rfl
theorem d_L_law_1728 : dn cL_law 1728 (.iconst 2) 1 1729 := dnAt dc_L_law43 12 rfl rfl
theorem d_L_law_1729 : dn cL_law 1729 (.iadd) 1 1730 := dnAt dc_L_law43 13 rfl rfl
theorem d_L_law_1730 : dn cL_law 1730 (.iaload) 1 1731 := dnAt dc_L_law43 14 rfl rfl
theorem d_L_law_1731 : dn cL_law 1731 (.aload_n 0) 1 1732 := dnAt dc_L_law43 15 rfl rfl
theorem d_L_law_1732 : dn cL_law 1732 (.iload 4) 2 1734 := dnAt dc_L_law43 16 rfl rfl
theorem d_L_law_1734 : dn cL_law 1734 (.iconst 3) 1 1735 := dnAt dc_L_law43 17 rfl rfl
theorem d_L_law_1735 : dn cL_law 1735 (.iadd) 1 1736 := dnAt dc_L_law43 18 rfl rfl
theorem d_L_law_1736 : dn cL_law 1736 (.iaload) 1 1737 := dnAt dc_L_law43 19 rfl rfl
theorem d_L_law_1737 : dn cL_law 1737 (.ifCond .eq 7) 3 1740 := dnAt dc_L_law43 20 rfl rfl
theorem d_L_law_1740 : dn cL_law 1740 (.iconst 1) 1 1741 := dnAt dc_L_law43 21 rfl rfl
theorem d_L_law_1741 : dn cL_law 1741 (.goto 4) 3 1744 := dnAt dc_L_law43 22 rfl rfl
theorem d_L_law_1744 : dn cL_law 1744 (.iconst 0) 1 1745 := dnAt dc_L_law43 23 rfl rfl
def dl_L_law44 : List (Nat × Instr × Nat) := [(1745, .aload_n 3, 1), (1746, .invokestatic 191, 3), (1749, .istore 5, 2), (1751, .aload_n 2, 1), (1752, .aload_n 0, 1), (1753, .iload 4, 2), (1755, .iconst 1, 1), (1756, .iadd, 1), (1757, .iaload, 1), (1758, .aload_n 0, 1), (1759, .iload 4, 2), (1761, .iconst 2, 1), (1762, .iadd, 1), (1763, .iaload, 1), (1764, .aload_n 0, 1), (1765, .iload 4, 2), (1767, .iconst 3, 1), (1768, .iadd, 1), (1769, .iaload, 1), (1770, .ifCond .eq 7, 3), (1773, .iconst 1, 1), (1774, .goto 4, 3), (1777, .iconst 0, 1), (1778, .invokevirtual 193, 3)]
theorem dc_L_law44 : dnL cL_law dl_L_law44 = true := by decide +kernel
theorem d_L_law_1745 : dn cL_law 1745 (.aload_n 3) 1 1746 := dnAt dc_L_law44 0 rfl rfl
theorem d_L_law_1746 : dn cL_law 1746 (.invokestatic 191) 3 1749 := dnAt dc_L_law44 1 rfl rfl
theorem d_L_law_1749 : dn cL_law 1749 (.istore 5) 2 1751 := dnAt dc_L_law44 2 rfl rfl
theorem d_L_law_1751 : dn cL_law 1751 (.aload_n 2) 1 1752 := dnAt dc_L_law44 3 rfl rfl
theorem d_L_law_1752 : dn cL_law 1752 (.aload_n 0) 1 1753 := dnAt dc_L_law44 4 rfl rfl
theorem d_L_law_1753 : dn cL_law 1753 (.iload 4) 2 1755 := dnAt dc_L_law44 5 rfl rfl
theorem d_L_law_1755 : dn cL_law 1755 (.iconst 1) 1 1756 := dnAt dc_L_law44 6 rfl rfl
theorem d_L_law_1756 : dn cL_law 1756 (.iadd) 1 1757 := dnAt dc_L_law44 7 rfl rfl
theorem d_L_law_1757 : dn cL_law 1757 (.iaload) 1 1758 := dnAt dc_L_law44 8 rfl rfl
theorem d_L_law_1758 : dn cL_law 1758 (.aload_n 0) 1 1759 := dnAt dc_L_law44 9 rfl rfl
theorem d_L_law_1759 : dn cL_law 1759 (.iload 4) 2 1761 := dnAt dc_L_law44 10 rfl rfl
theorem d_L_law_1761 : dn cL_law 1761 (.iconst 2) 1 1762 := dnAt dc_L_law44 11 rfl rfl
theorem d_L_law_1762 : dn cL_law 1762 (.iadd) 1 1763 := dnAt dc_L_law44 12 rfl rfl
theorem d_L_law_1763 : dn cL_law 1763 (.iaload) 1 1764 := dnAt dc_L_law44 13 rfl rfl
theorem d_L_law_1764 : dn cL_law 1764 (.aload_n 0) 1 1765 := dnAt dc_L_law44 14 rfl rfl
theorem d_L_law_1765 : dn cL_law 1765 (.iload 4) 2 1767 := dnAt dc_L_law44 15 rfl rfl
theorem d_L_law_1767 : dn cL_law 1767 (.iconst 3) 1 1768 := dnAt dc_L_law44 16 rfl rfl
theorem d_L_law_1768 : dn cL_law 1768 (.iadd) 1 1769 := dnAt dc_L_law44 17 rfl rfl
theorem d_L_law_1769 : dn cL_law 1769 (.iaload) 1 1770 := dnAt dc_L_law44 18 rfl rfl
theorem d_L_law_1770 : dn cL_law 1770 (.ifCond .eq 7) 3 1773 := dnAt dc_L_law44 19 rfl rfl
theorem d_L_law_1773 : dn cL_law 1773 (.iconst 1) 1 1774 := dnAt dc_L_law44 20 rfl rfl
theorem d_L_law_1774 : dn cL_law 1774 (.goto 4) 3 1777 := dnAt dc_L_law44 21 rfl rfl
theorem d_L_law_1777 : dn cL_law 1777 (.iconst 0) 1 1778 := dnAt dc_L_law44 22 rfl rfl
theorem d_L_law_1778 : dn cL_law 1778 (.invokevirtual 193) 3 1781 := dnAt dc_L_law44 23 rfl rfl
def dl_L_law45 : List (Nat × Instr × Nat) := [(1781, .istore 6, 2), (1783, .aload_n 2, 1), (1784, .invokevirtual 108, 3), (1787, .iload 5, 2), (1789, .if_icmp .eq 5, 3), (1792, .iconst 0, 1), (1793, .ireturn, 1), (1794, .iload 5, 2), (1796, .ifCond .ne 15, 3), (1799, .aload_n 3, 1), (1800, .iconst 0, 1), (1801, .laload, 1), (1802, .iload 6, 2), (1804, .i2l, 1), (1805, .lcmp, 1), (1806, .ifCond .eq 5, 3), (1809, .iconst 0, 1), (1810, .ireturn, 1), (1811, .goto 111, 3), (1814, .aload_n 1, 1), (1815, .aload_n 0, 1), (1816, .iload 4, 2), (1818, .iconst 1, 1), (1819, .iadd, 1)]
theorem dc_L_law45 : dnL cL_law dl_L_law45 = true := by decide +kernel
theorem d_L_law_1781 : dn cL_law 1781 (.istore 6) 2 1783 := dnAt dc_L_law45 0 rfl rfl
theorem d_L_law_1783 : dn cL_law 1783 (.aload_n 2) 1 1784 := dnAt dc_L_law45 1 rfl rfl
theorem d_L_law_1784 : dn cL_law 1784 (.invokevirtual 108) 3 1787 := dnAt dc_L_law45 2 rfl rfl
theorem d_L_law_1787 : dn cL_law 1787 (.iload 5) 2 1789 := dnAt dc_L_law45 3 rfl rfl
theorem d_L_law_1789 : dn cL_law 1789 (.if_icmp .eq 5) 3 1792 := dnAt dc_L_law45 4 rfl rfl
theorem d_L_law_1792 : dn cL_law 1792 (.iconst 0) 1 1793 := dnAt dc_L_law45 5 rfl rfl
theorem d_L_law_1793 : dn cL_law 1793 (.ireturn) 1 1794 := dnAt dc_L_law45 6 rfl rfl
theorem d_L_law_1794 : dn cL_law 1794 (.iload 5) 2 1796 := dnAt dc_L_law45 7 rfl rfl
theorem d_L_law_1796 : dn cL_law 1796 (.ifCond .ne 15) 3 1799 := dnAt dc_L_law45 8 rfl rfl
theorem d_L_law_1799 : dn cL_law 1799 (.aload_n 3) 1 1800 := dnAt dc_L_law45 9 rfl rfl
theorem d_L_law_1800 : dn cL_law 1800 (.iconst 0) 1 1801 := dnAt dc_L_law45 10 rfl rfl
theorem d_L_law_1801 : dn cL_law 1801 (.laload) 1 1802 := dnAt dc_L_law45 11 rfl rfl
theorem d_L_law_1802 : dn cL_law 1802 (.iload 6) 2 1804 := dnAt dc_L_law45 12 rfl rfl
theorem d_L_law_1804 : dn cL_law 1804 (.i2l) 1 1805 := dnAt dc_L_law45 13 rfl rfl
theorem d_L_law_1805 : dn cL_law 1805 (.lcmp) 1 1806 := dnAt dc_L_law45 14 rfl rfl
theorem d_L_law_1806 : dn cL_law 1806 (.ifCond .eq 5) 3 1809 := dnAt dc_L_law45 15 rfl rfl
theorem d_L_law_1809 : dn cL_law 1809 (.iconst 0) 1 1810 := dnAt dc_L_law45 16 rfl rfl
theorem d_L_law_1810 : dn cL_law 1810 (.ireturn) 1 1811 := dnAt dc_L_law45 17 rfl rfl
theorem d_L_law_1811 : dn cL_law 1811 (.goto 111) 3 1814 := dnAt dc_L_law45 18 rfl rfl
theorem d_L_law_1814 : dn cL_law 1814 (.aload_n 1) 1 1815 := dnAt dc_L_law45 19 rfl rfl
theorem d_L_law_1815 : dn cL_law 1815 (.aload_n 0) 1 1816 := dnAt dc_L_law45 20 rfl rfl
theorem d_L_law_1816 : dn cL_law 1816 (.iload 4) 2 1818 := dnAt dc_L_law45 21 rfl rfl
theorem d_L_law_1818 : dn cL_law 1818 (.iconst 1) 1 1819 := dnAt dc_L_law45 22 rfl rfl
theorem d_L_law_1819 : dn cL_law 1819 (.iadd) 1 1820 := dnAt dc_L_law45 23 rfl rfl
def dl_L_law46 : List (Nat × Instr × Nat) := [(1820, .iaload, 1), (1821, .aload_n 0, 1), (1822, .iload 4, 2), (1824, .iconst 2, 1), (1825, .iadd, 1), (1826, .iaload, 1), (1827, .aload_n 0, 1), (1828, .iload 4, 2), (1830, .iconst 3, 1), (1831, .iadd, 1), (1832, .iaload, 1), (1833, .ifCond .eq 7, 3), (1836, .iconst 1, 1), (1837, .goto 4, 3), (1840, .iconst 0, 1), (1841, .aload_n 0, 1), (1842, .iload 4, 2), (1844, .iconst 4, 1), (1845, .iadd, 1), (1846, .iaload, 1), (1847, .aload_n 3, 1), (1848, .invokestatic 194, 3), (1851, .istore 5, 2), (1853, .aload_n 2, 1)]
theorem dc_L_law46 : dnL cL_law dl_L_law46 = true := by decide +kernel
theorem d_L_law_1820 : dn cL_law 1820 (.iaload) 1 1821 := dnAt dc_L_law46 0 rfl rfl
theorem d_L_law_1821 : dn cL_law 1821 (.aload_n 0) 1 1822 := dnAt dc_L_law46 1 rfl rfl
theorem d_L_law_1822 : dn cL_law 1822 (.iload 4) 2 1824 := dnAt dc_L_law46 2 rfl rfl
theorem d_L_law_1824 : dn cL_law 1824 (.iconst 2) 1 1825 := dnAt dc_L_law46 3 rfl rfl
theorem d_L_law_1825 : dn cL_law 1825 (.iadd) 1 1826 := dnAt dc_L_law46 4 rfl rfl
theorem d_L_law_1826 : dn cL_law 1826 (.iaload) 1 1827 := dnAt dc_L_law46 5 rfl rfl
theorem d_L_law_1827 : dn cL_law 1827 (.aload_n 0) 1 1828 := dnAt dc_L_law46 6 rfl rfl
theorem d_L_law_1828 : dn cL_law 1828 (.iload 4) 2 1830 := dnAt dc_L_law46 7 rfl rfl
theorem d_L_law_1830 : dn cL_law 1830 (.iconst 3) 1 1831 := dnAt dc_L_law46 8 rfl rfl
theorem d_L_law_1831 : dn cL_law 1831 (.iadd) 1 1832 := dnAt dc_L_law46 9 rfl rfl
theorem d_L_law_1832 : dn cL_law 1832 (.iaload) 1 1833 := dnAt dc_L_law46 10 rfl rfl
theorem d_L_law_1833 : dn cL_law 1833 (.ifCond .eq 7) 3 1836 := dnAt dc_L_law46 11 rfl rfl
theorem d_L_law_1836 : dn cL_law 1836 (.iconst 1) 1 1837 := dnAt dc_L_law46 12 rfl rfl
theorem d_L_law_1837 : dn cL_law 1837 (.goto 4) 3 1840 := dnAt dc_L_law46 13 rfl rfl
theorem d_L_law_1840 : dn cL_law 1840 (.iconst 0) 1 1841 := dnAt dc_L_law46 14 rfl rfl
theorem d_L_law_1841 : dn cL_law 1841 (.aload_n 0) 1 1842 := dnAt dc_L_law46 15 rfl rfl
theorem d_L_law_1842 : dn cL_law 1842 (.iload 4) 2 1844 := dnAt dc_L_law46 16 rfl rfl
theorem d_L_law_1844 : dn cL_law 1844 (.iconst 4) 1 1845 := dnAt dc_L_law46 17 rfl rfl
theorem d_L_law_1845 : dn cL_law 1845 (.iadd) 1 1846 := dnAt dc_L_law46 18 rfl rfl
theorem d_L_law_1846 : dn cL_law 1846 (.iaload) 1 1847 := dnAt dc_L_law46 19 rfl rfl
theorem d_L_law_1847 : dn cL_law 1847 (.aload_n 3) 1 1848 := dnAt dc_L_law46 20 rfl rfl
theorem d_L_law_1848 : dn cL_law 1848 (.invokestatic 194) 3 1851 := dnAt dc_L_law46 21 rfl rfl
theorem d_L_law_1851 : dn cL_law 1851 (.istore 5) 2 1853 := dnAt dc_L_law46 22 rfl rfl
theorem d_L_law_1853 : dn cL_law 1853 (.aload_n 2) 1 1854 := dnAt dc_L_law46 23 rfl rfl
def dl_L_law47 : List (Nat × Instr × Nat) := [(1854, .aload_n 0, 1), (1855, .iload 4, 2), (1857, .iconst 1, 1), (1858, .iadd, 1), (1859, .iaload, 1), (1860, .aload_n 0, 1), (1861, .iload 4, 2), (1863, .iconst 2, 1), (1864, .iadd, 1), (1865, .iaload, 1), (1866, .aload_n 0, 1), (1867, .iload 4, 2), (1869, .iconst 3, 1), (1870, .iadd, 1), (1871, .iaload, 1), (1872, .ifCond .eq 7, 3), (1875, .iconst 1, 1), (1876, .goto 4, 3), (1879, .iconst 0, 1), (1880, .aload_n 0, 1), (1881, .iload 4, 2), (1883, .iconst 4, 1), (1884, .iadd, 1), (1885, .iaload, 1)]
theorem dc_L_law47 : dnL cL_law dl_L_law47 = true := by decide +kernel
theorem d_L_law_1854 : dn cL_law 1854 (.aload_n 0) 1 1855 := dnAt dc_L_law47 0 rfl rfl
theorem d_L_law_1855 : dn cL_law 1855 (.iload 4) 2 1857 := dnAt dc_L_law47 1 rfl rfl
theorem d_L_law_1857 : dn cL_law 1857 (.iconst 1) 1 1858 := dnAt dc_L_law47 2 rfl rfl
theorem d_L_law_1858 : dn cL_law 1858 (.iadd) 1 1859 := dnAt dc_L_law47 3 rfl rfl
theorem d_L_law_1859 : dn cL_law 1859 (.iaload) 1 1860 := dnAt dc_L_law47 4 rfl rfl
theorem d_L_law_1860 : dn cL_law 1860 (.aload_n 0) 1 1861 := dnAt dc_L_law47 5 rfl rfl
theorem d_L_law_1861 : dn cL_law 1861 (.iload 4) 2 1863 := dnAt dc_L_law47 6 rfl rfl
theorem d_L_law_1863 : dn cL_law 1863 (.iconst 2) 1 1864 := dnAt dc_L_law47 7 rfl rfl
theorem d_L_law_1864 : dn cL_law 1864 (.iadd) 1 1865 := dnAt dc_L_law47 8 rfl rfl
theorem d_L_law_1865 : dn cL_law 1865 (.iaload) 1 1866 := dnAt dc_L_law47 9 rfl rfl
theorem d_L_law_1866 : dn cL_law 1866 (.aload_n 0) 1 1867 := dnAt dc_L_law47 10 rfl rfl
theorem d_L_law_1867 : dn cL_law 1867 (.iload 4) 2 1869 := dnAt dc_L_law47 11 rfl rfl
theorem d_L_law_1869 : dn cL_law 1869 (.iconst 3) 1 1870 := dnAt dc_L_law47 12 rfl rfl
theorem d_L_law_1870 : dn cL_law 1870 (.iadd) 1 1871 := dnAt dc_L_law47 13 rfl rfl
theorem d_L_law_1871 : dn cL_law 1871 (.iaload) 1 1872 := dnAt dc_L_law47 14 rfl rfl
theorem d_L_law_1872 : dn cL_law 1872 (.ifCond .eq 7) 3 1875 := dnAt dc_L_law47 15 rfl rfl
theorem d_L_law_1875 : dn cL_law 1875 (.iconst 1) 1 1876 := dnAt dc_L_law47 16 rfl rfl
theorem d_L_law_1876 : dn cL_law 1876 (.goto 4) 3 1879 := dnAt dc_L_law47 17 rfl rfl
theorem d_L_law_1879 : dn cL_law 1879 (.iconst 0) 1 1880 := dnAt dc_L_law47 18 rfl rfl
theorem d_L_law_1880 : dn cL_law 1880 (.aload_n 0) 1 1881 := dnAt dc_L_law47 19 rfl rfl
theorem d_L_law_1881 : dn cL_law 1881 (.iload 4) 2 1883 := dnAt dc_L_law47 20 rfl rfl
theorem d_L_law_1883 : dn cL_law 1883 (.iconst 4) 1 1884 := dnAt dc_L_law47 21 rfl rfl
theorem d_L_law_1884 : dn cL_law 1884 (.iadd) 1 1885 := dnAt dc_L_law47 22 rfl rfl
theorem d_L_law_1885 : dn cL_law 1885 (.iaload) 1 1886 := dnAt dc_L_law47 23 rfl rfl
def dl_L_law48 : List (Nat × Instr × Nat) := [(1886, .invokevirtual 197, 3), (1889, .istore 6, 2), (1891, .aload_n 2, 1), (1892, .invokevirtual 108, 3), (1895, .iload 5, 2), (1897, .if_icmp .eq 5, 3), (1900, .iconst 0, 1), (1901, .ireturn, 1), (1902, .iload 5, 2), (1904, .ifCond .ne 15, 3), (1907, .aload_n 3, 1), (1908, .iconst 0, 1), (1909, .laload, 1), (1910, .iload 6, 2), (1912, .i2l, 1), (1913, .lcmp, 1), (1914, .ifCond .eq 5, 3), (1917, .iconst 0, 1), (1918, .ireturn, 1), (1919, .goto 3, 3), (1922, .iinc 4 6, 3), (1925, .goto (-1902), 3), (1928, .iconst 1, 1), (1929, .ireturn, 1)]
theorem dc_L_law48 : dnL cL_law dl_L_law48 = true := by decide +kernel
theorem d_L_law_1886 : dn cL_law 1886 (.invokevirtual 197) 3 1889 := dnAt dc_L_law48 0 rfl rfl
theorem d_L_law_1889 : dn cL_law 1889 (.istore 6) 2 1891 := dnAt dc_L_law48 1 rfl rfl
theorem d_L_law_1891 : dn cL_law 1891 (.aload_n 2) 1 1892 := dnAt dc_L_law48 2 rfl rfl
theorem d_L_law_1892 : dn cL_law 1892 (.invokevirtual 108) 3 1895 := dnAt dc_L_law48 3 rfl rfl
theorem d_L_law_1895 : dn cL_law 1895 (.iload 5) 2 1897 := dnAt dc_L_law48 4 rfl rfl
theorem d_L_law_1897 : dn cL_law 1897 (.if_icmp .eq 5) 3 1900 := dnAt dc_L_law48 5 rfl rfl
theorem d_L_law_1900 : dn cL_law 1900 (.iconst 0) 1 1901 := dnAt dc_L_law48 6 rfl rfl
theorem d_L_law_1901 : dn cL_law 1901 (.ireturn) 1 1902 := dnAt dc_L_law48 7 rfl rfl
theorem d_L_law_1902 : dn cL_law 1902 (.iload 5) 2 1904 := dnAt dc_L_law48 8 rfl rfl
theorem d_L_law_1904 : dn cL_law 1904 (.ifCond .ne 15) 3 1907 := dnAt dc_L_law48 9 rfl rfl
theorem d_L_law_1907 : dn cL_law 1907 (.aload_n 3) 1 1908 := dnAt dc_L_law48 10 rfl rfl
theorem d_L_law_1908 : dn cL_law 1908 (.iconst 0) 1 1909 := dnAt dc_L_law48 11 rfl rfl
theorem d_L_law_1909 : dn cL_law 1909 (.laload) 1 1910 := dnAt dc_L_law48 12 rfl rfl
theorem d_L_law_1910 : dn cL_law 1910 (.iload 6) 2 1912 := dnAt dc_L_law48 13 rfl rfl
theorem d_L_law_1912 : dn cL_law 1912 (.i2l) 1 1913 := dnAt dc_L_law48 14 rfl rfl
theorem d_L_law_1913 : dn cL_law 1913 (.lcmp) 1 1914 := dnAt dc_L_law48 15 rfl rfl
theorem d_L_law_1914 : dn cL_law 1914 (.ifCond .eq 5) 3 1917 := dnAt dc_L_law48 16 rfl rfl
theorem d_L_law_1917 : dn cL_law 1917 (.iconst 0) 1 1918 := dnAt dc_L_law48 17 rfl rfl
theorem d_L_law_1918 : dn cL_law 1918 (.ireturn) 1 1919 := dnAt dc_L_law48 18 rfl rfl
theorem d_L_law_1919 : dn cL_law 1919 (.goto 3) 3 1922 := dnAt dc_L_law48 19 rfl rfl
theorem d_L_law_1922 : dn cL_law 1922 (.iinc 4 6) 3 1925 := dnAt dc_L_law48 20 rfl rfl
theorem d_L_law_1925 : dn cL_law 1925 (.goto (-1902)) 3 1928 := dnAt dc_L_law48 21 rfl rfl
theorem d_L_law_1928 : dn cL_law 1928 (.iconst 1) 1 1929 := dnAt dc_L_law48 22 rfl rfl
theorem d_L_law_1929 : dn cL_law 1929 (.ireturn) 1 1930 := dnAt dc_L_law48 23 rfl rfl
