theorem tw_125 : (Jvm.Cond.methodLink "CorpuslineLaw" (66 : Nat) ({ cls := "Corpusline", name := "tokens", desc := "(I)I" } : Jvm.MethodName)) ∈ TB := tb_of 125 (by decide +kernel) rfl
theorem tw_126 : (Jvm.Cond.instanceMethod ({ cls := "Corpusline", name := "tokens", desc := "(I)I" } : Jvm.MethodName)) ∈ TB := tb_of 126 (by decide +kernel) rfl
theorem tw_127 : (Jvm.Cond.selects "Corpusline" ({ cls := "Corpusline", name := "tokens", desc := "(I)I" } : Jvm.MethodName) ({ cls := "Corpusline", name := "tokens", desc := "(I)I" } : Jvm.MethodName)) ∈ TB := tb_of 127 (by decide +kernel) rfl
theorem tw_128 : (Jvm.Cond.code ({ cls := "Corpusline", name := "tokens", desc := "(I)I" } : Jvm.MethodName) prog_1_method_5_code (2 : Nat) (Option.some Jvm.ClassFile.FieldType.int)) ∈ TB := tb_of 128 (by decide +kernel) rfl
theorem tw_228 : (Jvm.Cond.methodLink "CorpuslineLaw" (70 : Nat) ({ cls := "Corpusline", name := "token", desc := "(IIII)I" } : Jvm.MethodName)) ∈ TB := tb_of 228 (by decide +kernel) rfl
theorem tw_229 : (Jvm.Cond.instanceMethod ({ cls := "Corpusline", name := "token", desc := "(IIII)I" } : Jvm.MethodName)) ∈ TB := tb_of 229 (by decide +kernel) rfl
theorem tw_230 : (Jvm.Cond.selects "Corpusline" ({ cls := "Corpusline", name := "token", desc := "(IIII)I" } : Jvm.MethodName) ({ cls := "Corpusline", name := "token", desc := "(IIII)I" } : Jvm.MethodName)) ∈ TB := tb_of 230 (by decide +kernel) rfl
theorem tw_231 : (Jvm.Cond.code ({ cls := "Corpusline", name := "token", desc := "(IIII)I" } : Jvm.MethodName) prog_1_method_2_code (6 : Nat) (Option.some Jvm.ClassFile.FieldType.int)) ∈ TB := tb_of 231 (by decide +kernel) rfl
theorem tw_271 : (Jvm.Cond.methodLink "CorpuslineLaw" (74 : Nat) ({ cls := "Corpusline", name := "occurs", desc := "(III)I" } : Jvm.MethodName)) ∈ TB := tb_of 271 (by decide +kernel) rfl
theorem tw_272 : (Jvm.Cond.instanceMethod ({ cls := "Corpusline", name := "occurs", desc := "(III)I" } : Jvm.MethodName)) ∈ TB := tb_of 272 (by decide +kernel) rfl
theorem tw_273 : (Jvm.Cond.selects "Corpusline" ({ cls := "Corpusline", name := "occurs", desc := "(III)I" } : Jvm.MethodName) ({ cls := "Corpusline", name := "occurs", desc := "(III)I" } : Jvm.MethodName)) ∈ TB := tb_of 273 (by decide +kernel) rfl
theorem tw_274 : (Jvm.Cond.code ({ cls := "Corpusline", name := "occurs", desc := "(III)I" } : Jvm.MethodName) prog_1_method_7_code (7 : Nat) (Option.some Jvm.ClassFile.FieldType.int)) ∈ TB := tb_of 274 (by decide +kernel) rfl
theorem tw_279 : (Jvm.Cond.methodLink "CorpuslineLaw" (78 : Nat) ({ cls := "Corpusline", name := "end", desc := "(IZ)I" } : Jvm.MethodName)) ∈ TB := tb_of 279 (by decide +kernel) rfl
theorem tw_280 : (Jvm.Cond.instanceMethod ({ cls := "Corpusline", name := "end", desc := "(IZ)I" } : Jvm.MethodName)) ∈ TB := tb_of 280 (by decide +kernel) rfl
theorem tw_281 : (Jvm.Cond.selects "Corpusline" ({ cls := "Corpusline", name := "end", desc := "(IZ)I" } : Jvm.MethodName) ({ cls := "Corpusline", name := "end", desc := "(IZ)I" } : Jvm.MethodName)) ∈ TB := tb_of 281 (by decide +kernel) rfl
theorem tw_282 : (Jvm.Cond.code ({ cls := "Corpusline", name := "end", desc := "(IZ)I" } : Jvm.MethodName) prog_1_method_3_code (4 : Nat) (Option.some Jvm.ClassFile.FieldType.int)) ∈ TB := tb_of 282 (by decide +kernel) rfl
theorem tw_289 : (Jvm.Cond.methodLink "CorpuslineLaw" (88 : Nat) ({ cls := "Corpusline", name := "align", desc := "(II)I" } : Jvm.MethodName)) ∈ TB := tb_of 289 (by decide +kernel) rfl
theorem tw_290 : (Jvm.Cond.instanceMethod ({ cls := "Corpusline", name := "align", desc := "(II)I" } : Jvm.MethodName)) ∈ TB := tb_of 290 (by decide +kernel) rfl
theorem tw_291 : (Jvm.Cond.selects "Corpusline" ({ cls := "Corpusline", name := "align", desc := "(II)I" } : Jvm.MethodName) ({ cls := "Corpusline", name := "align", desc := "(II)I" } : Jvm.MethodName)) ∈ TB := tb_of 291 (by decide +kernel) rfl
theorem tw_292 : (Jvm.Cond.code ({ cls := "Corpusline", name := "align", desc := "(II)I" } : Jvm.MethodName) prog_1_method_4_code (5 : Nat) (Option.some Jvm.ClassFile.FieldType.int)) ∈ TB := tb_of 292 (by decide +kernel) rfl
theorem tw_298 : (Jvm.Cond.methodLink "CorpuslineLaw" (91 : Nat) ({ cls := "CorpuslineLaw", name := "builds", desc := "(LCorpusline;[III)Z" } : Jvm.MethodName)) ∈ TB := tb_of 298 (by decide +kernel) rfl
theorem tw_299 : (Jvm.Cond.static ({ cls := "CorpuslineLaw", name := "builds", desc := "(LCorpusline;[III)Z" } : Jvm.MethodName)) ∈ TB := tb_of 299 (by decide +kernel) rfl
theorem tw_300 : (Jvm.Cond.code ({ cls := "CorpuslineLaw", name := "builds", desc := "(LCorpusline;[III)Z" } : Jvm.MethodName) method_7_code (12 : Nat) (Option.some Jvm.ClassFile.FieldType.boolean)) ∈ TB := tb_of 300 (by decide +kernel) rfl
theorem tw_482 : (Jvm.Cond.methodLink "CorpuslineLaw" (95 : Nat) ({ cls := "CorpuslineLaw", name := "runs", desc := "(LCorpusline;[IIIIIZ)Z" } : Jvm.MethodName)) ∈ TB := tb_of 482 (by decide +kernel) rfl
theorem tw_483 : (Jvm.Cond.static ({ cls := "CorpuslineLaw", name := "runs", desc := "(LCorpusline;[IIIIIZ)Z" } : Jvm.MethodName)) ∈ TB := tb_of 483 (by decide +kernel) rfl
theorem tw_484 : (Jvm.Cond.code ({ cls := "CorpuslineLaw", name := "runs", desc := "(LCorpusline;[IIIIIZ)Z" } : Jvm.MethodName) method_9_code (15 : Nat) (Option.some Jvm.ClassFile.FieldType.boolean)) ∈ TB := tb_of 484 (by decide +kernel) rfl
theorem tw_555 : (Jvm.Cond.methodLink "CorpuslineLaw" (99 : Nat) ({ cls := "CorpuslineLaw", name := "joins", desc := "(LCorpusline;[IIII)Z" } : Jvm.MethodName)) ∈ TB := tb_of 555 (by decide +kernel) rfl
theorem tw_556 : (Jvm.Cond.static ({ cls := "CorpuslineLaw", name := "joins", desc := "(LCorpusline;[IIII)Z" } : Jvm.MethodName)) ∈ TB := tb_of 556 (by decide +kernel) rfl
theorem tw_557 : (Jvm.Cond.code ({ cls := "CorpuslineLaw", name := "joins", desc := "(LCorpusline;[IIII)Z" } : Jvm.MethodName) method_10_code (11 : Nat) (Option.some Jvm.ClassFile.FieldType.boolean)) ∈ TB := tb_of 557 (by decide +kernel) rfl
theorem tw_566 : (Jvm.Cond.methodLink "CorpuslineLaw" (103 : Nat) ({ cls := "CorpuslineLaw", name := "thins", desc := "(LCorpusline;[II)Z" } : Jvm.MethodName)) ∈ TB := tb_of 566 (by decide +kernel) rfl
theorem tw_567 : (Jvm.Cond.static ({ cls := "CorpuslineLaw", name := "thins", desc := "(LCorpusline;[II)Z" } : Jvm.MethodName)) ∈ TB := tb_of 567 (by decide +kernel) rfl
theorem tw_568 : (Jvm.Cond.code ({ cls := "CorpuslineLaw", name := "thins", desc := "(LCorpusline;[II)Z" } : Jvm.MethodName) method_11_code (9 : Nat) (Option.some Jvm.ClassFile.FieldType.boolean)) ∈ TB := tb_of 568 (by decide +kernel) rfl
theorem tw_584 : (Jvm.Cond.methodLink "CorpuslineLaw" (107 : Nat) ({ cls := "Corpusline", name := "aligned", desc := "(IIZ)I" } : Jvm.MethodName)) ∈ TB := tb_of 584 (by decide +kernel) rfl
theorem tw_585 : (Jvm.Cond.instanceMethod ({ cls := "Corpusline", name := "aligned", desc := "(IIZ)I" } : Jvm.MethodName)) ∈ TB := tb_of 585 (by decide +kernel) rfl
theorem tw_586 : (Jvm.Cond.selects "Corpusline" ({ cls := "Corpusline", name := "aligned", desc := "(IIZ)I" } : Jvm.MethodName) ({ cls := "Corpusline", name := "aligned", desc := "(IIZ)I" } : Jvm.MethodName)) ∈ TB := tb_of 586 (by decide +kernel) rfl
theorem tw_587 : (Jvm.Cond.code ({ cls := "Corpusline", name := "aligned", desc := "(IIZ)I" } : Jvm.MethodName) prog_1_method_22_code (11 : Nat) (Option.some Jvm.ClassFile.FieldType.int)) ∈ TB := tb_of 587 (by decide +kernel) rfl
theorem tw_592 : (Jvm.Cond.methodLink "CorpuslineLaw" (110 : Nat) ({ cls := "CorpuslineLaw", name := "groups", desc := "(LCorpusline;IIZ)Z" } : Jvm.MethodName)) ∈ TB := tb_of 592 (by decide +kernel) rfl
theorem tw_593 : (Jvm.Cond.static ({ cls := "CorpuslineLaw", name := "groups", desc := "(LCorpusline;IIZ)Z" } : Jvm.MethodName)) ∈ TB := tb_of 593 (by decide +kernel) rfl
theorem tw_594 : (Jvm.Cond.code ({ cls := "CorpuslineLaw", name := "groups", desc := "(LCorpusline;IIZ)Z" } : Jvm.MethodName) method_12_code (10 : Nat) (Option.some Jvm.ClassFile.FieldType.boolean)) ∈ TB := tb_of 594 (by decide +kernel) rfl
theorem tw_613 : (Jvm.Cond.methodLink "CorpuslineLaw" (114 : Nat) ({ cls := "Corpusline", name := "drop", desc := "(I)I" } : Jvm.MethodName)) ∈ TB := tb_of 613 (by decide +kernel) rfl
theorem tw_614 : (Jvm.Cond.instanceMethod ({ cls := "Corpusline", name := "drop", desc := "(I)I" } : Jvm.MethodName)) ∈ TB := tb_of 614 (by decide +kernel) rfl
theorem tw_615 : (Jvm.Cond.selects "Corpusline" ({ cls := "Corpusline", name := "drop", desc := "(I)I" } : Jvm.MethodName) ({ cls := "Corpusline", name := "drop", desc := "(I)I" } : Jvm.MethodName)) ∈ TB := tb_of 615 (by decide +kernel) rfl
theorem tw_616 : (Jvm.Cond.code ({ cls := "Corpusline", name := "drop", desc := "(I)I" } : Jvm.MethodName) prog_1_method_23_code (3 : Nat) (Option.some Jvm.ClassFile.FieldType.int)) ∈ TB := tb_of 616 (by decide +kernel) rfl
theorem ok_RL_91 : okS RL 91 yL_builds cL_builds 12 (Option.some Jvm.ClassFile.FieldType.boolean) 4 := ⟨tw_298, tw_299, tw_0, tw_300, ⟨by decide, by decide, by decide +kernel⟩⟩
theorem ok_RL_95 : okS RL 95 yL_runs cL_runs 15 (Option.some Jvm.ClassFile.FieldType.boolean) 7 := ⟨tw_482, tw_483, tw_0, tw_484, ⟨by decide, by decide, by decide +kernel⟩⟩
theorem ok_RL_99 : okS RL 99 yL_joins cL_joins 11 (Option.some Jvm.ClassFile.FieldType.boolean) 5 := ⟨tw_555, tw_556, tw_0, tw_557, ⟨by decide, by decide, by decide +kernel⟩⟩
theorem ok_RL_103 : okS RL 103 yL_thins cL_thins 9 (Option.some Jvm.ClassFile.FieldType.boolean) 3 := ⟨tw_566, tw_567, tw_0, tw_568, ⟨by decide, by decide, by decide +kernel⟩⟩
theorem ok_RL_110 : okS RL 110 yL_groups cL_groups 10 (Option.some Jvm.ClassFile.FieldType.boolean) 4 := ⟨tw_592, tw_593, tw_0, tw_594, ⟨by decide, by decide, by decide +kernel⟩⟩
theorem ok_RL_66 : okV RL 66 yX6_tokens cX6_tokens 2 (Option.some Jvm.ClassFile.FieldType.int) 1 := ⟨tw_125, tw_126, tw_127, tw_1, tw_128, ⟨by decide, by decide, by decide +kernel⟩⟩
theorem ok_RL_70 : okV RL 70 yX6_token cX6_token 6 (Option.some Jvm.ClassFile.FieldType.int) 4 := ⟨tw_228, tw_229, tw_230, tw_1, tw_231, ⟨by decide, by decide, by decide +kernel⟩⟩
theorem ok_RL_74 : okV RL 74 yX6_occurs cX6_occurs 7 (Option.some Jvm.ClassFile.FieldType.int) 3 := ⟨tw_271, tw_272, tw_273, tw_1, tw_274, ⟨by decide, by decide, by decide +kernel⟩⟩
theorem ok_RL_78 : okV RL 78 yX6_end cX6_end 4 (Option.some Jvm.ClassFile.FieldType.int) 2 := ⟨tw_279, tw_280, tw_281, tw_1, tw_282, ⟨by decide, by decide, by decide +kernel⟩⟩
theorem ok_RL_88 : okV RL 88 yX6_align cX6_align 5 (Option.some Jvm.ClassFile.FieldType.int) 2 := ⟨tw_289, tw_290, tw_291, tw_1, tw_292, ⟨by decide, by decide, by decide +kernel⟩⟩
theorem ok_RL_107 : okV RL 107 yX6_aligned cX6_aligned 11 (Option.some Jvm.ClassFile.FieldType.int) 3 := ⟨tw_584, tw_585, tw_586, tw_1, tw_587, ⟨by decide, by decide, by decide +kernel⟩⟩
theorem ok_RL_114 : okV RL 114 yX6_drop cX6_drop 3 (Option.some Jvm.ClassFile.FieldType.int) 1 := ⟨tw_613, tw_614, tw_615, tw_1, tw_616, ⟨by decide, by decide, by decide +kernel⟩⟩
def dl_L_step : List (Nat × Instr × Nat) := [(0, .iload_n 3, 1), (1, .iconst 2, 1), (2, .irem, 1), (3, .istore 5, 2), (5, .iload_n 3, 1), (6, .iconst 2, 1), (7, .idiv, 1), (8, .bipush 8, 2), (10, .irem, 1), (11, .istore 6, 2), (13, .iload 4, 2), (15, .bipush 8, 2), (17, .irem, 1), (18, .istore 7, 2), (20, .iload_n 2, 1), (21, .bipush 16, 2), (23, .irem, 1), (24, .tableswitch 649 0 14 #[76, 76, 76, 76, 174, 226, 334, 334, 343, 343, 343, 393, 436, 461, 607], 76), (100, .aload_n 1, 1), (101, .iload 5, 2), (103, .iaload, 1), (104, .bipush 40, 2), (106, .if_icmp .ne 20, 3), (109, .aload_n 0, 1), (110, .iload 5, 2), (112, .invokevirtual 66, 3), (115, .bipush 40, 2), (117, .if_icmp .ne 7, 3), (120, .iconst 1, 1), (121, .goto 4, 3), (124, .iconst 0, 1), (125, .ireturn, 1), (126, .aload_n 1, 1), (127, .iload 5, 2), (129, .dup2, 1), (130, .iaload, 1), (131, .iconst 1, 1), (132, .iadd, 1), (133, .iastore, 1), (134, .aload_n 0, 1), (135, .iload 5, 2), (137, .iload_n 3, 1), (138, .iconst 2, 1), (139, .idiv, 1), (140, .iconst 5, 1), (141, .irem, 1), (142, .iload 4, 2), (144, .iconst 3, 1), (145, .irem, 1), (146, .iload 4, 2), (148, .iconst 3, 1), (149, .idiv, 1), (150, .iconst 2, 1), (151, .irem, 1), (152, .invokevirtual 70, 3), (155, .aload_n 1, 1), (156, .iload 5, 2), (158, .iaload, 1), (159, .iconst 1, 1), (160, .isub, 1), (161, .if_icmp .ne 35, 3), (164, .aload_n 0, 1), (165, .iload 5, 2), (167, .invokevirtual 66, 3), (170, .aload_n 1, 1), (171, .iload 5, 2), (173, .iaload, 1), (174, .if_icmp .ne 22, 3), (177, .aload_n 0, 1), (178, .iload 5, 2), (180, .iconst 0, 1), (181, .iload_n 3, 1), (182, .iconst 2, 1), (183, .idiv, 1), (184, .iconst 5, 1), (185, .irem, 1), (186, .invokevirtual 74, 3), (189, .ifCond .le 7, 3), (192, .iconst 1, 1), (193, .goto 4, 3), (196, .iconst 0, 1), (197, .ireturn, 1), (198, .aload_n 1, 1), (199, .iload 5, 2), (201, .iaload, 1), (202, .ifCond .eq 42, 3), (205, .aload_n 0, 1), (206, .iload 5, 2), (208, .iload 4, 2), (210, .iconst 3, 1), (211, .irem, 1), (212, .ifCond .ne 7, 3), (215, .iconst 1, 1), (216, .goto 4, 3), (219, .iconst 0, 1), (220, .invokevirtual 78, 3), (223, .aload_n 1, 1), (224, .iload 5, 2), (226, .iaload, 1), (227, .if_icmp .ne 21, 3), (230, .aload_n 0, 1), (231, .iload 5, 2), (233, .iconst 0, 1), (234, .invokevirtual 78, 3), (237, .aload_n 1, 1), (238, .iload 5, 2), (240, .iaload, 1), (241, .if_icmp .ne 7, 3), (244, .iconst 1, 1), (245, .goto 4, 3), (248, .iconst 0, 1), (249, .ireturn, 1), (250, .aload_n 1, 1), (251, .iconst 0, 1), (252, .iaload, 1), (253, .ifCond .eq 9, 3), (256, .aload_n 1, 1), (257, .iconst 1, 1), (258, .iaload, 1), (259, .ifCond .ne 18, 3), (262, .aload_n 0, 1), (263, .iconst 0, 1), (264, .invokevirtual 82, 3), (267, .iconst (-1), 1), (268, .if_icmp .lt 7, 3), (271, .iconst 1, 1), (272, .goto 4, 3), (275, .iconst 0, 1), (276, .ireturn, 1), (277, .aload_n 0, 1), (278, .iconst 0, 1), (279, .iload_n 3, 1), (280, .aload_n 1, 1), (281, .iconst 0, 1), (282, .iaload, 1), (283, .irem, 1), (284, .invokevirtual 85, 3), (287, .istore 8, 2), (289, .aload_n 0, 1), (290, .iconst 1, 1), (291, .iload 4, 2), (293, .aload_n 1, 1), (294, .iconst 1, 1), (295, .iaload, 1), (296, .irem, 1), (297, .invokevirtual 85, 3), (300, .istore 9, 2), (302, .aload_n 0, 1), (303, .iload 8, 2), (305, .iload 9, 2), (307, .invokevirtual 88, 3), (310, .istore 10, 2), (312, .iload 10, 2), (314, .aload_n 1, 1), (315, .iconst 3, 1), (316, .iaload, 1), (317, .if_icmp .lt 30, 3), (320, .iload 10, 2), (322, .aload_n 1, 1), (323, .iconst 3, 1), (324, .iaload, 1), (325, .iconst 1, 1), (326, .iadd, 1), (327, .if_icmp .gt 20, 3), (330, .aload_n 0, 1), (331, .iload 8, 2), (333, .iload 9, 2), (335, .invokevirtual 88, 3), (338, .iload 10, 2), (340, .if_icmp .ne 7, 3), (343, .iconst 1, 1), (344, .goto 4, 3), (347, .iconst 0, 1), (348, .istore 11, 2), (350, .aload_n 1, 1), (351, .iconst 3, 1), (352, .iload 10, 2), (354, .iastore, 1), (355, .iload 11, 2), (357, .ireturn, 1), (358, .aload_n 0, 1), (359, .aload_n 1, 1), (360, .iload_n 3, 1), (361, .iload 4, 2), (363, .invokestatic 91, 3), (366, .ireturn, 1), (367, .aload_n 1, 1), (368, .iconst 2, 1), (369, .iaload, 1), (370, .ifCond .eq 41, 3), (373, .aload_n 0, 1), (374, .aload_n 1, 1), (375, .iload 6, 2), (377, .iload 4, 2), (379, .aload_n 1, 1), (380, .iconst 2, 1), (381, .iaload, 1), (382, .irem, 1), (383, .iload 5, 2), (385, .iload_n 3, 1), (386, .bipush 16, 2), (388, .idiv, 1), (389, .iconst 3, 1), (390, .irem, 1), (391, .iload_n 3, 1), (392, .bipush 48, 2), (394, .idiv, 1), (395, .iconst 2, 1), (396, .irem, 1), (397, .ifCond .ne 7, 3), (400, .iconst 1, 1), (401, .goto 4, 3), (404, .iconst 0, 1), (405, .invokestatic 95, 3), (408, .ifCond .eq 7, 3), (411, .iconst 1, 1), (412, .goto 4, 3), (415, .iconst 0, 1), (416, .ireturn, 1), (417, .aload_n 1, 1), (418, .iconst 4, 1), (419, .iload 6, 2), (421, .iadd, 1), (422, .iaload, 1), (423, .ifCond .eq 31, 3), (426, .aload_n 1, 1), (427, .iconst 4, 1), (428, .iload 7, 2), (430, .iadd, 1), (431, .iaload, 1), (432, .ifCond .eq 22, 3), (435, .aload_n 0, 1), (436, .aload_n 1, 1), (437, .iload 6, 2), (439, .iload 7, 2), (441, .iload 4, 2), (443, .bipush 8, 2), (445, .idiv, 1), (446, .iconst 3, 1), (447, .irem, 1), (448, .invokestatic 99, 3), (451, .ifCond .eq 7, 3), (454, .iconst 1, 1), (455, .goto 4, 3), (458, .iconst 0, 1), (459, .ireturn, 1), (460, .aload_n 1, 1), (461, .iconst 4, 1), (462, .iload 6, 2), (464, .iadd, 1), (465, .iaload, 1), (466, .ifCond .eq 13, 3), (469, .aload_n 0, 1), (470, .aload_n 1, 1), (471, .iload 6, 2), (473, .invokestatic 103, 3), (476, .ifCond .eq 7, 3), (479, .iconst 1, 1), (480, .goto 4, 3), (483, .iconst 0, 1), (484, .ireturn, 1), (485, .aload_n 1, 1), (486, .iconst 4, 1), (487, .iload 6, 2), (489, .iadd, 1), (490, .iaload, 1), (491, .ifCond .eq 9, 3), (494, .aload_n 1, 1), (495, .iconst 2, 1), (496, .iaload, 1), (497, .ifCond .ne 19, 3), (500, .aload_n 0, 1), (501, .iload 6, 2), (503, .invokevirtual 82, 3), (506, .iconst (-1), 1), (507, .if_icmp .lt 7, 3), (510, .iconst 1, 1), (511, .goto 4, 3), (514, .iconst 0, 1), (515, .ireturn, 1), (516, .aload_n 0, 1), (517, .iload 6, 2), (519, .invokevirtual 82, 3), (522, .istore 12, 2), (524, .aload_n 0, 1), (525, .iload 6, 2), (527, .iload 4, 2), (529, .aload_n 1, 1), (530, .iconst 2, 1), (531, .iaload, 1), (532, .irem, 1), (533, .iload 4, 2), (535, .bipush 16, 2), (537, .idiv, 1), (538, .iconst 2, 1), (539, .irem, 1), (540, .ifCond .ne 7, 3), (543, .iconst 1, 1), (544, .goto 4, 3), (547, .iconst 0, 1), (548, .invokevirtual 107, 3), (551, .istore 13, 2), (553, .aload_n 1, 1), (554, .bipush 20, 2), (556, .dup2, 1), (557, .iaload, 1), (558, .iconst 1, 1), (559, .iadd, 1), (560, .iastore, 1), (561, .iload 13, 2), (563, .ifCond .lt 66, 3), (566, .iload 13, 2), (568, .iload 12, 2), (570, .if_icmp .gt 59, 3), (573, .aload_n 1, 1), (574, .bipush 20, 2), (576, .iaload, 1), (577, .bipush 8, 2), (579, .if_icmp .gt 35, 3), (582, .aload_n 0, 1), (583, .iload 6, 2), (585, .iload 4, 2), (587, .aload_n 1, 1), (588, .iconst 2, 1), (589, .iaload, 1), (590, .irem, 1), (591, .iload 4, 2), (593, .bipush 16, 2), (595, .idiv, 1), (596, .iconst 2, 1), (597, .irem, 1), (598, .ifCond .ne 7, 3), (601, .iconst 1, 1), (602, .goto 4, 3), (605, .iconst 0, 1), (606, .invokevirtual 107, 3), (609, .iload 13, 2), (611, .if_icmp .ne 18, 3), (614, .aload_n 0, 1), (615, .iload 6, 2), (617, .invokevirtual 82, 3), (620, .iload 13, 2), (622, .if_icmp .ne 7, 3), (625, .iconst 1, 1), (626, .goto 4, 3), (629, .iconst 0, 1), (630, .ireturn, 1), (631, .aload_n 1, 1), (632, .iconst 4, 1), (633, .iload 6, 2), (635, .iadd, 1), (636, .iaload, 1), (637, .ifCond .eq 30, 3), (640, .aload_n 0, 1), (641, .iload 6, 2), (643, .iload 4, 2), (645, .iconst 3, 1), (646, .irem, 1), (647, .iload 4, 2), (649, .iconst 3, 1), (650, .idiv, 1), (651, .iconst 2, 1), (652, .irem, 1), (653, .ifCond .ne 7, 3), (656, .iconst 1, 1), (657, .goto 4, 3), (660, .iconst 0, 1), (661, .invokestatic 110, 3), (664, .ifCond .eq 7, 3), (667, .iconst 1, 1), (668, .goto 4, 3), (671, .iconst 0, 1), (672, .ireturn, 1), (673, .aload_n 1, 1), (674, .iconst 4, 1), (675, .iload 6, 2), (677, .iadd, 1), (678, .iaload, 1), (679, .ifCond .eq 10, 3), (682, .iload 4, 2), (684, .iconst 3, 1), (685, .irem, 1), (686, .ifCond .le 41, 3), (689, .aload_n 0, 1), (690, .iload 6, 2), (692, .invokevirtual 82, 3), (695, .iconst (-1), 1), (696, .if_icmp .ne 7, 3), (699, .iconst 1, 1), (700, .goto 4, 3), (703, .iconst 0, 1), (704, .aload_n 1, 1), (705, .iconst 4, 1), (706, .iload 6, 2), (708, .iadd, 1), (709, .iaload, 1), (710, .ifCond .ne 7, 3), (713, .iconst 1, 1), (714, .goto 4, 3), (717, .iconst 0, 1), (718, .if_icmp .ne 7, 3), (721, .iconst 1, 1), (722, .goto 4, 3), (725, .iconst 0, 1), (726, .ireturn, 1), (727, .aload_n 1, 1), (728, .iconst 4, 1), (729, .iload 6, 2), (731, .iadd, 1), (732, .iconst 0, 1), (733, .iastore, 1), (734, .aload_n 0, 1), (735, .iload 6, 2), (737, .invokevirtual 82, 3), (740, .istore 14, 2), (742, .aload_n 0, 1), (743, .iload 6, 2), (745, .invokevirtual 114, 3), (748, .iload 14, 2), (750, .if_icmp .ne 17, 3), (753, .aload_n 0, 1), (754, .iload 6, 2), (756, .invokevirtual 82, 3), (759, .iconst (-1), 1), (760, .if_icmp .ne 7, 3), (763, .iconst 1, 1), (764, .goto 4, 3), (767, .iconst 0, 1), (768, .ireturn, 1)]
theorem dc_L_step : dnL cL_step dl_L_step = true := by decide +kernel
theorem d_L_step_0 : dn cL_step 0 (.iload_n 3) 1 1 := dnAt dc_L_step 0 rfl rfl
theorem d_L_step_1 : dn cL_step 1 (.iconst 2) 1 2 := dnAt dc_L_step 1 rfl rfl
theorem d_L_step_2 : dn cL_step 2 (.irem) 1 3 := dnAt dc_L_step 2 rfl rfl
theorem d_L_step_3 : dn cL_step 3 (.istore 5) 2 5 := dnAt dc_L_step 3 rfl rfl
theorem d_L_step_5 : dn cL_step 5 (.iload_n 3) 1 6 := dnAt dc_L_step 4 rfl rfl
theorem d_L_step_6 : dn cL_step 6 (.iconst 2) 1 7 := dnAt dc_L_step 5 rfl rfl
theorem d_L_step_7 : dn cL_step 7 (.idiv) 1 8 := dnAt dc_L_step 6 rfl rfl
theorem d_L_step_8 : dn cL_step 8 (.bipush 8) 2 10 := dnAt dc_L_step 7 rfl rfl
theorem d_L_step_10 : dn cL_step 10 (.irem) 1 11 := dnAt dc_L_step 8 rfl rfl
theorem d_L_step_11 : dn cL_step 11 (.istore 6) 2 13 := dnAt dc_L_step 9 rfl rfl
theorem d_L_step_13 : dn cL_step 13 (.iload 4) 2 15 := dnAt dc_L_step 10 rfl rfl
theorem d_L_step_15 : dn cL_step 15 (.bipush 8) 2 17 := dnAt dc_L_step 11 rfl rfl
theorem d_L_step_17 : dn cL_step 17 (.irem) 1 18 := dnAt dc_L_step 12 rfl rfl
theorem d_L_step_18 : dn cL_step 18 (.istore 7) 2 20 := dnAt dc_L_step 13 rfl rfl
theorem d_L_step_20 : dn cL_step 20 (.iload_n 2) 1 21 := dnAt dc_L_step 14 rfl rfl
theorem d_L_step_21 : dn cL_step 21 (.bipush 16) 2 23 := dnAt dc_L_step 15 rfl rfl
theorem d_L_step_23 : dn cL_step 23 (.irem) 1 24 := dnAt dc_L_step 16 rfl rfl
theorem d_L_step_24 : dn cL_step 24 (.tableswitch 649 0 14 #[76, 76, 76, 76, 174, 226, 334, 334, 343, 343, 343, 393, 436, 461, 607]) 76 100 := dnAt dc_L_step 17 rfl rfl
theorem d_L_step_100 : dn cL_step 100 (.aload_n 1) 1 101 := dnAt dc_L_step 18 rfl rfl
theorem d_L_step_101 : dn cL_step 101 (.iload 5) 2 103 := dnAt dc_L_step 19 rfl rfl
theorem d_L_step_103 : dn cL_step 103 (.iaload) 1 104 := dnAt dc_L_step 20 rfl rfl
theorem d_L_step_104 : dn cL_step 104 (.bipush 40) 2 106 := dnAt dc_L_step 21 rfl rfl
theorem d_L_step_106 : dn cL_step 106 (.if_icmp .ne 20) 3 109 := dnAt dc_L_step 22 rfl rfl
theorem d_L_step_109 : dn cL_step 109 (.aload_n 0) 1 110 := dnAt dc_L_step 23 rfl rfl
theorem d_L_step_110 : dn cL_step 110 (.iload 5) 2 112 := dnAt dc_L_step 24 rfl rfl
theorem d_L_step_112 : dn cL_step 112 (.invokevirtual 66) 3 115 := dnAt dc_L_step 25 rfl rfl
theorem d_L_step_115 : dn cL_step 115 (.bipush 40) 2 117 := dnAt dc_L_step 26 rfl rfl
theorem d_L_step_117 : dn cL_step 117 (.if_icmp .ne 7) 3 120 := dnAt dc_L_step 27 rfl rfl
theorem d_L_step_120 : dn cL_step 120 (.iconst 1) 1 121 := dnAt dc_L_step 28 rfl rfl
theorem d_L_step_121 : dn cL_step 121 (.goto 4) 3 124 := dnAt dc_L_step 29 rfl rfl
theorem d_L_step_125 : dn cL_step 125 (.ireturn) 1 126 := dnAt dc_L_step 31 rfl rfl
theorem d_L_step_126 : dn cL_step 126 (.aload_n 1) 1 127 := dnAt dc_L_step 32 rfl rfl
theorem d_L_step_127 : dn cL_step 127 (.iload 5) 2 129 := dnAt dc_L_step 33 rfl rfl
theorem d_L_step_129 : dn cL_step 129 (.dup2) 1 130 := dnAt dc_L_step 34 rfl rfl
theorem d_L_step_130 : dn cL_step 130 (.iaload) 1 131 := dnAt dc_L_step 35 rfl rfl
theorem d_L_step_131 : dn cL_step 131 (.iconst 1) 1 132 := dnAt dc_L_step 36 rfl rfl
theorem d_L_step_132 : dn cL_step 132 (.iadd) 1 133 := dnAt dc_L_step 37 rfl rfl
theorem d_L_step_133 : dn cL_step 133 (.iastore) 1 134 := dnAt dc_L_step 38 rfl rfl
theorem d_L_step_134 : dn cL_step 134 (.aload_n 0) 1 135 := dnAt dc_L_step 39 rfl rfl
theorem d_L_step_135 : dn cL_step 135 (.iload 5) 2 137 := dnAt dc_L_step 40 rfl rfl
theorem d_L_step_137 : dn cL_step 137 (.iload_n 3) 1 138 := dnAt dc_L_step 41 rfl rfl
theorem d_L_step_138 : dn cL_step 138 (.iconst 2) 1 139 := dnAt dc_L_step 42 rfl rfl
theorem d_L_step_139 : dn cL_step 139 (.idiv) 1 140 := dnAt dc_L_step 43 rfl rfl
theorem d_L_step_140 : dn cL_step 140 (.iconst 5) 1 141 := dnAt dc_L_step 44 rfl rfl
theorem d_L_step_141 : dn cL_step 141 (.irem) 1 142 := dnAt dc_L_step 45 rfl rfl
theorem d_L_step_142 : dn cL_step 142 (.iload 4) 2 144 := dnAt dc_L_step 46 rfl rfl
theorem d_L_step_144 : dn cL_step 144 (.iconst 3) 1 145 := dnAt dc_L_step 47 rfl rfl
theorem d_L_step_145 : dn cL_step 145 (.irem) 1 146 := dnAt dc_L_step 48 rfl rfl
theorem d_L_step_146 : dn cL_step 146 (.iload 4) 2 148 := dnAt dc_L_step 49 rfl rfl
theorem d_L_step_148 : dn cL_step 148 (.iconst 3) 1 149 := dnAt dc_L_step 50 rfl rfl
theorem d_L_step_149 : dn cL_step 149 (.idiv) 1 150 := dnAt dc_L_step 51 rfl rfl
theorem d_L_step_150 : dn cL_step 150 (.iconst 2) 1 151 := dnAt dc_L_step 52 rfl rfl
theorem d_L_step_151 : dn cL_step 151 (.irem) 1 152 := dnAt dc_L_step 53 rfl rfl
theorem d_L_step_152 : dn cL_step 152 (.invokevirtual 70) 3 155 := dnAt dc_L_step 54 rfl rfl
theorem d_L_step_155 : dn cL_step 155 (.aload_n 1) 1 156 := dnAt dc_L_step 55 rfl rfl
theorem d_L_step_156 : dn cL_step 156 (.iload 5) 2 158 := dnAt dc_L_step 56 rfl rfl
theorem d_L_step_158 : dn cL_step 158 (.iaload) 1 159 := dnAt dc_L_step 57 rfl rfl
theorem d_L_step_159 : dn cL_step 159 (.iconst 1) 1 160 := dnAt dc_L_step 58 rfl rfl
theorem d_L_step_160 : dn cL_step 160 (.isub) 1 161 := dnAt dc_L_step 59 rfl rfl
theorem d_L_step_161 : dn cL_step 161 (.if_icmp .ne 35) 3 164 := dnAt dc_L_step 60 rfl rfl
theorem d_L_step_164 : dn cL_step 164 (.aload_n 0) 1 165 := dnAt dc_L_step 61 rfl rfl
theorem d_L_step_165 : dn cL_step 165 (.iload 5) 2 167 := dnAt dc_L_step 62 rfl rfl
theorem d_L_step_167 : dn cL_step 167 (.invokevirtual 66) 3 170 := dnAt dc_L_step 63 rfl rfl
theorem d_L_step_170 : dn cL_step 170 (.aload_n 1) 1 171 := dnAt dc_L_step 64 rfl rfl
theorem d_L_step_171 : dn cL_step 171 (.iload 5) 2 173 := dnAt dc_L_step 65 rfl rfl
theorem d_L_step_173 : dn cL_step 173 (.iaload) 1 174 := dnAt dc_L_step 66 rfl rfl
theorem d_L_step_174 : dn cL_step 174 (.if_icmp .ne 22) 3 177 := dnAt dc_L_step 67 rfl rfl
theorem d_L_step_177 : dn cL_step 177 (.aload_n 0) 1 178 := dnAt dc_L_step 68 rfl rfl
theorem d_L_step_178 : dn cL_step 178 (.iload 5) 2 180 := dnAt dc_L_step 69 rfl rfl
theorem d_L_step_180 : dn cL_step 180 (.iconst 0) 1 181 := dnAt dc_L_step 70 rfl rfl
theorem d_L_step_181 : dn cL_step 181 (.iload_n 3) 1 182 := dnAt dc_L_step 71 rfl rfl
theorem d_L_step_182 : dn cL_step 182 (.iconst 2) 1 183 := dnAt dc_L_step 72 rfl rfl
theorem d_L_step_183 : dn cL_step 183 (.idiv) 1 184 := dnAt dc_L_step 73 rfl rfl
theorem d_L_step_184 : dn cL_step 184 (.iconst 5) 1 185 := dnAt dc_L_step 74 rfl rfl
theorem d_L_step_185 : dn cL_step 185 (.irem) 1 186 := dnAt dc_L_step 75 rfl rfl
theorem d_L_step_186 : dn cL_step 186 (.invokevirtual 74) 3 189 := dnAt dc_L_step 76 rfl rfl
theorem d_L_step_189 : dn cL_step 189 (.ifCond .le 7) 3 192 := dnAt dc_L_step 77 rfl rfl
theorem d_L_step_192 : dn cL_step 192 (.iconst 1) 1 193 := dnAt dc_L_step 78 rfl rfl
theorem d_L_step_193 : dn cL_step 193 (.goto 4) 3 196 := dnAt dc_L_step 79 rfl rfl
theorem d_L_step_197 : dn cL_step 197 (.ireturn) 1 198 := dnAt dc_L_step 81 rfl rfl
theorem d_L_step_198 : dn cL_step 198 (.aload_n 1) 1 199 := dnAt dc_L_step 82 rfl rfl
theorem d_L_step_199 : dn cL_step 199 (.iload 5) 2 201 := dnAt dc_L_step 83 rfl rfl
theorem d_L_step_201 : dn cL_step 201 (.iaload) 1 202 := dnAt dc_L_step 84 rfl rfl
theorem d_L_step_202 : dn cL_step 202 (.ifCond .eq 42) 3 205 := dnAt dc_L_step 85 rfl rfl
theorem d_L_step_205 : dn cL_step 205 (.aload_n 0) 1 206 := dnAt dc_L_step 86 rfl rfl
theorem d_L_step_206 : dn cL_step 206 (.iload 5) 2 208 := dnAt dc_L_step 87 rfl rfl
theorem d_L_step_208 : dn cL_step 208 (.iload 4) 2 210 := dnAt dc_L_step 88 rfl rfl
theorem d_L_step_210 : dn cL_step 210 (.iconst 3) 1 211 := dnAt dc_L_step 89 rfl rfl
theorem d_L_step_211 : dn cL_step 211 (.irem) 1 212 := dnAt dc_L_step 90 rfl rfl
theorem d_L_step_212 : dn cL_step 212 (.ifCond .ne 7) 3 215 := dnAt dc_L_step 91 rfl rfl
theorem d_L_step_215 : dn cL_step 215 (.iconst 1) 1 216 := dnAt dc_L_step 92 rfl rfl
theorem d_L_step_216 : dn cL_step 216 (.goto 4) 3 219 := dnAt dc_L_step 93 rfl rfl
theorem d_L_step_219 : dn cL_step 219 (.iconst 0) 1 220 := dnAt dc_L_step 94 rfl rfl
theorem d_L_step_220 : dn cL_step 220 (.invokevirtual 78) 3 223 := dnAt dc_L_step 95 rfl rfl
theorem d_L_step_223 : dn cL_step 223 (.aload_n 1) 1 224 := dnAt dc_L_step 96 rfl rfl
theorem d_L_step_224 : dn cL_step 224 (.iload 5) 2 226 := dnAt dc_L_step 97 rfl rfl
theorem d_L_step_226 : dn cL_step 226 (.iaload) 1 227 := dnAt dc_L_step 98 rfl rfl
theorem d_L_step_227 : dn cL_step 227 (.if_icmp .ne 21) 3 230 := dnAt dc_L_step 99 rfl rfl
theorem d_L_step_230 : dn cL_step 230 (.aload_n 0) 1 231 := dnAt dc_L_step 100 rfl rfl
theorem d_L_step_231 : dn cL_step 231 (.iload 5) 2 233 := dnAt dc_L_step 101 rfl rfl
theorem d_L_step_233 : dn cL_step 233 (.iconst 0) 1 234 := dnAt dc_L_step 102 rfl rfl
theorem d_L_step_234 : dn cL_step 234 (.invokevirtual 78) 3 237 := dnAt dc_L_step 103 rfl rfl
theorem d_L_step_237 : dn cL_step 237 (.aload_n 1) 1 238 := dnAt dc_L_step 104 rfl rfl
theorem d_L_step_238 : dn cL_step 238 (.iload 5) 2 240 := dnAt dc_L_step 105 rfl rfl
theorem d_L_step_240 : dn cL_step 240 (.iaload) 1 241 := dnAt dc_L_step 106 rfl rfl
theorem d_L_step_241 : dn cL_step 241 (.if_icmp .ne 7) 3 244 := dnAt dc_L_step 107 rfl rfl
theorem d_L_step_244 : dn cL_step 244 (.iconst 1) 1 245 := dnAt dc_L_step 108 rfl rfl
theorem d_L_step_245 : dn cL_step 245 (.goto 4) 3 248 := dnAt dc_L_step 109 rfl rfl
theorem d_L_step_249 : dn cL_step 249 (.ireturn) 1 250 := dnAt dc_L_step 111 rfl rfl
theorem d_L_step_250 : dn cL_step 250 (.aload_n 1) 1 251 := dnAt dc_L_step 112 rfl rfl
theorem d_L_step_251 : dn cL_step 251 (.iconst 0) 1 252 := dnAt dc_L_step 113 rfl rfl
theorem d_L_step_252 : dn cL_step 252 (.iaload) 1 253 := dnAt dc_L_step 114 rfl rfl
theorem d_L_step_253 : dn cL_step 253 (.ifCond .eq 9) 3 256 := dnAt dc_L_step 115 rfl rfl
theorem d_L_step_256 : dn cL_step 256 (.aload_n 1) 1 257 := dnAt dc_L_step 116 rfl rfl
theorem d_L_step_257 : dn cL_step 257 (.iconst 1) 1 258 := dnAt dc_L_step 117 rfl rfl
theorem d_L_step_258 : dn cL_step 258 (.iaload) 1 259 := dnAt dc_L_step 118 rfl rfl
theorem d_L_step_259 : dn cL_step 259 (.ifCond .ne 18) 3 262 := dnAt dc_L_step 119 rfl rfl
theorem d_L_step_262 : dn cL_step 262 (.aload_n 0) 1 263 := dnAt dc_L_step 120 rfl rfl
theorem d_L_step_263 : dn cL_step 263 (.iconst 0) 1 264 := dnAt dc_L_step 121 rfl rfl
theorem d_L_step_264 : dn cL_step 264 (.invokevirtual 82) 3 267 := dnAt dc_L_step 122 rfl rfl
theorem d_L_step_267 : dn cL_step 267 (.iconst (-1)) 1 268 := dnAt dc_L_step 123 rfl rfl
theorem d_L_step_268 : dn cL_step 268 (.if_icmp .lt 7) 3 271 := dnAt dc_L_step 124 rfl rfl
theorem d_L_step_271 : dn cL_step 271 (.iconst 1) 1 272 := dnAt dc_L_step 125 rfl rfl
theorem d_L_step_272 : dn cL_step 272 (.goto 4) 3 275 := dnAt dc_L_step 126 rfl rfl
theorem d_L_step_276 : dn cL_step 276 (.ireturn) 1 277 := dnAt dc_L_step 128 rfl rfl
theorem d_L_step_277 : dn cL_step 277 (.aload_n 0) 1 278 := dnAt dc_L_step 129 rfl rfl
theorem d_L_step_278 : dn cL_step 278 (.iconst 0) 1 279 := dnAt dc_L_step 130 rfl rfl
theorem d_L_step_279 : dn cL_step 279 (.iload_n 3) 1 280 := dnAt dc_L_step 131 rfl rfl
theorem d_L_step_280 : dn cL_step 280 (.aload_n 1) 1 281 := dnAt dc_L_step 132 rfl rfl
theorem d_L_step_281 : dn cL_step 281 (.iconst 0) 1 282 := dnAt dc_L_step 133 rfl rfl
theorem d_L_step_282 : dn cL_step 282 (.iaload) 1 283 := dnAt dc_L_step 134 rfl rfl
theorem d_L_step_283 : dn cL_step 283 (.irem) 1 284 := dnAt dc_L_step 135 rfl rfl
theorem d_L_step_284 : dn cL_step 284 (.invokevirtual 85) 3 287 := dnAt dc_L_step 136 rfl rfl
theorem d_L_step_287 : dn cL_step 287 (.istore 8) 2 289 := dnAt dc_L_step 137 rfl rfl
theorem d_L_step_289 : dn cL_step 289 (.aload_n 0) 1 290 := dnAt dc_L_step 138 rfl rfl
theorem d_L_step_290 : dn cL_step 290 (.iconst 1) 1 291 := dnAt dc_L_step 139 rfl rfl
theorem d_L_step_291 : dn cL_step 291 (.iload 4) 2 293 := dnAt dc_L_step 140 rfl rfl
theorem d_L_step_293 : dn cL_step 293 (.aload_n 1) 1 294 := dnAt dc_L_step 141 rfl rfl
theorem d_L_step_294 : dn cL_step 294 (.iconst 1) 1 295 := dnAt dc_L_step 142 rfl rfl
theorem d_L_step_295 : dn cL_step 295 (.iaload) 1 296 := dnAt dc_L_step 143 rfl rfl
theorem d_L_step_296 : dn cL_step 296 (.irem) 1 297 := dnAt dc_L_step 144 rfl rfl
theorem d_L_step_297 : dn cL_step 297 (.invokevirtual 85) 3 300 := dnAt dc_L_step 145 rfl rfl
theorem d_L_step_300 : dn cL_step 300 (.istore 9) 2 302 := dnAt dc_L_step 146 rfl rfl
theorem d_L_step_302 : dn cL_step 302 (.aload_n 0) 1 303 := dnAt dc_L_step 147 rfl rfl
theorem d_L_step_303 : dn cL_step 303 (.iload 8) 2 305 := dnAt dc_L_step 148 rfl rfl
theorem d_L_step_305 : dn cL_step 305 (.iload 9) 2 307 := dnAt dc_L_step 149 rfl rfl
theorem d_L_step_307 : dn cL_step 307 (.invokevirtual 88) 3 310 := dnAt dc_L_step 150 rfl rfl
theorem d_L_step_310 : dn cL_step 310 (.istore 10) 2 312 := dnAt dc_L_step 151 rfl rfl
theorem d_L_step_312 : dn cL_step 312 (.iload 10) 2 314 := dnAt dc_L_step 152 rfl rfl
theorem d_L_step_314 : dn cL_step 314 (.aload_n 1) 1 315 := dnAt dc_L_step 153 rfl rfl
theorem d_L_step_315 : dn cL_step 315 (.iconst 3) 1 316 := dnAt dc_L_step 154 rfl rfl
theorem d_L_step_316 : dn cL_step 316 (.iaload) 1 317 := dnAt dc_L_step 155 rfl rfl
theorem d_L_step_317 : dn cL_step 317 (.if_icmp .lt 30) 3 320 := dnAt dc_L_step 156 rfl rfl
theorem d_L_step_320 : dn cL_step 320 (.iload 10) 2 322 := dnAt dc_L_step 157 rfl rfl
theorem d_L_step_322 : dn cL_step 322 (.aload_n 1) 1 323 := dnAt dc_L_step 158 rfl rfl
theorem d_L_step_323 : dn cL_step 323 (.iconst 3) 1 324 := dnAt dc_L_step 159 rfl rfl
theorem d_L_step_324 : dn cL_step 324 (.iaload) 1 325 := dnAt dc_L_step 160 rfl rfl
theorem d_L_step_325 : dn cL_step 325 (.iconst 1) 1 326 := dnAt dc_L_step 161 rfl rfl
theorem d_L_step_326 : dn cL_step 326 (.iadd) 1 327 := dnAt dc_L_step 162 rfl rfl
theorem d_L_step_327 : dn cL_step 327 (.if_icmp .gt 20) 3 330 := dnAt dc_L_step 163 rfl rfl
theorem d_L_step_330 : dn cL_step 330 (.aload_n 0) 1 331 := dnAt dc_L_step 164 rfl rfl
theorem d_L_step_331 : dn cL_step 331 (.iload 8) 2 333 := dnAt dc_L_step 165 rfl rfl
theorem d_L_step_333 : dn cL_step 333 (.iload 9) 2 335 := dnAt dc_L_step 166 rfl rfl
theorem d_L_step_335 : dn cL_step 335 (.invokevirtual 88) 3 338 := dnAt dc_L_step 167 rfl rfl
theorem d_L_step_338 : dn cL_step 338 (.iload 10) 2 340 := dnAt dc_L_step 168 rfl rfl
theorem d_L_step_340 : dn cL_step 340 (.if_icmp .ne 7) 3 343 := dnAt dc_L_step 169 rfl rfl
theorem d_L_step_343 : dn cL_step 343 (.iconst 1) 1 344 := dnAt dc_L_step 170 rfl rfl
theorem d_L_step_344 : dn cL_step 344 (.goto 4) 3 347 := dnAt dc_L_step 171 rfl rfl
theorem d_L_step_348 : dn cL_step 348 (.istore 11) 2 350 := dnAt dc_L_step 173 rfl rfl
theorem d_L_step_350 : dn cL_step 350 (.aload_n 1) 1 351 := dnAt dc_L_step 174 rfl rfl
theorem d_L_step_351 : dn cL_step 351 (.iconst 3) 1 352 := dnAt dc_L_step 175 rfl rfl
theorem d_L_step_352 : dn cL_step 352 (.iload 10) 2 354 := dnAt dc_L_step 176 rfl rfl
theorem d_L_step_354 : dn cL_step 354 (.iastore) 1 355 := dnAt dc_L_step 177 rfl rfl
theorem d_L_step_355 : dn cL_step 355 (.iload 11) 2 357 := dnAt dc_L_step 178 rfl rfl
theorem d_L_step_357 : dn cL_step 357 (.ireturn) 1 358 := dnAt dc_L_step 179 rfl rfl
theorem d_L_step_358 : dn cL_step 358 (.aload_n 0) 1 359 := dnAt dc_L_step 180 rfl rfl
theorem d_L_step_359 : dn cL_step 359 (.aload_n 1) 1 360 := dnAt dc_L_step 181 rfl rfl
theorem d_L_step_360 : dn cL_step 360 (.iload_n 3) 1 361 := dnAt dc_L_step 182 rfl rfl
theorem d_L_step_361 : dn cL_step 361 (.iload 4) 2 363 := dnAt dc_L_step 183 rfl rfl
theorem d_L_step_363 : dn cL_step 363 (.invokestatic 91) 3 366 := dnAt dc_L_step 184 rfl rfl
theorem d_L_step_366 : dn cL_step 366 (.ireturn) 1 367 := dnAt dc_L_step 185 rfl rfl
theorem d_L_step_367 : dn cL_step 367 (.aload_n 1) 1 368 := dnAt dc_L_step 186 rfl rfl
theorem d_L_step_368 : dn cL_step 368 (.iconst 2) 1 369 := dnAt dc_L_step 187 rfl rfl
theorem d_L_step_369 : dn cL_step 369 (.iaload) 1 370 := dnAt dc_L_step 188 rfl rfl
theorem d_L_step_370 : dn cL_step 370 (.ifCond .eq 41) 3 373 := dnAt dc_L_step 189 rfl rfl
theorem d_L_step_373 : dn cL_step 373 (.aload_n 0) 1 374 := dnAt dc_L_step 190 rfl rfl
theorem d_L_step_374 : dn cL_step 374 (.aload_n 1) 1 375 := dnAt dc_L_step 191 rfl rfl
theorem d_L_step_375 : dn cL_step 375 (.iload 6) 2 377 := dnAt dc_L_step 192 rfl rfl
theorem d_L_step_377 : dn cL_step 377 (.iload 4) 2 379 := dnAt dc_L_step 193 rfl rfl
theorem d_L_step_379 : dn cL_step 379 (.aload_n 1) 1 380 := dnAt dc_L_step 194 rfl rfl
theorem d_L_step_380 : dn cL_step 380 (.iconst 2) 1 381 := dnAt dc_L_step 195 rfl rfl
theorem d_L_step_381 : dn cL_step 381 (.iaload) 1 382 := dnAt dc_L_step 196 rfl rfl
theorem d_L_step_382 : dn cL_step 382 (.irem) 1 383 := dnAt dc_L_step 197 rfl rfl
theorem d_L_step_383 : dn cL_step 383 (.iload 5) 2 385 := dnAt dc_L_step 198 rfl rfl
theorem d_L_step_385 : dn cL_step 385 (.iload_n 3) 1 386 := dnAt dc_L_step 199 rfl rfl
theorem d_L_step_386 : dn cL_step 386 (.bipush 16) 2 388 := dnAt dc_L_step 200 rfl rfl
theorem d_L_step_388 : dn cL_step 388 (.idiv) 1 389 := dnAt dc_L_step 201 rfl rfl
theorem d_L_step_389 : dn cL_step 389 (.iconst 3) 1 390 := dnAt dc_L_step 202 rfl rfl
theorem d_L_step_390 : dn cL_step 390 (.irem) 1 391 := dnAt dc_L_step 203 rfl rfl
theorem d_L_step_391 : dn cL_step 391 (.iload_n 3) 1 392 := dnAt dc_L_step 204 rfl rfl
theorem d_L_step_392 : dn cL_step 392 (.bipush 48) 2 394 := dnAt dc_L_step 205 rfl rfl
theorem d_L_step_394 : dn cL_step 394 (.idiv) 1 395 := dnAt dc_L_step 206 rfl rfl
theorem d_L_step_395 : dn cL_step 395 (.iconst 2) 1 396 := dnAt dc_L_step 207 rfl rfl
theorem d_L_step_396 : dn cL_step 396 (.irem) 1 397 := dnAt dc_L_step 208 rfl rfl
theorem d_L_step_397 : dn cL_step 397 (.ifCond .ne 7) 3 400 := dnAt dc_L_step 209 rfl rfl
theorem d_L_step_400 : dn cL_step 400 (.iconst 1) 1 401 := dnAt dc_L_step 210 rfl rfl
theorem d_L_step_401 : dn cL_step 401 (.goto 4) 3 404 := dnAt dc_L_step 211 rfl rfl
theorem d_L_step_404 : dn cL_step 404 (.iconst 0) 1 405 := dnAt dc_L_step 212 rfl rfl
theorem d_L_step_405 : dn cL_step 405 (.invokestatic 95) 3 408 := dnAt dc_L_step 213 rfl rfl
theorem d_L_step_408 : dn cL_step 408 (.ifCond .eq 7) 3 411 := dnAt dc_L_step 214 rfl rfl
theorem d_L_step_411 : dn cL_step 411 (.iconst 1) 1 412 := dnAt dc_L_step 215 rfl rfl
theorem d_L_step_412 : dn cL_step 412 (.goto 4) 3 415 := dnAt dc_L_step 216 rfl rfl
theorem d_L_step_416 : dn cL_step 416 (.ireturn) 1 417 := dnAt dc_L_step 218 rfl rfl
theorem d_L_step_417 : dn cL_step 417 (.aload_n 1) 1 418 := dnAt dc_L_step 219 rfl rfl
theorem d_L_step_418 : dn cL_step 418 (.iconst 4) 1 419 := dnAt dc_L_step 220 rfl rfl
theorem d_L_step_419 : dn cL_step 419 (.iload 6) 2 421 := dnAt dc_L_step 221 rfl rfl
theorem d_L_step_421 : dn cL_step 421 (.iadd) 1 422 := dnAt dc_L_step 222 rfl rfl
theorem d_L_step_422 : dn cL_step 422 (.iaload) 1 423 := dnAt dc_L_step 223 rfl rfl
theorem d_L_step_423 : dn cL_step 423 (.ifCond .eq 31) 3 426 := dnAt dc_L_step 224 rfl rfl
theorem d_L_step_426 : dn cL_step 426 (.aload_n 1) 1 427 := dnAt dc_L_step 225 rfl rfl
theorem d_L_step_427 : dn cL_step 427 (.iconst 4) 1 428 := dnAt dc_L_step 226 rfl rfl
theorem d_L_step_428 : dn cL_step 428 (.iload 7) 2 430 := dnAt dc_L_step 227 rfl rfl
theorem d_L_step_430 : dn cL_step 430 (.iadd) 1 431 := dnAt dc_L_step 228 rfl rfl
theorem d_L_step_431 : dn cL_step 431 (.iaload) 1 432 := dnAt dc_L_step 229 rfl rfl
theorem d_L_step_432 : dn cL_step 432 (.ifCond .eq 22) 3 435 := dnAt dc_L_step 230 rfl rfl
theorem d_L_step_435 : dn cL_step 435 (.aload_n 0) 1 436 := dnAt dc_L_step 231 rfl rfl
theorem d_L_step_436 : dn cL_step 436 (.aload_n 1) 1 437 := dnAt dc_L_step 232 rfl rfl
theorem d_L_step_437 : dn cL_step 437 (.iload 6) 2 439 := dnAt dc_L_step 233 rfl rfl
theorem d_L_step_439 : dn cL_step 439 (.iload 7) 2 441 := dnAt dc_L_step 234 rfl rfl
theorem d_L_step_441 : dn cL_step 441 (.iload 4) 2 443 := dnAt dc_L_step 235 rfl rfl
theorem d_L_step_443 : dn cL_step 443 (.bipush 8) 2 445 := dnAt dc_L_step 236 rfl rfl
theorem d_L_step_445 : dn cL_step 445 (.idiv) 1 446 := dnAt dc_L_step 237 rfl rfl
theorem d_L_step_446 : dn cL_step 446 (.iconst 3) 1 447 := dnAt dc_L_step 238 rfl rfl
theorem d_L_step_447 : dn cL_step 447 (.irem) 1 448 := dnAt dc_L_step 239 rfl rfl
theorem d_L_step_448 : dn cL_step 448 (.invokestatic 99) 3 451 := dnAt dc_L_step 240 rfl rfl
theorem d_L_step_451 : dn cL_step 451 (.ifCond .eq 7) 3 454 := dnAt dc_L_step 241 rfl rfl
theorem d_L_step_454 : dn cL_step 454 (.iconst 1) 1 455 := dnAt dc_L_step 242 rfl rfl
theorem d_L_step_455 : dn cL_step 455 (.goto 4) 3 458 := dnAt dc_L_step 243 rfl rfl
theorem d_L_step_459 : dn cL_step 459 (.ireturn) 1 460 := dnAt dc_L_step 245 rfl rfl
theorem d_L_step_460 : dn cL_step 460 (.aload_n 1) 1 461 := dnAt dc_L_step 246 rfl rfl
theorem d_L_step_461 : dn cL_step 461 (.iconst 4) 1 462 := dnAt dc_L_step 247 rfl rfl
theorem d_L_step_462 : dn cL_step 462 (.iload 6) 2 464 := dnAt dc_L_step 248 rfl rfl
theorem d_L_step_464 : dn cL_step 464 (.iadd) 1 465 := dnAt dc_L_step 249 rfl rfl
theorem d_L_step_465 : dn cL_step 465 (.iaload) 1 466 := dnAt dc_L_step 250 rfl rfl
theorem d_L_step_466 : dn cL_step 466 (.ifCond .eq 13) 3 469 := dnAt dc_L_step 251 rfl rfl
theorem d_L_step_469 : dn cL_step 469 (.aload_n 0) 1 470 := dnAt dc_L_step 252 rfl rfl
theorem d_L_step_470 : dn cL_step 470 (.aload_n 1) 1 471 := dnAt dc_L_step 253 rfl rfl
theorem d_L_step_471 : dn cL_step 471 (.iload 6) 2 473 := dnAt dc_L_step 254 rfl rfl
theorem d_L_step_473 : dn cL_step 473 (.invokestatic 103) 3 476 := dnAt dc_L_step 255 rfl rfl
theorem d_L_step_476 : dn cL_step 476 (.ifCond .eq 7) 3 479 := dnAt dc_L_step 256 rfl rfl
theorem d_L_step_479 : dn cL_step 479 (.iconst 1) 1 480 := dnAt dc_L_step 257 rfl rfl
theorem d_L_step_480 : dn cL_step 480 (.goto 4) 3 483 := dnAt dc_L_step 258 rfl rfl
theorem d_L_step_484 : dn cL_step 484 (.ireturn) 1 485 := dnAt dc_L_step 260 rfl rfl
theorem d_L_step_485 : dn cL_step 485 (.aload_n 1) 1 486 := dnAt dc_L_step 261 rfl rfl
theorem d_L_step_486 : dn cL_step 486 (.iconst 4) 1 487 := dnAt dc_L_step 262 rfl rfl
theorem d_L_step_487 : dn cL_step 487 (.iload 6) 2 489 := dnAt dc_L_step 263 rfl rfl
theorem d_L_step_489 : dn cL_step 489 (.iadd) 1 490 := dnAt dc_L_step 264 rfl rfl
theorem d_L_step_490 : dn cL_step 490 (.iaload) 1 491 := dnAt dc_L_step 265 rfl rfl
theorem d_L_step_491 : dn cL_step 491 (.ifCond .eq 9) 3 494 := dnAt dc_L_step 266 rfl rfl
theorem d_L_step_494 : dn cL_step 494 (.aload_n 1) 1 495 := dnAt dc_L_step 267 rfl rfl
theorem d_L_step_495 : dn cL_step 495 (.iconst 2) 1 496 := dnAt dc_L_step 268 rfl rfl
theorem d_L_step_496 : dn cL_step 496 (.iaload) 1 497 := dnAt dc_L_step 269 rfl rfl
theorem d_L_step_497 : dn cL_step 497 (.ifCond .ne 19) 3 500 := dnAt dc_L_step 270 rfl rfl
theorem d_L_step_500 : dn cL_step 500 (.aload_n 0) 1 501 := dnAt dc_L_step 271 rfl rfl
theorem d_L_step_501 : dn cL_step 501 (.iload 6) 2 503 := dnAt dc_L_step 272 rfl rfl
theorem d_L_step_503 : dn cL_step 503 (.invokevirtual 82) 3 506 := dnAt dc_L_step 273 rfl rfl
theorem d_L_step_506 : dn cL_step 506 (.iconst (-1)) 1 507 := dnAt dc_L_step 274 rfl rfl
theorem d_L_step_507 : dn cL_step 507 (.if_icmp .lt 7) 3 510 := dnAt dc_L_step 275 rfl rfl
theorem d_L_step_510 : dn cL_step 510 (.iconst 1) 1 511 := dnAt dc_L_step 276 rfl rfl
theorem d_L_step_511 : dn cL_step 511 (.goto 4) 3 514 := dnAt dc_L_step 277 rfl rfl
theorem d_L_step_515 : dn cL_step 515 (.ireturn) 1 516 := dnAt dc_L_step 279 rfl rfl
theorem d_L_step_516 : dn cL_step 516 (.aload_n 0) 1 517 := dnAt dc_L_step 280 rfl rfl
theorem d_L_step_517 : dn cL_step 517 (.iload 6) 2 519 := dnAt dc_L_step 281 rfl rfl
theorem d_L_step_519 : dn cL_step 519 (.invokevirtual 82) 3 522 := dnAt dc_L_step 282 rfl rfl
theorem d_L_step_522 : dn cL_step 522 (.istore 12) 2 524 := dnAt dc_L_step 283 rfl rfl
theorem d_L_step_524 : dn cL_step 524 (.aload_n 0) 1 525 := dnAt dc_L_step 284 rfl rfl
theorem d_L_step_525 : dn cL_step 525 (.iload 6) 2 527 := dnAt dc_L_step 285 rfl rfl
theorem d_L_step_527 : dn cL_step 527 (.iload 4) 2 529 := dnAt dc_L_step 286 rfl rfl
theorem d_L_step_529 : dn cL_step 529 (.aload_n 1) 1 530 := dnAt dc_L_step 287 rfl rfl
theorem d_L_step_530 : dn cL_step 530 (.iconst 2) 1 531 := dnAt dc_L_step 288 rfl rfl
theorem d_L_step_531 : dn cL_step 531 (.iaload) 1 532 := dnAt dc_L_step 289 rfl rfl
theorem d_L_step_532 : dn cL_step 532 (.irem) 1 533 := dnAt dc_L_step 290 rfl rfl
theorem d_L_step_533 : dn cL_step 533 (.iload 4) 2 535 := dnAt dc_L_step 291 rfl rfl
theorem d_L_step_535 : dn cL_step 535 (.bipush 16) 2 537 := dnAt dc_L_step 292 rfl rfl
theorem d_L_step_537 : dn cL_step 537 (.idiv) 1 538 := dnAt dc_L_step 293 rfl rfl
theorem d_L_step_538 : dn cL_step 538 (.iconst 2) 1 539 := dnAt dc_L_step 294 rfl rfl
theorem d_L_step_539 : dn cL_step 539 (.irem) 1 540 := dnAt dc_L_step 295 rfl rfl
theorem d_L_step_540 : dn cL_step 540 (.ifCond .ne 7) 3 543 := dnAt dc_L_step 296 rfl rfl
theorem d_L_step_543 : dn cL_step 543 (.iconst 1) 1 544 := dnAt dc_L_step 297 rfl rfl
theorem d_L_step_544 : dn cL_step 544 (.goto 4) 3 547 := dnAt dc_L_step 298 rfl rfl
theorem d_L_step_547 : dn cL_step 547 (.iconst 0) 1 548 := dnAt dc_L_step 299 rfl rfl
theorem d_L_step_548 : dn cL_step 548 (.invokevirtual 107) 3 551 := dnAt dc_L_step 300 rfl rfl
theorem d_L_step_551 : dn cL_step 551 (.istore 13) 2 553 := dnAt dc_L_step 301 rfl rfl
theorem d_L_step_553 : dn cL_step 553 (.aload_n 1) 1 554 := dnAt dc_L_step 302 rfl rfl
theorem d_L_step_554 : dn cL_step 554 (.bipush 20) 2 556 := dnAt dc_L_step 303 rfl rfl
theorem d_L_step_556 : dn cL_step 556 (.dup2) 1 557 := dnAt dc_L_step 304 rfl rfl
theorem d_L_step_557 : dn cL_step 557 (.iaload) 1 558 := dnAt dc_L_step 305 rfl rfl
theorem d_L_step_558 : dn cL_step 558 (.iconst 1) 1 559 := dnAt dc_L_step 306 rfl rfl
theorem d_L_step_559 : dn cL_step 559 (.iadd) 1 560 := dnAt dc_L_step 307 rfl rfl
theorem d_L_step_560 : dn cL_step 560 (.iastore) 1 561 := dnAt dc_L_step 308 rfl rfl
theorem d_L_step_561 : dn cL_step 561 (.iload 13) 2 563 := dnAt dc_L_step 309 rfl rfl
theorem d_L_step_563 : dn cL_step 563 (.ifCond .lt 66) 3 566 := dnAt dc_L_step 310 rfl rfl
theorem d_L_step_566 : dn cL_step 566 (.iload 13) 2 568 := dnAt dc_L_step 311 rfl rfl
theorem d_L_step_568 : dn cL_step 568 (.iload 12) 2 570 := dnAt dc_L_step 312 rfl rfl
theorem d_L_step_570 : dn cL_step 570 (.if_icmp .gt 59) 3 573 := dnAt dc_L_step 313 rfl rfl
theorem d_L_step_573 : dn cL_step 573 (.aload_n 1) 1 574 := dnAt dc_L_step 314 rfl rfl
theorem d_L_step_574 : dn cL_step 574 (.bipush 20) 2 576 := dnAt dc_L_step 315 rfl rfl
theorem d_L_step_576 : dn cL_step 576 (.iaload) 1 577 := dnAt dc_L_step 316 rfl rfl
theorem d_L_step_577 : dn cL_step 577 (.bipush 8) 2 579 := dnAt dc_L_step 317 rfl rfl
theorem d_L_step_579 : dn cL_step 579 (.if_icmp .gt 35) 3 582 := dnAt dc_L_step 318 rfl rfl
theorem d_L_step_582 : dn cL_step 582 (.aload_n 0) 1 583 := dnAt dc_L_step 319 rfl rfl
theorem d_L_step_583 : dn cL_step 583 (.iload 6) 2 585 := dnAt dc_L_step 320 rfl rfl
theorem d_L_step_585 : dn cL_step 585 (.iload 4) 2 587 := dnAt dc_L_step 321 rfl rfl
theorem d_L_step_587 : dn cL_step 587 (.aload_n 1) 1 588 := dnAt dc_L_step 322 rfl rfl
theorem d_L_step_588 : dn cL_step 588 (.iconst 2) 1 589 := dnAt dc_L_step 323 rfl rfl
theorem d_L_step_589 : dn cL_step 589 (.iaload) 1 590 := dnAt dc_L_step 324 rfl rfl
theorem d_L_step_590 : dn cL_step 590 (.irem) 1 591 := dnAt dc_L_step 325 rfl rfl
theorem d_L_step_591 : dn cL_step 591 (.iload 4) 2 593 := dnAt dc_L_step 326 rfl rfl
theorem d_L_step_593 : dn cL_step 593 (.bipush 16) 2 595 := dnAt dc_L_step 327 rfl rfl
theorem d_L_step_595 : dn cL_step 595 (.idiv) 1 596 := dnAt dc_L_step 328 rfl rfl
theorem d_L_step_596 : dn cL_step 596 (.iconst 2) 1 597 := dnAt dc_L_step 329 rfl rfl
theorem d_L_step_597 : dn cL_step 597 (.irem) 1 598 := dnAt dc_L_step 330 rfl rfl
theorem d_L_step_598 : dn cL_step 598 (.ifCond .ne 7) 3 601 := dnAt dc_L_step 331 rfl rfl
theorem d_L_step_601 : dn cL_step 601 (.iconst 1) 1 602 := dnAt dc_L_step 332 rfl rfl
theorem d_L_step_602 : dn cL_step 602 (.goto 4) 3 605 := dnAt dc_L_step 333 rfl rfl
theorem d_L_step_605 : dn cL_step 605 (.iconst 0) 1 606 := dnAt dc_L_step 334 rfl rfl
theorem d_L_step_606 : dn cL_step 606 (.invokevirtual 107) 3 609 := dnAt dc_L_step 335 rfl rfl
theorem d_L_step_609 : dn cL_step 609 (.iload 13) 2 611 := dnAt dc_L_step 336 rfl rfl
theorem d_L_step_611 : dn cL_step 611 (.if_icmp .ne 18) 3 614 := dnAt dc_L_step 337 rfl rfl
theorem d_L_step_614 : dn cL_step 614 (.aload_n 0) 1 615 := dnAt dc_L_step 338 rfl rfl
theorem d_L_step_615 : dn cL_step 615 (.iload 6) 2 617 := dnAt dc_L_step 339 rfl rfl
theorem d_L_step_617 : dn cL_step 617 (.invokevirtual 82) 3 620 := dnAt dc_L_step 340 rfl rfl
theorem d_L_step_620 : dn cL_step 620 (.iload 13) 2 622 := dnAt dc_L_step 341 rfl rfl
theorem d_L_step_622 : dn cL_step 622 (.if_icmp .ne 7) 3 625 := dnAt dc_L_step 342 rfl rfl
theorem d_L_step_625 : dn cL_step 625 (.iconst 1) 1 626 := dnAt dc_L_step 343 rfl rfl
theorem d_L_step_626 : dn cL_step 626 (.goto 4) 3 629 := dnAt dc_L_step 344 rfl rfl
theorem d_L_step_630 : dn cL_step 630 (.ireturn) 1 631 := dnAt dc_L_step 346 rfl rfl
theorem d_L_step_631 : dn cL_step 631 (.aload_n 1) 1 632 := dnAt dc_L_step 347 rfl rfl
theorem d_L_step_632 : dn cL_step 632 (.iconst 4) 1 633 := dnAt dc_L_step 348 rfl rfl
theorem d_L_step_633 : dn cL_step 633 (.iload 6) 2 635 := dnAt dc_L_step 349 rfl rfl
theorem d_L_step_635 : dn cL_step 635 (.iadd) 1 636 := dnAt dc_L_step 350 rfl rfl
theorem d_L_step_636 : dn cL_step 636 (.iaload) 1 637 := dnAt dc_L_step 351 rfl rfl
theorem d_L_step_637 : dn cL_step 637 (.ifCond .eq 30) 3 640 := dnAt dc_L_step 352 rfl rfl
theorem d_L_step_640 : dn cL_step 640 (.aload_n 0) 1 641 := dnAt dc_L_step 353 rfl rfl
theorem d_L_step_641 : dn cL_step 641 (.iload 6) 2 643 := dnAt dc_L_step 354 rfl rfl
theorem d_L_step_643 : dn cL_step 643 (.iload 4) 2 645 := dnAt dc_L_step 355 rfl rfl
theorem d_L_step_645 : dn cL_step 645 (.iconst 3) 1 646 := dnAt dc_L_step 356 rfl rfl
theorem d_L_step_646 : dn cL_step 646 (.irem) 1 647 := dnAt dc_L_step 357 rfl rfl
theorem d_L_step_647 : dn cL_step 647 (.iload 4) 2 649 := dnAt dc_L_step 358 rfl rfl
theorem d_L_step_649 : dn cL_step 649 (.iconst 3) 1 650 := dnAt dc_L_step 359 rfl rfl
theorem d_L_step_650 : dn cL_step 650 (.idiv) 1 651 := dnAt dc_L_step 360 rfl rfl
theorem d_L_step_651 : dn cL_step 651 (.iconst 2) 1 652 := dnAt dc_L_step 361 rfl rfl
theorem d_L_step_652 : dn cL_step 652 (.irem) 1 653 := dnAt dc_L_step 362 rfl rfl
theorem d_L_step_653 : dn cL_step 653 (.ifCond .ne 7) 3 656 := dnAt dc_L_step 363 rfl rfl
theorem d_L_step_656 : dn cL_step 656 (.iconst 1) 1 657 := dnAt dc_L_step 364 rfl rfl
theorem d_L_step_657 : dn cL_step 657 (.goto 4) 3 660 := dnAt dc_L_step 365 rfl rfl
theorem d_L_step_660 : dn cL_step 660 (.iconst 0) 1 661 := dnAt dc_L_step 366 rfl rfl
theorem d_L_step_661 : dn cL_step 661 (.invokestatic 110) 3 664 := dnAt dc_L_step 367 rfl rfl
theorem d_L_step_664 : dn cL_step 664 (.ifCond .eq 7) 3 667 := dnAt dc_L_step 368 rfl rfl
theorem d_L_step_667 : dn cL_step 667 (.iconst 1) 1 668 := dnAt dc_L_step 369 rfl rfl
theorem d_L_step_668 : dn cL_step 668 (.goto 4) 3 671 := dnAt dc_L_step 370 rfl rfl
theorem d_L_step_672 : dn cL_step 672 (.ireturn) 1 673 := dnAt dc_L_step 372 rfl rfl
theorem d_L_step_673 : dn cL_step 673 (.aload_n 1) 1 674 := dnAt dc_L_step 373 rfl rfl
theorem d_L_step_674 : dn cL_step 674 (.iconst 4) 1 675 := dnAt dc_L_step 374 rfl rfl
theorem d_L_step_675 : dn cL_step 675 (.iload 6) 2 677 := dnAt dc_L_step 375 rfl rfl
theorem d_L_step_677 : dn cL_step 677 (.iadd) 1 678 := dnAt dc_L_step 376 rfl rfl
theorem d_L_step_678 : dn cL_step 678 (.iaload) 1 679 := dnAt dc_L_step 377 rfl rfl
theorem d_L_step_679 : dn cL_step 679 (.ifCond .eq 10) 3 682 := dnAt dc_L_step 378 rfl rfl
theorem d_L_step_682 : dn cL_step 682 (.iload 4) 2 684 := dnAt dc_L_step 379 rfl rfl
theorem d_L_step_684 : dn cL_step 684 (.iconst 3) 1 685 := dnAt dc_L_step 380 rfl rfl
theorem d_L_step_685 : dn cL_step 685 (.irem) 1 686 := dnAt dc_L_step 381 rfl rfl
theorem d_L_step_686 : dn cL_step 686 (.ifCond .le 41) 3 689 := dnAt dc_L_step 382 rfl rfl
theorem d_L_step_689 : dn cL_step 689 (.aload_n 0) 1 690 := dnAt dc_L_step 383 rfl rfl
theorem d_L_step_690 : dn cL_step 690 (.iload 6) 2 692 := dnAt dc_L_step 384 rfl rfl
theorem d_L_step_692 : dn cL_step 692 (.invokevirtual 82) 3 695 := dnAt dc_L_step 385 rfl rfl
theorem d_L_step_695 : dn cL_step 695 (.iconst (-1)) 1 696 := dnAt dc_L_step 386 rfl rfl
theorem d_L_step_696 : dn cL_step 696 (.if_icmp .ne 7) 3 699 := dnAt dc_L_step 387 rfl rfl
theorem d_L_step_699 : dn cL_step 699 (.iconst 1) 1 700 := dnAt dc_L_step 388 rfl rfl
theorem d_L_step_700 : dn cL_step 700 (.goto 4) 3 703 := dnAt dc_L_step 389 rfl rfl
theorem d_L_step_703 : dn cL_step 703 (.iconst 0) 1 704 := dnAt dc_L_step 390 rfl rfl
theorem d_L_step_704 : dn cL_step 704 (.aload_n 1) 1 705 := dnAt dc_L_step 391 rfl rfl
theorem d_L_step_705 : dn cL_step 705 (.iconst 4) 1 706 := dnAt dc_L_step 392 rfl rfl
theorem d_L_step_706 : dn cL_step 706 (.iload 6) 2 708 := dnAt dc_L_step 393 rfl rfl
theorem d_L_step_708 : dn cL_step 708 (.iadd) 1 709 := dnAt dc_L_step 394 rfl rfl
theorem d_L_step_709 : dn cL_step 709 (.iaload) 1 710 := dnAt dc_L_step 395 rfl rfl
theorem d_L_step_710 : dn cL_step 710 (.ifCond .ne 7) 3 713 := dnAt dc_L_step 396 rfl rfl
theorem d_L_step_713 : dn cL_step 713 (.iconst 1) 1 714 := dnAt dc_L_step 397 rfl rfl
theorem d_L_step_714 : dn cL_step 714 (.goto 4) 3 717 := dnAt dc_L_step 398 rfl rfl
theorem d_L_step_717 : dn cL_step 717 (.iconst 0) 1 718 := dnAt dc_L_step 399 rfl rfl
theorem d_L_step_718 : dn cL_step 718 (.if_icmp .ne 7) 3 721 := dnAt dc_L_step 400 rfl rfl
theorem d_L_step_721 : dn cL_step 721 (.iconst 1) 1 722 := dnAt dc_L_step 401 rfl rfl
theorem d_L_step_722 : dn cL_step 722 (.goto 4) 3 725 := dnAt dc_L_step 402 rfl rfl
theorem d_L_step_726 : dn cL_step 726 (.ireturn) 1 727 := dnAt dc_L_step 404 rfl rfl
theorem d_L_step_727 : dn cL_step 727 (.aload_n 1) 1 728 := dnAt dc_L_step 405 rfl rfl
theorem d_L_step_728 : dn cL_step 728 (.iconst 4) 1 729 := dnAt dc_L_step 406 rfl rfl
theorem d_L_step_729 : dn cL_step 729 (.iload 6) 2 731 := dnAt dc_L_step 407 rfl rfl
theorem d_L_step_731 : dn cL_step 731 (.iadd) 1 732 := dnAt dc_L_step 408 rfl rfl
theorem d_L_step_732 : dn cL_step 732 (.iconst 0) 1 733 := dnAt dc_L_step 409 rfl rfl
theorem d_L_step_733 : dn cL_step 733 (.iastore) 1 734 := dnAt dc_L_step 410 rfl rfl
theorem d_L_step_734 : dn cL_step 734 (.aload_n 0) 1 735 := dnAt dc_L_step 411 rfl rfl
theorem d_L_step_735 : dn cL_step 735 (.iload 6) 2 737 := dnAt dc_L_step 412 rfl rfl
theorem d_L_step_737 : dn cL_step 737 (.invokevirtual 82) 3 740 := dnAt dc_L_step 413 rfl rfl
theorem d_L_step_740 : dn cL_step 740 (.istore 14) 2 742 := dnAt dc_L_step 414 rfl rfl
theorem d_L_step_742 : dn cL_step 742 (.aload_n 0) 1 743 := dnAt dc_L_step 415 rfl rfl
theorem d_L_step_743 : dn cL_step 743 (.iload 6) 2 745 := dnAt dc_L_step 416 rfl rfl
theorem d_L_step_745 : dn cL_step 745 (.invokevirtual 114) 3 748 := dnAt dc_L_step 417 rfl rfl
theorem d_L_step_748 : dn cL_step 748 (.iload 14) 2 750 := dnAt dc_L_step 418 rfl rfl
theorem d_L_step_750 : dn cL_step 750 (.if_icmp .ne 17) 3 753 := dnAt dc_L_step 419 rfl rfl
theorem d_L_step_753 : dn cL_step 753 (.aload_n 0) 1 754 := dnAt dc_L_step 420 rfl rfl
theorem d_L_step_754 : dn cL_step 754 (.iload 6) 2 756 := dnAt dc_L_step 421 rfl rfl
theorem d_L_step_756 : dn cL_step 756 (.invokevirtual 82) 3 759 := dnAt dc_L_step 422 rfl rfl
theorem d_L_step_759 : dn cL_step 759 (.iconst (-1)) 1 760 := dnAt dc_L_step 423 rfl rfl
theorem d_L_step_760 : dn cL_step 760 (.if_icmp .ne 7) 3 763 := dnAt dc_L_step 424 rfl rfl
theorem d_L_step_763 : dn cL_step 763 (.iconst 1) 1 764 := dnAt dc_L_step 425 rfl rfl
theorem d_L_step_764 : dn cL_step 764 (.goto 4) 3 767 := dnAt dc_L_step 426 rfl rfl
theorem d_L_step_768 : dn cL_step 768 (.ireturn) 1 769 := dnAt dc_L_step 428 rfl rfl
set_option maxHeartbeats 4000000 in
set_option maxRecDepth 100000 in
theorem lawm_step {l : Launch} {G : eG} {ad : Nat → Nat → Nat} {g : mS} {f : Nat → Nat} {what a b k0 : Nat} (hlf : l.stackTraces = false) (hwt : what < 2147483648) (ha : a < 2147483648) (hb : b < 2147483648) (P : pI g f k0) (hk0 : k0 < 1000) : kW l G ad g f yL_step cL_step 15 (Option.some Jvm.ClassFile.FieldType.boolean) { frames := 11, cells := 2000, slots := 16000, locals := 216 } [.ref (ad 0 0), .ref (ad 101 0), .int (nI what), .int (nI a), .int (nI b)] (fun v g' f' => v = some (.int (bI true)) ∧ pI g' f' (k0 + 1)) := by
  refine kW.of hlf (by decide) (Nat.le_of_ble_eq_true rfl) (Nat.le_of_ble_eq_true rfl) ?_
  intro x LX C A TY
  show VP G x ad g f { frames := 11, cells := 2000, slots := 16000, locals := 216 } 2000 0 [(0, .ref (ad 0 0)), (1, .ref (ad 101 0)), (2, .int (nI what)), (3, .int (nI a)), (4, .int (nI b))] []
  refine p_AI (fun A0 => ?_)
  have h12 : mK g 15 ≤ 12 := pats_le A0.1
  have h400 := A0.1.1 0 (by omega)
  have h401 := A0.1.1 1 (by omega)
  have f2 : f 2 = mK g 15 := P.2.1
  have f3 : f 3 = mK g 40 := P.2.2.1
  have hf20 : f 20 ≤ k0 := P.2.2.2.2.2.1
  have hpr := pairs_le A0
  refine p_iload_n C d_L_step_0 3 rfl ?_
  refine p_iconst C d_L_step_1 (v := (nI 2)) rfl ?_
  refine pn_irem C d_L_step_2 (by omega) (by omega) (by omega) ?_
  obtain ⟨sd, esd, hsd⟩ : ∃ sd, a % 2 = sd ∧ sd < 2 := ⟨_, rfl, Nat.mod_lt _ (by decide)⟩
  rw [esd]
  have hS : f sd = mN g 1 sd := P.1 sd hsd
  have h40 := A0.1.1 sd hsd
  refine p_istore C d_L_step_3 (lv' := [(5, .int (nI sd)), (0, .ref (ad 0 0)), (1, .ref (ad 101 0)), (2, .int (nI what)), (3, .int (nI a)), (4, .int (nI b))]) (by decide) rfl ?_
  refine p_iload_n C d_L_step_5 4 rfl ?_
  refine p_iconst C d_L_step_6 (v := (nI 2)) rfl ?_
  refine pn_idiv C d_L_step_7 (by omega) (by omega) (by omega) ?_
  refine p_bipush C d_L_step_8 (v := (nI 8)) rfl ?_
  refine pn_irem C d_L_step_10 (by omega) (by omega) (by omega) ?_
  obtain ⟨rs, ers, hrs⟩ : ∃ rs, a / 2 % 8 = rs ∧ rs < 8 := ⟨_, rfl, Nat.mod_lt _ (by decide)⟩
  rw [ers]
  have hc4 := pI_c P hrs
  refine p_istore C d_L_step_11 (lv' := [(6, .int (nI rs)), (5, .int (nI sd)), (0, .ref (ad 0 0)), (1, .ref (ad 101 0)), (2, .int (nI what)), (3, .int (nI a)), (4, .int (nI b))]) (by decide) rfl ?_
  refine p_iload C d_L_step_13 6 rfl ?_
  refine p_bipush C d_L_step_15 (v := (nI 8)) rfl ?_
  refine pn_irem C d_L_step_17 (by omega) (by omega) (by omega) ?_
  obtain ⟨qs, eqs, hqs⟩ : ∃ qs, b % 8 = qs ∧ qs < 8 := ⟨_, rfl, Nat.mod_lt _ (by decide)⟩
  rw [eqs]
  have hc4q := pI_c P hqs
  refine p_istore C d_L_step_18 (lv' := [(7, .int (nI qs)), (6, .int (nI rs)), (5, .int (nI sd)), (0, .ref (ad 0 0)), (1, .ref (ad 101 0)), (2, .int (nI what)), (3, .int (nI a)), (4, .int (nI b))]) (by decide) rfl ?_
  refine p_iload_n C d_L_step_20 5 rfl ?_
  refine p_bipush C d_L_step_21 (v := (nI 16)) rfl ?_
  refine pn_irem C d_L_step_23 (by omega) (by omega) (by omega) ?_
  obtain ⟨tt, ett, htt⟩ : ∃ tt, what % 16 = tt ∧ tt < 16 := ⟨_, rfl, Nat.mod_lt _ (by decide)⟩
  rw [ett]
  have join_100 : VP G x ad g f { frames := 11, cells := 2000, slots := 16000, locals := 216 } 2000 100 [(7, .int (nI qs)), (6, .int (nI rs)), (5, .int (nI sd)), (0, .ref (ad 0 0)), (1, .ref (ad 101 0)), (2, .int (nI what)), (3, .int (nI a)), (4, .int (nI b))] [] := by
    refine p_aload_n C d_L_step_100 4 rfl ?_
    refine p_iload C d_L_step_101 2 rfl ?_
    refine p_cld C d_L_step_103 (by omega) ?_
    refine p_st (st' := [.int (nI (mN g 1 sd))]) (by rw [hS]) ?_
    refine p_bipush C d_L_step_104 (v := (nI 40)) rfl ?_
    refine pn_icmp_ne C d_L_step_106 (tgt := 126) rfl (by omega) (by omega) (fun c_106 => ?_) (fun c_106 => ?_)
    · skip
      refine p_aload_n C d_L_step_126 4 rfl ?_
      refine p_iload C d_L_step_127 2 rfl ?_
      refine p_dup2 C d_L_step_129 rfl rfl ?_
      refine p_cld C d_L_step_130 (by omega) ?_
      refine p_st (st' := [.int (nI (mN g 1 sd)), .int (nI sd), .ref (ad 101 0)]) (by rw [hS]) ?_
      refine p_iconst C d_L_step_131 (v := (nI 1)) rfl ?_
      refine pn_iadd C d_L_step_132 ?_
      refine p_cst C (v := (mN g 1 sd) + 1) d_L_step_133 (by omega) ?_
      refine p_aload_n C d_L_step_134 3 rfl ?_
      refine p_iload C d_L_step_135 2 rfl ?_
      refine p_iload_n C d_L_step_137 6 rfl ?_
      refine p_iconst C d_L_step_138 (v := (nI 2)) rfl ?_
      refine pn_idiv C d_L_step_139 (by omega) (by omega) (by omega) ?_
      refine p_iconst C d_L_step_140 (v := (nI 5)) rfl ?_
      refine pn_irem C d_L_step_141 (by omega) (by omega) (by omega) ?_
      refine p_iload C d_L_step_142 7 rfl ?_
      refine p_iconst C d_L_step_144 (v := (nI 3)) rfl ?_
      refine pn_irem C d_L_step_145 (by omega) (by omega) (by omega) ?_
      refine p_iload C d_L_step_146 7 rfl ?_
      refine p_iconst C d_L_step_148 (v := (nI 3)) rfl ?_
      refine pn_idiv C d_L_step_149 (by omega) (by omega) (by omega) ?_
      refine p_iconst C d_L_step_150 (v := (nI 2)) rfl ?_
      refine pn_irem C d_L_step_151 (by omega) (by omega) (by omega) ?_
      refine p_callX (As := [.int (nI sd), .int (nI ((a / 2) % 5)), .int (nI (b % 3)), .int (nI ((b / 3) % 2))]) (B' := 1995) C LX d_L_step_152 ok_RL_70 (fun l h T X Y hl m A k => q_token hl m A k (a_cTok hsd (by omega) (by omega) (by omega) c_106)) (fun _ x => x) rfl rfl (rest := []) rfl (Nat.le_of_ble_eq_true rfl) ⟨by decide, Nat.le_of_ble_eq_true rfl⟩ ⟨(show 1995 + 5 ≤ 2000 by omega), Nat.le_of_ble_eq_true rfl⟩ (fun v9 gT e1 => ?_)
      obtain ⟨rfl, e1⟩ := e1
      show VP G x ad gT (uF f sd ((mN g 1 sd) + 1)) { frames := 11, cells := 2000, slots := 16000, locals := 216 } 1995 155 [(7, .int (nI qs)), (6, .int (nI rs)), (5, .int (nI sd)), (0, .ref (ad 0 0)), (1, .ref (ad 101 0)), (2, .int (nI what)), (3, .int (nI a)), (4, .int (nI b))] [.int (nI (rToken g (nI sd) (nI (a / 2 % 5)) (nI (b % 3)) (nI (b / 3 % 2))))]
      refine p_st (st' := [.int (nI (mN g 1 sd))]) (by rw [a_tok hsd (by omega) (by omega) (by omega) c_106]) ?_
      obtain ⟨tN, tB, tK, tI⟩ := e1
      simp only [tn_n (show sd < 10000 by omega), tn_n (show a / 2 % 5 < 10000 by omega), tn_n (show b % 3 < 10000 by omega), tn_n (show b / 3 % 2 < 10000 by omega)] at tN tB
      obtain ⟨tk1, tk2, tk3⟩ := tok_occ (by omega) (by omega) tN
      refine p_aload_n C d_L_step_155 4 rfl ?_
      refine p_iload C d_L_step_156 2 rfl ?_
      refine p_cld C d_L_step_158 (by omega) ?_
      refine p_st (st' := [.int (nI ((mN g 1 sd) + 1)), .int (nI (mN g 1 sd))]) (by rw [uF_s]) ?_
      refine p_iconst C d_L_step_159 (v := (nI 1)) rfl ?_
      refine pn_isub C d_L_step_160 (by omega) ?_
      refine pn_icmp_ne C d_L_step_161 (tgt := 196) rfl (by omega) (by omega) (fun c_161 => ?_) (fun c_161 => ?_)
      · skip
        exfalso; omega
      · skip
        refine p_aload_n C d_L_step_164 3 rfl ?_
        refine p_iload C d_L_step_165 2 rfl ?_
        refine p_callX (As := [.int (nI sd)]) (B' := 1994) C LX d_L_step_167 ok_RL_66 (fun l h T X Y hl m A k => q_tokens hl m A k (a_side hsd)) (fun _ x => x) rfl rfl (rest := []) rfl (Nat.le_of_ble_eq_true rfl) ⟨by decide, Nat.le_of_ble_eq_true rfl⟩ ⟨(show 1994 + 1 ≤ 1995 by omega), Nat.le_of_ble_eq_true rfl⟩ (fun v9 g2 e2 => ?_)
        obtain ⟨rfl, e2⟩ := e2
        show VP G x ad g2 (uF f sd ((mN g 1 sd) + 1)) { frames := 11, cells := 2000, slots := 16000, locals := 216 } 1994 170 [(7, .int (nI qs)), (6, .int (nI rs)), (5, .int (nI sd)), (0, .ref (ad 0 0)), (1, .ref (ad 101 0)), (2, .int (nI what)), (3, .int (nI a)), (4, .int (nI b))] [.int (nI (rTokens gT (nI sd)))]
        refine p_st (st' := [.int (nI (mN g 1 sd + 1))]) (by rw [a_tokens hsd, tk1]) ?_
        refine p_aload_n C d_L_step_170 4 rfl ?_
        refine p_iload C d_L_step_171 2 rfl ?_
        refine p_cld C d_L_step_173 (by omega) ?_
        refine p_st (st' := [.int (nI ((mN g 1 sd) + 1)), .int (nI (mN g 1 sd + 1))]) (by rw [uF_s]) ?_
        refine pn_icmp_ne C d_L_step_174 (tgt := 196) rfl (by omega) (by omega) (fun c_174 => ?_) (fun c_174 => ?_)
        · skip
          exfalso; omega
        · skip
          refine p_aload_n C d_L_step_177 3 rfl ?_
          refine p_iload C d_L_step_178 2 rfl ?_
          refine p_iconst C d_L_step_180 (v := (nI 0)) rfl ?_
          refine p_iload_n C d_L_step_181 6 rfl ?_
          refine p_iconst C d_L_step_182 (v := (nI 2)) rfl ?_
          refine pn_idiv C d_L_step_183 (by omega) (by omega) (by omega) ?_
          refine p_iconst C d_L_step_184 (v := (nI 5)) rfl ?_
          refine pn_irem C d_L_step_185 (by omega) (by omega) (by omega) ?_
          refine p_callX (As := [.int (nI sd), .int (nI 0), .int (nI ((a / 2) % 5))]) (B' := 1992) C LX d_L_step_186 ok_RL_74 (fun l h T X Y hl m A k => q_occurs hl m A k (a_cOcc hsd (by omega))) (fun _ x => x) rfl rfl (rest := []) rfl (Nat.le_of_ble_eq_true rfl) ⟨by decide, Nat.le_of_ble_eq_true rfl⟩ ⟨(show 1992 + 2 ≤ 1994 by omega), Nat.le_of_ble_eq_true rfl⟩ (fun v9 g3 e3 => ?_)
          obtain ⟨rfl, e3⟩ := e3
          show VP G x ad g3 (uF f sd ((mN g 1 sd) + 1)) { frames := 11, cells := 2000, slots := 16000, locals := 216 } 1992 189 [(7, .int (nI qs)), (6, .int (nI rs)), (5, .int (nI sd)), (0, .ref (ad 0 0)), (1, .ref (ad 101 0)), (2, .int (nI what)), (3, .int (nI a)), (4, .int (nI b))] [.int (nI (rOccurs g2 (nI sd) (nI 0) (nI (a / 2 % 5))))]
          refine p_st (st' := [.int (nI (nOccurs gT sd 0 (nI (a / 2 % 5)) (mN gT 1 sd)))]) (by rw [a_occ hsd, x_occ e2]) ?_
          refine pn_if_le C d_L_step_189 (tgt := 196) rfl (by omega) (fun c_189 => ?_) (fun c_189 => ?_)
          · skip
            exfalso; omega
          · skip
            refine p_iconst C d_L_step_192 (v := (bI true)) rfl ?_
            refine p_goto C d_L_step_193 (tgt := 197) rfl ?_
            exact p_iret C A TY d_L_step_197 rfl (⟨rfl, pI_le (pI_eqv (pI_tok A0 P hsd (by omega) tN tB tK tI) (e2.tr e3)) (by omega)⟩)
    · skip
      refine p_aload_n C d_L_step_109 3 rfl ?_
      refine p_iload C d_L_step_110 2 rfl ?_
      refine p_callX (As := [.int (nI sd)]) (B' := 1999) C LX d_L_step_112 ok_RL_66 (fun l h T X Y hl m A k => q_tokens hl m A k (a_side hsd)) (fun _ x => x) rfl rfl (rest := []) rfl (Nat.le_of_ble_eq_true rfl) ⟨by decide, Nat.le_of_ble_eq_true rfl⟩ ⟨(show 1999 + 1 ≤ 2000 by omega), Nat.le_of_ble_eq_true rfl⟩ (fun v9 g4 e4 => ?_)
      obtain ⟨rfl, e4⟩ := e4
      show VP G x ad g4 f { frames := 11, cells := 2000, slots := 16000, locals := 216 } 1999 115 [(7, .int (nI qs)), (6, .int (nI rs)), (5, .int (nI sd)), (0, .ref (ad 0 0)), (1, .ref (ad 101 0)), (2, .int (nI what)), (3, .int (nI a)), (4, .int (nI b))] [.int (nI (rTokens g (nI sd)))]
      refine p_st (st' := [.int (nI (mN g 1 sd))]) (by rw [a_tokens hsd]) ?_
      refine p_bipush C d_L_step_115 (v := (nI 40)) rfl ?_
      refine pn_icmp_ne C d_L_step_117 (tgt := 124) rfl (by omega) (by omega) (fun c_117 => ?_) (fun c_117 => ?_)
      · skip
        exfalso; omega
      · skip
        refine p_iconst C d_L_step_120 (v := (bI true)) rfl ?_
        refine p_goto C d_L_step_121 (tgt := 125) rfl ?_
        exact p_iret C A TY d_L_step_125 rfl (⟨rfl, pI_le (pI_eqv P e4) (by omega)⟩)
  have join_198 : VP G x ad g f { frames := 11, cells := 2000, slots := 16000, locals := 216 } 2000 198 [(7, .int (nI qs)), (6, .int (nI rs)), (5, .int (nI sd)), (0, .ref (ad 0 0)), (1, .ref (ad 101 0)), (2, .int (nI what)), (3, .int (nI a)), (4, .int (nI b))] [] := by
    refine p_aload_n C d_L_step_198 4 rfl ?_
    refine p_iload C d_L_step_199 2 rfl ?_
    refine p_cld C d_L_step_201 (by omega) ?_
    refine p_st (st' := [.int (nI (mN g 1 sd))]) (by rw [hS]) ?_
    refine pn_if_eq C d_L_step_202 (tgt := 244) rfl (by omega) (fun c_202 => ?_) (fun c_202 => ?_)
    · skip
      refine p_iconst C d_L_step_244 (v := (bI true)) rfl ?_
      refine p_goto C d_L_step_245 (tgt := 249) rfl ?_
      exact p_iret C A TY d_L_step_249 rfl (⟨rfl, pI_le P (by omega)⟩)
    · skip
      have join_220 : ∀ (tq : Bool), VP G x ad g f { frames := 11, cells := 2000, slots := 16000, locals := 216 } 2000 220 [(7, .int (nI qs)), (6, .int (nI rs)), (5, .int (nI sd)), (0, .ref (ad 0 0)), (1, .ref (ad 101 0)), (2, .int (nI what)), (3, .int (nI a)), (4, .int (nI b))] [.int (bI tq), .int (nI sd), .ref (ad 0 0)] := by
        intro tq
        refine p_callX (As := [.int (nI sd), .int (bI tq)]) (B' := 1998) C LX d_L_step_220 ok_RL_78 (fun l h T X Y hl m A k => q_end hl m A k (a_cEnd hsd (by omega))) (fun _ x => x) rfl rfl (rest := []) rfl (Nat.le_of_ble_eq_true rfl) ⟨by decide, Nat.le_of_ble_eq_true rfl⟩ ⟨(show 1998 + 2 ≤ 2000 by omega), Nat.le_of_ble_eq_true rfl⟩ (fun v9 g5 e5 => ?_)
        obtain ⟨rfl, e5⟩ := e5
        show VP G x ad g5 f { frames := 11, cells := 2000, slots := 16000, locals := 216 } 1998 223 [(7, .int (nI qs)), (6, .int (nI rs)), (5, .int (nI sd)), (0, .ref (ad 0 0)), (1, .ref (ad 101 0)), (2, .int (nI what)), (3, .int (nI a)), (4, .int (nI b))] [.int (nI (rEnd g (nI sd)))]
        refine p_st (st' := [.int (nI (mN g 1 sd))]) (by rw [a_end hsd (by omega)]) ?_
        obtain ⟨dN5, d55, d65, dK5, dI5⟩ := e5
        simp only [tn_n (show sd < 10000 by omega)] at d55 d65
        refine p_aload_n C d_L_step_223 4 rfl ?_
        refine p_iload C d_L_step_224 2 rfl ?_
        refine p_cld C d_L_step_226 (by omega) ?_
        refine p_st (st' := [.int (nI (mN g 1 sd)), .int (nI (mN g 1 sd))]) (by rw [hS]) ?_
        refine pn_icmp_ne C d_L_step_227 (tgt := 248) rfl (by omega) (by omega) (fun c_227 => ?_) (fun c_227 => ?_)
        · skip
          exfalso; omega
        · skip
          refine p_aload_n C d_L_step_230 3 rfl ?_
          refine p_iload C d_L_step_231 2 rfl ?_
          refine p_iconst C d_L_step_233 (v := (bI false)) rfl ?_
          refine p_callX (As := [.int (nI sd), .int (bI false)]) (B' := 1996) C LX d_L_step_234 ok_RL_78 (fun l h T X Y hl m A k => q_end hl m A k (a_cEnd hsd (by rw [dN5]; omega))) (fun _ x => x) rfl rfl (rest := []) rfl (Nat.le_of_ble_eq_true rfl) ⟨by decide, Nat.le_of_ble_eq_true rfl⟩ ⟨(show 1996 + 2 ≤ 1998 by omega), Nat.le_of_ble_eq_true rfl⟩ (fun v9 g6 e6 => ?_)
          obtain ⟨rfl, e6⟩ := e6
          show VP G x ad g6 f { frames := 11, cells := 2000, slots := 16000, locals := 216 } 1996 237 [(7, .int (nI qs)), (6, .int (nI rs)), (5, .int (nI sd)), (0, .ref (ad 0 0)), (1, .ref (ad 101 0)), (2, .int (nI what)), (3, .int (nI a)), (4, .int (nI b))] [.int (nI (rEnd g5 (nI sd)))]
          refine p_st (st' := [.int (nI (mN g 1 sd))]) (by rw [a_end hsd (by rw [dN5]; omega), dN5]) ?_
          obtain ⟨dN6, d56, d66, dK6, dI6⟩ := e6
          simp only [tn_n (show sd < 10000 by omega)] at d56 d66
          refine p_aload_n C d_L_step_237 4 rfl ?_
          refine p_iload C d_L_step_238 2 rfl ?_
          refine p_cld C d_L_step_240 (by omega) ?_
          refine p_st (st' := [.int (nI (mN g 1 sd)), .int (nI (mN g 1 sd))]) (by rw [hS]) ?_
          refine pn_icmp_ne C d_L_step_241 (tgt := 248) rfl (by omega) (by omega) (fun c_241 => ?_) (fun c_241 => ?_)
          · skip
            exfalso; omega
          · skip
            refine p_iconst C d_L_step_244 (v := (bI true)) rfl ?_
            refine p_goto C d_L_step_245 (tgt := 249) rfl ?_
            exact p_iret C A TY d_L_step_249 rfl (⟨rfl, pI_le (pI_end (pI_end P dN5 d55 d65 dK5 dI5) dN6 d56 d66 dK6 dI6) (by omega)⟩)
      refine p_aload_n C d_L_step_205 3 rfl ?_
      refine p_iload C d_L_step_206 2 rfl ?_
      refine p_iload C d_L_step_208 7 rfl ?_
      refine p_iconst C d_L_step_210 (v := (nI 3)) rfl ?_
      refine pn_irem C d_L_step_211 (by omega) (by omega) (by omega) ?_
      refine pn_if_ne C d_L_step_212 (tgt := 219) rfl (by omega) (fun c_212 => ?_) (fun c_212 => ?_)
      · skip
        refine p_iconst C d_L_step_219 (v := (bI false)) rfl ?_
        exact join_220 false 
      · skip
        refine p_iconst C d_L_step_215 (v := (bI true)) rfl ?_
        refine p_goto C d_L_step_216 (tgt := 220) rfl ?_
        exact join_220 true 
  have join_250 : VP G x ad g f { frames := 11, cells := 2000, slots := 16000, locals := 216 } 2000 250 [(7, .int (nI qs)), (6, .int (nI rs)), (5, .int (nI sd)), (0, .ref (ad 0 0)), (1, .ref (ad 101 0)), (2, .int (nI what)), (3, .int (nI a)), (4, .int (nI b))] [] := by
    have join_262 : VP G x ad g f { frames := 11, cells := 2000, slots := 16000, locals := 216 } 2000 262 [(7, .int (nI qs)), (6, .int (nI rs)), (5, .int (nI sd)), (0, .ref (ad 0 0)), (1, .ref (ad 101 0)), (2, .int (nI what)), (3, .int (nI a)), (4, .int (nI b))] [] := by
      refine p_aload_n C d_L_step_262 3 rfl ?_
      refine p_iconst C d_L_step_263 (v := (nI 0)) rfl ?_
      refine p_callC (As := [.int (nI 0)]) (B' := 2000) C d_L_step_264 ok_RL_82 (fun l h T X Y m A k => q_size m A k ) rfl rfl (rest := []) rfl (Nat.le_of_ble_eq_true rfl) ⟨by decide, Nat.le_of_ble_eq_true rfl⟩ ⟨(show 2000 + 0 ≤ 2000 by omega), Nat.le_of_ble_eq_true rfl⟩ (fun v9 g7 e7 => ?_)
      obtain ⟨rfl, e7⟩ := e7
      show VP G x ad g7 f { frames := 11, cells := 2000, slots := 16000, locals := 216 } 2000 267 [(7, .int (nI qs)), (6, .int (nI rs)), (5, .int (nI sd)), (0, .ref (ad 0 0)), (1, .ref (ad 101 0)), (2, .int (nI what)), (3, .int (nI a)), (4, .int (nI b))] [.int (rSz g ((nI 0)))]
      refine p_iconst C d_L_step_267 (v := ((-1))) rfl ?_
      refine p_icmp_lt C d_L_step_268 (tgt := 275) rfl (fun c_268 => ?_) (fun c_268 => ?_)
      · skip
        exact absurd c_268 rSz_ge
      · skip
        refine p_iconst C d_L_step_271 (v := (bI true)) rfl ?_
        refine p_goto C d_L_step_272 (tgt := 276) rfl ?_
        exact p_iret C A TY d_L_step_276 rfl (⟨rfl, pI_le (pI_eqv P e7) (by omega)⟩)
    refine p_aload_n C d_L_step_250 4 rfl ?_
    refine p_iconst C d_L_step_251 (v := (nI 0)) rfl ?_
    refine p_cld C d_L_step_252 (by omega) ?_
    refine p_st (st' := [.int (nI (mN g 1 0))]) (by rw [P.1 0 (by omega)]) ?_
    refine pn_if_eq C d_L_step_253 (tgt := 262) rfl (by omega) (fun c_253 => ?_) (fun c_253 => ?_)
    · skip
      exact join_262  
    · skip
      refine p_aload_n C d_L_step_256 4 rfl ?_
      refine p_iconst C d_L_step_257 (v := (nI 1)) rfl ?_
      refine p_cld C d_L_step_258 (by omega) ?_
      refine p_st (st' := [.int (nI (mN g 1 1))]) (by rw [P.1 1 (by omega)]) ?_
      refine pn_if_ne C d_L_step_259 (tgt := 277) rfl (by omega) (fun c_259 => ?_) (fun c_259 => ?_)
      · skip
        refine p_aload_n C d_L_step_277 3 rfl ?_
        refine p_iconst C d_L_step_278 (v := (nI 0)) rfl ?_
        refine p_iload_n C d_L_step_279 6 rfl ?_
        refine p_aload_n C d_L_step_280 4 rfl ?_
        refine p_iconst C d_L_step_281 (v := (nI 0)) rfl ?_
        refine p_cld C d_L_step_282 (by omega) ?_
        refine p_st (st' := [.int (nI (mN g 1 0)), .int (nI a), .int (nI 0), .ref (ad 0 0)]) (by rw [P.1 0 (by omega)]) ?_
        refine pn_irem C d_L_step_283 (by omega) (by omega) (by omega) ?_
        obtain ⟨p0, ep0, hp0⟩ : ∃ p0, a % mN g 1 0 = p0 ∧ p0 < mN g 1 0 := ⟨_, rfl, Nat.mod_lt _ (by omega)⟩
        rw [ep0]
        refine p_callX (As := [.int (nI 0), .int (nI p0)]) (B' := 1998) C LX d_L_step_284 ok_RL_85 (fun l h T X Y hl m A k => q_sentenceOf hl m A k (a_cSent (by omega) hp0 h400)) (fun _ x => x) rfl rfl (rest := []) rfl (Nat.le_of_ble_eq_true rfl) ⟨by decide, Nat.le_of_ble_eq_true rfl⟩ ⟨(show 1998 + 2 ≤ 2000 by omega), Nat.le_of_ble_eq_true rfl⟩ (fun v9 gN1 e8 => ?_)
        obtain ⟨rfl, e8⟩ := e8
        show VP G x ad gN1 f { frames := 11, cells := 2000, slots := 16000, locals := 216 } 1998 287 [(7, .int (nI qs)), (6, .int (nI rs)), (5, .int (nI sd)), (0, .ref (ad 0 0)), (1, .ref (ad 101 0)), (2, .int (nI what)), (3, .int (nI a)), (4, .int (nI b))] [.int (nI (rSent g (nI 0) (nI p0)))]
        refine p_st (st' := [.int (nI (mN g 3 (40 * 0 + p0)))]) (by rw [a_sent (by omega) hp0 h400]) ?_
        have eN1 := e8
        refine p_istore C d_L_step_287 (lv' := [(8, .int (nI (mN g 3 (40 * 0 + p0)))), (7, .int (nI qs)), (6, .int (nI rs)), (5, .int (nI sd)), (0, .ref (ad 0 0)), (1, .ref (ad 101 0)), (2, .int (nI what)), (3, .int (nI a)), (4, .int (nI b))]) (by decide) rfl ?_
        refine p_aload_n C d_L_step_289 4 rfl ?_
        refine p_iconst C d_L_step_290 (v := (nI 1)) rfl ?_
        refine p_iload C d_L_step_291 8 rfl ?_
        refine p_aload_n C d_L_step_293 5 rfl ?_
        refine p_iconst C d_L_step_294 (v := (nI 1)) rfl ?_
        refine p_cld C d_L_step_295 (by omega) ?_
        refine p_st (st' := [.int (nI (mN g 1 1)), .int (nI b), .int (nI 1), .ref (ad 0 0)]) (by rw [P.1 1 (by omega)]) ?_
        refine pn_irem C d_L_step_296 (by omega) (by omega) (by omega) ?_
        obtain ⟨p1, ep1, hp1⟩ : ∃ p1, b % mN g 1 1 = p1 ∧ p1 < mN g 1 1 := ⟨_, rfl, Nat.mod_lt _ (by omega)⟩
        rw [ep1]
        refine p_callX (As := [.int (nI 1), .int (nI p1)]) (B' := 1996) C LX d_L_step_297 ok_RL_85 (fun l h T X Y hl m A k => q_sentenceOf hl m A k (a_sentR eN1.res (show 1 < 2 by omega) hp1 h401).1) (fun _ x => x) rfl rfl (rest := []) rfl (Nat.le_of_ble_eq_true rfl) ⟨by decide, Nat.le_of_ble_eq_true rfl⟩ ⟨(show 1996 + 2 ≤ 1998 by omega), Nat.le_of_ble_eq_true rfl⟩ (fun v9 gN2 e9 => ?_)
        obtain ⟨rfl, e9⟩ := e9
        show VP G x ad gN2 f { frames := 11, cells := 2000, slots := 16000, locals := 216 } 1996 300 [(8, .int (nI (mN g 3 (40 * 0 + p0)))), (7, .int (nI qs)), (6, .int (nI rs)), (5, .int (nI sd)), (0, .ref (ad 0 0)), (1, .ref (ad 101 0)), (2, .int (nI what)), (3, .int (nI a)), (4, .int (nI b))] [.int (nI (rSent gN1 (nI 1) (nI p1)))]
        refine p_st (st' := [.int (nI (mN g 3 (40 * 1 + p1)))]) (by rw [(a_sentR eN1.res (show 1 < 2 by omega) hp1 h401).2]) ?_
        have EA := eN1.tr e9
        refine p_istore C d_L_step_300 (lv' := [(9, .int (nI (mN g 3 (40 * 1 + p1)))), (8, .int (nI (mN g 3 (40 * 0 + p0)))), (7, .int (nI qs)), (6, .int (nI rs)), (5, .int (nI sd)), (0, .ref (ad 0 0)), (1, .ref (ad 101 0)), (2, .int (nI what)), (3, .int (nI a)), (4, .int (nI b))]) (by decide) rfl ?_
        refine p_aload_n C d_L_step_302 5 rfl ?_
        refine p_iload C d_L_step_303 1 rfl ?_
        refine p_iload C d_L_step_305 0 rfl ?_
        refine p_callX (As := [.int (nI (mN g 3 (40 * 0 + p0))), .int (nI (mN g 3 (40 * 1 + p1)))]) (B' := 1995) C LX d_L_step_307 ok_RL_88 (fun l h T X Y hl m A k => q_align hl m A k (a_cAlnE A0.1 P.2.2.2.2.2.2 (fun i => EA.N (by decide) i) (fun i => EA.N (by decide) i) hp0 hp1)) (fun _ x => x) rfl rfl (rest := []) rfl (Nat.le_of_ble_eq_true rfl) ⟨by decide, Nat.le_of_ble_eq_true rfl⟩ ⟨(show 1995 + 1 ≤ 1996 by omega), Nat.le_of_ble_eq_true rfl⟩ (fun v9 gL1 e10 => ?_)
        obtain ⟨rfl, e10⟩ := e10
        show VP G x ad gL1 f { frames := 11, cells := 2000, slots := 16000, locals := 216 } 1995 310 [(9, .int (nI (mN g 3 (40 * 1 + p1)))), (8, .int (nI (mN g 3 (40 * 0 + p0)))), (7, .int (nI qs)), (6, .int (nI rs)), (5, .int (nI sd)), (0, .ref (ad 0 0)), (1, .ref (ad 101 0)), (2, .int (nI what)), (3, .int (nI a)), (4, .int (nI b))] [.int (nI (mK (tAl2 gN2 (tn (nI (mN g 3 (40 * 0 + p0)))) (tn (nI (mN g 3 (40 * 1 + p1))))) 40))]
        refine p_st (st' := [.int (nI (mK gL1 40))]) (by rw [e10.1]) ?_
        obtain ⟨l40, l53, lN, lB, lK, lI⟩ := e10
        have l1 : mK gL1 40 = mK g 40 ∨ mK gL1 40 = mK g 40 + 1 := by rw [l40, ← EA.1 40 (by decide) (by decide)]; exact al2_K
        have h53 : mN gL1 53 (40 * 0 + tn (nI (mN g 3 (40 * 0 + p0)))) / 2 ^ tn (nI (mN g 3 (40 * 1 + p1))) % 2 = 1 := by rw [l53]; have y0 := a_sen40 A0.1 (s := 0) (p := p0) (by omega) (by omega); have y1 := a_sen40 A0.1 (s := 1) (p := p1) (by omega) (by omega); exact al2_bit (by rw [tn_n (by omega)]; exact y0) (by rw [tn_n (by omega)]; exact y1)
        refine p_istore C d_L_step_310 (lv' := [(10, .int (nI (mK gL1 40))), (9, .int (nI (mN g 3 (40 * 1 + p1)))), (8, .int (nI (mN g 3 (40 * 0 + p0)))), (7, .int (nI qs)), (6, .int (nI rs)), (5, .int (nI sd)), (0, .ref (ad 0 0)), (1, .ref (ad 101 0)), (2, .int (nI what)), (3, .int (nI a)), (4, .int (nI b))]) (by decide) rfl ?_
        refine p_iload C d_L_step_312 0 rfl ?_
        refine p_aload_n C d_L_step_314 7 rfl ?_
        refine p_iconst C d_L_step_315 (v := (nI 3)) rfl ?_
        refine p_cld C d_L_step_316 (by omega) ?_
        refine p_st (st' := [.int (nI (mK g 40)), .int (nI (mK gL1 40))]) (by rw [f3]) ?_
        refine pn_icmp_lt C d_L_step_317 (tgt := 347) rfl (by omega) (by omega) (fun c_317 => ?_) (fun c_317 => ?_)
        · skip
          exfalso; omega
        · skip
          refine p_iload C d_L_step_320 0 rfl ?_
          refine p_aload_n C d_L_step_322 7 rfl ?_
          refine p_iconst C d_L_step_323 (v := (nI 3)) rfl ?_
          refine p_cld C d_L_step_324 (by omega) ?_
          refine p_st (st' := [.int (nI (mK g 40)), .int (nI (mK gL1 40))]) (by rw [f3]) ?_
          refine p_iconst C d_L_step_325 (v := (nI 1)) rfl ?_
          refine pn_iadd C d_L_step_326 ?_
          refine pn_icmp_gt C d_L_step_327 (tgt := 347) rfl (by omega) (by omega) (fun c_327 => ?_) (fun c_327 => ?_)
          · skip
            exfalso; omega
          · skip
            refine p_aload_n C d_L_step_330 6 rfl ?_
            refine p_iload C d_L_step_331 2 rfl ?_
            refine p_iload C d_L_step_333 1 rfl ?_
            refine p_callX (As := [.int (nI (mN g 3 (40 * 0 + p0))), .int (nI (mN g 3 (40 * 1 + p1)))]) (B' := 1994) C LX d_L_step_335 ok_RL_88 (fun l h T X Y hl m A k => q_align hl m A k (a_cAlnE A0.1 P.2.2.2.2.2.2 (fun i => (lN 1 i (by decide) (by decide)).trans (EA.N (by decide) i)) (fun i => (lN 3 i (by decide) (by decide)).trans (EA.N (by decide) i)) hp0 hp1)) (fun _ x => x) rfl rfl (rest := []) rfl (Nat.le_of_ble_eq_true rfl) ⟨by decide, Nat.le_of_ble_eq_true rfl⟩ ⟨(show 1994 + 1 ≤ 1995 by omega), Nat.le_of_ble_eq_true rfl⟩ (fun v9 gL2 e11 => ?_)
            obtain ⟨rfl, e11⟩ := e11
            show VP G x ad gL2 f { frames := 11, cells := 2000, slots := 16000, locals := 216 } 1994 338 [(10, .int (nI (mK gL1 40))), (9, .int (nI (mN g 3 (40 * 1 + p1)))), (8, .int (nI (mN g 3 (40 * 0 + p0)))), (7, .int (nI qs)), (6, .int (nI rs)), (5, .int (nI sd)), (0, .ref (ad 0 0)), (1, .ref (ad 101 0)), (2, .int (nI what)), (3, .int (nI a)), (4, .int (nI b))] [.int (nI (mK (tAl2 gL1 (tn (nI (mN g 3 (40 * 0 + p0)))) (tn (nI (mN g 3 (40 * 1 + p1))))) 40))]
            refine p_st (st' := [.int (nI (mK gL1 40))]) (by rw [al2_again h53]) ?_
            obtain ⟨m40, m53, mN_, mB_, mK_, mI_⟩ := e11
            refine p_iload C d_L_step_338 0 rfl ?_
            refine pn_icmp_ne C d_L_step_340 (tgt := 347) rfl (by omega) (by omega) (fun c_340 => ?_) (fun c_340 => ?_)
            · skip
              exact absurd rfl c_340
            · skip
              refine p_iconst C d_L_step_343 (v := (bI true)) rfl ?_
              refine p_goto C d_L_step_344 (tgt := 348) rfl ?_
              refine p_istore C d_L_step_348 (lv' := [(11, .int (bI true)), (10, .int (nI (mK gL1 40))), (9, .int (nI (mN g 3 (40 * 1 + p1)))), (8, .int (nI (mN g 3 (40 * 0 + p0)))), (7, .int (nI qs)), (6, .int (nI rs)), (5, .int (nI sd)), (0, .ref (ad 0 0)), (1, .ref (ad 101 0)), (2, .int (nI what)), (3, .int (nI a)), (4, .int (nI b))]) (by decide) rfl ?_
              refine p_aload_n C d_L_step_350 8 rfl ?_
              refine p_iconst C d_L_step_351 (v := (nI 3)) rfl ?_
              refine p_iload C d_L_step_352 1 rfl ?_
              refine p_cst C (v := mK gL1 40) d_L_step_354 (by omega) ?_
              refine p_iload C d_L_step_355 0 rfl ?_
              exact p_iret C A TY d_L_step_357 rfl (⟨rfl, pI_le (pI_aln P (fun j i h1 h2 => (mN_ j i h1 h2).trans ((lN j i h1 h2).trans (EA.N h1 i))) (fun j i h1 => (mB_ j i h1).trans ((lB j i h1).trans (EA.2.2.1 j i (by omega) (by omega)))) ⟨mK_.1.trans (lK.1.trans (EA.1 15 (by decide) (by decide))), mK_.2.trans (lK.2.trans (EA.1 16 (by decide) (by decide)))⟩ (m40.trans (al2_again h53)) (fun i => (mI_ i).trans ((lI i).trans (EA.I20 i)))) (by omega)⟩)
      · skip
        exact join_262  
  have join_358 : VP G x ad g f { frames := 11, cells := 2000, slots := 16000, locals := 216 } 2000 358 [(7, .int (nI qs)), (6, .int (nI rs)), (5, .int (nI sd)), (0, .ref (ad 0 0)), (1, .ref (ad 101 0)), (2, .int (nI what)), (3, .int (nI a)), (4, .int (nI b))] [] := by
    refine p_aload_n C d_L_step_358 3 rfl ?_
    refine p_aload_n C d_L_step_359 4 rfl ?_
    refine p_iload_n C d_L_step_360 6 rfl ?_
    refine p_iload C d_L_step_361 7 rfl ?_
    refine p_callS (As := [.ref (ad 0 0), .ref (ad 101 0), .int (nI a), .int (nI b)]) (B' := 1640) C LX d_L_step_363 ok_RL_91 (fun l hl => lawm_builds hl ha hb P) rfl (rest := []) rfl (Nat.le_of_ble_eq_true rfl) ⟨by decide, Nat.le_of_ble_eq_true rfl⟩ ⟨(show 1640 + 360 ≤ 2000 by omega), Nat.le_of_ble_eq_true rfl⟩ (fun v9 g12 f12 e12 => ?_)
    obtain ⟨rfl, eB⟩ := e12
    show VP G x ad g12 f12 { frames := 11, cells := 2000, slots := 16000, locals := 216 } 1640 366 [(7, .int (nI qs)), (6, .int (nI rs)), (5, .int (nI sd)), (0, .ref (ad 0 0)), (1, .ref (ad 101 0)), (2, .int (nI what)), (3, .int (nI a)), (4, .int (nI b))] [.int (bI true)]
    exact p_iret C A TY d_L_step_366 rfl (⟨rfl, pI_le eB (by omega)⟩)
  have join_367 : VP G x ad g f { frames := 11, cells := 2000, slots := 16000, locals := 216 } 2000 367 [(7, .int (nI qs)), (6, .int (nI rs)), (5, .int (nI sd)), (0, .ref (ad 0 0)), (1, .ref (ad 101 0)), (2, .int (nI what)), (3, .int (nI a)), (4, .int (nI b))] [] := by
    refine p_aload_n C d_L_step_367 4 rfl ?_
    refine p_iconst C d_L_step_368 (v := (nI 2)) rfl ?_
    refine p_cld C d_L_step_369 (by omega) ?_
    refine p_st (st' := [.int (nI (mK g 15))]) (by rw [f2]) ?_
    refine pn_if_eq C d_L_step_370 (tgt := 411) rfl (by omega) (fun c_370 => ?_) (fun c_370 => ?_)
    · skip
      refine p_iconst C d_L_step_411 (v := (bI true)) rfl ?_
      refine p_goto C d_L_step_412 (tgt := 416) rfl ?_
      exact p_iret C A TY d_L_step_416 rfl (⟨rfl, pI_le P (by omega)⟩)
    · skip
      refine p_aload_n C d_L_step_373 3 rfl ?_
      refine p_aload_n C d_L_step_374 4 rfl ?_
      refine p_iload C d_L_step_375 1 rfl ?_
      refine p_iload C d_L_step_377 7 rfl ?_
      refine p_aload_n C d_L_step_379 4 rfl ?_
      refine p_iconst C d_L_step_380 (v := (nI 2)) rfl ?_
      refine p_cld C d_L_step_381 (by omega) ?_
      refine p_st (st' := [.int (nI (mK g 15)), .int (nI b), .int (nI rs), .ref (ad 101 0), .ref (ad 0 0)]) (by rw [f2]) ?_
      refine pn_irem C d_L_step_382 (by omega) (by omega) (by omega) ?_
      obtain ⟨pp, epp, hpp⟩ : ∃ pp, b % mK g 15 = pp ∧ pp < mK g 15 := ⟨_, rfl, Nat.mod_lt _ (by omega)⟩
      rw [epp]
      refine p_iload C d_L_step_383 2 rfl ?_
      refine p_iload_n C d_L_step_385 6 rfl ?_
      refine p_bipush C d_L_step_386 (v := (nI 16)) rfl ?_
      refine pn_idiv C d_L_step_388 (by omega) (by omega) (by omega) ?_
      refine p_iconst C d_L_step_389 (v := (nI 3)) rfl ?_
      refine pn_irem C d_L_step_390 (by omega) (by omega) (by omega) ?_
      have join_405 : ∀ (lq : Bool), VP G x ad g f { frames := 11, cells := 2000, slots := 16000, locals := 216 } 2000 405 [(7, .int (nI qs)), (6, .int (nI rs)), (5, .int (nI sd)), (0, .ref (ad 0 0)), (1, .ref (ad 101 0)), (2, .int (nI what)), (3, .int (nI a)), (4, .int (nI b))] [.int (bI lq), .int (nI (a / 16 % 3)), .int (nI sd), .int (nI pp), .int (nI rs), .ref (ad 101 0), .ref (ad 0 0)] := by
        intro lq
        refine p_callS (As := [.ref (ad 0 0), .ref (ad 101 0), .int (nI rs), .int (nI pp), .int (nI sd), .int (nI (a / 16 % 3)), .int (bI lq)]) (B' := 56) C LX d_L_step_405 ok_RL_95 (fun l hl => lawm_runs hl hrs hpp hsd (by omega) P hk0) rfl (rest := []) rfl (Nat.le_of_ble_eq_true rfl) ⟨by decide, Nat.le_of_ble_eq_true rfl⟩ ⟨(show 56 + 1944 ≤ 2000 by omega), Nat.le_of_ble_eq_true rfl⟩ (fun v9 g13 f13 e13 => ?_)
        obtain ⟨rfl, eR⟩ := e13
        show VP G x ad g13 f13 { frames := 11, cells := 2000, slots := 16000, locals := 216 } 56 408 [(7, .int (nI qs)), (6, .int (nI rs)), (5, .int (nI sd)), (0, .ref (ad 0 0)), (1, .ref (ad 101 0)), (2, .int (nI what)), (3, .int (nI a)), (4, .int (nI b))] [.int (bI true)]
        refine pb_if_eq C d_L_step_408 (tgt := 415) rfl (fun c_408 => ?_) (fun c_408 => ?_)
        · skip
          cases c_408
        · skip
          refine p_iconst C d_L_step_411 (v := (bI true)) rfl ?_
          refine p_goto C d_L_step_412 (tgt := 416) rfl ?_
          exact p_iret C A TY d_L_step_416 rfl (⟨rfl, eR⟩)
      refine p_iload_n C d_L_step_391 6 rfl ?_
      refine p_bipush C d_L_step_392 (v := (nI 48)) rfl ?_
      refine pn_idiv C d_L_step_394 (by omega) (by omega) (by omega) ?_
      refine p_iconst C d_L_step_395 (v := (nI 2)) rfl ?_
      refine pn_irem C d_L_step_396 (by omega) (by omega) (by omega) ?_
      refine pn_if_ne C d_L_step_397 (tgt := 404) rfl (by omega) (fun c_397 => ?_) (fun c_397 => ?_)
      · skip
        refine p_iconst C d_L_step_404 (v := (bI false)) rfl ?_
        refine p_st (st' := [.int (bI false), .int (nI (a / 16 % 3)), .int (nI sd), .int (nI pp), .int (nI rs), .ref (ad 101 0), .ref (ad 0 0)]) (rfl) ?_
        exact join_405 false 
      · skip
        refine p_iconst C d_L_step_400 (v := (bI true)) rfl ?_
        refine p_goto C d_L_step_401 (tgt := 405) rfl ?_
        refine p_st (st' := [.int (bI true), .int (nI (a / 16 % 3)), .int (nI sd), .int (nI pp), .int (nI rs), .ref (ad 101 0), .ref (ad 0 0)]) (rfl) ?_
        exact join_405 true 
  have join_417 : VP G x ad g f { frames := 11, cells := 2000, slots := 16000, locals := 216 } 2000 417 [(7, .int (nI qs)), (6, .int (nI rs)), (5, .int (nI sd)), (0, .ref (ad 0 0)), (1, .ref (ad 101 0)), (2, .int (nI what)), (3, .int (nI a)), (4, .int (nI b))] [] := by
    refine p_aload_n C d_L_step_417 4 rfl ?_
    refine p_iconst C d_L_step_418 (v := (nI 4)) rfl ?_
    refine p_iload C d_L_step_419 1 rfl ?_
    refine pn_iadd C d_L_step_421 ?_
    refine p_cld C d_L_step_422 (by omega) ?_
    refine pn_if_eq C d_L_step_423 (tgt := 454) rfl (by omega) (fun c_423 => ?_) (fun c_423 => ?_)
    · skip
      refine p_iconst C d_L_step_454 (v := (bI true)) rfl ?_
      refine p_goto C d_L_step_455 (tgt := 459) rfl ?_
      exact p_iret C A TY d_L_step_459 rfl (⟨rfl, pI_le P (by omega)⟩)
    · skip
      refine p_aload_n C d_L_step_426 4 rfl ?_
      refine p_iconst C d_L_step_427 (v := (nI 4)) rfl ?_
      refine p_iload C d_L_step_428 0 rfl ?_
      refine pn_iadd C d_L_step_430 ?_
      refine p_cld C d_L_step_431 (by omega) ?_
      refine pn_if_eq C d_L_step_432 (tgt := 454) rfl (by omega) (fun c_432 => ?_) (fun c_432 => ?_)
      · skip
        refine p_iconst C d_L_step_454 (v := (bI true)) rfl ?_
        refine p_goto C d_L_step_455 (tgt := 459) rfl ?_
        exact p_iret C A TY d_L_step_459 rfl (⟨rfl, pI_le P (by omega)⟩)
      · skip
        obtain ⟨sa, ha1, ha2, ha3⟩ := pI_there P hrs c_423
        obtain ⟨sb, hb1, hb2, hb3⟩ := pI_there P hqs c_432
        refine p_aload_n C d_L_step_435 3 rfl ?_
        refine p_aload_n C d_L_step_436 4 rfl ?_
        refine p_iload C d_L_step_437 1 rfl ?_
        refine p_iload C d_L_step_439 0 rfl ?_
        refine p_iload C d_L_step_441 7 rfl ?_
        refine p_bipush C d_L_step_443 (v := (nI 8)) rfl ?_
        refine pn_idiv C d_L_step_445 (by omega) (by omega) (by omega) ?_
        refine p_iconst C d_L_step_446 (v := (nI 3)) rfl ?_
        refine pn_irem C d_L_step_447 (by omega) (by omega) (by omega) ?_
        refine p_callS (As := [.ref (ad 0 0), .ref (ad 101 0), .int (nI rs), .int (nI qs), .int (nI ((b / 8) % 3))]) (B' := 715) C LX d_L_step_448 ok_RL_99 (fun l hl => lawm_joins hl hrs hqs (by omega) ha1 hb1 ha2 hb2 ha3 hb3) rfl (rest := []) rfl (Nat.le_of_ble_eq_true rfl) ⟨by decide, Nat.le_of_ble_eq_true rfl⟩ ⟨(show 715 + 1285 ≤ 2000 by omega), Nat.le_of_ble_eq_true rfl⟩ (fun v9 g14 f14 e14 => ?_)
        obtain ⟨q9, e14⟩ := e14
        have q9 := q9.symm; subst q9
        obtain ⟨rfl, eR, eI⟩ := e14
        show VP G x ad g14 f { frames := 11, cells := 2000, slots := 16000, locals := 216 } 715 451 [(7, .int (nI qs)), (6, .int (nI rs)), (5, .int (nI sd)), (0, .ref (ad 0 0)), (1, .ref (ad 101 0)), (2, .int (nI what)), (3, .int (nI a)), (4, .int (nI b))] [.int (bI true)]
        refine pb_if_eq C d_L_step_451 (tgt := 458) rfl (fun c_451 => ?_) (fun c_451 => ?_)
        · skip
          cases c_451
        · skip
          refine p_iconst C d_L_step_454 (v := (bI true)) rfl ?_
          refine p_goto C d_L_step_455 (tgt := 459) rfl ?_
          exact p_iret C A TY d_L_step_459 rfl (⟨rfl, pI_le (pI_res P eR eI) (by omega)⟩)
  have join_460 : VP G x ad g f { frames := 11, cells := 2000, slots := 16000, locals := 216 } 2000 460 [(7, .int (nI qs)), (6, .int (nI rs)), (5, .int (nI sd)), (0, .ref (ad 0 0)), (1, .ref (ad 101 0)), (2, .int (nI what)), (3, .int (nI a)), (4, .int (nI b))] [] := by
    refine p_aload_n C d_L_step_460 4 rfl ?_
    refine p_iconst C d_L_step_461 (v := (nI 4)) rfl ?_
    refine p_iload C d_L_step_462 1 rfl ?_
    refine pn_iadd C d_L_step_464 ?_
    refine p_cld C d_L_step_465 (by omega) ?_
    refine pn_if_eq C d_L_step_466 (tgt := 479) rfl (by omega) (fun c_466 => ?_) (fun c_466 => ?_)
    · skip
      refine p_iconst C d_L_step_479 (v := (bI true)) rfl ?_
      refine p_goto C d_L_step_480 (tgt := 484) rfl ?_
      exact p_iret C A TY d_L_step_484 rfl (⟨rfl, pI_le P (by omega)⟩)
    · skip
      obtain ⟨sa, ha1, ha2, ha3⟩ := pI_there P hrs c_466
      have hne : mI g 20 rs ≠ -1 := by rw [ha2]; exact nI_ne ha1
      have hsz := mSize_le g rs
      refine p_aload_n C d_L_step_469 3 rfl ?_
      refine p_aload_n C d_L_step_470 4 rfl ?_
      refine p_iload C d_L_step_471 1 rfl ?_
      refine p_callS (As := [.ref (ad 0 0), .ref (ad 101 0), .int (nI rs)]) (B' := 1357) C LX d_L_step_473 ok_RL_103 (fun l hl => lawm_thins hl hrs ha1 ha2 ha3 (P.1 sa ha1)) rfl (rest := []) rfl (Nat.le_of_ble_eq_true rfl) ⟨by decide, Nat.le_of_ble_eq_true rfl⟩ ⟨(show 1357 + 643 ≤ 2000 by omega), Nat.le_of_ble_eq_true rfl⟩ (fun v9 g15 f15 e15 => ?_)
      obtain ⟨q9, e15⟩ := e15
      have q9 := q9.symm; subst q9
      obtain ⟨rfl, eR, eI⟩ := e15
      show VP G x ad g15 f { frames := 11, cells := 2000, slots := 16000, locals := 216 } 1357 476 [(7, .int (nI qs)), (6, .int (nI rs)), (5, .int (nI sd)), (0, .ref (ad 0 0)), (1, .ref (ad 101 0)), (2, .int (nI what)), (3, .int (nI a)), (4, .int (nI b))] [.int (bI true)]
      refine pb_if_eq C d_L_step_476 (tgt := 483) rfl (fun c_476 => ?_) (fun c_476 => ?_)
      · skip
        cases c_476
      · skip
        refine p_iconst C d_L_step_479 (v := (bI true)) rfl ?_
        refine p_goto C d_L_step_480 (tgt := 484) rfl ?_
        exact p_iret C A TY d_L_step_484 rfl (⟨rfl, pI_le (pI_res P eR eI) (by omega)⟩)
  have join_485 : VP G x ad g f { frames := 11, cells := 2000, slots := 16000, locals := 216 } 2000 485 [(7, .int (nI qs)), (6, .int (nI rs)), (5, .int (nI sd)), (0, .ref (ad 0 0)), (1, .ref (ad 101 0)), (2, .int (nI what)), (3, .int (nI a)), (4, .int (nI b))] [] := by
    have join_500 : VP G x ad g f { frames := 11, cells := 2000, slots := 16000, locals := 216 } 2000 500 [(7, .int (nI qs)), (6, .int (nI rs)), (5, .int (nI sd)), (0, .ref (ad 0 0)), (1, .ref (ad 101 0)), (2, .int (nI what)), (3, .int (nI a)), (4, .int (nI b))] [] := by
      refine p_aload_n C d_L_step_500 3 rfl ?_
      refine p_iload C d_L_step_501 1 rfl ?_
      refine p_callC (As := [.int (nI rs)]) (B' := 2000) C d_L_step_503 ok_RL_82 (fun l h T X Y m A k => q_size m A k ) rfl rfl (rest := []) rfl (Nat.le_of_ble_eq_true rfl) ⟨by decide, Nat.le_of_ble_eq_true rfl⟩ ⟨(show 2000 + 0 ≤ 2000 by omega), Nat.le_of_ble_eq_true rfl⟩ (fun v9 g16 e16 => ?_)
      obtain ⟨rfl, e16⟩ := e16
      show VP G x ad g16 f { frames := 11, cells := 2000, slots := 16000, locals := 216 } 2000 506 [(7, .int (nI qs)), (6, .int (nI rs)), (5, .int (nI sd)), (0, .ref (ad 0 0)), (1, .ref (ad 101 0)), (2, .int (nI what)), (3, .int (nI a)), (4, .int (nI b))] [.int (rSz g ((nI rs)))]
      refine p_iconst C d_L_step_506 (v := ((-1))) rfl ?_
      refine p_icmp_lt C d_L_step_507 (tgt := 514) rfl (fun c_507 => ?_) (fun c_507 => ?_)
      · skip
        exact absurd c_507 rSz_ge
      · skip
        refine p_iconst C d_L_step_510 (v := (bI true)) rfl ?_
        refine p_goto C d_L_step_511 (tgt := 515) rfl ?_
        exact p_iret C A TY d_L_step_515 rfl (⟨rfl, pI_le (pI_eqv P e16) (by omega)⟩)
    refine p_aload_n C d_L_step_485 4 rfl ?_
    refine p_iconst C d_L_step_486 (v := (nI 4)) rfl ?_
    refine p_iload C d_L_step_487 1 rfl ?_
    refine pn_iadd C d_L_step_489 ?_
    refine p_cld C d_L_step_490 (by omega) ?_
    refine pn_if_eq C d_L_step_491 (tgt := 500) rfl (by omega) (fun c_491 => ?_) (fun c_491 => ?_)
    · skip
      exact join_500  
    · skip
      refine p_aload_n C d_L_step_494 4 rfl ?_
      refine p_iconst C d_L_step_495 (v := (nI 2)) rfl ?_
      refine p_cld C d_L_step_496 (by omega) ?_
      refine p_st (st' := [.int (nI (mK g 15))]) (by rw [f2]) ?_
      refine pn_if_ne C d_L_step_497 (tgt := 516) rfl (by omega) (fun c_497 => ?_) (fun c_497 => ?_)
      · skip
        obtain ⟨sa, ha1, ha2, ha3⟩ := pI_there P hrs c_491
        have hne : mI g 20 rs ≠ -1 := by rw [ha2]; exact nI_ne ha1
        have hsz := mSize_le g rs
        refine p_aload_n C d_L_step_516 3 rfl ?_
        refine p_iload C d_L_step_517 1 rfl ?_
        refine p_callC (As := [.int (nI rs)]) (B' := 2000) C d_L_step_519 ok_RL_82 (fun l h T X Y m A k => q_size m A k ) rfl rfl (rest := []) rfl (Nat.le_of_ble_eq_true rfl) ⟨by decide, Nat.le_of_ble_eq_true rfl⟩ ⟨(show 2000 + 0 ≤ 2000 by omega), Nat.le_of_ble_eq_true rfl⟩ (fun v9 gS e17 => ?_)
        obtain ⟨rfl, e17⟩ := e17
        show VP G x ad gS f { frames := 11, cells := 2000, slots := 16000, locals := 216 } 2000 522 [(7, .int (nI qs)), (6, .int (nI rs)), (5, .int (nI sd)), (0, .ref (ad 0 0)), (1, .ref (ad 101 0)), (2, .int (nI what)), (3, .int (nI a)), (4, .int (nI b))] [.int (rSz g ((nI rs)))]
        have eS := e17
        refine p_st (st' := [.int (nI (mSize g rs))]) (by rw [a_size hrs hne]) ?_
        refine p_istore C d_L_step_522 (lv' := [(12, .int (nI (mSize g rs))), (7, .int (nI qs)), (6, .int (nI rs)), (5, .int (nI sd)), (0, .ref (ad 0 0)), (1, .ref (ad 101 0)), (2, .int (nI what)), (3, .int (nI a)), (4, .int (nI b))]) (by decide) rfl ?_
        refine p_aload_n C d_L_step_524 4 rfl ?_
        refine p_iload C d_L_step_525 2 rfl ?_
        refine p_iload C d_L_step_527 8 rfl ?_
        refine p_aload_n C d_L_step_529 5 rfl ?_
        refine p_iconst C d_L_step_530 (v := (nI 2)) rfl ?_
        refine p_cld C d_L_step_531 (by omega) ?_
        refine p_st (st' := [.int (nI (mK g 15)), .int (nI b), .int (nI rs), .ref (ad 0 0)]) (by rw [f2]) ?_
        refine pn_irem C d_L_step_532 (by omega) (by omega) (by omega) ?_
        obtain ⟨pp, epp, hpp⟩ : ∃ pp, b % mK g 15 = pp ∧ pp < mK g 15 := ⟨_, rfl, Nat.mod_lt _ (by omega)⟩
        rw [epp]
        have join_548 : ∀ (lq : Bool), (lq = decide (b / 16 % 2 = 0)) → VP G x ad gS f { frames := 11, cells := 2000, slots := 16000, locals := 216 } 2000 548 [(12, .int (nI (mSize g rs))), (7, .int (nI qs)), (6, .int (nI rs)), (5, .int (nI sd)), (0, .ref (ad 0 0)), (1, .ref (ad 101 0)), (2, .int (nI what)), (3, .int (nI a)), (4, .int (nI b))] [.int (bI lq), .int (nI pp), .int (nI rs), .ref (ad 0 0)] := by
          intro lq hlq
          refine p_callX (As := [.int (nI rs), .int (nI pp), .int (bI lq)]) (B' := 1998) C LX d_L_step_548 ok_RL_107 (fun l h T X Y hl m A k => q_aligned hl m A k (a_cAl hrs (by rw [eS.I20]; exact hne) (by rw [eS.1 15 (by decide) (by decide)]; exact hpp) (by rw [eS.1 15 (by decide) (by decide)]; exact h12))) (fun _ x => x) rfl rfl (rest := []) rfl (Nat.le_of_ble_eq_true rfl) ⟨by decide, Nat.le_of_ble_eq_true rfl⟩ ⟨(show 1998 + 2 ≤ 2000 by omega), Nat.le_of_ble_eq_true rfl⟩ (fun v9 gA e18 => ?_)
          obtain ⟨rfl, e18⟩ := e18
          show VP G x ad gA f { frames := 11, cells := 2000, slots := 16000, locals := 216 } 1998 551 [(12, .int (nI (mSize g rs))), (7, .int (nI qs)), (6, .int (nI rs)), (5, .int (nI sd)), (0, .ref (ad 0 0)), (1, .ref (ad 101 0)), (2, .int (nI what)), (3, .int (nI a)), (4, .int (nI b))] [.int (nI (mSize gA (tn (nI rs))))]
          refine p_st (st' := [.int (nI (mSize gA rs))]) (by rw [tn_n (by omega)]) ?_
          obtain ⟨RA, IA, tA⟩ := e18
          rw [tn_n (by omega), tn_n (by omega)] at tA
          have hle := al_le tA
          have hzA : mSize gS rs = mSize g rs := x_mSize (fun k _ => eS.N21 _)
          have hsz := mSize_le g rs
          refine p_istore C d_L_step_551 (lv' := [(13, .int (nI (mSize gA rs))), (12, .int (nI (mSize g rs))), (7, .int (nI qs)), (6, .int (nI rs)), (5, .int (nI sd)), (0, .ref (ad 0 0)), (1, .ref (ad 101 0)), (2, .int (nI what)), (3, .int (nI a)), (4, .int (nI b))]) (by decide) rfl ?_
          refine p_aload_n C d_L_step_553 6 rfl ?_
          refine p_bipush C d_L_step_554 (v := (nI 20)) rfl ?_
          refine p_dup2 C d_L_step_556 rfl rfl ?_
          refine p_cld C d_L_step_557 (by omega) ?_
          refine p_st (st' := [.int (nI (f 20)), .int (nI 20), .ref (ad 101 0)]) (rfl) ?_
          refine p_iconst C d_L_step_558 (v := (nI 1)) rfl ?_
          refine pn_iadd C d_L_step_559 ?_
          refine p_cst C (v := (f 20) + 1) d_L_step_560 (by omega) ?_
          refine p_iload C d_L_step_561 0 rfl ?_
          refine pn_if_lt C d_L_step_563 (tgt := 629) rfl (by omega) (fun c_563 => ?_) (fun c_563 => ?_)
          · skip
            exact c_563.elim
          · skip
            refine p_iload C d_L_step_566 0 rfl ?_
            refine p_iload C d_L_step_568 1 rfl ?_
            refine pn_icmp_gt C d_L_step_570 (tgt := 629) rfl (by omega) (by omega) (fun c_570 => ?_) (fun c_570 => ?_)
            · skip
              exfalso; omega
            · skip
              have join_614 : ∀ (gq : mS), (resR g gq) → (∀ i, mI gq 20 i = mI g 20 i) → (mSize gq rs = mSize gA rs) → VP G x ad gq (uF f 20 (f 20 + 1)) { frames := 11, cells := 2000, slots := 16000, locals := 216 } 1990 614 [(13, .int (nI (mSize gA rs))), (12, .int (nI (mSize g rs))), (7, .int (nI qs)), (6, .int (nI rs)), (5, .int (nI sd)), (0, .ref (ad 0 0)), (1, .ref (ad 101 0)), (2, .int (nI what)), (3, .int (nI a)), (4, .int (nI b))] [] := by
                intro gq hR hI hz
                refine p_aload_n C d_L_step_614 5 rfl ?_
                refine p_iload C d_L_step_615 3 rfl ?_
                refine p_callC (As := [.int (nI rs)]) (B' := 1990) C d_L_step_617 ok_RL_82 (fun l h T X Y m A k => q_size m A k ) rfl rfl (rest := []) rfl (Nat.le_of_ble_eq_true rfl) ⟨by decide, Nat.le_of_ble_eq_true rfl⟩ ⟨(show 1990 + 0 ≤ 1990 by omega), Nat.le_of_ble_eq_true rfl⟩ (fun v9 g19 e19 => ?_)
                obtain ⟨rfl, e19⟩ := e19
                show VP G x ad g19 (uF f 20 (f 20 + 1)) { frames := 11, cells := 2000, slots := 16000, locals := 216 } 1990 620 [(13, .int (nI (mSize gA rs))), (12, .int (nI (mSize g rs))), (7, .int (nI qs)), (6, .int (nI rs)), (5, .int (nI sd)), (0, .ref (ad 0 0)), (1, .ref (ad 101 0)), (2, .int (nI what)), (3, .int (nI a)), (4, .int (nI b))] [.int (rSz gq ((nI rs)))]
                refine p_st (st' := [.int (nI (mSize gA rs))]) (by rw [a_size hrs (by rw [hI]; exact hne), hz]) ?_
                refine p_iload C d_L_step_620 0 rfl ?_
                refine pn_icmp_ne C d_L_step_622 (tgt := 629) rfl (by omega) (by omega) (fun c_622 => ?_) (fun c_622 => ?_)
                · skip
                  exact absurd rfl c_622
                · skip
                  refine p_iconst C d_L_step_625 (v := (bI true)) rfl ?_
                  refine p_goto C d_L_step_626 (tgt := 630) rfl ?_
                  exact p_iret C A TY d_L_step_630 rfl (⟨rfl, pI_aligned P (hR.tr e19.res) (fun i => by rw [e19.I20, hI])⟩)
              refine p_aload_n C d_L_step_573 6 rfl ?_
              refine p_bipush C d_L_step_574 (v := (nI 20)) rfl ?_
              refine p_cld C d_L_step_576 (by omega) ?_
              refine p_st (st' := [.int (nI ((f 20) + 1))]) (by rw [uF_s]) ?_
              refine p_bipush C d_L_step_577 (v := (nI 8)) rfl ?_
              refine pn_icmp_gt C d_L_step_579 (tgt := 614) rfl (by omega) (by omega) (fun c_579 => ?_) (fun c_579 => ?_)
              · skip
                refine p_f (f' := uF f 20 (f 20 + 1)) (rfl) ?_
                refine p_B (B' := 1990) (by omega) ?_
                exact join_614 gA (eS.res.tr RA) (fun i => by rw [IA, eS.I20]) (rfl)
              · skip
                refine p_aload_n C d_L_step_582 5 rfl ?_
                refine p_iload C d_L_step_583 3 rfl ?_
                refine p_iload C d_L_step_585 9 rfl ?_
                refine p_aload_n C d_L_step_587 6 rfl ?_
                refine p_iconst C d_L_step_588 (v := (nI 2)) rfl ?_
                refine p_cld C d_L_step_589 (by omega) ?_
                refine p_st (st' := [.int (nI (mK g 15)), .int (nI b), .int (nI rs), .ref (ad 0 0)]) (by rw [uF_n (by decide), f2]) ?_
                refine pn_irem C d_L_step_590 (by omega) (by omega) (by omega) ?_
                rw [epp]
                have join_606 : ∀ (lq2 : Bool), (lq2 = decide (b / 16 % 2 = 0)) → VP G x ad gA (uF f 20 (f 20 + 1)) { frames := 11, cells := 2000, slots := 16000, locals := 216 } 1998 606 [(13, .int (nI (mSize gA rs))), (12, .int (nI (mSize g rs))), (7, .int (nI qs)), (6, .int (nI rs)), (5, .int (nI sd)), (0, .ref (ad 0 0)), (1, .ref (ad 101 0)), (2, .int (nI what)), (3, .int (nI a)), (4, .int (nI b))] [.int (bI lq2), .int (nI pp), .int (nI rs), .ref (ad 0 0)] := by
                  intro lq2 hlq2
                  refine p_callX (As := [.int (nI rs), .int (nI pp), .int (bI lq2)]) (B' := 1996) C LX d_L_step_606 ok_RL_107 (fun l h T X Y hl m A k => q_aligned hl m A k (a_cAl hrs (by rw [IA, eS.I20]; exact hne) (by rw [RA.1 15 (by decide) (by decide), eS.1 15 (by decide) (by decide)]; exact hpp) (by rw [RA.1 15 (by decide) (by decide), eS.1 15 (by decide) (by decide)]; exact h12))) (fun _ x => x) rfl rfl (rest := []) rfl (Nat.le_of_ble_eq_true rfl) ⟨by decide, Nat.le_of_ble_eq_true rfl⟩ ⟨(show 1996 + 2 ≤ 1998 by omega), Nat.le_of_ble_eq_true rfl⟩ (fun v9 gB e20 => ?_)
                  obtain ⟨rfl, RB, IB, tB⟩ := e20
                  rw [tn_n (by omega), tn_n (by omega), show lq2 = lq by rw [hlq2, hlq]] at tB
                  show VP G x ad gB (uF f 20 (f 20 + 1)) { frames := 11, cells := 2000, slots := 16000, locals := 216 } 1996 609 [(13, .int (nI (mSize gA rs))), (12, .int (nI (mSize g rs))), (7, .int (nI qs)), (6, .int (nI rs)), (5, .int (nI sd)), (0, .ref (ad 0 0)), (1, .ref (ad 101 0)), (2, .int (nI what)), (3, .int (nI a)), (4, .int (nI b))] [.int (nI (mSize gB (tn (nI rs))))]
                  refine p_st (st' := [.int (nI (mSize gA rs))]) (by rw [tn_n (by omega), al_idem tA RA IA tB]) ?_
                  refine p_iload C d_L_step_609 0 rfl ?_
                  refine pn_icmp_ne C d_L_step_611 (tgt := 629) rfl (by omega) (by omega) (fun c_611 => ?_) (fun c_611 => ?_)
                  · skip
                    exact absurd rfl c_611
                  · skip
                    refine p_B (B' := 1990) (by omega) ?_
                    exact join_614 gB ((eS.res.tr RA).tr RB) (fun i => by rw [IB, IA, eS.I20]) (al_idem tA RA IA tB)
                refine p_iload C d_L_step_591 9 rfl ?_
                refine p_bipush C d_L_step_593 (v := (nI 16)) rfl ?_
                refine pn_idiv C d_L_step_595 (by omega) (by omega) (by omega) ?_
                refine p_iconst C d_L_step_596 (v := (nI 2)) rfl ?_
                refine pn_irem C d_L_step_597 (by omega) (by omega) (by omega) ?_
                refine pn_if_ne C d_L_step_598 (tgt := 605) rfl (by omega) (fun c_598 => ?_) (fun c_598 => ?_)
                · skip
                  refine p_iconst C d_L_step_605 (v := (bI false)) rfl ?_
                  refine p_f (f' := uF f 20 (f 20 + 1)) (rfl) ?_
                  exact join_606 false (by rw [decide_eq_false (by omega)])
                · skip
                  refine p_iconst C d_L_step_601 (v := (bI true)) rfl ?_
                  refine p_goto C d_L_step_602 (tgt := 606) rfl ?_
                  refine p_f (f' := uF f 20 (f 20 + 1)) (rfl) ?_
                  exact join_606 true (by rw [decide_eq_true (by omega)])
        refine p_iload C d_L_step_533 8 rfl ?_
        refine p_bipush C d_L_step_535 (v := (nI 16)) rfl ?_
        refine pn_idiv C d_L_step_537 (by omega) (by omega) (by omega) ?_
        refine p_iconst C d_L_step_538 (v := (nI 2)) rfl ?_
        refine pn_irem C d_L_step_539 (by omega) (by omega) (by omega) ?_
        refine pn_if_ne C d_L_step_540 (tgt := 547) rfl (by omega) (fun c_540 => ?_) (fun c_540 => ?_)
        · skip
          refine p_iconst C d_L_step_547 (v := (bI false)) rfl ?_
          exact join_548 false (by rw [decide_eq_false (by omega)])
        · skip
          refine p_iconst C d_L_step_543 (v := (bI true)) rfl ?_
          refine p_goto C d_L_step_544 (tgt := 548) rfl ?_
          exact join_548 true (by rw [decide_eq_true (by omega)])
      · skip
        exact join_500  
  have join_631 : VP G x ad g f { frames := 11, cells := 2000, slots := 16000, locals := 216 } 2000 631 [(7, .int (nI qs)), (6, .int (nI rs)), (5, .int (nI sd)), (0, .ref (ad 0 0)), (1, .ref (ad 101 0)), (2, .int (nI what)), (3, .int (nI a)), (4, .int (nI b))] [] := by
    refine p_aload_n C d_L_step_631 4 rfl ?_
    refine p_iconst C d_L_step_632 (v := (nI 4)) rfl ?_
    refine p_iload C d_L_step_633 1 rfl ?_
    refine pn_iadd C d_L_step_635 ?_
    refine p_cld C d_L_step_636 (by omega) ?_
    refine pn_if_eq C d_L_step_637 (tgt := 667) rfl (by omega) (fun c_637 => ?_) (fun c_637 => ?_)
    · skip
      refine p_iconst C d_L_step_667 (v := (bI true)) rfl ?_
      refine p_goto C d_L_step_668 (tgt := 672) rfl ?_
      exact p_iret C A TY d_L_step_672 rfl (⟨rfl, pI_le P (by omega)⟩)
    · skip
      obtain ⟨sa, ha1, ha2, ha3⟩ := pI_there P hrs c_637
      have hne : mI g 20 rs ≠ -1 := by rw [ha2]; exact nI_ne ha1
      have hsz := mSize_le g rs
      refine p_aload_n C d_L_step_640 3 rfl ?_
      refine p_iload C d_L_step_641 1 rfl ?_
      refine p_iload C d_L_step_643 7 rfl ?_
      refine p_iconst C d_L_step_645 (v := (nI 3)) rfl ?_
      refine pn_irem C d_L_step_646 (by omega) (by omega) (by omega) ?_
      have join_661 : ∀ (lq : Bool), VP G x ad g f { frames := 11, cells := 2000, slots := 16000, locals := 216 } 2000 661 [(7, .int (nI qs)), (6, .int (nI rs)), (5, .int (nI sd)), (0, .ref (ad 0 0)), (1, .ref (ad 101 0)), (2, .int (nI what)), (3, .int (nI a)), (4, .int (nI b))] [.int (bI lq), .int (nI (b % 3)), .int (nI rs), .ref (ad 0 0)] := by
        intro lq
        refine p_callS (As := [.ref (ad 0 0), .int (nI rs), .int (nI (b % 3)), .int (bI lq)]) (B' := 917) C LX d_L_step_661 ok_RL_110 (fun l hl => lawm_groups hl hrs hne (by omega)) rfl (rest := []) rfl (Nat.le_of_ble_eq_true rfl) ⟨by decide, Nat.le_of_ble_eq_true rfl⟩ ⟨(show 917 + 1083 ≤ 2000 by omega), Nat.le_of_ble_eq_true rfl⟩ (fun v9 g21 f21 e21 => ?_)
        obtain ⟨q9, e21⟩ := e21
        have q9 := q9.symm; subst q9
        obtain ⟨rfl, eR⟩ := e21
        show VP G x ad g21 f { frames := 11, cells := 2000, slots := 16000, locals := 216 } 917 664 [(7, .int (nI qs)), (6, .int (nI rs)), (5, .int (nI sd)), (0, .ref (ad 0 0)), (1, .ref (ad 101 0)), (2, .int (nI what)), (3, .int (nI a)), (4, .int (nI b))] [.int (bI true)]
        refine pb_if_eq C d_L_step_664 (tgt := 671) rfl (fun c_664 => ?_) (fun c_664 => ?_)
        · skip
          cases c_664
        · skip
          refine p_iconst C d_L_step_667 (v := (bI true)) rfl ?_
          refine p_goto C d_L_step_668 (tgt := 672) rfl ?_
          exact p_iret C A TY d_L_step_672 rfl (⟨rfl, pI_le (pI_eqv P eR) (by omega)⟩)
      refine p_iload C d_L_step_647 7 rfl ?_
      refine p_iconst C d_L_step_649 (v := (nI 3)) rfl ?_
      refine pn_idiv C d_L_step_650 (by omega) (by omega) (by omega) ?_
      refine p_iconst C d_L_step_651 (v := (nI 2)) rfl ?_
      refine pn_irem C d_L_step_652 (by omega) (by omega) (by omega) ?_
      refine pn_if_ne C d_L_step_653 (tgt := 660) rfl (by omega) (fun c_653 => ?_) (fun c_653 => ?_)
      · skip
        refine p_iconst C d_L_step_660 (v := (bI false)) rfl ?_
        exact join_661 false 
      · skip
        refine p_iconst C d_L_step_656 (v := (bI true)) rfl ?_
        refine p_goto C d_L_step_657 (tgt := 661) rfl ?_
        exact join_661 true 
  have join_673 : VP G x ad g f { frames := 11, cells := 2000, slots := 16000, locals := 216 } 2000 673 [(7, .int (nI qs)), (6, .int (nI rs)), (5, .int (nI sd)), (0, .ref (ad 0 0)), (1, .ref (ad 101 0)), (2, .int (nI what)), (3, .int (nI a)), (4, .int (nI b))] [] := by
    refine p_aload_n C d_L_step_673 4 rfl ?_
    refine p_iconst C d_L_step_674 (v := (nI 4)) rfl ?_
    refine p_iload C d_L_step_675 1 rfl ?_
    refine pn_iadd C d_L_step_677 ?_
    refine p_cld C d_L_step_678 (by omega) ?_
    refine pn_if_eq C d_L_step_679 (tgt := 689) rfl (by omega) (fun c_679 => ?_) (fun c_679 => ?_)
    · skip
      refine p_aload_n C d_L_step_689 3 rfl ?_
      refine p_iload C d_L_step_690 1 rfl ?_
      refine p_callC (As := [.int (nI rs)]) (B' := 2000) C d_L_step_692 ok_RL_82 (fun l h T X Y m A k => q_size m A k ) rfl rfl (rest := []) rfl (Nat.le_of_ble_eq_true rfl) ⟨by decide, Nat.le_of_ble_eq_true rfl⟩ ⟨(show 2000 + 0 ≤ 2000 by omega), Nat.le_of_ble_eq_true rfl⟩ (fun v9 g22 e22 => ?_)
      obtain ⟨rfl, e22⟩ := e22
      show VP G x ad g22 f { frames := 11, cells := 2000, slots := 16000, locals := 216 } 2000 695 [(7, .int (nI qs)), (6, .int (nI rs)), (5, .int (nI sd)), (0, .ref (ad 0 0)), (1, .ref (ad 101 0)), (2, .int (nI what)), (3, .int (nI a)), (4, .int (nI b))] [.int (rSz g ((nI rs)))]
      refine p_st (st' := [.int ((-1))]) (by rw [a_none hrs (pI_none P hrs c_679)]) ?_
      refine p_iconst C d_L_step_695 (v := ((-1))) rfl ?_
      refine p_icmp_ne C d_L_step_696 (tgt := 703) rfl (fun c_696 => ?_) (fun c_696 => ?_)
      · skip
        exact absurd rfl c_696
      · skip
        refine p_iconst C d_L_step_699 (v := (nI 1)) rfl ?_
        refine p_goto C d_L_step_700 (tgt := 704) rfl ?_
        refine p_aload_n C d_L_step_704 4 rfl ?_
        refine p_iconst C d_L_step_705 (v := (nI 4)) rfl ?_
        refine p_iload C d_L_step_706 1 rfl ?_
        refine pn_iadd C d_L_step_708 ?_
        refine p_cld C d_L_step_709 (by omega) ?_
        refine pn_if_ne C d_L_step_710 (tgt := 717) rfl (by omega) (fun c_710 => ?_) (fun c_710 => ?_)
        · skip
          exfalso; omega
        · skip
          refine p_iconst C d_L_step_713 (v := (nI 1)) rfl ?_
          refine p_goto C d_L_step_714 (tgt := 718) rfl ?_
          refine pn_icmp_ne C d_L_step_718 (tgt := 725) rfl (by omega) (by omega) (fun c_718 => ?_) (fun c_718 => ?_)
          · skip
            exact absurd rfl c_718
          · skip
            refine p_iconst C d_L_step_721 (v := (bI true)) rfl ?_
            refine p_goto C d_L_step_722 (tgt := 726) rfl ?_
            exact p_iret C A TY d_L_step_726 rfl (⟨rfl, pI_le (pI_eqv P e22) (by omega)⟩)
    · skip
      refine p_iload C d_L_step_682 7 rfl ?_
      refine p_iconst C d_L_step_684 (v := (nI 3)) rfl ?_
      refine pn_irem C d_L_step_685 (by omega) (by omega) (by omega) ?_
      refine pn_if_le C d_L_step_686 (tgt := 727) rfl (by omega) (fun c_686 => ?_) (fun c_686 => ?_)
      · skip
        obtain ⟨sa, ha1, ha2, ha3⟩ := pI_there P hrs c_679
        have hne : mI g 20 rs ≠ -1 := by rw [ha2]; exact nI_ne ha1
        have hsz := mSize_le g rs
        refine p_aload_n C d_L_step_727 4 rfl ?_
        refine p_iconst C d_L_step_728 (v := (nI 4)) rfl ?_
        refine p_iload C d_L_step_729 1 rfl ?_
        refine pn_iadd C d_L_step_731 ?_
        refine p_iconst C d_L_step_732 (v := (nI 0)) rfl ?_
        refine p_cst C (v := 0) d_L_step_733 (by omega) ?_
        refine p_aload_n C d_L_step_734 3 rfl ?_
        refine p_iload C d_L_step_735 1 rfl ?_
        refine p_callC (As := [.int (nI rs)]) (B' := 2000) C d_L_step_737 ok_RL_82 (fun l h T X Y m A k => q_size m A k ) rfl rfl (rest := []) rfl (Nat.le_of_ble_eq_true rfl) ⟨by decide, Nat.le_of_ble_eq_true rfl⟩ ⟨(show 2000 + 0 ≤ 2000 by omega), Nat.le_of_ble_eq_true rfl⟩ (fun v9 gS e23 => ?_)
        obtain ⟨rfl, e23⟩ := e23
        show VP G x ad gS (uF f (4 + rs) 0) { frames := 11, cells := 2000, slots := 16000, locals := 216 } 2000 740 [(7, .int (nI qs)), (6, .int (nI rs)), (5, .int (nI sd)), (0, .ref (ad 0 0)), (1, .ref (ad 101 0)), (2, .int (nI what)), (3, .int (nI a)), (4, .int (nI b))] [.int (rSz g ((nI rs)))]
        have eS := e23
        refine p_st (st' := [.int (nI (mSize g rs))]) (by rw [a_size hrs hne]) ?_
        refine p_istore C d_L_step_740 (lv' := [(14, .int (nI (mSize g rs))), (7, .int (nI qs)), (6, .int (nI rs)), (5, .int (nI sd)), (0, .ref (ad 0 0)), (1, .ref (ad 101 0)), (2, .int (nI what)), (3, .int (nI a)), (4, .int (nI b))]) (by decide) rfl ?_
        refine p_aload_n C d_L_step_742 4 rfl ?_
        refine p_iload C d_L_step_743 2 rfl ?_
        refine p_callX (As := [.int (nI rs)]) (B' := 1999) C LX d_L_step_745 ok_RL_114 (fun l h T X Y hl m A k => q_drop hl m A k (a_isR hrs (by rw [eS.I20]; exact hne))) (fun _ x => x) rfl rfl (rest := []) rfl (Nat.le_of_ble_eq_true rfl) ⟨by decide, Nat.le_of_ble_eq_true rfl⟩ ⟨(show 1999 + 1 ≤ 2000 by omega), Nat.le_of_ble_eq_true rfl⟩ (fun v9 gD e24 => ?_)
        obtain ⟨rfl, e24⟩ := e24
        show VP G x ad gD (uF f (4 + rs) 0) { frames := 11, cells := 2000, slots := 16000, locals := 216 } 1999 748 [(14, .int (nI (mSize g rs))), (7, .int (nI qs)), (6, .int (nI rs)), (5, .int (nI sd)), (0, .ref (ad 0 0)), (1, .ref (ad 101 0)), (2, .int (nI what)), (3, .int (nI a)), (4, .int (nI b))] [.int (nI (mSize gS (tn (nI rs))))]
        refine p_st (st' := [.int (nI (mSize g rs))]) (by rw [tn_n (by omega), x_mSize (fun k _ => eS.N21 _)]) ?_
        obtain ⟨RD, ID⟩ := e24
        simp only [tn_n (show rs < 10000 by omega)] at ID
        refine p_iload C d_L_step_748 0 rfl ?_
        refine pn_icmp_ne C d_L_step_750 (tgt := 767) rfl (by omega) (by omega) (fun c_750 => ?_) (fun c_750 => ?_)
        · skip
          exact absurd rfl c_750
        · skip
          refine p_aload_n C d_L_step_753 4 rfl ?_
          refine p_iload C d_L_step_754 2 rfl ?_
          refine p_callC (As := [.int (nI rs)]) (B' := 1999) C d_L_step_756 ok_RL_82 (fun l h T X Y m A k => q_size m A k ) rfl rfl (rest := []) rfl (Nat.le_of_ble_eq_true rfl) ⟨by decide, Nat.le_of_ble_eq_true rfl⟩ ⟨(show 1999 + 0 ≤ 1999 by omega), Nat.le_of_ble_eq_true rfl⟩ (fun v9 g25 e25 => ?_)
          obtain ⟨rfl, e25⟩ := e25
          show VP G x ad g25 (uF f (4 + rs) 0) { frames := 11, cells := 2000, slots := 16000, locals := 216 } 1999 759 [(14, .int (nI (mSize g rs))), (7, .int (nI qs)), (6, .int (nI rs)), (5, .int (nI sd)), (0, .ref (ad 0 0)), (1, .ref (ad 101 0)), (2, .int (nI what)), (3, .int (nI a)), (4, .int (nI b))] [.int (rSz gD ((nI rs)))]
          refine p_st (st' := [.int ((-1))]) (by rw [a_none hrs (by rw [ID, if_pos rfl])]) ?_
          refine p_iconst C d_L_step_759 (v := ((-1))) rfl ?_
          refine p_icmp_ne C d_L_step_760 (tgt := 767) rfl (fun c_760 => ?_) (fun c_760 => ?_)
          · skip
            exact absurd rfl c_760
          · skip
            refine p_iconst C d_L_step_763 (v := (bI true)) rfl ?_
            refine p_goto C d_L_step_764 (tgt := 768) rfl ?_
            exact p_iret C A TY d_L_step_768 rfl (⟨rfl, pI_le (pI_eqv (pI_drop hrs P (eS.res.tr RD) (fun i => by rw [ID, eS.I20])) e25) (by omega)⟩)
      · skip
        obtain ⟨sa, ha1, ha2, ha3⟩ := pI_there P hrs c_679
        have hne : mI g 20 rs ≠ -1 := by rw [ha2]; exact nI_ne ha1
        have hsz := mSize_le g rs
        refine p_aload_n C d_L_step_689 3 rfl ?_
        refine p_iload C d_L_step_690 1 rfl ?_
        refine p_callC (As := [.int (nI rs)]) (B' := 2000) C d_L_step_692 ok_RL_82 (fun l h T X Y m A k => q_size m A k ) rfl rfl (rest := []) rfl (Nat.le_of_ble_eq_true rfl) ⟨by decide, Nat.le_of_ble_eq_true rfl⟩ ⟨(show 2000 + 0 ≤ 2000 by omega), Nat.le_of_ble_eq_true rfl⟩ (fun v9 g26 e26 => ?_)
        obtain ⟨rfl, e26⟩ := e26
        show VP G x ad g26 f { frames := 11, cells := 2000, slots := 16000, locals := 216 } 2000 695 [(7, .int (nI qs)), (6, .int (nI rs)), (5, .int (nI sd)), (0, .ref (ad 0 0)), (1, .ref (ad 101 0)), (2, .int (nI what)), (3, .int (nI a)), (4, .int (nI b))] [.int (rSz g ((nI rs)))]
        refine p_st (st' := [.int (nI (mSize g rs))]) (by rw [a_size hrs hne]) ?_
        refine p_iconst C d_L_step_695 (v := ((-1))) rfl ?_
        refine p_icmp_ne C d_L_step_696 (tgt := 703) rfl (fun c_696 => ?_) (fun c_696 => ?_)
        · skip
          refine p_iconst C d_L_step_703 (v := (nI 0)) rfl ?_
          refine p_aload_n C d_L_step_704 4 rfl ?_
          refine p_iconst C d_L_step_705 (v := (nI 4)) rfl ?_
          refine p_iload C d_L_step_706 1 rfl ?_
          refine pn_iadd C d_L_step_708 ?_
          refine p_cld C d_L_step_709 (by omega) ?_
          refine pn_if_ne C d_L_step_710 (tgt := 717) rfl (by omega) (fun c_710 => ?_) (fun c_710 => ?_)
          · skip
            refine p_iconst C d_L_step_717 (v := (nI 0)) rfl ?_
            refine pn_icmp_ne C d_L_step_718 (tgt := 725) rfl (by omega) (by omega) (fun c_718 => ?_) (fun c_718 => ?_)
            · skip
              exact absurd rfl c_718
            · skip
              refine p_iconst C d_L_step_721 (v := (bI true)) rfl ?_
              refine p_goto C d_L_step_722 (tgt := 726) rfl ?_
              exact p_iret C A TY d_L_step_726 rfl (⟨rfl, pI_le (pI_eqv P e26) (by omega)⟩)
          · skip
            exfalso; omega
        · skip
          exact (c_696 (ne1 (by omega))).elim
  rcases (show tt = 0 ∨ tt = 1 ∨ tt = 2 ∨ tt = 3 ∨ tt = 4 ∨ tt = 5 ∨ tt = 6 ∨ tt = 7 ∨ tt = 8 ∨ tt = 9 ∨ tt = 10 ∨ tt = 11 ∨ tt = 12 ∨ tt = 13 ∨ tt = 14 ∨ tt = 15 by omega) with rfl | rfl | rfl | rfl | rfl | rfl | rfl | rfl | rfl | rfl | rfl | rfl | rfl | rfl | rfl | rfl
  · skip
    refine p_tsIn C d_L_step_24 (by decide) (by decide) (off := 76) (tgt := 100) (by decide) rfl ?_
    exact join_100  
  · skip
    refine p_tsIn C d_L_step_24 (by decide) (by decide) (off := 76) (tgt := 100) (by decide) rfl ?_
    exact join_100  
  · skip
    refine p_tsIn C d_L_step_24 (by decide) (by decide) (off := 76) (tgt := 100) (by decide) rfl ?_
    exact join_100  
  · skip
    refine p_tsIn C d_L_step_24 (by decide) (by decide) (off := 76) (tgt := 100) (by decide) rfl ?_
    exact join_100  
  · skip
    refine p_tsIn C d_L_step_24 (by decide) (by decide) (off := 174) (tgt := 198) (by decide) rfl ?_
    exact join_198  
  · skip
    refine p_tsIn C d_L_step_24 (by decide) (by decide) (off := 226) (tgt := 250) (by decide) rfl ?_
    exact join_250  
  · skip
    refine p_tsIn C d_L_step_24 (by decide) (by decide) (off := 334) (tgt := 358) (by decide) rfl ?_
    exact join_358  
  · skip
    refine p_tsIn C d_L_step_24 (by decide) (by decide) (off := 334) (tgt := 358) (by decide) rfl ?_
    exact join_358  
  · skip
    refine p_tsIn C d_L_step_24 (by decide) (by decide) (off := 343) (tgt := 367) (by decide) rfl ?_
    exact join_367  
  · skip
    refine p_tsIn C d_L_step_24 (by decide) (by decide) (off := 343) (tgt := 367) (by decide) rfl ?_
    exact join_367  
  · skip
    refine p_tsIn C d_L_step_24 (by decide) (by decide) (off := 343) (tgt := 367) (by decide) rfl ?_
    exact join_367  
  · skip
    refine p_tsIn C d_L_step_24 (by decide) (by decide) (off := 393) (tgt := 417) (by decide) rfl ?_
    exact join_417  
  · skip
    refine p_tsIn C d_L_step_24 (by decide) (by decide) (off := 436) (tgt := 460) (by decide) rfl ?_
    exact join_460  
  · skip
    refine p_tsIn C d_L_step_24 (by decide) (by decide) (off := 461) (tgt := 485) (by decide) rfl ?_
    exact join_485  
  · skip
    refine p_tsIn C d_L_step_24 (by decide) (by decide) (off := 607) (tgt := 631) (by decide) rfl ?_
    exact join_631  
  · skip
    refine p_tsOut C d_L_step_24 (tgt := 673) (by decide) rfl ?_
    exact join_673  
