theorem tw_284 : (Jvm.Cond.methodLink "CorpuslineLaw" (85 : Nat) ({ cls := "Corpusline", name := "sentenceOf", desc := "(II)I" } : Jvm.MethodName)) ∈ TB := tb_of 284 (by decide +kernel) rfl
theorem tw_285 : (Jvm.Cond.instanceMethod ({ cls := "Corpusline", name := "sentenceOf", desc := "(II)I" } : Jvm.MethodName)) ∈ TB := tb_of 285 (by decide +kernel) rfl
theorem tw_286 : (Jvm.Cond.selects "Corpusline" ({ cls := "Corpusline", name := "sentenceOf", desc := "(II)I" } : Jvm.MethodName) ({ cls := "Corpusline", name := "sentenceOf", desc := "(II)I" } : Jvm.MethodName)) ∈ TB := tb_of 286 (by decide +kernel) rfl
theorem tw_287 : (Jvm.Cond.code ({ cls := "Corpusline", name := "sentenceOf", desc := "(II)I" } : Jvm.MethodName) prog_1_method_6_code (4 : Nat) (Option.some Jvm.ClassFile.FieldType.int)) ∈ TB := tb_of 287 (by decide +kernel) rfl
theorem tw_485 : (Jvm.Cond.methodLink "CorpuslineLaw" (117 : Nat) ({ cls := "Corpusline", name := "run", desc := "(IIIIZ)I" } : Jvm.MethodName)) ∈ TB := tb_of 485 (by decide +kernel) rfl
theorem tw_486 : (Jvm.Cond.instanceMethod ({ cls := "Corpusline", name := "run", desc := "(IIIIZ)I" } : Jvm.MethodName)) ∈ TB := tb_of 486 (by decide +kernel) rfl
theorem tw_487 : (Jvm.Cond.selects "Corpusline" ({ cls := "Corpusline", name := "run", desc := "(IIIIZ)I" } : Jvm.MethodName) ({ cls := "Corpusline", name := "run", desc := "(IIIIZ)I" } : Jvm.MethodName)) ∈ TB := tb_of 487 (by decide +kernel) rfl
theorem tw_488 : (Jvm.Cond.code ({ cls := "Corpusline", name := "run", desc := "(IIIIZ)I" } : Jvm.MethodName) prog_1_method_18_code (11 : Nat) (Option.some Jvm.ClassFile.FieldType.int)) ∈ TB := tb_of 488 (by decide +kernel) rfl
theorem tw_551 : (Jvm.Cond.methodLink "CorpuslineLaw" (124 : Nat) ({ cls := "Corpusline", name := "walk", desc := "(IIIZ)I" } : Jvm.MethodName)) ∈ TB := tb_of 551 (by decide +kernel) rfl
theorem tw_552 : (Jvm.Cond.instanceMethod ({ cls := "Corpusline", name := "walk", desc := "(IIIZ)I" } : Jvm.MethodName)) ∈ TB := tb_of 552 (by decide +kernel) rfl
theorem tw_553 : (Jvm.Cond.selects "Corpusline" ({ cls := "Corpusline", name := "walk", desc := "(IIIZ)I" } : Jvm.MethodName) ({ cls := "Corpusline", name := "walk", desc := "(IIIZ)I" } : Jvm.MethodName)) ∈ TB := tb_of 553 (by decide +kernel) rfl
theorem tw_554 : (Jvm.Cond.code ({ cls := "Corpusline", name := "walk", desc := "(IIIZ)I" } : Jvm.MethodName) prog_1_method_19_code (11 : Nat) (Option.some Jvm.ClassFile.FieldType.int)) ∈ TB := tb_of 554 (by decide +kernel) rfl
theorem ok_RL_85 : okV RL 85 yX6_sentenceOf cX6_sentenceOf 4 (Option.some Jvm.ClassFile.FieldType.int) 2 := ⟨tw_284, tw_285, tw_286, tw_1, tw_287, ⟨by decide, by decide, by decide +kernel⟩⟩
theorem ok_RL_117 : okV RL 117 yX6_run cX6_run 11 (Option.some Jvm.ClassFile.FieldType.int) 5 := ⟨tw_485, tw_486, tw_487, tw_1, tw_488, ⟨by decide, by decide, by decide +kernel⟩⟩
theorem ok_RL_124 : okV RL 124 yX6_walk cX6_walk 11 (Option.some Jvm.ClassFile.FieldType.int) 4 := ⟨tw_551, tw_552, tw_553, tw_1, tw_554, ⟨by decide, by decide, by decide +kernel⟩⟩
def dl_L_runs : List (Nat × Instr × Nat) := [(0, .aload_n 0, 1), (1, .iload_n 2, 1), (2, .iload_n 3, 1), (3, .iload 4, 2), (5, .iload 5, 2), (7, .iload 6, 2), (9, .invokevirtual 117, 3), (12, .istore 7, 2), (14, .aload_n 1, 1), (15, .iconst 4, 1), (16, .iload_n 2, 1), (17, .iadd, 1), (18, .iconst 1, 1), (19, .iastore, 1), (20, .aload_n 1, 1), (21, .bipush 12, 2), (23, .iload_n 2, 1), (24, .iadd, 1), (25, .iload 4, 2), (27, .iastore, 1), (28, .iconst 0, 1), (29, .istore 8, 2), (31, .bipush (-100), 2), (33, .istore 9, 2), (35, .aload_n 0, 1), (36, .iload_n 2, 1), (37, .invokevirtual 82, 3), (40, .iload 7, 2), (42, .if_icmp .ne 16, 3), (45, .iload 7, 2), (47, .aload_n 1, 1), (48, .iload 4, 2), (50, .iaload, 1), (51, .if_icmp .gt 7, 3), (54, .iconst 1, 1), (55, .goto 4, 3), (58, .iconst 0, 1), (59, .istore 10, 2), (61, .iconst 0, 1), (62, .istore 11, 2), (64, .iload 11, 2), (66, .iload 7, 2), (68, .if_icmp .ge 117, 3), (71, .iload 10, 2), (73, .ifCond .eq 112, 3), (76, .aload_n 0, 1), (77, .iload_n 2, 1), (78, .iload 11, 2), (80, .invokevirtual 121, 3), (83, .istore 12, 2), (85, .iload 12, 2), (87, .bipush 100, 2), (89, .idiv, 1), (90, .istore 13, 2), (92, .iload 12, 2), (94, .bipush 100, 2), (96, .irem, 1), (97, .istore 14, 2), (99, .iload 8, 2), (101, .iload 14, 2), (103, .iadd, 1), (104, .istore 8, 2), (106, .iload 13, 2), (108, .iload 9, 2), (110, .if_icmp .le 62, 3), (113, .iload 14, 2), (115, .iconst 1, 1), (116, .if_icmp .lt 56, 3), (119, .iload 14, 2), (121, .bipush 8, 2), (123, .if_icmp .gt 49, 3), (126, .iload 13, 2), (128, .iload 14, 2), (130, .iadd, 1), (131, .aload_n 1, 1), (132, .iload 4, 2), (134, .iaload, 1), (135, .if_icmp .gt 37, 3), (138, .iload 5, 2), (140, .iconst 1, 1), (141, .if_icmp .ne 27, 3), (144, .aload_n 0, 1), (145, .iload 4, 2), (147, .iload 13, 2), (149, .invokevirtual 85, 3), (152, .aload_n 0, 1), (153, .iload 4, 2), (155, .iload 13, 2), (157, .iload 14, 2), (159, .iadd, 1), (160, .iconst 1, 1), (161, .isub, 1), (162, .invokevirtual 85, 3), (165, .if_icmp .ne 7, 3), (168, .iconst 1, 1), (169, .goto 4, 3), (172, .iconst 0, 1), (173, .istore 10, 2), (175, .iload 13, 2), (177, .istore 9, 2), (179, .iinc 11 1, 3), (182, .goto (-118), 3), (185, .aload_n 1, 1), (186, .bipush 20, 2), (188, .dup2, 1), (189, .iaload, 1), (190, .iconst 1, 1), (191, .iadd, 1), (192, .iastore, 1), (193, .aload_n 1, 1), (194, .bipush 20, 2), (196, .iaload, 1), (197, .bipush 6, 2), (199, .if_icmp .le 6, 3), (202, .iload 10, 2), (204, .ireturn, 1), (205, .aload_n 0, 1), (206, .iload_n 3, 1), (207, .iload 4, 2), (209, .iload 5, 2), (211, .iload 6, 2), (213, .invokevirtual 124, 3), (216, .istore 11, 2), (218, .aload_n 0, 1), (219, .iload_n 3, 1), (220, .iload 4, 2), (222, .iload 5, 2), (224, .iconst 1, 1), (225, .invokevirtual 124, 3), (228, .istore 12, 2), (230, .iload 10, 2), (232, .ifCond .eq 91, 3), (235, .iload 11, 2), (237, .bipush 100, 2), (239, .iload 7, 2), (241, .imul, 1), (242, .iload 8, 2), (244, .bipush 100, 2), (246, .irem, 1), (247, .iadd, 1), (248, .if_icmp .ne 75, 3), (251, .iload 12, 2), (253, .bipush 100, 2), (255, .idiv, 1), (256, .iload 7, 2), (258, .if_icmp .ne 65, 3), (261, .aload_n 0, 1), (262, .iload_n 3, 1), (263, .iload 4, 2), (265, .iconst 0, 1), (266, .iload 6, 2), (268, .invokevirtual 124, 3), (271, .bipush 100, 2), (273, .idiv, 1), (274, .aload_n 0, 1), (275, .iload_n 3, 1), (276, .iload 4, 2), (278, .iconst 2, 1), (279, .iload 6, 2), (281, .invokevirtual 124, 3), (284, .bipush 100, 2), (286, .idiv, 1), (287, .if_icmp .lt 36, 3), (290, .aload_n 0, 1), (291, .iload_n 3, 1), (292, .iload 4, 2), (294, .iconst 2, 1), (295, .iload 6, 2), (297, .invokevirtual 124, 3), (300, .bipush 100, 2), (302, .idiv, 1), (303, .aload_n 0, 1), (304, .iload_n 3, 1), (305, .iload 4, 2), (307, .iconst 1, 1), (308, .iload 6, 2), (310, .invokevirtual 124, 3), (313, .bipush 100, 2), (315, .idiv, 1), (316, .if_icmp .lt 7, 3), (319, .iconst 1, 1), (320, .goto 4, 3), (323, .iconst 0, 1), (324, .ireturn, 1)]
theorem dc_L_runs : dnL cL_runs dl_L_runs = true := by decide +kernel
theorem d_L_runs_0 : dn cL_runs 0 (.aload_n 0) 1 1 := dnAt dc_L_runs 0 rfl rfl
theorem d_L_runs_1 : dn cL_runs 1 (.iload_n 2) 1 2 := dnAt dc_L_runs 1 rfl rfl
theorem d_L_runs_2 : dn cL_runs 2 (.iload_n 3) 1 3 := dnAt dc_L_runs 2 rfl rfl
theorem d_L_runs_3 : dn cL_runs 3 (.iload 4) 2 5 := dnAt dc_L_runs 3 rfl rfl
theorem d_L_runs_5 : dn cL_runs 5 (.iload 5) 2 7 := dnAt dc_L_runs 4 rfl rfl
theorem d_L_runs_7 : dn cL_runs 7 (.iload 6) 2 9 := dnAt dc_L_runs 5 rfl rfl
theorem d_L_runs_9 : dn cL_runs 9 (.invokevirtual 117) 3 12 := dnAt dc_L_runs 6 rfl rfl
theorem d_L_runs_12 : dn cL_runs 12 (.istore 7) 2 14 := dnAt dc_L_runs 7 rfl rfl
theorem d_L_runs_14 : dn cL_runs 14 (.aload_n 1) 1 15 := dnAt dc_L_runs 8 rfl rfl
theorem d_L_runs_15 : dn cL_runs 15 (.iconst 4) 1 16 := dnAt dc_L_runs 9 rfl rfl
theorem d_L_runs_16 : dn cL_runs 16 (.iload_n 2) 1 17 := dnAt dc_L_runs 10 rfl rfl
theorem d_L_runs_17 : dn cL_runs 17 (.iadd) 1 18 := dnAt dc_L_runs 11 rfl rfl
theorem d_L_runs_18 : dn cL_runs 18 (.iconst 1) 1 19 := dnAt dc_L_runs 12 rfl rfl
theorem d_L_runs_19 : dn cL_runs 19 (.iastore) 1 20 := dnAt dc_L_runs 13 rfl rfl
theorem d_L_runs_20 : dn cL_runs 20 (.aload_n 1) 1 21 := dnAt dc_L_runs 14 rfl rfl
theorem d_L_runs_21 : dn cL_runs 21 (.bipush 12) 2 23 := dnAt dc_L_runs 15 rfl rfl
theorem d_L_runs_23 : dn cL_runs 23 (.iload_n 2) 1 24 := dnAt dc_L_runs 16 rfl rfl
theorem d_L_runs_24 : dn cL_runs 24 (.iadd) 1 25 := dnAt dc_L_runs 17 rfl rfl
theorem d_L_runs_25 : dn cL_runs 25 (.iload 4) 2 27 := dnAt dc_L_runs 18 rfl rfl
theorem d_L_runs_27 : dn cL_runs 27 (.iastore) 1 28 := dnAt dc_L_runs 19 rfl rfl
theorem d_L_runs_28 : dn cL_runs 28 (.iconst 0) 1 29 := dnAt dc_L_runs 20 rfl rfl
theorem d_L_runs_29 : dn cL_runs 29 (.istore 8) 2 31 := dnAt dc_L_runs 21 rfl rfl
theorem d_L_runs_31 : dn cL_runs 31 (.bipush (-100)) 2 33 := dnAt dc_L_runs 22 rfl rfl
theorem d_L_runs_33 : dn cL_runs 33 (.istore 9) 2 35 := dnAt dc_L_runs 23 rfl rfl
theorem d_L_runs_35 : dn cL_runs 35 (.aload_n 0) 1 36 := dnAt dc_L_runs 24 rfl rfl
theorem d_L_runs_36 : dn cL_runs 36 (.iload_n 2) 1 37 := dnAt dc_L_runs 25 rfl rfl
theorem d_L_runs_37 : dn cL_runs 37 (.invokevirtual 82) 3 40 := dnAt dc_L_runs 26 rfl rfl
theorem d_L_runs_40 : dn cL_runs 40 (.iload 7) 2 42 := dnAt dc_L_runs 27 rfl rfl
theorem d_L_runs_42 : dn cL_runs 42 (.if_icmp .ne 16) 3 45 := dnAt dc_L_runs 28 rfl rfl
theorem d_L_runs_45 : dn cL_runs 45 (.iload 7) 2 47 := dnAt dc_L_runs 29 rfl rfl
theorem d_L_runs_47 : dn cL_runs 47 (.aload_n 1) 1 48 := dnAt dc_L_runs 30 rfl rfl
theorem d_L_runs_48 : dn cL_runs 48 (.iload 4) 2 50 := dnAt dc_L_runs 31 rfl rfl
theorem d_L_runs_50 : dn cL_runs 50 (.iaload) 1 51 := dnAt dc_L_runs 32 rfl rfl
theorem d_L_runs_51 : dn cL_runs 51 (.if_icmp .gt 7) 3 54 := dnAt dc_L_runs 33 rfl rfl
theorem d_L_runs_54 : dn cL_runs 54 (.iconst 1) 1 55 := dnAt dc_L_runs 34 rfl rfl
theorem d_L_runs_55 : dn cL_runs 55 (.goto 4) 3 58 := dnAt dc_L_runs 35 rfl rfl
theorem d_L_runs_59 : dn cL_runs 59 (.istore 10) 2 61 := dnAt dc_L_runs 37 rfl rfl
theorem d_L_runs_61 : dn cL_runs 61 (.iconst 0) 1 62 := dnAt dc_L_runs 38 rfl rfl
theorem d_L_runs_62 : dn cL_runs 62 (.istore 11) 2 64 := dnAt dc_L_runs 39 rfl rfl
theorem d_L_runs_64 : dn cL_runs 64 (.iload 11) 2 66 := dnAt dc_L_runs 40 rfl rfl
theorem d_L_runs_66 : dn cL_runs 66 (.iload 7) 2 68 := dnAt dc_L_runs 41 rfl rfl
theorem d_L_runs_68 : dn cL_runs 68 (.if_icmp .ge 117) 3 71 := dnAt dc_L_runs 42 rfl rfl
theorem d_L_runs_71 : dn cL_runs 71 (.iload 10) 2 73 := dnAt dc_L_runs 43 rfl rfl
theorem d_L_runs_73 : dn cL_runs 73 (.ifCond .eq 112) 3 76 := dnAt dc_L_runs 44 rfl rfl
theorem d_L_runs_76 : dn cL_runs 76 (.aload_n 0) 1 77 := dnAt dc_L_runs 45 rfl rfl
theorem d_L_runs_77 : dn cL_runs 77 (.iload_n 2) 1 78 := dnAt dc_L_runs 46 rfl rfl
theorem d_L_runs_78 : dn cL_runs 78 (.iload 11) 2 80 := dnAt dc_L_runs 47 rfl rfl
theorem d_L_runs_80 : dn cL_runs 80 (.invokevirtual 121) 3 83 := dnAt dc_L_runs 48 rfl rfl
theorem d_L_runs_83 : dn cL_runs 83 (.istore 12) 2 85 := dnAt dc_L_runs 49 rfl rfl
theorem d_L_runs_85 : dn cL_runs 85 (.iload 12) 2 87 := dnAt dc_L_runs 50 rfl rfl
theorem d_L_runs_87 : dn cL_runs 87 (.bipush 100) 2 89 := dnAt dc_L_runs 51 rfl rfl
theorem d_L_runs_89 : dn cL_runs 89 (.idiv) 1 90 := dnAt dc_L_runs 52 rfl rfl
theorem d_L_runs_90 : dn cL_runs 90 (.istore 13) 2 92 := dnAt dc_L_runs 53 rfl rfl
theorem d_L_runs_92 : dn cL_runs 92 (.iload 12) 2 94 := dnAt dc_L_runs 54 rfl rfl
theorem d_L_runs_94 : dn cL_runs 94 (.bipush 100) 2 96 := dnAt dc_L_runs 55 rfl rfl
theorem d_L_runs_96 : dn cL_runs 96 (.irem) 1 97 := dnAt dc_L_runs 56 rfl rfl
theorem d_L_runs_97 : dn cL_runs 97 (.istore 14) 2 99 := dnAt dc_L_runs 57 rfl rfl
theorem d_L_runs_99 : dn cL_runs 99 (.iload 8) 2 101 := dnAt dc_L_runs 58 rfl rfl
theorem d_L_runs_101 : dn cL_runs 101 (.iload 14) 2 103 := dnAt dc_L_runs 59 rfl rfl
theorem d_L_runs_103 : dn cL_runs 103 (.iadd) 1 104 := dnAt dc_L_runs 60 rfl rfl
theorem d_L_runs_104 : dn cL_runs 104 (.istore 8) 2 106 := dnAt dc_L_runs 61 rfl rfl
theorem d_L_runs_106 : dn cL_runs 106 (.iload 13) 2 108 := dnAt dc_L_runs 62 rfl rfl
theorem d_L_runs_108 : dn cL_runs 108 (.iload 9) 2 110 := dnAt dc_L_runs 63 rfl rfl
theorem d_L_runs_110 : dn cL_runs 110 (.if_icmp .le 62) 3 113 := dnAt dc_L_runs 64 rfl rfl
theorem d_L_runs_113 : dn cL_runs 113 (.iload 14) 2 115 := dnAt dc_L_runs 65 rfl rfl
theorem d_L_runs_115 : dn cL_runs 115 (.iconst 1) 1 116 := dnAt dc_L_runs 66 rfl rfl
theorem d_L_runs_116 : dn cL_runs 116 (.if_icmp .lt 56) 3 119 := dnAt dc_L_runs 67 rfl rfl
theorem d_L_runs_119 : dn cL_runs 119 (.iload 14) 2 121 := dnAt dc_L_runs 68 rfl rfl
theorem d_L_runs_121 : dn cL_runs 121 (.bipush 8) 2 123 := dnAt dc_L_runs 69 rfl rfl
theorem d_L_runs_123 : dn cL_runs 123 (.if_icmp .gt 49) 3 126 := dnAt dc_L_runs 70 rfl rfl
theorem d_L_runs_126 : dn cL_runs 126 (.iload 13) 2 128 := dnAt dc_L_runs 71 rfl rfl
theorem d_L_runs_128 : dn cL_runs 128 (.iload 14) 2 130 := dnAt dc_L_runs 72 rfl rfl
theorem d_L_runs_130 : dn cL_runs 130 (.iadd) 1 131 := dnAt dc_L_runs 73 rfl rfl
theorem d_L_runs_131 : dn cL_runs 131 (.aload_n 1) 1 132 := dnAt dc_L_runs 74 rfl rfl
theorem d_L_runs_132 : dn cL_runs 132 (.iload 4) 2 134 := dnAt dc_L_runs 75 rfl rfl
theorem d_L_runs_134 : dn cL_runs 134 (.iaload) 1 135 := dnAt dc_L_runs 76 rfl rfl
theorem d_L_runs_135 : dn cL_runs 135 (.if_icmp .gt 37) 3 138 := dnAt dc_L_runs 77 rfl rfl
theorem d_L_runs_138 : dn cL_runs 138 (.iload 5) 2 140 := dnAt dc_L_runs 78 rfl rfl
theorem d_L_runs_140 : dn cL_runs 140 (.iconst 1) 1 141 := dnAt dc_L_runs 79 rfl rfl
theorem d_L_runs_141 : dn cL_runs 141 (.if_icmp .ne 27) 3 144 := dnAt dc_L_runs 80 rfl rfl
theorem d_L_runs_144 : dn cL_runs 144 (.aload_n 0) 1 145 := dnAt dc_L_runs 81 rfl rfl
theorem d_L_runs_145 : dn cL_runs 145 (.iload 4) 2 147 := dnAt dc_L_runs 82 rfl rfl
theorem d_L_runs_147 : dn cL_runs 147 (.iload 13) 2 149 := dnAt dc_L_runs 83 rfl rfl
theorem d_L_runs_149 : dn cL_runs 149 (.invokevirtual 85) 3 152 := dnAt dc_L_runs 84 rfl rfl
theorem d_L_runs_152 : dn cL_runs 152 (.aload_n 0) 1 153 := dnAt dc_L_runs 85 rfl rfl
theorem d_L_runs_153 : dn cL_runs 153 (.iload 4) 2 155 := dnAt dc_L_runs 86 rfl rfl
theorem d_L_runs_155 : dn cL_runs 155 (.iload 13) 2 157 := dnAt dc_L_runs 87 rfl rfl
theorem d_L_runs_157 : dn cL_runs 157 (.iload 14) 2 159 := dnAt dc_L_runs 88 rfl rfl
theorem d_L_runs_159 : dn cL_runs 159 (.iadd) 1 160 := dnAt dc_L_runs 89 rfl rfl
theorem d_L_runs_160 : dn cL_runs 160 (.iconst 1) 1 161 := dnAt dc_L_runs 90 rfl rfl
theorem d_L_runs_161 : dn cL_runs 161 (.isub) 1 162 := dnAt dc_L_runs 91 rfl rfl
theorem d_L_runs_162 : dn cL_runs 162 (.invokevirtual 85) 3 165 := dnAt dc_L_runs 92 rfl rfl
theorem d_L_runs_165 : dn cL_runs 165 (.if_icmp .ne 7) 3 168 := dnAt dc_L_runs 93 rfl rfl
theorem d_L_runs_168 : dn cL_runs 168 (.iconst 1) 1 169 := dnAt dc_L_runs 94 rfl rfl
theorem d_L_runs_169 : dn cL_runs 169 (.goto 4) 3 172 := dnAt dc_L_runs 95 rfl rfl
theorem d_L_runs_173 : dn cL_runs 173 (.istore 10) 2 175 := dnAt dc_L_runs 97 rfl rfl
theorem d_L_runs_175 : dn cL_runs 175 (.iload 13) 2 177 := dnAt dc_L_runs 98 rfl rfl
theorem d_L_runs_177 : dn cL_runs 177 (.istore 9) 2 179 := dnAt dc_L_runs 99 rfl rfl
theorem d_L_runs_179 : dn cL_runs 179 (.iinc 11 1) 3 182 := dnAt dc_L_runs 100 rfl rfl
theorem d_L_runs_182 : dn cL_runs 182 (.goto (-118)) 3 185 := dnAt dc_L_runs 101 rfl rfl
theorem d_L_runs_185 : dn cL_runs 185 (.aload_n 1) 1 186 := dnAt dc_L_runs 102 rfl rfl
theorem d_L_runs_186 : dn cL_runs 186 (.bipush 20) 2 188 := dnAt dc_L_runs 103 rfl rfl
theorem d_L_runs_188 : dn cL_runs 188 (.dup2) 1 189 := dnAt dc_L_runs 104 rfl rfl
theorem d_L_runs_189 : dn cL_runs 189 (.iaload) 1 190 := dnAt dc_L_runs 105 rfl rfl
theorem d_L_runs_190 : dn cL_runs 190 (.iconst 1) 1 191 := dnAt dc_L_runs 106 rfl rfl
theorem d_L_runs_191 : dn cL_runs 191 (.iadd) 1 192 := dnAt dc_L_runs 107 rfl rfl
theorem d_L_runs_192 : dn cL_runs 192 (.iastore) 1 193 := dnAt dc_L_runs 108 rfl rfl
theorem d_L_runs_193 : dn cL_runs 193 (.aload_n 1) 1 194 := dnAt dc_L_runs 109 rfl rfl
theorem d_L_runs_194 : dn cL_runs 194 (.bipush 20) 2 196 := dnAt dc_L_runs 110 rfl rfl
theorem d_L_runs_196 : dn cL_runs 196 (.iaload) 1 197 := dnAt dc_L_runs 111 rfl rfl
theorem d_L_runs_197 : dn cL_runs 197 (.bipush 6) 2 199 := dnAt dc_L_runs 112 rfl rfl
theorem d_L_runs_199 : dn cL_runs 199 (.if_icmp .le 6) 3 202 := dnAt dc_L_runs 113 rfl rfl
theorem d_L_runs_202 : dn cL_runs 202 (.iload 10) 2 204 := dnAt dc_L_runs 114 rfl rfl
theorem d_L_runs_204 : dn cL_runs 204 (.ireturn) 1 205 := dnAt dc_L_runs 115 rfl rfl
theorem d_L_runs_205 : dn cL_runs 205 (.aload_n 0) 1 206 := dnAt dc_L_runs 116 rfl rfl
theorem d_L_runs_206 : dn cL_runs 206 (.iload_n 3) 1 207 := dnAt dc_L_runs 117 rfl rfl
theorem d_L_runs_207 : dn cL_runs 207 (.iload 4) 2 209 := dnAt dc_L_runs 118 rfl rfl
theorem d_L_runs_209 : dn cL_runs 209 (.iload 5) 2 211 := dnAt dc_L_runs 119 rfl rfl
theorem d_L_runs_211 : dn cL_runs 211 (.iload 6) 2 213 := dnAt dc_L_runs 120 rfl rfl
theorem d_L_runs_213 : dn cL_runs 213 (.invokevirtual 124) 3 216 := dnAt dc_L_runs 121 rfl rfl
theorem d_L_runs_216 : dn cL_runs 216 (.istore 11) 2 218 := dnAt dc_L_runs 122 rfl rfl
theorem d_L_runs_218 : dn cL_runs 218 (.aload_n 0) 1 219 := dnAt dc_L_runs 123 rfl rfl
theorem d_L_runs_219 : dn cL_runs 219 (.iload_n 3) 1 220 := dnAt dc_L_runs 124 rfl rfl
theorem d_L_runs_220 : dn cL_runs 220 (.iload 4) 2 222 := dnAt dc_L_runs 125 rfl rfl
theorem d_L_runs_222 : dn cL_runs 222 (.iload 5) 2 224 := dnAt dc_L_runs 126 rfl rfl
theorem d_L_runs_224 : dn cL_runs 224 (.iconst 1) 1 225 := dnAt dc_L_runs 127 rfl rfl
theorem d_L_runs_225 : dn cL_runs 225 (.invokevirtual 124) 3 228 := dnAt dc_L_runs 128 rfl rfl
theorem d_L_runs_228 : dn cL_runs 228 (.istore 12) 2 230 := dnAt dc_L_runs 129 rfl rfl
theorem d_L_runs_230 : dn cL_runs 230 (.iload 10) 2 232 := dnAt dc_L_runs 130 rfl rfl
theorem d_L_runs_232 : dn cL_runs 232 (.ifCond .eq 91) 3 235 := dnAt dc_L_runs 131 rfl rfl
theorem d_L_runs_235 : dn cL_runs 235 (.iload 11) 2 237 := dnAt dc_L_runs 132 rfl rfl
theorem d_L_runs_237 : dn cL_runs 237 (.bipush 100) 2 239 := dnAt dc_L_runs 133 rfl rfl
theorem d_L_runs_239 : dn cL_runs 239 (.iload 7) 2 241 := dnAt dc_L_runs 134 rfl rfl
theorem d_L_runs_241 : dn cL_runs 241 (.imul) 1 242 := dnAt dc_L_runs 135 rfl rfl
theorem d_L_runs_242 : dn cL_runs 242 (.iload 8) 2 244 := dnAt dc_L_runs 136 rfl rfl
theorem d_L_runs_244 : dn cL_runs 244 (.bipush 100) 2 246 := dnAt dc_L_runs 137 rfl rfl
theorem d_L_runs_246 : dn cL_runs 246 (.irem) 1 247 := dnAt dc_L_runs 138 rfl rfl
theorem d_L_runs_247 : dn cL_runs 247 (.iadd) 1 248 := dnAt dc_L_runs 139 rfl rfl
theorem d_L_runs_248 : dn cL_runs 248 (.if_icmp .ne 75) 3 251 := dnAt dc_L_runs 140 rfl rfl
theorem d_L_runs_251 : dn cL_runs 251 (.iload 12) 2 253 := dnAt dc_L_runs 141 rfl rfl
theorem d_L_runs_253 : dn cL_runs 253 (.bipush 100) 2 255 := dnAt dc_L_runs 142 rfl rfl
theorem d_L_runs_255 : dn cL_runs 255 (.idiv) 1 256 := dnAt dc_L_runs 143 rfl rfl
theorem d_L_runs_256 : dn cL_runs 256 (.iload 7) 2 258 := dnAt dc_L_runs 144 rfl rfl
theorem d_L_runs_258 : dn cL_runs 258 (.if_icmp .ne 65) 3 261 := dnAt dc_L_runs 145 rfl rfl
theorem d_L_runs_261 : dn cL_runs 261 (.aload_n 0) 1 262 := dnAt dc_L_runs 146 rfl rfl
theorem d_L_runs_262 : dn cL_runs 262 (.iload_n 3) 1 263 := dnAt dc_L_runs 147 rfl rfl
theorem d_L_runs_263 : dn cL_runs 263 (.iload 4) 2 265 := dnAt dc_L_runs 148 rfl rfl
theorem d_L_runs_265 : dn cL_runs 265 (.iconst 0) 1 266 := dnAt dc_L_runs 149 rfl rfl
theorem d_L_runs_266 : dn cL_runs 266 (.iload 6) 2 268 := dnAt dc_L_runs 150 rfl rfl
theorem d_L_runs_268 : dn cL_runs 268 (.invokevirtual 124) 3 271 := dnAt dc_L_runs 151 rfl rfl
theorem d_L_runs_271 : dn cL_runs 271 (.bipush 100) 2 273 := dnAt dc_L_runs 152 rfl rfl
theorem d_L_runs_273 : dn cL_runs 273 (.idiv) 1 274 := dnAt dc_L_runs 153 rfl rfl
theorem d_L_runs_274 : dn cL_runs 274 (.aload_n 0) 1 275 := dnAt dc_L_runs 154 rfl rfl
theorem d_L_runs_275 : dn cL_runs 275 (.iload_n 3) 1 276 := dnAt dc_L_runs 155 rfl rfl
theorem d_L_runs_276 : dn cL_runs 276 (.iload 4) 2 278 := dnAt dc_L_runs 156 rfl rfl
theorem d_L_runs_278 : dn cL_runs 278 (.iconst 2) 1 279 := dnAt dc_L_runs 157 rfl rfl
theorem d_L_runs_279 : dn cL_runs 279 (.iload 6) 2 281 := dnAt dc_L_runs 158 rfl rfl
theorem d_L_runs_281 : dn cL_runs 281 (.invokevirtual 124) 3 284 := dnAt dc_L_runs 159 rfl rfl
theorem d_L_runs_284 : dn cL_runs 284 (.bipush 100) 2 286 := dnAt dc_L_runs 160 rfl rfl
theorem d_L_runs_286 : dn cL_runs 286 (.idiv) 1 287 := dnAt dc_L_runs 161 rfl rfl
theorem d_L_runs_287 : dn cL_runs 287 (.if_icmp .lt 36) 3 290 := dnAt dc_L_runs 162 rfl rfl
theorem d_L_runs_290 : dn cL_runs 290 (.aload_n 0) 1 291 := dnAt dc_L_runs 163 rfl rfl
theorem d_L_runs_291 : dn cL_runs 291 (.iload_n 3) 1 292 := dnAt dc_L_runs 164 rfl rfl
theorem d_L_runs_292 : dn cL_runs 292 (.iload 4) 2 294 := dnAt dc_L_runs 165 rfl rfl
theorem d_L_runs_294 : dn cL_runs 294 (.iconst 2) 1 295 := dnAt dc_L_runs 166 rfl rfl
theorem d_L_runs_295 : dn cL_runs 295 (.iload 6) 2 297 := dnAt dc_L_runs 167 rfl rfl
theorem d_L_runs_297 : dn cL_runs 297 (.invokevirtual 124) 3 300 := dnAt dc_L_runs 168 rfl rfl
theorem d_L_runs_300 : dn cL_runs 300 (.bipush 100) 2 302 := dnAt dc_L_runs 169 rfl rfl
theorem d_L_runs_302 : dn cL_runs 302 (.idiv) 1 303 := dnAt dc_L_runs 170 rfl rfl
theorem d_L_runs_303 : dn cL_runs 303 (.aload_n 0) 1 304 := dnAt dc_L_runs 171 rfl rfl
theorem d_L_runs_304 : dn cL_runs 304 (.iload_n 3) 1 305 := dnAt dc_L_runs 172 rfl rfl
theorem d_L_runs_305 : dn cL_runs 305 (.iload 4) 2 307 := dnAt dc_L_runs 173 rfl rfl
theorem d_L_runs_307 : dn cL_runs 307 (.iconst 1) 1 308 := dnAt dc_L_runs 174 rfl rfl
theorem d_L_runs_308 : dn cL_runs 308 (.iload 6) 2 310 := dnAt dc_L_runs 175 rfl rfl
theorem d_L_runs_310 : dn cL_runs 310 (.invokevirtual 124) 3 313 := dnAt dc_L_runs 176 rfl rfl
theorem d_L_runs_313 : dn cL_runs 313 (.bipush 100) 2 315 := dnAt dc_L_runs 177 rfl rfl
theorem d_L_runs_315 : dn cL_runs 315 (.idiv) 1 316 := dnAt dc_L_runs 178 rfl rfl
theorem d_L_runs_316 : dn cL_runs 316 (.if_icmp .lt 7) 3 319 := dnAt dc_L_runs 179 rfl rfl
theorem d_L_runs_319 : dn cL_runs 319 (.iconst 1) 1 320 := dnAt dc_L_runs 180 rfl rfl
theorem d_L_runs_320 : dn cL_runs 320 (.goto 4) 3 323 := dnAt dc_L_runs 181 rfl rfl
theorem d_L_runs_324 : dn cL_runs 324 (.ireturn) 1 325 := dnAt dc_L_runs 183 rfl rfl
set_option maxHeartbeats 4000000 in
set_option maxRecDepth 100000 in
theorem lawm_runs {l : Launch} {G : eG} {ad : Nat → Nat → Nat} {g : mS} {f : Nat → Nat} {rs pp sd bd k0 : Nat} {L : Bool} (hlf : l.stackTraces = false) (hr : rs < 8) (hp : pp < mK g 15) (hs : sd < 2) (hb : bd < 3) (P : pI g f k0) (hk0 : k0 < 1000) : kW l G ad g f yL_runs cL_runs 15 (Option.some Jvm.ClassFile.FieldType.boolean) { frames := 8, cells := 1944, slots := 15552, locals := 182 } [.ref (ad 0 0), .ref (ad 101 0), .int (nI rs), .int (nI pp), .int (nI sd), .int (nI bd), .int (bI L)] (fun v g' f' => v = some (.int (bI true)) ∧ pI g' f' (k0 + 1)) := by
  refine kW.of hlf (by decide) (Nat.le_of_ble_eq_true rfl) (Nat.le_of_ble_eq_true rfl) ?_
  intro x LX C A TY
  show VP G x ad g f { frames := 8, cells := 1944, slots := 15552, locals := 182 } 1944 0 [(0, .ref (ad 0 0)), (1, .ref (ad 101 0)), (2, .int (nI rs)), (3, .int (nI pp)), (4, .int (nI sd)), (5, .int (nI bd)), (6, .int (bI L))] []
  refine p_AI (fun A0 => ?_)
  have h12 : mK g 15 ≤ 12 := pats_le A0.1
  have h40 := A0.1.1 sd hs
  have hsd : f sd = mN g 1 sd := P.1 sd hs
  have hf20 : f 20 ≤ k0 := P.2.2.2.2.2.1
  refine p_aload_n C d_L_runs_0 0 rfl ?_
  refine p_iload_n C d_L_runs_1 2 rfl ?_
  refine p_iload_n C d_L_runs_2 3 rfl ?_
  refine p_iload C d_L_runs_3 4 rfl ?_
  refine p_iload C d_L_runs_5 5 rfl ?_
  refine p_iload C d_L_runs_7 6 rfl ?_
  refine p_callX (As := [.int (nI rs), .int (nI pp), .int (nI sd), .int (nI bd), .int (bI L)]) (B' := 1940) C LX d_L_runs_9 ok_RL_117 (fun l h T X Y hl m A k => q_run hl m A k (a_cRun hr hp h12 hs hb)) (fun _ x => x) rfl rfl (rest := []) rfl (Nat.le_of_ble_eq_true rfl) ⟨by decide, Nat.le_of_ble_eq_true rfl⟩ ⟨(show 1940 + 4 ≤ 1944 by omega), Nat.le_of_ble_eq_true rfl⟩ (fun v9 g1 e1 => ?_)
  obtain ⟨rfl, e1⟩ := e1
  show VP G x ad g1 f { frames := 8, cells := 1944, slots := 15552, locals := 182 } 1940 12 [(0, .ref (ad 0 0)), (1, .ref (ad 101 0)), (2, .int (nI rs)), (3, .int (nI pp)), (4, .int (nI sd)), (5, .int (nI bd)), (6, .int (bI L))] [.int (nI (mSize g1 (tn (nI rs))))]
  obtain ⟨R1, I1, t1⟩ := e1
  simp only [tn_n (show rs < 10000 by omega), tn_n (show pp < 10000 by omega), tn_n (show sd < 10000 by omega), tn_n (show bd < 10000 by omega)] at I1 t1
  have h1n : mI g1 20 rs ≠ -1 := by rw [I1, if_pos rfl]; exact nI_ne hs
  refine p_AI (fun A1 => ?_)
  have rl := fun k hk => run_loop A0.1 A1.1 hr (by omega) hs t1 (k := k) hk
  obtain ⟨s1, s2⟩ := run_sums A0.1 A1.1 hr (by omega) hs t1
  have hnw := nWalk_le (g := g) (p := pp) (s := sd) (bd := bd) (L := L) (mN g 1 sd)
  have hsz := mSize_le g1 rs
  refine p_st (st' := [.int (nI (mSize g1 rs))]) (by rw [tn_n (by omega)]) ?_
  refine p_istore C d_L_runs_12 (lv' := [(7, .int (nI (mSize g1 rs))), (0, .ref (ad 0 0)), (1, .ref (ad 101 0)), (2, .int (nI rs)), (3, .int (nI pp)), (4, .int (nI sd)), (5, .int (nI bd)), (6, .int (bI L))]) (by decide) rfl ?_
  refine p_aload_n C d_L_runs_14 2 rfl ?_
  refine p_iconst C d_L_runs_15 (v := (nI 4)) rfl ?_
  refine p_iload_n C d_L_runs_16 3 rfl ?_
  refine pn_iadd C d_L_runs_17 ?_
  refine p_iconst C d_L_runs_18 (v := (nI 1)) rfl ?_
  refine p_cst C (v := 1) d_L_runs_19 (by omega) ?_
  refine p_aload_n C d_L_runs_20 2 rfl ?_
  refine p_bipush C d_L_runs_21 (v := (nI 12)) rfl ?_
  refine p_iload_n C d_L_runs_23 3 rfl ?_
  refine pn_iadd C d_L_runs_24 ?_
  refine p_iload C d_L_runs_25 5 rfl ?_
  refine p_cst C (v := sd) d_L_runs_27 (by omega) ?_
  refine p_iconst C d_L_runs_28 (v := (nI 0)) rfl ?_
  refine p_istore C d_L_runs_29 (lv' := [(8, .int (nI 0)), (7, .int (nI (mSize g1 rs))), (0, .ref (ad 0 0)), (1, .ref (ad 101 0)), (2, .int (nI rs)), (3, .int (nI pp)), (4, .int (nI sd)), (5, .int (nI bd)), (6, .int (bI L))]) (by decide) rfl ?_
  refine p_bipush C d_L_runs_31 (v := ((-100))) rfl ?_
  refine p_istore C d_L_runs_33 (lv' := [(9, .int ((-100))), (8, .int (nI 0)), (7, .int (nI (mSize g1 rs))), (0, .ref (ad 0 0)), (1, .ref (ad 101 0)), (2, .int (nI rs)), (3, .int (nI pp)), (4, .int (nI sd)), (5, .int (nI bd)), (6, .int (bI L))]) (by decide) rfl ?_
  refine p_aload_n C d_L_runs_35 3 rfl ?_
  refine p_iload_n C d_L_runs_36 5 rfl ?_
  refine p_callC (As := [.int (nI rs)]) (B' := 1940) C d_L_runs_37 ok_RL_82 (fun l h T X Y m A k => q_size m A k ) rfl rfl (rest := []) rfl (Nat.le_of_ble_eq_true rfl) ⟨by decide, Nat.le_of_ble_eq_true rfl⟩ ⟨(show 1940 + 0 ≤ 1940 by omega), Nat.le_of_ble_eq_true rfl⟩ (fun v9 g2 e2 => ?_)
  obtain ⟨rfl, e2⟩ := e2
  show VP G x ad g2 (uF (uF f (4 + rs) 1) (12 + rs) sd) { frames := 8, cells := 1944, slots := 15552, locals := 182 } 1940 40 [(9, .int ((-100))), (8, .int (nI 0)), (7, .int (nI (mSize g1 rs))), (0, .ref (ad 0 0)), (1, .ref (ad 101 0)), (2, .int (nI rs)), (3, .int (nI pp)), (4, .int (nI sd)), (5, .int (nI bd)), (6, .int (bI L))] [.int (rSz g1 ((nI rs)))]
  refine p_st (st' := [.int (nI (mSize g1 rs))]) (by rw [a_size hr h1n]) ?_
  refine p_iload C d_L_runs_40 2 rfl ?_
  refine pn_icmp_ne C d_L_runs_42 (tgt := 58) rfl (by omega) (by omega) (fun c_42 => ?_) (fun c_42 => ?_)
  · skip
    exact absurd rfl c_42
  · skip
    refine p_iload C d_L_runs_45 2 rfl ?_
    refine p_aload_n C d_L_runs_47 4 rfl ?_
    refine p_iload C d_L_runs_48 7 rfl ?_
    refine p_cld C d_L_runs_50 (by omega) ?_
    refine p_st (st' := [.int (nI (mN g 1 sd)), .int (nI (mSize g1 rs))]) (by rw [uF_n (by omega), uF_n (by omega), hsd]) ?_
    refine pn_icmp_gt C d_L_runs_51 (tgt := 58) rfl (by omega) (by omega) (fun c_51 => ?_) (fun c_51 => ?_)
    · skip
      exfalso; omega
    · skip
      refine p_iconst C d_L_runs_54 (v := (bI true)) rfl ?_
      refine p_goto C d_L_runs_55 (tgt := 59) rfl ?_
      refine p_istore C d_L_runs_59 (lv' := [(10, .int (bI true)), (9, .int ((-100))), (8, .int (nI 0)), (7, .int (nI (mSize g1 rs))), (0, .ref (ad 0 0)), (1, .ref (ad 101 0)), (2, .int (nI rs)), (3, .int (nI pp)), (4, .int (nI sd)), (5, .int (nI bd)), (6, .int (bI L))]) (by decide) rfl ?_
      refine p_iconst C d_L_runs_61 (v := (nI 0)) rfl ?_
      refine p_istore C d_L_runs_62 (lv' := [(11, .int (nI 0)), (10, .int (bI true)), (9, .int ((-100))), (8, .int (nI 0)), (7, .int (nI (mSize g1 rs))), (0, .ref (ad 0 0)), (1, .ref (ad 101 0)), (2, .int (nI rs)), (3, .int (nI pp)), (4, .int (nI sd)), (5, .int (nI bd)), (6, .int (bI L))]) (by decide) rfl ?_
      have loop_64 : ∀ (fuel : Nat) (sm : Nat) (la : Int32) (k : Nat) (gq : mS), (k ≤ mSize g1 rs) → (eqv g1 gq) → (sm = sumTo (fun m => fdM g1 rs m 360 % 100) k) → (k < mSize g1 rs → la < nI (fdM g1 rs k 360 / 100)) → (mSize g1 rs + 1 - k) < fuel → VP G x ad gq (uF (uF f (4 + rs) 1) (12 + rs) sd) { frames := 8, cells := 1944, slots := 15552, locals := 182 } (6 * (320 - k) + 20) 64 [(11, .int (nI k)), (10, .int (bI true)), (9, .int la), (8, .int (nI sm)), (7, .int (nI (mSize g1 rs))), (0, .ref (ad 0 0)), (1, .ref (ad 101 0)), (2, .int (nI rs)), (3, .int (nI pp)), (4, .int (nI sd)), (5, .int (nI bd)), (6, .int (bI L))] [] := by
        intro fuel
        induction fuel with
        | zero => intro sm la k gq hk hE hsm ho hf9; exact absurd hf9 (Nat.not_lt_zero _)
        | succ fuel ih_64 =>
          intro sm la k gq hk hE hsm ho hf9
          refine p_iload C d_L_runs_64 0 rfl ?_
          refine p_iload C d_L_runs_66 4 rfl ?_
          refine pn_icmp_ge C d_L_runs_68 (tgt := 185) rfl (by omega) (by omega) (fun c_68 => ?_) (fun c_68 => ?_)
          · skip
            refine p_aload_n C d_L_runs_185 6 rfl ?_
            refine p_bipush C d_L_runs_186 (v := (nI 20)) rfl ?_
            refine p_dup2 C d_L_runs_188 rfl rfl ?_
            refine p_cld C d_L_runs_189 (by omega) ?_
            refine p_st (st' := [.int (nI (f 20)), .int (nI 20), .ref (ad 101 0)]) (by rw [uF_n (by omega), uF_n (by omega)]) ?_
            refine p_iconst C d_L_runs_190 (v := (nI 1)) rfl ?_
            refine pn_iadd C d_L_runs_191 ?_
            refine p_cst C (v := (f 20) + 1) d_L_runs_192 (by omega) ?_
            refine p_aload_n C d_L_runs_193 6 rfl ?_
            refine p_bipush C d_L_runs_194 (v := (nI 20)) rfl ?_
            refine p_cld C d_L_runs_196 (by omega) ?_
            refine p_st (st' := [.int (nI ((f 20) + 1))]) (by rw [uF_s]) ?_
            refine p_bipush C d_L_runs_197 (v := (nI 6)) rfl ?_
            refine pn_icmp_le C d_L_runs_199 (tgt := 205) rfl (by omega) (by omega) (fun c_199 => ?_) (fun c_199 => ?_)
            · skip
              refine p_aload_n C d_L_runs_205 5 rfl ?_
              refine p_iload_n C d_L_runs_206 8 rfl ?_
              refine p_iload C d_L_runs_207 9 rfl ?_
              refine p_iload C d_L_runs_209 10 rfl ?_
              refine p_iload C d_L_runs_211 11 rfl ?_
              refine p_callX (As := [.int (nI pp), .int (nI sd), .int (nI bd), .int (bI L)]) (B' := 6 * (320 - k) + 17) C LX d_L_runs_213 ok_RL_124 (fun l h T X Y hl m A k => q_walk hl m A k (a_walkR (R1.tr hE.res) (L := L) hp h12 hs hb).1) (fun _ x => x) rfl rfl (rest := []) rfl (Nat.le_of_ble_eq_true rfl) ⟨by decide, Nat.le_of_ble_eq_true rfl⟩ ⟨(show 6 * (320 - k) + 17 + 3 ≤ 6 * (320 - k) + 20 by omega), Nat.le_of_ble_eq_true rfl⟩ (fun v9 g3 e3 => ?_)
              obtain ⟨rfl, e3⟩ := e3
              show VP G x ad g3 (uF (uF (uF f (4 + rs) 1) (12 + rs) sd) 20 ((f 20) + 1)) { frames := 8, cells := 1944, slots := 15552, locals := 182 } (6 * (320 - k) + 17) 216 [(11, .int (nI k)), (10, .int (bI true)), (9, .int la), (8, .int (nI sm)), (7, .int (nI (mSize g1 rs))), (0, .ref (ad 0 0)), (1, .ref (ad 101 0)), (2, .int (nI rs)), (3, .int (nI pp)), (4, .int (nI sd)), (5, .int (nI bd)), (6, .int (bI L))] [.int (nI (rWalk gq (nI pp) (nI sd) (nI bd) L))]
              refine p_st (st' := [.int (nI (100 * nWalk g pp sd bd L (mN g 1 sd) + sWalk g pp sd bd L (mN g 1 sd) % 100))]) (by rw [(a_walkR (R1.tr hE.res) (L := L) hp h12 hs hb).2]) ?_
              have EW3 := hE.tr e3
              refine p_istore C d_L_runs_216 (lv' := [(11, .int (nI (100 * nWalk g pp sd bd L (mN g 1 sd) + sWalk g pp sd bd L (mN g 1 sd) % 100))), (10, .int (bI true)), (9, .int la), (8, .int (nI sm)), (7, .int (nI (mSize g1 rs))), (0, .ref (ad 0 0)), (1, .ref (ad 101 0)), (2, .int (nI rs)), (3, .int (nI pp)), (4, .int (nI sd)), (5, .int (nI bd)), (6, .int (bI L))]) (by decide) rfl ?_
              refine p_aload_n C d_L_runs_218 5 rfl ?_
              refine p_iload_n C d_L_runs_219 8 rfl ?_
              refine p_iload C d_L_runs_220 9 rfl ?_
              refine p_iload C d_L_runs_222 10 rfl ?_
              refine p_iconst C d_L_runs_224 (v := (bI true)) rfl ?_
              refine p_callX (As := [.int (nI pp), .int (nI sd), .int (nI bd), .int (bI true)]) (B' := 6 * (320 - k) + 14) C LX d_L_runs_225 ok_RL_124 (fun l h T X Y hl m A k => q_walk hl m A k (a_walkR (R1.tr EW3.res) (L := true) hp h12 hs hb).1) (fun _ x => x) rfl rfl (rest := []) rfl (Nat.le_of_ble_eq_true rfl) ⟨by decide, Nat.le_of_ble_eq_true rfl⟩ ⟨(show 6 * (320 - k) + 14 + 3 ≤ 6 * (320 - k) + 17 by omega), Nat.le_of_ble_eq_true rfl⟩ (fun v9 g4 e4 => ?_)
              obtain ⟨rfl, e4⟩ := e4
              show VP G x ad g4 (uF (uF (uF f (4 + rs) 1) (12 + rs) sd) 20 ((f 20) + 1)) { frames := 8, cells := 1944, slots := 15552, locals := 182 } (6 * (320 - k) + 14) 228 [(11, .int (nI (100 * nWalk g pp sd bd L (mN g 1 sd) + sWalk g pp sd bd L (mN g 1 sd) % 100))), (10, .int (bI true)), (9, .int la), (8, .int (nI sm)), (7, .int (nI (mSize g1 rs))), (0, .ref (ad 0 0)), (1, .ref (ad 101 0)), (2, .int (nI rs)), (3, .int (nI pp)), (4, .int (nI sd)), (5, .int (nI bd)), (6, .int (bI L))] [.int (nI (rWalk g3 (nI pp) (nI sd) (nI bd) true))]
              refine p_st (st' := [.int (nI (100 * nWalk g pp sd bd true (mN g 1 sd) + sWalk g pp sd bd true (mN g 1 sd) % 100))]) (by rw [(a_walkR (R1.tr EW3.res) (L := true) hp h12 hs hb).2]) ?_
              have EW4 := EW3.tr e4
              refine p_istore C d_L_runs_228 (lv' := [(12, .int (nI (100 * nWalk g pp sd bd true (mN g 1 sd) + sWalk g pp sd bd true (mN g 1 sd) % 100))), (11, .int (nI (100 * nWalk g pp sd bd L (mN g 1 sd) + sWalk g pp sd bd L (mN g 1 sd) % 100))), (10, .int (bI true)), (9, .int la), (8, .int (nI sm)), (7, .int (nI (mSize g1 rs))), (0, .ref (ad 0 0)), (1, .ref (ad 101 0)), (2, .int (nI rs)), (3, .int (nI pp)), (4, .int (nI sd)), (5, .int (nI bd)), (6, .int (bI L))]) (by decide) rfl ?_
              have hsm2 : sm = sWalk g pp sd bd L (mN g 1 sd) := by rw [hsm, show k = mSize g1 rs by omega]; exact s2
              have hsb : sm ≤ 32000 := by rw [hsm]; exact Nat.le_trans (sumTo_le (c := 100) (fun j _ => Nat.le_of_lt (Nat.mod_lt _ (by decide)))) (by omega)
              have hL1 : nWalk g pp sd bd true (mN g 1 sd) = nWalk g pp sd bd L (mN g 1 sd) := nWalk_L
              have h02 := nWalk_02 A0.1 (p := pp) (bd := 2) (L := L) hs
              have h21 := nWalk_21 A0.1 P.2.2.2.2.2.2 (p := pp) (L := L) hs
              have n0 := nWalk_le (g := g) (p := pp) (s := sd) (bd := 0) (L := L) (mN g 1 sd)
              have n2 := nWalk_le (g := g) (p := pp) (s := sd) (bd := 2) (L := L) (mN g 1 sd)
              have n1 := nWalk_le (g := g) (p := pp) (s := sd) (bd := 1) (L := L) (mN g 1 sd)
              refine p_iload C d_L_runs_230 2 rfl ?_
              refine pb_if_eq C d_L_runs_232 (tgt := 323) rfl (fun c_232 => ?_) (fun c_232 => ?_)
              · skip
                cases c_232
              · skip
                refine p_iload C d_L_runs_235 1 rfl ?_
                refine p_bipush C d_L_runs_237 (v := (nI 100)) rfl ?_
                refine p_iload C d_L_runs_239 5 rfl ?_
                refine pn_imul C d_L_runs_241 ?_
                refine p_iload C d_L_runs_242 4 rfl ?_
                refine p_bipush C d_L_runs_244 (v := (nI 100)) rfl ?_
                refine pn_irem C d_L_runs_246 (by omega) (by omega) (by omega) ?_
                refine pn_iadd C d_L_runs_247 ?_
                refine pn_icmp_ne C d_L_runs_248 (tgt := 323) rfl (by omega) (by omega) (fun c_248 => ?_) (fun c_248 => ?_)
                · skip
                  exfalso; omega
                · skip
                  refine p_iload C d_L_runs_251 0 rfl ?_
                  refine p_bipush C d_L_runs_253 (v := (nI 100)) rfl ?_
                  refine pn_idiv C d_L_runs_255 (by omega) (by omega) (by omega) ?_
                  refine p_iload C d_L_runs_256 5 rfl ?_
                  refine pn_icmp_ne C d_L_runs_258 (tgt := 323) rfl (by omega) (by omega) (fun c_258 => ?_) (fun c_258 => ?_)
                  · skip
                    exfalso; omega
                  · skip
                    refine p_aload_n C d_L_runs_261 6 rfl ?_
                    refine p_iload_n C d_L_runs_262 9 rfl ?_
                    refine p_iload C d_L_runs_263 10 rfl ?_
                    refine p_iconst C d_L_runs_265 (v := (nI 0)) rfl ?_
                    refine p_iload C d_L_runs_266 12 rfl ?_
                    refine p_callX (As := [.int (nI pp), .int (nI sd), .int (nI 0), .int (bI L)]) (B' := 6 * (320 - k) + 11) C LX d_L_runs_268 ok_RL_124 (fun l h T X Y hl m A k => q_walk hl m A k (a_walkR (R1.tr EW4.res) (L := L) hp h12 hs (show 0 < 3 by omega)).1) (fun _ x => x) rfl rfl (rest := []) rfl (Nat.le_of_ble_eq_true rfl) ⟨by decide, Nat.le_of_ble_eq_true rfl⟩ ⟨(show 6 * (320 - k) + 11 + 3 ≤ 6 * (320 - k) + 14 by omega), Nat.le_of_ble_eq_true rfl⟩ (fun v9 g5 e5 => ?_)
                    obtain ⟨rfl, e5⟩ := e5
                    show VP G x ad g5 (uF (uF (uF f (4 + rs) 1) (12 + rs) sd) 20 ((f 20) + 1)) { frames := 8, cells := 1944, slots := 15552, locals := 182 } (6 * (320 - k) + 11) 271 [(12, .int (nI (100 * nWalk g pp sd bd true (mN g 1 sd) + sWalk g pp sd bd true (mN g 1 sd) % 100))), (11, .int (nI (100 * nWalk g pp sd bd L (mN g 1 sd) + sWalk g pp sd bd L (mN g 1 sd) % 100))), (10, .int (bI true)), (9, .int la), (8, .int (nI sm)), (7, .int (nI (mSize g1 rs))), (0, .ref (ad 0 0)), (1, .ref (ad 101 0)), (2, .int (nI rs)), (3, .int (nI pp)), (4, .int (nI sd)), (5, .int (nI bd)), (6, .int (bI L))] [.int (nI (rWalk g4 (nI pp) (nI sd) (nI 0) L))]
                    refine p_st (st' := [.int (nI (100 * nWalk g pp sd 0 L (mN g 1 sd) + sWalk g pp sd 0 L (mN g 1 sd) % 100))]) (by rw [(a_walkR (R1.tr EW4.res) (L := L) hp h12 hs (show 0 < 3 by omega)).2]) ?_
                    have EW5 := EW4.tr e5
                    refine p_bipush C d_L_runs_271 (v := (nI 100)) rfl ?_
                    refine pn_idiv C d_L_runs_273 (by omega) (by omega) (by omega) ?_
                    refine p_aload_n C d_L_runs_274 6 rfl ?_
                    refine p_iload_n C d_L_runs_275 9 rfl ?_
                    refine p_iload C d_L_runs_276 10 rfl ?_
                    refine p_iconst C d_L_runs_278 (v := (nI 2)) rfl ?_
                    refine p_iload C d_L_runs_279 12 rfl ?_
                    refine p_callX (As := [.int (nI pp), .int (nI sd), .int (nI 2), .int (bI L)]) (B' := 6 * (320 - k) + 8) C LX d_L_runs_281 ok_RL_124 (fun l h T X Y hl m A k => q_walk hl m A k (a_walkR (R1.tr EW5.res) (L := L) hp h12 hs (show 2 < 3 by omega)).1) (fun _ x => x) rfl rfl (rest := [.int (nI ((100 * nWalk g pp sd 0 L (mN g 1 sd) + sWalk g pp sd 0 L (mN g 1 sd) % 100) / 100))]) rfl (Nat.le_of_ble_eq_true rfl) ⟨by decide, Nat.le_of_ble_eq_true rfl⟩ ⟨(show 6 * (320 - k) + 8 + 3 ≤ 6 * (320 - k) + 11 by omega), Nat.le_of_ble_eq_true rfl⟩ (fun v9 g6 e6 => ?_)
                    obtain ⟨rfl, e6⟩ := e6
                    show VP G x ad g6 (uF (uF (uF f (4 + rs) 1) (12 + rs) sd) 20 ((f 20) + 1)) { frames := 8, cells := 1944, slots := 15552, locals := 182 } (6 * (320 - k) + 8) 284 [(12, .int (nI (100 * nWalk g pp sd bd true (mN g 1 sd) + sWalk g pp sd bd true (mN g 1 sd) % 100))), (11, .int (nI (100 * nWalk g pp sd bd L (mN g 1 sd) + sWalk g pp sd bd L (mN g 1 sd) % 100))), (10, .int (bI true)), (9, .int la), (8, .int (nI sm)), (7, .int (nI (mSize g1 rs))), (0, .ref (ad 0 0)), (1, .ref (ad 101 0)), (2, .int (nI rs)), (3, .int (nI pp)), (4, .int (nI sd)), (5, .int (nI bd)), (6, .int (bI L))] [.int (nI (rWalk g5 (nI pp) (nI sd) (nI 2) L)), .int (nI ((100 * nWalk g pp sd 0 L (mN g 1 sd) + sWalk g pp sd 0 L (mN g 1 sd) % 100) / 100))]
                    refine p_st (st' := [.int (nI (100 * nWalk g pp sd 2 L (mN g 1 sd) + sWalk g pp sd 2 L (mN g 1 sd) % 100)), .int (nI ((100 * nWalk g pp sd 0 L (mN g 1 sd) + sWalk g pp sd 0 L (mN g 1 sd) % 100) / 100))]) (by rw [(a_walkR (R1.tr EW5.res) (L := L) hp h12 hs (show 2 < 3 by omega)).2]) ?_
                    have EW6 := EW5.tr e6
                    refine p_bipush C d_L_runs_284 (v := (nI 100)) rfl ?_
                    refine pn_idiv C d_L_runs_286 (by omega) (by omega) (by omega) ?_
                    refine pn_icmp_lt C d_L_runs_287 (tgt := 323) rfl (by omega) (by omega) (fun c_287 => ?_) (fun c_287 => ?_)
                    · skip
                      exfalso; omega
                    · skip
                      refine p_aload_n C d_L_runs_290 6 rfl ?_
                      refine p_iload_n C d_L_runs_291 9 rfl ?_
                      refine p_iload C d_L_runs_292 10 rfl ?_
                      refine p_iconst C d_L_runs_294 (v := (nI 2)) rfl ?_
                      refine p_iload C d_L_runs_295 12 rfl ?_
                      refine p_callX (As := [.int (nI pp), .int (nI sd), .int (nI 2), .int (bI L)]) (B' := 6 * (320 - k) + 5) C LX d_L_runs_297 ok_RL_124 (fun l h T X Y hl m A k => q_walk hl m A k (a_walkR (R1.tr EW6.res) (L := L) hp h12 hs (show 2 < 3 by omega)).1) (fun _ x => x) rfl rfl (rest := []) rfl (Nat.le_of_ble_eq_true rfl) ⟨by decide, Nat.le_of_ble_eq_true rfl⟩ ⟨(show 6 * (320 - k) + 5 + 3 ≤ 6 * (320 - k) + 8 by omega), Nat.le_of_ble_eq_true rfl⟩ (fun v9 g7 e7 => ?_)
                      obtain ⟨rfl, e7⟩ := e7
                      show VP G x ad g7 (uF (uF (uF f (4 + rs) 1) (12 + rs) sd) 20 ((f 20) + 1)) { frames := 8, cells := 1944, slots := 15552, locals := 182 } (6 * (320 - k) + 5) 300 [(12, .int (nI (100 * nWalk g pp sd bd true (mN g 1 sd) + sWalk g pp sd bd true (mN g 1 sd) % 100))), (11, .int (nI (100 * nWalk g pp sd bd L (mN g 1 sd) + sWalk g pp sd bd L (mN g 1 sd) % 100))), (10, .int (bI true)), (9, .int la), (8, .int (nI sm)), (7, .int (nI (mSize g1 rs))), (0, .ref (ad 0 0)), (1, .ref (ad 101 0)), (2, .int (nI rs)), (3, .int (nI pp)), (4, .int (nI sd)), (5, .int (nI bd)), (6, .int (bI L))] [.int (nI (rWalk g6 (nI pp) (nI sd) (nI 2) L))]
                      refine p_st (st' := [.int (nI (100 * nWalk g pp sd 2 L (mN g 1 sd) + sWalk g pp sd 2 L (mN g 1 sd) % 100))]) (by rw [(a_walkR (R1.tr EW6.res) (L := L) hp h12 hs (show 2 < 3 by omega)).2]) ?_
                      have EW7 := EW6.tr e7
                      refine p_bipush C d_L_runs_300 (v := (nI 100)) rfl ?_
                      refine pn_idiv C d_L_runs_302 (by omega) (by omega) (by omega) ?_
                      refine p_aload_n C d_L_runs_303 6 rfl ?_
                      refine p_iload_n C d_L_runs_304 9 rfl ?_
                      refine p_iload C d_L_runs_305 10 rfl ?_
                      refine p_iconst C d_L_runs_307 (v := (nI 1)) rfl ?_
                      refine p_iload C d_L_runs_308 12 rfl ?_
                      refine p_callX (As := [.int (nI pp), .int (nI sd), .int (nI 1), .int (bI L)]) (B' := 6 * (320 - k) + 2) C LX d_L_runs_310 ok_RL_124 (fun l h T X Y hl m A k => q_walk hl m A k (a_walkR (R1.tr EW7.res) (L := L) hp h12 hs (show 1 < 3 by omega)).1) (fun _ x => x) rfl rfl (rest := [.int (nI ((100 * nWalk g pp sd 2 L (mN g 1 sd) + sWalk g pp sd 2 L (mN g 1 sd) % 100) / 100))]) rfl (Nat.le_of_ble_eq_true rfl) ⟨by decide, Nat.le_of_ble_eq_true rfl⟩ ⟨(show 6 * (320 - k) + 2 + 3 ≤ 6 * (320 - k) + 5 by omega), Nat.le_of_ble_eq_true rfl⟩ (fun v9 g8 e8 => ?_)
                      obtain ⟨rfl, e8⟩ := e8
                      show VP G x ad g8 (uF (uF (uF f (4 + rs) 1) (12 + rs) sd) 20 ((f 20) + 1)) { frames := 8, cells := 1944, slots := 15552, locals := 182 } (6 * (320 - k) + 2) 313 [(12, .int (nI (100 * nWalk g pp sd bd true (mN g 1 sd) + sWalk g pp sd bd true (mN g 1 sd) % 100))), (11, .int (nI (100 * nWalk g pp sd bd L (mN g 1 sd) + sWalk g pp sd bd L (mN g 1 sd) % 100))), (10, .int (bI true)), (9, .int la), (8, .int (nI sm)), (7, .int (nI (mSize g1 rs))), (0, .ref (ad 0 0)), (1, .ref (ad 101 0)), (2, .int (nI rs)), (3, .int (nI pp)), (4, .int (nI sd)), (5, .int (nI bd)), (6, .int (bI L))] [.int (nI (rWalk g7 (nI pp) (nI sd) (nI 1) L)), .int (nI ((100 * nWalk g pp sd 2 L (mN g 1 sd) + sWalk g pp sd 2 L (mN g 1 sd) % 100) / 100))]
                      refine p_st (st' := [.int (nI (100 * nWalk g pp sd 1 L (mN g 1 sd) + sWalk g pp sd 1 L (mN g 1 sd) % 100)), .int (nI ((100 * nWalk g pp sd 2 L (mN g 1 sd) + sWalk g pp sd 2 L (mN g 1 sd) % 100) / 100))]) (by rw [(a_walkR (R1.tr EW7.res) (L := L) hp h12 hs (show 1 < 3 by omega)).2]) ?_
                      have EW8 := EW7.tr e8
                      refine p_bipush C d_L_runs_313 (v := (nI 100)) rfl ?_
                      refine pn_idiv C d_L_runs_315 (by omega) (by omega) (by omega) ?_
                      refine pn_icmp_lt C d_L_runs_316 (tgt := 323) rfl (by omega) (by omega) (fun c_316 => ?_) (fun c_316 => ?_)
                      · skip
                        exfalso; omega
                      · skip
                        refine p_iconst C d_L_runs_319 (v := (bI true)) rfl ?_
                        refine p_goto C d_L_runs_320 (tgt := 324) rfl ?_
                        exact p_iret C A TY d_L_runs_324 rfl (⟨rfl, pI_run P hr hs R1 I1 EW8⟩)
            · skip
              refine p_iload C d_L_runs_202 1 rfl ?_
              exact p_iret C A TY d_L_runs_204 rfl (⟨rfl, pI_run P hr hs R1 I1 hE⟩)
          · skip
            refine p_iload C d_L_runs_71 1 rfl ?_
            refine pb_if_eq C d_L_runs_73 (tgt := 185) rfl (fun c_73 => ?_) (fun c_73 => ?_)
            · skip
              cases c_73
            · skip
              refine p_B (B' := 6 * (320 - (k + 1)) + 26) (by omega) ?_
              obtain ⟨pl, ln, w1, w2, w3, w4, w5, w6⟩ := rl k (by omega)
              have ho := ho (by omega)
              rw [show fdM g1 rs k 360 / 100 = pl by omega] at ho
              refine p_aload_n C d_L_runs_76 5 rfl ?_
              refine p_iload_n C d_L_runs_77 7 rfl ?_
              refine p_iload C d_L_runs_78 0 rfl ?_
              refine p_callX (As := [.int (nI rs), .int (nI k)]) (B' := 6 * (320 - (k + 1)) + 24) C LX d_L_runs_80 ok_RL_121 (fun l h T X Y hl m A k => q_match hl m A k (a_matE hE hr h1n (by omega)).1) (fun _ x => x) rfl rfl (rest := []) rfl (Nat.le_of_ble_eq_true rfl) ⟨by decide, Nat.le_of_ble_eq_true rfl⟩ ⟨(show 6 * (320 - (k + 1)) + 24 + 2 ≤ 6 * (320 - (k + 1)) + 26 by omega), Nat.le_of_ble_eq_true rfl⟩ (fun v9 g9 e9 => ?_)
              obtain ⟨rfl, eM⟩ := e9
              show VP G x ad g9 (uF (uF f (4 + rs) 1) (12 + rs) sd) { frames := 8, cells := 1944, slots := 15552, locals := 182 } (6 * (320 - (k + 1)) + 24) 83 [(11, .int (nI k)), (10, .int (bI true)), (9, .int la), (8, .int (nI sm)), (7, .int (nI (mSize g1 rs))), (0, .ref (ad 0 0)), (1, .ref (ad 101 0)), (2, .int (nI rs)), (3, .int (nI pp)), (4, .int (nI sd)), (5, .int (nI bd)), (6, .int (bI L))] [.int (nI (rMatch gq (nI rs) (nI k)))]
              refine p_st (st' := [.int (nI (100 * pl + ln))]) (by rw [(a_matE hE hr h1n (by omega)).2, w1]) ?_
              refine p_istore C d_L_runs_83 (lv' := [(12, .int (nI (100 * pl + ln))), (11, .int (nI k)), (10, .int (bI true)), (9, .int la), (8, .int (nI sm)), (7, .int (nI (mSize g1 rs))), (0, .ref (ad 0 0)), (1, .ref (ad 101 0)), (2, .int (nI rs)), (3, .int (nI pp)), (4, .int (nI sd)), (5, .int (nI bd)), (6, .int (bI L))]) (by decide) rfl ?_
              refine p_iload C d_L_runs_85 0 rfl ?_
              refine p_bipush C d_L_runs_87 (v := (nI 100)) rfl ?_
              refine pn_idiv C d_L_runs_89 (by omega) (by omega) (by omega) ?_
              refine p_st (st' := [.int (nI pl)]) (by rw [show (100 * pl + ln) / 100 = pl by omega]) ?_
              refine p_istore C d_L_runs_90 (lv' := [(13, .int (nI pl)), (12, .int (nI (100 * pl + ln))), (11, .int (nI k)), (10, .int (bI true)), (9, .int la), (8, .int (nI sm)), (7, .int (nI (mSize g1 rs))), (0, .ref (ad 0 0)), (1, .ref (ad 101 0)), (2, .int (nI rs)), (3, .int (nI pp)), (4, .int (nI sd)), (5, .int (nI bd)), (6, .int (bI L))]) (by decide) rfl ?_
              refine p_iload C d_L_runs_92 1 rfl ?_
              refine p_bipush C d_L_runs_94 (v := (nI 100)) rfl ?_
              refine pn_irem C d_L_runs_96 (by omega) (by omega) (by omega) ?_
              refine p_st (st' := [.int (nI ln)]) (by rw [show (100 * pl + ln) % 100 = ln by omega]) ?_
              refine p_istore C d_L_runs_97 (lv' := [(14, .int (nI ln)), (13, .int (nI pl)), (12, .int (nI (100 * pl + ln))), (11, .int (nI k)), (10, .int (bI true)), (9, .int la), (8, .int (nI sm)), (7, .int (nI (mSize g1 rs))), (0, .ref (ad 0 0)), (1, .ref (ad 101 0)), (2, .int (nI rs)), (3, .int (nI pp)), (4, .int (nI sd)), (5, .int (nI bd)), (6, .int (bI L))]) (by decide) rfl ?_
              refine p_iload C d_L_runs_99 6 rfl ?_
              refine p_iload C d_L_runs_101 0 rfl ?_
              refine pn_iadd C d_L_runs_103 ?_
              refine p_istore C d_L_runs_104 (lv' := [(8, .int (nI (sm + ln))), (14, .int (nI ln)), (13, .int (nI pl)), (12, .int (nI (100 * pl + ln))), (11, .int (nI k)), (10, .int (bI true)), (9, .int la), (7, .int (nI (mSize g1 rs))), (0, .ref (ad 0 0)), (1, .ref (ad 101 0)), (2, .int (nI rs)), (3, .int (nI pp)), (4, .int (nI sd)), (5, .int (nI bd)), (6, .int (bI L))]) (by decide) rfl ?_
              refine p_iload C d_L_runs_106 2 rfl ?_
              refine p_iload C d_L_runs_108 6 rfl ?_
              refine p_icmp_le C d_L_runs_110 (tgt := 172) rfl (fun c_110 => ?_) (fun c_110 => ?_)
              · skip
                exact absurd ho (Int32.not_lt.mpr c_110)
              · skip
                refine p_iload C d_L_runs_113 1 rfl ?_
                refine p_iconst C d_L_runs_115 (v := (nI 1)) rfl ?_
                refine pn_icmp_lt C d_L_runs_116 (tgt := 172) rfl (by omega) (by omega) (fun c_116 => ?_) (fun c_116 => ?_)
                · skip
                  exfalso; omega
                · skip
                  refine p_iload C d_L_runs_119 1 rfl ?_
                  refine p_bipush C d_L_runs_121 (v := (nI 8)) rfl ?_
                  refine pn_icmp_gt C d_L_runs_123 (tgt := 172) rfl (by omega) (by omega) (fun c_123 => ?_) (fun c_123 => ?_)
                  · skip
                    exfalso; omega
                  · skip
                    refine p_iload C d_L_runs_126 2 rfl ?_
                    refine p_iload C d_L_runs_128 1 rfl ?_
                    refine pn_iadd C d_L_runs_130 ?_
                    refine p_aload_n C d_L_runs_131 9 rfl ?_
                    refine p_iload C d_L_runs_132 12 rfl ?_
                    refine p_cld C d_L_runs_134 (by omega) ?_
                    refine p_st (st' := [.int (nI (mN g 1 sd)), .int (nI (pl + ln))]) (by rw [uF_n (by omega), uF_n (by omega), hsd]) ?_
                    refine pn_icmp_gt C d_L_runs_135 (tgt := 172) rfl (by omega) (by omega) (fun c_135 => ?_) (fun c_135 => ?_)
                    · skip
                      exfalso; omega
                    · skip
                      have join_168 : ∀ (gj : mS), (eqv g1 gj) → VP G x ad gj (uF (uF f (4 + rs) 1) (12 + rs) sd) { frames := 8, cells := 1944, slots := 15552, locals := 182 } (6 * (320 - (k + 1)) + 20) 168 [(14, .int (nI ln)), (13, .int (nI pl)), (12, .int (nI (100 * pl + ln))), (11, .int (nI k)), (10, .int (bI true)), (9, .int la), (8, .int (nI (sm + ln))), (7, .int (nI (mSize g1 rs))), (0, .ref (ad 0 0)), (1, .ref (ad 101 0)), (2, .int (nI rs)), (3, .int (nI pp)), (4, .int (nI sd)), (5, .int (nI bd)), (6, .int (bI L))] [] := by
                        intro gj hj
                        refine p_iconst C d_L_runs_168 (v := (bI true)) rfl ?_
                        refine p_goto C d_L_runs_169 (tgt := 173) rfl ?_
                        refine p_istore C d_L_runs_173 (lv' := [(10, .int (bI true)), (14, .int (nI ln)), (13, .int (nI pl)), (12, .int (nI (100 * pl + ln))), (11, .int (nI k)), (9, .int la), (8, .int (nI (sm + ln))), (7, .int (nI (mSize g1 rs))), (0, .ref (ad 0 0)), (1, .ref (ad 101 0)), (2, .int (nI rs)), (3, .int (nI pp)), (4, .int (nI sd)), (5, .int (nI bd)), (6, .int (bI L))]) (by decide) rfl ?_
                        refine p_iload C d_L_runs_175 2 rfl ?_
                        refine p_istore C d_L_runs_177 (lv' := [(9, .int (nI pl)), (10, .int (bI true)), (14, .int (nI ln)), (13, .int (nI pl)), (12, .int (nI (100 * pl + ln))), (11, .int (nI k)), (8, .int (nI (sm + ln))), (7, .int (nI (mSize g1 rs))), (0, .ref (ad 0 0)), (1, .ref (ad 101 0)), (2, .int (nI rs)), (3, .int (nI pp)), (4, .int (nI sd)), (5, .int (nI bd)), (6, .int (bI L))]) (by decide) rfl ?_
                        refine pn_iinc C d_L_runs_179 (lv' := [(11, .int (nI (k + 1))), (9, .int (nI pl)), (10, .int (bI true)), (14, .int (nI ln)), (13, .int (nI pl)), (12, .int (nI (100 * pl + ln))), (8, .int (nI (sm + ln))), (7, .int (nI (mSize g1 rs))), (0, .ref (ad 0 0)), (1, .ref (ad 101 0)), (2, .int (nI rs)), (3, .int (nI pp)), (4, .int (nI sd)), (5, .int (nI bd)), (6, .int (bI L))]) 5 rfl (nI_inc _ rfl) (by decide) rfl ?_
                        refine p_goto C d_L_runs_182 (tgt := 64) rfl ?_
                        refine p_lv (lv' := [(11, .int (nI (k + 1))), (10, .int (bI true)), (9, .int (nI pl)), (8, .int (nI (sm + ln))), (7, .int (nI (mSize g1 rs))), (0, .ref (ad 0 0)), (1, .ref (ad 101 0)), (2, .int (nI rs)), (3, .int (nI pp)), (4, .int (nI sd)), (5, .int (nI bd)), (6, .int (bI L))]) [0, 2, 1, 6, 7, 8, 9, 10, 11, 12, 13, 14] rfl ?_
                        refine p_lve (lv' := [(11, .int (nI (k + 1))), (10, .int (bI true)), (9, .int ((nI pl))), (8, .int (nI (sm + ln))), (7, .int (nI (mSize g1 rs))), (0, .ref (ad 0 0)), (1, .ref (ad 101 0)), (2, .int (nI rs)), (3, .int (nI pp)), (4, .int (nI sd)), (5, .int (nI bd)), (6, .int (bI L))]) (rfl) ?_
                        exact ih_64 (sm + ln) ((nI pl)) (k + 1) gj (by omega) (hj) (by rw [sumTo_s, ← hsm]; show sm + ln = sm + fdM g1 rs k 360 % 100; omega) (fun z => (nI_ltI (by omega) (by obtain ⟨pl2, ln2, y1, y2, y3, y4, -, -⟩ := rl (k + 1) z; omega)).mpr (w6 z)) (by omega)
                      refine p_iload C d_L_runs_138 13 rfl ?_
                      refine p_iconst C d_L_runs_140 (v := (nI 1)) rfl ?_
                      refine pn_icmp_ne C d_L_runs_141 (tgt := 168) rfl (by omega) (by omega) (fun c_141 => ?_) (fun c_141 => ?_)
                      · skip
                        refine p_B (B' := 6 * (320 - (k + 1)) + 20) (by omega) ?_
                        refine p_lv (lv' := [(14, .int (nI ln)), (13, .int (nI pl)), (12, .int (nI (100 * pl + ln))), (11, .int (nI k)), (10, .int (bI true)), (9, .int la), (8, .int (nI (sm + ln))), (7, .int (nI (mSize g1 rs))), (0, .ref (ad 0 0)), (1, .ref (ad 101 0)), (2, .int (nI rs)), (3, .int (nI pp)), (4, .int (nI sd)), (5, .int (nI bd)), (6, .int (bI L))]) [1, 2, 3, 4, 5, 6, 0, 7, 8, 9, 10, 11, 12, 13, 14] rfl ?_
                        exact join_168 g9 (hE.tr eM)
                      · skip
                        refine p_aload_n C d_L_runs_144 8 rfl ?_
                        refine p_iload C d_L_runs_145 12 rfl ?_
                        refine p_iload C d_L_runs_147 2 rfl ?_
                        refine p_callX (As := [.int (nI sd), .int (nI pl)]) (B' := 6 * (320 - (k + 1)) + 22) C LX d_L_runs_149 ok_RL_85 (fun l h T X Y hl m A k => q_sentenceOf hl m A k (a_sentR (R1.tr (hE.tr eM).res) hs (by omega) h40).1) (fun _ x => x) rfl rfl (rest := []) rfl (Nat.le_of_ble_eq_true rfl) ⟨by decide, Nat.le_of_ble_eq_true rfl⟩ ⟨(show 6 * (320 - (k + 1)) + 22 + 2 ≤ 6 * (320 - (k + 1)) + 24 by omega), Nat.le_of_ble_eq_true rfl⟩ (fun v9 g10 e10 => ?_)
                        obtain ⟨rfl, eS⟩ := e10
                        show VP G x ad g10 (uF (uF f (4 + rs) 1) (12 + rs) sd) { frames := 8, cells := 1944, slots := 15552, locals := 182 } (6 * (320 - (k + 1)) + 22) 152 [(8, .int (nI (sm + ln))), (14, .int (nI ln)), (13, .int (nI pl)), (12, .int (nI (100 * pl + ln))), (11, .int (nI k)), (10, .int (bI true)), (9, .int la), (7, .int (nI (mSize g1 rs))), (0, .ref (ad 0 0)), (1, .ref (ad 101 0)), (2, .int (nI rs)), (3, .int (nI pp)), (4, .int (nI sd)), (5, .int (nI bd)), (6, .int (bI L))] [.int (nI (rSent g9 (nI sd) (nI pl)))]
                        refine p_st (st' := [.int (nI (mN g 3 (40 * sd + pl)))]) (by rw [(a_sentR (R1.tr (hE.tr eM).res) hs (by omega) h40).2]) ?_
                        refine p_aload_n C d_L_runs_152 8 rfl ?_
                        refine p_iload C d_L_runs_153 12 rfl ?_
                        refine p_iload C d_L_runs_155 2 rfl ?_
                        refine p_iload C d_L_runs_157 1 rfl ?_
                        refine pn_iadd C d_L_runs_159 ?_
                        refine p_iconst C d_L_runs_160 (v := (nI 1)) rfl ?_
                        refine pn_isub C d_L_runs_161 (by omega) ?_
                        refine p_callX (As := [.int (nI sd), .int (nI ((pl + ln) - 1))]) (B' := 6 * (320 - (k + 1)) + 20) C LX d_L_runs_162 ok_RL_85 (fun l h T X Y hl m A k => q_sentenceOf hl m A k (a_sentR (R1.tr ((hE.tr eM).tr eS).res) hs (by omega) h40).1) (fun _ x => x) rfl rfl (rest := [.int (nI (mN g 3 (40 * sd + pl)))]) rfl (Nat.le_of_ble_eq_true rfl) ⟨by decide, Nat.le_of_ble_eq_true rfl⟩ ⟨(show 6 * (320 - (k + 1)) + 20 + 2 ≤ 6 * (320 - (k + 1)) + 22 by omega), Nat.le_of_ble_eq_true rfl⟩ (fun v9 g11 e11 => ?_)
                        obtain ⟨rfl, eS2⟩ := e11
                        show VP G x ad g11 (uF (uF f (4 + rs) 1) (12 + rs) sd) { frames := 8, cells := 1944, slots := 15552, locals := 182 } (6 * (320 - (k + 1)) + 20) 165 [(8, .int (nI (sm + ln))), (14, .int (nI ln)), (13, .int (nI pl)), (12, .int (nI (100 * pl + ln))), (11, .int (nI k)), (10, .int (bI true)), (9, .int la), (7, .int (nI (mSize g1 rs))), (0, .ref (ad 0 0)), (1, .ref (ad 101 0)), (2, .int (nI rs)), (3, .int (nI pp)), (4, .int (nI sd)), (5, .int (nI bd)), (6, .int (bI L))] [.int (nI (rSent g10 (nI sd) (nI ((pl + ln) - 1)))), .int (nI (mN g 3 (40 * sd + pl)))]
                        refine p_st (st' := [.int (nI (mN g 3 (40 * sd + ((pl + ln) - 1)))), .int (nI (mN g 3 (40 * sd + pl)))]) (by rw [(a_sentR (R1.tr ((hE.tr eM).tr eS).res) hs (by omega) h40).2]) ?_
                        refine pn_icmp_ne C d_L_runs_165 (tgt := 172) rfl (by have := a_sen40 A0.1 hs (p := pl) (by omega); omega) (by have := a_sen40 A0.1 hs (p := pl + ln - 1) (by omega); omega) (fun c_165 => ?_) (fun c_165 => ?_)
                        · skip
                          exact absurd (w5 c_141).symm c_165
                        · skip
                          refine p_lv (lv' := [(14, .int (nI ln)), (13, .int (nI pl)), (12, .int (nI (100 * pl + ln))), (11, .int (nI k)), (10, .int (bI true)), (9, .int la), (8, .int (nI (sm + ln))), (7, .int (nI (mSize g1 rs))), (0, .ref (ad 0 0)), (1, .ref (ad 101 0)), (2, .int (nI rs)), (3, .int (nI pp)), (4, .int (nI sd)), (5, .int (nI bd)), (6, .int (bI L))]) [1, 2, 3, 4, 5, 6, 0, 7, 8, 9, 10, 11, 12, 13, 14] rfl ?_
                          exact join_168 g11 (((hE.tr eM).tr eS).tr eS2)
      refine p_B (B' := 6 * (320 - 0) + 20) (by omega) ?_
      exact loop_64 _ 0 ((-100)) 0 g2 (by omega) (e2) (rfl) (fun z => by obtain ⟨pl, ln, w1, w2, w3, w4, w5, w6⟩ := rl 0 z; exact lt_neg (by decide) (by omega)) (Nat.lt_succ_self _)
