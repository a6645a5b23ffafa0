theorem tw_679 : (Jvm.Cond.fieldLink "CorpuslineModel" (57 : Nat) "CorpuslineModel" "next" "[Z") ∈ TB := tb_of 679 (by decide +kernel) rfl
theorem fd_RX7_57 : fdOk RX7 57 6 18 := ⟨_, _, _, rfl, by decide, cw_6, tw_679, rfl⟩
def dl_X7_repeat : List (Nat × Instr × Nat) := [(0, .iload_n 1, 1), (1, .iconst 0, 1), (2, .iconst 3, 1), (3, .invokestatic 76, 3), (6, .ifCond .eq 21, 3), (9, .iload_n 2, 1), (10, .iconst 1, 1), (11, .iconst 3, 1), (12, .invokestatic 76, 3), (15, .ifCond .eq 12, 3), (18, .iload_n 2, 1), (19, .iload_n 1, 1), (20, .if_icmp .lt 7, 3), (23, .iconst 1, 1), (24, .goto 4, 3), (27, .iconst 0, 1), (28, .istore_n 3, 1), (29, .bipush 12, 2), (31, .aload_n 0, 1), (32, .getfield 98, 3), (35, .iadd, 1), (36, .iconst 1, 1), (37, .isub, 1), (38, .istore 4, 2), (40, .aload_n 0, 1), (41, .getfield 98, 3), (44, .ifCond .le 28, 3), (47, .aload_n 0, 1), (48, .invokevirtual 105, 3), (51, .iload_n 2, 1), (52, .iconst 1, 1), (53, .isub, 1), (54, .aload_n 0, 1), (55, .getfield 33, 3), (58, .iload 4, 2), (60, .iaload, 1), (61, .imul, 1), (62, .iadd, 1), (63, .bipush 8, 2), (65, .if_icmp .gt 7, 3), (68, .iconst 1, 1), (69, .goto 4, 3), (72, .iconst 0, 1), (73, .istore 5, 2), (75, .aload_n 0, 1), (76, .iload_n 3, 1), (77, .ifCond .ne 7, 3), (80, .iconst 1, 1), (81, .goto 13, 3), (84, .iload 5, 2), (86, .ifCond .eq 7, 3), (89, .iconst 0, 1), (90, .goto 4, 3), (93, .iconst 2, 1), (94, .invokevirtual 84, 3), (97, .ifCond .ne 5, 3), (100, .iconst 0, 1), (101, .ireturn, 1), (102, .aload_n 0, 1), (103, .getfield 33, 3), (106, .iload 4, 2), (108, .iaload, 1), (109, .istore 6, 2), (111, .iload 6, 2), (113, .istore 7, 2), (115, .iload 7, 2), (117, .iload 6, 2), (119, .iload_n 2, 1), (120, .imul, 1), (121, .if_icmp .ge 32, 3), (124, .aload_n 0, 1), (125, .bipush 8, 2), (127, .iload 4, 2), (129, .imul, 1), (130, .iload 7, 2), (132, .iadd, 1), (133, .iload 6, 2), (135, .isub, 1), (136, .bipush 8, 2), (138, .iload 4, 2), (140, .imul, 1), (141, .iload 7, 2), (143, .iadd, 1), (144, .invokevirtual 101, 3), (147, .iinc 7 1, 3), (150, .goto (-35), 3), (153, .iconst 0, 1), (154, .istore 7, 2), (156, .iload 7, 2), (158, .sipush 256, 3), (161, .if_icmp .ge 47, 3), (164, .aload_n 0, 1), (165, .getfield 57, 3), (168, .iload 7, 2), (170, .iload 7, 2), (172, .ifCond .ne 7, 3), (175, .iconst 1, 1), (176, .goto 4, 3), (179, .iconst 0, 1), (180, .bastore, 1), (181, .aload_n 0, 1), (182, .getfield 54, 3), (185, .iload 7, 2), (187, .iload 7, 2), (189, .ifCond .ne 11, 3), (192, .iload_n 1, 1), (193, .ifCond .ne 7, 3), (196, .iconst 1, 1), (197, .goto 4, 3), (200, .iconst 0, 1), (201, .bastore, 1), (202, .iinc 7 1, 3), (205, .goto (-49), 3), (208, .iconst 1, 1), (209, .istore 7, 2), (211, .iload 7, 2), (213, .iload_n 2, 1), (214, .if_icmp .gt 136, 3), (217, .iload 6, 2), (219, .iload 7, 2), (221, .iconst 1, 1), (222, .isub, 1), (223, .imul, 1), (224, .istore 8, 2), (226, .sipush 255, 3), (229, .istore 9, 2), (231, .iload 9, 2), (233, .ifCond .lt 56, 3), (236, .aload_n 0, 1), (237, .getfield 57, 3), (240, .iload 9, 2), (242, .aload_n 0, 1), (243, .getfield 57, 3), (246, .iload 9, 2), (248, .iconst 1, 1), (249, .iload 8, 2), (251, .ishl, 1), (252, .irem, 1), (253, .baload, 1), (254, .ifCond .eq 27, 3), (257, .aload_n 0, 1), (258, .getfield 39, 3), (261, .sipush 256, 3), (264, .iload 4, 2), (266, .imul, 1), (267, .iload 9, 2), (269, .iload 8, 2), (271, .ishr, 1), (272, .iadd, 1), (273, .baload, 1), (274, .ifCond .eq 7, 3), (277, .iconst 1, 1), (278, .goto 4, 3), (281, .iconst 0, 1), (282, .bastore, 1), (283, .iinc 9 (-1), 3), (286, .goto (-55), 3), (289, .iconst 0, 1), (290, .istore 9, 2), (292, .iload 9, 2), (294, .sipush 256, 3), (297, .if_icmp .ge 47, 3), (300, .aload_n 0, 1), (301, .getfield 54, 3), (304, .iload 9, 2), (306, .aload_n 0, 1), (307, .getfield 54, 3), (310, .iload 9, 2), (312, .baload, 1), (313, .ifCond .ne 19, 3), (316, .iload 7, 2), (318, .iload_n 1, 1), (319, .if_icmp .lt 17, 3), (322, .aload_n 0, 1), (323, .getfield 57, 3), (326, .iload 9, 2), (328, .baload, 1), (329, .ifCond .eq 7, 3), (332, .iconst 1, 1), (333, .goto 4, 3), (336, .iconst 0, 1), (337, .bastore, 1), (338, .iinc 9 1, 3), (341, .goto (-49), 3), (344, .iinc 7 1, 3), (347, .goto (-136), 3), (350, .aload_n 0, 1), (351, .iload 4, 2), (353, .iload 6, 2), (355, .iload_n 2, 1), (356, .imul, 1), (357, .invokevirtual 118, 3), (360, .aload_n 0, 1), (361, .invokevirtual 105, 3), (364, .ireturn, 1)]
theorem dc_X7_repeat : dnL cX7_repeat dl_X7_repeat = true := by decide +kernel
theorem d_X7_repeat_0 : dn cX7_repeat 0 (.iload_n 1) 1 1 := dnAt dc_X7_repeat 0 rfl rfl
theorem d_X7_repeat_1 : dn cX7_repeat 1 (.iconst 0) 1 2 := dnAt dc_X7_repeat 1 rfl rfl
theorem d_X7_repeat_2 : dn cX7_repeat 2 (.iconst 3) 1 3 := dnAt dc_X7_repeat 2 rfl rfl
theorem d_X7_repeat_3 : dn cX7_repeat 3 (.invokestatic 76) 3 6 := dnAt dc_X7_repeat 3 rfl rfl
theorem d_X7_repeat_6 : dn cX7_repeat 6 (.ifCond .eq 21) 3 9 := dnAt dc_X7_repeat 4 rfl rfl
theorem d_X7_repeat_9 : dn cX7_repeat 9 (.iload_n 2) 1 10 := dnAt dc_X7_repeat 5 rfl rfl
theorem d_X7_repeat_10 : dn cX7_repeat 10 (.iconst 1) 1 11 := dnAt dc_X7_repeat 6 rfl rfl
theorem d_X7_repeat_11 : dn cX7_repeat 11 (.iconst 3) 1 12 := dnAt dc_X7_repeat 7 rfl rfl
theorem d_X7_repeat_12 : dn cX7_repeat 12 (.invokestatic 76) 3 15 := dnAt dc_X7_repeat 8 rfl rfl
theorem d_X7_repeat_15 : dn cX7_repeat 15 (.ifCond .eq 12) 3 18 := dnAt dc_X7_repeat 9 rfl rfl
theorem d_X7_repeat_18 : dn cX7_repeat 18 (.iload_n 2) 1 19 := dnAt dc_X7_repeat 10 rfl rfl
theorem d_X7_repeat_19 : dn cX7_repeat 19 (.iload_n 1) 1 20 := dnAt dc_X7_repeat 11 rfl rfl
theorem d_X7_repeat_20 : dn cX7_repeat 20 (.if_icmp .lt 7) 3 23 := dnAt dc_X7_repeat 12 rfl rfl
theorem d_X7_repeat_23 : dn cX7_repeat 23 (.iconst 1) 1 24 := dnAt dc_X7_repeat 13 rfl rfl
theorem d_X7_repeat_24 : dn cX7_repeat 24 (.goto 4) 3 27 := dnAt dc_X7_repeat 14 rfl rfl
theorem d_X7_repeat_27 : dn cX7_repeat 27 (.iconst 0) 1 28 := dnAt dc_X7_repeat 15 rfl rfl
theorem d_X7_repeat_28 : dn cX7_repeat 28 (.istore_n 3) 1 29 := dnAt dc_X7_repeat 16 rfl rfl
theorem d_X7_repeat_29 : dn cX7_repeat 29 (.bipush 12) 2 31 := dnAt dc_X7_repeat 17 rfl rfl
theorem d_X7_repeat_31 : dn cX7_repeat 31 (.aload_n 0) 1 32 := dnAt dc_X7_repeat 18 rfl rfl
theorem d_X7_repeat_32 : dn cX7_repeat 32 (.getfield 98) 3 35 := dnAt dc_X7_repeat 19 rfl rfl
theorem d_X7_repeat_35 : dn cX7_repeat 35 (.iadd) 1 36 := dnAt dc_X7_repeat 20 rfl rfl
theorem d_X7_repeat_36 : dn cX7_repeat 36 (.iconst 1) 1 37 := dnAt dc_X7_repeat 21 rfl rfl
theorem d_X7_repeat_37 : dn cX7_repeat 37 (.isub) 1 38 := dnAt dc_X7_repeat 22 rfl rfl
theorem d_X7_repeat_38 : dn cX7_repeat 38 (.istore 4) 2 40 := dnAt dc_X7_repeat 23 rfl rfl
theorem d_X7_repeat_40 : dn cX7_repeat 40 (.aload_n 0) 1 41 := dnAt dc_X7_repeat 24 rfl rfl
theorem d_X7_repeat_41 : dn cX7_repeat 41 (.getfield 98) 3 44 := dnAt dc_X7_repeat 25 rfl rfl
theorem d_X7_repeat_44 : dn cX7_repeat 44 (.ifCond .le 28) 3 47 := dnAt dc_X7_repeat 26 rfl rfl
theorem d_X7_repeat_47 : dn cX7_repeat 47 (.aload_n 0) 1 48 := dnAt dc_X7_repeat 27 rfl rfl
theorem d_X7_repeat_48 : dn cX7_repeat 48 (.invokevirtual 105) 3 51 := dnAt dc_X7_repeat 28 rfl rfl
theorem d_X7_repeat_51 : dn cX7_repeat 51 (.iload_n 2) 1 52 := dnAt dc_X7_repeat 29 rfl rfl
theorem d_X7_repeat_52 : dn cX7_repeat 52 (.iconst 1) 1 53 := dnAt dc_X7_repeat 30 rfl rfl
theorem d_X7_repeat_53 : dn cX7_repeat 53 (.isub) 1 54 := dnAt dc_X7_repeat 31 rfl rfl
theorem d_X7_repeat_54 : dn cX7_repeat 54 (.aload_n 0) 1 55 := dnAt dc_X7_repeat 32 rfl rfl
theorem d_X7_repeat_55 : dn cX7_repeat 55 (.getfield 33) 3 58 := dnAt dc_X7_repeat 33 rfl rfl
theorem d_X7_repeat_58 : dn cX7_repeat 58 (.iload 4) 2 60 := dnAt dc_X7_repeat 34 rfl rfl
theorem d_X7_repeat_60 : dn cX7_repeat 60 (.iaload) 1 61 := dnAt dc_X7_repeat 35 rfl rfl
theorem d_X7_repeat_61 : dn cX7_repeat 61 (.imul) 1 62 := dnAt dc_X7_repeat 36 rfl rfl
theorem d_X7_repeat_62 : dn cX7_repeat 62 (.iadd) 1 63 := dnAt dc_X7_repeat 37 rfl rfl
theorem d_X7_repeat_63 : dn cX7_repeat 63 (.bipush 8) 2 65 := dnAt dc_X7_repeat 38 rfl rfl
theorem d_X7_repeat_65 : dn cX7_repeat 65 (.if_icmp .gt 7) 3 68 := dnAt dc_X7_repeat 39 rfl rfl
theorem d_X7_repeat_68 : dn cX7_repeat 68 (.iconst 1) 1 69 := dnAt dc_X7_repeat 40 rfl rfl
theorem d_X7_repeat_69 : dn cX7_repeat 69 (.goto 4) 3 72 := dnAt dc_X7_repeat 41 rfl rfl
theorem d_X7_repeat_72 : dn cX7_repeat 72 (.iconst 0) 1 73 := dnAt dc_X7_repeat 42 rfl rfl
theorem d_X7_repeat_73 : dn cX7_repeat 73 (.istore 5) 2 75 := dnAt dc_X7_repeat 43 rfl rfl
theorem d_X7_repeat_75 : dn cX7_repeat 75 (.aload_n 0) 1 76 := dnAt dc_X7_repeat 44 rfl rfl
theorem d_X7_repeat_76 : dn cX7_repeat 76 (.iload_n 3) 1 77 := dnAt dc_X7_repeat 45 rfl rfl
theorem d_X7_repeat_77 : dn cX7_repeat 77 (.ifCond .ne 7) 3 80 := dnAt dc_X7_repeat 46 rfl rfl
theorem d_X7_repeat_80 : dn cX7_repeat 80 (.iconst 1) 1 81 := dnAt dc_X7_repeat 47 rfl rfl
theorem d_X7_repeat_81 : dn cX7_repeat 81 (.goto 13) 3 84 := dnAt dc_X7_repeat 48 rfl rfl
theorem d_X7_repeat_84 : dn cX7_repeat 84 (.iload 5) 2 86 := dnAt dc_X7_repeat 49 rfl rfl
theorem d_X7_repeat_86 : dn cX7_repeat 86 (.ifCond .eq 7) 3 89 := dnAt dc_X7_repeat 50 rfl rfl
theorem d_X7_repeat_89 : dn cX7_repeat 89 (.iconst 0) 1 90 := dnAt dc_X7_repeat 51 rfl rfl
theorem d_X7_repeat_90 : dn cX7_repeat 90 (.goto 4) 3 93 := dnAt dc_X7_repeat 52 rfl rfl
theorem d_X7_repeat_93 : dn cX7_repeat 93 (.iconst 2) 1 94 := dnAt dc_X7_repeat 53 rfl rfl
theorem d_X7_repeat_94 : dn cX7_repeat 94 (.invokevirtual 84) 3 97 := dnAt dc_X7_repeat 54 rfl rfl
theorem d_X7_repeat_97 : dn cX7_repeat 97 (.ifCond .ne 5) 3 100 := dnAt dc_X7_repeat 55 rfl rfl
theorem d_X7_repeat_100 : dn cX7_repeat 100 (.iconst 0) 1 101 := dnAt dc_X7_repeat 56 rfl rfl
theorem d_X7_repeat_101 : dn cX7_repeat 101 (.ireturn) 1 102 := dnAt dc_X7_repeat 57 rfl rfl
theorem d_X7_repeat_102 : dn cX7_repeat 102 (.aload_n 0) 1 103 := dnAt dc_X7_repeat 58 rfl rfl
theorem d_X7_repeat_103 : dn cX7_repeat 103 (.getfield 33) 3 106 := dnAt dc_X7_repeat 59 rfl rfl
theorem d_X7_repeat_106 : dn cX7_repeat 106 (.iload 4) 2 108 := dnAt dc_X7_repeat 60 rfl rfl
theorem d_X7_repeat_108 : dn cX7_repeat 108 (.iaload) 1 109 := dnAt dc_X7_repeat 61 rfl rfl
theorem d_X7_repeat_109 : dn cX7_repeat 109 (.istore 6) 2 111 := dnAt dc_X7_repeat 62 rfl rfl
theorem d_X7_repeat_111 : dn cX7_repeat 111 (.iload 6) 2 113 := dnAt dc_X7_repeat 63 rfl rfl
theorem d_X7_repeat_113 : dn cX7_repeat 113 (.istore 7) 2 115 := dnAt dc_X7_repeat 64 rfl rfl
theorem d_X7_repeat_115 : dn cX7_repeat 115 (.iload 7) 2 117 := dnAt dc_X7_repeat 65 rfl rfl
theorem d_X7_repeat_117 : dn cX7_repeat 117 (.iload 6) 2 119 := dnAt dc_X7_repeat 66 rfl rfl
theorem d_X7_repeat_119 : dn cX7_repeat 119 (.iload_n 2) 1 120 := dnAt dc_X7_repeat 67 rfl rfl
theorem d_X7_repeat_120 : dn cX7_repeat 120 (.imul) 1 121 := dnAt dc_X7_repeat 68 rfl rfl
theorem d_X7_repeat_121 : dn cX7_repeat 121 (.if_icmp .ge 32) 3 124 := dnAt dc_X7_repeat 69 rfl rfl
theorem d_X7_repeat_124 : dn cX7_repeat 124 (.aload_n 0) 1 125 := dnAt dc_X7_repeat 70 rfl rfl
theorem d_X7_repeat_125 : dn cX7_repeat 125 (.bipush 8) 2 127 := dnAt dc_X7_repeat 71 rfl rfl
theorem d_X7_repeat_127 : dn cX7_repeat 127 (.iload 4) 2 129 := dnAt dc_X7_repeat 72 rfl rfl
theorem d_X7_repeat_129 : dn cX7_repeat 129 (.imul) 1 130 := dnAt dc_X7_repeat 73 rfl rfl
theorem d_X7_repeat_130 : dn cX7_repeat 130 (.iload 7) 2 132 := dnAt dc_X7_repeat 74 rfl rfl
theorem d_X7_repeat_132 : dn cX7_repeat 132 (.iadd) 1 133 := dnAt dc_X7_repeat 75 rfl rfl
theorem d_X7_repeat_133 : dn cX7_repeat 133 (.iload 6) 2 135 := dnAt dc_X7_repeat 76 rfl rfl
theorem d_X7_repeat_135 : dn cX7_repeat 135 (.isub) 1 136 := dnAt dc_X7_repeat 77 rfl rfl
theorem d_X7_repeat_136 : dn cX7_repeat 136 (.bipush 8) 2 138 := dnAt dc_X7_repeat 78 rfl rfl
theorem d_X7_repeat_138 : dn cX7_repeat 138 (.iload 4) 2 140 := dnAt dc_X7_repeat 79 rfl rfl
theorem d_X7_repeat_140 : dn cX7_repeat 140 (.imul) 1 141 := dnAt dc_X7_repeat 80 rfl rfl
theorem d_X7_repeat_141 : dn cX7_repeat 141 (.iload 7) 2 143 := dnAt dc_X7_repeat 81 rfl rfl
theorem d_X7_repeat_143 : dn cX7_repeat 143 (.iadd) 1 144 := dnAt dc_X7_repeat 82 rfl rfl
theorem d_X7_repeat_144 : dn cX7_repeat 144 (.invokevirtual 101) 3 147 := dnAt dc_X7_repeat 83 rfl rfl
theorem d_X7_repeat_147 : dn cX7_repeat 147 (.iinc 7 1) 3 150 := dnAt dc_X7_repeat 84 rfl rfl
theorem d_X7_repeat_150 : dn cX7_repeat 150 (.goto (-35)) 3 153 := dnAt dc_X7_repeat 85 rfl rfl
theorem d_X7_repeat_153 : dn cX7_repeat 153 (.iconst 0) 1 154 := dnAt dc_X7_repeat 86 rfl rfl
theorem d_X7_repeat_154 : dn cX7_repeat 154 (.istore 7) 2 156 := dnAt dc_X7_repeat 87 rfl rfl
theorem d_X7_repeat_156 : dn cX7_repeat 156 (.iload 7) 2 158 := dnAt dc_X7_repeat 88 rfl rfl
theorem d_X7_repeat_158 : dn cX7_repeat 158 (.sipush 256) 3 161 := dnAt dc_X7_repeat 89 rfl rfl
theorem d_X7_repeat_161 : dn cX7_repeat 161 (.if_icmp .ge 47) 3 164 := dnAt dc_X7_repeat 90 rfl rfl
theorem d_X7_repeat_164 : dn cX7_repeat 164 (.aload_n 0) 1 165 := dnAt dc_X7_repeat 91 rfl rfl
theorem d_X7_repeat_165 : dn cX7_repeat 165 (.getfield 57) 3 168 := dnAt dc_X7_repeat 92 rfl rfl
theorem d_X7_repeat_168 : dn cX7_repeat 168 (.iload 7) 2 170 := dnAt dc_X7_repeat 93 rfl rfl
theorem d_X7_repeat_170 : dn cX7_repeat 170 (.iload 7) 2 172 := dnAt dc_X7_repeat 94 rfl rfl
theorem d_X7_repeat_172 : dn cX7_repeat 172 (.ifCond .ne 7) 3 175 := dnAt dc_X7_repeat 95 rfl rfl
theorem d_X7_repeat_175 : dn cX7_repeat 175 (.iconst 1) 1 176 := dnAt dc_X7_repeat 96 rfl rfl
theorem d_X7_repeat_176 : dn cX7_repeat 176 (.goto 4) 3 179 := dnAt dc_X7_repeat 97 rfl rfl
theorem d_X7_repeat_179 : dn cX7_repeat 179 (.iconst 0) 1 180 := dnAt dc_X7_repeat 98 rfl rfl
theorem d_X7_repeat_180 : dn cX7_repeat 180 (.bastore) 1 181 := dnAt dc_X7_repeat 99 rfl rfl
theorem d_X7_repeat_181 : dn cX7_repeat 181 (.aload_n 0) 1 182 := dnAt dc_X7_repeat 100 rfl rfl
theorem d_X7_repeat_182 : dn cX7_repeat 182 (.getfield 54) 3 185 := dnAt dc_X7_repeat 101 rfl rfl
theorem d_X7_repeat_185 : dn cX7_repeat 185 (.iload 7) 2 187 := dnAt dc_X7_repeat 102 rfl rfl
theorem d_X7_repeat_187 : dn cX7_repeat 187 (.iload 7) 2 189 := dnAt dc_X7_repeat 103 rfl rfl
theorem d_X7_repeat_189 : dn cX7_repeat 189 (.ifCond .ne 11) 3 192 := dnAt dc_X7_repeat 104 rfl rfl
theorem d_X7_repeat_192 : dn cX7_repeat 192 (.iload_n 1) 1 193 := dnAt dc_X7_repeat 105 rfl rfl
theorem d_X7_repeat_193 : dn cX7_repeat 193 (.ifCond .ne 7) 3 196 := dnAt dc_X7_repeat 106 rfl rfl
theorem d_X7_repeat_196 : dn cX7_repeat 196 (.iconst 1) 1 197 := dnAt dc_X7_repeat 107 rfl rfl
theorem d_X7_repeat_197 : dn cX7_repeat 197 (.goto 4) 3 200 := dnAt dc_X7_repeat 108 rfl rfl
theorem d_X7_repeat_200 : dn cX7_repeat 200 (.iconst 0) 1 201 := dnAt dc_X7_repeat 109 rfl rfl
theorem d_X7_repeat_201 : dn cX7_repeat 201 (.bastore) 1 202 := dnAt dc_X7_repeat 110 rfl rfl
theorem d_X7_repeat_202 : dn cX7_repeat 202 (.iinc 7 1) 3 205 := dnAt dc_X7_repeat 111 rfl rfl
theorem d_X7_repeat_205 : dn cX7_repeat 205 (.goto (-49)) 3 208 := dnAt dc_X7_repeat 112 rfl rfl
theorem d_X7_repeat_208 : dn cX7_repeat 208 (.iconst 1) 1 209 := dnAt dc_X7_repeat 113 rfl rfl
theorem d_X7_repeat_209 : dn cX7_repeat 209 (.istore 7) 2 211 := dnAt dc_X7_repeat 114 rfl rfl
theorem d_X7_repeat_211 : dn cX7_repeat 211 (.iload 7) 2 213 := dnAt dc_X7_repeat 115 rfl rfl
theorem d_X7_repeat_213 : dn cX7_repeat 213 (.iload_n 2) 1 214 := dnAt dc_X7_repeat 116 rfl rfl
theorem d_X7_repeat_214 : dn cX7_repeat 214 (.if_icmp .gt 136) 3 217 := dnAt dc_X7_repeat 117 rfl rfl
theorem d_X7_repeat_217 : dn cX7_repeat 217 (.iload 6) 2 219 := dnAt dc_X7_repeat 118 rfl rfl
theorem d_X7_repeat_219 : dn cX7_repeat 219 (.iload 7) 2 221 := dnAt dc_X7_repeat 119 rfl rfl
theorem d_X7_repeat_221 : dn cX7_repeat 221 (.iconst 1) 1 222 := dnAt dc_X7_repeat 120 rfl rfl
theorem d_X7_repeat_222 : dn cX7_repeat 222 (.isub) 1 223 := dnAt dc_X7_repeat 121 rfl rfl
theorem d_X7_repeat_223 : dn cX7_repeat 223 (.imul) 1 224 := dnAt dc_X7_repeat 122 rfl rfl
theorem d_X7_repeat_224 : dn cX7_repeat 224 (.istore 8) 2 226 := dnAt dc_X7_repeat 123 rfl rfl
theorem d_X7_repeat_226 : dn cX7_repeat 226 (.sipush 255) 3 229 := dnAt dc_X7_repeat 124 rfl rfl
theorem d_X7_repeat_229 : dn cX7_repeat 229 (.istore 9) 2 231 := dnAt dc_X7_repeat 125 rfl rfl
theorem d_X7_repeat_231 : dn cX7_repeat 231 (.iload 9) 2 233 := dnAt dc_X7_repeat 126 rfl rfl
theorem d_X7_repeat_233 : dn cX7_repeat 233 (.ifCond .lt 56) 3 236 := dnAt dc_X7_repeat 127 rfl rfl
theorem d_X7_repeat_236 : dn cX7_repeat 236 (.aload_n 0) 1 237 := dnAt dc_X7_repeat 128 rfl rfl
theorem d_X7_repeat_237 : dn cX7_repeat 237 (.getfield 57) 3 240 := dnAt dc_X7_repeat 129 rfl rfl
theorem d_X7_repeat_240 : dn cX7_repeat 240 (.iload 9) 2 242 := dnAt dc_X7_repeat 130 rfl rfl
theorem d_X7_repeat_242 : dn cX7_repeat 242 (.aload_n 0) 1 243 := dnAt dc_X7_repeat 131 rfl rfl
theorem d_X7_repeat_243 : dn cX7_repeat 243 (.getfield 57) 3 246 := dnAt dc_X7_repeat 132 rfl rfl
theorem d_X7_repeat_246 : dn cX7_repeat 246 (.iload 9) 2 248 := dnAt dc_X7_repeat 133 rfl rfl
theorem d_X7_repeat_248 : dn cX7_repeat 248 (.iconst 1) 1 249 := dnAt dc_X7_repeat 134 rfl rfl
theorem d_X7_repeat_249 : dn cX7_repeat 249 (.iload 8) 2 251 := dnAt dc_X7_repeat 135 rfl rfl
theorem d_X7_repeat_251 : dn cX7_repeat 251 (.ishl) 1 252 := dnAt dc_X7_repeat 136 rfl rfl
theorem d_X7_repeat_252 : dn cX7_repeat 252 (.irem) 1 253 := dnAt dc_X7_repeat 137 rfl rfl
theorem d_X7_repeat_253 : dn cX7_repeat 253 (.baload) 1 254 := dnAt dc_X7_repeat 138 rfl rfl
theorem d_X7_repeat_254 : dn cX7_repeat 254 (.ifCond .eq 27) 3 257 := dnAt dc_X7_repeat 139 rfl rfl
theorem d_X7_repeat_257 : dn cX7_repeat 257 (.aload_n 0) 1 258 := dnAt dc_X7_repeat 140 rfl rfl
theorem d_X7_repeat_258 : dn cX7_repeat 258 (.getfield 39) 3 261 := dnAt dc_X7_repeat 141 rfl rfl
theorem d_X7_repeat_261 : dn cX7_repeat 261 (.sipush 256) 3 264 := dnAt dc_X7_repeat 142 rfl rfl
theorem d_X7_repeat_264 : dn cX7_repeat 264 (.iload 4) 2 266 := dnAt dc_X7_repeat 143 rfl rfl
theorem d_X7_repeat_266 : dn cX7_repeat 266 (.imul) 1 267 := dnAt dc_X7_repeat 144 rfl rfl
theorem d_X7_repeat_267 : dn cX7_repeat 267 (.iload 9) 2 269 := dnAt dc_X7_repeat 145 rfl rfl
theorem d_X7_repeat_269 : dn cX7_repeat 269 (.iload 8) 2 271 := dnAt dc_X7_repeat 146 rfl rfl
theorem d_X7_repeat_271 : dn cX7_repeat 271 (.ishr) 1 272 := dnAt dc_X7_repeat 147 rfl rfl
theorem d_X7_repeat_272 : dn cX7_repeat 272 (.iadd) 1 273 := dnAt dc_X7_repeat 148 rfl rfl
theorem d_X7_repeat_273 : dn cX7_repeat 273 (.baload) 1 274 := dnAt dc_X7_repeat 149 rfl rfl
theorem d_X7_repeat_274 : dn cX7_repeat 274 (.ifCond .eq 7) 3 277 := dnAt dc_X7_repeat 150 rfl rfl
theorem d_X7_repeat_277 : dn cX7_repeat 277 (.iconst 1) 1 278 := dnAt dc_X7_repeat 151 rfl rfl
theorem d_X7_repeat_278 : dn cX7_repeat 278 (.goto 4) 3 281 := dnAt dc_X7_repeat 152 rfl rfl
theorem d_X7_repeat_281 : dn cX7_repeat 281 (.iconst 0) 1 282 := dnAt dc_X7_repeat 153 rfl rfl
theorem d_X7_repeat_282 : dn cX7_repeat 282 (.bastore) 1 283 := dnAt dc_X7_repeat 154 rfl rfl
theorem d_X7_repeat_283 : dn cX7_repeat 283 (.iinc 9 (-1)) 3 286 := dnAt dc_X7_repeat 155 rfl rfl
theorem d_X7_repeat_286 : dn cX7_repeat 286 (.goto (-55)) 3 289 := dnAt dc_X7_repeat 156 rfl rfl
theorem d_X7_repeat_289 : dn cX7_repeat 289 (.iconst 0) 1 290 := dnAt dc_X7_repeat 157 rfl rfl
theorem d_X7_repeat_290 : dn cX7_repeat 290 (.istore 9) 2 292 := dnAt dc_X7_repeat 158 rfl rfl
theorem d_X7_repeat_292 : dn cX7_repeat 292 (.iload 9) 2 294 := dnAt dc_X7_repeat 159 rfl rfl
theorem d_X7_repeat_294 : dn cX7_repeat 294 (.sipush 256) 3 297 := dnAt dc_X7_repeat 160 rfl rfl
theorem d_X7_repeat_297 : dn cX7_repeat 297 (.if_icmp .ge 47) 3 300 := dnAt dc_X7_repeat 161 rfl rfl
theorem d_X7_repeat_300 : dn cX7_repeat 300 (.aload_n 0) 1 301 := dnAt dc_X7_repeat 162 rfl rfl
theorem d_X7_repeat_301 : dn cX7_repeat 301 (.getfield 54) 3 304 := dnAt dc_X7_repeat 163 rfl rfl
theorem d_X7_repeat_304 : dn cX7_repeat 304 (.iload 9) 2 306 := dnAt dc_X7_repeat 164 rfl rfl
theorem d_X7_repeat_306 : dn cX7_repeat 306 (.aload_n 0) 1 307 := dnAt dc_X7_repeat 165 rfl rfl
theorem d_X7_repeat_307 : dn cX7_repeat 307 (.getfield 54) 3 310 := dnAt dc_X7_repeat 166 rfl rfl
theorem d_X7_repeat_310 : dn cX7_repeat 310 (.iload 9) 2 312 := dnAt dc_X7_repeat 167 rfl rfl
theorem d_X7_repeat_312 : dn cX7_repeat 312 (.baload) 1 313 := dnAt dc_X7_repeat 168 rfl rfl
theorem d_X7_repeat_313 : dn cX7_repeat 313 (.ifCond .ne 19) 3 316 := dnAt dc_X7_repeat 169 rfl rfl
theorem d_X7_repeat_316 : dn cX7_repeat 316 (.iload 7) 2 318 := dnAt dc_X7_repeat 170 rfl rfl
theorem d_X7_repeat_318 : dn cX7_repeat 318 (.iload_n 1) 1 319 := dnAt dc_X7_repeat 171 rfl rfl
theorem d_X7_repeat_319 : dn cX7_repeat 319 (.if_icmp .lt 17) 3 322 := dnAt dc_X7_repeat 172 rfl rfl
theorem d_X7_repeat_322 : dn cX7_repeat 322 (.aload_n 0) 1 323 := dnAt dc_X7_repeat 173 rfl rfl
theorem d_X7_repeat_323 : dn cX7_repeat 323 (.getfield 57) 3 326 := dnAt dc_X7_repeat 174 rfl rfl
theorem d_X7_repeat_326 : dn cX7_repeat 326 (.iload 9) 2 328 := dnAt dc_X7_repeat 175 rfl rfl
theorem d_X7_repeat_328 : dn cX7_repeat 328 (.baload) 1 329 := dnAt dc_X7_repeat 176 rfl rfl
theorem d_X7_repeat_329 : dn cX7_repeat 329 (.ifCond .eq 7) 3 332 := dnAt dc_X7_repeat 177 rfl rfl
theorem d_X7_repeat_332 : dn cX7_repeat 332 (.iconst 1) 1 333 := dnAt dc_X7_repeat 178 rfl rfl
theorem d_X7_repeat_333 : dn cX7_repeat 333 (.goto 4) 3 336 := dnAt dc_X7_repeat 179 rfl rfl
theorem d_X7_repeat_336 : dn cX7_repeat 336 (.iconst 0) 1 337 := dnAt dc_X7_repeat 180 rfl rfl
theorem d_X7_repeat_337 : dn cX7_repeat 337 (.bastore) 1 338 := dnAt dc_X7_repeat 181 rfl rfl
theorem d_X7_repeat_338 : dn cX7_repeat 338 (.iinc 9 1) 3 341 := dnAt dc_X7_repeat 182 rfl rfl
theorem d_X7_repeat_341 : dn cX7_repeat 341 (.goto (-49)) 3 344 := dnAt dc_X7_repeat 183 rfl rfl
theorem d_X7_repeat_344 : dn cX7_repeat 344 (.iinc 7 1) 3 347 := dnAt dc_X7_repeat 184 rfl rfl
theorem d_X7_repeat_347 : dn cX7_repeat 347 (.goto (-136)) 3 350 := dnAt dc_X7_repeat 185 rfl rfl
theorem d_X7_repeat_350 : dn cX7_repeat 350 (.aload_n 0) 1 351 := dnAt dc_X7_repeat 186 rfl rfl
theorem d_X7_repeat_351 : dn cX7_repeat 351 (.iload 4) 2 353 := dnAt dc_X7_repeat 187 rfl rfl
theorem d_X7_repeat_353 : dn cX7_repeat 353 (.iload 6) 2 355 := dnAt dc_X7_repeat 188 rfl rfl
theorem d_X7_repeat_355 : dn cX7_repeat 355 (.iload_n 2) 1 356 := dnAt dc_X7_repeat 189 rfl rfl
theorem d_X7_repeat_356 : dn cX7_repeat 356 (.imul) 1 357 := dnAt dc_X7_repeat 190 rfl rfl
theorem d_X7_repeat_357 : dn cX7_repeat 357 (.invokevirtual 118) 3 360 := dnAt dc_X7_repeat 191 rfl rfl
theorem d_X7_repeat_360 : dn cX7_repeat 360 (.aload_n 0) 1 361 := dnAt dc_X7_repeat 192 rfl rfl
theorem d_X7_repeat_361 : dn cX7_repeat 361 (.invokevirtual 105) 3 364 := dnAt dc_X7_repeat 193 rfl rfl
theorem d_X7_repeat_364 : dn cX7_repeat 364 (.ireturn) 1 365 := dnAt dc_X7_repeat 194 rfl rfl
set_option maxHeartbeats 4000000 in
set_option maxRecDepth 100000 in
theorem m_repeat (S : mS) (least most : Int32) (I : mInv S) : mC yX7_repeat cX7_repeat 10 (Option.some Jvm.ClassFile.FieldType.int) { frames := 1, cells := 0, slots := 0, locals := 23 } [.int least, .int most] S (fun v9 T9 => v9 = (some (.int (nI (rRep S least most)))) ∧ T9 = tRep S least most) := by
  refine mC.of (by decide) (Nat.le_of_ble_eq_true rfl) ?_
  intro G x q h0 C A TY
  show VM G x q h0 S 0 [(0, .ref (q 0)), (1, .int least), (2, .int most)] []
  have i1 := pile_le I
  have join_28 : VM G x q h0 S 28 [(0, .ref (q 0)), (1, .int least), (2, .int most)] [.int (bI (areR least most))] := by
    refine m_istore_n C d_X7_repeat_28 (lv' := [(3, .int (bI (areR least most))), (0, .ref (q 0)), (1, .int least), (2, .int most)]) (by decide) rfl ?_
    refine m_bipush C d_X7_repeat_29 (v := (nI 12)) rfl ?_
    refine m_aload_n C d_X7_repeat_31 1 rfl ?_
    refine m_get C d_X7_repeat_32 fd_RX7_98 (v := .int (nI (mK S 16))) rfl ?_
    refine mn_iadd C d_X7_repeat_35 ?_
    refine m_iconst C d_X7_repeat_36 (v := (nI 1)) rfl ?_
    refine mn_isub C d_X7_repeat_37 (by omega) ?_
    refine m_istore C d_X7_repeat_38 (lv' := [(4, .int (nI ((12 + (mK S 16)) - 1))), (3, .int (bI (areR least most))), (0, .ref (q 0)), (1, .int least), (2, .int most)]) (by decide) rfl ?_
    have join_73 : VM G x q h0 S 73 [(0, .ref (q 0)), (1, .int least), (2, .int most), (3, .int (bI (areR least most))), (4, .int (nI (12 + mK S 16 - 1)))] [.int (bI (canR S most))] := by
      refine m_istore C d_X7_repeat_73 (lv' := [(5, .int (bI (canR S most))), (0, .ref (q 0)), (1, .int least), (2, .int most), (3, .int (bI (areR least most))), (4, .int (nI (12 + mK S 16 - 1)))]) (by decide) rfl ?_
      have join_94 : VM G x q h0 S 94 [(0, .ref (q 0)), (1, .int least), (2, .int most), (4, .int (nI (12 + mK S 16 - 1)))] [.int (nI (cRep S least most)), .ref (q 0)] := by
        refine m_callV C d_X7_repeat_94 ok_RX7_84 (m_holds S (cRep S least most) (by unfold cRep; split <;> (try split) <;> omega)) rfl (rest := []) rfl rfl (Nat.le_of_ble_eq_true rfl) ⟨⟨by decide, by decide⟩, by decide, by decide⟩ (fun v9 T9 e9 => ?_)
        obtain ⟨rfl, e9⟩ := e9
        refine m_eq e9 ?_
        show VM G x q h0 (uK S 0 (cRep S least most)) 97 [(0, .ref (q 0)), (1, .int least), (2, .int most), (4, .int (nI (12 + mK S 16 - 1)))] [.int (bI (decide (cRep S least most = 0)))]
        refine mb_if_ne C d_X7_repeat_97 (tgt := 102) rfl (fun c_97 => ?_) (fun c_97 => ?_)
        · skip
          have c0 := of_decide_eq_true c_97
          obtain ⟨e1, e2, e3, e4, e5, e6, e7, e8, e9⟩ := cRep_0 I c0
          have h8 := I.2.2.2.2.2.1 (12 + mK S 16 - 1) (by omega)
          have hb9 := mTests_le I
          have hp1 := part_le e6
          have h7 : mN S 8 (12 + mK S 16 - 1) ≤ mN S 8 (12 + mK S 16 - 1) * tn most := Nat.le_mul_of_pos_right _ (by omega)
          rw [c0]
          refine m_lve (lv' := [(0, .ref (q 0)), (1, .int (nI (tn least))), (2, .int (nI (tn most))), (4, .int (nI (12 + mK S 16 - 1)))]) (by rw [← e1, ← e2]) ?_
          refine m_aload_n C d_X7_repeat_102 0 rfl ?_
          refine m_get C d_X7_repeat_103 fd_RX7_33 (v := .ref (q 8)) rfl ?_
          refine m_iload C d_X7_repeat_106 3 rfl ?_
          refine m_ald C d_X7_repeat_108 (k := 8) (by decide) rfl (by show _ < 21; omega) (by decide) ?_
          refine m_st (st' := [.int (nI (mN S 8 (12 + mK S 16 - 1)))]) rfl ?_
          refine m_istore C d_X7_repeat_109 (lv' := [(6, .int (nI (mN S 8 (12 + mK S 16 - 1)))), (0, .ref (q 0)), (1, .int (nI (tn least))), (2, .int (nI (tn most))), (4, .int (nI (12 + mK S 16 - 1)))]) (by decide) rfl ?_
          refine m_iload C d_X7_repeat_111 0 rfl ?_
          refine m_istore C d_X7_repeat_113 (lv' := [(7, .int (nI (mN S 8 (12 + mK S 16 - 1)))), (6, .int (nI (mN S 8 (12 + mK S 16 - 1)))), (0, .ref (q 0)), (1, .int (nI (tn least))), (2, .int (nI (tn most))), (4, .int (nI (12 + mK S 16 - 1)))]) (by decide) rfl ?_
          have loop_115 : ∀ (fuel : Nat) (k : Nat), (mN S 8 (12 + mK S 16 - 1) ≤ k ∧ k ≤ mN S 8 (12 + mK S 16 - 1) * tn most) → (9 - k) < fuel → VM G x q h0 (tmap (uK S 0 0) (rpG (8 * (12 + mK S 16 - 1)) (mN S 8 (12 + mK S 16 - 1)) (8 * (12 + mK S 16 - 1) + k))) 115 [(0, .ref (q 0)), (1, .int (nI (tn least))), (2, .int (nI (tn most))), (4, .int (nI (12 + mK S 16 - 1))), (6, .int (nI (mN S 8 (12 + mK S 16 - 1)))), (7, .int (nI k))] [] := by
            intro fuel
            induction fuel with
            | zero => intro k hk hf9; exact absurd hf9 (Nat.not_lt_zero _)
            | succ fuel ih_115 =>
              intro k hk hf9
              refine m_iload C d_X7_repeat_115 5 rfl ?_
              refine m_iload C d_X7_repeat_117 4 rfl ?_
              refine m_iload_n C d_X7_repeat_119 2 rfl ?_
              refine mn_imul C d_X7_repeat_120 ?_
              refine mn_icmp_ge C d_X7_repeat_121 (tgt := 153) rfl (by omega) (by omega) (fun c_121 => ?_) (fun c_121 => ?_)
              · skip
                obtain rfl : k = mN S 8 (12 + mK S 16 - 1) * tn most := by omega
                refine m_iconst C d_X7_repeat_153 (v := (nI 0)) rfl ?_
                refine m_istore C d_X7_repeat_154 (lv' := [(7, .int (nI 0)), (0, .ref (q 0)), (1, .int (nI (tn least))), (2, .int (nI (tn most))), (4, .int (nI (12 + mK S 16 - 1))), (6, .int (nI (mN S 8 (12 + mK S 16 - 1))))]) (by decide) rfl ?_
                have loop_156 : ∀ (fuel : Nat) (k : Nat), (k ≤ 256) → (257 - k) < fuel → VM G x q h0 (rpS (rpT S (12 + mK S 16 - 1) (tn most)) (iA S (tn least) k 0) (iA S (tn least) k 1)) 156 [(0, .ref (q 0)), (1, .int (nI (tn least))), (2, .int (nI (tn most))), (4, .int (nI (12 + mK S 16 - 1))), (6, .int (nI (mN S 8 (12 + mK S 16 - 1)))), (7, .int (nI k))] [] := by
                  intro fuel
                  induction fuel with
                  | zero => intro k hk3 hf9; exact absurd hf9 (Nat.not_lt_zero _)
                  | succ fuel ih_156 =>
                    intro k hk3 hf9
                    refine m_iload C d_X7_repeat_156 5 rfl ?_
                    refine m_sipush C d_X7_repeat_158 (v := (nI 256)) rfl ?_
                    refine mn_icmp_ge C d_X7_repeat_161 (tgt := 208) rfl (by omega) (by omega) (fun c_161 => ?_) (fun c_161 => ?_)
                    · skip
                      obtain rfl : k = 256 := by omega
                      refine m_iconst C d_X7_repeat_208 (v := (nI 1)) rfl ?_
                      refine m_istore C d_X7_repeat_209 (lv' := [(7, .int (nI 1)), (0, .ref (q 0)), (1, .int (nI (tn least))), (2, .int (nI (tn most))), (4, .int (nI (12 + mK S 16 - 1))), (6, .int (nI (mN S 8 (12 + mK S 16 - 1))))]) (by decide) rfl ?_
                      have loop_211 : ∀ (fuel : Nat) (t : Nat), (t ≤ tn most) → (4 - t) < fuel → VM G x q h0 (rpS (rpT S (12 + mK S 16 - 1) (tn most)) (fT S (12 + mK S 16 - 1) t) (gT S (12 + mK S 16 - 1) (tn least) t)) 211 [(0, .ref (q 0)), (1, .int (nI (tn least))), (2, .int (nI (tn most))), (4, .int (nI (12 + mK S 16 - 1))), (6, .int (nI (mN S 8 (12 + mK S 16 - 1)))), (7, .int (nI (t + 1)))] [] := by
                        intro fuel
                        induction fuel with
                        | zero => intro t ht hf9; exact absurd hf9 (Nat.not_lt_zero _)
                        | succ fuel ih_211 =>
                          intro t ht hf9
                          refine m_iload C d_X7_repeat_211 5 rfl ?_
                          refine m_iload_n C d_X7_repeat_213 2 rfl ?_
                          refine mn_icmp_gt C d_X7_repeat_214 (tgt := 350) rfl (by omega) (by omega) (fun c_214 => ?_) (fun c_214 => ?_)
                          · skip
                            obtain rfl : t = tn most := by omega
                            refine m_aload_n C d_X7_repeat_350 0 rfl ?_
                            refine m_iload C d_X7_repeat_351 3 rfl ?_
                            refine m_iload C d_X7_repeat_353 4 rfl ?_
                            refine m_iload_n C d_X7_repeat_355 2 rfl ?_
                            refine mn_imul C d_X7_repeat_356 ?_
                            refine m_callV C d_X7_repeat_357 ok_RX7_118 (m_becomes (rpS (rpT S (12 + mK S 16 - 1) (tn most)) (fT S (12 + mK S 16 - 1) (tn most)) (gT S (12 + mK S 16 - 1) (tn least) (tn most))) (12 + mK S 16 - 1) ((mN S 8 (12 + mK S 16 - 1)) * (tn most)) (by omega)) rfl (rest := []) rfl rfl (Nat.le_of_ble_eq_true rfl) ⟨⟨by decide, by decide⟩, by decide, by decide⟩ (fun v9 T9 e9 => ?_)
                            obtain ⟨rfl, e9⟩ := e9
                            refine m_eq e9 ?_
                            show VM G x q h0 (tBec (rpS (rpT S (12 + mK S 16 - 1) (tn most)) (fT S (12 + mK S 16 - 1) (tn most)) (gT S (12 + mK S 16 - 1) (tn least) (tn most))) (12 + mK S 16 - 1) ((mN S 8 (12 + mK S 16 - 1)) * (tn most))) 360 [(0, .ref (q 0)), (1, .int (nI (tn least))), (2, .int (nI (tn most))), (4, .int (nI (12 + mK S 16 - 1))), (6, .int (nI (mN S 8 (12 + mK S 16 - 1)))), (7, .int (nI ((tn most) + 1)))] []
                            refine m_aload_n C d_X7_repeat_360 0 rfl ?_
                            refine m_callV C d_X7_repeat_361 ok_RX7_105 (m_testsInAll (tBec (rpS (rpT S (12 + mK S 16 - 1) (tn most)) (fT S (12 + mK S 16 - 1) (tn most)) (gT S (12 + mK S 16 - 1) (tn least) (tn most))) (12 + mK S 16 - 1) ((mN S 8 (12 + mK S 16 - 1)) * (tn most))) (i1)) rfl (rest := []) rfl rfl (Nat.le_of_ble_eq_true rfl) ⟨⟨by decide, by decide⟩, by decide, by decide⟩ (fun v9 T9 e9 => ?_)
                            obtain ⟨rfl, e9⟩ := e9
                            refine m_eq e9 ?_
                            show VM G x q h0 (tBec (rpS (rpT S (12 + mK S 16 - 1) (tn most)) (fT S (12 + mK S 16 - 1) (tn most)) (gT S (12 + mK S 16 - 1) (tn least) (tn most))) (12 + mK S 16 - 1) ((mN S 8 (12 + mK S 16 - 1)) * (tn most))) 364 [(0, .ref (q 0)), (1, .int (nI (tn least))), (2, .int (nI (tn most))), (4, .int (nI (12 + mK S 16 - 1))), (6, .int (nI (mN S 8 (12 + mK S 16 - 1)))), (7, .int (nI ((tn most) + 1)))] [.int (nI (mTests (tBec (rpS (rpT S (12 + mK S 16 - 1) (tn most)) (fT S (12 + mK S 16 - 1) (tn most)) (gT S (12 + mK S 16 - 1) (tn least) (tn most))) (12 + mK S 16 - 1) ((mN S 8 (12 + mK S 16 - 1)) * (tn most)))))]
                            refine m_st (st' := [.int (nI (rRep S least most))]) (by rw [rRep, if_pos c0, tRep, if_pos c0]) ?_
                            exact m_iret C A TY d_X7_repeat_364 rfl (⟨rfl, by rw [tRep, if_pos c0]⟩)
                          · skip
                            have hnt : mN S 8 (12 + mK S 16 - 1) * t ≤ mN S 8 (12 + mK S 16 - 1) * tn most := Nat.mul_le_mul (Nat.le_refl _) (by omega)
                            have i3 := pow_256 (a := mN S 8 (12 + mK S 16 - 1) * t) (by omega)
                            refine m_iload C d_X7_repeat_217 4 rfl ?_
                            refine m_iload C d_X7_repeat_219 5 rfl ?_
                            refine m_iconst C d_X7_repeat_221 (v := (nI 1)) rfl ?_
                            refine mn_isub C d_X7_repeat_222 (by omega) ?_
                            refine m_st (st' := [.int (nI t), .int (nI (mN S 8 (12 + mK S 16 - 1)))]) (by rw [Nat.add_sub_cancel]) ?_
                            refine mn_imul C d_X7_repeat_223 ?_
                            refine m_istore C d_X7_repeat_224 (lv' := [(8, .int (nI ((mN S 8 (12 + mK S 16 - 1)) * t))), (0, .ref (q 0)), (1, .int (nI (tn least))), (2, .int (nI (tn most))), (4, .int (nI (12 + mK S 16 - 1))), (6, .int (nI (mN S 8 (12 + mK S 16 - 1)))), (7, .int (nI (t + 1)))]) (by decide) rfl ?_
                            refine m_sipush C d_X7_repeat_226 (v := (nI 255)) rfl ?_
                            refine m_istore C d_X7_repeat_229 (lv' := [(9, .int (nI 255)), (8, .int (nI ((mN S 8 (12 + mK S 16 - 1)) * t))), (0, .ref (q 0)), (1, .int (nI (tn least))), (2, .int (nI (tn most))), (4, .int (nI (12 + mK S 16 - 1))), (6, .int (nI (mN S 8 (12 + mK S 16 - 1)))), (7, .int (nI (t + 1)))]) (by decide) rfl ?_
                            have loop_231 : ∀ (fuel : Nat) (j : Nat), (j ≤ 256) → (j) < fuel → VM G x q h0 (rpS (rpT S (12 + mK S 16 - 1) (tn most)) (fJ S (12 + mK S 16 - 1) t j) (gT S (12 + mK S 16 - 1) (tn least) t)) 231 [(0, .ref (q 0)), (1, .int (nI (tn least))), (2, .int (nI (tn most))), (4, .int (nI (12 + mK S 16 - 1))), (6, .int (nI (mN S 8 (12 + mK S 16 - 1)))), (7, .int (nI (t + 1))), (8, .int (nI (mN S 8 (12 + mK S 16 - 1) * t))), (9, .int (nI j - nI 1))] [] := by
                              intro fuel
                              induction fuel with
                              | zero => intro j hj hf9; exact absurd hf9 (Nat.not_lt_zero _)
                              | succ fuel ih_231 =>
                                intro j hj hf9
                                refine m_iload C d_X7_repeat_231 7 rfl ?_
                                refine m_if_lt C d_X7_repeat_233 (tgt := 289) rfl (fun c_233 => ?_) (fun c_233 => ?_)
                                · skip
                                  obtain rfl : j = 0 := (nI_neg1 hj).mp c_233
                                  refine m_iconst C d_X7_repeat_289 (v := (nI 0)) rfl ?_
                                  refine m_istore C d_X7_repeat_290 (lv' := [(9, .int (nI 0)), (0, .ref (q 0)), (1, .int (nI (tn least))), (2, .int (nI (tn most))), (4, .int (nI (12 + mK S 16 - 1))), (6, .int (nI (mN S 8 (12 + mK S 16 - 1)))), (7, .int (nI (t + 1))), (8, .int (nI (mN S 8 (12 + mK S 16 - 1) * t)))]) (by decide) rfl ?_
                                  have loop_292 : ∀ (fuel : Nat) (k : Nat), (k ≤ 256) → (257 - k) < fuel → VM G x q h0 (rpS (rpT S (12 + mK S 16 - 1) (tn most)) (fT S (12 + mK S 16 - 1) (t + 1)) (gJ S (12 + mK S 16 - 1) (tn least) t k)) 292 [(0, .ref (q 0)), (1, .int (nI (tn least))), (2, .int (nI (tn most))), (4, .int (nI (12 + mK S 16 - 1))), (6, .int (nI (mN S 8 (12 + mK S 16 - 1)))), (7, .int (nI (t + 1))), (9, .int (nI k))] [] := by
                                    intro fuel
                                    induction fuel with
                                    | zero => intro k hk4 hf9; exact absurd hf9 (Nat.not_lt_zero _)
                                    | succ fuel ih_292 =>
                                      intro k hk4 hf9
                                      refine m_iload C d_X7_repeat_292 6 rfl ?_
                                      refine m_sipush C d_X7_repeat_294 (v := (nI 256)) rfl ?_
                                      refine mn_icmp_ge C d_X7_repeat_297 (tgt := 344) rfl (by omega) (by omega) (fun c_297 => ?_) (fun c_297 => ?_)
                                      · skip
                                        obtain rfl : k = 256 := by omega
                                        refine mn_iinc C d_X7_repeat_344 (lv' := [(7, .int (nI (t + 1 + 1))), (0, .ref (q 0)), (1, .int (nI (tn least))), (2, .int (nI (tn most))), (4, .int (nI (12 + mK S 16 - 1))), (6, .int (nI (mN S 8 (12 + mK S 16 - 1)))), (9, .int (nI 256))]) 5 rfl (nI_inc _ rfl) (by decide) rfl ?_
                                        refine m_goto C d_X7_repeat_347 (tgt := 211) rfl ?_
                                        refine m_eq (S' := rpS (rpT S (12 + mK S 16 - 1) (tn most)) (fT S (12 + mK S 16 - 1) (t + 1)) (gT S (12 + mK S 16 - 1) (tn least) (t + 1))) (by rw [gJ_256]) ?_
                                        refine m_lv (lv' := [(0, .ref (q 0)), (1, .int (nI (tn least))), (2, .int (nI (tn most))), (4, .int (nI (12 + mK S 16 - 1))), (6, .int (nI (mN S 8 (12 + mK S 16 - 1)))), (7, .int (nI (t + 1 + 1)))]) [1, 2, 3, 4, 5, 0] rfl ?_
                                        exact ih_211 (t + 1) (by omega) (by omega)
                                      · skip
                                        have join_337 : VM G x q h0 (rpS (rpT S (12 + mK S 16 - 1) (tn most)) (fT S (12 + mK S 16 - 1) (t + 1)) (gJ S (12 + mK S 16 - 1) (tn least) t k)) 337 [(0, .ref (q 0)), (1, .int (nI (tn least))), (2, .int (nI (tn most))), (4, .int (nI (12 + mK S 16 - 1))), (6, .int (nI (mN S 8 (12 + mK S 16 - 1)))), (7, .int (nI (t + 1))), (9, .int (nI k))] [.int (bI (gT S (12 + mK S 16 - 1) (tn least) (t + 1) k)), .int (nI k), .ref (q 17)] := by
                                          refine m_zst C d_X7_repeat_337 (k := 17) (v := gT S (12 + mK S 16 - 1) (tn least) (t + 1) k) (by decide) rfl (by show _ < 256; omega) (by decide) ?_
                                          refine mn_iinc C d_X7_repeat_338 (lv' := [(9, .int (nI (k + 1))), (0, .ref (q 0)), (1, .int (nI (tn least))), (2, .int (nI (tn most))), (4, .int (nI (12 + mK S 16 - 1))), (6, .int (nI (mN S 8 (12 + mK S 16 - 1)))), (7, .int (nI (t + 1)))]) 6 rfl (nI_inc _ rfl) (by decide) rfl ?_
                                          refine m_goto C d_X7_repeat_341 (tgt := 292) rfl ?_
                                          refine m_eq (S' := rpS (rpT S (12 + mK S 16 - 1) (tn most)) (fT S (12 + mK S 16 - 1) (t + 1)) (gJ S (12 + mK S 16 - 1) (tn least) t (k + 1))) (by rw [rpS_u17 (gJ_step)]) ?_
                                          refine m_lv (lv' := [(0, .ref (q 0)), (1, .int (nI (tn least))), (2, .int (nI (tn most))), (4, .int (nI (12 + mK S 16 - 1))), (6, .int (nI (mN S 8 (12 + mK S 16 - 1)))), (7, .int (nI (t + 1))), (9, .int (nI (k + 1)))]) [1, 2, 3, 4, 5, 6, 0] rfl ?_
                                          exact ih_292 (k + 1) (by omega) (by omega)
                                        refine m_aload_n C d_X7_repeat_300 0 rfl ?_
                                        refine m_get C d_X7_repeat_301 fd_RX7_54 (v := .ref (q 17)) rfl ?_
                                        refine m_iload C d_X7_repeat_304 6 rfl ?_
                                        refine m_aload_n C d_X7_repeat_306 0 rfl ?_
                                        refine m_get C d_X7_repeat_307 fd_RX7_54 (v := .ref (q 17)) rfl ?_
                                        refine m_iload C d_X7_repeat_310 6 rfl ?_
                                        refine m_zld C d_X7_repeat_312 (k := 17) (by decide) rfl (by show _ < 256; omega) (by decide) ?_
                                        refine m_st (st' := [.int (bI (thW (fun z => mB S 10 (256 * (12 + mK S 16 - 1) + z)) (mN S 8 (12 + mK S 16 - 1)) (tn least) t k)), .int (nI k), .ref (q 17)]) (by rw [rpS_17, gJ, if_neg (by omega), gT_in (by omega)]) ?_
                                        refine mb_if_ne C d_X7_repeat_313 (tgt := 332) rfl (fun c_313 => ?_) (fun c_313 => ?_)
                                        · skip
                                          refine m_iconst C d_X7_repeat_332 (v := (bI true)) rfl ?_
                                          refine m_goto C d_X7_repeat_333 (tgt := 337) rfl ?_
                                          refine m_st (st' := [.int (bI (gT S (12 + mK S 16 - 1) (tn least) (t + 1) k)), .int (nI k), .ref (q 17)]) (by rw [gT_in (by omega), thW]; first | (rw [c_313]; rfl) | (rw [c_313, decide_eq_true c_319, c_329]; rfl) | (rw [c_313, decide_eq_false (by omega)]; rfl)) ?_
                                          exact join_337  
                                        · skip
                                          refine m_iload C d_X7_repeat_316 5 rfl ?_
                                          refine m_iload_n C d_X7_repeat_318 1 rfl ?_
                                          refine mn_icmp_lt C d_X7_repeat_319 (tgt := 336) rfl (by omega) (by omega) (fun c_319 => ?_) (fun c_319 => ?_)
                                          · skip
                                            refine m_iconst C d_X7_repeat_336 (v := (bI false)) rfl ?_
                                            refine m_st (st' := [.int (bI (gT S (12 + mK S 16 - 1) (tn least) (t + 1) k)), .int (nI k), .ref (q 17)]) (by rw [gT_in (by omega), thW]; first | (rw [c_313]; rfl) | (rw [c_313, decide_eq_true c_319, c_329]; rfl) | (rw [c_313, decide_eq_false (by omega)]; rfl)) ?_
                                            exact join_337  
                                          · skip
                                            refine m_aload_n C d_X7_repeat_322 0 rfl ?_
                                            refine m_get C d_X7_repeat_323 fd_RX7_57 (v := .ref (q 18)) rfl ?_
                                            refine m_iload C d_X7_repeat_326 6 rfl ?_
                                            refine m_zld C d_X7_repeat_328 (k := 18) (by decide) rfl (by show _ < 256; omega) (by decide) ?_
                                            refine m_st (st' := [.int (bI (nxW (fun z => mB S 10 (256 * (12 + mK S 16 - 1) + z)) (mN S 8 (12 + mK S 16 - 1)) (t + 1) k)), .int (nI k), .ref (q 17)]) (by rw [rpS_18, fT_in (by omega)]) ?_
                                            refine mb_if_eq C d_X7_repeat_329 (tgt := 336) rfl (fun c_329 => ?_) (fun c_329 => ?_)
                                            · skip
                                              refine m_iconst C d_X7_repeat_336 (v := (bI false)) rfl ?_
                                              refine m_st (st' := [.int (bI (gT S (12 + mK S 16 - 1) (tn least) (t + 1) k)), .int (nI k), .ref (q 17)]) (by rw [gT_in (by omega), thW]; first | (rw [c_313]; rfl) | (rw [c_313, decide_eq_true c_319, c_329]; rfl) | (rw [c_313, decide_eq_false (by omega)]; rfl)) ?_
                                              exact join_337  
                                            · skip
                                              refine m_iconst C d_X7_repeat_332 (v := (bI true)) rfl ?_
                                              refine m_goto C d_X7_repeat_333 (tgt := 337) rfl ?_
                                              refine m_st (st' := [.int (bI (gT S (12 + mK S 16 - 1) (tn least) (t + 1) k)), .int (nI k), .ref (q 17)]) (by rw [gT_in (by omega), thW]; first | (rw [c_313]; rfl) | (rw [c_313, decide_eq_true c_319, c_329]; rfl) | (rw [c_313, decide_eq_false (by omega)]; rfl)) ?_
                                              exact join_337  
                                  refine m_eq (S' := rpS (rpT S (12 + mK S 16 - 1) (tn most)) (fT S (12 + mK S 16 - 1) (t + 1)) (gJ S (12 + mK S 16 - 1) (tn least) t 0)) (by rw [fJ_0, ← gJ_0]) ?_
                                  refine m_lv (lv' := [(0, .ref (q 0)), (1, .int (nI (tn least))), (2, .int (nI (tn most))), (4, .int (nI (12 + mK S 16 - 1))), (6, .int (nI (mN S 8 (12 + mK S 16 - 1)))), (7, .int (nI (t + 1))), (9, .int (nI 0))]) [1, 2, 3, 4, 5, 6, 0] rfl ?_
                                  exact loop_292 _ 0 (by omega) (Nat.lt_succ_self _)
                                · skip
                                  have hj0 : 0 < j := Nat.pos_of_ne_zero fun z => c_233 ((nI_neg1 hj).mpr z)
                                  refine m_lve (lv' := [(0, .ref (q 0)), (1, .int (nI (tn least))), (2, .int (nI (tn most))), (4, .int (nI (12 + mK S 16 - 1))), (6, .int (nI (mN S 8 (12 + mK S 16 - 1)))), (7, .int (nI (t + 1))), (8, .int (nI (mN S 8 (12 + mK S 16 - 1) * t))), (9, .int (nI (j - 1)))]) (by rw [pk_sub hj0]) ?_
                                  have join_282 : VM G x q h0 (rpS (rpT S (12 + mK S 16 - 1) (tn most)) (fJ S (12 + mK S 16 - 1) t j) (gT S (12 + mK S 16 - 1) (tn least) t)) 282 [(0, .ref (q 0)), (1, .int (nI (tn least))), (2, .int (nI (tn most))), (4, .int (nI (12 + mK S 16 - 1))), (6, .int (nI (mN S 8 (12 + mK S 16 - 1)))), (7, .int (nI (t + 1))), (8, .int (nI (mN S 8 (12 + mK S 16 - 1) * t))), (9, .int (nI (j - 1)))] [.int (bI (fT S (12 + mK S 16 - 1) (t + 1) (j - 1))), .int (nI (j - 1)), .ref (q 18)] := by
                                    refine m_zst C d_X7_repeat_282 (k := 18) (v := fT S (12 + mK S 16 - 1) (t + 1) (j - 1)) (by decide) rfl (by show _ < 256; omega) (by decide) ?_
                                    refine m_iinc C d_X7_repeat_283 (v := (nI (j - 1) - nI 1)) (lv' := [(9, .int (nI (j - 1) - nI 1)), (0, .ref (q 0)), (1, .int (nI (tn least))), (2, .int (nI (tn most))), (4, .int (nI (12 + mK S 16 - 1))), (6, .int (nI (mN S 8 (12 + mK S 16 - 1)))), (7, .int (nI (t + 1))), (8, .int (nI (mN S 8 (12 + mK S 16 - 1) * t)))]) 7 rfl (nI_minus1 _) (by decide) rfl ?_
                                    refine m_goto C d_X7_repeat_286 (tgt := 231) rfl ?_
                                    refine m_eq (S' := rpS (rpT S (12 + mK S 16 - 1) (tn most)) (fJ S (12 + mK S 16 - 1) t (j - 1)) (gT S (12 + mK S 16 - 1) (tn least) t)) (by rw [rpS_u18 (fJ_step (by omega))]) ?_
                                    refine m_lv (lv' := [(0, .ref (q 0)), (1, .int (nI (tn least))), (2, .int (nI (tn most))), (4, .int (nI (12 + mK S 16 - 1))), (6, .int (nI (mN S 8 (12 + mK S 16 - 1)))), (7, .int (nI (t + 1))), (8, .int (nI (mN S 8 (12 + mK S 16 - 1) * t))), (9, .int (nI (j - 1) - nI 1))]) [1, 2, 3, 4, 5, 6, 7, 0] rfl ?_
                                    exact ih_231 (j - 1) (by omega) (by omega)
                                  refine m_aload_n C d_X7_repeat_236 0 rfl ?_
                                  refine m_get C d_X7_repeat_237 fd_RX7_57 (v := .ref (q 18)) rfl ?_
                                  refine m_iload C d_X7_repeat_240 7 rfl ?_
                                  refine m_aload_n C d_X7_repeat_242 0 rfl ?_
                                  refine m_get C d_X7_repeat_243 fd_RX7_57 (v := .ref (q 18)) rfl ?_
                                  refine m_iload C d_X7_repeat_246 7 rfl ?_
                                  refine m_iconst C d_X7_repeat_248 (v := (nI 1)) rfl ?_
                                  refine m_iload C d_X7_repeat_249 6 rfl ?_
                                  refine mn_ishl C d_X7_repeat_251 (by omega) ?_
                                  refine m_st (st' := [.int (nI (2 ^ (mN S 8 (12 + mK S 16 - 1) * t))), .int (nI (j - 1)), .ref (q 18), .int (nI (j - 1)), .ref (q 18)]) (by rw [Nat.one_mul]) ?_
                                  refine mn_irem C d_X7_repeat_252 (by omega) (i3.1) (by omega) ?_
                                  refine m_zld C d_X7_repeat_253 (k := 18) (by decide) rfl (by have := Nat.mod_le (j - 1) (2 ^ (mN S 8 (12 + mK S 16 - 1) * t)); show _ < 256; omega) (by decide) ?_
                                  refine m_st (st' := [.int (bI (nxW (fun z => mB S 10 (256 * (12 + mK S 16 - 1) + z)) (mN S 8 (12 + mK S 16 - 1)) t ((j - 1) % 2 ^ (mN S 8 (12 + mK S 16 - 1) * t)))), .int (nI (j - 1)), .ref (q 18)]) (by have hm := Nat.mod_le (j - 1) (2 ^ (mN S 8 (12 + mK S 16 - 1) * t)); rw [rpS_18, fJ, if_pos (by omega), fT_in (by omega)]) ?_
                                  refine mb_if_eq C d_X7_repeat_254 (tgt := 281) rfl (fun c_254 => ?_) (fun c_254 => ?_)
                                  · skip
                                    refine m_iconst C d_X7_repeat_281 (v := (bI false)) rfl ?_
                                    refine m_st (st' := [.int (bI (fT S (12 + mK S 16 - 1) (t + 1) (j - 1))), .int (nI (j - 1)), .ref (q 18)]) (by rw [fT_in (by omega), nxW]; first | (rw [c_254, c_274]; rfl) | (rw [c_254]; rfl)) ?_
                                    exact join_282  
                                  · skip
                                    refine m_aload_n C d_X7_repeat_257 0 rfl ?_
                                    refine m_get C d_X7_repeat_258 fd_RX7_39 (v := .ref (q 10)) rfl ?_
                                    refine m_sipush C d_X7_repeat_261 (v := (nI 256)) rfl ?_
                                    refine m_iload C d_X7_repeat_264 3 rfl ?_
                                    refine mn_imul C d_X7_repeat_266 ?_
                                    refine m_iload C d_X7_repeat_267 7 rfl ?_
                                    refine m_iload C d_X7_repeat_269 6 rfl ?_
                                    refine mn_ishr C d_X7_repeat_271 (by omega) (by omega) ?_
                                    refine mn_iadd C d_X7_repeat_272 ?_
                                    refine m_zld C d_X7_repeat_273 (k := 10) (by decide) rfl (by have := Nat.div_le_self (j - 1) (2 ^ (mN S 8 (12 + mK S 16 - 1) * t)); show _ < 5376; omega) (by decide) ?_
                                    refine m_st (st' := [.int (bI (mB S 10 ((256 * (12 + mK S 16 - 1)) + ((j - 1) / 2 ^ (mN S 8 (12 + mK S 16 - 1) * t))))), .int (nI (j - 1)), .ref (q 18)]) rfl ?_
                                    refine mb_if_eq C d_X7_repeat_274 (tgt := 281) rfl (fun c_274 => ?_) (fun c_274 => ?_)
                                    · skip
                                      refine m_iconst C d_X7_repeat_281 (v := (bI false)) rfl ?_
                                      refine m_st (st' := [.int (bI (fT S (12 + mK S 16 - 1) (t + 1) (j - 1))), .int (nI (j - 1)), .ref (q 18)]) (by rw [fT_in (by omega), nxW]; first | (rw [c_254, c_274]; rfl) | (rw [c_254]; rfl)) ?_
                                      exact join_282  
                                    · skip
                                      refine m_iconst C d_X7_repeat_277 (v := (bI true)) rfl ?_
                                      refine m_goto C d_X7_repeat_278 (tgt := 282) rfl ?_
                                      refine m_st (st' := [.int (bI (fT S (12 + mK S 16 - 1) (t + 1) (j - 1))), .int (nI (j - 1)), .ref (q 18)]) (by rw [fT_in (by omega), nxW]; first | (rw [c_254, c_274]; rfl) | (rw [c_254]; rfl)) ?_
                                      exact join_282  
                            refine m_eq (S' := rpS (rpT S (12 + mK S 16 - 1) (tn most)) (fJ S (12 + mK S 16 - 1) t 256) (gT S (12 + mK S 16 - 1) (tn least) t)) (by rw [← fJ_256]) ?_
                            refine m_lv (lv' := [(0, .ref (q 0)), (1, .int (nI (tn least))), (2, .int (nI (tn most))), (4, .int (nI (12 + mK S 16 - 1))), (6, .int (nI (mN S 8 (12 + mK S 16 - 1)))), (7, .int (nI (t + 1))), (8, .int (nI ((mN S 8 (12 + mK S 16 - 1)) * t))), (9, .int (nI 255))]) [2, 3, 4, 5, 6, 7, 1, 0] rfl ?_
                            refine m_lve (lv' := [(0, .ref (q 0)), (1, .int (nI (tn least))), (2, .int (nI (tn most))), (4, .int (nI (12 + mK S 16 - 1))), (6, .int (nI (mN S 8 (12 + mK S 16 - 1)))), (7, .int (nI (t + 1))), (8, .int (nI (mN S 8 (12 + mK S 16 - 1) * t))), (9, .int (nI 256 - nI 1))]) (rfl) ?_
                            exact loop_231 _ 256 (by omega) (Nat.lt_succ_self _)
                      refine m_eq (S' := rpS (rpT S (12 + mK S 16 - 1) (tn most)) (fT S (12 + mK S 16 - 1) 0) (gT S (12 + mK S 16 - 1) (tn least) 0)) (by rw [iA_f S (12 + mK S 16 - 1), iA_g S (12 + mK S 16 - 1)]) ?_
                      refine m_lv (lv' := [(0, .ref (q 0)), (1, .int (nI (tn least))), (2, .int (nI (tn most))), (4, .int (nI (12 + mK S 16 - 1))), (6, .int (nI (mN S 8 (12 + mK S 16 - 1)))), (7, .int (nI 1))]) [1, 2, 3, 4, 5, 0] rfl ?_
                      refine m_lve (lv' := [(0, .ref (q 0)), (1, .int (nI (tn least))), (2, .int (nI (tn most))), (4, .int (nI (12 + mK S 16 - 1))), (6, .int (nI (mN S 8 (12 + mK S 16 - 1)))), (7, .int (nI (0 + 1)))]) (rfl) ?_
                      exact loop_211 _ 0 (by omega) (Nat.lt_succ_self _)
                    · skip
                      have join_180 : VM G x q h0 (rpS (rpT S (12 + mK S 16 - 1) (tn most)) (iA S (tn least) k 0) (iA S (tn least) k 1)) 180 [(0, .ref (q 0)), (1, .int (nI (tn least))), (2, .int (nI (tn most))), (4, .int (nI (12 + mK S 16 - 1))), (6, .int (nI (mN S 8 (12 + mK S 16 - 1)))), (7, .int (nI k))] [.int (bI (decide (k = 0) && (decide (0 = 0) || decide (tn least = 0)))), .int (nI k), .ref (q 18)] := by
                        refine m_zst C d_X7_repeat_180 (k := 18) (v := decide (k = 0) && (decide (0 = 0) || decide (tn least = 0))) (by decide) rfl (by show _ < 256; omega) (by decide) ?_
                        have join_201 : VM G x q h0 (uB (rpS (rpT S (12 + mK S 16 - 1) (tn most)) (iA S (tn least) k 0) (iA S (tn least) k 1)) 18 k (decide (k = 0) && (decide (0 = 0) || decide (tn least = 0)))) 201 [(0, .ref (q 0)), (1, .int (nI (tn least))), (2, .int (nI (tn most))), (4, .int (nI (12 + mK S 16 - 1))), (6, .int (nI (mN S 8 (12 + mK S 16 - 1)))), (7, .int (nI k))] [.int (bI (decide (k = 0) && (decide (1 = 0) || decide (tn least = 0)))), .int (nI k), .ref (q 17)] := by
                          refine m_zst C d_X7_repeat_201 (k := 17) (v := decide (k = 0) && (decide (1 = 0) || decide (tn least = 0))) (by decide) rfl (by show _ < 256; omega) (by decide) ?_
                          refine mn_iinc C d_X7_repeat_202 (lv' := [(7, .int (nI (k + 1))), (0, .ref (q 0)), (1, .int (nI (tn least))), (2, .int (nI (tn most))), (4, .int (nI (12 + mK S 16 - 1))), (6, .int (nI (mN S 8 (12 + mK S 16 - 1))))]) 5 rfl (nI_inc _ rfl) (by decide) rfl ?_
                          refine m_goto C d_X7_repeat_205 (tgt := 156) rfl ?_
                          refine m_eq (S' := rpS (rpT S (12 + mK S 16 - 1) (tn most)) (iA S (tn least) (k + 1) 0) (iA S (tn least) (k + 1) 1)) (by rw [rpS_u18 (iA_step (o := 0)), rpS_u17 (iA_step (o := 1))]) ?_
                          refine m_lv (lv' := [(0, .ref (q 0)), (1, .int (nI (tn least))), (2, .int (nI (tn most))), (4, .int (nI (12 + mK S 16 - 1))), (6, .int (nI (mN S 8 (12 + mK S 16 - 1)))), (7, .int (nI (k + 1)))]) [1, 2, 3, 4, 5, 0] rfl ?_
                          exact ih_156 (k + 1) (by omega) (by omega)
                        refine m_aload_n C d_X7_repeat_181 0 rfl ?_
                        refine m_get C d_X7_repeat_182 fd_RX7_54 (v := .ref (q 17)) rfl ?_
                        refine m_iload C d_X7_repeat_185 5 rfl ?_
                        refine m_iload C d_X7_repeat_187 5 rfl ?_
                        refine mn_if_ne C d_X7_repeat_189 (tgt := 200) rfl (by omega) (fun c_189 => ?_) (fun c_189 => ?_)
                        · skip
                          refine m_iconst C d_X7_repeat_200 (v := (bI false)) rfl ?_
                          refine m_st (st' := [.int (bI (decide (k = 0) && (decide (1 = 0) || decide (tn least = 0)))), .int (nI k), .ref (q 17)]) (congrArg (fun z => [Value.int (bI z), .int (nI k), .ref (q 17)]) (by grind)) ?_
                          exact join_201  
                        · skip
                          refine m_iload_n C d_X7_repeat_192 1 rfl ?_
                          refine mn_if_ne C d_X7_repeat_193 (tgt := 200) rfl (by omega) (fun c_193 => ?_) (fun c_193 => ?_)
                          · skip
                            refine m_iconst C d_X7_repeat_200 (v := (bI false)) rfl ?_
                            refine m_st (st' := [.int (bI (decide (k = 0) && (decide (1 = 0) || decide (tn least = 0)))), .int (nI k), .ref (q 17)]) (congrArg (fun z => [Value.int (bI z), .int (nI k), .ref (q 17)]) (by grind)) ?_
                            exact join_201  
                          · skip
                            refine m_iconst C d_X7_repeat_196 (v := (bI true)) rfl ?_
                            refine m_goto C d_X7_repeat_197 (tgt := 201) rfl ?_
                            refine m_st (st' := [.int (bI (decide (k = 0) && (decide (1 = 0) || decide (tn least = 0)))), .int (nI k), .ref (q 17)]) (congrArg (fun z => [Value.int (bI z), .int (nI k), .ref (q 17)]) (by grind)) ?_
                            exact join_201  
                      refine m_aload_n C d_X7_repeat_164 0 rfl ?_
                      refine m_get C d_X7_repeat_165 fd_RX7_57 (v := .ref (q 18)) rfl ?_
                      refine m_iload C d_X7_repeat_168 5 rfl ?_
                      refine m_iload C d_X7_repeat_170 5 rfl ?_
                      refine mn_if_ne C d_X7_repeat_172 (tgt := 179) rfl (by omega) (fun c_172 => ?_) (fun c_172 => ?_)
                      · skip
                        refine m_iconst C d_X7_repeat_179 (v := (bI false)) rfl ?_
                        refine m_st (st' := [.int (bI (decide (k = 0) && (decide (0 = 0) || decide (tn least = 0)))), .int (nI k), .ref (q 18)]) (by first | (rw [decide_eq_true c_172]; rfl) | (rw [decide_eq_false (by omega)]; rfl)) ?_
                        exact join_180  
                      · skip
                        refine m_iconst C d_X7_repeat_175 (v := (bI true)) rfl ?_
                        refine m_goto C d_X7_repeat_176 (tgt := 180) rfl ?_
                        refine m_st (st' := [.int (bI (decide (k = 0) && (decide (0 = 0) || decide (tn least = 0)))), .int (nI k), .ref (q 18)]) (by first | (rw [decide_eq_true c_172]; rfl) | (rw [decide_eq_false (by omega)]; rfl)) ?_
                        exact join_180  
                refine m_eq (S' := rpS (rpT S (12 + mK S 16 - 1) (tn most)) (iA S (tn least) 0 0) (iA S (tn least) 0 1)) (by rw [← rpT]; exact (rpS_init _).trans (congr (congrArg (rpS _) (funext fun z => by unfold iA; rw [if_neg (by omega)]; rfl)) (funext fun z => by unfold iA; rw [if_neg (by omega)]; rfl))) ?_
                refine m_lv (lv' := [(0, .ref (q 0)), (1, .int (nI (tn least))), (2, .int (nI (tn most))), (4, .int (nI (12 + mK S 16 - 1))), (6, .int (nI (mN S 8 (12 + mK S 16 - 1)))), (7, .int (nI 0))]) [1, 2, 3, 4, 5, 0] rfl ?_
                exact loop_156 _ 0 (by omega) (Nat.lt_succ_self _)
              · skip
                refine m_aload_n C d_X7_repeat_124 0 rfl ?_
                refine m_bipush C d_X7_repeat_125 (v := (nI 8)) rfl ?_
                refine m_iload C d_X7_repeat_127 3 rfl ?_
                refine mn_imul C d_X7_repeat_129 ?_
                refine m_iload C d_X7_repeat_130 5 rfl ?_
                refine mn_iadd C d_X7_repeat_132 ?_
                refine m_iload C d_X7_repeat_133 4 rfl ?_
                refine mn_isub C d_X7_repeat_135 (by omega) ?_
                refine m_bipush C d_X7_repeat_136 (v := (nI 8)) rfl ?_
                refine m_iload C d_X7_repeat_138 3 rfl ?_
                refine mn_imul C d_X7_repeat_140 ?_
                refine m_iload C d_X7_repeat_141 5 rfl ?_
                refine mn_iadd C d_X7_repeat_143 ?_
                refine m_callV C d_X7_repeat_144 ok_RX7_101 (m_copiesTest (tmap (uK S 0 0) (rpG (8 * (12 + mK S 16 - 1)) (mN S 8 (12 + mK S 16 - 1)) (8 * (12 + mK S 16 - 1) + k))) (((8 * (12 + mK S 16 - 1)) + k) - (mN S 8 (12 + mK S 16 - 1))) ((8 * (12 + mK S 16 - 1)) + k) (by omega) (by omega)) rfl (rest := []) rfl rfl (Nat.le_of_ble_eq_true rfl) ⟨⟨by decide, by decide⟩, by decide, by decide⟩ (fun v9 T9 e9 => ?_)
                obtain ⟨rfl, e9⟩ := e9
                refine m_eq e9 ?_
                show VM G x q h0 (tmap (tmap (uK S 0 0) (rpG (8 * (12 + mK S 16 - 1)) (mN S 8 (12 + mK S 16 - 1)) (8 * (12 + mK S 16 - 1) + k))) (cpG (((8 * (12 + mK S 16 - 1)) + k) - (mN S 8 (12 + mK S 16 - 1))) ((8 * (12 + mK S 16 - 1)) + k))) 147 [(0, .ref (q 0)), (1, .int (nI (tn least))), (2, .int (nI (tn most))), (4, .int (nI (12 + mK S 16 - 1))), (6, .int (nI (mN S 8 (12 + mK S 16 - 1)))), (7, .int (nI k))] []
                refine mn_iinc C d_X7_repeat_147 (lv' := [(7, .int (nI (k + 1))), (0, .ref (q 0)), (1, .int (nI (tn least))), (2, .int (nI (tn most))), (4, .int (nI (12 + mK S 16 - 1))), (6, .int (nI (mN S 8 (12 + mK S 16 - 1))))]) 5 rfl (nI_inc _ rfl) (by decide) rfl ?_
                refine m_goto C d_X7_repeat_150 (tgt := 115) rfl ?_
                refine m_eq (S' := tmap (uK S 0 0) (rpG (8 * (12 + mK S 16 - 1)) (mN S 8 (12 + mK S 16 - 1)) (8 * (12 + mK S 16 - 1) + (k + 1)))) (rpG_succ _ (by omega) (by omega)) ?_
                refine m_lv (lv' := [(0, .ref (q 0)), (1, .int (nI (tn least))), (2, .int (nI (tn most))), (4, .int (nI (12 + mK S 16 - 1))), (6, .int (nI (mN S 8 (12 + mK S 16 - 1)))), (7, .int (nI (k + 1)))]) [1, 2, 3, 4, 5, 0] rfl ?_
                exact ih_115 (k + 1) (by omega) (by omega)
          refine m_eq (S' := tmap (uK S 0 0) (rpG (8 * (12 + mK S 16 - 1)) (mN S 8 (12 + mK S 16 - 1)) (8 * (12 + mK S 16 - 1) + (mN S 8 (12 + mK S 16 - 1))))) (rpG_0 _ _ _) ?_
          refine m_lv (lv' := [(0, .ref (q 0)), (1, .int (nI (tn least))), (2, .int (nI (tn most))), (4, .int (nI (12 + mK S 16 - 1))), (6, .int (nI (mN S 8 (12 + mK S 16 - 1)))), (7, .int (nI (mN S 8 (12 + mK S 16 - 1))))]) [2, 3, 4, 5, 1, 0] rfl ?_
          exact loop_115 _ (mN S 8 (12 + mK S 16 - 1)) (by omega) (Nat.lt_succ_self _)
        · skip
          have c1 := of_decide_eq_false c_97
          refine m_iconst C d_X7_repeat_100 (v := (nI 0)) rfl ?_
          refine m_st (st' := [.int (nI (rRep S least most))]) (by rw [rRep, if_neg c1]) ?_
          exact m_iret C A TY d_X7_repeat_101 rfl (⟨rfl, by rw [tRep, if_neg c1]⟩)
      refine m_aload_n C d_X7_repeat_75 1 rfl ?_
      refine m_iload_n C d_X7_repeat_76 4 rfl ?_
      refine mb_if_ne C d_X7_repeat_77 (tgt := 84) rfl (fun c_77 => ?_) (fun c_77 => ?_)
      · skip
        refine m_iload C d_X7_repeat_84 0 rfl ?_
        refine mb_if_eq C d_X7_repeat_86 (tgt := 93) rfl (fun c_86 => ?_) (fun c_86 => ?_)
        · skip
          refine m_iconst C d_X7_repeat_93 (v := (nI 2)) rfl ?_
          refine m_lv (lv' := [(0, .ref (q 0)), (1, .int least), (2, .int most), (4, .int (nI (12 + mK S 16 - 1)))]) [1, 2, 3, 5] rfl ?_
          refine m_st (st' := [.int (nI (cRep S least most)), .ref (q 0)]) (by first | (rw [cRep, if_pos c_77]; first | rw [if_pos c_86] | rw [if_neg (by rw [c_86]; decide)]) | rw [cRep, if_neg (by rw [c_77]; decide)]) ?_
          exact join_94  
        · skip
          refine m_iconst C d_X7_repeat_89 (v := (nI 0)) rfl ?_
          refine m_goto C d_X7_repeat_90 (tgt := 94) rfl ?_
          refine m_lv (lv' := [(0, .ref (q 0)), (1, .int least), (2, .int most), (4, .int (nI (12 + mK S 16 - 1)))]) [1, 2, 3, 5] rfl ?_
          refine m_st (st' := [.int (nI (cRep S least most)), .ref (q 0)]) (by first | (rw [cRep, if_pos c_77]; first | rw [if_pos c_86] | rw [if_neg (by rw [c_86]; decide)]) | rw [cRep, if_neg (by rw [c_77]; decide)]) ?_
          exact join_94  
      · skip
        refine m_iconst C d_X7_repeat_80 (v := (nI 1)) rfl ?_
        refine m_goto C d_X7_repeat_81 (tgt := 94) rfl ?_
        refine m_lv (lv' := [(0, .ref (q 0)), (1, .int least), (2, .int most), (4, .int (nI (12 + mK S 16 - 1)))]) [1, 2, 3, 5] rfl ?_
        refine m_st (st' := [.int (nI (cRep S least most)), .ref (q 0)]) (by first | (rw [cRep, if_pos c_77]; first | rw [if_pos c_86] | rw [if_neg (by rw [c_86]; decide)]) | rw [cRep, if_neg (by rw [c_77]; decide)]) ?_
        exact join_94  
    refine m_aload_n C d_X7_repeat_40 2 rfl ?_
    refine m_get C d_X7_repeat_41 fd_RX7_98 (v := .int (nI (mK S 16))) rfl ?_
    refine mn_if_le C d_X7_repeat_44 (tgt := 72) rfl (by omega) (fun c_44 => ?_) (fun c_44 => ?_)
    · skip
      refine m_iconst C d_X7_repeat_72 (v := (bI false)) rfl ?_
      refine m_lv (lv' := [(0, .ref (q 0)), (1, .int least), (2, .int most), (3, .int (bI (areR least most))), (4, .int (nI ((12 + (mK S 16)) - 1)))]) [2, 3, 4, 1, 0] rfl ?_
      refine m_lve (lv' := [(0, .ref (q 0)), (1, .int least), (2, .int most), (3, .int (bI (areR least most))), (4, .int (nI (12 + mK S 16 - 1)))]) (rfl) ?_
      refine m_st (st' := [.int (bI (canR S most))]) (by first | (rw [canR, decide_eq_true c_44, decide_eq_true (Int32.not_lt.mp c_65)]; rfl) | (rw [canR, decide_eq_true c_44, decide_eq_false (Int32.not_le.mpr c_65)]; rfl) | (rw [canR, decide_eq_false (by omega)]; rfl)) ?_
      exact join_73  
    · skip
      refine m_aload_n C d_X7_repeat_47 2 rfl ?_
      refine m_callV C d_X7_repeat_48 ok_RX7_105 (m_testsInAll S (by omega)) rfl (rest := []) rfl rfl (Nat.le_of_ble_eq_true rfl) ⟨⟨by decide, by decide⟩, by decide, by decide⟩ (fun v9 T9 e9 => ?_)
      obtain ⟨rfl, e9⟩ := e9
      refine m_eq e9 ?_
      show VM G x q h0 S 51 [(4, .int (nI ((12 + (mK S 16)) - 1))), (3, .int (bI (areR least most))), (0, .ref (q 0)), (1, .int least), (2, .int most)] [.int (nI (mTests S))]
      refine m_iload_n C d_X7_repeat_51 4 rfl ?_
      refine m_iconst C d_X7_repeat_52 (v := (nI 1)) rfl ?_
      refine m_isub C d_X7_repeat_53 ?_
      refine m_aload_n C d_X7_repeat_54 2 rfl ?_
      refine m_get C d_X7_repeat_55 fd_RX7_33 (v := .ref (q 8)) rfl ?_
      refine m_iload C d_X7_repeat_58 0 rfl ?_
      refine m_ald C d_X7_repeat_60 (k := 8) (by decide) rfl (by show _ < 21; omega) (by decide) ?_
      refine m_imul C d_X7_repeat_61 ?_
      refine m_iadd C d_X7_repeat_62 ?_
      refine m_bipush C d_X7_repeat_63 (v := (nI 8)) rfl ?_
      refine m_icmp_gt C d_X7_repeat_65 (tgt := 72) rfl (fun c_65 => ?_) (fun c_65 => ?_)
      · skip
        refine m_iconst C d_X7_repeat_72 (v := (bI false)) rfl ?_
        refine m_lv (lv' := [(0, .ref (q 0)), (1, .int least), (2, .int most), (3, .int (bI (areR least most))), (4, .int (nI ((12 + (mK S 16)) - 1)))]) [2, 3, 4, 1, 0] rfl ?_
        refine m_lve (lv' := [(0, .ref (q 0)), (1, .int least), (2, .int most), (3, .int (bI (areR least most))), (4, .int (nI (12 + mK S 16 - 1)))]) (rfl) ?_
        refine m_st (st' := [.int (bI (canR S most))]) (by first | (rw [canR, decide_eq_true c_44, decide_eq_true (Int32.not_lt.mp c_65)]; rfl) | (rw [canR, decide_eq_true c_44, decide_eq_false (Int32.not_le.mpr c_65)]; rfl) | (rw [canR, decide_eq_false (by omega)]; rfl)) ?_
        exact join_73  
      · skip
        refine m_iconst C d_X7_repeat_68 (v := (bI true)) rfl ?_
        refine m_goto C d_X7_repeat_69 (tgt := 73) rfl ?_
        refine m_lv (lv' := [(0, .ref (q 0)), (1, .int least), (2, .int most), (3, .int (bI (areR least most))), (4, .int (nI ((12 + (mK S 16)) - 1)))]) [2, 3, 4, 1, 0] rfl ?_
        refine m_lve (lv' := [(0, .ref (q 0)), (1, .int least), (2, .int most), (3, .int (bI (areR least most))), (4, .int (nI (12 + mK S 16 - 1)))]) (rfl) ?_
        refine m_st (st' := [.int (bI (canR S most))]) (by first | (rw [canR, decide_eq_true c_44, decide_eq_true (Int32.not_lt.mp c_65)]; rfl) | (rw [canR, decide_eq_true c_44, decide_eq_false (Int32.not_le.mpr c_65)]; rfl) | (rw [canR, decide_eq_false (by omega)]; rfl)) ?_
        exact join_73  
  refine m_iload_n C d_X7_repeat_0 1 rfl ?_
  refine m_iconst C d_X7_repeat_1 (v := (nI 0)) rfl ?_
  refine m_iconst C d_X7_repeat_2 (v := (nI 3)) rfl ?_
  refine m_callS C d_X7_repeat_3 ok_RX7_76 (s_isIn least ((nI 0)) ((nI 3))) (rest := []) rfl rfl (Nat.le_of_ble_eq_true rfl) ⟨⟨by decide, by decide⟩, by decide, by decide⟩ ?_
  show VM G x q h0 S 6 [(0, .ref (q 0)), (1, .int least), (2, .int most)] [.int (bI (inR least 0 3))]
  refine mb_if_eq C d_X7_repeat_6 (tgt := 27) rfl (fun c_6 => ?_) (fun c_6 => ?_)
  · skip
    refine m_iconst C d_X7_repeat_27 (v := (bI false)) rfl ?_
    refine m_st (st' := [.int (bI (areR least most))]) (by first | (rw [areR, c_6, c_15, decide_eq_true (Int32.not_lt.mp c_20)]; rfl) | (rw [areR, c_6, c_15, decide_eq_false (Int32.not_le.mpr c_20)]; rfl) | (rw [areR, c_6, c_15]; rfl) | (rw [areR, c_6]; rfl)) ?_
    exact join_28  
  · skip
    refine m_iload_n C d_X7_repeat_9 2 rfl ?_
    refine m_iconst C d_X7_repeat_10 (v := (nI 1)) rfl ?_
    refine m_iconst C d_X7_repeat_11 (v := (nI 3)) rfl ?_
    refine m_callS C d_X7_repeat_12 ok_RX7_76 (s_isIn most ((nI 1)) ((nI 3))) (rest := []) rfl rfl (Nat.le_of_ble_eq_true rfl) ⟨⟨by decide, by decide⟩, by decide, by decide⟩ ?_
    show VM G x q h0 S 15 [(0, .ref (q 0)), (1, .int least), (2, .int most)] [.int (bI (inR most 1 3))]
    refine mb_if_eq C d_X7_repeat_15 (tgt := 27) rfl (fun c_15 => ?_) (fun c_15 => ?_)
    · skip
      refine m_iconst C d_X7_repeat_27 (v := (bI false)) rfl ?_
      refine m_st (st' := [.int (bI (areR least most))]) (by first | (rw [areR, c_6, c_15, decide_eq_true (Int32.not_lt.mp c_20)]; rfl) | (rw [areR, c_6, c_15, decide_eq_false (Int32.not_le.mpr c_20)]; rfl) | (rw [areR, c_6, c_15]; rfl) | (rw [areR, c_6]; rfl)) ?_
      exact join_28  
    · skip
      refine m_iload_n C d_X7_repeat_18 2 rfl ?_
      refine m_iload_n C d_X7_repeat_19 1 rfl ?_
      refine m_icmp_lt C d_X7_repeat_20 (tgt := 27) rfl (fun c_20 => ?_) (fun c_20 => ?_)
      · skip
        refine m_iconst C d_X7_repeat_27 (v := (bI false)) rfl ?_
        refine m_st (st' := [.int (bI (areR least most))]) (by first | (rw [areR, c_6, c_15, decide_eq_true (Int32.not_lt.mp c_20)]; rfl) | (rw [areR, c_6, c_15, decide_eq_false (Int32.not_le.mpr c_20)]; rfl) | (rw [areR, c_6, c_15]; rfl) | (rw [areR, c_6]; rfl)) ?_
        exact join_28  
      · skip
        refine m_iconst C d_X7_repeat_23 (v := (bI true)) rfl ?_
        refine m_goto C d_X7_repeat_24 (tgt := 28) rfl ?_
        refine m_st (st' := [.int (bI (areR least most))]) (by first | (rw [areR, c_6, c_15, decide_eq_true (Int32.not_lt.mp c_20)]; rfl) | (rw [areR, c_6, c_15, decide_eq_false (Int32.not_le.mpr c_20)]; rfl) | (rw [areR, c_6, c_15]; rfl) | (rw [areR, c_6]; rfl)) ?_
        exact join_28  
