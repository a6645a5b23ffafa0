theorem tw_558 : (Jvm.Cond.methodLink "CorpuslineLaw" (128 : Nat) ({ cls := "Corpusline", name := "join", desc := "(III)I" } : Jvm.MethodName)) ∈ TB := tb_of 558 (by decide +kernel) rfl
theorem tw_559 : (Jvm.Cond.instanceMethod ({ cls := "Corpusline", name := "join", desc := "(III)I" } : Jvm.MethodName)) ∈ TB := tb_of 559 (by decide +kernel) rfl
theorem tw_560 : (Jvm.Cond.selects "Corpusline" ({ cls := "Corpusline", name := "join", desc := "(III)I" } : Jvm.MethodName) ({ cls := "Corpusline", name := "join", desc := "(III)I" } : Jvm.MethodName)) ∈ TB := tb_of 560 (by decide +kernel) rfl
theorem tw_561 : (Jvm.Cond.code ({ cls := "Corpusline", name := "join", desc := "(III)I" } : Jvm.MethodName) prog_1_method_20_code (7 : Nat) (Option.some Jvm.ClassFile.FieldType.int)) ∈ TB := tb_of 561 (by decide +kernel) rfl
theorem ok_RL_128 : okV RL 128 yX6_join cX6_join 7 (Option.some Jvm.ClassFile.FieldType.int) 3 := ⟨tw_558, tw_559, tw_560, tw_1, tw_561, ⟨by decide, by decide, by decide +kernel⟩⟩
theorem fd_b {g : mS} {r m : Nat} (hm : m < cntM g r 360) : fdM g r m 360 < 2147483648 := by
  obtain ⟨j, h1, h2, h3, h4⟩ := fd_ex hm
  omega
def dl_L_joins : List (Nat × Instr × Nat) := [(0, .aload_n 1, 1), (1, .bipush 12, 2), (3, .iload_n 2, 1), (4, .iadd, 1), (5, .iaload, 1), (6, .aload_n 1, 1), (7, .bipush 12, 2), (9, .iload_n 3, 1), (10, .iadd, 1), (11, .iaload, 1), (12, .if_icmp .eq 17, 3), (15, .aload_n 0, 1), (16, .iload_n 2, 1), (17, .invokevirtual 82, 3), (20, .ifCond .lt 7, 3), (23, .iconst 1, 1), (24, .goto 4, 3), (27, .iconst 0, 1), (28, .ireturn, 1), (29, .aload_n 0, 1), (30, .iload_n 2, 1), (31, .invokevirtual 82, 3), (34, .istore 5, 2), (36, .aload_n 0, 1), (37, .iload_n 3, 1), (38, .invokevirtual 82, 3), (41, .istore 6, 2), (43, .aload_n 0, 1), (44, .iload_n 2, 1), (45, .iload_n 3, 1), (46, .iload 4, 2), (48, .invokevirtual 128, 3), (51, .istore 7, 2), (53, .iload 7, 2), (55, .aload_n 0, 1), (56, .iload_n 2, 1), (57, .invokevirtual 82, 3), (60, .if_icmp .ne 22, 3), (63, .iload_n 2, 1), (64, .iload_n 3, 1), (65, .if_icmp .eq 13, 3), (68, .aload_n 0, 1), (69, .iload_n 3, 1), (70, .invokevirtual 82, 3), (73, .iload 6, 2), (75, .if_icmp .ne 7, 3), (78, .iconst 1, 1), (79, .goto 4, 3), (82, .iconst 0, 1), (83, .istore 8, 2), (85, .iconst (-1), 1), (86, .istore 9, 2), (88, .iconst 0, 1), (89, .istore 10, 2), (91, .iload 10, 2), (93, .iload 7, 2), (95, .if_icmp .ge 42, 3), (98, .iload 8, 2), (100, .ifCond .eq 37, 3), (103, .aload_n 0, 1), (104, .iload_n 2, 1), (105, .iload 10, 2), (107, .invokevirtual 121, 3), (110, .iload 9, 2), (112, .if_icmp .le 7, 3), (115, .iconst 1, 1), (116, .goto 4, 3), (119, .iconst 0, 1), (120, .istore 8, 2), (122, .aload_n 0, 1), (123, .iload_n 2, 1), (124, .iload 10, 2), (126, .invokevirtual 121, 3), (129, .istore 9, 2), (131, .iinc 10 1, 3), (134, .goto (-43), 3), (137, .iload 8, 2), (139, .ifCond .eq 101, 3), (142, .iload 4, 2), (144, .ifCond .ne 30, 3), (147, .iload 7, 2), (149, .iload 5, 2), (151, .if_icmp .lt 89, 3), (154, .iload 7, 2), (156, .iload 6, 2), (158, .if_icmp .lt 82, 3), (161, .iload 7, 2), (163, .iload 5, 2), (165, .iload 6, 2), (167, .iadd, 1), (168, .if_icmp .gt 72, 3), (171, .goto 43, 3), (174, .iload 4, 2), (176, .iconst 1, 1), (177, .if_icmp .ne 20, 3), (180, .iload 7, 2), (182, .iload 5, 2), (184, .if_icmp .gt 56, 3), (187, .iload 7, 2), (189, .iload 6, 2), (191, .if_icmp .gt 49, 3), (194, .goto 20, 3), (197, .iload 7, 2), (199, .iload 5, 2), (201, .if_icmp .gt 39, 3), (204, .iload 7, 2), (206, .iload 5, 2), (208, .iload 6, 2), (210, .isub, 1), (211, .if_icmp .lt 29, 3), (214, .iload_n 2, 1), (215, .iload_n 3, 1), (216, .if_icmp .ne 20, 3), (219, .iload 7, 2), (221, .iload 4, 2), (223, .iconst 2, 1), (224, .if_icmp .ne 7, 3), (227, .iconst 0, 1), (228, .goto 5, 3), (231, .iload 5, 2), (233, .if_icmp .ne 7, 3), (236, .iconst 1, 1), (237, .goto 4, 3), (240, .iconst 0, 1), (241, .ireturn, 1)]
theorem dc_L_joins : dnL cL_joins dl_L_joins = true := by decide +kernel
theorem d_L_joins_0 : dn cL_joins 0 (.aload_n 1) 1 1 := dnAt dc_L_joins 0 rfl rfl
theorem d_L_joins_1 : dn cL_joins 1 (.bipush 12) 2 3 := dnAt dc_L_joins 1 rfl rfl
theorem d_L_joins_3 : dn cL_joins 3 (.iload_n 2) 1 4 := dnAt dc_L_joins 2 rfl rfl
theorem d_L_joins_4 : dn cL_joins 4 (.iadd) 1 5 := dnAt dc_L_joins 3 rfl rfl
theorem d_L_joins_5 : dn cL_joins 5 (.iaload) 1 6 := dnAt dc_L_joins 4 rfl rfl
theorem d_L_joins_6 : dn cL_joins 6 (.aload_n 1) 1 7 := dnAt dc_L_joins 5 rfl rfl
theorem d_L_joins_7 : dn cL_joins 7 (.bipush 12) 2 9 := dnAt dc_L_joins 6 rfl rfl
theorem d_L_joins_9 : dn cL_joins 9 (.iload_n 3) 1 10 := dnAt dc_L_joins 7 rfl rfl
theorem d_L_joins_10 : dn cL_joins 10 (.iadd) 1 11 := dnAt dc_L_joins 8 rfl rfl
theorem d_L_joins_11 : dn cL_joins 11 (.iaload) 1 12 := dnAt dc_L_joins 9 rfl rfl
theorem d_L_joins_12 : dn cL_joins 12 (.if_icmp .eq 17) 3 15 := dnAt dc_L_joins 10 rfl rfl
theorem d_L_joins_15 : dn cL_joins 15 (.aload_n 0) 1 16 := dnAt dc_L_joins 11 rfl rfl
theorem d_L_joins_16 : dn cL_joins 16 (.iload_n 2) 1 17 := dnAt dc_L_joins 12 rfl rfl
theorem d_L_joins_17 : dn cL_joins 17 (.invokevirtual 82) 3 20 := dnAt dc_L_joins 13 rfl rfl
theorem d_L_joins_20 : dn cL_joins 20 (.ifCond .lt 7) 3 23 := dnAt dc_L_joins 14 rfl rfl
theorem d_L_joins_23 : dn cL_joins 23 (.iconst 1) 1 24 := dnAt dc_L_joins 15 rfl rfl
theorem d_L_joins_24 : dn cL_joins 24 (.goto 4) 3 27 := dnAt dc_L_joins 16 rfl rfl
theorem d_L_joins_28 : dn cL_joins 28 (.ireturn) 1 29 := dnAt dc_L_joins 18 rfl rfl
theorem d_L_joins_29 : dn cL_joins 29 (.aload_n 0) 1 30 := dnAt dc_L_joins 19 rfl rfl
theorem d_L_joins_30 : dn cL_joins 30 (.iload_n 2) 1 31 := dnAt dc_L_joins 20 rfl rfl
theorem d_L_joins_31 : dn cL_joins 31 (.invokevirtual 82) 3 34 := dnAt dc_L_joins 21 rfl rfl
theorem d_L_joins_34 : dn cL_joins 34 (.istore 5) 2 36 := dnAt dc_L_joins 22 rfl rfl
theorem d_L_joins_36 : dn cL_joins 36 (.aload_n 0) 1 37 := dnAt dc_L_joins 23 rfl rfl
theorem d_L_joins_37 : dn cL_joins 37 (.iload_n 3) 1 38 := dnAt dc_L_joins 24 rfl rfl
theorem d_L_joins_38 : dn cL_joins 38 (.invokevirtual 82) 3 41 := dnAt dc_L_joins 25 rfl rfl
theorem d_L_joins_41 : dn cL_joins 41 (.istore 6) 2 43 := dnAt dc_L_joins 26 rfl rfl
theorem d_L_joins_43 : dn cL_joins 43 (.aload_n 0) 1 44 := dnAt dc_L_joins 27 rfl rfl
theorem d_L_joins_44 : dn cL_joins 44 (.iload_n 2) 1 45 := dnAt dc_L_joins 28 rfl rfl
theorem d_L_joins_45 : dn cL_joins 45 (.iload_n 3) 1 46 := dnAt dc_L_joins 29 rfl rfl
theorem d_L_joins_46 : dn cL_joins 46 (.iload 4) 2 48 := dnAt dc_L_joins 30 rfl rfl
theorem d_L_joins_48 : dn cL_joins 48 (.invokevirtual 128) 3 51 := dnAt dc_L_joins 31 rfl rfl
theorem d_L_joins_51 : dn cL_joins 51 (.istore 7) 2 53 := dnAt dc_L_joins 32 rfl rfl
theorem d_L_joins_53 : dn cL_joins 53 (.iload 7) 2 55 := dnAt dc_L_joins 33 rfl rfl
theorem d_L_joins_55 : dn cL_joins 55 (.aload_n 0) 1 56 := dnAt dc_L_joins 34 rfl rfl
theorem d_L_joins_56 : dn cL_joins 56 (.iload_n 2) 1 57 := dnAt dc_L_joins 35 rfl rfl
theorem d_L_joins_57 : dn cL_joins 57 (.invokevirtual 82) 3 60 := dnAt dc_L_joins 36 rfl rfl
theorem d_L_joins_60 : dn cL_joins 60 (.if_icmp .ne 22) 3 63 := dnAt dc_L_joins 37 rfl rfl
theorem d_L_joins_63 : dn cL_joins 63 (.iload_n 2) 1 64 := dnAt dc_L_joins 38 rfl rfl
theorem d_L_joins_64 : dn cL_joins 64 (.iload_n 3) 1 65 := dnAt dc_L_joins 39 rfl rfl
theorem d_L_joins_65 : dn cL_joins 65 (.if_icmp .eq 13) 3 68 := dnAt dc_L_joins 40 rfl rfl
theorem d_L_joins_68 : dn cL_joins 68 (.aload_n 0) 1 69 := dnAt dc_L_joins 41 rfl rfl
theorem d_L_joins_69 : dn cL_joins 69 (.iload_n 3) 1 70 := dnAt dc_L_joins 42 rfl rfl
theorem d_L_joins_70 : dn cL_joins 70 (.invokevirtual 82) 3 73 := dnAt dc_L_joins 43 rfl rfl
theorem d_L_joins_73 : dn cL_joins 73 (.iload 6) 2 75 := dnAt dc_L_joins 44 rfl rfl
theorem d_L_joins_75 : dn cL_joins 75 (.if_icmp .ne 7) 3 78 := dnAt dc_L_joins 45 rfl rfl
theorem d_L_joins_78 : dn cL_joins 78 (.iconst 1) 1 79 := dnAt dc_L_joins 46 rfl rfl
theorem d_L_joins_79 : dn cL_joins 79 (.goto 4) 3 82 := dnAt dc_L_joins 47 rfl rfl
theorem d_L_joins_83 : dn cL_joins 83 (.istore 8) 2 85 := dnAt dc_L_joins 49 rfl rfl
theorem d_L_joins_85 : dn cL_joins 85 (.iconst (-1)) 1 86 := dnAt dc_L_joins 50 rfl rfl
theorem d_L_joins_86 : dn cL_joins 86 (.istore 9) 2 88 := dnAt dc_L_joins 51 rfl rfl
theorem d_L_joins_88 : dn cL_joins 88 (.iconst 0) 1 89 := dnAt dc_L_joins 52 rfl rfl
theorem d_L_joins_89 : dn cL_joins 89 (.istore 10) 2 91 := dnAt dc_L_joins 53 rfl rfl
theorem d_L_joins_91 : dn cL_joins 91 (.iload 10) 2 93 := dnAt dc_L_joins 54 rfl rfl
theorem d_L_joins_93 : dn cL_joins 93 (.iload 7) 2 95 := dnAt dc_L_joins 55 rfl rfl
theorem d_L_joins_95 : dn cL_joins 95 (.if_icmp .ge 42) 3 98 := dnAt dc_L_joins 56 rfl rfl
theorem d_L_joins_98 : dn cL_joins 98 (.iload 8) 2 100 := dnAt dc_L_joins 57 rfl rfl
theorem d_L_joins_100 : dn cL_joins 100 (.ifCond .eq 37) 3 103 := dnAt dc_L_joins 58 rfl rfl
theorem d_L_joins_103 : dn cL_joins 103 (.aload_n 0) 1 104 := dnAt dc_L_joins 59 rfl rfl
theorem d_L_joins_104 : dn cL_joins 104 (.iload_n 2) 1 105 := dnAt dc_L_joins 60 rfl rfl
theorem d_L_joins_105 : dn cL_joins 105 (.iload 10) 2 107 := dnAt dc_L_joins 61 rfl rfl
theorem d_L_joins_107 : dn cL_joins 107 (.invokevirtual 121) 3 110 := dnAt dc_L_joins 62 rfl rfl
theorem d_L_joins_110 : dn cL_joins 110 (.iload 9) 2 112 := dnAt dc_L_joins 63 rfl rfl
theorem d_L_joins_112 : dn cL_joins 112 (.if_icmp .le 7) 3 115 := dnAt dc_L_joins 64 rfl rfl
theorem d_L_joins_115 : dn cL_joins 115 (.iconst 1) 1 116 := dnAt dc_L_joins 65 rfl rfl
theorem d_L_joins_116 : dn cL_joins 116 (.goto 4) 3 119 := dnAt dc_L_joins 66 rfl rfl
theorem d_L_joins_120 : dn cL_joins 120 (.istore 8) 2 122 := dnAt dc_L_joins 68 rfl rfl
theorem d_L_joins_122 : dn cL_joins 122 (.aload_n 0) 1 123 := dnAt dc_L_joins 69 rfl rfl
theorem d_L_joins_123 : dn cL_joins 123 (.iload_n 2) 1 124 := dnAt dc_L_joins 70 rfl rfl
theorem d_L_joins_124 : dn cL_joins 124 (.iload 10) 2 126 := dnAt dc_L_joins 71 rfl rfl
theorem d_L_joins_126 : dn cL_joins 126 (.invokevirtual 121) 3 129 := dnAt dc_L_joins 72 rfl rfl
theorem d_L_joins_129 : dn cL_joins 129 (.istore 9) 2 131 := dnAt dc_L_joins 73 rfl rfl
theorem d_L_joins_131 : dn cL_joins 131 (.iinc 10 1) 3 134 := dnAt dc_L_joins 74 rfl rfl
theorem d_L_joins_134 : dn cL_joins 134 (.goto (-43)) 3 137 := dnAt dc_L_joins 75 rfl rfl
theorem d_L_joins_137 : dn cL_joins 137 (.iload 8) 2 139 := dnAt dc_L_joins 76 rfl rfl
theorem d_L_joins_139 : dn cL_joins 139 (.ifCond .eq 101) 3 142 := dnAt dc_L_joins 77 rfl rfl
theorem d_L_joins_142 : dn cL_joins 142 (.iload 4) 2 144 := dnAt dc_L_joins 78 rfl rfl
theorem d_L_joins_144 : dn cL_joins 144 (.ifCond .ne 30) 3 147 := dnAt dc_L_joins 79 rfl rfl
theorem d_L_joins_147 : dn cL_joins 147 (.iload 7) 2 149 := dnAt dc_L_joins 80 rfl rfl
theorem d_L_joins_149 : dn cL_joins 149 (.iload 5) 2 151 := dnAt dc_L_joins 81 rfl rfl
theorem d_L_joins_151 : dn cL_joins 151 (.if_icmp .lt 89) 3 154 := dnAt dc_L_joins 82 rfl rfl
theorem d_L_joins_154 : dn cL_joins 154 (.iload 7) 2 156 := dnAt dc_L_joins 83 rfl rfl
theorem d_L_joins_156 : dn cL_joins 156 (.iload 6) 2 158 := dnAt dc_L_joins 84 rfl rfl
theorem d_L_joins_158 : dn cL_joins 158 (.if_icmp .lt 82) 3 161 := dnAt dc_L_joins 85 rfl rfl
theorem d_L_joins_161 : dn cL_joins 161 (.iload 7) 2 163 := dnAt dc_L_joins 86 rfl rfl
theorem d_L_joins_163 : dn cL_joins 163 (.iload 5) 2 165 := dnAt dc_L_joins 87 rfl rfl
theorem d_L_joins_165 : dn cL_joins 165 (.iload 6) 2 167 := dnAt dc_L_joins 88 rfl rfl
theorem d_L_joins_167 : dn cL_joins 167 (.iadd) 1 168 := dnAt dc_L_joins 89 rfl rfl
theorem d_L_joins_168 : dn cL_joins 168 (.if_icmp .gt 72) 3 171 := dnAt dc_L_joins 90 rfl rfl
theorem d_L_joins_171 : dn cL_joins 171 (.goto 43) 3 174 := dnAt dc_L_joins 91 rfl rfl
theorem d_L_joins_174 : dn cL_joins 174 (.iload 4) 2 176 := dnAt dc_L_joins 92 rfl rfl
theorem d_L_joins_176 : dn cL_joins 176 (.iconst 1) 1 177 := dnAt dc_L_joins 93 rfl rfl
theorem d_L_joins_177 : dn cL_joins 177 (.if_icmp .ne 20) 3 180 := dnAt dc_L_joins 94 rfl rfl
theorem d_L_joins_180 : dn cL_joins 180 (.iload 7) 2 182 := dnAt dc_L_joins 95 rfl rfl
theorem d_L_joins_182 : dn cL_joins 182 (.iload 5) 2 184 := dnAt dc_L_joins 96 rfl rfl
theorem d_L_joins_184 : dn cL_joins 184 (.if_icmp .gt 56) 3 187 := dnAt dc_L_joins 97 rfl rfl
theorem d_L_joins_187 : dn cL_joins 187 (.iload 7) 2 189 := dnAt dc_L_joins 98 rfl rfl
theorem d_L_joins_189 : dn cL_joins 189 (.iload 6) 2 191 := dnAt dc_L_joins 99 rfl rfl
theorem d_L_joins_191 : dn cL_joins 191 (.if_icmp .gt 49) 3 194 := dnAt dc_L_joins 100 rfl rfl
theorem d_L_joins_194 : dn cL_joins 194 (.goto 20) 3 197 := dnAt dc_L_joins 101 rfl rfl
theorem d_L_joins_197 : dn cL_joins 197 (.iload 7) 2 199 := dnAt dc_L_joins 102 rfl rfl
theorem d_L_joins_199 : dn cL_joins 199 (.iload 5) 2 201 := dnAt dc_L_joins 103 rfl rfl
theorem d_L_joins_201 : dn cL_joins 201 (.if_icmp .gt 39) 3 204 := dnAt dc_L_joins 104 rfl rfl
theorem d_L_joins_204 : dn cL_joins 204 (.iload 7) 2 206 := dnAt dc_L_joins 105 rfl rfl
theorem d_L_joins_206 : dn cL_joins 206 (.iload 5) 2 208 := dnAt dc_L_joins 106 rfl rfl
theorem d_L_joins_208 : dn cL_joins 208 (.iload 6) 2 210 := dnAt dc_L_joins 107 rfl rfl
theorem d_L_joins_210 : dn cL_joins 210 (.isub) 1 211 := dnAt dc_L_joins 108 rfl rfl
theorem d_L_joins_211 : dn cL_joins 211 (.if_icmp .lt 29) 3 214 := dnAt dc_L_joins 109 rfl rfl
theorem d_L_joins_214 : dn cL_joins 214 (.iload_n 2) 1 215 := dnAt dc_L_joins 110 rfl rfl
theorem d_L_joins_215 : dn cL_joins 215 (.iload_n 3) 1 216 := dnAt dc_L_joins 111 rfl rfl
theorem d_L_joins_216 : dn cL_joins 216 (.if_icmp .ne 20) 3 219 := dnAt dc_L_joins 112 rfl rfl
theorem d_L_joins_219 : dn cL_joins 219 (.iload 7) 2 221 := dnAt dc_L_joins 113 rfl rfl
theorem d_L_joins_221 : dn cL_joins 221 (.iload 4) 2 223 := dnAt dc_L_joins 114 rfl rfl
theorem d_L_joins_223 : dn cL_joins 223 (.iconst 2) 1 224 := dnAt dc_L_joins 115 rfl rfl
theorem d_L_joins_224 : dn cL_joins 224 (.if_icmp .ne 7) 3 227 := dnAt dc_L_joins 116 rfl rfl
theorem d_L_joins_227 : dn cL_joins 227 (.iconst 0) 1 228 := dnAt dc_L_joins 117 rfl rfl
theorem d_L_joins_228 : dn cL_joins 228 (.goto 5) 3 231 := dnAt dc_L_joins 118 rfl rfl
theorem d_L_joins_231 : dn cL_joins 231 (.iload 5) 2 233 := dnAt dc_L_joins 119 rfl rfl
theorem d_L_joins_233 : dn cL_joins 233 (.if_icmp .ne 7) 3 236 := dnAt dc_L_joins 120 rfl rfl
theorem d_L_joins_236 : dn cL_joins 236 (.iconst 1) 1 237 := dnAt dc_L_joins 121 rfl rfl
theorem d_L_joins_237 : dn cL_joins 237 (.goto 4) 3 240 := dnAt dc_L_joins 122 rfl rfl
theorem d_L_joins_241 : dn cL_joins 241 (.ireturn) 1 242 := dnAt dc_L_joins 124 rfl rfl
set_option maxHeartbeats 4000000 in
set_option maxRecDepth 100000 in
theorem lawm_joins {l : Launch} {G : eG} {ad : Nat → Nat → Nat} {g : mS} {f : Nat → Nat} {rs ot ww sd se : Nat} (hlf : l.stackTraces = false) (hr : rs < 8) (ho : ot < 8) (hw : ww < 3) (hs : sd < 2) (hs2 : se < 2) (h20 : mI g 20 rs = nI sd) (h21 : mI g 20 ot = nI se) (h12 : f (12 + rs) = sd) (h13 : f (12 + ot) = se) : kW l G ad g f yL_joins cL_joins 11 (Option.some Jvm.ClassFile.FieldType.boolean) { frames := 8, cells := 1285, slots := 10280, locals := 138 } [.ref (ad 0 0), .ref (ad 101 0), .int (nI rs), .int (nI ot), .int (nI ww)] (fun v g' f' => f' = f ∧ v = some (.int (bI true)) ∧ resR g g' ∧ ∀ i, mI g' 20 i = mI g 20 i) := by
  refine kW.of hlf (by decide) (Nat.le_of_ble_eq_true rfl) (Nat.le_of_ble_eq_true rfl) ?_
  intro x LX C A TY
  show VP G x ad g f { frames := 8, cells := 1285, slots := 10280, locals := 138 } 1285 0 [(0, .ref (ad 0 0)), (1, .ref (ad 101 0)), (2, .int (nI rs)), (3, .int (nI ot)), (4, .int (nI ww))] []
  have h0n : mI g 20 rs ≠ -1 := by rw [h20]; exact nI_ne hs
  have h1n : mI g 20 ot ≠ -1 := by rw [h21]; exact nI_ne hs2
  have hsz := mSize_le g rs
  have hsz2 := mSize_le g ot
  refine p_aload_n C d_L_joins_0 1 rfl ?_
  refine p_bipush C d_L_joins_1 (v := (nI 12)) rfl ?_
  refine p_iload_n C d_L_joins_3 2 rfl ?_
  refine pn_iadd C d_L_joins_4 ?_
  refine p_cld C d_L_joins_5 (by omega) ?_
  refine p_st (st' := [.int (nI sd)]) (by rw [h12]) ?_
  refine p_aload_n C d_L_joins_6 1 rfl ?_
  refine p_bipush C d_L_joins_7 (v := (nI 12)) rfl ?_
  refine p_iload_n C d_L_joins_9 3 rfl ?_
  refine pn_iadd C d_L_joins_10 ?_
  refine p_cld C d_L_joins_11 (by omega) ?_
  refine p_st (st' := [.int (nI se), .int (nI sd)]) (by rw [h13]) ?_
  refine pn_icmp_eq C d_L_joins_12 (tgt := 29) rfl (by omega) (by omega) (fun c_12 => ?_) (fun c_12 => ?_)
  · skip
    refine p_aload_n C d_L_joins_29 0 rfl ?_
    refine p_iload_n C d_L_joins_30 2 rfl ?_
    refine p_callC (As := [.int (nI rs)]) (B' := 1285) C d_L_joins_31 ok_RL_82 (fun l h T X Y m A k => q_size m A k ) rfl rfl (rest := []) rfl (Nat.le_of_ble_eq_true rfl) ⟨by decide, Nat.le_of_ble_eq_true rfl⟩ ⟨(show 1285 + 0 ≤ 1285 by omega), Nat.le_of_ble_eq_true rfl⟩ (fun v9 g1 e1 => ?_)
    obtain ⟨rfl, e1⟩ := e1
    show VP G x ad g1 f { frames := 8, cells := 1285, slots := 10280, locals := 138 } 1285 34 [(0, .ref (ad 0 0)), (1, .ref (ad 101 0)), (2, .int (nI rs)), (3, .int (nI ot)), (4, .int (nI ww))] [.int (rSz g ((nI rs)))]
    refine p_st (st' := [.int (nI (mSize g rs))]) (by rw [a_size hr h0n]) ?_
    refine p_istore C d_L_joins_34 (lv' := [(5, .int (nI (mSize g rs))), (0, .ref (ad 0 0)), (1, .ref (ad 101 0)), (2, .int (nI rs)), (3, .int (nI ot)), (4, .int (nI ww))]) (by decide) rfl ?_
    refine p_aload_n C d_L_joins_36 1 rfl ?_
    refine p_iload_n C d_L_joins_37 4 rfl ?_
    refine p_callC (As := [.int (nI ot)]) (B' := 1285) C d_L_joins_38 ok_RL_82 (fun l h T X Y m A k => q_size m A k ) rfl rfl (rest := []) rfl (Nat.le_of_ble_eq_true rfl) ⟨by decide, Nat.le_of_ble_eq_true rfl⟩ ⟨(show 1285 + 0 ≤ 1285 by omega), Nat.le_of_ble_eq_true rfl⟩ (fun v9 g2 e2 => ?_)
    obtain ⟨rfl, e2⟩ := e2
    show VP G x ad g2 f { frames := 8, cells := 1285, slots := 10280, locals := 138 } 1285 41 [(5, .int (nI (mSize g rs))), (0, .ref (ad 0 0)), (1, .ref (ad 101 0)), (2, .int (nI rs)), (3, .int (nI ot)), (4, .int (nI ww))] [.int (rSz g1 ((nI ot)))]
    have hE2 := e1.tr e2
    refine p_st (st' := [.int (nI (mSize g ot))]) (by rw [a_sizeE e1 ho h1n]) ?_
    refine p_istore C d_L_joins_41 (lv' := [(6, .int (nI (mSize g ot))), (5, .int (nI (mSize g rs))), (0, .ref (ad 0 0)), (1, .ref (ad 101 0)), (2, .int (nI rs)), (3, .int (nI ot)), (4, .int (nI ww))]) (by decide) rfl ?_
    refine p_aload_n C d_L_joins_43 2 rfl ?_
    refine p_iload_n C d_L_joins_44 4 rfl ?_
    refine p_iload_n C d_L_joins_45 5 rfl ?_
    refine p_iload C d_L_joins_46 6 rfl ?_
    refine p_callX (As := [.int (nI rs), .int (nI ot), .int (nI ww)]) (B' := 1281) C LX d_L_joins_48 ok_RL_128 (fun l h T X Y hl m A k => q_join hl m A k (a_cJoin hr ho hw (by rw [hE2.I20]; exact h0n) (by rw [hE2.I20, hE2.I20, h21, h20]; congr 1; omega))) (fun _ x => x) rfl rfl (rest := []) rfl (Nat.le_of_ble_eq_true rfl) ⟨by decide, Nat.le_of_ble_eq_true rfl⟩ ⟨(show 1281 + 4 ≤ 1285 by omega), Nat.le_of_ble_eq_true rfl⟩ (fun v9 g3 e3 => ?_)
    obtain ⟨rfl, e3⟩ := e3
    show VP G x ad g3 f { frames := 8, cells := 1285, slots := 10280, locals := 138 } 1281 51 [(6, .int (nI (mSize g ot))), (5, .int (nI (mSize g rs))), (0, .ref (ad 0 0)), (1, .ref (ad 101 0)), (2, .int (nI rs)), (3, .int (nI ot)), (4, .int (nI ww))] [.int (nI (mSize g3 (tn (nI rs))))]
    obtain ⟨R4, I4, t4⟩ := e3
    rw [tn_n (by omega), tn_n (by omega), tn_n (by omega)] at t4
    have h3n : mI g3 20 rs ≠ -1 := by rw [I4, hE2.I20]; exact h0n
    have h3o : mI g3 20 ot ≠ -1 := by rw [I4, hE2.I20]; exact h1n
    have hs4 := mSize_le g3 rs
    have z1 : mSize g2 rs = mSize g rs := x_mSize (fun k _ => hE2.N21 _)
    have z2 : mSize g2 ot = mSize g ot := x_mSize (fun k _ => hE2.N21 _)
    have hot : ot ≠ rs → mSize g3 ot = mSize g ot := fun y => (jo_other t4 y).trans z2
    have hself : rs = ot → mSize g3 rs = if ww = 2 then 0 else mSize g rs := fun y => by subst y; rw [← z1]; exact jo_s hw t4
    refine p_AI (fun A3 => ?_)
    refine p_st (st' := [.int (nI (mSize g3 rs))]) (by rw [tn_n (by omega)]) ?_
    refine p_istore C d_L_joins_51 (lv' := [(7, .int (nI (mSize g3 rs))), (6, .int (nI (mSize g ot))), (5, .int (nI (mSize g rs))), (0, .ref (ad 0 0)), (1, .ref (ad 101 0)), (2, .int (nI rs)), (3, .int (nI ot)), (4, .int (nI ww))]) (by decide) rfl ?_
    refine p_iload C d_L_joins_53 0 rfl ?_
    refine p_aload_n C d_L_joins_55 3 rfl ?_
    refine p_iload_n C d_L_joins_56 5 rfl ?_
    refine p_callC (As := [.int (nI rs)]) (B' := 1281) C d_L_joins_57 ok_RL_82 (fun l h T X Y m A k => q_size m A k ) rfl rfl (rest := [.int (nI (mSize g3 rs))]) rfl (Nat.le_of_ble_eq_true rfl) ⟨by decide, Nat.le_of_ble_eq_true rfl⟩ ⟨(show 1281 + 0 ≤ 1281 by omega), Nat.le_of_ble_eq_true rfl⟩ (fun v9 g4 e4 => ?_)
    obtain ⟨rfl, e4⟩ := e4
    show VP G x ad g4 f { frames := 8, cells := 1285, slots := 10280, locals := 138 } 1281 60 [(7, .int (nI (mSize g3 rs))), (6, .int (nI (mSize g ot))), (5, .int (nI (mSize g rs))), (0, .ref (ad 0 0)), (1, .ref (ad 101 0)), (2, .int (nI rs)), (3, .int (nI ot)), (4, .int (nI ww))] [.int (rSz g3 ((nI rs))), .int (nI (mSize g3 rs))]
    refine p_st (st' := [.int (nI (mSize g3 rs)), .int (nI (mSize g3 rs))]) (by rw [a_size hr h3n]) ?_
    refine pn_icmp_ne C d_L_joins_60 (tgt := 82) rfl (by omega) (by omega) (fun c_60 => ?_) (fun c_60 => ?_)
    · skip
      exfalso; omega
    · skip
      have join_78 : ∀ (gz : mS), (eqv g3 gz) → VP G x ad gz f { frames := 8, cells := 1285, slots := 10280, locals := 138 } 1280 78 [(7, .int (nI (mSize g3 rs))), (6, .int (nI (mSize g ot))), (5, .int (nI (mSize g rs))), (0, .ref (ad 0 0)), (1, .ref (ad 101 0)), (2, .int (nI rs)), (3, .int (nI ot)), (4, .int (nI ww))] [] := by
        intro gz hE3
        refine p_iconst C d_L_joins_78 (v := (bI true)) rfl ?_
        refine p_goto C d_L_joins_79 (tgt := 83) rfl ?_
        refine p_istore C d_L_joins_83 (lv' := [(8, .int (bI true)), (7, .int (nI (mSize g3 rs))), (6, .int (nI (mSize g ot))), (5, .int (nI (mSize g rs))), (0, .ref (ad 0 0)), (1, .ref (ad 101 0)), (2, .int (nI rs)), (3, .int (nI ot)), (4, .int (nI ww))]) (by decide) rfl ?_
        refine p_iconst C d_L_joins_85 (v := ((-1))) rfl ?_
        refine p_istore C d_L_joins_86 (lv' := [(9, .int ((-1))), (8, .int (bI true)), (7, .int (nI (mSize g3 rs))), (6, .int (nI (mSize g ot))), (5, .int (nI (mSize g rs))), (0, .ref (ad 0 0)), (1, .ref (ad 101 0)), (2, .int (nI rs)), (3, .int (nI ot)), (4, .int (nI ww))]) (by decide) rfl ?_
        refine p_iconst C d_L_joins_88 (v := (nI 0)) rfl ?_
        refine p_istore C d_L_joins_89 (lv' := [(10, .int (nI 0)), (9, .int ((-1))), (8, .int (bI true)), (7, .int (nI (mSize g3 rs))), (6, .int (nI (mSize g ot))), (5, .int (nI (mSize g rs))), (0, .ref (ad 0 0)), (1, .ref (ad 101 0)), (2, .int (nI rs)), (3, .int (nI ot)), (4, .int (nI ww))]) (by decide) rfl ?_
        have loop_91 : ∀ (fuel : Nat) (la : Int32) (k : Nat) (gq : mS), (k ≤ mSize g3 rs) → (eqv g3 gq) → (k < mSize g3 rs → la < nI (fdM g3 rs k 360)) → (mSize g3 rs + 1 - k) < fuel → VP G x ad gq f { frames := 8, cells := 1285, slots := 10280, locals := 138 } (4 * (320 - k)) 91 [(10, .int (nI k)), (9, .int la), (8, .int (bI true)), (7, .int (nI (mSize g3 rs))), (6, .int (nI (mSize g ot))), (5, .int (nI (mSize g rs))), (0, .ref (ad 0 0)), (1, .ref (ad 101 0)), (2, .int (nI rs)), (3, .int (nI ot)), (4, .int (nI ww))] [] := by
          intro fuel
          induction fuel with
          | zero => intro la k gq hk hE ho9 hf9; exact absurd hf9 (Nat.not_lt_zero _)
          | succ fuel ih_91 =>
            intro la k gq hk hE ho9 hf9
            refine p_iload C d_L_joins_91 0 rfl ?_
            refine p_iload C d_L_joins_93 3 rfl ?_
            refine pn_icmp_ge C d_L_joins_95 (tgt := 137) rfl (by omega) (by omega) (fun c_95 => ?_) (fun c_95 => ?_)
            · skip
              refine p_iload C d_L_joins_137 2 rfl ?_
              refine pb_if_eq C d_L_joins_139 (tgt := 240) rfl (fun c_139 => ?_) (fun c_139 => ?_)
              · skip
                cases c_139
              · skip
                have join_214 : VP G x ad gq f { frames := 8, cells := 1285, slots := 10280, locals := 138 } 0 214 [(8, .int (bI true)), (7, .int (nI (mSize g3 rs))), (6, .int (nI (mSize g ot))), (5, .int (nI (mSize g rs))), (0, .ref (ad 0 0)), (1, .ref (ad 101 0)), (2, .int (nI rs)), (3, .int (nI ot)), (4, .int (nI ww))] [] := by
                  have join_236 : VP G x ad gq f { frames := 8, cells := 1285, slots := 10280, locals := 138 } 0 236 [(8, .int (bI true)), (7, .int (nI (mSize g3 rs))), (6, .int (nI (mSize g ot))), (5, .int (nI (mSize g rs))), (0, .ref (ad 0 0)), (1, .ref (ad 101 0)), (2, .int (nI rs)), (3, .int (nI ot)), (4, .int (nI ww))] [] := by
                    refine p_iconst C d_L_joins_236 (v := (bI true)) rfl ?_
                    refine p_goto C d_L_joins_237 (tgt := 241) rfl ?_
                    exact p_iret C A TY d_L_joins_241 rfl (⟨rfl, rfl, ((hE2.res.tr R4).tr hE.res), fun i => by rw [hE.I20, I4, hE2.I20]⟩)
                  refine p_iload_n C d_L_joins_214 6 rfl ?_
                  refine p_iload_n C d_L_joins_215 7 rfl ?_
                  refine pn_icmp_ne C d_L_joins_216 (tgt := 236) rfl (by omega) (by omega) (fun c_216 => ?_) (fun c_216 => ?_)
                  · skip
                    exact join_236  
                  · skip
                    refine p_iload C d_L_joins_219 1 rfl ?_
                    refine p_iload C d_L_joins_221 8 rfl ?_
                    refine p_iconst C d_L_joins_223 (v := (nI 2)) rfl ?_
                    refine pn_icmp_ne C d_L_joins_224 (tgt := 231) rfl (by omega) (by omega) (fun c_224 => ?_) (fun c_224 => ?_)
                    · skip
                      refine p_iload C d_L_joins_231 3 rfl ?_
                      refine pn_icmp_ne C d_L_joins_233 (tgt := 240) rfl (by omega) (by omega) (fun c_233 => ?_) (fun c_233 => ?_)
                      · skip
                        exfalso; have y := hself c_216; split at y <;> omega
                      · skip
                        exact join_236  
                    · skip
                      refine p_iconst C d_L_joins_227 (v := (nI 0)) rfl ?_
                      refine p_goto C d_L_joins_228 (tgt := 233) rfl ?_
                      refine pn_icmp_ne C d_L_joins_233 (tgt := 240) rfl (by omega) (by omega) (fun c_233 => ?_) (fun c_233 => ?_)
                      · skip
                        exfalso; have y := hself c_216; split at y <;> omega
                      · skip
                        exact join_236  
                refine p_iload C d_L_joins_142 10 rfl ?_
                refine pn_if_ne C d_L_joins_144 (tgt := 174) rfl (by omega) (fun c_144 => ?_) (fun c_144 => ?_)
                · skip
                  refine p_iload C d_L_joins_174 10 rfl ?_
                  refine p_iconst C d_L_joins_176 (v := (nI 1)) rfl ?_
                  refine pn_icmp_ne C d_L_joins_177 (tgt := 197) rfl (by omega) (by omega) (fun c_177 => ?_) (fun c_177 => ?_)
                  · skip
                    refine p_iload C d_L_joins_197 3 rfl ?_
                    refine p_iload C d_L_joins_199 5 rfl ?_
                    refine pn_icmp_gt C d_L_joins_201 (tgt := 240) rfl (by omega) (by omega) (fun c_201 => ?_) (fun c_201 => ?_)
                    · skip
                      exfalso; obtain rfl : ww = 2 := (by omega); have y := jo_2 t4; omega
                    · skip
                      refine p_iload C d_L_joins_204 3 rfl ?_
                      refine p_iload C d_L_joins_206 5 rfl ?_
                      refine p_iload C d_L_joins_208 4 rfl ?_
                      refine p_isub C d_L_joins_210 ?_
                      refine p_icmp_lt C d_L_joins_211 (tgt := 240) rfl (fun c_211 => ?_) (fun c_211 => ?_)
                      · skip
                        exfalso; obtain rfl : ww = 2 := (by omega); have y := jo_2 t4; exact absurd c_211 (sub_no (by omega) (by omega) (by omega) (by omega))
                      · skip
                        refine p_B (B' := 0) (by omega) ?_
                        refine p_lv (lv' := [(8, .int (bI true)), (7, .int (nI (mSize g3 rs))), (6, .int (nI (mSize g ot))), (5, .int (nI (mSize g rs))), (0, .ref (ad 0 0)), (1, .ref (ad 101 0)), (2, .int (nI rs)), (3, .int (nI ot)), (4, .int (nI ww))]) [2, 3, 4, 5, 6, 7, 8, 9, 10] rfl ?_
                        exact join_214  
                  · skip
                    refine p_iload C d_L_joins_180 3 rfl ?_
                    refine p_iload C d_L_joins_182 5 rfl ?_
                    refine pn_icmp_gt C d_L_joins_184 (tgt := 240) rfl (by omega) (by omega) (fun c_184 => ?_) (fun c_184 => ?_)
                    · skip
                      exfalso; subst c_177; have y := jo_1 t4; omega
                    · skip
                      refine p_iload C d_L_joins_187 3 rfl ?_
                      refine p_iload C d_L_joins_189 4 rfl ?_
                      refine pn_icmp_gt C d_L_joins_191 (tgt := 240) rfl (by omega) (by omega) (fun c_191 => ?_) (fun c_191 => ?_)
                      · skip
                        exfalso; subst c_177; have y := jo_1 t4; omega
                      · skip
                        refine p_goto C d_L_joins_194 (tgt := 214) rfl ?_
                        refine p_B (B' := 0) (by omega) ?_
                        refine p_lv (lv' := [(8, .int (bI true)), (7, .int (nI (mSize g3 rs))), (6, .int (nI (mSize g ot))), (5, .int (nI (mSize g rs))), (0, .ref (ad 0 0)), (1, .ref (ad 101 0)), (2, .int (nI rs)), (3, .int (nI ot)), (4, .int (nI ww))]) [2, 3, 4, 5, 6, 7, 8, 9, 10] rfl ?_
                        exact join_214  
                · skip
                  refine p_iload C d_L_joins_147 3 rfl ?_
                  refine p_iload C d_L_joins_149 5 rfl ?_
                  refine pn_icmp_lt C d_L_joins_151 (tgt := 240) rfl (by omega) (by omega) (fun c_151 => ?_) (fun c_151 => ?_)
                  · skip
                    exfalso; subst c_144; have y := jo_0 t4; omega
                  · skip
                    refine p_iload C d_L_joins_154 3 rfl ?_
                    refine p_iload C d_L_joins_156 4 rfl ?_
                    refine pn_icmp_lt C d_L_joins_158 (tgt := 240) rfl (by omega) (by omega) (fun c_158 => ?_) (fun c_158 => ?_)
                    · skip
                      exfalso; subst c_144; have y := jo_0 t4; omega
                    · skip
                      refine p_iload C d_L_joins_161 3 rfl ?_
                      refine p_iload C d_L_joins_163 5 rfl ?_
                      refine p_iload C d_L_joins_165 4 rfl ?_
                      refine pn_iadd C d_L_joins_167 ?_
                      refine pn_icmp_gt C d_L_joins_168 (tgt := 240) rfl (by omega) (by omega) (fun c_168 => ?_) (fun c_168 => ?_)
                      · skip
                        exfalso; subst c_144; have y := jo_0 t4; omega
                      · skip
                        refine p_goto C d_L_joins_171 (tgt := 214) rfl ?_
                        refine p_B (B' := 0) (by omega) ?_
                        refine p_lv (lv' := [(8, .int (bI true)), (7, .int (nI (mSize g3 rs))), (6, .int (nI (mSize g ot))), (5, .int (nI (mSize g rs))), (0, .ref (ad 0 0)), (1, .ref (ad 101 0)), (2, .int (nI rs)), (3, .int (nI ot)), (4, .int (nI ww))]) [2, 3, 4, 5, 6, 7, 8, 9, 10] rfl ?_
                        exact join_214  
            · skip
              refine p_iload C d_L_joins_98 2 rfl ?_
              refine pb_if_eq C d_L_joins_100 (tgt := 137) rfl (fun c_100 => ?_) (fun c_100 => ?_)
              · skip
                cases c_100
              · skip
                refine p_B (B' := 4 * (320 - (k + 1)) + 4) (by omega) ?_
                have ho9 := ho9 (by omega)
                refine p_aload_n C d_L_joins_103 6 rfl ?_
                refine p_iload_n C d_L_joins_104 8 rfl ?_
                refine p_iload C d_L_joins_105 0 rfl ?_
                refine p_callX (As := [.int (nI rs), .int (nI k)]) (B' := 4 * (320 - (k + 1)) + 2) C LX d_L_joins_107 ok_RL_121 (fun l h T X Y hl m A k => q_match hl m A k (a_matE hE hr h3n (by omega)).1) (fun _ x => x) rfl rfl (rest := []) rfl (Nat.le_of_ble_eq_true rfl) ⟨by decide, Nat.le_of_ble_eq_true rfl⟩ ⟨(show 4 * (320 - (k + 1)) + 2 + 2 ≤ 4 * (320 - (k + 1)) + 4 by omega), Nat.le_of_ble_eq_true rfl⟩ (fun v9 g5 e5 => ?_)
                obtain ⟨rfl, eM8⟩ := e5
                show VP G x ad g5 f { frames := 8, cells := 1285, slots := 10280, locals := 138 } (4 * (320 - (k + 1)) + 2) 110 [(10, .int (nI k)), (9, .int la), (8, .int (bI true)), (7, .int (nI (mSize g3 rs))), (6, .int (nI (mSize g ot))), (5, .int (nI (mSize g rs))), (0, .ref (ad 0 0)), (1, .ref (ad 101 0)), (2, .int (nI rs)), (3, .int (nI ot)), (4, .int (nI ww))] [.int (nI (rMatch gq (nI rs) (nI k)))]
                refine p_st (st' := [.int (nI (fdM g3 rs k 360))]) (by rw [(a_matE hE hr h3n (by omega)).2]) ?_
                refine p_iload C d_L_joins_110 1 rfl ?_
                refine p_icmp_le C d_L_joins_112 (tgt := 119) rfl (fun c_112 => ?_) (fun c_112 => ?_)
                · skip
                  exact absurd ho9 (Int32.not_lt.mpr c_112)
                · skip
                  refine p_iconst C d_L_joins_115 (v := (bI true)) rfl ?_
                  refine p_goto C d_L_joins_116 (tgt := 120) rfl ?_
                  refine p_istore C d_L_joins_120 (lv' := [(8, .int (bI true)), (10, .int (nI k)), (9, .int la), (7, .int (nI (mSize g3 rs))), (6, .int (nI (mSize g ot))), (5, .int (nI (mSize g rs))), (0, .ref (ad 0 0)), (1, .ref (ad 101 0)), (2, .int (nI rs)), (3, .int (nI ot)), (4, .int (nI ww))]) (by decide) rfl ?_
                  refine p_aload_n C d_L_joins_122 6 rfl ?_
                  refine p_iload_n C d_L_joins_123 8 rfl ?_
                  refine p_iload C d_L_joins_124 1 rfl ?_
                  refine p_callX (As := [.int (nI rs), .int (nI k)]) (B' := 4 * (320 - (k + 1))) C LX d_L_joins_126 ok_RL_121 (fun l h T X Y hl m A k => q_match hl m A k (a_matE (hE.tr eM8) hr h3n (by omega)).1) (fun _ x => x) rfl rfl (rest := []) rfl (Nat.le_of_ble_eq_true rfl) ⟨by decide, Nat.le_of_ble_eq_true rfl⟩ ⟨(show 4 * (320 - (k + 1)) + 2 ≤ 4 * (320 - (k + 1)) + 2 by omega), Nat.le_of_ble_eq_true rfl⟩ (fun v9 g6 e6 => ?_)
                  obtain ⟨rfl, eM9⟩ := e6
                  show VP G x ad g6 f { frames := 8, cells := 1285, slots := 10280, locals := 138 } (4 * (320 - (k + 1))) 129 [(8, .int (bI true)), (10, .int (nI k)), (9, .int la), (7, .int (nI (mSize g3 rs))), (6, .int (nI (mSize g ot))), (5, .int (nI (mSize g rs))), (0, .ref (ad 0 0)), (1, .ref (ad 101 0)), (2, .int (nI rs)), (3, .int (nI ot)), (4, .int (nI ww))] [.int (nI (rMatch g5 (nI rs) (nI k)))]
                  refine p_st (st' := [.int (nI (fdM g3 rs k 360))]) (by rw [(a_matE (hE.tr eM8) hr h3n (by omega)).2]) ?_
                  refine p_istore C d_L_joins_129 (lv' := [(9, .int (nI (fdM g3 rs k 360))), (8, .int (bI true)), (10, .int (nI k)), (7, .int (nI (mSize g3 rs))), (6, .int (nI (mSize g ot))), (5, .int (nI (mSize g rs))), (0, .ref (ad 0 0)), (1, .ref (ad 101 0)), (2, .int (nI rs)), (3, .int (nI ot)), (4, .int (nI ww))]) (by decide) rfl ?_
                  refine pn_iinc C d_L_joins_131 (lv' := [(10, .int (nI (k + 1))), (9, .int (nI (fdM g3 rs k 360))), (8, .int (bI true)), (7, .int (nI (mSize g3 rs))), (6, .int (nI (mSize g ot))), (5, .int (nI (mSize g rs))), (0, .ref (ad 0 0)), (1, .ref (ad 101 0)), (2, .int (nI rs)), (3, .int (nI ot)), (4, .int (nI ww))]) 2 rfl (nI_inc _ rfl) (by decide) rfl ?_
                  refine p_goto C d_L_joins_134 (tgt := 91) rfl ?_
                  refine p_lve (lv' := [(10, .int (nI (k + 1))), (9, .int ((nI (fdM g3 rs k 360)))), (8, .int (bI true)), (7, .int (nI (mSize g3 rs))), (6, .int (nI (mSize g ot))), (5, .int (nI (mSize g rs))), (0, .ref (ad 0 0)), (1, .ref (ad 101 0)), (2, .int (nI rs)), (3, .int (nI ot)), (4, .int (nI ww))]) (rfl) ?_
                  exact ih_91 ((nI (fdM g3 rs k 360))) (k + 1) g6 (by omega) ((hE.tr eM8).tr eM9) (fun z => (nI_ltI (fd_b (by rw [← mSize_cnt A3.1 hr]; omega)) (fd_b (by rw [← mSize_cnt A3.1 hr]; exact z))).mpr (fd_lt (by rw [← mSize_cnt A3.1 hr]; exact z))) (by omega)
        refine p_B (B' := 4 * (320 - 0)) (by omega) ?_
        exact loop_91 _ ((-1)) 0 gz (by omega) (hE3) (fun z => lt_neg (by decide) (fd_b (by rw [← mSize_cnt A3.1 hr]; exact z))) (Nat.lt_succ_self _)
      refine p_iload_n C d_L_joins_63 5 rfl ?_
      refine p_iload_n C d_L_joins_64 6 rfl ?_
      refine pn_icmp_eq C d_L_joins_65 (tgt := 78) rfl (by omega) (by omega) (fun c_65 => ?_) (fun c_65 => ?_)
      · skip
        refine p_B (B' := 1280) (by omega) ?_
        exact join_78 g4 (e4)
      · skip
        refine p_aload_n C d_L_joins_68 3 rfl ?_
        refine p_iload_n C d_L_joins_69 6 rfl ?_
        refine p_callC (As := [.int (nI ot)]) (B' := 1281) C d_L_joins_70 ok_RL_82 (fun l h T X Y m A k => q_size m A k ) rfl rfl (rest := []) rfl (Nat.le_of_ble_eq_true rfl) ⟨by decide, Nat.le_of_ble_eq_true rfl⟩ ⟨(show 1281 + 0 ≤ 1281 by omega), Nat.le_of_ble_eq_true rfl⟩ (fun v9 g7 e7 => ?_)
        obtain ⟨rfl, e7⟩ := e7
        show VP G x ad g7 f { frames := 8, cells := 1285, slots := 10280, locals := 138 } 1281 73 [(7, .int (nI (mSize g3 rs))), (6, .int (nI (mSize g ot))), (5, .int (nI (mSize g rs))), (0, .ref (ad 0 0)), (1, .ref (ad 101 0)), (2, .int (nI rs)), (3, .int (nI ot)), (4, .int (nI ww))] [.int (rSz g4 ((nI ot)))]
        refine p_st (st' := [.int (nI (mSize g ot))]) (by rw [a_sizeE e4 ho h3o, hot (fun y => c_65 y.symm)]) ?_
        refine p_iload C d_L_joins_73 1 rfl ?_
        refine pn_icmp_ne C d_L_joins_75 (tgt := 82) rfl (by omega) (by omega) (fun c_75 => ?_) (fun c_75 => ?_)
        · skip
          exfalso; omega
        · skip
          refine p_B (B' := 1280) (by omega) ?_
          exact join_78 g7 (e4.tr e7)
  · skip
    refine p_aload_n C d_L_joins_15 0 rfl ?_
    refine p_iload_n C d_L_joins_16 2 rfl ?_
    refine p_callC (As := [.int (nI rs)]) (B' := 1285) C d_L_joins_17 ok_RL_82 (fun l h T X Y m A k => q_size m A k ) rfl rfl (rest := []) rfl (Nat.le_of_ble_eq_true rfl) ⟨by decide, Nat.le_of_ble_eq_true rfl⟩ ⟨(show 1285 + 0 ≤ 1285 by omega), Nat.le_of_ble_eq_true rfl⟩ (fun v9 g8 e8 => ?_)
    obtain ⟨rfl, e8⟩ := e8
    show VP G x ad g8 f { frames := 8, cells := 1285, slots := 10280, locals := 138 } 1285 20 [(0, .ref (ad 0 0)), (1, .ref (ad 101 0)), (2, .int (nI rs)), (3, .int (nI ot)), (4, .int (nI ww))] [.int (rSz g ((nI rs)))]
    refine p_st (st' := [.int (nI (mSize g rs))]) (by rw [a_size hr h0n]) ?_
    refine pn_if_lt C d_L_joins_20 (tgt := 27) rfl (by omega) (fun c_20 => ?_) (fun c_20 => ?_)
    · skip
      exact c_20.elim
    · skip
      refine p_iconst C d_L_joins_23 (v := (bI true)) rfl ?_
      refine p_goto C d_L_joins_24 (tgt := 28) rfl ?_
      exact p_iret C A TY d_L_joins_28 rfl (⟨rfl, rfl, e8.res, e8.I20⟩)
