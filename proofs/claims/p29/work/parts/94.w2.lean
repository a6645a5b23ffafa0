theorem tw_0 : (Jvm.Cond.initialized "CorpuslineLaw") ∈ TB := tb_of 0 (by decide +kernel) rfl
theorem tw_301 : (Jvm.Cond.methodLink "CorpuslineLaw" (36 : Nat) ({ cls := "Corpusline", name := "wipe", desc := "()I" } : Jvm.MethodName)) ∈ TB := tb_of 301 (by decide +kernel) rfl
theorem tw_302 : (Jvm.Cond.instanceMethod ({ cls := "Corpusline", name := "wipe", desc := "()I" } : Jvm.MethodName)) ∈ TB := tb_of 302 (by decide +kernel) rfl
theorem tw_303 : (Jvm.Cond.selects "Corpusline" ({ cls := "Corpusline", name := "wipe", desc := "()I" } : Jvm.MethodName) ({ cls := "Corpusline", name := "wipe", desc := "()I" } : Jvm.MethodName)) ∈ TB := tb_of 303 (by decide +kernel) rfl
theorem tw_304 : (Jvm.Cond.code ({ cls := "Corpusline", name := "wipe", desc := "()I" } : Jvm.MethodName) prog_1_method_17_code (2 : Nat) (Option.some Jvm.ClassFile.FieldType.int)) ∈ TB := tb_of 304 (by decide +kernel) rfl
theorem tw_309 : (Jvm.Cond.methodLink "CorpuslineLaw" (39 : Nat) ({ cls := "CorpuslineLaw", name := "ofTest", desc := "(LCorpusline;III)I" } : Jvm.MethodName)) ∈ TB := tb_of 309 (by decide +kernel) rfl
theorem tw_310 : (Jvm.Cond.static ({ cls := "CorpuslineLaw", name := "ofTest", desc := "(LCorpusline;III)I" } : Jvm.MethodName)) ∈ TB := tb_of 310 (by decide +kernel) rfl
theorem tw_311 : (Jvm.Cond.codeWith ({ cls := "CorpuslineLaw", name := "ofTest", desc := "(LCorpusline;III)I" } : Jvm.MethodName) method_3_code (5 : Nat) (Option.some Jvm.ClassFile.FieldType.int) [((0 : Nat), (49 : Nat), (50 : Nat), (24 : Nat))]) ∈ TB := tb_of 311 (by decide +kernel) rfl
theorem tw_409 : (Jvm.Cond.methodLink "CorpuslineLaw" (45 : Nat) ({ cls := "CorpuslineLaw", name := "isLabelled", desc := "(LCorpusline;I)Z" } : Jvm.MethodName)) ∈ TB := tb_of 409 (by decide +kernel) rfl
theorem tw_410 : (Jvm.Cond.static ({ cls := "CorpuslineLaw", name := "isLabelled", desc := "(LCorpusline;I)Z" } : Jvm.MethodName)) ∈ TB := tb_of 410 (by decide +kernel) rfl
theorem tw_411 : (Jvm.Cond.codeWith ({ cls := "CorpuslineLaw", name := "isLabelled", desc := "(LCorpusline;I)Z" } : Jvm.MethodName) method_6_code (3 : Nat) (Option.some Jvm.ClassFile.FieldType.boolean) [((0 : Nat), (6 : Nat), (7 : Nat), (24 : Nat))]) ∈ TB := tb_of 411 (by decide +kernel) rfl
theorem tw_433 : (Jvm.Cond.methodLink "CorpuslineLaw" (49 : Nat) ({ cls := "CorpuslineLaw", name := "ofBoth", desc := "(LCorpusline;)I" } : Jvm.MethodName)) ∈ TB := tb_of 433 (by decide +kernel) rfl
theorem tw_434 : (Jvm.Cond.static ({ cls := "CorpuslineLaw", name := "ofBoth", desc := "(LCorpusline;)I" } : Jvm.MethodName)) ∈ TB := tb_of 434 (by decide +kernel) rfl
theorem tw_435 : (Jvm.Cond.codeWith ({ cls := "CorpuslineLaw", name := "ofBoth", desc := "(LCorpusline;)I" } : Jvm.MethodName) method_5_code (2 : Nat) (Option.some Jvm.ClassFile.FieldType.int) [((0 : Nat), (4 : Nat), (5 : Nat), (24 : Nat))]) ∈ TB := tb_of 435 (by decide +kernel) rfl
theorem tw_441 : (Jvm.Cond.methodLink "CorpuslineLaw" (53 : Nat) ({ cls := "CorpuslineLaw", name := "ofRepeat", desc := "(LCorpusline;II)I" } : Jvm.MethodName)) ∈ TB := tb_of 441 (by decide +kernel) rfl
theorem tw_442 : (Jvm.Cond.static ({ cls := "CorpuslineLaw", name := "ofRepeat", desc := "(LCorpusline;II)I" } : Jvm.MethodName)) ∈ TB := tb_of 442 (by decide +kernel) rfl
theorem tw_443 : (Jvm.Cond.codeWith ({ cls := "CorpuslineLaw", name := "ofRepeat", desc := "(LCorpusline;II)I" } : Jvm.MethodName) method_4_code (4 : Nat) (Option.some Jvm.ClassFile.FieldType.int) [((0 : Nat), (6 : Nat), (7 : Nat), (24 : Nat))]) ∈ TB := tb_of 443 (by decide +kernel) rfl
theorem tw_465 : (Jvm.Cond.methodLink "CorpuslineLaw" (57 : Nat) ({ cls := "Corpusline", name := "either", desc := "()I" } : Jvm.MethodName)) ∈ TB := tb_of 465 (by decide +kernel) rfl
theorem tw_466 : (Jvm.Cond.instanceMethod ({ cls := "Corpusline", name := "either", desc := "()I" } : Jvm.MethodName)) ∈ TB := tb_of 466 (by decide +kernel) rfl
theorem tw_467 : (Jvm.Cond.selects "Corpusline" ({ cls := "Corpusline", name := "either", desc := "()I" } : Jvm.MethodName) ({ cls := "Corpusline", name := "either", desc := "()I" } : Jvm.MethodName)) ∈ TB := tb_of 467 (by decide +kernel) rfl
theorem tw_468 : (Jvm.Cond.code ({ cls := "Corpusline", name := "either", desc := "()I" } : Jvm.MethodName) prog_1_method_14_code (3 : Nat) (Option.some Jvm.ClassFile.FieldType.int)) ∈ TB := tb_of 468 (by decide +kernel) rfl
theorem tw_472 : (Jvm.Cond.methodLink "CorpuslineLaw" (60 : Nat) ({ cls := "Corpusline", name := "chain", desc := "()I" } : Jvm.MethodName)) ∈ TB := tb_of 472 (by decide +kernel) rfl
theorem tw_473 : (Jvm.Cond.instanceMethod ({ cls := "Corpusline", name := "chain", desc := "()I" } : Jvm.MethodName)) ∈ TB := tb_of 473 (by decide +kernel) rfl
theorem tw_474 : (Jvm.Cond.selects "Corpusline" ({ cls := "Corpusline", name := "chain", desc := "()I" } : Jvm.MethodName) ({ cls := "Corpusline", name := "chain", desc := "()I" } : Jvm.MethodName)) ∈ TB := tb_of 474 (by decide +kernel) rfl
theorem tw_475 : (Jvm.Cond.code ({ cls := "Corpusline", name := "chain", desc := "()I" } : Jvm.MethodName) prog_1_method_13_code (3 : Nat) (Option.some Jvm.ClassFile.FieldType.int)) ∈ TB := tb_of 475 (by decide +kernel) rfl
theorem tw_477 : (Jvm.Cond.methodLink "CorpuslineLaw" (63 : Nat) ({ cls := "Corpusline", name := "keep", desc := "()I" } : Jvm.MethodName)) ∈ TB := tb_of 477 (by decide +kernel) rfl
theorem tw_478 : (Jvm.Cond.instanceMethod ({ cls := "Corpusline", name := "keep", desc := "()I" } : Jvm.MethodName)) ∈ TB := tb_of 478 (by decide +kernel) rfl
theorem tw_479 : (Jvm.Cond.selects "Corpusline" ({ cls := "Corpusline", name := "keep", desc := "()I" } : Jvm.MethodName) ({ cls := "Corpusline", name := "keep", desc := "()I" } : Jvm.MethodName)) ∈ TB := tb_of 479 (by decide +kernel) rfl
theorem tw_480 : (Jvm.Cond.code ({ cls := "Corpusline", name := "keep", desc := "()I" } : Jvm.MethodName) prog_1_method_16_code (2 : Nat) (Option.some Jvm.ClassFile.FieldType.int)) ∈ TB := tb_of 480 (by decide +kernel) rfl
theorem ok_RL_39 : okSH RL 39 yL_ofTest cL_ofTest 5 (Option.some Jvm.ClassFile.FieldType.int) [((0 : Nat), (49 : Nat), (50 : Nat), (24 : Nat))] 4 := ⟨tw_309, tw_310, tw_0, tw_311, ⟨by decide, by decide, by decide +kernel⟩⟩
theorem ok_RL_45 : okSH RL 45 yL_isLabelled cL_isLabelled 3 (Option.some Jvm.ClassFile.FieldType.boolean) [((0 : Nat), (6 : Nat), (7 : Nat), (24 : Nat))] 2 := ⟨tw_409, tw_410, tw_0, tw_411, ⟨by decide, by decide, by decide +kernel⟩⟩
theorem ok_RL_49 : okSH RL 49 yL_ofBoth cL_ofBoth 2 (Option.some Jvm.ClassFile.FieldType.int) [((0 : Nat), (4 : Nat), (5 : Nat), (24 : Nat))] 1 := ⟨tw_433, tw_434, tw_0, tw_435, ⟨by decide, by decide, by decide +kernel⟩⟩
theorem ok_RL_53 : okSH RL 53 yL_ofRepeat cL_ofRepeat 4 (Option.some Jvm.ClassFile.FieldType.int) [((0 : Nat), (6 : Nat), (7 : Nat), (24 : Nat))] 3 := ⟨tw_441, tw_442, tw_0, tw_443, ⟨by decide, by decide, by decide +kernel⟩⟩
theorem ok_RL_36 : okV RL 36 yX6_wipe cX6_wipe 2 (Option.some Jvm.ClassFile.FieldType.int) 0 := ⟨tw_301, tw_302, tw_303, tw_1, tw_304, ⟨by decide, by decide, by decide +kernel⟩⟩
theorem ok_RL_57 : okV RL 57 yX6_either cX6_either 3 (Option.some Jvm.ClassFile.FieldType.int) 0 := ⟨tw_465, tw_466, tw_467, tw_1, tw_468, ⟨by decide, by decide, by decide +kernel⟩⟩
theorem ok_RL_60 : okV RL 60 yX6_chain cX6_chain 3 (Option.some Jvm.ClassFile.FieldType.int) 0 := ⟨tw_472, tw_473, tw_474, tw_1, tw_475, ⟨by decide, by decide, by decide +kernel⟩⟩
theorem ok_RL_63 : okV RL 63 yX6_keep cX6_keep 2 (Option.some Jvm.ClassFile.FieldType.int) 0 := ⟨tw_477, tw_478, tw_479, tw_1, tw_480, ⟨by decide, by decide, by decide +kernel⟩⟩
theorem and7 (x : Nat) : x &&& 7 = x % 8 := Nat.and_two_pow_sub_one_eq_mod x 3
theorem ne2 {n : Nat} (h : n < 1000) : ¬ ((-2 : Int32) = nI n) := fun e => by
  have h1 : ∀ n, n < 1000 → ¬ ((-2 : Int32) = nI n) := by decide +kernel
  exact h1 n h e
theorem ne2' {n : Nat} (h : n < 1000) : ¬ (nI n = (-2 : Int32)) := fun e => ne2 h e.symm
theorem pI_keep {g gy gk : mS} {f : Nat → Nat} {n p : Nat} (P : pI g f n) (hy : pilR g gy p) (e : (mK gk 15 = mK gy 15 + 1 ∧ mK gk 16 = 0 ∧ mK gk 40 = mK gy 40) ∧ (∀ j i, (j = 1 ∨ j = 3 ∨ j = 4) → mN gk j i = mN gy j i) ∧ (∀ j i, (j = 5 ∨ j = 6) → mB gk j i = mB gy j i) ∧ ∀ r, mI gk 20 r = mI gy 20 r) : ∀ g9, pilR gk g9 0 → pI g9 (uF f 2 (f 2 + 1)) n := fun g9 k => by
  obtain ⟨h1, h2, h3, h4, h5, h6, h7⟩ := P
  obtain ⟨⟨e1, e2, e3⟩, e4, e5, e6⟩ := e
  refine ⟨fun s hs => ?_, ?_, ?_, k.1.1, fun r hr => ?_, ?_, sInv_c h7 (fun j i hj => ?_) (fun j i hj => ?_)⟩
  · rw [uF_n (by omega), k.2.1 1 s (by omega), e4 1 s (by omega), hy.2.1 1 s (by omega)]; exact h1 s hs
  · rw [uF_s, k.1.2.1, e1, hy.1.2.1, h2]
  · rw [uF_n (by decide), k.1.2.2, e3, hy.1.2.2]; exact h3
  · rw [uF_n (by omega), uF_n (by omega), k.2.2.2, e6, hy.2.2.2]; exact h5 r hr
  · rw [uF_n (by decide)]; exact h6
  · rw [k.2.1 j i hj, e4 j i hj, hy.2.1 j i hj]
  · rw [k.2.2.1 j i hj, e5 j i hj, hy.2.2.1 j i hj]
theorem pilR.eq {a b : mS} {n m : Nat} (h : pilR a b n) (e : n = m) : pilR a b m := e ▸ h
def dl_L_builds : List (Nat × Instr × Nat) := [(0, .iload_n 2, 1), (1, .istore 4, 2), (3, .aload_n 0, 1), (4, .invokevirtual 36, 3), (7, .ifCond .lt 7, 3), (10, .iconst 0, 1), (11, .goto 5, 3), (14, .bipush 9, 2), (16, .istore 5, 2), (18, .iconst 1, 1), (19, .istore 6, 2), (21, .iconst 0, 1), (22, .istore 7, 2), (24, .iload 7, 2), (26, .bipush 6, 2), (28, .if_icmp .ge 341, 3), (31, .iload 6, 2), (33, .ifCond .eq 336, 3), (36, .iload 4, 2), (38, .bipush 8, 2), (40, .irem, 1), (41, .istore 8, 2), (43, .iload 4, 2), (45, .bipush 8, 2), (47, .idiv, 1), (48, .istore 4, 2), (50, .iload_n 3, 1), (51, .iconst 3, 1), (52, .iload 7, 2), (54, .imul, 1), (55, .ishr, 1), (56, .bipush 7, 2), (58, .iand, 1), (59, .istore 9, 2), (61, .aload_n 0, 1), (62, .iload 8, 2), (64, .iconst 3, 1), (65, .if_icmp .ge 7, 3), (68, .iconst 0, 1), (69, .goto 25, 3), (72, .iload 8, 2), (74, .iconst 4, 1), (75, .if_icmp .ge 7, 3), (78, .iconst 1, 1), (79, .goto 15, 3), (82, .iload 8, 2), (84, .bipush 6, 2), (86, .if_icmp .ge 7, 3), (89, .iconst 2, 1), (90, .goto 4, 3), (93, .iconst 3, 1), (94, .iload 9, 2), (96, .iconst 3, 1), (97, .irem, 1), (98, .iload 9, 2), (100, .iconst 3, 1), (101, .idiv, 1), (102, .invokestatic 39, 3), (105, .istore 10, 2), (107, .iload 10, 2), (109, .iload 5, 2), (111, .iconst 1, 1), (112, .iadd, 1), (113, .if_icmp .eq 10, 3), (116, .iload 10, 2), (118, .bipush (-2), 2), (120, .if_icmp .ne 7, 3), (123, .iconst 1, 1), (124, .goto 4, 3), (127, .iconst 0, 1), (128, .istore 6, 2), (130, .iload 10, 2), (132, .bipush (-2), 2), (134, .if_icmp .ne 8, 3), (137, .iload 5, 2), (139, .goto 5, 3), (142, .iload 10, 2), (144, .istore 5, 2), (146, .iload 9, 2), (148, .iconst 4, 1), (149, .irem, 1), (150, .ifCond .ne 37, 3), (153, .aload_n 0, 1), (154, .iload 9, 2), (156, .iconst 4, 1), (157, .idiv, 1), (158, .iconst 3, 1), (159, .irem, 1), (160, .invokestatic 45, 3), (163, .istore 11, 2), (165, .iload 6, 2), (167, .ifCond .eq 17, 3), (170, .iload 11, 2), (172, .ifCond .ne 8, 3), (175, .iload 5, 2), (177, .ifCond .le 7, 3), (180, .iconst 1, 1), (181, .goto 4, 3), (184, .iconst 0, 1), (185, .istore 6, 2), (187, .iload 9, 2), (189, .iconst 5, 1), (190, .if_icmp .ne 59, 3), (193, .iload 5, 2), (195, .iconst 1, 1), (196, .if_icmp .le 53, 3), (199, .aload_n 0, 1), (200, .invokestatic 49, 3), (203, .istore 11, 2), (205, .iload 6, 2), (207, .ifCond .eq 23, 3), (210, .iload 11, 2), (212, .iload 5, 2), (214, .iconst 1, 1), (215, .isub, 1), (216, .if_icmp .eq 10, 3), (219, .iload 11, 2), (221, .bipush (-2), 2), (223, .if_icmp .ne 7, 3), (226, .iconst 1, 1), (227, .goto 4, 3), (230, .iconst 0, 1), (231, .istore 6, 2), (233, .iload 11, 2), (235, .bipush (-2), 2), (237, .if_icmp .ne 8, 3), (240, .iload 5, 2), (242, .goto 5, 3), (245, .iload 11, 2), (247, .istore 5, 2), (249, .iload 9, 2), (251, .bipush 6, 2), (253, .if_icmp .ne 52, 3), (256, .aload_n 0, 1), (257, .iload 7, 2), (259, .iconst 2, 1), (260, .irem, 1), (261, .iconst 1, 1), (262, .iload 7, 2), (264, .iconst 3, 1), (265, .irem, 1), (266, .iadd, 1), (267, .invokestatic 53, 3), (270, .istore 11, 2), (272, .iload 6, 2), (274, .ifCond .eq 28, 3), (277, .iload 11, 2), (279, .bipush (-2), 2), (281, .if_icmp .eq 17, 3), (284, .iload 11, 2), (286, .iload 5, 2), (288, .if_icmp .lt 14, 3), (291, .iload 11, 2), (293, .bipush 8, 2), (295, .if_icmp .gt 7, 3), (298, .iconst 1, 1), (299, .goto 4, 3), (302, .iconst 0, 1), (303, .istore 6, 2), (305, .iload 5, 2), (307, .iconst 1, 1), (308, .if_icmp .le 55, 3), (311, .iload 9, 2), (313, .iconst 2, 1), (314, .irem, 1), (315, .iconst 1, 1), (316, .if_icmp .ne 47, 3), (319, .iload 9, 2), (321, .iconst 3, 1), (322, .if_icmp .ne 10, 3), (325, .aload_n 0, 1), (326, .invokevirtual 57, 3), (329, .goto 7, 3), (332, .aload_n 0, 1), (333, .invokevirtual 60, 3), (336, .istore 11, 2), (338, .iload 6, 2), (340, .ifCond .eq 16, 3), (343, .iload 11, 2), (345, .iload 5, 2), (347, .iconst 1, 1), (348, .isub, 1), (349, .if_icmp .ne 7, 3), (352, .iconst 1, 1), (353, .goto 4, 3), (356, .iconst 0, 1), (357, .istore 6, 2), (359, .iload 11, 2), (361, .istore 5, 2), (363, .iinc 7 1, 3), (366, .goto (-342), 3), (369, .iload 5, 2), (371, .iconst 1, 1), (372, .if_icmp .le 50, 3), (375, .iload 6, 2), (377, .ifCond .eq 45, 3), (380, .iload_n 2, 1), (381, .iconst 2, 1), (382, .irem, 1), (383, .ifCond .ne 10, 3), (386, .aload_n 0, 1), (387, .invokevirtual 60, 3), (390, .goto 7, 3), (393, .aload_n 0, 1), (394, .invokevirtual 57, 3), (397, .istore 7, 2), (399, .iload 7, 2), (401, .iload 5, 2), (403, .iconst 1, 1), (404, .isub, 1), (405, .if_icmp .ne 7, 3), (408, .iconst 1, 1), (409, .goto 4, 3), (412, .iconst 0, 1), (413, .istore 6, 2), (415, .iload 7, 2), (417, .istore 5, 2), (419, .goto (-50), 3), (422, .iload 5, 2), (424, .iconst 1, 1), (425, .if_icmp .ne 40, 3), (428, .aload_n 1, 1), (429, .iconst 2, 1), (430, .iaload, 1), (431, .bipush 12, 2), (433, .if_icmp .ge 32, 3), (436, .iload 6, 2), (438, .ifCond .eq 17, 3), (441, .aload_n 0, 1), (442, .invokevirtual 63, 3), (445, .aload_n 1, 1), (446, .iconst 2, 1), (447, .iaload, 1), (448, .if_icmp .ne 7, 3), (451, .iconst 1, 1), (452, .goto 4, 3), (455, .iconst 0, 1), (456, .istore 6, 2), (458, .aload_n 1, 1), (459, .iconst 2, 1), (460, .dup2, 1), (461, .iaload, 1), (462, .iconst 1, 1), (463, .iadd, 1), (464, .iastore, 1), (465, .aload_n 0, 1), (466, .invokevirtual 36, 3), (469, .istore 7, 2), (471, .iload 6, 2), (473, .ifCond .eq 25, 3), (476, .iload 7, 2), (478, .ifCond .lt 20, 3), (481, .iload 7, 2), (483, .iconst 1, 1), (484, .if_icmp .gt 14, 3), (487, .aload_n 0, 1), (488, .invokevirtual 36, 3), (491, .ifCond .ne 7, 3), (494, .iconst 1, 1), (495, .goto 4, 3), (498, .iconst 0, 1), (499, .ireturn, 1)]
theorem dc_L_builds : dnL cL_builds dl_L_builds = true := by decide +kernel
theorem d_L_builds_0 : dn cL_builds 0 (.iload_n 2) 1 1 := dnAt dc_L_builds 0 rfl rfl
theorem d_L_builds_1 : dn cL_builds 1 (.istore 4) 2 3 := dnAt dc_L_builds 1 rfl rfl
theorem d_L_builds_3 : dn cL_builds 3 (.aload_n 0) 1 4 := dnAt dc_L_builds 2 rfl rfl
theorem d_L_builds_4 : dn cL_builds 4 (.invokevirtual 36) 3 7 := dnAt dc_L_builds 3 rfl rfl
theorem d_L_builds_7 : dn cL_builds 7 (.ifCond .lt 7) 3 10 := dnAt dc_L_builds 4 rfl rfl
theorem d_L_builds_10 : dn cL_builds 10 (.iconst 0) 1 11 := dnAt dc_L_builds 5 rfl rfl
theorem d_L_builds_11 : dn cL_builds 11 (.goto 5) 3 14 := dnAt dc_L_builds 6 rfl rfl
theorem d_L_builds_16 : dn cL_builds 16 (.istore 5) 2 18 := dnAt dc_L_builds 8 rfl rfl
theorem d_L_builds_18 : dn cL_builds 18 (.iconst 1) 1 19 := dnAt dc_L_builds 9 rfl rfl
theorem d_L_builds_19 : dn cL_builds 19 (.istore 6) 2 21 := dnAt dc_L_builds 10 rfl rfl
theorem d_L_builds_21 : dn cL_builds 21 (.iconst 0) 1 22 := dnAt dc_L_builds 11 rfl rfl
theorem d_L_builds_22 : dn cL_builds 22 (.istore 7) 2 24 := dnAt dc_L_builds 12 rfl rfl
theorem d_L_builds_24 : dn cL_builds 24 (.iload 7) 2 26 := dnAt dc_L_builds 13 rfl rfl
theorem d_L_builds_26 : dn cL_builds 26 (.bipush 6) 2 28 := dnAt dc_L_builds 14 rfl rfl
theorem d_L_builds_28 : dn cL_builds 28 (.if_icmp .ge 341) 3 31 := dnAt dc_L_builds 15 rfl rfl
theorem d_L_builds_31 : dn cL_builds 31 (.iload 6) 2 33 := dnAt dc_L_builds 16 rfl rfl
theorem d_L_builds_33 : dn cL_builds 33 (.ifCond .eq 336) 3 36 := dnAt dc_L_builds 17 rfl rfl
theorem d_L_builds_36 : dn cL_builds 36 (.iload 4) 2 38 := dnAt dc_L_builds 18 rfl rfl
theorem d_L_builds_38 : dn cL_builds 38 (.bipush 8) 2 40 := dnAt dc_L_builds 19 rfl rfl
theorem d_L_builds_40 : dn cL_builds 40 (.irem) 1 41 := dnAt dc_L_builds 20 rfl rfl
theorem d_L_builds_41 : dn cL_builds 41 (.istore 8) 2 43 := dnAt dc_L_builds 21 rfl rfl
theorem d_L_builds_43 : dn cL_builds 43 (.iload 4) 2 45 := dnAt dc_L_builds 22 rfl rfl
theorem d_L_builds_45 : dn cL_builds 45 (.bipush 8) 2 47 := dnAt dc_L_builds 23 rfl rfl
theorem d_L_builds_47 : dn cL_builds 47 (.idiv) 1 48 := dnAt dc_L_builds 24 rfl rfl
theorem d_L_builds_48 : dn cL_builds 48 (.istore 4) 2 50 := dnAt dc_L_builds 25 rfl rfl
theorem d_L_builds_50 : dn cL_builds 50 (.iload_n 3) 1 51 := dnAt dc_L_builds 26 rfl rfl
theorem d_L_builds_51 : dn cL_builds 51 (.iconst 3) 1 52 := dnAt dc_L_builds 27 rfl rfl
theorem d_L_builds_52 : dn cL_builds 52 (.iload 7) 2 54 := dnAt dc_L_builds 28 rfl rfl
theorem d_L_builds_54 : dn cL_builds 54 (.imul) 1 55 := dnAt dc_L_builds 29 rfl rfl
theorem d_L_builds_55 : dn cL_builds 55 (.ishr) 1 56 := dnAt dc_L_builds 30 rfl rfl
theorem d_L_builds_56 : dn cL_builds 56 (.bipush 7) 2 58 := dnAt dc_L_builds 31 rfl rfl
theorem d_L_builds_58 : dn cL_builds 58 (.iand) 1 59 := dnAt dc_L_builds 32 rfl rfl
theorem d_L_builds_59 : dn cL_builds 59 (.istore 9) 2 61 := dnAt dc_L_builds 33 rfl rfl
theorem d_L_builds_61 : dn cL_builds 61 (.aload_n 0) 1 62 := dnAt dc_L_builds 34 rfl rfl
theorem d_L_builds_62 : dn cL_builds 62 (.iload 8) 2 64 := dnAt dc_L_builds 35 rfl rfl
theorem d_L_builds_64 : dn cL_builds 64 (.iconst 3) 1 65 := dnAt dc_L_builds 36 rfl rfl
theorem d_L_builds_65 : dn cL_builds 65 (.if_icmp .ge 7) 3 68 := dnAt dc_L_builds 37 rfl rfl
theorem d_L_builds_68 : dn cL_builds 68 (.iconst 0) 1 69 := dnAt dc_L_builds 38 rfl rfl
theorem d_L_builds_69 : dn cL_builds 69 (.goto 25) 3 72 := dnAt dc_L_builds 39 rfl rfl
theorem d_L_builds_72 : dn cL_builds 72 (.iload 8) 2 74 := dnAt dc_L_builds 40 rfl rfl
theorem d_L_builds_74 : dn cL_builds 74 (.iconst 4) 1 75 := dnAt dc_L_builds 41 rfl rfl
theorem d_L_builds_75 : dn cL_builds 75 (.if_icmp .ge 7) 3 78 := dnAt dc_L_builds 42 rfl rfl
theorem d_L_builds_78 : dn cL_builds 78 (.iconst 1) 1 79 := dnAt dc_L_builds 43 rfl rfl
theorem d_L_builds_79 : dn cL_builds 79 (.goto 15) 3 82 := dnAt dc_L_builds 44 rfl rfl
theorem d_L_builds_82 : dn cL_builds 82 (.iload 8) 2 84 := dnAt dc_L_builds 45 rfl rfl
theorem d_L_builds_84 : dn cL_builds 84 (.bipush 6) 2 86 := dnAt dc_L_builds 46 rfl rfl
theorem d_L_builds_86 : dn cL_builds 86 (.if_icmp .ge 7) 3 89 := dnAt dc_L_builds 47 rfl rfl
theorem d_L_builds_89 : dn cL_builds 89 (.iconst 2) 1 90 := dnAt dc_L_builds 48 rfl rfl
theorem d_L_builds_90 : dn cL_builds 90 (.goto 4) 3 93 := dnAt dc_L_builds 49 rfl rfl
theorem d_L_builds_93 : dn cL_builds 93 (.iconst 3) 1 94 := dnAt dc_L_builds 50 rfl rfl
theorem d_L_builds_94 : dn cL_builds 94 (.iload 9) 2 96 := dnAt dc_L_builds 51 rfl rfl
theorem d_L_builds_96 : dn cL_builds 96 (.iconst 3) 1 97 := dnAt dc_L_builds 52 rfl rfl
theorem d_L_builds_97 : dn cL_builds 97 (.irem) 1 98 := dnAt dc_L_builds 53 rfl rfl
theorem d_L_builds_98 : dn cL_builds 98 (.iload 9) 2 100 := dnAt dc_L_builds 54 rfl rfl
theorem d_L_builds_100 : dn cL_builds 100 (.iconst 3) 1 101 := dnAt dc_L_builds 55 rfl rfl
theorem d_L_builds_101 : dn cL_builds 101 (.idiv) 1 102 := dnAt dc_L_builds 56 rfl rfl
theorem d_L_builds_102 : dn cL_builds 102 (.invokestatic 39) 3 105 := dnAt dc_L_builds 57 rfl rfl
theorem d_L_builds_105 : dn cL_builds 105 (.istore 10) 2 107 := dnAt dc_L_builds 58 rfl rfl
theorem d_L_builds_107 : dn cL_builds 107 (.iload 10) 2 109 := dnAt dc_L_builds 59 rfl rfl
theorem d_L_builds_109 : dn cL_builds 109 (.iload 5) 2 111 := dnAt dc_L_builds 60 rfl rfl
theorem d_L_builds_111 : dn cL_builds 111 (.iconst 1) 1 112 := dnAt dc_L_builds 61 rfl rfl
theorem d_L_builds_112 : dn cL_builds 112 (.iadd) 1 113 := dnAt dc_L_builds 62 rfl rfl
theorem d_L_builds_113 : dn cL_builds 113 (.if_icmp .eq 10) 3 116 := dnAt dc_L_builds 63 rfl rfl
theorem d_L_builds_116 : dn cL_builds 116 (.iload 10) 2 118 := dnAt dc_L_builds 64 rfl rfl
theorem d_L_builds_118 : dn cL_builds 118 (.bipush (-2)) 2 120 := dnAt dc_L_builds 65 rfl rfl
theorem d_L_builds_120 : dn cL_builds 120 (.if_icmp .ne 7) 3 123 := dnAt dc_L_builds 66 rfl rfl
theorem d_L_builds_123 : dn cL_builds 123 (.iconst 1) 1 124 := dnAt dc_L_builds 67 rfl rfl
theorem d_L_builds_124 : dn cL_builds 124 (.goto 4) 3 127 := dnAt dc_L_builds 68 rfl rfl
theorem d_L_builds_128 : dn cL_builds 128 (.istore 6) 2 130 := dnAt dc_L_builds 70 rfl rfl
theorem d_L_builds_130 : dn cL_builds 130 (.iload 10) 2 132 := dnAt dc_L_builds 71 rfl rfl
theorem d_L_builds_132 : dn cL_builds 132 (.bipush (-2)) 2 134 := dnAt dc_L_builds 72 rfl rfl
theorem d_L_builds_134 : dn cL_builds 134 (.if_icmp .ne 8) 3 137 := dnAt dc_L_builds 73 rfl rfl
theorem d_L_builds_137 : dn cL_builds 137 (.iload 5) 2 139 := dnAt dc_L_builds 74 rfl rfl
theorem d_L_builds_139 : dn cL_builds 139 (.goto 5) 3 142 := dnAt dc_L_builds 75 rfl rfl
theorem d_L_builds_142 : dn cL_builds 142 (.iload 10) 2 144 := dnAt dc_L_builds 76 rfl rfl
theorem d_L_builds_144 : dn cL_builds 144 (.istore 5) 2 146 := dnAt dc_L_builds 77 rfl rfl
theorem d_L_builds_146 : dn cL_builds 146 (.iload 9) 2 148 := dnAt dc_L_builds 78 rfl rfl
theorem d_L_builds_148 : dn cL_builds 148 (.iconst 4) 1 149 := dnAt dc_L_builds 79 rfl rfl
theorem d_L_builds_149 : dn cL_builds 149 (.irem) 1 150 := dnAt dc_L_builds 80 rfl rfl
theorem d_L_builds_150 : dn cL_builds 150 (.ifCond .ne 37) 3 153 := dnAt dc_L_builds 81 rfl rfl
theorem d_L_builds_153 : dn cL_builds 153 (.aload_n 0) 1 154 := dnAt dc_L_builds 82 rfl rfl
theorem d_L_builds_154 : dn cL_builds 154 (.iload 9) 2 156 := dnAt dc_L_builds 83 rfl rfl
theorem d_L_builds_156 : dn cL_builds 156 (.iconst 4) 1 157 := dnAt dc_L_builds 84 rfl rfl
theorem d_L_builds_157 : dn cL_builds 157 (.idiv) 1 158 := dnAt dc_L_builds 85 rfl rfl
theorem d_L_builds_158 : dn cL_builds 158 (.iconst 3) 1 159 := dnAt dc_L_builds 86 rfl rfl
theorem d_L_builds_159 : dn cL_builds 159 (.irem) 1 160 := dnAt dc_L_builds 87 rfl rfl
theorem d_L_builds_160 : dn cL_builds 160 (.invokestatic 45) 3 163 := dnAt dc_L_builds 88 rfl rfl
theorem d_L_builds_163 : dn cL_builds 163 (.istore 11) 2 165 := dnAt dc_L_builds 89 rfl rfl
theorem d_L_builds_165 : dn cL_builds 165 (.iload 6) 2 167 := dnAt dc_L_builds 90 rfl rfl
theorem d_L_builds_167 : dn cL_builds 167 (.ifCond .eq 17) 3 170 := dnAt dc_L_builds 91 rfl rfl
theorem d_L_builds_170 : dn cL_builds 170 (.iload 11) 2 172 := dnAt dc_L_builds 92 rfl rfl
theorem d_L_builds_172 : dn cL_builds 172 (.ifCond .ne 8) 3 175 := dnAt dc_L_builds 93 rfl rfl
theorem d_L_builds_175 : dn cL_builds 175 (.iload 5) 2 177 := dnAt dc_L_builds 94 rfl rfl
theorem d_L_builds_177 : dn cL_builds 177 (.ifCond .le 7) 3 180 := dnAt dc_L_builds 95 rfl rfl
theorem d_L_builds_180 : dn cL_builds 180 (.iconst 1) 1 181 := dnAt dc_L_builds 96 rfl rfl
theorem d_L_builds_181 : dn cL_builds 181 (.goto 4) 3 184 := dnAt dc_L_builds 97 rfl rfl
theorem d_L_builds_185 : dn cL_builds 185 (.istore 6) 2 187 := dnAt dc_L_builds 99 rfl rfl
theorem d_L_builds_187 : dn cL_builds 187 (.iload 9) 2 189 := dnAt dc_L_builds 100 rfl rfl
theorem d_L_builds_189 : dn cL_builds 189 (.iconst 5) 1 190 := dnAt dc_L_builds 101 rfl rfl
theorem d_L_builds_190 : dn cL_builds 190 (.if_icmp .ne 59) 3 193 := dnAt dc_L_builds 102 rfl rfl
theorem d_L_builds_193 : dn cL_builds 193 (.iload 5) 2 195 := dnAt dc_L_builds 103 rfl rfl
theorem d_L_builds_195 : dn cL_builds 195 (.iconst 1) 1 196 := dnAt dc_L_builds 104 rfl rfl
theorem d_L_builds_196 : dn cL_builds 196 (.if_icmp .le 53) 3 199 := dnAt dc_L_builds 105 rfl rfl
theorem d_L_builds_199 : dn cL_builds 199 (.aload_n 0) 1 200 := dnAt dc_L_builds 106 rfl rfl
theorem d_L_builds_200 : dn cL_builds 200 (.invokestatic 49) 3 203 := dnAt dc_L_builds 107 rfl rfl
theorem d_L_builds_203 : dn cL_builds 203 (.istore 11) 2 205 := dnAt dc_L_builds 108 rfl rfl
theorem d_L_builds_205 : dn cL_builds 205 (.iload 6) 2 207 := dnAt dc_L_builds 109 rfl rfl
theorem d_L_builds_207 : dn cL_builds 207 (.ifCond .eq 23) 3 210 := dnAt dc_L_builds 110 rfl rfl
theorem d_L_builds_210 : dn cL_builds 210 (.iload 11) 2 212 := dnAt dc_L_builds 111 rfl rfl
theorem d_L_builds_212 : dn cL_builds 212 (.iload 5) 2 214 := dnAt dc_L_builds 112 rfl rfl
theorem d_L_builds_214 : dn cL_builds 214 (.iconst 1) 1 215 := dnAt dc_L_builds 113 rfl rfl
theorem d_L_builds_215 : dn cL_builds 215 (.isub) 1 216 := dnAt dc_L_builds 114 rfl rfl
theorem d_L_builds_216 : dn cL_builds 216 (.if_icmp .eq 10) 3 219 := dnAt dc_L_builds 115 rfl rfl
theorem d_L_builds_219 : dn cL_builds 219 (.iload 11) 2 221 := dnAt dc_L_builds 116 rfl rfl
theorem d_L_builds_221 : dn cL_builds 221 (.bipush (-2)) 2 223 := dnAt dc_L_builds 117 rfl rfl
theorem d_L_builds_223 : dn cL_builds 223 (.if_icmp .ne 7) 3 226 := dnAt dc_L_builds 118 rfl rfl
theorem d_L_builds_226 : dn cL_builds 226 (.iconst 1) 1 227 := dnAt dc_L_builds 119 rfl rfl
theorem d_L_builds_227 : dn cL_builds 227 (.goto 4) 3 230 := dnAt dc_L_builds 120 rfl rfl
theorem d_L_builds_231 : dn cL_builds 231 (.istore 6) 2 233 := dnAt dc_L_builds 122 rfl rfl
theorem d_L_builds_233 : dn cL_builds 233 (.iload 11) 2 235 := dnAt dc_L_builds 123 rfl rfl
theorem d_L_builds_235 : dn cL_builds 235 (.bipush (-2)) 2 237 := dnAt dc_L_builds 124 rfl rfl
theorem d_L_builds_237 : dn cL_builds 237 (.if_icmp .ne 8) 3 240 := dnAt dc_L_builds 125 rfl rfl
theorem d_L_builds_240 : dn cL_builds 240 (.iload 5) 2 242 := dnAt dc_L_builds 126 rfl rfl
theorem d_L_builds_242 : dn cL_builds 242 (.goto 5) 3 245 := dnAt dc_L_builds 127 rfl rfl
theorem d_L_builds_245 : dn cL_builds 245 (.iload 11) 2 247 := dnAt dc_L_builds 128 rfl rfl
theorem d_L_builds_247 : dn cL_builds 247 (.istore 5) 2 249 := dnAt dc_L_builds 129 rfl rfl
theorem d_L_builds_249 : dn cL_builds 249 (.iload 9) 2 251 := dnAt dc_L_builds 130 rfl rfl
theorem d_L_builds_251 : dn cL_builds 251 (.bipush 6) 2 253 := dnAt dc_L_builds 131 rfl rfl
theorem d_L_builds_253 : dn cL_builds 253 (.if_icmp .ne 52) 3 256 := dnAt dc_L_builds 132 rfl rfl
theorem d_L_builds_256 : dn cL_builds 256 (.aload_n 0) 1 257 := dnAt dc_L_builds 133 rfl rfl
theorem d_L_builds_257 : dn cL_builds 257 (.iload 7) 2 259 := dnAt dc_L_builds 134 rfl rfl
theorem d_L_builds_259 : dn cL_builds 259 (.iconst 2) 1 260 := dnAt dc_L_builds 135 rfl rfl
theorem d_L_builds_260 : dn cL_builds 260 (.irem) 1 261 := dnAt dc_L_builds 136 rfl rfl
theorem d_L_builds_261 : dn cL_builds 261 (.iconst 1) 1 262 := dnAt dc_L_builds 137 rfl rfl
theorem d_L_builds_262 : dn cL_builds 262 (.iload 7) 2 264 := dnAt dc_L_builds 138 rfl rfl
theorem d_L_builds_264 : dn cL_builds 264 (.iconst 3) 1 265 := dnAt dc_L_builds 139 rfl rfl
theorem d_L_builds_265 : dn cL_builds 265 (.irem) 1 266 := dnAt dc_L_builds 140 rfl rfl
theorem d_L_builds_266 : dn cL_builds 266 (.iadd) 1 267 := dnAt dc_L_builds 141 rfl rfl
theorem d_L_builds_267 : dn cL_builds 267 (.invokestatic 53) 3 270 := dnAt dc_L_builds 142 rfl rfl
theorem d_L_builds_270 : dn cL_builds 270 (.istore 11) 2 272 := dnAt dc_L_builds 143 rfl rfl
theorem d_L_builds_272 : dn cL_builds 272 (.iload 6) 2 274 := dnAt dc_L_builds 144 rfl rfl
theorem d_L_builds_274 : dn cL_builds 274 (.ifCond .eq 28) 3 277 := dnAt dc_L_builds 145 rfl rfl
theorem d_L_builds_277 : dn cL_builds 277 (.iload 11) 2 279 := dnAt dc_L_builds 146 rfl rfl
theorem d_L_builds_279 : dn cL_builds 279 (.bipush (-2)) 2 281 := dnAt dc_L_builds 147 rfl rfl
theorem d_L_builds_281 : dn cL_builds 281 (.if_icmp .eq 17) 3 284 := dnAt dc_L_builds 148 rfl rfl
theorem d_L_builds_284 : dn cL_builds 284 (.iload 11) 2 286 := dnAt dc_L_builds 149 rfl rfl
theorem d_L_builds_286 : dn cL_builds 286 (.iload 5) 2 288 := dnAt dc_L_builds 150 rfl rfl
theorem d_L_builds_288 : dn cL_builds 288 (.if_icmp .lt 14) 3 291 := dnAt dc_L_builds 151 rfl rfl
theorem d_L_builds_291 : dn cL_builds 291 (.iload 11) 2 293 := dnAt dc_L_builds 152 rfl rfl
theorem d_L_builds_293 : dn cL_builds 293 (.bipush 8) 2 295 := dnAt dc_L_builds 153 rfl rfl
theorem d_L_builds_295 : dn cL_builds 295 (.if_icmp .gt 7) 3 298 := dnAt dc_L_builds 154 rfl rfl
theorem d_L_builds_298 : dn cL_builds 298 (.iconst 1) 1 299 := dnAt dc_L_builds 155 rfl rfl
theorem d_L_builds_299 : dn cL_builds 299 (.goto 4) 3 302 := dnAt dc_L_builds 156 rfl rfl
theorem d_L_builds_303 : dn cL_builds 303 (.istore 6) 2 305 := dnAt dc_L_builds 158 rfl rfl
theorem d_L_builds_305 : dn cL_builds 305 (.iload 5) 2 307 := dnAt dc_L_builds 159 rfl rfl
theorem d_L_builds_307 : dn cL_builds 307 (.iconst 1) 1 308 := dnAt dc_L_builds 160 rfl rfl
theorem d_L_builds_308 : dn cL_builds 308 (.if_icmp .le 55) 3 311 := dnAt dc_L_builds 161 rfl rfl
theorem d_L_builds_311 : dn cL_builds 311 (.iload 9) 2 313 := dnAt dc_L_builds 162 rfl rfl
theorem d_L_builds_313 : dn cL_builds 313 (.iconst 2) 1 314 := dnAt dc_L_builds 163 rfl rfl
theorem d_L_builds_314 : dn cL_builds 314 (.irem) 1 315 := dnAt dc_L_builds 164 rfl rfl
theorem d_L_builds_315 : dn cL_builds 315 (.iconst 1) 1 316 := dnAt dc_L_builds 165 rfl rfl
theorem d_L_builds_316 : dn cL_builds 316 (.if_icmp .ne 47) 3 319 := dnAt dc_L_builds 166 rfl rfl
theorem d_L_builds_319 : dn cL_builds 319 (.iload 9) 2 321 := dnAt dc_L_builds 167 rfl rfl
theorem d_L_builds_321 : dn cL_builds 321 (.iconst 3) 1 322 := dnAt dc_L_builds 168 rfl rfl
theorem d_L_builds_322 : dn cL_builds 322 (.if_icmp .ne 10) 3 325 := dnAt dc_L_builds 169 rfl rfl
theorem d_L_builds_325 : dn cL_builds 325 (.aload_n 0) 1 326 := dnAt dc_L_builds 170 rfl rfl
theorem d_L_builds_326 : dn cL_builds 326 (.invokevirtual 57) 3 329 := dnAt dc_L_builds 171 rfl rfl
theorem d_L_builds_329 : dn cL_builds 329 (.goto 7) 3 332 := dnAt dc_L_builds 172 rfl rfl
theorem d_L_builds_332 : dn cL_builds 332 (.aload_n 0) 1 333 := dnAt dc_L_builds 173 rfl rfl
theorem d_L_builds_333 : dn cL_builds 333 (.invokevirtual 60) 3 336 := dnAt dc_L_builds 174 rfl rfl
theorem d_L_builds_336 : dn cL_builds 336 (.istore 11) 2 338 := dnAt dc_L_builds 175 rfl rfl
theorem d_L_builds_338 : dn cL_builds 338 (.iload 6) 2 340 := dnAt dc_L_builds 176 rfl rfl
theorem d_L_builds_340 : dn cL_builds 340 (.ifCond .eq 16) 3 343 := dnAt dc_L_builds 177 rfl rfl
theorem d_L_builds_343 : dn cL_builds 343 (.iload 11) 2 345 := dnAt dc_L_builds 178 rfl rfl
theorem d_L_builds_345 : dn cL_builds 345 (.iload 5) 2 347 := dnAt dc_L_builds 179 rfl rfl
theorem d_L_builds_347 : dn cL_builds 347 (.iconst 1) 1 348 := dnAt dc_L_builds 180 rfl rfl
theorem d_L_builds_348 : dn cL_builds 348 (.isub) 1 349 := dnAt dc_L_builds 181 rfl rfl
theorem d_L_builds_349 : dn cL_builds 349 (.if_icmp .ne 7) 3 352 := dnAt dc_L_builds 182 rfl rfl
theorem d_L_builds_352 : dn cL_builds 352 (.iconst 1) 1 353 := dnAt dc_L_builds 183 rfl rfl
theorem d_L_builds_353 : dn cL_builds 353 (.goto 4) 3 356 := dnAt dc_L_builds 184 rfl rfl
theorem d_L_builds_357 : dn cL_builds 357 (.istore 6) 2 359 := dnAt dc_L_builds 186 rfl rfl
theorem d_L_builds_359 : dn cL_builds 359 (.iload 11) 2 361 := dnAt dc_L_builds 187 rfl rfl
theorem d_L_builds_361 : dn cL_builds 361 (.istore 5) 2 363 := dnAt dc_L_builds 188 rfl rfl
theorem d_L_builds_363 : dn cL_builds 363 (.iinc 7 1) 3 366 := dnAt dc_L_builds 189 rfl rfl
theorem d_L_builds_366 : dn cL_builds 366 (.goto (-342)) 3 369 := dnAt dc_L_builds 190 rfl rfl
theorem d_L_builds_369 : dn cL_builds 369 (.iload 5) 2 371 := dnAt dc_L_builds 191 rfl rfl
theorem d_L_builds_371 : dn cL_builds 371 (.iconst 1) 1 372 := dnAt dc_L_builds 192 rfl rfl
theorem d_L_builds_372 : dn cL_builds 372 (.if_icmp .le 50) 3 375 := dnAt dc_L_builds 193 rfl rfl
theorem d_L_builds_375 : dn cL_builds 375 (.iload 6) 2 377 := dnAt dc_L_builds 194 rfl rfl
theorem d_L_builds_377 : dn cL_builds 377 (.ifCond .eq 45) 3 380 := dnAt dc_L_builds 195 rfl rfl
theorem d_L_builds_380 : dn cL_builds 380 (.iload_n 2) 1 381 := dnAt dc_L_builds 196 rfl rfl
theorem d_L_builds_381 : dn cL_builds 381 (.iconst 2) 1 382 := dnAt dc_L_builds 197 rfl rfl
theorem d_L_builds_382 : dn cL_builds 382 (.irem) 1 383 := dnAt dc_L_builds 198 rfl rfl
theorem d_L_builds_383 : dn cL_builds 383 (.ifCond .ne 10) 3 386 := dnAt dc_L_builds 199 rfl rfl
theorem d_L_builds_386 : dn cL_builds 386 (.aload_n 0) 1 387 := dnAt dc_L_builds 200 rfl rfl
theorem d_L_builds_387 : dn cL_builds 387 (.invokevirtual 60) 3 390 := dnAt dc_L_builds 201 rfl rfl
theorem d_L_builds_390 : dn cL_builds 390 (.goto 7) 3 393 := dnAt dc_L_builds 202 rfl rfl
theorem d_L_builds_393 : dn cL_builds 393 (.aload_n 0) 1 394 := dnAt dc_L_builds 203 rfl rfl
theorem d_L_builds_394 : dn cL_builds 394 (.invokevirtual 57) 3 397 := dnAt dc_L_builds 204 rfl rfl
theorem d_L_builds_397 : dn cL_builds 397 (.istore 7) 2 399 := dnAt dc_L_builds 205 rfl rfl
theorem d_L_builds_399 : dn cL_builds 399 (.iload 7) 2 401 := dnAt dc_L_builds 206 rfl rfl
theorem d_L_builds_401 : dn cL_builds 401 (.iload 5) 2 403 := dnAt dc_L_builds 207 rfl rfl
theorem d_L_builds_403 : dn cL_builds 403 (.iconst 1) 1 404 := dnAt dc_L_builds 208 rfl rfl
theorem d_L_builds_404 : dn cL_builds 404 (.isub) 1 405 := dnAt dc_L_builds 209 rfl rfl
theorem d_L_builds_405 : dn cL_builds 405 (.if_icmp .ne 7) 3 408 := dnAt dc_L_builds 210 rfl rfl
theorem d_L_builds_408 : dn cL_builds 408 (.iconst 1) 1 409 := dnAt dc_L_builds 211 rfl rfl
theorem d_L_builds_409 : dn cL_builds 409 (.goto 4) 3 412 := dnAt dc_L_builds 212 rfl rfl
theorem d_L_builds_413 : dn cL_builds 413 (.istore 6) 2 415 := dnAt dc_L_builds 214 rfl rfl
theorem d_L_builds_415 : dn cL_builds 415 (.iload 7) 2 417 := dnAt dc_L_builds 215 rfl rfl
theorem d_L_builds_417 : dn cL_builds 417 (.istore 5) 2 419 := dnAt dc_L_builds 216 rfl rfl
theorem d_L_builds_419 : dn cL_builds 419 (.goto (-50)) 3 422 := dnAt dc_L_builds 217 rfl rfl
theorem d_L_builds_422 : dn cL_builds 422 (.iload 5) 2 424 := dnAt dc_L_builds 218 rfl rfl
theorem d_L_builds_424 : dn cL_builds 424 (.iconst 1) 1 425 := dnAt dc_L_builds 219 rfl rfl
theorem d_L_builds_425 : dn cL_builds 425 (.if_icmp .ne 40) 3 428 := dnAt dc_L_builds 220 rfl rfl
theorem d_L_builds_428 : dn cL_builds 428 (.aload_n 1) 1 429 := dnAt dc_L_builds 221 rfl rfl
theorem d_L_builds_429 : dn cL_builds 429 (.iconst 2) 1 430 := dnAt dc_L_builds 222 rfl rfl
theorem d_L_builds_430 : dn cL_builds 430 (.iaload) 1 431 := dnAt dc_L_builds 223 rfl rfl
theorem d_L_builds_431 : dn cL_builds 431 (.bipush 12) 2 433 := dnAt dc_L_builds 224 rfl rfl
theorem d_L_builds_433 : dn cL_builds 433 (.if_icmp .ge 32) 3 436 := dnAt dc_L_builds 225 rfl rfl
theorem d_L_builds_436 : dn cL_builds 436 (.iload 6) 2 438 := dnAt dc_L_builds 226 rfl rfl
theorem d_L_builds_438 : dn cL_builds 438 (.ifCond .eq 17) 3 441 := dnAt dc_L_builds 227 rfl rfl
theorem d_L_builds_441 : dn cL_builds 441 (.aload_n 0) 1 442 := dnAt dc_L_builds 228 rfl rfl
theorem d_L_builds_442 : dn cL_builds 442 (.invokevirtual 63) 3 445 := dnAt dc_L_builds 229 rfl rfl
theorem d_L_builds_445 : dn cL_builds 445 (.aload_n 1) 1 446 := dnAt dc_L_builds 230 rfl rfl
theorem d_L_builds_446 : dn cL_builds 446 (.iconst 2) 1 447 := dnAt dc_L_builds 231 rfl rfl
theorem d_L_builds_447 : dn cL_builds 447 (.iaload) 1 448 := dnAt dc_L_builds 232 rfl rfl
theorem d_L_builds_448 : dn cL_builds 448 (.if_icmp .ne 7) 3 451 := dnAt dc_L_builds 233 rfl rfl
theorem d_L_builds_451 : dn cL_builds 451 (.iconst 1) 1 452 := dnAt dc_L_builds 234 rfl rfl
theorem d_L_builds_452 : dn cL_builds 452 (.goto 4) 3 455 := dnAt dc_L_builds 235 rfl rfl
theorem d_L_builds_456 : dn cL_builds 456 (.istore 6) 2 458 := dnAt dc_L_builds 237 rfl rfl
theorem d_L_builds_458 : dn cL_builds 458 (.aload_n 1) 1 459 := dnAt dc_L_builds 238 rfl rfl
theorem d_L_builds_459 : dn cL_builds 459 (.iconst 2) 1 460 := dnAt dc_L_builds 239 rfl rfl
theorem d_L_builds_460 : dn cL_builds 460 (.dup2) 1 461 := dnAt dc_L_builds 240 rfl rfl
theorem d_L_builds_461 : dn cL_builds 461 (.iaload) 1 462 := dnAt dc_L_builds 241 rfl rfl
theorem d_L_builds_462 : dn cL_builds 462 (.iconst 1) 1 463 := dnAt dc_L_builds 242 rfl rfl
theorem d_L_builds_463 : dn cL_builds 463 (.iadd) 1 464 := dnAt dc_L_builds 243 rfl rfl
theorem d_L_builds_464 : dn cL_builds 464 (.iastore) 1 465 := dnAt dc_L_builds 244 rfl rfl
theorem d_L_builds_465 : dn cL_builds 465 (.aload_n 0) 1 466 := dnAt dc_L_builds 245 rfl rfl
theorem d_L_builds_466 : dn cL_builds 466 (.invokevirtual 36) 3 469 := dnAt dc_L_builds 246 rfl rfl
theorem d_L_builds_469 : dn cL_builds 469 (.istore 7) 2 471 := dnAt dc_L_builds 247 rfl rfl
theorem d_L_builds_471 : dn cL_builds 471 (.iload 6) 2 473 := dnAt dc_L_builds 248 rfl rfl
theorem d_L_builds_473 : dn cL_builds 473 (.ifCond .eq 25) 3 476 := dnAt dc_L_builds 249 rfl rfl
theorem d_L_builds_476 : dn cL_builds 476 (.iload 7) 2 478 := dnAt dc_L_builds 250 rfl rfl
theorem d_L_builds_478 : dn cL_builds 478 (.ifCond .lt 20) 3 481 := dnAt dc_L_builds 251 rfl rfl
theorem d_L_builds_481 : dn cL_builds 481 (.iload 7) 2 483 := dnAt dc_L_builds 252 rfl rfl
theorem d_L_builds_483 : dn cL_builds 483 (.iconst 1) 1 484 := dnAt dc_L_builds 253 rfl rfl
theorem d_L_builds_484 : dn cL_builds 484 (.if_icmp .gt 14) 3 487 := dnAt dc_L_builds 254 rfl rfl
theorem d_L_builds_487 : dn cL_builds 487 (.aload_n 0) 1 488 := dnAt dc_L_builds 255 rfl rfl
theorem d_L_builds_488 : dn cL_builds 488 (.invokevirtual 36) 3 491 := dnAt dc_L_builds 256 rfl rfl
theorem d_L_builds_491 : dn cL_builds 491 (.ifCond .ne 7) 3 494 := dnAt dc_L_builds 257 rfl rfl
theorem d_L_builds_494 : dn cL_builds 494 (.iconst 1) 1 495 := dnAt dc_L_builds 258 rfl rfl
theorem d_L_builds_495 : dn cL_builds 495 (.goto 4) 3 498 := dnAt dc_L_builds 259 rfl rfl
theorem d_L_builds_499 : dn cL_builds 499 (.ireturn) 1 500 := dnAt dc_L_builds 261 rfl rfl
set_option maxHeartbeats 4000000 in
set_option maxRecDepth 100000 in
theorem lawm_builds {l : Launch} {G : eG} {ad : Nat → Nat → Nat} {g : mS} {f : Nat → Nat} {a b k0 : Nat} (hlf : l.stackTraces = false) (ha : a < 2147483648) (hb : b < 2147483648) (P : pI g f k0) : kW l G ad g f yL_builds cL_builds 12 (Option.some Jvm.ClassFile.FieldType.boolean) { frames := 10, cells := 360, slots := 2880, locals := 177 } [.ref (ad 0 0), .ref (ad 101 0), .int (nI a), .int (nI b)] (fun v g' f' => v = some (.int (bI true)) ∧ pI g' f' k0) := by
  refine kW.of hlf (by decide) (Nat.le_of_ble_eq_true rfl) (Nat.le_of_ble_eq_true rfl) ?_
  intro x LX C A TY
  show VP G x ad g f { frames := 10, cells := 360, slots := 2880, locals := 177 } 360 0 [(0, .ref (ad 0 0)), (1, .ref (ad 101 0)), (2, .int (nI a)), (3, .int (nI b))] []
  refine p_AI (fun A0 => ?_)
  have h12 : mK g 15 ≤ 12 := pats_le A0.1
  have f2 : f 2 = mK g 15 := P.2.1
  refine p_iload_n C d_L_builds_0 2 rfl ?_
  refine p_istore C d_L_builds_1 (lv' := [(4, .int (nI a)), (0, .ref (ad 0 0)), (1, .ref (ad 101 0)), (2, .int (nI a)), (3, .int (nI b))]) (by decide) rfl ?_
  refine p_aload_n C d_L_builds_3 1 rfl ?_
  refine p_callC (As := []) (B' := 360) C d_L_builds_4 ok_RL_36 (fun l h T X Y m A k => q_wipe m A k ) rfl rfl (rest := []) rfl (Nat.le_of_ble_eq_true rfl) ⟨by decide, Nat.le_of_ble_eq_true rfl⟩ ⟨(show 360 + 0 ≤ 360 by omega), Nat.le_of_ble_eq_true rfl⟩ (fun v9 g1 e1 => ?_)
  obtain ⟨rfl, e1⟩ := e1
  show VP G x ad g1 f { frames := 10, cells := 360, slots := 2880, locals := 177 } 360 7 [(4, .int (nI a)), (0, .ref (ad 0 0)), (1, .ref (ad 101 0)), (2, .int (nI a)), (3, .int (nI b))] [.int (nI (mK g 16))]
  refine p_st (st' := [.int (nI 0)]) (by rw [P.2.2.2.1]) ?_
  refine pn_if_lt C d_L_builds_7 (tgt := 14) rfl (by omega) (fun c_7 => ?_) (fun c_7 => ?_)
  · skip
    exact c_7.elim
  · skip
    refine p_iconst C d_L_builds_10 (v := (nI 0)) rfl ?_
    refine p_goto C d_L_builds_11 (tgt := 16) rfl ?_
    refine p_istore C d_L_builds_16 (lv' := [(5, .int (nI 0)), (4, .int (nI a)), (0, .ref (ad 0 0)), (1, .ref (ad 101 0)), (2, .int (nI a)), (3, .int (nI b))]) (by decide) rfl ?_
    refine p_iconst C d_L_builds_18 (v := (bI true)) rfl ?_
    refine p_istore C d_L_builds_19 (lv' := [(6, .int (bI true)), (5, .int (nI 0)), (4, .int (nI a)), (0, .ref (ad 0 0)), (1, .ref (ad 101 0)), (2, .int (nI a)), (3, .int (nI b))]) (by decide) rfl ?_
    refine p_iconst C d_L_builds_21 (v := (nI 0)) rfl ?_
    refine p_istore C d_L_builds_22 (lv' := [(7, .int (nI 0)), (6, .int (bI true)), (5, .int (nI 0)), (4, .int (nI a)), (0, .ref (ad 0 0)), (1, .ref (ad 101 0)), (2, .int (nI a)), (3, .int (nI b))]) (by decide) rfl ?_
    have loop_24 : ∀ (fuel : Nat) (left : Nat) (gq : mS) (k : Nat) (pt : Nat), (k ≤ 6) → (left < 2147483648) → (pilR g gq pt) → (pt ≤ 8) → (7 - k) < fuel → VP G x ad gq f { frames := 10, cells := 360, slots := 2880, locals := 177 } (50 * (6 - k) + 60) 24 [(7, .int (nI k)), (6, .int (bI true)), (5, .int (nI pt)), (4, .int (nI left)), (0, .ref (ad 0 0)), (1, .ref (ad 101 0)), (2, .int (nI a)), (3, .int (nI b))] [] := by
      intro fuel
      induction fuel with
      | zero => intro left gq k pt hk hl hp hpt hf9; exact absurd hf9 (Nat.not_lt_zero _)
      | succ fuel ih_24 =>
        intro left gq k pt hk hl hp hpt hf9
        have eq_ : mK gq 16 = pt := hp.1.1
        refine p_iload C d_L_builds_24 0 rfl ?_
        refine p_bipush C d_L_builds_26 (v := (nI 6)) rfl ?_
        refine pn_icmp_ge C d_L_builds_28 (tgt := 369) rfl (by omega) (by omega) (fun c_28 => ?_) (fun c_28 => ?_)
        · skip
          have loop_369 : ∀ (fuel : Nat) (p2 : Nat) (gy : mS), (pilR g gy p2) → (p2 ≤ 8) → (p2) < fuel → VP G x ad gy f { frames := 10, cells := 360, slots := 2880, locals := 177 } (6 * p2 + 12) 369 [(6, .int (bI true)), (5, .int (nI p2)), (0, .ref (ad 0 0)), (1, .ref (ad 101 0)), (2, .int (nI a)), (3, .int (nI b))] [] := by
            intro fuel
            induction fuel with
            | zero => intro p2 gy hy h8 hf9; exact absurd hf9 (Nat.not_lt_zero _)
            | succ fuel ih_369 =>
              intro p2 gy hy h8 hf9
              have ey : mK gy 16 = p2 := hy.1.1
              have ey15 : mK gy 15 = mK g 15 := hy.1.2.1
              refine p_iload C d_L_builds_369 1 rfl ?_
              refine p_iconst C d_L_builds_371 (v := (nI 1)) rfl ?_
              refine pn_icmp_le C d_L_builds_372 (tgt := 422) rfl (by omega) (by omega) (fun c_372 => ?_) (fun c_372 => ?_)
              · skip
                have join_465 : ∀ (gk : mS) (fk : Nat → Nat), (mK gk 16 ≤ 1) → (∀ g9, pilR gk g9 0 → pI g9 fk k0) → VP G x ad gk fk { frames := 10, cells := 360, slots := 2880, locals := 177 } 0 465 [(6, .int (bI true)), (0, .ref (ad 0 0)), (1, .ref (ad 101 0)), (2, .int (nI a)), (3, .int (nI b))] [] := by
                  intro gk fk hk1 hk2
                  refine p_aload_n C d_L_builds_465 1 rfl ?_
                  refine p_callC (As := []) (B' := 0) C d_L_builds_466 ok_RL_36 (fun l h T X Y m A k => q_wipe m A k ) rfl rfl (rest := []) rfl (Nat.le_of_ble_eq_true rfl) ⟨by decide, Nat.le_of_ble_eq_true rfl⟩ ⟨(show 0 + 0 ≤ 0 by omega), Nat.le_of_ble_eq_true rfl⟩ (fun v9 g2 e2 => ?_)
                  obtain ⟨rfl, e2⟩ := e2
                  show VP G x ad g2 fk { frames := 10, cells := 360, slots := 2880, locals := 177 } 0 469 [(6, .int (bI true)), (0, .ref (ad 0 0)), (1, .ref (ad 101 0)), (2, .int (nI a)), (3, .int (nI b))] [.int (nI (mK gk 16))]
                  have eW1 := e2
                  refine p_istore C d_L_builds_469 (lv' := [(7, .int (nI (mK gk 16))), (6, .int (bI true)), (0, .ref (ad 0 0)), (1, .ref (ad 101 0)), (2, .int (nI a)), (3, .int (nI b))]) (by decide) rfl ?_
                  refine p_iload C d_L_builds_471 1 rfl ?_
                  refine pb_if_eq C d_L_builds_473 (tgt := 498) rfl (fun c_473 => ?_) (fun c_473 => ?_)
                  · skip
                    cases c_473
                  · skip
                    refine p_iload C d_L_builds_476 0 rfl ?_
                    refine pn_if_lt C d_L_builds_478 (tgt := 498) rfl (by omega) (fun c_478 => ?_) (fun c_478 => ?_)
                    · skip
                      exact c_478.elim
                    · skip
                      refine p_iload C d_L_builds_481 0 rfl ?_
                      refine p_iconst C d_L_builds_483 (v := (nI 1)) rfl ?_
                      refine pn_icmp_gt C d_L_builds_484 (tgt := 498) rfl (by omega) (by omega) (fun c_484 => ?_) (fun c_484 => ?_)
                      · skip
                        exfalso; omega
                      · skip
                        refine p_aload_n C d_L_builds_487 2 rfl ?_
                        refine p_callC (As := []) (B' := 0) C d_L_builds_488 ok_RL_36 (fun l h T X Y m A k => q_wipe m A k ) rfl rfl (rest := []) rfl (Nat.le_of_ble_eq_true rfl) ⟨by decide, Nat.le_of_ble_eq_true rfl⟩ ⟨(show 0 + 0 ≤ 0 by omega), Nat.le_of_ble_eq_true rfl⟩ (fun v9 g3 e3 => ?_)
                        obtain ⟨rfl, e3⟩ := e3
                        show VP G x ad g3 fk { frames := 10, cells := 360, slots := 2880, locals := 177 } 0 491 [(7, .int (nI (mK gk 16))), (6, .int (bI true)), (0, .ref (ad 0 0)), (1, .ref (ad 101 0)), (2, .int (nI a)), (3, .int (nI b))] [.int (nI (mK g2 16))]
                        have eWW := e3
                        refine pn_if_ne C d_L_builds_491 (tgt := 498) rfl (by have := eW1.1.1; omega) (fun c_491 => ?_) (fun c_491 => ?_)
                        · skip
                          exfalso; have := eW1.1.1; omega
                        · skip
                          refine p_iconst C d_L_builds_494 (v := (bI true)) rfl ?_
                          refine p_goto C d_L_builds_495 (tgt := 499) rfl ?_
                          exact p_iret C A TY d_L_builds_499 rfl (⟨rfl, hk2 _ (eW1.tr eWW)⟩)
                refine p_iload C d_L_builds_422 1 rfl ?_
                refine p_iconst C d_L_builds_424 (v := (nI 1)) rfl ?_
                refine pn_icmp_ne C d_L_builds_425 (tgt := 465) rfl (by omega) (by omega) (fun c_425 => ?_) (fun c_425 => ?_)
                · skip
                  refine p_B (B' := 0) (by omega) ?_
                  refine p_lv (lv' := [(6, .int (bI true)), (0, .ref (ad 0 0)), (1, .ref (ad 101 0)), (2, .int (nI a)), (3, .int (nI b))]) [0, 2, 3, 4, 5] rfl ?_
                  exact join_465 gy f (by omega) (fun g9 w9 => pI_pil P (hy.tr w9))
                · skip
                  refine p_aload_n C d_L_builds_428 3 rfl ?_
                  refine p_iconst C d_L_builds_429 (v := (nI 2)) rfl ?_
                  refine p_cld C d_L_builds_430 (by omega) ?_
                  refine p_bipush C d_L_builds_431 (v := (nI 12)) rfl ?_
                  refine pn_icmp_ge C d_L_builds_433 (tgt := 465) rfl (by omega) (by omega) (fun c_433 => ?_) (fun c_433 => ?_)
                  · skip
                    refine p_B (B' := 0) (by omega) ?_
                    refine p_lv (lv' := [(6, .int (bI true)), (0, .ref (ad 0 0)), (1, .ref (ad 101 0)), (2, .int (nI a)), (3, .int (nI b))]) [0, 2, 3, 4, 5] rfl ?_
                    exact join_465 gy f (by omega) (fun g9 w9 => pI_pil P (hy.tr w9))
                  · skip
                    refine p_iload C d_L_builds_436 0 rfl ?_
                    refine pb_if_eq C d_L_builds_438 (tgt := 455) rfl (fun c_438 => ?_) (fun c_438 => ?_)
                    · skip
                      cases c_438
                    · skip
                      refine p_aload_n C d_L_builds_441 2 rfl ?_
                      refine p_callX (As := []) (B' := 6 * p2 + 11) C LX d_L_builds_442 ok_RL_63 (fun l h T X Y hl m A k => q_keep hl m A k (keep_0 (by omega) (by omega))) (fun _ x => x) rfl rfl (rest := []) rfl (Nat.le_of_ble_eq_true rfl) ⟨by decide, Nat.le_of_ble_eq_true rfl⟩ ⟨(show 6 * p2 + 11 + 1 ≤ 6 * p2 + 12 by omega), Nat.le_of_ble_eq_true rfl⟩ (fun v9 g4 e4 => ?_)
                      obtain ⟨rfl, e4⟩ := e4
                      show VP G x ad g4 f { frames := 10, cells := 360, slots := 2880, locals := 177 } (6 * p2 + 11) 445 [(6, .int (bI true)), (5, .int (nI p2)), (0, .ref (ad 0 0)), (1, .ref (ad 101 0)), (2, .int (nI a)), (3, .int (nI b))] [.int (nI (mK gy 15))]
                      refine p_aload_n C d_L_builds_445 3 rfl ?_
                      refine p_iconst C d_L_builds_446 (v := (nI 2)) rfl ?_
                      refine p_cld C d_L_builds_447 (by omega) ?_
                      refine pn_icmp_ne C d_L_builds_448 (tgt := 455) rfl (by omega) (by omega) (fun c_448 => ?_) (fun c_448 => ?_)
                      · skip
                        exfalso; omega
                      · skip
                        refine p_iconst C d_L_builds_451 (v := (bI true)) rfl ?_
                        refine p_goto C d_L_builds_452 (tgt := 456) rfl ?_
                        refine p_istore C d_L_builds_456 (lv' := [(6, .int (bI true)), (5, .int (nI p2)), (0, .ref (ad 0 0)), (1, .ref (ad 101 0)), (2, .int (nI a)), (3, .int (nI b))]) (by decide) rfl ?_
                        refine p_aload_n C d_L_builds_458 3 rfl ?_
                        refine p_iconst C d_L_builds_459 (v := (nI 2)) rfl ?_
                        refine p_dup2 C d_L_builds_460 rfl rfl ?_
                        refine p_cld C d_L_builds_461 (by omega) ?_
                        refine p_iconst C d_L_builds_462 (v := (nI 1)) rfl ?_
                        refine pn_iadd C d_L_builds_463 ?_
                        refine p_cst C (v := (f 2) + 1) d_L_builds_464 (by omega) ?_
                        refine p_B (B' := 0) (by omega) ?_
                        refine p_lv (lv' := [(6, .int (bI true)), (0, .ref (ad 0 0)), (1, .ref (ad 101 0)), (2, .int (nI a)), (3, .int (nI b))]) [0, 2, 3, 4, 5] rfl ?_
                        exact join_465 g4 (uF f 2 ((f 2) + 1)) (by have := e4.1.2.1; omega) (pI_keep P hy e4)
              · skip
                refine p_iload C d_L_builds_375 0 rfl ?_
                refine pb_if_eq C d_L_builds_377 (tgt := 422) rfl (fun c_377 => ?_) (fun c_377 => ?_)
                · skip
                  cases c_377
                · skip
                  have join_397 : ∀ (gz : mS), (pilR gy gz (mK gy 16 - 1)) → VP G x ad gz f { frames := 10, cells := 360, slots := 2880, locals := 177 } (6 * p2 + 6) 397 [(6, .int (bI true)), (5, .int (nI p2)), (0, .ref (ad 0 0)), (1, .ref (ad 101 0)), (2, .int (nI a)), (3, .int (nI b))] [.int (nI (mK gy 16 - 1))] := by
                    intro gz hz
                    refine p_istore C d_L_builds_397 (lv' := [(7, .int (nI (mK gy 16 - 1))), (6, .int (bI true)), (5, .int (nI p2)), (0, .ref (ad 0 0)), (1, .ref (ad 101 0)), (2, .int (nI a)), (3, .int (nI b))]) (by decide) rfl ?_
                    refine p_iload C d_L_builds_399 0 rfl ?_
                    refine p_iload C d_L_builds_401 2 rfl ?_
                    refine p_iconst C d_L_builds_403 (v := (nI 1)) rfl ?_
                    refine pn_isub C d_L_builds_404 (by omega) ?_
                    refine pn_icmp_ne C d_L_builds_405 (tgt := 412) rfl (by omega) (by omega) (fun c_405 => ?_) (fun c_405 => ?_)
                    · skip
                      exfalso; omega
                    · skip
                      refine p_iconst C d_L_builds_408 (v := (bI true)) rfl ?_
                      refine p_goto C d_L_builds_409 (tgt := 413) rfl ?_
                      refine p_istore C d_L_builds_413 (lv' := [(6, .int (bI true)), (7, .int (nI (mK gy 16 - 1))), (5, .int (nI p2)), (0, .ref (ad 0 0)), (1, .ref (ad 101 0)), (2, .int (nI a)), (3, .int (nI b))]) (by decide) rfl ?_
                      refine p_iload C d_L_builds_415 1 rfl ?_
                      refine p_istore C d_L_builds_417 (lv' := [(5, .int (nI (mK gy 16 - 1))), (6, .int (bI true)), (7, .int (nI (mK gy 16 - 1))), (0, .ref (ad 0 0)), (1, .ref (ad 101 0)), (2, .int (nI a)), (3, .int (nI b))]) (by decide) rfl ?_
                      refine p_goto C d_L_builds_419 (tgt := 369) rfl ?_
                      refine p_B (B' := 6 * (mK gy 16 - 1) + 12) (by omega) ?_
                      refine p_lv (lv' := [(6, .int (bI true)), (5, .int (nI (mK gy 16 - 1))), (0, .ref (ad 0 0)), (1, .ref (ad 101 0)), (2, .int (nI a)), (3, .int (nI b))]) [1, 0, 3, 4, 5, 6] rfl ?_
                      exact ih_369 (mK gy 16 - 1) gz (hy.tr hz) (by omega) (by omega)
                  refine p_iload_n C d_L_builds_380 4 rfl ?_
                  refine p_iconst C d_L_builds_381 (v := (nI 2)) rfl ?_
                  refine pn_irem C d_L_builds_382 (by omega) (by omega) (by omega) ?_
                  refine pn_if_ne C d_L_builds_383 (tgt := 393) rfl (by omega) (fun c_383 => ?_) (fun c_383 => ?_)
                  · skip
                    refine p_aload_n C d_L_builds_393 2 rfl ?_
                    refine p_callX (As := []) (B' := 6 * p2 + 6) C LX d_L_builds_394 ok_RL_57 (fun l h T X Y hl m A k => q_either hl m A k (two_0 (by omega))) (fun _ x => x) rfl rfl (rest := []) rfl (Nat.le_of_ble_eq_true rfl) ⟨by decide, Nat.le_of_ble_eq_true rfl⟩ ⟨(show 6 * p2 + 6 + 6 ≤ 6 * p2 + 12 by omega), Nat.le_of_ble_eq_true rfl⟩ (fun v9 g5 e5 => ?_)
                    obtain ⟨rfl, e5⟩ := e5
                    show VP G x ad g5 f { frames := 10, cells := 360, slots := 2880, locals := 177 } (6 * p2 + 6) 397 [(6, .int (bI true)), (5, .int (nI p2)), (0, .ref (ad 0 0)), (1, .ref (ad 101 0)), (2, .int (nI a)), (3, .int (nI b))] [.int (nI (mK gy 16 - 1))]
                    exact join_397 g5 (e5)
                  · skip
                    refine p_aload_n C d_L_builds_386 2 rfl ?_
                    refine p_callX (As := []) (B' := 6 * p2 + 6) C LX d_L_builds_387 ok_RL_60 (fun l h T X Y hl m A k => q_chain hl m A k (two_0 (by omega))) (fun _ x => x) rfl rfl (rest := []) rfl (Nat.le_of_ble_eq_true rfl) ⟨by decide, Nat.le_of_ble_eq_true rfl⟩ ⟨(show 6 * p2 + 6 + 6 ≤ 6 * p2 + 12 by omega), Nat.le_of_ble_eq_true rfl⟩ (fun v9 g6 e6 => ?_)
                    obtain ⟨rfl, e6⟩ := e6
                    show VP G x ad g6 f { frames := 10, cells := 360, slots := 2880, locals := 177 } (6 * p2 + 6) 390 [(6, .int (bI true)), (5, .int (nI p2)), (0, .ref (ad 0 0)), (1, .ref (ad 101 0)), (2, .int (nI a)), (3, .int (nI b))] [.int (nI (mK gy 16 - 1))]
                    refine p_goto C d_L_builds_390 (tgt := 397) rfl ?_
                    exact join_397 g6 (e6)
          refine p_B (B' := 6 * pt + 12) (by omega) ?_
          refine p_lv (lv' := [(6, .int (bI true)), (5, .int (nI pt)), (0, .ref (ad 0 0)), (1, .ref (ad 101 0)), (2, .int (nI a)), (3, .int (nI b))]) [1, 2, 4, 5, 6, 7] rfl ?_
          exact loop_369 _ pt gq (hp) (by omega) (Nat.lt_succ_self _)
        · skip
          refine p_iload C d_L_builds_31 1 rfl ?_
          refine pb_if_eq C d_L_builds_33 (tgt := 369) rfl (fun c_33 => ?_) (fun c_33 => ?_)
          · skip
            cases c_33
          · skip
            refine p_B (B' := 50 * (5 - k) + 110) (by omega) ?_
            refine p_iload C d_L_builds_36 3 rfl ?_
            refine p_bipush C d_L_builds_38 (v := (nI 8)) rfl ?_
            refine pn_irem C d_L_builds_40 (by omega) (by omega) (by omega) ?_
            refine p_istore C d_L_builds_41 (lv' := [(8, .int (nI (left % 8))), (7, .int (nI k)), (6, .int (bI true)), (5, .int (nI pt)), (4, .int (nI left)), (0, .ref (ad 0 0)), (1, .ref (ad 101 0)), (2, .int (nI a)), (3, .int (nI b))]) (by decide) rfl ?_
            refine p_iload C d_L_builds_43 4 rfl ?_
            refine p_bipush C d_L_builds_45 (v := (nI 8)) rfl ?_
            refine pn_idiv C d_L_builds_47 (by omega) (by omega) (by omega) ?_
            refine p_istore C d_L_builds_48 (lv' := [(4, .int (nI (left / 8))), (8, .int (nI (left % 8))), (7, .int (nI k)), (6, .int (bI true)), (5, .int (nI pt)), (0, .ref (ad 0 0)), (1, .ref (ad 101 0)), (2, .int (nI a)), (3, .int (nI b))]) (by decide) rfl ?_
            refine p_iload_n C d_L_builds_50 8 rfl ?_
            refine p_iconst C d_L_builds_51 (v := (nI 3)) rfl ?_
            refine p_iload C d_L_builds_52 2 rfl ?_
            refine pn_imul C d_L_builds_54 ?_
            refine pn_ishr C d_L_builds_55 (by omega) (by omega) ?_
            refine p_bipush C d_L_builds_56 (v := (nI 7)) rfl ?_
            refine pn_iand C d_L_builds_58 ?_
            refine p_st (st' := [.int (nI (b / 2 ^ (3 * k) % 8))]) (by rw [and7]) ?_
            obtain ⟨vv, evv, hvv⟩ : ∃ vv, b / 2 ^ (3 * k) % 8 = vv ∧ vv < 8 := ⟨_, rfl, Nat.mod_lt _ (by decide)⟩
            rw [evv]
            refine p_istore C d_L_builds_59 (lv' := [(9, .int (nI vv)), (4, .int (nI (left / 8))), (8, .int (nI (left % 8))), (7, .int (nI k)), (6, .int (bI true)), (5, .int (nI pt)), (0, .ref (ad 0 0)), (1, .ref (ad 101 0)), (2, .int (nI a)), (3, .int (nI b))]) (by decide) rfl ?_
            have join_94 : ∀ (kd : Nat), (kd < 4) → VP G x ad gq f { frames := 10, cells := 360, slots := 2880, locals := 177 } (50 * (5 - k) + 110) 94 [(9, .int (nI vv)), (7, .int (nI k)), (6, .int (bI true)), (5, .int (nI pt)), (4, .int (nI (left / 8))), (0, .ref (ad 0 0)), (1, .ref (ad 101 0)), (2, .int (nI a)), (3, .int (nI b))] [.int (nI kd), .ref (ad 0 0)] := by
              intro kd hkd
              refine p_iload C d_L_builds_94 0 rfl ?_
              refine p_iconst C d_L_builds_96 (v := (nI 3)) rfl ?_
              refine pn_irem C d_L_builds_97 (by omega) (by omega) (by omega) ?_
              refine p_iload C d_L_builds_98 0 rfl ?_
              refine p_iconst C d_L_builds_100 (v := (nI 3)) rfl ?_
              refine pn_idiv C d_L_builds_101 (by omega) (by omega) (by omega) ?_
              have join_146 : ∀ (pq : Nat) (gr : mS), (pilR g gr pq) → (1 ≤ pq) → VP G x ad gr f { frames := 10, cells := 360, slots := 2880, locals := 177 } (50 * (5 - k) + 101) 146 [(9, .int (nI vv)), (7, .int (nI k)), (6, .int (bI true)), (5, .int (nI pq)), (4, .int (nI (left / 8))), (0, .ref (ad 0 0)), (1, .ref (ad 101 0)), (2, .int (nI a)), (3, .int (nI b))] [] := by
                intro pq gr hq h1q
                refine p_AI (fun A9 => ?_)
                have er : mK gr 16 = pq := hq.1.1
                have hq8 : pq ≤ 8 := by have := pile_le A9.1; omega
                have join_187 : ∀ (gs : mS), (pilR g gs pq) → VP G x ad gs f { frames := 10, cells := 360, slots := 2880, locals := 177 } (50 * (5 - k) + 93) 187 [(9, .int (nI vv)), (7, .int (nI k)), (6, .int (bI true)), (5, .int (nI pq)), (4, .int (nI (left / 8))), (0, .ref (ad 0 0)), (1, .ref (ad 101 0)), (2, .int (nI a)), (3, .int (nI b))] [] := by
                  intro gs hs
                  have es : mK gs 16 = pq := hs.1.1
                  have join_249 : ∀ (pu : Nat) (gu : mS), (pilR g gu pu) → (1 ≤ pu) → VP G x ad gu f { frames := 10, cells := 360, slots := 2880, locals := 177 } (50 * (5 - k) + 84) 249 [(9, .int (nI vv)), (7, .int (nI k)), (6, .int (bI true)), (5, .int (nI pu)), (4, .int (nI (left / 8))), (0, .ref (ad 0 0)), (1, .ref (ad 101 0)), (2, .int (nI a)), (3, .int (nI b))] [] := by
                    intro pu gu hu h1u
                    refine p_AI (fun A9 => ?_)
                    have eu : mK gu 16 = pu := hu.1.1
                    have hu8 : pu ≤ 8 := by have := pile_le A9.1; omega
                    have join_305 : ∀ (gv : mS), (pilR g gv pu) → VP G x ad gv f { frames := 10, cells := 360, slots := 2880, locals := 177 } (50 * (5 - k) + 66) 305 [(9, .int (nI vv)), (7, .int (nI k)), (6, .int (bI true)), (5, .int (nI pu)), (4, .int (nI (left / 8))), (0, .ref (ad 0 0)), (1, .ref (ad 101 0)), (2, .int (nI a)), (3, .int (nI b))] [] := by
                      intro gv hv
                      have ev : mK gv 16 = pu := hv.1.1
                      have join_363 : ∀ (px : Nat) (gx : mS), (pilR g gx px) → (px ≤ 8) → VP G x ad gx f { frames := 10, cells := 360, slots := 2880, locals := 177 } (50 * (5 - k) + 60) 363 [(9, .int (nI vv)), (7, .int (nI k)), (6, .int (bI true)), (5, .int (nI px)), (4, .int (nI (left / 8))), (0, .ref (ad 0 0)), (1, .ref (ad 101 0)), (2, .int (nI a)), (3, .int (nI b))] [] := by
                        intro px gx hx h1x
                        refine pn_iinc C d_L_builds_363 (lv' := [(7, .int (nI (k + 1))), (9, .int (nI vv)), (6, .int (bI true)), (5, .int (nI px)), (4, .int (nI (left / 8))), (0, .ref (ad 0 0)), (1, .ref (ad 101 0)), (2, .int (nI a)), (3, .int (nI b))]) 1 rfl (nI_inc _ rfl) (by decide) rfl ?_
                        refine p_goto C d_L_builds_366 (tgt := 24) rfl ?_
                        refine p_B (B' := 50 * (6 - (k + 1)) + 60) (by omega) ?_
                        refine p_lv (lv' := [(7, .int (nI (k + 1))), (6, .int (bI true)), (5, .int (nI px)), (4, .int (nI (left / 8))), (0, .ref (ad 0 0)), (1, .ref (ad 101 0)), (2, .int (nI a)), (3, .int (nI b))]) [0, 2, 3, 4, 5, 6, 7, 8] rfl ?_
                        exact ih_24 (left / 8) gx (k + 1) px (by omega) (by omega) (hx) (by omega) (by omega)
                      refine p_iload C d_L_builds_305 3 rfl ?_
                      refine p_iconst C d_L_builds_307 (v := (nI 1)) rfl ?_
                      refine pn_icmp_le C d_L_builds_308 (tgt := 363) rfl (by omega) (by omega) (fun c_308 => ?_) (fun c_308 => ?_)
                      · skip
                        refine p_B (B' := 50 * (5 - k) + 60) (by omega) ?_
                        exact join_363 pu gv (hv) (by omega)
                      · skip
                        refine p_iload C d_L_builds_311 0 rfl ?_
                        refine p_iconst C d_L_builds_313 (v := (nI 2)) rfl ?_
                        refine pn_irem C d_L_builds_314 (by omega) (by omega) (by omega) ?_
                        refine p_iconst C d_L_builds_315 (v := (nI 1)) rfl ?_
                        refine pn_icmp_ne C d_L_builds_316 (tgt := 363) rfl (by omega) (by omega) (fun c_316 => ?_) (fun c_316 => ?_)
                        · skip
                          refine p_B (B' := 50 * (5 - k) + 60) (by omega) ?_
                          exact join_363 pu gv (hv) (by omega)
                        · skip
                          have join_336 : ∀ (gw : mS), (pilR gv gw (mK gv 16 - 1)) → VP G x ad gw f { frames := 10, cells := 360, slots := 2880, locals := 177 } (50 * (5 - k) + 60) 336 [(9, .int (nI vv)), (7, .int (nI k)), (6, .int (bI true)), (5, .int (nI pu)), (4, .int (nI (left / 8))), (0, .ref (ad 0 0)), (1, .ref (ad 101 0)), (2, .int (nI a)), (3, .int (nI b))] [.int (nI (mK gv 16 - 1))] := by
                            intro gw hw
                            refine p_istore C d_L_builds_336 (lv' := [(11, .int (nI (mK gv 16 - 1))), (9, .int (nI vv)), (7, .int (nI k)), (6, .int (bI true)), (5, .int (nI pu)), (4, .int (nI (left / 8))), (0, .ref (ad 0 0)), (1, .ref (ad 101 0)), (2, .int (nI a)), (3, .int (nI b))]) (by decide) rfl ?_
                            refine p_iload C d_L_builds_338 3 rfl ?_
                            refine pb_if_eq C d_L_builds_340 (tgt := 356) rfl (fun c_340 => ?_) (fun c_340 => ?_)
                            · skip
                              cases c_340
                            · skip
                              refine p_iload C d_L_builds_343 0 rfl ?_
                              refine p_iload C d_L_builds_345 4 rfl ?_
                              refine p_iconst C d_L_builds_347 (v := (nI 1)) rfl ?_
                              refine pn_isub C d_L_builds_348 (by omega) ?_
                              refine pn_icmp_ne C d_L_builds_349 (tgt := 356) rfl (by omega) (by omega) (fun c_349 => ?_) (fun c_349 => ?_)
                              · skip
                                exfalso; omega
                              · skip
                                refine p_iconst C d_L_builds_352 (v := (bI true)) rfl ?_
                                refine p_goto C d_L_builds_353 (tgt := 357) rfl ?_
                                refine p_istore C d_L_builds_357 (lv' := [(6, .int (bI true)), (11, .int (nI (mK gv 16 - 1))), (9, .int (nI vv)), (7, .int (nI k)), (5, .int (nI pu)), (4, .int (nI (left / 8))), (0, .ref (ad 0 0)), (1, .ref (ad 101 0)), (2, .int (nI a)), (3, .int (nI b))]) (by decide) rfl ?_
                                refine p_iload C d_L_builds_359 1 rfl ?_
                                refine p_istore C d_L_builds_361 (lv' := [(5, .int (nI (mK gv 16 - 1))), (6, .int (bI true)), (11, .int (nI (mK gv 16 - 1))), (9, .int (nI vv)), (7, .int (nI k)), (4, .int (nI (left / 8))), (0, .ref (ad 0 0)), (1, .ref (ad 101 0)), (2, .int (nI a)), (3, .int (nI b))]) (by decide) rfl ?_
                                refine p_lv (lv' := [(9, .int (nI vv)), (7, .int (nI k)), (6, .int (bI true)), (5, .int (nI (mK gv 16 - 1))), (4, .int (nI (left / 8))), (0, .ref (ad 0 0)), (1, .ref (ad 101 0)), (2, .int (nI a)), (3, .int (nI b))]) [3, 4, 1, 0, 5, 6, 7, 8, 9] rfl ?_
                                exact join_363 (mK gv 16 - 1) gw (hv.tr hw) (by omega)
                          refine p_iload C d_L_builds_319 0 rfl ?_
                          refine p_iconst C d_L_builds_321 (v := (nI 3)) rfl ?_
                          refine pn_icmp_ne C d_L_builds_322 (tgt := 332) rfl (by omega) (by omega) (fun c_322 => ?_) (fun c_322 => ?_)
                          · skip
                            refine p_aload_n C d_L_builds_332 5 rfl ?_
                            refine p_callX (As := []) (B' := 50 * (5 - k) + 60) C LX d_L_builds_333 ok_RL_60 (fun l h T X Y hl m A k => q_chain hl m A k (two_0 (by omega))) (fun _ x => x) rfl rfl (rest := []) rfl (Nat.le_of_ble_eq_true rfl) ⟨by decide, Nat.le_of_ble_eq_true rfl⟩ ⟨(show 50 * (5 - k) + 60 + 6 ≤ 50 * (5 - k) + 66 by omega), Nat.le_of_ble_eq_true rfl⟩ (fun v9 g7 e7 => ?_)
                            obtain ⟨rfl, e7⟩ := e7
                            show VP G x ad g7 f { frames := 10, cells := 360, slots := 2880, locals := 177 } (50 * (5 - k) + 60) 336 [(9, .int (nI vv)), (7, .int (nI k)), (6, .int (bI true)), (5, .int (nI pu)), (4, .int (nI (left / 8))), (0, .ref (ad 0 0)), (1, .ref (ad 101 0)), (2, .int (nI a)), (3, .int (nI b))] [.int (nI (mK gv 16 - 1))]
                            exact join_336 g7 (e7)
                          · skip
                            refine p_aload_n C d_L_builds_325 5 rfl ?_
                            refine p_callX (As := []) (B' := 50 * (5 - k) + 60) C LX d_L_builds_326 ok_RL_57 (fun l h T X Y hl m A k => q_either hl m A k (two_0 (by omega))) (fun _ x => x) rfl rfl (rest := []) rfl (Nat.le_of_ble_eq_true rfl) ⟨by decide, Nat.le_of_ble_eq_true rfl⟩ ⟨(show 50 * (5 - k) + 60 + 6 ≤ 50 * (5 - k) + 66 by omega), Nat.le_of_ble_eq_true rfl⟩ (fun v9 g8 e8 => ?_)
                            obtain ⟨rfl, e8⟩ := e8
                            show VP G x ad g8 f { frames := 10, cells := 360, slots := 2880, locals := 177 } (50 * (5 - k) + 60) 329 [(9, .int (nI vv)), (7, .int (nI k)), (6, .int (bI true)), (5, .int (nI pu)), (4, .int (nI (left / 8))), (0, .ref (ad 0 0)), (1, .ref (ad 101 0)), (2, .int (nI a)), (3, .int (nI b))] [.int (nI (mK gv 16 - 1))]
                            refine p_goto C d_L_builds_329 (tgt := 336) rfl ?_
                            exact join_336 g8 (e8)
                    refine p_iload C d_L_builds_249 0 rfl ?_
                    refine p_bipush C d_L_builds_251 (v := (nI 6)) rfl ?_
                    refine pn_icmp_ne C d_L_builds_253 (tgt := 305) rfl (by omega) (by omega) (fun c_253 => ?_) (fun c_253 => ?_)
                    · skip
                      refine p_B (B' := 50 * (5 - k) + 66) (by omega) ?_
                      exact join_305 gu (hu)
                    · skip
                      refine p_aload_n C d_L_builds_256 5 rfl ?_
                      refine p_iload C d_L_builds_257 1 rfl ?_
                      refine p_iconst C d_L_builds_259 (v := (nI 2)) rfl ?_
                      refine pn_irem C d_L_builds_260 (by omega) (by omega) (by omega) ?_
                      refine p_iconst C d_L_builds_261 (v := (nI 1)) rfl ?_
                      refine p_iload C d_L_builds_262 1 rfl ?_
                      refine p_iconst C d_L_builds_264 (v := (nI 3)) rfl ?_
                      refine pn_irem C d_L_builds_265 (by omega) (by omega) (by omega) ?_
                      refine pn_iadd C d_L_builds_266 ?_
                      refine p_callSH (As := [.ref (ad 0 0), .int (nI (k % 2)), .int (nI (1 + (k % 3)))]) (B' := 50 * (5 - k) + 66) C LX d_L_builds_267 ok_RL_53 (fun l hl => lawm_ofRepeat hl (by omega) (by omega) (by omega) (by omega)) rfl (rest := []) rfl (Nat.le_of_ble_eq_true rfl) ⟨by decide, Nat.le_of_ble_eq_true rfl⟩ ⟨(show 50 * (5 - k) + 66 + 18 ≤ 50 * (5 - k) + 84 by omega), Nat.le_of_ble_eq_true rfl⟩ (fun v9 g9 f9 e9 => ?_)
                      obtain ⟨q9, e9⟩ := e9
                      have q9 := q9.symm; subst q9
                      obtain ⟨pR, eR⟩ := e9
                      refine p_AI (fun A8 => ?_)
                      have eR8 := tests_ge A8
                      have eR9 := pR.1.1
                      rcases eR with rfl | rfl
                      · skip
                        show VP G x ad g9 f { frames := 10, cells := 360, slots := 2880, locals := 177 } (50 * (5 - k) + 66) 270 [(9, .int (nI vv)), (7, .int (nI k)), (6, .int (bI true)), (5, .int (nI pu)), (4, .int (nI (left / 8))), (0, .ref (ad 0 0)), (1, .ref (ad 101 0)), (2, .int (nI a)), (3, .int (nI b))] [.int (nI (mTests g9))]
                        refine p_istore C d_L_builds_270 (lv' := [(11, .int (nI (mTests g9))), (9, .int (nI vv)), (7, .int (nI k)), (6, .int (bI true)), (5, .int (nI pu)), (4, .int (nI (left / 8))), (0, .ref (ad 0 0)), (1, .ref (ad 101 0)), (2, .int (nI a)), (3, .int (nI b))]) (by decide) rfl ?_
                        refine p_iload C d_L_builds_272 3 rfl ?_
                        refine pb_if_eq C d_L_builds_274 (tgt := 302) rfl (fun c_274 => ?_) (fun c_274 => ?_)
                        · skip
                          cases c_274
                        · skip
                          refine p_iload C d_L_builds_277 0 rfl ?_
                          refine p_bipush C d_L_builds_279 (v := ((-2))) rfl ?_
                          refine p_icmp_eq C d_L_builds_281 (tgt := 298) rfl (fun c_281 => ?_) (fun c_281 => ?_)
                          · skip
                            exact absurd c_281 (ne2' (by omega))
                          · skip
                            refine p_iload C d_L_builds_284 0 rfl ?_
                            refine p_iload C d_L_builds_286 4 rfl ?_
                            refine pn_icmp_lt C d_L_builds_288 (tgt := 302) rfl (by omega) (by omega) (fun c_288 => ?_) (fun c_288 => ?_)
                            · skip
                              exfalso; omega
                            · skip
                              refine p_iload C d_L_builds_291 0 rfl ?_
                              refine p_bipush C d_L_builds_293 (v := (nI 8)) rfl ?_
                              refine pn_icmp_gt C d_L_builds_295 (tgt := 302) rfl (by omega) (by omega) (fun c_295 => ?_) (fun c_295 => ?_)
                              · skip
                                exfalso; omega
                              · skip
                                refine p_iconst C d_L_builds_298 (v := (bI true)) rfl ?_
                                refine p_goto C d_L_builds_299 (tgt := 303) rfl ?_
                                refine p_istore C d_L_builds_303 (lv' := [(6, .int (bI true)), (11, .int (nI (mTests g9))), (9, .int (nI vv)), (7, .int (nI k)), (5, .int (nI pu)), (4, .int (nI (left / 8))), (0, .ref (ad 0 0)), (1, .ref (ad 101 0)), (2, .int (nI a)), (3, .int (nI b))]) (by decide) rfl ?_
                                refine p_lv (lv' := [(9, .int (nI vv)), (7, .int (nI k)), (6, .int (bI true)), (5, .int (nI pu)), (4, .int (nI (left / 8))), (0, .ref (ad 0 0)), (1, .ref (ad 101 0)), (2, .int (nI a)), (3, .int (nI b))]) [2, 3, 0, 4, 5, 6, 7, 8, 9] rfl ?_
                                exact join_305 g9 ((hu.tr pR).eq hu.1.1)
                      · skip
                        show VP G x ad g9 f { frames := 10, cells := 360, slots := 2880, locals := 177 } (50 * (5 - k) + 66) 270 [(9, .int (nI vv)), (7, .int (nI k)), (6, .int (bI true)), (5, .int (nI pu)), (4, .int (nI (left / 8))), (0, .ref (ad 0 0)), (1, .ref (ad 101 0)), (2, .int (nI a)), (3, .int (nI b))] [.int ((-2))]
                        refine p_istore C d_L_builds_270 (lv' := [(11, .int ((-2))), (9, .int (nI vv)), (7, .int (nI k)), (6, .int (bI true)), (5, .int (nI pu)), (4, .int (nI (left / 8))), (0, .ref (ad 0 0)), (1, .ref (ad 101 0)), (2, .int (nI a)), (3, .int (nI b))]) (by decide) rfl ?_
                        refine p_iload C d_L_builds_272 3 rfl ?_
                        refine pb_if_eq C d_L_builds_274 (tgt := 302) rfl (fun c_274 => ?_) (fun c_274 => ?_)
                        · skip
                          cases c_274
                        · skip
                          refine p_iload C d_L_builds_277 0 rfl ?_
                          refine p_bipush C d_L_builds_279 (v := ((-2))) rfl ?_
                          refine p_icmp_eq C d_L_builds_281 (tgt := 298) rfl (fun c_281 => ?_) (fun c_281 => ?_)
                          · skip
                            refine p_iconst C d_L_builds_298 (v := (bI true)) rfl ?_
                            refine p_goto C d_L_builds_299 (tgt := 303) rfl ?_
                            refine p_istore C d_L_builds_303 (lv' := [(6, .int (bI true)), (11, .int ((-2))), (9, .int (nI vv)), (7, .int (nI k)), (5, .int (nI pu)), (4, .int (nI (left / 8))), (0, .ref (ad 0 0)), (1, .ref (ad 101 0)), (2, .int (nI a)), (3, .int (nI b))]) (by decide) rfl ?_
                            refine p_lv (lv' := [(9, .int (nI vv)), (7, .int (nI k)), (6, .int (bI true)), (5, .int (nI pu)), (4, .int (nI (left / 8))), (0, .ref (ad 0 0)), (1, .ref (ad 101 0)), (2, .int (nI a)), (3, .int (nI b))]) [2, 3, 0, 4, 5, 6, 7, 8, 9] rfl ?_
                            exact join_305 g9 ((hu.tr pR).eq hu.1.1)
                          · skip
                            exact absurd rfl c_281
                  refine p_iload C d_L_builds_187 0 rfl ?_
                  refine p_iconst C d_L_builds_189 (v := (nI 5)) rfl ?_
                  refine pn_icmp_ne C d_L_builds_190 (tgt := 249) rfl (by omega) (by omega) (fun c_190 => ?_) (fun c_190 => ?_)
                  · skip
                    refine p_B (B' := 50 * (5 - k) + 84) (by omega) ?_
                    exact join_249 pq gs (hs) (by omega)
                  · skip
                    refine p_iload C d_L_builds_193 3 rfl ?_
                    refine p_iconst C d_L_builds_195 (v := (nI 1)) rfl ?_
                    refine pn_icmp_le C d_L_builds_196 (tgt := 249) rfl (by omega) (by omega) (fun c_196 => ?_) (fun c_196 => ?_)
                    · skip
                      refine p_B (B' := 50 * (5 - k) + 84) (by omega) ?_
                      exact join_249 pq gs (hs) (by omega)
                    · skip
                      refine p_aload_n C d_L_builds_199 5 rfl ?_
                      refine p_callSH (As := [.ref (ad 0 0)]) (B' := 50 * (5 - k) + 84) C LX d_L_builds_200 ok_RL_49 (fun l hl => lawm_ofBoth hl) rfl (rest := []) rfl (Nat.le_of_ble_eq_true rfl) ⟨by decide, Nat.le_of_ble_eq_true rfl⟩ ⟨(show 50 * (5 - k) + 84 + 9 ≤ 50 * (5 - k) + 93 by omega), Nat.le_of_ble_eq_true rfl⟩ (fun v9 g10 f10 e10 => ?_)
                      obtain ⟨q9, e10⟩ := e10
                      have q9 := q9.symm; subst q9
                      obtain ⟨nB, pB, eB⟩ := e10
                      rcases eB with ⟨rfl, rfl⟩ | ⟨rfl, rfl⟩
                      · skip
                        show VP G x ad g10 f { frames := 10, cells := 360, slots := 2880, locals := 177 } (50 * (5 - k) + 84) 203 [(9, .int (nI vv)), (7, .int (nI k)), (6, .int (bI true)), (5, .int (nI pq)), (4, .int (nI (left / 8))), (0, .ref (ad 0 0)), (1, .ref (ad 101 0)), (2, .int (nI a)), (3, .int (nI b))] [.int (nI (mK gs 16 - 1))]
                        refine p_istore C d_L_builds_203 (lv' := [(11, .int (nI (mK gs 16 - 1))), (9, .int (nI vv)), (7, .int (nI k)), (6, .int (bI true)), (5, .int (nI pq)), (4, .int (nI (left / 8))), (0, .ref (ad 0 0)), (1, .ref (ad 101 0)), (2, .int (nI a)), (3, .int (nI b))]) (by decide) rfl ?_
                        refine p_iload C d_L_builds_205 3 rfl ?_
                        refine pb_if_eq C d_L_builds_207 (tgt := 230) rfl (fun c_207 => ?_) (fun c_207 => ?_)
                        · skip
                          cases c_207
                        · skip
                          refine p_iload C d_L_builds_210 0 rfl ?_
                          refine p_iload C d_L_builds_212 4 rfl ?_
                          refine p_iconst C d_L_builds_214 (v := (nI 1)) rfl ?_
                          refine pn_isub C d_L_builds_215 (by omega) ?_
                          refine pn_icmp_eq C d_L_builds_216 (tgt := 226) rfl (by omega) (by omega) (fun c_216 => ?_) (fun c_216 => ?_)
                          · skip
                            refine p_iconst C d_L_builds_226 (v := (bI true)) rfl ?_
                            refine p_goto C d_L_builds_227 (tgt := 231) rfl ?_
                            refine p_istore C d_L_builds_231 (lv' := [(6, .int (bI true)), (11, .int (nI (mK gs 16 - 1))), (9, .int (nI vv)), (7, .int (nI k)), (5, .int (nI pq)), (4, .int (nI (left / 8))), (0, .ref (ad 0 0)), (1, .ref (ad 101 0)), (2, .int (nI a)), (3, .int (nI b))]) (by decide) rfl ?_
                            refine p_iload C d_L_builds_233 1 rfl ?_
                            refine p_bipush C d_L_builds_235 (v := ((-2))) rfl ?_
                            refine p_icmp_ne C d_L_builds_237 (tgt := 245) rfl (fun c_237 => ?_) (fun c_237 => ?_)
                            · skip
                              refine p_iload C d_L_builds_245 1 rfl ?_
                              refine p_istore C d_L_builds_247 (lv' := [(5, .int (nI (mK gs 16 - 1))), (6, .int (bI true)), (11, .int (nI (mK gs 16 - 1))), (9, .int (nI vv)), (7, .int (nI k)), (4, .int (nI (left / 8))), (0, .ref (ad 0 0)), (1, .ref (ad 101 0)), (2, .int (nI a)), (3, .int (nI b))]) (by decide) rfl ?_
                              refine p_lv (lv' := [(9, .int (nI vv)), (7, .int (nI k)), (6, .int (bI true)), (5, .int (nI (mK gs 16 - 1))), (4, .int (nI (left / 8))), (0, .ref (ad 0 0)), (1, .ref (ad 101 0)), (2, .int (nI a)), (3, .int (nI b))]) [3, 4, 1, 0, 5, 6, 7, 8, 9] rfl ?_
                              exact join_249 (mK gs 16 - 1) g10 (hs.tr pB) (by omega)
                            · skip
                              exact absurd (ne2' (by omega)) c_237
                          · skip
                            exfalso; omega
                      · skip
                        show VP G x ad g10 f { frames := 10, cells := 360, slots := 2880, locals := 177 } (50 * (5 - k) + 84) 203 [(9, .int (nI vv)), (7, .int (nI k)), (6, .int (bI true)), (5, .int (nI pq)), (4, .int (nI (left / 8))), (0, .ref (ad 0 0)), (1, .ref (ad 101 0)), (2, .int (nI a)), (3, .int (nI b))] [.int ((-2))]
                        refine p_istore C d_L_builds_203 (lv' := [(11, .int ((-2))), (9, .int (nI vv)), (7, .int (nI k)), (6, .int (bI true)), (5, .int (nI pq)), (4, .int (nI (left / 8))), (0, .ref (ad 0 0)), (1, .ref (ad 101 0)), (2, .int (nI a)), (3, .int (nI b))]) (by decide) rfl ?_
                        refine p_iload C d_L_builds_205 3 rfl ?_
                        refine pb_if_eq C d_L_builds_207 (tgt := 230) rfl (fun c_207 => ?_) (fun c_207 => ?_)
                        · skip
                          cases c_207
                        · skip
                          refine p_iload C d_L_builds_210 0 rfl ?_
                          refine p_iload C d_L_builds_212 4 rfl ?_
                          refine p_iconst C d_L_builds_214 (v := (nI 1)) rfl ?_
                          refine pn_isub C d_L_builds_215 (by omega) ?_
                          refine p_icmp_eq C d_L_builds_216 (tgt := 226) rfl (fun c_216 => ?_) (fun c_216 => ?_)
                          · skip
                            exact absurd c_216 (ne2 (by omega))
                          · skip
                            refine p_iload C d_L_builds_219 0 rfl ?_
                            refine p_bipush C d_L_builds_221 (v := ((-2))) rfl ?_
                            refine p_icmp_ne C d_L_builds_223 (tgt := 230) rfl (fun c_223 => ?_) (fun c_223 => ?_)
                            · skip
                              exact absurd rfl c_223
                            · skip
                              refine p_iconst C d_L_builds_226 (v := (bI true)) rfl ?_
                              refine p_goto C d_L_builds_227 (tgt := 231) rfl ?_
                              refine p_istore C d_L_builds_231 (lv' := [(6, .int (bI true)), (11, .int ((-2))), (9, .int (nI vv)), (7, .int (nI k)), (5, .int (nI pq)), (4, .int (nI (left / 8))), (0, .ref (ad 0 0)), (1, .ref (ad 101 0)), (2, .int (nI a)), (3, .int (nI b))]) (by decide) rfl ?_
                              refine p_iload C d_L_builds_233 1 rfl ?_
                              refine p_bipush C d_L_builds_235 (v := ((-2))) rfl ?_
                              refine p_icmp_ne C d_L_builds_237 (tgt := 245) rfl (fun c_237 => ?_) (fun c_237 => ?_)
                              · skip
                                exact absurd rfl c_237
                              · skip
                                refine p_iload C d_L_builds_240 4 rfl ?_
                                refine p_goto C d_L_builds_242 (tgt := 247) rfl ?_
                                refine p_istore C d_L_builds_247 (lv' := [(5, .int (nI pq)), (6, .int (bI true)), (11, .int ((-2))), (9, .int (nI vv)), (7, .int (nI k)), (4, .int (nI (left / 8))), (0, .ref (ad 0 0)), (1, .ref (ad 101 0)), (2, .int (nI a)), (3, .int (nI b))]) (by decide) rfl ?_
                                refine p_lv (lv' := [(9, .int (nI vv)), (7, .int (nI k)), (6, .int (bI true)), (5, .int (nI pq)), (4, .int (nI (left / 8))), (0, .ref (ad 0 0)), (1, .ref (ad 101 0)), (2, .int (nI a)), (3, .int (nI b))]) [3, 4, 1, 0, 5, 6, 7, 8, 9] rfl ?_
                                exact join_249 pq g10 ((hs.tr pB).eq hs.1.1) (by omega)
                refine p_iload C d_L_builds_146 0 rfl ?_
                refine p_iconst C d_L_builds_148 (v := (nI 4)) rfl ?_
                refine pn_irem C d_L_builds_149 (by omega) (by omega) (by omega) ?_
                refine pn_if_ne C d_L_builds_150 (tgt := 187) rfl (by omega) (fun c_150 => ?_) (fun c_150 => ?_)
                · skip
                  refine p_B (B' := 50 * (5 - k) + 93) (by omega) ?_
                  exact join_187 gr (hq)
                · skip
                  refine p_aload_n C d_L_builds_153 5 rfl ?_
                  refine p_iload C d_L_builds_154 0 rfl ?_
                  refine p_iconst C d_L_builds_156 (v := (nI 4)) rfl ?_
                  refine pn_idiv C d_L_builds_157 (by omega) (by omega) (by omega) ?_
                  refine p_iconst C d_L_builds_158 (v := (nI 3)) rfl ?_
                  refine pn_irem C d_L_builds_159 (by omega) (by omega) (by omega) ?_
                  refine p_callSH (As := [.ref (ad 0 0), .int (nI ((vv / 4) % 3))]) (B' := 50 * (5 - k) + 93) C LX d_L_builds_160 ok_RL_45 (fun l hl => lawm_isLabelled hl (by omega)) rfl (rest := []) rfl (Nat.le_of_ble_eq_true rfl) ⟨by decide, Nat.le_of_ble_eq_true rfl⟩ ⟨(show 50 * (5 - k) + 93 + 8 ≤ 50 * (5 - k) + 101 by omega), Nat.le_of_ble_eq_true rfl⟩ (fun v9 g11 f11 e11 => ?_)
                  obtain ⟨q9, e11⟩ := e11
                  have q9 := q9.symm; subst q9
                  obtain ⟨pL, bL, rfl⟩ := e11
                  show VP G x ad g11 f { frames := 10, cells := 360, slots := 2880, locals := 177 } (50 * (5 - k) + 93) 163 [(9, .int (nI vv)), (7, .int (nI k)), (6, .int (bI true)), (5, .int (nI pq)), (4, .int (nI (left / 8))), (0, .ref (ad 0 0)), (1, .ref (ad 101 0)), (2, .int (nI a)), (3, .int (nI b))] [.int (bI bL)]
                  refine p_istore C d_L_builds_163 (lv' := [(11, .int (bI bL)), (9, .int (nI vv)), (7, .int (nI k)), (6, .int (bI true)), (5, .int (nI pq)), (4, .int (nI (left / 8))), (0, .ref (ad 0 0)), (1, .ref (ad 101 0)), (2, .int (nI a)), (3, .int (nI b))]) (by decide) rfl ?_
                  refine p_iload C d_L_builds_165 3 rfl ?_
                  refine pb_if_eq C d_L_builds_167 (tgt := 184) rfl (fun c_167 => ?_) (fun c_167 => ?_)
                  · skip
                    cases c_167
                  · skip
                    refine p_iload C d_L_builds_170 0 rfl ?_
                    refine pb_if_ne C d_L_builds_172 (tgt := 180) rfl (fun c_172 => ?_) (fun c_172 => ?_)
                    · skip
                      refine p_iconst C d_L_builds_180 (v := (bI true)) rfl ?_
                      refine p_goto C d_L_builds_181 (tgt := 185) rfl ?_
                      refine p_istore C d_L_builds_185 (lv' := [(6, .int (bI true)), (11, .int (bI bL)), (9, .int (nI vv)), (7, .int (nI k)), (5, .int (nI pq)), (4, .int (nI (left / 8))), (0, .ref (ad 0 0)), (1, .ref (ad 101 0)), (2, .int (nI a)), (3, .int (nI b))]) (by decide) rfl ?_
                      refine p_lv (lv' := [(9, .int (nI vv)), (7, .int (nI k)), (6, .int (bI true)), (5, .int (nI pq)), (4, .int (nI (left / 8))), (0, .ref (ad 0 0)), (1, .ref (ad 101 0)), (2, .int (nI a)), (3, .int (nI b))]) [2, 3, 0, 4, 5, 6, 7, 8, 9] rfl ?_
                      exact join_187 g11 ((hq.tr pL).eq hq.1.1)
                    · skip
                      refine p_iload C d_L_builds_175 4 rfl ?_
                      refine pn_if_le C d_L_builds_177 (tgt := 184) rfl (by omega) (fun c_177 => ?_) (fun c_177 => ?_)
                      · skip
                        exfalso; omega
                      · skip
                        refine p_iconst C d_L_builds_180 (v := (bI true)) rfl ?_
                        refine p_goto C d_L_builds_181 (tgt := 185) rfl ?_
                        refine p_istore C d_L_builds_185 (lv' := [(6, .int (bI true)), (11, .int (bI bL)), (9, .int (nI vv)), (7, .int (nI k)), (5, .int (nI pq)), (4, .int (nI (left / 8))), (0, .ref (ad 0 0)), (1, .ref (ad 101 0)), (2, .int (nI a)), (3, .int (nI b))]) (by decide) rfl ?_
                        refine p_lv (lv' := [(9, .int (nI vv)), (7, .int (nI k)), (6, .int (bI true)), (5, .int (nI pq)), (4, .int (nI (left / 8))), (0, .ref (ad 0 0)), (1, .ref (ad 101 0)), (2, .int (nI a)), (3, .int (nI b))]) [2, 3, 0, 4, 5, 6, 7, 8, 9] rfl ?_
                        exact join_187 g11 ((hq.tr pL).eq hq.1.1)
              refine p_callSH (As := [.ref (ad 0 0), .int (nI kd), .int (nI (vv % 3)), .int (nI (vv / 3))]) (B' := 50 * (5 - k) + 101) C LX d_L_builds_102 ok_RL_39 (fun l hl => lawm_ofTest hl (by omega) (by omega) (by omega)) rfl (rest := []) rfl (Nat.le_of_ble_eq_true rfl) ⟨by decide, Nat.le_of_ble_eq_true rfl⟩ ⟨(show 50 * (5 - k) + 101 + 9 ≤ 50 * (5 - k) + 110 by omega), Nat.le_of_ble_eq_true rfl⟩ (fun v9 g12 f12 e12 => ?_)
              obtain ⟨q9, e12⟩ := e12
              have q9 := q9.symm; subst q9
              obtain ⟨nT, pT, eT⟩ := e12
              rcases eT with ⟨rfl, rfl⟩ | ⟨rfl, rfl, tT⟩
              · skip
                show VP G x ad g12 f { frames := 10, cells := 360, slots := 2880, locals := 177 } (50 * (5 - k) + 101) 105 [(9, .int (nI vv)), (7, .int (nI k)), (6, .int (bI true)), (5, .int (nI pt)), (4, .int (nI (left / 8))), (0, .ref (ad 0 0)), (1, .ref (ad 101 0)), (2, .int (nI a)), (3, .int (nI b))] [.int (nI (mK gq 16 + 1))]
                refine p_istore C d_L_builds_105 (lv' := [(10, .int (nI (mK gq 16 + 1))), (9, .int (nI vv)), (7, .int (nI k)), (6, .int (bI true)), (5, .int (nI pt)), (4, .int (nI (left / 8))), (0, .ref (ad 0 0)), (1, .ref (ad 101 0)), (2, .int (nI a)), (3, .int (nI b))]) (by decide) rfl ?_
                refine p_iload C d_L_builds_107 0 rfl ?_
                refine p_iload C d_L_builds_109 4 rfl ?_
                refine p_iconst C d_L_builds_111 (v := (nI 1)) rfl ?_
                refine pn_iadd C d_L_builds_112 ?_
                refine pn_icmp_eq C d_L_builds_113 (tgt := 123) rfl (by omega) (by omega) (fun c_113 => ?_) (fun c_113 => ?_)
                · skip
                  refine p_iconst C d_L_builds_123 (v := (bI true)) rfl ?_
                  refine p_goto C d_L_builds_124 (tgt := 128) rfl ?_
                  refine p_istore C d_L_builds_128 (lv' := [(6, .int (bI true)), (10, .int (nI (mK gq 16 + 1))), (9, .int (nI vv)), (7, .int (nI k)), (5, .int (nI pt)), (4, .int (nI (left / 8))), (0, .ref (ad 0 0)), (1, .ref (ad 101 0)), (2, .int (nI a)), (3, .int (nI b))]) (by decide) rfl ?_
                  refine p_iload C d_L_builds_130 1 rfl ?_
                  refine p_bipush C d_L_builds_132 (v := ((-2))) rfl ?_
                  refine p_icmp_ne C d_L_builds_134 (tgt := 142) rfl (fun c_134 => ?_) (fun c_134 => ?_)
                  · skip
                    refine p_iload C d_L_builds_142 1 rfl ?_
                    refine p_istore C d_L_builds_144 (lv' := [(5, .int (nI (mK gq 16 + 1))), (6, .int (bI true)), (10, .int (nI (mK gq 16 + 1))), (9, .int (nI vv)), (7, .int (nI k)), (4, .int (nI (left / 8))), (0, .ref (ad 0 0)), (1, .ref (ad 101 0)), (2, .int (nI a)), (3, .int (nI b))]) (by decide) rfl ?_
                    refine p_lv (lv' := [(9, .int (nI vv)), (7, .int (nI k)), (6, .int (bI true)), (5, .int (nI (mK gq 16 + 1))), (4, .int (nI (left / 8))), (0, .ref (ad 0 0)), (1, .ref (ad 101 0)), (2, .int (nI a)), (3, .int (nI b))]) [3, 4, 1, 0, 5, 6, 7, 8, 9] rfl ?_
                    exact join_146 (mK gq 16 + 1) g12 (hp.tr pT) (by omega)
                  · skip
                    exact absurd (ne2' (by omega)) c_134
                · skip
                  exfalso; omega
              · skip
                show VP G x ad g12 f { frames := 10, cells := 360, slots := 2880, locals := 177 } (50 * (5 - k) + 101) 105 [(9, .int (nI vv)), (7, .int (nI k)), (6, .int (bI true)), (5, .int (nI pt)), (4, .int (nI (left / 8))), (0, .ref (ad 0 0)), (1, .ref (ad 101 0)), (2, .int (nI a)), (3, .int (nI b))] [.int ((-2))]
                refine p_istore C d_L_builds_105 (lv' := [(10, .int ((-2))), (9, .int (nI vv)), (7, .int (nI k)), (6, .int (bI true)), (5, .int (nI pt)), (4, .int (nI (left / 8))), (0, .ref (ad 0 0)), (1, .ref (ad 101 0)), (2, .int (nI a)), (3, .int (nI b))]) (by decide) rfl ?_
                refine p_iload C d_L_builds_107 0 rfl ?_
                refine p_iload C d_L_builds_109 4 rfl ?_
                refine p_iconst C d_L_builds_111 (v := (nI 1)) rfl ?_
                refine pn_iadd C d_L_builds_112 ?_
                refine p_icmp_eq C d_L_builds_113 (tgt := 123) rfl (fun c_113 => ?_) (fun c_113 => ?_)
                · skip
                  exact absurd c_113 (ne2 (by omega))
                · skip
                  refine p_iload C d_L_builds_116 0 rfl ?_
                  refine p_bipush C d_L_builds_118 (v := ((-2))) rfl ?_
                  refine p_icmp_ne C d_L_builds_120 (tgt := 127) rfl (fun c_120 => ?_) (fun c_120 => ?_)
                  · skip
                    exact absurd rfl c_120
                  · skip
                    refine p_iconst C d_L_builds_123 (v := (bI true)) rfl ?_
                    refine p_goto C d_L_builds_124 (tgt := 128) rfl ?_
                    refine p_istore C d_L_builds_128 (lv' := [(6, .int (bI true)), (10, .int ((-2))), (9, .int (nI vv)), (7, .int (nI k)), (5, .int (nI pt)), (4, .int (nI (left / 8))), (0, .ref (ad 0 0)), (1, .ref (ad 101 0)), (2, .int (nI a)), (3, .int (nI b))]) (by decide) rfl ?_
                    refine p_iload C d_L_builds_130 1 rfl ?_
                    refine p_bipush C d_L_builds_132 (v := ((-2))) rfl ?_
                    refine p_icmp_ne C d_L_builds_134 (tgt := 142) rfl (fun c_134 => ?_) (fun c_134 => ?_)
                    · skip
                      exact absurd rfl c_134
                    · skip
                      refine p_iload C d_L_builds_137 4 rfl ?_
                      refine p_goto C d_L_builds_139 (tgt := 144) rfl ?_
                      refine p_istore C d_L_builds_144 (lv' := [(5, .int (nI pt)), (6, .int (bI true)), (10, .int ((-2))), (9, .int (nI vv)), (7, .int (nI k)), (4, .int (nI (left / 8))), (0, .ref (ad 0 0)), (1, .ref (ad 101 0)), (2, .int (nI a)), (3, .int (nI b))]) (by decide) rfl ?_
                      refine p_lv (lv' := [(9, .int (nI vv)), (7, .int (nI k)), (6, .int (bI true)), (5, .int (nI pt)), (4, .int (nI (left / 8))), (0, .ref (ad 0 0)), (1, .ref (ad 101 0)), (2, .int (nI a)), (3, .int (nI b))]) [3, 4, 1, 0, 5, 6, 7, 8, 9] rfl ?_
                      exact join_146 pt g12 ((hp.tr pT).eq hp.1.1) (by rcases Nat.eq_zero_or_pos pt with y | y; (have := no_full (hp.1.1.trans y); omega); exact y)
            refine p_aload_n C d_L_builds_61 6 rfl ?_
            refine p_iload C d_L_builds_62 2 rfl ?_
            refine p_iconst C d_L_builds_64 (v := (nI 3)) rfl ?_
            refine pn_icmp_ge C d_L_builds_65 (tgt := 72) rfl (by omega) (by omega) (fun c_65 => ?_) (fun c_65 => ?_)
            · skip
              refine p_iload C d_L_builds_72 2 rfl ?_
              refine p_iconst C d_L_builds_74 (v := (nI 4)) rfl ?_
              refine pn_icmp_ge C d_L_builds_75 (tgt := 82) rfl (by omega) (by omega) (fun c_75 => ?_) (fun c_75 => ?_)
              · skip
                refine p_iload C d_L_builds_82 2 rfl ?_
                refine p_bipush C d_L_builds_84 (v := (nI 6)) rfl ?_
                refine pn_icmp_ge C d_L_builds_86 (tgt := 93) rfl (by omega) (by omega) (fun c_86 => ?_) (fun c_86 => ?_)
                · skip
                  refine p_iconst C d_L_builds_93 (v := (nI 3)) rfl ?_
                  refine p_lv (lv' := [(9, .int (nI vv)), (7, .int (nI k)), (6, .int (bI true)), (5, .int (nI pt)), (4, .int (nI (left / 8))), (0, .ref (ad 0 0)), (1, .ref (ad 101 0)), (2, .int (nI a)), (3, .int (nI b))]) [0, 3, 4, 5, 1, 6, 7, 8, 9] rfl ?_
                  exact join_94 3 (by omega)
                · skip
                  refine p_iconst C d_L_builds_89 (v := (nI 2)) rfl ?_
                  refine p_goto C d_L_builds_90 (tgt := 94) rfl ?_
                  refine p_lv (lv' := [(9, .int (nI vv)), (7, .int (nI k)), (6, .int (bI true)), (5, .int (nI pt)), (4, .int (nI (left / 8))), (0, .ref (ad 0 0)), (1, .ref (ad 101 0)), (2, .int (nI a)), (3, .int (nI b))]) [0, 3, 4, 5, 1, 6, 7, 8, 9] rfl ?_
                  exact join_94 2 (by omega)
              · skip
                refine p_iconst C d_L_builds_78 (v := (nI 1)) rfl ?_
                refine p_goto C d_L_builds_79 (tgt := 94) rfl ?_
                refine p_lv (lv' := [(9, .int (nI vv)), (7, .int (nI k)), (6, .int (bI true)), (5, .int (nI pt)), (4, .int (nI (left / 8))), (0, .ref (ad 0 0)), (1, .ref (ad 101 0)), (2, .int (nI a)), (3, .int (nI b))]) [0, 3, 4, 5, 1, 6, 7, 8, 9] rfl ?_
                exact join_94 1 (by omega)
            · skip
              refine p_iconst C d_L_builds_68 (v := (nI 0)) rfl ?_
              refine p_goto C d_L_builds_69 (tgt := 94) rfl ?_
              refine p_lv (lv' := [(9, .int (nI vv)), (7, .int (nI k)), (6, .int (bI true)), (5, .int (nI pt)), (4, .int (nI (left / 8))), (0, .ref (ad 0 0)), (1, .ref (ad 101 0)), (2, .int (nI a)), (3, .int (nI b))]) [0, 3, 4, 5, 1, 6, 7, 8, 9] rfl ?_
              exact join_94 0 (by omega)
    refine p_B (B' := 50 * (6 - 0) + 60) (by omega) ?_
    exact loop_24 _ a g1 0 0 (by omega) (by omega) (e1) (by omega) (Nat.lt_succ_self _)
