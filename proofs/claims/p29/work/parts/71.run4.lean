theorem tw_588 : (Jvm.Cond.methodLink "Corpusline" (205 : Nat) ({ cls := "Corpusline", name := "sentencesWith", desc := "(LCorpusline$Part;LCorpusline$Side;)J" } : Jvm.MethodName)) ∈ TB := tb_of 588 (by decide +kernel) rfl
theorem tw_590 : (Jvm.Cond.instanceMethod ({ cls := "Corpusline", name := "sentencesWith", desc := "(LCorpusline$Part;LCorpusline$Side;)J" } : Jvm.MethodName)) ∈ TB := tb_of 590 (by decide +kernel) rfl
theorem tw_591 : (Jvm.Cond.code ({ cls := "Corpusline", name := "sentencesWith", desc := "(LCorpusline$Part;LCorpusline$Side;)J" } : Jvm.MethodName) prog_1_method_40_code (8 : Nat) (Option.some Jvm.ClassFile.FieldType.long)) ∈ TB := tb_of 591 (by decide +kernel) rfl
theorem ts_15 : Cond.selects "Corpusline" ({ cls := "Corpusline", name := "sentencesWith", desc := "(LCorpusline$Part;LCorpusline$Side;)J" } : MethodName) ({ cls := "Corpusline", name := "sentencesWith", desc := "(LCorpusline$Part;LCorpusline$Side;)J" } : MethodName) ∈ TB := tb_sel 15 (by decide +kernel) rfl
theorem ok_RX6_205 : okV RX6 205 yX6_sentencesWith cX6_sentencesWith 8 (Option.some Jvm.ClassFile.FieldType.long) 2 := ⟨tw_588, tw_590, ts_15, tw_1, tw_591, ⟨by decide, by decide, by decide +kernel⟩⟩
theorem al_hl {g : mS} (I : mInv g) {r p k : Nat} {nn : Bool} (hr : r < 8) : ∀ j, j < 40 → mN (alS g r p nn k) 21 (40 * r + j) < 512 ∧ mN (alS g r p nn k) 21 (40 * r + j) % 2 = 0 := fun j hj => by
  show alF g r p nn k (40 * r + j) < 512 ∧ alF g r p nn k (40 * r + j) % 2 = 0
  unfold alF alV
  have h := sz_b I hr j hj
  split
  · rw [Nat.add_sub_cancel_left]
    split
    · exact h
    · exact ⟨by decide, rfl⟩
  · exact h
theorem al_0 {G : eG} {ad : Nat → Nat → Nat} {g : mS} {r p : Nat} {nn : Bool} {f : Nat → Nat} {kq : Nat} {bq : Bool} : ∀ k i, cOk k i = true → ce G ad (wst (alS g r p nn 0) f kq bq) k i = ce G ad (wst g f kq bq) k i := fun k i hk => ce_cong hk ⟨fun _ => ⟨rfl, rfl, rfl⟩, fun _ => ⟨rfl, rfl, rfl⟩, fun _ => ⟨rfl, rfl, rfl⟩, fun _ => ⟨rfl, rfl⟩⟩ ⟨fun _ _ => rfl, fun _ _ => rfl, fun _ _ _ => rfl, fun _ _ _ => rfl, fun _ _ _ => rfl, fun _ _ _ => rfl, fun _ _ _ => rfl, fun _ _ _ => rfl, fun _ j hj => by
  show alF g r p nn 0 (40 * i + j) = mN g 21 (40 * i + j)
  unfold alF
  rw [if_neg (by omega)]⟩
theorem al_s0 {g : mS} {r p k : Nat} {nn : Bool} (h : mHas g (sdR g r) (mN g 3 (40 * sdR g r + k)) p = nn) : uN (alS g r p nn k) 21 (40 * r + k) 0 = alS g r p nn (k + 1) := by
  unfold alS
  rw [sN_step (g := alF g r p nn (k + 1))]
  intro z
  unfold alF
  by_cases c : z = 40 * r + k
  · rw [if_pos c, if_pos (by omega), c, Nat.add_sub_cancel_left, alV, if_neg]
    unfold alB
    rw [decide_eq_true h]; cases decide (mN g 21 (40 * r + k) = 0) <;> decide
  · rw [if_neg c]
    by_cases d : 40 * r ≤ z ∧ z < 40 * r + k
    · rw [if_pos d, if_pos (by omega)]
    · rw [if_neg d, if_neg (by omega)]
theorem al_s1 {g : mS} {r p k : Nat} {nn : Bool} (h : alV g r p nn k = mN g 21 (40 * r + k)) : alS g r p nn k = alS g r p nn (k + 1) := by
  unfold alS
  congr 1
  funext z
  unfold alF
  by_cases c : z = 40 * r + k
  · rw [if_neg (by omega), if_pos (by omega), c, Nat.add_sub_cancel_left, h]
  · by_cases d : 40 * r ≤ z ∧ z < 40 * r + k
    · rw [if_pos d, if_pos (by omega)]
    · rw [if_neg d, if_neg (by omega)]
theorem al_same {g : mS} {r p k : Nat} {nn : Bool} (h : ¬ mHas g (sdR g r) (mN g 3 (40 * sdR g r + k)) p = nn) : alV g r p nn k = mN g 21 (40 * r + k) := by
  unfold alV alB
  rw [decide_eq_false h]
  by_cases c : mN g 21 (40 * r + k) = 0
  · rw [if_neg (by rw [decide_eq_true c]; decide), c]
  · rw [if_pos (by rw [decide_eq_false c]; rfl)]
theorem row_0 {v : Nat} (h1 : v < 512) (h2 : v % 2 = 0) (h : ∀ z, z < 9 → 1 ≤ z → ¬ v / 2 ^ z % 2 = 1) : v = 0 := by
  refine bits_0 fun k hk => ?_
  by_cases c : 9 ≤ k
  · have : v / 2 ^ k = 0 := Nat.div_eq_of_lt (Nat.lt_of_lt_of_le h1 (Nat.pow_le_pow_right (n := 2) (by decide) c))
    rw [this] at hk; cases hk
  · by_cases d : k = 0
    · subst d; rw [Nat.pow_zero, Nat.div_one] at hk; omega
    · exact h k (by omega) (by omega) hk
theorem al_end {g : mS} (I : mInv g) {r p s : Nat} {nn : Bool} (hr : r < 8) (hs : s < 2) (e : mI g 20 r = nI s) : ∀ j, mN g 1 s + j ≤ 40 → alS g r p nn (mN g 1 s) = alS g r p nn (mN g 1 s + j)
  | 0, _ => rfl
  | j + 1, h => by
    rw [al_end I hr hs e j (by omega), ← Nat.add_assoc]
    refine al_s1 ?_
    have hz : mN g 21 (40 * r + (mN g 1 s + j)) = 0 := by
      obtain ⟨a, b⟩ := sz_b I hr (mN g 1 s + j) (by omega)
      refine row_0 a b fun z hz h1 hb => ?_
      have := I.2.2.2.2.2.2.2.2.2.2.2.2.2.2.1 r s hr hs e (mN g 1 s + j) (by omega) z hz hb
      omega
    unfold alV
    rw [hz, ite_self]
def dl_X6_aligned : List (Nat × Instr × Nat) := [(0, .aload_n 0, 1), (1, .iload_n 1, 1), (2, .invokevirtual 184, 3), (5, .astore 4, 2), (7, .aload_n 0, 1), (8, .iload_n 2, 1), (9, .invokevirtual 168, 3), (12, .astore 5, 2), (14, .aload_n 0, 1), (15, .getfield 11, 3), (18, .aload 4, 2), (20, .getfield 188, 3), (23, .aaload, 1), (24, .astore 6, 2), (26, .aload_n 0, 1), (27, .aload 5, 2), (29, .aload_n 0, 1), (30, .getfield 11, 3), (33, .iconst 1, 1), (34, .aload 4, 2), (36, .getfield 188, 3), (39, .isub, 1), (40, .aaload, 1), (41, .invokevirtual 205, 3), (44, .lstore 7, 2), (46, .iconst 0, 1), (47, .istore 9, 2), (49, .iload 9, 2), (51, .aload 6, 2), (53, .getfield 61, 3), (56, .if_icmp .ge 53, 3), (59, .aload 6, 2), (61, .getfield 93, 3), (64, .aload 6, 2), (66, .getfield 99, 3), (69, .iload 9, 2), (71, .iaload, 1), (72, .laload, 1), (73, .lload 7, 2), (75, .land, 1), (76, .lconst 0, 1), (77, .lcmp, 1), (78, .ifCond .eq 7, 3), (81, .iconst 1, 1), (82, .goto 4, 3), (85, .iconst 0, 1), (86, .istore 10, 2), (88, .iload 10, 2), (90, .iload_n 3, 1), (91, .if_icmp .ne 12, 3), (94, .aload 4, 2), (96, .getfield 178, 3), (99, .iload 9, 2), (101, .iconst 0, 1), (102, .iastore, 1), (103, .iinc 9 1, 3), (106, .goto (-57), 3), (109, .aload 4, 2), (111, .invokevirtual 181, 3), (114, .ireturn, 1)]
theorem dc_X6_aligned : dnL cX6_aligned dl_X6_aligned = true := by decide +kernel
theorem d_X6_aligned_0 : dn cX6_aligned 0 (.aload_n 0) 1 1 := dnAt dc_X6_aligned 0 rfl rfl
theorem d_X6_aligned_1 : dn cX6_aligned 1 (.iload_n 1) 1 2 := dnAt dc_X6_aligned 1 rfl rfl
theorem d_X6_aligned_2 : dn cX6_aligned 2 (.invokevirtual 184) 3 5 := dnAt dc_X6_aligned 2 rfl rfl
theorem d_X6_aligned_5 : dn cX6_aligned 5 (.astore 4) 2 7 := dnAt dc_X6_aligned 3 rfl rfl
theorem d_X6_aligned_7 : dn cX6_aligned 7 (.aload_n 0) 1 8 := dnAt dc_X6_aligned 4 rfl rfl
theorem d_X6_aligned_8 : dn cX6_aligned 8 (.iload_n 2) 1 9 := dnAt dc_X6_aligned 5 rfl rfl
theorem d_X6_aligned_9 : dn cX6_aligned 9 (.invokevirtual 168) 3 12 := dnAt dc_X6_aligned 6 rfl rfl
theorem d_X6_aligned_12 : dn cX6_aligned 12 (.astore 5) 2 14 := dnAt dc_X6_aligned 7 rfl rfl
theorem d_X6_aligned_14 : dn cX6_aligned 14 (.aload_n 0) 1 15 := dnAt dc_X6_aligned 8 rfl rfl
theorem d_X6_aligned_15 : dn cX6_aligned 15 (.getfield 11) 3 18 := dnAt dc_X6_aligned 9 rfl rfl
theorem d_X6_aligned_18 : dn cX6_aligned 18 (.aload 4) 2 20 := dnAt dc_X6_aligned 10 rfl rfl
theorem d_X6_aligned_20 : dn cX6_aligned 20 (.getfield 188) 3 23 := dnAt dc_X6_aligned 11 rfl rfl
theorem d_X6_aligned_23 : dn cX6_aligned 23 (.aaload) 1 24 := dnAt dc_X6_aligned 12 rfl rfl
theorem d_X6_aligned_24 : dn cX6_aligned 24 (.astore 6) 2 26 := dnAt dc_X6_aligned 13 rfl rfl
theorem d_X6_aligned_26 : dn cX6_aligned 26 (.aload_n 0) 1 27 := dnAt dc_X6_aligned 14 rfl rfl
theorem d_X6_aligned_27 : dn cX6_aligned 27 (.aload 5) 2 29 := dnAt dc_X6_aligned 15 rfl rfl
theorem d_X6_aligned_29 : dn cX6_aligned 29 (.aload_n 0) 1 30 := dnAt dc_X6_aligned 16 rfl rfl
theorem d_X6_aligned_30 : dn cX6_aligned 30 (.getfield 11) 3 33 := dnAt dc_X6_aligned 17 rfl rfl
theorem d_X6_aligned_33 : dn cX6_aligned 33 (.iconst 1) 1 34 := dnAt dc_X6_aligned 18 rfl rfl
theorem d_X6_aligned_34 : dn cX6_aligned 34 (.aload 4) 2 36 := dnAt dc_X6_aligned 19 rfl rfl
theorem d_X6_aligned_36 : dn cX6_aligned 36 (.getfield 188) 3 39 := dnAt dc_X6_aligned 20 rfl rfl
theorem d_X6_aligned_39 : dn cX6_aligned 39 (.isub) 1 40 := dnAt dc_X6_aligned 21 rfl rfl
theorem d_X6_aligned_40 : dn cX6_aligned 40 (.aaload) 1 41 := dnAt dc_X6_aligned 22 rfl rfl
theorem d_X6_aligned_41 : dn cX6_aligned 41 (.invokevirtual 205) 3 44 := dnAt dc_X6_aligned 23 rfl rfl
theorem d_X6_aligned_44 : dn cX6_aligned 44 (.lstore 7) 2 46 := dnAt dc_X6_aligned 24 rfl rfl
theorem d_X6_aligned_46 : dn cX6_aligned 46 (.iconst 0) 1 47 := dnAt dc_X6_aligned 25 rfl rfl
theorem d_X6_aligned_47 : dn cX6_aligned 47 (.istore 9) 2 49 := dnAt dc_X6_aligned 26 rfl rfl
theorem d_X6_aligned_49 : dn cX6_aligned 49 (.iload 9) 2 51 := dnAt dc_X6_aligned 27 rfl rfl
theorem d_X6_aligned_51 : dn cX6_aligned 51 (.aload 6) 2 53 := dnAt dc_X6_aligned 28 rfl rfl
theorem d_X6_aligned_53 : dn cX6_aligned 53 (.getfield 61) 3 56 := dnAt dc_X6_aligned 29 rfl rfl
theorem d_X6_aligned_56 : dn cX6_aligned 56 (.if_icmp .ge 53) 3 59 := dnAt dc_X6_aligned 30 rfl rfl
theorem d_X6_aligned_59 : dn cX6_aligned 59 (.aload 6) 2 61 := dnAt dc_X6_aligned 31 rfl rfl
theorem d_X6_aligned_61 : dn cX6_aligned 61 (.getfield 93) 3 64 := dnAt dc_X6_aligned 32 rfl rfl
theorem d_X6_aligned_64 : dn cX6_aligned 64 (.aload 6) 2 66 := dnAt dc_X6_aligned 33 rfl rfl
theorem d_X6_aligned_66 : dn cX6_aligned 66 (.getfield 99) 3 69 := dnAt dc_X6_aligned 34 rfl rfl
theorem d_X6_aligned_69 : dn cX6_aligned 69 (.iload 9) 2 71 := dnAt dc_X6_aligned 35 rfl rfl
theorem d_X6_aligned_71 : dn cX6_aligned 71 (.iaload) 1 72 := dnAt dc_X6_aligned 36 rfl rfl
theorem d_X6_aligned_72 : dn cX6_aligned 72 (.laload) 1 73 := dnAt dc_X6_aligned 37 rfl rfl
theorem d_X6_aligned_73 : dn cX6_aligned 73 (.lload 7) 2 75 := dnAt dc_X6_aligned 38 rfl rfl
theorem d_X6_aligned_75 : dn cX6_aligned 75 (.land) 1 76 := dnAt dc_X6_aligned 39 rfl rfl
theorem d_X6_aligned_76 : dn cX6_aligned 76 (.lconst 0) 1 77 := dnAt dc_X6_aligned 40 rfl rfl
theorem d_X6_aligned_77 : dn cX6_aligned 77 (.lcmp) 1 78 := dnAt dc_X6_aligned 41 rfl rfl
theorem d_X6_aligned_78 : dn cX6_aligned 78 (.ifCond .eq 7) 3 81 := dnAt dc_X6_aligned 42 rfl rfl
theorem d_X6_aligned_81 : dn cX6_aligned 81 (.iconst 1) 1 82 := dnAt dc_X6_aligned 43 rfl rfl
theorem d_X6_aligned_82 : dn cX6_aligned 82 (.goto 4) 3 85 := dnAt dc_X6_aligned 44 rfl rfl
theorem d_X6_aligned_85 : dn cX6_aligned 85 (.iconst 0) 1 86 := dnAt dc_X6_aligned 45 rfl rfl
theorem d_X6_aligned_86 : dn cX6_aligned 86 (.istore 10) 2 88 := dnAt dc_X6_aligned 46 rfl rfl
theorem d_X6_aligned_88 : dn cX6_aligned 88 (.iload 10) 2 90 := dnAt dc_X6_aligned 47 rfl rfl
theorem d_X6_aligned_90 : dn cX6_aligned 90 (.iload_n 3) 1 91 := dnAt dc_X6_aligned 48 rfl rfl
theorem d_X6_aligned_91 : dn cX6_aligned 91 (.if_icmp .ne 12) 3 94 := dnAt dc_X6_aligned 49 rfl rfl
theorem d_X6_aligned_94 : dn cX6_aligned 94 (.aload 4) 2 96 := dnAt dc_X6_aligned 50 rfl rfl
theorem d_X6_aligned_96 : dn cX6_aligned 96 (.getfield 178) 3 99 := dnAt dc_X6_aligned 51 rfl rfl
theorem d_X6_aligned_99 : dn cX6_aligned 99 (.iload 9) 2 101 := dnAt dc_X6_aligned 52 rfl rfl
theorem d_X6_aligned_101 : dn cX6_aligned 101 (.iconst 0) 1 102 := dnAt dc_X6_aligned 53 rfl rfl
theorem d_X6_aligned_102 : dn cX6_aligned 102 (.iastore) 1 103 := dnAt dc_X6_aligned 54 rfl rfl
theorem d_X6_aligned_103 : dn cX6_aligned 103 (.iinc 9 1) 3 106 := dnAt dc_X6_aligned 55 rfl rfl
theorem d_X6_aligned_106 : dn cX6_aligned 106 (.goto (-57)) 3 109 := dnAt dc_X6_aligned 56 rfl rfl
theorem d_X6_aligned_109 : dn cX6_aligned 109 (.aload 4) 2 111 := dnAt dc_X6_aligned 57 rfl rfl
theorem d_X6_aligned_111 : dn cX6_aligned 111 (.invokevirtual 181) 3 114 := dnAt dc_X6_aligned 58 rfl rfl
theorem d_X6_aligned_114 : dn cX6_aligned 114 (.ireturn) 1 115 := dnAt dc_X6_aligned 59 rfl rfl
set_option maxHeartbeats 4000000 in
set_option maxRecDepth 100000 in
theorem k_aligned {l : Launch} {G : eG} {ad : Nat → Nat → Nat} {h : hp} {g : mS} {T : Nat → tC3} {Y : Nat → pA} {r pat : Int32} {nn : Bool} (hlf : l.stackTraces = false) (hm : co G ad g h) (I : mInv g) (J : rInv g) (PI : pInv g) (AI : aInv g) (WI : wInv g) (LP : ptk G ad h g T Y) : kX l G ad h yX6_aligned cX6_aligned 11 (Option.some Jvm.ClassFile.FieldType.int) { frames := 7, cells := 2, slots := 12, locals := 179 } [.ref (ad 0 0), .int r, .int pat, .int (bI nn)] (fun v9 g9 _ => v9 = some (.int (nI (rAl g r pat nn))) ∧ cAl g r pat = 0 ∧ ∃ f9 k9 b9, g9 = wst (alS g (tn r) (tn pat) nn 40) f9 k9 b9 ∧ ∀ z, z < 140 → f9 z < 4194304) (fun E9 g9 => (E9 = "java/lang/IndexOutOfBoundsException" ∧ cAl g r pat = 1) ∧ g9 = g) := by
  refine kX.of hlf hm (by decide) (Nat.le_of_ble_eq_true rfl) ?_
  intro x C A TY X
  show VC G x ad h g 0 0 0 [(0, .ref (ad 0 0)), (1, .int r), (2, .int pat), (3, .int (bI nn))] []
  have h15 := pats_le I
  have hpt := fun j hj => (LP j hj).1
  refine c_aload_n C d_X6_aligned_0 0 rfl ?_
  refine c_iload_n C d_X6_aligned_1 1 rfl ?_
  refine k_callVX C X cfr_rf d_X6_aligned_2 ok_RX6_184 (k := 0) (i' := 0) (fun l h hl hm hf => k_knownResult hl hm J r) rfl rfl rfl rfl (rest := []) rfl rfl (Nat.le_of_ble_eq_true rfl) ⟨⟨by decide, by decide⟩, Nat.le_of_ble_eq_true rfl, Nat.le_of_ble_eq_true rfl⟩ (fun _ _ e => ⟨⟨e.1, by rw [cAl, if_neg (by rw [e.2.1]; exact Bool.false_ne_true)]⟩, e.2.2⟩) (fun v9 g9 hq1 e9 F1 => ?_)
  obtain ⟨rfl, z1, i1⟩ := e9
  refine c_eq z1 ?_
  obtain ⟨j1, s1, t1⟩ := mIsR_of i1
  refine c_base F1 ?_
  show VC G x ad h g 1 6 5 [(0, .ref (ad 0 0)), (1, .int r), (2, .int pat), (3, .int (bI nn))] [.ref (ad 20 (tn r))]
  refine c_astore C d_X6_aligned_5 (lv' := [(4, .ref (ad 20 (tn r))), (0, .ref (ad 0 0)), (1, .int r), (2, .int pat), (3, .int (bI nn))]) (by decide) rfl ?_
  refine c_aload_n C d_X6_aligned_7 1 rfl ?_
  refine c_iload_n C d_X6_aligned_8 3 rfl ?_
  refine k_callVX C X cfr_rf d_X6_aligned_9 ok_RX6_168 (k := 0) (i' := 0) (fun l h hl hm hf => k_knownPattern hl hm h15 hpt pat) rfl rfl rfl rfl (rest := []) rfl rfl (Nat.le_of_ble_eq_true rfl) ⟨⟨by decide, by decide⟩, Nat.le_of_ble_eq_true rfl, Nat.le_of_ble_eq_true rfl⟩ (fun _ _ e => ⟨⟨e.1, by rw [cAl, if_neg (by rw [show mIsP g pat = false from e.2.1, Bool.and_false]; decide)]⟩, e.2.2⟩) (fun v9 g9 hq2 e9 F2 => ?_)
  obtain ⟨rfl, z2, i2⟩ := e9
  refine c_eq z2 ?_
  obtain ⟨j2, s2⟩ := inI_of (by omega) i2
  refine c_base F2 ?_
  show VC G x ad h g 2 12 12 [(4, .ref (ad 20 (tn r))), (0, .ref (ad 0 0)), (1, .int r), (2, .int pat), (3, .int (bI nn))] [.ref (mN g 61 (tn pat) - 1)]
  have z0 : cAl g r pat = 0 := by rw [cAl, if_pos (by rw [i1, show mIsP g pat = true from i2]; rfl)]
  obtain ⟨he, hs2⟩ := (J (tn r) s1).2 t1
  have hsd := sd_54 J s1 t1
  have hmn := I.1 (mN g 54 (tn r)) hs2
  have hmn2 := I.1 (1 - mN g 54 (tn r)) (by omega)
  obtain ⟨-, ⟨is9, WK9⟩, WR9, WL9⟩ := LP (tn pat) (by omega)
  refine c_lve (lv' := [(4, .ref (ad 20 (tn r))), (0, .ref (ad 0 0)), (1, .int (nI (tn r))), (2, .int (nI (tn pat))), (3, .int (bI nn))]) (by rw [← j1, ← j2]) ?_
  refine c_astore C d_X6_aligned_12 (lv' := [(5, .ref (mN g 61 (tn pat) - 1)), (4, .ref (ad 20 (tn r))), (0, .ref (ad 0 0)), (1, .int (nI (tn r))), (2, .int (nI (tn pat))), (3, .int (bI nn))]) (by decide) rfl ?_
  refine c_aload_n C d_X6_aligned_14 2 rfl ?_
  refine c_get C d_X6_aligned_15 fd_RX6_11 (k := 0) (i' := 0) rfl rfl (v := .ref (ad 1 0)) rfl ?_
  refine c_aload C d_X6_aligned_18 1 rfl ?_
  refine c_get C d_X6_aligned_20 fd_RX6_188 (k := 20) (i' := tn r) (decide_eq_true (by omega)) rfl (v := .int (nI (mN g 54 (tn r)))) rfl ?_
  refine c_aSide C d_X6_aligned_23 (s := mN g 54 (tn r)) (by omega) ?_
  refine c_astore C d_X6_aligned_24 (lv' := [(6, .ref (ad 10 (mN g 54 (tn r)))), (5, .ref (mN g 61 (tn pat) - 1)), (4, .ref (ad 20 (tn r))), (0, .ref (ad 0 0)), (1, .int (nI (tn r))), (2, .int (nI (tn pat))), (3, .int (bI nn))]) (by decide) rfl ?_
  refine c_aload_n C d_X6_aligned_26 3 rfl ?_
  refine c_aload C d_X6_aligned_27 1 rfl ?_
  refine c_aload_n C d_X6_aligned_29 3 rfl ?_
  refine c_get C d_X6_aligned_30 fd_RX6_11 (k := 0) (i' := 0) rfl rfl (v := .ref (ad 1 0)) rfl ?_
  refine c_iconst C d_X6_aligned_33 (v := (nI 1)) rfl ?_
  refine c_aload C d_X6_aligned_34 2 rfl ?_
  refine c_get C d_X6_aligned_36 fd_RX6_188 (k := 20) (i' := tn r) (decide_eq_true (by omega)) rfl (v := .int (nI (mN g 54 (tn r)))) rfl ?_
  refine cn_isub C d_X6_aligned_39 (by omega) ?_
  refine c_aSide C d_X6_aligned_40 (s := 1 - (mN g 54 (tn r))) (by omega) ?_
  refine k_callV C d_X6_aligned_41 ok_RX6_205 (k := 0) (i' := 0) (fun l h hm hf => k_sentencesWith (p := tn pat) hm I WI (by omega) (by omega) (WK9.mv hf) WR9 WL9) rfl rfl rfl rfl (rest := []) rfl rfl (Nat.le_of_ble_eq_true rfl) ⟨⟨by decide, by decide⟩, Nat.le_of_ble_eq_true rfl, Nat.le_of_ble_eq_true rfl⟩ (fun v9 g9 hq3 e9 F3 => ?_)
  obtain ⟨rfl, f3, k3, b3, rfl, hf3⟩ := e9
  refine c_base F3 ?_
  show VC G x ad h (wst g f3 k3 b3) 2 12 44 [(6, .ref (ad 10 (mN g 54 (tn r)))), (5, .ref (mN g 61 (tn pat) - 1)), (4, .ref (ad 20 (tn r))), (0, .ref (ad 0 0)), (1, .int (nI (tn r))), (2, .int (nI (tn pat))), (3, .int (bI nn))] [.long (lN (swH g (tn pat) (1 - mN g 54 (tn r)) (mN g 1 (1 - mN g 54 (tn r)))))]
  refine c_lstore C d_X6_aligned_44 (lv' := [(7, .long (lN (swH g (tn pat) (1 - mN g 54 (tn r)) (mN g 1 (1 - mN g 54 (tn r)))))), (6, .ref (ad 10 (mN g 54 (tn r)))), (5, .ref (mN g 61 (tn pat) - 1)), (4, .ref (ad 20 (tn r))), (0, .ref (ad 0 0)), (1, .int (nI (tn r))), (2, .int (nI (tn pat))), (3, .int (bI nn))]) (by decide) rfl ?_
  refine c_gh (al_0 (r := tn r) (p := tn pat) (nn := nn)) ?_
  refine c_iconst C d_X6_aligned_46 (v := (nI 0)) rfl ?_
  refine c_istore C d_X6_aligned_47 (lv' := [(9, .int (nI 0)), (7, .long (lN (swH g (tn pat) (1 - mN g 54 (tn r)) (mN g 1 (1 - mN g 54 (tn r)))))), (6, .ref (ad 10 (mN g 54 (tn r)))), (5, .ref (mN g 61 (tn pat) - 1)), (4, .ref (ad 20 (tn r))), (0, .ref (ad 0 0)), (1, .int (nI (tn r))), (2, .int (nI (tn pat))), (3, .int (bI nn))]) (by decide) rfl ?_
  have loop_49 : ∀ (fuel : Nat) (k : Nat), (k ≤ mN g 1 (mN g 54 (tn r))) → (41 - k) < fuel → VC G x ad h (wst (alS g (tn r) (tn pat) nn k) f3 k3 b3) 2 12 49 [(9, .int (nI k)), (7, .long (lN (swH g (tn pat) (1 - mN g 54 (tn r)) (mN g 1 (1 - mN g 54 (tn r)))))), (6, .ref (ad 10 (mN g 54 (tn r)))), (5, .ref (mN g 61 (tn pat) - 1)), (4, .ref (ad 20 (tn r))), (0, .ref (ad 0 0)), (1, .int (nI (tn r))), (2, .int (nI (tn pat))), (3, .int (bI nn))] [] := by
    intro fuel
    induction fuel with
    | zero => intro k hk hf9; exact absurd hf9 (Nat.not_lt_zero _)
    | succ fuel ih_49 =>
      intro k hk hf9
      refine c_iload C d_X6_aligned_49 0 rfl ?_
      refine c_aload C d_X6_aligned_51 2 rfl ?_
      refine c_get C d_X6_aligned_53 fd_RX6_61 (k := 10) (i' := mN g 54 (tn r)) (decide_eq_true (by omega)) rfl (v := .int (nI (mN (wst (alS g (tn r) (tn pat) nn k) f3 k3 b3) 1 (mN g 54 (tn r))))) rfl ?_
      refine c_st (st' := [.int (nI (mN g 1 (mN g 54 (tn r)))), .int (nI k)]) (by first | rfl | simp only [mN_uN, mB_uB, mK_uK, and_self, if_true]) ?_
      refine cn_icmp_ge C d_X6_aligned_56 (tgt := 109) rfl (by omega) (by omega) (fun c_56 => ?_) (fun c_56 => ?_)
      · skip
        have e9 : k = mN g 1 (mN g 54 (tn r)) := by omega
        have hE := al_end I (p := tn pat) (nn := nn) s1 hs2 he (40 - mN g 1 (mN g 54 (tn r))) (by omega)
        rw [show mN g 1 (mN g 54 (tn r)) + (40 - mN g 1 (mN g 54 (tn r))) = 40 by omega] at hE
        refine c_aload C d_X6_aligned_109 4 rfl ?_
        refine k_callV C d_X6_aligned_111 ok_RX6_181 (k := 20) (i' := tn r) (fun l h hm hf => k_matchCount hm (by omega) (al_hl I s1)) (decide_eq_true (by omega)) rfl rfl rfl (rest := []) rfl rfl (Nat.le_of_ble_eq_true rfl) ⟨⟨by decide, by decide⟩, Nat.le_of_ble_eq_true rfl, Nat.le_of_ble_eq_true rfl⟩ (fun v9 g9 hq4 e9 F4 => ?_)
        obtain ⟨rfl, z4⟩ := e9
        refine c_eq z4 ?_
        refine c_base F4 ?_
        show VC G x ad h (wst (alS g (tn r) (tn pat) nn k) f3 k3 b3) 2 12 114 [(9, .int (nI k)), (7, .long (lN (swH g (tn pat) (1 - mN g 54 (tn r)) (mN g 1 (1 - mN g 54 (tn r)))))), (6, .ref (ad 10 (mN g 54 (tn r)))), (5, .ref (mN g 61 (tn pat) - 1)), (4, .ref (ad 20 (tn r))), (0, .ref (ad 0 0)), (1, .int (nI (tn r))), (2, .int (nI (tn pat))), (3, .int (bI nn))] [.int (nI (mSize (wst (alS g (tn r) (tn pat) nn k) f3 k3 b3) (tn r)))]
        refine c_st (st' := [.int (nI (rAl g r pat nn))]) (by rw [rAl, if_pos z0, tAl, if_pos z0, e9, hE]; rfl) ?_
        exact k_iret C A cfr_rf TY d_X6_aligned_114 rfl (Nat.le_of_ble_eq_true rfl) (Nat.le_of_ble_eq_true rfl) (fun h9 F9 => ⟨rfl, z0, f3, k3, b3, by rw [e9, hE], hf3⟩)
      · skip
        have hits : mN g 3 (40 * (mN g 54 (tn r)) + k) < 40 := by have := I.2.2.1 (40 * (mN g 54 (tn r)) + k) (by omega); omega
        have hpv : mN g 53 (40 * (mN g 54 (tn r)) + mN g 3 (40 * (mN g 54 (tn r)) + k)) &&& swH g (tn pat) (1 - mN g 54 (tn r)) (mN g 1 (1 - mN g 54 (tn r))) < 9223372036854775808 := Nat.lt_of_le_of_lt Nat.and_le_left (by have := PI (40 * (mN g 54 (tn r)) + mN g 3 (40 * (mN g 54 (tn r)) + k)) (by omega); omega)
        refine c_aload C d_X6_aligned_59 2 rfl ?_
        refine c_get C d_X6_aligned_61 fd_RX6_93 (k := 10) (i' := mN g 54 (tn r)) (decide_eq_true (by omega)) rfl (v := .ref (ad 14 (mN g 54 (tn r)))) rfl ?_
        refine c_aload C d_X6_aligned_64 2 rfl ?_
        refine c_get C d_X6_aligned_66 fd_RX6_99 (k := 10) (i' := mN g 54 (tn r)) (decide_eq_true (by omega)) rfl (v := .ref (ad 12 (mN g 54 (tn r)))) rfl ?_
        refine c_iload C d_X6_aligned_69 0 rfl ?_
        refine c_ald C d_X6_aligned_71 (k := 12) (i := mN g 54 (tn r)) (decide_eq_true (by omega)) rfl (by show _ < 40; omega) ?_
        refine c_st (st' := [.int (nI (mN g 3 (40 * (mN g 54 (tn r)) + k))), .ref (ad 14 (mN g 54 (tn r)))]) (rfl) ?_
        refine c_lald C d_X6_aligned_72 (i := mN g 54 (tn r)) (by omega) (by show _ < 40; omega) ?_
        refine c_st (st' := [.long (lN (mN g 53 (40 * (mN g 54 (tn r)) + (mN g 3 (40 * (mN g 54 (tn r)) + k)))))]) (rfl) ?_
        refine c_lload C d_X6_aligned_73 1 rfl ?_
        refine cn_land C d_X6_aligned_75 ?_
        refine c_lconst C d_X6_aligned_76 (v := (lN 0)) rfl ?_
        refine cn_lcmp C d_X6_aligned_77 (hpv) (by decide) ?_
        have join_86 : VC G x ad h (wst (alS g (tn r) (tn pat) nn k) f3 k3 b3) 2 12 86 [(9, .int (nI k)), (7, .long (lN (swH g (tn pat) (1 - mN g 54 (tn r)) (mN g 1 (1 - mN g 54 (tn r)))))), (6, .ref (ad 10 (mN g 54 (tn r)))), (5, .ref (mN g 61 (tn pat) - 1)), (4, .ref (ad 20 (tn r))), (0, .ref (ad 0 0)), (1, .int (nI (tn r))), (2, .int (nI (tn pat))), (3, .int (bI nn))] [.int (bI (mHas g (sdR g (tn r)) (mN g 3 (40 * sdR g (tn r) + k)) (tn pat)))] := by
          refine c_istore C d_X6_aligned_86 (lv' := [(10, .int (bI (mHas g (sdR g (tn r)) (mN g 3 (40 * sdR g (tn r) + k)) (tn pat)))), (9, .int (nI k)), (7, .long (lN (swH g (tn pat) (1 - mN g 54 (tn r)) (mN g 1 (1 - mN g 54 (tn r)))))), (6, .ref (ad 10 (mN g 54 (tn r)))), (5, .ref (mN g 61 (tn pat) - 1)), (4, .ref (ad 20 (tn r))), (0, .ref (ad 0 0)), (1, .int (nI (tn r))), (2, .int (nI (tn pat))), (3, .int (bI nn))]) (by decide) rfl ?_
          refine c_iload C d_X6_aligned_88 0 rfl ?_
          refine c_iload_n C d_X6_aligned_90 9 rfl ?_
          have join_103 : VC G x ad h (wst (alS g (tn r) (tn pat) nn (k + 1)) f3 k3 b3) 2 12 103 [(9, .int (nI k)), (7, .long (lN (swH g (tn pat) (1 - mN g 54 (tn r)) (mN g 1 (1 - mN g 54 (tn r)))))), (6, .ref (ad 10 (mN g 54 (tn r)))), (5, .ref (mN g 61 (tn pat) - 1)), (4, .ref (ad 20 (tn r))), (0, .ref (ad 0 0)), (1, .int (nI (tn r))), (2, .int (nI (tn pat))), (3, .int (bI nn))] [] := by
            refine cn_iinc C d_X6_aligned_103 (lv' := [(9, .int (nI (k + 1))), (7, .long (lN (swH g (tn pat) (1 - mN g 54 (tn r)) (mN g 1 (1 - mN g 54 (tn r)))))), (6, .ref (ad 10 (mN g 54 (tn r)))), (5, .ref (mN g 61 (tn pat) - 1)), (4, .ref (ad 20 (tn r))), (0, .ref (ad 0 0)), (1, .int (nI (tn r))), (2, .int (nI (tn pat))), (3, .int (bI nn))]) 0 rfl (nI_inc _ rfl) (by decide) rfl ?_
            refine c_goto C d_X6_aligned_106 (tgt := 49) rfl ?_
            exact ih_49 (k + 1) (by omega) (by omega)
          refine c_icmp_ne C d_X6_aligned_91 (tgt := 103) rfl (fun c_91 => ?_) (fun c_91 => ?_)
          · skip
            refine c_lv (lv' := [(9, .int (nI k)), (7, .long (lN (swH g (tn pat) (1 - mN g 54 (tn r)) (mN g 1 (1 - mN g 54 (tn r)))))), (6, .ref (ad 10 (mN g 54 (tn r)))), (5, .ref (mN g 61 (tn pat) - 1)), (4, .ref (ad 20 (tn r))), (0, .ref (ad 0 0)), (1, .int (nI (tn r))), (2, .int (nI (tn pat))), (3, .int (bI nn))]) [1, 2, 3, 4, 5, 6, 7, 8, 9] rfl ?_
            refine c_eq (g' := wst (alS g (tn r) (tn pat) nn (k + 1)) f3 k3 b3) (by rw [al_s1 (al_same (fun z => c_91 (by rw [z])))]) ?_
            exact join_103  
          · skip
            have c91 := Classical.not_not.mp c_91
            refine c_aload C d_X6_aligned_94 5 rfl ?_
            refine c_get C d_X6_aligned_96 fd_RX6_178 (k := 20) (i' := tn r) (decide_eq_true (by omega)) rfl (v := .ref (ad 21 (tn r))) rfl ?_
            refine c_iload C d_X6_aligned_99 1 rfl ?_
            refine c_iconst C d_X6_aligned_101 (v := (nI 0)) rfl ?_
            refine c_ast C d_X6_aligned_102 (k := 21) (i := tn r) (v := 0) (decide_eq_true (by omega)) rfl (by show _ < 40; omega) ?_
            refine c_lv (lv' := [(9, .int (nI k)), (7, .long (lN (swH g (tn pat) (1 - mN g 54 (tn r)) (mN g 1 (1 - mN g 54 (tn r)))))), (6, .ref (ad 10 (mN g 54 (tn r)))), (5, .ref (mN g 61 (tn pat) - 1)), (4, .ref (ad 20 (tn r))), (0, .ref (ad 0 0)), (1, .int (nI (tn r))), (2, .int (nI (tn pat))), (3, .int (bI nn))]) [1, 2, 3, 4, 5, 6, 7, 8, 9] rfl ?_
            refine c_eq (g' := wst (alS g (tn r) (tn pat) nn (k + 1)) f3 k3 b3) (by rw [uN_wst (by decide), al_s0 (bI_inj.mp c91)]) ?_
            exact join_103  
        refine c_if_eq C d_X6_aligned_78 (tgt := 85) rfl (fun c_78 => ?_) (fun c_78 => ?_)
        · skip
          refine c_iconst C d_X6_aligned_85 (v := (bI false)) rfl ?_
          refine c_st (st' := [.int (bI (mHas g (sdR g (tn r)) (mN g 3 (40 * sdR g (tn r) + k)) (tn pat)))]) (by rw [hsd]; exact congrArg (fun z => [Value.int (bI z)]) ((has_iff I AI hs2 hits).mp ((lcmp_0 hpv (by decide)).mp c_78)).symm) ?_
          exact join_86  
        · skip
          refine c_iconst C d_X6_aligned_81 (v := (bI true)) rfl ?_
          refine c_goto C d_X6_aligned_82 (tgt := 86) rfl ?_
          refine c_st (st' := [.int (bI (mHas g (sdR g (tn r)) (mN g 3 (40 * sdR g (tn r) + k)) (tn pat)))]) (by rw [hsd]; exact congrArg (fun z => [Value.int (bI z)]) (Classical.byContradiction fun q => c_78 ((lcmp_0 hpv (by decide)).mpr ((has_iff I AI hs2 hits).mpr (Bool.eq_false_iff.mpr fun z => q z.symm))))) ?_
          exact join_86  
  exact loop_49 _ 0 (by omega) (Nat.lt_succ_self _)
