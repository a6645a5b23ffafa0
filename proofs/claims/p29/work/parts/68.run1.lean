theorem tw_104 : (Jvm.Cond.fieldLink "Corpusline" (43 : Nat) "Corpusline" "walker" "LCorpusline$Walker;") ∈ TB := tb_of 104 (by decide +kernel) rfl
theorem tw_489 : (Jvm.Cond.methodLink "Corpusline" (168 : Nat) ({ cls := "Corpusline", name := "knownPattern", desc := "(I)LCorpusline$Part;" } : Jvm.MethodName)) ∈ TB := tb_of 489 (by decide +kernel) rfl
theorem tw_491 : (Jvm.Cond.instanceMethod ({ cls := "Corpusline", name := "knownPattern", desc := "(I)LCorpusline$Part;" } : Jvm.MethodName)) ∈ TB := tb_of 491 (by decide +kernel) rfl
theorem tw_492 : (Jvm.Cond.code ({ cls := "Corpusline", name := "knownPattern", desc := "(I)LCorpusline$Part;" } : Jvm.MethodName) prog_1_method_30_code (2 : Nat) (Option.some (Jvm.ClassFile.FieldType.object "Corpusline$Part"))) ∈ TB := tb_of 492 (by decide +kernel) rfl
theorem tw_498 : (Jvm.Cond.methodLink "Corpusline" (174 : Nat) ({ cls := "Corpusline$Walker", name := "lengthFrom", desc := "(LCorpusline$Part;LCorpusline$Side;IIZ)I" } : Jvm.MethodName)) ∈ TB := tb_of 498 (by decide +kernel) rfl
theorem tw_499 : (Jvm.Cond.instanceMethod ({ cls := "Corpusline$Walker", name := "lengthFrom", desc := "(LCorpusline$Part;LCorpusline$Side;IIZ)I" } : Jvm.MethodName)) ∈ TB := tb_of 499 (by decide +kernel) rfl
theorem tw_500 : (Jvm.Cond.selects "Corpusline$Walker" ({ cls := "Corpusline$Walker", name := "lengthFrom", desc := "(LCorpusline$Part;LCorpusline$Side;IIZ)I" } : Jvm.MethodName) ({ cls := "Corpusline$Walker", name := "lengthFrom", desc := "(LCorpusline$Part;LCorpusline$Side;IIZ)I" } : Jvm.MethodName)) ∈ TB := tb_of 500 (by decide +kernel) rfl
theorem tw_501 : (Jvm.Cond.code ({ cls := "Corpusline$Walker", name := "lengthFrom", desc := "(LCorpusline$Part;LCorpusline$Side;IIZ)I" } : Jvm.MethodName) prog_7_method_2_code (9 : Nat) (Option.some Jvm.ClassFile.FieldType.int)) ∈ TB := tb_of 501 (by decide +kernel) rfl
theorem ts_10 : Cond.selects "Corpusline" ({ cls := "Corpusline", name := "knownPattern", desc := "(I)LCorpusline$Part;" } : MethodName) ({ cls := "Corpusline", name := "knownPattern", desc := "(I)LCorpusline$Part;" } : MethodName) ∈ TB := tb_sel 10 (by decide +kernel) rfl
theorem fd_RX6_43 : fdOk RX6 43 5 7 := ⟨_, _, _, rfl, by decide, cw_5, tw_104, rfl⟩
theorem ok_RX6_168 : okV RX6 168 yX6_knownPattern cX6_knownPattern 2 (Option.some (Jvm.ClassFile.FieldType.object "Corpusline$Part")) 1 := ⟨tw_489, tw_491, ts_10, tw_1, tw_492, ⟨by decide, by decide, by decide +kernel⟩⟩
theorem ok_RX6_174 : okV RX6 174 yX5_lengthFrom cX5_lengthFrom 9 (Option.some Jvm.ClassFile.FieldType.int) 5 := ⟨tw_498, tw_499, tw_500, tw_2, tw_501, ⟨by decide, by decide, by decide +kernel⟩⟩
/-- what holds of the walker between calls -/
def wInv (g : mS) : Prop := mB g 31 0 = mB g 30 0 ∧ ∀ z, z < 140 → mN g 50 z < 4194304
theorem wst_self {g : mS} (W : wInv g) : g = wst g (fun z => mN g 50 z) (mK g 41) (mB g 30 0) := mS_ext (fun k => by
    show mK g k = if k = 41 then mK g 41 else mK g k
    split
    · rename_i e; rw [e]
    · rfl) (fun k i => by
    show mN g k i = mN (sN g 50 (fun z => mN g 50 z)) k i
    rw [mN_sN]; split
    · rename_i e; rw [e]
    · rfl) (fun k i => by
    show mB g k i = if k = 31 ∧ i = 0 then mB g 30 0 else if k = 30 ∧ i = 0 then mB g 30 0 else mB g k i
    split
    · rename_i e; rw [e.1, e.2]; exact W.1
    · split
      · rename_i e; rw [e.1, e.2]
      · rfl) (fun _ _ => rfl)
/-- the patterns -/
def ptk (G : eG) (ad : Nat → Nat → Nat) (h : hp) (g : mS) (T : Nat → tC3) (Y : Nat → pA) : Prop := ∀ p, p < mK g 15 → 0 < mN g 61 p ∧ (∃ is, wkA G ad h T (mN g 61 p - 1) (Y p) is) ∧ wkR g (Y p) T (fun j => tcM g (8 * p + j)) ∧ ∀ l, lgC (Y p) (fun j => tcM g (8 * p + j)) l ↔ lgM g p l
theorem k_lenFrom {l : Launch} {G : eG} {ad : Nat → Nat → Nat} {h : hp} {g : mS} {f : Nat → Nat} {kc s pl bd p : Nat} {bb Lg is : Bool} {y : pA} {T : Nat → tC3} {a : Nat} (hm : co G ad (wst g f kc bb) h) (I : mInv g) (hp : p < 21) (W : wkA G ad h T a y is) (R : wkR g y T (fun j => tcM g (8 * p + j))) (hl : ∀ l, lgC y (fun j => tcM g (8 * p + j)) l ↔ lgM g p l) (hs : s < 2) (hpl : pl < mN g 1 s) (hb : bd < 3) (hfb : ∀ z, z < 140 → f z < 4194304) : kC l G ad h yX5_lengthFrom cX5_lengthFrom 9 (Option.some Jvm.ClassFile.FieldType.int) { frames := 5, cells := 0, slots := 0, locals := 124 } [.ref (ad 5 0), .ref a, .ref (ad 10 s), .int (nI pl), .int (nI bd), .int (bI Lg)] (fun v9 g9 _ => v9 = some (.int (nI (mLong g p s pl bd Lg))) ∧ ∃ f9 k9 b9, g9 = wst g f9 k9 b9 ∧ ∀ z, z < 140 → f9 z < 4194304) := by
  have hm40 := I.1 s hs
  have k := k_lengthFrom (l := l) (Lg := Lg) hm I W hs (show pl < 40 by omega) hb hfb (fun L hL hLp => wy_70 I R hs (by omega) (by omega)) (fun L hL hLp w hw => wy_ok I R hs hLp hw)
  rw [lf_eq I hp R hl hs hpl hb] at k
  exact k
theorem mLong_end {g : mS} (I : mInv g) {p s pl bd : Nat} {L : Bool} (hs : s < 2) (hpl : pl < mN g 1 s) : pl + mLong g p s pl bd L ≤ mN g 1 s := by
  have hm := I.1 s hs
  have he1 := eGo_ge (S := g) (s := s) (p := pl) (bd := bd) 41 (pl + 1)
  have he2 := eGo_le (S := g) (s := s) (p := pl) (bd := bd) 41 (pl + 1) (by omega)
  have he : pl ≤ eOf g s pl bd ∧ eOf g s pl bd ≤ mN g 1 s := by unfold eOf; omega
  unfold mLong mLoW
  rcases loS_spec (W := fun w => mB g 10 (256 * p + w)) (f := fun w => goN g p w s pl (eOf g s pl bd)) (L := L) (2 ^ mN g 8 p) with ⟨a, _⟩ | ⟨_, ⟨w, _, _, _, b⟩, _⟩
  · rw [a]; omega
  · rw [← b]
    show pl + goN g p w s pl (eOf g s pl bd) ≤ mN g 1 s
    unfold goN
    split
    · omega
    · rename_i pe lab e
      rw [goA_run I hs he.1 (by omega)] at e
      have := grn_le e he.1
      replace this : pe ≤ eOf g s pl bd := this
      have h2 := grn_len e
      replace h2 : pe = pl + _ := h2
      omega
theorem sumTo_s {f : Nat → Nat} {k : Nat} : sumTo f (k + 1) = sumTo f k + f k := rfl
def dl_X6_walk : List (Nat × Instr × Nat) := [(0, .aload_n 0, 1), (1, .iload_n 1, 1), (2, .invokevirtual 168, 3), (5, .astore 5, 2), (7, .aload_n 0, 1), (8, .iload_n 2, 1), (9, .invokevirtual 53, 3), (12, .astore 6, 2), (14, .iload_n 3, 1), (15, .iconst 0, 1), (16, .iconst 2, 1), (17, .invokestatic 57, 3), (20, .iconst 0, 1), (21, .istore 7, 2), (23, .iconst 0, 1), (24, .istore 8, 2), (26, .iconst 0, 1), (27, .istore 9, 2), (29, .iload 9, 2), (31, .aload 6, 2), (33, .getfield 61, 3), (36, .if_icmp .ge 42, 3), (39, .aload_n 0, 1), (40, .getfield 43, 3), (43, .aload 5, 2), (45, .aload 6, 2), (47, .iload 9, 2), (49, .iload_n 3, 1), (50, .iload 4, 2), (52, .invokevirtual 174, 3), (55, .istore 10, 2), (57, .iload 10, 2), (59, .ifCond .le 13, 3), (62, .iinc 7 1, 3), (65, .iload 8, 2), (67, .iload 10, 2), (69, .iadd, 1), (70, .istore 8, 2), (72, .iinc 9 1, 3), (75, .goto (-46), 3), (78, .iload 7, 2), (80, .bipush 100, 2), (82, .imul, 1), (83, .iload 8, 2), (85, .bipush 100, 2), (87, .irem, 1), (88, .iadd, 1), (89, .ireturn, 1)]
theorem dc_X6_walk : dnL cX6_walk dl_X6_walk = true := by decide +kernel
theorem d_X6_walk_0 : dn cX6_walk 0 (.aload_n 0) 1 1 := dnAt dc_X6_walk 0 rfl rfl
theorem d_X6_walk_1 : dn cX6_walk 1 (.iload_n 1) 1 2 := dnAt dc_X6_walk 1 rfl rfl
theorem d_X6_walk_2 : dn cX6_walk 2 (.invokevirtual 168) 3 5 := dnAt dc_X6_walk 2 rfl rfl
theorem d_X6_walk_5 : dn cX6_walk 5 (.astore 5) 2 7 := dnAt dc_X6_walk 3 rfl rfl
theorem d_X6_walk_7 : dn cX6_walk 7 (.aload_n 0) 1 8 := dnAt dc_X6_walk 4 rfl rfl
theorem d_X6_walk_8 : dn cX6_walk 8 (.iload_n 2) 1 9 := dnAt dc_X6_walk 5 rfl rfl
theorem d_X6_walk_9 : dn cX6_walk 9 (.invokevirtual 53) 3 12 := dnAt dc_X6_walk 6 rfl rfl
theorem d_X6_walk_12 : dn cX6_walk 12 (.astore 6) 2 14 := dnAt dc_X6_walk 7 rfl rfl
theorem d_X6_walk_14 : dn cX6_walk 14 (.iload_n 3) 1 15 := dnAt dc_X6_walk 8 rfl rfl
theorem d_X6_walk_15 : dn cX6_walk 15 (.iconst 0) 1 16 := dnAt dc_X6_walk 9 rfl rfl
theorem d_X6_walk_16 : dn cX6_walk 16 (.iconst 2) 1 17 := dnAt dc_X6_walk 10 rfl rfl
theorem d_X6_walk_17 : dn cX6_walk 17 (.invokestatic 57) 3 20 := dnAt dc_X6_walk 11 rfl rfl
theorem d_X6_walk_20 : dn cX6_walk 20 (.iconst 0) 1 21 := dnAt dc_X6_walk 12 rfl rfl
theorem d_X6_walk_21 : dn cX6_walk 21 (.istore 7) 2 23 := dnAt dc_X6_walk 13 rfl rfl
theorem d_X6_walk_23 : dn cX6_walk 23 (.iconst 0) 1 24 := dnAt dc_X6_walk 14 rfl rfl
theorem d_X6_walk_24 : dn cX6_walk 24 (.istore 8) 2 26 := dnAt dc_X6_walk 15 rfl rfl
theorem d_X6_walk_26 : dn cX6_walk 26 (.iconst 0) 1 27 := dnAt dc_X6_walk 16 rfl rfl
theorem d_X6_walk_27 : dn cX6_walk 27 (.istore 9) 2 29 := dnAt dc_X6_walk 17 rfl rfl
theorem d_X6_walk_29 : dn cX6_walk 29 (.iload 9) 2 31 := dnAt dc_X6_walk 18 rfl rfl
theorem d_X6_walk_31 : dn cX6_walk 31 (.aload 6) 2 33 := dnAt dc_X6_walk 19 rfl rfl
theorem d_X6_walk_33 : dn cX6_walk 33 (.getfield 61) 3 36 := dnAt dc_X6_walk 20 rfl rfl
theorem d_X6_walk_36 : dn cX6_walk 36 (.if_icmp .ge 42) 3 39 := dnAt dc_X6_walk 21 rfl rfl
theorem d_X6_walk_39 : dn cX6_walk 39 (.aload_n 0) 1 40 := dnAt dc_X6_walk 22 rfl rfl
theorem d_X6_walk_40 : dn cX6_walk 40 (.getfield 43) 3 43 := dnAt dc_X6_walk 23 rfl rfl
theorem d_X6_walk_43 : dn cX6_walk 43 (.aload 5) 2 45 := dnAt dc_X6_walk 24 rfl rfl
theorem d_X6_walk_45 : dn cX6_walk 45 (.aload 6) 2 47 := dnAt dc_X6_walk 25 rfl rfl
theorem d_X6_walk_47 : dn cX6_walk 47 (.iload 9) 2 49 := dnAt dc_X6_walk 26 rfl rfl
theorem d_X6_walk_49 : dn cX6_walk 49 (.iload_n 3) 1 50 := dnAt dc_X6_walk 27 rfl rfl
theorem d_X6_walk_50 : dn cX6_walk 50 (.iload 4) 2 52 := dnAt dc_X6_walk 28 rfl rfl
theorem d_X6_walk_52 : dn cX6_walk 52 (.invokevirtual 174) 3 55 := dnAt dc_X6_walk 29 rfl rfl
theorem d_X6_walk_55 : dn cX6_walk 55 (.istore 10) 2 57 := dnAt dc_X6_walk 30 rfl rfl
theorem d_X6_walk_57 : dn cX6_walk 57 (.iload 10) 2 59 := dnAt dc_X6_walk 31 rfl rfl
theorem d_X6_walk_59 : dn cX6_walk 59 (.ifCond .le 13) 3 62 := dnAt dc_X6_walk 32 rfl rfl
theorem d_X6_walk_62 : dn cX6_walk 62 (.iinc 7 1) 3 65 := dnAt dc_X6_walk 33 rfl rfl
theorem d_X6_walk_65 : dn cX6_walk 65 (.iload 8) 2 67 := dnAt dc_X6_walk 34 rfl rfl
theorem d_X6_walk_67 : dn cX6_walk 67 (.iload 10) 2 69 := dnAt dc_X6_walk 35 rfl rfl
theorem d_X6_walk_69 : dn cX6_walk 69 (.iadd) 1 70 := dnAt dc_X6_walk 36 rfl rfl
theorem d_X6_walk_70 : dn cX6_walk 70 (.istore 8) 2 72 := dnAt dc_X6_walk 37 rfl rfl
theorem d_X6_walk_72 : dn cX6_walk 72 (.iinc 9 1) 3 75 := dnAt dc_X6_walk 38 rfl rfl
theorem d_X6_walk_75 : dn cX6_walk 75 (.goto (-46)) 3 78 := dnAt dc_X6_walk 39 rfl rfl
theorem d_X6_walk_78 : dn cX6_walk 78 (.iload 7) 2 80 := dnAt dc_X6_walk 40 rfl rfl
theorem d_X6_walk_80 : dn cX6_walk 80 (.bipush 100) 2 82 := dnAt dc_X6_walk 41 rfl rfl
theorem d_X6_walk_82 : dn cX6_walk 82 (.imul) 1 83 := dnAt dc_X6_walk 42 rfl rfl
theorem d_X6_walk_83 : dn cX6_walk 83 (.iload 8) 2 85 := dnAt dc_X6_walk 43 rfl rfl
theorem d_X6_walk_85 : dn cX6_walk 85 (.bipush 100) 2 87 := dnAt dc_X6_walk 44 rfl rfl
theorem d_X6_walk_87 : dn cX6_walk 87 (.irem) 1 88 := dnAt dc_X6_walk 45 rfl rfl
theorem d_X6_walk_88 : dn cX6_walk 88 (.iadd) 1 89 := dnAt dc_X6_walk 46 rfl rfl
theorem d_X6_walk_89 : dn cX6_walk 89 (.ireturn) 1 90 := dnAt dc_X6_walk 47 rfl rfl
set_option maxHeartbeats 4000000 in
set_option maxRecDepth 100000 in
theorem k_walk {l : Launch} {G : eG} {ad : Nat → Nat → Nat} {h : hp} {g : mS} {T : Nat → tC3} {Y : Nat → pA} {pat side bd : Int32} {Lg : Bool} (hlf : l.stackTraces = false) (hm : co G ad g h) (I : mInv g) (WI : wInv g) (LP : ptk G ad h g T Y) : kX l G ad h yX6_walk cX6_walk 11 (Option.some Jvm.ClassFile.FieldType.int) { frames := 7, cells := 3, slots := 18, locals := 152 } [.ref (ad 0 0), .int pat, .int side, .int bd, .int (bI Lg)] (fun v9 g9 _ => v9 = some (.int (nI (rWalk g pat side bd Lg))) ∧ cWalk g pat side bd = 0 ∧ ∃ f9 k9 b9, g9 = wst g f9 k9 b9 ∧ ∀ z, z < 140 → f9 z < 4194304) (fun E9 g9 => (E9 = "java/lang/IndexOutOfBoundsException" ∧ cWalk g pat side bd = 1 ∨ E9 = "java/lang/IllegalArgumentException" ∧ cWalk g pat side bd = 2) ∧ g9 = g) := by
  refine kX.of hlf hm (by decide) (Nat.le_of_ble_eq_true rfl) ?_
  intro x C A TY X
  show VC G x ad h g 0 0 0 [(0, .ref (ad 0 0)), (1, .int pat), (2, .int side), (3, .int bd), (4, .int (bI Lg))] []
  have h15 := pats_le I
  have hpt := fun j hj => (LP j hj).1
  refine c_aload_n C d_X6_walk_0 0 rfl ?_
  refine c_iload_n C d_X6_walk_1 1 rfl ?_
  refine k_callVX C X cfr_rf d_X6_walk_2 ok_RX6_168 (k := 0) (i' := 0) (fun l h hl hm hf => k_knownPattern hl hm h15 hpt pat) rfl rfl rfl rfl (rest := []) rfl rfl (Nat.le_of_ble_eq_true rfl) ⟨⟨by decide, by decide⟩, Nat.le_of_ble_eq_true rfl, Nat.le_of_ble_eq_true rfl⟩ (fun _ _ e => ⟨Or.inl ⟨e.1, by rw [cWalk, if_neg (by rw [show mIsP g pat = false from e.2.1]; exact Bool.false_ne_true)]⟩, e.2.2⟩) (fun v9 g9 hq1 e9 F1 => ?_)
  obtain ⟨rfl, z1, i1⟩ := e9
  refine c_eq z1 ?_
  obtain ⟨j1, s1⟩ := inI_of (by omega) i1
  refine c_base F1 ?_
  show VC G x ad h g 1 6 5 [(0, .ref (ad 0 0)), (1, .int pat), (2, .int side), (3, .int bd), (4, .int (bI Lg))] [.ref (mN g 61 (tn pat) - 1)]
  refine c_astore C d_X6_walk_5 (lv' := [(5, .ref (mN g 61 (tn pat) - 1)), (0, .ref (ad 0 0)), (1, .int pat), (2, .int side), (3, .int bd), (4, .int (bI Lg))]) (by decide) rfl ?_
  refine c_aload_n C d_X6_walk_7 1 rfl ?_
  refine c_iload_n C d_X6_walk_8 3 rfl ?_
  refine k_callVX C X cfr_rf d_X6_walk_9 ok_RX6_53 (k := 0) (i' := 0) (fun l h hl hm hf => k_knownSide hl hm side) rfl rfl rfl rfl (rest := []) rfl rfl (Nat.le_of_ble_eq_true rfl) ⟨⟨by decide, by decide⟩, Nat.le_of_ble_eq_true rfl, Nat.le_of_ble_eq_true rfl⟩ (fun _ _ e => ⟨Or.inl ⟨e.1, by rw [cWalk, if_neg (by rw [e.2.1, Bool.and_false]; decide)]⟩, e.2.2⟩) (fun v9 g9 hq2 e9 F2 => ?_)
  obtain ⟨rfl, z2, i2⟩ := e9
  refine c_eq z2 ?_
  obtain ⟨j2, -, s2⟩ := inR_of i2 (by decide) (by decide)
  refine c_base F2 ?_
  show VC G x ad h g 2 12 12 [(5, .ref (mN g 61 (tn pat) - 1)), (0, .ref (ad 0 0)), (1, .int pat), (2, .int side), (3, .int bd), (4, .int (bI Lg))] [.ref (ad 10 (tn side))]
  refine c_astore C d_X6_walk_12 (lv' := [(6, .ref (ad 10 (tn side))), (5, .ref (mN g 61 (tn pat) - 1)), (0, .ref (ad 0 0)), (1, .int pat), (2, .int side), (3, .int bd), (4, .int (bI Lg))]) (by decide) rfl ?_
  refine c_iload_n C d_X6_walk_14 5 rfl ?_
  refine c_iconst C d_X6_walk_15 (v := (nI 0)) rfl ?_
  refine c_iconst C d_X6_walk_16 (v := (nI 2)) rfl ?_
  refine k_callSX C X cfr_rf d_X6_walk_17 ok_RX6_57 (fun l h hl hm hf => k_demandRange hl hm bd ((nI 0)) ((nI 2))) (rest := []) rfl rfl (Nat.le_of_ble_eq_true rfl) ⟨⟨by decide, by decide⟩, Nat.le_of_ble_eq_true rfl, Nat.le_of_ble_eq_true rfl⟩ (fun _ _ e => ⟨Or.inr (⟨e.1, by rw [cWalk, if_pos (by rw [show mIsP g pat = true from i1, i2]; rfl), if_neg (by rw [show inR bd 0 2 = false from e.2.1]; decide)]⟩), e.2.2⟩) (fun v9 g9 hq3 e9 F3 => ?_)
  obtain ⟨rfl, z3, i3⟩ := e9
  refine c_eq z3 ?_
  refine c_base F3 ?_
  show VC G x ad h g 3 18 20 [(6, .ref (ad 10 (tn side))), (5, .ref (mN g 61 (tn pat) - 1)), (0, .ref (ad 0 0)), (1, .int pat), (2, .int side), (3, .int bd), (4, .int (bI Lg))] []
  replace i3 : inR bd 0 2 = true := i3
  obtain ⟨j3, -, s3⟩ := inR_of i3 (by decide) (by decide)
  have z0 : cWalk g pat side bd = 0 := by rw [cWalk, if_pos (by rw [show mIsP g pat = true from i1, i2]; rfl), if_pos i3]
  have hmn := I.1 (tn side) (by omega)
  obtain ⟨-, ⟨is9, WK9⟩, WR9, WL9⟩ := LP (tn pat) (by omega)
  refine c_lve (lv' := [(6, .ref (ad 10 (tn side))), (5, .ref (mN g 61 (tn pat) - 1)), (0, .ref (ad 0 0)), (1, .int (nI (tn pat))), (2, .int (nI (tn side))), (3, .int (nI (tn bd))), (4, .int (bI Lg))]) (by rw [← j1, ← j2, ← j3]) ?_
  refine c_iconst C d_X6_walk_20 (v := (nI 0)) rfl ?_
  refine c_istore C d_X6_walk_21 (lv' := [(7, .int (nI 0)), (6, .ref (ad 10 (tn side))), (5, .ref (mN g 61 (tn pat) - 1)), (0, .ref (ad 0 0)), (1, .int (nI (tn pat))), (2, .int (nI (tn side))), (3, .int (nI (tn bd))), (4, .int (bI Lg))]) (by decide) rfl ?_
  refine c_iconst C d_X6_walk_23 (v := (nI 0)) rfl ?_
  refine c_istore C d_X6_walk_24 (lv' := [(8, .int (nI 0)), (7, .int (nI 0)), (6, .ref (ad 10 (tn side))), (5, .ref (mN g 61 (tn pat) - 1)), (0, .ref (ad 0 0)), (1, .int (nI (tn pat))), (2, .int (nI (tn side))), (3, .int (nI (tn bd))), (4, .int (bI Lg))]) (by decide) rfl ?_
  refine c_iconst C d_X6_walk_26 (v := (nI 0)) rfl ?_
  refine c_istore C d_X6_walk_27 (lv' := [(9, .int (nI 0)), (8, .int (nI 0)), (7, .int (nI 0)), (6, .ref (ad 10 (tn side))), (5, .ref (mN g 61 (tn pat) - 1)), (0, .ref (ad 0 0)), (1, .int (nI (tn pat))), (2, .int (nI (tn side))), (3, .int (nI (tn bd))), (4, .int (bI Lg))]) (by decide) rfl ?_
  have loop_29 : ∀ (fuel : Nat) (k : Nat) (f : Nat → Nat) (kq : Nat) (bq : Bool), (k ≤ mN g 1 (tn side)) → (∀ z, z < 140 → f z < 4194304) → (41 - k) < fuel → VC G x ad h (wst g f kq bq) 3 18 29 [(9, .int (nI k)), (8, .int (nI (sWalk g (tn pat) (tn side) (tn bd) Lg k))), (7, .int (nI (nWalk g (tn pat) (tn side) (tn bd) Lg k))), (6, .ref (ad 10 (tn side))), (5, .ref (mN g 61 (tn pat) - 1)), (0, .ref (ad 0 0)), (1, .int (nI (tn pat))), (2, .int (nI (tn side))), (3, .int (nI (tn bd))), (4, .int (bI Lg))] [] := by
    intro fuel
    induction fuel with
    | zero => intro k f kq bq hk hq9 hf9; exact absurd hf9 (Nat.not_lt_zero _)
    | succ fuel ih_29 =>
      intro k f kq bq hk hq9 hf9
      refine c_iload C d_X6_walk_29 0 rfl ?_
      refine c_aload C d_X6_walk_31 3 rfl ?_
      refine c_get C d_X6_walk_33 fd_RX6_61 (k := 10) (i' := tn side) (decide_eq_true (by omega)) rfl (v := .int (nI (mN (wst g f kq bq) 1 (tn side)))) rfl ?_
      refine c_st (st' := [.int (nI (mN g 1 (tn side))), .int (nI k)]) (by first | rfl | simp only [mN_uN, mB_uB, mK_uK, and_self, if_true]) ?_
      refine cn_icmp_ge C d_X6_walk_36 (tgt := 78) rfl (by omega) (by omega) (fun c_36 => ?_) (fun c_36 => ?_)
      · skip
        have e9 : k = mN g 1 (tn side) := by omega
        have hsw : sWalk g (tn pat) (tn side) (tn bd) Lg k ≤ k * 40 := by unfold sWalk; exact sumTo_le (fun j hj => by have := mLong_end I (p := tn pat) (bd := tn bd) (L := Lg) (show tn side < 2 by omega) (show j < mN g 1 (tn side) by omega); omega)
        refine c_iload C d_X6_walk_78 2 rfl ?_
        refine c_bipush C d_X6_walk_80 (v := (nI 100)) rfl ?_
        refine cn_imul C d_X6_walk_82 ?_
        refine c_iload C d_X6_walk_83 1 rfl ?_
        refine c_bipush C d_X6_walk_85 (v := (nI 100)) rfl ?_
        refine cn_irem C d_X6_walk_87 (by omega) (by decide) (by decide) ?_
        refine cn_iadd C d_X6_walk_88 ?_
        refine c_st (st' := [.int (nI (rWalk g pat side bd Lg))]) (by rw [rWalk, if_pos z0, e9, Nat.mul_comm 100]) ?_
        exact k_iret C A cfr_rf TY d_X6_walk_89 rfl (Nat.le_of_ble_eq_true rfl) (Nat.le_of_ble_eq_true rfl) (fun h9 F9 => ⟨rfl, z0, f, kq, bq, rfl, hq9⟩)
      · skip
        refine c_aload_n C d_X6_walk_39 5 rfl ?_
        refine c_get C d_X6_walk_40 fd_RX6_43 (k := 0) (i' := 0) rfl rfl (v := .ref (ad 5 0)) rfl ?_
        refine c_aload C d_X6_walk_43 4 rfl ?_
        refine c_aload C d_X6_walk_45 3 rfl ?_
        refine c_iload C d_X6_walk_47 0 rfl ?_
        refine c_iload_n C d_X6_walk_49 8 rfl ?_
        refine c_iload C d_X6_walk_50 9 rfl ?_
        refine k_callV C d_X6_walk_52 ok_RX6_174 (k := 5) (i' := 0) (fun l h hm hf => k_lenFrom (p := tn pat) hm I (by omega) (WK9.mv hf) WR9 WL9 (by omega) (by omega) (by omega) hq9) rfl rfl rfl rfl (rest := []) rfl rfl (Nat.le_of_ble_eq_true rfl) ⟨⟨by decide, by decide⟩, Nat.le_of_ble_eq_true rfl, Nat.le_of_ble_eq_true rfl⟩ (fun v9 g9 hq4 e9 F4 => ?_)
        obtain ⟨rfl, f4, k4, b4, rfl, hf4⟩ := e9
        refine c_base F4 ?_
        show VC G x ad h (wst g f4 k4 b4) 3 18 55 [(9, .int (nI k)), (8, .int (nI (sWalk g (tn pat) (tn side) (tn bd) Lg k))), (7, .int (nI (nWalk g (tn pat) (tn side) (tn bd) Lg k))), (6, .ref (ad 10 (tn side))), (5, .ref (mN g 61 (tn pat) - 1)), (0, .ref (ad 0 0)), (1, .int (nI (tn pat))), (2, .int (nI (tn side))), (3, .int (nI (tn bd))), (4, .int (bI Lg))] [.int (nI (mLong g (tn pat) (tn side) (k) (tn bd) Lg))]
        refine c_istore C d_X6_walk_55 (lv' := [(10, .int (nI (mLong g (tn pat) (tn side) (k) (tn bd) Lg))), (9, .int (nI k)), (8, .int (nI (sWalk g (tn pat) (tn side) (tn bd) Lg k))), (7, .int (nI (nWalk g (tn pat) (tn side) (tn bd) Lg k))), (6, .ref (ad 10 (tn side))), (5, .ref (mN g 61 (tn pat) - 1)), (0, .ref (ad 0 0)), (1, .int (nI (tn pat))), (2, .int (nI (tn side))), (3, .int (nI (tn bd))), (4, .int (bI Lg))]) (by decide) rfl ?_
        refine c_iload C d_X6_walk_57 0 rfl ?_
        have join_72 : VC G x ad h (wst g f4 k4 b4) 3 18 72 [(9, .int (nI k)), (8, .int (nI (sWalk g (tn pat) (tn side) (tn bd) Lg (k + 1)))), (7, .int (nI (nWalk g (tn pat) (tn side) (tn bd) Lg (k + 1)))), (6, .ref (ad 10 (tn side))), (5, .ref (mN g 61 (tn pat) - 1)), (0, .ref (ad 0 0)), (1, .int (nI (tn pat))), (2, .int (nI (tn side))), (3, .int (nI (tn bd))), (4, .int (bI Lg))] [] := by
          refine cn_iinc C d_X6_walk_72 (lv' := [(9, .int (nI (k + 1))), (8, .int (nI (sWalk g (tn pat) (tn side) (tn bd) Lg (k + 1)))), (7, .int (nI (nWalk g (tn pat) (tn side) (tn bd) Lg (k + 1)))), (6, .ref (ad 10 (tn side))), (5, .ref (mN g 61 (tn pat) - 1)), (0, .ref (ad 0 0)), (1, .int (nI (tn pat))), (2, .int (nI (tn side))), (3, .int (nI (tn bd))), (4, .int (bI Lg))]) 0 rfl (nI_inc _ rfl) (by decide) rfl ?_
          refine c_goto C d_X6_walk_75 (tgt := 29) rfl ?_
          exact ih_29 (k + 1) f4 k4 b4 (by omega) (hf4) (by omega)
        refine cn_if_le C d_X6_walk_59 (tgt := 72) rfl (by have := mLong_end I (p := tn pat) (bd := tn bd) (L := Lg) (show tn side < 2 by omega) (show k < mN g 1 (tn side) by omega); omega) (fun c_59 => ?_) (fun c_59 => ?_)
        · skip
          refine c_lv (lv' := [(9, .int (nI k)), (8, .int (nI (sWalk g (tn pat) (tn side) (tn bd) Lg k))), (7, .int (nI (nWalk g (tn pat) (tn side) (tn bd) Lg k))), (6, .ref (ad 10 (tn side))), (5, .ref (mN g 61 (tn pat) - 1)), (0, .ref (ad 0 0)), (1, .int (nI (tn pat))), (2, .int (nI (tn side))), (3, .int (nI (tn bd))), (4, .int (bI Lg))]) [1, 2, 3, 4, 5, 6, 7, 8, 9, 10] rfl ?_
          refine c_lve (lv' := [(9, .int (nI k)), (8, .int (nI (sWalk g (tn pat) (tn side) (tn bd) Lg (k + 1)))), (7, .int (nI (nWalk g (tn pat) (tn side) (tn bd) Lg (k + 1)))), (6, .ref (ad 10 (tn side))), (5, .ref (mN g 61 (tn pat) - 1)), (0, .ref (ad 0 0)), (1, .int (nI (tn pat))), (2, .int (nI (tn side))), (3, .int (nI (tn bd))), (4, .int (bI Lg))]) (by unfold nWalk sWalk; rw [sumTo_s, sumTo_s, if_neg (by omega), c_59]; rfl) ?_
          exact join_72  
        · skip
          refine cn_iinc C d_X6_walk_62 (lv' := [(7, .int (nI (nWalk g (tn pat) (tn side) (tn bd) Lg k + 1))), (10, .int (nI (mLong g (tn pat) (tn side) (k) (tn bd) Lg))), (9, .int (nI k)), (8, .int (nI (sWalk g (tn pat) (tn side) (tn bd) Lg k))), (6, .ref (ad 10 (tn side))), (5, .ref (mN g 61 (tn pat) - 1)), (0, .ref (ad 0 0)), (1, .int (nI (tn pat))), (2, .int (nI (tn side))), (3, .int (nI (tn bd))), (4, .int (bI Lg))]) 3 rfl (nI_inc _ rfl) (by decide) rfl ?_
          refine c_iload C d_X6_walk_65 3 rfl ?_
          refine c_iload C d_X6_walk_67 1 rfl ?_
          refine cn_iadd C d_X6_walk_69 ?_
          refine c_istore C d_X6_walk_70 (lv' := [(8, .int (nI ((sWalk g (tn pat) (tn side) (tn bd) Lg k) + (mLong g (tn pat) (tn side) (k) (tn bd) Lg)))), (7, .int (nI (nWalk g (tn pat) (tn side) (tn bd) Lg k + 1))), (10, .int (nI (mLong g (tn pat) (tn side) (k) (tn bd) Lg))), (9, .int (nI k)), (6, .ref (ad 10 (tn side))), (5, .ref (mN g 61 (tn pat) - 1)), (0, .ref (ad 0 0)), (1, .int (nI (tn pat))), (2, .int (nI (tn side))), (3, .int (nI (tn bd))), (4, .int (bI Lg))]) (by decide) rfl ?_
          refine c_lv (lv' := [(9, .int (nI k)), (8, .int (nI ((sWalk g (tn pat) (tn side) (tn bd) Lg k) + (mLong g (tn pat) (tn side) (k) (tn bd) Lg)))), (7, .int (nI (nWalk g (tn pat) (tn side) (tn bd) Lg k + 1))), (6, .ref (ad 10 (tn side))), (5, .ref (mN g 61 (tn pat) - 1)), (0, .ref (ad 0 0)), (1, .int (nI (tn pat))), (2, .int (nI (tn side))), (3, .int (nI (tn bd))), (4, .int (bI Lg))]) [3, 0, 1, 4, 5, 6, 7, 8, 9, 10] rfl ?_
          refine c_lve (lv' := [(9, .int (nI k)), (8, .int (nI (sWalk g (tn pat) (tn side) (tn bd) Lg (k + 1)))), (7, .int (nI (nWalk g (tn pat) (tn side) (tn bd) Lg (k + 1)))), (6, .ref (ad 10 (tn side))), (5, .ref (mN g 61 (tn pat) - 1)), (0, .ref (ad 0 0)), (1, .int (nI (tn pat))), (2, .int (nI (tn side))), (3, .int (nI (tn bd))), (4, .int (bI Lg))]) (by unfold nWalk sWalk; rw [sumTo_s, sumTo_s, if_pos c_59]) ?_
          exact join_72  
  refine c_lve (lv' := [(9, .int (nI 0)), (8, .int (nI (sWalk g (tn pat) (tn side) (tn bd) Lg 0))), (7, .int (nI (nWalk g (tn pat) (tn side) (tn bd) Lg 0))), (6, .ref (ad 10 (tn side))), (5, .ref (mN g 61 (tn pat) - 1)), (0, .ref (ad 0 0)), (1, .int (nI (tn pat))), (2, .int (nI (tn side))), (3, .int (nI (tn bd))), (4, .int (bI Lg))]) (rfl) ?_
  refine c_eq (g' := wst g (fun z => mN g 50 z) (mK g 41) (mB g 30 0)) (wst_self WI) ?_
  exact loop_29 _ 0 (fun z => mN g 50 z) (mK g 41) (mB g 30 0) (by omega) (WI.2) (Nat.lt_succ_self _)
