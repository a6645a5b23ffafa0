section
-- ===== PART A: goes FIRST, ahead of the names: the tables' words, and 'selects' of the private methods out of them =====
/-- a private method of a class that the tables say can be made, by its rows of tables_1 -/
def lw_okq (q : MethodName × Nat) : Prop := (q.1.cls ≠ "java/lang/invoke/MethodHandle" ∧ q.1.cls ≠ "java/lang/invoke/VarHandle") ∧ Cond.instantiable q.1.cls q.2 ∈ tables_1 ∧ Cond.privateMethod q.1 ∈ tables_1 ∧ Cond.instanceMethod q.1 ∈ tables_1
theorem lw_p0 : lw_okq (⟨"Corpusline", "pop", "(I)V"⟩, 9) := ⟨⟨by decide +kernel, by decide +kernel⟩, List.mem_of_getElem? (i := 17) (by decide +kernel), List.mem_of_getElem? (i := 131) (by decide +kernel), List.mem_of_getElem? (i := 132) (by decide +kernel)⟩
theorem lw_p1 : lw_okq (⟨"Corpusline", "isResult", "(I)Z"⟩, 9) := ⟨⟨by decide +kernel, by decide +kernel⟩, List.mem_of_getElem? (i := 17) (by decide +kernel), List.mem_of_getElem? (i := 139) (by decide +kernel), List.mem_of_getElem? (i := 140) (by decide +kernel)⟩
theorem lw_p2 : lw_okq (⟨"Corpusline", "knownSide", "(I)LCorpusline$Side;"⟩, 9) := ⟨⟨by decide +kernel, by decide +kernel⟩, List.mem_of_getElem? (i := 17) (by decide +kernel), List.mem_of_getElem? (i := 163) (by decide +kernel), List.mem_of_getElem? (i := 164) (by decide +kernel)⟩
theorem lw_p3 : lw_okq (⟨"java/lang/Throwable", "fillInStackTrace", "(I)Ljava/lang/Throwable;"⟩, 6) := ⟨⟨by decide +kernel, by decide +kernel⟩, List.mem_of_getElem? (i := 205) (by decide +kernel), List.mem_of_getElem? (i := 203) (by decide +kernel), List.mem_of_getElem? (i := 204) (by decide +kernel)⟩
theorem lw_p4 : lw_okq (⟨"Corpusline", "demandRoomForTest", "()V"⟩, 9) := ⟨⟨by decide +kernel, by decide +kernel⟩, List.mem_of_getElem? (i := 17) (by decide +kernel), List.mem_of_getElem? (i := 327) (by decide +kernel), List.mem_of_getElem? (i := 328) (by decide +kernel)⟩
theorem lw_p5 : lw_okq (⟨"Corpusline", "testsOnPile", "()I"⟩, 9) := ⟨⟨by decide +kernel, by decide +kernel⟩, List.mem_of_getElem? (i := 17) (by decide +kernel), List.mem_of_getElem? (i := 331) (by decide +kernel), List.mem_of_getElem? (i := 332) (by decide +kernel)⟩
theorem lw_p6 : lw_okq (⟨"Corpusline", "push", "(LCorpusline$Part;)I"⟩, 9) := ⟨⟨by decide +kernel, by decide +kernel⟩, List.mem_of_getElem? (i := 17) (by decide +kernel), List.mem_of_getElem? (i := 406) (by decide +kernel), List.mem_of_getElem? (i := 407) (by decide +kernel)⟩
theorem lw_p7 : lw_okq (⟨"Corpusline", "testFromTop", "(I)LCorpusline$TokenTest;"⟩, 9) := ⟨⟨by decide +kernel, by decide +kernel⟩, List.mem_of_getElem? (i := 17) (by decide +kernel), List.mem_of_getElem? (i := 432) (by decide +kernel), List.mem_of_getElem? (i := 433) (by decide +kernel)⟩
theorem lw_p8 : lw_okq (⟨"Corpusline", "partFromTop", "(I)LCorpusline$Part;"⟩, 9) := ⟨⟨by decide +kernel, by decide +kernel⟩, List.mem_of_getElem? (i := 17) (by decide +kernel), List.mem_of_getElem? (i := 436) (by decide +kernel), List.mem_of_getElem? (i := 437) (by decide +kernel)⟩
theorem lw_p9 : lw_okq (⟨"Corpusline$Part", "takeTests", "(LCorpusline$Part;I)V"⟩, 7) := ⟨⟨by decide +kernel, by decide +kernel⟩, List.mem_of_getElem? (i := 362) (by decide +kernel), List.mem_of_getElem? (i := 470) (by decide +kernel), List.mem_of_getElem? (i := 471) (by decide +kernel)⟩
theorem lw_p10 : lw_okq (⟨"Corpusline", "knownPattern", "(I)LCorpusline$Part;"⟩, 9) := ⟨⟨by decide +kernel, by decide +kernel⟩, List.mem_of_getElem? (i := 17) (by decide +kernel), List.mem_of_getElem? (i := 514) (by decide +kernel), List.mem_of_getElem? (i := 515) (by decide +kernel)⟩
theorem lw_p11 : lw_okq (⟨"Corpusline$Walker", "isWholeBehind", "(LCorpusline$Part;LCorpusline$Side;I)Z"⟩, 3) := ⟨⟨by decide +kernel, by decide +kernel⟩, List.mem_of_getElem? (i := 31) (by decide +kernel), List.mem_of_getElem? (i := 531) (by decide +kernel), List.mem_of_getElem? (i := 532) (by decide +kernel)⟩
theorem lw_p12 : lw_okq (⟨"Corpusline$Walker", "addWaysThrough", "(LCorpusline$Part;ILCorpusline$Side;II)I"⟩, 3) := ⟨⟨by decide +kernel, by decide +kernel⟩, List.mem_of_getElem? (i := 31) (by decide +kernel), List.mem_of_getElem? (i := 540) (by decide +kernel), List.mem_of_getElem? (i := 541) (by decide +kernel)⟩
theorem lw_p13 : lw_okq (⟨"Corpusline$Walker", "isSpareWay", "(III)Z"⟩, 3) := ⟨⟨by decide +kernel, by decide +kernel⟩, List.mem_of_getElem? (i := 31) (by decide +kernel), List.mem_of_getElem? (i := 562) (by decide +kernel), List.mem_of_getElem? (i := 563) (by decide +kernel)⟩
theorem lw_p14 : lw_okq (⟨"Corpusline", "knownResult", "(I)LCorpusline$Result;"⟩, 9) := ⟨⟨by decide +kernel, by decide +kernel⟩, List.mem_of_getElem? (i := 17) (by decide +kernel), List.mem_of_getElem? (i := 580) (by decide +kernel), List.mem_of_getElem? (i := 581) (by decide +kernel)⟩
theorem lw_p15 : lw_okq (⟨"Corpusline", "sentencesWith", "(LCorpusline$Part;LCorpusline$Side;)J"⟩, 9) := ⟨⟨by decide +kernel, by decide +kernel⟩, List.mem_of_getElem? (i := 17) (by decide +kernel), List.mem_of_getElem? (i := 614) (by decide +kernel), List.mem_of_getElem? (i := 615) (by decide +kernel)⟩
def lw_privs_1 : List (MethodName × Nat) := [(⟨"Corpusline", "pop", "(I)V"⟩, 9), (⟨"Corpusline", "isResult", "(I)Z"⟩, 9), (⟨"Corpusline", "knownSide", "(I)LCorpusline$Side;"⟩, 9), (⟨"java/lang/Throwable", "fillInStackTrace", "(I)Ljava/lang/Throwable;"⟩, 6), (⟨"Corpusline", "demandRoomForTest", "()V"⟩, 9), (⟨"Corpusline", "testsOnPile", "()I"⟩, 9), (⟨"Corpusline", "push", "(LCorpusline$Part;)I"⟩, 9), (⟨"Corpusline", "testFromTop", "(I)LCorpusline$TokenTest;"⟩, 9), (⟨"Corpusline", "partFromTop", "(I)LCorpusline$Part;"⟩, 9), (⟨"Corpusline$Part", "takeTests", "(LCorpusline$Part;I)V"⟩, 7), (⟨"Corpusline", "knownPattern", "(I)LCorpusline$Part;"⟩, 9), (⟨"Corpusline$Walker", "isWholeBehind", "(LCorpusline$Part;LCorpusline$Side;I)Z"⟩, 3), (⟨"Corpusline$Walker", "addWaysThrough", "(LCorpusline$Part;ILCorpusline$Side;II)I"⟩, 3), (⟨"Corpusline$Walker", "isSpareWay", "(III)Z"⟩, 3), (⟨"Corpusline", "knownResult", "(I)LCorpusline$Result;"⟩, 9), (⟨"Corpusline", "sentencesWith", "(LCorpusline$Part;LCorpusline$Side;)J"⟩, 9)]
theorem lw_r1 : ∀ q ∈ lw_privs_1, lw_okq q := List.forall_mem_cons.mpr ⟨lw_p0, List.forall_mem_cons.mpr ⟨lw_p1, List.forall_mem_cons.mpr ⟨lw_p2, List.forall_mem_cons.mpr ⟨lw_p3, List.forall_mem_cons.mpr ⟨lw_p4, List.forall_mem_cons.mpr ⟨lw_p5, List.forall_mem_cons.mpr ⟨lw_p6, List.forall_mem_cons.mpr ⟨lw_p7, List.forall_mem_cons.mpr ⟨lw_p8, List.forall_mem_cons.mpr ⟨lw_p9, List.forall_mem_cons.mpr ⟨lw_p10, List.forall_mem_cons.mpr ⟨lw_p11, List.forall_mem_cons.mpr ⟨lw_p12, List.forall_mem_cons.mpr ⟨lw_p13, List.forall_mem_cons.mpr ⟨lw_p14, List.forall_mem_cons.mpr ⟨lw_p15, fun _ h => absurd h List.not_mem_nil⟩⟩⟩⟩⟩⟩⟩⟩⟩⟩⟩⟩⟩⟩⟩⟩
theorem lw_p16 : lw_okq (⟨"Corpusline", "countGroups", "(LCorpusline$Result;IZ)V"⟩, 9) := ⟨⟨by decide +kernel, by decide +kernel⟩, List.mem_of_getElem? (i := 17) (by decide +kernel), List.mem_of_getElem? (i := 640) (by decide +kernel), List.mem_of_getElem? (i := 641) (by decide +kernel)⟩
theorem lw_p17 : lw_okq (⟨"Corpusline", "groupsAheadOf", "(I)I"⟩, 9) := ⟨⟨by decide +kernel, by decide +kernel⟩, List.mem_of_getElem? (i := 17) (by decide +kernel), List.mem_of_getElem? (i := 651) (by decide +kernel), List.mem_of_getElem? (i := 652) (by decide +kernel)⟩
theorem lw_p18 : lw_okq (⟨"CorpuslineModel", "holds", "(I)Z"⟩, 23) := ⟨⟨by decide +kernel, by decide +kernel⟩, List.mem_of_getElem? (i := 656) (by decide +kernel), List.mem_of_getElem? (i := 747) (by decide +kernel), List.mem_of_getElem? (i := 748) (by decide +kernel)⟩
theorem lw_p19 : lw_okq (⟨"CorpuslineModel", "sentences", "(I)I"⟩, 23) := ⟨⟨by decide +kernel, by decide +kernel⟩, List.mem_of_getElem? (i := 656) (by decide +kernel), List.mem_of_getElem? (i := 759) (by decide +kernel), List.mem_of_getElem? (i := 760) (by decide +kernel)⟩
theorem lw_p20 : lw_okq (⟨"CorpuslineModel", "valueOf", "(III)I"⟩, 23) := ⟨⟨by decide +kernel, by decide +kernel⟩, List.mem_of_getElem? (i := 656) (by decide +kernel), List.mem_of_getElem? (i := 778) (by decide +kernel), List.mem_of_getElem? (i := 779) (by decide +kernel)⟩
theorem lw_p21 : lw_okq (⟨"CorpuslineModel", "testsInAll", "()I"⟩, 23) := ⟨⟨by decide +kernel, by decide +kernel⟩, List.mem_of_getElem? (i := 656) (by decide +kernel), List.mem_of_getElem? (i := 786) (by decide +kernel), List.mem_of_getElem? (i := 787) (by decide +kernel)⟩
theorem lw_p22 : lw_okq (⟨"CorpuslineModel", "puts", "()I"⟩, 23) := ⟨⟨by decide +kernel, by decide +kernel⟩, List.mem_of_getElem? (i := 656) (by decide +kernel), List.mem_of_getElem? (i := 790) (by decide +kernel), List.mem_of_getElem? (i := 791) (by decide +kernel)⟩
theorem lw_p23 : lw_okq (⟨"CorpuslineModel", "laysBehind", "()V"⟩, 23) := ⟨⟨by decide +kernel, by decide +kernel⟩, List.mem_of_getElem? (i := 656) (by decide +kernel), List.mem_of_getElem? (i := 817) (by decide +kernel), List.mem_of_getElem? (i := 818) (by decide +kernel)⟩
theorem lw_p24 : lw_okq (⟨"CorpuslineModel", "copiesTest", "(II)V"⟩, 23) := ⟨⟨by decide +kernel, by decide +kernel⟩, List.mem_of_getElem? (i := 656) (by decide +kernel), List.mem_of_getElem? (i := 821) (by decide +kernel), List.mem_of_getElem? (i := 822) (by decide +kernel)⟩
theorem lw_p25 : lw_okq (⟨"CorpuslineModel", "becomes", "(II)V"⟩, 23) := ⟨⟨by decide +kernel, by decide +kernel⟩, List.mem_of_getElem? (i := 656) (by decide +kernel), List.mem_of_getElem? (i := 825) (by decide +kernel), List.mem_of_getElem? (i := 826) (by decide +kernel)⟩
theorem lw_p26 : lw_okq (⟨"CorpuslineModel", "copiesPart", "(II)V"⟩, 23) := ⟨⟨by decide +kernel, by decide +kernel⟩, List.mem_of_getElem? (i := 656) (by decide +kernel), List.mem_of_getElem? (i := 841) (by decide +kernel), List.mem_of_getElem? (i := 842) (by decide +kernel)⟩
theorem lw_p27 : lw_okq (⟨"CorpuslineModel", "isPattern", "(I)Z"⟩, 23) := ⟨⟨by decide +kernel, by decide +kernel⟩, List.mem_of_getElem? (i := 656) (by decide +kernel), List.mem_of_getElem? (i := 853) (by decide +kernel), List.mem_of_getElem? (i := 854) (by decide +kernel)⟩
theorem lw_p28 : lw_okq (⟨"CorpuslineModel", "longest", "(IIIIZ)I"⟩, 23) := ⟨⟨by decide +kernel, by decide +kernel⟩, List.mem_of_getElem? (i := 656) (by decide +kernel), List.mem_of_getElem? (i := 860) (by decide +kernel), List.mem_of_getElem? (i := 861) (by decide +kernel)⟩
theorem lw_p29 : lw_okq (⟨"CorpuslineModel", "endOf", "(III)I"⟩, 23) := ⟨⟨by decide +kernel, by decide +kernel⟩, List.mem_of_getElem? (i := 656) (by decide +kernel), List.mem_of_getElem? (i := 864) (by decide +kernel), List.mem_of_getElem? (i := 865) (by decide +kernel)⟩
theorem lw_p30 : lw_okq (⟨"CorpuslineModel", "goes", "(IIIII)I"⟩, 23) := ⟨⟨by decide +kernel, by decide +kernel⟩, List.mem_of_getElem? (i := 656) (by decide +kernel), List.mem_of_getElem? (i := 868) (by decide +kernel), List.mem_of_getElem? (i := 869) (by decide +kernel)⟩
theorem lw_p31 : lw_okq (⟨"CorpuslineModel", "matches", "(III)Z"⟩, 23) := ⟨⟨by decide +kernel, by decide +kernel⟩, List.mem_of_getElem? (i := 656) (by decide +kernel), List.mem_of_getElem? (i := 872) (by decide +kernel), List.mem_of_getElem? (i := 873) (by decide +kernel)⟩
def lw_privs_2 : List (MethodName × Nat) := [(⟨"Corpusline", "countGroups", "(LCorpusline$Result;IZ)V"⟩, 9), (⟨"Corpusline", "groupsAheadOf", "(I)I"⟩, 9), (⟨"CorpuslineModel", "holds", "(I)Z"⟩, 23), (⟨"CorpuslineModel", "sentences", "(I)I"⟩, 23), (⟨"CorpuslineModel", "valueOf", "(III)I"⟩, 23), (⟨"CorpuslineModel", "testsInAll", "()I"⟩, 23), (⟨"CorpuslineModel", "puts", "()I"⟩, 23), (⟨"CorpuslineModel", "laysBehind", "()V"⟩, 23), (⟨"CorpuslineModel", "copiesTest", "(II)V"⟩, 23), (⟨"CorpuslineModel", "becomes", "(II)V"⟩, 23), (⟨"CorpuslineModel", "copiesPart", "(II)V"⟩, 23), (⟨"CorpuslineModel", "isPattern", "(I)Z"⟩, 23), (⟨"CorpuslineModel", "longest", "(IIIIZ)I"⟩, 23), (⟨"CorpuslineModel", "endOf", "(III)I"⟩, 23), (⟨"CorpuslineModel", "goes", "(IIIII)I"⟩, 23), (⟨"CorpuslineModel", "matches", "(III)Z"⟩, 23)]
theorem lw_r2 : ∀ q ∈ lw_privs_2, lw_okq q := List.forall_mem_cons.mpr ⟨lw_p16, List.forall_mem_cons.mpr ⟨lw_p17, List.forall_mem_cons.mpr ⟨lw_p18, List.forall_mem_cons.mpr ⟨lw_p19, List.forall_mem_cons.mpr ⟨lw_p20, List.forall_mem_cons.mpr ⟨lw_p21, List.forall_mem_cons.mpr ⟨lw_p22, List.forall_mem_cons.mpr ⟨lw_p23, List.forall_mem_cons.mpr ⟨lw_p24, List.forall_mem_cons.mpr ⟨lw_p25, List.forall_mem_cons.mpr ⟨lw_p26, List.forall_mem_cons.mpr ⟨lw_p27, List.forall_mem_cons.mpr ⟨lw_p28, List.forall_mem_cons.mpr ⟨lw_p29, List.forall_mem_cons.mpr ⟨lw_p30, List.forall_mem_cons.mpr ⟨lw_p31, fun _ h => absurd h List.not_mem_nil⟩⟩⟩⟩⟩⟩⟩⟩⟩⟩⟩⟩⟩⟩⟩⟩
theorem lw_p32 : lw_okq (⟨"CorpuslineModel", "sizeOf", "(I)I"⟩, 23) := ⟨⟨by decide +kernel, by decide +kernel⟩, List.mem_of_getElem? (i := 656) (by decide +kernel), List.mem_of_getElem? (i := 876) (by decide +kernel), List.mem_of_getElem? (i := 877) (by decide +kernel)⟩
theorem lw_p33 : lw_okq (⟨"CorpuslineModel", "isResult", "(I)Z"⟩, 23) := ⟨⟨by decide +kernel, by decide +kernel⟩, List.mem_of_getElem? (i := 656) (by decide +kernel), List.mem_of_getElem? (i := 891) (by decide +kernel), List.mem_of_getElem? (i := 892) (by decide +kernel)⟩
theorem lw_p34 : lw_okq (⟨"CorpuslineModel", "hasAligned", "(III)Z"⟩, 23) := ⟨⟨by decide +kernel, by decide +kernel⟩, List.mem_of_getElem? (i := 656) (by decide +kernel), List.mem_of_getElem? (i := 903) (by decide +kernel), List.mem_of_getElem? (i := 904) (by decide +kernel)⟩
theorem lw_p35 : lw_okq (⟨"CorpuslineModel", "countsValues", "(IIZ)I"⟩, 23) := ⟨⟨by decide +kernel, by decide +kernel⟩, List.mem_of_getElem? (i := 656) (by decide +kernel), List.mem_of_getElem? (i := 923) (by decide +kernel), List.mem_of_getElem? (i := 924) (by decide +kernel)⟩
def lw_privs_3 : List (MethodName × Nat) := [(⟨"CorpuslineModel", "sizeOf", "(I)I"⟩, 23), (⟨"CorpuslineModel", "isResult", "(I)Z"⟩, 23), (⟨"CorpuslineModel", "hasAligned", "(III)Z"⟩, 23), (⟨"CorpuslineModel", "countsValues", "(IIZ)I"⟩, 23)]
theorem lw_r3 : ∀ q ∈ lw_privs_3, lw_okq q := List.forall_mem_cons.mpr ⟨lw_p32, List.forall_mem_cons.mpr ⟨lw_p33, List.forall_mem_cons.mpr ⟨lw_p34, List.forall_mem_cons.mpr ⟨lw_p35, fun _ h => absurd h List.not_mem_nil⟩⟩⟩⟩
def lw_privs : List (MethodName × Nat) := lw_privs_1 ++ (lw_privs_2 ++ (lw_privs_3))
def lw_tbl : List Cond := k2_sels lw_privs ++ tables_1
theorem lw_privs_ok : ∀ q ∈ lw_privs, lw_okq q := by
  show ∀ q ∈ lw_privs_1 ++ (lw_privs_2 ++ (lw_privs_3)), lw_okq q
  exact List.forall_mem_append.mpr ⟨lw_r1, List.forall_mem_append.mpr ⟨lw_r2, lw_r3⟩⟩
-- ===== end of PART A; then your names; then what follows =====
/-! ===== BEGIN words of one list among another's, by their places ===== -/
theorem goodIn_r {big : List Cond} (ws : List Cond) (ps : List Nat) (hp : ws = ps.filterMap (fun i => big[i]?)) (h : ws.all goodWord = true) : GoodIn big ws := by
  intro w hw
  have h1 := List.all_eq_true.mp h w hw
  rw [hp] at hw
  obtain ⟨i, -, hi⟩ := List.mem_filterMap.mp hw
  have hm : w ∈ big := by first | exact List.mem_of_getElem? hi | exact List.getElem?_mem hi
  exact ⟨hm, good_of_word h1⟩
theorem goodIn_app {big a b : List Cond} (ha : GoodIn big a) (hb : GoodIn big b) : GoodIn big (a ++ b) := fun w h => (List.mem_append.mp h).elim (ha w) (hb w)
theorem goodIn_ca {big a b : List Cond} {c : Cond} (ha : GoodIn big (c :: a)) (hb : GoodIn big b) : GoodIn big (c :: (a ++ b)) := fun w h => (List.mem_cons.mp h).elim (fun e => ha w (List.mem_cons.mpr (Or.inl e))) (fun h => (List.mem_append.mp h).elim (fun h => ha w (List.mem_cons.mpr (Or.inr h))) (hb w))
theorem goodIn_sub {big ws : List Cond} (hm : ∀ w ∈ ws, w ∈ big) (h : ws.all goodWord = true) : GoodIn big ws := fun w hw => ⟨hm w hw, good_of_word (List.all_eq_true.mp h w hw)⟩
/-! ===== END ===== -/

/-! ===== BEGIN exceptions that leave a method, and their catching by the caller (launches without stack traces) ===== -/
section VXA
/-! The laws vx_back, vx_callV, vx_callS, vx_callSW, vx_throw0, vx_throwS follow proofs of the library, with one case more: JvmDerived/Free/Laws.lean (Back.of_free), Shelf42/LK1.lean (callV, callS), Shelf/KitTraced.lean (throwNew0V, throwNewS). -/
/-- where a method has thrown q: the class by its name, the cell, what was written, the world -/
def vx_T (XC : String → State → State → Prop) (st : State) (q : Addr) (t : State) (mc ms : Nat) (free : Addr → Prop) : Prop :=
  ∃ (E : String) (ce : Cell) (L : List Loc), XC E st t ∧ t.heap[q]? = some ce ∧ ce.vm = .none ∧ st.vm.findClass E = some ce.cls ∧ st.WarmedH t.vm ∧ st.sameButNew ({ t with vm := st.vm } : State) L mc ms ∧ ∀ z ∈ L, free z.base
def vx_Q (Qc : Array Value → State → Outcome → State → Prop) (XC : String → State → State → Prop) (mc ms : Nat) (free : Addr → Prop) : Array Value → State → Outcome → State → Prop := fun a st o t =>
  (Qc a st o t ∧ ∃ L, FrameEnd st o t L mc ms ∧ ∀ q ∈ L, free q.base) ∨ ∃ q, o = .threw q ∧ vx_T XC st q t mc ms free
/-- a callee that returns or throws -/
def vx_Met (l : Launch) (y : MethodName) (ws : List Cond) (rm : Room) (Pc : Array Value → State → Prop) (Qc : Array Value → State → Outcome → State → Prop) (XC : String → State → State → Prop) (mc ms : Nat) (free : Addr → Prop) : Prop :=
  MetFree l y (headSpec ws rm) Pc (fun _ _ _ _ _ => True) (vx_Q Qc XC mc ms free)
def vx_Post (XC : String → State → State → Prop) (mc ms : Nat) (free : Addr → Prop) : Pt → Array Value → Addr → Pt → Prop := fun A a q B =>
  ∃ (g : JFrame) (mk : MethodId) (t : State) (L : List Loc) (E : String) (ce : Cell), B.U.heap = t.heap ∧ B.U.vm = t.vm ∧ XC E (A.U.calling g mk a) t ∧ t.heap[q]? = some ce ∧ ce.vm = .none ∧ A.U.vm.findClass E = some ce.cls ∧ B.locs = A.locs ++ L ∧ (∀ z ∈ L, free z.base) ∧ B.cells = A.cells + mc ∧ B.slots = A.slots + ms
def vx_Back (l : Launch) (R : Room) (p : Program) (e : Env) (below : List Frame) (s : State) (sargs : Array Value) (y : MethodName) (len W9 : Nat)
    (Pre : Pt → Array Value → Prop) (Post : Pt → Array Value → Option Value → Pt → Prop) (PostX : Pt → Array Value → Addr → Pt → Prop) : Prop :=
  ∀ (m : MethodId) (meth : Method) (c : Code) (A : Pt) (g : JFrame) (ig : Instr) (mk : MethodId) (a : Array Value),
    Stand p l e R s m sargs below meth c A.U A.locs A.cells A.slots → g.method = m → g.locals.size = c.maxLocals → decode c.code g.pc = .ok (ig, len) →
    2 * g.monitorRoom + (g.stack.map fun v => v.category).sum ≤ W9 → A.U.methodNamed? y = some mk → Pre A a →
    (∃ (v : Option Value) (B : Pt), Stand p l e R s m sargs below meth c B.U B.locs B.cells B.slots ∧ Post A a v B ∧
      Steps p.tables e below (doInvoke e (A.U.setTop g) [] mk a).1 (B.U.setTop { g with pc := g.pc + len, stack := v.toList ++ g.stack })) ∨
    (∃ (q : Addr) (B : Pt), Stand p l e R s m sargs below meth c B.U B.locs B.cells B.slots ∧ PostX A a q B ∧
      Steps p.tables e below (doInvoke e (A.U.setTop g) [] mk a).1 ((B.U.setTop g).pushFrame (.throwing q)))
section Payer
variable {l : Launch} {R : Room} {p : Program} {e : Env} {below : List Frame} {s : State} {sargs : Array Value} {y : MethodName} {len W9 : Nat}
theorem vx_back {ws : List Cond} {rm : Room} {Pc : Array Value → State → Prop} {Qc : Array Value → State → Outcome → State → Prop} {XC : String → State → State → Prop} {mc ms : Nat} {free : Addr → Prop} {bytes : ByteArray} {maxL : Nat} {ret : Option FieldType}
    (hM : vx_Met l y ws rm Pc Qc XC mc ms free) (hblind : FrameBlind Pc) (hrc : rm.cells = mc) (hrs : rm.slots = ms)
    (hframes : rm.frames + 1 ≤ R.frames) (hlocals : W9 + (maxL + 11) + rm.locals ≤ R.locals)
    (hws : ∀ w ∈ ws, ∀ a' U, s.WarmedH U.vm → w.before a' U = true) (hcode : Cond.code y bytes maxL ret ∈ ws) (hinit : ∀ a' U, s.WarmedH U.vm → (Cond.initialized y.cls).before a' U = true) :
    vx_Back l R p e below s sargs y len W9 (PreOf R mc ms Pc) (PostOf Qc mc ms free) (vx_Post XC mc ms free) := by
  intro m meth c A g ig mk a X hg hsize hdg hW hn hp
  have h1 : (headSpec ws rm).pre.before a A.U = true := atoms_intro fun w hw => hws w hw _ _ X.warmed
  have h2 : (Cond.code y bytes maxL ret).before a A.U = true := hws _ hcode _ _ X.warmed
  have h3 : (Cond.initialized y.cls).before a A.U = true := hinit _ _ X.warmed
  have h4 : A.cells + (headSpec ws rm).room.cells ≤ R.cells := by rw [show (headSpec ws rm).room.cells = mc from hrc]; exact hp.1
  have h5 : A.slots + (headSpec ws rm).room.slots ≤ R.slots := by rw [show (headSpec ws rm).room.slots = ms from hrs]; exact hp.2.1
  have hPc : Pc a (A.U.calling g mk a) := hblind _ _ _ _ hp.2.2
  obtain ⟨U, Ls, c0, s0⟩ := A
  dsimp only [Pt.U, Pt.locs, Pt.cells, Pt.slots] at h1 h2 h3 h4 h5 X hn hPc ⊢
  obtain ⟨methY, cY, hmY, hcY, -, hlY, -, -, -, -⟩ := Cond.code_spec hn h2
  obtain ⟨kY, hkY, -⟩ := className_of_methodNamed hn
  have hinitY : kY.init = .initialized := Cond.initialized_spec (findClass_of_methodNamed hn) hkY h3
  have h : At U g.method c below := by rw [hg]; exact X.here
  have hlocals9 : W9 + (maxL + 11) + (headSpec ws rm).room.locals ≤ R.locals := hlocals
  have happ : (headSpec ws rm).appliesLoose y e.platform (U.calling g mk a) = true :=
    Spec.appliesLoose_calling (g := g) h hdg hn hkY hinitY
      (X.room_calling (g := g) (R' := (headSpec ws rm).room) hsize hmY hcY hframes (by rw [hlY]; omega) h4 h5) h1
  obtain ⟨mid, hmid⟩ := h.above
  have hfr : (U.setTop g).frames = (.java g :: mid) ++ below := by rw [State.frames_setTop' g h.top, hmid]; rfl
  obtain ⟨o, s₂, hsteps, -, hend, hq⟩ := Steps.callFree hM p X.admits X.cas X.clock (acts := []) hfr happ hPc trivial
  have hq' : vx_Q Qc XC mc ms free a (U.calling g mk a) o s₂ := hq
  rw [State.frames_setTop' g h.top] at hend
  obtain ⟨g₀, hg0⟩ := Option.isSome_iff_exists.mp h.top
  obtain ⟨r, hr⟩ := State.topJava?_eq_some.mp hg0
  have hr' : (({ U with heap := s₂.heap, slotsUsed := s₂.slotsUsed } : State).setVm s₂.vm).frames = .java g₀ :: r := hr
  rcases hq' with ⟨hqc, L, hfe, hL⟩ | ⟨q, rfl, E, ce, L, hx, hce, hcv, hcl, hW₂, hsm, hL⟩
  · obtain ⟨⟨v, rfl⟩, hW₂, e2, q2, q3, q4, q5, q6⟩ := id hfe
    have e3 : s₂ = ({ (U.calling g mk a).setFrames s₂.frames with heap := s₂.heap, slotsUsed := s₂.slotsUsed } : State).setVm s₂.vm := by
      have : s₂ = ({ s₂ with vm := (U.calling g mk a).vm } : State).setVm s₂.vm := rfl
      rw [e2] at this
      exact this
    obtain ⟨c₂, i₂, len₂, hc₂, hd₂, hf₂⟩ := hend
    have hW' : U.WarmedH s₂.vm := hW₂
    have hcc : c₂ = c := by
      have h1 : s₂.code? g.method = U.code? g.method := by
        rw [State.code?_eq, State.code?_eq, hW'.alike.method?]
      exact Option.some.inj (hc₂.symm.trans (h1.trans h.code))
    subst hcc
    have hlen : len₂ = len := by rw [hdg] at hd₂; cases hd₂; rfl
    subst hlen
    have hs₂ : s₂ = (({ U with heap := s₂.heap, slotsUsed := s₂.slotsUsed } : State).setVm s₂.vm).setTop { g with pc := g.pc + len₂, stack := v.toList ++ g.stack } := by
      refine e3.trans ?_
      rw [hf₂, State.calling_eq h.top, State.setFrames_setFrames, State.setTop_of_frames _ hr', hr]
      rfl
    have hsame : U.sameButNew ({ U with heap := s₂.heap, slotsUsed := s₂.slotsUsed } : State) L mc ms := by
      refine ⟨?_, q2, q3, q4, q5, q6⟩
      obtain ⟨t, ht, -⟩ := State.frames_cons hr
      show ({ U with heap := s₂.heap, slotsUsed := s₂.slotsUsed } : State) = { U.setFrames U.frames with heap := s₂.heap, slotsUsed := s₂.slotsUsed }
      rw [State.setFrames_self ht]
    subst hg
    refine Or.inl ⟨v, ⟨(({ U with heap := s₂.heap, slotsUsed := s₂.slotsUsed } : State).setVm s₂.vm), Ls ++ L, c0 + mc, s0 + ms⟩,
      ⟨X.admits, X.cas, X.clock, X.frames, X.room, X.hears, X.method, X.code, (X.here.setHeapUsed s₂.heap s₂.slotsUsed).setVm hW'.alike, X.tail, State.WarmedH.trans X.warmed hW', X.limits, X.bytes, X.same.trans (hsame.setVm s.vm)⟩,
      ⟨g, mk, s₂, L, rfl, rfl, hqc, rfl, hL, rfl, rfl⟩, ?_⟩
    show Steps p.tables e below _ ((({ U with heap := s₂.heap, slotsUsed := s₂.slotsUsed } : State).setVm s₂.vm).setTop { g with pc := g.pc + len₂, stack := v.toList ++ g.stack })
    rw [← hs₂]
    exact hsteps
  · obtain ⟨e2, q2, q3, q4, q5, q6⟩ := id hsm
    have e3 : s₂ = ({ (U.calling g mk a).setFrames s₂.frames with heap := s₂.heap, slotsUsed := s₂.slotsUsed } : State).setVm s₂.vm := by
      have : s₂ = ({ s₂ with vm := (U.calling g mk a).vm } : State).setVm s₂.vm := rfl
      rw [e2] at this
      exact this
    have hf₂ : s₂.frames = .throwing q :: .java g :: U.frames.tail := hend
    have hW' : U.WarmedH s₂.vm := hW₂
    have hs₂ : s₂ = ((({ U with heap := s₂.heap, slotsUsed := s₂.slotsUsed } : State).setVm s₂.vm).setTop g).pushFrame (.throwing q) := by
      refine e3.trans ?_
      rw [hf₂, State.calling_eq h.top, State.setFrames_setFrames, State.pushFrame, State.frames_setTop _ hr', State.setTop_of_frames _ hr', State.setFrames_setFrames, hr]
      rfl
    have hsame : U.sameButNew ({ U with heap := s₂.heap, slotsUsed := s₂.slotsUsed } : State) L mc ms := by
      refine ⟨?_, q2, q3, q4, q5, q6⟩
      obtain ⟨t, ht, -⟩ := State.frames_cons hr
      show ({ U with heap := s₂.heap, slotsUsed := s₂.slotsUsed } : State) = { U.setFrames U.frames with heap := s₂.heap, slotsUsed := s₂.slotsUsed }
      rw [State.setFrames_self ht]
    subst hg
    refine Or.inr ⟨q, ⟨(({ U with heap := s₂.heap, slotsUsed := s₂.slotsUsed } : State).setVm s₂.vm), Ls ++ L, c0 + mc, s0 + ms⟩,
      ⟨X.admits, X.cas, X.clock, X.frames, X.room, X.hears, X.method, X.code, (X.here.setHeapUsed s₂.heap s₂.slotsUsed).setVm hW'.alike, X.tail, State.WarmedH.trans X.warmed hW', X.limits, X.bytes, X.same.trans (hsame.setVm s.vm)⟩,
      ⟨g, mk, s₂, L, E, ce, rfl, rfl, hx, hce, hcv, hcl, rfl, hL, rfl, rfl⟩, ?_⟩
    show Steps p.tables e below _ (((({ U with heap := s₂.heap, slotsUsed := s₂.slotsUsed } : State).setVm s₂.vm).setTop g).pushFrame (.throwing q))
    rw [← hs₂]
    exact hsteps
end Payer
section Calls
variable {p : Program} {l : Launch} {e : Env} {R : Room} {s : State} {m : MethodId} {args : Array Value} {below : List Frame} {meth : Method} {c : Code} {T : State} {locs : List Loc} {cells slots : Nat}
theorem vx_callV (X : Stand p l e R s m args below meth c T locs cells slots) (hexec : p.tables.exec = Jvm.exec) {own C : String} {index : Nat} {y : MethodName} {bytes : ByteArray} {maxL : Nat} {ret : Option FieldType}
    (hown : s.vm.findClass own = some m.cls) (hlink : (Cond.methodLink own index y).before args s = true) (hinst : (Cond.instanceMethod y).before args s = true) (hsel : (Cond.selects C y y).before args s = true)
    (hcode : (Cond.code y bytes maxL ret).before args s = true) (hy : y.cls ≠ "java/lang/invoke/MethodHandle" ∧ y.cls ≠ "java/lang/invoke/VarHandle")
    {W9 : Nat} {Pre : Pt → Array Value → Prop} {Post : Pt → Array Value → Option Value → Pt → Prop} {PostX : Pt → Array Value → Addr → Pt → Prop} (hK : vx_Back l R p e below s args y 3 W9 Pre Post PostX)
    {b : Addr} {cellB : Cell} (hcell : T.heap[b]? = some cellB) (hobj : cellB.vm.isStatics = false) (hcls : s.vm.findClass C = some cellB.cls)
    {g : JFrame} (hg : g.method = m) (hsize : g.locals.size = c.maxLocals) {argsL rest : List Value} (hlen : ∀ sig, parseMethodDescriptor y.desc = some sig → argsL.length = sig.parameters.length)
    (hstack : g.stack = argsL.reverse ++ .ref b :: rest) (hW : 2 * g.monitorRoom + (rest.map fun v => v.category).sum ≤ W9) (hdg : decode c.code g.pc = .ok (.invokevirtual index, 3))
    (hpre : ∀ vm₁, s.WarmedH vm₁ → Pre ⟨T.setVm vm₁, locs, cells, slots⟩ (Value.ref b :: argsL).toArray) :
    (∃ (v : Option Value) (vm₁ : Vm) (B : Pt), s.WarmedH vm₁ ∧ Stand p l e R s m args below meth c B.U B.locs B.cells B.slots ∧ Post ⟨T.setVm vm₁, locs, cells, slots⟩ (Value.ref b :: argsL).toArray v B ∧
      ∀ target, Steps p.tables e below (B.U.setTop { g with pc := g.pc + 3, stack := v.toList ++ rest }) target → Steps p.tables e below (T.setTop g) target) ∨
    (∃ (q : Addr) (vm₁ : Vm) (B : Pt), s.WarmedH vm₁ ∧ Stand p l e R s m args below meth c B.U B.locs B.cells B.slots ∧ PostX ⟨T.setVm vm₁, locs, cells, slots⟩ (Value.ref b :: argsL).toArray q B ∧
      Steps p.tables e below (T.setTop g) ((B.U.setTop { g with stack := rest }).pushFrame (.throwing q))) := by
  obtain ⟨mk, methM, hnamed, hmethM, hstM, habM⟩ := Cond.instanceMethod_spec hinst
  obtain ⟨methM', cM, hmethM', -, -, -, -, -, -, hsigM⟩ := Cond.code_spec hnamed hcode
  cases hmethM.symm.trans hmethM'
  obtain ⟨c2, r2, m2, q1, q2, q3, q4, kP, hkP, hkPi⟩ := Cond.selects_spec hsel
  cases hcls.symm.trans q1
  cases (State.methodFound?_of_named hnamed hy).symm.trans q2
  cases hnamed.symm.trans q3
  have hselP : selectMethod e.platform s.vm cellB.cls mk = .method mk := by rw [Launch.admits_selectMethod X.admits]; exact q4
  obtain ⟨vm₁, X₁, hstep₁⟩ := X.invokevirtual hexec hown hlink hnamed hmethM hstM hkP hkPi hy (a := b) (cell := cellB) hcell
    (fun z h => by rw [h] at hobj; cases hobj) hselP hmethM habM hkP hkPi (g := g) hg (argsL := argsL) (rest := rest) (hlen _ hsigM) hstack hdg
  rcases hK m meth c ⟨T.setVm vm₁, locs, cells, slots⟩ { g with stack := rest } (.invokevirtual index) mk (Value.ref b :: argsL).toArray X₁ hg hsize hdg hW (X₁.named hnamed) (hpre vm₁ X₁.warmed) with ⟨v, B, X', hpost, hsteps⟩ | ⟨q, B, X', hpost, hsteps⟩
  · exact Or.inl ⟨v, vm₁, B, X₁.warmed, X', hpost, fun target h => hstep₁ _ fun acts => by rw [doInvoke_state]; exact hsteps.trans h⟩
  · exact Or.inr ⟨q, vm₁, B, X₁.warmed, X', hpost, hstep₁ _ fun acts => by rw [doInvoke_state]; exact hsteps⟩
theorem vx_callS (X : Stand p l e R s m args below meth c T locs cells slots) (hexec : p.tables.exec = Jvm.exec) {own : String} {index : Nat} {y : MethodName} {bytes : ByteArray} {maxL : Nat} {ret : Option FieldType}
    (hown : s.vm.findClass own = some m.cls) (hlink : (Cond.methodLink own index y).before args s = true) (hstat : (Cond.static y).before args s = true) (hinit : (Cond.initialized y.cls).before args s = true)
    (hcode : (Cond.code y bytes maxL ret).before args s = true) (hy : y.cls ≠ "java/lang/invoke/MethodHandle" ∧ y.cls ≠ "java/lang/invoke/VarHandle")
    {W9 : Nat} {Pre : Pt → Array Value → Prop} {Post : Pt → Array Value → Option Value → Pt → Prop} {PostX : Pt → Array Value → Addr → Pt → Prop} (hK : vx_Back l R p e below s args y 3 W9 Pre Post PostX)
    {g : JFrame} (hg : g.method = m) (hsize : g.locals.size = c.maxLocals) {argsL rest : List Value} (hlen : ∀ sig, parseMethodDescriptor y.desc = some sig → argsL.length = sig.parameters.length)
    (hstack : g.stack = argsL.reverse ++ rest) (hW : 2 * g.monitorRoom + (rest.map fun v => v.category).sum ≤ W9) (hdg : decode c.code g.pc = .ok (.invokestatic index, 3))
    (hpre : ∀ vm₁, s.WarmedH vm₁ → Pre ⟨T.setVm vm₁, locs, cells, slots⟩ argsL.toArray) :
    (∃ (v : Option Value) (vm₁ : Vm) (B : Pt), s.WarmedH vm₁ ∧ Stand p l e R s m args below meth c B.U B.locs B.cells B.slots ∧ Post ⟨T.setVm vm₁, locs, cells, slots⟩ argsL.toArray v B ∧
      ∀ target, Steps p.tables e below (B.U.setTop { g with pc := g.pc + 3, stack := v.toList ++ rest }) target → Steps p.tables e below (T.setTop g) target) ∨
    (∃ (q : Addr) (vm₁ : Vm) (B : Pt), s.WarmedH vm₁ ∧ Stand p l e R s m args below meth c B.U B.locs B.cells B.slots ∧ PostX ⟨T.setVm vm₁, locs, cells, slots⟩ argsL.toArray q B ∧
      Steps p.tables e below (T.setTop g) ((B.U.setTop { g with stack := rest }).pushFrame (.throwing q))) := by
  obtain ⟨mk, hnamed⟩ := Cond.code_named hcode
  obtain ⟨methM, cM, hmethM, -, -, -, -, -, -, hsigM⟩ := Cond.code_spec hnamed hcode
  have hstatic : methM.isStatic = true := Cond.static_spec hnamed hmethM hstat
  obtain ⟨kP, hkP, -⟩ := className_of_methodNamed hnamed
  have hinitP : kP.init = .initialized := Cond.initialized_spec (findClass_of_methodNamed hnamed) hkP hinit
  obtain ⟨vm₁, X₁, hstep₁⟩ := X.invokestatic hexec hown hlink hnamed hmethM hstatic hkP hinitP hy (g := g) hg (argsL := argsL) (rest := rest) (hlen _ hsigM) hstack hdg
  rcases hK m meth c ⟨T.setVm vm₁, locs, cells, slots⟩ { g with stack := rest } (.invokestatic index) mk argsL.toArray X₁ hg hsize hdg hW (X₁.named hnamed) (hpre vm₁ X₁.warmed) with ⟨v, B, X', hpost, hsteps⟩ | ⟨q, B, X', hpost, hsteps⟩
  · exact Or.inl ⟨v, vm₁, B, X₁.warmed, X', hpost, fun target h => hstep₁ _ fun acts => by rw [doInvoke_state]; exact hsteps.trans h⟩
  · exact Or.inr ⟨q, vm₁, B, X₁.warmed, X', hpost, hstep₁ _ fun acts => by rw [doInvoke_state]; exact hsteps⟩
end Calls
theorem vx_cls {s : State} {T : State} {vm₁ : Vm} {E : String} {k : ClassId} (hW : s.WarmedH vm₁) (h : (T.setVm vm₁).vm.findClass E = some k) : s.vm.findClass E = some k := by
  have h1 : vm₁.findClass E = some k := h
  rw [hW.alike.findClass] at h1
  exact h1
/-- the method's frame g, with q thrown over it -/
def vx_W (p : Program) (l : Launch) (e : Env) (R : Room) (s : State) (m : MethodId) (args : Array Value) (below : List Frame) (meth : Method) (c : Code) (H : Heap) (locs : List Loc) (cells slots : Nat) (Q : State → Prop) (g : JFrame) (q : Addr) : Prop :=
  ∀ T : State, T.heap = H → Stand p l e R s m args below meth c T locs cells slots → ∃ t, Steps p.tables e below ((T.setTop g).pushFrame (.throwing q)) t ∧ Q t
def vx_Run (p : Program) (l : Launch) (e : Env) (R : Room) (s : State) (m : MethodId) (args : Array Value) (below : List Frame) (meth : Method) (c : Code) (H : Heap) (locs : List Loc) (cells slots mc ms : Nat) (g : JFrame) (rest : List Value) (Qa : State → Outcome → State → Prop) (XC : String → State → State → Prop) (free : Addr → Prop) : Prop :=
  ∀ T : State, T.heap = H → Stand p l e R s m args below meth c T locs cells slots →
    (∃ (v : Option Value) (st₀ t T' : State) (L : List Loc), st₀.heap = H ∧ Stand p l e R s m args below meth c T' (locs ++ L) (cells + mc) (slots + ms) ∧ (∀ q ∈ L, free q.base) ∧ T'.heap = t.heap ∧ T'.vm = t.vm ∧ Qa st₀ (.returned v) t ∧
      Goes p e below T g T' { g with pc := g.pc + 3, stack := v.toList ++ rest }) ∨
    (∃ (q : Addr) (st₀ t T' : State) (L : List Loc) (E : String) (ce : Cell), st₀.heap = H ∧ Stand p l e R s m args below meth c T' (locs ++ L) (cells + mc) (slots + ms) ∧ (∀ z ∈ L, free z.base) ∧ T'.heap = t.heap ∧ T'.vm = t.vm ∧ XC E st₀ t ∧ t.heap[q]? = some ce ∧ ce.vm = .none ∧ s.vm.findClass E = some ce.cls ∧
      Steps p.tables e below (T.setTop g) ((T'.setTop { g with stack := rest }).pushFrame (.throwing q)))
def vx_X {S : Type} (px : S → Prop) (B : String → S → State → Prop) (A : Nat → Prop) : String → State → State → Prop := fun E st t => ∃ u : S, px u ∧ B E u t ∧ va_F A st t
section Runs
variable {p : Program} {l : Launch} {e : Env} {R : Room} {s : State} {m : MethodId} {args : Array Value} {below : List Frame} {meth : Method} {c : Code} {H : Heap} {locs : List Loc} {cells slots : Nat}
variable {y : MethodName} {bytes cc : ByteArray} {maxL nL mc ms n index : Nat} {ret : Option FieldType} {ws : List Cond} {rm : Room} {Pc : Array Value → State → Prop} {Qc : Array Value → State → Outcome → State → Prop} {XC : String → State → State → Prop} {free : Addr → Prop} {Ts : List Cond} {own C : String} {b : Addr} {As rest : List Value} {g : JFrame}
theorem vx_callBack (cb : CallB R s args own index y bytes maxL ret ws rm mc ms n) (hM : vx_Met l y ws rm Pc Qc XC mc ms free) (hbl : FrameBlind Pc) : vx_Back l R p e below s args y 3 8 (PreOf R mc ms Pc) (PostOf Qc mc ms free) (vx_Post XC mc ms free) := by
  obtain ⟨hrc, hrs, hfr, hlo, hws, hcw, -, hini, -⟩ := cb
  exact vx_back (bytes := bytes) (maxL := maxL) (ret := ret) hM hbl hrc hrs hfr hlo hws hcw (fun a' U hW => word_at hW (Or.inl (by first | rfl | simp [Cond.onTables, Cond.keeps, Cond.steady])) hini)
theorem vx_runV (S : CallFix p m c cc nL s args Ts own) (hM : vx_Met l y ws rm Pc Qc XC mc ms free) (cw : CallW R s args own C index y bytes maxL ret ws rm mc ms n) (hp : PreV s H C b Pc As)
    (hg : g.method = m) (hn : As.length = n) (hsize : g.locals.size = nL) (hstack : g.stack = As.reverse ++ .ref b :: rest) (hW : 2 * g.monitorRoom + (rest.map fun v => v.category).sum ≤ 8) (hdg : decode cc g.pc = .ok (.invokevirtual index, 3)) (hf : cells + mc ≤ R.cells ∧ slots + ms ≤ R.slots) :
    vx_Run p l e R s m args below meth c H locs cells slots mc ms g rest (Qc (Value.ref b :: As).toArray) XC free := by
  have hK : vx_Back l R p e below s args y 3 8 (PreOf R mc ms Pc) (PostOf Qc mc ms free) (vx_Post XC mc ms free) := vx_callBack cw.1 hM hp.1
  obtain ⟨⟨-, -, -, -, -, -, hcode, -, hy, hlen, hl⟩, hin, hse⟩ := cw
  obtain ⟨hx, hb, hml, ho, -⟩ := S
  obtain ⟨-, ⟨cellB, hcB, hoB, hclB⟩, hPc⟩ := hp
  intro T hT X
  rcases vx_callV X hx (C := C) (bytes := bytes) (maxL := maxL) (ret := ret) ho hl hin hse hcode hy hK (by rw [hT]; exact hcB) hoB hclB hg (hsize.trans hml.symm) (argsL := As) (rest := rest) (fun sig h => hn.trans (hlen sig h)) hstack hW (by rw [hb]; exact hdg)
    (fun vm₁ hW₁ => ⟨hf.1, hf.2, hPc (T.setVm vm₁) hT hW₁⟩) with ⟨v, vm₁, ⟨U', l2, c2, s2⟩, hW₁, X', ⟨g', mk, t, L, e1, e2, hq, h1, hL, h2, h3⟩, st⟩ | ⟨q, vm₁, ⟨U', l2, c2, s2⟩, hW₁, X', ⟨g', mk, t, L, E, ce, e1, e2, hq, hce, hcv, hcl, h1, hL, h2, h3⟩, st⟩
  · dsimp only [Pt.U, Pt.locs, Pt.cells, Pt.slots] at X' e1 e2 h1 h2 h3 st
    subst h1; subst h2; subst h3
    exact Or.inl ⟨v, (T.setVm vm₁).calling g' mk (Value.ref b :: As).toArray, t, U', L, hT, X', hL, e1, e2, hq, st⟩
  · dsimp only [Pt.U, Pt.locs, Pt.cells, Pt.slots] at X' e1 e2 h1 h2 h3 st hcl
    subst h1; subst h2; subst h3
    exact Or.inr ⟨q, (T.setVm vm₁).calling g' mk (Value.ref b :: As).toArray, t, U', L, E, ce, hT, X', hL, e1, e2, hq, hce, hcv, vx_cls hW₁ hcl, st⟩
theorem vx_runS (S : CallFix p m c cc nL s args Ts own) (hM : vx_Met l y ws rm Pc Qc XC mc ms free) (cw : CallB R s args own index y bytes maxL ret ws rm mc ms n ∧ (Cond.static y).before args s = true) (hp : PreS s H Pc As)
    (hg : g.method = m) (hn : As.length = n) (hsize : g.locals.size = nL) (hstack : g.stack = As.reverse ++ rest) (hW : 2 * g.monitorRoom + (rest.map fun v => v.category).sum ≤ 8) (hdg : decode cc g.pc = .ok (.invokestatic index, 3)) (hf : cells + mc ≤ R.cells ∧ slots + ms ≤ R.slots) :
    vx_Run p l e R s m args below meth c H locs cells slots mc ms g rest (Qc As.toArray) XC free := by
  have hK : vx_Back l R p e below s args y 3 8 (PreOf R mc ms Pc) (PostOf Qc mc ms free) (vx_Post XC mc ms free) := vx_callBack cw.1 hM hp.1
  obtain ⟨⟨-, -, -, -, -, -, hcode, hini, hy, hlen, hl⟩, hstt⟩ := cw
  obtain ⟨hx, hb, hml, ho, -⟩ := S
  intro T hT X
  rcases vx_callS X hx (bytes := bytes) (maxL := maxL) (ret := ret) ho hl hstt hini hcode hy hK hg (hsize.trans hml.symm) (argsL := As) (rest := rest) (fun sig h => hn.trans (hlen sig h)) hstack hW (by rw [hb]; exact hdg)
    (fun vm₁ hW₁ => ⟨hf.1, hf.2, hp.2 (T.setVm vm₁) hT hW₁⟩) with ⟨v, vm₁, ⟨U', l2, c2, s2⟩, hW₁, X', ⟨g', mk, t, L, e1, e2, hq, h1, hL, h2, h3⟩, st⟩ | ⟨q, vm₁, ⟨U', l2, c2, s2⟩, hW₁, X', ⟨g', mk, t, L, E, ce, e1, e2, hq, hce, hcv, hcl, h1, hL, h2, h3⟩, st⟩
  · dsimp only [Pt.U, Pt.locs, Pt.cells, Pt.slots] at X' e1 e2 h1 h2 h3 st
    subst h1; subst h2; subst h3
    exact Or.inl ⟨v, (T.setVm vm₁).calling g' mk As.toArray, t, U', L, hT, X', hL, e1, e2, hq, st⟩
  · dsimp only [Pt.U, Pt.locs, Pt.cells, Pt.slots] at X' e1 e2 h1 h2 h3 st hcl
    subst h1; subst h2; subst h3
    exact Or.inr ⟨q, (T.setVm vm₁).calling g' mk As.toArray, t, U', L, E, ce, hT, X', hL, e1, e2, hq, hce, hcv, vx_cls hW₁ hcl, st⟩
end Runs
section Rows
variable {p : Program} {l : Launch} {e : Env} {R : Room} {s : State} {m : MethodId} {args : Array Value} {below : List Frame} {meth : Method} {c : Code} {H : Heap} {locs : List Loc} {cells slots : Nat} {Q : State → Prop}
variable {mc ms : Nat} {free : Addr → Prop} {A0 A1 : Nat → Prop} {H0 : Heap} {a : Array Value} {pc : Nat} {ls : Array Slot} {st0 rest : List Value}
theorem vx_keep {st₀ t T' : State} {L : List Loc} (h0 : st₀.heap = H) (e1 : T'.heap = t.heap) (hS : va_S A0 H0 H locs) (hA : ∀ q, q < H.size → A1 q → A0 q) (hf : ∀ q, free q → A0 q) (hL : ∀ q ∈ L, free q.base) (hF : va_F A1 st₀ t) :
    H.size ≤ T'.heap.size ∧ (∀ q : Nat, q < H.size → ¬ A1 q → T'.heap[q]? = H[q]?) ∧ va_S A0 H0 T'.heap (locs ++ L) := by
  obtain ⟨hz, hk⟩ := hF
  rw [h0] at hz hk
  exact ⟨by rw [e1]; exact hz, fun q h1 h2 => by rw [e1]; exact hk q h1 h2,
    ⟨Nat.le_trans hS.1 (by rw [e1]; exact hz), fun q h1 h2 => by rw [e1, hk q (Nat.lt_of_lt_of_le h1 hS.1) (fun z => h2 (hA q (Nat.lt_of_lt_of_le h1 hS.1) z))]; exact hS.2.1 q h1 h2, fun q hq => by
      rcases List.mem_append.mp hq with h | h
      · exact hS.2.2 q h
      · exact hf _ (hL q h)⟩⟩
theorem vx_calli {S SX : Type} {post : Int32 → S → Prop} {px : SX → Prop} {B : S → State → Prop} {BX : String → SX → State → Prop} {AX : Nat → Prop} (hr : vx_Run p l e R s m args below meth c H locs cells slots mc ms (F0 m pc ls st0) rest (va_Qi post B A1 a) (vx_X px BX AX) free) (hS : va_S A0 H0 H locs) (hA : ∀ q, q < H.size → A1 q → A0 q) (hf : ∀ q, free q → A0 q) (hAX : ∀ q, q < H.size → AX q → A0 q)
    (kx : ∀ (E : String) (ce : Cell) (q9 : Addr) (u : SX) (t : State) (H1 : Heap) (locs1 : List Loc), t.heap = H1 → s.vm.Alike t.vm → px u → BX E u t → H.size ≤ H1.size → (∀ q : Nat, q < H.size → ¬ AX q → H1[q]? = H[q]?) → va_S A0 H0 H1 locs1 → H1[q9]? = some ce → ce.vm = .none → s.vm.findClass E = some ce.cls → vx_W p l e R s m args below meth c H1 locs1 (cells + mc) (slots + ms) Q (F0 m pc ls rest) q9)
    (kk : ∀ (r : Int32) (u : S) (t : State) (H1 : Heap) (locs1 : List Loc), t.heap = H1 → s.vm.Alike t.vm → post r u → B u t → H.size ≤ H1.size → (∀ q : Nat, q < H.size → ¬ A1 q → H1[q]? = H[q]?) → va_S A0 H0 H1 locs1 → W p l e R s m args below meth c H1 locs1 (cells + mc) (slots + ms) Q (F0 m (pc + 3) ls (.int r :: rest))) : W p l e R s m args below meth c H locs cells slots Q (F0 m pc ls st0) := by
  intro T hT X
  rcases hr T hT X with ⟨v, st₀, t, T', L, h0, X', hL, e1, e2, ⟨⟨r, u, hv, hp, hb⟩, hF⟩, st⟩ | ⟨q, st₀, t, T', L, E, ce, h0, X', hL, e1, e2, ⟨u, hp, hb, hF⟩, hce, hcv, hcl, st⟩
  · cases hv
    obtain ⟨k1, k2, k3⟩ := vx_keep h0 e1 hS hA hf hL hF
    obtain ⟨t2, a1, b1⟩ := kk r u t T'.heap (locs ++ L) e1.symm (by rw [← e2]; exact X'.warmed.alike) hp hb k1 k2 k3 T' rfl X'
    exact ⟨t2, st t2 a1, b1⟩
  · obtain ⟨k1, k2, k3⟩ := vx_keep h0 e1 hS hAX hf hL hF
    obtain ⟨t2, a1, b1⟩ := kx E ce q u t T'.heap (locs ++ L) e1.symm (by rw [← e2]; exact X'.warmed.alike) hp hb k1 k2 k3 (by rw [e1]; exact hce) hcv hcl T' rfl X'
    exact ⟨t2, st.trans a1, b1⟩
theorem vx_calll {S SX : Type} {post : Int64 → S → Prop} {px : SX → Prop} {B : S → State → Prop} {BX : String → SX → State → Prop} {AX : Nat → Prop} (hr : vx_Run p l e R s m args below meth c H locs cells slots mc ms (F0 m pc ls st0) rest (va_Ql post B A1 a) (vx_X px BX AX) free) (hS : va_S A0 H0 H locs) (hA : ∀ q, q < H.size → A1 q → A0 q) (hf : ∀ q, free q → A0 q) (hAX : ∀ q, q < H.size → AX q → A0 q)
    (kx : ∀ (E : String) (ce : Cell) (q9 : Addr) (u : SX) (t : State) (H1 : Heap) (locs1 : List Loc), t.heap = H1 → s.vm.Alike t.vm → px u → BX E u t → H.size ≤ H1.size → (∀ q : Nat, q < H.size → ¬ AX q → H1[q]? = H[q]?) → va_S A0 H0 H1 locs1 → H1[q9]? = some ce → ce.vm = .none → s.vm.findClass E = some ce.cls → vx_W p l e R s m args below meth c H1 locs1 (cells + mc) (slots + ms) Q (F0 m pc ls rest) q9)
    (kk : ∀ (r : Int64) (u : S) (t : State) (H1 : Heap) (locs1 : List Loc), t.heap = H1 → s.vm.Alike t.vm → post r u → B u t → H.size ≤ H1.size → (∀ q : Nat, q < H.size → ¬ A1 q → H1[q]? = H[q]?) → va_S A0 H0 H1 locs1 → W p l e R s m args below meth c H1 locs1 (cells + mc) (slots + ms) Q (F0 m (pc + 3) ls (.long r :: rest))) : W p l e R s m args below meth c H locs cells slots Q (F0 m pc ls st0) := by
  intro T hT X
  rcases hr T hT X with ⟨v, st₀, t, T', L, h0, X', hL, e1, e2, ⟨⟨r, u, hv, hp, hb⟩, hF⟩, st⟩ | ⟨q, st₀, t, T', L, E, ce, h0, X', hL, e1, e2, ⟨u, hp, hb, hF⟩, hce, hcv, hcl, st⟩
  · cases hv
    obtain ⟨k1, k2, k3⟩ := vx_keep h0 e1 hS hA hf hL hF
    obtain ⟨t2, a1, b1⟩ := kk r u t T'.heap (locs ++ L) e1.symm (by rw [← e2]; exact X'.warmed.alike) hp hb k1 k2 k3 T' rfl X'
    exact ⟨t2, st t2 a1, b1⟩
  · obtain ⟨k1, k2, k3⟩ := vx_keep h0 e1 hS hAX hf hL hF
    obtain ⟨t2, a1, b1⟩ := kx E ce q u t T'.heap (locs ++ L) e1.symm (by rw [← e2]; exact X'.warmed.alike) hp hb k1 k2 k3 (by rw [e1]; exact hce) hcv hcl T' rfl X'
    exact ⟨t2, st.trans a1, b1⟩
theorem vx_callf {S SX : Type} {post : UInt32 → S → Prop} {px : SX → Prop} {B : S → State → Prop} {BX : String → SX → State → Prop} {AX : Nat → Prop} (hr : vx_Run p l e R s m args below meth c H locs cells slots mc ms (F0 m pc ls st0) rest (va_Qf post B A1 a) (vx_X px BX AX) free) (hS : va_S A0 H0 H locs) (hA : ∀ q, q < H.size → A1 q → A0 q) (hf : ∀ q, free q → A0 q) (hAX : ∀ q, q < H.size → AX q → A0 q)
    (kx : ∀ (E : String) (ce : Cell) (q9 : Addr) (u : SX) (t : State) (H1 : Heap) (locs1 : List Loc), t.heap = H1 → s.vm.Alike t.vm → px u → BX E u t → H.size ≤ H1.size → (∀ q : Nat, q < H.size → ¬ AX q → H1[q]? = H[q]?) → va_S A0 H0 H1 locs1 → H1[q9]? = some ce → ce.vm = .none → s.vm.findClass E = some ce.cls → vx_W p l e R s m args below meth c H1 locs1 (cells + mc) (slots + ms) Q (F0 m pc ls rest) q9)
    (kk : ∀ (r : UInt32) (u : S) (t : State) (H1 : Heap) (locs1 : List Loc), t.heap = H1 → s.vm.Alike t.vm → post r u → B u t → H.size ≤ H1.size → (∀ q : Nat, q < H.size → ¬ A1 q → H1[q]? = H[q]?) → va_S A0 H0 H1 locs1 → W p l e R s m args below meth c H1 locs1 (cells + mc) (slots + ms) Q (F0 m (pc + 3) ls (.float r :: rest))) : W p l e R s m args below meth c H locs cells slots Q (F0 m pc ls st0) := by
  intro T hT X
  rcases hr T hT X with ⟨v, st₀, t, T', L, h0, X', hL, e1, e2, ⟨⟨r, u, hv, hp, hb⟩, hF⟩, st⟩ | ⟨q, st₀, t, T', L, E, ce, h0, X', hL, e1, e2, ⟨u, hp, hb, hF⟩, hce, hcv, hcl, st⟩
  · cases hv
    obtain ⟨k1, k2, k3⟩ := vx_keep h0 e1 hS hA hf hL hF
    obtain ⟨t2, a1, b1⟩ := kk r u t T'.heap (locs ++ L) e1.symm (by rw [← e2]; exact X'.warmed.alike) hp hb k1 k2 k3 T' rfl X'
    exact ⟨t2, st t2 a1, b1⟩
  · obtain ⟨k1, k2, k3⟩ := vx_keep h0 e1 hS hAX hf hL hF
    obtain ⟨t2, a1, b1⟩ := kx E ce q u t T'.heap (locs ++ L) e1.symm (by rw [← e2]; exact X'.warmed.alike) hp hb k1 k2 k3 (by rw [e1]; exact hce) hcv hcl T' rfl X'
    exact ⟨t2, st.trans a1, b1⟩
theorem vx_calld {S SX : Type} {post : UInt64 → S → Prop} {px : SX → Prop} {B : S → State → Prop} {BX : String → SX → State → Prop} {AX : Nat → Prop} (hr : vx_Run p l e R s m args below meth c H locs cells slots mc ms (F0 m pc ls st0) rest (va_Qd post B A1 a) (vx_X px BX AX) free) (hS : va_S A0 H0 H locs) (hA : ∀ q, q < H.size → A1 q → A0 q) (hf : ∀ q, free q → A0 q) (hAX : ∀ q, q < H.size → AX q → A0 q)
    (kx : ∀ (E : String) (ce : Cell) (q9 : Addr) (u : SX) (t : State) (H1 : Heap) (locs1 : List Loc), t.heap = H1 → s.vm.Alike t.vm → px u → BX E u t → H.size ≤ H1.size → (∀ q : Nat, q < H.size → ¬ AX q → H1[q]? = H[q]?) → va_S A0 H0 H1 locs1 → H1[q9]? = some ce → ce.vm = .none → s.vm.findClass E = some ce.cls → vx_W p l e R s m args below meth c H1 locs1 (cells + mc) (slots + ms) Q (F0 m pc ls rest) q9)
    (kk : ∀ (r : UInt64) (u : S) (t : State) (H1 : Heap) (locs1 : List Loc), t.heap = H1 → s.vm.Alike t.vm → post r u → B u t → H.size ≤ H1.size → (∀ q : Nat, q < H.size → ¬ A1 q → H1[q]? = H[q]?) → va_S A0 H0 H1 locs1 → W p l e R s m args below meth c H1 locs1 (cells + mc) (slots + ms) Q (F0 m (pc + 3) ls (.double r :: rest))) : W p l e R s m args below meth c H locs cells slots Q (F0 m pc ls st0) := by
  intro T hT X
  rcases hr T hT X with ⟨v, st₀, t, T', L, h0, X', hL, e1, e2, ⟨⟨r, u, hv, hp, hb⟩, hF⟩, st⟩ | ⟨q, st₀, t, T', L, E, ce, h0, X', hL, e1, e2, ⟨u, hp, hb, hF⟩, hce, hcv, hcl, st⟩
  · cases hv
    obtain ⟨k1, k2, k3⟩ := vx_keep h0 e1 hS hA hf hL hF
    obtain ⟨t2, a1, b1⟩ := kk r u t T'.heap (locs ++ L) e1.symm (by rw [← e2]; exact X'.warmed.alike) hp hb k1 k2 k3 T' rfl X'
    exact ⟨t2, st t2 a1, b1⟩
  · obtain ⟨k1, k2, k3⟩ := vx_keep h0 e1 hS hAX hf hL hF
    obtain ⟨t2, a1, b1⟩ := kx E ce q u t T'.heap (locs ++ L) e1.symm (by rw [← e2]; exact X'.warmed.alike) hp hb k1 k2 k3 (by rw [e1]; exact hce) hcv hcl T' rfl X'
    exact ⟨t2, st.trans a1, b1⟩
theorem vx_callv {S SX : Type} {post : S → Prop} {px : SX → Prop} {B : S → State → Prop} {BX : String → SX → State → Prop} {AX : Nat → Prop} (hr : vx_Run p l e R s m args below meth c H locs cells slots mc ms (F0 m pc ls st0) rest (va_Qv post B A1 a) (vx_X px BX AX) free) (hS : va_S A0 H0 H locs) (hA : ∀ q, q < H.size → A1 q → A0 q) (hf : ∀ q, free q → A0 q) (hAX : ∀ q, q < H.size → AX q → A0 q)
    (kx : ∀ (E : String) (ce : Cell) (q9 : Addr) (u : SX) (t : State) (H1 : Heap) (locs1 : List Loc), t.heap = H1 → s.vm.Alike t.vm → px u → BX E u t → H.size ≤ H1.size → (∀ q : Nat, q < H.size → ¬ AX q → H1[q]? = H[q]?) → va_S A0 H0 H1 locs1 → H1[q9]? = some ce → ce.vm = .none → s.vm.findClass E = some ce.cls → vx_W p l e R s m args below meth c H1 locs1 (cells + mc) (slots + ms) Q (F0 m pc ls rest) q9)
    (kk : ∀ (u : S) (t : State) (H1 : Heap) (locs1 : List Loc), t.heap = H1 → s.vm.Alike t.vm → post u → B u t → H.size ≤ H1.size → (∀ q : Nat, q < H.size → ¬ A1 q → H1[q]? = H[q]?) → va_S A0 H0 H1 locs1 → W p l e R s m args below meth c H1 locs1 (cells + mc) (slots + ms) Q (F0 m (pc + 3) ls (rest))) : W p l e R s m args below meth c H locs cells slots Q (F0 m pc ls st0) := by
  intro T hT X
  rcases hr T hT X with ⟨v, st₀, t, T', L, h0, X', hL, e1, e2, ⟨⟨u, hv, hp, hb⟩, hF⟩, st⟩ | ⟨q, st₀, t, T', L, E, ce, h0, X', hL, e1, e2, ⟨u, hp, hb, hF⟩, hce, hcv, hcl, st⟩
  · cases hv
    obtain ⟨k1, k2, k3⟩ := vx_keep h0 e1 hS hA hf hL hF
    obtain ⟨t2, a1, b1⟩ := kk u t T'.heap (locs ++ L) e1.symm (by rw [← e2]; exact X'.warmed.alike) hp hb k1 k2 k3 T' rfl X'
    exact ⟨t2, st t2 a1, b1⟩
  · obtain ⟨k1, k2, k3⟩ := vx_keep h0 e1 hS hAX hf hL hF
    obtain ⟨t2, a1, b1⟩ := kx E ce q u t T'.heap (locs ++ L) e1.symm (by rw [← e2]; exact X'.warmed.alike) hp hb k1 k2 k3 (by rw [e1]; exact hce) hcv hcl T' rfl X'
    exact ⟨t2, st.trans a1, b1⟩
/-- caught by the row x of this method's table; the rows ahead don't take it -/
theorem vx_catch {own name : String} {E : String} {ce : Cell} {q : Addr} (hown : s.vm.findClass own = some m.cls) (pre : List ExceptionTableEntry) (x : ExceptionTableEntry) (suf : List ExceptionTableEntry) (hsplit : c.exceptionTable.toList = pre ++ x :: suf)
    (hpass : ∀ z ∈ pre, covers z pc = false ∨ (z.catchType ≠ 0 ∧ ∃ nm : String, (Cond.classLink own z.catchType nm).before args s = true ∧ va_Nc E nm s)) (hx : covers x pc = true) (h0 : x.catchType ≠ 0)
    (hlink : (Cond.classLink own x.catchType name).before args s = true) (hcast : (Cond.castable E name).before args s = true) (hcell : H[q]? = some ce) (hv : ce.vm = .none) (hcl : s.vm.findClass E = some ce.cls)
    (kk : W p l e R s m args below meth c H locs cells slots Q (F0 m x.handlerPc ls [.ref q])) : vx_W p l e R s m args below meth c H locs cells slots Q (F0 m pc ls rest) q := by
  intro T hT X
  have hpl : e.platform.magicAccessors = ({} : Platform).magicAccessors := by rw [X.admits.platform]
  obtain ⟨c3, c4, hc3, hc4, hasg⟩ := Cond.castable_spec hcast
  cases Option.some.inj (hc3.symm.trans hcl)
  obtain ⟨c5, hc5, hcl5⟩ := Cond.classLink_spec hown hlink e.platform hpl
  cases Option.some.inj (hc4.symm.trans hc5)
  obtain ⟨vm', X', st⟩ := X.thenCaughtThrough q (g := F0 m pc ls rest) rfl (Steps.refl _) (by rw [hT]; exact hcell) (by rw [hv]; rfl) (by obtain ⟨k9, h9, -⟩ := Vm.findClass_spec hcl; exact ⟨k9, h9⟩) pre x suf hsplit
    (fun z hz => by
      rcases hpass z hz with h | ⟨hz0, nm, hl1, hn1⟩
      · exact Or.inl h
      · obtain ⟨c6, hc6, hcl6⟩ := Cond.classLink_spec hown hl1 e.platform hpl
        obtain ⟨a8, b8, h1, h2, h3⟩ := hn1
        cases Option.some.inj (h1.symm.trans hcl)
        cases Option.some.inj (h2.symm.trans hc6)
        exact Or.inr ⟨hz0, _, hcl6, h3⟩) hx (Or.inr ⟨h0, c4, hcl5, hasg⟩)
  obtain ⟨t, a1, b1⟩ := kk (T.setVm vm') hT X'
  exact ⟨t, st.trans a1, b1⟩
end Rows
section Ends
variable {p : Program} {l : Launch} {e : Env} {R : Room} {s : State} {m : MethodId} {args : Array Value} {below : List Frame} {meth : Method} {c : Code} {H : Heap} {locs : List Loc} {cells slots : Nat} {Q : State → Prop}
variable {mc ms : Nat} {free : Addr → Prop} {A0 A1 : Nat → Prop} {H0 : Heap} {a : Array Value} {ls : Array Slot} {st0 rest : List Value}
variable {Qc : Array Value → State → Outcome → State → Prop} {XC : String → State → State → Prop}
/-- what a body that may throw owes at its end -/
def vx_MQ (below : List Frame) (Qc : Array Value → State → Outcome → State → Prop) (XC : String → State → State → Prop) (a : Array Value) (s : State) (mc ms : Nat) (free : Addr → Prop) : State → Prop := fun t =>
  ∃ o, t.status = .running ∧ Ended t below o ∧ vx_Q Qc XC mc ms free a s o t
theorem vx_ret {g : JFrame} {mc ms : Nat} (k : W p l e R s m args below meth c H locs cells slots (MQ below Qc args s mc ms free) g) : W p l e R s m args below meth c H locs cells slots (vx_MQ below Qc XC args s mc ms free) g := by
  intro T hT X
  obtain ⟨t, a1, o, b1, b2, b3, b4⟩ := k T hT X
  exact ⟨t, a1, o, b1, b2, Or.inl ⟨b3, b4⟩⟩
/-- not caught here: it goes on to the caller -/
theorem vx_widen {g : JFrame} {q : Addr} {k n : Nat} (h1 : cells ≤ k) (h2 : slots ≤ n) (kk : vx_W p l e R s m args below meth c H locs k n Q g q) : vx_W p l e R s m args below meth c H locs cells slots Q g q := fun T hT X => kk T hT (stand_widen X h1 h2)
theorem vx_out {pc : Nat} {E : String} {ce : Cell} {q : Addr} {mc ms : Nat} (hout : ∀ x ∈ c.exceptionTable.toList, covers x pc = false) (hlocks : meth.locks = false) (hcell : H[q]? = some ce) (hv : ce.vm = .none) (hcl : s.vm.findClass E = some ce.cls)
    (hx : ∀ t : State, t.heap = H → s.vm.Alike t.vm → XC E s t) (hf : ∀ z ∈ locs, free z.base) (hc : cells ≤ mc) (hs : slots ≤ ms) :
    vx_W p l e R s m args below meth c H locs cells slots (vx_MQ below Qc XC args s mc ms free) (F0 m pc ls rest) q := by
  intro T hT X
  obtain ⟨st1, hrun, hend, hW, hsm⟩ := X.leaveThrown q (g := F0 m pc ls rest) rfl rfl rfl hout hlocks
  have hcell9 : (T.setFrames (.throwing q :: below)).heap[q]? = some ce := by
    show T.heap[q]? = some ce
    rw [hT]; exact hcell
  exact ⟨_, st1, .threw q, hrun, hend, Or.inr ⟨q, rfl, E, ce, locs, hx _ hT hW.alike, hcell9, hv, hcl, hW, hsm.mono hc hs, hf⟩⟩
theorem vx_frame {U : State} {k n : Nat} (h : s.sameButNew ({ U with vm := s.vm } : State) locs k n) : s.heap.size ≤ U.heap.size ∧ ∀ q : Nat, q < s.heap.size → (∀ z ∈ locs, z.base ≠ q) → U.heap[q]? = s.heap[q]? := by
  obtain ⟨-, h2, -, -, -, h6⟩ := h
  refine ⟨h2, fun q hq hz => ?_⟩
  obtain ⟨c9, e1, e2, e3, e4⟩ := h6 q _ (Array.getElem?_eq_getElem hq)
  have hs : c9.slots = (s.heap[q]).slots := Array.ext_getElem? fun i => e4 i fun hm => hz _ hm rfl
  have h9 : c9 = s.heap[q] := by
    rw [hs] at e2
    exact e2
  have e5 : U.heap[q]? = some c9 := e1
  rw [e5, h9, Array.getElem?_eq_getElem hq]
/-- the words of a throw but the four that speak of the heap -/
def vx_no (w : Cond) : Bool := decide (w ≠ .isRef (.static Bundle.tN "UNASSIGNED_STACK" Bundle.steD)) && decide (w ≠ .isRef (.static Bundle.tN "SUPPRESSED_SENTINEL" Bundle.listD)) && decide (w ≠ .laysStatic Bundle.tN "UNASSIGNED_STACK" Bundle.steD) && decide (w ≠ .laysStatic Bundle.tN "SUPPRESSED_SENTINEL" Bundle.listD)
def vx_at0 (own : String) (ic : Nat) (X : String) (names : List String) : List Cond := (Bundle.ownAtoms0 own ic X names).filter vx_no
def vx_atS (own : String) (ic : Nat) (X : String) (names : List String) : List Cond := (Bundle.ownAtoms own ic X names).filter vx_no
/-- a word that the tables alone decide, or a good one -/
def vx_ot (w : Cond) : Bool := w.onTables || goodWord w
theorem vx_ot_at {args a' : Array Value} {s U : State} {w : Cond} (hW : s.WarmedH U.vm) (hvm : s.vm = U.vm) (hg : vx_ot w = true) (h : w.before args s = true) : w.before a' U = true := by
  simp only [vx_ot, Bool.or_eq_true] at hg
  rcases hg with hg | hg
  · exact va_tabs hg hvm h
  · exact word_at hW (good_of_word hg) h
/-- a list's words: the good ones out of the method's own list, the others by premises of their own -/
theorem vx_hat {args : Array Value} {s : State} {L B : List Cond} (h1 : ∀ w ∈ L.filter goodWord, w.before args s = true) (h2 : ∀ w ∈ L.filter (fun w => !goodWord w), w ∈ B) (h3 : ∀ w ∈ B, w.before args s = true) : ∀ w ∈ L, w.before args s = true := by
  intro w hw
  by_cases g : goodWord w = true
  · exact h1 w (List.mem_filter.mpr ⟨hw, g⟩)
  · refine h3 w (h2 w (List.mem_filter.mpr ⟨hw, ?_⟩))
    show (!goodWord w) = true
    cases hgw : goodWord w
    · rfl
    · exact absurd hgw g
theorem vx_c {args : Array Value} {s : State} {w : Cond} {B : List Cond} (h : w.before args s = true) (t : ∀ w ∈ B, w.before args s = true) : ∀ w' ∈ w :: B, w'.before args s = true := fun w' h' => (List.mem_cons.mp h').elim (fun e => by rw [e]; exact h) (t w')
theorem vx_n {args : Array Value} {s : State} : ∀ w ∈ ([] : List Cond), w.before args s = true := fun _ h => nomatch h
theorem vx_own {args : Array Value} {s : State} {L : List Cond} (h1 : ∀ w ∈ L.filter vx_no, w.before args s = true)
    (hU : (Cond.isRef (.static Bundle.tN "UNASSIGNED_STACK" Bundle.steD)).before args s = true) (hN : (Cond.isRef (.static Bundle.tN "SUPPRESSED_SENTINEL" Bundle.listD)).before args s = true)
    (lU : (Cond.laysStatic Bundle.tN "UNASSIGNED_STACK" Bundle.steD).before args s = true) (lN : (Cond.laysStatic Bundle.tN "SUPPRESSED_SENTINEL" Bundle.listD).before args s = true) : ∀ w ∈ L, w.before args s = true := by
  intro w hw
  by_cases e1 : w = .isRef (.static Bundle.tN "UNASSIGNED_STACK" Bundle.steD)
  · rw [e1]; exact hU
  · by_cases e2 : w = .isRef (.static Bundle.tN "SUPPRESSED_SENTINEL" Bundle.listD)
    · rw [e2]; exact hN
    · by_cases e3 : w = .laysStatic Bundle.tN "UNASSIGNED_STACK" Bundle.steD
      · rw [e3]; exact lU
      · by_cases e4 : w = .laysStatic Bundle.tN "SUPPRESSED_SENTINEL" Bundle.listD
        · rw [e4]; exact lN
        · exact h1 w (List.mem_filter.mpr ⟨hw, by unfold vx_no; rw [decide_eq_true e1, decide_eq_true e2, decide_eq_true e3, decide_eq_true e4]; rfl⟩)
/-- where a static field lies, its class's statics cell in H -/
def vx_L (C n d : String) (A : Nat → Prop) (U : State) (H : Heap) : Prop := ∃ (c : ClassId) (k : Class) (i : Nat) (f : Field) (a : Nat) (cell : Cell), U.vm.findClass C = some c ∧ U.fieldFound? C n d = some (c, k, i, f) ∧ f.isStatic = true ∧ k.statics = some a ∧ H[a]? = some cell ∧ cell.vm.isStatics = true ∧ cell.cls = c ∧ f.slot < cell.slots.size ∧ k.staticTypes[f.slot]? = some f.type ∧ ¬ A a
theorem vx_L.moved {C n d : String} {A : Nat → Prop} {u U : State} {H : Heap} (hvm : u.vm.Alike U.vm) (h : vx_L C n d A u H) : vx_L C n d A U H := by
  obtain ⟨c, k, i, f, a, cell, h1, h2, h3, h4, h5, h6, h7, h8, h9, h10⟩ := h
  obtain ⟨k', hi', he⟩ := State.fieldFound?_setVm hvm h2
  exact ⟨c, k', i, f, a, cell, by rw [hvm.findClass]; exact h1, hi', h3, by rw [he]; exact h4, h5, h6, h7, h8, by rw [he]; exact h9, h10⟩
theorem vx_L.kept {C n d : String} {A : Nat → Prop} {U : State} {H H1 : Heap} (h : vx_L C n d A U H) (hq : ∀ a : Nat, a < H.size → ¬ A a → H1[a]? = H[a]?) : vx_L C n d A U H1 := by
  obtain ⟨c, k, i, f, a, cell, h1, h2, h3, h4, h5, h6, h7, h8, h9, h10⟩ := h
  exact ⟨c, k, i, f, a, cell, h1, h2, h3, h4, by rw [hq a (Array.getElem?_eq_some_iff.mp h5).1 h10]; exact h5, h6, h7, h8, h9, h10⟩
theorem vx_L.narrow {C n d : String} {A B : Nat → Prop} {U : State} {H : Heap} (h : vx_L C n d A U H) (hAB : ∀ q, B q → A q) : vx_L C n d B U H := by
  obtain ⟨c, k, i, f, a, cell, h1, h2, h3, h4, h5, h6, h7, h8, h9, h10⟩ := h
  exact ⟨c, k, i, f, a, cell, h1, h2, h3, h4, h5, h6, h7, h8, h9, fun z => h10 (hAB _ z)⟩
theorem vx_L.word {C n d : String} {A : Nat → Prop} {s : State} {args : Array Value} (h : vx_L C n d A s s.heap) : (Cond.laysStatic C n d).before args s = true := by
  obtain ⟨c, k, i, f, a, cell, h1, h2, h3, h4, h5, h6, h7, h8, h9, -⟩ := h
  show (Cond.laysStatic C n d).holds args s none s [] = true
  exact Cond.laysStatic_of h1 h2 h3 h4 h5 h6 h7 h8 h9
/-- .. and what it holds: null or some reference -/
def vx_Zq (C n d : String) (A : Nat → Prop) (U : State) (H : Heap) : Prop := va_Zq C n d A U H ∧ vx_L C n d A U H
theorem vx_Zq.moved {C n d : String} {A : Nat → Prop} {u U : State} {H : Heap} (hvm : u.vm.Alike U.vm) (h : vx_Zq C n d A u H) : vx_Zq C n d A U H := ⟨va_Zq.moved hvm h.1, vx_L.moved hvm h.2⟩
theorem vx_Zq.kept {C n d : String} {A : Nat → Prop} {U : State} {H H1 : Heap} (h : vx_Zq C n d A U H) (hq : ∀ a : Nat, a < H.size → ¬ A a → H1[a]? = H[a]?) : vx_Zq C n d A U H1 := ⟨va_Zq.kept h.1 hq, vx_L.kept h.2 hq⟩
theorem vx_Zq.narrow {C n d : String} {A B : Nat → Prop} {U : State} {H : Heap} (h : vx_Zq C n d A U H) (hAB : ∀ q, B q → A q) : vx_Zq C n d B U H := ⟨va_Zq.narrow h.1 hAB, vx_L.narrow h.2 hAB⟩
theorem vx_Zqof {args : Array Value} {s : State} {C n d : String} {A : Nat → Prop} (hl : (Cond.laysStatic C n d).before args s = true) (hini : (Cond.initialized C).before args s = true) (h : (Cond.isRef (.static C n d)).before args s = true) (hA : ∀ a : Nat, a < s.heap.size → ¬ A a) : vx_Zq C n d A s s.heap := by
  refine ⟨va_Zqof hl hini h hA, ?_⟩
  obtain ⟨c, k, i, f, a, cell, h1, h2, h3, h4, h5, h6, h7, h8, h9⟩ := Cond.laysStatic_spec hl
  exact ⟨c, k, i, f, a, cell, h1, h2, h3, h4, h5, h6, h7, h8, h9, hA a (Array.getElem?_eq_some_iff.mp h5).1⟩
theorem vx_isRef {C n d : String} {v : Value} {A : Nat → Prop} {s : State} {args : Array Value} (h : va_Z C n d v A s s.heap) (hv : v.isRef = true) : (Cond.isRef (.static C n d)).before args s = true := by
  obtain ⟨cf, kf, fi, f, a, cell, h1, h2, h3, h4, h5, h6, h7, -⟩ := h
  have he : (Term.static C n d).eval args s none [] s = some v := by
    simp [Term.eval, State.fieldNamed?, h1, h2, h4, h5, h6, h7]
  simp only [Cond.before, Cond.holds, Cond.value, he]
  cases v <;> simp_all [Value.isRef]
theorem vx_isRefq {C n d : String} {A : Nat → Prop} {s : State} {args : Array Value} (h : va_Zq C n d A s s.heap) : (Cond.isRef (.static C n d)).before args s = true := by
  rcases h with h | ⟨t, h⟩
  · exact vx_isRef h rfl
  · exact vx_isRef h rfl
/-- the same frame, seen from here: as if the method were called anew in this heap -/
theorem vx_rebase {T : State} (X : Stand p l e R s m args below meth c T locs cells slots) {R' : Room} (hf : R'.frames ≤ R.frames) (hl : R'.locals ≤ R.locals) (hc : cells + R'.cells ≤ R.cells) (hs : slots + R'.slots ≤ R.slots) :
    Stand p l e R' ((T.setVm s.vm).setFrames (.invoking m args :: below)) m args below meth c T [] 0 0 := by
  have htop : (T.setVm s.vm).topJava?.isSome := X.here.top
  have hF : ((T.setVm s.vm).setFrames (.invoking m args :: below)).frames = .invoking m args :: below := State.frames_setFrames _ (State.cur_lt_of_top htop)
  obtain ⟨g₀, hg0⟩ := Option.isSome_iff_exists.mp htop
  obtain ⟨r, hr⟩ := State.topJava?_eq_some.mp hg0
  have hl9 : e.platform.stackLimits (T.setVm s.vm).me = e.platform.stackLimits s.me := X.limits
  have hb9 : (T.setVm s.vm).me.stackBytes = s.me.stackBytes := X.bytes
  refine ⟨X.admits, X.cas, X.clock, hF, ?_, X.hears, X.method, X.code, X.here, X.tail, X.warmed, ?_, ?_, ?_⟩
  · have h := X.room
    have hU : ((T.setVm s.vm).setFrames (.invoking m args :: below)).localsInUse = s.localsInUse := by
      rw [State.localsInUse_invoking hF (meth := meth) (c := c) X.method X.code, State.localsInUse_invoking X.frames X.method X.code]
    simp only [State.hasRoom, Bool.and_eq_true, decide_eq_true_eq] at h ⊢
    obtain ⟨⟨⟨⟨h1, h2, h3, h4, h5, h6⟩, h7⟩, h8⟩, h9⟩ := h
    rw [X.frames, List.length_cons] at h2 h3
    have q1 := X.heapSize
    have q2 := X.used
    simp only [hF, hU, List.length_cons, State.stackLimits_setFrames, State.stackBytes_setFrames, hl9, hb9]
    refine ⟨⟨⟨⟨by omega, by omega, by omega, by omega, by omega, h6⟩, ?_⟩, ?_⟩, X.book⟩
    · show T.heap.size + R'.cells ≤ e.platform.maxCells
      omega
    · show T.slotsUsed + R'.slots ≤ e.platform.maxSlots
      omega
  · rw [State.stackLimits_setFrames]; rfl
  · rw [State.stackBytes_setFrames]; rfl
  · refine ⟨?_, Nat.le_refl _, Nat.le_refl _, ?_, ?_, fun a c9 h9 => ⟨c9, h9, rfl, rfl, fun _ _ => rfl⟩⟩
    · obtain ⟨t, ht, -⟩ := State.frames_cons hr
      show T.setVm s.vm = { ((T.setVm s.vm).setFrames (.invoking m args :: below)).setFrames (T.setVm s.vm).frames with heap := T.heap, slotsUsed := T.slotsUsed }
      rw [State.setFrames_setFrames, State.setFrames_self ht]
      rfl
    · show T.slotsUsed = T.slotsUsed + ((T.heap.toList.drop T.heap.size).map (·.slots.size)).sum
      rw [List.drop_eq_nil_of_le (Nat.le_of_eq Array.length_toList)]
      rfl
    · show ((T.heap.toList.drop T.heap.size).map (·.slots.size)).sum ≤ 0
      rw [List.drop_eq_nil_of_le (Nat.le_of_eq Array.length_toList)]
      exact Nat.le_refl _
/-- 'throw new E()': new; dup; invokespecial; athrow -/
theorem vx_throw0 {cc : ByteArray} {pc : Nat} (hexec : p.tables.exec = Jvm.exec) (hb : c.code = cc) (hl : l.stackTraces = false) {own cls : String} {names : List String} {ik ic mc ms : Nat} {A : Nat → Prop}
    (hown : s.vm.findClass own = some m.cls) (hcls : Bundle.fit cls = true) (hnames : ∀ n ∈ names, Bundle.fit n = true)
    (hk : (Cond.classLink own ik cls).before args s = true) (hini : (Cond.initialized cls).before args s = true) (hat : ∀ w ∈ vx_at0 own ic cls names, w.before args s = true)
    (hgood : ∀ w ∈ Cond.classLink own ik cls :: Cond.initialized cls :: vx_at0 own ic cls names, vx_ot w = true)
    (hU : vx_Zq Bundle.tN "UNASSIGNED_STACK" Bundle.steD A s s.heap) (hN : vx_Zq Bundle.tN "SUPPRESSED_SENTINEL" Bundle.listD A s s.heap) (hS : va_S A s.heap H locs) (hsize : ls.size = c.maxLocals)
    (d0 : decode cc pc = .ok (.new ik, 3)) (d3 : decode cc (pc + 3) = .ok (.dup, 1)) (d4 : decode cc (pc + 4) = .ok (.invokespecial ic, 3)) (d7 : decode cc (pc + 7) = .ok (.athrow, 1))
    (hout : ∀ x ∈ c.exceptionTable.toList, covers x (pc + 7) = false)
    (hRframes : names.length + 3 < R.frames) (hRlocals : (rest.map fun v => v.category).sum + (13 * (names.length + 1) + 42) ≤ R.locals) (hRcells : cells + 1 ≤ R.cells) (hRslots : slots + 6 ≤ R.slots) (hlocks : meth.locks = false)
    (hx : ∀ t : State, s.vm.Alike t.vm → H.size ≤ t.heap.size → (∀ q : Nat, q < H.size → t.heap[q]? = H[q]?) → XC cls s t)
    (hf : ∀ z ∈ locs, free z.base) (hc : cells + 1 ≤ mc) (hs : slots + 6 ≤ ms) :
    W p l e R s m args below meth c H locs cells slots (vx_MQ below Qc XC args s mc ms free) (F0 m pc ls rest) := by
  intro T hT X
  have htr : e.platform.stackTraces = false := (show e.platform.stackTraces = l.stackTraces by rw [X.admits.platform]).trans hl
  have Y := vx_rebase X (R' := { frames := R.frames, locals := R.locals, cells := 1, slots := 6 }) (Nat.le_refl _) (Nat.le_refl _) hRcells hRslots
  obtain ⟨s', hA⟩ : ∃ z, z = (T.setVm s.vm).setFrames (.invoking m args :: below) := ⟨_, rfl⟩
  rw [← hA] at Y
  have hvm : s'.vm = s.vm := by rw [hA]; rfl
  have hhp : s'.heap = H := by rw [hA]; exact hT
  have hW0 : s.WarmedH s'.vm := by rw [hvm]; exact State.WarmedH.refl s
  have hat' : ∀ w ∈ vx_at0 own ic cls names, w.before args s' = true := fun w hw => vx_ot_at hW0 hvm.symm (hgood w (List.mem_cons_of_mem _ (List.mem_cons_of_mem _ hw))) (hat w hw)
  have hk' : (Cond.classLink own ik cls).before args s' = true := vx_ot_at hW0 hvm.symm (hgood _ List.mem_cons_self) hk
  have hini' : (Cond.initialized cls).before args s' = true := vx_ot_at hW0 hvm.symm (hgood _ (List.mem_cons_of_mem _ List.mem_cons_self)) hini
  have hU' : vx_Zq Bundle.tN "UNASSIGNED_STACK" Bundle.steD A s' s'.heap := by rw [hhp]; exact vx_Zq.moved hW0.alike (hU.kept hS.2.1)
  have hN' : vx_Zq Bundle.tN "SUPPRESSED_SENTINEL" Bundle.listD A s' s'.heap := by rw [hhp]; exact vx_Zq.moved hW0.alike (hN.kept hS.2.1)
  have h : ∀ w ∈ Bundle.ownAtoms0 own ic cls names, w.before args s' = true := vx_own hat' (vx_isRefq hU'.1) (vx_isRefq hN'.1) hU'.2.word hN'.2.word
  have hown' : s'.vm.findClass own = some m.cls := by rw [hvm]; exact hown
  have hins : (Cond.instantiable cls 6).before args s' = true := h _ (by simp [Bundle.ownAtoms0])
  obtain ⟨vm₁, cX, kX, hfX, hkX, -, -, X₁, st1⟩ := Y.newCold hexec (own := own) (C := cls) (index := ik) (n := 6) hown' hk' hins hini'
    (g := F0 m pc ls rest) rfl (by rw [hb]; exact d0) (Nat.le_refl _) (Nat.le_refl _)
  generalize hT1 : (T.setVm vm₁).pushCell { cls := cX, slots := kX.instanceTypes.map defaultValue, vm := .none } = T1 at X₁ st1
  have hcat : (Value.ref T.heap.size).category = 1 := rfl
  have hcellA : T1.heap[T.heap.size]? = some (freshCell cX kX) := by rw [← hT1]; exact State.heap_pushCell_size _ _
  have d3' : decode c.code (pc + 3) = .ok (.dup, 1) := by rw [hb]; exact d3
  obtain ⟨U, hsteps, hrun, hend, hW, hsame, ce, hce, hO⟩ := X₁.ctorThrow0 hexec htr (own := own) (cls := cls) (names := names) (ic := ic) hown' hcls hnames h (fun x hx => nomatch hx) hfX hkX hcellA (by rw [hhp, hT]; exact Nat.le_refl _)
    (g := { method := m, pc := pc + 4, locals := ls, stack := .ref T.heap.size :: .ref T.heap.size :: rest, locked := none }) rfl hsize rfl rfl (rest := rest) rfl
    (by rw [hb]; exact d4) (by rw [hb]; exact d7) hout hRframes (by simp only [List.map_cons, List.sum_cons, hcat]; omega) hlocks
  obtain ⟨f1, f2⟩ := vx_frame hsame
  rw [hhp] at f1 f2
  have hWs : s.WarmedH U.vm := State.WarmedH.trans hW0 hW
  have hcl : s.vm.findClass cls = some ce.cls := by
    have h9 := hO.cls
    rw [hvm] at h9
    exact h9
  have hall : s.sameButNew ({ U with vm := s.vm } : State) locs mc ms := by
    subst hA
    obtain ⟨e1, e2⟩ := hsame
    rw [State.setFrames_setFrames] at e1
    have h2 : (T.setVm s.vm).sameButNew ({ U with vm := s.vm } : State) [] (0 + 1) (0 + 6) := ⟨e1, e2⟩
    have h3 := X.same.trans h2
    rw [List.append_nil] at h3
    exact h3.mono hc hs
  refine ⟨U, ?_, .threw T.heap.size, hrun, hend, Or.inr ⟨T.heap.size, rfl, cls, ce, locs, hx U hWs.alike f1 (fun q hq => f2 q hq (fun z hz => nomatch hz)), hce, hO.vm, hcl, hWs, hall, hf⟩⟩
  refine st1 _ ?_
  show Steps p.tables e below (T1.setTop { method := m, pc := pc + 3, locals := ls, stack := .ref T.heap.size :: rest, locked := none }) _
  jvm_step X₁.here [X₁.here.top, hexec, d3', Value.category]
  exact hsteps
/-- 'throw new E("text")': new; dup; ldc; invokespecial; athrow -/
theorem vx_throwS {cc : ByteArray} {pc : Nat} (hexec : p.tables.exec = Jvm.exec) (hb : c.code = cc) (hl : l.stackTraces = false) {own cls text : String} {names : List String} {ik is ic mc ms sa : Nat} {A : Nat → Prop}
    (hown : s.vm.findClass own = some m.cls) (hcls : Bundle.fit cls = true) (hnames : ∀ n ∈ names, Bundle.fit n = true)
    (hk : (Cond.classLink own ik cls).before args s = true) (hini : (Cond.initialized cls).before args s = true) (hstr : vk_R own is text sa s) (hat : ∀ w ∈ vx_atS own ic cls names, w.before args s = true)
    (hgood : ∀ w ∈ Cond.classLink own ik cls :: Cond.initialized cls :: vx_atS own ic cls names, vx_ot w = true)
    (hU : vx_Zq Bundle.tN "UNASSIGNED_STACK" Bundle.steD A s s.heap) (hN : vx_Zq Bundle.tN "SUPPRESSED_SENTINEL" Bundle.listD A s s.heap) (hS : va_S A s.heap H locs) (hsize : ls.size = c.maxLocals)
    (d0 : decode cc pc = .ok (.new ik, 3)) (d3 : decode cc (pc + 3) = .ok (.dup, 1)) (d4 : decode cc (pc + 4) = .ok (.ldc is, 2)) (d6 : decode cc (pc + 6) = .ok (.invokespecial ic, 3)) (d9 : decode cc (pc + 9) = .ok (.athrow, 1))
    (hout : ∀ x ∈ c.exceptionTable.toList, covers x (pc + 9) = false)
    (hRframes : names.length + 3 < R.frames) (hRlocals : (rest.map fun v => v.category).sum + (13 * (names.length + 1) + 43) ≤ R.locals) (hRcells : cells + 1 ≤ R.cells) (hRslots : slots + 6 ≤ R.slots) (hlocks : meth.locks = false)
    (hx : ∀ t : State, s.vm.Alike t.vm → H.size ≤ t.heap.size → (∀ q : Nat, q < H.size → t.heap[q]? = H[q]?) → XC cls s t)
    (hf : ∀ z ∈ locs, free z.base) (hc : cells + 1 ≤ mc) (hs : slots + 6 ≤ ms) :
    W p l e R s m args below meth c H locs cells slots (vx_MQ below Qc XC args s mc ms free) (F0 m pc ls rest) := by
  intro T hT X
  have htr : e.platform.stackTraces = false := (show e.platform.stackTraces = l.stackTraces by rw [X.admits.platform]).trans hl
  have Y := vx_rebase X (R' := { frames := R.frames, locals := R.locals, cells := 1, slots := 6 }) (Nat.le_refl _) (Nat.le_refl _) hRcells hRslots
  obtain ⟨s', hA⟩ : ∃ z, z = (T.setVm s.vm).setFrames (.invoking m args :: below) := ⟨_, rfl⟩
  rw [← hA] at Y
  have hvm : s'.vm = s.vm := by rw [hA]; rfl
  have hhp : s'.heap = H := by rw [hA]; exact hT
  have hW0 : s.WarmedH s'.vm := by rw [hvm]; exact State.WarmedH.refl s
  have hat' : ∀ w ∈ vx_atS own ic cls names, w.before args s' = true := fun w hw => vx_ot_at hW0 hvm.symm (hgood w (List.mem_cons_of_mem _ (List.mem_cons_of_mem _ hw))) (hat w hw)
  have hk' : (Cond.classLink own ik cls).before args s' = true := vx_ot_at hW0 hvm.symm (hgood _ List.mem_cons_self) hk
  have hini' : (Cond.initialized cls).before args s' = true := vx_ot_at hW0 hvm.symm (hgood _ (List.mem_cons_of_mem _ List.mem_cons_self)) hini
  have hU' : vx_Zq Bundle.tN "UNASSIGNED_STACK" Bundle.steD A s' s'.heap := by rw [hhp]; exact vx_Zq.moved hW0.alike (hU.kept hS.2.1)
  have hN' : vx_Zq Bundle.tN "SUPPRESSED_SENTINEL" Bundle.listD A s' s'.heap := by rw [hhp]; exact vx_Zq.moved hW0.alike (hN.kept hS.2.1)
  have h : ∀ w ∈ Bundle.ownAtoms own ic cls names, w.before args s' = true := vx_own hat' (vx_isRefq hU'.1) (vx_isRefq hN'.1) hU'.2.word hN'.2.word
  have hown' : s'.vm.findClass own = some m.cls := by rw [hvm]; exact hown
  have hins : (Cond.instantiable cls 6).before args s' = true := h _ (by simp [Bundle.ownAtoms])
  obtain ⟨vm₁, cX, kX, hfX, hkX, -, -, X₁, st1⟩ := Y.newCold hexec (own := own) (C := cls) (index := ik) (n := 6) hown' hk' hins hini'
    (g := F0 m pc ls rest) rfl (by rw [hb]; exact d0) (Nat.le_refl _) (Nat.le_refl _)
  generalize hT1 : (T.setVm vm₁).pushCell { cls := cX, slots := kX.instanceTypes.map defaultValue, vm := .none } = T1 at X₁ st1
  have hcat : (Value.ref T.heap.size).category = 1 := rfl
  have hcellA : T1.heap[T.heap.size]? = some (freshCell cX kX) := by rw [← hT1]; exact State.heap_pushCell_size _ _
  have d3' : decode c.code (pc + 3) = .ok (.dup, 1) := by rw [hb]; exact d3
  have d4' : decode c.code (pc + 4) = .ok (.ldc is, 2) := by rw [hb]; exact d4
  have hstr' : vk_R own is text sa s' := vk_R.warm hW0 hstr
  obtain ⟨U, hsteps, hrun, hend, hW, hsame, ce, hce, hO⟩ := X₁.ctorThrowS hexec htr (own := own) (cls := cls) (names := names) (ic := ic) hown' hcls hnames h (fun x hx => nomatch hx) hfX hkX hcellA (by rw [hhp, hT]; exact Nat.le_refl _) (msg := .ref sa) rfl
    (g := { method := m, pc := pc + 6, locals := ls, stack := .ref sa :: .ref T.heap.size :: .ref T.heap.size :: rest, locked := none }) rfl hsize rfl rfl (rest := rest) rfl
    (by rw [hb]; exact d6) (by rw [hb]; exact d9) hout hRframes (by simp only [List.map_cons, List.sum_cons, hcat]; omega) hlocks
  obtain ⟨f1, f2⟩ := vx_frame hsame
  rw [hhp] at f1 f2
  have hWs : s.WarmedH U.vm := State.WarmedH.trans hW0 hW
  have hcl : s.vm.findClass cls = some ce.cls := by
    have h9 := hO.cls
    rw [hvm] at h9
    exact h9
  have hall : s.sameButNew ({ U with vm := s.vm } : State) locs mc ms := by
    subst hA
    obtain ⟨e1, e2⟩ := hsame
    rw [State.setFrames_setFrames] at e1
    have h2 : (T.setVm s.vm).sameButNew ({ U with vm := s.vm } : State) [] (0 + 1) (0 + 6) := ⟨e1, e2⟩
    have h3 := X.same.trans h2
    rw [List.append_nil] at h3
    exact h3.mono hc hs
  refine ⟨U, ?_, .threw T.heap.size, hrun, hend, Or.inr ⟨T.heap.size, rfl, cls, ce, locs, hx U hWs.alike f1 (fun q hq => f2 q hq (fun z hz => nomatch hz)), hce, hO.vm, hcl, hWs, hall, hf⟩⟩
  refine st1 _ ?_
  show Steps p.tables e below (T1.setTop { method := m, pc := pc + 3, locals := ls, stack := .ref T.heap.size :: rest, locked := none }) _
  jvm_step X₁.here [X₁.here.top, hexec, d3', Value.category]
  exact X₁.ldcString hexec (own := own) (text := text) (index := is) (a := sa) hown' hstr'.1 hstr'.2
    (g := { method := m, pc := pc + 4, locals := ls, stack := .ref T.heap.size :: .ref T.heap.size :: rest, locked := none }) rfl d4' _ hsteps
/-- 'throw new E("text")', the text by a wide index -/
theorem vx_throwSW {cc : ByteArray} {pc : Nat} (hexec : p.tables.exec = Jvm.exec) (hb : c.code = cc) (hl : l.stackTraces = false) {own cls text : String} {names : List String} {ik is ic mc ms sa : Nat} {A : Nat → Prop}
    (hown : s.vm.findClass own = some m.cls) (hcls : Bundle.fit cls = true) (hnames : ∀ n ∈ names, Bundle.fit n = true)
    (hk : (Cond.classLink own ik cls).before args s = true) (hini : (Cond.initialized cls).before args s = true) (hstr : vk_R own is text sa s) (hat : ∀ w ∈ vx_atS own ic cls names, w.before args s = true)
    (hgood : ∀ w ∈ Cond.classLink own ik cls :: Cond.initialized cls :: vx_atS own ic cls names, vx_ot w = true)
    (hU : vx_Zq Bundle.tN "UNASSIGNED_STACK" Bundle.steD A s s.heap) (hN : vx_Zq Bundle.tN "SUPPRESSED_SENTINEL" Bundle.listD A s s.heap) (hS : va_S A s.heap H locs) (hsize : ls.size = c.maxLocals)
    (d0 : decode cc pc = .ok (.new ik, 3)) (d3 : decode cc (pc + 3) = .ok (.dup, 1)) (d4 : decode cc (pc + 4) = .ok (.ldc_w is, 3)) (d7 : decode cc (pc + 7) = .ok (.invokespecial ic, 3)) (d10 : decode cc (pc + 10) = .ok (.athrow, 1))
    (hout : ∀ x ∈ c.exceptionTable.toList, covers x (pc + 10) = false)
    (hRframes : names.length + 3 < R.frames) (hRlocals : (rest.map fun v => v.category).sum + (13 * (names.length + 1) + 43) ≤ R.locals) (hRcells : cells + 1 ≤ R.cells) (hRslots : slots + 6 ≤ R.slots) (hlocks : meth.locks = false)
    (hx : ∀ t : State, s.vm.Alike t.vm → H.size ≤ t.heap.size → (∀ q : Nat, q < H.size → t.heap[q]? = H[q]?) → XC cls s t)
    (hf : ∀ z ∈ locs, free z.base) (hc : cells + 1 ≤ mc) (hs : slots + 6 ≤ ms) :
    W p l e R s m args below meth c H locs cells slots (vx_MQ below Qc XC args s mc ms free) (F0 m pc ls rest) := by
  intro T hT X
  have htr : e.platform.stackTraces = false := (show e.platform.stackTraces = l.stackTraces by rw [X.admits.platform]).trans hl
  have Y := vx_rebase X (R' := { frames := R.frames, locals := R.locals, cells := 1, slots := 6 }) (Nat.le_refl _) (Nat.le_refl _) hRcells hRslots
  obtain ⟨s', hA⟩ : ∃ z, z = (T.setVm s.vm).setFrames (.invoking m args :: below) := ⟨_, rfl⟩
  rw [← hA] at Y
  have hvm : s'.vm = s.vm := by rw [hA]; rfl
  have hhp : s'.heap = H := by rw [hA]; exact hT
  have hW0 : s.WarmedH s'.vm := by rw [hvm]; exact State.WarmedH.refl s
  have hat' : ∀ w ∈ vx_atS own ic cls names, w.before args s' = true := fun w hw => vx_ot_at hW0 hvm.symm (hgood w (List.mem_cons_of_mem _ (List.mem_cons_of_mem _ hw))) (hat w hw)
  have hk' : (Cond.classLink own ik cls).before args s' = true := vx_ot_at hW0 hvm.symm (hgood _ List.mem_cons_self) hk
  have hini' : (Cond.initialized cls).before args s' = true := vx_ot_at hW0 hvm.symm (hgood _ (List.mem_cons_of_mem _ List.mem_cons_self)) hini
  have hU' : vx_Zq Bundle.tN "UNASSIGNED_STACK" Bundle.steD A s' s'.heap := by rw [hhp]; exact vx_Zq.moved hW0.alike (hU.kept hS.2.1)
  have hN' : vx_Zq Bundle.tN "SUPPRESSED_SENTINEL" Bundle.listD A s' s'.heap := by rw [hhp]; exact vx_Zq.moved hW0.alike (hN.kept hS.2.1)
  have h : ∀ w ∈ Bundle.ownAtoms own ic cls names, w.before args s' = true := vx_own hat' (vx_isRefq hU'.1) (vx_isRefq hN'.1) hU'.2.word hN'.2.word
  have hown' : s'.vm.findClass own = some m.cls := by rw [hvm]; exact hown
  have hins : (Cond.instantiable cls 6).before args s' = true := h _ (by simp [Bundle.ownAtoms])
  obtain ⟨vm₁, cX, kX, hfX, hkX, -, -, X₁, st1⟩ := Y.newCold hexec (own := own) (C := cls) (index := ik) (n := 6) hown' hk' hins hini'
    (g := F0 m pc ls rest) rfl (by rw [hb]; exact d0) (Nat.le_refl _) (Nat.le_refl _)
  generalize hT1 : (T.setVm vm₁).pushCell { cls := cX, slots := kX.instanceTypes.map defaultValue, vm := .none } = T1 at X₁ st1
  have hcat : (Value.ref T.heap.size).category = 1 := rfl
  have hcellA : T1.heap[T.heap.size]? = some (freshCell cX kX) := by rw [← hT1]; exact State.heap_pushCell_size _ _
  have d3' : decode c.code (pc + 3) = .ok (.dup, 1) := by rw [hb]; exact d3
  have d4' : decode c.code (pc + 4) = .ok (.ldc_w is, 3) := by rw [hb]; exact d4
  have hstr' : vk_R own is text sa s' := vk_R.warm hW0 hstr
  obtain ⟨U, hsteps, hrun, hend, hW, hsame, ce, hce, hO⟩ := X₁.ctorThrowS hexec htr (own := own) (cls := cls) (names := names) (ic := ic) hown' hcls hnames h (fun x hx => nomatch hx) hfX hkX hcellA (by rw [hhp, hT]; exact Nat.le_refl _) (msg := .ref sa) rfl
    (g := { method := m, pc := pc + 7, locals := ls, stack := .ref sa :: .ref T.heap.size :: .ref T.heap.size :: rest, locked := none }) rfl hsize rfl rfl (rest := rest) rfl
    (by rw [hb]; exact d7) (by rw [hb]; exact d10) hout hRframes (by simp only [List.map_cons, List.sum_cons, hcat]; omega) hlocks
  obtain ⟨f1, f2⟩ := vx_frame hsame
  rw [hhp] at f1 f2
  have hWs : s.WarmedH U.vm := State.WarmedH.trans hW0 hW
  have hcl : s.vm.findClass cls = some ce.cls := by
    have h9 := hO.cls
    rw [hvm] at h9
    exact h9
  have hall : s.sameButNew ({ U with vm := s.vm } : State) locs mc ms := by
    subst hA
    obtain ⟨e1, e2⟩ := hsame
    rw [State.setFrames_setFrames] at e1
    have h2 : (T.setVm s.vm).sameButNew ({ U with vm := s.vm } : State) [] (0 + 1) (0 + 6) := ⟨e1, e2⟩
    have h3 := X.same.trans h2
    rw [List.append_nil] at h3
    exact h3.mono hc hs
  refine ⟨U, ?_, .threw T.heap.size, hrun, hend, Or.inr ⟨T.heap.size, rfl, cls, ce, locs, hx U hWs.alike f1 (fun q hq => f2 q hq (fun z hz => nomatch hz)), hce, hO.vm, hcl, hWs, hall, hf⟩⟩
  refine st1 _ ?_
  show Steps p.tables e below (T1.setTop { method := m, pc := pc + 3, locals := ls, stack := .ref T.heap.size :: rest, locked := none }) _
  jvm_step X₁.here [X₁.here.top, hexec, d3', Value.category]
  exact X₁.ldcStringW hexec (own := own) (text := text) (index := is) (a := sa) hown' hstr'.1 hstr'.2
    (g := { method := m, pc := pc + 4, locals := ls, stack := .ref T.heap.size :: .ref T.heap.size :: rest, locked := none }) rfl d4' _ hsteps
end Ends
section Bodies
variable {l : Launch}
theorem vx_ofW {y : MethodName} {ws ws' : List Cond} {rm : Room} {Pc : Array Value → State → Prop} {Qc : Array Value → State → Outcome → State → Prop} {XC : String → State → State → Prop} {mc ms : Nat} {free : Addr → Prop} {cc : ByteArray} {maxL : Nat} {ret : Option FieldType}
    (hy : plainName y.cls = true) (hw : ws = Cond.code y cc maxL ret :: ws')
    (body : ∀ p e s m args below meth c s₁, BodyLoose p l y (headSpec ws rm) cc maxL ret e s m args below meth c s₁ → c.maxLocals = maxL → (∀ x ∈ c.exceptionTable.toList, False) → Pc args s →
      W p l e (headSpec ws rm).room s m args below meth c s.heap [] 0 0 (vx_MQ below Qc XC args s mc ms free) (entryFrame m args maxL)) : vx_Met l y ws rm Pc Qc XC mc ms free := by
  refine MetFree.of_bodyS (code := cc) (maxLocals := maxL) (ret := ret) hy ?_ ?_
  · intro args s m h hn
    obtain ⟨meth, c, h1, h2, h3, h4, h5, h6, -, -⟩ := Cond.code_spec hn (atoms_spec (ws := ws) h _ (by rw [hw]; exact List.mem_cons_self))
    exact ⟨meth, c, h1, h2, h3, h4, h5, h6⟩
  · intro p e s m args below meth c s₁ B hml hP _
    have hh0 : s₁.heap = s.heap := by rw [B.state]; rfl
    have ht : ∀ x ∈ c.exceptionTable.toList, False := by
      obtain ⟨meth9, c9, h1, h2, -, -, -, -, h7, -⟩ := Cond.code_spec B.named (atoms_spec (ws := ws) B.pre _ (by rw [hw]; exact List.mem_cons_self))
      cases Option.some.inj (h1.symm.trans B.method)
      cases Option.some.inj (h2.symm.trans (Stand.of_body B).code)
      intro x hx
      rw [Array.isEmpty_iff.mp h7] at hx
      cases hx
    obtain ⟨t, a1, o, b1, b2, b3⟩ := body p e s m args below meth c s₁ B hml ht hP s₁ hh0 (Stand.of_body B)
    exact ⟨t, o, a1, b1, b2, b3⟩
/-- the table of a body with handlers -/
theorem vx_table {p : Program} {x y : MethodName} {S : Spec} {cc bytes : ByteArray} {maxL maxL' : Nat} {ret ret' : Option FieldType} {e : Env} {s s₁ : State} {m : MethodId} {args : Array Value} {below : List Frame} {meth : Method} {c : Code} {hh : List (Nat × Nat × Nat × Nat)}
    (B : BodyLoose p l y S cc maxL ret e s m args below meth c s₁) (h : (Cond.codeWith y bytes maxL' ret' hh).before args s = true) : c.exceptionTable.toList = tableOf hh := by
  obtain ⟨m9, meth9, c9, hn9, h1, h2, -, -, h6, -⟩ := Cond.codeWith_spec h
  cases Option.some.inj (hn9.symm.trans B.named)
  cases Option.some.inj (h1.symm.trans B.method)
  cases Option.some.inj (h2.symm.trans (Stand.of_body B).code)
  rw [← h6, table_eq]
end Bodies
end VXA
/-! ===== END ===== -/
/-! ===== BEGIN a static call of a method with an exception table ===== -/
section VXS
variable {p : Program} {l : Launch} {e : Env} {R : Room} {s : State} {m : MethodId} {args : Array Value} {below : List Frame} {meth : Method} {c : Code} {T : State} {H : Heap} {locs : List Loc} {cells slots : Nat}
abbrev vx_CSW (R : Room) (s : State) (args : Array Value) (own : String) (index : Nat) (y : MethodName) (bytes : ByteArray) (maxL : Nat) (ret : Option FieldType) (hh : List (Nat × Nat × Nat × Nat)) (ws : List Cond) (rm : Room) (mc ms n : Nat) : Prop :=
  (rm.cells = mc ∧ rm.slots = ms ∧ rm.frames + 1 ≤ R.frames ∧ 8 + (maxL + 11) + rm.locals ≤ R.locals ∧ (∀ w ∈ ws, ∀ (a' : Array Value) (U : State), s.WarmedH U.vm → w.before a' U = true) ∧ Cond.codeWith y bytes maxL ret hh ∈ ws) ∧
  (Cond.codeWith y bytes maxL ret hh).before args s = true ∧ (Cond.initialized y.cls).before args s = true ∧ (y.cls ≠ "java/lang/invoke/MethodHandle" ∧ y.cls ≠ "java/lang/invoke/VarHandle") ∧
  (∀ sig, parseMethodDescriptor y.desc = some sig → n = sig.parameters.length) ∧ (Cond.methodLink own index y).before args s = true ∧ (Cond.static y).before args s = true
theorem vx_cwSW {own : String} {index maxL mc ms : Nat} {y : MethodName} {bytes : ByteArray} {ret : Option FieldType} {hh : List (Nat × Nat × Nat × Nat)} {Ts ws ws' : List Cond} {rm : Room} (n : Nat) (ht : ∀ w ∈ Ts, w.before args s = true) (hT : GoodIn Ts (va_wsS own index y ws)) (hw : ws = Cond.codeWith y bytes maxL ret hh :: ws') (hrc : rm.cells = mc) (hrs : rm.slots = ms)
    (hd : y.cls ≠ "java/lang/invoke/MethodHandle" ∧ y.cls ≠ "java/lang/invoke/VarHandle" ∧ (parseMethodDescriptor y.desc).map (fun d => d.parameters.length) = some n) (hR : rm.frames + 1 ≤ R.frames ∧ 8 + (maxL + 11) + rm.locals ≤ R.locals) :
    vx_CSW R s args own index y bytes maxL ret hh ws rm mc ms n := by
  have ok : ∀ w ∈ va_wsS own index y ws, w.before args s = true := fun w h => ht w (hT w h).1
  have hG : GoodIn Ts ws := fun w h => hT w (by unfold va_wsS; exact List.mem_append_right _ h)
  have hc : Cond.codeWith y bytes maxL ret hh ∈ ws := by rw [hw]; exact List.mem_cons_self
  refine ⟨⟨hrc, hrs, hR.1, hR.2, pay_in ht hG, hc⟩, ht _ (hG _ hc).1, ok _ (by simp [va_wsS]), ⟨hd.1, hd.2.1⟩, fun sig h => ?_, ok _ (by simp [va_wsS]), ok _ (by simp [va_wsS])⟩
  have h2 := hd.2.2
  rw [h] at h2
  exact (Option.some.inj h2).symm
theorem vx_callSW (X : Stand p l e R s m args below meth c T locs cells slots) (hexec : p.tables.exec = Jvm.exec) {own : String} {index : Nat} {y : MethodName} {bytes : ByteArray} {maxL : Nat} {ret : Option FieldType} {hh : List (Nat × Nat × Nat × Nat)}
    (hown : s.vm.findClass own = some m.cls) (hlink : (Cond.methodLink own index y).before args s = true) (hstat : (Cond.static y).before args s = true) (hinit : (Cond.initialized y.cls).before args s = true)
    (hcode : (Cond.codeWith y bytes maxL ret hh).before args s = true) (hy : y.cls ≠ "java/lang/invoke/MethodHandle" ∧ y.cls ≠ "java/lang/invoke/VarHandle")
    {W9 : Nat} {Pre : Pt → Array Value → Prop} {Post : Pt → Array Value → Option Value → Pt → Prop} (hK : Back l R p e below s args y 3 W9 Pre Post)
    {g : JFrame} (hg : g.method = m) (hsize : g.locals.size = c.maxLocals) {argsL rest : List Value} (hlen : ∀ sig, parseMethodDescriptor y.desc = some sig → argsL.length = sig.parameters.length)
    (hstack : g.stack = argsL.reverse ++ rest) (hW : 2 * g.monitorRoom + (rest.map fun v => v.category).sum ≤ W9) (hdg : decode c.code g.pc = .ok (.invokestatic index, 3))
    (hpre : ∀ vm₁, s.WarmedH vm₁ → Pre ⟨T.setVm vm₁, locs, cells, slots⟩ argsL.toArray) :
    ∃ (v : Option Value) (vm₁ : Vm) (B : Pt), s.WarmedH vm₁ ∧ Stand p l e R s m args below meth c B.U B.locs B.cells B.slots ∧ Post ⟨T.setVm vm₁, locs, cells, slots⟩ argsL.toArray v B ∧
      ∀ target, Steps p.tables e below (B.U.setTop { g with pc := g.pc + 3, stack := v.toList ++ rest }) target → Steps p.tables e below (T.setTop g) target := by
  obtain ⟨mk, methM, cM, hnamed, hmethM, -, -, -, -, -, -, hsigM⟩ := Cond.codeWith_spec hcode
  have hstatic : methM.isStatic = true := Cond.static_spec hnamed hmethM hstat
  obtain ⟨kP, hkP, -⟩ := className_of_methodNamed hnamed
  have hinitP : kP.init = .initialized := Cond.initialized_spec (findClass_of_methodNamed hnamed) hkP hinit
  obtain ⟨vm₁, X₁, hstep₁⟩ := X.invokestatic hexec hown hlink hnamed hmethM hstatic hkP hinitP hy (g := g) hg (argsL := argsL) (rest := rest) (hlen _ hsigM) hstack hdg
  obtain ⟨v, B, X', hpost, hsteps⟩ := hK m meth c ⟨T.setVm vm₁, locs, cells, slots⟩ { g with stack := rest } (.invokestatic index) mk argsL.toArray X₁ hg hsize hdg hW (X₁.named hnamed) (hpre vm₁ X₁.warmed)
  exact ⟨v, vm₁, B, X₁.warmed, X', hpost, fun target h => hstep₁ _ fun acts => by rw [doInvoke_state]; exact hsteps.trans h⟩
theorem vx_runSW {y : MethodName} {bytes cc : ByteArray} {maxL nL mc ms n index : Nat} {ret : Option FieldType} {hh : List (Nat × Nat × Nat × Nat)} {ws : List Cond} {rm : Room} {Pc : Array Value → State → Prop} {Qc : Array Value → State → Outcome → State → Prop} {free : Addr → Prop} {Ts : List Cond} {own : String} {As rest : List Value} {g : JFrame}
    (S : CallFix p m c cc nL s args Ts own) (hM : Met l y ws rm Pc Qc mc ms free) (cw : vx_CSW R s args own index y bytes maxL ret hh ws rm mc ms n) (hp : PreS s H Pc As)
    (hg : g.method = m) (hn : As.length = n) (hsize : g.locals.size = nL) (hstack : g.stack = As.reverse ++ rest) (hW : 2 * g.monitorRoom + (rest.map fun v => v.category).sum ≤ 8) (hdg : decode cc g.pc = .ok (.invokestatic index, 3)) (hf : cells + mc ≤ R.cells ∧ slots + ms ≤ R.slots) :
    va_Run p l e R s m args below meth c H locs cells slots mc ms g rest (Qc As.toArray) (free) := by
  obtain ⟨⟨hrc, hrs, hfr, hlo, hws, hcw⟩, hcode, hini, hy, hlen, hl, hstt⟩ := cw
  have hK : Back l R p e below s args y 3 8 (PreOf R mc ms Pc) (PostOf Qc mc ms free) := va_backW (hh := hh) (bytes := bytes) (maxL := maxL) (ret := ret) hM hp.1 hrc hrs hfr hlo hws hcw (fun a' U hW => word_at hW (Or.inl (by first | rfl | simp [Cond.onTables, Cond.keeps, Cond.steady])) hini)
  obtain ⟨hx, hb, hml, ho, -⟩ := S
  intro T hT X
  obtain ⟨v, vm₁, ⟨U', l2, c2, s2⟩, hW₁, X', ⟨g', mk, t, L, e1, e2, hq, h1, hL, h2, h3⟩, st⟩ := vx_callSW X hx (hh := hh) (bytes := bytes) (maxL := maxL) (ret := ret) ho hl hstt hini hcode hy hK hg (hsize.trans hml.symm) (argsL := As) (rest := rest) (fun sig h => hn.trans (hlen sig h)) hstack hW (by rw [hb]; exact hdg)
    (fun vm₁ hW₁ => ⟨hf.1, hf.2, hp.2 (T.setVm vm₁) hT hW₁⟩)
  dsimp only [Pt.U, Pt.locs, Pt.cells, Pt.slots] at X' e1 e2 h1 h2 h3 st
  subst h1; subst h2; subst h3
  exact ⟨v, (T.setVm vm₁).calling g' mk As.toArray, t, U', L, hT, X', hL, e1, e2, hq, st⟩
/-- not caught here, past rows that name other classes: it goes on to the caller -/
theorem vx_outP {p : Program} {l : Launch} {e : Env} {R : Room} {s : State} {m : MethodId} {args : Array Value} {below : List Frame} {meth : Method} {c : Code} {H : Heap} {locs : List Loc} {cells slots : Nat} {free : Addr → Prop} {ls : Array Slot} {rest : List Value} {Qc : Array Value → State → Outcome → State → Prop} {XC : String → State → State → Prop}
    {pc : Nat} {own E : String} {ce : Cell} {q : Addr} {mc ms : Nat} (hown : s.vm.findClass own = some m.cls) (hlocks : meth.locks = false)
    (hpass : ∀ z ∈ c.exceptionTable.toList, covers z pc = false ∨ (z.catchType ≠ 0 ∧ ∃ nm : String, (Cond.classLink own z.catchType nm).before args s = true ∧ va_Nc E nm s)) (hcell : H[q]? = some ce) (hv : ce.vm = .none) (hcl : s.vm.findClass E = some ce.cls)
    (hx : ∀ t : State, t.heap = H → s.vm.Alike t.vm → XC E s t) (hf : ∀ z ∈ locs, free z.base) (hc : cells ≤ mc) (hs : slots ≤ ms) :
    vx_W p l e R s m args below meth c H locs cells slots (vx_MQ below Qc XC args s mc ms free) (F0 m pc ls rest) q := by
  intro T hT X
  have hpl : e.platform.magicAccessors = ({} : Platform).magicAccessors := by rw [X.admits.platform]
  obtain ⟨vm', hW', X', st⟩ := X.outThrough hlocks q (g := F0 m pc ls rest) rfl rfl rfl (cell := ce) (by rw [hT]; exact hcell) (by rw [hv]; rfl)
    (by obtain ⟨k9, h9, -⟩ := Vm.findClass_spec hcl; exact ⟨k9, h9⟩) (fun z hz => by
      rcases hpass z hz with h | ⟨hz0, nm, hl1, hn1⟩
      · exact Or.inl h
      · obtain ⟨c6, hc6, hcl6⟩ := Cond.classLink_spec hown hl1 e.platform hpl
        obtain ⟨a8, b8, h1, h2, h3⟩ := hn1
        cases Option.some.inj (h1.symm.trans hcl)
        cases Option.some.inj (h2.symm.trans hc6)
        exact Or.inr ⟨hz0, _, hcl6, h3⟩)
  obtain ⟨g₀, hfr⟩ := X'.frames_eq
  have hcell9 : ((T.setVm vm').setFrames (.throwing q :: below)).heap[q]? = some ce := by
    show T.heap[q]? = some ce
    rw [hT]; exact hcell
  have hend : Ended ((T.setVm vm').setFrames (.throwing q :: below)) below (.threw q) := State.frames_setFrames _ (State.cur_lt_of_frames hfr)
  refine ⟨(T.setVm vm').setFrames (.throwing q :: below), ?_, .threw q, X'.here.running, hend, Or.inr ⟨q, rfl, E, ce, locs, hx _ hT (X'.ends _).1.alike, hcell9, hv, hcl, (X'.ends _).1, (X'.ends _).2.mono hc hs, hf⟩⟩
  rw [X.pushThrowing_eq]
  exact st
/-- a thing of a world lies in the heap -/
theorem vx_lt {D : va_G} {cl : List vw_C} {ws : va_W} {H1 : Heap} (h : va_P D cl ws H1) {k : Nat} {q : Nat × va_E} (hk : ws[k]? = some q) : q.1 < H1.size := (h k q hk).lt
end VXS
/-! ===== END ===== -/
/-! ===== BEGIN methods with a table of their own: called by a name, returning or throwing ===== -/
section VXH
/-! vx_backW, vx_callVX, vx_callSX, vx_callVW, vx_runVW, vx_runVX, vx_runSX, vx_ofWH follow the same proofs as their sisters above (Free/Laws.lean, Shelf42/LK1.lean); vx_outP calls Shelf42/NT130.lean (outThrough). -/
section
variable {l : Launch} {R : Room} {p : Program} {e : Env} {below : List Frame} {s : State} {sargs : Array Value} {y : MethodName} {len W9 : Nat}
theorem vx_backW {ws : List Cond} {rm : Room} {Pc : Array Value → State → Prop} {Qc : Array Value → State → Outcome → State → Prop} {XC : String → State → State → Prop} {mc ms : Nat} {free : Addr → Prop} {bytes : ByteArray} {maxL : Nat} {ret : Option FieldType} {hh : List (Nat × Nat × Nat × Nat)}
    (hM : vx_Met l y ws rm Pc Qc XC mc ms free) (hblind : FrameBlind Pc) (hrc : rm.cells = mc) (hrs : rm.slots = ms)
    (hframes : rm.frames + 1 ≤ R.frames) (hlocals : W9 + (maxL + 11) + rm.locals ≤ R.locals)
    (hws : ∀ w ∈ ws, ∀ a' U, s.WarmedH U.vm → w.before a' U = true) (hcode : Cond.codeWith y bytes maxL ret hh ∈ ws) (hinit : ∀ a' U, s.WarmedH U.vm → (Cond.initialized y.cls).before a' U = true) :
    vx_Back l R p e below s sargs y len W9 (PreOf R mc ms Pc) (PostOf Qc mc ms free) (vx_Post XC mc ms free) := by
  intro m meth c A g ig mk a X hg hsize hdg hW hn hp
  have h1 : (headSpec ws rm).pre.before a A.U = true := atoms_intro fun w hw => hws w hw _ _ X.warmed
  have h2 : (Cond.codeWith y bytes maxL ret hh).before a A.U = true := hws _ hcode _ _ X.warmed
  have h3 : (Cond.initialized y.cls).before a A.U = true := hinit _ _ X.warmed
  have h4 : A.cells + (headSpec ws rm).room.cells ≤ R.cells := by rw [show (headSpec ws rm).room.cells = mc from hrc]; exact hp.1
  have h5 : A.slots + (headSpec ws rm).room.slots ≤ R.slots := by rw [show (headSpec ws rm).room.slots = ms from hrs]; exact hp.2.1
  have hPc : Pc a (A.U.calling g mk a) := hblind _ _ _ _ hp.2.2
  obtain ⟨U, Ls, c0, s0⟩ := A
  dsimp only [Pt.U, Pt.locs, Pt.cells, Pt.slots] at h1 h2 h3 h4 h5 X hn hPc ⊢
  obtain ⟨m9, methY, cY, hn9, hmY, hcY, -, hlY, -⟩ := Cond.codeWith_spec h2
  cases Option.some.inj (hn9.symm.trans hn)
  obtain ⟨kY, hkY, -⟩ := className_of_methodNamed hn
  have hinitY : kY.init = .initialized := Cond.initialized_spec (findClass_of_methodNamed hn) hkY h3
  have h : At U g.method c below := by rw [hg]; exact X.here
  have hlocals9 : W9 + (maxL + 11) + (headSpec ws rm).room.locals ≤ R.locals := hlocals
  have happ : (headSpec ws rm).appliesLoose y e.platform (U.calling g mk a) = true :=
    Spec.appliesLoose_calling (g := g) h hdg hn hkY hinitY
      (X.room_calling (g := g) (R' := (headSpec ws rm).room) hsize hmY hcY hframes (by rw [hlY]; omega) h4 h5) h1
  obtain ⟨mid, hmid⟩ := h.above
  have hfr : (U.setTop g).frames = (.java g :: mid) ++ below := by rw [State.frames_setTop' g h.top, hmid]; rfl
  obtain ⟨o, s₂, hsteps, -, hend, hq⟩ := Steps.callFree hM p X.admits X.cas X.clock (acts := []) hfr happ hPc trivial
  have hq' : vx_Q Qc XC mc ms free a (U.calling g mk a) o s₂ := hq
  rw [State.frames_setTop' g h.top] at hend
  obtain ⟨g₀, hg0⟩ := Option.isSome_iff_exists.mp h.top
  obtain ⟨r, hr⟩ := State.topJava?_eq_some.mp hg0
  have hr' : (({ U with heap := s₂.heap, slotsUsed := s₂.slotsUsed } : State).setVm s₂.vm).frames = .java g₀ :: r := hr
  rcases hq' with ⟨hqc, L, hfe, hL⟩ | ⟨q, rfl, E, ce, L, hx, hce, hcv, hcl, hW₂, hsm, hL⟩
  · obtain ⟨⟨v, rfl⟩, hW₂, e2, q2, q3, q4, q5, q6⟩ := id hfe
    have e3 : s₂ = ({ (U.calling g mk a).setFrames s₂.frames with heap := s₂.heap, slotsUsed := s₂.slotsUsed } : State).setVm s₂.vm := by
      have : s₂ = ({ s₂ with vm := (U.calling g mk a).vm } : State).setVm s₂.vm := rfl
      rw [e2] at this
      exact this
    obtain ⟨c₂, i₂, len₂, hc₂, hd₂, hf₂⟩ := hend
    have hW' : U.WarmedH s₂.vm := hW₂
    have hcc : c₂ = c := by
      have h1 : s₂.code? g.method = U.code? g.method := by
        rw [State.code?_eq, State.code?_eq, hW'.alike.method?]
      exact Option.some.inj (hc₂.symm.trans (h1.trans h.code))
    subst hcc
    have hlen : len₂ = len := by rw [hdg] at hd₂; cases hd₂; rfl
    subst hlen
    have hs₂ : s₂ = (({ U with heap := s₂.heap, slotsUsed := s₂.slotsUsed } : State).setVm s₂.vm).setTop { g with pc := g.pc + len₂, stack := v.toList ++ g.stack } := by
      refine e3.trans ?_
      rw [hf₂, State.calling_eq h.top, State.setFrames_setFrames, State.setTop_of_frames _ hr', hr]
      rfl
    have hsame : U.sameButNew ({ U with heap := s₂.heap, slotsUsed := s₂.slotsUsed } : State) L mc ms := by
      refine ⟨?_, q2, q3, q4, q5, q6⟩
      obtain ⟨t, ht, -⟩ := State.frames_cons hr
      show ({ U with heap := s₂.heap, slotsUsed := s₂.slotsUsed } : State) = { U.setFrames U.frames with heap := s₂.heap, slotsUsed := s₂.slotsUsed }
      rw [State.setFrames_self ht]
    subst hg
    refine Or.inl ⟨v, ⟨(({ U with heap := s₂.heap, slotsUsed := s₂.slotsUsed } : State).setVm s₂.vm), Ls ++ L, c0 + mc, s0 + ms⟩,
      ⟨X.admits, X.cas, X.clock, X.frames, X.room, X.hears, X.method, X.code, (X.here.setHeapUsed s₂.heap s₂.slotsUsed).setVm hW'.alike, X.tail, State.WarmedH.trans X.warmed hW', X.limits, X.bytes, X.same.trans (hsame.setVm s.vm)⟩,
      ⟨g, mk, s₂, L, rfl, rfl, hqc, rfl, hL, rfl, rfl⟩, ?_⟩
    show Steps p.tables e below _ ((({ U with heap := s₂.heap, slotsUsed := s₂.slotsUsed } : State).setVm s₂.vm).setTop { g with pc := g.pc + len₂, stack := v.toList ++ g.stack })
    rw [← hs₂]
    exact hsteps
  · obtain ⟨e2, q2, q3, q4, q5, q6⟩ := id hsm
    have e3 : s₂ = ({ (U.calling g mk a).setFrames s₂.frames with heap := s₂.heap, slotsUsed := s₂.slotsUsed } : State).setVm s₂.vm := by
      have : s₂ = ({ s₂ with vm := (U.calling g mk a).vm } : State).setVm s₂.vm := rfl
      rw [e2] at this
      exact this
    have hf₂ : s₂.frames = .throwing q :: .java g :: U.frames.tail := hend
    have hW' : U.WarmedH s₂.vm := hW₂
    have hs₂ : s₂ = ((({ U with heap := s₂.heap, slotsUsed := s₂.slotsUsed } : State).setVm s₂.vm).setTop g).pushFrame (.throwing q) := by
      refine e3.trans ?_
      rw [hf₂, State.calling_eq h.top, State.setFrames_setFrames, State.pushFrame, State.frames_setTop _ hr', State.setTop_of_frames _ hr', State.setFrames_setFrames, hr]
      rfl
    have hsame : U.sameButNew ({ U with heap := s₂.heap, slotsUsed := s₂.slotsUsed } : State) L mc ms := by
      refine ⟨?_, q2, q3, q4, q5, q6⟩
      obtain ⟨t, ht, -⟩ := State.frames_cons hr
      show ({ U with heap := s₂.heap, slotsUsed := s₂.slotsUsed } : State) = { U.setFrames U.frames with heap := s₂.heap, slotsUsed := s₂.slotsUsed }
      rw [State.setFrames_self ht]
    subst hg
    refine Or.inr ⟨q, ⟨(({ U with heap := s₂.heap, slotsUsed := s₂.slotsUsed } : State).setVm s₂.vm), Ls ++ L, c0 + mc, s0 + ms⟩,
      ⟨X.admits, X.cas, X.clock, X.frames, X.room, X.hears, X.method, X.code, (X.here.setHeapUsed s₂.heap s₂.slotsUsed).setVm hW'.alike, X.tail, State.WarmedH.trans X.warmed hW', X.limits, X.bytes, X.same.trans (hsame.setVm s.vm)⟩,
      ⟨g, mk, s₂, L, E, ce, rfl, rfl, hx, hce, hcv, hcl, rfl, hL, rfl, rfl⟩, ?_⟩
    show Steps p.tables e below _ (((({ U with heap := s₂.heap, slotsUsed := s₂.slotsUsed } : State).setVm s₂.vm).setTop g).pushFrame (.throwing q))
    rw [← hs₂]
    exact hsteps
end
variable {p : Program} {l : Launch} {e : Env} {R : Room} {s : State} {m : MethodId} {args : Array Value} {below : List Frame} {meth : Method} {c : Code} {T : State} {H : Heap} {locs : List Loc} {cells slots : Nat}
theorem vx_callVX (X : Stand p l e R s m args below meth c T locs cells slots) (hexec : p.tables.exec = Jvm.exec) {own C : String} {index : Nat} {y : MethodName} {bytes : ByteArray} {maxL : Nat} {ret : Option FieldType} {hh : List (Nat × Nat × Nat × Nat)}
    (hown : s.vm.findClass own = some m.cls) (hlink : (Cond.methodLink own index y).before args s = true) (hinst : (Cond.instanceMethod y).before args s = true) (hsel : (Cond.selects C y y).before args s = true)
    (hcode : (Cond.codeWith y bytes maxL ret hh).before args s = true) (hy : y.cls ≠ "java/lang/invoke/MethodHandle" ∧ y.cls ≠ "java/lang/invoke/VarHandle")
    {W9 : Nat} {Pre : Pt → Array Value → Prop} {Post : Pt → Array Value → Option Value → Pt → Prop} {PostX : Pt → Array Value → Addr → Pt → Prop} (hK : vx_Back l R p e below s args y 3 W9 Pre Post PostX)
    {b : Addr} {cellB : Cell} (hcell : T.heap[b]? = some cellB) (hobj : cellB.vm.isStatics = false) (hcls : s.vm.findClass C = some cellB.cls)
    {g : JFrame} (hg : g.method = m) (hsize : g.locals.size = c.maxLocals) {argsL rest : List Value} (hlen : ∀ sig, parseMethodDescriptor y.desc = some sig → argsL.length = sig.parameters.length)
    (hstack : g.stack = argsL.reverse ++ .ref b :: rest) (hW : 2 * g.monitorRoom + (rest.map fun v => v.category).sum ≤ W9) (hdg : decode c.code g.pc = .ok (.invokevirtual index, 3))
    (hpre : ∀ vm₁, s.WarmedH vm₁ → Pre ⟨T.setVm vm₁, locs, cells, slots⟩ (Value.ref b :: argsL).toArray) :
    (∃ (v : Option Value) (vm₁ : Vm) (B : Pt), s.WarmedH vm₁ ∧ Stand p l e R s m args below meth c B.U B.locs B.cells B.slots ∧ Post ⟨T.setVm vm₁, locs, cells, slots⟩ (Value.ref b :: argsL).toArray v B ∧
      ∀ target, Steps p.tables e below (B.U.setTop { g with pc := g.pc + 3, stack := v.toList ++ rest }) target → Steps p.tables e below (T.setTop g) target) ∨
    (∃ (q : Addr) (vm₁ : Vm) (B : Pt), s.WarmedH vm₁ ∧ Stand p l e R s m args below meth c B.U B.locs B.cells B.slots ∧ PostX ⟨T.setVm vm₁, locs, cells, slots⟩ (Value.ref b :: argsL).toArray q B ∧
      Steps p.tables e below (T.setTop g) ((B.U.setTop { g with stack := rest }).pushFrame (.throwing q))) := by
  obtain ⟨mk, methM, hnamed, hmethM, hstM, habM⟩ := Cond.instanceMethod_spec hinst
  obtain ⟨m8, methM', cM, hn8, hmethM', -, -, -, -, -, -, hsigM⟩ := Cond.codeWith_spec hcode
  cases Option.some.inj (hn8.symm.trans hnamed)
  cases hmethM.symm.trans hmethM'
  obtain ⟨c2, r2, m2, q1, q2, q3, q4, kP, hkP, hkPi⟩ := Cond.selects_spec hsel
  cases hcls.symm.trans q1
  cases (State.methodFound?_of_named hnamed hy).symm.trans q2
  cases hnamed.symm.trans q3
  have hselP : selectMethod e.platform s.vm cellB.cls mk = .method mk := by rw [Launch.admits_selectMethod X.admits]; exact q4
  obtain ⟨vm₁, X₁, hstep₁⟩ := X.invokevirtual hexec hown hlink hnamed hmethM hstM hkP hkPi hy (a := b) (cell := cellB) hcell
    (fun z h => by rw [h] at hobj; cases hobj) hselP hmethM habM hkP hkPi (g := g) hg (argsL := argsL) (rest := rest) (hlen _ hsigM) hstack hdg
  rcases hK m meth c ⟨T.setVm vm₁, locs, cells, slots⟩ { g with stack := rest } (.invokevirtual index) mk (Value.ref b :: argsL).toArray X₁ hg hsize hdg hW (X₁.named hnamed) (hpre vm₁ X₁.warmed) with ⟨v, B, X', hpost, hsteps⟩ | ⟨q, B, X', hpost, hsteps⟩
  · exact Or.inl ⟨v, vm₁, B, X₁.warmed, X', hpost, fun target h => hstep₁ _ fun acts => by rw [doInvoke_state]; exact hsteps.trans h⟩
  · exact Or.inr ⟨q, vm₁, B, X₁.warmed, X', hpost, hstep₁ _ fun acts => by rw [doInvoke_state]; exact hsteps⟩
theorem vx_callSX (X : Stand p l e R s m args below meth c T locs cells slots) (hexec : p.tables.exec = Jvm.exec) {own : String} {index : Nat} {y : MethodName} {bytes : ByteArray} {maxL : Nat} {ret : Option FieldType} {hh : List (Nat × Nat × Nat × Nat)}
    (hown : s.vm.findClass own = some m.cls) (hlink : (Cond.methodLink own index y).before args s = true) (hstat : (Cond.static y).before args s = true) (hinit : (Cond.initialized y.cls).before args s = true)
    (hcode : (Cond.codeWith y bytes maxL ret hh).before args s = true) (hy : y.cls ≠ "java/lang/invoke/MethodHandle" ∧ y.cls ≠ "java/lang/invoke/VarHandle")
    {W9 : Nat} {Pre : Pt → Array Value → Prop} {Post : Pt → Array Value → Option Value → Pt → Prop} {PostX : Pt → Array Value → Addr → Pt → Prop} (hK : vx_Back l R p e below s args y 3 W9 Pre Post PostX)
    {g : JFrame} (hg : g.method = m) (hsize : g.locals.size = c.maxLocals) {argsL rest : List Value} (hlen : ∀ sig, parseMethodDescriptor y.desc = some sig → argsL.length = sig.parameters.length)
    (hstack : g.stack = argsL.reverse ++ rest) (hW : 2 * g.monitorRoom + (rest.map fun v => v.category).sum ≤ W9) (hdg : decode c.code g.pc = .ok (.invokestatic index, 3))
    (hpre : ∀ vm₁, s.WarmedH vm₁ → Pre ⟨T.setVm vm₁, locs, cells, slots⟩ argsL.toArray) :
    (∃ (v : Option Value) (vm₁ : Vm) (B : Pt), s.WarmedH vm₁ ∧ Stand p l e R s m args below meth c B.U B.locs B.cells B.slots ∧ Post ⟨T.setVm vm₁, locs, cells, slots⟩ argsL.toArray v B ∧
      ∀ target, Steps p.tables e below (B.U.setTop { g with pc := g.pc + 3, stack := v.toList ++ rest }) target → Steps p.tables e below (T.setTop g) target) ∨
    (∃ (q : Addr) (vm₁ : Vm) (B : Pt), s.WarmedH vm₁ ∧ Stand p l e R s m args below meth c B.U B.locs B.cells B.slots ∧ PostX ⟨T.setVm vm₁, locs, cells, slots⟩ argsL.toArray q B ∧
      Steps p.tables e below (T.setTop g) ((B.U.setTop { g with stack := rest }).pushFrame (.throwing q))) := by
  obtain ⟨mk, methM, cM, hnamed, hmethM, -, -, -, -, -, -, hsigM⟩ := Cond.codeWith_spec hcode
  have hstatic : methM.isStatic = true := Cond.static_spec hnamed hmethM hstat
  obtain ⟨kP, hkP, -⟩ := className_of_methodNamed hnamed
  have hinitP : kP.init = .initialized := Cond.initialized_spec (findClass_of_methodNamed hnamed) hkP hinit
  obtain ⟨vm₁, X₁, hstep₁⟩ := X.invokestatic hexec hown hlink hnamed hmethM hstatic hkP hinitP hy (g := g) hg (argsL := argsL) (rest := rest) (hlen _ hsigM) hstack hdg
  rcases hK m meth c ⟨T.setVm vm₁, locs, cells, slots⟩ { g with stack := rest } (.invokestatic index) mk argsL.toArray X₁ hg hsize hdg hW (X₁.named hnamed) (hpre vm₁ X₁.warmed) with ⟨v, B, X', hpost, hsteps⟩ | ⟨q, B, X', hpost, hsteps⟩
  · exact Or.inl ⟨v, vm₁, B, X₁.warmed, X', hpost, fun target h => hstep₁ _ fun acts => by rw [doInvoke_state]; exact hsteps.trans h⟩
  · exact Or.inr ⟨q, vm₁, B, X₁.warmed, X', hpost, hstep₁ _ fun acts => by rw [doInvoke_state]; exact hsteps⟩
theorem vx_callVW (X : Stand p l e R s m args below meth c T locs cells slots) (hexec : p.tables.exec = Jvm.exec) {own C : String} {index : Nat} {y : MethodName} {bytes : ByteArray} {maxL : Nat} {ret : Option FieldType} {hh : List (Nat × Nat × Nat × Nat)}
    (hown : s.vm.findClass own = some m.cls) (hlink : (Cond.methodLink own index y).before args s = true) (hinst : (Cond.instanceMethod y).before args s = true) (hsel : (Cond.selects C y y).before args s = true)
    (hcode : (Cond.codeWith y bytes maxL ret hh).before args s = true) (hy : y.cls ≠ "java/lang/invoke/MethodHandle" ∧ y.cls ≠ "java/lang/invoke/VarHandle")
    {W9 : Nat} {Pre : Pt → Array Value → Prop} {Post : Pt → Array Value → Option Value → Pt → Prop} (hK : Back l R p e below s args y 3 W9 Pre Post)
    {b : Addr} {cellB : Cell} (hcell : T.heap[b]? = some cellB) (hobj : cellB.vm.isStatics = false) (hcls : s.vm.findClass C = some cellB.cls)
    {g : JFrame} (hg : g.method = m) (hsize : g.locals.size = c.maxLocals) {argsL rest : List Value} (hlen : ∀ sig, parseMethodDescriptor y.desc = some sig → argsL.length = sig.parameters.length)
    (hstack : g.stack = argsL.reverse ++ .ref b :: rest) (hW : 2 * g.monitorRoom + (rest.map fun v => v.category).sum ≤ W9) (hdg : decode c.code g.pc = .ok (.invokevirtual index, 3))
    (hpre : ∀ vm₁, s.WarmedH vm₁ → Pre ⟨T.setVm vm₁, locs, cells, slots⟩ (Value.ref b :: argsL).toArray) :
    ∃ (v : Option Value) (vm₁ : Vm) (B : Pt), s.WarmedH vm₁ ∧ Stand p l e R s m args below meth c B.U B.locs B.cells B.slots ∧ Post ⟨T.setVm vm₁, locs, cells, slots⟩ (Value.ref b :: argsL).toArray v B ∧
      ∀ target, Steps p.tables e below (B.U.setTop { g with pc := g.pc + 3, stack := v.toList ++ rest }) target → Steps p.tables e below (T.setTop g) target := by
  obtain ⟨mk, methM, hnamed, hmethM, hstM, habM⟩ := Cond.instanceMethod_spec hinst
  obtain ⟨m8, methM', cM, hn8, hmethM', -, -, -, -, -, -, hsigM⟩ := Cond.codeWith_spec hcode
  cases Option.some.inj (hn8.symm.trans hnamed)
  cases hmethM.symm.trans hmethM'
  obtain ⟨c2, r2, m2, q1, q2, q3, q4, kP, hkP, hkPi⟩ := Cond.selects_spec hsel
  cases hcls.symm.trans q1
  cases (State.methodFound?_of_named hnamed hy).symm.trans q2
  cases hnamed.symm.trans q3
  have hselP : selectMethod e.platform s.vm cellB.cls mk = .method mk := by rw [Launch.admits_selectMethod X.admits]; exact q4
  obtain ⟨vm₁, X₁, hstep₁⟩ := X.invokevirtual hexec hown hlink hnamed hmethM hstM hkP hkPi hy (a := b) (cell := cellB) hcell
    (fun z h => by rw [h] at hobj; cases hobj) hselP hmethM habM hkP hkPi (g := g) hg (argsL := argsL) (rest := rest) (hlen _ hsigM) hstack hdg
  obtain ⟨v, B, X', hpost, hsteps⟩ := hK m meth c ⟨T.setVm vm₁, locs, cells, slots⟩ { g with stack := rest } (.invokevirtual index) mk (Value.ref b :: argsL).toArray X₁ hg hsize hdg hW (X₁.named hnamed) (hpre vm₁ X₁.warmed)
  exact ⟨v, vm₁, B, X₁.warmed, X', hpost, fun target h => hstep₁ _ fun acts => by rw [doInvoke_state]; exact hsteps.trans h⟩
abbrev vx_CVW (R : Room) (s : State) (args : Array Value) (own C : String) (index : Nat) (y : MethodName) (bytes : ByteArray) (maxL : Nat) (ret : Option FieldType) (hh : List (Nat × Nat × Nat × Nat)) (ws : List Cond) (rm : Room) (mc ms n : Nat) : Prop :=
  (rm.cells = mc ∧ rm.slots = ms ∧ rm.frames + 1 ≤ R.frames ∧ 8 + (maxL + 11) + rm.locals ≤ R.locals ∧ (∀ w ∈ ws, ∀ (a' : Array Value) (U : State), s.WarmedH U.vm → w.before a' U = true) ∧ Cond.codeWith y bytes maxL ret hh ∈ ws) ∧
  (Cond.codeWith y bytes maxL ret hh).before args s = true ∧ (Cond.initialized y.cls).before args s = true ∧ (y.cls ≠ "java/lang/invoke/MethodHandle" ∧ y.cls ≠ "java/lang/invoke/VarHandle") ∧
  (∀ sig, parseMethodDescriptor y.desc = some sig → n = sig.parameters.length) ∧ (Cond.methodLink own index y).before args s = true ∧ (Cond.instanceMethod y).before args s = true ∧ (Cond.selects C y y).before args s = true
theorem vx_cwVW {own C : String} {index maxL mc ms : Nat} {y : MethodName} {bytes : ByteArray} {ret : Option FieldType} {hh : List (Nat × Nat × Nat × Nat)} {Ts ws ws' : List Cond} {rm : Room} (n : Nat) (ht : ∀ w ∈ Ts, w.before args s = true) (hT : GoodIn Ts (wsV own index C y ws)) (hw : ws = Cond.codeWith y bytes maxL ret hh :: ws') (hrc : rm.cells = mc) (hrs : rm.slots = ms)
    (hd : y.cls = C ∧ y.cls ≠ "java/lang/invoke/MethodHandle" ∧ y.cls ≠ "java/lang/invoke/VarHandle" ∧ (parseMethodDescriptor y.desc).map (fun d => d.parameters.length) = some n) (hR : rm.frames + 1 ≤ R.frames ∧ 8 + (maxL + 11) + rm.locals ≤ R.locals) :
    vx_CVW R s args own C index y bytes maxL ret hh ws rm mc ms n := by
  obtain ⟨hC, hd⟩ := hd
  subst hC
  have ok : ∀ w ∈ wsV own index y.cls y ws, w.before args s = true := fun w h => ht w (hT w h).1
  have hG : GoodIn Ts ws := fun w h => hT w (by unfold wsV; exact List.mem_append_right _ h)
  have hc : Cond.codeWith y bytes maxL ret hh ∈ ws := by rw [hw]; exact List.mem_cons_self
  refine ⟨⟨hrc, hrs, hR.1, hR.2, pay_in ht hG, hc⟩, ht _ (hG _ hc).1, ok _ (by simp [wsV]), ⟨hd.1, hd.2.1⟩, fun sig h => ?_, ok _ (by simp [wsV]), ok _ (by simp [wsV]), ok _ (by simp [wsV])⟩
  have h2 := hd.2.2
  rw [h] at h2
  exact (Option.some.inj h2).symm
theorem vx_runVW {y : MethodName} {bytes cc : ByteArray} {maxL nL mc ms n index : Nat} {ret : Option FieldType} {hh : List (Nat × Nat × Nat × Nat)} {ws : List Cond} {rm : Room} {Pc : Array Value → State → Prop} {Qc : Array Value → State → Outcome → State → Prop} {free : Addr → Prop} {Ts : List Cond} {own C : String} {b : Addr} {As rest : List Value} {g : JFrame}
    (S : CallFix p m c cc nL s args Ts own) (hM : Met l y ws rm Pc Qc mc ms free) (cw : vx_CVW R s args own C index y bytes maxL ret hh ws rm mc ms n) (hp : PreV s H C b Pc As)
    (hg : g.method = m) (hn : As.length = n) (hsize : g.locals.size = nL) (hstack : g.stack = As.reverse ++ .ref b :: rest) (hW : 2 * g.monitorRoom + (rest.map fun v => v.category).sum ≤ 8) (hdg : decode cc g.pc = .ok (.invokevirtual index, 3)) (hf : cells + mc ≤ R.cells ∧ slots + ms ≤ R.slots) :
    va_Run p l e R s m args below meth c H locs cells slots mc ms g rest (Qc (Value.ref b :: As).toArray) free := by
  obtain ⟨⟨hrc, hrs, hfr, hlo, hws, hcw⟩, hcode, hini, hy, hlen, hl, hin, hse⟩ := cw
  have hK : Back l R p e below s args y 3 8 (PreOf R mc ms Pc) (PostOf Qc mc ms free) := va_backW (hh := hh) (bytes := bytes) (maxL := maxL) (ret := ret) hM hp.1 hrc hrs hfr hlo hws hcw (fun a' U hW => word_at hW (Or.inl (by first | rfl | simp [Cond.onTables, Cond.keeps, Cond.steady])) hini)
  obtain ⟨hx, hb, hml, ho, -⟩ := S
  obtain ⟨-, ⟨cellB, hcB, hoB, hclB⟩, hPc⟩ := hp
  intro T hT X
  obtain ⟨v, vm₁, ⟨U', l2, c2, s2⟩, hW₁, X', ⟨g', mk, t, L, e1, e2, hq, h1, hL, h2, h3⟩, st⟩ := vx_callVW X hx (C := C) (hh := hh) (bytes := bytes) (maxL := maxL) (ret := ret) ho hl hin hse hcode hy hK (by rw [hT]; exact hcB) hoB hclB hg (hsize.trans hml.symm) (argsL := As) (rest := rest) (fun sig h => hn.trans (hlen sig h)) hstack hW (by rw [hb]; exact hdg)
    (fun vm₁ hW₁ => ⟨hf.1, hf.2, hPc (T.setVm vm₁) hT hW₁⟩)
  dsimp only [Pt.U, Pt.locs, Pt.cells, Pt.slots] at X' e1 e2 h1 h2 h3 st
  subst h1; subst h2; subst h3
  exact ⟨v, (T.setVm vm₁).calling g' mk (Value.ref b :: As).toArray, t, U', L, hT, X', hL, e1, e2, hq, st⟩
section
variable {y : MethodName} {bytes cc : ByteArray} {maxL nL mc ms n index : Nat} {ret : Option FieldType} {ws : List Cond} {rm : Room} {Pc : Array Value → State → Prop} {Qc : Array Value → State → Outcome → State → Prop} {XC : String → State → State → Prop} {free : Addr → Prop} {Ts : List Cond} {own C : String} {b : Addr} {As rest : List Value} {g : JFrame}
theorem vx_runVX {hh : List (Nat × Nat × Nat × Nat)} (S : CallFix p m c cc nL s args Ts own) (hM : vx_Met l y ws rm Pc Qc XC mc ms free) (cw : vx_CVW R s args own C index y bytes maxL ret hh ws rm mc ms n) (hp : PreV s H C b Pc As)
    (hg : g.method = m) (hn : As.length = n) (hsize : g.locals.size = nL) (hstack : g.stack = As.reverse ++ .ref b :: rest) (hW : 2 * g.monitorRoom + (rest.map fun v => v.category).sum ≤ 8) (hdg : decode cc g.pc = .ok (.invokevirtual index, 3)) (hf : cells + mc ≤ R.cells ∧ slots + ms ≤ R.slots) :
    vx_Run p l e R s m args below meth c H locs cells slots mc ms g rest (Qc (Value.ref b :: As).toArray) XC free := by
  obtain ⟨⟨hrc, hrs, hfr, hlo, hws, hcw⟩, hcode, hini, hy, hlen, hl, hin, hse⟩ := cw
  have hK : vx_Back l R p e below s args y 3 8 (PreOf R mc ms Pc) (PostOf Qc mc ms free) (vx_Post XC mc ms free) := vx_backW (hh := hh) (bytes := bytes) (maxL := maxL) (ret := ret) hM hp.1 hrc hrs hfr hlo hws hcw (fun a' U hW => word_at hW (Or.inl (by first | rfl | simp [Cond.onTables, Cond.keeps, Cond.steady])) hini)
  obtain ⟨hx, hb, hml, ho, -⟩ := S
  obtain ⟨-, ⟨cellB, hcB, hoB, hclB⟩, hPc⟩ := hp
  intro T hT X
  rcases vx_callVX X hx (C := C) (hh := hh) (bytes := bytes) (maxL := maxL) (ret := ret) ho hl hin hse hcode hy hK (by rw [hT]; exact hcB) hoB hclB hg (hsize.trans hml.symm) (argsL := As) (rest := rest) (fun sig h => hn.trans (hlen sig h)) hstack hW (by rw [hb]; exact hdg)
    (fun vm₁ hW₁ => ⟨hf.1, hf.2, hPc (T.setVm vm₁) hT hW₁⟩) with ⟨v, vm₁, ⟨U', l2, c2, s2⟩, hW₁, X', ⟨g', mk, t, L, e1, e2, hq, h1, hL, h2, h3⟩, st⟩ | ⟨q, vm₁, ⟨U', l2, c2, s2⟩, hW₁, X', ⟨g', mk, t, L, E, ce, e1, e2, hq, hce, hcv, hcl, h1, hL, h2, h3⟩, st⟩
  · dsimp only [Pt.U, Pt.locs, Pt.cells, Pt.slots] at X' e1 e2 h1 h2 h3 st
    subst h1; subst h2; subst h3
    exact Or.inl ⟨v, (T.setVm vm₁).calling g' mk (Value.ref b :: As).toArray, t, U', L, hT, X', hL, e1, e2, hq, st⟩
  · dsimp only [Pt.U, Pt.locs, Pt.cells, Pt.slots] at X' e1 e2 h1 h2 h3 st hcl
    subst h1; subst h2; subst h3
    exact Or.inr ⟨q, (T.setVm vm₁).calling g' mk (Value.ref b :: As).toArray, t, U', L, E, ce, hT, X', hL, e1, e2, hq, hce, hcv, vx_cls hW₁ hcl, st⟩
theorem vx_runSX {hh : List (Nat × Nat × Nat × Nat)} (S : CallFix p m c cc nL s args Ts own) (hM : vx_Met l y ws rm Pc Qc XC mc ms free) (cw : vx_CSW R s args own index y bytes maxL ret hh ws rm mc ms n) (hp : PreS s H Pc As)
    (hg : g.method = m) (hn : As.length = n) (hsize : g.locals.size = nL) (hstack : g.stack = As.reverse ++ rest) (hW : 2 * g.monitorRoom + (rest.map fun v => v.category).sum ≤ 8) (hdg : decode cc g.pc = .ok (.invokestatic index, 3)) (hf : cells + mc ≤ R.cells ∧ slots + ms ≤ R.slots) :
    vx_Run p l e R s m args below meth c H locs cells slots mc ms g rest (Qc As.toArray) XC free := by
  obtain ⟨⟨hrc, hrs, hfr, hlo, hws, hcw⟩, hcode, hini, hy, hlen, hl, hstt⟩ := cw
  have hK : vx_Back l R p e below s args y 3 8 (PreOf R mc ms Pc) (PostOf Qc mc ms free) (vx_Post XC mc ms free) := vx_backW (hh := hh) (bytes := bytes) (maxL := maxL) (ret := ret) hM hp.1 hrc hrs hfr hlo hws hcw (fun a' U hW => word_at hW (Or.inl (by first | rfl | simp [Cond.onTables, Cond.keeps, Cond.steady])) hini)
  obtain ⟨hx, hb, hml, ho, -⟩ := S
  intro T hT X
  rcases vx_callSX X hx (hh := hh) (bytes := bytes) (maxL := maxL) (ret := ret) ho hl hstt hini hcode hy hK hg (hsize.trans hml.symm) (argsL := As) (rest := rest) (fun sig h => hn.trans (hlen sig h)) hstack hW (by rw [hb]; exact hdg)
    (fun vm₁ hW₁ => ⟨hf.1, hf.2, hp.2 (T.setVm vm₁) hT hW₁⟩) with ⟨v, vm₁, ⟨U', l2, c2, s2⟩, hW₁, X', ⟨g', mk, t, L, e1, e2, hq, h1, hL, h2, h3⟩, st⟩ | ⟨q, vm₁, ⟨U', l2, c2, s2⟩, hW₁, X', ⟨g', mk, t, L, E, ce, e1, e2, hq, hce, hcv, hcl, h1, hL, h2, h3⟩, st⟩
  · dsimp only [Pt.U, Pt.locs, Pt.cells, Pt.slots] at X' e1 e2 h1 h2 h3 st
    subst h1; subst h2; subst h3
    exact Or.inl ⟨v, (T.setVm vm₁).calling g' mk As.toArray, t, U', L, hT, X', hL, e1, e2, hq, st⟩
  · dsimp only [Pt.U, Pt.locs, Pt.cells, Pt.slots] at X' e1 e2 h1 h2 h3 st hcl
    subst h1; subst h2; subst h3
    exact Or.inr ⟨q, (T.setVm vm₁).calling g' mk As.toArray, t, U', L, E, ce, hT, X', hL, e1, e2, hq, hce, hcv, vx_cls hW₁ hcl, st⟩
end
end VXH
theorem vx_ofWH {l : Launch} {y : MethodName} {ws ws' : List Cond} {rm : Room} {Pc : Array Value → State → Prop} {Qc : Array Value → State → Outcome → State → Prop} {XC : String → State → State → Prop} {mc ms : Nat} {free : Addr → Prop} {cc : ByteArray} {maxL : Nat} {ret : Option FieldType} {hh : List (Nat × Nat × Nat × Nat)}
    (hy : plainName y.cls = true) (hw : ws = Cond.codeWith y cc maxL ret hh :: ws')
    (body : ∀ p e s m args below meth c s₁, BodyLoose p l y (headSpec ws rm) cc maxL ret e s m args below meth c s₁ → c.maxLocals = maxL → Pc args s →
      W p l e (headSpec ws rm).room s m args below meth c s.heap [] 0 0 (vx_MQ below Qc XC args s mc ms free) (entryFrame m args maxL)) : vx_Met l y ws rm Pc Qc XC mc ms free := by
  refine MetFree.of_bodyS (code := cc) (maxLocals := maxL) (ret := ret) hy ?_ ?_
  · intro args s m h hn
    obtain ⟨m9, meth, c, hn9, h1, h2, h3, h4, -, h5, h6, -⟩ := Cond.codeWith_spec (atoms_spec (ws := ws) h _ (by rw [hw]; exact List.mem_cons_self))
    cases hn.symm.trans hn9
    exact ⟨meth, c, h1, h2, h3, h4, h5, h6⟩
  · intro p e s m args below meth c s₁ B hml hP _
    have hh0 : s₁.heap = s.heap := by rw [B.state]; rfl
    obtain ⟨t, a1, o, b1, b2, b3⟩ := body p e s m args below meth c s₁ B hml hP s₁ hh0 (Stand.of_body B)
    exact ⟨t, o, a1, b1, b2, b3⟩
/-! ===== END ===== -/
end
section
def RX0 : String := "Corpusline$Part"
def TX0 : u_T := fun k => match k with
  | 0 => ("Corpusline$Part", "tests", "[LCorpusline$TokenTest;", true)
  | 1 => ("Corpusline$Part", "nexts", "[I", true)
  | 2 => ("Corpusline$Part", "firsts", "I", false)
  | 3 => ("Corpusline$Part", "lasts", "I", false)
  | 4 => ("Corpusline$Part", "isNoneToo", "Z", false)
  | 5 => ("Corpusline$Part", "isTest", "Z", false)
  | _ => ("Corpusline$Part", "readSettings", "I", false)
def tyX0 : Nat → FieldType := fun k => match k with
  | 0 => .array (.object "Corpusline$TokenTest")
  | 1 => .array .int
  | 2 => .int
  | 3 => .int
  | 4 => .boolean
  | 5 => .boolean
  | _ => .int
theorem nmX0 : ∀ a, a < 7 → ∀ b, b < 7 → a ≠ b → (TX0 a).2.1 ≠ (TX0 b).2.1 := by decide +kernel
theorem tyX0_ok : ∀ k, k < 7 → parseFieldDescriptor (TX0 k).2.2.1 = some (tyX0 k) := by decide +kernel
abbrev cX0_init : ByteArray := prog_2_method_1_code
def yX0_init : MethodName := ⟨RX0, "<init>", "(I)V"⟩
abbrev cX0_ofTest : ByteArray := prog_2_method_2_code
def yX0_ofTest : MethodName := ⟨RX0, "ofTest", "(LCorpusline$TokenTest;)LCorpusline$Part;"⟩
abbrev cX0_ofChain : ByteArray := prog_2_method_3_code
def yX0_ofChain : MethodName := ⟨RX0, "ofChain", "(LCorpusline$Part;LCorpusline$Part;)LCorpusline$Part;"⟩
abbrev cX0_ofEither : ByteArray := prog_2_method_4_code
def yX0_ofEither : MethodName := ⟨RX0, "ofEither", "(LCorpusline$Part;LCorpusline$Part;)LCorpusline$Part;"⟩
abbrev cX0_ofRepeat : ByteArray := prog_2_method_5_code
def yX0_ofRepeat : MethodName := ⟨RX0, "ofRepeat", "(LCorpusline$Part;II)LCorpusline$Part;"⟩
abbrev cX0_ofTimes : ByteArray := prog_2_method_6_code
def yX0_ofTimes : MethodName := ⟨RX0, "ofTimes", "(LCorpusline$Part;Z)LCorpusline$Part;"⟩
abbrev cX0_ofTestsOf : ByteArray := prog_2_method_7_code
def yX0_ofTestsOf : MethodName := ⟨RX0, "ofTestsOf", "(LCorpusline$Part;LCorpusline$Part;)LCorpusline$Part;"⟩
abbrev cX0_takeTests : ByteArray := prog_2_method_8_code
def yX0_takeTests : MethodName := ⟨RX0, "takeTests", "(LCorpusline$Part;I)V"⟩
def RX1 : String := "Corpusline$Result"
def TX1 : u_T := fun k => match k with
  | 0 => ("Corpusline$Result", "isThere", "Z", false)
  | 1 => ("Corpusline$Result", "side", "I", false)
  | _ => ("Corpusline$Result", "lengths", "[I", true)
def tyX1 : Nat → FieldType := fun k => match k with
  | 0 => .boolean
  | 1 => .int
  | _ => .array .int
theorem nmX1 : ∀ a, a < 3 → ∀ b, b < 3 → a ≠ b → (TX1 a).2.1 ≠ (TX1 b).2.1 := by decide +kernel
theorem tyX1_ok : ∀ k, k < 3 → parseFieldDescriptor (TX1 k).2.2.1 = some (tyX1 k) := by decide +kernel
abbrev cX1_init : ByteArray := prog_3_method_1_code
def yX1_init : MethodName := ⟨RX1, "<init>", "()V"⟩
abbrev cX1_begin : ByteArray := prog_3_method_2_code
def yX1_begin : MethodName := ⟨RX1, "begin", "(I)V"⟩
abbrev cX1_matchCount : ByteArray := prog_3_method_3_code
def yX1_matchCount : MethodName := ⟨RX1, "matchCount", "()I"⟩
def RX2 : String := "Corpusline$Settings"
def TX2 : u_T := fun k => match k with
  | _ => ("", "", "", false)
def tyX2 : Nat → FieldType := fun k => match k with
  | _ => .int
theorem nmX2 : ∀ a, a < 0 → ∀ b, b < 0 → a ≠ b → (TX2 a).2.1 ≠ (TX2 b).2.1 := by decide +kernel
theorem tyX2_ok : ∀ k, k < 0 → parseFieldDescriptor (TX2 k).2.2.1 = some (tyX2 k) := by decide +kernel
abbrev cX2_fieldOf : ByteArray := prog_4_method_2_code
def yX2_fieldOf : MethodName := ⟨RX2, "fieldOf", "(I)I"⟩
abbrev cX2_tokenOf : ByteArray := prog_4_method_3_code
def yX2_tokenOf : MethodName := ⟨RX2, "tokenOf", "(II)I"⟩
abbrev cX2_withToken : ByteArray := prog_4_method_4_code
def yX2_withToken : MethodName := ⟨RX2, "withToken", "(III)I"⟩
def RX3 : String := "Corpusline$Side"
def TX3 : u_T := fun k => match k with
  | 0 => ("Corpusline$Side", "count", "I", false)
  | 1 => ("Corpusline$Side", "isSentenceEnded", "Z", false)
  | 2 => ("Corpusline$Side", "isTextEnded", "Z", false)
  | 3 => ("Corpusline$Side", "values", "[I", true)
  | 4 => ("Corpusline$Side", "sentences", "[I", true)
  | 5 => ("Corpusline$Side", "texts", "[I", true)
  | _ => ("Corpusline$Side", "partners", "[J", true)
def tyX3 : Nat → FieldType := fun k => match k with
  | 0 => .int
  | 1 => .boolean
  | 2 => .boolean
  | 3 => .array .int
  | 4 => .array .int
  | 5 => .array .int
  | _ => .array .long
theorem nmX3 : ∀ a, a < 7 → ∀ b, b < 7 → a ≠ b → (TX3 a).2.1 ≠ (TX3 b).2.1 := by decide +kernel
theorem tyX3_ok : ∀ k, k < 7 → parseFieldDescriptor (TX3 k).2.2.1 = some (tyX3 k) := by decide +kernel
abbrev cX3_init : ByteArray := prog_5_method_1_code
def yX3_init : MethodName := ⟨RX3, "<init>", "()V"⟩
abbrev cX3_append : ByteArray := prog_5_method_2_code
def yX3_append : MethodName := ⟨RX3, "append", "(III)I"⟩
abbrev cX3_valueAt : ByteArray := prog_5_method_3_code
def yX3_valueAt : MethodName := ⟨RX3, "valueAt", "(II)I"⟩
abbrev cX3_isSentence : ByteArray := prog_5_method_4_code
def yX3_isSentence : MethodName := ⟨RX3, "isSentence", "(I)Z"⟩
abbrev cX3_isWithin : ByteArray := prog_5_method_5_code
def yX3_isWithin : MethodName := ⟨RX3, "isWithin", "(III)Z"⟩
def RX4 : String := "Corpusline$TokenTest"
def TX4 : u_T := fun k => match k with
  | 0 => ("Corpusline$TokenTest", "passing", "[J", true)
  | 1 => ("Corpusline$TokenTest", "sames", "I", false)
  | _ => ("Corpusline$TokenTest", "labels", "I", false)
def tyX4 : Nat → FieldType := fun k => match k with
  | 0 => .array .long
  | 1 => .int
  | _ => .int
theorem nmX4 : ∀ a, a < 3 → ∀ b, b < 3 → a ≠ b → (TX4 a).2.1 ≠ (TX4 b).2.1 := by decide +kernel
theorem tyX4_ok : ∀ k, k < 3 → parseFieldDescriptor (TX4 k).2.2.1 = some (tyX4 k) := by decide +kernel
abbrev cX4_init : ByteArray := prog_6_method_1_code
def yX4_init : MethodName := ⟨RX4, "<init>", "()V"⟩
abbrev cX4_ofSames : ByteArray := prog_6_method_2_code
def yX4_ofSames : MethodName := ⟨RX4, "ofSames", "(I)LCorpusline$TokenTest;"⟩
abbrev cX4_ofValue : ByteArray := prog_6_method_3_code
def yX4_ofValue : MethodName := ⟨RX4, "ofValue", "(IIZ)LCorpusline$TokenTest;"⟩
abbrev cX4_ofBoth : ByteArray := prog_6_method_4_code
def yX4_ofBoth : MethodName := ⟨RX4, "ofBoth", "(LCorpusline$TokenTest;LCorpusline$TokenTest;)LCorpusline$TokenTest;"⟩
abbrev cX4_withLabel : ByteArray := prog_6_method_5_code
def yX4_withLabel : MethodName := ⟨RX4, "withLabel", "(I)LCorpusline$TokenTest;"⟩
abbrev cX4_readSettings : ByteArray := prog_6_method_6_code
def yX4_readSettings : MethodName := ⟨RX4, "readSettings", "()I"⟩
abbrev cX4_hasPassingValues : ByteArray := prog_6_method_7_code
def yX4_hasPassingValues : MethodName := ⟨RX4, "hasPassingValues", "(LCorpusline$Side;I)Z"⟩
abbrev cX4_hasSameValues : ByteArray := prog_6_method_8_code
def yX4_hasSameValues : MethodName := ⟨RX4, "hasSameValues", "(LCorpusline$Side;II)Z"⟩
abbrev cX4_settingsBehind : ByteArray := prog_6_method_9_code
def yX4_settingsBehind : MethodName := ⟨RX4, "settingsBehind", "(II)I"⟩
def RX5 : String := "Corpusline$Walker"
def TX5 : u_T := fun k => match k with
  | 0 => ("Corpusline$Walker", "ways", "[I", false)
  | 1 => ("Corpusline$Walker", "spareWays", "[I", false)
  | _ => ("Corpusline$Walker", "wayCount", "I", false)
def tyX5 : Nat → FieldType := fun k => match k with
  | 0 => .array .int
  | 1 => .array .int
  | _ => .int
theorem nmX5 : ∀ a, a < 3 → ∀ b, b < 3 → a ≠ b → (TX5 a).2.1 ≠ (TX5 b).2.1 := by decide +kernel
theorem tyX5_ok : ∀ k, k < 3 → parseFieldDescriptor (TX5 k).2.2.1 = some (tyX5 k) := by decide +kernel
abbrev cX5_init : ByteArray := prog_7_method_1_code
def yX5_init : MethodName := ⟨RX5, "<init>", "()V"⟩
abbrev cX5_lengthFrom : ByteArray := prog_7_method_2_code
def yX5_lengthFrom : MethodName := ⟨RX5, "lengthFrom", "(LCorpusline$Part;LCorpusline$Side;IIZ)I"⟩
abbrev cX5_isWholeBehind : ByteArray := prog_7_method_3_code
def yX5_isWholeBehind : MethodName := ⟨RX5, "isWholeBehind", "(LCorpusline$Part;LCorpusline$Side;I)Z"⟩
abbrev cX5_addWaysThrough : ByteArray := prog_7_method_4_code
def yX5_addWaysThrough : MethodName := ⟨RX5, "addWaysThrough", "(LCorpusline$Part;ILCorpusline$Side;II)I"⟩
abbrev cX5_nextsOf : ByteArray := prog_7_method_5_code
def yX5_nextsOf : MethodName := ⟨RX5, "nextsOf", "(LCorpusline$Part;I)I"⟩
abbrev cX5_isSpareWay : ByteArray := prog_7_method_6_code
def yX5_isSpareWay : MethodName := ⟨RX5, "isSpareWay", "(III)Z"⟩
def RX6 : String := "Corpusline"
def TX6 : u_T := fun k => match k with
  | 0 => ("Corpusline", "sides", "[LCorpusline$Side;", true)
  | 1 => ("Corpusline", "pairCount", "I", false)
  | 2 => ("Corpusline", "pile", "[LCorpusline$Part;", true)
  | 3 => ("Corpusline", "pileCount", "I", false)
  | 4 => ("Corpusline", "patterns", "[LCorpusline$Part;", true)
  | 5 => ("Corpusline", "patternCount", "I", false)
  | 6 => ("Corpusline", "results", "[LCorpusline$Result;", true)
  | 7 => ("Corpusline", "walker", "LCorpusline$Walker;", true)
  | _ => ("Corpusline", "groupCounts", "[I", true)
def tyX6 : Nat → FieldType := fun k => match k with
  | 0 => .array (.object "Corpusline$Side")
  | 1 => .int
  | 2 => .array (.object "Corpusline$Part")
  | 3 => .int
  | 4 => .array (.object "Corpusline$Part")
  | 5 => .int
  | 6 => .array (.object "Corpusline$Result")
  | 7 => .object "Corpusline$Walker"
  | _ => .array .int
theorem nmX6 : ∀ a, a < 9 → ∀ b, b < 9 → a ≠ b → (TX6 a).2.1 ≠ (TX6 b).2.1 := by decide +kernel
theorem tyX6_ok : ∀ k, k < 9 → parseFieldDescriptor (TX6 k).2.2.1 = some (tyX6 k) := by decide +kernel
abbrev cX6_init : ByteArray := prog_1_method_1_code
def yX6_init : MethodName := ⟨RX6, "<init>", "()V"⟩
abbrev cX6_token : ByteArray := prog_1_method_2_code
def yX6_token : MethodName := ⟨RX6, "token", "(IIII)I"⟩
abbrev cX6_end : ByteArray := prog_1_method_3_code
def yX6_end : MethodName := ⟨RX6, "end", "(IZ)I"⟩
abbrev cX6_align : ByteArray := prog_1_method_4_code
def yX6_align : MethodName := ⟨RX6, "align", "(II)I"⟩
abbrev cX6_tokens : ByteArray := prog_1_method_5_code
def yX6_tokens : MethodName := ⟨RX6, "tokens", "(I)I"⟩
abbrev cX6_sentenceOf : ByteArray := prog_1_method_6_code
def yX6_sentenceOf : MethodName := ⟨RX6, "sentenceOf", "(II)I"⟩
abbrev cX6_occurs : ByteArray := prog_1_method_7_code
def yX6_occurs : MethodName := ⟨RX6, "occurs", "(III)I"⟩
abbrev cX6_test : ByteArray := prog_1_method_8_code
def yX6_test : MethodName := ⟨RX6, "test", "(IIZ)I"⟩
abbrev cX6_any : ByteArray := prog_1_method_9_code
def yX6_any : MethodName := ⟨RX6, "any", "()I"⟩
abbrev cX6_same : ByteArray := prog_1_method_10_code
def yX6_same : MethodName := ⟨RX6, "same", "(II)I"⟩
abbrev cX6_label : ByteArray := prog_1_method_11_code
def yX6_label : MethodName := ⟨RX6, "label", "(I)V"⟩
abbrev cX6_both : ByteArray := prog_1_method_12_code
def yX6_both : MethodName := ⟨RX6, "both", "()I"⟩
abbrev cX6_chain : ByteArray := prog_1_method_13_code
def yX6_chain : MethodName := ⟨RX6, "chain", "()I"⟩
abbrev cX6_either : ByteArray := prog_1_method_14_code
def yX6_either : MethodName := ⟨RX6, "either", "()I"⟩
abbrev cX6_repeat : ByteArray := prog_1_method_15_code
def yX6_repeat : MethodName := ⟨RX6, "repeat", "(II)I"⟩
abbrev cX6_keep : ByteArray := prog_1_method_16_code
def yX6_keep : MethodName := ⟨RX6, "keep", "()I"⟩
abbrev cX6_wipe : ByteArray := prog_1_method_17_code
def yX6_wipe : MethodName := ⟨RX6, "wipe", "()I"⟩
abbrev cX6_run : ByteArray := prog_1_method_18_code
def yX6_run : MethodName := ⟨RX6, "run", "(IIIIZ)I"⟩
abbrev cX6_walk : ByteArray := prog_1_method_19_code
def yX6_walk : MethodName := ⟨RX6, "walk", "(IIIZ)I"⟩
abbrev cX6_join : ByteArray := prog_1_method_20_code
def yX6_join : MethodName := ⟨RX6, "join", "(III)I"⟩
abbrev cX6_thin : ByteArray := prog_1_method_21_code
def yX6_thin : MethodName := ⟨RX6, "thin", "(I)I"⟩
abbrev cX6_aligned : ByteArray := prog_1_method_22_code
def yX6_aligned : MethodName := ⟨RX6, "aligned", "(IIZ)I"⟩
abbrev cX6_drop : ByteArray := prog_1_method_23_code
def yX6_drop : MethodName := ⟨RX6, "drop", "(I)I"⟩
abbrev cX6_size : ByteArray := prog_1_method_24_code
def yX6_size : MethodName := ⟨RX6, "size", "(I)I"⟩
abbrev cX6_match : ByteArray := prog_1_method_25_code
def yX6_match : MethodName := ⟨RX6, "match", "(II)I"⟩
abbrev cX6_groups : ByteArray := prog_1_method_26_code
def yX6_groups : MethodName := ⟨RX6, "groups", "(IIZ)I"⟩
abbrev cX6_groupAt : ByteArray := prog_1_method_27_code
def yX6_groupAt : MethodName := ⟨RX6, "groupAt", "(IIZI)I"⟩
abbrev cX6_demandRange : ByteArray := prog_1_method_28_code
def yX6_demandRange : MethodName := ⟨RX6, "demandRange", "(III)V"⟩
abbrev cX6_knownSide : ByteArray := prog_1_method_29_code
def yX6_knownSide : MethodName := ⟨RX6, "knownSide", "(I)LCorpusline$Side;"⟩
abbrev cX6_knownPattern : ByteArray := prog_1_method_30_code
def yX6_knownPattern : MethodName := ⟨RX6, "knownPattern", "(I)LCorpusline$Part;"⟩
abbrev cX6_isResult : ByteArray := prog_1_method_31_code
def yX6_isResult : MethodName := ⟨RX6, "isResult", "(I)Z"⟩
abbrev cX6_knownResult : ByteArray := prog_1_method_32_code
def yX6_knownResult : MethodName := ⟨RX6, "knownResult", "(I)LCorpusline$Result;"⟩
abbrev cX6_testsOnPile : ByteArray := prog_1_method_33_code
def yX6_testsOnPile : MethodName := ⟨RX6, "testsOnPile", "()I"⟩
abbrev cX6_demandRoomForTest : ByteArray := prog_1_method_34_code
def yX6_demandRoomForTest : MethodName := ⟨RX6, "demandRoomForTest", "()V"⟩
abbrev cX6_partFromTop : ByteArray := prog_1_method_35_code
def yX6_partFromTop : MethodName := ⟨RX6, "partFromTop", "(I)LCorpusline$Part;"⟩
abbrev cX6_testFromTop : ByteArray := prog_1_method_36_code
def yX6_testFromTop : MethodName := ⟨RX6, "testFromTop", "(I)LCorpusline$TokenTest;"⟩
abbrev cX6_push : ByteArray := prog_1_method_37_code
def yX6_push : MethodName := ⟨RX6, "push", "(LCorpusline$Part;)I"⟩
abbrev cX6_pop : ByteArray := prog_1_method_38_code
def yX6_pop : MethodName := ⟨RX6, "pop", "(I)V"⟩
abbrev cX6_joined : ByteArray := prog_1_method_39_code
def yX6_joined : MethodName := ⟨RX6, "joined", "(III)I"⟩
abbrev cX6_sentencesWith : ByteArray := prog_1_method_40_code
def yX6_sentencesWith : MethodName := ⟨RX6, "sentencesWith", "(LCorpusline$Part;LCorpusline$Side;)J"⟩
abbrev cX6_countGroups : ByteArray := prog_1_method_41_code
def yX6_countGroups : MethodName := ⟨RX6, "countGroups", "(LCorpusline$Result;IZ)V"⟩
abbrev cX6_groupsAheadOf : ByteArray := prog_1_method_42_code
def yX6_groupsAheadOf : MethodName := ⟨RX6, "groupsAheadOf", "(I)I"⟩
def RX7 : String := "CorpuslineModel"
def TX7 : u_T := fun k => match k with
  | 0 => ("CorpuslineModel", "thrown", "I", false)
  | 1 => ("CorpuslineModel", "many", "[I", true)
  | 2 => ("CorpuslineModel", "attributes", "[I", true)
  | 3 => ("CorpuslineModel", "sentence", "[I", true)
  | 4 => ("CorpuslineModel", "text", "[I", true)
  | 5 => ("CorpuslineModel", "isEnded", "[Z", true)
  | 6 => ("CorpuslineModel", "isTextEnded", "[Z", true)
  | 7 => ("CorpuslineModel", "pairs", "[J", true)
  | 8 => ("CorpuslineModel", "tests", "[I", true)
  | 9 => ("CorpuslineModel", "isTest", "[Z", true)
  | 10 => ("CorpuslineModel", "ways", "[Z", true)
  | 11 => ("CorpuslineModel", "values", "[I", true)
  | 12 => ("CorpuslineModel", "others", "[J", true)
  | 13 => ("CorpuslineModel", "sets", "[I", true)
  | 14 => ("CorpuslineModel", "compares", "[I", true)
  | 15 => ("CorpuslineModel", "patterns", "I", false)
  | 16 => ("CorpuslineModel", "pile", "I", false)
  | 17 => ("CorpuslineModel", "then", "[Z", true)
  | 18 => ("CorpuslineModel", "next", "[Z", true)
  | 19 => ("CorpuslineModel", "labels", "[I", true)
  | 20 => ("CorpuslineModel", "sides", "[I", true)
  | 21 => ("CorpuslineModel", "lengths", "[I", true)
  | _ => ("CorpuslineModel", "counts", "[I", true)
def tyX7 : Nat → FieldType := fun k => match k with
  | 0 => .int
  | 1 => .array .int
  | 2 => .array .int
  | 3 => .array .int
  | 4 => .array .int
  | 5 => .array .boolean
  | 6 => .array .boolean
  | 7 => .array .long
  | 8 => .array .int
  | 9 => .array .boolean
  | 10 => .array .boolean
  | 11 => .array .int
  | 12 => .array .long
  | 13 => .array .int
  | 14 => .array .int
  | 15 => .int
  | 16 => .int
  | 17 => .array .boolean
  | 18 => .array .boolean
  | 19 => .array .int
  | 20 => .array .int
  | 21 => .array .int
  | _ => .array .int
theorem nmX7 : ∀ a, a < 23 → ∀ b, b < 23 → a ≠ b → (TX7 a).2.1 ≠ (TX7 b).2.1 := by decide +kernel
theorem tyX7_ok : ∀ k, k < 23 → parseFieldDescriptor (TX7 k).2.2.1 = some (tyX7 k) := by decide +kernel
abbrev cX7_init : ByteArray := prog_9_method_1_code
def yX7_init : MethodName := ⟨RX7, "<init>", "()V"⟩
abbrev cX7_thrown : ByteArray := prog_9_method_2_code
def yX7_thrown : MethodName := ⟨RX7, "thrown", "()I"⟩
abbrev cX7_holds : ByteArray := prog_9_method_3_code
def yX7_holds : MethodName := ⟨RX7, "holds", "(I)Z"⟩
abbrev cX7_isIn : ByteArray := prog_9_method_4_code
def yX7_isIn : MethodName := ⟨RX7, "isIn", "(III)Z"⟩
abbrev cX7_isSide : ByteArray := prog_9_method_5_code
def yX7_isSide : MethodName := ⟨RX7, "isSide", "(I)Z"⟩
abbrev cX7_isAttribute : ByteArray := prog_9_method_6_code
def yX7_isAttribute : MethodName := ⟨RX7, "isAttribute", "(I)Z"⟩
abbrev cX7_token : ByteArray := prog_9_method_7_code
def yX7_token : MethodName := ⟨RX7, "token", "(IIII)I"⟩
abbrev cX7_end : ByteArray := prog_9_method_8_code
def yX7_end : MethodName := ⟨RX7, "end", "(IZ)I"⟩
abbrev cX7_sentences : ByteArray := prog_9_method_9_code
def yX7_sentences : MethodName := ⟨RX7, "sentences", "(I)I"⟩
abbrev cX7_align : ByteArray := prog_9_method_10_code
def yX7_align : MethodName := ⟨RX7, "align", "(II)I"⟩
abbrev cX7_tokens : ByteArray := prog_9_method_11_code
def yX7_tokens : MethodName := ⟨RX7, "tokens", "(I)I"⟩
abbrev cX7_sentenceOf : ByteArray := prog_9_method_12_code
def yX7_sentenceOf : MethodName := ⟨RX7, "sentenceOf", "(II)I"⟩
abbrev cX7_valueOf : ByteArray := prog_9_method_13_code
def yX7_valueOf : MethodName := ⟨RX7, "valueOf", "(III)I"⟩
abbrev cX7_occurs : ByteArray := prog_9_method_14_code
def yX7_occurs : MethodName := ⟨RX7, "occurs", "(III)I"⟩
abbrev cX7_testsInAll : ByteArray := prog_9_method_15_code
def yX7_testsInAll : MethodName := ⟨RX7, "testsInAll", "()I"⟩
abbrev cX7_puts : ByteArray := prog_9_method_16_code
def yX7_puts : MethodName := ⟨RX7, "puts", "()I"⟩
abbrev cX7_copiesTest : ByteArray := prog_9_method_17_code
def yX7_copiesTest : MethodName := ⟨RX7, "copiesTest", "(II)V"⟩
abbrev cX7_copiesPart : ByteArray := prog_9_method_18_code
def yX7_copiesPart : MethodName := ⟨RX7, "copiesPart", "(II)V"⟩
abbrev cX7_test : ByteArray := prog_9_method_19_code
def yX7_test : MethodName := ⟨RX7, "test", "(IIZ)I"⟩
abbrev cX7_any : ByteArray := prog_9_method_20_code
def yX7_any : MethodName := ⟨RX7, "any", "()I"⟩
abbrev cX7_isLabel : ByteArray := prog_9_method_21_code
def yX7_isLabel : MethodName := ⟨RX7, "isLabel", "(I)Z"⟩
abbrev cX7_same : ByteArray := prog_9_method_22_code
def yX7_same : MethodName := ⟨RX7, "same", "(II)I"⟩
abbrev cX7_label : ByteArray := prog_9_method_23_code
def yX7_label : MethodName := ⟨RX7, "label", "(I)V"⟩
abbrev cX7_both : ByteArray := prog_9_method_24_code
def yX7_both : MethodName := ⟨RX7, "both", "()I"⟩
abbrev cX7_laysBehind : ByteArray := prog_9_method_25_code
def yX7_laysBehind : MethodName := ⟨RX7, "laysBehind", "()V"⟩
abbrev cX7_chain : ByteArray := prog_9_method_26_code
def yX7_chain : MethodName := ⟨RX7, "chain", "()I"⟩
abbrev cX7_either : ByteArray := prog_9_method_27_code
def yX7_either : MethodName := ⟨RX7, "either", "()I"⟩
abbrev cX7_becomes : ByteArray := prog_9_method_28_code
def yX7_becomes : MethodName := ⟨RX7, "becomes", "(II)V"⟩
abbrev cX7_repeat : ByteArray := prog_9_method_29_code
def yX7_repeat : MethodName := ⟨RX7, "repeat", "(II)I"⟩
abbrev cX7_keep : ByteArray := prog_9_method_30_code
def yX7_keep : MethodName := ⟨RX7, "keep", "()I"⟩
abbrev cX7_wipe : ByteArray := prog_9_method_31_code
def yX7_wipe : MethodName := ⟨RX7, "wipe", "()I"⟩
abbrev cX7_matches : ByteArray := prog_9_method_32_code
def yX7_matches : MethodName := ⟨RX7, "matches", "(III)Z"⟩
abbrev cX7_goes : ByteArray := prog_9_method_33_code
def yX7_goes : MethodName := ⟨RX7, "goes", "(IIIII)I"⟩
abbrev cX7_endOf : ByteArray := prog_9_method_34_code
def yX7_endOf : MethodName := ⟨RX7, "endOf", "(III)I"⟩
abbrev cX7_longest : ByteArray := prog_9_method_35_code
def yX7_longest : MethodName := ⟨RX7, "longest", "(IIIIZ)I"⟩
abbrev cX7_isPattern : ByteArray := prog_9_method_36_code
def yX7_isPattern : MethodName := ⟨RX7, "isPattern", "(I)Z"⟩
abbrev cX7_isBound : ByteArray := prog_9_method_37_code
def yX7_isBound : MethodName := ⟨RX7, "isBound", "(I)Z"⟩
abbrev cX7_bits : ByteArray := prog_9_method_38_code
def yX7_bits : MethodName := ⟨RX7, "bits", "(I)I"⟩
abbrev cX7_sizeOf : ByteArray := prog_9_method_39_code
def yX7_sizeOf : MethodName := ⟨RX7, "sizeOf", "(I)I"⟩
abbrev cX7_run : ByteArray := prog_9_method_40_code
def yX7_run : MethodName := ⟨RX7, "run", "(IIIIZ)I"⟩
abbrev cX7_walk : ByteArray := prog_9_method_41_code
def yX7_walk : MethodName := ⟨RX7, "walk", "(IIIZ)I"⟩
abbrev cX7_isResult : ByteArray := prog_9_method_42_code
def yX7_isResult : MethodName := ⟨RX7, "isResult", "(I)Z"⟩
abbrev cX7_join : ByteArray := prog_9_method_43_code
def yX7_join : MethodName := ⟨RX7, "join", "(III)I"⟩
abbrev cX7_thin : ByteArray := prog_9_method_44_code
def yX7_thin : MethodName := ⟨RX7, "thin", "(I)I"⟩
abbrev cX7_hasAligned : ByteArray := prog_9_method_45_code
def yX7_hasAligned : MethodName := ⟨RX7, "hasAligned", "(III)Z"⟩
abbrev cX7_aligned : ByteArray := prog_9_method_46_code
def yX7_aligned : MethodName := ⟨RX7, "aligned", "(IIZ)I"⟩
abbrev cX7_drop : ByteArray := prog_9_method_47_code
def yX7_drop : MethodName := ⟨RX7, "drop", "(I)I"⟩
abbrev cX7_size : ByteArray := prog_9_method_48_code
def yX7_size : MethodName := ⟨RX7, "size", "(I)I"⟩
abbrev cX7_match : ByteArray := prog_9_method_49_code
def yX7_match : MethodName := ⟨RX7, "match", "(II)I"⟩
abbrev cX7_countsValues : ByteArray := prog_9_method_50_code
def yX7_countsValues : MethodName := ⟨RX7, "countsValues", "(IIZ)I"⟩
abbrev cX7_groups : ByteArray := prog_9_method_51_code
def yX7_groups : MethodName := ⟨RX7, "groups", "(IIZ)I"⟩
abbrev cX7_groupAt : ByteArray := prog_9_method_52_code
def yX7_groupAt : MethodName := ⟨RX7, "groupAt", "(IIZI)I"⟩
def RJ6 : String := "java/lang/Integer"
def TJ6 : u_T := fun k => match k with
  | _ => ("", "", "", false)
def tyJ6 : Nat → FieldType := fun k => match k with
  | _ => .int
theorem nmJ6 : ∀ a, a < 0 → ∀ b, b < 0 → a ≠ b → (TJ6 a).2.1 ≠ (TJ6 b).2.1 := by decide +kernel
theorem tyJ6_ok : ∀ k, k < 0 → parseFieldDescriptor (TJ6 k).2.2.1 = some (tyJ6 k) := by decide +kernel
abbrev cJ6_highestOneBit_0f7a4 : ByteArray := prog_14_method_45_code
def yJ6_highestOneBit_0f7a4 : MethodName := ⟨RJ6, "highestOneBit", "(I)I"⟩
abbrev cJ6_numberOfLeadingZeros_0f7a4 : ByteArray := prog_14_method_47_code
def yJ6_numberOfLeadingZeros_0f7a4 : MethodName := ⟨RJ6, "numberOfLeadingZeros", "(I)I"⟩
abbrev cJ6_numberOfTrailingZeros_0f7a4 : ByteArray := prog_14_method_48_code
def yJ6_numberOfTrailingZeros_0f7a4 : MethodName := ⟨RJ6, "numberOfTrailingZeros", "(I)I"⟩
abbrev cJ6_bitCount_0f7a4 : ByteArray := prog_14_method_49_code
def yJ6_bitCount_0f7a4 : MethodName := ⟨RJ6, "bitCount", "(I)I"⟩
def RJ0 : String := "java/lang/String"
def TJ0 : u_T := fun k => match k with
  | _ => ("", "", "", false)
def tyJ0 : Nat → FieldType := fun k => match k with
  | _ => .int
theorem nmJ0 : ∀ a, a < 0 → ∀ b, b < 0 → a ≠ b → (TJ0 a).2.1 ≠ (TJ0 b).2.1 := by decide +kernel
theorem tyJ0_ok : ∀ k, k < 0 → parseFieldDescriptor (TJ0 k).2.2.1 = some (tyJ0 k) := by decide +kernel
def RL : String := "CorpuslineLaw"
abbrev cL_token : ByteArray := method_3_code
def yL_token : MethodName := ⟨RL, "token", "(LCorpusline;IIII[J)I"⟩
abbrev cL_end : ByteArray := method_4_code
def yL_end : MethodName := ⟨RL, "end", "(LCorpusline;IZ[J)I"⟩
abbrev cL_align : ByteArray := method_5_code
def yL_align : MethodName := ⟨RL, "align", "(LCorpusline;II[J)I"⟩
abbrev cL_tokens : ByteArray := method_6_code
def yL_tokens : MethodName := ⟨RL, "tokens", "(LCorpusline;I[J)I"⟩
abbrev cL_sentenceOf : ByteArray := method_7_code
def yL_sentenceOf : MethodName := ⟨RL, "sentenceOf", "(LCorpusline;II[J)I"⟩
abbrev cL_occurs : ByteArray := method_8_code
def yL_occurs : MethodName := ⟨RL, "occurs", "(LCorpusline;III[J)I"⟩
abbrev cL_test : ByteArray := method_9_code
def yL_test : MethodName := ⟨RL, "test", "(LCorpusline;IIZ[J)I"⟩
abbrev cL_any : ByteArray := method_10_code
def yL_any : MethodName := ⟨RL, "any", "(LCorpusline;[J)I"⟩
abbrev cL_same : ByteArray := method_11_code
def yL_same : MethodName := ⟨RL, "same", "(LCorpusline;II[J)I"⟩
abbrev cL_label : ByteArray := method_12_code
def yL_label : MethodName := ⟨RL, "label", "(LCorpusline;I)I"⟩
abbrev cL_both : ByteArray := method_13_code
def yL_both : MethodName := ⟨RL, "both", "(LCorpusline;[J)I"⟩
abbrev cL_chain : ByteArray := method_14_code
def yL_chain : MethodName := ⟨RL, "chain", "(LCorpusline;[J)I"⟩
abbrev cL_either : ByteArray := method_15_code
def yL_either : MethodName := ⟨RL, "either", "(LCorpusline;[J)I"⟩
abbrev cL_repeat : ByteArray := method_16_code
def yL_repeat : MethodName := ⟨RL, "repeat", "(LCorpusline;II[J)I"⟩
abbrev cL_keep : ByteArray := method_17_code
def yL_keep : MethodName := ⟨RL, "keep", "(LCorpusline;[J)I"⟩
abbrev cL_run : ByteArray := method_18_code
def yL_run : MethodName := ⟨RL, "run", "(LCorpusline;IIIIZ[J)I"⟩
abbrev cL_walk : ByteArray := method_19_code
def yL_walk : MethodName := ⟨RL, "walk", "(LCorpusline;IIIZ[J)I"⟩
abbrev cL_join : ByteArray := method_20_code
def yL_join : MethodName := ⟨RL, "join", "(LCorpusline;III[J)I"⟩
abbrev cL_thin : ByteArray := method_21_code
def yL_thin : MethodName := ⟨RL, "thin", "(LCorpusline;I[J)I"⟩
abbrev cL_aligned : ByteArray := method_22_code
def yL_aligned : MethodName := ⟨RL, "aligned", "(LCorpusline;IIZ[J)I"⟩
abbrev cL_drop : ByteArray := method_23_code
def yL_drop : MethodName := ⟨RL, "drop", "(LCorpusline;I[J)I"⟩
abbrev cL_match : ByteArray := method_24_code
def yL_match : MethodName := ⟨RL, "match", "(LCorpusline;II[J)I"⟩
abbrev cL_groups : ByteArray := method_25_code
def yL_groups : MethodName := ⟨RL, "groups", "(LCorpusline;IIZ[J)I"⟩
abbrev cL_groupAt : ByteArray := method_26_code
def yL_groupAt : MethodName := ⟨RL, "groupAt", "(LCorpusline;IIZI[J)I"⟩
abbrev cL_law : ByteArray := code
def yL_law : MethodName := ⟨RL, "law", "([I)Z"⟩
abbrev vwCl : List vw_C := [(RX0, TX0, 7), (RX1, TX1, 3), (RX3, TX3, 7), (RX4, TX4, 3), (RX5, TX5, 3), (RX6, TX6, 9), (RX7, TX7, 23)]
/-- the good words of the tables -/
def TB : List Cond := lw_tbl.filter goodWord
theorem tb_of (i : Nat) {w : Cond} (h : tables_1[i]? = some w) (hg : goodWord w = true) : w ∈ TB :=
  List.mem_filter.mpr ⟨List.mem_append_right _ (List.mem_of_getElem? h), hg⟩
theorem tb_sel (i : Nat) {w : Cond} (h : (k2_sels lw_privs)[i]? = some w) (hg : goodWord w = true) : w ∈ TB :=
  List.mem_filter.mpr ⟨List.mem_append_left _ (List.mem_of_getElem? h), hg⟩
theorem tb_good {w : Cond} (h : w ∈ TB) : goodWord w = true := (List.mem_filter.mp h).2
theorem tb_in {w : Cond} (h : w ∈ TB) : w ∈ lw_tbl := (List.mem_filter.mp h).1
/-- an instruction, its length, and where the next one is -/
def dn (cc : ByteArray) (pc : Nat) (ig : Instr) (k n : Nat) : Prop := decode cc pc = .ok (ig, k) ∧ pc + k = n
def dnL (cc : ByteArray) (L : List (Nat × Instr × Nat)) : Bool := L.all (fun q => decide (decode cc q.1 = .ok q.2))
theorem dnL_mem {cc : ByteArray} {L : List (Nat × Instr × Nat)} (h : dnL cc L = true) (q : Nat × Instr × Nat) (hq : q ∈ L) : decode cc q.1 = .ok q.2 := by
  unfold dnL at h
  rw [List.all_eq_true] at h
  have h1 := h q hq
  rw [decide_eq_true_eq] at h1
  exact h1
theorem dnAt {cc : ByteArray} {L : List (Nat × Instr × Nat)} (h : dnL cc L = true) (i : Nat) {pc n k : Nat} {ig : Instr} (hi : L[i]? = some (pc, ig, k)) (hn : pc + k = n) : dn cc pc ig k n :=
  And.intro (dnL_mem h (pc, ig, k) (List.mem_of_getElem? hi)) hn
end
section
/-! THE LAYER: pure heaps, one judgement VV, a row an instruction -/
abbrev hp : Type := Nat → Option va_E
def hup (h : hp) (a : Nat) (e : va_E) : hp := fun b => if b = a then some e else h b
theorem hup_s {h : hp} {a : Nat} {e : va_E} : hup h a e a = some e := by simp [hup]
theorem hup_n {h : hp} {a b : Nat} {e : va_E} (n : b ≠ a) : hup h a e b = h b := by simp [hup, n]
abbrev eG : Type := va_G × (Nat → ClassId) × Nat
abbrev eB (G : eG) : Nat := G.2.2
def tyL (G : eG) : List (ClassId × FieldType) := [(G.2.1 0, .int), (G.2.1 1, .long), (G.2.1 2, .boolean), (G.2.1 3, .object RX0), (G.2.1 4, .object RX1), (G.2.1 5, .object RX3), (G.2.1 6, .object RX4)]
abbrev aI (G : eG) (n : Nat) (f : Nat → Int32) : va_E := .inl (G.2.1 0, n, .inl f)
abbrev aJ (G : eG) (n : Nat) (f : Nat → Int64) : va_E := .inl (G.2.1 1, n, .inr (.inl f))
abbrev aZ (G : eG) (n : Nat) (f : Nat → Int32) : va_E := .inl (G.2.1 2, n, .inl f)
abbrev aR (G : eG) (k n : Nat) (f : Nat → Option Nat) : va_E := .inl (G.2.1 k, n, .inr (.inr (.inr (.inr f))))
abbrev oC (ci : Nat) (fs : List Value) : va_E := .inr (ci, fs)
def eA (G : eG) : Nat → Prop := fun q => eB G ≤ q
def hH (G : eG) (h : hp) (H : Heap) : Prop := eB G ≤ H.size ∧ ∀ (a : Nat) (e : va_E), h a = some e → eB G ≤ a ∧ va_at G.1 vwCl (a, e) H
theorem hH.lt {G : eG} {h : hp} {H : Heap} (hh : hH G h H) {a : Nat} {e : va_E} (he : h a = some e) : a < H.size := (hh.2 a e he).2.lt
theorem hH.sub {G : eG} {h h' : hp} {H : Heap} (hh : hH G h H) (hs : ∀ a e, h' a = some e → h a = some e) : hH G h' H := ⟨hh.1, fun a e he => hh.2 a e (hs a e he)⟩
theorem hH.fresh {G : eG} {h : hp} {H : Heap} (hh : hH G h H) : h H.size = none := by
  cases he : h H.size with
  | none => rfl
  | some e => exact absurd (hh.lt he) (Nat.lt_irrefl _)
theorem hH.put {G : eG} {h : hp} {H H1 : Heap} {a : Nat} {e0 e : va_E} (hh : hH G h H) (h0 : h a = some e0) (z : H1.size = H.size) (oq : ∀ q : Nat, q ≠ a → H1[q]? = H[q]?) (he : va_at G.1 vwCl (a, e) H1) : hH G (hup h a e) H1 := by
  refine ⟨by rw [z]; exact hh.1, fun b e1 hb => ?_⟩
  by_cases hba : b = a
  · subst hba
    rw [hup_s] at hb
    cases hb
    exact ⟨(hh.2 b e0 h0).1, he⟩
  · rw [hup_n hba] at hb
    obtain ⟨x1, x2⟩ := hh.2 b e1 hb
    exact ⟨x1, x2.kept (oq b hba)⟩
theorem hH.new {G : eG} {h : hp} {H H1 : Heap} {e : va_E} (hh : hH G h H) (z : H1.size = H.size + 1) (oq : ∀ q : Nat, q < H.size → H1[q]? = H[q]?) (he : va_at G.1 vwCl (H.size, e) H1) : hH G (hup h H.size e) H1 := by
  refine ⟨by rw [z]; exact Nat.le_succ_of_le hh.1, fun b e1 hb => ?_⟩
  by_cases hba : b = H.size
  · subst hba
    rw [hup_s] at hb
    cases hb
    exact ⟨hh.1, he⟩
  · rw [hup_n hba] at hb
    obtain ⟨x1, x2⟩ := hh.2 b e1 hb
    exact ⟨x1, x2.kept (oq b (hh.lt hb))⟩
def strs : List (Nat × String) := [(231, "no such side"), (228, "an argument is out of its range"), (66, "the side is full"), (75, "the side has no tokens"), (90, "no such sentence"), (97, "no such token"), (237, "the pile has no room for a test"), (239, "too few parts"), (244, "the part is no test"), (160, "too many tests"), (166, "not just one part, or too many patterns"), (233, "no such pattern"), (235, "no such result"), (191, "results of unlike sides"), (215, "no such match"), (224, "no such group")]
def exN : List String := ["java/lang/IndexOutOfBoundsException", "java/lang/IllegalArgumentException", "java/lang/IllegalStateException"]
def exD : List MethodName := [⟨"java/lang/RuntimeException", "<init>", "(Ljava/lang/String;)V"⟩, ⟨"java/lang/Exception", "<init>", "(Ljava/lang/String;)V"⟩, ⟨"java/lang/Throwable", "<init>", "(Ljava/lang/String;)V"⟩]
def gK (G : eG) (U : State) : Prop := va_K G.1 vwCl (tyL G) U ∧ (∀ q ∈ strs, ∃ sa, vk_R RX6 q.1 q.2 sa U) ∧ (va_AO RX0 U ∧ va_AO RX1 U ∧ va_AO RX3 U ∧ va_AO RX4 U) ∧ va_Nw (.methodLinkNest RX6 42 yX5_init RX6) U ∧ va_Nw (.methodLinkNest RX6 51 yX3_init RX6) U ∧ va_Nw (.methodLinkNest RX6 52 yX1_init RX6) U ∧ (∀ E ∈ exN, ∀ F ∈ exN, E ≠ F → va_Nc E F U) ∧ ∀ y ∈ exD, va_Nw (.declares y) U
theorem gK.warm {G : eG} {s U : State} (hW : s.WarmedH U.vm) (h : gK G s) : gK G U := by
  obtain ⟨h1, h2, ⟨h3, h4, h5, h6⟩, h7, h8, h9, h10, h11⟩ := h
  refine ⟨h1.moved hW.alike, fun q hq => ?_, ⟨va_AO.moved hW.alike h3, va_AO.moved hW.alike h4, va_AO.moved hW.alike h5, va_AO.moved hW.alike h6⟩, va_Nw.warmM hW h7, va_Nw.warmM hW h8, va_Nw.warmM hW h9, fun E hE F hF n => va_Nc.moved hW.alike (h10 E hE F hF n), fun y hy => va_Nw.warmD hW (h11 y hy)⟩
  obtain ⟨sa, hs⟩ := h2 q hq
  exact ⟨sa, hs.warm hW⟩
theorem gK.same {G : eG} {u U : State} (hv : U.vm = u.vm) (h : gK G u) : gK G U := gK.warm (by rw [hv]; exact State.WarmedH.refl u) h
def gZ (G : eG) (U : State) (H : Heap) : Prop := vx_Zq Bundle.tN "UNASSIGNED_STACK" Bundle.steD (eA G) U H ∧ vx_Zq Bundle.tN "SUPPRESSED_SENTINEL" Bundle.listD (eA G) U H
def PW (G : eG) (h : hp) (U : State) : Prop := hH G h U.heap ∧ gK G U ∧ gZ G U U.heap
theorem PW.calling {G : eG} {h : hp} {U : State} {g : JFrame} {mk : MethodId} {a : Array Value} (w : PW G h U) : PW G h (U.calling g mk a) :=
  ⟨w.1, gK.same (u := U) rfl w.2.1, vx_Zq.moved (u := U) (Vm.Alike.refl U.vm) w.2.2.1, vx_Zq.moved (u := U) (Vm.Alike.refl U.vm) w.2.2.2⟩
/-- a machine at work in a method: all that doesn't change from one instruction to the next -/
abbrev CX : Type := Program × Launch × Env × Room × State × MethodId × Array Value × List Frame × Method × Code × (State → Prop) × Nat
def VV (G : eG) : CX → Nat → Nat → hp → Nat → List (Nat × Value) → List Value → Prop
  | (p, l, e, R, s, m, args, below, meth, c, Q, nL), n1, n2, h, pc, lv, st => ∀ (H : Heap) (locs : List Loc) (ls : Array Slot), hH G h H → va_S (eA G) s.heap H locs → lv_has ls nL lv → W p l e R s m args below meth c H locs n1 n2 Q (F0 m pc ls st)
/-- what stands in a method's body: its code, its class, its table's words, its answer's type, its room, its locals -/
def cxOk (G : eG) (own : String) (cc : ByteArray) (rm : Room) (nL : Nat) : CX → Prop
  | (p, l, e, R, s, m, args, below, meth, c, Q, n) => p.tables.exec = Jvm.exec ∧ c.code = cc ∧ c.maxLocals = n ∧ s.vm.findClass own = some m.cls ∧ (∀ w ∈ TB, w.before args s = true) ∧ gK G s ∧ gZ G s s.heap ∧ meth.locks = false ∧ R = rm ∧ n = nL ∧ eB G ≤ s.heap.size
section ROWS
variable {G : eG} {x : CX} {n1 n2 : Nat} {h : hp} {pc nx : Nat} {lv : List (Nat × Value)} {st : List Value} {own : String} {cc : ByteArray} {rm : Room} {nL : Nat}

theorem r_iconst (C : cxOk G own cc rm nL x) {i : Int} {v : Int32} (d : dn cc pc (.iconst i) 1 nx) (hv : Int32.ofInt i = v)
    (kk : VV G x n1 n2 h nx lv (.int v :: st)) : VV G x n1 n2 h pc lv (st) := by
  obtain ⟨p, l, e, R, s, m, args, below, meth, c, Q, n⟩ := x
  obtain ⟨d, rfl⟩ := d
  intro H locs ls hh hS hl
  exact lv_iconst C.1 C.2.1 d hv (kk H locs ls hh hS hl)
theorem r_bipush (C : cxOk G own cc rm nL x) {i : Int} {v : Int32} (d : dn cc pc (.bipush i) 2 nx) (hv : (Int8.ofInt i).toInt32 = v)
    (kk : VV G x n1 n2 h nx lv (.int v :: st)) : VV G x n1 n2 h pc lv (st) := by
  obtain ⟨p, l, e, R, s, m, args, below, meth, c, Q, n⟩ := x
  obtain ⟨d, rfl⟩ := d
  intro H locs ls hh hS hl
  exact lv_bipush C.1 C.2.1 d hv (kk H locs ls hh hS hl)
theorem r_sipush (C : cxOk G own cc rm nL x) {i : Int} {v : Int32} (d : dn cc pc (.sipush i) 3 nx) (hv : (Int16.ofInt i).toInt32 = v)
    (kk : VV G x n1 n2 h nx lv (.int v :: st)) : VV G x n1 n2 h pc lv (st) := by
  obtain ⟨p, l, e, R, s, m, args, below, meth, c, Q, n⟩ := x
  obtain ⟨d, rfl⟩ := d
  intro H locs ls hh hS hl
  exact lv_sipush C.1 C.2.1 d hv (kk H locs ls hh hS hl)
theorem r_lconst (C : cxOk G own cc rm nL x) {i : Fin 2} {v : Int64} (d : dn cc pc (.lconst i) 1 nx) (hv : Int64.ofNat (i : Nat) = v)
    (kk : VV G x n1 n2 h nx lv (.long v :: st)) : VV G x n1 n2 h pc lv (st) := by
  obtain ⟨p, l, e, R, s, m, args, below, meth, c, Q, n⟩ := x
  obtain ⟨d, rfl⟩ := d
  intro H locs ls hh hS hl
  exact lv_lconst C.1 C.2.1 d hv (kk H locs ls hh hS hl)
theorem r_null (C : cxOk G own cc rm nL x) (d : dn cc pc (.aconst_null) 1 nx) 
    (kk : VV G x n1 n2 h nx lv (.null :: st)) : VV G x n1 n2 h pc lv (st) := by
  obtain ⟨p, l, e, R, s, m, args, below, meth, c, Q, n⟩ := x
  obtain ⟨d, rfl⟩ := d
  intro H locs ls hh hS hl
  exact lv_null C.1 C.2.1 d (kk H locs ls hh hS hl)
theorem r_ldc (C : cxOk G own cc rm nL x) {i : Nat} {v : Int32} (d : dn cc pc (.ldc i) 2 nx) (hc : Jvm.Cond.constant own i v ∈ TB)
    (kk : VV G x n1 n2 h nx lv (.int v :: st)) : VV G x n1 n2 h pc lv (st) := by
  obtain ⟨p, l, e, R, s, m, args, below, meth, c, Q, n⟩ := x
  obtain ⟨d, rfl⟩ := d
  intro H locs ls hh hS hl
  exact lv_ldc C.1 C.2.1 C.2.2.2.1 (C.2.2.2.2.1 _ hc) d (kk H locs ls hh hS hl)
theorem r_ldc2 (C : cxOk G own cc rm nL x) {i : Nat} {v : Int64} (d : dn cc pc (.ldc2_w i) 3 nx) (hc : Jvm.Cond.constantLong own i v ∈ TB)
    (kk : VV G x n1 n2 h nx lv (.long v :: st)) : VV G x n1 n2 h pc lv (st) := by
  obtain ⟨p, l, e, R, s, m, args, below, meth, c, Q, n⟩ := x
  obtain ⟨d, rfl⟩ := d
  intro H locs ls hh hS hl
  exact lv_ldc2 C.1 C.2.1 C.2.2.2.1 (C.2.2.2.2.1 _ hc) d (kk H locs ls hh hS hl)
theorem r_iload_n (C : cxOk G own cc rm nL x) {i : Fin 4} {v : Int32} (d : dn cc pc (.iload_n i) 1 nx) (j : Nat) (hk : lv[j]? = some ((i : Nat), .int v))
    (kk : VV G x n1 n2 h nx lv (.int v :: st)) : VV G x n1 n2 h pc lv (st) := by
  obtain ⟨p, l, e, R, s, m, args, below, meth, c, Q, n⟩ := x
  obtain ⟨d, rfl⟩ := d
  intro H locs ls hh hS hl
  exact lv_iload_n C.1 C.2.1 d rfl (lv_at hl j hk) (kk H locs ls hh hS hl)
theorem r_iload (C : cxOk G own cc rm nL x) {i : Nat} {v : Int32} (d : dn cc pc (.iload i) 2 nx) (j : Nat) (hk : lv[j]? = some (i, .int v))
    (kk : VV G x n1 n2 h nx lv (.int v :: st)) : VV G x n1 n2 h pc lv (st) := by
  obtain ⟨p, l, e, R, s, m, args, below, meth, c, Q, n⟩ := x
  obtain ⟨d, rfl⟩ := d
  intro H locs ls hh hS hl
  exact lv_iload C.1 C.2.1 d (lv_at hl j hk) (kk H locs ls hh hS hl)
theorem r_lload_n (C : cxOk G own cc rm nL x) {i : Fin 4} {v : Int64} (d : dn cc pc (.lload_n i) 1 nx) (j : Nat) (hk : lv[j]? = some ((i : Nat), .long v))
    (kk : VV G x n1 n2 h nx lv (.long v :: st)) : VV G x n1 n2 h pc lv (st) := by
  obtain ⟨p, l, e, R, s, m, args, below, meth, c, Q, n⟩ := x
  obtain ⟨d, rfl⟩ := d
  intro H locs ls hh hS hl
  exact lv_lload_n C.1 C.2.1 d rfl (lv_at hl j hk) (kk H locs ls hh hS hl)
theorem r_lload (C : cxOk G own cc rm nL x) {i : Nat} {v : Int64} (d : dn cc pc (.lload i) 2 nx) (j : Nat) (hk : lv[j]? = some (i, .long v))
    (kk : VV G x n1 n2 h nx lv (.long v :: st)) : VV G x n1 n2 h pc lv (st) := by
  obtain ⟨p, l, e, R, s, m, args, below, meth, c, Q, n⟩ := x
  obtain ⟨d, rfl⟩ := d
  intro H locs ls hh hS hl
  exact lv_lload C.1 C.2.1 d (lv_at hl j hk) (kk H locs ls hh hS hl)
theorem r_aload_n (C : cxOk G own cc rm nL x) {i : Fin 4} {v : Nat} (d : dn cc pc (.aload_n i) 1 nx) (j : Nat) (hk : lv[j]? = some ((i : Nat), .ref v))
    (kk : VV G x n1 n2 h nx lv (.ref v :: st)) : VV G x n1 n2 h pc lv (st) := by
  obtain ⟨p, l, e, R, s, m, args, below, meth, c, Q, n⟩ := x
  obtain ⟨d, rfl⟩ := d
  intro H locs ls hh hS hl
  exact lv_aload_n C.1 C.2.1 d rfl (lv_at hl j hk) (kk H locs ls hh hS hl)
theorem r_aload (C : cxOk G own cc rm nL x) {i : Nat} {v : Nat} (d : dn cc pc (.aload i) 2 nx) (j : Nat) (hk : lv[j]? = some (i, .ref v))
    (kk : VV G x n1 n2 h nx lv (.ref v :: st)) : VV G x n1 n2 h pc lv (st) := by
  obtain ⟨p, l, e, R, s, m, args, below, meth, c, Q, n⟩ := x
  obtain ⟨d, rfl⟩ := d
  intro H locs ls hh hS hl
  exact lv_aload C.1 C.2.1 d (lv_at hl j hk) (kk H locs ls hh hS hl)
theorem r_istore_n (C : cxOk G own cc rm nL x) {i : Fin 4} {v : Int32} (d : dn cc pc (.istore_n i) 1 nx) {lv' : List (Nat × Value)} (hn : (i : Nat) < nL) (hl2 : ((i : Nat), Value.int v) :: lv.filter (fun q => !(q.1 == (i : Nat)) && !(q.1 + 1 == (i : Nat) && q.2.category == 2)) = lv')
    (kk : VV G x n1 n2 h nx lv' (st)) : VV G x n1 n2 h pc lv (.int v :: st) := by
  obtain ⟨p, l, e, R, s, m, args, below, meth, c, Q, n⟩ := x
  obtain ⟨d, rfl⟩ := d
  intro H locs ls hh hS hl
  obtain ⟨c1, c2, c3, c4, c5, c6, c7, c8, c9, rfl, c11⟩ := C
  exact lv_istore_n c1 c2 d rfl hl hn hl2 (fun ls hl => kk H locs ls hh hS hl)
theorem r_istore (C : cxOk G own cc rm nL x) {i : Nat} {v : Int32} (d : dn cc pc (.istore i) 2 nx) {lv' : List (Nat × Value)} (hn : i < nL) (hl2 : (i, Value.int v) :: lv.filter (fun q => !(q.1 == i) && !(q.1 + 1 == i && q.2.category == 2)) = lv')
    (kk : VV G x n1 n2 h nx lv' (st)) : VV G x n1 n2 h pc lv (.int v :: st) := by
  obtain ⟨p, l, e, R, s, m, args, below, meth, c, Q, n⟩ := x
  obtain ⟨d, rfl⟩ := d
  intro H locs ls hh hS hl
  obtain ⟨c1, c2, c3, c4, c5, c6, c7, c8, c9, rfl, c11⟩ := C
  exact lv_istore c1 c2 d hl hn hl2 (fun ls hl => kk H locs ls hh hS hl)
theorem r_astore_n (C : cxOk G own cc rm nL x) {i : Fin 4} {v : Nat} (d : dn cc pc (.astore_n i) 1 nx) {lv' : List (Nat × Value)} (hn : (i : Nat) < nL) (hl2 : ((i : Nat), Value.ref v) :: lv.filter (fun q => !(q.1 == (i : Nat)) && !(q.1 + 1 == (i : Nat) && q.2.category == 2)) = lv')
    (kk : VV G x n1 n2 h nx lv' (st)) : VV G x n1 n2 h pc lv (.ref v :: st) := by
  obtain ⟨p, l, e, R, s, m, args, below, meth, c, Q, n⟩ := x
  obtain ⟨d, rfl⟩ := d
  intro H locs ls hh hS hl
  obtain ⟨c1, c2, c3, c4, c5, c6, c7, c8, c9, rfl, c11⟩ := C
  exact lv_astore_n c1 c2 d rfl hl hn hl2 (fun ls hl => kk H locs ls hh hS hl)
theorem r_astore (C : cxOk G own cc rm nL x) {i : Nat} {v : Nat} (d : dn cc pc (.astore i) 2 nx) {lv' : List (Nat × Value)} (hn : i < nL) (hl2 : (i, Value.ref v) :: lv.filter (fun q => !(q.1 == i) && !(q.1 + 1 == i && q.2.category == 2)) = lv')
    (kk : VV G x n1 n2 h nx lv' (st)) : VV G x n1 n2 h pc lv (.ref v :: st) := by
  obtain ⟨p, l, e, R, s, m, args, below, meth, c, Q, n⟩ := x
  obtain ⟨d, rfl⟩ := d
  intro H locs ls hh hS hl
  obtain ⟨c1, c2, c3, c4, c5, c6, c7, c8, c9, rfl, c11⟩ := C
  exact lv_astore c1 c2 d hl hn hl2 (fun ls hl => kk H locs ls hh hS hl)
theorem r_lstore_n (C : cxOk G own cc rm nL x) {i : Fin 4} {v : Int64} (d : dn cc pc (.lstore_n i) 1 nx) {lv' : List (Nat × Value)} (hn : (i : Nat) + 1 < nL) (hl2 : ((i : Nat), Value.long v) :: lv.filter (fun q => !(q.1 == (i : Nat)) && (!(q.1 == (i : Nat) + 1) && !(q.1 + 1 == (i : Nat) && q.2.category == 2))) = lv')
    (kk : VV G x n1 n2 h nx lv' (st)) : VV G x n1 n2 h pc lv (.long v :: st) := by
  obtain ⟨p, l, e, R, s, m, args, below, meth, c, Q, n⟩ := x
  obtain ⟨d, rfl⟩ := d
  intro H locs ls hh hS hl
  obtain ⟨c1, c2, c3, c4, c5, c6, c7, c8, c9, rfl, c11⟩ := C
  exact lv_lstore_n c1 c2 d rfl hl hn hl2 (fun ls hl => kk H locs ls hh hS hl)
theorem r_lstore (C : cxOk G own cc rm nL x) {i : Nat} {v : Int64} (d : dn cc pc (.lstore i) 2 nx) {lv' : List (Nat × Value)} (hn : i + 1 < nL) (hl2 : (i, Value.long v) :: lv.filter (fun q => !(q.1 == i) && (!(q.1 == i + 1) && !(q.1 + 1 == i && q.2.category == 2))) = lv')
    (kk : VV G x n1 n2 h nx lv' (st)) : VV G x n1 n2 h pc lv (.long v :: st) := by
  obtain ⟨p, l, e, R, s, m, args, below, meth, c, Q, n⟩ := x
  obtain ⟨d, rfl⟩ := d
  intro H locs ls hh hS hl
  obtain ⟨c1, c2, c3, c4, c5, c6, c7, c8, c9, rfl, c11⟩ := C
  exact lv_lstore c1 c2 d hl hn hl2 (fun ls hl => kk H locs ls hh hS hl)
theorem r_iinc (C : cxOk G own cc rm nL x) {i : Nat} {k : Int} {a v : Int32} (d : dn cc pc (.iinc i k) 3 nx) {lv' : List (Nat × Value)} (j : Nat) (hk : lv[j]? = some (i, .int a)) (hv : a + Int32.ofInt k = v) (hn : i < nL) (hl2 : (i, Value.int v) :: lv.filter (fun q => !(q.1 == i) && !(q.1 + 1 == i && q.2.category == 2)) = lv')
    (kk : VV G x n1 n2 h nx lv' (st)) : VV G x n1 n2 h pc lv (st) := by
  obtain ⟨p, l, e, R, s, m, args, below, meth, c, Q, n⟩ := x
  obtain ⟨d, rfl⟩ := d
  intro H locs ls hh hS hl
  obtain ⟨c1, c2, c3, c4, c5, c6, c7, c8, c9, rfl, c11⟩ := C
  exact lv_iinc c1 c2 d hl hk hv hn hl2 (fun ls hl => kk H locs ls hh hS hl)
theorem r_iadd (C : cxOk G own cc rm nL x) {a b : Int32} (d : dn cc pc (.iadd) 1 nx) 
    (kk : VV G x n1 n2 h nx lv (.int (a + b) :: st)) : VV G x n1 n2 h pc lv (.int b :: .int a :: st) := by
  obtain ⟨p, l, e, R, s, m, args, below, meth, c, Q, n⟩ := x
  obtain ⟨d, rfl⟩ := d
  intro H locs ls hh hS hl
  exact lv_iadd C.1 C.2.1 d (kk H locs ls hh hS hl)
theorem r_isub (C : cxOk G own cc rm nL x) {a b : Int32} (d : dn cc pc (.isub) 1 nx) 
    (kk : VV G x n1 n2 h nx lv (.int (a - b) :: st)) : VV G x n1 n2 h pc lv (.int b :: .int a :: st) := by
  obtain ⟨p, l, e, R, s, m, args, below, meth, c, Q, n⟩ := x
  obtain ⟨d, rfl⟩ := d
  intro H locs ls hh hS hl
  exact lv_isub C.1 C.2.1 d (kk H locs ls hh hS hl)
theorem r_imul (C : cxOk G own cc rm nL x) {a b : Int32} (d : dn cc pc (.imul) 1 nx) 
    (kk : VV G x n1 n2 h nx lv (.int (a * b) :: st)) : VV G x n1 n2 h pc lv (.int b :: .int a :: st) := by
  obtain ⟨p, l, e, R, s, m, args, below, meth, c, Q, n⟩ := x
  obtain ⟨d, rfl⟩ := d
  intro H locs ls hh hS hl
  exact lv_imul C.1 C.2.1 d (kk H locs ls hh hS hl)
theorem r_iand (C : cxOk G own cc rm nL x) {a b : Int32} (d : dn cc pc (.iand) 1 nx) 
    (kk : VV G x n1 n2 h nx lv (.int (a &&& b) :: st)) : VV G x n1 n2 h pc lv (.int b :: .int a :: st) := by
  obtain ⟨p, l, e, R, s, m, args, below, meth, c, Q, n⟩ := x
  obtain ⟨d, rfl⟩ := d
  intro H locs ls hh hS hl
  exact lv_iand C.1 C.2.1 d (kk H locs ls hh hS hl)
theorem r_ior (C : cxOk G own cc rm nL x) {a b : Int32} (d : dn cc pc (.ior) 1 nx) 
    (kk : VV G x n1 n2 h nx lv (.int (a ||| b) :: st)) : VV G x n1 n2 h pc lv (.int b :: .int a :: st) := by
  obtain ⟨p, l, e, R, s, m, args, below, meth, c, Q, n⟩ := x
  obtain ⟨d, rfl⟩ := d
  intro H locs ls hh hS hl
  exact lv_ior C.1 C.2.1 d (kk H locs ls hh hS hl)
theorem r_ixor (C : cxOk G own cc rm nL x) {a b : Int32} (d : dn cc pc (.ixor) 1 nx) 
    (kk : VV G x n1 n2 h nx lv (.int (a ^^^ b) :: st)) : VV G x n1 n2 h pc lv (.int b :: .int a :: st) := by
  obtain ⟨p, l, e, R, s, m, args, below, meth, c, Q, n⟩ := x
  obtain ⟨d, rfl⟩ := d
  intro H locs ls hh hS hl
  exact lv_ixor C.1 C.2.1 d (kk H locs ls hh hS hl)
theorem r_ishl (C : cxOk G own cc rm nL x) {a b : Int32} (d : dn cc pc (.ishl) 1 nx) 
    (kk : VV G x n1 n2 h nx lv (.int (a <<< (b &&& 31)) :: st)) : VV G x n1 n2 h pc lv (.int b :: .int a :: st) := by
  obtain ⟨p, l, e, R, s, m, args, below, meth, c, Q, n⟩ := x
  obtain ⟨d, rfl⟩ := d
  intro H locs ls hh hS hl
  exact lv_ishl C.1 C.2.1 d (kk H locs ls hh hS hl)
theorem r_ishr (C : cxOk G own cc rm nL x) {a b : Int32} (d : dn cc pc (.ishr) 1 nx) 
    (kk : VV G x n1 n2 h nx lv (.int (a >>> (b &&& 31)) :: st)) : VV G x n1 n2 h pc lv (.int b :: .int a :: st) := by
  obtain ⟨p, l, e, R, s, m, args, below, meth, c, Q, n⟩ := x
  obtain ⟨d, rfl⟩ := d
  intro H locs ls hh hS hl
  exact lv_ishr C.1 C.2.1 d (kk H locs ls hh hS hl)
theorem r_iushr (C : cxOk G own cc rm nL x) {a b : Int32} (d : dn cc pc (.iushr) 1 nx) 
    (kk : VV G x n1 n2 h nx lv (.int (a.toUInt32 >>> (b.toUInt32 &&& Int32.toUInt32 31)).toInt32 :: st)) : VV G x n1 n2 h pc lv (.int b :: .int a :: st) := by
  obtain ⟨p, l, e, R, s, m, args, below, meth, c, Q, n⟩ := x
  obtain ⟨d, rfl⟩ := d
  intro H locs ls hh hS hl
  exact lv_iushr C.1 C.2.1 d rfl (kk H locs ls hh hS hl)
theorem r_idiv (C : cxOk G own cc rm nL x) {a b : Int32} (d : dn cc pc (.idiv) 1 nx) (hb : ¬ b = 0)
    (kk : VV G x n1 n2 h nx lv (.int (a / b) :: st)) : VV G x n1 n2 h pc lv (.int b :: .int a :: st) := by
  obtain ⟨p, l, e, R, s, m, args, below, meth, c, Q, n⟩ := x
  obtain ⟨d, rfl⟩ := d
  intro H locs ls hh hS hl
  exact lv_idiv C.1 C.2.1 d hb (kk H locs ls hh hS hl)
theorem r_irem (C : cxOk G own cc rm nL x) {a b : Int32} (d : dn cc pc (.irem) 1 nx) (hb : ¬ b = 0)
    (kk : VV G x n1 n2 h nx lv (.int (a - a / b * b) :: st)) : VV G x n1 n2 h pc lv (.int b :: .int a :: st) := by
  obtain ⟨p, l, e, R, s, m, args, below, meth, c, Q, n⟩ := x
  obtain ⟨d, rfl⟩ := d
  intro H locs ls hh hS hl
  exact lv_irem C.1 C.2.1 d hb (kk H locs ls hh hS hl)
theorem r_ineg (C : cxOk G own cc rm nL x) {a : Int32} (d : dn cc pc (.ineg) 1 nx) 
    (kk : VV G x n1 n2 h nx lv (.int (-a) :: st)) : VV G x n1 n2 h pc lv (.int a :: st) := by
  obtain ⟨p, l, e, R, s, m, args, below, meth, c, Q, n⟩ := x
  obtain ⟨d, rfl⟩ := d
  intro H locs ls hh hS hl
  exact lv_ineg C.1 C.2.1 d (kk H locs ls hh hS hl)
theorem r_ladd (C : cxOk G own cc rm nL x) {a b : Int64} (d : dn cc pc (.ladd) 1 nx) 
    (kk : VV G x n1 n2 h nx lv (.long (a + b) :: st)) : VV G x n1 n2 h pc lv (.long b :: .long a :: st) := by
  obtain ⟨p, l, e, R, s, m, args, below, meth, c, Q, n⟩ := x
  obtain ⟨d, rfl⟩ := d
  intro H locs ls hh hS hl
  exact lv_ladd C.1 C.2.1 d (kk H locs ls hh hS hl)
theorem r_land (C : cxOk G own cc rm nL x) {a b : Int64} (d : dn cc pc (.land) 1 nx) 
    (kk : VV G x n1 n2 h nx lv (.long (a &&& b) :: st)) : VV G x n1 n2 h pc lv (.long b :: .long a :: st) := by
  obtain ⟨p, l, e, R, s, m, args, below, meth, c, Q, n⟩ := x
  obtain ⟨d, rfl⟩ := d
  intro H locs ls hh hS hl
  exact lv_land C.1 C.2.1 d (kk H locs ls hh hS hl)
theorem r_lor (C : cxOk G own cc rm nL x) {a b : Int64} (d : dn cc pc (.lor) 1 nx) 
    (kk : VV G x n1 n2 h nx lv (.long (a ||| b) :: st)) : VV G x n1 n2 h pc lv (.long b :: .long a :: st) := by
  obtain ⟨p, l, e, R, s, m, args, below, meth, c, Q, n⟩ := x
  obtain ⟨d, rfl⟩ := d
  intro H locs ls hh hS hl
  exact lv_lor C.1 C.2.1 d (kk H locs ls hh hS hl)
theorem r_lxor (C : cxOk G own cc rm nL x) {a b : Int64} (d : dn cc pc (.lxor) 1 nx) 
    (kk : VV G x n1 n2 h nx lv (.long (a ^^^ b) :: st)) : VV G x n1 n2 h pc lv (.long b :: .long a :: st) := by
  obtain ⟨p, l, e, R, s, m, args, below, meth, c, Q, n⟩ := x
  obtain ⟨d, rfl⟩ := d
  intro H locs ls hh hS hl
  exact lv_lxor C.1 C.2.1 d (kk H locs ls hh hS hl)
theorem r_lushr (C : cxOk G own cc rm nL x) {a : Int64} {b : Int32} (d : dn cc pc (.lushr) 1 nx) 
    (kk : VV G x n1 n2 h nx lv (.long (a.toUInt64 >>> (b.toInt64.toUInt64 &&& Int64.toUInt64 63)).toInt64 :: st)) : VV G x n1 n2 h pc lv (.int b :: .long a :: st) := by
  obtain ⟨p, l, e, R, s, m, args, below, meth, c, Q, n⟩ := x
  obtain ⟨d, rfl⟩ := d
  intro H locs ls hh hS hl
  exact lv_lushr C.1 C.2.1 d rfl (kk H locs ls hh hS hl)
theorem r_lshl (C : cxOk G own cc rm nL x) {a : Int64} {b : Int32} (d : dn cc pc (.lshl) 1 nx) 
    (kk : VV G x n1 n2 h nx lv (.long (a <<< (b.toInt64 &&& 63)) :: st)) : VV G x n1 n2 h pc lv (.int b :: .long a :: st) := by
  obtain ⟨p, l, e, R, s, m, args, below, meth, c, Q, n⟩ := x
  obtain ⟨d, rfl⟩ := d
  intro H locs ls hh hS hl
  exact lv_lshl C.1 C.2.1 d rfl (kk H locs ls hh hS hl)
theorem r_lshr (C : cxOk G own cc rm nL x) {a : Int64} {b : Int32} (d : dn cc pc (.lshr) 1 nx) 
    (kk : VV G x n1 n2 h nx lv (.long (a >>> (b.toInt64 &&& 63)) :: st)) : VV G x n1 n2 h pc lv (.int b :: .long a :: st) := by
  obtain ⟨p, l, e, R, s, m, args, below, meth, c, Q, n⟩ := x
  obtain ⟨d, rfl⟩ := d
  intro H locs ls hh hS hl
  exact lv_lshr C.1 C.2.1 d rfl (kk H locs ls hh hS hl)
theorem r_lcmp (C : cxOk G own cc rm nL x) {a b : Int64} (d : dn cc pc (.lcmp) 1 nx) 
    (kk : VV G x n1 n2 h nx lv (.int (lg_cmp a b) :: st)) : VV G x n1 n2 h pc lv (.long b :: .long a :: st) := by
  obtain ⟨p, l, e, R, s, m, args, below, meth, c, Q, n⟩ := x
  obtain ⟨d, rfl⟩ := d
  intro H locs ls hh hS hl
  exact W.lcmp C.1 C.2.1 d (kk H locs ls hh hS hl)
theorem r_i2l (C : cxOk G own cc rm nL x) {a : Int32} (d : dn cc pc (.i2l) 1 nx) 
    (kk : VV G x n1 n2 h nx lv (.long a.toInt64 :: st)) : VV G x n1 n2 h pc lv (.int a :: st) := by
  obtain ⟨p, l, e, R, s, m, args, below, meth, c, Q, n⟩ := x
  obtain ⟨d, rfl⟩ := d
  intro H locs ls hh hS hl
  exact lv_i2l C.1 C.2.1 d rfl (kk H locs ls hh hS hl)
theorem r_l2i (C : cxOk G own cc rm nL x) {a : Int64} (d : dn cc pc (.l2i) 1 nx) 
    (kk : VV G x n1 n2 h nx lv (.int a.toInt32 :: st)) : VV G x n1 n2 h pc lv (.long a :: st) := by
  obtain ⟨p, l, e, R, s, m, args, below, meth, c, Q, n⟩ := x
  obtain ⟨d, rfl⟩ := d
  intro H locs ls hh hS hl
  exact lv_l2i C.1 C.2.1 d rfl (kk H locs ls hh hS hl)
theorem r_dup (C : cxOk G own cc rm nL x) {v : Value} (d : dn cc pc (.dup) 1 nx) (hv : v.category = 1)
    (kk : VV G x n1 n2 h nx lv (v :: v :: st)) : VV G x n1 n2 h pc lv (v :: st) := by
  obtain ⟨p, l, e, R, s, m, args, below, meth, c, Q, n⟩ := x
  obtain ⟨d, rfl⟩ := d
  intro H locs ls hh hS hl
  exact lv_dup C.1 C.2.1 d hv (kk H locs ls hh hS hl)
theorem r_pop (C : cxOk G own cc rm nL x) {v : Value} (d : dn cc pc (.pop) 1 nx) (hv : v.category = 1)
    (kk : VV G x n1 n2 h nx lv (st)) : VV G x n1 n2 h pc lv (v :: st) := by
  obtain ⟨p, l, e, R, s, m, args, below, meth, c, Q, n⟩ := x
  obtain ⟨d, rfl⟩ := d
  intro H locs ls hh hS hl
  exact lv_pop C.1 C.2.1 d hv (kk H locs ls hh hS hl)
theorem r_dup2 (C : cxOk G own cc rm nL x) {v w : Value} (d : dn cc pc (.dup2) 1 nx) (hv : v.category = 1) (hw : w.category = 1)
    (kk : VV G x n1 n2 h nx lv (v :: w :: v :: w :: st)) : VV G x n1 n2 h pc lv (v :: w :: st) := by
  obtain ⟨p, l, e, R, s, m, args, below, meth, c, Q, n⟩ := x
  obtain ⟨d, rfl⟩ := d
  intro H locs ls hh hS hl
  exact lv_dup2_11 C.1 C.2.1 d hv hw (kk H locs ls hh hS hl)
theorem r_if_eq (C : cxOk G own cc rm nL x) {off : Int} {tgt : Nat} {a : Int32} (d : dn cc pc (.ifCond .eq off) 3 nx) (ht : (pc : Int) + off = (tgt : Int))
    (kt : a = 0 → VV G x n1 n2 h tgt lv st) (kf : ¬ (a = 0) → VV G x n1 n2 h nx lv st) : VV G x n1 n2 h pc lv (.int a :: st) := by
  obtain ⟨p, l, e, R, s, m, args, below, meth, c, Q, n⟩ := x
  obtain ⟨d, rfl⟩ := d
  intro H locs ls hh hS hl
  exact lv_if_eq C.1 C.2.1 d ht (fun q => kt (by first | exact q | simpa using q) H locs ls hh hS hl) (fun q => kf (by first | exact q | simpa using q) H locs ls hh hS hl)
theorem r_if_ne (C : cxOk G own cc rm nL x) {off : Int} {tgt : Nat} {a : Int32} (d : dn cc pc (.ifCond .ne off) 3 nx) (ht : (pc : Int) + off = (tgt : Int))
    (kt : ¬ a = 0 → VV G x n1 n2 h tgt lv st) (kf : ¬ (¬ a = 0) → VV G x n1 n2 h nx lv st) : VV G x n1 n2 h pc lv (.int a :: st) := by
  obtain ⟨p, l, e, R, s, m, args, below, meth, c, Q, n⟩ := x
  obtain ⟨d, rfl⟩ := d
  intro H locs ls hh hS hl
  exact lv_if_ne C.1 C.2.1 d ht (fun q => kt (by first | exact q | simpa using q) H locs ls hh hS hl) (fun q => kf (by first | exact q | simpa using q) H locs ls hh hS hl)
theorem r_if_lt (C : cxOk G own cc rm nL x) {off : Int} {tgt : Nat} {a : Int32} (d : dn cc pc (.ifCond .lt off) 3 nx) (ht : (pc : Int) + off = (tgt : Int))
    (kt : a < 0 → VV G x n1 n2 h tgt lv st) (kf : ¬ (a < 0) → VV G x n1 n2 h nx lv st) : VV G x n1 n2 h pc lv (.int a :: st) := by
  obtain ⟨p, l, e, R, s, m, args, below, meth, c, Q, n⟩ := x
  obtain ⟨d, rfl⟩ := d
  intro H locs ls hh hS hl
  exact lv_if_lt C.1 C.2.1 d ht (fun q => kt (by first | exact q | simpa using q) H locs ls hh hS hl) (fun q => kf (by first | exact q | simpa using q) H locs ls hh hS hl)
theorem r_if_ge (C : cxOk G own cc rm nL x) {off : Int} {tgt : Nat} {a : Int32} (d : dn cc pc (.ifCond .ge off) 3 nx) (ht : (pc : Int) + off = (tgt : Int))
    (kt : 0 ≤ a → VV G x n1 n2 h tgt lv st) (kf : ¬ (0 ≤ a) → VV G x n1 n2 h nx lv st) : VV G x n1 n2 h pc lv (.int a :: st) := by
  obtain ⟨p, l, e, R, s, m, args, below, meth, c, Q, n⟩ := x
  obtain ⟨d, rfl⟩ := d
  intro H locs ls hh hS hl
  exact lv_if_ge C.1 C.2.1 d ht (fun q => kt (by first | exact q | simpa using q) H locs ls hh hS hl) (fun q => kf (by first | exact q | simpa using q) H locs ls hh hS hl)
theorem r_if_gt (C : cxOk G own cc rm nL x) {off : Int} {tgt : Nat} {a : Int32} (d : dn cc pc (.ifCond .gt off) 3 nx) (ht : (pc : Int) + off = (tgt : Int))
    (kt : 0 < a → VV G x n1 n2 h tgt lv st) (kf : ¬ (0 < a) → VV G x n1 n2 h nx lv st) : VV G x n1 n2 h pc lv (.int a :: st) := by
  obtain ⟨p, l, e, R, s, m, args, below, meth, c, Q, n⟩ := x
  obtain ⟨d, rfl⟩ := d
  intro H locs ls hh hS hl
  exact lv_if_gt C.1 C.2.1 d ht (fun q => kt (by first | exact q | simpa using q) H locs ls hh hS hl) (fun q => kf (by first | exact q | simpa using q) H locs ls hh hS hl)
theorem r_if_le (C : cxOk G own cc rm nL x) {off : Int} {tgt : Nat} {a : Int32} (d : dn cc pc (.ifCond .le off) 3 nx) (ht : (pc : Int) + off = (tgt : Int))
    (kt : a ≤ 0 → VV G x n1 n2 h tgt lv st) (kf : ¬ (a ≤ 0) → VV G x n1 n2 h nx lv st) : VV G x n1 n2 h pc lv (.int a :: st) := by
  obtain ⟨p, l, e, R, s, m, args, below, meth, c, Q, n⟩ := x
  obtain ⟨d, rfl⟩ := d
  intro H locs ls hh hS hl
  exact lv_if_le C.1 C.2.1 d ht (fun q => kt (by first | exact q | simpa using q) H locs ls hh hS hl) (fun q => kf (by first | exact q | simpa using q) H locs ls hh hS hl)
theorem r_icmp_eq (C : cxOk G own cc rm nL x) {off : Int} {tgt : Nat} {a b : Int32} (d : dn cc pc (.if_icmp .eq off) 3 nx) (ht : (pc : Int) + off = (tgt : Int))
    (kt : a = b → VV G x n1 n2 h tgt lv st) (kf : ¬ (a = b) → VV G x n1 n2 h nx lv st) : VV G x n1 n2 h pc lv (.int b :: .int a :: st) := by
  obtain ⟨p, l, e, R, s, m, args, below, meth, c, Q, n⟩ := x
  obtain ⟨d, rfl⟩ := d
  intro H locs ls hh hS hl
  exact lv_icmp_eq C.1 C.2.1 d ht (fun q => kt (by first | exact q | simpa using q) H locs ls hh hS hl) (fun q => kf (by first | exact q | simpa using q) H locs ls hh hS hl)
theorem r_icmp_ne (C : cxOk G own cc rm nL x) {off : Int} {tgt : Nat} {a b : Int32} (d : dn cc pc (.if_icmp .ne off) 3 nx) (ht : (pc : Int) + off = (tgt : Int))
    (kt : ¬ a = b → VV G x n1 n2 h tgt lv st) (kf : ¬ (¬ a = b) → VV G x n1 n2 h nx lv st) : VV G x n1 n2 h pc lv (.int b :: .int a :: st) := by
  obtain ⟨p, l, e, R, s, m, args, below, meth, c, Q, n⟩ := x
  obtain ⟨d, rfl⟩ := d
  intro H locs ls hh hS hl
  exact lv_icmp_ne C.1 C.2.1 d ht (fun q => kt (by first | exact q | simpa using q) H locs ls hh hS hl) (fun q => kf (by first | exact q | simpa using q) H locs ls hh hS hl)
theorem r_icmp_lt (C : cxOk G own cc rm nL x) {off : Int} {tgt : Nat} {a b : Int32} (d : dn cc pc (.if_icmp .lt off) 3 nx) (ht : (pc : Int) + off = (tgt : Int))
    (kt : a < b → VV G x n1 n2 h tgt lv st) (kf : ¬ (a < b) → VV G x n1 n2 h nx lv st) : VV G x n1 n2 h pc lv (.int b :: .int a :: st) := by
  obtain ⟨p, l, e, R, s, m, args, below, meth, c, Q, n⟩ := x
  obtain ⟨d, rfl⟩ := d
  intro H locs ls hh hS hl
  exact lv_icmp_lt C.1 C.2.1 d ht (fun q => kt (by first | exact q | simpa using q) H locs ls hh hS hl) (fun q => kf (by first | exact q | simpa using q) H locs ls hh hS hl)
theorem r_icmp_ge (C : cxOk G own cc rm nL x) {off : Int} {tgt : Nat} {a b : Int32} (d : dn cc pc (.if_icmp .ge off) 3 nx) (ht : (pc : Int) + off = (tgt : Int))
    (kt : b ≤ a → VV G x n1 n2 h tgt lv st) (kf : ¬ (b ≤ a) → VV G x n1 n2 h nx lv st) : VV G x n1 n2 h pc lv (.int b :: .int a :: st) := by
  obtain ⟨p, l, e, R, s, m, args, below, meth, c, Q, n⟩ := x
  obtain ⟨d, rfl⟩ := d
  intro H locs ls hh hS hl
  exact lv_icmp_ge C.1 C.2.1 d ht (fun q => kt (by first | exact q | simpa using q) H locs ls hh hS hl) (fun q => kf (by first | exact q | simpa using q) H locs ls hh hS hl)
theorem r_icmp_gt (C : cxOk G own cc rm nL x) {off : Int} {tgt : Nat} {a b : Int32} (d : dn cc pc (.if_icmp .gt off) 3 nx) (ht : (pc : Int) + off = (tgt : Int))
    (kt : b < a → VV G x n1 n2 h tgt lv st) (kf : ¬ (b < a) → VV G x n1 n2 h nx lv st) : VV G x n1 n2 h pc lv (.int b :: .int a :: st) := by
  obtain ⟨p, l, e, R, s, m, args, below, meth, c, Q, n⟩ := x
  obtain ⟨d, rfl⟩ := d
  intro H locs ls hh hS hl
  exact lv_icmp_gt C.1 C.2.1 d ht (fun q => kt (by first | exact q | simpa using q) H locs ls hh hS hl) (fun q => kf (by first | exact q | simpa using q) H locs ls hh hS hl)
theorem r_icmp_le (C : cxOk G own cc rm nL x) {off : Int} {tgt : Nat} {a b : Int32} (d : dn cc pc (.if_icmp .le off) 3 nx) (ht : (pc : Int) + off = (tgt : Int))
    (kt : a ≤ b → VV G x n1 n2 h tgt lv st) (kf : ¬ (a ≤ b) → VV G x n1 n2 h nx lv st) : VV G x n1 n2 h pc lv (.int b :: .int a :: st) := by
  obtain ⟨p, l, e, R, s, m, args, below, meth, c, Q, n⟩ := x
  obtain ⟨d, rfl⟩ := d
  intro H locs ls hh hS hl
  exact lv_icmp_le C.1 C.2.1 d ht (fun q => kt (by first | exact q | simpa using q) H locs ls hh hS hl) (fun q => kf (by first | exact q | simpa using q) H locs ls hh hS hl)
theorem r_goto (C : cxOk G own cc rm nL x) {off : Int} {tgt : Nat} (d : dn cc pc (.goto off) 3 nx) (ht : (pc : Int) + off = (tgt : Int))
    (kk : VV G x n1 n2 h tgt lv st) : VV G x n1 n2 h pc lv st := by
  obtain ⟨p, l, e, R, s, m, args, below, meth, c, Q, n⟩ := x
  obtain ⟨d, rfl⟩ := d
  intro H locs ls hh hS hl
  exact lv_goto C.1 C.2.1 d ht (kk H locs ls hh hS hl)
theorem r_widen {k1 k2 : Nat} (a1 : n1 ≤ k1) (a2 : n2 ≤ k2) (kk : VV G x k1 k2 h pc lv st) : VV G x n1 n2 h pc lv st := by
  obtain ⟨p, l, e, R, s, m, args, below, meth, c, Q, n⟩ := x
  intro H locs ls hh hS hl
  exact W.widen a1 a2 (kk H locs ls hh hS hl)
theorem r_sub {h' : hp} (hs : ∀ a e, h' a = some e → h a = some e) (kk : VV G x n1 n2 h' pc lv st) : VV G x n1 n2 h pc lv st := by
  obtain ⟨p, l, e, R, s, m, args, below, meth, c, Q, n⟩ := x
  intro H locs ls hh hS hl
  exact kk H locs ls (hh.sub hs) hS hl
/-- fewer locals, by their places -/
theorem r_lv {lv' : List (Nat × Value)} (ks : List Nat) (hl2 : lv_pick lv ks = lv') (kk : VV G x n1 n2 h pc lv' st) : VV G x n1 n2 h pc lv st := by
  obtain ⟨p, l, e, R, s, m, args, below, meth, c, Q, n⟩ := x
  intro H locs ls hh hS hl
  exact kk H locs ls hh hS (lv_sub hl ks hl2)
theorem r_tsIn (C : cxOk G own cc rm nL x) {dflt lo hi : Int} {offs : Array Int} {k tgt : Nat} {off : Int} {a : Int32} (d : dn cc pc (.tableswitch dflt lo hi offs) k nx) (h1 : ¬ a.toInt < lo) (h2 : ¬ hi < a.toInt) (ho : offs[(a.toInt - lo).toNat]? = some off) (ht : (pc : Int) + off = (tgt : Int))
    (kk : VV G x n1 n2 h tgt lv st) : VV G x n1 n2 h pc lv (.int a :: st) := by
  obtain ⟨p, l, e, R, s, m, args, below, meth, c, Q, n⟩ := x
  obtain ⟨d, rfl⟩ := d
  intro H locs ls hh hS hl
  exact lv_tableIn C.1 C.2.1 d h1 h2 ho ht (kk H locs ls hh hS hl)
theorem r_tsOut (C : cxOk G own cc rm nL x) {dflt lo hi : Int} {offs : Array Int} {k tgt : Nat} {a : Int32} (d : dn cc pc (.tableswitch dflt lo hi offs) k nx) (h1 : a.toInt < lo ∨ hi < a.toInt) (ht : (pc : Int) + dflt = (tgt : Int))
    (kk : VV G x n1 n2 h tgt lv st) : VV G x n1 n2 h pc lv (.int a :: st) := by
  obtain ⟨p, l, e, R, s, m, args, below, meth, c, Q, n⟩ := x
  obtain ⟨d, rfl⟩ := d
  intro H locs ls hh hS hl
  exact lv_tableOut C.1 C.2.1 d h1 ht (kk H locs ls hh hS hl)
/-! heap rows -/
theorem one_P {G : eG} {H : Heap} {q : Nat × va_E} (h : va_at G.1 vwCl q H) : va_P G.1 vwCl [q] H := by
  intro k q' hk
  have hz : k < 1 := (List.getElem?_eq_some_iff.mp hk).1
  rw [show k = 0 by omega] at hk
  cases hk
  exact h
def fdOk (own : String) (i ci k : Nat) : Prop := ∃ (C : String) (T : u_T) (N : Nat), vwCl[ci]? = some (C, T, N) ∧ k < N ∧ (∀ w ∈ u_ws C T N, w ∈ TB) ∧ Cond.fieldLink own i C (T k).2.1 (T k).2.2.1 ∈ TB ∧ (T k).1 = C
def pfOk (own : String) (i ci k : Nat) (ty : FieldType) (fin : Bool) : Prop := ∃ (C : String) (T : u_T) (N : Nat) (ty0 : Nat → FieldType), vwCl[ci]? = some (C, T, N) ∧ k < N ∧ (∀ w ∈ u_ws C T N, w ∈ TB) ∧ Cond.fieldLink own i C (T k).2.1 (T k).2.2.1 ∈ TB ∧ (T k).1 = C ∧ (∀ k, k < N → parseFieldDescriptor (T k).2.2.1 = some (ty0 k)) ∧ (∀ a, a < N → ∀ b, b < N → a ≠ b → (T a).2.1 ≠ (T b).2.1) ∧ (T k).2.2.2 = fin ∧ parseFieldDescriptor (T k).2.2.1 = some ty
theorem r_get (C : cxOk G own cc rm nL x) {i ci k a : Nat} {fs : List Value} {v : Value} (d : dn cc pc (.getfield i) 3 nx) (F : fdOk own i ci k) (he : h a = some (.inr (ci, fs))) (hv : fs[k]? = some v)
    (kk : VV G x n1 n2 h nx lv (v :: st)) : VV G x n1 n2 h pc lv (.ref a :: st) := by
  obtain ⟨p, l, e, R, s, m, args, below, meth, c, Q, n⟩ := x
  obtain ⟨d, rfl⟩ := d
  obtain ⟨C9, T, N, f1, f2, f3, f4, f5⟩ := F
  intro H locs ls hh hS hl
  exact va_get C.1 C.2.1 C.2.2.2.2.1 f3 C.2.2.2.1 C.2.2.2.2.2.1.1 (one_P (hh.2 _ _ he).2) 0 rfl f1 k f2 (C.2.2.2.2.1 _ f4) (fun y hy => by rw [f5] at hy; exact hy) hv d (kk H locs ls hh hS hl)
theorem r_put (C : cxOk G own cc rm nL x) {i ci k a : Nat} {fs fs' : List Value} {v : Value} {ty : FieldType} (d : dn cc pc (.putfield i) 3 nx) (F : pfOk own i ci k ty false) (he : h a = some (.inr (ci, fs))) (hn : narrow ty v = v) (hfit : fits ty v = true) (hlen : k < fs.length) (hfs : fs.set k v = fs')
    (kk : VV G x n1 n2 (hup h a (.inr (ci, fs'))) nx lv st) : VV G x n1 n2 h pc lv (v :: .ref a :: st) := by
  obtain ⟨p, l, e, R, s, m, args, below, meth, c, Q, n⟩ := x
  obtain ⟨d, rfl⟩ := d
  obtain ⟨C9, T, N, ty0, f1, f2, f3, f4, f5, f6, f7, f8, f9⟩ := F
  subst hfs
  intro H locs ls hh hS hl
  have hK := C.2.2.2.2.2.1.1
  have hap := va_apart (own := own) C.2.2.2.2.1 f3 ty0 f6 f7 hK f1
  obtain ⟨r, h1, cell, q1, q2, q3, q4⟩ := (hh.2 _ _ he).2
  have hr : r = (C9, T, N) := Option.some.inj (h1.symm.trans f1)
  subst hr
  obtain ⟨hSl, hfc, kC, hkC, hkind⟩ := hK.1 ci _ f1
  obtain ⟨cf, kf, fi, f, hi, hsl⟩ := hSl k f2
  have hlay := C.2.2.2.2.1 _ (f3 _ (u_in_lay f2))
  unfold u_lay at hlay
  rw [if_neg (by rw [f8]; decide)] at hlay
  have hst := (u_facts hfc hkC (u_lays C.2.2.2.2.1 f3 f2) hi).1
  have h6 := u_store hfc hkC hkind hlay hi f9 hn hfit
  have hi2 : s.fieldFound? C9 (T k).2.1 (T k).2.2.1 = some (cf, kf, fi, f) := by
    have hi3 := hi
    rw [show (T k).1 = C9 from f5] at hi3
    exact hi3
  refine W.putK C.1 C.2.1 (f := f) ⟨C.2.2.2.1, C.2.2.2.2.1 _ f4, ⟨_, _, _, hi2⟩, hst⟩ (by rw [q2]; exact h6) q1 q3 (by rw [hsl]; exact k2_hasslot (q4 k f2)) rfl rfl d fun H' e1 e2 e3 => ?_
  rw [hsl] at e1 ⊢
  exact kk H' _ ls (hh.put he e2 e3 ⟨_, f1, t_OB.to (V := updV (vp_V fs) k v) ⟨_, e1, q2, q3, t_set q4 hap f2 v⟩ (fun j _ => vp_updV_set hlen v j)⟩) (hS.put e2 e3 (hh.2 _ _ he).1) hl
def cxI : CX → Prop
  | (p, l, e, R, s, m, args, below, meth, c, Q, n) => meth.name = "<init>"
theorem r_putF (C : cxOk G own cc rm nL x) (CI : cxI x) {i ci k a : Nat} {fs fs' : List Value} {v : Value} {ty : FieldType} (d : dn cc pc (.putfield i) 3 nx) (F : pfOk own i ci k ty true) (hdecl : ∀ q, vwCl[ci]? = some q → q.1 = own) (he : h a = some (.inr (ci, fs))) (hn : narrow ty v = v) (hfit : fits ty v = true) (hlen : k < fs.length) (hfs : fs.set k v = fs')
    (kk : VV G x n1 n2 (hup h a (.inr (ci, fs'))) nx lv st) : VV G x n1 n2 h pc lv (v :: .ref a :: st) := by
  obtain ⟨p, l, e, R, s, m, args, below, meth, c, Q, n⟩ := x
  obtain ⟨d, rfl⟩ := d
  obtain ⟨C9, T, N, ty0, f1, f2, f3, f4, f5, f6, f7, f8, f9⟩ := F
  subst hfs
  intro H locs ls hh hS hl
  have hK := C.2.2.2.2.2.1.1
  have hap := va_apart (own := own) C.2.2.2.2.1 f3 ty0 f6 f7 hK f1
  obtain ⟨r, h1, cell, q1, q2, q3, q4⟩ := (hh.2 _ _ he).2
  have hr : r = (C9, T, N) := Option.some.inj (h1.symm.trans f1)
  subst hr
  obtain ⟨hSl, hfc, kC, hkC, hkind⟩ := hK.1 ci _ f1
  obtain ⟨cf, kf, fi, f, hi, hsl⟩ := hSl k f2
  have hlay := C.2.2.2.2.1 _ (f3 _ (u_in_lay f2))
  unfold u_lay at hlay
  rw [if_pos f8] at hlay
  have hst := (u_facts hfc hkC (u_lays C.2.2.2.2.1 f3 f2) hi).1
  have hown2 : C9 = own := hdecl _ f1
  have hcf : m.cls = cf := by
    obtain ⟨_, _, c', _, _, _, -, -, hf', -, -, -, hown3, -⟩ := Cond.laysFinal_spec hlay
    have e1 : c' = cf := by have := hi.symm.trans hf'; simp at this; exact this.1.symm
    rw [show (T k).1 = own from f5.trans hown2] at hown3
    rw [← e1]; exact Option.some.inj (C.2.2.2.1.symm.trans hown3)
  have h6 := u_fits hfc hkC hkind (Or.inr hlay) hi f9 hn hfit
  have hi2 : s.fieldFound? C9 (T k).2.1 (T k).2.2.1 = some (cf, kf, fi, f) := by
    have hi3 := hi
    rw [show (T k).1 = C9 from f5] at hi3
    exact hi3
  refine W.putFinK C.1 C.2.1 C.2.2.2.1 (C.2.2.2.2.1 _ f4) hi2 hst hcf CI (by rw [q2]; exact h6) q1 q3 (by rw [hsl]; exact k2_hasslot (q4 k f2)) rfl rfl d fun H' e1 e2 e3 => ?_
  rw [hsl] at e1 ⊢
  exact kk H' _ ls (hh.put he e2 e3 ⟨_, f1, t_OB.to (V := updV (vp_V fs) k v) ⟨_, e1, q2, q3, t_set q4 hap f2 v⟩ (fun j _ => vp_updV_set hlen v j)⟩) (hS.put e2 e3 (hh.2 _ _ he).1) hl
theorem r_alen (C : cxOk G own cc rm nL x) {a n t : Nat} {y : vp_A} {cA : ClassId} {ty : FieldType} (d : dn cc pc .arraylength 1 nx) (he : h a = some (.inl (cA, y))) (ht : (tyL G)[t]? = some (cA, ty)) (hn : y.1 = n)
    (kk : VV G x n1 n2 h nx lv (.int (nI n) :: st)) : VV G x n1 n2 h pc lv (.ref a :: st) := by
  obtain ⟨p, l, e, R, s, m, args, below, meth, c, Q, n'⟩ := x
  obtain ⟨d, rfl⟩ := d
  intro H locs ls hh hS hl
  exact va_alen C.1 C.2.1 C.2.2.2.2.2.1.1 (one_P (hh.2 _ _ he).2) 0 t rfl ht (by rw [hn]; rfl) d (kk H locs ls hh hS hl)
theorem ix_in {i n : Nat} (hi : i < n) (hn : n < 2147483648) : vp_in (nI i) n := vp_in_nI hi hn
theorem ix_cl {i n : Nat} (hi : i < n) (hn : n < 2147483648) : (nI i).toNatClampNeg = i := nI_clamp (Nat.lt_trans hi hn)
theorem r_iald (C : cxOk G own cc rm nL x) {a i n : Nat} {f : Nat → Int32} (d : dn cc pc .iaload 1 nx) (he : h a = some (aI G n f)) (hi : i < n) (hn : n < 2147483648)
    (kk : VV G x n1 n2 h nx lv (.int (f i) :: st)) : VV G x n1 n2 h pc lv (.int (nI i) :: .ref a :: st) := by
  obtain ⟨p, l, e, R, s, m, args, below, meth, c, Q, n'⟩ := x
  obtain ⟨d, rfl⟩ := d
  intro H locs ls hh hS hl
  refine va_iald C.1 C.2.1 C.2.2.2.2.2.1.1 (one_P (hh.2 _ _ he).2) 0 0 rfl rfl (ix_in hi hn) d ?_
  rw [ix_cl hi hn]
  exact kk H locs ls hh hS hl
theorem r_zald (C : cxOk G own cc rm nL x) {a i n : Nat} {f : Nat → Int32} (d : dn cc pc .baload 1 nx) (he : h a = some (aZ G n f)) (hi : i < n) (hn : n < 2147483648)
    (kk : VV G x n1 n2 h nx lv (.int (f i) :: st)) : VV G x n1 n2 h pc lv (.int (nI i) :: .ref a :: st) := by
  obtain ⟨p, l, e, R, s, m, args, below, meth, c, Q, n'⟩ := x
  obtain ⟨d, rfl⟩ := d
  intro H locs ls hh hS hl
  refine va_zald C.1 C.2.1 C.2.2.2.2.2.1.1 (one_P (hh.2 _ _ he).2) 0 2 rfl rfl (ix_in hi hn) d ?_
  rw [ix_cl hi hn]
  exact kk H locs ls hh hS hl
theorem r_lald (C : cxOk G own cc rm nL x) {a i n : Nat} {f : Nat → Int64} (d : dn cc pc .laload 1 nx) (he : h a = some (aJ G n f)) (hi : i < n) (hn : n < 2147483648)
    (kk : VV G x n1 n2 h nx lv (.long (f i) :: st)) : VV G x n1 n2 h pc lv (.int (nI i) :: .ref a :: st) := by
  obtain ⟨p, l, e, R, s, m, args, below, meth, c, Q, n'⟩ := x
  obtain ⟨d, rfl⟩ := d
  intro H locs ls hh hS hl
  refine va_lald C.1 C.2.1 C.2.2.2.2.2.1.1 (one_P (hh.2 _ _ he).2) 0 1 rfl rfl (ix_in hi hn) d ?_
  rw [ix_cl hi hn]
  exact kk H locs ls hh hS hl
theorem r_aald (C : cxOk G own cc rm nL x) {a i n t b : Nat} {cA : ClassId} {CN : String} {f : Nat → Option Nat} (d : dn cc pc .aaload 1 nx) (he : h a = some (.inl (cA, n, .inr (.inr (.inr (.inr f)))))) (ht : (tyL G)[t]? = some (cA, .object CN)) (hi : i < n) (hn : n < 2147483648) (hf : f i = some b)
    (kk : VV G x n1 n2 h nx lv (.ref b :: st)) : VV G x n1 n2 h pc lv (.int (nI i) :: .ref a :: st) := by
  obtain ⟨p, l, e, R, s, m, args, below, meth, c, Q, n'⟩ := x
  obtain ⟨d, rfl⟩ := d
  intro H locs ls hh hS hl
  refine va_aldq C.1 C.2.1 C.2.2.2.2.2.1.1 (one_P (hh.2 _ _ he).2) 0 t rfl ht (ix_in hi hn) d ?_
  rw [ix_cl hi hn, hf]
  exact kk H locs ls hh hS hl
theorem r_iast (C : cxOk G own cc rm nL x) {a i n : Nat} {v : Int32} {f : Nat → Int32} (d : dn cc pc .iastore 1 nx) (he : h a = some (aI G n f)) (hi : i < n) (hn : n < 2147483648)
    (kk : VV G x n1 n2 (hup h a (aI G n (upd f i v))) nx lv st) : VV G x n1 n2 h pc lv (.int v :: .int (nI i) :: .ref a :: st) := by
  obtain ⟨p, l, e, R, s, m, args, below, meth, c, Q, n'⟩ := x
  obtain ⟨d, rfl⟩ := d
  intro H locs ls hh hS hl
  have ht : (tyL G)[0]? = some (G.2.1 0, .int) := rfl
  refine W.iast C.1 C.2.1 (hh.2 _ _ he).2 ((C.2.2.2.2.2.1.1.2 0 _ ht).1 n (fun j => .int (f j))) (fun q => by cases q) (by show ¬ (nI i < 0 ∨ (arrV _ _ _).slots.size ≤ _); rw [arrV_size]; exact ix_in hi hn) rfl rfl d fun H1 e1 z oq => ?_
  refine kk H1 _ ls (hh.put he z oq ?_) (hS.put z oq (hh.2 _ _ he).1) hl
  show H1[a]? = some (vp_cell _ _)
  rw [e1, vp_cell_i, vp_cell_i, arrV_store, ix_cl hi hn]
  congr 2
  funext q
  by_cases hq : q = i
  · subst hq
    simp [updV, upd]
  · simp [updV, upd, hq]
theorem r_zast (C : cxOk G own cc rm nL x) {a i n : Nat} {v : Int32} {f : Nat → Int32} (d : dn cc pc .bastore 1 nx) (he : h a = some (aZ G n f)) (hi : i < n) (hn : n < 2147483648) (hv : narrow .boolean (.int v) = .int v)
    (kk : VV G x n1 n2 (hup h a (aZ G n (upd f i v))) nx lv st) : VV G x n1 n2 h pc lv (.int v :: .int (nI i) :: .ref a :: st) := by
  obtain ⟨p, l, e, R, s, m, args, below, meth, c, Q, n'⟩ := x
  obtain ⟨d, rfl⟩ := d
  intro H locs ls hh hS hl
  have ht : (tyL G)[2]? = some (G.2.1 2, .boolean) := rfl
  refine W.zast C.1 C.2.1 (hh.2 _ _ he).2 ((C.2.2.2.2.2.1.1.2 2 _ ht).1 n (fun j => .int (f j))) (fun q => by cases q) (by show ¬ (nI i < 0 ∨ (arrV _ _ _).slots.size ≤ _); rw [arrV_size]; exact ix_in hi hn) rfl rfl d fun H1 e1 z oq => ?_
  refine kk H1 _ ls (hh.put he z oq ?_) (hS.put z oq (hh.2 _ _ he).1) hl
  show H1[a]? = some (vp_cell _ _)
  rw [e1, vp_cell_i, vp_cell_i, hv, arrV_store, ix_cl hi hn]
  congr 2
  funext q
  by_cases hq : q = i
  · subst hq
    simp [updV, upd]
  · simp [updV, upd, hq]
theorem r_last (C : cxOk G own cc rm nL x) {a i n : Nat} {v : Int64} {f : Nat → Int64} (d : dn cc pc .lastore 1 nx) (he : h a = some (aJ G n f)) (hi : i < n) (hn : n < 2147483648)
    (kk : VV G x n1 n2 (hup h a (aJ G n (vp_updL f i v))) nx lv st) : VV G x n1 n2 h pc lv (.long v :: .int (nI i) :: .ref a :: st) := by
  obtain ⟨p, l, e, R, s, m, args, below, meth, c, Q, n'⟩ := x
  obtain ⟨d, rfl⟩ := d
  intro H locs ls hh hS hl
  have ht : (tyL G)[1]? = some (G.2.1 1, .long) := rfl
  refine W.last C.1 C.2.1 (hh.2 _ _ he).2 ((C.2.2.2.2.2.1.1.2 1 _ ht).1 n (fun j => .long (f j))) (fun q => by cases q) (by show ¬ (nI i < 0 ∨ (arrV _ _ _).slots.size ≤ _); rw [arrV_size]; exact ix_in hi hn) rfl rfl d fun H1 e1 z oq => ?_
  refine kk H1 _ ls (hh.put he z oq ?_) (hS.put z oq (hh.2 _ _ he).1) hl
  show H1[a]? = some (vp_cell _ _)
  rw [e1, vp_cell_l, vp_cell_l, arrV_store, ix_cl hi hn]
  congr 2
  funext q
  by_cases hq : q = i
  · subst hq
    simp [updV, vp_updL]
  · simp [updV, vp_updL, hq]
theorem r_aast (C : cxOk G own cc rm nL x) {a i n t b ci : Nat} {vs : List Value} {r : vw_C} {cA : ClassId} {f : Nat → Option Nat} (d : dn cc pc .aastore 1 nx) (he : h a = some (.inl (cA, n, .inr (.inr (.inr (.inr f)))))) (ht : (tyL G)[t]? = some (cA, .object r.1)) (hb : h b = some (.inr (ci, vs))) (hc : vwCl[ci]? = some r) (hi : i < n) (hn : n < 2147483648)
    (kk : VV G x n1 n2 (hup h a (.inl (cA, n, .inr (.inr (.inr (.inr (va_up f i (some b)))))))) nx lv st) : VV G x n1 n2 h pc lv (.ref b :: .int (nI i) :: .ref a :: st) := by
  obtain ⟨p, l, e, R, s, m, args, below, meth, c, Q, n'⟩ := x
  obtain ⟨d, rfl⟩ := d
  intro H locs ls hh hS hl
  have hK := C.2.2.2.2.2.1.1
  obtain ⟨r', hr', cellV, g1, g2, g3, -⟩ := (hh.2 _ _ hb).2
  have hcls := (hK.1 ci r hc).2
  obtain ⟨kA, comp, k1, k2, k3, -⟩ := (hK.2 t _ ht).2
  have hcomp : comp = G.1.1 ci := Option.some.inj (k3.symm.trans hcls.1)
  subst hcomp
  obtain ⟨kC, hkC, -⟩ := hcls.2
  have hin := ix_in hi hn
  refine W.aast C.1 C.2.1 (hh.2 _ _ he).2 (fun q h => by cases h) (fun h => by cases h) k1 k2 rfl hkC ⟨fun q => hin (Or.inl q), by show _ < (arrV _ _ _).slots.size; rw [arrV_size, ix_cl hi hn]; exact hi⟩ g1 (fun q h => by rw [g3] at h; cases h) (by rw [g2]; exact hkC) (by rw [g2]; exact va_assign hcls) rfl rfl d fun H1 e1 z oq => ?_
  refine kk H1 _ ls (hh.put he z oq ?_) (hS.put z oq (hh.2 _ _ he).1) hl
  show H1[a]? = some (vp_cell _ _)
  rw [e1, vp_cell_q, vp_cell_q, arrV_store, ix_cl hi hn]
  congr 2
  funext q
  by_cases hq : q = i
  · subst hq
    simp [updV, va_up, va_rf]
  · simp [updV, va_up, hq]
theorem r_aastN (C : cxOk G own cc rm nL x) {a i n t : Nat} {CN : String} {cA : ClassId} {f : Nat → Option Nat} (d : dn cc pc .aastore 1 nx) (he : h a = some (.inl (cA, n, .inr (.inr (.inr (.inr f)))))) (ht : (tyL G)[t]? = some (cA, .object CN)) (hi : i < n) (hn : n < 2147483648)
    (kk : VV G x n1 n2 (hup h a (.inl (cA, n, .inr (.inr (.inr (.inr (va_up f i none))))))) nx lv st) : VV G x n1 n2 h pc lv (.null :: .int (nI i) :: .ref a :: st) := by
  obtain ⟨p, l, e, R, s, m, args, below, meth, c, Q, n'⟩ := x
  obtain ⟨d, rfl⟩ := d
  intro H locs ls hh hS hl
  have hK := C.2.2.2.2.2.1.1
  refine va_WaastN (C := CN) C.1 C.2.1 (hh.2 _ _ he).2 ((hK.2 t _ ht).1 n (fun j => va_rf (f j))) (fun h => by cases h) (by show ¬ (nI i < 0 ∨ (arrV _ _ _).slots.size ≤ _); rw [arrV_size]; exact ix_in hi hn) rfl rfl d fun H1 e1 z oq => ?_
  refine kk H1 _ ls (hh.put he z oq ?_) (hS.put z oq (hh.2 _ _ he).1) hl
  show H1[a]? = some (vp_cell _ _)
  rw [e1, vp_cell_q, vp_cell_q, arrV_store, ix_cl hi hn]
  congr 2
  funext q
  by_cases hq : q = i
  · subst hq
    simp [updV, va_up, va_rf]
  · simp [updV, va_up, hq]
theorem r_newA (C : cxOk G own cc rm nL x) {atype : ArrayType} {n t : Nat} {a0 : Nat → va_E} {ty : FieldType} (d : dn cc pc (.newarray atype) 2 nx) (hw : Cond.arrayClass (newarray.typeOf atype) ∈ TB) (hty : newarray.typeOf atype = ty) (hob : ty ≠ .object "") (ht : (tyL G)[t]? = some (G.2.1 t, ty)) (hra : ∀ U cA, va_RA U cA ty → U.vm.findClass ("[" ++ ty.toString) = some cA)
    (ha : ∀ q H1, H1[q]? = some (arrV (G.2.1 t) n (fun _ => defaultValue ty)) → va_at G.1 vwCl (q, a0 q) H1) (hn : n < 2147483648) (hby : n * componentBytes ty ≤ 536870912) (hc1 : n1 + 1 ≤ rm.cells) (hc2 : n2 + n ≤ rm.slots)
    (kk : ∀ q, h q = none → eB G ≤ q → VV G x (n1 + 1) (n2 + n) (hup h q (a0 q)) nx lv (.ref q :: st)) : VV G x n1 n2 h pc lv (.int (nI n) :: st) := by
  obtain ⟨p, l, e, R, s, m, args, below, meth, c, Q, n'⟩ := x
  obtain ⟨d, rfl⟩ := d
  subst hty
  intro H locs ls hh hS hl
  obtain ⟨c1, c2, c3, c4, c5, c6, c7, c8, rfl, c10, c11⟩ := C
  have hpos : ¬ nI n < 0 := nI_pos hn
  refine va_newaK c1 c2 (c5 _ hw) rfl d rfl hpos (nI_clamp hn) hby hc1 hc2 rfl fun H1 cA e1 z1 o1 hAr hNm => ?_
  have hcA : cA = G.2.1 t := Option.some.inj (hNm.symm.trans (hra _ _ (c6.1.2 t _ ht).2))
  subst hcA
  refine kk H.size hh.fresh hh.1 H1 locs ls (hh.new z1 o1 (ha _ _ e1)) ⟨Nat.le_trans hS.1 (by omega), fun y y1 y2 => (o1 y (Nat.lt_of_lt_of_le y1 hS.1)).trans (hS.2.1 y y1 y2), hS.2.2⟩ hl
theorem r_newI (C : cxOk G own cc rm nL x) {n : Nat} (d : dn cc pc (.newarray .int) 2 nx) (hw : Cond.arrayClass .int ∈ TB) (hn : n < 134217728) (hc1 : n1 + 1 ≤ rm.cells) (hc2 : n2 + n ≤ rm.slots)
    (kk : ∀ q, h q = none → eB G ≤ q → VV G x (n1 + 1) (n2 + n) (hup h q (aI G n (fun _ => 0))) nx lv (.ref q :: st)) : VV G x n1 n2 h pc lv (.int (nI n) :: st) :=
  r_newA (t := 0) (a0 := fun _ => aI G n (fun _ => 0)) C d hw rfl (by decide) rfl (fun U cA q => q) (fun q H1 e => e) (by omega) (by show n * 4 ≤ _; omega) hc1 hc2 kk
theorem r_newJ (C : cxOk G own cc rm nL x) {n : Nat} (d : dn cc pc (.newarray .long) 2 nx) (hw : Cond.arrayClass .long ∈ TB) (hn : n < 67108864) (hc1 : n1 + 1 ≤ rm.cells) (hc2 : n2 + n ≤ rm.slots)
    (kk : ∀ q, h q = none → eB G ≤ q → VV G x (n1 + 1) (n2 + n) (hup h q (aJ G n (fun _ => 0))) nx lv (.ref q :: st)) : VV G x n1 n2 h pc lv (.int (nI n) :: st) :=
  r_newA (t := 1) (a0 := fun _ => aJ G n (fun _ => 0)) C d hw rfl (by decide) rfl (fun U cA q => q) (fun q H1 e => e) (by omega) (by show n * 8 ≤ _; omega) hc1 hc2 kk
theorem r_newZ (C : cxOk G own cc rm nL x) {n : Nat} (d : dn cc pc (.newarray .boolean) 2 nx) (hw : Cond.arrayClass .boolean ∈ TB) (hn : n < 134217728) (hc1 : n1 + 1 ≤ rm.cells) (hc2 : n2 + n ≤ rm.slots)
    (kk : ∀ q, h q = none → eB G ≤ q → VV G x (n1 + 1) (n2 + n) (hup h q (aZ G n (fun _ => 0))) nx lv (.ref q :: st)) : VV G x n1 n2 h pc lv (.int (nI n) :: st) :=
  r_newA (t := 2) (a0 := fun _ => aZ G n (fun _ => 0)) C d hw rfl (by decide) rfl (fun U cA q => q) (fun q H1 e => e) (by omega) (by show n * 1 ≤ _; omega) hc1 hc2 kk
theorem r_newR (C : cxOk G own cc rm nL x) {n i t : Nat} {CN : String} (d : dn cc pc (.anewarray i) 3 nx) (hw : Cond.classLink own i CN ∈ TB) (hao : ∀ U, gK G U → va_AO CN U) (ht : (tyL G)[t]? = some (G.2.1 t, .object CN)) (hn : n < 134217728) (hc1 : n1 + 1 ≤ rm.cells) (hc2 : n2 + n ≤ rm.slots)
    (kk : ∀ q, h q = none → eB G ≤ q → VV G x (n1 + 1) (n2 + n) (hup h q (aR G t n (fun _ => none))) nx lv (.ref q :: st)) : VV G x n1 n2 h pc lv (.int (nI n) :: st) := by
  obtain ⟨p, l, e, R, s, m, args, below, meth, c, Q, n'⟩ := x
  obtain ⟨d, rfl⟩ := d
  intro H locs ls hh hS hl
  obtain ⟨c1, c2, c3, c4, c5, c6, c7, c8, rfl, c10, c11⟩ := C
  have hcl : (nI n).toNatClampNeg = n := nI_clamp (by omega)
  refine W.anew c1 c2 c4 (c5 _ hw) (va_AO.use (hao _ c6)) rfl d rfl (nI_pos (by omega)) (by rw [hcl]; omega) hc1 (by rw [hcl]; exact hc2) fun cA kA comp f1 f2 f3 f4 => ?_
  rw [hcl]
  generalize hH1 : H.push ({ cls := cA, slots := Array.replicate n .null, vm := .none } : Cell) = H1
  have z1 : H1.size = H.size + 1 := by rw [← hH1, Array.size_push]
  have e1 : H1[H.size]? = some (arrV cA n (fun _ => .null)) := by rw [← hH1, Array.getElem?_push_size, ← arrV_new]
  have o1 : ∀ q : Nat, q < H.size → H1[q]? = H[q]? := fun q hq => by rw [← hH1, Array.getElem?_push, if_neg (Nat.ne_of_lt hq)]
  obtain ⟨-, kA', comp', g1, g2, g3, g4⟩ := c6.1.2 t _ ht
  have hcA : cA = G.2.1 t := Option.some.inj (f1.symm.trans g4)
  subst hcA
  refine kk H.size hh.fresh hh.1 H1 locs ls (hh.new z1 o1 ?_) ⟨Nat.le_trans hS.1 (by omega), fun y y1 y2 => (o1 y (Nat.lt_of_lt_of_le y1 hS.1)).trans (hS.2.1 y y1 y2), hS.2.2⟩ hl
  show H1[H.size]? = some (vp_cell _ _)
  rw [vp_cell_q]
  exact e1
def nwOk (own : String) (i ci : Nat) (fs : List Value) (N : Nat) : Prop := ∃ (C : String) (T : u_T) (ty : Nat → FieldType), vwCl[ci]? = some (C, T, N) ∧ (∀ w ∈ u_ws C T N, w ∈ TB) ∧ (∀ k, k < N → parseFieldDescriptor (T k).2.2.1 = some (ty k)) ∧ Cond.classLink own i C ∈ TB ∧ Cond.instantiable C N ∈ TB ∧ Cond.initialized C ∈ TB ∧ (∀ j, j < N → defaultValue (ty j) = vp_V fs j)
theorem r_new (C : cxOk G own cc rm nL x) {i ci N : Nat} {fs : List Value} (d : dn cc pc (.new i) 3 nx) (F : nwOk own i ci fs N) (hc1 : n1 + 1 ≤ rm.cells) (hc2 : n2 + N ≤ rm.slots)
    (kk : ∀ q, h q = none → eB G ≤ q → VV G x (n1 + 1) (n2 + N) (hup h q (.inr (ci, fs))) nx lv (.ref q :: st)) : VV G x n1 n2 h pc lv st := by
  obtain ⟨p, l, e, R, s, m, args, below, meth, c, Q, n'⟩ := x
  obtain ⟨d, rfl⟩ := d
  obtain ⟨CN, T, ty, f1, f2, f3, f4, f5, f6, f7⟩ := F
  intro H locs ls hh hS hl
  obtain ⟨c1, c2, c3, c4, c5, c6, c7, c8, rfl, c10, c11⟩ := C
  have hKn := c6.1.1 ci _ f1
  refine W.newcK c1 c2 c4 (c5 _ f4) (c5 _ f5) (c5 _ f6) rfl d hc1 hc2 hKn.2.1 rfl fun H1 kC hkC e1 z1 o1 => ?_
  exact kk H.size hh.fresh hh.1 H1 locs ls (hh.new z1 o1 ⟨_, f1, (u_born ty c5 f2 hKn hkC e1 f3).to f7⟩) ⟨Nat.le_trans hS.1 (by omega), fun y y1 y2 => (o1 y (Nat.lt_of_lt_of_le y1 hS.1)).trans (hS.2.1 y y1 y2), hS.2.2⟩ hl
theorem r_obj (C : cxOk G own cc rm nL x) {i a : Nat} (d : dn cc pc (.invokespecial i) 3 nx) (hw : Cond.methodLink own i objectInit ∈ TB) (hw2 : Cond.instanceMethod objectInit ∈ TB) (hw3 : Cond.code objectInit ⟨#[0xb1]⟩ 1 none ∈ TB) (hf : 1 ≤ rm.frames) (hlo : (st.map fun v => v.category).sum + 12 ≤ rm.locals)
    (kk : VV G x n1 n2 h nx lv st) : VV G x n1 n2 h pc lv (.ref a :: st) := by
  obtain ⟨p, l, e, R, s, m, args, below, meth, c, Q, n'⟩ := x
  obtain ⟨d, rfl⟩ := d
  intro H locs ls hh hS hl
  obtain ⟨c1, c2, c3, c4, c5, c6, c7, c8, rfl, rfl, c11⟩ := C
  exact W.objInit c1 c2 c4 (c5 _ hw) (c5 _ hw2) (c5 _ hw3) rfl (hl.1.trans c3.symm) rfl d hf (by show 2 * 0 + _ + 12 ≤ _; omega) (kk H locs ls hh hS hl)
end ROWS
end
section
/-! contracts, calls, answers, throws -/
def QcG (G : eG) (post : Option Value → hp → Prop) : Array Value → State → Outcome → State → Prop := fun _ st oc t => (∃ (v : Option Value) (h' : hp), oc = .returned v ∧ post v h' ∧ hH G h' t.heap) ∧ va_F (eA G) st t
def XcG (G : eG) (xp : String → hp → Prop) : String → State → State → Prop := fun E st t => (∃ h' : hp, xp E h' ∧ hH G h' t.heap) ∧ va_F (eA G) st t
def wsy (y : MethodName) (b : ByteArray) (nL : Nat) (ret : Option FieldType) : List Cond := .code y b nL ret :: TB
def wsh (y : MethodName) (b : ByteArray) (nL : Nat) (ret : Option FieldType) (hh : List (Nat × Nat × Nat × Nat)) : List Cond := .codeWith y b nL ret hh :: TB
theorem tb_wsy {y : MethodName} {b : ByteArray} {nL : Nat} {ret : Option FieldType} (hc : Cond.code y b nL ret ∈ TB) : GoodIn TB (wsy y b nL ret) := by
  intro w hw
  have hm : w ∈ TB := by
    rcases List.mem_cons.mp hw with h | h
    · rw [h]; exact hc
    · exact h
  exact ⟨hm, good_of_word (tb_good hm)⟩
theorem tb_wsh {y : MethodName} {b : ByteArray} {nL : Nat} {ret : Option FieldType} {hh : List (Nat × Nat × Nat × Nat)} (hc : Cond.codeWith y b nL ret hh ∈ TB) : GoodIn TB (wsh y b nL ret hh) := by
  intro w hw
  have hm : w ∈ TB := by
    rcases List.mem_cons.mp hw with h | h
    · rw [h]; exact hc
    · exact h
  exact ⟨hm, good_of_word (tb_good hm)⟩
/-- a method that returns -/
def MC (l : Launch) (G : eG) (y : MethodName) (b : ByteArray) (nL : Nat) (ret : Option FieldType) (rm : Room) (av : List Value) (h : hp) (post : Option Value → hp → Prop) : Prop :=
  Met l y (wsy y b nL ret) rm (va_Pc av (PW G h)) (QcG G post) rm.cells rm.slots (eA G)
/-- a method that returns or throws -/
def MX (l : Launch) (G : eG) (y : MethodName) (b : ByteArray) (nL : Nat) (ret : Option FieldType) (rm : Room) (av : List Value) (h : hp) (post : Option Value → hp → Prop) (xp : String → hp → Prop) : Prop :=
  vx_Met l y (wsy y b nL ret) rm (va_Pc av (PW G h)) (QcG G post) (XcG G xp) rm.cells rm.slots (eA G)
/-- the same of a method with a table of handlers -/
def MH (l : Launch) (G : eG) (y : MethodName) (b : ByteArray) (nL : Nat) (ret : Option FieldType) (hd : List (Nat × Nat × Nat × Nat)) (rm : Room) (av : List Value) (h : hp) (post : Option Value → hp → Prop) : Prop :=
  vx_Met l y (wsh y b nL ret hd) rm (va_Pc av (PW G h)) (QcG G post) (XcG G (fun _ _ => False)) rm.cells rm.slots (eA G)
/-- the answer's duty: a body may end so -/
def cxR (G : eG) (post : Option Value → hp → Prop) (mc ms : Nat) : CX → Prop
  | (p, l, e, R, s, m, args, below, meth, c, Q, n) => ∀ (H : Heap) (locs : List Loc) (g : JFrame), W p l e R s m args below meth c H locs mc ms (MQ below (QcG G post) args s mc ms (eA G)) g → W p l e R s m args below meth c H locs mc ms Q g
def cxT (ret : Option FieldType) : CX → Prop
  | (p, l, e, R, s, m, args, below, meth, c, Q, n) => meth.sig.returnType = ret
/-- a body that may throw -/
def cxX (G : eG) (post : Option Value → hp → Prop) (xp : String → hp → Prop) (mc ms : Nat) : CX → Prop
  | (p, l, e, R, s, m, args, below, meth, c, Q, n) => Q = vx_MQ below (QcG G post) (XcG G xp) args s mc ms (eA G) ∧ (∀ z ∈ c.exceptionTable.toList, False) ∧ l.stackTraces = false
/-- a body with handlers -/
def cxH (hd : List (Nat × Nat × Nat × Nat)) : CX → Prop
  | (p, l, e, R, s, m, args, below, meth, c, Q, n) => c.exceptionTable.toList = tableOf hd
theorem vaF_of {G : eG} {s t : State} {H : Heap} {locs : List Loc} (hS : va_S (eA G) s.heap H locs) (ht : t.heap = H) : va_F (eA G) s t := hS.F ht
section RET
variable {G : eG} {x : CX} {n1 n2 mc ms : Nat} {h : hp} {pc nx : Nat} {lv : List (Nat × Value)} {st : List Value} {own : String} {cc : ByteArray} {rm : Room} {nL : Nat} {post : Option Value → hp → Prop} {xp : String → hp → Prop}
theorem r_iret (C : cxOk G own cc rm nL x) (A : cxR G post mc ms x) {ty : FieldType} (T : cxT (some ty) x) {v : Int32} (d : dn cc pc .ireturn 1 nx) (hn : narrow ty (.int v) = .int v) (h1 : n1 ≤ mc) (h2 : n2 ≤ ms) (hq : post (some (.int v)) h) : VV G x n1 n2 h pc lv [.int v] := by
  obtain ⟨p, l, e, R, s, m, args, below, meth, c, Q, n⟩ := x
  intro H locs ls hh hS hl
  obtain ⟨c1, c2, c3, c4, c5, c6, c7, c8, c9, c10, c11⟩ := C
  refine W.widen h1 h2 (A H locs _ ?_)
  exact W.zret c1 c2 T hn (fun t ht hW => ⟨⟨_, h, rfl, hq, by rw [ht]; exact hh⟩, hS.F ht⟩) (fun q hq => hS.2.2 q hq) d.1 c8
theorem r_lret (C : cxOk G own cc rm nL x) (A : cxR G post mc ms x) (T : cxT (some .long) x) {v : Int64} (d : dn cc pc .lreturn 1 nx) (h1 : n1 ≤ mc) (h2 : n2 ≤ ms) (hq : post (some (.long v)) h) : VV G x n1 n2 h pc lv [.long v] := by
  obtain ⟨p, l, e, R, s, m, args, below, meth, c, Q, n⟩ := x
  intro H locs ls hh hS hl
  obtain ⟨c1, c2, c3, c4, c5, c6, c7, c8, c9, c10, c11⟩ := C
  refine W.widen h1 h2 (A H locs _ ?_)
  exact W.lret c1 c2 T (fun t ht hW => ⟨⟨_, h, rfl, hq, by rw [ht]; exact hh⟩, hS.F ht⟩) (fun q hq => hS.2.2 q hq) d.1 c8
theorem r_vret (C : cxOk G own cc rm nL x) (A : cxR G post mc ms x) (T : cxT none x) (d : dn cc pc .return_ 1 nx) (h1 : n1 ≤ mc) (h2 : n2 ≤ ms) (hq : post none h) : VV G x n1 n2 h pc lv [] := by
  obtain ⟨p, l, e, R, s, m, args, below, meth, c, Q, n⟩ := x
  intro H locs ls hh hS hl
  obtain ⟨c1, c2, c3, c4, c5, c6, c7, c8, c9, c10, c11⟩ := C
  refine W.widen h1 h2 (A H locs _ ?_)
  exact W.vret c1 c2 T (fun t ht hW => ⟨⟨_, h, rfl, hq, by rw [ht]; exact hh⟩, hS.F ht⟩) (fun q hq => hS.2.2 q hq) d.1 c8
theorem r_aret (C : cxOk G own cc rm nL x) (A : cxR G post mc ms x) {CN : String} (T : cxT (some (.object CN)) x) {a : Nat} (d : dn cc pc .areturn 1 nx) (h1 : n1 ≤ mc) (h2 : n2 ≤ ms) (hq : post (some (.ref a)) h) : VV G x n1 n2 h pc lv [.ref a] := by
  obtain ⟨p, l, e, R, s, m, args, below, meth, c, Q, n⟩ := x
  intro H locs ls hh hS hl
  obtain ⟨c1, c2, c3, c4, c5, c6, c7, c8, c9, c10, c11⟩ := C
  refine W.widen h1 h2 (A H locs _ ?_)
  exact W.aret c1 c2 T (Or.inl ⟨_, rfl⟩) (Or.inr ⟨_, rfl⟩) (fun t ht hW => ⟨⟨_, h, rfl, hq, by rw [ht]; exact hh⟩, hS.F ht⟩) (fun q hq => hS.2.2 q hq) d.1 c8
end RET
/-! the entry -/
theorem MC.of {l : Launch} {G : eG} {y : MethodName} {b : ByteArray} {nL : Nat} {ret : Option FieldType} {rm : Room} {av : List Value} {h : hp} {post : Option Value → hp → Prop} (hy : plainName y.cls = true) (hlen : (lg_sl av).length ≤ nL)
    (body : ∀ x, cxOk G y.cls b rm nL x → cxR G post rm.cells rm.slots x → cxT ret x → (y.name = "<init>" → cxI x) → VV G x 0 0 h 0 (lv_args 0 av) []) : MC l G y b nL ret rm av h post := by
  refine Met.ofW (cc := b) (maxL := nL) (ret := ret) hy rfl ?_
  intro p e s m args below meth c s₁ B hml hv
  obtain ⟨rfl, hH0, hK0, hZ0⟩ := hv
  have hts := atoms_spec (ws := wsy y b nL ret) B.pre
  have hown : s.vm.findClass y.cls = some m.cls := findClass_of_methodNamed B.named
  have hin : meth.name = y.name := (name_of_methodNamed B.named B.method).1
  rw [lg_entry_eq]
  exact body (p, l, e, _, s, m, av.toArray, below, meth, c, _, nL) ⟨B.exec, B.bytes, hml, hown, fun w hw => hts w (List.mem_cons_of_mem _ hw), hK0, hZ0, B.notSynchronized, rfl, rfl, hH0.1⟩ (fun H locs g k => k) B.returns (fun q => hin.trans q) s.heap [] _ hH0 va_S.rf (lv_entry av hlen)
theorem MX.of {l : Launch} {G : eG} {y : MethodName} {b : ByteArray} {nL : Nat} {ret : Option FieldType} {rm : Room} {av : List Value} {h : hp} {post : Option Value → hp → Prop} {xp : String → hp → Prop} (hlf : l.stackTraces = false) (hy : plainName y.cls = true) (hlen : (lg_sl av).length ≤ nL)
    (body : ∀ x, cxOk G y.cls b rm nL x → cxR G post rm.cells rm.slots x → cxT ret x → cxX G post xp rm.cells rm.slots x → VV G x 0 0 h 0 (lv_args 0 av) []) : MX l G y b nL ret rm av h post xp := by
  refine vx_ofW (cc := b) (maxL := nL) (ret := ret) hy rfl ?_
  intro p e s m args below meth c s₁ B hml htab hv
  obtain ⟨rfl, hH0, hK0, hZ0⟩ := hv
  have hts := atoms_spec (ws := wsy y b nL ret) B.pre
  have hown : s.vm.findClass y.cls = some m.cls := findClass_of_methodNamed B.named
  rw [lg_entry_eq]
  exact body (p, l, e, _, s, m, av.toArray, below, meth, c, _, nL) ⟨B.exec, B.bytes, hml, hown, fun w hw => hts w (List.mem_cons_of_mem _ hw), hK0, hZ0, B.notSynchronized, rfl, rfl, hH0.1⟩ (fun H locs g k => vx_ret k) B.returns ⟨rfl, htab, hlf⟩ s.heap [] _ hH0 va_S.rf (lv_entry av hlen)
theorem MH.of {l : Launch} {G : eG} {y : MethodName} {b : ByteArray} {nL : Nat} {ret : Option FieldType} {hd : List (Nat × Nat × Nat × Nat)} {rm : Room} {av : List Value} {h : hp} {post : Option Value → hp → Prop} (hy : plainName y.cls = true) (hlen : (lg_sl av).length ≤ nL)
    (body : ∀ x, cxOk G y.cls b rm nL x → cxR G post rm.cells rm.slots x → cxT ret x → cxH hd x → VV G x 0 0 h 0 (lv_args 0 av) []) : MH l G y b nL ret hd rm av h post := by
  refine vx_ofWH (cc := b) (maxL := nL) (ret := ret) (hh := hd) hy rfl ?_
  intro p e s m args below meth c s₁ B hml hv
  obtain ⟨rfl, hH0, hK0, hZ0⟩ := hv
  have hts := atoms_spec (ws := wsh y b nL ret hd) B.pre
  have hown : s.vm.findClass y.cls = some m.cls := findClass_of_methodNamed B.named
  have htab := vx_table (x := y) B (hts (.codeWith y b nL ret hd) List.mem_cons_self)
  rw [lg_entry_eq]
  exact body (p, l, e, _, s, m, av.toArray, below, meth, c, _, nL) ⟨B.exec, B.bytes, hml, hown, fun w hw => hts w (List.mem_cons_of_mem _ hw), hK0, hZ0, B.notSynchronized, rfl, rfl, hH0.1⟩ (fun H locs g k => vx_ret k) B.returns htab s.heap [] _ hH0 va_S.rf (lv_entry av hlen)
/-! calls -/
def okV (own : String) (i : Nat) (y : MethodName) (b : ByteArray) (nL : Nat) (ret : Option FieldType) (n : Nat) : Prop := Cond.methodLink own i y ∈ TB ∧ Cond.instanceMethod y ∈ TB ∧ Cond.selects y.cls y y ∈ TB ∧ Cond.initialized y.cls ∈ TB ∧ Cond.code y b nL ret ∈ TB ∧ (y.cls ≠ "java/lang/invoke/MethodHandle" ∧ y.cls ≠ "java/lang/invoke/VarHandle" ∧ (parseMethodDescriptor y.desc).map (fun d => d.parameters.length) = some n)
def okS (own : String) (i : Nat) (y : MethodName) (b : ByteArray) (nL : Nat) (ret : Option FieldType) (n : Nat) : Prop := Cond.methodLink own i y ∈ TB ∧ Cond.static y ∈ TB ∧ Cond.initialized y.cls ∈ TB ∧ Cond.code y b nL ret ∈ TB ∧ (y.cls ≠ "java/lang/invoke/MethodHandle" ∧ y.cls ≠ "java/lang/invoke/VarHandle" ∧ (parseMethodDescriptor y.desc).map (fun d => d.parameters.length) = some n)
def okI (own : String) (i : Nat) (y : MethodName) (b : ByteArray) (nL : Nat) (n : Nat) : Prop := Cond.methodLink own i y ∈ TB ∧ Cond.instanceMethod y ∈ TB ∧ y.name = "<init>" ∧ Cond.initialized y.cls ∈ TB ∧ Cond.code y b nL none ∈ TB ∧ (y.cls ≠ "java/lang/invoke/MethodHandle" ∧ y.cls ≠ "java/lang/invoke/VarHandle" ∧ (parseMethodDescriptor y.desc).map (fun d => d.parameters.length) = some n)
def okN (own : String) (i : Nat) (y : MethodName) (b : ByteArray) (nL : Nat) (n : Nat) : Prop := (∀ (G : eG) (U : State), gK G U → va_Nw (.methodLinkNest own i y own) U) ∧ Cond.instanceMethod y ∈ TB ∧ y.name = "<init>" ∧ Cond.initialized y.cls ∈ TB ∧ Cond.code y b nL none ∈ TB ∧ (y.cls ≠ "java/lang/invoke/MethodHandle" ∧ y.cls ≠ "java/lang/invoke/VarHandle" ∧ (parseMethodDescriptor y.desc).map (fun d => d.parameters.length) = some n)
def okSH (own : String) (i : Nat) (y : MethodName) (b : ByteArray) (nL : Nat) (ret : Option FieldType) (hd : List (Nat × Nat × Nat × Nat)) (n : Nat) : Prop := Cond.methodLink own i y ∈ TB ∧ Cond.static y ∈ TB ∧ Cond.initialized y.cls ∈ TB ∧ Cond.codeWith y b nL ret hd ∈ TB ∧ (y.cls ≠ "java/lang/invoke/MethodHandle" ∧ y.cls ≠ "java/lang/invoke/VarHandle" ∧ (parseMethodDescriptor y.desc).map (fun d => d.parameters.length) = some n)
theorem vaPc_blind {G : eG} {h : hp} {av : List Value} : FrameBlind (va_Pc av (PW G h)) := fun a U g mk q => ⟨q.1, q.2.calling⟩
section CALLS
variable {p : Program} {l : Launch} {e : Env} {R : Room} {s : State} {m : MethodId} {args : Array Value} {below : List Frame} {meth : Method} {c : Code} {H : Heap} {locs : List Loc} {cells slots : Nat} {Q : State → Prop} {G : eG}
theorem PW.now {h : hp} {U : State} (hh : hH G h H) (hK : gK G s) (hZ : gZ G s s.heap) (hS : va_S (eA G) s.heap H locs) (hU : U.heap = H) (hW : s.WarmedH U.vm) : PW G h U := by
  refine ⟨by rw [hU]; exact hh, gK.warm hW hK, ?_, ?_⟩
  · rw [hU]; exact vx_Zq.moved hW.alike (hZ.1.kept hS.2.1)
  · rw [hU]; exact vx_Zq.moved hW.alike (hZ.2.kept hS.2.1)
theorem rc_of {h : hp} {a ci : Nat} {fs : List Value} {r : vw_C} (hh : hH G h H) (hK : gK G s) (he : h a = some (.inr (ci, fs))) (hc : vwCl[ci]? = some r) : ∃ cell : Cell, H[a]? = some cell ∧ cell.vm.isStatics = false ∧ s.vm.findClass r.1 = some cell.cls := by
  obtain ⟨q', h1, cell, g1, g2, g3, -⟩ := (hh.2 _ _ he).2
  exact ⟨cell, g1, by rw [g3]; rfl, by rw [g2]; exact (hK.1.1 ci r hc).2.1⟩
theorem after_S {H1 : Heap} {L : List Loc} {st₀ t : State} (h0 : st₀.heap = H) (e1 : H1 = t.heap) (hS : va_S (eA G) s.heap H locs) (hB : eB G ≤ s.heap.size) (hL : ∀ q ∈ L, eA G q.base) (hF : va_F (eA G) st₀ t) : va_S (eA G) s.heap H1 (locs ++ L) := by
  obtain ⟨hz, hk⟩ := hF
  rw [h0] at hz hk
  refine ⟨Nat.le_trans hS.1 (by rw [e1]; exact hz), fun q y1 y2 => ?_, fun q hq => ?_⟩
  · rw [e1, hk q (Nat.lt_of_lt_of_le y1 hS.1) y2]
    exact hS.2.1 q y1 y2
  · rcases List.mem_append.mp hq with y | y
    · exact hS.2.2 q y
    · exact hL q y
theorem after_call {mc ms : Nat} {pc : Nat} {ls : Array Slot} {st0 rest : List Value} {a : Array Value} {post : Option Value → hp → Prop} (hr : va_Run p l e R s m args below meth c H locs cells slots mc ms (F0 m pc ls st0) rest (QcG G post a) (eA G)) (hS : va_S (eA G) s.heap H locs) (hB : eB G ≤ s.heap.size)
    (kk : ∀ (v : Option Value) (h' : hp) (H1 : Heap) (locs1 : List Loc), post v h' → hH G h' H1 → va_S (eA G) s.heap H1 locs1 → W p l e R s m args below meth c H1 locs1 (cells + mc) (slots + ms) Q (F0 m (pc + 3) ls (v.toList ++ rest))) : W p l e R s m args below meth c H locs cells slots Q (F0 m pc ls st0) := by
  intro T hT X
  obtain ⟨v, st₀, t, T', L, h0, X', hL, e1, e2, ⟨⟨v', h', hv, hp', hh'⟩, hF⟩, st⟩ := hr T hT X
  cases hv
  obtain ⟨t2, a1, b1⟩ := kk v h' T'.heap (locs ++ L) hp' (by rw [e1]; exact hh') (after_S h0 e1 hS hB hL hF) T' rfl X'
  exact ⟨t2, st t2 a1, b1⟩
theorem after_callX {mc ms : Nat} {pc : Nat} {ls : Array Slot} {st0 rest : List Value} {a : Array Value} {post : Option Value → hp → Prop} {xp : String → hp → Prop} (hr : vx_Run p l e R s m args below meth c H locs cells slots mc ms (F0 m pc ls st0) rest (QcG G post a) (XcG G xp) (eA G)) (hS : va_S (eA G) s.heap H locs) (hB : eB G ≤ s.heap.size)
    (kx : ∀ (E : String) (ce : Cell) (q9 : Addr) (h' : hp) (H1 : Heap) (locs1 : List Loc), xp E h' → hH G h' H1 → va_S (eA G) s.heap H1 locs1 → H1[q9]? = some ce → ce.vm = .none → s.vm.findClass E = some ce.cls → vx_W p l e R s m args below meth c H1 locs1 (cells + mc) (slots + ms) Q (F0 m pc ls rest) q9)
    (kk : ∀ (v : Option Value) (h' : hp) (H1 : Heap) (locs1 : List Loc), post v h' → hH G h' H1 → va_S (eA G) s.heap H1 locs1 → W p l e R s m args below meth c H1 locs1 (cells + mc) (slots + ms) Q (F0 m (pc + 3) ls (v.toList ++ rest))) : W p l e R s m args below meth c H locs cells slots Q (F0 m pc ls st0) := by
  intro T hT X
  rcases hr T hT X with ⟨v, st₀, t, T', L, h0, X', hL, e1, e2, ⟨⟨v', h', hv, hp', hh'⟩, hF⟩, st⟩ | ⟨q, st₀, t, T', L, E, ce, h0, X', hL, e1, e2, ⟨⟨h', hp', hh'⟩, hF⟩, hce, hcv, hcl, st⟩
  · cases hv
    obtain ⟨t2, a1, b1⟩ := kk v h' T'.heap (locs ++ L) hp' (by rw [e1]; exact hh') (after_S h0 e1 hS hB hL hF) T' rfl X'
    exact ⟨t2, st t2 a1, b1⟩
  · obtain ⟨t2, a1, b1⟩ := kx E ce q h' T'.heap (locs ++ L) hp' (by rw [e1]; exact hh') (after_S h0 e1 hS hB hL hF) (by rw [e1]; exact hce) hcv hcl T' rfl X'
    exact ⟨t2, st.trans a1, b1⟩
end CALLS
def cxL (l : Launch) : CX → Prop
  | (p, l', e, R, s, m, args, below, meth, c, Q, n) => l' = l
/-- the room of a callee within its caller's -/
def rmIn (rm R : Room) (nL n1 n2 : Nat) : Prop := (rm.frames + 1 ≤ R.frames ∧ 8 + (nL + 11) + rm.locals ≤ R.locals) ∧ n1 + rm.cells ≤ R.cells ∧ n2 + rm.slots ≤ R.slots
section CROWS
variable {G : eG} {x : CX} {n1 n2 : Nat} {h : hp} {pc nx : Nat} {lv : List (Nat × Value)} {rest st : List Value} {own : String} {cc : ByteArray} {R0 rm : Room} {n0 nL : Nat} {post : Option Value → hp → Prop} {xp : String → hp → Prop} {i a ci n : Nat} {As : List Value} {y : MethodName} {b : ByteArray} {ret : Option FieldType}
theorem r_callV (C : cxOk G own cc R0 n0 x) (d : dn cc pc (.invokevirtual i) 3 nx) (F : okV own i y b nL ret n) (hM : ∀ l, cxL l x → MC l G y b nL ret rm (.ref a :: As) h post) {fs : List Value} {r : vw_C} (he : h a = some (.inr (ci, fs))) (hc : vwCl[ci]? = some r) (hcy : r.1 = y.cls) (hn : As.length = n) (hst : st = As.reverse ++ .ref a :: rest) (hcat : (rest.map fun v => v.category).sum ≤ 8) (hR : rmIn rm R0 nL n1 n2)
    (kk : ∀ v h', post v h' → VV G x (n1 + rm.cells) (n2 + rm.slots) h' nx lv (v.toList ++ rest)) : VV G x n1 n2 h pc lv st := by
  obtain ⟨p, l, e, R, s, m, args, below, meth, c, Q, n'⟩ := x
  obtain ⟨d, rfl⟩ := d
  obtain ⟨f1, f2, f3, f4, f5, f6⟩ := F
  intro H locs ls hh hS hl
  obtain ⟨c1, c2, c3, c4, c5, c6, c7, c8, rfl, rfl, c11⟩ := C
  have cw : CallW R s args own y.cls i y b nL ret (wsy y b nL ret) rm rm.cells rm.slots n := ⟨callB_of n c5 (tb_wsy f5) rfl rfl rfl (c5 _ f4) (c5 _ f1) f6 hR.1, c5 _ f2, c5 _ f3⟩
  refine after_call (va_runV (As := As) (rest := rest) ⟨c1, c2, c3, c4, c5⟩ (hM l rfl) cw ⟨vaPc_blind, by rw [← hcy]; exact rc_of hh c6 he hc, fun U hU hW => ⟨rfl, PW.now hh c6 c7 hS hU hW⟩⟩ rfl hn hl.1 hst (lv_room hcat) d hR.2) hS c11 fun v h' H1 locs1 hp hh1 hS1 => ?_
  exact kk v h' hp H1 locs1 ls hh1 hS1 hl
theorem r_callS (C : cxOk G own cc R0 n0 x) (d : dn cc pc (.invokestatic i) 3 nx) (F : okS own i y b nL ret n) (hM : ∀ l, cxL l x → MC l G y b nL ret rm As h post) (hn : As.length = n) (hst : st = As.reverse ++ rest) (hcat : (rest.map fun v => v.category).sum ≤ 8) (hR : rmIn rm R0 nL n1 n2)
    (kk : ∀ v h', post v h' → VV G x (n1 + rm.cells) (n2 + rm.slots) h' nx lv (v.toList ++ rest)) : VV G x n1 n2 h pc lv st := by
  obtain ⟨p, l, e, R, s, m, args, below, meth, c, Q, n'⟩ := x
  obtain ⟨d, rfl⟩ := d
  obtain ⟨f1, f2, f4, f5, f6⟩ := F
  intro H locs ls hh hS hl
  obtain ⟨c1, c2, c3, c4, c5, c6, c7, c8, rfl, rfl, c11⟩ := C
  have cw : CallB R s args own i y b nL ret (wsy y b nL ret) rm rm.cells rm.slots n ∧ (Cond.static y).before args s = true := ⟨callB_of n c5 (tb_wsy f5) rfl rfl rfl (c5 _ f4) (c5 _ f1) f6 hR.1, c5 _ f2⟩
  refine after_call (va_runS (As := As) (rest := rest) ⟨c1, c2, c3, c4, c5⟩ (hM l rfl) cw ⟨vaPc_blind, fun U hU hW => ⟨rfl, PW.now hh c6 c7 hS hU hW⟩⟩ rfl hn hl.1 hst (lv_room hcat) d hR.2) hS c11 fun v h' H1 locs1 hp hh1 hS1 => ?_
  exact kk v h' hp H1 locs1 ls hh1 hS1 hl
theorem r_callI (C : cxOk G own cc R0 n0 x) (d : dn cc pc (.invokespecial i) 3 nx) (F : okI own i y b nL n) (hM : ∀ l, cxL l x → MC l G y b nL none rm (.ref a :: As) h post) (hn : As.length = n) (hst : st = As.reverse ++ .ref a :: rest) (hcat : (rest.map fun v => v.category).sum ≤ 8) (hR : rmIn rm R0 nL n1 n2)
    (kk : ∀ v h', post v h' → VV G x (n1 + rm.cells) (n2 + rm.slots) h' nx lv (v.toList ++ rest)) : VV G x n1 n2 h pc lv st := by
  obtain ⟨p, l, e, R, s, m, args, below, meth, c, Q, n'⟩ := x
  obtain ⟨d, rfl⟩ := d
  obtain ⟨f1, f2, f3, f4, f5, f6⟩ := F
  intro H locs ls hh hS hl
  obtain ⟨c1, c2, c3, c4, c5, c6, c7, c8, rfl, rfl, c11⟩ := C
  have cw : CallB R s args own i y b nL none (wsy y b nL none) rm rm.cells rm.slots n ∧ y.name = "<init>" ∧ (Cond.instanceMethod y).before args s = true := ⟨callB_of n c5 (tb_wsy f5) rfl rfl rfl (c5 _ f4) (c5 _ f1) f6 hR.1, f3, c5 _ f2⟩
  refine after_call (va_runI (As := As) (rest := rest) ⟨c1, c2, c3, c4, c5⟩ (hM l rfl) cw ⟨vaPc_blind, fun U hU hW => ⟨rfl, PW.now hh c6 c7 hS hU hW⟩⟩ rfl hn hl.1 hst (lv_room hcat) d hR.2) hS c11 fun v h' H1 locs1 hp hh1 hS1 => ?_
  exact kk v h' hp H1 locs1 ls hh1 hS1 hl
theorem r_callN (C : cxOk G own cc R0 n0 x) (d : dn cc pc (.invokespecial i) 3 nx) (F : okN own i y b nL n) (hM : ∀ l, cxL l x → MC l G y b nL none rm (.ref a :: As) h post) (hn : As.length = n) (hst : st = As.reverse ++ .ref a :: rest) (hcat : (rest.map fun v => v.category).sum ≤ 8) (hR : rmIn rm R0 nL n1 n2)
    (kk : ∀ v h', post v h' → VV G x (n1 + rm.cells) (n2 + rm.slots) h' nx lv (v.toList ++ rest)) : VV G x n1 n2 h pc lv st := by
  obtain ⟨p, l, e, R, s, m, args, below, meth, c, Q, n'⟩ := x
  obtain ⟨d, rfl⟩ := d
  obtain ⟨f1, f2, f3, f4, f5, f6⟩ := F
  intro H locs ls hh hS hl
  obtain ⟨c1, c2, c3, c4, c5, c6, c7, c8, rfl, rfl, c11⟩ := C
  have cw : va_CN R s args own i y own b nL none (wsy y b nL none) rm rm.cells rm.slots n ∧ y.name = "<init>" ∧ (Cond.instanceMethod y).before args s = true := ⟨va_cnB n c5 (tb_wsy f5) rfl rfl rfl (f1 G s c6) (c5 _ f4) f6 hR.1, f3, c5 _ f2⟩
  refine after_call (va_runIN (As := As) (rest := rest) ⟨c1, c2, c3, c4, c5⟩ (hM l rfl) cw ⟨vaPc_blind, fun U hU hW => ⟨rfl, PW.now hh c6 c7 hS hU hW⟩⟩ rfl hn hl.1 hst (lv_room hcat) d hR.2) hS c11 fun v h' H1 locs1 hp hh1 hS1 => ?_
  exact kk v h' hp H1 locs1 ls hh1 hS1 hl
/-! calls of methods that may throw, from a body without handlers: it goes on to the caller -/
theorem r_callVX (C : cxOk G own cc R0 n0 x) {post0 : Option Value → hp → Prop} {xp0 : String → hp → Prop} (X : cxX G post0 xp0 R0.cells R0.slots x) (d : dn cc pc (.invokevirtual i) 3 nx) (F : okV own i y b nL ret n) (hM : ∀ l, cxL l x → l.stackTraces = false → MX l G y b nL ret rm (.ref a :: As) h post xp) {fs : List Value} {r : vw_C} (he : h a = some (.inr (ci, fs))) (hc : vwCl[ci]? = some r) (hcy : r.1 = y.cls) (hn : As.length = n) (hst : st = As.reverse ++ .ref a :: rest) (hcat : (rest.map fun v => v.category).sum ≤ 8) (hR : rmIn rm R0 nL n1 n2)
    (hxx : ∀ E h', xp E h' → xp0 E h')
    (kk : ∀ v h', post v h' → VV G x (n1 + rm.cells) (n2 + rm.slots) h' nx lv (v.toList ++ rest)) : VV G x n1 n2 h pc lv st := by
  obtain ⟨p, l, e, R, s, m, args, below, meth, c, Q, n'⟩ := x
  obtain ⟨d, rfl⟩ := d
  obtain ⟨f1, f2, f3, f4, f5, f6⟩ := F
  intro H locs ls hh hS hl
  obtain ⟨c1, c2, c3, c4, c5, c6, c7, c8, rfl, rfl, c11⟩ := C
  obtain ⟨rfl, x2, x3⟩ := X
  have cw : CallW R s args own y.cls i y b nL ret (wsy y b nL ret) rm rm.cells rm.slots n := ⟨callB_of n c5 (tb_wsy f5) rfl rfl rfl (c5 _ f4) (c5 _ f1) f6 hR.1, c5 _ f2, c5 _ f3⟩
  refine after_callX (vx_runV (As := As) (rest := rest) ⟨c1, c2, c3, c4, c5⟩ (hM l rfl x3) cw ⟨vaPc_blind, by rw [← hcy]; exact rc_of hh c6 he hc, fun U hU hW => ⟨rfl, PW.now hh c6 c7 hS hU hW⟩⟩ rfl hn hl.1 hst (lv_room hcat) d hR.2) hS c11 (fun E ce q9 h' H1 locs1 hx hh1 hS1 g1 g2 g3 => ?_) fun v h' H1 locs1 hp hh1 hS1 => ?_
  · exact vx_out (fun z hz => (x2 z hz).elim) c8 g1 g2 g3 (fun t ht ha => ⟨⟨h', hxx E h' hx, by rw [ht]; exact hh1⟩, hS1.F ht⟩) (fun z hz => hS1.2.2 z hz) hR.2.1 hR.2.2
  · exact kk v h' hp H1 locs1 ls hh1 hS1 hl
theorem r_callSX (C : cxOk G own cc R0 n0 x) {post0 : Option Value → hp → Prop} {xp0 : String → hp → Prop} (X : cxX G post0 xp0 R0.cells R0.slots x) (d : dn cc pc (.invokestatic i) 3 nx) (F : okS own i y b nL ret n) (hM : ∀ l, cxL l x → l.stackTraces = false → MX l G y b nL ret rm As h post xp) (hn : As.length = n) (hst : st = As.reverse ++ rest) (hcat : (rest.map fun v => v.category).sum ≤ 8) (hR : rmIn rm R0 nL n1 n2)
    (hxx : ∀ E h', xp E h' → xp0 E h')
    (kk : ∀ v h', post v h' → VV G x (n1 + rm.cells) (n2 + rm.slots) h' nx lv (v.toList ++ rest)) : VV G x n1 n2 h pc lv st := by
  obtain ⟨p, l, e, R, s, m, args, below, meth, c, Q, n'⟩ := x
  obtain ⟨d, rfl⟩ := d
  obtain ⟨f1, f2, f4, f5, f6⟩ := F
  intro H locs ls hh hS hl
  obtain ⟨c1, c2, c3, c4, c5, c6, c7, c8, rfl, rfl, c11⟩ := C
  obtain ⟨rfl, x2, x3⟩ := X
  have cw : CallB R s args own i y b nL ret (wsy y b nL ret) rm rm.cells rm.slots n ∧ (Cond.static y).before args s = true := ⟨callB_of n c5 (tb_wsy f5) rfl rfl rfl (c5 _ f4) (c5 _ f1) f6 hR.1, c5 _ f2⟩
  refine after_callX (vx_runS (As := As) (rest := rest) ⟨c1, c2, c3, c4, c5⟩ (hM l rfl x3) cw ⟨vaPc_blind, fun U hU hW => ⟨rfl, PW.now hh c6 c7 hS hU hW⟩⟩ rfl hn hl.1 hst (lv_room hcat) d hR.2) hS c11 (fun E ce q9 h' H1 locs1 hx hh1 hS1 g1 g2 g3 => ?_) fun v h' H1 locs1 hp hh1 hS1 => ?_
  · exact vx_out (fun z hz => (x2 z hz).elim) c8 g1 g2 g3 (fun t ht ha => ⟨⟨h', hxx E h' hx, by rw [ht]; exact hh1⟩, hS1.F ht⟩) (fun z hz => hS1.2.2 z hz) hR.2.1 hR.2.2
  · exact kk v h' hp H1 locs1 ls hh1 hS1 hl
/-- a static call of a method with handlers that lets nothing through -/
theorem r_callSH (C : cxOk G own cc R0 n0 x) {hd : List (Nat × Nat × Nat × Nat)} (d : dn cc pc (.invokestatic i) 3 nx) (F : okSH own i y b nL ret hd n) (hM : ∀ l, cxL l x → MH l G y b nL ret hd rm As h post) (hn : As.length = n) (hst : st = As.reverse ++ rest) (hcat : (rest.map fun v => v.category).sum ≤ 8) (hR : rmIn rm R0 nL n1 n2)
    (kk : ∀ v h', post v h' → VV G x (n1 + rm.cells) (n2 + rm.slots) h' nx lv (v.toList ++ rest)) : VV G x n1 n2 h pc lv st := by
  obtain ⟨p, l, e, R, s, m, args, below, meth, c, Q, n'⟩ := x
  obtain ⟨d, rfl⟩ := d
  obtain ⟨f1, f2, f4, f5, f6⟩ := F
  intro H locs ls hh hS hl
  obtain ⟨c1, c2, c3, c4, c5, c6, c7, c8, rfl, rfl, c11⟩ := C
  have hG2 : GoodIn TB (va_wsS own i y (wsh y b nL ret hd)) := by
    intro w hw
    have hm : w ∈ TB := by
      rcases List.mem_append.mp hw with q | q
      · simp only [List.mem_cons, List.not_mem_nil, or_false] at q
        rcases q with q | q | q
        · rw [q]; exact f1
        · rw [q]; exact f2
        · rw [q]; exact f4
      · exact (tb_wsh f5 w q).1
    exact ⟨hm, good_of_word (tb_good hm)⟩
  have cw := vx_cwSW (R := R) (s := s) (args := args) (rm := rm) (mc := rm.cells) (ms := rm.slots) n c5 hG2 rfl rfl rfl f6 hR.1
  refine after_callX (vx_runSX (As := As) (rest := rest) ⟨c1, c2, c3, c4, c5⟩ (hM l rfl) cw ⟨vaPc_blind, fun U hU hW => ⟨rfl, PW.now hh c6 c7 hS hU hW⟩⟩ rfl hn hl.1 hst (lv_room hcat) d hR.2) hS c11 (fun E ce q9 h' H1 locs1 hx hh1 hS1 g1 g2 g3 => hx.elim) fun v h' H1 locs1 hp hh1 hS1 => ?_
  exact kk v h' hp H1 locs1 ls hh1 hS1 hl
end CROWS
/-! throws and handlers -/
theorem hH.grow {G : eG} {h : hp} {H H1 : Heap} (hh : hH G h H) (z : H.size ≤ H1.size) (oq : ∀ q : Nat, q < H.size → H1[q]? = H[q]?) : hH G h H1 :=
  ⟨Nat.le_trans hh.1 z, fun a e he => ⟨(hh.2 a e he).1, (hh.2 a e he).2.kept (oq a (hh.lt he))⟩⟩
def exP : List String := ["java/lang/RuntimeException", "java/lang/Exception"]
def thOk (ik ic : Nat) (cls : String) : Prop := Bundle.fit cls = true ∧ Cond.classLink RX6 ik cls ∈ TB ∧ Cond.initialized cls ∈ TB ∧ (∀ w ∈ (vx_atS RX6 ic cls exP).filter goodWord, w ∈ lw_tbl) ∧ (∀ w ∈ (vx_atS RX6 ic cls exP).filter (fun w => !goodWord w), w ∈ exD.map Cond.declares) ∧ (∀ w ∈ Cond.classLink RX6 ik cls :: Cond.initialized cls :: vx_atS RX6 ic cls exP, vx_ot w = true)
theorem exP_fit : ∀ n ∈ exP, Bundle.fit n = true := by decide +kernel
section TH
variable {G : eG} {x : CX} {n1 n2 : Nat} {h : hp} {pc nx p1 p2 p3 p4 p5 : Nat} {lv : List (Nat × Value)} {rest st : List Value} {own : String} {cc : ByteArray} {R0 rm : Room} {n0 nL : Nat} {post : Option Value → hp → Prop} {xp : String → hp → Prop} {i a ci n : Nat} {As : List Value} {y : MethodName} {b : ByteArray} {ret : Option FieldType}
theorem r_throw (C : cxOk G RX6 cc R0 n0 x) (X : cxX G post xp R0.cells R0.slots x) {ik is ic : Nat} {cls : String} (d0 : dn cc pc (.new ik) 3 p1) (d1 : dn cc p1 .dup 1 p2) (d2 : dn cc p2 (.ldc is) 2 p3) (d3 : dn cc p3 (.invokespecial ic) 3 p4) (d4 : dn cc p4 .athrow 1 p5) (F : thOk ik ic cls) {text : String} (hst : (is, text) ∈ strs)
    (hR : 5 < R0.frames ∧ (st.map fun v => v.category).sum + 82 ≤ R0.locals ∧ n1 + 1 ≤ R0.cells ∧ n2 + 6 ≤ R0.slots) (hx : xp cls h) : VV G x n1 n2 h pc lv st := by
  obtain ⟨p, l, e, R, s, m, args, below, meth, c, Q, n'⟩ := x
  obtain ⟨d0, rfl⟩ := d0
  obtain ⟨d1, rfl⟩ := d1
  obtain ⟨d2, rfl⟩ := d2
  obtain ⟨d3, rfl⟩ := d3
  obtain ⟨d4, rfl⟩ := d4
  obtain ⟨f1, f2, f3, f4, f5, f6⟩ := F
  intro H locs ls hh hS hl
  obtain ⟨c1, c2, c3, c4, c5, c6, c7, c8, rfl, rfl, c11⟩ := C
  obtain ⟨rfl, x2, x3⟩ := X
  obtain ⟨sa, hsa⟩ := c6.2.1 _ hst
  have hat : ∀ w ∈ vx_atS RX6 ic cls exP, w.before args s = true := by
    refine vx_hat (B := exD.map Cond.declares) (fun w hw => c5 w (List.mem_filter.mpr ⟨f4 w hw, (List.mem_filter.mp hw).2⟩)) f5 ?_
    intro w hw
    obtain ⟨y, hy, rfl⟩ := List.mem_map.mp hw
    exact va_Nw.use rfl (c6.2.2.2.2.2.2.2 y hy)
  refine vx_throwS c1 c2 x3 c4 f1 exP_fit (c5 _ f2) (c5 _ f3) hsa hat f6 c7.1 c7.2 hS (hl.1.trans c3.symm) d0 d1 d2 d3 d4 (fun z hz => (x2 z hz).elim) hR.1 hR.2.1 hR.2.2.1 hR.2.2.2 c8 (fun t ha hz hq => ⟨⟨h, hx, hh.grow hz hq⟩, Nat.le_trans hS.1 hz, fun q y1 y2 => ?_⟩) (fun z hz => hS.2.2 z hz) hR.2.2.1 hR.2.2.2
  rw [hq q (Nat.lt_of_lt_of_le y1 hS.1)]
  exact hS.2.1 q y1 y2
/-- the rows of a table ahead of one don't take E; that one does -/
def caOk (hd : List (Nat × Nat × Nat × Nat)) (own : String) (pc : Nat) (E : String) (tgt : Nat) : Prop := ∃ (pre : List ExceptionTableEntry) (z : ExceptionTableEntry) (suf : List ExceptionTableEntry), tableOf hd = pre ++ z :: suf ∧ (∀ w ∈ pre, w.catchType ≠ 0 ∧ ∃ nm : String, Cond.classLink own w.catchType nm ∈ TB ∧ nm ∈ exN ∧ E ≠ nm) ∧ covers z pc = true ∧ z.catchType ≠ 0 ∧ Cond.classLink own z.catchType E ∈ TB ∧ Cond.castable E E ∈ TB ∧ E ∈ exN ∧ z.handlerPc = tgt
theorem r_callVH (C : cxOk G own cc R0 n0 x) {hd : List (Nat × Nat × Nat × Nat)} (X : cxH hd x) (hlf : ∀ l, cxL l x → l.stackTraces = false) (d : dn cc pc (.invokevirtual i) 3 nx) (F : okV own i y b nL ret n) (hM : ∀ l, l.stackTraces = false → MX l G y b nL ret rm (.ref a :: As) h post xp) {fs : List Value} {r : vw_C} (he : h a = some (.inr (ci, fs))) (hc : vwCl[ci]? = some r) (hcy : r.1 = y.cls) (hn : As.length = n) (hst : st = As.reverse ++ .ref a :: rest) (hcat : (rest.map fun v => v.category).sum ≤ 8) (hR : rmIn rm R0 nL n1 n2)
    (kx : ∀ E h', xp E h' → ∃ tgt, caOk hd own pc E tgt ∧ ∀ q, VV G x (n1 + rm.cells) (n2 + rm.slots) h' tgt lv [.ref q])
    (kk : ∀ v h', post v h' → VV G x (n1 + rm.cells) (n2 + rm.slots) h' nx lv (v.toList ++ rest)) : VV G x n1 n2 h pc lv st := by
  obtain ⟨p, l, e, R, s, m, args, below, meth, c, Q, n'⟩ := x
  obtain ⟨d, rfl⟩ := d
  obtain ⟨f1, f2, f3, f4, f5, f6⟩ := F
  intro H locs ls hh hS hl
  obtain ⟨c1, c2, c3, c4, c5, c6, c7, c8, rfl, rfl, c11⟩ := C
  have cw : CallW R s args own y.cls i y b nL ret (wsy y b nL ret) rm rm.cells rm.slots n := ⟨callB_of n c5 (tb_wsy f5) rfl rfl rfl (c5 _ f4) (c5 _ f1) f6 hR.1, c5 _ f2, c5 _ f3⟩
  refine after_callX (vx_runV (As := As) (rest := rest) ⟨c1, c2, c3, c4, c5⟩ (hM l (hlf l rfl)) cw ⟨vaPc_blind, by rw [← hcy]; exact rc_of hh c6 he hc, fun U hU hW => ⟨rfl, PW.now hh c6 c7 hS hU hW⟩⟩ rfl hn hl.1 hst (lv_room hcat) d hR.2) hS c11 (fun E ce q9 h' H1 locs1 hx hh1 hS1 g1 g2 g3 => ?_) fun v h' H1 locs1 hp hh1 hS1 => ?_
  · obtain ⟨tgt, ⟨pre, z, suf, k1, k2, k3, k4, k5, k6, k7, k8⟩, kv⟩ := kx E h' hx
    subst k8
    exact vx_catch c4 pre z suf (X.trans k1) (fun w hw => Or.inr ⟨(k2 w hw).1, by
      obtain ⟨nm, j1, j2, j3⟩ := (k2 w hw).2
      exact ⟨nm, c5 _ j1, c6.2.2.2.2.2.2.1 E k7 nm j2 j3⟩⟩) k3 k4 (c5 _ k5) (c5 _ k6) g1 g2 g3 (kv q9 H1 locs1 ls hh1 hS1 hl)
  · exact kk v h' hp H1 locs1 ls hh1 hS1 hl
/-- a thrown thing put away -/
theorem r_pack (C : cxOk G own cc R0 n0 x) : True := trivial
end TH
end
section
/-! numbers: rows that keep an int as nI of a natural number, a boolean as bI of a Bool -/
def bI (b : Bool) : Int32 := if b then 1 else 0
theorem bI_eq0 (b : Bool) : bI b = 0 ↔ b = false := by cases b <;> decide
theorem bI_ne0 (b : Bool) : ¬ bI b = 0 ↔ b = true := by cases b <;> decide
theorem bI_nar (b : Bool) : narrow .boolean (.int (bI b)) = .int (bI b) := by cases b <;> rfl
theorem bI_n (b : Bool) : bI b = nI b.toNat := by cases b <;> rfl
theorem nI_inj {a b : Nat} (ha : a < 2147483648) (hb : b < 2147483648) (h : nI a = nI b) : a = b := (nI_eq ha hb).mp h
theorem nI_shl (a : Nat) {b : Nat} (hb : b < 32) : nI a <<< (nI b &&& 31) = nI (a * 2 ^ b) := by
  have hs : ((nI b &&& 31).toBitVec.smod 32).toNat = b := by
    have : ∀ c, c < 32 → ((nI c &&& 31).toBitVec.smod 32).toNat = c := by decide +kernel
    exact this b hb
  apply Int32.toBitVec_inj.mp
  apply BitVec.eq_of_toNat_eq
  rw [pk_shl _ _ b hs]
  show (BitVec.ofNat 32 a).toNat * 2 ^ b % 2 ^ 32 = (BitVec.ofNat 32 (a * 2 ^ b)).toNat
  rw [BitVec.toNat_ofNat, BitVec.toNat_ofNat, Nat.mod_mul_mod]
theorem nI_shr {a b : Nat} (ha : a < 2147483648) (hb : b < 32) : nI a >>> (nI b &&& 31) = nI (a / 2 ^ b) := by
  have hs : ((nI b &&& 31).toBitVec.smod 32).toNat = b := by
    have : ∀ c, c < 32 → ((nI c &&& 31).toBitVec.smod 32).toNat = c := by decide +kernel
    exact this b hb
  rw [← Nat.shiftRight_eq_div_pow]
  apply Int32.toInt_inj.mp
  rw [pk_shr _ _ b hs, nI_toInt ha, nI_toInt (Nat.lt_of_le_of_lt (Nat.shiftRight_le a b) ha)]
  rfl
theorem nI_ushr {a b : Nat} (ha : a < 4294967296) (hb : b < 32) : ((nI a).toUInt32 >>> ((nI b).toUInt32 &&& Int32.toUInt32 31)).toInt32 = nI (a / 2 ^ b) := by
  have hs : (((nI b).toUInt32 &&& Int32.toUInt32 31).toBitVec % 32).toNat = b := by
    have : ∀ c, c < 32 → (((nI c).toUInt32 &&& Int32.toUInt32 31).toBitVec % 32).toNat = c := by decide +kernel
    exact this b hb
  exact pk_ushrN ha _ b hs
theorem nI_and (a b : Nat) : nI a &&& nI b = nI (a &&& b) := by
  apply Int32.toBitVec_inj.mp
  show BitVec.ofNat 32 a &&& BitVec.ofNat 32 b = BitVec.ofNat 32 (a &&& b)
  rw [BitVec.ofNat_and]
theorem nI_or (a b : Nat) : nI a ||| nI b = nI (a ||| b) := by
  apply Int32.toBitVec_inj.mp
  show BitVec.ofNat 32 a ||| BitVec.ofNat 32 b = BitVec.ofNat 32 (a ||| b)
  rw [BitVec.ofNat_or]
theorem lN_sh64 : ∀ c, c < 64 → ((nI c).toInt64 &&& 63) = lN c := by decide +kernel
theorem lN_shu64 : ∀ c, c < 64 → ((nI c).toInt64.toUInt64 &&& Int64.toUInt64 63) = UInt64.ofNat c := by decide +kernel
theorem lN_smod : ∀ c, c < 64 → (lN c).toBitVec.smod 64 = BitVec.ofNat 64 c := by decide +kernel
theorem lN_shl (a : Nat) {b : Nat} (hb : b < 64) : lN a <<< ((nI b).toInt64 &&& 63) = lN (a * 2 ^ b) := by
  rw [lN_sh64 b hb]
  apply Int64.toBitVec_inj.mp
  show (BitVec.ofNat 64 a) <<< ((lN b).toBitVec.smod 64) = BitVec.ofNat 64 (a * 2 ^ b)
  rw [lN_smod b hb]
  apply BitVec.eq_of_toNat_eq
  rw [BitVec.shiftLeft_eq', BitVec.toNat_shiftLeft, BitVec.toNat_ofNat, BitVec.toNat_ofNat, BitVec.toNat_ofNat, Nat.mod_eq_of_lt (show b < 2 ^ 64 by omega), Nat.shiftLeft_eq, Nat.mod_mul_mod]
theorem lN_shr {a b : Nat} (ha : a < 9223372036854775808) (hb : b < 64) : lN a >>> ((nI b).toInt64 &&& 63) = lN (a / 2 ^ b) := by
  rw [lN_sh64 b hb]
  apply Int64.toBitVec_inj.mp
  show (BitVec.ofNat 64 a).sshiftRight' ((lN b).toBitVec.smod 64) = BitVec.ofNat 64 (a / 2 ^ b)
  rw [lN_smod b hb]
  apply BitVec.eq_of_toInt_eq
  rw [BitVec.sshiftRight_eq', BitVec.toInt_sshiftRight, BitVec.toNat_ofNat, Nat.mod_eq_of_lt (show b < 2 ^ 64 by omega)]
  have h1 : (BitVec.ofNat 64 a).toInt = (a : Int) := pk_lT ha
  have h2 : (BitVec.ofNat 64 (a / 2 ^ b)).toInt = ((a / 2 ^ b : Nat) : Int) := pk_lT (Nat.lt_of_le_of_lt (Nat.div_le_self _ _) ha)
  rw [h1, h2, ← Nat.shiftRight_eq_div_pow]
  rfl
theorem lN_ushr {a b : Nat} (ha : a < 18446744073709551616) (hb : b < 64) : ((lN a).toUInt64 >>> ((nI b).toInt64.toUInt64 &&& Int64.toUInt64 63)).toInt64 = lN (a / 2 ^ b) := by
  rw [lN_shu64 b hb]
  apply Int64.toBitVec_inj.mp
  apply BitVec.eq_of_toNat_eq
  have hmod : ∀ c, c < 64 → ((UInt64.ofNat c).toBitVec % 64#64).toNat = c := by decide +kernel
  show ((BitVec.ofNat 64 a) >>> ((UInt64.ofNat b).toBitVec % 64#64)).toNat = (BitVec.ofNat 64 (a / 2 ^ b)).toNat
  rw [BitVec.ushiftRight_eq', BitVec.toNat_ushiftRight, hmod b hb, BitVec.toNat_ofNat, BitVec.toNat_ofNat, Nat.mod_eq_of_lt ha, Nat.mod_eq_of_lt (Nat.lt_of_le_of_lt (Nat.div_le_self _ _) ha), Nat.shiftRight_eq_div_pow]
theorem lN_and (a b : Nat) : lN a &&& lN b = lN (a &&& b) := by
  apply Int64.toBitVec_inj.mp
  show BitVec.ofNat 64 a &&& BitVec.ofNat 64 b = BitVec.ofNat 64 (a &&& b)
  rw [BitVec.ofNat_and]
theorem lN_or (a b : Nat) : lN a ||| lN b = lN (a ||| b) := by
  apply Int64.toBitVec_inj.mp
  show BitVec.ofNat 64 a ||| BitVec.ofNat 64 b = BitVec.ofNat 64 (a ||| b)
  rw [BitVec.ofNat_or]
theorem lN_cmp {a b : Nat} (ha : a < 9223372036854775808) (hb : b < 9223372036854775808) : lg_cmp (lN a) (lN b) = (if a = b then 0 else if a < b then -1 else 1) := by
  have h1 : (lN a).toInt = (a : Int) := pk_lT ha
  have h2 : (lN b).toInt = (b : Int) := pk_lT hb
  have e1 : lN b < lN a ↔ b < a := by rw [Int64.lt_iff_toInt_lt, h1, h2]; omega
  have e2 : lN a = lN b ↔ a = b := by rw [← Int64.toInt_inj, h1, h2]; omega
  unfold lg_cmp
  by_cases c1 : b < a
  · rw [if_pos (e1.mpr c1), if_neg (by omega), if_neg (by omega)]
  · by_cases c2 : a = b
    · rw [if_neg (fun q => c1 (e1.mp q)), if_pos (e2.mpr c2), if_pos c2]
    · rw [if_neg (fun q => c1 (e1.mp q)), if_neg (fun q => c2 (e2.mp q)), if_neg c2, if_pos (by omega)]
/-- an int in a range, as a number -/
def inR (v : Int32) (a b : Nat) : Bool := decide (nI a ≤ v) && decide (v ≤ nI b)
def tn (v : Int32) : Nat := v.toNatClampNeg
theorem tn_nI {n : Nat} (h : n < 2147483648) : tn (nI n) = n := nI_clamp h
theorem inR_of {v : Int32} {a b : Nat} (h : inR v a b = true) (ha : a < 2147483648) (hb : b < 2147483648) : v = nI (tn v) ∧ a ≤ tn v ∧ tn v ≤ b := by
  simp only [inR, Bool.and_eq_true, decide_eq_true_eq] at h
  obtain ⟨h1, h2⟩ := h
  have h0 : ¬ v < 0 := by
    intro z
    have q1 := Int32.lt_iff_toInt_lt.mp z
    have q2 := Int32.le_iff_toInt_le.mp h1
    rw [nI_toInt ha] at q2
    have q3 : (0 : Int32).toInt = 0 := rfl
    omega
  obtain ⟨j, hj, rfl⟩ := nI_of h0
  rw [tn_nI hj]
  exact ⟨rfl, (nI_leI ha hj).mp h1, (nI_leI hj hb).mp h2⟩
theorem nI_inc (a : Nat) {k : Nat} {z : Int} (h : Int32.ofInt z = nI k) : nI a + Int32.ofInt z = nI (a + k) := by rw [h, nI_add]
theorem nI_dec {a k : Nat} {z : Int} (hk : k ≤ a) (h : nI k + Int32.ofInt z = 0) : nI a + Int32.ofInt z = nI (a - k) := by
  have e : a = (a - k) + k := by omega
  rw [e, ← nI_add, Int32.add_assoc, h, Int32.add_zero, Nat.add_sub_cancel]
def inI (v a b : Int32) : Bool := decide (a ≤ v) && decide (v ≤ b)
theorem inI_T {v a b : Int32} (h1 : ¬ v < a) (h2 : ¬ b < v) : inI v a b = true := by
  simp only [inI, Bool.and_eq_true, decide_eq_true_eq]
  rw [Int32.lt_iff_toInt_lt] at h1 h2
  exact ⟨Int32.le_iff_toInt_le.mpr (by omega), Int32.le_iff_toInt_le.mpr (by omega)⟩
theorem inI_F {v a b : Int32} (h : v < a ∨ b < v) : inI v a b = false := by
  cases hc : inI v a b with
  | false => rfl
  | true =>
    simp only [inI, Bool.and_eq_true, decide_eq_true_eq, Int32.le_iff_toInt_le] at hc
    rcases h with h | h <;> rw [Int32.lt_iff_toInt_lt] at h <;> omega

section NROWS
variable {G : eG} {x : CX} {n1 n2 : Nat} {h : hp} {pc nx : Nat} {lv : List (Nat × Value)} {st : List Value} {own : String} {cc : ByteArray} {rm : Room} {nL : Nat}
theorem rn_iadd (C : cxOk G own cc rm nL x) {a b : Nat} (d : dn cc pc .iadd 1 nx) (kk : VV G x n1 n2 h nx lv (.int (nI (a + b)) :: st)) : VV G x n1 n2 h pc lv (.int (nI b) :: .int (nI a) :: st) := r_iadd C d (by rw [nI_add]; exact kk)
theorem rn_isub (C : cxOk G own cc rm nL x) {a b : Nat} (d : dn cc pc .isub 1 nx) (hle : b ≤ a) (kk : VV G x n1 n2 h nx lv (.int (nI (a - b)) :: st)) : VV G x n1 n2 h pc lv (.int (nI b) :: .int (nI a) :: st) := r_isub C d (by rw [pk_sub hle]; exact kk)
theorem rn_imul (C : cxOk G own cc rm nL x) {a b : Nat} (d : dn cc pc .imul 1 nx) (kk : VV G x n1 n2 h nx lv (.int (nI (a * b)) :: st)) : VV G x n1 n2 h pc lv (.int (nI b) :: .int (nI a) :: st) := r_imul C d (by rw [pk_mul]; exact kk)
theorem rn_idiv (C : cxOk G own cc rm nL x) {a b : Nat} (d : dn cc pc .idiv 1 nx) (ha : a < 2147483648) (hz : 0 < b) (hb : b < 2147483648) (kk : VV G x n1 n2 h nx lv (.int (nI (a / b)) :: st)) : VV G x n1 n2 h pc lv (.int (nI b) :: .int (nI a) :: st) := r_idiv C d (nI_ne0 hz hb) (by rw [pk_div ha hz hb]; exact kk)
theorem rn_irem (C : cxOk G own cc rm nL x) {a b : Nat} (d : dn cc pc .irem 1 nx) (ha : a < 2147483648) (hz : 0 < b) (hb : b < 2147483648) (kk : VV G x n1 n2 h nx lv (.int (nI (a % b)) :: st)) : VV G x n1 n2 h pc lv (.int (nI b) :: .int (nI a) :: st) := r_irem C d (nI_ne0 hz hb) (by rw [pk_rem ha hz hb]; exact kk)
theorem rn_iand (C : cxOk G own cc rm nL x) {a b : Nat} (d : dn cc pc .iand 1 nx) (kk : VV G x n1 n2 h nx lv (.int (nI (a &&& b)) :: st)) : VV G x n1 n2 h pc lv (.int (nI b) :: .int (nI a) :: st) := r_iand C d (by rw [nI_and]; exact kk)
theorem rn_ior (C : cxOk G own cc rm nL x) {a b : Nat} (d : dn cc pc .ior 1 nx) (kk : VV G x n1 n2 h nx lv (.int (nI (a ||| b)) :: st)) : VV G x n1 n2 h pc lv (.int (nI b) :: .int (nI a) :: st) := r_ior C d (by rw [nI_or]; exact kk)
theorem rn_ishl (C : cxOk G own cc rm nL x) {a b : Nat} (d : dn cc pc .ishl 1 nx) (hb : b < 32) (kk : VV G x n1 n2 h nx lv (.int (nI (a * 2 ^ b)) :: st)) : VV G x n1 n2 h pc lv (.int (nI b) :: .int (nI a) :: st) := r_ishl C d (by rw [nI_shl a hb]; exact kk)
theorem rn_ishr (C : cxOk G own cc rm nL x) {a b : Nat} (d : dn cc pc .ishr 1 nx) (ha : a < 2147483648) (hb : b < 32) (kk : VV G x n1 n2 h nx lv (.int (nI (a / 2 ^ b)) :: st)) : VV G x n1 n2 h pc lv (.int (nI b) :: .int (nI a) :: st) := r_ishr C d (by rw [nI_shr ha hb]; exact kk)
theorem rn_iushr (C : cxOk G own cc rm nL x) {a b : Nat} (d : dn cc pc .iushr 1 nx) (ha : a < 4294967296) (hb : b < 32) (kk : VV G x n1 n2 h nx lv (.int (nI (a / 2 ^ b)) :: st)) : VV G x n1 n2 h pc lv (.int (nI b) :: .int (nI a) :: st) := r_iushr C d (by rw [nI_ushr ha hb]; exact kk)
theorem rn_iinc (C : cxOk G own cc rm nL x) {i a b : Nat} {k : Int} {lv' : List (Nat × Value)} (d : dn cc pc (.iinc i k) 3 nx) (j : Nat) (hk : lv[j]? = some (i, .int (nI a))) (hv : nI a + Int32.ofInt k = nI b) (hn : i < nL) (hl2 : (i, Value.int (nI b)) :: lv.filter (fun q => !(q.1 == i) && !(q.1 + 1 == i && q.2.category == 2)) = lv') (kk : VV G x n1 n2 h nx lv' (st)) : VV G x n1 n2 h pc lv (st) := r_iinc C d j hk hv hn hl2 kk
theorem rn_icmp_eq (C : cxOk G own cc rm nL x) {off : Int} {tgt a b : Nat} (d : dn cc pc (.if_icmp .eq off) 3 nx) (ht : (pc : Int) + off = (tgt : Int)) (ha : a < 2147483648) (hb : b < 2147483648) (kt : a = b → VV G x n1 n2 h tgt lv (st)) (kf : ¬ a = b → VV G x n1 n2 h nx lv (st)) : VV G x n1 n2 h pc lv (.int (nI b) :: .int (nI a) :: st) := r_icmp_eq C d ht (fun c => kt ((nI_eq ha hb).mp c)) (fun c => kf (fun q => c ((nI_eq ha hb).mpr q)))
theorem rn_icmp_ne (C : cxOk G own cc rm nL x) {off : Int} {tgt a b : Nat} (d : dn cc pc (.if_icmp .ne off) 3 nx) (ht : (pc : Int) + off = (tgt : Int)) (ha : a < 2147483648) (hb : b < 2147483648) (kt : ¬ a = b → VV G x n1 n2 h tgt lv (st)) (kf : a = b → VV G x n1 n2 h nx lv (st)) : VV G x n1 n2 h pc lv (.int (nI b) :: .int (nI a) :: st) := r_icmp_ne C d ht (fun c => kt (fun q => c ((nI_eq ha hb).mpr q))) (fun c => kf ((nI_eq ha hb).mp (Classical.not_not.mp c)))
theorem rn_icmp_lt (C : cxOk G own cc rm nL x) {off : Int} {tgt a b : Nat} (d : dn cc pc (.if_icmp .lt off) 3 nx) (ht : (pc : Int) + off = (tgt : Int)) (ha : a < 2147483648) (hb : b < 2147483648) (kt : a < b → VV G x n1 n2 h tgt lv (st)) (kf : b ≤ a → VV G x n1 n2 h nx lv (st)) : VV G x n1 n2 h pc lv (.int (nI b) :: .int (nI a) :: st) := r_icmp_lt C d ht (fun c => kt ((nI_ltI ha hb).mp c)) (fun c => kf (Nat.le_of_not_lt fun q => c ((nI_ltI ha hb).mpr q)))
theorem rn_icmp_ge (C : cxOk G own cc rm nL x) {off : Int} {tgt a b : Nat} (d : dn cc pc (.if_icmp .ge off) 3 nx) (ht : (pc : Int) + off = (tgt : Int)) (ha : a < 2147483648) (hb : b < 2147483648) (kt : b ≤ a → VV G x n1 n2 h tgt lv (st)) (kf : a < b → VV G x n1 n2 h nx lv (st)) : VV G x n1 n2 h pc lv (.int (nI b) :: .int (nI a) :: st) := r_icmp_ge C d ht (fun c => kt ((nI_leI hb ha).mp c)) (fun c => kf (Nat.lt_of_not_le fun q => c ((nI_leI hb ha).mpr q)))
theorem rn_icmp_gt (C : cxOk G own cc rm nL x) {off : Int} {tgt a b : Nat} (d : dn cc pc (.if_icmp .gt off) 3 nx) (ht : (pc : Int) + off = (tgt : Int)) (ha : a < 2147483648) (hb : b < 2147483648) (kt : b < a → VV G x n1 n2 h tgt lv (st)) (kf : a ≤ b → VV G x n1 n2 h nx lv (st)) : VV G x n1 n2 h pc lv (.int (nI b) :: .int (nI a) :: st) := r_icmp_gt C d ht (fun c => kt ((nI_ltI hb ha).mp c)) (fun c => kf (Nat.le_of_not_lt fun q => c ((nI_ltI hb ha).mpr q)))
theorem rn_icmp_le (C : cxOk G own cc rm nL x) {off : Int} {tgt a b : Nat} (d : dn cc pc (.if_icmp .le off) 3 nx) (ht : (pc : Int) + off = (tgt : Int)) (ha : a < 2147483648) (hb : b < 2147483648) (kt : a ≤ b → VV G x n1 n2 h tgt lv (st)) (kf : b < a → VV G x n1 n2 h nx lv (st)) : VV G x n1 n2 h pc lv (.int (nI b) :: .int (nI a) :: st) := r_icmp_le C d ht (fun c => kt ((nI_leI ha hb).mp c)) (fun c => kf (Nat.lt_of_not_le fun q => c ((nI_leI ha hb).mpr q)))
theorem rn_if_eq (C : cxOk G own cc rm nL x) {off : Int} {tgt a : Nat} (d : dn cc pc (.ifCond .eq off) 3 nx) (ht : (pc : Int) + off = (tgt : Int)) (ha : a < 2147483648) (kt : a = 0 → VV G x n1 n2 h tgt lv (st)) (kf : 0 < a → VV G x n1 n2 h nx lv (st)) : VV G x n1 n2 h pc lv (.int (nI a) :: st) := r_if_eq C d ht (fun c => kt (nI_inj ha (by decide : (0:Nat) < 2147483648) c)) (fun c => kf (Nat.pos_of_ne_zero fun q => c (by rw [q]; rfl)))
theorem rn_if_ne (C : cxOk G own cc rm nL x) {off : Int} {tgt a : Nat} (d : dn cc pc (.ifCond .ne off) 3 nx) (ht : (pc : Int) + off = (tgt : Int)) (ha : a < 2147483648) (kt : 0 < a → VV G x n1 n2 h tgt lv (st)) (kf : a = 0 → VV G x n1 n2 h nx lv (st)) : VV G x n1 n2 h pc lv (.int (nI a) :: st) := r_if_ne C d ht (fun c => kt (Nat.pos_of_ne_zero fun q => c (by rw [q]; rfl))) (fun c => kf (nI_inj ha (by decide : (0:Nat) < 2147483648) (Classical.not_not.mp c)))
theorem rn_if_lt (C : cxOk G own cc rm nL x) {off : Int} {tgt a : Nat} (d : dn cc pc (.ifCond .lt off) 3 nx) (ht : (pc : Int) + off = (tgt : Int)) (ha : a < 2147483648) (kt : False → VV G x n1 n2 h tgt lv (st)) (kf : True → VV G x n1 n2 h nx lv (st)) : VV G x n1 n2 h pc lv (.int (nI a) :: st) := r_if_lt C d ht (fun c => kt ((nI_pos ha c))) (fun c => kf (trivial))
theorem rn_if_ge (C : cxOk G own cc rm nL x) {off : Int} {tgt a : Nat} (d : dn cc pc (.ifCond .ge off) 3 nx) (ht : (pc : Int) + off = (tgt : Int)) (ha : a < 2147483648) (kt : True → VV G x n1 n2 h tgt lv (st)) (kf : False → VV G x n1 n2 h nx lv (st)) : VV G x n1 n2 h pc lv (.int (nI a) :: st) := r_if_ge C d ht (fun c => kt (trivial)) (fun c => kf ((c (nI_pos' ha))))
theorem rn_if_gt (C : cxOk G own cc rm nL x) {off : Int} {tgt a : Nat} (d : dn cc pc (.ifCond .gt off) 3 nx) (ht : (pc : Int) + off = (tgt : Int)) (ha : a < 2147483648) (kt : 0 < a → VV G x n1 n2 h tgt lv (st)) (kf : a = 0 → VV G x n1 n2 h nx lv (st)) : VV G x n1 n2 h pc lv (.int (nI a) :: st) := r_if_gt C d ht (fun c => kt ((nI_ltI (by decide : (0:Nat) < 2147483648) ha).mp c)) (fun c => kf (Nat.eq_zero_of_not_pos fun q => c ((nI_ltI (by decide : (0:Nat) < 2147483648) ha).mpr q)))
theorem rn_if_le (C : cxOk G own cc rm nL x) {off : Int} {tgt a : Nat} (d : dn cc pc (.ifCond .le off) 3 nx) (ht : (pc : Int) + off = (tgt : Int)) (ha : a < 2147483648) (kt : a = 0 → VV G x n1 n2 h tgt lv (st)) (kf : 0 < a → VV G x n1 n2 h nx lv (st)) : VV G x n1 n2 h pc lv (.int (nI a) :: st) := r_if_le C d ht (fun c => kt (Nat.le_zero.mp ((nI_leI ha (by decide : (0:Nat) < 2147483648)).mp c))) (fun c => kf (Nat.pos_of_ne_zero fun q => c (by rw [q]; exact Int32.le_refl _)))
theorem rb_if_eq (C : cxOk G own cc rm nL x) {off : Int} {tgt : Nat} {b : Bool} (d : dn cc pc (.ifCond .eq off) 3 nx) (ht : (pc : Int) + off = (tgt : Int)) (kt : b = false → VV G x n1 n2 h tgt lv (st)) (kf : b = true → VV G x n1 n2 h nx lv (st)) : VV G x n1 n2 h pc lv (.int (bI b) :: st) := r_if_eq C d ht (fun c => kt ((bI_eq0 b).mp c)) (fun c => kf ((bI_ne0 b).mp c))
theorem rb_if_ne (C : cxOk G own cc rm nL x) {off : Int} {tgt : Nat} {b : Bool} (d : dn cc pc (.ifCond .ne off) 3 nx) (ht : (pc : Int) + off = (tgt : Int)) (kt : b = true → VV G x n1 n2 h tgt lv (st)) (kf : b = false → VV G x n1 n2 h nx lv (st)) : VV G x n1 n2 h pc lv (.int (bI b) :: st) := r_if_ne C d ht (fun c => kt ((bI_ne0 b).mp c)) (fun c => kf ((bI_eq0 b).mp (Classical.not_not.mp c)))
theorem rn_i2l (C : cxOk G own cc rm nL x) {a : Nat} (d : dn cc pc .i2l 1 nx) (ha : a < 2147483648) (kk : VV G x n1 n2 h nx lv (.long (lN a) :: st)) : VV G x n1 n2 h pc lv (.int (nI a) :: st) := r_i2l C d (by rw [nI_l ha]; exact kk)
theorem rn_l2i (C : cxOk G own cc rm nL x) {a : Nat} (d : dn cc pc .l2i 1 nx) (kk : VV G x n1 n2 h nx lv (.int (nI a) :: st)) : VV G x n1 n2 h pc lv (.long (lN a) :: st) := r_l2i C d (by rw [lN_i]; exact kk)
theorem rn_lshl (C : cxOk G own cc rm nL x) {a b : Nat} (d : dn cc pc .lshl 1 nx) (hb : b < 64) (kk : VV G x n1 n2 h nx lv (.long (lN (a * 2 ^ b)) :: st)) : VV G x n1 n2 h pc lv (.int (nI b) :: .long (lN a) :: st) := r_lshl C d (by rw [lN_shl a hb]; exact kk)
theorem rn_lshr (C : cxOk G own cc rm nL x) {a b : Nat} (d : dn cc pc .lshr 1 nx) (ha : a < 9223372036854775808) (hb : b < 64) (kk : VV G x n1 n2 h nx lv (.long (lN (a / 2 ^ b)) :: st)) : VV G x n1 n2 h pc lv (.int (nI b) :: .long (lN a) :: st) := r_lshr C d (by rw [lN_shr ha hb]; exact kk)
theorem rn_lushr (C : cxOk G own cc rm nL x) {a b : Nat} (d : dn cc pc .lushr 1 nx) (ha : a < 18446744073709551616) (hb : b < 64) (kk : VV G x n1 n2 h nx lv (.long (lN (a / 2 ^ b)) :: st)) : VV G x n1 n2 h pc lv (.int (nI b) :: .long (lN a) :: st) := r_lushr C d (by rw [lN_ushr ha hb]; exact kk)
theorem rn_land (C : cxOk G own cc rm nL x) {a b : Nat} (d : dn cc pc .land 1 nx) (kk : VV G x n1 n2 h nx lv (.long (lN (a &&& b)) :: st)) : VV G x n1 n2 h pc lv (.long (lN b) :: .long (lN a) :: st) := r_land C d (by rw [lN_and]; exact kk)
theorem rn_lor (C : cxOk G own cc rm nL x) {a b : Nat} (d : dn cc pc .lor 1 nx) (kk : VV G x n1 n2 h nx lv (.long (lN (a ||| b)) :: st)) : VV G x n1 n2 h pc lv (.long (lN b) :: .long (lN a) :: st) := r_lor C d (by rw [lN_or]; exact kk)
theorem rn_lcmp (C : cxOk G own cc rm nL x) {a b : Nat} (d : dn cc pc .lcmp 1 nx) (ha : a < 9223372036854775808) (hb : b < 9223372036854775808) (kk : VV G x n1 n2 h nx lv (.int (lg_cmp (lN a) (lN b)) :: st)) : VV G x n1 n2 h pc lv (.long (lN b) :: .long (lN a) :: st) := r_lcmp C d kk
theorem r_st {st' : List Value} (e : st = st') (kk : VV G x n1 n2 h pc lv st') : VV G x n1 n2 h pc lv st := e ▸ kk
theorem r_lve {lv' : List (Nat × Value)} (e : lv = lv') (kk : VV G x n1 n2 h pc lv' st) : VV G x n1 n2 h pc lv st := e ▸ kk
theorem r_eqh {h' : hp} (e : h = h') (kk : VV G x n1 n2 h' pc lv st) : VV G x n1 n2 h pc lv st := e ▸ kk
end NROWS
end
section
/-! the reference's worlds: one object, nineteen rows; a state holds what they hold -/
abbrev mS : Type := (Nat → Nat) × (Nat → Nat → Nat) × (Nat → Nat → Bool) × (Nat → Nat → Int32)
def mK (S : mS) (k : Nat) : Nat := S.1 k
def mN (S : mS) (k i : Nat) : Nat := S.2.1 k i
def mB (S : mS) (k i : Nat) : Bool := S.2.2.1 k i
def mI (S : mS) (k i : Nat) : Int32 := S.2.2.2 k i
def uK (S : mS) (k v : Nat) : mS := (fun j => if j = k then v else S.1 j, S.2)
def uN (S : mS) (k i v : Nat) : mS := (S.1, fun j b => if j = k ∧ b = i then v else S.2.1 j b, S.2.2)
def uB (S : mS) (k i : Nat) (v : Bool) : mS := (S.1, S.2.1, fun j b => if j = k ∧ b = i then v else S.2.2.1 j b, S.2.2.2)
def uI (S : mS) (k i : Nat) (v : Int32) : mS := (S.1, S.2.1, S.2.2.1, fun j b => if j = k ∧ b = i then v else S.2.2.2 j b)
theorem mS_ext {S T : mS} (h1 : ∀ k, mK S k = mK T k) (h2 : ∀ k i, mN S k i = mN T k i) (h3 : ∀ k i, mB S k i = mB T k i) (h4 : ∀ k i, mI S k i = mI T k i) : S = T := by
  obtain ⟨a, b, c, d⟩ := S
  obtain ⟨a', b', c', d'⟩ := T
  have e1 : a = a' := funext h1
  have e2 : b = b' := funext fun k => funext fun i => h2 k i
  have e3 : c = c' := funext fun k => funext fun i => h3 k i
  have e4 : d = d' := funext fun k => funext fun i => h4 k i
  rw [e1, e2, e3, e4]
section ACC
variable (S : mS) (k i v j b : Nat) (w : Bool) (z : Int32)
theorem mK_uK : mK (uK S k v) j = if j = k then v else mK S j := rfl
theorem mN_uK : mN (uK S k v) j b = mN S j b := rfl
theorem mB_uK : mB (uK S k v) j b = mB S j b := rfl
theorem mI_uK : mI (uK S k v) j b = mI S j b := rfl
theorem mK_uN : mK (uN S k i v) j = mK S j := rfl
theorem mN_uN : mN (uN S k i v) j b = if j = k ∧ b = i then v else mN S j b := rfl
theorem mB_uN : mB (uN S k i v) j b = mB S j b := rfl
theorem mI_uN : mI (uN S k i v) j b = mI S j b := rfl
theorem mK_uB : mK (uB S k i w) j = mK S j := rfl
theorem mN_uB : mN (uB S k i w) j b = mN S j b := rfl
theorem mB_uB : mB (uB S k i w) j b = if j = k ∧ b = i then w else mB S j b := rfl
theorem mI_uB : mI (uB S k i w) j b = mI S j b := rfl
theorem mK_uI : mK (uI S k i z) j = mK S j := rfl
theorem mN_uI : mN (uI S k i z) j b = mN S j b := rfl
theorem mB_uI : mB (uI S k i z) j b = mB S j b := rfl
theorem mI_uI : mI (uI S k i z) j b = if j = k ∧ b = i then z else mI S j b := rfl
end ACC
/-- a row set whole -/
def sN (S : mS) (k : Nat) (f : Nat → Nat) : mS := (S.1, fun j => if j = k then f else S.2.1 j, S.2.2)
def sB (S : mS) (k : Nat) (f : Nat → Bool) : mS := (S.1, S.2.1, fun j => if j = k then f else S.2.2.1 j, S.2.2.2)
def sI (S : mS) (k : Nat) (f : Nat → Int32) : mS := (S.1, S.2.1, S.2.2.1, fun j => if j = k then f else S.2.2.2 j)
section ACC2
variable (S : mS) (k j b : Nat) (f : Nat → Nat) (g : Nat → Bool) (z : Nat → Int32)
theorem mK_sN : mK (sN S k f) j = mK S j := rfl
theorem mN_sN : mN (sN S k f) j b = if j = k then f b else mN S j b := by show (if j = k then f else S.2.1 j) b = _; split <;> rfl
theorem mB_sN : mB (sN S k f) j b = mB S j b := rfl
theorem mI_sN : mI (sN S k f) j b = mI S j b := rfl
theorem mK_sB : mK (sB S k g) j = mK S j := rfl
theorem mN_sB : mN (sB S k g) j b = mN S j b := rfl
theorem mB_sB : mB (sB S k g) j b = if j = k then g b else mB S j b := by show (if j = k then g else S.2.2.1 j) b = _; split <;> rfl
theorem mI_sB : mI (sB S k g) j b = mI S j b := rfl
theorem mK_sI : mK (sI S k z) j = mK S j := rfl
theorem mN_sI : mN (sI S k z) j b = mN S j b := rfl
theorem mB_sI : mB (sI S k z) j b = mB S j b := rfl
theorem mI_sI : mI (sI S k z) j b = if j = k then z b else mI S j b := by show (if j = k then z else S.2.2.2 j) b = _; split <;> rfl
end ACC2
/-- the rows' lengths, by the fields' places -/
def mlen (k : Nat) : Nat := match k with
  | 1 => 2 | 2 => 240 | 3 => 80 | 4 => 80 | 5 => 2 | 6 => 2 | 7 => 40 | 8 => 21 | 9 => 21 | 10 => 5376 | 11 => 504 | 12 => 1008 | 13 => 168 | 14 => 168 | 17 => 256 | 18 => 256 | 19 => 3 | 20 => 8 | 21 => 320 | 22 => 100 | _ => 0
/-- what kind of row: 0 no row, 1 numbers, 2 booleans, 3 long numbers, 4 ints -/
def mkind (k : Nat) : Nat := match k with
  | 1 | 2 | 3 | 4 | 8 | 13 | 14 | 21 | 22 => 1 | 5 | 6 | 9 | 10 | 17 | 18 => 2 | 7 | 12 => 3 | 11 | 19 | 20 => 4 | _ => 0
def mfs (q : Nat → Nat) (S : mS) : List Value := [.int (nI (mK S 0)), .ref (q 1), .ref (q 2), .ref (q 3), .ref (q 4), .ref (q 5), .ref (q 6), .ref (q 7), .ref (q 8), .ref (q 9), .ref (q 10), .ref (q 11), .ref (q 12), .ref (q 13), .ref (q 14), .int (nI (mK S 15)), .int (nI (mK S 16)), .ref (q 17), .ref (q 18), .ref (q 19), .ref (q 20), .ref (q 21), .ref (q 22)]
def mcell (G : eG) (S : mS) (k : Nat) : va_E := match mkind k with
  | 1 => aI G (mlen k) (fun i => nI (mN S k i))
  | 2 => aZ G (mlen k) (fun i => bI (mB S k i))
  | 3 => aJ G (mlen k) (fun i => lN (mN S k i))
  | _ => aI G (mlen k) (fun i => mI S k i)
def mo (G : eG) (q : Nat → Nat) (S : mS) (h : hp) : Prop := h (q 0) = some (oC 6 (mfs q S)) ∧ (∀ k, k ≤ 22 → mkind k ≠ 0 → h (q k) = some (mcell G S k)) ∧ ∀ i j, i ≤ 22 → j ≤ 22 → (i = 0 ∨ mkind i ≠ 0) → (j = 0 ∨ mkind j ≠ 0) → q i = q j → i = j
/-- what isn't of the reference's world stays -/
def mfr (q : Nat → Nat) (h h' : hp) : Prop := ∀ a, (∀ k, k ≤ 22 → a ≠ q k) → h' a = h a
theorem mfr_rf {q : Nat → Nat} {h : hp} : mfr q h h := fun _ _ => rfl
theorem mfr_tr {q : Nat → Nat} {h h' h'' : hp} (a : mfr q h h') (b : mfr q h' h'') : mfr q h h'' := fun x hx => (b x hx).trans (a x hx)
theorem mo_put {G : eG} {q : Nat → Nat} {S T : mS} {h : hp} (hm : mo G q S h) {k : Nat} (hk : k ≤ 22) (hk0 : mkind k ≠ 0) (hK : mfs q T = mfs q S) (ho : ∀ j, j ≤ 22 → mkind j ≠ 0 → j ≠ k → mcell G T j = mcell G S j) : mo G q T (hup h (q k) (mcell G T k)) := by
  obtain ⟨h1, h2, h3⟩ := hm
  refine ⟨?_, fun j hj hj0 => ?_, h3⟩
  · rw [hup_n (fun e => by have := h3 0 k (by omega) hk (Or.inl rfl) (Or.inr hk0) e; subst this; exact hk0 rfl), h1, hK]
  · by_cases e : j = k
    · subst e; exact hup_s
    · rw [hup_n (fun z => e (h3 j k hj hk (Or.inr hj0) (Or.inr hk0) z)), h2 j hj hj0, ho j hj hj0 e]
theorem mfr_put {q : Nat → Nat} {h0 h : hp} {k : Nat} (hk : k ≤ 22) (e : va_E) (hf : mfr q h0 h) : mfr q h0 (hup h (q k) e) := fun a ha => by
  rw [hup_n (ha k hk)]; exact hf a ha
def VM (G : eG) (x : CX) (q : Nat → Nat) (h0 : hp) (S : mS) (pc : Nat) (lv : List (Nat × Value)) (st : List Value) : Prop := ∀ h, mo G q S h → mfr q h0 h → VV G x 0 0 h pc lv st

section MROWS
variable {G : eG} {x : CX} {q : Nat → Nat} {h0 : hp} {S : mS} {pc nx : Nat} {lv : List (Nat × Value)} {st : List Value} {own : String} {cc : ByteArray} {rm : Room} {nL : Nat}
theorem m_iconst (C : cxOk G own cc rm nL x) {i : Int} {v : Int32} (d : dn cc pc (.iconst i) 1 nx) (hv : Int32.ofInt i = v) (kk : VM G x q h0 S nx lv (.int v :: st)) : VM G x q h0 S pc lv (st) := fun h hm hf => r_iconst C d hv (kk h hm hf)
theorem m_bipush (C : cxOk G own cc rm nL x) {i : Int} {v : Int32} (d : dn cc pc (.bipush i) 2 nx) (hv : (Int8.ofInt i).toInt32 = v) (kk : VM G x q h0 S nx lv (.int v :: st)) : VM G x q h0 S pc lv (st) := fun h hm hf => r_bipush C d hv (kk h hm hf)
theorem m_sipush (C : cxOk G own cc rm nL x) {i : Int} {v : Int32} (d : dn cc pc (.sipush i) 3 nx) (hv : (Int16.ofInt i).toInt32 = v) (kk : VM G x q h0 S nx lv (.int v :: st)) : VM G x q h0 S pc lv (st) := fun h hm hf => r_sipush C d hv (kk h hm hf)
theorem m_lconst (C : cxOk G own cc rm nL x) {i : Fin 2} {v : Int64} (d : dn cc pc (.lconst i) 1 nx) (hv : Int64.ofNat (i : Nat) = v) (kk : VM G x q h0 S nx lv (.long v :: st)) : VM G x q h0 S pc lv (st) := fun h hm hf => r_lconst C d hv (kk h hm hf)
theorem m_null (C : cxOk G own cc rm nL x) (d : dn cc pc (.aconst_null) 1 nx)  (kk : VM G x q h0 S nx lv (.null :: st)) : VM G x q h0 S pc lv (st) := fun h hm hf => r_null C d (kk h hm hf)
theorem m_ldc (C : cxOk G own cc rm nL x) {i : Nat} {v : Int32} (d : dn cc pc (.ldc i) 2 nx) (hc : Jvm.Cond.constant own i v ∈ TB) (kk : VM G x q h0 S nx lv (.int v :: st)) : VM G x q h0 S pc lv (st) := fun h hm hf => r_ldc C d hc (kk h hm hf)
theorem m_ldc2 (C : cxOk G own cc rm nL x) {i : Nat} {v : Int64} (d : dn cc pc (.ldc2_w i) 3 nx) (hc : Jvm.Cond.constantLong own i v ∈ TB) (kk : VM G x q h0 S nx lv (.long v :: st)) : VM G x q h0 S pc lv (st) := fun h hm hf => r_ldc2 C d hc (kk h hm hf)
theorem m_iload_n (C : cxOk G own cc rm nL x) {i : Fin 4} {v : Int32} (d : dn cc pc (.iload_n i) 1 nx) (j : Nat) (hk : lv[j]? = some ((i : Nat), .int v)) (kk : VM G x q h0 S nx lv (.int v :: st)) : VM G x q h0 S pc lv (st) := fun h hm hf => r_iload_n C d j hk (kk h hm hf)
theorem m_iload (C : cxOk G own cc rm nL x) {i : Nat} {v : Int32} (d : dn cc pc (.iload i) 2 nx) (j : Nat) (hk : lv[j]? = some (i, .int v)) (kk : VM G x q h0 S nx lv (.int v :: st)) : VM G x q h0 S pc lv (st) := fun h hm hf => r_iload C d j hk (kk h hm hf)
theorem m_lload_n (C : cxOk G own cc rm nL x) {i : Fin 4} {v : Int64} (d : dn cc pc (.lload_n i) 1 nx) (j : Nat) (hk : lv[j]? = some ((i : Nat), .long v)) (kk : VM G x q h0 S nx lv (.long v :: st)) : VM G x q h0 S pc lv (st) := fun h hm hf => r_lload_n C d j hk (kk h hm hf)
theorem m_lload (C : cxOk G own cc rm nL x) {i : Nat} {v : Int64} (d : dn cc pc (.lload i) 2 nx) (j : Nat) (hk : lv[j]? = some (i, .long v)) (kk : VM G x q h0 S nx lv (.long v :: st)) : VM G x q h0 S pc lv (st) := fun h hm hf => r_lload C d j hk (kk h hm hf)
theorem m_aload_n (C : cxOk G own cc rm nL x) {i : Fin 4} {v : Nat} (d : dn cc pc (.aload_n i) 1 nx) (j : Nat) (hk : lv[j]? = some ((i : Nat), .ref v)) (kk : VM G x q h0 S nx lv (.ref v :: st)) : VM G x q h0 S pc lv (st) := fun h hm hf => r_aload_n C d j hk (kk h hm hf)
theorem m_aload (C : cxOk G own cc rm nL x) {i : Nat} {v : Nat} (d : dn cc pc (.aload i) 2 nx) (j : Nat) (hk : lv[j]? = some (i, .ref v)) (kk : VM G x q h0 S nx lv (.ref v :: st)) : VM G x q h0 S pc lv (st) := fun h hm hf => r_aload C d j hk (kk h hm hf)
theorem m_istore_n (C : cxOk G own cc rm nL x) {i : Fin 4} {v : Int32} (d : dn cc pc (.istore_n i) 1 nx) {lv' : List (Nat × Value)} (hn : (i : Nat) < nL) (hl2 : ((i : Nat), Value.int v) :: lv.filter (fun q => !(q.1 == (i : Nat)) && !(q.1 + 1 == (i : Nat) && q.2.category == 2)) = lv') (kk : VM G x q h0 S nx lv' (st)) : VM G x q h0 S pc lv (.int v :: st) := fun h hm hf => r_istore_n C d hn hl2 (kk h hm hf)
theorem m_istore (C : cxOk G own cc rm nL x) {i : Nat} {v : Int32} (d : dn cc pc (.istore i) 2 nx) {lv' : List (Nat × Value)} (hn : i < nL) (hl2 : (i, Value.int v) :: lv.filter (fun q => !(q.1 == i) && !(q.1 + 1 == i && q.2.category == 2)) = lv') (kk : VM G x q h0 S nx lv' (st)) : VM G x q h0 S pc lv (.int v :: st) := fun h hm hf => r_istore C d hn hl2 (kk h hm hf)
theorem m_astore_n (C : cxOk G own cc rm nL x) {i : Fin 4} {v : Nat} (d : dn cc pc (.astore_n i) 1 nx) {lv' : List (Nat × Value)} (hn : (i : Nat) < nL) (hl2 : ((i : Nat), Value.ref v) :: lv.filter (fun q => !(q.1 == (i : Nat)) && !(q.1 + 1 == (i : Nat) && q.2.category == 2)) = lv') (kk : VM G x q h0 S nx lv' (st)) : VM G x q h0 S pc lv (.ref v :: st) := fun h hm hf => r_astore_n C d hn hl2 (kk h hm hf)
theorem m_astore (C : cxOk G own cc rm nL x) {i : Nat} {v : Nat} (d : dn cc pc (.astore i) 2 nx) {lv' : List (Nat × Value)} (hn : i < nL) (hl2 : (i, Value.ref v) :: lv.filter (fun q => !(q.1 == i) && !(q.1 + 1 == i && q.2.category == 2)) = lv') (kk : VM G x q h0 S nx lv' (st)) : VM G x q h0 S pc lv (.ref v :: st) := fun h hm hf => r_astore C d hn hl2 (kk h hm hf)
theorem m_lstore_n (C : cxOk G own cc rm nL x) {i : Fin 4} {v : Int64} (d : dn cc pc (.lstore_n i) 1 nx) {lv' : List (Nat × Value)} (hn : (i : Nat) + 1 < nL) (hl2 : ((i : Nat), Value.long v) :: lv.filter (fun q => !(q.1 == (i : Nat)) && (!(q.1 == (i : Nat) + 1) && !(q.1 + 1 == (i : Nat) && q.2.category == 2))) = lv') (kk : VM G x q h0 S nx lv' (st)) : VM G x q h0 S pc lv (.long v :: st) := fun h hm hf => r_lstore_n C d hn hl2 (kk h hm hf)
theorem m_lstore (C : cxOk G own cc rm nL x) {i : Nat} {v : Int64} (d : dn cc pc (.lstore i) 2 nx) {lv' : List (Nat × Value)} (hn : i + 1 < nL) (hl2 : (i, Value.long v) :: lv.filter (fun q => !(q.1 == i) && (!(q.1 == i + 1) && !(q.1 + 1 == i && q.2.category == 2))) = lv') (kk : VM G x q h0 S nx lv' (st)) : VM G x q h0 S pc lv (.long v :: st) := fun h hm hf => r_lstore C d hn hl2 (kk h hm hf)
theorem m_iinc (C : cxOk G own cc rm nL x) {i : Nat} {k : Int} {a v : Int32} (d : dn cc pc (.iinc i k) 3 nx) {lv' : List (Nat × Value)} (j : Nat) (hk : lv[j]? = some (i, .int a)) (hv : a + Int32.ofInt k = v) (hn : i < nL) (hl2 : (i, Value.int v) :: lv.filter (fun q => !(q.1 == i) && !(q.1 + 1 == i && q.2.category == 2)) = lv') (kk : VM G x q h0 S nx lv' (st)) : VM G x q h0 S pc lv (st) := fun h hm hf => r_iinc C d j hk hv hn hl2 (kk h hm hf)
theorem m_iadd (C : cxOk G own cc rm nL x) {a b : Int32} (d : dn cc pc (.iadd) 1 nx)  (kk : VM G x q h0 S nx lv (.int (a + b) :: st)) : VM G x q h0 S pc lv (.int b :: .int a :: st) := fun h hm hf => r_iadd C d (kk h hm hf)
theorem m_isub (C : cxOk G own cc rm nL x) {a b : Int32} (d : dn cc pc (.isub) 1 nx)  (kk : VM G x q h0 S nx lv (.int (a - b) :: st)) : VM G x q h0 S pc lv (.int b :: .int a :: st) := fun h hm hf => r_isub C d (kk h hm hf)
theorem m_imul (C : cxOk G own cc rm nL x) {a b : Int32} (d : dn cc pc (.imul) 1 nx)  (kk : VM G x q h0 S nx lv (.int (a * b) :: st)) : VM G x q h0 S pc lv (.int b :: .int a :: st) := fun h hm hf => r_imul C d (kk h hm hf)
theorem m_iand (C : cxOk G own cc rm nL x) {a b : Int32} (d : dn cc pc (.iand) 1 nx)  (kk : VM G x q h0 S nx lv (.int (a &&& b) :: st)) : VM G x q h0 S pc lv (.int b :: .int a :: st) := fun h hm hf => r_iand C d (kk h hm hf)
theorem m_ior (C : cxOk G own cc rm nL x) {a b : Int32} (d : dn cc pc (.ior) 1 nx)  (kk : VM G x q h0 S nx lv (.int (a ||| b) :: st)) : VM G x q h0 S pc lv (.int b :: .int a :: st) := fun h hm hf => r_ior C d (kk h hm hf)
theorem m_ixor (C : cxOk G own cc rm nL x) {a b : Int32} (d : dn cc pc (.ixor) 1 nx)  (kk : VM G x q h0 S nx lv (.int (a ^^^ b) :: st)) : VM G x q h0 S pc lv (.int b :: .int a :: st) := fun h hm hf => r_ixor C d (kk h hm hf)
theorem m_ishl (C : cxOk G own cc rm nL x) {a b : Int32} (d : dn cc pc (.ishl) 1 nx)  (kk : VM G x q h0 S nx lv (.int (a <<< (b &&& 31)) :: st)) : VM G x q h0 S pc lv (.int b :: .int a :: st) := fun h hm hf => r_ishl C d (kk h hm hf)
theorem m_ishr (C : cxOk G own cc rm nL x) {a b : Int32} (d : dn cc pc (.ishr) 1 nx)  (kk : VM G x q h0 S nx lv (.int (a >>> (b &&& 31)) :: st)) : VM G x q h0 S pc lv (.int b :: .int a :: st) := fun h hm hf => r_ishr C d (kk h hm hf)
theorem m_iushr (C : cxOk G own cc rm nL x) {a b : Int32} (d : dn cc pc (.iushr) 1 nx)  (kk : VM G x q h0 S nx lv (.int (a.toUInt32 >>> (b.toUInt32 &&& Int32.toUInt32 31)).toInt32 :: st)) : VM G x q h0 S pc lv (.int b :: .int a :: st) := fun h hm hf => r_iushr C d (kk h hm hf)
theorem m_idiv (C : cxOk G own cc rm nL x) {a b : Int32} (d : dn cc pc (.idiv) 1 nx) (hb : ¬ b = 0) (kk : VM G x q h0 S nx lv (.int (a / b) :: st)) : VM G x q h0 S pc lv (.int b :: .int a :: st) := fun h hm hf => r_idiv C d hb (kk h hm hf)
theorem m_irem (C : cxOk G own cc rm nL x) {a b : Int32} (d : dn cc pc (.irem) 1 nx) (hb : ¬ b = 0) (kk : VM G x q h0 S nx lv (.int (a - a / b * b) :: st)) : VM G x q h0 S pc lv (.int b :: .int a :: st) := fun h hm hf => r_irem C d hb (kk h hm hf)
theorem m_ineg (C : cxOk G own cc rm nL x) {a : Int32} (d : dn cc pc (.ineg) 1 nx)  (kk : VM G x q h0 S nx lv (.int (-a) :: st)) : VM G x q h0 S pc lv (.int a :: st) := fun h hm hf => r_ineg C d (kk h hm hf)
theorem m_ladd (C : cxOk G own cc rm nL x) {a b : Int64} (d : dn cc pc (.ladd) 1 nx)  (kk : VM G x q h0 S nx lv (.long (a + b) :: st)) : VM G x q h0 S pc lv (.long b :: .long a :: st) := fun h hm hf => r_ladd C d (kk h hm hf)
theorem m_land (C : cxOk G own cc rm nL x) {a b : Int64} (d : dn cc pc (.land) 1 nx)  (kk : VM G x q h0 S nx lv (.long (a &&& b) :: st)) : VM G x q h0 S pc lv (.long b :: .long a :: st) := fun h hm hf => r_land C d (kk h hm hf)
theorem m_lor (C : cxOk G own cc rm nL x) {a b : Int64} (d : dn cc pc (.lor) 1 nx)  (kk : VM G x q h0 S nx lv (.long (a ||| b) :: st)) : VM G x q h0 S pc lv (.long b :: .long a :: st) := fun h hm hf => r_lor C d (kk h hm hf)
theorem m_lxor (C : cxOk G own cc rm nL x) {a b : Int64} (d : dn cc pc (.lxor) 1 nx)  (kk : VM G x q h0 S nx lv (.long (a ^^^ b) :: st)) : VM G x q h0 S pc lv (.long b :: .long a :: st) := fun h hm hf => r_lxor C d (kk h hm hf)
theorem m_lushr (C : cxOk G own cc rm nL x) {a : Int64} {b : Int32} (d : dn cc pc (.lushr) 1 nx)  (kk : VM G x q h0 S nx lv (.long (a.toUInt64 >>> (b.toInt64.toUInt64 &&& Int64.toUInt64 63)).toInt64 :: st)) : VM G x q h0 S pc lv (.int b :: .long a :: st) := fun h hm hf => r_lushr C d (kk h hm hf)
theorem m_lshl (C : cxOk G own cc rm nL x) {a : Int64} {b : Int32} (d : dn cc pc (.lshl) 1 nx)  (kk : VM G x q h0 S nx lv (.long (a <<< (b.toInt64 &&& 63)) :: st)) : VM G x q h0 S pc lv (.int b :: .long a :: st) := fun h hm hf => r_lshl C d (kk h hm hf)
theorem m_lshr (C : cxOk G own cc rm nL x) {a : Int64} {b : Int32} (d : dn cc pc (.lshr) 1 nx)  (kk : VM G x q h0 S nx lv (.long (a >>> (b.toInt64 &&& 63)) :: st)) : VM G x q h0 S pc lv (.int b :: .long a :: st) := fun h hm hf => r_lshr C d (kk h hm hf)
theorem m_lcmp (C : cxOk G own cc rm nL x) {a b : Int64} (d : dn cc pc (.lcmp) 1 nx)  (kk : VM G x q h0 S nx lv (.int (lg_cmp a b) :: st)) : VM G x q h0 S pc lv (.long b :: .long a :: st) := fun h hm hf => r_lcmp C d (kk h hm hf)
theorem m_i2l (C : cxOk G own cc rm nL x) {a : Int32} (d : dn cc pc (.i2l) 1 nx)  (kk : VM G x q h0 S nx lv (.long a.toInt64 :: st)) : VM G x q h0 S pc lv (.int a :: st) := fun h hm hf => r_i2l C d (kk h hm hf)
theorem m_l2i (C : cxOk G own cc rm nL x) {a : Int64} (d : dn cc pc (.l2i) 1 nx)  (kk : VM G x q h0 S nx lv (.int a.toInt32 :: st)) : VM G x q h0 S pc lv (.long a :: st) := fun h hm hf => r_l2i C d (kk h hm hf)
theorem m_dup (C : cxOk G own cc rm nL x) {v : Value} (d : dn cc pc (.dup) 1 nx) (hv : v.category = 1) (kk : VM G x q h0 S nx lv (v :: v :: st)) : VM G x q h0 S pc lv (v :: st) := fun h hm hf => r_dup C d hv (kk h hm hf)
theorem m_pop (C : cxOk G own cc rm nL x) {v : Value} (d : dn cc pc (.pop) 1 nx) (hv : v.category = 1) (kk : VM G x q h0 S nx lv (st)) : VM G x q h0 S pc lv (v :: st) := fun h hm hf => r_pop C d hv (kk h hm hf)
theorem m_dup2 (C : cxOk G own cc rm nL x) {v w : Value} (d : dn cc pc (.dup2) 1 nx) (hv : v.category = 1) (hw : w.category = 1) (kk : VM G x q h0 S nx lv (v :: w :: v :: w :: st)) : VM G x q h0 S pc lv (v :: w :: st) := fun h hm hf => r_dup2 C d hv hw (kk h hm hf)
theorem m_if_eq (C : cxOk G own cc rm nL x) {off : Int} {tgt : Nat} {a : Int32} (d : dn cc pc (.ifCond .eq off) 3 nx) (ht : (pc : Int) + off = (tgt : Int)) (kt : a = 0 → VM G x q h0 S tgt lv (st)) (kf : ¬ (a = 0) → VM G x q h0 S nx lv (st)) : VM G x q h0 S pc lv (.int a :: st) := fun h hm hf => r_if_eq C d ht (fun c => kt c h hm hf) (fun c => kf c h hm hf)
theorem m_if_ne (C : cxOk G own cc rm nL x) {off : Int} {tgt : Nat} {a : Int32} (d : dn cc pc (.ifCond .ne off) 3 nx) (ht : (pc : Int) + off = (tgt : Int)) (kt : ¬ a = 0 → VM G x q h0 S tgt lv (st)) (kf : ¬ (¬ a = 0) → VM G x q h0 S nx lv (st)) : VM G x q h0 S pc lv (.int a :: st) := fun h hm hf => r_if_ne C d ht (fun c => kt c h hm hf) (fun c => kf c h hm hf)
theorem m_if_lt (C : cxOk G own cc rm nL x) {off : Int} {tgt : Nat} {a : Int32} (d : dn cc pc (.ifCond .lt off) 3 nx) (ht : (pc : Int) + off = (tgt : Int)) (kt : a < 0 → VM G x q h0 S tgt lv (st)) (kf : ¬ (a < 0) → VM G x q h0 S nx lv (st)) : VM G x q h0 S pc lv (.int a :: st) := fun h hm hf => r_if_lt C d ht (fun c => kt c h hm hf) (fun c => kf c h hm hf)
theorem m_if_ge (C : cxOk G own cc rm nL x) {off : Int} {tgt : Nat} {a : Int32} (d : dn cc pc (.ifCond .ge off) 3 nx) (ht : (pc : Int) + off = (tgt : Int)) (kt : 0 ≤ a → VM G x q h0 S tgt lv (st)) (kf : ¬ (0 ≤ a) → VM G x q h0 S nx lv (st)) : VM G x q h0 S pc lv (.int a :: st) := fun h hm hf => r_if_ge C d ht (fun c => kt c h hm hf) (fun c => kf c h hm hf)
theorem m_if_gt (C : cxOk G own cc rm nL x) {off : Int} {tgt : Nat} {a : Int32} (d : dn cc pc (.ifCond .gt off) 3 nx) (ht : (pc : Int) + off = (tgt : Int)) (kt : 0 < a → VM G x q h0 S tgt lv (st)) (kf : ¬ (0 < a) → VM G x q h0 S nx lv (st)) : VM G x q h0 S pc lv (.int a :: st) := fun h hm hf => r_if_gt C d ht (fun c => kt c h hm hf) (fun c => kf c h hm hf)
theorem m_if_le (C : cxOk G own cc rm nL x) {off : Int} {tgt : Nat} {a : Int32} (d : dn cc pc (.ifCond .le off) 3 nx) (ht : (pc : Int) + off = (tgt : Int)) (kt : a ≤ 0 → VM G x q h0 S tgt lv (st)) (kf : ¬ (a ≤ 0) → VM G x q h0 S nx lv (st)) : VM G x q h0 S pc lv (.int a :: st) := fun h hm hf => r_if_le C d ht (fun c => kt c h hm hf) (fun c => kf c h hm hf)
theorem m_icmp_eq (C : cxOk G own cc rm nL x) {off : Int} {tgt : Nat} {a b : Int32} (d : dn cc pc (.if_icmp .eq off) 3 nx) (ht : (pc : Int) + off = (tgt : Int)) (kt : a = b → VM G x q h0 S tgt lv (st)) (kf : ¬ (a = b) → VM G x q h0 S nx lv (st)) : VM G x q h0 S pc lv (.int b :: .int a :: st) := fun h hm hf => r_icmp_eq C d ht (fun c => kt c h hm hf) (fun c => kf c h hm hf)
theorem m_icmp_ne (C : cxOk G own cc rm nL x) {off : Int} {tgt : Nat} {a b : Int32} (d : dn cc pc (.if_icmp .ne off) 3 nx) (ht : (pc : Int) + off = (tgt : Int)) (kt : ¬ a = b → VM G x q h0 S tgt lv (st)) (kf : ¬ (¬ a = b) → VM G x q h0 S nx lv (st)) : VM G x q h0 S pc lv (.int b :: .int a :: st) := fun h hm hf => r_icmp_ne C d ht (fun c => kt c h hm hf) (fun c => kf c h hm hf)
theorem m_icmp_lt (C : cxOk G own cc rm nL x) {off : Int} {tgt : Nat} {a b : Int32} (d : dn cc pc (.if_icmp .lt off) 3 nx) (ht : (pc : Int) + off = (tgt : Int)) (kt : a < b → VM G x q h0 S tgt lv (st)) (kf : ¬ (a < b) → VM G x q h0 S nx lv (st)) : VM G x q h0 S pc lv (.int b :: .int a :: st) := fun h hm hf => r_icmp_lt C d ht (fun c => kt c h hm hf) (fun c => kf c h hm hf)
theorem m_icmp_ge (C : cxOk G own cc rm nL x) {off : Int} {tgt : Nat} {a b : Int32} (d : dn cc pc (.if_icmp .ge off) 3 nx) (ht : (pc : Int) + off = (tgt : Int)) (kt : b ≤ a → VM G x q h0 S tgt lv (st)) (kf : ¬ (b ≤ a) → VM G x q h0 S nx lv (st)) : VM G x q h0 S pc lv (.int b :: .int a :: st) := fun h hm hf => r_icmp_ge C d ht (fun c => kt c h hm hf) (fun c => kf c h hm hf)
theorem m_icmp_gt (C : cxOk G own cc rm nL x) {off : Int} {tgt : Nat} {a b : Int32} (d : dn cc pc (.if_icmp .gt off) 3 nx) (ht : (pc : Int) + off = (tgt : Int)) (kt : b < a → VM G x q h0 S tgt lv (st)) (kf : ¬ (b < a) → VM G x q h0 S nx lv (st)) : VM G x q h0 S pc lv (.int b :: .int a :: st) := fun h hm hf => r_icmp_gt C d ht (fun c => kt c h hm hf) (fun c => kf c h hm hf)
theorem m_icmp_le (C : cxOk G own cc rm nL x) {off : Int} {tgt : Nat} {a b : Int32} (d : dn cc pc (.if_icmp .le off) 3 nx) (ht : (pc : Int) + off = (tgt : Int)) (kt : a ≤ b → VM G x q h0 S tgt lv (st)) (kf : ¬ (a ≤ b) → VM G x q h0 S nx lv (st)) : VM G x q h0 S pc lv (.int b :: .int a :: st) := fun h hm hf => r_icmp_le C d ht (fun c => kt c h hm hf) (fun c => kf c h hm hf)
theorem m_goto (C : cxOk G own cc rm nL x) {off : Int} {tgt : Nat} (d : dn cc pc (.goto off) 3 nx) (ht : (pc : Int) + off = (tgt : Int)) (kk : VM G x q h0 S tgt lv (st)) : VM G x q h0 S pc lv (st) := fun h hm hf => r_goto C d ht (kk h hm hf)
theorem mn_iadd (C : cxOk G own cc rm nL x) {a b : Nat} (d : dn cc pc .iadd 1 nx) (kk : VM G x q h0 S nx lv (.int (nI (a + b)) :: st)) : VM G x q h0 S pc lv (.int (nI b) :: .int (nI a) :: st) := fun h hm hf => rn_iadd C d (kk h hm hf)
theorem mn_isub (C : cxOk G own cc rm nL x) {a b : Nat} (d : dn cc pc .isub 1 nx) (hle : b ≤ a) (kk : VM G x q h0 S nx lv (.int (nI (a - b)) :: st)) : VM G x q h0 S pc lv (.int (nI b) :: .int (nI a) :: st) := fun h hm hf => rn_isub C d hle (kk h hm hf)
theorem mn_imul (C : cxOk G own cc rm nL x) {a b : Nat} (d : dn cc pc .imul 1 nx) (kk : VM G x q h0 S nx lv (.int (nI (a * b)) :: st)) : VM G x q h0 S pc lv (.int (nI b) :: .int (nI a) :: st) := fun h hm hf => rn_imul C d (kk h hm hf)
theorem mn_idiv (C : cxOk G own cc rm nL x) {a b : Nat} (d : dn cc pc .idiv 1 nx) (ha : a < 2147483648) (hz : 0 < b) (hb : b < 2147483648) (kk : VM G x q h0 S nx lv (.int (nI (a / b)) :: st)) : VM G x q h0 S pc lv (.int (nI b) :: .int (nI a) :: st) := fun h hm hf => rn_idiv C d ha hz hb (kk h hm hf)
theorem mn_irem (C : cxOk G own cc rm nL x) {a b : Nat} (d : dn cc pc .irem 1 nx) (ha : a < 2147483648) (hz : 0 < b) (hb : b < 2147483648) (kk : VM G x q h0 S nx lv (.int (nI (a % b)) :: st)) : VM G x q h0 S pc lv (.int (nI b) :: .int (nI a) :: st) := fun h hm hf => rn_irem C d ha hz hb (kk h hm hf)
theorem mn_iand (C : cxOk G own cc rm nL x) {a b : Nat} (d : dn cc pc .iand 1 nx) (kk : VM G x q h0 S nx lv (.int (nI (a &&& b)) :: st)) : VM G x q h0 S pc lv (.int (nI b) :: .int (nI a) :: st) := fun h hm hf => rn_iand C d (kk h hm hf)
theorem mn_ior (C : cxOk G own cc rm nL x) {a b : Nat} (d : dn cc pc .ior 1 nx) (kk : VM G x q h0 S nx lv (.int (nI (a ||| b)) :: st)) : VM G x q h0 S pc lv (.int (nI b) :: .int (nI a) :: st) := fun h hm hf => rn_ior C d (kk h hm hf)
theorem mn_ishl (C : cxOk G own cc rm nL x) {a b : Nat} (d : dn cc pc .ishl 1 nx) (hb : b < 32) (kk : VM G x q h0 S nx lv (.int (nI (a * 2 ^ b)) :: st)) : VM G x q h0 S pc lv (.int (nI b) :: .int (nI a) :: st) := fun h hm hf => rn_ishl C d hb (kk h hm hf)
theorem mn_ishr (C : cxOk G own cc rm nL x) {a b : Nat} (d : dn cc pc .ishr 1 nx) (ha : a < 2147483648) (hb : b < 32) (kk : VM G x q h0 S nx lv (.int (nI (a / 2 ^ b)) :: st)) : VM G x q h0 S pc lv (.int (nI b) :: .int (nI a) :: st) := fun h hm hf => rn_ishr C d ha hb (kk h hm hf)
theorem mn_iushr (C : cxOk G own cc rm nL x) {a b : Nat} (d : dn cc pc .iushr 1 nx) (ha : a < 4294967296) (hb : b < 32) (kk : VM G x q h0 S nx lv (.int (nI (a / 2 ^ b)) :: st)) : VM G x q h0 S pc lv (.int (nI b) :: .int (nI a) :: st) := fun h hm hf => rn_iushr C d ha hb (kk h hm hf)
theorem mn_iinc (C : cxOk G own cc rm nL x) {i a b : Nat} {k : Int} {lv' : List (Nat × Value)} (d : dn cc pc (.iinc i k) 3 nx) (j : Nat) (hk : lv[j]? = some (i, .int (nI a))) (hv : nI a + Int32.ofInt k = nI b) (hn : i < nL) (hl2 : (i, Value.int (nI b)) :: lv.filter (fun q => !(q.1 == i) && !(q.1 + 1 == i && q.2.category == 2)) = lv') (kk : VM G x q h0 S nx lv' (st)) : VM G x q h0 S pc lv (st) := fun h hm hf => rn_iinc C d j hk hv hn hl2 (kk h hm hf)
theorem mn_icmp_eq (C : cxOk G own cc rm nL x) {off : Int} {tgt a b : Nat} (d : dn cc pc (.if_icmp .eq off) 3 nx) (ht : (pc : Int) + off = (tgt : Int)) (ha : a < 2147483648) (hb : b < 2147483648) (kt : a = b → VM G x q h0 S tgt lv (st)) (kf : ¬ a = b → VM G x q h0 S nx lv (st)) : VM G x q h0 S pc lv (.int (nI b) :: .int (nI a) :: st) := fun h hm hf => rn_icmp_eq C d ht ha hb (fun c => kt c h hm hf) (fun c => kf c h hm hf)
theorem mn_icmp_ne (C : cxOk G own cc rm nL x) {off : Int} {tgt a b : Nat} (d : dn cc pc (.if_icmp .ne off) 3 nx) (ht : (pc : Int) + off = (tgt : Int)) (ha : a < 2147483648) (hb : b < 2147483648) (kt : ¬ a = b → VM G x q h0 S tgt lv (st)) (kf : a = b → VM G x q h0 S nx lv (st)) : VM G x q h0 S pc lv (.int (nI b) :: .int (nI a) :: st) := fun h hm hf => rn_icmp_ne C d ht ha hb (fun c => kt c h hm hf) (fun c => kf c h hm hf)
theorem mn_icmp_lt (C : cxOk G own cc rm nL x) {off : Int} {tgt a b : Nat} (d : dn cc pc (.if_icmp .lt off) 3 nx) (ht : (pc : Int) + off = (tgt : Int)) (ha : a < 2147483648) (hb : b < 2147483648) (kt : a < b → VM G x q h0 S tgt lv (st)) (kf : b ≤ a → VM G x q h0 S nx lv (st)) : VM G x q h0 S pc lv (.int (nI b) :: .int (nI a) :: st) := fun h hm hf => rn_icmp_lt C d ht ha hb (fun c => kt c h hm hf) (fun c => kf c h hm hf)
theorem mn_icmp_ge (C : cxOk G own cc rm nL x) {off : Int} {tgt a b : Nat} (d : dn cc pc (.if_icmp .ge off) 3 nx) (ht : (pc : Int) + off = (tgt : Int)) (ha : a < 2147483648) (hb : b < 2147483648) (kt : b ≤ a → VM G x q h0 S tgt lv (st)) (kf : a < b → VM G x q h0 S nx lv (st)) : VM G x q h0 S pc lv (.int (nI b) :: .int (nI a) :: st) := fun h hm hf => rn_icmp_ge C d ht ha hb (fun c => kt c h hm hf) (fun c => kf c h hm hf)
theorem mn_icmp_gt (C : cxOk G own cc rm nL x) {off : Int} {tgt a b : Nat} (d : dn cc pc (.if_icmp .gt off) 3 nx) (ht : (pc : Int) + off = (tgt : Int)) (ha : a < 2147483648) (hb : b < 2147483648) (kt : b < a → VM G x q h0 S tgt lv (st)) (kf : a ≤ b → VM G x q h0 S nx lv (st)) : VM G x q h0 S pc lv (.int (nI b) :: .int (nI a) :: st) := fun h hm hf => rn_icmp_gt C d ht ha hb (fun c => kt c h hm hf) (fun c => kf c h hm hf)
theorem mn_icmp_le (C : cxOk G own cc rm nL x) {off : Int} {tgt a b : Nat} (d : dn cc pc (.if_icmp .le off) 3 nx) (ht : (pc : Int) + off = (tgt : Int)) (ha : a < 2147483648) (hb : b < 2147483648) (kt : a ≤ b → VM G x q h0 S tgt lv (st)) (kf : b < a → VM G x q h0 S nx lv (st)) : VM G x q h0 S pc lv (.int (nI b) :: .int (nI a) :: st) := fun h hm hf => rn_icmp_le C d ht ha hb (fun c => kt c h hm hf) (fun c => kf c h hm hf)
theorem mn_if_eq (C : cxOk G own cc rm nL x) {off : Int} {tgt a : Nat} (d : dn cc pc (.ifCond .eq off) 3 nx) (ht : (pc : Int) + off = (tgt : Int)) (ha : a < 2147483648) (kt : a = 0 → VM G x q h0 S tgt lv (st)) (kf : 0 < a → VM G x q h0 S nx lv (st)) : VM G x q h0 S pc lv (.int (nI a) :: st) := fun h hm hf => rn_if_eq C d ht ha (fun c => kt c h hm hf) (fun c => kf c h hm hf)
theorem mn_if_ne (C : cxOk G own cc rm nL x) {off : Int} {tgt a : Nat} (d : dn cc pc (.ifCond .ne off) 3 nx) (ht : (pc : Int) + off = (tgt : Int)) (ha : a < 2147483648) (kt : 0 < a → VM G x q h0 S tgt lv (st)) (kf : a = 0 → VM G x q h0 S nx lv (st)) : VM G x q h0 S pc lv (.int (nI a) :: st) := fun h hm hf => rn_if_ne C d ht ha (fun c => kt c h hm hf) (fun c => kf c h hm hf)
theorem mn_if_lt (C : cxOk G own cc rm nL x) {off : Int} {tgt a : Nat} (d : dn cc pc (.ifCond .lt off) 3 nx) (ht : (pc : Int) + off = (tgt : Int)) (ha : a < 2147483648) (kt : False → VM G x q h0 S tgt lv (st)) (kf : True → VM G x q h0 S nx lv (st)) : VM G x q h0 S pc lv (.int (nI a) :: st) := fun h hm hf => rn_if_lt C d ht ha (fun c => kt c h hm hf) (fun c => kf c h hm hf)
theorem mn_if_ge (C : cxOk G own cc rm nL x) {off : Int} {tgt a : Nat} (d : dn cc pc (.ifCond .ge off) 3 nx) (ht : (pc : Int) + off = (tgt : Int)) (ha : a < 2147483648) (kt : True → VM G x q h0 S tgt lv (st)) (kf : False → VM G x q h0 S nx lv (st)) : VM G x q h0 S pc lv (.int (nI a) :: st) := fun h hm hf => rn_if_ge C d ht ha (fun c => kt c h hm hf) (fun c => kf c h hm hf)
theorem mn_if_gt (C : cxOk G own cc rm nL x) {off : Int} {tgt a : Nat} (d : dn cc pc (.ifCond .gt off) 3 nx) (ht : (pc : Int) + off = (tgt : Int)) (ha : a < 2147483648) (kt : 0 < a → VM G x q h0 S tgt lv (st)) (kf : a = 0 → VM G x q h0 S nx lv (st)) : VM G x q h0 S pc lv (.int (nI a) :: st) := fun h hm hf => rn_if_gt C d ht ha (fun c => kt c h hm hf) (fun c => kf c h hm hf)
theorem mn_if_le (C : cxOk G own cc rm nL x) {off : Int} {tgt a : Nat} (d : dn cc pc (.ifCond .le off) 3 nx) (ht : (pc : Int) + off = (tgt : Int)) (ha : a < 2147483648) (kt : a = 0 → VM G x q h0 S tgt lv (st)) (kf : 0 < a → VM G x q h0 S nx lv (st)) : VM G x q h0 S pc lv (.int (nI a) :: st) := fun h hm hf => rn_if_le C d ht ha (fun c => kt c h hm hf) (fun c => kf c h hm hf)
theorem mb_if_eq (C : cxOk G own cc rm nL x) {off : Int} {tgt : Nat} {b : Bool} (d : dn cc pc (.ifCond .eq off) 3 nx) (ht : (pc : Int) + off = (tgt : Int)) (kt : b = false → VM G x q h0 S tgt lv (st)) (kf : b = true → VM G x q h0 S nx lv (st)) : VM G x q h0 S pc lv (.int (bI b) :: st) := fun h hm hf => rb_if_eq C d ht (fun c => kt c h hm hf) (fun c => kf c h hm hf)
theorem mb_if_ne (C : cxOk G own cc rm nL x) {off : Int} {tgt : Nat} {b : Bool} (d : dn cc pc (.ifCond .ne off) 3 nx) (ht : (pc : Int) + off = (tgt : Int)) (kt : b = true → VM G x q h0 S tgt lv (st)) (kf : b = false → VM G x q h0 S nx lv (st)) : VM G x q h0 S pc lv (.int (bI b) :: st) := fun h hm hf => rb_if_ne C d ht (fun c => kt c h hm hf) (fun c => kf c h hm hf)
theorem mn_i2l (C : cxOk G own cc rm nL x) {a : Nat} (d : dn cc pc .i2l 1 nx) (ha : a < 2147483648) (kk : VM G x q h0 S nx lv (.long (lN a) :: st)) : VM G x q h0 S pc lv (.int (nI a) :: st) := fun h hm hf => rn_i2l C d ha (kk h hm hf)
theorem mn_l2i (C : cxOk G own cc rm nL x) {a : Nat} (d : dn cc pc .l2i 1 nx) (kk : VM G x q h0 S nx lv (.int (nI a) :: st)) : VM G x q h0 S pc lv (.long (lN a) :: st) := fun h hm hf => rn_l2i C d (kk h hm hf)
theorem mn_lshl (C : cxOk G own cc rm nL x) {a b : Nat} (d : dn cc pc .lshl 1 nx) (hb : b < 64) (kk : VM G x q h0 S nx lv (.long (lN (a * 2 ^ b)) :: st)) : VM G x q h0 S pc lv (.int (nI b) :: .long (lN a) :: st) := fun h hm hf => rn_lshl C d hb (kk h hm hf)
theorem mn_lshr (C : cxOk G own cc rm nL x) {a b : Nat} (d : dn cc pc .lshr 1 nx) (ha : a < 9223372036854775808) (hb : b < 64) (kk : VM G x q h0 S nx lv (.long (lN (a / 2 ^ b)) :: st)) : VM G x q h0 S pc lv (.int (nI b) :: .long (lN a) :: st) := fun h hm hf => rn_lshr C d ha hb (kk h hm hf)
theorem mn_lushr (C : cxOk G own cc rm nL x) {a b : Nat} (d : dn cc pc .lushr 1 nx) (ha : a < 18446744073709551616) (hb : b < 64) (kk : VM G x q h0 S nx lv (.long (lN (a / 2 ^ b)) :: st)) : VM G x q h0 S pc lv (.int (nI b) :: .long (lN a) :: st) := fun h hm hf => rn_lushr C d ha hb (kk h hm hf)
theorem mn_land (C : cxOk G own cc rm nL x) {a b : Nat} (d : dn cc pc .land 1 nx) (kk : VM G x q h0 S nx lv (.long (lN (a &&& b)) :: st)) : VM G x q h0 S pc lv (.long (lN b) :: .long (lN a) :: st) := fun h hm hf => rn_land C d (kk h hm hf)
theorem mn_lor (C : cxOk G own cc rm nL x) {a b : Nat} (d : dn cc pc .lor 1 nx) (kk : VM G x q h0 S nx lv (.long (lN (a ||| b)) :: st)) : VM G x q h0 S pc lv (.long (lN b) :: .long (lN a) :: st) := fun h hm hf => rn_lor C d (kk h hm hf)
theorem mn_lcmp (C : cxOk G own cc rm nL x) {a b : Nat} (d : dn cc pc .lcmp 1 nx) (ha : a < 9223372036854775808) (hb : b < 9223372036854775808) (kk : VM G x q h0 S nx lv (.int (lg_cmp (lN a) (lN b)) :: st)) : VM G x q h0 S pc lv (.long (lN b) :: .long (lN a) :: st) := fun h hm hf => rn_lcmp C d ha hb (kk h hm hf)
theorem m_eq {S' : mS} (e : S = S') (kk : VM G x q h0 S' pc lv st) : VM G x q h0 S pc lv st := e ▸ kk
theorem m_lv {lv' : List (Nat × Value)} (ks : List Nat) (hl2 : lv_pick lv ks = lv') (kk : VM G x q h0 S pc lv' st) : VM G x q h0 S pc lv st := fun h hm hf => r_lv ks hl2 (kk h hm hf)
theorem m_get (C : cxOk G own cc rm nL x) {i k : Nat} {v : Value} (d : dn cc pc (.getfield i) 3 nx) (F : fdOk own i 6 k) (hv : (mfs q S)[k]? = some v) (kk : VM G x q h0 S nx lv (v :: st)) : VM G x q h0 S pc lv (.ref (q 0) :: st) := fun h hm hf => r_get C d F hm.1 hv (kk h hm hf)
theorem m_putK (C : cxOk G own cc rm nL x) {i k v : Nat} (d : dn cc pc (.putfield i) 3 nx) (F : pfOk own i 6 k .int false) (hk : k < 23) (hs : ∀ q S, (mfs q S).set k (.int (nI v)) = mfs q (uK S k v)) (kk : VM G x q h0 (uK S k v) nx lv st) : VM G x q h0 S pc lv (.int (nI v) :: .ref (q 0) :: st) := fun h hm hf => r_put C d F hm.1 rfl rfl (by exact hk) (hs q S) (kk _ ⟨hup_s, fun j hj hj0 => by
    rw [hup_n (fun e => by have := hm.2.2 j 0 hj (by omega) (Or.inr hj0) (Or.inl rfl) e; subst this; exact hj0 rfl), hm.2.1 j hj hj0]; rfl, hm.2.2⟩ (mfr_put (k := 0) (by omega) _ hf))
theorem m_ald (C : cxOk G own cc rm nL x) {k i : Nat} (d : dn cc pc .iaload 1 nx) (hk : k ≤ 22) (hkk : mkind k = 1) (hi : i < mlen k) (hn : mlen k < 2147483648) (kk : VM G x q h0 S nx lv (.int (nI (mN S k i)) :: st)) : VM G x q h0 S pc lv (.int (nI i) :: .ref (q k) :: st) := fun h hm hf => r_iald (f := fun i => nI (mN S k i)) C d (by rw [hm.2.1 k hk (by rw [hkk]; decide)]; simp only [mcell, hkk]) hi hn (kk h hm hf)
theorem m_aldI (C : cxOk G own cc rm nL x) {k i : Nat} (d : dn cc pc .iaload 1 nx) (hk : k ≤ 22) (hkk : mkind k = 4) (hi : i < mlen k) (hn : mlen k < 2147483648) (kk : VM G x q h0 S nx lv (.int (mI S k i) :: st)) : VM G x q h0 S pc lv (.int (nI i) :: .ref (q k) :: st) := fun h hm hf => r_iald (f := fun i => mI S k i) C d (by rw [hm.2.1 k hk (by rw [hkk]; decide)]; simp only [mcell, hkk]) hi hn (kk h hm hf)
theorem m_zld (C : cxOk G own cc rm nL x) {k i : Nat} (d : dn cc pc .baload 1 nx) (hk : k ≤ 22) (hkk : mkind k = 2) (hi : i < mlen k) (hn : mlen k < 2147483648) (kk : VM G x q h0 S nx lv (.int (bI (mB S k i)) :: st)) : VM G x q h0 S pc lv (.int (nI i) :: .ref (q k) :: st) := fun h hm hf => r_zald (f := fun i => bI (mB S k i)) C d (by rw [hm.2.1 k hk (by rw [hkk]; decide)]; simp only [mcell, hkk]) hi hn (kk h hm hf)
theorem m_lld (C : cxOk G own cc rm nL x) {k i : Nat} (d : dn cc pc .laload 1 nx) (hk : k ≤ 22) (hkk : mkind k = 3) (hi : i < mlen k) (hn : mlen k < 2147483648) (kk : VM G x q h0 S nx lv (.long (lN (mN S k i)) :: st)) : VM G x q h0 S pc lv (.int (nI i) :: .ref (q k) :: st) := fun h hm hf => r_lald (f := fun i => lN (mN S k i)) C d (by rw [hm.2.1 k hk (by rw [hkk]; decide)]; simp only [mcell, hkk]) hi hn (kk h hm hf)
theorem mc_N {S : mS} {k i v : Nat} (hkk : mkind k = 1) : mcell G (uN S k i v) k = aI G (mlen k) (upd (fun i => nI (mN S k i)) i (nI v)) := by
  simp only [mcell, hkk]
  congr 3
  funext b
  rw [mN_uN]
  by_cases e : b = i <;> simp [upd, e]
theorem mc_J {S : mS} {k i v : Nat} (hkk : mkind k = 3) : mcell G (uN S k i v) k = aJ G (mlen k) (vp_updL (fun i => lN (mN S k i)) i (lN v)) := by
  simp only [mcell, hkk]
  congr 4
  funext b
  rw [mN_uN]
  by_cases e : b = i <;> simp [vp_updL, e]
theorem mc_B {S : mS} {k i : Nat} {v : Bool} (hkk : mkind k = 2) : mcell G (uB S k i v) k = aZ G (mlen k) (upd (fun i => bI (mB S k i)) i (bI v)) := by
  simp only [mcell, hkk]
  congr 3
  funext b
  rw [mB_uB]
  by_cases e : b = i <;> simp [upd, e]
theorem mc_I {S : mS} {k i : Nat} {v : Int32} (hkk : mkind k = 4) : mcell G (uI S k i v) k = aI G (mlen k) (upd (fun i => mI S k i) i v) := by
  simp only [mcell, hkk]
  congr 3
  funext b
  rw [mI_uI]
  by_cases e : b = i <;> simp [upd, e]
theorem mc_oN {S : mS} {k i v j : Nat} (h : j ≠ k) : mcell G (uN S k i v) j = mcell G S j := by
  unfold mcell
  simp only [mN_uN, mB_uN, mI_uN, h, false_and, if_false]
theorem mc_oB {S : mS} {k i j : Nat} {v : Bool} (h : j ≠ k) : mcell G (uB S k i v) j = mcell G S j := by
  unfold mcell
  simp only [mN_uB, mB_uB, mI_uB, h, false_and, if_false]
theorem mc_oI {S : mS} {k i j : Nat} {v : Int32} (h : j ≠ k) : mcell G (uI S k i v) j = mcell G S j := by
  unfold mcell
  simp only [mN_uI, mB_uI, mI_uI, h, false_and, if_false]
theorem m_ast (C : cxOk G own cc rm nL x) {k i v : Nat} (d : dn cc pc .iastore 1 nx) (hk : k ≤ 22) (hkk : mkind k = 1) (hi : i < mlen k) (hn : mlen k < 2147483648) (kk : VM G x q h0 (uN S k i v) nx lv st) : VM G x q h0 S pc lv (.int (nI v) :: .int (nI i) :: .ref (q k) :: st) := fun h hm hf => r_iast (f := fun i => nI (mN S k i)) C d (by rw [hm.2.1 k hk (by rw [hkk]; decide)]; simp only [mcell, hkk]) hi hn (by rw [← mc_N hkk]; exact kk _ (mo_put hm hk (by rw [hkk]; decide) rfl (fun j _ _ e => mc_oN e)) (mfr_put hk _ hf))
theorem m_lst (C : cxOk G own cc rm nL x) {k i v : Nat} (d : dn cc pc .lastore 1 nx) (hk : k ≤ 22) (hkk : mkind k = 3) (hi : i < mlen k) (hn : mlen k < 2147483648) (kk : VM G x q h0 (uN S k i v) nx lv st) : VM G x q h0 S pc lv (.long (lN v) :: .int (nI i) :: .ref (q k) :: st) := fun h hm hf => r_last (f := fun i => lN (mN S k i)) C d (by rw [hm.2.1 k hk (by rw [hkk]; decide)]; simp only [mcell, hkk]) hi hn (by rw [← mc_J hkk]; exact kk _ (mo_put hm hk (by rw [hkk]; decide) rfl (fun j _ _ e => mc_oN e)) (mfr_put hk _ hf))
theorem m_zst (C : cxOk G own cc rm nL x) {k i : Nat} {v : Bool} (d : dn cc pc .bastore 1 nx) (hk : k ≤ 22) (hkk : mkind k = 2) (hi : i < mlen k) (hn : mlen k < 2147483648) (kk : VM G x q h0 (uB S k i v) nx lv st) : VM G x q h0 S pc lv (.int (bI v) :: .int (nI i) :: .ref (q k) :: st) := fun h hm hf => r_zast (f := fun i => bI (mB S k i)) C d (by rw [hm.2.1 k hk (by rw [hkk]; decide)]; simp only [mcell, hkk]) hi hn (bI_nar v) (by rw [← mc_B hkk]; exact kk _ (mo_put hm hk (by rw [hkk]; decide) rfl (fun j _ _ e => mc_oB e)) (mfr_put hk _ hf))
theorem m_astI (C : cxOk G own cc rm nL x) {k i : Nat} {v : Int32} (d : dn cc pc .iastore 1 nx) (hk : k ≤ 22) (hkk : mkind k = 4) (hi : i < mlen k) (hn : mlen k < 2147483648) (kk : VM G x q h0 (uI S k i v) nx lv st) : VM G x q h0 S pc lv (.int v :: .int (nI i) :: .ref (q k) :: st) := fun h hm hf => r_iast (f := fun i => mI S k i) C d (by rw [hm.2.1 k hk (by rw [hkk]; decide)]; simp only [mcell, hkk]) hi hn (by rw [← mc_I hkk]; exact kk _ (mo_put hm hk (by rw [hkk]; decide) rfl (fun j _ _ e => mc_oI e)) (mfr_put hk _ hf))
/-- a method of the reference, by its state: what it answers, what the state is then -/
def mC (y : MethodName) (b : ByteArray) (nL : Nat) (ret : Option FieldType) (rm : Room) (av : List Value) (S : mS) (post : Option Value → mS → Prop) : Prop :=
  ∀ (l : Launch) (G : eG) (q : Nat → Nat) (h : hp), mo G q S h → MC l G y b nL ret rm (.ref (q 0) :: av) h (fun v h' => ∃ T, post v T ∧ mo G q T h' ∧ mfr q h h')
/-- a static method of numbers -/
def sC (y : MethodName) (b : ByteArray) (nL : Nat) (ret : Option FieldType) (rm : Room) (av : List Value) (r : Option Value) : Prop :=
  ∀ (l : Launch) (G : eG) (h : hp), MC l G y b nL ret rm av h (fun v h' => v = r ∧ h' = h)
/-- where a method of the reference ends -/
def mEnd (G : eG) (x : CX) (q : Nat → Nat) (h0 : hp) (post : Option Value → mS → Prop) : Prop := cxR G (fun v h' => ∃ T, post v T ∧ mo G q T h' ∧ mfr q h0 h') 0 0 x
theorem mC.of {y : MethodName} {b : ByteArray} {nL fr lo : Nat} {ret : Option FieldType} {av : List Value} {S : mS} {post : Option Value → mS → Prop} (hy : plainName y.cls = true) (hlen : (lg_sl (.ref 0 :: av)).length ≤ nL)
    (body : ∀ (G : eG) (x : CX) (q : Nat → Nat) (h0 : hp), cxOk G y.cls b { frames := fr, cells := 0, slots := 0, locals := lo } nL x → mEnd G x q h0 post → cxT ret x → VM G x q h0 S 0 ((0, .ref (q 0)) :: lv_args 1 av) []) : mC y b nL ret { frames := fr, cells := 0, slots := 0, locals := lo } av S post :=
  fun l G q h hm => MC.of hy hlen (fun x C A T2 _ => body G x q h C A T2 h hm mfr_rf)
theorem sC.of {y : MethodName} {b : ByteArray} {nL fr lo : Nat} {ret : Option FieldType} {av : List Value} {r : Option Value} (hy : plainName y.cls = true) (hlen : (lg_sl av).length ≤ nL)
    (body : ∀ (G : eG) (x : CX) (h : hp), cxOk G y.cls b { frames := fr, cells := 0, slots := 0, locals := lo } nL x → cxR G (fun v h' => v = r ∧ h' = h) 0 0 x → cxT ret x → VV G x 0 0 h 0 (lv_args 0 av) []) : sC y b nL ret { frames := fr, cells := 0, slots := 0, locals := lo } av r :=
  fun l G h => MC.of hy hlen (fun x C A T2 _ => body G x h C A T2)
theorem m_iret (C : cxOk G own cc rm nL x) {post : Option Value → mS → Prop} {v : Int32} {ty : FieldType} (A : mEnd G x q h0 post) (T2 : cxT (some ty) x) (d : dn cc pc .ireturn 1 nx) (hn : narrow ty (.int v) = .int v) (e : post (some (.int v)) S) : VM G x q h0 S pc lv [.int v] := fun h hm hf => r_iret C A T2 d hn (Nat.le_refl 0) (Nat.le_refl 0) ⟨S, e, hm, hf⟩
theorem m_vret (C : cxOk G own cc rm nL x) {post : Option Value → mS → Prop} (A : mEnd G x q h0 post) (T2 : cxT none x) (d : dn cc pc .return_ 1 nx) (e : post none S) : VM G x q h0 S pc lv [] := fun h hm hf => r_vret C A T2 d (Nat.le_refl 0) (Nat.le_refl 0) ⟨S, e, hm, hf⟩
theorem m_st {st' : List Value} (e : st = st') (kk : VM G x q h0 S pc lv st') : VM G x q h0 S pc lv st := e ▸ kk
theorem m_lve {lv' : List (Nat × Value)} (e : lv = lv') (kk : VM G x q h0 S pc lv' st) : VM G x q h0 S pc lv st := e ▸ kk
variable {i n fr lo maxL : Nat} {y : MethodName} {b : ByteArray} {ret : Option FieldType} {As rest : List Value} {r : Option Value} {R0 : Room}
theorem m_callV (C : cxOk G own cc R0 nL x) {post : Option Value → mS → Prop} (d : dn cc pc (.invokevirtual i) 3 nx) (F : okV own i y b maxL ret n) (M : mC y b maxL ret { frames := fr, cells := 0, slots := 0, locals := lo } As S post) (hcy : y.cls = RX7) (hn : As.length = n) (hst : st = As.reverse ++ .ref (q 0) :: rest) (hcat : (rest.map fun v => v.category).sum ≤ 8) (hR : rmIn { frames := fr, cells := 0, slots := 0, locals := lo } R0 maxL 0 0)
    (kk : ∀ v T, post v T → VM G x q h0 T nx lv (v.toList ++ rest)) : VM G x q h0 S pc lv st := fun h hm hf => r_callV C d F (fun l _ => M l G q h hm) hm.1 rfl hcy.symm hn hst hcat hR (fun v h' ⟨T, e, hm', hf'⟩ => kk v T e h' hm' (mfr_tr hf hf'))
theorem m_callS (C : cxOk G own cc R0 nL x) (d : dn cc pc (.invokestatic i) 3 nx) (F : okS own i y b maxL ret n) (M : sC y b maxL ret { frames := fr, cells := 0, slots := 0, locals := lo } As r) (hn : As.length = n) (hst : st = As.reverse ++ rest) (hcat : (rest.map fun v => v.category).sum ≤ 8) (hR : rmIn { frames := fr, cells := 0, slots := 0, locals := lo } R0 maxL 0 0)
    (kk : VM G x q h0 S nx lv (r.toList ++ rest)) : VM G x q h0 S pc lv st := fun h hm hf => r_callS C d F (fun l _ => M l G h) hn hst hcat hR (fun v h' ⟨e, e2⟩ => by subst e; subst e2; exact kk _ hm hf)

end MROWS
end
section
theorem tw_5 : (Jvm.Cond.initialized "CorpuslineModel") ∈ TB := tb_of 5 (by decide +kernel) rfl
theorem tw_661 : (Jvm.Cond.fieldLink "CorpuslineModel" (72 : Nat) "CorpuslineModel" "thrown" "I") ∈ TB := tb_of 661 (by decide +kernel) rfl
theorem tw_663 : (Jvm.Cond.fieldLink "CorpuslineModel" (13 : Nat) "CorpuslineModel" "attributes" "[I") ∈ TB := tb_of 663 (by decide +kernel) rfl
theorem tw_669 : (Jvm.Cond.fieldLink "CorpuslineModel" (33 : Nat) "CorpuslineModel" "tests" "[I") ∈ TB := tb_of 669 (by decide +kernel) rfl
theorem tw_677 : (Jvm.Cond.fieldLink "CorpuslineModel" (98 : Nat) "CorpuslineModel" "pile" "I") ∈ TB := tb_of 677 (by decide +kernel) rfl
theorem tw_682 : (Jvm.Cond.fieldLink "CorpuslineModel" (66 : Nat) "CorpuslineModel" "lengths" "[I") ∈ TB := tb_of 682 (by decide +kernel) rfl
theorem tw_740 : (Jvm.Cond.methodLink "CorpuslineModel" (76 : Nat) ({ cls := "CorpuslineModel", name := "isIn", desc := "(III)Z" } : Jvm.MethodName)) ∈ TB := tb_of 740 (by decide +kernel) rfl
theorem tw_741 : (Jvm.Cond.static ({ cls := "CorpuslineModel", name := "isIn", desc := "(III)Z" } : Jvm.MethodName)) ∈ TB := tb_of 741 (by decide +kernel) rfl
theorem tw_742 : (Jvm.Cond.code ({ cls := "CorpuslineModel", name := "isIn", desc := "(III)Z" } : Jvm.MethodName) prog_9_method_4_code (3 : Nat) (Option.some Jvm.ClassFile.FieldType.boolean)) ∈ TB := tb_of 742 (by decide +kernel) rfl
theorem tw_879 : (Jvm.Cond.methodLink "CorpuslineModel" (137 : Nat) ({ cls := "CorpuslineModel", name := "bits", desc := "(I)I" } : Jvm.MethodName)) ∈ TB := tb_of 879 (by decide +kernel) rfl
theorem tw_880 : (Jvm.Cond.static ({ cls := "CorpuslineModel", name := "bits", desc := "(I)I" } : Jvm.MethodName)) ∈ TB := tb_of 880 (by decide +kernel) rfl
theorem tw_881 : (Jvm.Cond.code ({ cls := "CorpuslineModel", name := "bits", desc := "(I)I" } : Jvm.MethodName) prog_9_method_38_code (3 : Nat) (Option.some Jvm.ClassFile.FieldType.int)) ∈ TB := tb_of 881 (by decide +kernel) rfl
theorem cw_0 : ∀ w ∈ u_ws RX0 TX0 7, w ∈ TB := fun w hw => List.mem_filter.mpr ⟨(show ∀ w ∈ u_ws RX0 TX0 7, w ∈ lw_tbl from by decide +kernel) w hw, (show ∀ w ∈ u_ws RX0 TX0 7, goodWord w = true from by decide +kernel) w hw⟩
theorem cw_1 : ∀ w ∈ u_ws RX1 TX1 3, w ∈ TB := fun w hw => List.mem_filter.mpr ⟨(show ∀ w ∈ u_ws RX1 TX1 3, w ∈ lw_tbl from by decide +kernel) w hw, (show ∀ w ∈ u_ws RX1 TX1 3, goodWord w = true from by decide +kernel) w hw⟩
theorem cw_2 : ∀ w ∈ u_ws RX3 TX3 7, w ∈ TB := fun w hw => List.mem_filter.mpr ⟨(show ∀ w ∈ u_ws RX3 TX3 7, w ∈ lw_tbl from by decide +kernel) w hw, (show ∀ w ∈ u_ws RX3 TX3 7, goodWord w = true from by decide +kernel) w hw⟩
theorem cw_3 : ∀ w ∈ u_ws RX4 TX4 3, w ∈ TB := fun w hw => List.mem_filter.mpr ⟨(show ∀ w ∈ u_ws RX4 TX4 3, w ∈ lw_tbl from by decide +kernel) w hw, (show ∀ w ∈ u_ws RX4 TX4 3, goodWord w = true from by decide +kernel) w hw⟩
theorem cw_4 : ∀ w ∈ u_ws RX5 TX5 3, w ∈ TB := fun w hw => List.mem_filter.mpr ⟨(show ∀ w ∈ u_ws RX5 TX5 3, w ∈ lw_tbl from by decide +kernel) w hw, (show ∀ w ∈ u_ws RX5 TX5 3, goodWord w = true from by decide +kernel) w hw⟩
theorem cw_5 : ∀ w ∈ u_ws RX6 TX6 9, w ∈ TB := fun w hw => List.mem_filter.mpr ⟨(show ∀ w ∈ u_ws RX6 TX6 9, w ∈ lw_tbl from by decide +kernel) w hw, (show ∀ w ∈ u_ws RX6 TX6 9, goodWord w = true from by decide +kernel) w hw⟩
theorem cw_6 : ∀ w ∈ u_ws RX7 TX7 23, w ∈ TB := fun w hw => List.mem_filter.mpr ⟨(show ∀ w ∈ u_ws RX7 TX7 23, w ∈ lw_tbl from by decide +kernel) w hw, (show ∀ w ∈ u_ws RX7 TX7 23, goodWord w = true from by decide +kernel) w hw⟩
theorem fd_RX7_13 : fdOk RX7 13 6 2 := ⟨_, _, _, rfl, by decide, cw_6, tw_663, rfl⟩
theorem fd_RX7_33 : fdOk RX7 33 6 8 := ⟨_, _, _, rfl, by decide, cw_6, tw_669, rfl⟩
theorem fd_RX7_66 : fdOk RX7 66 6 21 := ⟨_, _, _, rfl, by decide, cw_6, tw_682, rfl⟩
theorem fd_RX7_72 : fdOk RX7 72 6 0 := ⟨_, _, _, rfl, by decide, cw_6, tw_661, rfl⟩
theorem fd_RX7_98 : fdOk RX7 98 6 16 := ⟨_, _, _, rfl, by decide, cw_6, tw_677, rfl⟩
theorem pf_RX7_72 : pfOk RX7 72 6 0 .int false := ⟨_, _, _, tyX7, rfl, by decide, cw_6, tw_661, rfl, tyX7_ok, nmX7, rfl, by decide +kernel⟩
theorem ok_RX7_76 : okS RX7 76 yX7_isIn cX7_isIn 3 (Option.some Jvm.ClassFile.FieldType.boolean) 3 := ⟨tw_740, tw_741, tw_5, tw_742, ⟨by decide, by decide, by decide +kernel⟩⟩
theorem ok_RX7_137 : okS RX7 137 yX7_bits cX7_bits 3 (Option.some Jvm.ClassFile.FieldType.int) 1 := ⟨tw_879, tw_880, tw_5, tw_881, ⟨by decide, by decide, by decide +kernel⟩⟩
def dl_X7_isIn : List (Nat × Instr × Nat) := [(0, .iload_n 0, 1), (1, .iload_n 1, 1), (2, .if_icmp .lt 12, 3), (5, .iload_n 0, 1), (6, .iload_n 2, 1), (7, .if_icmp .gt 7, 3), (10, .iconst 1, 1), (11, .goto 4, 3), (14, .iconst 0, 1), (15, .ireturn, 1)]
theorem dc_X7_isIn : dnL cX7_isIn dl_X7_isIn = true := by decide +kernel
theorem d_X7_isIn_0 : dn cX7_isIn 0 (.iload_n 0) 1 1 := dnAt dc_X7_isIn 0 rfl rfl
theorem d_X7_isIn_1 : dn cX7_isIn 1 (.iload_n 1) 1 2 := dnAt dc_X7_isIn 1 rfl rfl
theorem d_X7_isIn_2 : dn cX7_isIn 2 (.if_icmp .lt 12) 3 5 := dnAt dc_X7_isIn 2 rfl rfl
theorem d_X7_isIn_5 : dn cX7_isIn 5 (.iload_n 0) 1 6 := dnAt dc_X7_isIn 3 rfl rfl
theorem d_X7_isIn_6 : dn cX7_isIn 6 (.iload_n 2) 1 7 := dnAt dc_X7_isIn 4 rfl rfl
theorem d_X7_isIn_7 : dn cX7_isIn 7 (.if_icmp .gt 7) 3 10 := dnAt dc_X7_isIn 5 rfl rfl
theorem d_X7_isIn_10 : dn cX7_isIn 10 (.iconst 1) 1 11 := dnAt dc_X7_isIn 6 rfl rfl
theorem d_X7_isIn_11 : dn cX7_isIn 11 (.goto 4) 3 14 := dnAt dc_X7_isIn 7 rfl rfl
theorem d_X7_isIn_14 : dn cX7_isIn 14 (.iconst 0) 1 15 := dnAt dc_X7_isIn 8 rfl rfl
theorem d_X7_isIn_15 : dn cX7_isIn 15 (.ireturn) 1 16 := dnAt dc_X7_isIn 9 rfl rfl
set_option maxHeartbeats 4000000 in
set_option maxRecDepth 100000 in
theorem s_isIn (v a b : Int32) : sC yX7_isIn cX7_isIn 3 (Option.some Jvm.ClassFile.FieldType.boolean) { frames := 0, cells := 0, slots := 0, locals := 0 } [.int v, .int a, .int b] (some (.int (bI (inI v a b)))) := by
  refine sC.of (by decide) (Nat.le_of_ble_eq_true rfl) ?_
  intro G x h C A TY
  show VV G x 0 0 h 0 [(0, .int v), (1, .int a), (2, .int b)] []
  refine r_iload_n C d_X7_isIn_0 0 rfl ?_
  refine r_iload_n C d_X7_isIn_1 1 rfl ?_
  refine r_icmp_lt C d_X7_isIn_2 (tgt := 14) rfl (fun c_2 => ?_) (fun c_2 => ?_)
  · skip
    refine r_iconst C d_X7_isIn_14 (v := (bI false)) rfl ?_
    refine r_st (st' := [.int (bI (inI v a b))]) (congrArg (fun z => [Value.int (bI z)]) (by first | exact (inI_T c_2 c_7).symm | exact (inI_F (Or.inl c_2)).symm | exact (inI_F (Or.inr c_7)).symm)) ?_
    exact r_iret C A TY d_X7_isIn_15 (bI_nar _) (by decide) (by decide) (⟨rfl, rfl⟩)
  · skip
    refine r_iload_n C d_X7_isIn_5 0 rfl ?_
    refine r_iload_n C d_X7_isIn_6 2 rfl ?_
    refine r_icmp_gt C d_X7_isIn_7 (tgt := 14) rfl (fun c_7 => ?_) (fun c_7 => ?_)
    · skip
      refine r_iconst C d_X7_isIn_14 (v := (bI false)) rfl ?_
      refine r_st (st' := [.int (bI (inI v a b))]) (congrArg (fun z => [Value.int (bI z)]) (by first | exact (inI_T c_2 c_7).symm | exact (inI_F (Or.inl c_2)).symm | exact (inI_F (Or.inr c_7)).symm)) ?_
      exact r_iret C A TY d_X7_isIn_15 (bI_nar _) (by decide) (by decide) (⟨rfl, rfl⟩)
    · skip
      refine r_iconst C d_X7_isIn_10 (v := (bI true)) rfl ?_
      refine r_goto C d_X7_isIn_11 (tgt := 15) rfl ?_
      refine r_st (st' := [.int (bI (inI v a b))]) (congrArg (fun z => [Value.int (bI z)]) (by first | exact (inI_T c_2 c_7).symm | exact (inI_F (Or.inl c_2)).symm | exact (inI_F (Or.inr c_7)).symm)) ?_
      exact r_iret C A TY d_X7_isIn_15 (bI_nar _) (by decide) (by decide) (⟨rfl, rfl⟩)
def dl_X7_isSide : List (Nat × Instr × Nat) := [(0, .iload_n 0, 1), (1, .iconst 0, 1), (2, .iconst 1, 1), (3, .invokestatic 76, 3), (6, .ireturn, 1)]
theorem dc_X7_isSide : dnL cX7_isSide dl_X7_isSide = true := by decide +kernel
theorem d_X7_isSide_0 : dn cX7_isSide 0 (.iload_n 0) 1 1 := dnAt dc_X7_isSide 0 rfl rfl
theorem d_X7_isSide_1 : dn cX7_isSide 1 (.iconst 0) 1 2 := dnAt dc_X7_isSide 1 rfl rfl
theorem d_X7_isSide_2 : dn cX7_isSide 2 (.iconst 1) 1 3 := dnAt dc_X7_isSide 2 rfl rfl
theorem d_X7_isSide_3 : dn cX7_isSide 3 (.invokestatic 76) 3 6 := dnAt dc_X7_isSide 3 rfl rfl
theorem d_X7_isSide_6 : dn cX7_isSide 6 (.ireturn) 1 7 := dnAt dc_X7_isSide 4 rfl rfl
set_option maxHeartbeats 4000000 in
set_option maxRecDepth 100000 in
theorem s_isSide (v : Int32) : sC yX7_isSide cX7_isSide 1 (Option.some Jvm.ClassFile.FieldType.boolean) { frames := 1, cells := 0, slots := 0, locals := 22 } [.int v] (some (.int (bI (inR v 0 1)))) := by
  refine sC.of (by decide) (Nat.le_of_ble_eq_true rfl) ?_
  intro G x h C A TY
  show VV G x 0 0 h 0 [(0, .int v)] []
  refine r_iload_n C d_X7_isSide_0 0 rfl ?_
  refine r_iconst C d_X7_isSide_1 (v := (nI 0)) rfl ?_
  refine r_iconst C d_X7_isSide_2 (v := (nI 1)) rfl ?_
  refine r_callS C d_X7_isSide_3 ok_RX7_76 (fun l _ => s_isIn v ((nI 0)) ((nI 1)) l G h) (rest := []) rfl rfl (Nat.le_of_ble_eq_true rfl) ⟨⟨by decide, by decide⟩, by decide, by decide⟩ (fun v9 h9 e9 => ?_)
  obtain ⟨rfl, e9⟩ := e9
  refine r_eqh e9 ?_
  show VV G x 0 0 h 6 [(0, .int v)] [.int (bI (inR v 0 1))]
  exact r_iret C A TY d_X7_isSide_6 (bI_nar _) (by decide) (by decide) (⟨rfl, rfl⟩)
def dl_X7_isAttribute : List (Nat × Instr × Nat) := [(0, .iload_n 0, 1), (1, .iconst 0, 1), (2, .iconst 2, 1), (3, .invokestatic 76, 3), (6, .ireturn, 1)]
theorem dc_X7_isAttribute : dnL cX7_isAttribute dl_X7_isAttribute = true := by decide +kernel
theorem d_X7_isAttribute_0 : dn cX7_isAttribute 0 (.iload_n 0) 1 1 := dnAt dc_X7_isAttribute 0 rfl rfl
theorem d_X7_isAttribute_1 : dn cX7_isAttribute 1 (.iconst 0) 1 2 := dnAt dc_X7_isAttribute 1 rfl rfl
theorem d_X7_isAttribute_2 : dn cX7_isAttribute 2 (.iconst 2) 1 3 := dnAt dc_X7_isAttribute 2 rfl rfl
theorem d_X7_isAttribute_3 : dn cX7_isAttribute 3 (.invokestatic 76) 3 6 := dnAt dc_X7_isAttribute 3 rfl rfl
theorem d_X7_isAttribute_6 : dn cX7_isAttribute 6 (.ireturn) 1 7 := dnAt dc_X7_isAttribute 4 rfl rfl
set_option maxHeartbeats 4000000 in
set_option maxRecDepth 100000 in
theorem s_isAttribute (v : Int32) : sC yX7_isAttribute cX7_isAttribute 1 (Option.some Jvm.ClassFile.FieldType.boolean) { frames := 1, cells := 0, slots := 0, locals := 22 } [.int v] (some (.int (bI (inR v 0 2)))) := by
  refine sC.of (by decide) (Nat.le_of_ble_eq_true rfl) ?_
  intro G x h C A TY
  show VV G x 0 0 h 0 [(0, .int v)] []
  refine r_iload_n C d_X7_isAttribute_0 0 rfl ?_
  refine r_iconst C d_X7_isAttribute_1 (v := (nI 0)) rfl ?_
  refine r_iconst C d_X7_isAttribute_2 (v := (nI 2)) rfl ?_
  refine r_callS C d_X7_isAttribute_3 ok_RX7_76 (fun l _ => s_isIn v ((nI 0)) ((nI 2)) l G h) (rest := []) rfl rfl (Nat.le_of_ble_eq_true rfl) ⟨⟨by decide, by decide⟩, by decide, by decide⟩ (fun v9 h9 e9 => ?_)
  obtain ⟨rfl, e9⟩ := e9
  refine r_eqh e9 ?_
  show VV G x 0 0 h 6 [(0, .int v)] [.int (bI (inR v 0 2))]
  exact r_iret C A TY d_X7_isAttribute_6 (bI_nar _) (by decide) (by decide) (⟨rfl, rfl⟩)
def dl_X7_isLabel : List (Nat × Instr × Nat) := [(0, .iload_n 0, 1), (1, .iconst 0, 1), (2, .iconst 2, 1), (3, .invokestatic 76, 3), (6, .ireturn, 1)]
theorem dc_X7_isLabel : dnL cX7_isLabel dl_X7_isLabel = true := by decide +kernel
theorem d_X7_isLabel_0 : dn cX7_isLabel 0 (.iload_n 0) 1 1 := dnAt dc_X7_isLabel 0 rfl rfl
theorem d_X7_isLabel_1 : dn cX7_isLabel 1 (.iconst 0) 1 2 := dnAt dc_X7_isLabel 1 rfl rfl
theorem d_X7_isLabel_2 : dn cX7_isLabel 2 (.iconst 2) 1 3 := dnAt dc_X7_isLabel 2 rfl rfl
theorem d_X7_isLabel_3 : dn cX7_isLabel 3 (.invokestatic 76) 3 6 := dnAt dc_X7_isLabel 3 rfl rfl
theorem d_X7_isLabel_6 : dn cX7_isLabel 6 (.ireturn) 1 7 := dnAt dc_X7_isLabel 4 rfl rfl
set_option maxHeartbeats 4000000 in
set_option maxRecDepth 100000 in
theorem s_isLabel (v : Int32) : sC yX7_isLabel cX7_isLabel 1 (Option.some Jvm.ClassFile.FieldType.boolean) { frames := 1, cells := 0, slots := 0, locals := 22 } [.int v] (some (.int (bI (inR v 0 2)))) := by
  refine sC.of (by decide) (Nat.le_of_ble_eq_true rfl) ?_
  intro G x h C A TY
  show VV G x 0 0 h 0 [(0, .int v)] []
  refine r_iload_n C d_X7_isLabel_0 0 rfl ?_
  refine r_iconst C d_X7_isLabel_1 (v := (nI 0)) rfl ?_
  refine r_iconst C d_X7_isLabel_2 (v := (nI 2)) rfl ?_
  refine r_callS C d_X7_isLabel_3 ok_RX7_76 (fun l _ => s_isIn v ((nI 0)) ((nI 2)) l G h) (rest := []) rfl rfl (Nat.le_of_ble_eq_true rfl) ⟨⟨by decide, by decide⟩, by decide, by decide⟩ (fun v9 h9 e9 => ?_)
  obtain ⟨rfl, e9⟩ := e9
  refine r_eqh e9 ?_
  show VV G x 0 0 h 6 [(0, .int v)] [.int (bI (inR v 0 2))]
  exact r_iret C A TY d_X7_isLabel_6 (bI_nar _) (by decide) (by decide) (⟨rfl, rfl⟩)
def dl_X7_isBound : List (Nat × Instr × Nat) := [(0, .iload_n 0, 1), (1, .iconst 0, 1), (2, .iconst 2, 1), (3, .invokestatic 76, 3), (6, .ireturn, 1)]
theorem dc_X7_isBound : dnL cX7_isBound dl_X7_isBound = true := by decide +kernel
theorem d_X7_isBound_0 : dn cX7_isBound 0 (.iload_n 0) 1 1 := dnAt dc_X7_isBound 0 rfl rfl
theorem d_X7_isBound_1 : dn cX7_isBound 1 (.iconst 0) 1 2 := dnAt dc_X7_isBound 1 rfl rfl
theorem d_X7_isBound_2 : dn cX7_isBound 2 (.iconst 2) 1 3 := dnAt dc_X7_isBound 2 rfl rfl
theorem d_X7_isBound_3 : dn cX7_isBound 3 (.invokestatic 76) 3 6 := dnAt dc_X7_isBound 3 rfl rfl
theorem d_X7_isBound_6 : dn cX7_isBound 6 (.ireturn) 1 7 := dnAt dc_X7_isBound 4 rfl rfl
set_option maxHeartbeats 4000000 in
set_option maxRecDepth 100000 in
theorem s_isBound (v : Int32) : sC yX7_isBound cX7_isBound 1 (Option.some Jvm.ClassFile.FieldType.boolean) { frames := 1, cells := 0, slots := 0, locals := 22 } [.int v] (some (.int (bI (inR v 0 2)))) := by
  refine sC.of (by decide) (Nat.le_of_ble_eq_true rfl) ?_
  intro G x h C A TY
  show VV G x 0 0 h 0 [(0, .int v)] []
  refine r_iload_n C d_X7_isBound_0 0 rfl ?_
  refine r_iconst C d_X7_isBound_1 (v := (nI 0)) rfl ?_
  refine r_iconst C d_X7_isBound_2 (v := (nI 2)) rfl ?_
  refine r_callS C d_X7_isBound_3 ok_RX7_76 (fun l _ => s_isIn v ((nI 0)) ((nI 2)) l G h) (rest := []) rfl rfl (Nat.le_of_ble_eq_true rfl) ⟨⟨by decide, by decide⟩, by decide, by decide⟩ (fun v9 h9 e9 => ?_)
  obtain ⟨rfl, e9⟩ := e9
  refine r_eqh e9 ?_
  show VV G x 0 0 h 6 [(0, .int v)] [.int (bI (inR v 0 2))]
  exact r_iret C A TY d_X7_isBound_6 (bI_nar _) (by decide) (by decide) (⟨rfl, rfl⟩)
def dl_X7_holds : List (Nat × Instr × Nat) := [(0, .aload_n 0, 1), (1, .iload_n 1, 1), (2, .putfield 72, 3), (5, .iload_n 1, 1), (6, .ifCond .ne 7, 3), (9, .iconst 1, 1), (10, .goto 4, 3), (13, .iconst 0, 1), (14, .ireturn, 1)]
theorem dc_X7_holds : dnL cX7_holds dl_X7_holds = true := by decide +kernel
theorem d_X7_holds_0 : dn cX7_holds 0 (.aload_n 0) 1 1 := dnAt dc_X7_holds 0 rfl rfl
theorem d_X7_holds_1 : dn cX7_holds 1 (.iload_n 1) 1 2 := dnAt dc_X7_holds 1 rfl rfl
theorem d_X7_holds_2 : dn cX7_holds 2 (.putfield 72) 3 5 := dnAt dc_X7_holds 2 rfl rfl
theorem d_X7_holds_5 : dn cX7_holds 5 (.iload_n 1) 1 6 := dnAt dc_X7_holds 3 rfl rfl
theorem d_X7_holds_6 : dn cX7_holds 6 (.ifCond .ne 7) 3 9 := dnAt dc_X7_holds 4 rfl rfl
theorem d_X7_holds_9 : dn cX7_holds 9 (.iconst 1) 1 10 := dnAt dc_X7_holds 5 rfl rfl
theorem d_X7_holds_10 : dn cX7_holds 10 (.goto 4) 3 13 := dnAt dc_X7_holds 6 rfl rfl
theorem d_X7_holds_13 : dn cX7_holds 13 (.iconst 0) 1 14 := dnAt dc_X7_holds 7 rfl rfl
theorem d_X7_holds_14 : dn cX7_holds 14 (.ireturn) 1 15 := dnAt dc_X7_holds 8 rfl rfl
set_option maxHeartbeats 4000000 in
set_option maxRecDepth 100000 in
theorem m_holds (S : mS) (p : Nat) (hp : p < 2147483648) : mC yX7_holds cX7_holds 2 (Option.some Jvm.ClassFile.FieldType.boolean) { frames := 0, cells := 0, slots := 0, locals := 0 } [.int (nI p)] S (fun v9 T9 => v9 = (some (.int (bI (decide (p = 0))))) ∧ T9 = uK S 0 p) := by
  refine mC.of (by decide) (Nat.le_of_ble_eq_true rfl) ?_
  intro G x q h0 C A TY
  show VM G x q h0 S 0 [(0, .ref (q 0)), (1, .int (nI p))] []
  refine m_aload_n C d_X7_holds_0 0 rfl ?_
  refine m_iload_n C d_X7_holds_1 1 rfl ?_
  refine m_putK C d_X7_holds_2 pf_RX7_72 (by decide) (fun _ _ => rfl) ?_
  refine m_iload_n C d_X7_holds_5 1 rfl ?_
  refine mn_if_ne C d_X7_holds_6 (tgt := 13) rfl (by omega) (fun c_6 => ?_) (fun c_6 => ?_)
  · skip
    refine m_iconst C d_X7_holds_13 (v := (bI false)) rfl ?_
    refine m_st (st' := [.int (bI (decide (p = 0)))]) (congrArg (fun z => [Value.int (bI z)]) (by simp; omega)) ?_
    exact m_iret C A TY d_X7_holds_14 (bI_nar _) (⟨rfl, rfl⟩)
  · skip
    refine m_iconst C d_X7_holds_9 (v := (bI true)) rfl ?_
    refine m_goto C d_X7_holds_10 (tgt := 14) rfl ?_
    refine m_st (st' := [.int (bI (decide (p = 0)))]) (congrArg (fun z => [Value.int (bI z)]) (by simp; omega)) ?_
    exact m_iret C A TY d_X7_holds_14 (bI_nar _) (⟨rfl, rfl⟩)
def dl_X7_thrown : List (Nat × Instr × Nat) := [(0, .aload_n 0, 1), (1, .getfield 72, 3), (4, .ireturn, 1)]
theorem dc_X7_thrown : dnL cX7_thrown dl_X7_thrown = true := by decide +kernel
theorem d_X7_thrown_0 : dn cX7_thrown 0 (.aload_n 0) 1 1 := dnAt dc_X7_thrown 0 rfl rfl
theorem d_X7_thrown_1 : dn cX7_thrown 1 (.getfield 72) 3 4 := dnAt dc_X7_thrown 1 rfl rfl
theorem d_X7_thrown_4 : dn cX7_thrown 4 (.ireturn) 1 5 := dnAt dc_X7_thrown 2 rfl rfl
set_option maxHeartbeats 4000000 in
set_option maxRecDepth 100000 in
theorem m_thrown (S : mS) : mC yX7_thrown cX7_thrown 1 (Option.some Jvm.ClassFile.FieldType.int) { frames := 0, cells := 0, slots := 0, locals := 0 } [] S (fun v9 T9 => v9 = (some (.int (nI (mK S 0)))) ∧ T9 = S) := by
  refine mC.of (by decide) (Nat.le_of_ble_eq_true rfl) ?_
  intro G x q h0 C A TY
  show VM G x q h0 S 0 [(0, .ref (q 0))] []
  refine m_aload_n C d_X7_thrown_0 0 rfl ?_
  refine m_get C d_X7_thrown_1 fd_RX7_72 (v := .int (nI (mK S 0))) rfl ?_
  exact m_iret C A TY d_X7_thrown_4 rfl (⟨rfl, rfl⟩)
def mVal (S : mS) (s p a : Nat) : Nat := mN S 2 (3 * (40 * s + p) + a)
def dl_X7_valueOf : List (Nat × Instr × Nat) := [(0, .aload_n 0, 1), (1, .getfield 13, 3), (4, .iconst 3, 1), (5, .bipush 40, 2), (7, .iload_n 1, 1), (8, .imul, 1), (9, .iload_n 2, 1), (10, .iadd, 1), (11, .imul, 1), (12, .iload_n 3, 1), (13, .iadd, 1), (14, .iaload, 1), (15, .ireturn, 1)]
theorem dc_X7_valueOf : dnL cX7_valueOf dl_X7_valueOf = true := by decide +kernel
theorem d_X7_valueOf_0 : dn cX7_valueOf 0 (.aload_n 0) 1 1 := dnAt dc_X7_valueOf 0 rfl rfl
theorem d_X7_valueOf_1 : dn cX7_valueOf 1 (.getfield 13) 3 4 := dnAt dc_X7_valueOf 1 rfl rfl
theorem d_X7_valueOf_4 : dn cX7_valueOf 4 (.iconst 3) 1 5 := dnAt dc_X7_valueOf 2 rfl rfl
theorem d_X7_valueOf_5 : dn cX7_valueOf 5 (.bipush 40) 2 7 := dnAt dc_X7_valueOf 3 rfl rfl
theorem d_X7_valueOf_7 : dn cX7_valueOf 7 (.iload_n 1) 1 8 := dnAt dc_X7_valueOf 4 rfl rfl
theorem d_X7_valueOf_8 : dn cX7_valueOf 8 (.imul) 1 9 := dnAt dc_X7_valueOf 5 rfl rfl
theorem d_X7_valueOf_9 : dn cX7_valueOf 9 (.iload_n 2) 1 10 := dnAt dc_X7_valueOf 6 rfl rfl
theorem d_X7_valueOf_10 : dn cX7_valueOf 10 (.iadd) 1 11 := dnAt dc_X7_valueOf 7 rfl rfl
theorem d_X7_valueOf_11 : dn cX7_valueOf 11 (.imul) 1 12 := dnAt dc_X7_valueOf 8 rfl rfl
theorem d_X7_valueOf_12 : dn cX7_valueOf 12 (.iload_n 3) 1 13 := dnAt dc_X7_valueOf 9 rfl rfl
theorem d_X7_valueOf_13 : dn cX7_valueOf 13 (.iadd) 1 14 := dnAt dc_X7_valueOf 10 rfl rfl
theorem d_X7_valueOf_14 : dn cX7_valueOf 14 (.iaload) 1 15 := dnAt dc_X7_valueOf 11 rfl rfl
theorem d_X7_valueOf_15 : dn cX7_valueOf 15 (.ireturn) 1 16 := dnAt dc_X7_valueOf 12 rfl rfl
set_option maxHeartbeats 4000000 in
set_option maxRecDepth 100000 in
theorem m_valueOf (S : mS) (s p a : Nat) (hs : s < 2) (hp : p < 40) (ha : a < 3) : mC yX7_valueOf cX7_valueOf 4 (Option.some Jvm.ClassFile.FieldType.int) { frames := 0, cells := 0, slots := 0, locals := 0 } [.int (nI s), .int (nI p), .int (nI a)] S (fun v9 T9 => v9 = (some (.int (nI (mVal S s p a)))) ∧ T9 = S) := by
  refine mC.of (by decide) (Nat.le_of_ble_eq_true rfl) ?_
  intro G x q h0 C A TY
  show VM G x q h0 S 0 [(0, .ref (q 0)), (1, .int (nI s)), (2, .int (nI p)), (3, .int (nI a))] []
  refine m_aload_n C d_X7_valueOf_0 0 rfl ?_
  refine m_get C d_X7_valueOf_1 fd_RX7_13 (v := .ref (q 2)) rfl ?_
  refine m_iconst C d_X7_valueOf_4 (v := (nI 3)) rfl ?_
  refine m_bipush C d_X7_valueOf_5 (v := (nI 40)) rfl ?_
  refine m_iload_n C d_X7_valueOf_7 1 rfl ?_
  refine mn_imul C d_X7_valueOf_8 ?_
  refine m_iload_n C d_X7_valueOf_9 2 rfl ?_
  refine mn_iadd C d_X7_valueOf_10 ?_
  refine mn_imul C d_X7_valueOf_11 ?_
  refine m_iload_n C d_X7_valueOf_12 3 rfl ?_
  refine mn_iadd C d_X7_valueOf_13 ?_
  refine m_ald C d_X7_valueOf_14 (k := 2) (by decide) rfl (by show _ < 240; omega) (by decide) ?_
  refine m_st (st' := [.int (nI (mVal S s p a))]) (rfl) ?_
  exact m_iret C A TY d_X7_valueOf_15 rfl (⟨rfl, rfl⟩)
def sumTo (f : Nat → Nat) : Nat → Nat
  | 0 => 0
  | k + 1 => sumTo f k + f k
theorem sumTo_le {f : Nat → Nat} {c : Nat} : ∀ {k : Nat}, (∀ j, j < k → f j ≤ c) → sumTo f k ≤ k * c
  | 0, _ => Nat.zero_le _
  | k + 1, h => by
    have h1 := sumTo_le (k := k) (fun j hj => h j (Nat.lt_succ_of_lt hj))
    have h2 := h k (Nat.lt_succ_self k)
    rw [sumTo, Nat.succ_mul]
    omega
def mTests (S : mS) : Nat := sumTo (fun k => mN S 8 (12 + k)) (mK S 16)
def bits8 (v : Nat) : Nat := sumTo (fun k => v / 2 ^ (k + 1) % 2) 8
theorem and1 (x : Nat) : x &&& 1 = x % 2 := Nat.and_one_is_mod x
def mSize (S : mS) (r : Nat) : Nat := sumTo (fun k => bits8 (mN S 21 (40 * r + k))) 40

def dl_X7_testsInAll : List (Nat × Instr × Nat) := [(0, .iconst 0, 1), (1, .istore_n 1, 1), (2, .iconst 0, 1), (3, .istore_n 2, 1), (4, .iload_n 2, 1), (5, .aload_n 0, 1), (6, .getfield 98, 3), (9, .if_icmp .ge 21, 3), (12, .iload_n 1, 1), (13, .aload_n 0, 1), (14, .getfield 33, 3), (17, .bipush 12, 2), (19, .iload_n 2, 1), (20, .iadd, 1), (21, .iaload, 1), (22, .iadd, 1), (23, .istore_n 1, 1), (24, .iinc 2 1, 3), (27, .goto (-23), 3), (30, .iload_n 1, 1), (31, .ireturn, 1)]
theorem dc_X7_testsInAll : dnL cX7_testsInAll dl_X7_testsInAll = true := by decide +kernel
theorem d_X7_testsInAll_0 : dn cX7_testsInAll 0 (.iconst 0) 1 1 := dnAt dc_X7_testsInAll 0 rfl rfl
theorem d_X7_testsInAll_1 : dn cX7_testsInAll 1 (.istore_n 1) 1 2 := dnAt dc_X7_testsInAll 1 rfl rfl
theorem d_X7_testsInAll_2 : dn cX7_testsInAll 2 (.iconst 0) 1 3 := dnAt dc_X7_testsInAll 2 rfl rfl
theorem d_X7_testsInAll_3 : dn cX7_testsInAll 3 (.istore_n 2) 1 4 := dnAt dc_X7_testsInAll 3 rfl rfl
theorem d_X7_testsInAll_4 : dn cX7_testsInAll 4 (.iload_n 2) 1 5 := dnAt dc_X7_testsInAll 4 rfl rfl
theorem d_X7_testsInAll_5 : dn cX7_testsInAll 5 (.aload_n 0) 1 6 := dnAt dc_X7_testsInAll 5 rfl rfl
theorem d_X7_testsInAll_6 : dn cX7_testsInAll 6 (.getfield 98) 3 9 := dnAt dc_X7_testsInAll 6 rfl rfl
theorem d_X7_testsInAll_9 : dn cX7_testsInAll 9 (.if_icmp .ge 21) 3 12 := dnAt dc_X7_testsInAll 7 rfl rfl
theorem d_X7_testsInAll_12 : dn cX7_testsInAll 12 (.iload_n 1) 1 13 := dnAt dc_X7_testsInAll 8 rfl rfl
theorem d_X7_testsInAll_13 : dn cX7_testsInAll 13 (.aload_n 0) 1 14 := dnAt dc_X7_testsInAll 9 rfl rfl
theorem d_X7_testsInAll_14 : dn cX7_testsInAll 14 (.getfield 33) 3 17 := dnAt dc_X7_testsInAll 10 rfl rfl
theorem d_X7_testsInAll_17 : dn cX7_testsInAll 17 (.bipush 12) 2 19 := dnAt dc_X7_testsInAll 11 rfl rfl
theorem d_X7_testsInAll_19 : dn cX7_testsInAll 19 (.iload_n 2) 1 20 := dnAt dc_X7_testsInAll 12 rfl rfl
theorem d_X7_testsInAll_20 : dn cX7_testsInAll 20 (.iadd) 1 21 := dnAt dc_X7_testsInAll 13 rfl rfl
theorem d_X7_testsInAll_21 : dn cX7_testsInAll 21 (.iaload) 1 22 := dnAt dc_X7_testsInAll 14 rfl rfl
theorem d_X7_testsInAll_22 : dn cX7_testsInAll 22 (.iadd) 1 23 := dnAt dc_X7_testsInAll 15 rfl rfl
theorem d_X7_testsInAll_23 : dn cX7_testsInAll 23 (.istore_n 1) 1 24 := dnAt dc_X7_testsInAll 16 rfl rfl
theorem d_X7_testsInAll_24 : dn cX7_testsInAll 24 (.iinc 2 1) 3 27 := dnAt dc_X7_testsInAll 17 rfl rfl
theorem d_X7_testsInAll_27 : dn cX7_testsInAll 27 (.goto (-23)) 3 30 := dnAt dc_X7_testsInAll 18 rfl rfl
theorem d_X7_testsInAll_30 : dn cX7_testsInAll 30 (.iload_n 1) 1 31 := dnAt dc_X7_testsInAll 19 rfl rfl
theorem d_X7_testsInAll_31 : dn cX7_testsInAll 31 (.ireturn) 1 32 := dnAt dc_X7_testsInAll 20 rfl rfl
set_option maxHeartbeats 4000000 in
set_option maxRecDepth 100000 in
theorem m_testsInAll (S : mS) (hp : mK S 16 ≤ 8) : mC yX7_testsInAll cX7_testsInAll 3 (Option.some Jvm.ClassFile.FieldType.int) { frames := 0, cells := 0, slots := 0, locals := 0 } [] S (fun v9 T9 => v9 = (some (.int (nI (mTests S)))) ∧ T9 = S) := by
  refine mC.of (by decide) (Nat.le_of_ble_eq_true rfl) ?_
  intro G x q h0 C A TY
  show VM G x q h0 S 0 [(0, .ref (q 0))] []
  refine m_iconst C d_X7_testsInAll_0 (v := (nI 0)) rfl ?_
  refine m_istore_n C d_X7_testsInAll_1 (lv' := [(1, .int (nI 0)), (0, .ref (q 0))]) (by decide) rfl ?_
  refine m_iconst C d_X7_testsInAll_2 (v := (nI 0)) rfl ?_
  refine m_istore_n C d_X7_testsInAll_3 (lv' := [(2, .int (nI 0)), (1, .int (nI 0)), (0, .ref (q 0))]) (by decide) rfl ?_
  have loop_4 : ∀ (fuel : Nat) (k : Nat), (k ≤ mK S 16) → (9 - k) < fuel → VM G x q h0 S 4 [(0, .ref (q 0)), (1, .int (nI (sumTo (fun k => mN S 8 (12 + k)) k))), (2, .int (nI k))] [] := by
    intro fuel
    induction fuel with
    | zero => intro k hk hf9; exact absurd hf9 (Nat.not_lt_zero _)
    | succ fuel ih_4 =>
      intro k hk hf9
      refine m_iload_n C d_X7_testsInAll_4 2 rfl ?_
      refine m_aload_n C d_X7_testsInAll_5 0 rfl ?_
      refine m_get C d_X7_testsInAll_6 fd_RX7_98 (v := .int (nI (mK S 16))) rfl ?_
      refine mn_icmp_ge C d_X7_testsInAll_9 (tgt := 30) rfl (by omega) (by omega) (fun c_9 => ?_) (fun c_9 => ?_)
      · skip
        have e9 : k = mK S 16 := by omega
        refine m_iload_n C d_X7_testsInAll_30 1 rfl ?_
        refine m_st (st' := [.int (nI (mTests S))]) (by rw [mTests, e9]) ?_
        exact m_iret C A TY d_X7_testsInAll_31 rfl (⟨rfl, rfl⟩)
      · skip
        refine m_iload_n C d_X7_testsInAll_12 1 rfl ?_
        refine m_aload_n C d_X7_testsInAll_13 0 rfl ?_
        refine m_get C d_X7_testsInAll_14 fd_RX7_33 (v := .ref (q 8)) rfl ?_
        refine m_bipush C d_X7_testsInAll_17 (v := (nI 12)) rfl ?_
        refine m_iload_n C d_X7_testsInAll_19 2 rfl ?_
        refine mn_iadd C d_X7_testsInAll_20 ?_
        refine m_ald C d_X7_testsInAll_21 (k := 8) (by decide) rfl (by show _ < 21; omega) (by decide) ?_
        refine mn_iadd C d_X7_testsInAll_22 ?_
        refine m_istore_n C d_X7_testsInAll_23 (lv' := [(1, .int (nI ((sumTo (fun k => mN S 8 (12 + k)) k) + (mN S 8 (12 + k))))), (0, .ref (q 0)), (2, .int (nI k))]) (by decide) rfl ?_
        refine mn_iinc C d_X7_testsInAll_24 (lv' := [(2, .int (nI (k + 1))), (1, .int (nI ((sumTo (fun k => mN S 8 (12 + k)) k) + (mN S 8 (12 + k))))), (0, .ref (q 0))]) 2 rfl (nI_inc _ rfl) (by decide) rfl ?_
        refine m_goto C d_X7_testsInAll_27 (tgt := 4) rfl ?_
        refine m_lv (lv' := [(0, .ref (q 0)), (1, .int (nI ((sumTo (fun k => mN S 8 (12 + k)) k) + (mN S 8 (12 + k))))), (2, .int (nI (k + 1)))]) [2, 1, 0] rfl ?_
        refine m_lve (lv' := [(0, .ref (q 0)), (1, .int (nI (sumTo (fun k => mN S 8 (12 + k)) (k + 1)))), (2, .int (nI (k + 1)))]) (rfl) ?_
        exact ih_4 (k + 1) (by omega) (by omega)
  refine m_lv (lv' := [(0, .ref (q 0)), (1, .int (nI 0)), (2, .int (nI 0))]) [2, 1, 0] rfl ?_
  refine m_lve (lv' := [(0, .ref (q 0)), (1, .int (nI (sumTo (fun k => mN S 8 (12 + k)) 0))), (2, .int (nI 0))]) (rfl) ?_
  exact loop_4 _ 0 (by omega) (Nat.lt_succ_self _)
def dl_X7_bits : List (Nat × Instr × Nat) := [(0, .iconst 0, 1), (1, .istore_n 1, 1), (2, .iconst 1, 1), (3, .istore_n 2, 1), (4, .iload_n 2, 1), (5, .bipush 8, 2), (7, .if_icmp .gt 17, 3), (10, .iload_n 1, 1), (11, .iload_n 0, 1), (12, .iload_n 2, 1), (13, .ishr, 1), (14, .iconst 1, 1), (15, .iand, 1), (16, .iadd, 1), (17, .istore_n 1, 1), (18, .iinc 2 1, 3), (21, .goto (-17), 3), (24, .iload_n 1, 1), (25, .ireturn, 1)]
theorem dc_X7_bits : dnL cX7_bits dl_X7_bits = true := by decide +kernel
theorem d_X7_bits_0 : dn cX7_bits 0 (.iconst 0) 1 1 := dnAt dc_X7_bits 0 rfl rfl
theorem d_X7_bits_1 : dn cX7_bits 1 (.istore_n 1) 1 2 := dnAt dc_X7_bits 1 rfl rfl
theorem d_X7_bits_2 : dn cX7_bits 2 (.iconst 1) 1 3 := dnAt dc_X7_bits 2 rfl rfl
theorem d_X7_bits_3 : dn cX7_bits 3 (.istore_n 2) 1 4 := dnAt dc_X7_bits 3 rfl rfl
theorem d_X7_bits_4 : dn cX7_bits 4 (.iload_n 2) 1 5 := dnAt dc_X7_bits 4 rfl rfl
theorem d_X7_bits_5 : dn cX7_bits 5 (.bipush 8) 2 7 := dnAt dc_X7_bits 5 rfl rfl
theorem d_X7_bits_7 : dn cX7_bits 7 (.if_icmp .gt 17) 3 10 := dnAt dc_X7_bits 6 rfl rfl
theorem d_X7_bits_10 : dn cX7_bits 10 (.iload_n 1) 1 11 := dnAt dc_X7_bits 7 rfl rfl
theorem d_X7_bits_11 : dn cX7_bits 11 (.iload_n 0) 1 12 := dnAt dc_X7_bits 8 rfl rfl
theorem d_X7_bits_12 : dn cX7_bits 12 (.iload_n 2) 1 13 := dnAt dc_X7_bits 9 rfl rfl
theorem d_X7_bits_13 : dn cX7_bits 13 (.ishr) 1 14 := dnAt dc_X7_bits 10 rfl rfl
theorem d_X7_bits_14 : dn cX7_bits 14 (.iconst 1) 1 15 := dnAt dc_X7_bits 11 rfl rfl
theorem d_X7_bits_15 : dn cX7_bits 15 (.iand) 1 16 := dnAt dc_X7_bits 12 rfl rfl
theorem d_X7_bits_16 : dn cX7_bits 16 (.iadd) 1 17 := dnAt dc_X7_bits 13 rfl rfl
theorem d_X7_bits_17 : dn cX7_bits 17 (.istore_n 1) 1 18 := dnAt dc_X7_bits 14 rfl rfl
theorem d_X7_bits_18 : dn cX7_bits 18 (.iinc 2 1) 3 21 := dnAt dc_X7_bits 15 rfl rfl
theorem d_X7_bits_21 : dn cX7_bits 21 (.goto (-17)) 3 24 := dnAt dc_X7_bits 16 rfl rfl
theorem d_X7_bits_24 : dn cX7_bits 24 (.iload_n 1) 1 25 := dnAt dc_X7_bits 17 rfl rfl
theorem d_X7_bits_25 : dn cX7_bits 25 (.ireturn) 1 26 := dnAt dc_X7_bits 18 rfl rfl
set_option maxHeartbeats 4000000 in
set_option maxRecDepth 100000 in
theorem s_bits (v : Nat) (hv : v < 2147483648) : sC yX7_bits cX7_bits 3 (Option.some Jvm.ClassFile.FieldType.int) { frames := 0, cells := 0, slots := 0, locals := 0 } [.int (nI v)] (some (.int (nI (bits8 v)))) := by
  refine sC.of (by decide) (Nat.le_of_ble_eq_true rfl) ?_
  intro G x h C A TY
  show VV G x 0 0 h 0 [(0, .int (nI v))] []
  refine r_iconst C d_X7_bits_0 (v := (nI 0)) rfl ?_
  refine r_istore_n C d_X7_bits_1 (lv' := [(1, .int (nI 0)), (0, .int (nI v))]) (by decide) rfl ?_
  refine r_iconst C d_X7_bits_2 (v := (nI 1)) rfl ?_
  refine r_istore_n C d_X7_bits_3 (lv' := [(2, .int (nI 1)), (1, .int (nI 0)), (0, .int (nI v))]) (by decide) rfl ?_
  have loop_4 : ∀ (fuel : Nat) (k : Nat), (1 ≤ k ∧ k ≤ 9) → (10 - k) < fuel → VV G x 0 0 h 4 [(0, .int (nI v)), (1, .int (nI (sumTo (fun k => v / 2 ^ (k + 1) % 2) (k - 1)))), (2, .int (nI k))] [] := by
    intro fuel
    induction fuel with
    | zero => intro k hk hf9; exact absurd hf9 (Nat.not_lt_zero _)
    | succ fuel ih_4 =>
      intro k hk hf9
      refine r_iload_n C d_X7_bits_4 2 rfl ?_
      refine r_bipush C d_X7_bits_5 (v := (nI 8)) rfl ?_
      refine rn_icmp_gt C d_X7_bits_7 (tgt := 24) rfl (by omega) (by omega) (fun c_7 => ?_) (fun c_7 => ?_)
      · skip
        have e9 : k = 9 := by omega
        subst e9
        refine r_iload_n C d_X7_bits_24 1 rfl ?_
        refine r_st (st' := [.int (nI (bits8 v))]) (rfl) ?_
        exact r_iret C A TY d_X7_bits_25 rfl (by decide) (by decide) (⟨rfl, rfl⟩)
      · skip
        refine r_iload_n C d_X7_bits_10 1 rfl ?_
        refine r_iload_n C d_X7_bits_11 0 rfl ?_
        refine r_iload_n C d_X7_bits_12 2 rfl ?_
        refine rn_ishr C d_X7_bits_13 (by omega) (by omega) ?_
        refine r_iconst C d_X7_bits_14 (v := (nI 1)) rfl ?_
        refine rn_iand C d_X7_bits_15 ?_
        refine rn_iadd C d_X7_bits_16 ?_
        refine r_istore_n C d_X7_bits_17 (lv' := [(1, .int (nI ((sumTo (fun k => v / 2 ^ (k + 1) % 2) (k - 1)) + ((v / 2 ^ k) &&& 1)))), (0, .int (nI v)), (2, .int (nI k))]) (by decide) rfl ?_
        refine rn_iinc C d_X7_bits_18 (lv' := [(2, .int (nI (k + 1))), (1, .int (nI ((sumTo (fun k => v / 2 ^ (k + 1) % 2) (k - 1)) + ((v / 2 ^ k) &&& 1)))), (0, .int (nI v))]) 2 rfl (nI_inc _ rfl) (by decide) rfl ?_
        refine r_goto C d_X7_bits_21 (tgt := 4) rfl ?_
        refine r_lv (lv' := [(0, .int (nI v)), (1, .int (nI ((sumTo (fun k => v / 2 ^ (k + 1) % 2) (k - 1)) + ((v / 2 ^ k) &&& 1)))), (2, .int (nI (k + 1)))]) [2, 1, 0] rfl ?_
        refine r_lve (lv' := [(0, .int (nI v)), (1, .int (nI (sumTo (fun k => v / 2 ^ (k + 1) % 2) (k + 1 - 1)))), (2, .int (nI (k + 1)))]) (by rw [show k + 1 - 1 = (k - 1) + 1 by omega, sumTo, and1, show k - 1 + 1 = k by omega]) ?_
        exact ih_4 (k + 1) (by omega) (by omega)
  refine r_lv (lv' := [(0, .int (nI v)), (1, .int (nI 0)), (2, .int (nI 1))]) [2, 1, 0] rfl ?_
  refine r_lve (lv' := [(0, .int (nI v)), (1, .int (nI (sumTo (fun k => v / 2 ^ (k + 1) % 2) (1 - 1)))), (2, .int (nI 1))]) (rfl) ?_
  exact loop_4 _ 1 (by omega) (Nat.lt_succ_self _)
def dl_X7_sizeOf : List (Nat × Instr × Nat) := [(0, .iconst 0, 1), (1, .istore_n 2, 1), (2, .iconst 0, 1), (3, .istore_n 3, 1), (4, .iload_n 3, 1), (5, .bipush 40, 2), (7, .if_icmp .ge 26, 3), (10, .iload_n 2, 1), (11, .aload_n 0, 1), (12, .getfield 66, 3), (15, .bipush 40, 2), (17, .iload_n 1, 1), (18, .imul, 1), (19, .iload_n 3, 1), (20, .iadd, 1), (21, .iaload, 1), (22, .invokestatic 137, 3), (25, .iadd, 1), (26, .istore_n 2, 1), (27, .iinc 3 1, 3), (30, .goto (-26), 3), (33, .iload_n 2, 1), (34, .ireturn, 1)]
theorem dc_X7_sizeOf : dnL cX7_sizeOf dl_X7_sizeOf = true := by decide +kernel
theorem d_X7_sizeOf_0 : dn cX7_sizeOf 0 (.iconst 0) 1 1 := dnAt dc_X7_sizeOf 0 rfl rfl
theorem d_X7_sizeOf_1 : dn cX7_sizeOf 1 (.istore_n 2) 1 2 := dnAt dc_X7_sizeOf 1 rfl rfl
theorem d_X7_sizeOf_2 : dn cX7_sizeOf 2 (.iconst 0) 1 3 := dnAt dc_X7_sizeOf 2 rfl rfl
theorem d_X7_sizeOf_3 : dn cX7_sizeOf 3 (.istore_n 3) 1 4 := dnAt dc_X7_sizeOf 3 rfl rfl
theorem d_X7_sizeOf_4 : dn cX7_sizeOf 4 (.iload_n 3) 1 5 := dnAt dc_X7_sizeOf 4 rfl rfl
theorem d_X7_sizeOf_5 : dn cX7_sizeOf 5 (.bipush 40) 2 7 := dnAt dc_X7_sizeOf 5 rfl rfl
theorem d_X7_sizeOf_7 : dn cX7_sizeOf 7 (.if_icmp .ge 26) 3 10 := dnAt dc_X7_sizeOf 6 rfl rfl
theorem d_X7_sizeOf_10 : dn cX7_sizeOf 10 (.iload_n 2) 1 11 := dnAt dc_X7_sizeOf 7 rfl rfl
theorem d_X7_sizeOf_11 : dn cX7_sizeOf 11 (.aload_n 0) 1 12 := dnAt dc_X7_sizeOf 8 rfl rfl
theorem d_X7_sizeOf_12 : dn cX7_sizeOf 12 (.getfield 66) 3 15 := dnAt dc_X7_sizeOf 9 rfl rfl
theorem d_X7_sizeOf_15 : dn cX7_sizeOf 15 (.bipush 40) 2 17 := dnAt dc_X7_sizeOf 10 rfl rfl
theorem d_X7_sizeOf_17 : dn cX7_sizeOf 17 (.iload_n 1) 1 18 := dnAt dc_X7_sizeOf 11 rfl rfl
theorem d_X7_sizeOf_18 : dn cX7_sizeOf 18 (.imul) 1 19 := dnAt dc_X7_sizeOf 12 rfl rfl
theorem d_X7_sizeOf_19 : dn cX7_sizeOf 19 (.iload_n 3) 1 20 := dnAt dc_X7_sizeOf 13 rfl rfl
theorem d_X7_sizeOf_20 : dn cX7_sizeOf 20 (.iadd) 1 21 := dnAt dc_X7_sizeOf 14 rfl rfl
theorem d_X7_sizeOf_21 : dn cX7_sizeOf 21 (.iaload) 1 22 := dnAt dc_X7_sizeOf 15 rfl rfl
theorem d_X7_sizeOf_22 : dn cX7_sizeOf 22 (.invokestatic 137) 3 25 := dnAt dc_X7_sizeOf 16 rfl rfl
theorem d_X7_sizeOf_25 : dn cX7_sizeOf 25 (.iadd) 1 26 := dnAt dc_X7_sizeOf 17 rfl rfl
theorem d_X7_sizeOf_26 : dn cX7_sizeOf 26 (.istore_n 2) 1 27 := dnAt dc_X7_sizeOf 18 rfl rfl
theorem d_X7_sizeOf_27 : dn cX7_sizeOf 27 (.iinc 3 1) 3 30 := dnAt dc_X7_sizeOf 19 rfl rfl
theorem d_X7_sizeOf_30 : dn cX7_sizeOf 30 (.goto (-26)) 3 33 := dnAt dc_X7_sizeOf 20 rfl rfl
theorem d_X7_sizeOf_33 : dn cX7_sizeOf 33 (.iload_n 2) 1 34 := dnAt dc_X7_sizeOf 21 rfl rfl
theorem d_X7_sizeOf_34 : dn cX7_sizeOf 34 (.ireturn) 1 35 := dnAt dc_X7_sizeOf 22 rfl rfl
set_option maxHeartbeats 4000000 in
set_option maxRecDepth 100000 in
theorem m_sizeOf (S : mS) (r : Nat) (hr : r < 8) (hl : ∀ k, k < 320 → mN S 21 k < 512) : mC yX7_sizeOf cX7_sizeOf 4 (Option.some Jvm.ClassFile.FieldType.int) { frames := 1, cells := 0, slots := 0, locals := 22 } [.int (nI r)] S (fun v9 T9 => v9 = (some (.int (nI (mSize S r)))) ∧ T9 = S) := by
  refine mC.of (by decide) (Nat.le_of_ble_eq_true rfl) ?_
  intro G x q h0 C A TY
  show VM G x q h0 S 0 [(0, .ref (q 0)), (1, .int (nI r))] []
  refine m_iconst C d_X7_sizeOf_0 (v := (nI 0)) rfl ?_
  refine m_istore_n C d_X7_sizeOf_1 (lv' := [(2, .int (nI 0)), (0, .ref (q 0)), (1, .int (nI r))]) (by decide) rfl ?_
  refine m_iconst C d_X7_sizeOf_2 (v := (nI 0)) rfl ?_
  refine m_istore_n C d_X7_sizeOf_3 (lv' := [(3, .int (nI 0)), (2, .int (nI 0)), (0, .ref (q 0)), (1, .int (nI r))]) (by decide) rfl ?_
  have loop_4 : ∀ (fuel : Nat) (k : Nat), (k ≤ 40) → (41 - k) < fuel → VM G x q h0 S 4 [(0, .ref (q 0)), (1, .int (nI r)), (2, .int (nI (sumTo (fun k => bits8 (mN S 21 (40 * r + k))) k))), (3, .int (nI k))] [] := by
    intro fuel
    induction fuel with
    | zero => intro k hk hf9; exact absurd hf9 (Nat.not_lt_zero _)
    | succ fuel ih_4 =>
      intro k hk hf9
      refine m_iload_n C d_X7_sizeOf_4 3 rfl ?_
      refine m_bipush C d_X7_sizeOf_5 (v := (nI 40)) rfl ?_
      refine mn_icmp_ge C d_X7_sizeOf_7 (tgt := 33) rfl (by omega) (by omega) (fun c_7 => ?_) (fun c_7 => ?_)
      · skip
        have e9 : k = 40 := by omega
        subst e9
        refine m_iload_n C d_X7_sizeOf_33 2 rfl ?_
        refine m_st (st' := [.int (nI (mSize S r))]) (rfl) ?_
        exact m_iret C A TY d_X7_sizeOf_34 rfl (⟨rfl, rfl⟩)
      · skip
        refine m_iload_n C d_X7_sizeOf_10 2 rfl ?_
        refine m_aload_n C d_X7_sizeOf_11 0 rfl ?_
        refine m_get C d_X7_sizeOf_12 fd_RX7_66 (v := .ref (q 21)) rfl ?_
        refine m_bipush C d_X7_sizeOf_15 (v := (nI 40)) rfl ?_
        refine m_iload_n C d_X7_sizeOf_17 1 rfl ?_
        refine mn_imul C d_X7_sizeOf_18 ?_
        refine m_iload_n C d_X7_sizeOf_19 3 rfl ?_
        refine mn_iadd C d_X7_sizeOf_20 ?_
        refine m_ald C d_X7_sizeOf_21 (k := 21) (by decide) rfl (by show _ < 320; omega) (by decide) ?_
        refine m_callS C d_X7_sizeOf_22 ok_RX7_137 (s_bits (mN S 21 ((40 * r) + k)) (Nat.lt_trans (hl _ (by omega)) (by decide))) (rest := [.int (nI (sumTo (fun k => bits8 (mN S 21 (40 * r + k))) k))]) rfl rfl (Nat.le_of_ble_eq_true rfl) ⟨⟨by decide, by decide⟩, by decide, by decide⟩ ?_
        show VM G x q h0 S 25 [(0, .ref (q 0)), (1, .int (nI r)), (2, .int (nI (sumTo (fun k => bits8 (mN S 21 (40 * r + k))) k))), (3, .int (nI k))] [.int (nI (bits8 (mN S 21 ((40 * r) + k)))), .int (nI (sumTo (fun k => bits8 (mN S 21 (40 * r + k))) k))]
        refine mn_iadd C d_X7_sizeOf_25 ?_
        refine m_istore_n C d_X7_sizeOf_26 (lv' := [(2, .int (nI ((sumTo (fun k => bits8 (mN S 21 (40 * r + k))) k) + (bits8 (mN S 21 ((40 * r) + k)))))), (0, .ref (q 0)), (1, .int (nI r)), (3, .int (nI k))]) (by decide) rfl ?_
        refine mn_iinc C d_X7_sizeOf_27 (lv' := [(3, .int (nI (k + 1))), (2, .int (nI ((sumTo (fun k => bits8 (mN S 21 (40 * r + k))) k) + (bits8 (mN S 21 ((40 * r) + k)))))), (0, .ref (q 0)), (1, .int (nI r))]) 3 rfl (nI_inc _ rfl) (by decide) rfl ?_
        refine m_goto C d_X7_sizeOf_30 (tgt := 4) rfl ?_
        refine m_lv (lv' := [(0, .ref (q 0)), (1, .int (nI r)), (2, .int (nI ((sumTo (fun k => bits8 (mN S 21 (40 * r + k))) k) + (bits8 (mN S 21 ((40 * r) + k)))))), (3, .int (nI (k + 1)))]) [2, 3, 1, 0] rfl ?_
        refine m_lve (lv' := [(0, .ref (q 0)), (1, .int (nI r)), (2, .int (nI (sumTo (fun k => bits8 (mN S 21 (40 * r + k))) (k + 1)))), (3, .int (nI (k + 1)))]) (rfl) ?_
        exact ih_4 (k + 1) (by omega) (by omega)
  refine m_lv (lv' := [(0, .ref (q 0)), (1, .int (nI r)), (2, .int (nI 0)), (3, .int (nI 0))]) [2, 3, 1, 0] rfl ?_
  refine m_lve (lv' := [(0, .ref (q 0)), (1, .int (nI r)), (2, .int (nI (sumTo (fun k => bits8 (mN S 21 (40 * r + k))) 0))), (3, .int (nI 0))]) (rfl) ?_
  exact loop_4 _ 0 (by omega) (Nat.lt_succ_self _)
end
section
theorem tw_662 : (Jvm.Cond.fieldLink "CorpuslineModel" (7 : Nat) "CorpuslineModel" "many" "[I") ∈ TB := tb_of 662 (by decide +kernel) rfl
theorem tw_664 : (Jvm.Cond.fieldLink "CorpuslineModel" (16 : Nat) "CorpuslineModel" "sentence" "[I") ∈ TB := tb_of 664 (by decide +kernel) rfl
theorem tw_676 : (Jvm.Cond.fieldLink "CorpuslineModel" (121 : Nat) "CorpuslineModel" "patterns" "I") ∈ TB := tb_of 676 (by decide +kernel) rfl
theorem tw_681 : (Jvm.Cond.fieldLink "CorpuslineModel" (63 : Nat) "CorpuslineModel" "sides" "[I") ∈ TB := tb_of 681 (by decide +kernel) rfl
theorem fd_RX7_7 : fdOk RX7 7 6 1 := ⟨_, _, _, rfl, by decide, cw_6, tw_662, rfl⟩
theorem fd_RX7_16 : fdOk RX7 16 6 3 := ⟨_, _, _, rfl, by decide, cw_6, tw_664, rfl⟩
theorem fd_RX7_63 : fdOk RX7 63 6 20 := ⟨_, _, _, rfl, by decide, cw_6, tw_681, rfl⟩
theorem fd_RX7_121 : fdOk RX7 121 6 15 := ⟨_, _, _, rfl, by decide, cw_6, tw_676, rfl⟩
/-- what holds of the reference's rows between calls -/
def mInv (S : mS) : Prop :=
  (∀ s, s < 2 → mN S 1 s ≤ 40) ∧ (∀ i, i < 240 → mN S 2 i < 100) ∧ (∀ i, i < 80 → mN S 3 i ≤ i % 40) ∧ (∀ i, i < 80 → mN S 4 i ≤ i % 40) ∧
  (∀ i, i < 40 → mN S 7 i < 1099511627776) ∧ (∀ p, p < 21 → mN S 8 p ≤ 8) ∧ (∀ i, i < 1008 → mN S 12 i < 1125899906842624) ∧ (∀ i, i < 168 → mN S 13 i < 8) ∧ (∀ i, i < 168 → mN S 14 i < 512) ∧
  mK S 15 ≤ 12 ∧ mK S 16 ≤ 8 ∧ mTests S ≤ 8 ∧ (∀ r, r < 8 → mI S 20 r = -1 ∨ mI S 20 r = nI 0 ∨ mI S 20 r = nI 1) ∧
  (∀ i, i < 320 → mN S 21 i < 512 ∧ mN S 21 i % 2 = 0) ∧
  (∀ r s, r < 8 → s < 2 → mI S 20 r = nI s → ∀ k, k < 40 → ∀ z, z < 9 → mN S 21 (40 * r + k) / 2 ^ z % 2 = 1 → k + z ≤ mN S 1 s) ∧
  (∀ p, p < mK S 15 ∨ 12 ≤ p ∧ p < 12 + mK S 16 → 1 ≤ mN S 8 p ∧ (∀ w, w < 256 → mB S 10 (256 * p + w) = true → w < 2 ^ mN S 8 p) ∧ (mB S 9 p = true → mN S 8 p = 1 ∧ ∀ w, w < 256 → mB S 10 (256 * p + w) = decide (w = 1)))
def mSents (S : mS) (s : Nat) : Nat := if mN S 1 s = 0 then 0 else mN S 3 (40 * s + mN S 1 s - 1) + 1
def mIsR (S : mS) (v : Int32) : Bool := inR v 0 7 && !decide (mI S 20 (tn v) = -1)

def dl_X7_sentences : List (Nat × Instr × Nat) := [(0, .aload_n 0, 1), (1, .getfield 7, 3), (4, .iload_n 1, 1), (5, .iaload, 1), (6, .ifCond .ne 7, 3), (9, .iconst 0, 1), (10, .goto 23, 3), (13, .aload_n 0, 1), (14, .getfield 16, 3), (17, .bipush 40, 2), (19, .iload_n 1, 1), (20, .imul, 1), (21, .aload_n 0, 1), (22, .getfield 7, 3), (25, .iload_n 1, 1), (26, .iaload, 1), (27, .iadd, 1), (28, .iconst 1, 1), (29, .isub, 1), (30, .iaload, 1), (31, .iconst 1, 1), (32, .iadd, 1), (33, .ireturn, 1)]
theorem dc_X7_sentences : dnL cX7_sentences dl_X7_sentences = true := by decide +kernel
theorem d_X7_sentences_0 : dn cX7_sentences 0 (.aload_n 0) 1 1 := dnAt dc_X7_sentences 0 rfl rfl
theorem d_X7_sentences_1 : dn cX7_sentences 1 (.getfield 7) 3 4 := dnAt dc_X7_sentences 1 rfl rfl
theorem d_X7_sentences_4 : dn cX7_sentences 4 (.iload_n 1) 1 5 := dnAt dc_X7_sentences 2 rfl rfl
theorem d_X7_sentences_5 : dn cX7_sentences 5 (.iaload) 1 6 := dnAt dc_X7_sentences 3 rfl rfl
theorem d_X7_sentences_6 : dn cX7_sentences 6 (.ifCond .ne 7) 3 9 := dnAt dc_X7_sentences 4 rfl rfl
theorem d_X7_sentences_9 : dn cX7_sentences 9 (.iconst 0) 1 10 := dnAt dc_X7_sentences 5 rfl rfl
theorem d_X7_sentences_10 : dn cX7_sentences 10 (.goto 23) 3 13 := dnAt dc_X7_sentences 6 rfl rfl
theorem d_X7_sentences_13 : dn cX7_sentences 13 (.aload_n 0) 1 14 := dnAt dc_X7_sentences 7 rfl rfl
theorem d_X7_sentences_14 : dn cX7_sentences 14 (.getfield 16) 3 17 := dnAt dc_X7_sentences 8 rfl rfl
theorem d_X7_sentences_17 : dn cX7_sentences 17 (.bipush 40) 2 19 := dnAt dc_X7_sentences 9 rfl rfl
theorem d_X7_sentences_19 : dn cX7_sentences 19 (.iload_n 1) 1 20 := dnAt dc_X7_sentences 10 rfl rfl
theorem d_X7_sentences_20 : dn cX7_sentences 20 (.imul) 1 21 := dnAt dc_X7_sentences 11 rfl rfl
theorem d_X7_sentences_21 : dn cX7_sentences 21 (.aload_n 0) 1 22 := dnAt dc_X7_sentences 12 rfl rfl
theorem d_X7_sentences_22 : dn cX7_sentences 22 (.getfield 7) 3 25 := dnAt dc_X7_sentences 13 rfl rfl
theorem d_X7_sentences_25 : dn cX7_sentences 25 (.iload_n 1) 1 26 := dnAt dc_X7_sentences 14 rfl rfl
theorem d_X7_sentences_26 : dn cX7_sentences 26 (.iaload) 1 27 := dnAt dc_X7_sentences 15 rfl rfl
theorem d_X7_sentences_27 : dn cX7_sentences 27 (.iadd) 1 28 := dnAt dc_X7_sentences 16 rfl rfl
theorem d_X7_sentences_28 : dn cX7_sentences 28 (.iconst 1) 1 29 := dnAt dc_X7_sentences 17 rfl rfl
theorem d_X7_sentences_29 : dn cX7_sentences 29 (.isub) 1 30 := dnAt dc_X7_sentences 18 rfl rfl
theorem d_X7_sentences_30 : dn cX7_sentences 30 (.iaload) 1 31 := dnAt dc_X7_sentences 19 rfl rfl
theorem d_X7_sentences_31 : dn cX7_sentences 31 (.iconst 1) 1 32 := dnAt dc_X7_sentences 20 rfl rfl
theorem d_X7_sentences_32 : dn cX7_sentences 32 (.iadd) 1 33 := dnAt dc_X7_sentences 21 rfl rfl
theorem d_X7_sentences_33 : dn cX7_sentences 33 (.ireturn) 1 34 := dnAt dc_X7_sentences 22 rfl rfl
set_option maxHeartbeats 4000000 in
set_option maxRecDepth 100000 in
theorem m_sentences (S : mS) (s : Nat) (hs : s < 2) (I : mInv S) : mC yX7_sentences cX7_sentences 2 (Option.some Jvm.ClassFile.FieldType.int) { frames := 0, cells := 0, slots := 0, locals := 0 } [.int (nI s)] S (fun v9 T9 => v9 = (some (.int (nI (mSents S s)))) ∧ T9 = S) := by
  refine mC.of (by decide) (Nat.le_of_ble_eq_true rfl) ?_
  intro G x q h0 C A TY
  show VM G x q h0 S 0 [(0, .ref (q 0)), (1, .int (nI s))] []
  have i1 := I.1 s hs
  have join_33 : VM G x q h0 S 33 [(0, .ref (q 0)), (1, .int (nI s))] [.int (nI (mSents S s))] := by
    exact m_iret C A TY d_X7_sentences_33 rfl (⟨rfl, rfl⟩)
  refine m_aload_n C d_X7_sentences_0 0 rfl ?_
  refine m_get C d_X7_sentences_1 fd_RX7_7 (v := .ref (q 1)) rfl ?_
  refine m_iload_n C d_X7_sentences_4 1 rfl ?_
  refine m_ald C d_X7_sentences_5 (k := 1) (by decide) rfl (by show _ < 2; omega) (by decide) ?_
  refine mn_if_ne C d_X7_sentences_6 (tgt := 13) rfl (by omega) (fun c_6 => ?_) (fun c_6 => ?_)
  · skip
    refine m_aload_n C d_X7_sentences_13 0 rfl ?_
    refine m_get C d_X7_sentences_14 fd_RX7_16 (v := .ref (q 3)) rfl ?_
    refine m_bipush C d_X7_sentences_17 (v := (nI 40)) rfl ?_
    refine m_iload_n C d_X7_sentences_19 1 rfl ?_
    refine mn_imul C d_X7_sentences_20 ?_
    refine m_aload_n C d_X7_sentences_21 0 rfl ?_
    refine m_get C d_X7_sentences_22 fd_RX7_7 (v := .ref (q 1)) rfl ?_
    refine m_iload_n C d_X7_sentences_25 1 rfl ?_
    refine m_ald C d_X7_sentences_26 (k := 1) (by decide) rfl (by show _ < 2; omega) (by decide) ?_
    refine mn_iadd C d_X7_sentences_27 ?_
    refine m_iconst C d_X7_sentences_28 (v := (nI 1)) rfl ?_
    refine mn_isub C d_X7_sentences_29 (by omega) ?_
    refine m_ald C d_X7_sentences_30 (k := 3) (by decide) rfl (by show _ < 80; omega) (by decide) ?_
    refine m_iconst C d_X7_sentences_31 (v := (nI 1)) rfl ?_
    refine mn_iadd C d_X7_sentences_32 ?_
    refine m_st (st' := [.int (nI (mSents S s))]) (by first | rw [mSents, if_pos c_6] | rw [mSents, if_neg (by omega)]) ?_
    exact join_33  
  · skip
    refine m_iconst C d_X7_sentences_9 (v := (nI 0)) rfl ?_
    refine m_goto C d_X7_sentences_10 (tgt := 33) rfl ?_
    refine m_st (st' := [.int (nI (mSents S s))]) (by first | rw [mSents, if_pos c_6] | rw [mSents, if_neg (by omega)]) ?_
    exact join_33  
def dl_X7_isPattern : List (Nat × Instr × Nat) := [(0, .iload_n 1, 1), (1, .iconst 0, 1), (2, .aload_n 0, 1), (3, .getfield 121, 3), (6, .iconst 1, 1), (7, .isub, 1), (8, .invokestatic 76, 3), (11, .ireturn, 1)]
theorem dc_X7_isPattern : dnL cX7_isPattern dl_X7_isPattern = true := by decide +kernel
theorem d_X7_isPattern_0 : dn cX7_isPattern 0 (.iload_n 1) 1 1 := dnAt dc_X7_isPattern 0 rfl rfl
theorem d_X7_isPattern_1 : dn cX7_isPattern 1 (.iconst 0) 1 2 := dnAt dc_X7_isPattern 1 rfl rfl
theorem d_X7_isPattern_2 : dn cX7_isPattern 2 (.aload_n 0) 1 3 := dnAt dc_X7_isPattern 2 rfl rfl
theorem d_X7_isPattern_3 : dn cX7_isPattern 3 (.getfield 121) 3 6 := dnAt dc_X7_isPattern 3 rfl rfl
theorem d_X7_isPattern_6 : dn cX7_isPattern 6 (.iconst 1) 1 7 := dnAt dc_X7_isPattern 4 rfl rfl
theorem d_X7_isPattern_7 : dn cX7_isPattern 7 (.isub) 1 8 := dnAt dc_X7_isPattern 5 rfl rfl
theorem d_X7_isPattern_8 : dn cX7_isPattern 8 (.invokestatic 76) 3 11 := dnAt dc_X7_isPattern 6 rfl rfl
theorem d_X7_isPattern_11 : dn cX7_isPattern 11 (.ireturn) 1 12 := dnAt dc_X7_isPattern 7 rfl rfl
set_option maxHeartbeats 4000000 in
set_option maxRecDepth 100000 in
theorem m_isPattern (S : mS) (v : Int32) : mC yX7_isPattern cX7_isPattern 2 (Option.some Jvm.ClassFile.FieldType.boolean) { frames := 1, cells := 0, slots := 0, locals := 22 } [.int v] S (fun v9 T9 => v9 = (some (.int (bI (inI v (nI 0) (nI (mK S 15) - nI 1))))) ∧ T9 = S) := by
  refine mC.of (by decide) (Nat.le_of_ble_eq_true rfl) ?_
  intro G x q h0 C A TY
  show VM G x q h0 S 0 [(0, .ref (q 0)), (1, .int v)] []
  refine m_iload_n C d_X7_isPattern_0 1 rfl ?_
  refine m_iconst C d_X7_isPattern_1 (v := (nI 0)) rfl ?_
  refine m_aload_n C d_X7_isPattern_2 0 rfl ?_
  refine m_get C d_X7_isPattern_3 fd_RX7_121 (v := .int (nI (mK S 15))) rfl ?_
  refine m_iconst C d_X7_isPattern_6 (v := (nI 1)) rfl ?_
  refine m_isub C d_X7_isPattern_7 ?_
  refine m_callS C d_X7_isPattern_8 ok_RX7_76 (s_isIn v ((nI 0)) (((nI (mK S 15)) - (nI 1)))) (rest := []) rfl rfl (Nat.le_of_ble_eq_true rfl) ⟨⟨by decide, by decide⟩, by decide, by decide⟩ ?_
  show VM G x q h0 S 11 [(0, .ref (q 0)), (1, .int v)] [.int (bI (inI v (nI 0) ((nI (mK S 15)) - (nI 1))))]
  refine m_st (st' := [.int (bI (inI v (nI 0) (nI (mK S 15) - nI 1)))]) (rfl) ?_
  exact m_iret C A TY d_X7_isPattern_11 (bI_nar _) (⟨rfl, rfl⟩)
def dl_X7_isResult : List (Nat × Instr × Nat) := [(0, .iload_n 1, 1), (1, .iconst 0, 1), (2, .bipush 7, 2), (4, .invokestatic 76, 3), (7, .ifCond .eq 17, 3), (10, .aload_n 0, 1), (11, .getfield 63, 3), (14, .iload_n 1, 1), (15, .iaload, 1), (16, .iconst (-1), 1), (17, .if_icmp .eq 7, 3), (20, .iconst 1, 1), (21, .goto 4, 3), (24, .iconst 0, 1), (25, .ireturn, 1)]
theorem dc_X7_isResult : dnL cX7_isResult dl_X7_isResult = true := by decide +kernel
theorem d_X7_isResult_0 : dn cX7_isResult 0 (.iload_n 1) 1 1 := dnAt dc_X7_isResult 0 rfl rfl
theorem d_X7_isResult_1 : dn cX7_isResult 1 (.iconst 0) 1 2 := dnAt dc_X7_isResult 1 rfl rfl
theorem d_X7_isResult_2 : dn cX7_isResult 2 (.bipush 7) 2 4 := dnAt dc_X7_isResult 2 rfl rfl
theorem d_X7_isResult_4 : dn cX7_isResult 4 (.invokestatic 76) 3 7 := dnAt dc_X7_isResult 3 rfl rfl
theorem d_X7_isResult_7 : dn cX7_isResult 7 (.ifCond .eq 17) 3 10 := dnAt dc_X7_isResult 4 rfl rfl
theorem d_X7_isResult_10 : dn cX7_isResult 10 (.aload_n 0) 1 11 := dnAt dc_X7_isResult 5 rfl rfl
theorem d_X7_isResult_11 : dn cX7_isResult 11 (.getfield 63) 3 14 := dnAt dc_X7_isResult 6 rfl rfl
theorem d_X7_isResult_14 : dn cX7_isResult 14 (.iload_n 1) 1 15 := dnAt dc_X7_isResult 7 rfl rfl
theorem d_X7_isResult_15 : dn cX7_isResult 15 (.iaload) 1 16 := dnAt dc_X7_isResult 8 rfl rfl
theorem d_X7_isResult_16 : dn cX7_isResult 16 (.iconst (-1)) 1 17 := dnAt dc_X7_isResult 9 rfl rfl
theorem d_X7_isResult_17 : dn cX7_isResult 17 (.if_icmp .eq 7) 3 20 := dnAt dc_X7_isResult 10 rfl rfl
theorem d_X7_isResult_20 : dn cX7_isResult 20 (.iconst 1) 1 21 := dnAt dc_X7_isResult 11 rfl rfl
theorem d_X7_isResult_21 : dn cX7_isResult 21 (.goto 4) 3 24 := dnAt dc_X7_isResult 12 rfl rfl
theorem d_X7_isResult_24 : dn cX7_isResult 24 (.iconst 0) 1 25 := dnAt dc_X7_isResult 13 rfl rfl
theorem d_X7_isResult_25 : dn cX7_isResult 25 (.ireturn) 1 26 := dnAt dc_X7_isResult 14 rfl rfl
set_option maxHeartbeats 4000000 in
set_option maxRecDepth 100000 in
theorem m_isResult (S : mS) (v : Int32) : mC yX7_isResult cX7_isResult 2 (Option.some Jvm.ClassFile.FieldType.boolean) { frames := 1, cells := 0, slots := 0, locals := 22 } [.int v] S (fun v9 T9 => v9 = (some (.int (bI (mIsR S v)))) ∧ T9 = S) := by
  refine mC.of (by decide) (Nat.le_of_ble_eq_true rfl) ?_
  intro G x q h0 C A TY
  show VM G x q h0 S 0 [(0, .ref (q 0)), (1, .int v)] []
  refine m_iload_n C d_X7_isResult_0 1 rfl ?_
  refine m_iconst C d_X7_isResult_1 (v := (nI 0)) rfl ?_
  refine m_bipush C d_X7_isResult_2 (v := (nI 7)) rfl ?_
  refine m_callS C d_X7_isResult_4 ok_RX7_76 (s_isIn v ((nI 0)) ((nI 7))) (rest := []) rfl rfl (Nat.le_of_ble_eq_true rfl) ⟨⟨by decide, by decide⟩, by decide, by decide⟩ ?_
  show VM G x q h0 S 7 [(0, .ref (q 0)), (1, .int v)] [.int (bI (inR v 0 7))]
  refine mb_if_eq C d_X7_isResult_7 (tgt := 24) rfl (fun c_7 => ?_) (fun c_7 => ?_)
  · skip
    refine m_iconst C d_X7_isResult_24 (v := (bI false)) rfl ?_
    refine m_st (st' := [.int (bI (mIsR S v))]) (congrArg (fun z => [Value.int (bI z)]) (by first | (rw [mIsR, c_7]; rfl) | (rw [mIsR, c_7, c_17]; rfl) | (rw [mIsR, c_7, decide_eq_false c_17]; rfl))) ?_
    exact m_iret C A TY d_X7_isResult_25 (bI_nar _) (⟨rfl, rfl⟩)
  · skip
    obtain ⟨e1, -, e2⟩ := inR_of c_7 (by decide) (by decide)
    refine m_lve (lv' := [(0, .ref (q 0)), (1, .int (nI (tn v)))]) (by rw [← e1]) ?_
    refine m_aload_n C d_X7_isResult_10 0 rfl ?_
    refine m_get C d_X7_isResult_11 fd_RX7_63 (v := .ref (q 20)) rfl ?_
    refine m_iload_n C d_X7_isResult_14 1 rfl ?_
    refine m_aldI C d_X7_isResult_15 (k := 20) (by decide) rfl (by show _ < 8; omega) (by decide) ?_
    refine m_iconst C d_X7_isResult_16 (v := ((-1))) rfl ?_
    refine m_icmp_eq C d_X7_isResult_17 (tgt := 24) rfl (fun c_17 => ?_) (fun c_17 => ?_)
    · skip
      refine m_iconst C d_X7_isResult_24 (v := (bI false)) rfl ?_
      refine m_st (st' := [.int (bI (mIsR S v))]) (congrArg (fun z => [Value.int (bI z)]) (by first | (rw [mIsR, c_7]; rfl) | (rw [mIsR, c_7, c_17]; rfl) | (rw [mIsR, c_7, decide_eq_false c_17]; rfl))) ?_
      exact m_iret C A TY d_X7_isResult_25 (bI_nar _) (⟨rfl, rfl⟩)
    · skip
      refine m_iconst C d_X7_isResult_20 (v := (bI true)) rfl ?_
      refine m_goto C d_X7_isResult_21 (tgt := 25) rfl ?_
      refine m_st (st' := [.int (bI (mIsR S v))]) (congrArg (fun z => [Value.int (bI z)]) (by first | (rw [mIsR, c_7]; rfl) | (rw [mIsR, c_7, c_17]; rfl) | (rw [mIsR, c_7, decide_eq_false c_17]; rfl))) ?_
      exact m_iret C A TY d_X7_isResult_25 (bI_nar _) (⟨rfl, rfl⟩)
end
section
theorem tw_666 : (Jvm.Cond.fieldLink "CorpuslineModel" (22 : Nat) "CorpuslineModel" "isEnded" "[Z") ∈ TB := tb_of 666 (by decide +kernel) rfl
theorem tw_667 : (Jvm.Cond.fieldLink "CorpuslineModel" (26 : Nat) "CorpuslineModel" "isTextEnded" "[Z") ∈ TB := tb_of 667 (by decide +kernel) rfl
theorem tw_743 : (Jvm.Cond.methodLink "CorpuslineModel" (80 : Nat) ({ cls := "CorpuslineModel", name := "isSide", desc := "(I)Z" } : Jvm.MethodName)) ∈ TB := tb_of 743 (by decide +kernel) rfl
theorem tw_744 : (Jvm.Cond.static ({ cls := "CorpuslineModel", name := "isSide", desc := "(I)Z" } : Jvm.MethodName)) ∈ TB := tb_of 744 (by decide +kernel) rfl
theorem tw_745 : (Jvm.Cond.code ({ cls := "CorpuslineModel", name := "isSide", desc := "(I)Z" } : Jvm.MethodName) prog_9_method_5_code (1 : Nat) (Option.some Jvm.ClassFile.FieldType.boolean)) ∈ TB := tb_of 745 (by decide +kernel) rfl
theorem tw_746 : (Jvm.Cond.methodLink "CorpuslineModel" (84 : Nat) ({ cls := "CorpuslineModel", name := "holds", desc := "(I)Z" } : Jvm.MethodName)) ∈ TB := tb_of 746 (by decide +kernel) rfl
theorem tw_748 : (Jvm.Cond.instanceMethod ({ cls := "CorpuslineModel", name := "holds", desc := "(I)Z" } : Jvm.MethodName)) ∈ TB := tb_of 748 (by decide +kernel) rfl
theorem tw_749 : (Jvm.Cond.code ({ cls := "CorpuslineModel", name := "holds", desc := "(I)Z" } : Jvm.MethodName) prog_9_method_3_code (2 : Nat) (Option.some Jvm.ClassFile.FieldType.boolean)) ∈ TB := tb_of 749 (by decide +kernel) rfl
theorem tw_774 : (Jvm.Cond.methodLink "CorpuslineModel" (91 : Nat) ({ cls := "CorpuslineModel", name := "isAttribute", desc := "(I)Z" } : Jvm.MethodName)) ∈ TB := tb_of 774 (by decide +kernel) rfl
theorem tw_775 : (Jvm.Cond.static ({ cls := "CorpuslineModel", name := "isAttribute", desc := "(I)Z" } : Jvm.MethodName)) ∈ TB := tb_of 775 (by decide +kernel) rfl
theorem tw_776 : (Jvm.Cond.code ({ cls := "CorpuslineModel", name := "isAttribute", desc := "(I)Z" } : Jvm.MethodName) prog_9_method_6_code (1 : Nat) (Option.some Jvm.ClassFile.FieldType.boolean)) ∈ TB := tb_of 776 (by decide +kernel) rfl
theorem tw_777 : (Jvm.Cond.methodLink "CorpuslineModel" (94 : Nat) ({ cls := "CorpuslineModel", name := "valueOf", desc := "(III)I" } : Jvm.MethodName)) ∈ TB := tb_of 777 (by decide +kernel) rfl
theorem tw_779 : (Jvm.Cond.instanceMethod ({ cls := "CorpuslineModel", name := "valueOf", desc := "(III)I" } : Jvm.MethodName)) ∈ TB := tb_of 779 (by decide +kernel) rfl
theorem tw_780 : (Jvm.Cond.code ({ cls := "CorpuslineModel", name := "valueOf", desc := "(III)I" } : Jvm.MethodName) prog_9_method_13_code (4 : Nat) (Option.some Jvm.ClassFile.FieldType.int)) ∈ TB := tb_of 780 (by decide +kernel) rfl
theorem ts_18 : Cond.selects "CorpuslineModel" ({ cls := "CorpuslineModel", name := "holds", desc := "(I)Z" } : MethodName) ({ cls := "CorpuslineModel", name := "holds", desc := "(I)Z" } : MethodName) ∈ TB := tb_sel 18 (by decide +kernel) rfl
theorem ts_20 : Cond.selects "CorpuslineModel" ({ cls := "CorpuslineModel", name := "valueOf", desc := "(III)I" } : MethodName) ({ cls := "CorpuslineModel", name := "valueOf", desc := "(III)I" } : MethodName) ∈ TB := tb_sel 20 (by decide +kernel) rfl
theorem fd_RX7_22 : fdOk RX7 22 6 5 := ⟨_, _, _, rfl, by decide, cw_6, tw_666, rfl⟩
theorem fd_RX7_26 : fdOk RX7 26 6 6 := ⟨_, _, _, rfl, by decide, cw_6, tw_667, rfl⟩
theorem ok_RX7_80 : okS RX7 80 yX7_isSide cX7_isSide 1 (Option.some Jvm.ClassFile.FieldType.boolean) 1 := ⟨tw_743, tw_744, tw_5, tw_745, ⟨by decide, by decide, by decide +kernel⟩⟩
theorem ok_RX7_91 : okS RX7 91 yX7_isAttribute cX7_isAttribute 1 (Option.some Jvm.ClassFile.FieldType.boolean) 1 := ⟨tw_774, tw_775, tw_5, tw_776, ⟨by decide, by decide, by decide +kernel⟩⟩
theorem ok_RX7_84 : okV RX7 84 yX7_holds cX7_holds 2 (Option.some Jvm.ClassFile.FieldType.boolean) 1 := ⟨tw_746, tw_748, ts_18, tw_5, tw_749, ⟨by decide, by decide, by decide +kernel⟩⟩
theorem ok_RX7_94 : okV RX7 94 yX7_valueOf cX7_valueOf 4 (Option.some Jvm.ClassFile.FieldType.int) 3 := ⟨tw_777, tw_779, ts_20, tw_5, tw_780, ⟨by decide, by decide, by decide +kernel⟩⟩
def cSide (side : Int32) : Nat := if inR side 0 1 = true then 0 else 1
def rTokens (S : mS) (side : Int32) : Nat := if inR side 0 1 = true then mN S 1 (tn side) else 0
def cOccurs (side attr : Int32) : Nat := if inR side 0 1 = true then (if inR attr 0 2 = true then 0 else 2) else 1
theorem cOccurs_0 {side attr : Int32} (h : cOccurs side attr = 0) : inR side 0 1 = true ∧ inR attr 0 2 = true := by
  unfold cOccurs at h
  split at h
  · split at h
    · exact ⟨by assumption, by assumption⟩
    · omega
  · omega
def nOccurs (S : mS) (s a : Nat) (value : Int32) (k : Nat) : Nat := sumTo (fun p => if nI (mVal S s p a) = value then 1 else 0) k
def rOccurs (S : mS) (side attr value : Int32) : Nat := if cOccurs side attr = 0 then nOccurs S (tn side) (tn attr) value (mN S 1 (tn side)) else 0
def cEnd (S : mS) (side : Int32) : Nat := if inR side 0 1 = true then (if mN S 1 (tn side) = 0 then 2 else 0) else 1
theorem cEnd_0 {S : mS} {side : Int32} (h : cEnd S side = 0) : inR side 0 1 = true ∧ mN S 1 (tn side) ≠ 0 := by
  unfold cEnd at h
  split at h
  · split at h
    · omega
    · exact ⟨by assumption, by assumption⟩
  · omega
def rEnd (S : mS) (side : Int32) : Nat := if cEnd S side = 0 then mN S 1 (tn side) else 0
def tEnd (S : mS) (side : Int32) (t : Bool) : mS := if cEnd S side = 0 then uB (uB (uK S 0 0) 5 (tn side) true) 6 (tn side) (mB S 6 (tn side) || t) else uK S 0 (cEnd S side)
def cSent (S : mS) (side place : Int32) : Nat := if (inR side 0 1 && inI place (nI 0) (nI (mN S 1 (tn side)) - nI 1)) = true then 0 else 1
def rSent (S : mS) (side place : Int32) : Nat := if cSent S side place = 0 then mN S 3 (40 * tn side + tn place) else 0
/-- an index below a bound, as the reference asks for it -/
theorem inI_of {v : Int32} {m : Nat} (hm : m ≤ 1000) (h : inI v (nI 0) (nI m - nI 1) = true) : v = nI (tn v) ∧ tn v < m := by
  rcases Nat.eq_zero_or_pos m with rfl | h1
  · have : inI v (nI 0) (nI 0 - nI 1) = false := by
      cases hc : inI v (nI 0) (nI 0 - nI 1) with
      | false => rfl
      | true =>
        simp only [inI, Bool.and_eq_true, decide_eq_true_eq, Int32.le_iff_toInt_le] at hc
        have e1 : (nI 0 - nI 1).toInt = -1 := by decide
        have e2 : (nI 0).toInt = 0 := by decide
        omega
    rw [this] at h; cases h
  · rw [pk_sub h1] at h
    obtain ⟨e, -, l⟩ := inR_of (v := v) (a := 0) (b := m - 1) h (by omega) (by omega)
    exact ⟨e, by omega⟩
def cWR (S : mS) (r : Int32) : Nat := if mIsR S r = true then 0 else 1
theorem mIsR_of {S : mS} {r : Int32} (h : mIsR S r = true) : r = nI (tn r) ∧ tn r < 8 ∧ mI S 20 (tn r) ≠ -1 := by
  simp only [mIsR, Bool.and_eq_true, Bool.not_eq_true', decide_eq_false_iff_not] at h
  obtain ⟨e, -, l⟩ := inR_of h.1 (by omega) (by omega)
  exact ⟨e, by omega, h.2⟩
def rDrop (S : mS) (r : Int32) : Nat := if mIsR S r = true then mSize S (tn r) else 0
def tDrop (S : mS) (r : Int32) : mS := if mIsR S r = true then uI (uK S 0 0) 20 (tn r) (-1) else uK S 0 1
def rSz (S : mS) (r : Int32) : Int32 := if mIsR S r = true then nI (mSize S (tn r)) else -1
def cToken (S : mS) (side word kind root : Int32) : Nat := if inR side 0 1 = true then (if (inR word 0 99 && inR kind 0 9 && inR root 0 49) = true then (if mN S 1 (tn side) = 40 then 3 else 0) else 2) else 1
theorem cToken_0 {S : mS} {side word kind root : Int32} (h : cToken S side word kind root = 0) : inR side 0 1 = true ∧ inR word 0 99 = true ∧ inR kind 0 9 = true ∧ inR root 0 49 = true ∧ mN S 1 (tn side) ≠ 40 := by
  unfold cToken at h
  split at h
  · split at h
    · rename_i h2
      simp only [Bool.and_eq_true] at h2
      split at h
      · omega
      · exact ⟨by assumption, h2.1.1, h2.1.2, h2.2, by assumption⟩
    · omega
  · omega
def rToken (S : mS) (side word kind root : Int32) : Nat := if cToken S side word kind root = 0 then mN S 1 (tn side) else 0
def tToken (S : mS) (side word kind root : Int32) : mS :=
  if cToken S side word kind root = 0 then
    let s := tn side
    let at_ := 40 * s + mN S 1 s
    uN (uB (uB (uN (uN (uN (uN (uN (uK S 0 0) 2 (3 * at_ + 0) (tn word)) 2 (3 * at_ + 1) (tn kind)) 2 (3 * at_ + 2) (tn root))
      3 at_ (if mN S 1 s = 0 then 0 else mN S 3 (at_ - 1) + (mB S 5 s).toNat)) 4 at_ (if mN S 1 s = 0 then 0 else mN S 4 (at_ - 1) + (mB S 6 s).toNat)) 5 s false) 6 s false) 1 s (mN S 1 s + 1)
  else uK S 0 (cToken S side word kind root)
def cAlign (S : mS) (a b : Int32) : Nat := if (inI a (nI 0) (nI (mSents S 0) - nI 1) && inI b (nI 0) (nI (mSents S 1) - nI 1)) = true then 0 else 1
def nPairs (S : mS) (k : Nat) : Nat := sumTo (fun k => mN S 7 (k / 40) / 2 ^ (k % 40) % 2) k
def tAlign (S : mS) (a b : Int32) : mS := if cAlign S a b = 0 then uN (uK S 0 0) 7 (tn a) (mN S 7 (tn a) ||| 2 ^ tn b) else uK S 0 1
def rAlign (S : mS) (a b : Int32) : Nat := if cAlign S a b = 0 then nPairs (tAlign S a b) 1600 else 0
theorem mSents_le {S : mS} (I : mInv S) {s : Nat} (hs : s < 2) : mSents S s ≤ 40 := by
  unfold mSents
  split
  · omega
  · have h1 := I.1 s hs
    have h2 := I.2.2.1 (40 * s + mN S 1 s - 1) (by omega)
    omega
theorem mInv_uK0 {S : mS} {c : Nat} (I : mInv S) : mInv (uK S 0 c) := I
theorem or_lt {a b n : Nat} (ha : a < 2 ^ n) (hb : b < 2 ^ n) : a ||| b < 2 ^ n := Nat.or_lt_two_pow ha hb
theorem tAlign_lt {S : mS} {a b : Int32} (I : mInv S) (i : Nat) (hi : i < 40) : mN (tAlign S a b) 7 i < 1099511627776 := by
  unfold tAlign
  split
  · rename_i h
    have c1 : (inI a (nI 0) (nI (mSents S 0) - nI 1) && inI b (nI 0) (nI (mSents S 1) - nI 1)) = true := by
      unfold cAlign at h; split at h <;> first | assumption | omega
    rw [Bool.and_eq_true] at c1
    have i1 := mSents_le I (show 0 < 2 by decide)
    have i2 := mSents_le I (show 1 < 2 by decide)
    obtain ⟨e1, e2⟩ := inI_of (by omega) c1.1
    obtain ⟨e3, e4⟩ := inI_of (by omega) c1.2
    have h7 := I.2.2.2.2.1
    rw [mN_uN]
    split
    · have := h7 (tn a) (by omega)
      exact or_lt (n := 40) this (Nat.pow_lt_pow_right (by decide) (by omega))
    · exact h7 i hi
  · exact I.2.2.2.2.1 i hi

def dl_X7_tokens : List (Nat × Instr × Nat) := [(0, .aload_n 0, 1), (1, .iload_n 1, 1), (2, .invokestatic 80, 3), (5, .ifCond .eq 7, 3), (8, .iconst 0, 1), (9, .goto 4, 3), (12, .iconst 1, 1), (13, .invokevirtual 84, 3), (16, .ifCond .eq 12, 3), (19, .aload_n 0, 1), (20, .getfield 7, 3), (23, .iload_n 1, 1), (24, .iaload, 1), (25, .goto 4, 3), (28, .iconst 0, 1), (29, .ireturn, 1)]
theorem dc_X7_tokens : dnL cX7_tokens dl_X7_tokens = true := by decide +kernel
theorem d_X7_tokens_0 : dn cX7_tokens 0 (.aload_n 0) 1 1 := dnAt dc_X7_tokens 0 rfl rfl
theorem d_X7_tokens_1 : dn cX7_tokens 1 (.iload_n 1) 1 2 := dnAt dc_X7_tokens 1 rfl rfl
theorem d_X7_tokens_2 : dn cX7_tokens 2 (.invokestatic 80) 3 5 := dnAt dc_X7_tokens 2 rfl rfl
theorem d_X7_tokens_5 : dn cX7_tokens 5 (.ifCond .eq 7) 3 8 := dnAt dc_X7_tokens 3 rfl rfl
theorem d_X7_tokens_8 : dn cX7_tokens 8 (.iconst 0) 1 9 := dnAt dc_X7_tokens 4 rfl rfl
theorem d_X7_tokens_9 : dn cX7_tokens 9 (.goto 4) 3 12 := dnAt dc_X7_tokens 5 rfl rfl
theorem d_X7_tokens_12 : dn cX7_tokens 12 (.iconst 1) 1 13 := dnAt dc_X7_tokens 6 rfl rfl
theorem d_X7_tokens_13 : dn cX7_tokens 13 (.invokevirtual 84) 3 16 := dnAt dc_X7_tokens 7 rfl rfl
theorem d_X7_tokens_16 : dn cX7_tokens 16 (.ifCond .eq 12) 3 19 := dnAt dc_X7_tokens 8 rfl rfl
theorem d_X7_tokens_19 : dn cX7_tokens 19 (.aload_n 0) 1 20 := dnAt dc_X7_tokens 9 rfl rfl
theorem d_X7_tokens_20 : dn cX7_tokens 20 (.getfield 7) 3 23 := dnAt dc_X7_tokens 10 rfl rfl
theorem d_X7_tokens_23 : dn cX7_tokens 23 (.iload_n 1) 1 24 := dnAt dc_X7_tokens 11 rfl rfl
theorem d_X7_tokens_24 : dn cX7_tokens 24 (.iaload) 1 25 := dnAt dc_X7_tokens 12 rfl rfl
theorem d_X7_tokens_25 : dn cX7_tokens 25 (.goto 4) 3 28 := dnAt dc_X7_tokens 13 rfl rfl
theorem d_X7_tokens_28 : dn cX7_tokens 28 (.iconst 0) 1 29 := dnAt dc_X7_tokens 14 rfl rfl
theorem d_X7_tokens_29 : dn cX7_tokens 29 (.ireturn) 1 30 := dnAt dc_X7_tokens 15 rfl rfl
set_option maxHeartbeats 4000000 in
set_option maxRecDepth 100000 in
theorem m_tokens (S : mS) (side : Int32) : mC yX7_tokens cX7_tokens 2 (Option.some Jvm.ClassFile.FieldType.int) { frames := 2, cells := 0, slots := 0, locals := 42 } [.int side] S (fun v9 T9 => v9 = (some (.int (nI (rTokens S side)))) ∧ T9 = uK S 0 (cSide side)) := by
  refine mC.of (by decide) (Nat.le_of_ble_eq_true rfl) ?_
  intro G x q h0 C A TY
  show VM G x q h0 S 0 [(0, .ref (q 0)), (1, .int side)] []
  have join_13 : VM G x q h0 S 13 [(0, .ref (q 0)), (1, .int side)] [.int (nI (cSide side)), .ref (q 0)] := by
    refine m_callV C d_X7_tokens_13 ok_RX7_84 (m_holds S (cSide side) (by unfold cSide; split <;> omega)) rfl (rest := []) rfl rfl (Nat.le_of_ble_eq_true rfl) ⟨⟨by decide, by decide⟩, by decide, by decide⟩ (fun v9 T9 e9 => ?_)
    obtain ⟨rfl, e9⟩ := e9
    refine m_eq e9 ?_
    show VM G x q h0 (uK S 0 (cSide side)) 16 [(0, .ref (q 0)), (1, .int side)] [.int (bI (decide (cSide side = 0)))]
    refine mb_if_eq C d_X7_tokens_16 (tgt := 28) rfl (fun c_16 => ?_) (fun c_16 => ?_)
    · skip
      have c1 : ¬ inR side 0 1 = true := fun z => by rw [cSide, if_pos z] at c_16; exact absurd c_16 (by decide)
      refine m_iconst C d_X7_tokens_28 (v := (nI 0)) rfl ?_
      refine m_st (st' := [.int (nI (rTokens S side))]) (by first | rw [rTokens, if_pos c1] | rw [rTokens, if_neg c1]) ?_
      exact m_iret C A TY d_X7_tokens_29 rfl (⟨rfl, rfl⟩)
    · skip
      have c0 := of_decide_eq_true c_16
      have c1 : inR side 0 1 = true := by unfold cSide at c0; split at c0 <;> first | assumption | omega
      obtain ⟨e1, -, e2⟩ := inR_of c1 (by decide) (by decide)
      refine m_lve (lv' := [(0, .ref (q 0)), (1, .int (nI (tn side)))]) (by rw [← e1]) ?_
      refine m_aload_n C d_X7_tokens_19 0 rfl ?_
      refine m_get C d_X7_tokens_20 fd_RX7_7 (v := .ref (q 1)) rfl ?_
      refine m_iload_n C d_X7_tokens_23 1 rfl ?_
      refine m_ald C d_X7_tokens_24 (k := 1) (by decide) rfl (by show _ < 2; omega) (by decide) ?_
      refine m_st (st' := [.int (nI (mN S 1 (tn side)))]) rfl ?_
      refine m_goto C d_X7_tokens_25 (tgt := 29) rfl ?_
      refine m_st (st' := [.int (nI (rTokens S side))]) (by first | rw [rTokens, if_pos c1] | rw [rTokens, if_neg c1]) ?_
      exact m_iret C A TY d_X7_tokens_29 rfl (⟨rfl, rfl⟩)
  refine m_aload_n C d_X7_tokens_0 0 rfl ?_
  refine m_iload_n C d_X7_tokens_1 1 rfl ?_
  refine m_callS C d_X7_tokens_2 ok_RX7_80 (s_isSide side) (rest := [.ref (q 0)]) rfl rfl (Nat.le_of_ble_eq_true rfl) ⟨⟨by decide, by decide⟩, by decide, by decide⟩ ?_
  show VM G x q h0 S 5 [(0, .ref (q 0)), (1, .int side)] [.int (bI (inR side 0 1)), .ref (q 0)]
  refine mb_if_eq C d_X7_tokens_5 (tgt := 12) rfl (fun c_5 => ?_) (fun c_5 => ?_)
  · skip
    refine m_iconst C d_X7_tokens_12 (v := (nI 1)) rfl ?_
    refine m_st (st' := [.int (nI (cSide side)), .ref (q 0)]) (by first | rw [cSide, if_pos c_5] | rw [cSide, if_neg (by rw [c_5]; decide)]) ?_
    exact join_13  
  · skip
    refine m_iconst C d_X7_tokens_8 (v := (nI 0)) rfl ?_
    refine m_goto C d_X7_tokens_9 (tgt := 13) rfl ?_
    refine m_st (st' := [.int (nI (cSide side)), .ref (q 0)]) (by first | rw [cSide, if_pos c_5] | rw [cSide, if_neg (by rw [c_5]; decide)]) ?_
    exact join_13  
def dl_X7_sentenceOf : List (Nat × Instr × Nat) := [(0, .iload_n 1, 1), (1, .invokestatic 80, 3), (4, .ifCond .eq 23, 3), (7, .iload_n 2, 1), (8, .iconst 0, 1), (9, .aload_n 0, 1), (10, .getfield 7, 3), (13, .iload_n 1, 1), (14, .iaload, 1), (15, .iconst 1, 1), (16, .isub, 1), (17, .invokestatic 76, 3), (20, .ifCond .eq 7, 3), (23, .iconst 1, 1), (24, .goto 4, 3), (27, .iconst 0, 1), (28, .istore_n 3, 1), (29, .aload_n 0, 1), (30, .iload_n 3, 1), (31, .ifCond .eq 7, 3), (34, .iconst 0, 1), (35, .goto 4, 3), (38, .iconst 1, 1), (39, .invokevirtual 84, 3), (42, .ifCond .eq 17, 3), (45, .aload_n 0, 1), (46, .getfield 16, 3), (49, .bipush 40, 2), (51, .iload_n 1, 1), (52, .imul, 1), (53, .iload_n 2, 1), (54, .iadd, 1), (55, .iaload, 1), (56, .goto 4, 3), (59, .iconst 0, 1), (60, .ireturn, 1)]
theorem dc_X7_sentenceOf : dnL cX7_sentenceOf dl_X7_sentenceOf = true := by decide +kernel
theorem d_X7_sentenceOf_0 : dn cX7_sentenceOf 0 (.iload_n 1) 1 1 := dnAt dc_X7_sentenceOf 0 rfl rfl
theorem d_X7_sentenceOf_1 : dn cX7_sentenceOf 1 (.invokestatic 80) 3 4 := dnAt dc_X7_sentenceOf 1 rfl rfl
theorem d_X7_sentenceOf_4 : dn cX7_sentenceOf 4 (.ifCond .eq 23) 3 7 := dnAt dc_X7_sentenceOf 2 rfl rfl
theorem d_X7_sentenceOf_7 : dn cX7_sentenceOf 7 (.iload_n 2) 1 8 := dnAt dc_X7_sentenceOf 3 rfl rfl
theorem d_X7_sentenceOf_8 : dn cX7_sentenceOf 8 (.iconst 0) 1 9 := dnAt dc_X7_sentenceOf 4 rfl rfl
theorem d_X7_sentenceOf_9 : dn cX7_sentenceOf 9 (.aload_n 0) 1 10 := dnAt dc_X7_sentenceOf 5 rfl rfl
theorem d_X7_sentenceOf_10 : dn cX7_sentenceOf 10 (.getfield 7) 3 13 := dnAt dc_X7_sentenceOf 6 rfl rfl
theorem d_X7_sentenceOf_13 : dn cX7_sentenceOf 13 (.iload_n 1) 1 14 := dnAt dc_X7_sentenceOf 7 rfl rfl
theorem d_X7_sentenceOf_14 : dn cX7_sentenceOf 14 (.iaload) 1 15 := dnAt dc_X7_sentenceOf 8 rfl rfl
theorem d_X7_sentenceOf_15 : dn cX7_sentenceOf 15 (.iconst 1) 1 16 := dnAt dc_X7_sentenceOf 9 rfl rfl
theorem d_X7_sentenceOf_16 : dn cX7_sentenceOf 16 (.isub) 1 17 := dnAt dc_X7_sentenceOf 10 rfl rfl
theorem d_X7_sentenceOf_17 : dn cX7_sentenceOf 17 (.invokestatic 76) 3 20 := dnAt dc_X7_sentenceOf 11 rfl rfl
theorem d_X7_sentenceOf_20 : dn cX7_sentenceOf 20 (.ifCond .eq 7) 3 23 := dnAt dc_X7_sentenceOf 12 rfl rfl
theorem d_X7_sentenceOf_23 : dn cX7_sentenceOf 23 (.iconst 1) 1 24 := dnAt dc_X7_sentenceOf 13 rfl rfl
theorem d_X7_sentenceOf_24 : dn cX7_sentenceOf 24 (.goto 4) 3 27 := dnAt dc_X7_sentenceOf 14 rfl rfl
theorem d_X7_sentenceOf_27 : dn cX7_sentenceOf 27 (.iconst 0) 1 28 := dnAt dc_X7_sentenceOf 15 rfl rfl
theorem d_X7_sentenceOf_28 : dn cX7_sentenceOf 28 (.istore_n 3) 1 29 := dnAt dc_X7_sentenceOf 16 rfl rfl
theorem d_X7_sentenceOf_29 : dn cX7_sentenceOf 29 (.aload_n 0) 1 30 := dnAt dc_X7_sentenceOf 17 rfl rfl
theorem d_X7_sentenceOf_30 : dn cX7_sentenceOf 30 (.iload_n 3) 1 31 := dnAt dc_X7_sentenceOf 18 rfl rfl
theorem d_X7_sentenceOf_31 : dn cX7_sentenceOf 31 (.ifCond .eq 7) 3 34 := dnAt dc_X7_sentenceOf 19 rfl rfl
theorem d_X7_sentenceOf_34 : dn cX7_sentenceOf 34 (.iconst 0) 1 35 := dnAt dc_X7_sentenceOf 20 rfl rfl
theorem d_X7_sentenceOf_35 : dn cX7_sentenceOf 35 (.goto 4) 3 38 := dnAt dc_X7_sentenceOf 21 rfl rfl
theorem d_X7_sentenceOf_38 : dn cX7_sentenceOf 38 (.iconst 1) 1 39 := dnAt dc_X7_sentenceOf 22 rfl rfl
theorem d_X7_sentenceOf_39 : dn cX7_sentenceOf 39 (.invokevirtual 84) 3 42 := dnAt dc_X7_sentenceOf 23 rfl rfl
theorem d_X7_sentenceOf_42 : dn cX7_sentenceOf 42 (.ifCond .eq 17) 3 45 := dnAt dc_X7_sentenceOf 24 rfl rfl
theorem d_X7_sentenceOf_45 : dn cX7_sentenceOf 45 (.aload_n 0) 1 46 := dnAt dc_X7_sentenceOf 25 rfl rfl
theorem d_X7_sentenceOf_46 : dn cX7_sentenceOf 46 (.getfield 16) 3 49 := dnAt dc_X7_sentenceOf 26 rfl rfl
theorem d_X7_sentenceOf_49 : dn cX7_sentenceOf 49 (.bipush 40) 2 51 := dnAt dc_X7_sentenceOf 27 rfl rfl
theorem d_X7_sentenceOf_51 : dn cX7_sentenceOf 51 (.iload_n 1) 1 52 := dnAt dc_X7_sentenceOf 28 rfl rfl
theorem d_X7_sentenceOf_52 : dn cX7_sentenceOf 52 (.imul) 1 53 := dnAt dc_X7_sentenceOf 29 rfl rfl
theorem d_X7_sentenceOf_53 : dn cX7_sentenceOf 53 (.iload_n 2) 1 54 := dnAt dc_X7_sentenceOf 30 rfl rfl
theorem d_X7_sentenceOf_54 : dn cX7_sentenceOf 54 (.iadd) 1 55 := dnAt dc_X7_sentenceOf 31 rfl rfl
theorem d_X7_sentenceOf_55 : dn cX7_sentenceOf 55 (.iaload) 1 56 := dnAt dc_X7_sentenceOf 32 rfl rfl
theorem d_X7_sentenceOf_56 : dn cX7_sentenceOf 56 (.goto 4) 3 59 := dnAt dc_X7_sentenceOf 33 rfl rfl
theorem d_X7_sentenceOf_59 : dn cX7_sentenceOf 59 (.iconst 0) 1 60 := dnAt dc_X7_sentenceOf 34 rfl rfl
theorem d_X7_sentenceOf_60 : dn cX7_sentenceOf 60 (.ireturn) 1 61 := dnAt dc_X7_sentenceOf 35 rfl rfl
set_option maxHeartbeats 4000000 in
set_option maxRecDepth 100000 in
theorem m_sentenceOf (S : mS) (side place : Int32) (I : mInv S) : mC yX7_sentenceOf cX7_sentenceOf 4 (Option.some Jvm.ClassFile.FieldType.int) { frames := 2, cells := 0, slots := 0, locals := 42 } [.int side, .int place] S (fun v9 T9 => v9 = (some (.int (nI (rSent S side place)))) ∧ T9 = uK S 0 (cSent S side place)) := by
  refine mC.of (by decide) (Nat.le_of_ble_eq_true rfl) ?_
  intro G x q h0 C A TY
  show VM G x q h0 S 0 [(0, .ref (q 0)), (1, .int side), (2, .int place)] []
  have join_28 : VM G x q h0 S 28 [(0, .ref (q 0)), (1, .int side), (2, .int place)] [.int (bI (inR side 0 1 && inI place (nI 0) (nI (mN S 1 (tn side)) - nI 1)))] := by
    refine m_istore_n C d_X7_sentenceOf_28 (lv' := [(3, .int (bI (inR side 0 1 && inI place (nI 0) (nI (mN S 1 (tn side)) - nI 1)))), (0, .ref (q 0)), (1, .int side), (2, .int place)]) (by decide) rfl ?_
    have join_39 : VM G x q h0 S 39 [(0, .ref (q 0)), (1, .int side), (2, .int place)] [.int (nI (cSent S side place)), .ref (q 0)] := by
      refine m_callV C d_X7_sentenceOf_39 ok_RX7_84 (m_holds S (cSent S side place) (by unfold cSent; split <;> omega)) rfl (rest := []) rfl rfl (Nat.le_of_ble_eq_true rfl) ⟨⟨by decide, by decide⟩, by decide, by decide⟩ (fun v9 T9 e9 => ?_)
      obtain ⟨rfl, e9⟩ := e9
      refine m_eq e9 ?_
      show VM G x q h0 (uK S 0 (cSent S side place)) 42 [(0, .ref (q 0)), (1, .int side), (2, .int place)] [.int (bI (decide (cSent S side place = 0)))]
      refine mb_if_eq C d_X7_sentenceOf_42 (tgt := 59) rfl (fun c_42 => ?_) (fun c_42 => ?_)
      · skip
        have c1 := of_decide_eq_false c_42
        refine m_iconst C d_X7_sentenceOf_59 (v := (nI 0)) rfl ?_
        refine m_st (st' := [.int (nI (rSent S side place))]) (by first | rw [rSent, if_pos c0] | rw [rSent, if_neg c1]) ?_
        exact m_iret C A TY d_X7_sentenceOf_60 rfl (⟨rfl, rfl⟩)
      · skip
        have c0 := of_decide_eq_true c_42
        have c1 : (inR side 0 1 && inI place (nI 0) (nI (mN S 1 (tn side)) - nI 1)) = true := by unfold cSent at c0; split at c0 <;> first | assumption | omega
        rw [Bool.and_eq_true] at c1
        obtain ⟨e1, -, e2⟩ := inR_of c1.1 (by decide) (by decide)
        have i1 := I.1 (tn side) (by omega)
        obtain ⟨e3, e4⟩ := inI_of (by omega) c1.2
        refine m_lve (lv' := [(0, .ref (q 0)), (1, .int (nI (tn side))), (2, .int (nI (tn place)))]) (by rw [← e1, ← e3]) ?_
        refine m_aload_n C d_X7_sentenceOf_45 0 rfl ?_
        refine m_get C d_X7_sentenceOf_46 fd_RX7_16 (v := .ref (q 3)) rfl ?_
        refine m_bipush C d_X7_sentenceOf_49 (v := (nI 40)) rfl ?_
        refine m_iload_n C d_X7_sentenceOf_51 1 rfl ?_
        refine mn_imul C d_X7_sentenceOf_52 ?_
        refine m_iload_n C d_X7_sentenceOf_53 2 rfl ?_
        refine mn_iadd C d_X7_sentenceOf_54 ?_
        refine m_ald C d_X7_sentenceOf_55 (k := 3) (by decide) rfl (by show _ < 80; omega) (by decide) ?_
        refine m_st (st' := [.int (nI (mN S 3 ((40 * (tn side)) + (tn place))))]) rfl ?_
        refine m_goto C d_X7_sentenceOf_56 (tgt := 60) rfl ?_
        refine m_st (st' := [.int (nI (rSent S side place))]) (by first | rw [rSent, if_pos c0] | rw [rSent, if_neg c1]) ?_
        exact m_iret C A TY d_X7_sentenceOf_60 rfl (⟨rfl, rfl⟩)
    refine m_aload_n C d_X7_sentenceOf_29 1 rfl ?_
    refine m_iload_n C d_X7_sentenceOf_30 0 rfl ?_
    refine mb_if_eq C d_X7_sentenceOf_31 (tgt := 38) rfl (fun c_31 => ?_) (fun c_31 => ?_)
    · skip
      refine m_iconst C d_X7_sentenceOf_38 (v := (nI 1)) rfl ?_
      refine m_lv (lv' := [(0, .ref (q 0)), (1, .int side), (2, .int place)]) [1, 2, 3] rfl ?_
      refine m_st (st' := [.int (nI (cSent S side place)), .ref (q 0)]) (by first | rw [cSent, if_pos c_31] | rw [cSent, if_neg (by rw [c_31]; decide)]) ?_
      exact join_39  
    · skip
      refine m_iconst C d_X7_sentenceOf_34 (v := (nI 0)) rfl ?_
      refine m_goto C d_X7_sentenceOf_35 (tgt := 39) rfl ?_
      refine m_lv (lv' := [(0, .ref (q 0)), (1, .int side), (2, .int place)]) [1, 2, 3] rfl ?_
      refine m_st (st' := [.int (nI (cSent S side place)), .ref (q 0)]) (by first | rw [cSent, if_pos c_31] | rw [cSent, if_neg (by rw [c_31]; decide)]) ?_
      exact join_39  
  refine m_iload_n C d_X7_sentenceOf_0 1 rfl ?_
  refine m_callS C d_X7_sentenceOf_1 ok_RX7_80 (s_isSide side) (rest := []) rfl rfl (Nat.le_of_ble_eq_true rfl) ⟨⟨by decide, by decide⟩, by decide, by decide⟩ ?_
  show VM G x q h0 S 4 [(0, .ref (q 0)), (1, .int side), (2, .int place)] [.int (bI (inR side 0 1))]
  refine mb_if_eq C d_X7_sentenceOf_4 (tgt := 27) rfl (fun c_4 => ?_) (fun c_4 => ?_)
  · skip
    refine m_iconst C d_X7_sentenceOf_27 (v := (bI false)) rfl ?_
    refine m_st (st' := [.int (bI (inR side 0 1 && inI place (nI 0) (nI (mN S 1 (tn side)) - nI 1)))]) (by first | rw [c_4, c_20]; rfl | (rw [c_4]; rfl)) ?_
    exact join_28  
  · skip
    obtain ⟨e1, -, e2⟩ := inR_of c_4 (by decide) (by decide)
    refine m_lve (lv' := [(0, .ref (q 0)), (1, .int (nI (tn side))), (2, .int place)]) (by rw [← e1]) ?_
    refine m_iload_n C d_X7_sentenceOf_7 2 rfl ?_
    refine m_iconst C d_X7_sentenceOf_8 (v := (nI 0)) rfl ?_
    refine m_aload_n C d_X7_sentenceOf_9 0 rfl ?_
    refine m_get C d_X7_sentenceOf_10 fd_RX7_7 (v := .ref (q 1)) rfl ?_
    refine m_iload_n C d_X7_sentenceOf_13 1 rfl ?_
    refine m_ald C d_X7_sentenceOf_14 (k := 1) (by decide) rfl (by show _ < 2; omega) (by decide) ?_
    refine m_iconst C d_X7_sentenceOf_15 (v := (nI 1)) rfl ?_
    refine m_isub C d_X7_sentenceOf_16 ?_
    refine m_callS C d_X7_sentenceOf_17 ok_RX7_76 (s_isIn place ((nI 0)) (((nI (mN S 1 (tn side))) - (nI 1)))) (rest := []) rfl rfl (Nat.le_of_ble_eq_true rfl) ⟨⟨by decide, by decide⟩, by decide, by decide⟩ ?_
    show VM G x q h0 S 20 [(0, .ref (q 0)), (1, .int (nI (tn side))), (2, .int place)] [.int (bI (inI place (nI 0) ((nI (mN S 1 (tn side))) - (nI 1))))]
    refine mb_if_eq C d_X7_sentenceOf_20 (tgt := 27) rfl (fun c_20 => ?_) (fun c_20 => ?_)
    · skip
      refine m_iconst C d_X7_sentenceOf_27 (v := (bI false)) rfl ?_
      refine m_lve (lv' := [(0, .ref (q 0)), (1, .int side), (2, .int place)]) (by rw [← e1]) ?_
      refine m_st (st' := [.int (bI (inR side 0 1 && inI place (nI 0) (nI (mN S 1 (tn side)) - nI 1)))]) (by first | rw [c_4, c_20]; rfl | (rw [c_4]; rfl)) ?_
      exact join_28  
    · skip
      refine m_iconst C d_X7_sentenceOf_23 (v := (bI true)) rfl ?_
      refine m_goto C d_X7_sentenceOf_24 (tgt := 28) rfl ?_
      refine m_lve (lv' := [(0, .ref (q 0)), (1, .int side), (2, .int place)]) (by rw [← e1]) ?_
      refine m_st (st' := [.int (bI (inR side 0 1 && inI place (nI 0) (nI (mN S 1 (tn side)) - nI 1)))]) (by first | rw [c_4, c_20]; rfl | (rw [c_4]; rfl)) ?_
      exact join_28  
def dl_X7_occurs : List (Nat × Instr × Nat) := [(0, .aload_n 0, 1), (1, .iload_n 1, 1), (2, .invokestatic 80, 3), (5, .ifCond .ne 7, 3), (8, .iconst 1, 1), (9, .goto 15, 3), (12, .iload_n 2, 1), (13, .invokestatic 91, 3), (16, .ifCond .eq 7, 3), (19, .iconst 0, 1), (20, .goto 4, 3), (23, .iconst 2, 1), (24, .invokevirtual 84, 3), (27, .ifCond .ne 5, 3), (30, .iconst 0, 1), (31, .ireturn, 1), (32, .iconst 0, 1), (33, .istore 4, 2), (35, .iconst 0, 1), (36, .istore 5, 2), (38, .iload 5, 2), (40, .aload_n 0, 1), (41, .getfield 7, 3), (44, .iload_n 1, 1), (45, .iaload, 1), (46, .if_icmp .ge 31, 3), (49, .iload 4, 2), (51, .aload_n 0, 1), (52, .iload_n 1, 1), (53, .iload 5, 2), (55, .iload_n 2, 1), (56, .invokevirtual 94, 3), (59, .iload_n 3, 1), (60, .if_icmp .ne 7, 3), (63, .iconst 1, 1), (64, .goto 4, 3), (67, .iconst 0, 1), (68, .iadd, 1), (69, .istore 4, 2), (71, .iinc 5 1, 3), (74, .goto (-36), 3), (77, .iload 4, 2), (79, .ireturn, 1)]
theorem dc_X7_occurs : dnL cX7_occurs dl_X7_occurs = true := by decide +kernel
theorem d_X7_occurs_0 : dn cX7_occurs 0 (.aload_n 0) 1 1 := dnAt dc_X7_occurs 0 rfl rfl
theorem d_X7_occurs_1 : dn cX7_occurs 1 (.iload_n 1) 1 2 := dnAt dc_X7_occurs 1 rfl rfl
theorem d_X7_occurs_2 : dn cX7_occurs 2 (.invokestatic 80) 3 5 := dnAt dc_X7_occurs 2 rfl rfl
theorem d_X7_occurs_5 : dn cX7_occurs 5 (.ifCond .ne 7) 3 8 := dnAt dc_X7_occurs 3 rfl rfl
theorem d_X7_occurs_8 : dn cX7_occurs 8 (.iconst 1) 1 9 := dnAt dc_X7_occurs 4 rfl rfl
theorem d_X7_occurs_9 : dn cX7_occurs 9 (.goto 15) 3 12 := dnAt dc_X7_occurs 5 rfl rfl
theorem d_X7_occurs_12 : dn cX7_occurs 12 (.iload_n 2) 1 13 := dnAt dc_X7_occurs 6 rfl rfl
theorem d_X7_occurs_13 : dn cX7_occurs 13 (.invokestatic 91) 3 16 := dnAt dc_X7_occurs 7 rfl rfl
theorem d_X7_occurs_16 : dn cX7_occurs 16 (.ifCond .eq 7) 3 19 := dnAt dc_X7_occurs 8 rfl rfl
theorem d_X7_occurs_19 : dn cX7_occurs 19 (.iconst 0) 1 20 := dnAt dc_X7_occurs 9 rfl rfl
theorem d_X7_occurs_20 : dn cX7_occurs 20 (.goto 4) 3 23 := dnAt dc_X7_occurs 10 rfl rfl
theorem d_X7_occurs_23 : dn cX7_occurs 23 (.iconst 2) 1 24 := dnAt dc_X7_occurs 11 rfl rfl
theorem d_X7_occurs_24 : dn cX7_occurs 24 (.invokevirtual 84) 3 27 := dnAt dc_X7_occurs 12 rfl rfl
theorem d_X7_occurs_27 : dn cX7_occurs 27 (.ifCond .ne 5) 3 30 := dnAt dc_X7_occurs 13 rfl rfl
theorem d_X7_occurs_30 : dn cX7_occurs 30 (.iconst 0) 1 31 := dnAt dc_X7_occurs 14 rfl rfl
theorem d_X7_occurs_31 : dn cX7_occurs 31 (.ireturn) 1 32 := dnAt dc_X7_occurs 15 rfl rfl
theorem d_X7_occurs_32 : dn cX7_occurs 32 (.iconst 0) 1 33 := dnAt dc_X7_occurs 16 rfl rfl
theorem d_X7_occurs_33 : dn cX7_occurs 33 (.istore 4) 2 35 := dnAt dc_X7_occurs 17 rfl rfl
theorem d_X7_occurs_35 : dn cX7_occurs 35 (.iconst 0) 1 36 := dnAt dc_X7_occurs 18 rfl rfl
theorem d_X7_occurs_36 : dn cX7_occurs 36 (.istore 5) 2 38 := dnAt dc_X7_occurs 19 rfl rfl
theorem d_X7_occurs_38 : dn cX7_occurs 38 (.iload 5) 2 40 := dnAt dc_X7_occurs 20 rfl rfl
theorem d_X7_occurs_40 : dn cX7_occurs 40 (.aload_n 0) 1 41 := dnAt dc_X7_occurs 21 rfl rfl
theorem d_X7_occurs_41 : dn cX7_occurs 41 (.getfield 7) 3 44 := dnAt dc_X7_occurs 22 rfl rfl
theorem d_X7_occurs_44 : dn cX7_occurs 44 (.iload_n 1) 1 45 := dnAt dc_X7_occurs 23 rfl rfl
theorem d_X7_occurs_45 : dn cX7_occurs 45 (.iaload) 1 46 := dnAt dc_X7_occurs 24 rfl rfl
theorem d_X7_occurs_46 : dn cX7_occurs 46 (.if_icmp .ge 31) 3 49 := dnAt dc_X7_occurs 25 rfl rfl
theorem d_X7_occurs_49 : dn cX7_occurs 49 (.iload 4) 2 51 := dnAt dc_X7_occurs 26 rfl rfl
theorem d_X7_occurs_51 : dn cX7_occurs 51 (.aload_n 0) 1 52 := dnAt dc_X7_occurs 27 rfl rfl
theorem d_X7_occurs_52 : dn cX7_occurs 52 (.iload_n 1) 1 53 := dnAt dc_X7_occurs 28 rfl rfl
theorem d_X7_occurs_53 : dn cX7_occurs 53 (.iload 5) 2 55 := dnAt dc_X7_occurs 29 rfl rfl
theorem d_X7_occurs_55 : dn cX7_occurs 55 (.iload_n 2) 1 56 := dnAt dc_X7_occurs 30 rfl rfl
theorem d_X7_occurs_56 : dn cX7_occurs 56 (.invokevirtual 94) 3 59 := dnAt dc_X7_occurs 31 rfl rfl
theorem d_X7_occurs_59 : dn cX7_occurs 59 (.iload_n 3) 1 60 := dnAt dc_X7_occurs 32 rfl rfl
theorem d_X7_occurs_60 : dn cX7_occurs 60 (.if_icmp .ne 7) 3 63 := dnAt dc_X7_occurs 33 rfl rfl
theorem d_X7_occurs_63 : dn cX7_occurs 63 (.iconst 1) 1 64 := dnAt dc_X7_occurs 34 rfl rfl
theorem d_X7_occurs_64 : dn cX7_occurs 64 (.goto 4) 3 67 := dnAt dc_X7_occurs 35 rfl rfl
theorem d_X7_occurs_67 : dn cX7_occurs 67 (.iconst 0) 1 68 := dnAt dc_X7_occurs 36 rfl rfl
theorem d_X7_occurs_68 : dn cX7_occurs 68 (.iadd) 1 69 := dnAt dc_X7_occurs 37 rfl rfl
theorem d_X7_occurs_69 : dn cX7_occurs 69 (.istore 4) 2 71 := dnAt dc_X7_occurs 38 rfl rfl
theorem d_X7_occurs_71 : dn cX7_occurs 71 (.iinc 5 1) 3 74 := dnAt dc_X7_occurs 39 rfl rfl
theorem d_X7_occurs_74 : dn cX7_occurs 74 (.goto (-36)) 3 77 := dnAt dc_X7_occurs 40 rfl rfl
theorem d_X7_occurs_77 : dn cX7_occurs 77 (.iload 4) 2 79 := dnAt dc_X7_occurs 41 rfl rfl
theorem d_X7_occurs_79 : dn cX7_occurs 79 (.ireturn) 1 80 := dnAt dc_X7_occurs 42 rfl rfl
set_option maxHeartbeats 4000000 in
set_option maxRecDepth 100000 in
theorem m_occurs (S : mS) (side attr value : Int32) (I : mInv S) : mC yX7_occurs cX7_occurs 6 (Option.some Jvm.ClassFile.FieldType.int) { frames := 2, cells := 0, slots := 0, locals := 42 } [.int side, .int attr, .int value] S (fun v9 T9 => v9 = (some (.int (nI (rOccurs S side attr value)))) ∧ T9 = uK S 0 (cOccurs side attr)) := by
  refine mC.of (by decide) (Nat.le_of_ble_eq_true rfl) ?_
  intro G x q h0 C A TY
  show VM G x q h0 S 0 [(0, .ref (q 0)), (1, .int side), (2, .int attr), (3, .int value)] []
  refine m_aload_n C d_X7_occurs_0 0 rfl ?_
  have join_24 : VM G x q h0 S 24 [(0, .ref (q 0)), (1, .int side), (2, .int attr), (3, .int value)] [.int (nI (cOccurs side attr)), .ref (q 0)] := by
    refine m_callV C d_X7_occurs_24 ok_RX7_84 (m_holds S (cOccurs side attr) (by unfold cOccurs; split <;> (try split) <;> omega)) rfl (rest := []) rfl rfl (Nat.le_of_ble_eq_true rfl) ⟨⟨by decide, by decide⟩, by decide, by decide⟩ (fun v9 T9 e9 => ?_)
    obtain ⟨rfl, e9⟩ := e9
    refine m_eq e9 ?_
    show VM G x q h0 (uK S 0 (cOccurs side attr)) 27 [(0, .ref (q 0)), (1, .int side), (2, .int attr), (3, .int value)] [.int (bI (decide (cOccurs side attr = 0)))]
    refine mb_if_ne C d_X7_occurs_27 (tgt := 32) rfl (fun c_27 => ?_) (fun c_27 => ?_)
    · skip
      have c0 := of_decide_eq_true c_27
      obtain ⟨c1, c2⟩ := cOccurs_0 c0
      obtain ⟨e1, -, e2⟩ := inR_of c1 (by decide) (by decide)
      obtain ⟨e3, -, e4⟩ := inR_of c2 (by decide) (by decide)
      have i1 := I.1 (tn side) (by omega)
      refine m_lve (lv' := [(0, .ref (q 0)), (1, .int (nI (tn side))), (2, .int (nI (tn attr))), (3, .int value)]) (by rw [← e1, ← e3]) ?_
      refine m_iconst C d_X7_occurs_32 (v := (nI 0)) rfl ?_
      refine m_istore C d_X7_occurs_33 (lv' := [(4, .int (nI 0)), (0, .ref (q 0)), (1, .int (nI (tn side))), (2, .int (nI (tn attr))), (3, .int value)]) (by decide) rfl ?_
      refine m_iconst C d_X7_occurs_35 (v := (nI 0)) rfl ?_
      refine m_istore C d_X7_occurs_36 (lv' := [(5, .int (nI 0)), (4, .int (nI 0)), (0, .ref (q 0)), (1, .int (nI (tn side))), (2, .int (nI (tn attr))), (3, .int value)]) (by decide) rfl ?_
      have loop_38 : ∀ (fuel : Nat) (k : Nat), (k ≤ mN S 1 (tn side)) → (41 - k) < fuel → VM G x q h0 (uK S 0 (cOccurs side attr)) 38 [(0, .ref (q 0)), (1, .int (nI (tn side))), (2, .int (nI (tn attr))), (3, .int value), (4, .int (nI (nOccurs S (tn side) (tn attr) value k))), (5, .int (nI k))] [] := by
        intro fuel
        induction fuel with
        | zero => intro k hk hf9; exact absurd hf9 (Nat.not_lt_zero _)
        | succ fuel ih_38 =>
          intro k hk hf9
          refine m_iload C d_X7_occurs_38 5 rfl ?_
          refine m_aload_n C d_X7_occurs_40 0 rfl ?_
          refine m_get C d_X7_occurs_41 fd_RX7_7 (v := .ref (q 1)) rfl ?_
          refine m_iload_n C d_X7_occurs_44 1 rfl ?_
          refine m_ald C d_X7_occurs_45 (k := 1) (by decide) rfl (by show _ < 2; omega) (by decide) ?_
          refine m_st (st' := [.int (nI (mN S 1 (tn side))), .int (nI k)]) rfl ?_
          refine mn_icmp_ge C d_X7_occurs_46 (tgt := 77) rfl (by omega) (by omega) (fun c_46 => ?_) (fun c_46 => ?_)
          · skip
            refine m_iload C d_X7_occurs_77 4 rfl ?_
            have e9 : k = mN S 1 (tn side) := by omega
            subst e9
            refine m_st (st' := [.int (nI (rOccurs S side attr value))]) (by rw [rOccurs, if_pos c0]) ?_
            exact m_iret C A TY d_X7_occurs_79 rfl (⟨rfl, rfl⟩)
          · skip
            have join_68 : VM G x q h0 (uK S 0 (cOccurs side attr)) 68 [(0, .ref (q 0)), (1, .int (nI (tn side))), (2, .int (nI (tn attr))), (3, .int value), (4, .int (nI (nOccurs S (tn side) (tn attr) value k))), (5, .int (nI k))] [.int (nI (if nI (mVal S (tn side) k (tn attr)) = value then 1 else 0)), .int (nI (nOccurs S (tn side) (tn attr) value k))] := by
              refine mn_iadd C d_X7_occurs_68 ?_
              refine m_istore C d_X7_occurs_69 (lv' := [(4, .int (nI ((nOccurs S (tn side) (tn attr) value k) + (if nI (mVal S (tn side) k (tn attr)) = value then 1 else 0)))), (0, .ref (q 0)), (1, .int (nI (tn side))), (2, .int (nI (tn attr))), (3, .int value), (5, .int (nI k))]) (by decide) rfl ?_
              refine mn_iinc C d_X7_occurs_71 (lv' := [(5, .int (nI (k + 1))), (4, .int (nI ((nOccurs S (tn side) (tn attr) value k) + (if nI (mVal S (tn side) k (tn attr)) = value then 1 else 0)))), (0, .ref (q 0)), (1, .int (nI (tn side))), (2, .int (nI (tn attr))), (3, .int value)]) 5 rfl (nI_inc _ rfl) (by decide) rfl ?_
              refine m_goto C d_X7_occurs_74 (tgt := 38) rfl ?_
              refine m_lv (lv' := [(0, .ref (q 0)), (1, .int (nI (tn side))), (2, .int (nI (tn attr))), (3, .int value), (4, .int (nI ((nOccurs S (tn side) (tn attr) value k) + (if nI (mVal S (tn side) k (tn attr)) = value then 1 else 0)))), (5, .int (nI (k + 1)))]) [2, 3, 4, 5, 1, 0] rfl ?_
              refine m_lve (lv' := [(0, .ref (q 0)), (1, .int (nI (tn side))), (2, .int (nI (tn attr))), (3, .int value), (4, .int (nI (nOccurs S (tn side) (tn attr) value (k + 1)))), (5, .int (nI (k + 1)))]) (rfl) ?_
              exact ih_38 (k + 1) (by omega) (by omega)
            refine m_iload C d_X7_occurs_49 4 rfl ?_
            refine m_aload_n C d_X7_occurs_51 0 rfl ?_
            refine m_iload_n C d_X7_occurs_52 1 rfl ?_
            refine m_iload C d_X7_occurs_53 5 rfl ?_
            refine m_iload_n C d_X7_occurs_55 2 rfl ?_
            refine m_callV C d_X7_occurs_56 ok_RX7_94 (m_valueOf (uK S 0 (cOccurs side attr)) (tn side) k (tn attr) (by omega) (by omega) (by omega)) rfl (rest := [.int (nI (nOccurs S (tn side) (tn attr) value k))]) rfl rfl (Nat.le_of_ble_eq_true rfl) ⟨⟨by decide, by decide⟩, by decide, by decide⟩ (fun v9 T9 e9 => ?_)
            obtain ⟨rfl, e9⟩ := e9
            refine m_eq e9 ?_
            show VM G x q h0 (uK S 0 (cOccurs side attr)) 59 [(0, .ref (q 0)), (1, .int (nI (tn side))), (2, .int (nI (tn attr))), (3, .int value), (4, .int (nI (nOccurs S (tn side) (tn attr) value k))), (5, .int (nI k))] [.int (nI (mVal S (tn side) k (tn attr))), .int (nI (nOccurs S (tn side) (tn attr) value k))]
            refine m_iload_n C d_X7_occurs_59 3 rfl ?_
            refine m_icmp_ne C d_X7_occurs_60 (tgt := 67) rfl (fun c_60 => ?_) (fun c_60 => ?_)
            · skip
              refine m_iconst C d_X7_occurs_67 (v := (nI 0)) rfl ?_
              refine m_st (st' := [.int (nI (if nI (mVal S (tn side) k (tn attr)) = value then 1 else 0)), .int (nI (nOccurs S (tn side) (tn attr) value k))]) (by first | rw [if_neg c_60] | rw [if_pos (Classical.not_not.mp c_60)]) ?_
              exact join_68  
            · skip
              refine m_iconst C d_X7_occurs_63 (v := (nI 1)) rfl ?_
              refine m_goto C d_X7_occurs_64 (tgt := 68) rfl ?_
              refine m_st (st' := [.int (nI (if nI (mVal S (tn side) k (tn attr)) = value then 1 else 0)), .int (nI (nOccurs S (tn side) (tn attr) value k))]) (by first | rw [if_neg c_60] | rw [if_pos (Classical.not_not.mp c_60)]) ?_
              exact join_68  
      refine m_lv (lv' := [(0, .ref (q 0)), (1, .int (nI (tn side))), (2, .int (nI (tn attr))), (3, .int value), (4, .int (nI 0)), (5, .int (nI 0))]) [2, 3, 4, 5, 1, 0] rfl ?_
      refine m_lve (lv' := [(0, .ref (q 0)), (1, .int (nI (tn side))), (2, .int (nI (tn attr))), (3, .int value), (4, .int (nI (nOccurs S (tn side) (tn attr) value 0))), (5, .int (nI 0))]) (rfl) ?_
      exact loop_38 _ 0 (by omega) (Nat.lt_succ_self _)
    · skip
      have c1 := of_decide_eq_false c_27
      refine m_iconst C d_X7_occurs_30 (v := (nI 0)) rfl ?_
      refine m_st (st' := [.int (nI (rOccurs S side attr value))]) (by rw [rOccurs, if_neg c1]) ?_
      exact m_iret C A TY d_X7_occurs_31 rfl (⟨rfl, rfl⟩)
  refine m_iload_n C d_X7_occurs_1 1 rfl ?_
  refine m_callS C d_X7_occurs_2 ok_RX7_80 (s_isSide side) (rest := [.ref (q 0)]) rfl rfl (Nat.le_of_ble_eq_true rfl) ⟨⟨by decide, by decide⟩, by decide, by decide⟩ ?_
  show VM G x q h0 S 5 [(0, .ref (q 0)), (1, .int side), (2, .int attr), (3, .int value)] [.int (bI (inR side 0 1)), .ref (q 0)]
  refine mb_if_ne C d_X7_occurs_5 (tgt := 12) rfl (fun c_5 => ?_) (fun c_5 => ?_)
  · skip
    refine m_iload_n C d_X7_occurs_12 2 rfl ?_
    refine m_callS C d_X7_occurs_13 ok_RX7_91 (s_isAttribute attr) (rest := [.ref (q 0)]) rfl rfl (Nat.le_of_ble_eq_true rfl) ⟨⟨by decide, by decide⟩, by decide, by decide⟩ ?_
    show VM G x q h0 S 16 [(0, .ref (q 0)), (1, .int side), (2, .int attr), (3, .int value)] [.int (bI (inR attr 0 2)), .ref (q 0)]
    refine mb_if_eq C d_X7_occurs_16 (tgt := 23) rfl (fun c_16 => ?_) (fun c_16 => ?_)
    · skip
      refine m_iconst C d_X7_occurs_23 (v := (nI 2)) rfl ?_
      refine m_st (st' := [.int (nI (cOccurs side attr)), .ref (q 0)]) (by first | (rw [cOccurs, if_pos c_5]; first | rw [if_pos c_16] | rw [if_neg (by rw [c_16]; decide)]) | rw [cOccurs, if_neg (by rw [c_5]; decide)]) ?_
      exact join_24  
    · skip
      refine m_iconst C d_X7_occurs_19 (v := (nI 0)) rfl ?_
      refine m_goto C d_X7_occurs_20 (tgt := 24) rfl ?_
      refine m_st (st' := [.int (nI (cOccurs side attr)), .ref (q 0)]) (by first | (rw [cOccurs, if_pos c_5]; first | rw [if_pos c_16] | rw [if_neg (by rw [c_16]; decide)]) | rw [cOccurs, if_neg (by rw [c_5]; decide)]) ?_
      exact join_24  
  · skip
    refine m_iconst C d_X7_occurs_8 (v := (nI 1)) rfl ?_
    refine m_goto C d_X7_occurs_9 (tgt := 24) rfl ?_
    refine m_st (st' := [.int (nI (cOccurs side attr)), .ref (q 0)]) (by first | (rw [cOccurs, if_pos c_5]; first | rw [if_pos c_16] | rw [if_neg (by rw [c_16]; decide)]) | rw [cOccurs, if_neg (by rw [c_5]; decide)]) ?_
    exact join_24  
def dl_X7_end : List (Nat × Instr × Nat) := [(0, .iload_n 1, 1), (1, .invokestatic 80, 3), (4, .istore_n 3, 1), (5, .aload_n 0, 1), (6, .iload_n 3, 1), (7, .ifCond .ne 7, 3), (10, .iconst 1, 1), (11, .goto 17, 3), (14, .aload_n 0, 1), (15, .getfield 7, 3), (18, .iload_n 1, 1), (19, .iaload, 1), (20, .ifCond .ne 7, 3), (23, .iconst 2, 1), (24, .goto 4, 3), (27, .iconst 0, 1), (28, .invokevirtual 84, 3), (31, .ifCond .ne 5, 3), (34, .iconst 0, 1), (35, .ireturn, 1), (36, .aload_n 0, 1), (37, .getfield 22, 3), (40, .iload_n 1, 1), (41, .iconst 1, 1), (42, .bastore, 1), (43, .aload_n 0, 1), (44, .getfield 26, 3), (47, .iload_n 1, 1), (48, .aload_n 0, 1), (49, .getfield 26, 3), (52, .iload_n 1, 1), (53, .baload, 1), (54, .ifCond .ne 7, 3), (57, .iload_n 2, 1), (58, .ifCond .eq 7, 3), (61, .iconst 1, 1), (62, .goto 4, 3), (65, .iconst 0, 1), (66, .bastore, 1), (67, .aload_n 0, 1), (68, .getfield 7, 3), (71, .iload_n 1, 1), (72, .iaload, 1), (73, .ireturn, 1)]
theorem dc_X7_end : dnL cX7_end dl_X7_end = true := by decide +kernel
theorem d_X7_end_0 : dn cX7_end 0 (.iload_n 1) 1 1 := dnAt dc_X7_end 0 rfl rfl
theorem d_X7_end_1 : dn cX7_end 1 (.invokestatic 80) 3 4 := dnAt dc_X7_end 1 rfl rfl
theorem d_X7_end_4 : dn cX7_end 4 (.istore_n 3) 1 5 := dnAt dc_X7_end 2 rfl rfl
theorem d_X7_end_5 : dn cX7_end 5 (.aload_n 0) 1 6 := dnAt dc_X7_end 3 rfl rfl
theorem d_X7_end_6 : dn cX7_end 6 (.iload_n 3) 1 7 := dnAt dc_X7_end 4 rfl rfl
theorem d_X7_end_7 : dn cX7_end 7 (.ifCond .ne 7) 3 10 := dnAt dc_X7_end 5 rfl rfl
theorem d_X7_end_10 : dn cX7_end 10 (.iconst 1) 1 11 := dnAt dc_X7_end 6 rfl rfl
theorem d_X7_end_11 : dn cX7_end 11 (.goto 17) 3 14 := dnAt dc_X7_end 7 rfl rfl
theorem d_X7_end_14 : dn cX7_end 14 (.aload_n 0) 1 15 := dnAt dc_X7_end 8 rfl rfl
theorem d_X7_end_15 : dn cX7_end 15 (.getfield 7) 3 18 := dnAt dc_X7_end 9 rfl rfl
theorem d_X7_end_18 : dn cX7_end 18 (.iload_n 1) 1 19 := dnAt dc_X7_end 10 rfl rfl
theorem d_X7_end_19 : dn cX7_end 19 (.iaload) 1 20 := dnAt dc_X7_end 11 rfl rfl
theorem d_X7_end_20 : dn cX7_end 20 (.ifCond .ne 7) 3 23 := dnAt dc_X7_end 12 rfl rfl
theorem d_X7_end_23 : dn cX7_end 23 (.iconst 2) 1 24 := dnAt dc_X7_end 13 rfl rfl
theorem d_X7_end_24 : dn cX7_end 24 (.goto 4) 3 27 := dnAt dc_X7_end 14 rfl rfl
theorem d_X7_end_27 : dn cX7_end 27 (.iconst 0) 1 28 := dnAt dc_X7_end 15 rfl rfl
theorem d_X7_end_28 : dn cX7_end 28 (.invokevirtual 84) 3 31 := dnAt dc_X7_end 16 rfl rfl
theorem d_X7_end_31 : dn cX7_end 31 (.ifCond .ne 5) 3 34 := dnAt dc_X7_end 17 rfl rfl
theorem d_X7_end_34 : dn cX7_end 34 (.iconst 0) 1 35 := dnAt dc_X7_end 18 rfl rfl
theorem d_X7_end_35 : dn cX7_end 35 (.ireturn) 1 36 := dnAt dc_X7_end 19 rfl rfl
theorem d_X7_end_36 : dn cX7_end 36 (.aload_n 0) 1 37 := dnAt dc_X7_end 20 rfl rfl
theorem d_X7_end_37 : dn cX7_end 37 (.getfield 22) 3 40 := dnAt dc_X7_end 21 rfl rfl
theorem d_X7_end_40 : dn cX7_end 40 (.iload_n 1) 1 41 := dnAt dc_X7_end 22 rfl rfl
theorem d_X7_end_41 : dn cX7_end 41 (.iconst 1) 1 42 := dnAt dc_X7_end 23 rfl rfl
theorem d_X7_end_42 : dn cX7_end 42 (.bastore) 1 43 := dnAt dc_X7_end 24 rfl rfl
theorem d_X7_end_43 : dn cX7_end 43 (.aload_n 0) 1 44 := dnAt dc_X7_end 25 rfl rfl
theorem d_X7_end_44 : dn cX7_end 44 (.getfield 26) 3 47 := dnAt dc_X7_end 26 rfl rfl
theorem d_X7_end_47 : dn cX7_end 47 (.iload_n 1) 1 48 := dnAt dc_X7_end 27 rfl rfl
theorem d_X7_end_48 : dn cX7_end 48 (.aload_n 0) 1 49 := dnAt dc_X7_end 28 rfl rfl
theorem d_X7_end_49 : dn cX7_end 49 (.getfield 26) 3 52 := dnAt dc_X7_end 29 rfl rfl
theorem d_X7_end_52 : dn cX7_end 52 (.iload_n 1) 1 53 := dnAt dc_X7_end 30 rfl rfl
theorem d_X7_end_53 : dn cX7_end 53 (.baload) 1 54 := dnAt dc_X7_end 31 rfl rfl
theorem d_X7_end_54 : dn cX7_end 54 (.ifCond .ne 7) 3 57 := dnAt dc_X7_end 32 rfl rfl
theorem d_X7_end_57 : dn cX7_end 57 (.iload_n 2) 1 58 := dnAt dc_X7_end 33 rfl rfl
theorem d_X7_end_58 : dn cX7_end 58 (.ifCond .eq 7) 3 61 := dnAt dc_X7_end 34 rfl rfl
theorem d_X7_end_61 : dn cX7_end 61 (.iconst 1) 1 62 := dnAt dc_X7_end 35 rfl rfl
theorem d_X7_end_62 : dn cX7_end 62 (.goto 4) 3 65 := dnAt dc_X7_end 36 rfl rfl
theorem d_X7_end_65 : dn cX7_end 65 (.iconst 0) 1 66 := dnAt dc_X7_end 37 rfl rfl
theorem d_X7_end_66 : dn cX7_end 66 (.bastore) 1 67 := dnAt dc_X7_end 38 rfl rfl
theorem d_X7_end_67 : dn cX7_end 67 (.aload_n 0) 1 68 := dnAt dc_X7_end 39 rfl rfl
theorem d_X7_end_68 : dn cX7_end 68 (.getfield 7) 3 71 := dnAt dc_X7_end 40 rfl rfl
theorem d_X7_end_71 : dn cX7_end 71 (.iload_n 1) 1 72 := dnAt dc_X7_end 41 rfl rfl
theorem d_X7_end_72 : dn cX7_end 72 (.iaload) 1 73 := dnAt dc_X7_end 42 rfl rfl
theorem d_X7_end_73 : dn cX7_end 73 (.ireturn) 1 74 := dnAt dc_X7_end 43 rfl rfl
set_option maxHeartbeats 4000000 in
set_option maxRecDepth 100000 in
theorem m_end (S : mS) (side : Int32) (t : Bool) (I : mInv S) : mC yX7_end cX7_end 4 (Option.some Jvm.ClassFile.FieldType.int) { frames := 2, cells := 0, slots := 0, locals := 42 } [.int side, .int (bI t)] S (fun v9 T9 => v9 = (some (.int (nI (rEnd S side)))) ∧ T9 = tEnd S side t) := by
  refine mC.of (by decide) (Nat.le_of_ble_eq_true rfl) ?_
  intro G x q h0 C A TY
  show VM G x q h0 S 0 [(0, .ref (q 0)), (1, .int side), (2, .int (bI t))] []
  refine m_iload_n C d_X7_end_0 1 rfl ?_
  refine m_callS C d_X7_end_1 ok_RX7_80 (s_isSide side) (rest := []) rfl rfl (Nat.le_of_ble_eq_true rfl) ⟨⟨by decide, by decide⟩, by decide, by decide⟩ ?_
  show VM G x q h0 S 4 [(0, .ref (q 0)), (1, .int side), (2, .int (bI t))] [.int (bI (inR side 0 1))]
  refine m_istore_n C d_X7_end_4 (lv' := [(3, .int (bI (inR side 0 1))), (0, .ref (q 0)), (1, .int side), (2, .int (bI t))]) (by decide) rfl ?_
  have join_28 : VM G x q h0 S 28 [(0, .ref (q 0)), (1, .int side), (2, .int (bI t))] [.int (nI (cEnd S side)), .ref (q 0)] := by
    refine m_callV C d_X7_end_28 ok_RX7_84 (m_holds S (cEnd S side) (by unfold cEnd; split <;> (try split) <;> omega)) rfl (rest := []) rfl rfl (Nat.le_of_ble_eq_true rfl) ⟨⟨by decide, by decide⟩, by decide, by decide⟩ (fun v9 T9 e9 => ?_)
    obtain ⟨rfl, e9⟩ := e9
    refine m_eq e9 ?_
    show VM G x q h0 (uK S 0 (cEnd S side)) 31 [(0, .ref (q 0)), (1, .int side), (2, .int (bI t))] [.int (bI (decide (cEnd S side = 0)))]
    refine mb_if_ne C d_X7_end_31 (tgt := 36) rfl (fun c_31 => ?_) (fun c_31 => ?_)
    · skip
      have c0 := of_decide_eq_true c_31
      obtain ⟨c1, c2⟩ := cEnd_0 c0
      obtain ⟨e1, -, e2⟩ := inR_of c1 (by decide) (by decide)
      have i1 := I.1 (tn side) (by omega)
      rw [c0]
      refine m_lve (lv' := [(0, .ref (q 0)), (1, .int (nI (tn side))), (2, .int (bI t))]) (by rw [← e1]) ?_
      refine m_aload_n C d_X7_end_36 0 rfl ?_
      refine m_get C d_X7_end_37 fd_RX7_22 (v := .ref (q 5)) rfl ?_
      refine m_iload_n C d_X7_end_40 1 rfl ?_
      refine m_iconst C d_X7_end_41 (v := (bI true)) rfl ?_
      refine m_zst C d_X7_end_42 (k := 5) (v := true) (by decide) rfl (by show _ < 2; omega) (by decide) ?_
      refine m_aload_n C d_X7_end_43 0 rfl ?_
      refine m_get C d_X7_end_44 fd_RX7_26 (v := .ref (q 6)) rfl ?_
      refine m_iload_n C d_X7_end_47 1 rfl ?_
      have join_66 : VM G x q h0 (uB (uK S 0 0) 5 (tn side) true) 66 [(0, .ref (q 0)), (1, .int (nI (tn side))), (2, .int (bI t))] [.int (bI (mB S 6 (tn side) || t)), .int (nI (tn side)), .ref (q 6)] := by
        refine m_zst C d_X7_end_66 (k := 6) (v := mB S 6 (tn side) || t) (by decide) rfl (by show _ < 2; omega) (by decide) ?_
        refine m_aload_n C d_X7_end_67 0 rfl ?_
        refine m_get C d_X7_end_68 fd_RX7_7 (v := .ref (q 1)) rfl ?_
        refine m_iload_n C d_X7_end_71 1 rfl ?_
        refine m_ald C d_X7_end_72 (k := 1) (by decide) rfl (by show _ < 2; omega) (by decide) ?_
        refine m_st (st' := [.int (nI (mN S 1 (tn side)))]) rfl ?_
        refine m_st (st' := [.int (nI (rEnd S side))]) (by rw [rEnd, if_pos c0]) ?_
        exact m_iret C A TY d_X7_end_73 rfl (⟨rfl, by rw [tEnd, if_pos c0]⟩)
      refine m_aload_n C d_X7_end_48 0 rfl ?_
      refine m_get C d_X7_end_49 fd_RX7_26 (v := .ref (q 6)) rfl ?_
      refine m_iload_n C d_X7_end_52 1 rfl ?_
      refine m_zld C d_X7_end_53 (k := 6) (by decide) rfl (by show _ < 2; omega) (by decide) ?_
      refine m_st (st' := [.int (bI (mB S 6 (tn side))), .int (nI (tn side)), .ref (q 6)]) rfl ?_
      refine mb_if_ne C d_X7_end_54 (tgt := 61) rfl (fun c_54 => ?_) (fun c_54 => ?_)
      · skip
        refine m_iconst C d_X7_end_61 (v := (bI true)) rfl ?_
        refine m_goto C d_X7_end_62 (tgt := 66) rfl ?_
        refine m_st (st' := [.int (bI (mB S 6 (tn side) || t)), .int (nI (tn side)), .ref (q 6)]) (by first | (rw [c_54]; first | rfl | (rw [c_58]; rfl)) | (rw [c_58]; rfl)) ?_
        exact join_66  
      · skip
        refine m_iload_n C d_X7_end_57 2 rfl ?_
        refine mb_if_eq C d_X7_end_58 (tgt := 65) rfl (fun c_58 => ?_) (fun c_58 => ?_)
        · skip
          refine m_iconst C d_X7_end_65 (v := (bI false)) rfl ?_
          refine m_st (st' := [.int (bI (mB S 6 (tn side) || t)), .int (nI (tn side)), .ref (q 6)]) (by first | (rw [c_54]; first | rfl | (rw [c_58]; rfl)) | (rw [c_58]; rfl)) ?_
          exact join_66  
        · skip
          refine m_iconst C d_X7_end_61 (v := (bI true)) rfl ?_
          refine m_goto C d_X7_end_62 (tgt := 66) rfl ?_
          refine m_st (st' := [.int (bI (mB S 6 (tn side) || t)), .int (nI (tn side)), .ref (q 6)]) (by first | (rw [c_54]; first | rfl | (rw [c_58]; rfl)) | (rw [c_58]; rfl)) ?_
          exact join_66  
    · skip
      have c1 := of_decide_eq_false c_31
      refine m_iconst C d_X7_end_34 (v := (nI 0)) rfl ?_
      refine m_st (st' := [.int (nI (rEnd S side))]) (by rw [rEnd, if_neg c1]) ?_
      exact m_iret C A TY d_X7_end_35 rfl (⟨rfl, by rw [tEnd, if_neg c1]⟩)
  refine m_aload_n C d_X7_end_5 1 rfl ?_
  refine m_iload_n C d_X7_end_6 0 rfl ?_
  refine mb_if_ne C d_X7_end_7 (tgt := 14) rfl (fun c_7 => ?_) (fun c_7 => ?_)
  · skip
    obtain ⟨e1, -, e2⟩ := inR_of c_7 (by decide) (by decide)
    have i1 := I.1 (tn side) (by omega)
    refine m_lve (lv' := [(3, .int (bI (inR side 0 1))), (0, .ref (q 0)), (1, .int (nI (tn side))), (2, .int (bI t))]) (by rw [← e1]) ?_
    refine m_aload_n C d_X7_end_14 1 rfl ?_
    refine m_get C d_X7_end_15 fd_RX7_7 (v := .ref (q 1)) rfl ?_
    refine m_iload_n C d_X7_end_18 2 rfl ?_
    refine m_ald C d_X7_end_19 (k := 1) (by decide) rfl (by show _ < 2; omega) (by decide) ?_
    refine mn_if_ne C d_X7_end_20 (tgt := 27) rfl (by omega) (fun c_20 => ?_) (fun c_20 => ?_)
    · skip
      refine m_iconst C d_X7_end_27 (v := (nI 0)) rfl ?_
      refine m_lv (lv' := [(0, .ref (q 0)), (1, .int (nI (tn side))), (2, .int (bI t))]) [1, 2, 3] rfl ?_
      refine m_lve (lv' := [(0, .ref (q 0)), (1, .int side), (2, .int (bI t))]) (by rw [← e1]) ?_
      refine m_st (st' := [.int (nI (cEnd S side)), .ref (q 0)]) (by first | (rw [cEnd, if_pos c_7]; first | rw [if_pos c_20] | rw [if_neg (by omega)]) | rw [cEnd, if_neg (by rw [c_7]; decide)]) ?_
      exact join_28  
    · skip
      refine m_iconst C d_X7_end_23 (v := (nI 2)) rfl ?_
      refine m_goto C d_X7_end_24 (tgt := 28) rfl ?_
      refine m_lv (lv' := [(0, .ref (q 0)), (1, .int (nI (tn side))), (2, .int (bI t))]) [1, 2, 3] rfl ?_
      refine m_lve (lv' := [(0, .ref (q 0)), (1, .int side), (2, .int (bI t))]) (by rw [← e1]) ?_
      refine m_st (st' := [.int (nI (cEnd S side)), .ref (q 0)]) (by first | (rw [cEnd, if_pos c_7]; first | rw [if_pos c_20] | rw [if_neg (by omega)]) | rw [cEnd, if_neg (by rw [c_7]; decide)]) ?_
      exact join_28  
  · skip
    refine m_iconst C d_X7_end_10 (v := (nI 1)) rfl ?_
    refine m_goto C d_X7_end_11 (tgt := 28) rfl ?_
    refine m_lv (lv' := [(0, .ref (q 0)), (1, .int side), (2, .int (bI t))]) [1, 2, 3] rfl ?_
    refine m_st (st' := [.int (nI (cEnd S side)), .ref (q 0)]) (by first | (rw [cEnd, if_pos c_7]; first | rw [if_pos c_20] | rw [if_neg (by omega)]) | rw [cEnd, if_neg (by rw [c_7]; decide)]) ?_
    exact join_28  
end
section
theorem tw_665 : (Jvm.Cond.fieldLink "CorpuslineModel" (19 : Nat) "CorpuslineModel" "text" "[I") ∈ TB := tb_of 665 (by decide +kernel) rfl
theorem tw_668 : (Jvm.Cond.fieldLink "CorpuslineModel" (29 : Nat) "CorpuslineModel" "pairs" "[J") ∈ TB := tb_of 668 (by decide +kernel) rfl
theorem tw_758 : (Jvm.Cond.methodLink "CorpuslineModel" (87 : Nat) ({ cls := "CorpuslineModel", name := "sentences", desc := "(I)I" } : Jvm.MethodName)) ∈ TB := tb_of 758 (by decide +kernel) rfl
theorem tw_760 : (Jvm.Cond.instanceMethod ({ cls := "CorpuslineModel", name := "sentences", desc := "(I)I" } : Jvm.MethodName)) ∈ TB := tb_of 760 (by decide +kernel) rfl
theorem tw_761 : (Jvm.Cond.code ({ cls := "CorpuslineModel", name := "sentences", desc := "(I)I" } : Jvm.MethodName) prog_9_method_9_code (2 : Nat) (Option.some Jvm.ClassFile.FieldType.int)) ∈ TB := tb_of 761 (by decide +kernel) rfl
theorem tw_875 : (Jvm.Cond.methodLink "CorpuslineModel" (150 : Nat) ({ cls := "CorpuslineModel", name := "sizeOf", desc := "(I)I" } : Jvm.MethodName)) ∈ TB := tb_of 875 (by decide +kernel) rfl
theorem tw_877 : (Jvm.Cond.instanceMethod ({ cls := "CorpuslineModel", name := "sizeOf", desc := "(I)I" } : Jvm.MethodName)) ∈ TB := tb_of 877 (by decide +kernel) rfl
theorem tw_878 : (Jvm.Cond.code ({ cls := "CorpuslineModel", name := "sizeOf", desc := "(I)I" } : Jvm.MethodName) prog_9_method_39_code (4 : Nat) (Option.some Jvm.ClassFile.FieldType.int)) ∈ TB := tb_of 878 (by decide +kernel) rfl
theorem tw_890 : (Jvm.Cond.methodLink "CorpuslineModel" (153 : Nat) ({ cls := "CorpuslineModel", name := "isResult", desc := "(I)Z" } : Jvm.MethodName)) ∈ TB := tb_of 890 (by decide +kernel) rfl
theorem tw_892 : (Jvm.Cond.instanceMethod ({ cls := "CorpuslineModel", name := "isResult", desc := "(I)Z" } : Jvm.MethodName)) ∈ TB := tb_of 892 (by decide +kernel) rfl
theorem tw_893 : (Jvm.Cond.code ({ cls := "CorpuslineModel", name := "isResult", desc := "(I)Z" } : Jvm.MethodName) prog_9_method_42_code (2 : Nat) (Option.some Jvm.ClassFile.FieldType.boolean)) ∈ TB := tb_of 893 (by decide +kernel) rfl
theorem ts_19 : Cond.selects "CorpuslineModel" ({ cls := "CorpuslineModel", name := "sentences", desc := "(I)I" } : MethodName) ({ cls := "CorpuslineModel", name := "sentences", desc := "(I)I" } : MethodName) ∈ TB := tb_sel 19 (by decide +kernel) rfl
theorem ts_32 : Cond.selects "CorpuslineModel" ({ cls := "CorpuslineModel", name := "sizeOf", desc := "(I)I" } : MethodName) ({ cls := "CorpuslineModel", name := "sizeOf", desc := "(I)I" } : MethodName) ∈ TB := tb_sel 32 (by decide +kernel) rfl
theorem ts_33 : Cond.selects "CorpuslineModel" ({ cls := "CorpuslineModel", name := "isResult", desc := "(I)Z" } : MethodName) ({ cls := "CorpuslineModel", name := "isResult", desc := "(I)Z" } : MethodName) ∈ TB := tb_sel 33 (by decide +kernel) rfl
theorem fd_RX7_19 : fdOk RX7 19 6 4 := ⟨_, _, _, rfl, by decide, cw_6, tw_665, rfl⟩
theorem fd_RX7_29 : fdOk RX7 29 6 7 := ⟨_, _, _, rfl, by decide, cw_6, tw_668, rfl⟩
theorem pf_RX7_98 : pfOk RX7 98 6 16 .int false := ⟨_, _, _, tyX7, rfl, by decide, cw_6, tw_677, rfl, tyX7_ok, nmX7, rfl, by decide +kernel⟩
theorem ok_RX7_87 : okV RX7 87 yX7_sentences cX7_sentences 2 (Option.some Jvm.ClassFile.FieldType.int) 1 := ⟨tw_758, tw_760, ts_19, tw_5, tw_761, ⟨by decide, by decide, by decide +kernel⟩⟩
theorem ok_RX7_150 : okV RX7 150 yX7_sizeOf cX7_sizeOf 4 (Option.some Jvm.ClassFile.FieldType.int) 1 := ⟨tw_875, tw_877, ts_32, tw_5, tw_878, ⟨by decide, by decide, by decide +kernel⟩⟩
theorem ok_RX7_153 : okV RX7 153 yX7_isResult cX7_isResult 2 (Option.some Jvm.ClassFile.FieldType.boolean) 1 := ⟨tw_890, tw_892, ts_33, tw_5, tw_893, ⟨by decide, by decide, by decide +kernel⟩⟩
def dl_X7_wipe : List (Nat × Instr × Nat) := [(0, .aload_n 0, 1), (1, .iconst 0, 1), (2, .putfield 72, 3), (5, .aload_n 0, 1), (6, .getfield 98, 3), (9, .istore_n 1, 1), (10, .aload_n 0, 1), (11, .iconst 0, 1), (12, .putfield 98, 3), (15, .iload_n 1, 1), (16, .ireturn, 1)]
theorem dc_X7_wipe : dnL cX7_wipe dl_X7_wipe = true := by decide +kernel
theorem d_X7_wipe_0 : dn cX7_wipe 0 (.aload_n 0) 1 1 := dnAt dc_X7_wipe 0 rfl rfl
theorem d_X7_wipe_1 : dn cX7_wipe 1 (.iconst 0) 1 2 := dnAt dc_X7_wipe 1 rfl rfl
theorem d_X7_wipe_2 : dn cX7_wipe 2 (.putfield 72) 3 5 := dnAt dc_X7_wipe 2 rfl rfl
theorem d_X7_wipe_5 : dn cX7_wipe 5 (.aload_n 0) 1 6 := dnAt dc_X7_wipe 3 rfl rfl
theorem d_X7_wipe_6 : dn cX7_wipe 6 (.getfield 98) 3 9 := dnAt dc_X7_wipe 4 rfl rfl
theorem d_X7_wipe_9 : dn cX7_wipe 9 (.istore_n 1) 1 10 := dnAt dc_X7_wipe 5 rfl rfl
theorem d_X7_wipe_10 : dn cX7_wipe 10 (.aload_n 0) 1 11 := dnAt dc_X7_wipe 6 rfl rfl
theorem d_X7_wipe_11 : dn cX7_wipe 11 (.iconst 0) 1 12 := dnAt dc_X7_wipe 7 rfl rfl
theorem d_X7_wipe_12 : dn cX7_wipe 12 (.putfield 98) 3 15 := dnAt dc_X7_wipe 8 rfl rfl
theorem d_X7_wipe_15 : dn cX7_wipe 15 (.iload_n 1) 1 16 := dnAt dc_X7_wipe 9 rfl rfl
theorem d_X7_wipe_16 : dn cX7_wipe 16 (.ireturn) 1 17 := dnAt dc_X7_wipe 10 rfl rfl
set_option maxHeartbeats 4000000 in
set_option maxRecDepth 100000 in
theorem m_wipe (S : mS) : mC yX7_wipe cX7_wipe 2 (Option.some Jvm.ClassFile.FieldType.int) { frames := 0, cells := 0, slots := 0, locals := 0 } [] S (fun v9 T9 => v9 = (some (.int (nI (mK S 16)))) ∧ T9 = uK (uK S 0 0) 16 0) := by
  refine mC.of (by decide) (Nat.le_of_ble_eq_true rfl) ?_
  intro G x q h0 C A TY
  show VM G x q h0 S 0 [(0, .ref (q 0))] []
  refine m_aload_n C d_X7_wipe_0 0 rfl ?_
  refine m_iconst C d_X7_wipe_1 (v := (nI 0)) rfl ?_
  refine m_putK C d_X7_wipe_2 pf_RX7_72 (by decide) (fun _ _ => rfl) ?_
  refine m_aload_n C d_X7_wipe_5 0 rfl ?_
  refine m_get C d_X7_wipe_6 fd_RX7_98 (v := .int (nI (mK (uK S 0 0) 16))) rfl ?_
  refine m_st (st' := [.int (nI (mK S 16))]) rfl ?_
  refine m_istore_n C d_X7_wipe_9 (lv' := [(1, .int (nI (mK S 16))), (0, .ref (q 0))]) (by decide) rfl ?_
  refine m_aload_n C d_X7_wipe_10 1 rfl ?_
  refine m_iconst C d_X7_wipe_11 (v := (nI 0)) rfl ?_
  refine m_putK C d_X7_wipe_12 pf_RX7_98 (by decide) (fun _ _ => rfl) ?_
  refine m_iload_n C d_X7_wipe_15 0 rfl ?_
  exact m_iret C A TY d_X7_wipe_16 rfl (⟨rfl, rfl⟩)
def dl_X7_size : List (Nat × Instr × Nat) := [(0, .aload_n 0, 1), (1, .iconst 0, 1), (2, .putfield 72, 3), (5, .aload_n 0, 1), (6, .iload_n 1, 1), (7, .invokevirtual 153, 3), (10, .ifCond .eq 11, 3), (13, .aload_n 0, 1), (14, .iload_n 1, 1), (15, .invokevirtual 150, 3), (18, .goto 4, 3), (21, .iconst (-1), 1), (22, .ireturn, 1)]
theorem dc_X7_size : dnL cX7_size dl_X7_size = true := by decide +kernel
theorem d_X7_size_0 : dn cX7_size 0 (.aload_n 0) 1 1 := dnAt dc_X7_size 0 rfl rfl
theorem d_X7_size_1 : dn cX7_size 1 (.iconst 0) 1 2 := dnAt dc_X7_size 1 rfl rfl
theorem d_X7_size_2 : dn cX7_size 2 (.putfield 72) 3 5 := dnAt dc_X7_size 2 rfl rfl
theorem d_X7_size_5 : dn cX7_size 5 (.aload_n 0) 1 6 := dnAt dc_X7_size 3 rfl rfl
theorem d_X7_size_6 : dn cX7_size 6 (.iload_n 1) 1 7 := dnAt dc_X7_size 4 rfl rfl
theorem d_X7_size_7 : dn cX7_size 7 (.invokevirtual 153) 3 10 := dnAt dc_X7_size 5 rfl rfl
theorem d_X7_size_10 : dn cX7_size 10 (.ifCond .eq 11) 3 13 := dnAt dc_X7_size 6 rfl rfl
theorem d_X7_size_13 : dn cX7_size 13 (.aload_n 0) 1 14 := dnAt dc_X7_size 7 rfl rfl
theorem d_X7_size_14 : dn cX7_size 14 (.iload_n 1) 1 15 := dnAt dc_X7_size 8 rfl rfl
theorem d_X7_size_15 : dn cX7_size 15 (.invokevirtual 150) 3 18 := dnAt dc_X7_size 9 rfl rfl
theorem d_X7_size_18 : dn cX7_size 18 (.goto 4) 3 21 := dnAt dc_X7_size 10 rfl rfl
theorem d_X7_size_21 : dn cX7_size 21 (.iconst (-1)) 1 22 := dnAt dc_X7_size 11 rfl rfl
theorem d_X7_size_22 : dn cX7_size 22 (.ireturn) 1 23 := dnAt dc_X7_size 12 rfl rfl
set_option maxHeartbeats 4000000 in
set_option maxRecDepth 100000 in
theorem m_size (S : mS) (v : Int32) (I : mInv S) : mC yX7_size cX7_size 2 (Option.some Jvm.ClassFile.FieldType.int) { frames := 2, cells := 0, slots := 0, locals := 45 } [.int v] S (fun v9 T9 => v9 = (some (.int (rSz S v))) ∧ T9 = uK S 0 0) := by
  refine mC.of (by decide) (Nat.le_of_ble_eq_true rfl) ?_
  intro G x q h0 C A TY
  show VM G x q h0 S 0 [(0, .ref (q 0)), (1, .int v)] []
  refine m_aload_n C d_X7_size_0 0 rfl ?_
  refine m_iconst C d_X7_size_1 (v := (nI 0)) rfl ?_
  refine m_putK C d_X7_size_2 pf_RX7_72 (by decide) (fun _ _ => rfl) ?_
  refine m_aload_n C d_X7_size_5 0 rfl ?_
  refine m_iload_n C d_X7_size_6 1 rfl ?_
  refine m_callV C d_X7_size_7 ok_RX7_153 (m_isResult (uK S 0 0) v) rfl (rest := []) rfl rfl (Nat.le_of_ble_eq_true rfl) ⟨⟨by decide, by decide⟩, by decide, by decide⟩ (fun v9 T9 e9 => ?_)
  obtain ⟨rfl, e9⟩ := e9
  refine m_eq e9 ?_
  show VM G x q h0 (uK S 0 0) 10 [(0, .ref (q 0)), (1, .int v)] [.int (bI (mIsR S v))]
  refine mb_if_eq C d_X7_size_10 (tgt := 21) rfl (fun c_10 => ?_) (fun c_10 => ?_)
  · skip
    refine m_iconst C d_X7_size_21 (v := ((-1))) rfl ?_
    refine m_st (st' := [.int (rSz S v)]) (by first | rw [rSz, if_pos c_10] | rw [rSz, if_neg (by rw [c_10]; decide)]) ?_
    exact m_iret C A TY d_X7_size_22 rfl (⟨rfl, rfl⟩)
  · skip
    obtain ⟨e1, e2, e3⟩ := mIsR_of c_10
    refine m_lve (lv' := [(0, .ref (q 0)), (1, .int (nI (tn v)))]) (by rw [← e1]) ?_
    refine m_aload_n C d_X7_size_13 0 rfl ?_
    refine m_iload_n C d_X7_size_14 1 rfl ?_
    refine m_callV C d_X7_size_15 ok_RX7_150 (m_sizeOf (uK S 0 0) (tn v) (by omega) (fun k hk => (I.2.2.2.2.2.2.2.2.2.2.2.2.2.1 k hk).1)) rfl (rest := []) rfl rfl (Nat.le_of_ble_eq_true rfl) ⟨⟨by decide, by decide⟩, by decide, by decide⟩ (fun v9 T9 e9 => ?_)
    obtain ⟨rfl, e9⟩ := e9
    refine m_eq e9 ?_
    show VM G x q h0 (uK S 0 0) 18 [(0, .ref (q 0)), (1, .int (nI (tn v)))] [.int (nI (mSize S (tn v)))]
    refine m_goto C d_X7_size_18 (tgt := 22) rfl ?_
    refine m_st (st' := [.int (rSz S v)]) (by first | rw [rSz, if_pos c_10] | rw [rSz, if_neg (by rw [c_10]; decide)]) ?_
    exact m_iret C A TY d_X7_size_22 rfl (⟨rfl, rfl⟩)
def dl_X7_drop : List (Nat × Instr × Nat) := [(0, .aload_n 0, 1), (1, .aload_n 0, 1), (2, .iload_n 1, 1), (3, .invokevirtual 153, 3), (6, .ifCond .eq 7, 3), (9, .iconst 0, 1), (10, .goto 4, 3), (13, .iconst 1, 1), (14, .invokevirtual 84, 3), (17, .ifCond .ne 5, 3), (20, .iconst 0, 1), (21, .ireturn, 1), (22, .aload_n 0, 1), (23, .getfield 63, 3), (26, .iload_n 1, 1), (27, .iconst (-1), 1), (28, .iastore, 1), (29, .aload_n 0, 1), (30, .iload_n 1, 1), (31, .invokevirtual 150, 3), (34, .ireturn, 1)]
theorem dc_X7_drop : dnL cX7_drop dl_X7_drop = true := by decide +kernel
theorem d_X7_drop_0 : dn cX7_drop 0 (.aload_n 0) 1 1 := dnAt dc_X7_drop 0 rfl rfl
theorem d_X7_drop_1 : dn cX7_drop 1 (.aload_n 0) 1 2 := dnAt dc_X7_drop 1 rfl rfl
theorem d_X7_drop_2 : dn cX7_drop 2 (.iload_n 1) 1 3 := dnAt dc_X7_drop 2 rfl rfl
theorem d_X7_drop_3 : dn cX7_drop 3 (.invokevirtual 153) 3 6 := dnAt dc_X7_drop 3 rfl rfl
theorem d_X7_drop_6 : dn cX7_drop 6 (.ifCond .eq 7) 3 9 := dnAt dc_X7_drop 4 rfl rfl
theorem d_X7_drop_9 : dn cX7_drop 9 (.iconst 0) 1 10 := dnAt dc_X7_drop 5 rfl rfl
theorem d_X7_drop_10 : dn cX7_drop 10 (.goto 4) 3 13 := dnAt dc_X7_drop 6 rfl rfl
theorem d_X7_drop_13 : dn cX7_drop 13 (.iconst 1) 1 14 := dnAt dc_X7_drop 7 rfl rfl
theorem d_X7_drop_14 : dn cX7_drop 14 (.invokevirtual 84) 3 17 := dnAt dc_X7_drop 8 rfl rfl
theorem d_X7_drop_17 : dn cX7_drop 17 (.ifCond .ne 5) 3 20 := dnAt dc_X7_drop 9 rfl rfl
theorem d_X7_drop_20 : dn cX7_drop 20 (.iconst 0) 1 21 := dnAt dc_X7_drop 10 rfl rfl
theorem d_X7_drop_21 : dn cX7_drop 21 (.ireturn) 1 22 := dnAt dc_X7_drop 11 rfl rfl
theorem d_X7_drop_22 : dn cX7_drop 22 (.aload_n 0) 1 23 := dnAt dc_X7_drop 12 rfl rfl
theorem d_X7_drop_23 : dn cX7_drop 23 (.getfield 63) 3 26 := dnAt dc_X7_drop 13 rfl rfl
theorem d_X7_drop_26 : dn cX7_drop 26 (.iload_n 1) 1 27 := dnAt dc_X7_drop 14 rfl rfl
theorem d_X7_drop_27 : dn cX7_drop 27 (.iconst (-1)) 1 28 := dnAt dc_X7_drop 15 rfl rfl
theorem d_X7_drop_28 : dn cX7_drop 28 (.iastore) 1 29 := dnAt dc_X7_drop 16 rfl rfl
theorem d_X7_drop_29 : dn cX7_drop 29 (.aload_n 0) 1 30 := dnAt dc_X7_drop 17 rfl rfl
theorem d_X7_drop_30 : dn cX7_drop 30 (.iload_n 1) 1 31 := dnAt dc_X7_drop 18 rfl rfl
theorem d_X7_drop_31 : dn cX7_drop 31 (.invokevirtual 150) 3 34 := dnAt dc_X7_drop 19 rfl rfl
theorem d_X7_drop_34 : dn cX7_drop 34 (.ireturn) 1 35 := dnAt dc_X7_drop 20 rfl rfl
set_option maxHeartbeats 4000000 in
set_option maxRecDepth 100000 in
theorem m_drop (S : mS) (v : Int32) (I : mInv S) : mC yX7_drop cX7_drop 2 (Option.some Jvm.ClassFile.FieldType.int) { frames := 2, cells := 0, slots := 0, locals := 45 } [.int v] S (fun v9 T9 => v9 = (some (.int (nI (rDrop S v)))) ∧ T9 = tDrop S v) := by
  refine mC.of (by decide) (Nat.le_of_ble_eq_true rfl) ?_
  intro G x q h0 C A TY
  show VM G x q h0 S 0 [(0, .ref (q 0)), (1, .int v)] []
  refine m_aload_n C d_X7_drop_0 0 rfl ?_
  have join_14 : VM G x q h0 S 14 [(0, .ref (q 0)), (1, .int v)] [.int (nI (cWR S v)), .ref (q 0)] := by
    refine m_callV C d_X7_drop_14 ok_RX7_84 (m_holds S (cWR S v) (by unfold cWR; split <;> omega)) rfl (rest := []) rfl rfl (Nat.le_of_ble_eq_true rfl) ⟨⟨by decide, by decide⟩, by decide, by decide⟩ (fun v9 T9 e9 => ?_)
    obtain ⟨rfl, e9⟩ := e9
    refine m_eq e9 ?_
    show VM G x q h0 (uK S 0 (cWR S v)) 17 [(0, .ref (q 0)), (1, .int v)] [.int (bI (decide (cWR S v = 0)))]
    refine mb_if_ne C d_X7_drop_17 (tgt := 22) rfl (fun c_17 => ?_) (fun c_17 => ?_)
    · skip
      have c0 := of_decide_eq_true c_17
      have c1 : mIsR S v = true := by unfold cWR at c0; split at c0 <;> first | assumption | omega
      obtain ⟨e1, e2, e3⟩ := mIsR_of c1
      rw [c0]
      refine m_lve (lv' := [(0, .ref (q 0)), (1, .int (nI (tn v)))]) (by rw [← e1]) ?_
      refine m_aload_n C d_X7_drop_22 0 rfl ?_
      refine m_get C d_X7_drop_23 fd_RX7_63 (v := .ref (q 20)) rfl ?_
      refine m_iload_n C d_X7_drop_26 1 rfl ?_
      refine m_iconst C d_X7_drop_27 (v := ((-1))) rfl ?_
      refine m_astI C d_X7_drop_28 (k := 20) (v := (-1)) (by decide) rfl (by show _ < 8; omega) (by decide) ?_
      refine m_aload_n C d_X7_drop_29 0 rfl ?_
      refine m_iload_n C d_X7_drop_30 1 rfl ?_
      refine m_callV C d_X7_drop_31 ok_RX7_150 (m_sizeOf (uI (uK S 0 0) 20 (tn v) ((-1))) (tn v) (by omega) (fun k hk => (I.2.2.2.2.2.2.2.2.2.2.2.2.2.1 k hk).1)) rfl (rest := []) rfl rfl (Nat.le_of_ble_eq_true rfl) ⟨⟨by decide, by decide⟩, by decide, by decide⟩ (fun v9 T9 e9 => ?_)
      obtain ⟨rfl, e9⟩ := e9
      refine m_eq e9 ?_
      show VM G x q h0 (uI (uK S 0 0) 20 (tn v) ((-1))) 34 [(0, .ref (q 0)), (1, .int (nI (tn v)))] [.int (nI (mSize S (tn v)))]
      refine m_st (st' := [.int (nI (rDrop S v))]) (by rw [rDrop, if_pos c1]) ?_
      exact m_iret C A TY d_X7_drop_34 rfl (⟨rfl, by rw [tDrop, if_pos c1]⟩)
    · skip
      have c0 := of_decide_eq_false c_17
      have c1 : ¬ mIsR S v = true := fun z => c0 (by rw [cWR, if_pos z])
      rw [cWR, if_neg c1]
      refine m_iconst C d_X7_drop_20 (v := (nI 0)) rfl ?_
      refine m_st (st' := [.int (nI (rDrop S v))]) (by rw [rDrop, if_neg c1]) ?_
      exact m_iret C A TY d_X7_drop_21 rfl (⟨rfl, by rw [tDrop, if_neg c1]⟩)
  refine m_aload_n C d_X7_drop_1 0 rfl ?_
  refine m_iload_n C d_X7_drop_2 1 rfl ?_
  refine m_callV C d_X7_drop_3 ok_RX7_153 (m_isResult S v) rfl (rest := [.ref (q 0)]) rfl rfl (Nat.le_of_ble_eq_true rfl) ⟨⟨by decide, by decide⟩, by decide, by decide⟩ (fun v9 T9 e9 => ?_)
  obtain ⟨rfl, e9⟩ := e9
  refine m_eq e9 ?_
  show VM G x q h0 S 6 [(0, .ref (q 0)), (1, .int v)] [.int (bI (mIsR S v)), .ref (q 0)]
  refine mb_if_eq C d_X7_drop_6 (tgt := 13) rfl (fun c_6 => ?_) (fun c_6 => ?_)
  · skip
    refine m_iconst C d_X7_drop_13 (v := (nI 1)) rfl ?_
    refine m_st (st' := [.int (nI (cWR S v)), .ref (q 0)]) (by first | rw [cWR, if_pos c_6] | rw [cWR, if_neg (by rw [c_6]; decide)]) ?_
    exact join_14  
  · skip
    refine m_iconst C d_X7_drop_9 (v := (nI 0)) rfl ?_
    refine m_goto C d_X7_drop_10 (tgt := 14) rfl ?_
    refine m_st (st' := [.int (nI (cWR S v)), .ref (q 0)]) (by first | rw [cWR, if_pos c_6] | rw [cWR, if_neg (by rw [c_6]; decide)]) ?_
    exact join_14  
def dl_X7_token : List (Nat × Instr × Nat) := [(0, .iload_n 2, 1), (1, .iconst 0, 1), (2, .bipush 99, 2), (4, .invokestatic 76, 3), (7, .ifCond .eq 28, 3), (10, .iload_n 3, 1), (11, .iconst 0, 1), (12, .bipush 9, 2), (14, .invokestatic 76, 3), (17, .ifCond .eq 18, 3), (20, .iload 4, 2), (22, .iconst 0, 1), (23, .bipush 49, 2), (25, .invokestatic 76, 3), (28, .ifCond .eq 7, 3), (31, .iconst 1, 1), (32, .goto 4, 3), (35, .iconst 0, 1), (36, .istore 5, 2), (38, .aload_n 0, 1), (39, .iload_n 1, 1), (40, .invokestatic 80, 3), (43, .ifCond .ne 7, 3), (46, .iconst 1, 1), (47, .goto 28, 3), (50, .iload 5, 2), (52, .ifCond .ne 7, 3), (55, .iconst 2, 1), (56, .goto 19, 3), (59, .aload_n 0, 1), (60, .getfield 7, 3), (63, .iload_n 1, 1), (64, .iaload, 1), (65, .bipush 40, 2), (67, .if_icmp .ne 7, 3), (70, .iconst 3, 1), (71, .goto 4, 3), (74, .iconst 0, 1), (75, .invokevirtual 84, 3), (78, .ifCond .ne 5, 3), (81, .iconst 0, 1), (82, .ireturn, 1), (83, .bipush 40, 2), (85, .iload_n 1, 1), (86, .imul, 1), (87, .aload_n 0, 1), (88, .getfield 7, 3), (91, .iload_n 1, 1), (92, .iaload, 1), (93, .iadd, 1), (94, .istore 6, 2), (96, .aload_n 0, 1), (97, .getfield 7, 3), (100, .iload_n 1, 1), (101, .iaload, 1), (102, .ifCond .ne 7, 3), (105, .iconst 1, 1), (106, .goto 4, 3), (109, .iconst 0, 1), (110, .istore 7, 2), (112, .aload_n 0, 1), (113, .getfield 13, 3), (116, .iconst 3, 1), (117, .iload 6, 2), (119, .imul, 1), (120, .iconst 0, 1), (121, .iadd, 1), (122, .iload_n 2, 1), (123, .iastore, 1), (124, .aload_n 0, 1), (125, .getfield 13, 3), (128, .iconst 3, 1), (129, .iload 6, 2), (131, .imul, 1), (132, .iconst 1, 1), (133, .iadd, 1), (134, .iload_n 3, 1), (135, .iastore, 1), (136, .aload_n 0, 1), (137, .getfield 13, 3), (140, .iconst 3, 1), (141, .iload 6, 2), (143, .imul, 1), (144, .iconst 2, 1), (145, .iadd, 1), (146, .iload 4, 2), (148, .iastore, 1), (149, .aload_n 0, 1), (150, .getfield 16, 3), (153, .iload 6, 2), (155, .iload 7, 2), (157, .ifCond .eq 7, 3), (160, .iconst 0, 1), (161, .goto 27, 3), (164, .aload_n 0, 1), (165, .getfield 16, 3), (168, .iload 6, 2), (170, .iconst 1, 1), (171, .isub, 1), (172, .iaload, 1), (173, .aload_n 0, 1), (174, .getfield 22, 3), (177, .iload_n 1, 1), (178, .baload, 1), (179, .ifCond .eq 7, 3), (182, .iconst 1, 1), (183, .goto 4, 3), (186, .iconst 0, 1), (187, .iadd, 1), (188, .iastore, 1), (189, .aload_n 0, 1), (190, .getfield 19, 3), (193, .iload 6, 2), (195, .iload 7, 2), (197, .ifCond .eq 7, 3), (200, .iconst 0, 1), (201, .goto 27, 3), (204, .aload_n 0, 1), (205, .getfield 19, 3), (208, .iload 6, 2), (210, .iconst 1, 1), (211, .isub, 1), (212, .iaload, 1), (213, .aload_n 0, 1), (214, .getfield 26, 3), (217, .iload_n 1, 1), (218, .baload, 1), (219, .ifCond .eq 7, 3), (222, .iconst 1, 1), (223, .goto 4, 3), (226, .iconst 0, 1), (227, .iadd, 1), (228, .iastore, 1), (229, .aload_n 0, 1), (230, .getfield 22, 3), (233, .iload_n 1, 1), (234, .iconst 0, 1), (235, .bastore, 1), (236, .aload_n 0, 1), (237, .getfield 26, 3), (240, .iload_n 1, 1), (241, .iconst 0, 1), (242, .bastore, 1), (243, .aload_n 0, 1), (244, .getfield 7, 3), (247, .iload_n 1, 1), (248, .dup2, 1), (249, .iaload, 1), (250, .iconst 1, 1), (251, .iadd, 1), (252, .iastore, 1), (253, .aload_n 0, 1), (254, .getfield 7, 3), (257, .iload_n 1, 1), (258, .iaload, 1), (259, .iconst 1, 1), (260, .isub, 1), (261, .ireturn, 1)]
theorem dc_X7_token : dnL cX7_token dl_X7_token = true := by decide +kernel
theorem d_X7_token_0 : dn cX7_token 0 (.iload_n 2) 1 1 := dnAt dc_X7_token 0 rfl rfl
theorem d_X7_token_1 : dn cX7_token 1 (.iconst 0) 1 2 := dnAt dc_X7_token 1 rfl rfl
theorem d_X7_token_2 : dn cX7_token 2 (.bipush 99) 2 4 := dnAt dc_X7_token 2 rfl rfl
theorem d_X7_token_4 : dn cX7_token 4 (.invokestatic 76) 3 7 := dnAt dc_X7_token 3 rfl rfl
theorem d_X7_token_7 : dn cX7_token 7 (.ifCond .eq 28) 3 10 := dnAt dc_X7_token 4 rfl rfl
theorem d_X7_token_10 : dn cX7_token 10 (.iload_n 3) 1 11 := dnAt dc_X7_token 5 rfl rfl
theorem d_X7_token_11 : dn cX7_token 11 (.iconst 0) 1 12 := dnAt dc_X7_token 6 rfl rfl
theorem d_X7_token_12 : dn cX7_token 12 (.bipush 9) 2 14 := dnAt dc_X7_token 7 rfl rfl
theorem d_X7_token_14 : dn cX7_token 14 (.invokestatic 76) 3 17 := dnAt dc_X7_token 8 rfl rfl
theorem d_X7_token_17 : dn cX7_token 17 (.ifCond .eq 18) 3 20 := dnAt dc_X7_token 9 rfl rfl
theorem d_X7_token_20 : dn cX7_token 20 (.iload 4) 2 22 := dnAt dc_X7_token 10 rfl rfl
theorem d_X7_token_22 : dn cX7_token 22 (.iconst 0) 1 23 := dnAt dc_X7_token 11 rfl rfl
theorem d_X7_token_23 : dn cX7_token 23 (.bipush 49) 2 25 := dnAt dc_X7_token 12 rfl rfl
theorem d_X7_token_25 : dn cX7_token 25 (.invokestatic 76) 3 28 := dnAt dc_X7_token 13 rfl rfl
theorem d_X7_token_28 : dn cX7_token 28 (.ifCond .eq 7) 3 31 := dnAt dc_X7_token 14 rfl rfl
theorem d_X7_token_31 : dn cX7_token 31 (.iconst 1) 1 32 := dnAt dc_X7_token 15 rfl rfl
theorem d_X7_token_32 : dn cX7_token 32 (.goto 4) 3 35 := dnAt dc_X7_token 16 rfl rfl
theorem d_X7_token_35 : dn cX7_token 35 (.iconst 0) 1 36 := dnAt dc_X7_token 17 rfl rfl
theorem d_X7_token_36 : dn cX7_token 36 (.istore 5) 2 38 := dnAt dc_X7_token 18 rfl rfl
theorem d_X7_token_38 : dn cX7_token 38 (.aload_n 0) 1 39 := dnAt dc_X7_token 19 rfl rfl
theorem d_X7_token_39 : dn cX7_token 39 (.iload_n 1) 1 40 := dnAt dc_X7_token 20 rfl rfl
theorem d_X7_token_40 : dn cX7_token 40 (.invokestatic 80) 3 43 := dnAt dc_X7_token 21 rfl rfl
theorem d_X7_token_43 : dn cX7_token 43 (.ifCond .ne 7) 3 46 := dnAt dc_X7_token 22 rfl rfl
theorem d_X7_token_46 : dn cX7_token 46 (.iconst 1) 1 47 := dnAt dc_X7_token 23 rfl rfl
theorem d_X7_token_47 : dn cX7_token 47 (.goto 28) 3 50 := dnAt dc_X7_token 24 rfl rfl
theorem d_X7_token_50 : dn cX7_token 50 (.iload 5) 2 52 := dnAt dc_X7_token 25 rfl rfl
theorem d_X7_token_52 : dn cX7_token 52 (.ifCond .ne 7) 3 55 := dnAt dc_X7_token 26 rfl rfl
theorem d_X7_token_55 : dn cX7_token 55 (.iconst 2) 1 56 := dnAt dc_X7_token 27 rfl rfl
theorem d_X7_token_56 : dn cX7_token 56 (.goto 19) 3 59 := dnAt dc_X7_token 28 rfl rfl
theorem d_X7_token_59 : dn cX7_token 59 (.aload_n 0) 1 60 := dnAt dc_X7_token 29 rfl rfl
theorem d_X7_token_60 : dn cX7_token 60 (.getfield 7) 3 63 := dnAt dc_X7_token 30 rfl rfl
theorem d_X7_token_63 : dn cX7_token 63 (.iload_n 1) 1 64 := dnAt dc_X7_token 31 rfl rfl
theorem d_X7_token_64 : dn cX7_token 64 (.iaload) 1 65 := dnAt dc_X7_token 32 rfl rfl
theorem d_X7_token_65 : dn cX7_token 65 (.bipush 40) 2 67 := dnAt dc_X7_token 33 rfl rfl
theorem d_X7_token_67 : dn cX7_token 67 (.if_icmp .ne 7) 3 70 := dnAt dc_X7_token 34 rfl rfl
theorem d_X7_token_70 : dn cX7_token 70 (.iconst 3) 1 71 := dnAt dc_X7_token 35 rfl rfl
theorem d_X7_token_71 : dn cX7_token 71 (.goto 4) 3 74 := dnAt dc_X7_token 36 rfl rfl
theorem d_X7_token_74 : dn cX7_token 74 (.iconst 0) 1 75 := dnAt dc_X7_token 37 rfl rfl
theorem d_X7_token_75 : dn cX7_token 75 (.invokevirtual 84) 3 78 := dnAt dc_X7_token 38 rfl rfl
theorem d_X7_token_78 : dn cX7_token 78 (.ifCond .ne 5) 3 81 := dnAt dc_X7_token 39 rfl rfl
theorem d_X7_token_81 : dn cX7_token 81 (.iconst 0) 1 82 := dnAt dc_X7_token 40 rfl rfl
theorem d_X7_token_82 : dn cX7_token 82 (.ireturn) 1 83 := dnAt dc_X7_token 41 rfl rfl
theorem d_X7_token_83 : dn cX7_token 83 (.bipush 40) 2 85 := dnAt dc_X7_token 42 rfl rfl
theorem d_X7_token_85 : dn cX7_token 85 (.iload_n 1) 1 86 := dnAt dc_X7_token 43 rfl rfl
theorem d_X7_token_86 : dn cX7_token 86 (.imul) 1 87 := dnAt dc_X7_token 44 rfl rfl
theorem d_X7_token_87 : dn cX7_token 87 (.aload_n 0) 1 88 := dnAt dc_X7_token 45 rfl rfl
theorem d_X7_token_88 : dn cX7_token 88 (.getfield 7) 3 91 := dnAt dc_X7_token 46 rfl rfl
theorem d_X7_token_91 : dn cX7_token 91 (.iload_n 1) 1 92 := dnAt dc_X7_token 47 rfl rfl
theorem d_X7_token_92 : dn cX7_token 92 (.iaload) 1 93 := dnAt dc_X7_token 48 rfl rfl
theorem d_X7_token_93 : dn cX7_token 93 (.iadd) 1 94 := dnAt dc_X7_token 49 rfl rfl
theorem d_X7_token_94 : dn cX7_token 94 (.istore 6) 2 96 := dnAt dc_X7_token 50 rfl rfl
theorem d_X7_token_96 : dn cX7_token 96 (.aload_n 0) 1 97 := dnAt dc_X7_token 51 rfl rfl
theorem d_X7_token_97 : dn cX7_token 97 (.getfield 7) 3 100 := dnAt dc_X7_token 52 rfl rfl
theorem d_X7_token_100 : dn cX7_token 100 (.iload_n 1) 1 101 := dnAt dc_X7_token 53 rfl rfl
theorem d_X7_token_101 : dn cX7_token 101 (.iaload) 1 102 := dnAt dc_X7_token 54 rfl rfl
theorem d_X7_token_102 : dn cX7_token 102 (.ifCond .ne 7) 3 105 := dnAt dc_X7_token 55 rfl rfl
theorem d_X7_token_105 : dn cX7_token 105 (.iconst 1) 1 106 := dnAt dc_X7_token 56 rfl rfl
theorem d_X7_token_106 : dn cX7_token 106 (.goto 4) 3 109 := dnAt dc_X7_token 57 rfl rfl
theorem d_X7_token_109 : dn cX7_token 109 (.iconst 0) 1 110 := dnAt dc_X7_token 58 rfl rfl
theorem d_X7_token_110 : dn cX7_token 110 (.istore 7) 2 112 := dnAt dc_X7_token 59 rfl rfl
theorem d_X7_token_112 : dn cX7_token 112 (.aload_n 0) 1 113 := dnAt dc_X7_token 60 rfl rfl
theorem d_X7_token_113 : dn cX7_token 113 (.getfield 13) 3 116 := dnAt dc_X7_token 61 rfl rfl
theorem d_X7_token_116 : dn cX7_token 116 (.iconst 3) 1 117 := dnAt dc_X7_token 62 rfl rfl
theorem d_X7_token_117 : dn cX7_token 117 (.iload 6) 2 119 := dnAt dc_X7_token 63 rfl rfl
theorem d_X7_token_119 : dn cX7_token 119 (.imul) 1 120 := dnAt dc_X7_token 64 rfl rfl
theorem d_X7_token_120 : dn cX7_token 120 (.iconst 0) 1 121 := dnAt dc_X7_token 65 rfl rfl
theorem d_X7_token_121 : dn cX7_token 121 (.iadd) 1 122 := dnAt dc_X7_token 66 rfl rfl
theorem d_X7_token_122 : dn cX7_token 122 (.iload_n 2) 1 123 := dnAt dc_X7_token 67 rfl rfl
theorem d_X7_token_123 : dn cX7_token 123 (.iastore) 1 124 := dnAt dc_X7_token 68 rfl rfl
theorem d_X7_token_124 : dn cX7_token 124 (.aload_n 0) 1 125 := dnAt dc_X7_token 69 rfl rfl
theorem d_X7_token_125 : dn cX7_token 125 (.getfield 13) 3 128 := dnAt dc_X7_token 70 rfl rfl
theorem d_X7_token_128 : dn cX7_token 128 (.iconst 3) 1 129 := dnAt dc_X7_token 71 rfl rfl
theorem d_X7_token_129 : dn cX7_token 129 (.iload 6) 2 131 := dnAt dc_X7_token 72 rfl rfl
theorem d_X7_token_131 : dn cX7_token 131 (.imul) 1 132 := dnAt dc_X7_token 73 rfl rfl
theorem d_X7_token_132 : dn cX7_token 132 (.iconst 1) 1 133 := dnAt dc_X7_token 74 rfl rfl
theorem d_X7_token_133 : dn cX7_token 133 (.iadd) 1 134 := dnAt dc_X7_token 75 rfl rfl
theorem d_X7_token_134 : dn cX7_token 134 (.iload_n 3) 1 135 := dnAt dc_X7_token 76 rfl rfl
theorem d_X7_token_135 : dn cX7_token 135 (.iastore) 1 136 := dnAt dc_X7_token 77 rfl rfl
theorem d_X7_token_136 : dn cX7_token 136 (.aload_n 0) 1 137 := dnAt dc_X7_token 78 rfl rfl
theorem d_X7_token_137 : dn cX7_token 137 (.getfield 13) 3 140 := dnAt dc_X7_token 79 rfl rfl
theorem d_X7_token_140 : dn cX7_token 140 (.iconst 3) 1 141 := dnAt dc_X7_token 80 rfl rfl
theorem d_X7_token_141 : dn cX7_token 141 (.iload 6) 2 143 := dnAt dc_X7_token 81 rfl rfl
theorem d_X7_token_143 : dn cX7_token 143 (.imul) 1 144 := dnAt dc_X7_token 82 rfl rfl
theorem d_X7_token_144 : dn cX7_token 144 (.iconst 2) 1 145 := dnAt dc_X7_token 83 rfl rfl
theorem d_X7_token_145 : dn cX7_token 145 (.iadd) 1 146 := dnAt dc_X7_token 84 rfl rfl
theorem d_X7_token_146 : dn cX7_token 146 (.iload 4) 2 148 := dnAt dc_X7_token 85 rfl rfl
theorem d_X7_token_148 : dn cX7_token 148 (.iastore) 1 149 := dnAt dc_X7_token 86 rfl rfl
theorem d_X7_token_149 : dn cX7_token 149 (.aload_n 0) 1 150 := dnAt dc_X7_token 87 rfl rfl
theorem d_X7_token_150 : dn cX7_token 150 (.getfield 16) 3 153 := dnAt dc_X7_token 88 rfl rfl
theorem d_X7_token_153 : dn cX7_token 153 (.iload 6) 2 155 := dnAt dc_X7_token 89 rfl rfl
theorem d_X7_token_155 : dn cX7_token 155 (.iload 7) 2 157 := dnAt dc_X7_token 90 rfl rfl
theorem d_X7_token_157 : dn cX7_token 157 (.ifCond .eq 7) 3 160 := dnAt dc_X7_token 91 rfl rfl
theorem d_X7_token_160 : dn cX7_token 160 (.iconst 0) 1 161 := dnAt dc_X7_token 92 rfl rfl
theorem d_X7_token_161 : dn cX7_token 161 (.goto 27) 3 164 := dnAt dc_X7_token 93 rfl rfl
theorem d_X7_token_164 : dn cX7_token 164 (.aload_n 0) 1 165 := dnAt dc_X7_token 94 rfl rfl
theorem d_X7_token_165 : dn cX7_token 165 (.getfield 16) 3 168 := dnAt dc_X7_token 95 rfl rfl
theorem d_X7_token_168 : dn cX7_token 168 (.iload 6) 2 170 := dnAt dc_X7_token 96 rfl rfl
theorem d_X7_token_170 : dn cX7_token 170 (.iconst 1) 1 171 := dnAt dc_X7_token 97 rfl rfl
theorem d_X7_token_171 : dn cX7_token 171 (.isub) 1 172 := dnAt dc_X7_token 98 rfl rfl
theorem d_X7_token_172 : dn cX7_token 172 (.iaload) 1 173 := dnAt dc_X7_token 99 rfl rfl
theorem d_X7_token_173 : dn cX7_token 173 (.aload_n 0) 1 174 := dnAt dc_X7_token 100 rfl rfl
theorem d_X7_token_174 : dn cX7_token 174 (.getfield 22) 3 177 := dnAt dc_X7_token 101 rfl rfl
theorem d_X7_token_177 : dn cX7_token 177 (.iload_n 1) 1 178 := dnAt dc_X7_token 102 rfl rfl
theorem d_X7_token_178 : dn cX7_token 178 (.baload) 1 179 := dnAt dc_X7_token 103 rfl rfl
theorem d_X7_token_179 : dn cX7_token 179 (.ifCond .eq 7) 3 182 := dnAt dc_X7_token 104 rfl rfl
theorem d_X7_token_182 : dn cX7_token 182 (.iconst 1) 1 183 := dnAt dc_X7_token 105 rfl rfl
theorem d_X7_token_183 : dn cX7_token 183 (.goto 4) 3 186 := dnAt dc_X7_token 106 rfl rfl
theorem d_X7_token_186 : dn cX7_token 186 (.iconst 0) 1 187 := dnAt dc_X7_token 107 rfl rfl
theorem d_X7_token_187 : dn cX7_token 187 (.iadd) 1 188 := dnAt dc_X7_token 108 rfl rfl
theorem d_X7_token_188 : dn cX7_token 188 (.iastore) 1 189 := dnAt dc_X7_token 109 rfl rfl
theorem d_X7_token_189 : dn cX7_token 189 (.aload_n 0) 1 190 := dnAt dc_X7_token 110 rfl rfl
theorem d_X7_token_190 : dn cX7_token 190 (.getfield 19) 3 193 := dnAt dc_X7_token 111 rfl rfl
theorem d_X7_token_193 : dn cX7_token 193 (.iload 6) 2 195 := dnAt dc_X7_token 112 rfl rfl
theorem d_X7_token_195 : dn cX7_token 195 (.iload 7) 2 197 := dnAt dc_X7_token 113 rfl rfl
theorem d_X7_token_197 : dn cX7_token 197 (.ifCond .eq 7) 3 200 := dnAt dc_X7_token 114 rfl rfl
theorem d_X7_token_200 : dn cX7_token 200 (.iconst 0) 1 201 := dnAt dc_X7_token 115 rfl rfl
theorem d_X7_token_201 : dn cX7_token 201 (.goto 27) 3 204 := dnAt dc_X7_token 116 rfl rfl
theorem d_X7_token_204 : dn cX7_token 204 (.aload_n 0) 1 205 := dnAt dc_X7_token 117 rfl rfl
theorem d_X7_token_205 : dn cX7_token 205 (.getfield 19) 3 208 := dnAt dc_X7_token 118 rfl rfl
theorem d_X7_token_208 : dn cX7_token 208 (.iload 6) 2 210 := dnAt dc_X7_token 119 rfl rfl
theorem d_X7_token_210 : dn cX7_token 210 (.iconst 1) 1 211 := dnAt dc_X7_token 120 rfl rfl
theorem d_X7_token_211 : dn cX7_token 211 (.isub) 1 212 := dnAt dc_X7_token 121 rfl rfl
theorem d_X7_token_212 : dn cX7_token 212 (.iaload) 1 213 := dnAt dc_X7_token 122 rfl rfl
theorem d_X7_token_213 : dn cX7_token 213 (.aload_n 0) 1 214 := dnAt dc_X7_token 123 rfl rfl
theorem d_X7_token_214 : dn cX7_token 214 (.getfield 26) 3 217 := dnAt dc_X7_token 124 rfl rfl
theorem d_X7_token_217 : dn cX7_token 217 (.iload_n 1) 1 218 := dnAt dc_X7_token 125 rfl rfl
theorem d_X7_token_218 : dn cX7_token 218 (.baload) 1 219 := dnAt dc_X7_token 126 rfl rfl
theorem d_X7_token_219 : dn cX7_token 219 (.ifCond .eq 7) 3 222 := dnAt dc_X7_token 127 rfl rfl
theorem d_X7_token_222 : dn cX7_token 222 (.iconst 1) 1 223 := dnAt dc_X7_token 128 rfl rfl
theorem d_X7_token_223 : dn cX7_token 223 (.goto 4) 3 226 := dnAt dc_X7_token 129 rfl rfl
theorem d_X7_token_226 : dn cX7_token 226 (.iconst 0) 1 227 := dnAt dc_X7_token 130 rfl rfl
theorem d_X7_token_227 : dn cX7_token 227 (.iadd) 1 228 := dnAt dc_X7_token 131 rfl rfl
theorem d_X7_token_228 : dn cX7_token 228 (.iastore) 1 229 := dnAt dc_X7_token 132 rfl rfl
theorem d_X7_token_229 : dn cX7_token 229 (.aload_n 0) 1 230 := dnAt dc_X7_token 133 rfl rfl
theorem d_X7_token_230 : dn cX7_token 230 (.getfield 22) 3 233 := dnAt dc_X7_token 134 rfl rfl
theorem d_X7_token_233 : dn cX7_token 233 (.iload_n 1) 1 234 := dnAt dc_X7_token 135 rfl rfl
theorem d_X7_token_234 : dn cX7_token 234 (.iconst 0) 1 235 := dnAt dc_X7_token 136 rfl rfl
theorem d_X7_token_235 : dn cX7_token 235 (.bastore) 1 236 := dnAt dc_X7_token 137 rfl rfl
theorem d_X7_token_236 : dn cX7_token 236 (.aload_n 0) 1 237 := dnAt dc_X7_token 138 rfl rfl
theorem d_X7_token_237 : dn cX7_token 237 (.getfield 26) 3 240 := dnAt dc_X7_token 139 rfl rfl
theorem d_X7_token_240 : dn cX7_token 240 (.iload_n 1) 1 241 := dnAt dc_X7_token 140 rfl rfl
theorem d_X7_token_241 : dn cX7_token 241 (.iconst 0) 1 242 := dnAt dc_X7_token 141 rfl rfl
theorem d_X7_token_242 : dn cX7_token 242 (.bastore) 1 243 := dnAt dc_X7_token 142 rfl rfl
theorem d_X7_token_243 : dn cX7_token 243 (.aload_n 0) 1 244 := dnAt dc_X7_token 143 rfl rfl
theorem d_X7_token_244 : dn cX7_token 244 (.getfield 7) 3 247 := dnAt dc_X7_token 144 rfl rfl
theorem d_X7_token_247 : dn cX7_token 247 (.iload_n 1) 1 248 := dnAt dc_X7_token 145 rfl rfl
theorem d_X7_token_248 : dn cX7_token 248 (.dup2) 1 249 := dnAt dc_X7_token 146 rfl rfl
theorem d_X7_token_249 : dn cX7_token 249 (.iaload) 1 250 := dnAt dc_X7_token 147 rfl rfl
theorem d_X7_token_250 : dn cX7_token 250 (.iconst 1) 1 251 := dnAt dc_X7_token 148 rfl rfl
theorem d_X7_token_251 : dn cX7_token 251 (.iadd) 1 252 := dnAt dc_X7_token 149 rfl rfl
theorem d_X7_token_252 : dn cX7_token 252 (.iastore) 1 253 := dnAt dc_X7_token 150 rfl rfl
theorem d_X7_token_253 : dn cX7_token 253 (.aload_n 0) 1 254 := dnAt dc_X7_token 151 rfl rfl
theorem d_X7_token_254 : dn cX7_token 254 (.getfield 7) 3 257 := dnAt dc_X7_token 152 rfl rfl
theorem d_X7_token_257 : dn cX7_token 257 (.iload_n 1) 1 258 := dnAt dc_X7_token 153 rfl rfl
theorem d_X7_token_258 : dn cX7_token 258 (.iaload) 1 259 := dnAt dc_X7_token 154 rfl rfl
theorem d_X7_token_259 : dn cX7_token 259 (.iconst 1) 1 260 := dnAt dc_X7_token 155 rfl rfl
theorem d_X7_token_260 : dn cX7_token 260 (.isub) 1 261 := dnAt dc_X7_token 156 rfl rfl
theorem d_X7_token_261 : dn cX7_token 261 (.ireturn) 1 262 := dnAt dc_X7_token 157 rfl rfl
set_option maxHeartbeats 4000000 in
set_option maxRecDepth 100000 in
theorem m_token (S : mS) (side word kind root : Int32) (I : mInv S) : mC yX7_token cX7_token 8 (Option.some Jvm.ClassFile.FieldType.int) { frames := 2, cells := 0, slots := 0, locals := 42 } [.int side, .int word, .int kind, .int root] S (fun v9 T9 => v9 = (some (.int (nI (rToken S side word kind root)))) ∧ T9 = tToken S side word kind root) := by
  refine mC.of (by decide) (Nat.le_of_ble_eq_true rfl) ?_
  intro G x q h0 C A TY
  show VM G x q h0 S 0 [(0, .ref (q 0)), (1, .int side), (2, .int word), (3, .int kind), (4, .int root)] []
  have join_36 : VM G x q h0 S 36 [(0, .ref (q 0)), (1, .int side), (2, .int word), (3, .int kind), (4, .int root)] [.int (bI (inR word 0 99 && inR kind 0 9 && inR root 0 49))] := by
    refine m_istore C d_X7_token_36 (lv' := [(5, .int (bI (inR word 0 99 && inR kind 0 9 && inR root 0 49))), (0, .ref (q 0)), (1, .int side), (2, .int word), (3, .int kind), (4, .int root)]) (by decide) rfl ?_
    have join_75 : VM G x q h0 S 75 [(0, .ref (q 0)), (1, .int side), (2, .int word), (3, .int kind), (4, .int root)] [.int (nI (cToken S side word kind root)), .ref (q 0)] := by
      refine m_callV C d_X7_token_75 ok_RX7_84 (m_holds S (cToken S side word kind root) (by unfold cToken; split <;> (try split) <;> (try split) <;> omega)) rfl (rest := []) rfl rfl (Nat.le_of_ble_eq_true rfl) ⟨⟨by decide, by decide⟩, by decide, by decide⟩ (fun v9 T9 e9 => ?_)
      obtain ⟨rfl, e9⟩ := e9
      refine m_eq e9 ?_
      show VM G x q h0 (uK S 0 (cToken S side word kind root)) 78 [(0, .ref (q 0)), (1, .int side), (2, .int word), (3, .int kind), (4, .int root)] [.int (bI (decide (cToken S side word kind root = 0)))]
      refine mb_if_ne C d_X7_token_78 (tgt := 83) rfl (fun c_78 => ?_) (fun c_78 => ?_)
      · skip
        have c0 := of_decide_eq_true c_78
        obtain ⟨c1, c2, c3, c4, c5⟩ := cToken_0 c0
        obtain ⟨e1, -, e2⟩ := inR_of c1 (by decide) (by decide)
        obtain ⟨e3, -, e4⟩ := inR_of c2 (by decide) (by decide)
        obtain ⟨e5, -, e6⟩ := inR_of c3 (by decide) (by decide)
        obtain ⟨e7, -, e8⟩ := inR_of c4 (by decide) (by decide)
        have i1 := I.1 (tn side) (by omega)
        have i2 : mN S 1 (tn side) < 40 := by omega
        rw [c0]
        refine m_lve (lv' := [(0, .ref (q 0)), (1, .int (nI (tn side))), (2, .int (nI (tn word))), (3, .int (nI (tn kind))), (4, .int (nI (tn root)))]) (by rw [← e1, ← e3, ← e5, ← e7]) ?_
        refine m_bipush C d_X7_token_83 (v := (nI 40)) rfl ?_
        refine m_iload_n C d_X7_token_85 1 rfl ?_
        refine mn_imul C d_X7_token_86 ?_
        refine m_aload_n C d_X7_token_87 0 rfl ?_
        refine m_get C d_X7_token_88 fd_RX7_7 (v := .ref (q 1)) rfl ?_
        refine m_iload_n C d_X7_token_91 1 rfl ?_
        refine m_ald C d_X7_token_92 (k := 1) (by decide) rfl (by show _ < 2; omega) (by decide) ?_
        refine m_st (st' := [.int (nI (mN S 1 (tn side))), .int (nI (40 * (tn side)))]) rfl ?_
        refine mn_iadd C d_X7_token_93 ?_
        refine m_istore C d_X7_token_94 (lv' := [(6, .int (nI ((40 * (tn side)) + (mN S 1 (tn side))))), (0, .ref (q 0)), (1, .int (nI (tn side))), (2, .int (nI (tn word))), (3, .int (nI (tn kind))), (4, .int (nI (tn root)))]) (by decide) rfl ?_
        have join_110 : VM G x q h0 (uK S 0 0) 110 [(0, .ref (q 0)), (1, .int (nI (tn side))), (2, .int (nI (tn word))), (3, .int (nI (tn kind))), (4, .int (nI (tn root))), (6, .int (nI (40 * tn side + mN S 1 (tn side))))] [.int (bI (decide (mN S 1 (tn side) = 0)))] := by
          refine m_istore C d_X7_token_110 (lv' := [(7, .int (bI (decide (mN S 1 (tn side) = 0)))), (0, .ref (q 0)), (1, .int (nI (tn side))), (2, .int (nI (tn word))), (3, .int (nI (tn kind))), (4, .int (nI (tn root))), (6, .int (nI (40 * tn side + mN S 1 (tn side))))]) (by decide) rfl ?_
          refine m_aload_n C d_X7_token_112 1 rfl ?_
          refine m_get C d_X7_token_113 fd_RX7_13 (v := .ref (q 2)) rfl ?_
          refine m_iconst C d_X7_token_116 (v := (nI 3)) rfl ?_
          refine m_iload C d_X7_token_117 6 rfl ?_
          refine mn_imul C d_X7_token_119 ?_
          refine m_iconst C d_X7_token_120 (v := (nI 0)) rfl ?_
          refine mn_iadd C d_X7_token_121 ?_
          refine m_iload_n C d_X7_token_122 3 rfl ?_
          refine m_ast C d_X7_token_123 (k := 2) (v := tn word) (by decide) rfl (by show _ < 240; omega) (by decide) ?_
          refine m_aload_n C d_X7_token_124 1 rfl ?_
          refine m_get C d_X7_token_125 fd_RX7_13 (v := .ref (q 2)) rfl ?_
          refine m_iconst C d_X7_token_128 (v := (nI 3)) rfl ?_
          refine m_iload C d_X7_token_129 6 rfl ?_
          refine mn_imul C d_X7_token_131 ?_
          refine m_iconst C d_X7_token_132 (v := (nI 1)) rfl ?_
          refine mn_iadd C d_X7_token_133 ?_
          refine m_iload_n C d_X7_token_134 4 rfl ?_
          refine m_ast C d_X7_token_135 (k := 2) (v := tn kind) (by decide) rfl (by show _ < 240; omega) (by decide) ?_
          refine m_aload_n C d_X7_token_136 1 rfl ?_
          refine m_get C d_X7_token_137 fd_RX7_13 (v := .ref (q 2)) rfl ?_
          refine m_iconst C d_X7_token_140 (v := (nI 3)) rfl ?_
          refine m_iload C d_X7_token_141 6 rfl ?_
          refine mn_imul C d_X7_token_143 ?_
          refine m_iconst C d_X7_token_144 (v := (nI 2)) rfl ?_
          refine mn_iadd C d_X7_token_145 ?_
          refine m_iload C d_X7_token_146 5 rfl ?_
          refine m_ast C d_X7_token_148 (k := 2) (v := tn root) (by decide) rfl (by show _ < 240; omega) (by decide) ?_
          have join_188 : VM G x q h0 (uN (uN (uN (uK S 0 0) 2 ((3 * (40 * tn side + mN S 1 (tn side))) + 0) (tn word)) 2 ((3 * (40 * tn side + mN S 1 (tn side))) + 1) (tn kind)) 2 ((3 * (40 * tn side + mN S 1 (tn side))) + 2) (tn root)) 188 [(0, .ref (q 0)), (1, .int (nI (tn side))), (2, .int (nI (tn word))), (3, .int (nI (tn kind))), (4, .int (nI (tn root))), (6, .int (nI (40 * tn side + mN S 1 (tn side)))), (7, .int (bI (decide (mN S 1 (tn side) = 0))))] [.int (nI (if mN S 1 (tn side) = 0 then 0 else mN S 3 (40 * tn side + mN S 1 (tn side) - 1) + (mB S 5 (tn side)).toNat)), .int (nI (40 * tn side + mN S 1 (tn side))), .ref (q 3)] := by
            refine m_ast C d_X7_token_188 (k := 3) (v := if mN S 1 (tn side) = 0 then 0 else mN S 3 (40 * tn side + mN S 1 (tn side) - 1) + (mB S 5 (tn side)).toNat) (by decide) rfl (by show _ < 80; omega) (by decide) ?_
            have join_228 : VM G x q h0 (uN (uN (uN (uN (uK S 0 0) 2 ((3 * (40 * tn side + mN S 1 (tn side))) + 0) (tn word)) 2 ((3 * (40 * tn side + mN S 1 (tn side))) + 1) (tn kind)) 2 ((3 * (40 * tn side + mN S 1 (tn side))) + 2) (tn root)) 3 (40 * tn side + mN S 1 (tn side)) (if mN S 1 (tn side) = 0 then 0 else mN S 3 (40 * tn side + mN S 1 (tn side) - 1) + (mB S 5 (tn side)).toNat)) 228 [(0, .ref (q 0)), (1, .int (nI (tn side))), (2, .int (nI (tn word))), (3, .int (nI (tn kind))), (4, .int (nI (tn root))), (6, .int (nI (40 * tn side + mN S 1 (tn side)))), (7, .int (bI (decide (mN S 1 (tn side) = 0))))] [.int (nI (if mN S 1 (tn side) = 0 then 0 else mN S 4 (40 * tn side + mN S 1 (tn side) - 1) + (mB S 6 (tn side)).toNat)), .int (nI (40 * tn side + mN S 1 (tn side))), .ref (q 4)] := by
              refine m_ast C d_X7_token_228 (k := 4) (v := if mN S 1 (tn side) = 0 then 0 else mN S 4 (40 * tn side + mN S 1 (tn side) - 1) + (mB S 6 (tn side)).toNat) (by decide) rfl (by show _ < 80; omega) (by decide) ?_
              refine m_aload_n C d_X7_token_229 0 rfl ?_
              refine m_get C d_X7_token_230 fd_RX7_22 (v := .ref (q 5)) rfl ?_
              refine m_iload_n C d_X7_token_233 1 rfl ?_
              refine m_iconst C d_X7_token_234 (v := (bI false)) rfl ?_
              refine m_zst C d_X7_token_235 (k := 5) (v := false) (by decide) rfl (by show _ < 2; omega) (by decide) ?_
              refine m_aload_n C d_X7_token_236 0 rfl ?_
              refine m_get C d_X7_token_237 fd_RX7_26 (v := .ref (q 6)) rfl ?_
              refine m_iload_n C d_X7_token_240 1 rfl ?_
              refine m_iconst C d_X7_token_241 (v := (bI false)) rfl ?_
              refine m_zst C d_X7_token_242 (k := 6) (v := false) (by decide) rfl (by show _ < 2; omega) (by decide) ?_
              refine m_aload_n C d_X7_token_243 0 rfl ?_
              refine m_get C d_X7_token_244 fd_RX7_7 (v := .ref (q 1)) rfl ?_
              refine m_iload_n C d_X7_token_247 1 rfl ?_
              refine m_dup2 C d_X7_token_248 rfl rfl ?_
              refine m_ald C d_X7_token_249 (k := 1) (by decide) rfl (by show _ < 2; omega) (by decide) ?_
              refine m_st (st' := [.int (nI (mN S 1 (tn side))), .int (nI (tn side)), .ref (q 1)]) rfl ?_
              refine m_iconst C d_X7_token_250 (v := (nI 1)) rfl ?_
              refine mn_iadd C d_X7_token_251 ?_
              refine m_ast C d_X7_token_252 (k := 1) (v := (mN S 1 (tn side)) + 1) (by decide) rfl (by show _ < 2; omega) (by decide) ?_
              refine m_aload_n C d_X7_token_253 0 rfl ?_
              refine m_get C d_X7_token_254 fd_RX7_7 (v := .ref (q 1)) rfl ?_
              refine m_iload_n C d_X7_token_257 1 rfl ?_
              refine m_ald C d_X7_token_258 (k := 1) (by decide) rfl (by show _ < 2; omega) (by decide) ?_
              refine m_st (st' := [.int (nI ((mN S 1 (tn side)) + 1))]) (by simp only [mN_uN, mB_uB, mI_uI, and_self, if_true]) ?_
              refine m_iconst C d_X7_token_259 (v := (nI 1)) rfl ?_
              refine mn_isub C d_X7_token_260 (by omega) ?_
              refine m_st (st' := [.int (nI (rToken S side word kind root))]) (by rw [rToken, if_pos c0, Nat.add_sub_cancel]) ?_
              exact m_iret C A TY d_X7_token_261 rfl (⟨rfl, by rw [tToken, if_pos c0]⟩)
            refine m_aload_n C d_X7_token_189 0 rfl ?_
            refine m_get C d_X7_token_190 fd_RX7_19 (v := .ref (q 4)) rfl ?_
            refine m_iload C d_X7_token_193 5 rfl ?_
            refine m_iload C d_X7_token_195 6 rfl ?_
            refine mb_if_eq C d_X7_token_197 (tgt := 204) rfl (fun c_197 => ?_) (fun c_197 => ?_)
            · skip
              have c6 := of_decide_eq_false c_197
              refine m_aload_n C d_X7_token_204 0 rfl ?_
              refine m_get C d_X7_token_205 fd_RX7_19 (v := .ref (q 4)) rfl ?_
              refine m_iload C d_X7_token_208 5 rfl ?_
              refine m_iconst C d_X7_token_210 (v := (nI 1)) rfl ?_
              refine mn_isub C d_X7_token_211 (by omega) ?_
              refine m_ald C d_X7_token_212 (k := 4) (by decide) rfl (by show _ < 80; omega) (by decide) ?_
              refine m_st (st' := [.int (nI (mN S 4 ((40 * tn side + mN S 1 (tn side)) - 1))), .int (nI (40 * tn side + mN S 1 (tn side))), .ref (q 4)]) rfl ?_
              refine m_aload_n C d_X7_token_213 0 rfl ?_
              refine m_get C d_X7_token_214 fd_RX7_26 (v := .ref (q 6)) rfl ?_
              refine m_iload_n C d_X7_token_217 1 rfl ?_
              refine m_zld C d_X7_token_218 (k := 6) (by decide) rfl (by show _ < 2; omega) (by decide) ?_
              refine m_st (st' := [.int (bI (mB S 6 (tn side))), .int (nI (mN S 4 ((40 * tn side + mN S 1 (tn side)) - 1))), .int (nI (40 * tn side + mN S 1 (tn side))), .ref (q 4)]) rfl ?_
              refine mb_if_eq C d_X7_token_219 (tgt := 226) rfl (fun c_219 => ?_) (fun c_219 => ?_)
              · skip
                refine m_iconst C d_X7_token_226 (v := (nI 0)) rfl ?_
                refine mn_iadd C d_X7_token_227 ?_
                refine m_st (st' := [.int (nI (if mN S 1 (tn side) = 0 then 0 else mN S 4 (40 * tn side + mN S 1 (tn side) - 1) + (mB S 6 (tn side)).toNat)), .int (nI (40 * tn side + mN S 1 (tn side))), .ref (q 4)]) (by first | rw [if_pos (of_decide_eq_true c_197)] | (rw [if_neg (of_decide_eq_false c_197), c_219]; rfl)) ?_
                exact join_228  
              · skip
                refine m_iconst C d_X7_token_222 (v := (nI 1)) rfl ?_
                refine m_goto C d_X7_token_223 (tgt := 227) rfl ?_
                refine mn_iadd C d_X7_token_227 ?_
                refine m_st (st' := [.int (nI (if mN S 1 (tn side) = 0 then 0 else mN S 4 (40 * tn side + mN S 1 (tn side) - 1) + (mB S 6 (tn side)).toNat)), .int (nI (40 * tn side + mN S 1 (tn side))), .ref (q 4)]) (by first | rw [if_pos (of_decide_eq_true c_197)] | (rw [if_neg (of_decide_eq_false c_197), c_219]; rfl)) ?_
                exact join_228  
            · skip
              refine m_iconst C d_X7_token_200 (v := (nI 0)) rfl ?_
              refine m_goto C d_X7_token_201 (tgt := 228) rfl ?_
              refine m_st (st' := [.int (nI (if mN S 1 (tn side) = 0 then 0 else mN S 4 (40 * tn side + mN S 1 (tn side) - 1) + (mB S 6 (tn side)).toNat)), .int (nI (40 * tn side + mN S 1 (tn side))), .ref (q 4)]) (by first | rw [if_pos (of_decide_eq_true c_197)] | (rw [if_neg (of_decide_eq_false c_197), c_219]; rfl)) ?_
              exact join_228  
          refine m_aload_n C d_X7_token_149 1 rfl ?_
          refine m_get C d_X7_token_150 fd_RX7_16 (v := .ref (q 3)) rfl ?_
          refine m_iload C d_X7_token_153 6 rfl ?_
          refine m_iload C d_X7_token_155 0 rfl ?_
          refine mb_if_eq C d_X7_token_157 (tgt := 164) rfl (fun c_157 => ?_) (fun c_157 => ?_)
          · skip
            have c6 := of_decide_eq_false c_157
            refine m_aload_n C d_X7_token_164 1 rfl ?_
            refine m_get C d_X7_token_165 fd_RX7_16 (v := .ref (q 3)) rfl ?_
            refine m_iload C d_X7_token_168 6 rfl ?_
            refine m_iconst C d_X7_token_170 (v := (nI 1)) rfl ?_
            refine mn_isub C d_X7_token_171 (by omega) ?_
            refine m_ald C d_X7_token_172 (k := 3) (by decide) rfl (by show _ < 80; omega) (by decide) ?_
            refine m_st (st' := [.int (nI (mN S 3 ((40 * tn side + mN S 1 (tn side)) - 1))), .int (nI (40 * tn side + mN S 1 (tn side))), .ref (q 3)]) rfl ?_
            refine m_aload_n C d_X7_token_173 1 rfl ?_
            refine m_get C d_X7_token_174 fd_RX7_22 (v := .ref (q 5)) rfl ?_
            refine m_iload_n C d_X7_token_177 2 rfl ?_
            refine m_zld C d_X7_token_178 (k := 5) (by decide) rfl (by show _ < 2; omega) (by decide) ?_
            refine m_st (st' := [.int (bI (mB S 5 (tn side))), .int (nI (mN S 3 ((40 * tn side + mN S 1 (tn side)) - 1))), .int (nI (40 * tn side + mN S 1 (tn side))), .ref (q 3)]) rfl ?_
            refine mb_if_eq C d_X7_token_179 (tgt := 186) rfl (fun c_179 => ?_) (fun c_179 => ?_)
            · skip
              refine m_iconst C d_X7_token_186 (v := (nI 0)) rfl ?_
              refine mn_iadd C d_X7_token_187 ?_
              refine m_lv (lv' := [(0, .ref (q 0)), (1, .int (nI (tn side))), (2, .int (nI (tn word))), (3, .int (nI (tn kind))), (4, .int (nI (tn root))), (6, .int (nI (40 * tn side + mN S 1 (tn side)))), (7, .int (bI (decide (mN S 1 (tn side) = 0))))]) [1, 2, 3, 4, 5, 6, 0] rfl ?_
              refine m_st (st' := [.int (nI (if mN S 1 (tn side) = 0 then 0 else mN S 3 (40 * tn side + mN S 1 (tn side) - 1) + (mB S 5 (tn side)).toNat)), .int (nI (40 * tn side + mN S 1 (tn side))), .ref (q 3)]) (by first | rw [if_pos (of_decide_eq_true c_157)] | (rw [if_neg (of_decide_eq_false c_157), c_179]; rfl)) ?_
              exact join_188  
            · skip
              refine m_iconst C d_X7_token_182 (v := (nI 1)) rfl ?_
              refine m_goto C d_X7_token_183 (tgt := 187) rfl ?_
              refine mn_iadd C d_X7_token_187 ?_
              refine m_lv (lv' := [(0, .ref (q 0)), (1, .int (nI (tn side))), (2, .int (nI (tn word))), (3, .int (nI (tn kind))), (4, .int (nI (tn root))), (6, .int (nI (40 * tn side + mN S 1 (tn side)))), (7, .int (bI (decide (mN S 1 (tn side) = 0))))]) [1, 2, 3, 4, 5, 6, 0] rfl ?_
              refine m_st (st' := [.int (nI (if mN S 1 (tn side) = 0 then 0 else mN S 3 (40 * tn side + mN S 1 (tn side) - 1) + (mB S 5 (tn side)).toNat)), .int (nI (40 * tn side + mN S 1 (tn side))), .ref (q 3)]) (by first | rw [if_pos (of_decide_eq_true c_157)] | (rw [if_neg (of_decide_eq_false c_157), c_179]; rfl)) ?_
              exact join_188  
          · skip
            refine m_iconst C d_X7_token_160 (v := (nI 0)) rfl ?_
            refine m_goto C d_X7_token_161 (tgt := 188) rfl ?_
            refine m_lv (lv' := [(0, .ref (q 0)), (1, .int (nI (tn side))), (2, .int (nI (tn word))), (3, .int (nI (tn kind))), (4, .int (nI (tn root))), (6, .int (nI (40 * tn side + mN S 1 (tn side)))), (7, .int (bI (decide (mN S 1 (tn side) = 0))))]) [1, 2, 3, 4, 5, 6, 0] rfl ?_
            refine m_st (st' := [.int (nI (if mN S 1 (tn side) = 0 then 0 else mN S 3 (40 * tn side + mN S 1 (tn side) - 1) + (mB S 5 (tn side)).toNat)), .int (nI (40 * tn side + mN S 1 (tn side))), .ref (q 3)]) (by first | rw [if_pos (of_decide_eq_true c_157)] | (rw [if_neg (of_decide_eq_false c_157), c_179]; rfl)) ?_
            exact join_188  
        refine m_aload_n C d_X7_token_96 1 rfl ?_
        refine m_get C d_X7_token_97 fd_RX7_7 (v := .ref (q 1)) rfl ?_
        refine m_iload_n C d_X7_token_100 2 rfl ?_
        refine m_ald C d_X7_token_101 (k := 1) (by decide) rfl (by show _ < 2; omega) (by decide) ?_
        refine m_st (st' := [.int (nI (mN S 1 (tn side)))]) rfl ?_
        refine mn_if_ne C d_X7_token_102 (tgt := 109) rfl (by omega) (fun c_102 => ?_) (fun c_102 => ?_)
        · skip
          refine m_iconst C d_X7_token_109 (v := (bI false)) rfl ?_
          refine m_lv (lv' := [(0, .ref (q 0)), (1, .int (nI (tn side))), (2, .int (nI (tn word))), (3, .int (nI (tn kind))), (4, .int (nI (tn root))), (6, .int (nI ((40 * (tn side)) + (mN S 1 (tn side)))))]) [1, 2, 3, 4, 5, 0] rfl ?_
          refine m_lve (lv' := [(0, .ref (q 0)), (1, .int (nI (tn side))), (2, .int (nI (tn word))), (3, .int (nI (tn kind))), (4, .int (nI (tn root))), (6, .int (nI (40 * tn side + mN S 1 (tn side))))]) (rfl) ?_
          refine m_st (st' := [.int (bI (decide (mN S 1 (tn side) = 0)))]) (by first | rw [decide_eq_true c_102] | rw [decide_eq_false (by omega)]) ?_
          exact join_110  
        · skip
          refine m_iconst C d_X7_token_105 (v := (bI true)) rfl ?_
          refine m_goto C d_X7_token_106 (tgt := 110) rfl ?_
          refine m_lv (lv' := [(0, .ref (q 0)), (1, .int (nI (tn side))), (2, .int (nI (tn word))), (3, .int (nI (tn kind))), (4, .int (nI (tn root))), (6, .int (nI ((40 * (tn side)) + (mN S 1 (tn side)))))]) [1, 2, 3, 4, 5, 0] rfl ?_
          refine m_lve (lv' := [(0, .ref (q 0)), (1, .int (nI (tn side))), (2, .int (nI (tn word))), (3, .int (nI (tn kind))), (4, .int (nI (tn root))), (6, .int (nI (40 * tn side + mN S 1 (tn side))))]) (rfl) ?_
          refine m_st (st' := [.int (bI (decide (mN S 1 (tn side) = 0)))]) (by first | rw [decide_eq_true c_102] | rw [decide_eq_false (by omega)]) ?_
          exact join_110  
      · skip
        have c1 := of_decide_eq_false c_78
        refine m_iconst C d_X7_token_81 (v := (nI 0)) rfl ?_
        refine m_st (st' := [.int (nI (rToken S side word kind root))]) (by rw [rToken, if_neg c1]) ?_
        exact m_iret C A TY d_X7_token_82 rfl (⟨rfl, by rw [tToken, if_neg c1]⟩)
    refine m_aload_n C d_X7_token_38 1 rfl ?_
    refine m_iload_n C d_X7_token_39 2 rfl ?_
    refine m_callS C d_X7_token_40 ok_RX7_80 (s_isSide side) (rest := [.ref (q 0)]) rfl rfl (Nat.le_of_ble_eq_true rfl) ⟨⟨by decide, by decide⟩, by decide, by decide⟩ ?_
    show VM G x q h0 S 43 [(5, .int (bI (inR word 0 99 && inR kind 0 9 && inR root 0 49))), (0, .ref (q 0)), (1, .int side), (2, .int word), (3, .int kind), (4, .int root)] [.int (bI (inR side 0 1)), .ref (q 0)]
    refine mb_if_ne C d_X7_token_43 (tgt := 50) rfl (fun c_43 => ?_) (fun c_43 => ?_)
    · skip
      obtain ⟨e1, -, e2⟩ := inR_of c_43 (by decide) (by decide)
      have i1 := I.1 (tn side) (by omega)
      refine m_lve (lv' := [(5, .int (bI (inR word 0 99 && inR kind 0 9 && inR root 0 49))), (0, .ref (q 0)), (1, .int (nI (tn side))), (2, .int word), (3, .int kind), (4, .int root)]) (by rw [← e1]) ?_
      refine m_iload C d_X7_token_50 0 rfl ?_
      refine mb_if_ne C d_X7_token_52 (tgt := 59) rfl (fun c_52 => ?_) (fun c_52 => ?_)
      · skip
        refine m_aload_n C d_X7_token_59 1 rfl ?_
        refine m_get C d_X7_token_60 fd_RX7_7 (v := .ref (q 1)) rfl ?_
        refine m_iload_n C d_X7_token_63 2 rfl ?_
        refine m_ald C d_X7_token_64 (k := 1) (by decide) rfl (by show _ < 2; omega) (by decide) ?_
        refine m_bipush C d_X7_token_65 (v := (nI 40)) rfl ?_
        refine mn_icmp_ne C d_X7_token_67 (tgt := 74) rfl (by omega) (by omega) (fun c_67 => ?_) (fun c_67 => ?_)
        · skip
          refine m_iconst C d_X7_token_74 (v := (nI 0)) rfl ?_
          refine m_lv (lv' := [(0, .ref (q 0)), (1, .int (nI (tn side))), (2, .int word), (3, .int kind), (4, .int root)]) [1, 2, 3, 4, 5] rfl ?_
          refine m_lve (lv' := [(0, .ref (q 0)), (1, .int side), (2, .int word), (3, .int kind), (4, .int root)]) (by rw [← e1]) ?_
          refine m_st (st' := [.int (nI (cToken S side word kind root)), .ref (q 0)]) (by first | (rw [cToken, if_pos c_43, if_pos c_52]; first | rw [if_pos c_67] | rw [if_neg (by omega)]) | (rw [cToken, if_pos c_43, if_neg (by rw [c_52]; decide)]) | rw [cToken, if_neg (by rw [c_43]; decide)]) ?_
          exact join_75  
        · skip
          refine m_iconst C d_X7_token_70 (v := (nI 3)) rfl ?_
          refine m_goto C d_X7_token_71 (tgt := 75) rfl ?_
          refine m_lv (lv' := [(0, .ref (q 0)), (1, .int (nI (tn side))), (2, .int word), (3, .int kind), (4, .int root)]) [1, 2, 3, 4, 5] rfl ?_
          refine m_lve (lv' := [(0, .ref (q 0)), (1, .int side), (2, .int word), (3, .int kind), (4, .int root)]) (by rw [← e1]) ?_
          refine m_st (st' := [.int (nI (cToken S side word kind root)), .ref (q 0)]) (by first | (rw [cToken, if_pos c_43, if_pos c_52]; first | rw [if_pos c_67] | rw [if_neg (by omega)]) | (rw [cToken, if_pos c_43, if_neg (by rw [c_52]; decide)]) | rw [cToken, if_neg (by rw [c_43]; decide)]) ?_
          exact join_75  
      · skip
        refine m_iconst C d_X7_token_55 (v := (nI 2)) rfl ?_
        refine m_goto C d_X7_token_56 (tgt := 75) rfl ?_
        refine m_lv (lv' := [(0, .ref (q 0)), (1, .int (nI (tn side))), (2, .int word), (3, .int kind), (4, .int root)]) [1, 2, 3, 4, 5] rfl ?_
        refine m_lve (lv' := [(0, .ref (q 0)), (1, .int side), (2, .int word), (3, .int kind), (4, .int root)]) (by rw [← e1]) ?_
        refine m_st (st' := [.int (nI (cToken S side word kind root)), .ref (q 0)]) (by first | (rw [cToken, if_pos c_43, if_pos c_52]; first | rw [if_pos c_67] | rw [if_neg (by omega)]) | (rw [cToken, if_pos c_43, if_neg (by rw [c_52]; decide)]) | rw [cToken, if_neg (by rw [c_43]; decide)]) ?_
        exact join_75  
    · skip
      refine m_iconst C d_X7_token_46 (v := (nI 1)) rfl ?_
      refine m_goto C d_X7_token_47 (tgt := 75) rfl ?_
      refine m_lv (lv' := [(0, .ref (q 0)), (1, .int side), (2, .int word), (3, .int kind), (4, .int root)]) [1, 2, 3, 4, 5] rfl ?_
      refine m_st (st' := [.int (nI (cToken S side word kind root)), .ref (q 0)]) (by first | (rw [cToken, if_pos c_43, if_pos c_52]; first | rw [if_pos c_67] | rw [if_neg (by omega)]) | (rw [cToken, if_pos c_43, if_neg (by rw [c_52]; decide)]) | rw [cToken, if_neg (by rw [c_43]; decide)]) ?_
      exact join_75  
  refine m_iload_n C d_X7_token_0 2 rfl ?_
  refine m_iconst C d_X7_token_1 (v := (nI 0)) rfl ?_
  refine m_bipush C d_X7_token_2 (v := (nI 99)) rfl ?_
  refine m_callS C d_X7_token_4 ok_RX7_76 (s_isIn word ((nI 0)) ((nI 99))) (rest := []) rfl rfl (Nat.le_of_ble_eq_true rfl) ⟨⟨by decide, by decide⟩, by decide, by decide⟩ ?_
  show VM G x q h0 S 7 [(0, .ref (q 0)), (1, .int side), (2, .int word), (3, .int kind), (4, .int root)] [.int (bI (inR word 0 99))]
  refine mb_if_eq C d_X7_token_7 (tgt := 35) rfl (fun c_7 => ?_) (fun c_7 => ?_)
  · skip
    refine m_iconst C d_X7_token_35 (v := (bI false)) rfl ?_
    refine m_st (st' := [.int (bI (inR word 0 99 && inR kind 0 9 && inR root 0 49))]) (by first | (rw [c_7, c_17, c_28]; rfl) | (rw [c_7, c_17]; rfl) | (rw [c_7]; rfl)) ?_
    exact join_36  
  · skip
    refine m_iload_n C d_X7_token_10 3 rfl ?_
    refine m_iconst C d_X7_token_11 (v := (nI 0)) rfl ?_
    refine m_bipush C d_X7_token_12 (v := (nI 9)) rfl ?_
    refine m_callS C d_X7_token_14 ok_RX7_76 (s_isIn kind ((nI 0)) ((nI 9))) (rest := []) rfl rfl (Nat.le_of_ble_eq_true rfl) ⟨⟨by decide, by decide⟩, by decide, by decide⟩ ?_
    show VM G x q h0 S 17 [(0, .ref (q 0)), (1, .int side), (2, .int word), (3, .int kind), (4, .int root)] [.int (bI (inR kind 0 9))]
    refine mb_if_eq C d_X7_token_17 (tgt := 35) rfl (fun c_17 => ?_) (fun c_17 => ?_)
    · skip
      refine m_iconst C d_X7_token_35 (v := (bI false)) rfl ?_
      refine m_st (st' := [.int (bI (inR word 0 99 && inR kind 0 9 && inR root 0 49))]) (by first | (rw [c_7, c_17, c_28]; rfl) | (rw [c_7, c_17]; rfl) | (rw [c_7]; rfl)) ?_
      exact join_36  
    · skip
      refine m_iload C d_X7_token_20 4 rfl ?_
      refine m_iconst C d_X7_token_22 (v := (nI 0)) rfl ?_
      refine m_bipush C d_X7_token_23 (v := (nI 49)) rfl ?_
      refine m_callS C d_X7_token_25 ok_RX7_76 (s_isIn root ((nI 0)) ((nI 49))) (rest := []) rfl rfl (Nat.le_of_ble_eq_true rfl) ⟨⟨by decide, by decide⟩, by decide, by decide⟩ ?_
      show VM G x q h0 S 28 [(0, .ref (q 0)), (1, .int side), (2, .int word), (3, .int kind), (4, .int root)] [.int (bI (inR root 0 49))]
      refine mb_if_eq C d_X7_token_28 (tgt := 35) rfl (fun c_28 => ?_) (fun c_28 => ?_)
      · skip
        refine m_iconst C d_X7_token_35 (v := (bI false)) rfl ?_
        refine m_st (st' := [.int (bI (inR word 0 99 && inR kind 0 9 && inR root 0 49))]) (by first | (rw [c_7, c_17, c_28]; rfl) | (rw [c_7, c_17]; rfl) | (rw [c_7]; rfl)) ?_
        exact join_36  
      · skip
        refine m_iconst C d_X7_token_31 (v := (bI true)) rfl ?_
        refine m_goto C d_X7_token_32 (tgt := 36) rfl ?_
        refine m_st (st' := [.int (bI (inR word 0 99 && inR kind 0 9 && inR root 0 49))]) (by first | (rw [c_7, c_17, c_28]; rfl) | (rw [c_7, c_17]; rfl) | (rw [c_7]; rfl)) ?_
        exact join_36  
def dl_X7_align : List (Nat × Instr × Nat) := [(0, .aload_n 0, 1), (1, .iload_n 1, 1), (2, .iconst 0, 1), (3, .aload_n 0, 1), (4, .iconst 0, 1), (5, .invokevirtual 87, 3), (8, .iconst 1, 1), (9, .isub, 1), (10, .invokestatic 76, 3), (13, .ifCond .eq 22, 3), (16, .iload_n 2, 1), (17, .iconst 0, 1), (18, .aload_n 0, 1), (19, .iconst 1, 1), (20, .invokevirtual 87, 3), (23, .iconst 1, 1), (24, .isub, 1), (25, .invokestatic 76, 3), (28, .ifCond .eq 7, 3), (31, .iconst 0, 1), (32, .goto 4, 3), (35, .iconst 1, 1), (36, .invokevirtual 84, 3), (39, .ifCond .ne 5, 3), (42, .iconst 0, 1), (43, .ireturn, 1), (44, .aload_n 0, 1), (45, .getfield 29, 3), (48, .iload_n 1, 1), (49, .dup2, 1), (50, .laload, 1), (51, .lconst 1, 1), (52, .iload_n 2, 1), (53, .lshl, 1), (54, .lor, 1), (55, .lastore, 1), (56, .iconst 0, 1), (57, .istore_n 3, 1), (58, .iconst 0, 1), (59, .istore 4, 2), (61, .iload 4, 2), (63, .sipush 1600, 3), (66, .if_icmp .ge 31, 3), (69, .iload_n 3, 1), (70, .aload_n 0, 1), (71, .getfield 29, 3), (74, .iload 4, 2), (76, .bipush 40, 2), (78, .idiv, 1), (79, .laload, 1), (80, .iload 4, 2), (82, .bipush 40, 2), (84, .irem, 1), (85, .lshr, 1), (86, .lconst 1, 1), (87, .land, 1), (88, .l2i, 1), (89, .iadd, 1), (90, .istore_n 3, 1), (91, .iinc 4 1, 3), (94, .goto (-33), 3), (97, .iload_n 3, 1), (98, .ireturn, 1)]
theorem dc_X7_align : dnL cX7_align dl_X7_align = true := by decide +kernel
theorem d_X7_align_0 : dn cX7_align 0 (.aload_n 0) 1 1 := dnAt dc_X7_align 0 rfl rfl
theorem d_X7_align_1 : dn cX7_align 1 (.iload_n 1) 1 2 := dnAt dc_X7_align 1 rfl rfl
theorem d_X7_align_2 : dn cX7_align 2 (.iconst 0) 1 3 := dnAt dc_X7_align 2 rfl rfl
theorem d_X7_align_3 : dn cX7_align 3 (.aload_n 0) 1 4 := dnAt dc_X7_align 3 rfl rfl
theorem d_X7_align_4 : dn cX7_align 4 (.iconst 0) 1 5 := dnAt dc_X7_align 4 rfl rfl
theorem d_X7_align_5 : dn cX7_align 5 (.invokevirtual 87) 3 8 := dnAt dc_X7_align 5 rfl rfl
theorem d_X7_align_8 : dn cX7_align 8 (.iconst 1) 1 9 := dnAt dc_X7_align 6 rfl rfl
theorem d_X7_align_9 : dn cX7_align 9 (.isub) 1 10 := dnAt dc_X7_align 7 rfl rfl
theorem d_X7_align_10 : dn cX7_align 10 (.invokestatic 76) 3 13 := dnAt dc_X7_align 8 rfl rfl
theorem d_X7_align_13 : dn cX7_align 13 (.ifCond .eq 22) 3 16 := dnAt dc_X7_align 9 rfl rfl
theorem d_X7_align_16 : dn cX7_align 16 (.iload_n 2) 1 17 := dnAt dc_X7_align 10 rfl rfl
theorem d_X7_align_17 : dn cX7_align 17 (.iconst 0) 1 18 := dnAt dc_X7_align 11 rfl rfl
theorem d_X7_align_18 : dn cX7_align 18 (.aload_n 0) 1 19 := dnAt dc_X7_align 12 rfl rfl
theorem d_X7_align_19 : dn cX7_align 19 (.iconst 1) 1 20 := dnAt dc_X7_align 13 rfl rfl
theorem d_X7_align_20 : dn cX7_align 20 (.invokevirtual 87) 3 23 := dnAt dc_X7_align 14 rfl rfl
theorem d_X7_align_23 : dn cX7_align 23 (.iconst 1) 1 24 := dnAt dc_X7_align 15 rfl rfl
theorem d_X7_align_24 : dn cX7_align 24 (.isub) 1 25 := dnAt dc_X7_align 16 rfl rfl
theorem d_X7_align_25 : dn cX7_align 25 (.invokestatic 76) 3 28 := dnAt dc_X7_align 17 rfl rfl
theorem d_X7_align_28 : dn cX7_align 28 (.ifCond .eq 7) 3 31 := dnAt dc_X7_align 18 rfl rfl
theorem d_X7_align_31 : dn cX7_align 31 (.iconst 0) 1 32 := dnAt dc_X7_align 19 rfl rfl
theorem d_X7_align_32 : dn cX7_align 32 (.goto 4) 3 35 := dnAt dc_X7_align 20 rfl rfl
theorem d_X7_align_35 : dn cX7_align 35 (.iconst 1) 1 36 := dnAt dc_X7_align 21 rfl rfl
theorem d_X7_align_36 : dn cX7_align 36 (.invokevirtual 84) 3 39 := dnAt dc_X7_align 22 rfl rfl
theorem d_X7_align_39 : dn cX7_align 39 (.ifCond .ne 5) 3 42 := dnAt dc_X7_align 23 rfl rfl
theorem d_X7_align_42 : dn cX7_align 42 (.iconst 0) 1 43 := dnAt dc_X7_align 24 rfl rfl
theorem d_X7_align_43 : dn cX7_align 43 (.ireturn) 1 44 := dnAt dc_X7_align 25 rfl rfl
theorem d_X7_align_44 : dn cX7_align 44 (.aload_n 0) 1 45 := dnAt dc_X7_align 26 rfl rfl
theorem d_X7_align_45 : dn cX7_align 45 (.getfield 29) 3 48 := dnAt dc_X7_align 27 rfl rfl
theorem d_X7_align_48 : dn cX7_align 48 (.iload_n 1) 1 49 := dnAt dc_X7_align 28 rfl rfl
theorem d_X7_align_49 : dn cX7_align 49 (.dup2) 1 50 := dnAt dc_X7_align 29 rfl rfl
theorem d_X7_align_50 : dn cX7_align 50 (.laload) 1 51 := dnAt dc_X7_align 30 rfl rfl
theorem d_X7_align_51 : dn cX7_align 51 (.lconst 1) 1 52 := dnAt dc_X7_align 31 rfl rfl
theorem d_X7_align_52 : dn cX7_align 52 (.iload_n 2) 1 53 := dnAt dc_X7_align 32 rfl rfl
theorem d_X7_align_53 : dn cX7_align 53 (.lshl) 1 54 := dnAt dc_X7_align 33 rfl rfl
theorem d_X7_align_54 : dn cX7_align 54 (.lor) 1 55 := dnAt dc_X7_align 34 rfl rfl
theorem d_X7_align_55 : dn cX7_align 55 (.lastore) 1 56 := dnAt dc_X7_align 35 rfl rfl
theorem d_X7_align_56 : dn cX7_align 56 (.iconst 0) 1 57 := dnAt dc_X7_align 36 rfl rfl
theorem d_X7_align_57 : dn cX7_align 57 (.istore_n 3) 1 58 := dnAt dc_X7_align 37 rfl rfl
theorem d_X7_align_58 : dn cX7_align 58 (.iconst 0) 1 59 := dnAt dc_X7_align 38 rfl rfl
theorem d_X7_align_59 : dn cX7_align 59 (.istore 4) 2 61 := dnAt dc_X7_align 39 rfl rfl
theorem d_X7_align_61 : dn cX7_align 61 (.iload 4) 2 63 := dnAt dc_X7_align 40 rfl rfl
theorem d_X7_align_63 : dn cX7_align 63 (.sipush 1600) 3 66 := dnAt dc_X7_align 41 rfl rfl
theorem d_X7_align_66 : dn cX7_align 66 (.if_icmp .ge 31) 3 69 := dnAt dc_X7_align 42 rfl rfl
theorem d_X7_align_69 : dn cX7_align 69 (.iload_n 3) 1 70 := dnAt dc_X7_align 43 rfl rfl
theorem d_X7_align_70 : dn cX7_align 70 (.aload_n 0) 1 71 := dnAt dc_X7_align 44 rfl rfl
theorem d_X7_align_71 : dn cX7_align 71 (.getfield 29) 3 74 := dnAt dc_X7_align 45 rfl rfl
theorem d_X7_align_74 : dn cX7_align 74 (.iload 4) 2 76 := dnAt dc_X7_align 46 rfl rfl
theorem d_X7_align_76 : dn cX7_align 76 (.bipush 40) 2 78 := dnAt dc_X7_align 47 rfl rfl
theorem d_X7_align_78 : dn cX7_align 78 (.idiv) 1 79 := dnAt dc_X7_align 48 rfl rfl
theorem d_X7_align_79 : dn cX7_align 79 (.laload) 1 80 := dnAt dc_X7_align 49 rfl rfl
theorem d_X7_align_80 : dn cX7_align 80 (.iload 4) 2 82 := dnAt dc_X7_align 50 rfl rfl
theorem d_X7_align_82 : dn cX7_align 82 (.bipush 40) 2 84 := dnAt dc_X7_align 51 rfl rfl
theorem d_X7_align_84 : dn cX7_align 84 (.irem) 1 85 := dnAt dc_X7_align 52 rfl rfl
theorem d_X7_align_85 : dn cX7_align 85 (.lshr) 1 86 := dnAt dc_X7_align 53 rfl rfl
theorem d_X7_align_86 : dn cX7_align 86 (.lconst 1) 1 87 := dnAt dc_X7_align 54 rfl rfl
theorem d_X7_align_87 : dn cX7_align 87 (.land) 1 88 := dnAt dc_X7_align 55 rfl rfl
theorem d_X7_align_88 : dn cX7_align 88 (.l2i) 1 89 := dnAt dc_X7_align 56 rfl rfl
theorem d_X7_align_89 : dn cX7_align 89 (.iadd) 1 90 := dnAt dc_X7_align 57 rfl rfl
theorem d_X7_align_90 : dn cX7_align 90 (.istore_n 3) 1 91 := dnAt dc_X7_align 58 rfl rfl
theorem d_X7_align_91 : dn cX7_align 91 (.iinc 4 1) 3 94 := dnAt dc_X7_align 59 rfl rfl
theorem d_X7_align_94 : dn cX7_align 94 (.goto (-33)) 3 97 := dnAt dc_X7_align 60 rfl rfl
theorem d_X7_align_97 : dn cX7_align 97 (.iload_n 3) 1 98 := dnAt dc_X7_align 61 rfl rfl
theorem d_X7_align_98 : dn cX7_align 98 (.ireturn) 1 99 := dnAt dc_X7_align 62 rfl rfl
set_option maxHeartbeats 4000000 in
set_option maxRecDepth 100000 in
theorem m_align (S : mS) (a b : Int32) (I : mInv S) : mC yX7_align cX7_align 5 (Option.some Jvm.ClassFile.FieldType.int) { frames := 1, cells := 0, slots := 0, locals := 22 } [.int a, .int b] S (fun v9 T9 => v9 = (some (.int (nI (rAlign S a b)))) ∧ T9 = tAlign S a b) := by
  refine mC.of (by decide) (Nat.le_of_ble_eq_true rfl) ?_
  intro G x q h0 C A TY
  show VM G x q h0 S 0 [(0, .ref (q 0)), (1, .int a), (2, .int b)] []
  refine m_aload_n C d_X7_align_0 0 rfl ?_
  have join_36 : VM G x q h0 S 36 [(0, .ref (q 0)), (1, .int a), (2, .int b)] [.int (nI (cAlign S a b)), .ref (q 0)] := by
    refine m_callV C d_X7_align_36 ok_RX7_84 (m_holds S (cAlign S a b) (by unfold cAlign; split <;> omega)) rfl (rest := []) rfl rfl (Nat.le_of_ble_eq_true rfl) ⟨⟨by decide, by decide⟩, by decide, by decide⟩ (fun v9 T9 e9 => ?_)
    obtain ⟨rfl, e9⟩ := e9
    refine m_eq e9 ?_
    show VM G x q h0 (uK S 0 (cAlign S a b)) 39 [(0, .ref (q 0)), (1, .int a), (2, .int b)] [.int (bI (decide (cAlign S a b = 0)))]
    refine mb_if_ne C d_X7_align_39 (tgt := 44) rfl (fun c_39 => ?_) (fun c_39 => ?_)
    · skip
      have c0 := of_decide_eq_true c_39
      have c1 : (inI a (nI 0) (nI (mSents S 0) - nI 1) && inI b (nI 0) (nI (mSents S 1) - nI 1)) = true := by unfold cAlign at c0; split at c0 <;> first | assumption | omega
      rw [Bool.and_eq_true] at c1
      have i1 := mSents_le I (show 0 < 2 by decide)
      have i2 := mSents_le I (show 1 < 2 by decide)
      obtain ⟨e1, e2⟩ := inI_of (by omega) c1.1
      obtain ⟨e3, e4⟩ := inI_of (by omega) c1.2
      rw [c0]
      refine m_lve (lv' := [(0, .ref (q 0)), (1, .int (nI (tn a))), (2, .int (nI (tn b)))]) (by rw [← e1, ← e3]) ?_
      refine m_aload_n C d_X7_align_44 0 rfl ?_
      refine m_get C d_X7_align_45 fd_RX7_29 (v := .ref (q 7)) rfl ?_
      refine m_iload_n C d_X7_align_48 1 rfl ?_
      refine m_dup2 C d_X7_align_49 rfl rfl ?_
      refine m_lld C d_X7_align_50 (k := 7) (by decide) rfl (by show _ < 40; omega) (by decide) ?_
      refine m_st (st' := [.long (lN (mN S 7 (tn a))), .int (nI (tn a)), .ref (q 7)]) rfl ?_
      refine m_lconst C d_X7_align_51 (v := (lN 1)) rfl ?_
      refine m_iload_n C d_X7_align_52 2 rfl ?_
      refine mn_lshl C d_X7_align_53 (by omega) ?_
      refine mn_lor C d_X7_align_54 ?_
      refine m_lst C d_X7_align_55 (k := 7) (v := (mN S 7 (tn a)) ||| (1 * 2 ^ (tn b))) (by decide) rfl (by show _ < 40; omega) (by decide) ?_
      refine m_iconst C d_X7_align_56 (v := (nI 0)) rfl ?_
      refine m_istore_n C d_X7_align_57 (lv' := [(3, .int (nI 0)), (0, .ref (q 0)), (1, .int (nI (tn a))), (2, .int (nI (tn b)))]) (by decide) rfl ?_
      refine m_iconst C d_X7_align_58 (v := (nI 0)) rfl ?_
      refine m_istore C d_X7_align_59 (lv' := [(4, .int (nI 0)), (3, .int (nI 0)), (0, .ref (q 0)), (1, .int (nI (tn a))), (2, .int (nI (tn b)))]) (by decide) rfl ?_
      have loop_61 : ∀ (fuel : Nat) (k : Nat), (k ≤ 1600) → (1601 - k) < fuel → VM G x q h0 (tAlign S a b) 61 [(0, .ref (q 0)), (3, .int (nI (nPairs (tAlign S a b) k))), (4, .int (nI k))] [] := by
        intro fuel
        induction fuel with
        | zero => intro k hk hf9; exact absurd hf9 (Nat.not_lt_zero _)
        | succ fuel ih_61 =>
          intro k hk hf9
          refine m_iload C d_X7_align_61 2 rfl ?_
          refine m_sipush C d_X7_align_63 (v := (nI 1600)) rfl ?_
          refine mn_icmp_ge C d_X7_align_66 (tgt := 97) rfl (by omega) (by omega) (fun c_66 => ?_) (fun c_66 => ?_)
          · skip
            have e9 : k = 1600 := by omega
            subst e9
            refine m_iload_n C d_X7_align_97 1 rfl ?_
            refine m_st (st' := [.int (nI (rAlign S a b))]) (by rw [rAlign, if_pos c0]) ?_
            exact m_iret C A TY d_X7_align_98 rfl (⟨rfl, rfl⟩)
          · skip
            refine m_iload_n C d_X7_align_69 1 rfl ?_
            refine m_aload_n C d_X7_align_70 0 rfl ?_
            refine m_get C d_X7_align_71 fd_RX7_29 (v := .ref (q 7)) rfl ?_
            refine m_iload C d_X7_align_74 2 rfl ?_
            refine m_bipush C d_X7_align_76 (v := (nI 40)) rfl ?_
            refine mn_idiv C d_X7_align_78 (by omega) (by omega) (by omega) ?_
            refine m_lld C d_X7_align_79 (k := 7) (by decide) rfl (by show _ < 40; omega) (by decide) ?_
            refine m_iload C d_X7_align_80 2 rfl ?_
            refine m_bipush C d_X7_align_82 (v := (nI 40)) rfl ?_
            refine mn_irem C d_X7_align_84 (by omega) (by omega) (by omega) ?_
            refine mn_lshr C d_X7_align_85 (by have := tAlign_lt I (a := a) (b := b) (k / 40) (by omega); omega) (by omega) ?_
            refine m_lconst C d_X7_align_86 (v := (lN 1)) rfl ?_
            refine mn_land C d_X7_align_87 ?_
            refine mn_l2i C d_X7_align_88 ?_
            refine mn_iadd C d_X7_align_89 ?_
            refine m_istore_n C d_X7_align_90 (lv' := [(3, .int (nI ((nPairs (tAlign S a b) k) + (((mN (tAlign S a b) 7 (k / 40)) / 2 ^ (k % 40)) &&& 1)))), (0, .ref (q 0)), (4, .int (nI k))]) (by decide) rfl ?_
            refine mn_iinc C d_X7_align_91 (lv' := [(4, .int (nI (k + 1))), (3, .int (nI ((nPairs (tAlign S a b) k) + (((mN (tAlign S a b) 7 (k / 40)) / 2 ^ (k % 40)) &&& 1)))), (0, .ref (q 0))]) 2 rfl (nI_inc _ rfl) (by decide) rfl ?_
            refine m_goto C d_X7_align_94 (tgt := 61) rfl ?_
            refine m_lv (lv' := [(0, .ref (q 0)), (3, .int (nI ((nPairs (tAlign S a b) k) + (((mN (tAlign S a b) 7 (k / 40)) / 2 ^ (k % 40)) &&& 1)))), (4, .int (nI (k + 1)))]) [2, 1, 0] rfl ?_
            refine m_lve (lv' := [(0, .ref (q 0)), (3, .int (nI (nPairs (tAlign S a b) (k + 1)))), (4, .int (nI (k + 1)))]) (by rw [nPairs, nPairs, sumTo, and1]) ?_
            exact ih_61 (k + 1) (by omega) (by omega)
      refine m_eq (S' := tAlign S a b) (by rw [tAlign, if_pos c0, Nat.one_mul]) ?_
      refine m_lv (lv' := [(0, .ref (q 0)), (3, .int (nI 0)), (4, .int (nI 0))]) [2, 1, 0] rfl ?_
      refine m_lve (lv' := [(0, .ref (q 0)), (3, .int (nI (nPairs (tAlign S a b) 0))), (4, .int (nI 0))]) (rfl) ?_
      exact loop_61 _ 0 (by omega) (Nat.lt_succ_self _)
    · skip
      have c1 := of_decide_eq_false c_39
      have c2 : cAlign S a b = 1 := by unfold cAlign at c1 ⊢; split at c1 <;> first | omega | (rw [if_neg (by assumption)])
      rw [c2]
      refine m_iconst C d_X7_align_42 (v := (nI 0)) rfl ?_
      refine m_st (st' := [.int (nI (rAlign S a b))]) (by rw [rAlign, if_neg c1]) ?_
      exact m_iret C A TY d_X7_align_43 rfl (⟨rfl, by rw [tAlign, if_neg c1]⟩)
  refine m_iload_n C d_X7_align_1 1 rfl ?_
  refine m_iconst C d_X7_align_2 (v := (nI 0)) rfl ?_
  refine m_aload_n C d_X7_align_3 0 rfl ?_
  refine m_iconst C d_X7_align_4 (v := (nI 0)) rfl ?_
  refine m_callV C d_X7_align_5 ok_RX7_87 (m_sentences S 0 (by omega) I) rfl (rest := [.int (nI 0), .int a, .ref (q 0)]) rfl rfl (Nat.le_of_ble_eq_true rfl) ⟨⟨by decide, by decide⟩, by decide, by decide⟩ (fun v9 T9 e9 => ?_)
  obtain ⟨rfl, e9⟩ := e9
  refine m_eq e9 ?_
  show VM G x q h0 S 8 [(0, .ref (q 0)), (1, .int a), (2, .int b)] [.int (nI (mSents S 0)), .int (nI 0), .int a, .ref (q 0)]
  refine m_iconst C d_X7_align_8 (v := (nI 1)) rfl ?_
  refine m_isub C d_X7_align_9 ?_
  refine m_callS C d_X7_align_10 ok_RX7_76 (s_isIn a ((nI 0)) (((nI (mSents S 0)) - (nI 1)))) (rest := [.ref (q 0)]) rfl rfl (Nat.le_of_ble_eq_true rfl) ⟨⟨by decide, by decide⟩, by decide, by decide⟩ ?_
  show VM G x q h0 S 13 [(0, .ref (q 0)), (1, .int a), (2, .int b)] [.int (bI (inI a (nI 0) ((nI (mSents S 0)) - (nI 1)))), .ref (q 0)]
  refine mb_if_eq C d_X7_align_13 (tgt := 35) rfl (fun c_13 => ?_) (fun c_13 => ?_)
  · skip
    refine m_iconst C d_X7_align_35 (v := (nI 1)) rfl ?_
    refine m_st (st' := [.int (nI (cAlign S a b)), .ref (q 0)]) (by first | rw [cAlign, c_13, c_28]; rfl | (rw [cAlign, c_13]; rfl)) ?_
    exact join_36  
  · skip
    refine m_iload_n C d_X7_align_16 2 rfl ?_
    refine m_iconst C d_X7_align_17 (v := (nI 0)) rfl ?_
    refine m_aload_n C d_X7_align_18 0 rfl ?_
    refine m_iconst C d_X7_align_19 (v := (nI 1)) rfl ?_
    refine m_callV C d_X7_align_20 ok_RX7_87 (m_sentences S 1 (by omega) I) rfl (rest := [.int (nI 0), .int b, .ref (q 0)]) rfl rfl (Nat.le_of_ble_eq_true rfl) ⟨⟨by decide, by decide⟩, by decide, by decide⟩ (fun v9 T9 e9 => ?_)
    obtain ⟨rfl, e9⟩ := e9
    refine m_eq e9 ?_
    show VM G x q h0 S 23 [(0, .ref (q 0)), (1, .int a), (2, .int b)] [.int (nI (mSents S 1)), .int (nI 0), .int b, .ref (q 0)]
    refine m_iconst C d_X7_align_23 (v := (nI 1)) rfl ?_
    refine m_isub C d_X7_align_24 ?_
    refine m_callS C d_X7_align_25 ok_RX7_76 (s_isIn b ((nI 0)) (((nI (mSents S 1)) - (nI 1)))) (rest := [.ref (q 0)]) rfl rfl (Nat.le_of_ble_eq_true rfl) ⟨⟨by decide, by decide⟩, by decide, by decide⟩ ?_
    show VM G x q h0 S 28 [(0, .ref (q 0)), (1, .int a), (2, .int b)] [.int (bI (inI b (nI 0) ((nI (mSents S 1)) - (nI 1)))), .ref (q 0)]
    refine mb_if_eq C d_X7_align_28 (tgt := 35) rfl (fun c_28 => ?_) (fun c_28 => ?_)
    · skip
      refine m_iconst C d_X7_align_35 (v := (nI 1)) rfl ?_
      refine m_st (st' := [.int (nI (cAlign S a b)), .ref (q 0)]) (by first | rw [cAlign, c_13, c_28]; rfl | (rw [cAlign, c_13]; rfl)) ?_
      exact join_36  
    · skip
      refine m_iconst C d_X7_align_31 (v := (nI 0)) rfl ?_
      refine m_goto C d_X7_align_32 (tgt := 36) rfl ?_
      refine m_st (st' := [.int (nI (cAlign S a b)), .ref (q 0)]) (by first | rw [cAlign, c_13, c_28]; rfl | (rw [cAlign, c_13]; rfl)) ?_
      exact join_36  
end
section
theorem tw_670 : (Jvm.Cond.fieldLink "CorpuslineModel" (36 : Nat) "CorpuslineModel" "isTest" "[Z") ∈ TB := tb_of 670 (by decide +kernel) rfl
theorem tw_671 : (Jvm.Cond.fieldLink "CorpuslineModel" (39 : Nat) "CorpuslineModel" "ways" "[Z") ∈ TB := tb_of 671 (by decide +kernel) rfl
theorem tw_672 : (Jvm.Cond.fieldLink "CorpuslineModel" (42 : Nat) "CorpuslineModel" "values" "[I") ∈ TB := tb_of 672 (by decide +kernel) rfl
theorem tw_673 : (Jvm.Cond.fieldLink "CorpuslineModel" (45 : Nat) "CorpuslineModel" "others" "[J") ∈ TB := tb_of 673 (by decide +kernel) rfl
theorem tw_674 : (Jvm.Cond.fieldLink "CorpuslineModel" (48 : Nat) "CorpuslineModel" "sets" "[I") ∈ TB := tb_of 674 (by decide +kernel) rfl
theorem tw_675 : (Jvm.Cond.fieldLink "CorpuslineModel" (51 : Nat) "CorpuslineModel" "compares" "[I") ∈ TB := tb_of 675 (by decide +kernel) rfl
theorem fd_RX7_36 : fdOk RX7 36 6 9 := ⟨_, _, _, rfl, by decide, cw_6, tw_670, rfl⟩
theorem fd_RX7_39 : fdOk RX7 39 6 10 := ⟨_, _, _, rfl, by decide, cw_6, tw_671, rfl⟩
theorem fd_RX7_42 : fdOk RX7 42 6 11 := ⟨_, _, _, rfl, by decide, cw_6, tw_672, rfl⟩
theorem fd_RX7_45 : fdOk RX7 45 6 12 := ⟨_, _, _, rfl, by decide, cw_6, tw_673, rfl⟩
theorem fd_RX7_48 : fdOk RX7 48 6 13 := ⟨_, _, _, rfl, by decide, cw_6, tw_674, rfl⟩
theorem fd_RX7_51 : fdOk RX7 51 6 14 := ⟨_, _, _, rfl, by decide, cw_6, tw_675, rfl⟩
/-- the tests' rows read through a map of tests -/
def tmap (S : mS) (g : Nat → Nat) : mS := (S.1, (fun k x => if k = 12 then mN S 12 (6 * g (x / 6) + x % 6) else if k = 13 then mN S 13 (g x) else if k = 14 then mN S 14 (g x) else S.2.1 k x), S.2.2.1, fun k x => if k = 11 then mI S 11 (3 * g (x / 3) + x % 3) else S.2.2.2 k x)
theorem mK_tmap (S : mS) (g : Nat → Nat) (j : Nat) : mK (tmap S g) j = mK S j := rfl
theorem mB_tmap (S : mS) (g : Nat → Nat) (j b : Nat) : mB (tmap S g) j b = mB S j b := rfl
theorem mN_tmap (S : mS) (g : Nat → Nat) (j x : Nat) : mN (tmap S g) j x = if j = 12 then mN S 12 (6 * g (x / 6) + x % 6) else if j = 13 then mN S 13 (g x) else if j = 14 then mN S 14 (g x) else mN S j x := rfl
theorem mI_tmap (S : mS) (g : Nat → Nat) (j x : Nat) : mI (tmap S g) j x = if j = 11 then mI S 11 (3 * g (x / 3) + x % 3) else mI S j x := rfl
theorem tmap_tmap (S : mS) (g g' : Nat → Nat) : tmap (tmap S g) g' = tmap S (fun t => g (g' t)) := by
  apply mS_ext
  · intro k; rfl
  · intro k x
    rw [mN_tmap (tmap S g) g' k x, mN_tmap S (fun t => g (g' t)) k x]
    by_cases h1 : k = 12
    · rw [if_pos h1, if_pos h1, mN_tmap, if_pos rfl, show (6 * g' (x / 6) + x % 6) / 6 = g' (x / 6) by omega, show (6 * g' (x / 6) + x % 6) % 6 = x % 6 by omega]
    · rw [if_neg h1, if_neg h1]
      by_cases h2 : k = 13
      · rw [if_pos h2, if_pos h2, mN_tmap, if_neg (by decide), if_pos rfl]
      · rw [if_neg h2, if_neg h2]
        by_cases h3 : k = 14
        · rw [if_pos h3, if_pos h3, mN_tmap, if_neg (by decide), if_neg (by decide), if_pos rfl]
        · rw [if_neg h3, if_neg h3, mN_tmap, if_neg h1, if_neg h2, if_neg h3]
  · intro k x; rfl
  · intro k x
    rw [mI_tmap (tmap S g) g' k x, mI_tmap S (fun t => g (g' t)) k x]
    by_cases h1 : k = 11
    · rw [if_pos h1, if_pos h1, mI_tmap, if_pos rfl, show (3 * g' (x / 3) + x % 3) / 3 = g' (x / 3) by omega, show (3 * g' (x / 3) + x % 3) % 3 = x % 3 by omega]
    · rw [if_neg h1, if_neg h1, mI_tmap, if_neg h1]
theorem tmap_congr {S : mS} {g g' : Nat → Nat} (h : ∀ t, g t = g' t) : tmap S g = tmap S g' := by rw [funext h]
theorem tmap_id (S : mS) {g : Nat → Nat} (h : ∀ t, g t = t) : S = tmap S g := by
  apply mS_ext
  · intro k; rfl
  · intro k x
    rw [mN_tmap, h, h, Nat.div_add_mod]
    split
    · rename_i e; rw [e]
    · split
      · rename_i e; rw [e]
      · split
        · rename_i e; rw [e]
        · rfl
  · intro k x; rfl
  · intro k x
    rw [mI_tmap, h, Nat.div_add_mod]
    split
    · rename_i e; rw [e]
    · rfl
def cpL (S : mS) (a t k : Nat) : mS := sN (sI S 11 (fun x => if 3 * t ≤ x ∧ x < 3 * t + k then mI S 11 (3 * a + (x - 3 * t)) else mI S 11 x)) 12 (fun x => if 6 * t ≤ x ∧ x < 6 * t + 2 * k then mN S 12 (6 * a + (x - 6 * t)) else mN S 12 x)
def cpG (a t : Nat) : Nat → Nat := fun z => if z = t then a else z
theorem cpL_0 (S : mS) (a t : Nat) : S = cpL S a t 0 := by
  unfold cpL
  apply mS_ext
  · intro k; rfl
  · intro k x
    rw [mN_sN]
    split
    · rename_i e; rw [if_neg (by omega), e]
    · rfl
  · intro k x; rfl
  · intro k x
    rw [mI_sN, mI_sI]
    split
    · rename_i e; rw [if_neg (by omega), e]
    · rfl
theorem cpL_end (S : mS) (a t : Nat) : uN (uN (cpL S a t 3) 13 t (mN S 13 a)) 14 t (mN S 14 a) = tmap S (cpG a t) := by
  apply mS_ext <;> intros <;> simp only [cpL, cpG, mK_uK, mN_uK, mB_uK, mI_uK, mK_uN, mN_uN, mB_uN, mI_uN, mK_uB, mN_uB, mB_uB, mI_uB, mK_uI, mN_uI, mB_uI, mI_uI, mK_sN, mN_sN, mB_sN, mI_sN, mK_sB, mN_sB, mB_sB, mI_sB, mK_sI, mN_sI, mB_sI, mI_sI, mK_tmap, mN_tmap, mB_tmap, mI_tmap] <;> grind
def cTest (S : mS) (attr value : Int32) : Nat := if (inR attr 0 2 && inR value 0 99) = true then (if mTests S = 8 then 2 else 0) else 1
def cAny (S : mS) : Nat := if mTests S = 8 then 1 else 0
def cSame (S : mS) (attr label : Int32) : Nat := if (inR attr 0 2 && inR label 0 2) = true then (if mTests S = 8 then 2 else 0) else 1
def canL (S : mS) : Bool := decide (0 < mK S 16) && mB S 9 (12 + mK S 16 - 1)
def cLabel (S : mS) (label : Int32) : Nat := if inR label 0 2 = true then (if canL S = true then 0 else 2) else 1
def canB (S : mS) : Bool := decide (1 < mK S 16) && (mB S 9 (12 + mK S 16 - 1) && mB S 9 (12 + mK S 16 - 2))
def cBoth (S : mS) : Nat := if canB S = true then 0 else 1
def cTwo (S : mS) : Nat := if mK S 16 < 2 then 1 else 0
def cKeep (S : mS) : Nat := if mK S 16 = 1 ∧ mK S 15 ≠ 12 then 0 else 1
def puW (S : mS) (p k : Nat) : mS := sB (uB (uN S 8 p 1) 9 p true) 10 (fun z => if 256 * p ≤ z ∧ z < 256 * p + k then decide (z - 256 * p = 1) else mB S 10 z)
def puV (S : mS) (p k : Nat) : mS := sN (sI (puW S p 256) 11 (fun x => if 24 * p ≤ x ∧ x < 24 * p + k then -1 else mI S 11 x)) 12 (fun x => if 48 * p ≤ x ∧ x < 48 * p + 2 * k then 0 else mN S 12 x)
def tPuts (S : mS) : mS := uK (uN (uN (puV S (12 + mK S 16) 3) 13 (8 * (12 + mK S 16)) 0) 14 (8 * (12 + mK S 16)) 0) 16 (mK S 16 + 1)
def tTest (S : mS) (attr value : Int32) (o : Bool) : mS :=
  if cTest S attr value = 0 then
    if o = true then uN (tPuts (uK S 0 0)) 12 (6 * (8 * (12 + mK S 16)) + 2 * tn attr + tn value / 50) (2 ^ (tn value % 50))
    else uI (tPuts (uK S 0 0)) 11 (3 * (8 * (12 + mK S 16)) + tn attr) value
  else uK S 0 (cTest S attr value)
def rPut (S : mS) (c : Nat) : Nat := if c = 0 then mK S 16 + 1 else 0
def tAny (S : mS) : mS := if cAny S = 0 then tPuts (uK S 0 0) else uK S 0 1
def tSame (S : mS) (attr label : Int32) : mS := if cSame S attr label = 0 then uN (tPuts (uK S 0 0)) 14 (8 * (12 + mK S 16)) (2 ^ (3 * tn label + tn attr)) else uK S 0 (cSame S attr label)
def tLabel (S : mS) (label : Int32) : mS := if cLabel S label = 0 then uN (uK S 0 0) 13 (8 * (12 + mK S 16 - 1)) (mN S 13 (8 * (12 + mK S 16 - 1)) ||| 2 ^ tn label) else uK S 0 (cLabel S label)
def vJoin (v w : Int32) : Int32 := if v = -1 then w else if w = -1 ∨ w = v then v else -2
def boL (S : mS) (a o k : Nat) : mS := sN (sI S 11 (fun x => if 3 * a ≤ x ∧ x < 3 * a + k then vJoin (mI S 11 x) (mI S 11 (3 * o + (x - 3 * a))) else mI S 11 x)) 12 (fun x => if 6 * a ≤ x ∧ x < 6 * a + 2 * k then mN S 12 x ||| mN S 12 (6 * o + (x - 6 * a)) else mN S 12 x)
def boE (S : mS) (a o : Nat) : mS := uN (uN (boL S a o 3) 13 a (mN S 13 a ||| mN S 13 o)) 14 a (mN S 14 a ||| mN S 14 o)
def tBoth (S : mS) : mS := if cBoth S = 0 then uK (boE (uK S 0 0) (8 * (12 + mK S 16 - 2)) (8 * (12 + mK S 16 - 1))) 16 (mK S 16 - 1) else uK S 0 1
def laG (b a k : Nat) : Nat → Nat := fun t => if b ≤ t ∧ t < b + k then a + (t - b) else t
theorem laG_succ (S : mS) {b a k : Nat} (h : a + k < b ∨ b ≤ a ∨ k = 0) : tmap (tmap S (laG b a k)) (cpG (a + k) (b + k)) = tmap S (laG b a (k + 1)) := by
  rw [tmap_tmap]
  apply tmap_congr
  intro t
  simp only [laG, cpG]
  grind
def tLays (S : mS) : mS := tmap S (laG (8 * (12 + mK S 16 - 2) + mN S 8 (12 + mK S 16 - 2)) (8 * (12 + mK S 16 - 2 + 1)) (mN S 8 (12 + mK S 16 - 2 + 1)))
def beL (S : mS) (p k : Nat) : mS := sB S 10 (fun z => if 256 * p ≤ z ∧ z < 256 * p + k then mB S 17 (z - 256 * p) else mB S 10 z)
def tBec (S : mS) (p m : Nat) : mS := uB (uN (beL S p 256) 8 p m) 9 p false
def cpP (S : mS) (a t k : Nat) : mS := sB (uB (uN S 8 t (mN S 8 a)) 9 t (mB S 9 a)) 10 (fun z => if 256 * t ≤ z ∧ z < 256 * t + k then mB S 10 (256 * a + (z - 256 * t)) else mB S 10 z)
def tPart (S : mS) (a t : Nat) : mS := tmap (cpP S a t 256) (laG (8 * t) (8 * a) 8)
def tKeep (S : mS) : mS := if cKeep S = 0 then uK (uK (tPart (uK S 0 0) 12 (mK S 15)) 16 0) 15 (mK S 15 + 1) else uK S 0 1
def rKeep (S : mS) : Nat := if cKeep S = 0 then mK S 15 else 0
/-- a row set place by place -/
theorem sB_step {S : mS} {k i : Nat} {f g : Nat → Bool} {v : Bool} (h : ∀ z, (if z = i then v else f z) = g z) : uB (sB S k f) k i v = sB S k g := by
  apply mS_ext
  · intro j; rfl
  · intro j z; rfl
  · intro j z
    rw [mB_uB, mB_sB, mB_sB, ← h]
    by_cases e : j = k
    · by_cases e2 : z = i
      · rw [if_pos ⟨e, e2⟩, if_pos e, if_pos e2]
      · rw [if_neg (fun q => e2 q.2), if_pos e, if_pos e, if_neg e2]
    · rw [if_neg (fun q => e q.1), if_neg e, if_neg e]
  · intro j z; rfl
theorem sB_init {S : mS} {k : Nat} {g : Nat → Bool} (h : ∀ z, mB S k z = g z) : S = sB S k g := by
  apply mS_ext
  · intro j; rfl
  · intro j z; rfl
  · intro j z
    rw [mB_sB, ← h]
    by_cases e : j = k
    · rw [if_pos e, e]
    · rw [if_neg e]
  · intro j z; rfl
theorem sN_step {S : mS} {k i : Nat} {f g : Nat → Nat} {v : Nat} (h : ∀ z, (if z = i then v else f z) = g z) : uN (sN S k f) k i v = sN S k g := by
  apply mS_ext
  · intro j; rfl
  · intro j z
    rw [mN_uN, mN_sN, mN_sN, ← h]
    by_cases e : j = k
    · by_cases e2 : z = i
      · rw [if_pos ⟨e, e2⟩, if_pos e, if_pos e2]
      · rw [if_neg (fun q => e2 q.2), if_pos e, if_pos e, if_neg e2]
    · rw [if_neg (fun q => e q.1), if_neg e, if_neg e]
  · intro j z; rfl
  · intro j z; rfl
theorem sN_init {S : mS} {k : Nat} {g : Nat → Nat} (h : ∀ z, mN S k z = g z) : S = sN S k g := by
  apply mS_ext
  · intro j; rfl
  · intro j z
    rw [mN_sN, ← h]
    by_cases e : j = k
    · rw [if_pos e, e]
    · rw [if_neg e]
  · intro j z; rfl
  · intro j z; rfl
theorem sI_step {S : mS} {k i : Nat} {f g : Nat → Int32} {v : Int32} (h : ∀ z, (if z = i then v else f z) = g z) : uI (sI S k f) k i v = sI S k g := by
  apply mS_ext
  · intro j; rfl
  · intro j z; rfl
  · intro j z; rfl
  · intro j z
    rw [mI_uI, mI_sI, mI_sI, ← h]
    by_cases e : j = k
    · by_cases e2 : z = i
      · rw [if_pos ⟨e, e2⟩, if_pos e, if_pos e2]
      · rw [if_neg (fun q => e2 q.2), if_pos e, if_pos e, if_neg e2]
    · rw [if_neg (fun q => e q.1), if_neg e, if_neg e]
theorem sI_init {S : mS} {k : Nat} {g : Nat → Int32} (h : ∀ z, mI S k z = g z) : S = sI S k g := by
  apply mS_ext
  · intro j; rfl
  · intro j z; rfl
  · intro j z; rfl
  · intro j z
    rw [mI_sI, ← h]
    by_cases e : j = k
    · rw [if_pos e, e]
    · rw [if_neg e]
theorem uN_sI {S : mS} {j i v k : Nat} {f : Nat → Int32} : uN (sI S k f) j i v = sI (uN S j i v) k f := rfl
theorem uI_sN {S : mS} {j i k : Nat} {v : Int32} {f : Nat → Nat} : uI (sN S k f) j i v = sN (uI S j i v) k f := rfl
theorem mInv_pair {S : mS} (I : mInv S) (h : 2 ≤ mK S 16) : mN S 8 (12 + mK S 16 - 2) + mN S 8 (12 + mK S 16 - 2 + 1) ≤ 8 := by
  have h1 : mTests S ≤ 8 := I.2.2.2.2.2.2.2.2.2.2.2.1
  obtain ⟨z, hz⟩ : ∃ z, mK S 16 = z + 1 + 1 := ⟨mK S 16 - 2, by omega⟩
  rw [mTests, hz, sumTo, sumTo] at h1
  rw [hz, show 12 + (z + 1 + 1) - 2 = 12 + z by omega]
  have e : 12 + (z + 1) = 12 + z + 1 := by omega
  rw [e] at h1
  omega

theorem cpL_rI {S : mS} {a t k : Nat} (hk : k < 3) : mI (cpL S a t k) 11 (3 * a + k) = mI S 11 (3 * a + k) := by
  unfold cpL
  rw [mI_sN, mI_sI, if_pos rfl]
  split
  · congr 1; omega
  · rfl
theorem cpL_rN {S : mS} {a t k : Nat} (hk : k < 3) : mN (cpL S a t k) 12 (6 * a + 2 * k) = mN S 12 (6 * a + 2 * k) := by
  unfold cpL
  rw [mN_sN, if_pos rfl]
  split
  · congr 1; omega
  · rfl
theorem cpL_rN2 {S : mS} {a t k : Nat} (hk : k < 3) : (if 12 = 12 ∧ 6 * a + 2 * k + 1 = 6 * t + 2 * k then mN S 12 (6 * a + 2 * k) else mN (cpL S a t k) 12 (6 * a + 2 * k + 1)) = mN S 12 (6 * a + 2 * k + 1) := by
  rw [if_neg (by omega)]
  unfold cpL
  rw [mN_sN, if_pos rfl]
  split
  · congr 1; omega
  · rfl
theorem cpL_step {S : mS} {a t k : Nat} (hk : k < 3) : uN (uN (uI (cpL S a t k) 11 (3 * t + k) (mI S 11 (3 * a + k))) 12 (6 * t + 2 * k) (mN S 12 (6 * a + 2 * k))) 12 (6 * t + 2 * k + 1) (mN S 12 (6 * a + 2 * k + 1)) = cpL S a t (k + 1) := by
  unfold cpL
  rw [uI_sN, sI_step (g := fun x => if 3 * t ≤ x ∧ x < 3 * t + (k + 1) then mI S 11 (3 * a + (x - 3 * t)) else mI S 11 x)]
  · rw [sN_step (g := fun x => if 6 * t ≤ x ∧ x < 6 * t + 2 * k + 1 then mN S 12 (6 * a + (x - 6 * t)) else mN S 12 x)]
    · rw [sN_step]
      intro z
      by_cases c : z = 6 * t + 2 * k + 1
      · rw [if_pos c, if_pos (by omega)]; congr 1; omega
      · rw [if_neg c]
        by_cases d : 6 * t ≤ z ∧ z < 6 * t + 2 * k + 1
        · rw [if_pos d, if_pos (by omega)]
        · rw [if_neg d, if_neg (by omega)]
    · intro z
      by_cases c : z = 6 * t + 2 * k
      · rw [if_pos c, if_pos (by omega)]; congr 1; omega
      · rw [if_neg c]
        by_cases d : 6 * t ≤ z ∧ z < 6 * t + 2 * k
        · rw [if_pos d, if_pos (by omega)]
        · rw [if_neg d, if_neg (by omega)]
  · intro z
    by_cases c : z = 3 * t + k
    · rw [if_pos c, if_pos (by omega)]; congr 1; omega
    · rw [if_neg c]
      by_cases d : 3 * t ≤ z ∧ z < 3 * t + k
      · rw [if_pos d, if_pos (by omega)]
      · rw [if_neg d, if_neg (by omega)]

def dl_X7_copiesTest : List (Nat × Instr × Nat) := [(0, .iconst 0, 1), (1, .istore_n 3, 1), (2, .iload_n 3, 1), (3, .iconst 3, 1), (4, .if_icmp .ge 85, 3), (7, .aload_n 0, 1), (8, .getfield 42, 3), (11, .iconst 3, 1), (12, .iload_n 2, 1), (13, .imul, 1), (14, .iload_n 3, 1), (15, .iadd, 1), (16, .aload_n 0, 1), (17, .getfield 42, 3), (20, .iconst 3, 1), (21, .iload_n 1, 1), (22, .imul, 1), (23, .iload_n 3, 1), (24, .iadd, 1), (25, .iaload, 1), (26, .iastore, 1), (27, .aload_n 0, 1), (28, .getfield 45, 3), (31, .bipush 6, 2), (33, .iload_n 2, 1), (34, .imul, 1), (35, .iconst 2, 1), (36, .iload_n 3, 1), (37, .imul, 1), (38, .iadd, 1), (39, .aload_n 0, 1), (40, .getfield 45, 3), (43, .bipush 6, 2), (45, .iload_n 1, 1), (46, .imul, 1), (47, .iconst 2, 1), (48, .iload_n 3, 1), (49, .imul, 1), (50, .iadd, 1), (51, .laload, 1), (52, .lastore, 1), (53, .aload_n 0, 1), (54, .getfield 45, 3), (57, .bipush 6, 2), (59, .iload_n 2, 1), (60, .imul, 1), (61, .iconst 2, 1), (62, .iload_n 3, 1), (63, .imul, 1), (64, .iadd, 1), (65, .iconst 1, 1), (66, .iadd, 1), (67, .aload_n 0, 1), (68, .getfield 45, 3), (71, .bipush 6, 2), (73, .iload_n 1, 1), (74, .imul, 1), (75, .iconst 2, 1), (76, .iload_n 3, 1), (77, .imul, 1), (78, .iadd, 1), (79, .iconst 1, 1), (80, .iadd, 1), (81, .laload, 1), (82, .lastore, 1), (83, .iinc 3 1, 3), (86, .goto (-84), 3), (89, .aload_n 0, 1), (90, .getfield 48, 3), (93, .iload_n 2, 1), (94, .aload_n 0, 1), (95, .getfield 48, 3), (98, .iload_n 1, 1), (99, .iaload, 1), (100, .iastore, 1), (101, .aload_n 0, 1), (102, .getfield 51, 3), (105, .iload_n 2, 1), (106, .aload_n 0, 1), (107, .getfield 51, 3), (110, .iload_n 1, 1), (111, .iaload, 1), (112, .iastore, 1), (113, .return_, 1)]
theorem dc_X7_copiesTest : dnL cX7_copiesTest dl_X7_copiesTest = true := by decide +kernel
theorem d_X7_copiesTest_0 : dn cX7_copiesTest 0 (.iconst 0) 1 1 := dnAt dc_X7_copiesTest 0 rfl rfl
theorem d_X7_copiesTest_1 : dn cX7_copiesTest 1 (.istore_n 3) 1 2 := dnAt dc_X7_copiesTest 1 rfl rfl
theorem d_X7_copiesTest_2 : dn cX7_copiesTest 2 (.iload_n 3) 1 3 := dnAt dc_X7_copiesTest 2 rfl rfl
theorem d_X7_copiesTest_3 : dn cX7_copiesTest 3 (.iconst 3) 1 4 := dnAt dc_X7_copiesTest 3 rfl rfl
theorem d_X7_copiesTest_4 : dn cX7_copiesTest 4 (.if_icmp .ge 85) 3 7 := dnAt dc_X7_copiesTest 4 rfl rfl
theorem d_X7_copiesTest_7 : dn cX7_copiesTest 7 (.aload_n 0) 1 8 := dnAt dc_X7_copiesTest 5 rfl rfl
theorem d_X7_copiesTest_8 : dn cX7_copiesTest 8 (.getfield 42) 3 11 := dnAt dc_X7_copiesTest 6 rfl rfl
theorem d_X7_copiesTest_11 : dn cX7_copiesTest 11 (.iconst 3) 1 12 := dnAt dc_X7_copiesTest 7 rfl rfl
theorem d_X7_copiesTest_12 : dn cX7_copiesTest 12 (.iload_n 2) 1 13 := dnAt dc_X7_copiesTest 8 rfl rfl
theorem d_X7_copiesTest_13 : dn cX7_copiesTest 13 (.imul) 1 14 := dnAt dc_X7_copiesTest 9 rfl rfl
theorem d_X7_copiesTest_14 : dn cX7_copiesTest 14 (.iload_n 3) 1 15 := dnAt dc_X7_copiesTest 10 rfl rfl
theorem d_X7_copiesTest_15 : dn cX7_copiesTest 15 (.iadd) 1 16 := dnAt dc_X7_copiesTest 11 rfl rfl
theorem d_X7_copiesTest_16 : dn cX7_copiesTest 16 (.aload_n 0) 1 17 := dnAt dc_X7_copiesTest 12 rfl rfl
theorem d_X7_copiesTest_17 : dn cX7_copiesTest 17 (.getfield 42) 3 20 := dnAt dc_X7_copiesTest 13 rfl rfl
theorem d_X7_copiesTest_20 : dn cX7_copiesTest 20 (.iconst 3) 1 21 := dnAt dc_X7_copiesTest 14 rfl rfl
theorem d_X7_copiesTest_21 : dn cX7_copiesTest 21 (.iload_n 1) 1 22 := dnAt dc_X7_copiesTest 15 rfl rfl
theorem d_X7_copiesTest_22 : dn cX7_copiesTest 22 (.imul) 1 23 := dnAt dc_X7_copiesTest 16 rfl rfl
theorem d_X7_copiesTest_23 : dn cX7_copiesTest 23 (.iload_n 3) 1 24 := dnAt dc_X7_copiesTest 17 rfl rfl
theorem d_X7_copiesTest_24 : dn cX7_copiesTest 24 (.iadd) 1 25 := dnAt dc_X7_copiesTest 18 rfl rfl
theorem d_X7_copiesTest_25 : dn cX7_copiesTest 25 (.iaload) 1 26 := dnAt dc_X7_copiesTest 19 rfl rfl
theorem d_X7_copiesTest_26 : dn cX7_copiesTest 26 (.iastore) 1 27 := dnAt dc_X7_copiesTest 20 rfl rfl
theorem d_X7_copiesTest_27 : dn cX7_copiesTest 27 (.aload_n 0) 1 28 := dnAt dc_X7_copiesTest 21 rfl rfl
theorem d_X7_copiesTest_28 : dn cX7_copiesTest 28 (.getfield 45) 3 31 := dnAt dc_X7_copiesTest 22 rfl rfl
theorem d_X7_copiesTest_31 : dn cX7_copiesTest 31 (.bipush 6) 2 33 := dnAt dc_X7_copiesTest 23 rfl rfl
theorem d_X7_copiesTest_33 : dn cX7_copiesTest 33 (.iload_n 2) 1 34 := dnAt dc_X7_copiesTest 24 rfl rfl
theorem d_X7_copiesTest_34 : dn cX7_copiesTest 34 (.imul) 1 35 := dnAt dc_X7_copiesTest 25 rfl rfl
theorem d_X7_copiesTest_35 : dn cX7_copiesTest 35 (.iconst 2) 1 36 := dnAt dc_X7_copiesTest 26 rfl rfl
theorem d_X7_copiesTest_36 : dn cX7_copiesTest 36 (.iload_n 3) 1 37 := dnAt dc_X7_copiesTest 27 rfl rfl
theorem d_X7_copiesTest_37 : dn cX7_copiesTest 37 (.imul) 1 38 := dnAt dc_X7_copiesTest 28 rfl rfl
theorem d_X7_copiesTest_38 : dn cX7_copiesTest 38 (.iadd) 1 39 := dnAt dc_X7_copiesTest 29 rfl rfl
theorem d_X7_copiesTest_39 : dn cX7_copiesTest 39 (.aload_n 0) 1 40 := dnAt dc_X7_copiesTest 30 rfl rfl
theorem d_X7_copiesTest_40 : dn cX7_copiesTest 40 (.getfield 45) 3 43 := dnAt dc_X7_copiesTest 31 rfl rfl
theorem d_X7_copiesTest_43 : dn cX7_copiesTest 43 (.bipush 6) 2 45 := dnAt dc_X7_copiesTest 32 rfl rfl
theorem d_X7_copiesTest_45 : dn cX7_copiesTest 45 (.iload_n 1) 1 46 := dnAt dc_X7_copiesTest 33 rfl rfl
theorem d_X7_copiesTest_46 : dn cX7_copiesTest 46 (.imul) 1 47 := dnAt dc_X7_copiesTest 34 rfl rfl
theorem d_X7_copiesTest_47 : dn cX7_copiesTest 47 (.iconst 2) 1 48 := dnAt dc_X7_copiesTest 35 rfl rfl
theorem d_X7_copiesTest_48 : dn cX7_copiesTest 48 (.iload_n 3) 1 49 := dnAt dc_X7_copiesTest 36 rfl rfl
theorem d_X7_copiesTest_49 : dn cX7_copiesTest 49 (.imul) 1 50 := dnAt dc_X7_copiesTest 37 rfl rfl
theorem d_X7_copiesTest_50 : dn cX7_copiesTest 50 (.iadd) 1 51 := dnAt dc_X7_copiesTest 38 rfl rfl
theorem d_X7_copiesTest_51 : dn cX7_copiesTest 51 (.laload) 1 52 := dnAt dc_X7_copiesTest 39 rfl rfl
theorem d_X7_copiesTest_52 : dn cX7_copiesTest 52 (.lastore) 1 53 := dnAt dc_X7_copiesTest 40 rfl rfl
theorem d_X7_copiesTest_53 : dn cX7_copiesTest 53 (.aload_n 0) 1 54 := dnAt dc_X7_copiesTest 41 rfl rfl
theorem d_X7_copiesTest_54 : dn cX7_copiesTest 54 (.getfield 45) 3 57 := dnAt dc_X7_copiesTest 42 rfl rfl
theorem d_X7_copiesTest_57 : dn cX7_copiesTest 57 (.bipush 6) 2 59 := dnAt dc_X7_copiesTest 43 rfl rfl
theorem d_X7_copiesTest_59 : dn cX7_copiesTest 59 (.iload_n 2) 1 60 := dnAt dc_X7_copiesTest 44 rfl rfl
theorem d_X7_copiesTest_60 : dn cX7_copiesTest 60 (.imul) 1 61 := dnAt dc_X7_copiesTest 45 rfl rfl
theorem d_X7_copiesTest_61 : dn cX7_copiesTest 61 (.iconst 2) 1 62 := dnAt dc_X7_copiesTest 46 rfl rfl
theorem d_X7_copiesTest_62 : dn cX7_copiesTest 62 (.iload_n 3) 1 63 := dnAt dc_X7_copiesTest 47 rfl rfl
theorem d_X7_copiesTest_63 : dn cX7_copiesTest 63 (.imul) 1 64 := dnAt dc_X7_copiesTest 48 rfl rfl
theorem d_X7_copiesTest_64 : dn cX7_copiesTest 64 (.iadd) 1 65 := dnAt dc_X7_copiesTest 49 rfl rfl
theorem d_X7_copiesTest_65 : dn cX7_copiesTest 65 (.iconst 1) 1 66 := dnAt dc_X7_copiesTest 50 rfl rfl
theorem d_X7_copiesTest_66 : dn cX7_copiesTest 66 (.iadd) 1 67 := dnAt dc_X7_copiesTest 51 rfl rfl
theorem d_X7_copiesTest_67 : dn cX7_copiesTest 67 (.aload_n 0) 1 68 := dnAt dc_X7_copiesTest 52 rfl rfl
theorem d_X7_copiesTest_68 : dn cX7_copiesTest 68 (.getfield 45) 3 71 := dnAt dc_X7_copiesTest 53 rfl rfl
theorem d_X7_copiesTest_71 : dn cX7_copiesTest 71 (.bipush 6) 2 73 := dnAt dc_X7_copiesTest 54 rfl rfl
theorem d_X7_copiesTest_73 : dn cX7_copiesTest 73 (.iload_n 1) 1 74 := dnAt dc_X7_copiesTest 55 rfl rfl
theorem d_X7_copiesTest_74 : dn cX7_copiesTest 74 (.imul) 1 75 := dnAt dc_X7_copiesTest 56 rfl rfl
theorem d_X7_copiesTest_75 : dn cX7_copiesTest 75 (.iconst 2) 1 76 := dnAt dc_X7_copiesTest 57 rfl rfl
theorem d_X7_copiesTest_76 : dn cX7_copiesTest 76 (.iload_n 3) 1 77 := dnAt dc_X7_copiesTest 58 rfl rfl
theorem d_X7_copiesTest_77 : dn cX7_copiesTest 77 (.imul) 1 78 := dnAt dc_X7_copiesTest 59 rfl rfl
theorem d_X7_copiesTest_78 : dn cX7_copiesTest 78 (.iadd) 1 79 := dnAt dc_X7_copiesTest 60 rfl rfl
theorem d_X7_copiesTest_79 : dn cX7_copiesTest 79 (.iconst 1) 1 80 := dnAt dc_X7_copiesTest 61 rfl rfl
theorem d_X7_copiesTest_80 : dn cX7_copiesTest 80 (.iadd) 1 81 := dnAt dc_X7_copiesTest 62 rfl rfl
theorem d_X7_copiesTest_81 : dn cX7_copiesTest 81 (.laload) 1 82 := dnAt dc_X7_copiesTest 63 rfl rfl
theorem d_X7_copiesTest_82 : dn cX7_copiesTest 82 (.lastore) 1 83 := dnAt dc_X7_copiesTest 64 rfl rfl
theorem d_X7_copiesTest_83 : dn cX7_copiesTest 83 (.iinc 3 1) 3 86 := dnAt dc_X7_copiesTest 65 rfl rfl
theorem d_X7_copiesTest_86 : dn cX7_copiesTest 86 (.goto (-84)) 3 89 := dnAt dc_X7_copiesTest 66 rfl rfl
theorem d_X7_copiesTest_89 : dn cX7_copiesTest 89 (.aload_n 0) 1 90 := dnAt dc_X7_copiesTest 67 rfl rfl
theorem d_X7_copiesTest_90 : dn cX7_copiesTest 90 (.getfield 48) 3 93 := dnAt dc_X7_copiesTest 68 rfl rfl
theorem d_X7_copiesTest_93 : dn cX7_copiesTest 93 (.iload_n 2) 1 94 := dnAt dc_X7_copiesTest 69 rfl rfl
theorem d_X7_copiesTest_94 : dn cX7_copiesTest 94 (.aload_n 0) 1 95 := dnAt dc_X7_copiesTest 70 rfl rfl
theorem d_X7_copiesTest_95 : dn cX7_copiesTest 95 (.getfield 48) 3 98 := dnAt dc_X7_copiesTest 71 rfl rfl
theorem d_X7_copiesTest_98 : dn cX7_copiesTest 98 (.iload_n 1) 1 99 := dnAt dc_X7_copiesTest 72 rfl rfl
theorem d_X7_copiesTest_99 : dn cX7_copiesTest 99 (.iaload) 1 100 := dnAt dc_X7_copiesTest 73 rfl rfl
theorem d_X7_copiesTest_100 : dn cX7_copiesTest 100 (.iastore) 1 101 := dnAt dc_X7_copiesTest 74 rfl rfl
theorem d_X7_copiesTest_101 : dn cX7_copiesTest 101 (.aload_n 0) 1 102 := dnAt dc_X7_copiesTest 75 rfl rfl
theorem d_X7_copiesTest_102 : dn cX7_copiesTest 102 (.getfield 51) 3 105 := dnAt dc_X7_copiesTest 76 rfl rfl
theorem d_X7_copiesTest_105 : dn cX7_copiesTest 105 (.iload_n 2) 1 106 := dnAt dc_X7_copiesTest 77 rfl rfl
theorem d_X7_copiesTest_106 : dn cX7_copiesTest 106 (.aload_n 0) 1 107 := dnAt dc_X7_copiesTest 78 rfl rfl
theorem d_X7_copiesTest_107 : dn cX7_copiesTest 107 (.getfield 51) 3 110 := dnAt dc_X7_copiesTest 79 rfl rfl
theorem d_X7_copiesTest_110 : dn cX7_copiesTest 110 (.iload_n 1) 1 111 := dnAt dc_X7_copiesTest 80 rfl rfl
theorem d_X7_copiesTest_111 : dn cX7_copiesTest 111 (.iaload) 1 112 := dnAt dc_X7_copiesTest 81 rfl rfl
theorem d_X7_copiesTest_112 : dn cX7_copiesTest 112 (.iastore) 1 113 := dnAt dc_X7_copiesTest 82 rfl rfl
theorem d_X7_copiesTest_113 : dn cX7_copiesTest 113 (.return_) 1 114 := dnAt dc_X7_copiesTest 83 rfl rfl
set_option maxHeartbeats 4000000 in
set_option maxRecDepth 100000 in
theorem m_copiesTest (S : mS) (a t : Nat) (ha : a < 168) (ht : t < 168) : mC yX7_copiesTest cX7_copiesTest 4 (Option.none : Option Jvm.ClassFile.FieldType) { frames := 0, cells := 0, slots := 0, locals := 0 } [.int (nI a), .int (nI t)] S (fun v9 T9 => v9 = none ∧ T9 = tmap S (cpG a t)) := by
  refine mC.of (by decide) (Nat.le_of_ble_eq_true rfl) ?_
  intro G x q h0 C A TY
  show VM G x q h0 S 0 [(0, .ref (q 0)), (1, .int (nI a)), (2, .int (nI t))] []
  refine m_iconst C d_X7_copiesTest_0 (v := (nI 0)) rfl ?_
  refine m_istore_n C d_X7_copiesTest_1 (lv' := [(3, .int (nI 0)), (0, .ref (q 0)), (1, .int (nI a)), (2, .int (nI t))]) (by decide) rfl ?_
  have loop_2 : ∀ (fuel : Nat) (k : Nat), (k ≤ 3) → (4 - k) < fuel → VM G x q h0 (cpL S a t k) 2 [(0, .ref (q 0)), (1, .int (nI a)), (2, .int (nI t)), (3, .int (nI k))] [] := by
    intro fuel
    induction fuel with
    | zero => intro k hk hf9; exact absurd hf9 (Nat.not_lt_zero _)
    | succ fuel ih_2 =>
      intro k hk hf9
      refine m_iload_n C d_X7_copiesTest_2 3 rfl ?_
      refine m_iconst C d_X7_copiesTest_3 (v := (nI 3)) rfl ?_
      refine mn_icmp_ge C d_X7_copiesTest_4 (tgt := 89) rfl (by omega) (by omega) (fun c_4 => ?_) (fun c_4 => ?_)
      · skip
        obtain rfl : k = 3 := by omega
        refine m_aload_n C d_X7_copiesTest_89 0 rfl ?_
        refine m_get C d_X7_copiesTest_90 fd_RX7_48 (v := .ref (q 13)) rfl ?_
        refine m_iload_n C d_X7_copiesTest_93 2 rfl ?_
        refine m_aload_n C d_X7_copiesTest_94 0 rfl ?_
        refine m_get C d_X7_copiesTest_95 fd_RX7_48 (v := .ref (q 13)) rfl ?_
        refine m_iload_n C d_X7_copiesTest_98 1 rfl ?_
        refine m_ald C d_X7_copiesTest_99 (k := 13) (by decide) rfl (by show _ < 168; omega) (by decide) ?_
        refine m_st (st' := [.int (nI (mN S 13 a)), .int (nI t), .ref (q 13)]) rfl ?_
        refine m_ast C d_X7_copiesTest_100 (k := 13) (v := mN S 13 a) (by decide) rfl (by show _ < 168; omega) (by decide) ?_
        refine m_aload_n C d_X7_copiesTest_101 0 rfl ?_
        refine m_get C d_X7_copiesTest_102 fd_RX7_51 (v := .ref (q 14)) rfl ?_
        refine m_iload_n C d_X7_copiesTest_105 2 rfl ?_
        refine m_aload_n C d_X7_copiesTest_106 0 rfl ?_
        refine m_get C d_X7_copiesTest_107 fd_RX7_51 (v := .ref (q 14)) rfl ?_
        refine m_iload_n C d_X7_copiesTest_110 1 rfl ?_
        refine m_ald C d_X7_copiesTest_111 (k := 14) (by decide) rfl (by show _ < 168; omega) (by decide) ?_
        refine m_st (st' := [.int (nI (mN S 14 a)), .int (nI t), .ref (q 14)]) rfl ?_
        refine m_ast C d_X7_copiesTest_112 (k := 14) (v := mN S 14 a) (by decide) rfl (by show _ < 168; omega) (by decide) ?_
        exact m_vret C A TY d_X7_copiesTest_113 (⟨rfl, cpL_end S a t⟩)
      · skip
        refine m_aload_n C d_X7_copiesTest_7 0 rfl ?_
        refine m_get C d_X7_copiesTest_8 fd_RX7_42 (v := .ref (q 11)) rfl ?_
        refine m_iconst C d_X7_copiesTest_11 (v := (nI 3)) rfl ?_
        refine m_iload_n C d_X7_copiesTest_12 2 rfl ?_
        refine mn_imul C d_X7_copiesTest_13 ?_
        refine m_iload_n C d_X7_copiesTest_14 3 rfl ?_
        refine mn_iadd C d_X7_copiesTest_15 ?_
        refine m_aload_n C d_X7_copiesTest_16 0 rfl ?_
        refine m_get C d_X7_copiesTest_17 fd_RX7_42 (v := .ref (q 11)) rfl ?_
        refine m_iconst C d_X7_copiesTest_20 (v := (nI 3)) rfl ?_
        refine m_iload_n C d_X7_copiesTest_21 1 rfl ?_
        refine mn_imul C d_X7_copiesTest_22 ?_
        refine m_iload_n C d_X7_copiesTest_23 3 rfl ?_
        refine mn_iadd C d_X7_copiesTest_24 ?_
        refine m_aldI C d_X7_copiesTest_25 (k := 11) (by decide) rfl (by show _ < 504; omega) (by decide) ?_
        refine m_st (st' := [.int (mI S 11 (3 * a + k)), .int (nI ((3 * t) + k)), .ref (q 11)]) (by rw [cpL_rI (by omega)]) ?_
        refine m_astI C d_X7_copiesTest_26 (k := 11) (v := mI S 11 (3 * a + k)) (by decide) rfl (by show _ < 504; omega) (by decide) ?_
        refine m_aload_n C d_X7_copiesTest_27 0 rfl ?_
        refine m_get C d_X7_copiesTest_28 fd_RX7_45 (v := .ref (q 12)) rfl ?_
        refine m_bipush C d_X7_copiesTest_31 (v := (nI 6)) rfl ?_
        refine m_iload_n C d_X7_copiesTest_33 2 rfl ?_
        refine mn_imul C d_X7_copiesTest_34 ?_
        refine m_iconst C d_X7_copiesTest_35 (v := (nI 2)) rfl ?_
        refine m_iload_n C d_X7_copiesTest_36 3 rfl ?_
        refine mn_imul C d_X7_copiesTest_37 ?_
        refine mn_iadd C d_X7_copiesTest_38 ?_
        refine m_aload_n C d_X7_copiesTest_39 0 rfl ?_
        refine m_get C d_X7_copiesTest_40 fd_RX7_45 (v := .ref (q 12)) rfl ?_
        refine m_bipush C d_X7_copiesTest_43 (v := (nI 6)) rfl ?_
        refine m_iload_n C d_X7_copiesTest_45 1 rfl ?_
        refine mn_imul C d_X7_copiesTest_46 ?_
        refine m_iconst C d_X7_copiesTest_47 (v := (nI 2)) rfl ?_
        refine m_iload_n C d_X7_copiesTest_48 3 rfl ?_
        refine mn_imul C d_X7_copiesTest_49 ?_
        refine mn_iadd C d_X7_copiesTest_50 ?_
        refine m_lld C d_X7_copiesTest_51 (k := 12) (by decide) rfl (by show _ < 1008; omega) (by decide) ?_
        refine m_st (st' := [.long (lN (mN (cpL S a t k) 12 ((6 * a) + (2 * k)))), .int (nI ((6 * t) + (2 * k))), .ref (q 12)]) rfl ?_
        refine m_st (st' := [.long (lN (mN S 12 (6 * a + 2 * k))), .int (nI ((6 * t) + (2 * k))), .ref (q 12)]) (by rw [cpL_rN (by omega)]) ?_
        refine m_lst C d_X7_copiesTest_52 (k := 12) (v := mN S 12 (6 * a + 2 * k)) (by decide) rfl (by show _ < 1008; omega) (by decide) ?_
        refine m_aload_n C d_X7_copiesTest_53 0 rfl ?_
        refine m_get C d_X7_copiesTest_54 fd_RX7_45 (v := .ref (q 12)) rfl ?_
        refine m_bipush C d_X7_copiesTest_57 (v := (nI 6)) rfl ?_
        refine m_iload_n C d_X7_copiesTest_59 2 rfl ?_
        refine mn_imul C d_X7_copiesTest_60 ?_
        refine m_iconst C d_X7_copiesTest_61 (v := (nI 2)) rfl ?_
        refine m_iload_n C d_X7_copiesTest_62 3 rfl ?_
        refine mn_imul C d_X7_copiesTest_63 ?_
        refine mn_iadd C d_X7_copiesTest_64 ?_
        refine m_iconst C d_X7_copiesTest_65 (v := (nI 1)) rfl ?_
        refine mn_iadd C d_X7_copiesTest_66 ?_
        refine m_aload_n C d_X7_copiesTest_67 0 rfl ?_
        refine m_get C d_X7_copiesTest_68 fd_RX7_45 (v := .ref (q 12)) rfl ?_
        refine m_bipush C d_X7_copiesTest_71 (v := (nI 6)) rfl ?_
        refine m_iload_n C d_X7_copiesTest_73 1 rfl ?_
        refine mn_imul C d_X7_copiesTest_74 ?_
        refine m_iconst C d_X7_copiesTest_75 (v := (nI 2)) rfl ?_
        refine m_iload_n C d_X7_copiesTest_76 3 rfl ?_
        refine mn_imul C d_X7_copiesTest_77 ?_
        refine mn_iadd C d_X7_copiesTest_78 ?_
        refine m_iconst C d_X7_copiesTest_79 (v := (nI 1)) rfl ?_
        refine mn_iadd C d_X7_copiesTest_80 ?_
        refine m_lld C d_X7_copiesTest_81 (k := 12) (by decide) rfl (by show _ < 1008; omega) (by decide) ?_
        refine m_st (st' := [.long (lN (mN S 12 (6 * a + 2 * k + 1))), .int (nI (((6 * t) + (2 * k)) + 1)), .ref (q 12)]) (by rw [mN_uN, mN_uI, cpL_rN2 (by omega)]) ?_
        refine m_lst C d_X7_copiesTest_82 (k := 12) (v := mN S 12 (6 * a + 2 * k + 1)) (by decide) rfl (by show _ < 1008; omega) (by decide) ?_
        refine mn_iinc C d_X7_copiesTest_83 (lv' := [(3, .int (nI (k + 1))), (0, .ref (q 0)), (1, .int (nI a)), (2, .int (nI t))]) 3 rfl (nI_inc _ rfl) (by decide) rfl ?_
        refine m_goto C d_X7_copiesTest_86 (tgt := 2) rfl ?_
        refine m_eq (S' := cpL S a t (k + 1)) (cpL_step (by omega)) ?_
        refine m_lv (lv' := [(0, .ref (q 0)), (1, .int (nI a)), (2, .int (nI t)), (3, .int (nI (k + 1)))]) [1, 2, 3, 0] rfl ?_
        exact ih_2 (k + 1) (by omega) (by omega)
  refine m_eq (S' := cpL S a t 0) (cpL_0 S a t) ?_
  refine m_lv (lv' := [(0, .ref (q 0)), (1, .int (nI a)), (2, .int (nI t)), (3, .int (nI 0))]) [1, 2, 3, 0] rfl ?_
  exact loop_2 _ 0 (by omega) (Nat.lt_succ_self _)
theorem puW_step {S : mS} {p k : Nat} : uB (puW S p k) 10 (256 * p + k) (decide (k = 1)) = puW S p (k + 1) := by
  unfold puW
  rw [sB_step]
  intro z
  by_cases c : z = 256 * p + k
  · rw [if_pos c, if_pos (by omega)]
    exact decide_eq_decide.mpr (by omega)
  · rw [if_neg c]
    by_cases d : 256 * p ≤ z ∧ z < 256 * p + k
    · rw [if_pos d, if_pos (by omega)]
    · rw [if_neg d, if_neg (by omega)]
theorem puW_0 {S : mS} {p : Nat} : uB (uN S 8 p 1) 9 p true = puW S p 0 := by
  unfold puW
  apply sB_init
  intro z
  rw [if_neg (by omega)]; rfl
theorem puV_0 {S : mS} {p : Nat} : puW S p 256 = puV S p 0 := by
  unfold puV
  rw [← sI_init (S := puW S p 256)]
  · apply sN_init
    intro z
    rw [if_neg (by omega)]; rfl
  · intro z
    rw [if_neg (by omega)]; rfl
theorem puV_step {S : mS} {p k : Nat} : uN (uN (uI (puV S p k) 11 (3 * (8 * p) + k) (-1)) 12 (6 * (8 * p) + 2 * k) 0) 12 (6 * (8 * p) + 2 * k + 1) 0 = puV S p (k + 1) := by
  unfold puV
  rw [uI_sN, sI_step (g := fun x => if 24 * p ≤ x ∧ x < 24 * p + (k + 1) then -1 else mI S 11 x)]
  · rw [sN_step (g := fun x => if 48 * p ≤ x ∧ x < 48 * p + 2 * k + 1 then 0 else mN S 12 x)]
    · rw [sN_step]
      intro z
      by_cases c : z = 6 * (8 * p) + 2 * k + 1
      · rw [if_pos c, if_pos (by omega)]
      · rw [if_neg c]
        by_cases d : 48 * p ≤ z ∧ z < 48 * p + 2 * k + 1
        · rw [if_pos d, if_pos (by omega)]
        · rw [if_neg d, if_neg (by omega)]
    · intro z
      by_cases c : z = 6 * (8 * p) + 2 * k
      · rw [if_pos c, if_pos (by omega)]
      · rw [if_neg c]
        by_cases d : 48 * p ≤ z ∧ z < 48 * p + 2 * k
        · rw [if_pos d, if_pos (by omega)]
        · rw [if_neg d, if_neg (by omega)]
  · intro z
    by_cases c : z = 3 * (8 * p) + k
    · rw [if_pos c, if_pos (by omega)]
    · rw [if_neg c]
      by_cases d : 24 * p ≤ z ∧ z < 24 * p + k
      · rw [if_pos d, if_pos (by omega)]
      · rw [if_neg d, if_neg (by omega)]

def dl_X7_puts : List (Nat × Instr × Nat) := [(0, .bipush 12, 2), (2, .aload_n 0, 1), (3, .getfield 98, 3), (6, .iadd, 1), (7, .istore_n 1, 1), (8, .aload_n 0, 1), (9, .getfield 33, 3), (12, .iload_n 1, 1), (13, .iconst 1, 1), (14, .iastore, 1), (15, .aload_n 0, 1), (16, .getfield 36, 3), (19, .iload_n 1, 1), (20, .iconst 1, 1), (21, .bastore, 1), (22, .iconst 0, 1), (23, .istore_n 2, 1), (24, .iload_n 2, 1), (25, .sipush 256, 3), (28, .if_icmp .ge 31, 3), (31, .aload_n 0, 1), (32, .getfield 39, 3), (35, .sipush 256, 3), (38, .iload_n 1, 1), (39, .imul, 1), (40, .iload_n 2, 1), (41, .iadd, 1), (42, .iload_n 2, 1), (43, .iconst 1, 1), (44, .if_icmp .ne 7, 3), (47, .iconst 1, 1), (48, .goto 4, 3), (51, .iconst 0, 1), (52, .bastore, 1), (53, .iinc 2 1, 3), (56, .goto (-32), 3), (59, .bipush 8, 2), (61, .iload_n 1, 1), (62, .imul, 1), (63, .istore_n 2, 1), (64, .iconst 0, 1), (65, .istore_n 3, 1), (66, .iload_n 3, 1), (67, .iconst 3, 1), (68, .if_icmp .ge 50, 3), (71, .aload_n 0, 1), (72, .getfield 42, 3), (75, .iconst 3, 1), (76, .iload_n 2, 1), (77, .imul, 1), (78, .iload_n 3, 1), (79, .iadd, 1), (80, .iconst (-1), 1), (81, .iastore, 1), (82, .aload_n 0, 1), (83, .getfield 45, 3), (86, .bipush 6, 2), (88, .iload_n 2, 1), (89, .imul, 1), (90, .iconst 2, 1), (91, .iload_n 3, 1), (92, .imul, 1), (93, .iadd, 1), (94, .lconst 0, 1), (95, .lastore, 1), (96, .aload_n 0, 1), (97, .getfield 45, 3), (100, .bipush 6, 2), (102, .iload_n 2, 1), (103, .imul, 1), (104, .iconst 2, 1), (105, .iload_n 3, 1), (106, .imul, 1), (107, .iadd, 1), (108, .iconst 1, 1), (109, .iadd, 1), (110, .lconst 0, 1), (111, .lastore, 1), (112, .iinc 3 1, 3), (115, .goto (-49), 3), (118, .aload_n 0, 1), (119, .getfield 48, 3), (122, .iload_n 2, 1), (123, .iconst 0, 1), (124, .iastore, 1), (125, .aload_n 0, 1), (126, .getfield 51, 3), (129, .iload_n 2, 1), (130, .iconst 0, 1), (131, .iastore, 1), (132, .aload_n 0, 1), (133, .dup, 1), (134, .getfield 98, 3), (137, .iconst 1, 1), (138, .iadd, 1), (139, .putfield 98, 3), (142, .iload_n 2, 1), (143, .ireturn, 1)]
theorem dc_X7_puts : dnL cX7_puts dl_X7_puts = true := by decide +kernel
theorem d_X7_puts_0 : dn cX7_puts 0 (.bipush 12) 2 2 := dnAt dc_X7_puts 0 rfl rfl
theorem d_X7_puts_2 : dn cX7_puts 2 (.aload_n 0) 1 3 := dnAt dc_X7_puts 1 rfl rfl
theorem d_X7_puts_3 : dn cX7_puts 3 (.getfield 98) 3 6 := dnAt dc_X7_puts 2 rfl rfl
theorem d_X7_puts_6 : dn cX7_puts 6 (.iadd) 1 7 := dnAt dc_X7_puts 3 rfl rfl
theorem d_X7_puts_7 : dn cX7_puts 7 (.istore_n 1) 1 8 := dnAt dc_X7_puts 4 rfl rfl
theorem d_X7_puts_8 : dn cX7_puts 8 (.aload_n 0) 1 9 := dnAt dc_X7_puts 5 rfl rfl
theorem d_X7_puts_9 : dn cX7_puts 9 (.getfield 33) 3 12 := dnAt dc_X7_puts 6 rfl rfl
theorem d_X7_puts_12 : dn cX7_puts 12 (.iload_n 1) 1 13 := dnAt dc_X7_puts 7 rfl rfl
theorem d_X7_puts_13 : dn cX7_puts 13 (.iconst 1) 1 14 := dnAt dc_X7_puts 8 rfl rfl
theorem d_X7_puts_14 : dn cX7_puts 14 (.iastore) 1 15 := dnAt dc_X7_puts 9 rfl rfl
theorem d_X7_puts_15 : dn cX7_puts 15 (.aload_n 0) 1 16 := dnAt dc_X7_puts 10 rfl rfl
theorem d_X7_puts_16 : dn cX7_puts 16 (.getfield 36) 3 19 := dnAt dc_X7_puts 11 rfl rfl
theorem d_X7_puts_19 : dn cX7_puts 19 (.iload_n 1) 1 20 := dnAt dc_X7_puts 12 rfl rfl
theorem d_X7_puts_20 : dn cX7_puts 20 (.iconst 1) 1 21 := dnAt dc_X7_puts 13 rfl rfl
theorem d_X7_puts_21 : dn cX7_puts 21 (.bastore) 1 22 := dnAt dc_X7_puts 14 rfl rfl
theorem d_X7_puts_22 : dn cX7_puts 22 (.iconst 0) 1 23 := dnAt dc_X7_puts 15 rfl rfl
theorem d_X7_puts_23 : dn cX7_puts 23 (.istore_n 2) 1 24 := dnAt dc_X7_puts 16 rfl rfl
theorem d_X7_puts_24 : dn cX7_puts 24 (.iload_n 2) 1 25 := dnAt dc_X7_puts 17 rfl rfl
theorem d_X7_puts_25 : dn cX7_puts 25 (.sipush 256) 3 28 := dnAt dc_X7_puts 18 rfl rfl
theorem d_X7_puts_28 : dn cX7_puts 28 (.if_icmp .ge 31) 3 31 := dnAt dc_X7_puts 19 rfl rfl
theorem d_X7_puts_31 : dn cX7_puts 31 (.aload_n 0) 1 32 := dnAt dc_X7_puts 20 rfl rfl
theorem d_X7_puts_32 : dn cX7_puts 32 (.getfield 39) 3 35 := dnAt dc_X7_puts 21 rfl rfl
theorem d_X7_puts_35 : dn cX7_puts 35 (.sipush 256) 3 38 := dnAt dc_X7_puts 22 rfl rfl
theorem d_X7_puts_38 : dn cX7_puts 38 (.iload_n 1) 1 39 := dnAt dc_X7_puts 23 rfl rfl
theorem d_X7_puts_39 : dn cX7_puts 39 (.imul) 1 40 := dnAt dc_X7_puts 24 rfl rfl
theorem d_X7_puts_40 : dn cX7_puts 40 (.iload_n 2) 1 41 := dnAt dc_X7_puts 25 rfl rfl
theorem d_X7_puts_41 : dn cX7_puts 41 (.iadd) 1 42 := dnAt dc_X7_puts 26 rfl rfl
theorem d_X7_puts_42 : dn cX7_puts 42 (.iload_n 2) 1 43 := dnAt dc_X7_puts 27 rfl rfl
theorem d_X7_puts_43 : dn cX7_puts 43 (.iconst 1) 1 44 := dnAt dc_X7_puts 28 rfl rfl
theorem d_X7_puts_44 : dn cX7_puts 44 (.if_icmp .ne 7) 3 47 := dnAt dc_X7_puts 29 rfl rfl
theorem d_X7_puts_47 : dn cX7_puts 47 (.iconst 1) 1 48 := dnAt dc_X7_puts 30 rfl rfl
theorem d_X7_puts_48 : dn cX7_puts 48 (.goto 4) 3 51 := dnAt dc_X7_puts 31 rfl rfl
theorem d_X7_puts_51 : dn cX7_puts 51 (.iconst 0) 1 52 := dnAt dc_X7_puts 32 rfl rfl
theorem d_X7_puts_52 : dn cX7_puts 52 (.bastore) 1 53 := dnAt dc_X7_puts 33 rfl rfl
theorem d_X7_puts_53 : dn cX7_puts 53 (.iinc 2 1) 3 56 := dnAt dc_X7_puts 34 rfl rfl
theorem d_X7_puts_56 : dn cX7_puts 56 (.goto (-32)) 3 59 := dnAt dc_X7_puts 35 rfl rfl
theorem d_X7_puts_59 : dn cX7_puts 59 (.bipush 8) 2 61 := dnAt dc_X7_puts 36 rfl rfl
theorem d_X7_puts_61 : dn cX7_puts 61 (.iload_n 1) 1 62 := dnAt dc_X7_puts 37 rfl rfl
theorem d_X7_puts_62 : dn cX7_puts 62 (.imul) 1 63 := dnAt dc_X7_puts 38 rfl rfl
theorem d_X7_puts_63 : dn cX7_puts 63 (.istore_n 2) 1 64 := dnAt dc_X7_puts 39 rfl rfl
theorem d_X7_puts_64 : dn cX7_puts 64 (.iconst 0) 1 65 := dnAt dc_X7_puts 40 rfl rfl
theorem d_X7_puts_65 : dn cX7_puts 65 (.istore_n 3) 1 66 := dnAt dc_X7_puts 41 rfl rfl
theorem d_X7_puts_66 : dn cX7_puts 66 (.iload_n 3) 1 67 := dnAt dc_X7_puts 42 rfl rfl
theorem d_X7_puts_67 : dn cX7_puts 67 (.iconst 3) 1 68 := dnAt dc_X7_puts 43 rfl rfl
theorem d_X7_puts_68 : dn cX7_puts 68 (.if_icmp .ge 50) 3 71 := dnAt dc_X7_puts 44 rfl rfl
theorem d_X7_puts_71 : dn cX7_puts 71 (.aload_n 0) 1 72 := dnAt dc_X7_puts 45 rfl rfl
theorem d_X7_puts_72 : dn cX7_puts 72 (.getfield 42) 3 75 := dnAt dc_X7_puts 46 rfl rfl
theorem d_X7_puts_75 : dn cX7_puts 75 (.iconst 3) 1 76 := dnAt dc_X7_puts 47 rfl rfl
theorem d_X7_puts_76 : dn cX7_puts 76 (.iload_n 2) 1 77 := dnAt dc_X7_puts 48 rfl rfl
theorem d_X7_puts_77 : dn cX7_puts 77 (.imul) 1 78 := dnAt dc_X7_puts 49 rfl rfl
theorem d_X7_puts_78 : dn cX7_puts 78 (.iload_n 3) 1 79 := dnAt dc_X7_puts 50 rfl rfl
theorem d_X7_puts_79 : dn cX7_puts 79 (.iadd) 1 80 := dnAt dc_X7_puts 51 rfl rfl
theorem d_X7_puts_80 : dn cX7_puts 80 (.iconst (-1)) 1 81 := dnAt dc_X7_puts 52 rfl rfl
theorem d_X7_puts_81 : dn cX7_puts 81 (.iastore) 1 82 := dnAt dc_X7_puts 53 rfl rfl
theorem d_X7_puts_82 : dn cX7_puts 82 (.aload_n 0) 1 83 := dnAt dc_X7_puts 54 rfl rfl
theorem d_X7_puts_83 : dn cX7_puts 83 (.getfield 45) 3 86 := dnAt dc_X7_puts 55 rfl rfl
theorem d_X7_puts_86 : dn cX7_puts 86 (.bipush 6) 2 88 := dnAt dc_X7_puts 56 rfl rfl
theorem d_X7_puts_88 : dn cX7_puts 88 (.iload_n 2) 1 89 := dnAt dc_X7_puts 57 rfl rfl
theorem d_X7_puts_89 : dn cX7_puts 89 (.imul) 1 90 := dnAt dc_X7_puts 58 rfl rfl
theorem d_X7_puts_90 : dn cX7_puts 90 (.iconst 2) 1 91 := dnAt dc_X7_puts 59 rfl rfl
theorem d_X7_puts_91 : dn cX7_puts 91 (.iload_n 3) 1 92 := dnAt dc_X7_puts 60 rfl rfl
theorem d_X7_puts_92 : dn cX7_puts 92 (.imul) 1 93 := dnAt dc_X7_puts 61 rfl rfl
theorem d_X7_puts_93 : dn cX7_puts 93 (.iadd) 1 94 := dnAt dc_X7_puts 62 rfl rfl
theorem d_X7_puts_94 : dn cX7_puts 94 (.lconst 0) 1 95 := dnAt dc_X7_puts 63 rfl rfl
theorem d_X7_puts_95 : dn cX7_puts 95 (.lastore) 1 96 := dnAt dc_X7_puts 64 rfl rfl
theorem d_X7_puts_96 : dn cX7_puts 96 (.aload_n 0) 1 97 := dnAt dc_X7_puts 65 rfl rfl
theorem d_X7_puts_97 : dn cX7_puts 97 (.getfield 45) 3 100 := dnAt dc_X7_puts 66 rfl rfl
theorem d_X7_puts_100 : dn cX7_puts 100 (.bipush 6) 2 102 := dnAt dc_X7_puts 67 rfl rfl
theorem d_X7_puts_102 : dn cX7_puts 102 (.iload_n 2) 1 103 := dnAt dc_X7_puts 68 rfl rfl
theorem d_X7_puts_103 : dn cX7_puts 103 (.imul) 1 104 := dnAt dc_X7_puts 69 rfl rfl
theorem d_X7_puts_104 : dn cX7_puts 104 (.iconst 2) 1 105 := dnAt dc_X7_puts 70 rfl rfl
theorem d_X7_puts_105 : dn cX7_puts 105 (.iload_n 3) 1 106 := dnAt dc_X7_puts 71 rfl rfl
theorem d_X7_puts_106 : dn cX7_puts 106 (.imul) 1 107 := dnAt dc_X7_puts 72 rfl rfl
theorem d_X7_puts_107 : dn cX7_puts 107 (.iadd) 1 108 := dnAt dc_X7_puts 73 rfl rfl
theorem d_X7_puts_108 : dn cX7_puts 108 (.iconst 1) 1 109 := dnAt dc_X7_puts 74 rfl rfl
theorem d_X7_puts_109 : dn cX7_puts 109 (.iadd) 1 110 := dnAt dc_X7_puts 75 rfl rfl
theorem d_X7_puts_110 : dn cX7_puts 110 (.lconst 0) 1 111 := dnAt dc_X7_puts 76 rfl rfl
theorem d_X7_puts_111 : dn cX7_puts 111 (.lastore) 1 112 := dnAt dc_X7_puts 77 rfl rfl
theorem d_X7_puts_112 : dn cX7_puts 112 (.iinc 3 1) 3 115 := dnAt dc_X7_puts 78 rfl rfl
theorem d_X7_puts_115 : dn cX7_puts 115 (.goto (-49)) 3 118 := dnAt dc_X7_puts 79 rfl rfl
theorem d_X7_puts_118 : dn cX7_puts 118 (.aload_n 0) 1 119 := dnAt dc_X7_puts 80 rfl rfl
theorem d_X7_puts_119 : dn cX7_puts 119 (.getfield 48) 3 122 := dnAt dc_X7_puts 81 rfl rfl
theorem d_X7_puts_122 : dn cX7_puts 122 (.iload_n 2) 1 123 := dnAt dc_X7_puts 82 rfl rfl
theorem d_X7_puts_123 : dn cX7_puts 123 (.iconst 0) 1 124 := dnAt dc_X7_puts 83 rfl rfl
theorem d_X7_puts_124 : dn cX7_puts 124 (.iastore) 1 125 := dnAt dc_X7_puts 84 rfl rfl
theorem d_X7_puts_125 : dn cX7_puts 125 (.aload_n 0) 1 126 := dnAt dc_X7_puts 85 rfl rfl
theorem d_X7_puts_126 : dn cX7_puts 126 (.getfield 51) 3 129 := dnAt dc_X7_puts 86 rfl rfl
theorem d_X7_puts_129 : dn cX7_puts 129 (.iload_n 2) 1 130 := dnAt dc_X7_puts 87 rfl rfl
theorem d_X7_puts_130 : dn cX7_puts 130 (.iconst 0) 1 131 := dnAt dc_X7_puts 88 rfl rfl
theorem d_X7_puts_131 : dn cX7_puts 131 (.iastore) 1 132 := dnAt dc_X7_puts 89 rfl rfl
theorem d_X7_puts_132 : dn cX7_puts 132 (.aload_n 0) 1 133 := dnAt dc_X7_puts 90 rfl rfl
theorem d_X7_puts_133 : dn cX7_puts 133 (.dup) 1 134 := dnAt dc_X7_puts 91 rfl rfl
theorem d_X7_puts_134 : dn cX7_puts 134 (.getfield 98) 3 137 := dnAt dc_X7_puts 92 rfl rfl
theorem d_X7_puts_137 : dn cX7_puts 137 (.iconst 1) 1 138 := dnAt dc_X7_puts 93 rfl rfl
theorem d_X7_puts_138 : dn cX7_puts 138 (.iadd) 1 139 := dnAt dc_X7_puts 94 rfl rfl
theorem d_X7_puts_139 : dn cX7_puts 139 (.putfield 98) 3 142 := dnAt dc_X7_puts 95 rfl rfl
theorem d_X7_puts_142 : dn cX7_puts 142 (.iload_n 2) 1 143 := dnAt dc_X7_puts 96 rfl rfl
theorem d_X7_puts_143 : dn cX7_puts 143 (.ireturn) 1 144 := dnAt dc_X7_puts 97 rfl rfl
set_option maxHeartbeats 4000000 in
set_option maxRecDepth 100000 in
theorem m_puts (S : mS) (hp : mK S 16 ≤ 8) : mC yX7_puts cX7_puts 4 (Option.some Jvm.ClassFile.FieldType.int) { frames := 0, cells := 0, slots := 0, locals := 0 } [] S (fun v9 T9 => v9 = (some (.int (nI (8 * (12 + mK S 16))))) ∧ T9 = tPuts S) := by
  refine mC.of (by decide) (Nat.le_of_ble_eq_true rfl) ?_
  intro G x q h0 C A TY
  show VM G x q h0 S 0 [(0, .ref (q 0))] []
  refine m_bipush C d_X7_puts_0 (v := (nI 12)) rfl ?_
  refine m_aload_n C d_X7_puts_2 0 rfl ?_
  refine m_get C d_X7_puts_3 fd_RX7_98 (v := .int (nI (mK S 16))) rfl ?_
  refine mn_iadd C d_X7_puts_6 ?_
  refine m_istore_n C d_X7_puts_7 (lv' := [(1, .int (nI (12 + (mK S 16)))), (0, .ref (q 0))]) (by decide) rfl ?_
  refine m_aload_n C d_X7_puts_8 1 rfl ?_
  refine m_get C d_X7_puts_9 fd_RX7_33 (v := .ref (q 8)) rfl ?_
  refine m_iload_n C d_X7_puts_12 0 rfl ?_
  refine m_iconst C d_X7_puts_13 (v := (nI 1)) rfl ?_
  refine m_ast C d_X7_puts_14 (k := 8) (v := 1) (by decide) rfl (by show _ < 21; omega) (by decide) ?_
  refine m_aload_n C d_X7_puts_15 1 rfl ?_
  refine m_get C d_X7_puts_16 fd_RX7_36 (v := .ref (q 9)) rfl ?_
  refine m_iload_n C d_X7_puts_19 0 rfl ?_
  refine m_iconst C d_X7_puts_20 (v := (bI true)) rfl ?_
  refine m_zst C d_X7_puts_21 (k := 9) (v := true) (by decide) rfl (by show _ < 21; omega) (by decide) ?_
  refine m_iconst C d_X7_puts_22 (v := (nI 0)) rfl ?_
  refine m_istore_n C d_X7_puts_23 (lv' := [(2, .int (nI 0)), (1, .int (nI (12 + (mK S 16)))), (0, .ref (q 0))]) (by decide) rfl ?_
  have loop_24 : ∀ (fuel : Nat) (k : Nat), (k ≤ 256) → (257 - k) < fuel → VM G x q h0 (puW S (12 + mK S 16) k) 24 [(0, .ref (q 0)), (1, .int (nI (12 + mK S 16))), (2, .int (nI k))] [] := by
    intro fuel
    induction fuel with
    | zero => intro k hk hf9; exact absurd hf9 (Nat.not_lt_zero _)
    | succ fuel ih_24 =>
      intro k hk hf9
      refine m_iload_n C d_X7_puts_24 2 rfl ?_
      refine m_sipush C d_X7_puts_25 (v := (nI 256)) rfl ?_
      refine mn_icmp_ge C d_X7_puts_28 (tgt := 59) rfl (by omega) (by omega) (fun c_28 => ?_) (fun c_28 => ?_)
      · skip
        obtain rfl : k = 256 := by omega
        refine m_bipush C d_X7_puts_59 (v := (nI 8)) rfl ?_
        refine m_iload_n C d_X7_puts_61 1 rfl ?_
        refine mn_imul C d_X7_puts_62 ?_
        refine m_istore_n C d_X7_puts_63 (lv' := [(2, .int (nI (8 * (12 + mK S 16)))), (0, .ref (q 0)), (1, .int (nI (12 + mK S 16)))]) (by decide) rfl ?_
        refine m_iconst C d_X7_puts_64 (v := (nI 0)) rfl ?_
        refine m_istore_n C d_X7_puts_65 (lv' := [(3, .int (nI 0)), (2, .int (nI (8 * (12 + mK S 16)))), (0, .ref (q 0)), (1, .int (nI (12 + mK S 16)))]) (by decide) rfl ?_
        have loop_66 : ∀ (fuel : Nat) (k : Nat), (k ≤ 3) → (4 - k) < fuel → VM G x q h0 (puV S (12 + mK S 16) k) 66 [(0, .ref (q 0)), (1, .int (nI (12 + mK S 16))), (2, .int (nI (8 * (12 + mK S 16)))), (3, .int (nI k))] [] := by
          intro fuel
          induction fuel with
          | zero => intro k hk2 hf9; exact absurd hf9 (Nat.not_lt_zero _)
          | succ fuel ih_66 =>
            intro k hk2 hf9
            refine m_iload_n C d_X7_puts_66 3 rfl ?_
            refine m_iconst C d_X7_puts_67 (v := (nI 3)) rfl ?_
            refine mn_icmp_ge C d_X7_puts_68 (tgt := 118) rfl (by omega) (by omega) (fun c_68 => ?_) (fun c_68 => ?_)
            · skip
              obtain rfl : k = 3 := by omega
              refine m_aload_n C d_X7_puts_118 0 rfl ?_
              refine m_get C d_X7_puts_119 fd_RX7_48 (v := .ref (q 13)) rfl ?_
              refine m_iload_n C d_X7_puts_122 2 rfl ?_
              refine m_iconst C d_X7_puts_123 (v := (nI 0)) rfl ?_
              refine m_ast C d_X7_puts_124 (k := 13) (v := 0) (by decide) rfl (by show _ < 168; omega) (by decide) ?_
              refine m_aload_n C d_X7_puts_125 0 rfl ?_
              refine m_get C d_X7_puts_126 fd_RX7_51 (v := .ref (q 14)) rfl ?_
              refine m_iload_n C d_X7_puts_129 2 rfl ?_
              refine m_iconst C d_X7_puts_130 (v := (nI 0)) rfl ?_
              refine m_ast C d_X7_puts_131 (k := 14) (v := 0) (by decide) rfl (by show _ < 168; omega) (by decide) ?_
              refine m_aload_n C d_X7_puts_132 0 rfl ?_
              refine m_dup C d_X7_puts_133 rfl ?_
              refine m_get C d_X7_puts_134 fd_RX7_98 (v := .int (nI (mK (uN (uN (puV S (12 + mK S 16) 3) 13 (8 * (12 + mK S 16)) 0) 14 (8 * (12 + mK S 16)) 0) 16))) rfl ?_
              refine m_st (st' := [.int (nI (mK S 16)), .ref (q 0)]) rfl ?_
              refine m_iconst C d_X7_puts_137 (v := (nI 1)) rfl ?_
              refine mn_iadd C d_X7_puts_138 ?_
              refine m_putK C d_X7_puts_139 pf_RX7_98 (by decide) (fun _ _ => rfl) ?_
              refine m_iload_n C d_X7_puts_142 2 rfl ?_
              exact m_iret C A TY d_X7_puts_143 rfl (⟨rfl, rfl⟩)
            · skip
              refine m_aload_n C d_X7_puts_71 0 rfl ?_
              refine m_get C d_X7_puts_72 fd_RX7_42 (v := .ref (q 11)) rfl ?_
              refine m_iconst C d_X7_puts_75 (v := (nI 3)) rfl ?_
              refine m_iload_n C d_X7_puts_76 2 rfl ?_
              refine mn_imul C d_X7_puts_77 ?_
              refine m_iload_n C d_X7_puts_78 3 rfl ?_
              refine mn_iadd C d_X7_puts_79 ?_
              refine m_iconst C d_X7_puts_80 (v := ((-1))) rfl ?_
              refine m_astI C d_X7_puts_81 (k := 11) (v := (-1)) (by decide) rfl (by show _ < 504; omega) (by decide) ?_
              refine m_aload_n C d_X7_puts_82 0 rfl ?_
              refine m_get C d_X7_puts_83 fd_RX7_45 (v := .ref (q 12)) rfl ?_
              refine m_bipush C d_X7_puts_86 (v := (nI 6)) rfl ?_
              refine m_iload_n C d_X7_puts_88 2 rfl ?_
              refine mn_imul C d_X7_puts_89 ?_
              refine m_iconst C d_X7_puts_90 (v := (nI 2)) rfl ?_
              refine m_iload_n C d_X7_puts_91 3 rfl ?_
              refine mn_imul C d_X7_puts_92 ?_
              refine mn_iadd C d_X7_puts_93 ?_
              refine m_lconst C d_X7_puts_94 (v := (lN 0)) rfl ?_
              refine m_lst C d_X7_puts_95 (k := 12) (v := 0) (by decide) rfl (by show _ < 1008; omega) (by decide) ?_
              refine m_aload_n C d_X7_puts_96 0 rfl ?_
              refine m_get C d_X7_puts_97 fd_RX7_45 (v := .ref (q 12)) rfl ?_
              refine m_bipush C d_X7_puts_100 (v := (nI 6)) rfl ?_
              refine m_iload_n C d_X7_puts_102 2 rfl ?_
              refine mn_imul C d_X7_puts_103 ?_
              refine m_iconst C d_X7_puts_104 (v := (nI 2)) rfl ?_
              refine m_iload_n C d_X7_puts_105 3 rfl ?_
              refine mn_imul C d_X7_puts_106 ?_
              refine mn_iadd C d_X7_puts_107 ?_
              refine m_iconst C d_X7_puts_108 (v := (nI 1)) rfl ?_
              refine mn_iadd C d_X7_puts_109 ?_
              refine m_lconst C d_X7_puts_110 (v := (lN 0)) rfl ?_
              refine m_lst C d_X7_puts_111 (k := 12) (v := 0) (by decide) rfl (by show _ < 1008; omega) (by decide) ?_
              refine mn_iinc C d_X7_puts_112 (lv' := [(3, .int (nI (k + 1))), (0, .ref (q 0)), (1, .int (nI (12 + mK S 16))), (2, .int (nI (8 * (12 + mK S 16))))]) 3 rfl (nI_inc _ rfl) (by decide) rfl ?_
              refine m_goto C d_X7_puts_115 (tgt := 66) rfl ?_
              refine m_eq (S' := puV S (12 + mK S 16) (k + 1)) (puV_step) ?_
              refine m_lv (lv' := [(0, .ref (q 0)), (1, .int (nI (12 + mK S 16))), (2, .int (nI (8 * (12 + mK S 16)))), (3, .int (nI (k + 1)))]) [1, 2, 3, 0] rfl ?_
              exact ih_66 (k + 1) (by omega) (by omega)
        refine m_eq (S' := puV S (12 + mK S 16) 0) (puV_0) ?_
        refine m_lv (lv' := [(0, .ref (q 0)), (1, .int (nI (12 + mK S 16))), (2, .int (nI (8 * (12 + mK S 16)))), (3, .int (nI 0))]) [2, 3, 1, 0] rfl ?_
        exact loop_66 _ 0 (by omega) (Nat.lt_succ_self _)
      · skip
        refine m_aload_n C d_X7_puts_31 0 rfl ?_
        refine m_get C d_X7_puts_32 fd_RX7_39 (v := .ref (q 10)) rfl ?_
        refine m_sipush C d_X7_puts_35 (v := (nI 256)) rfl ?_
        refine m_iload_n C d_X7_puts_38 1 rfl ?_
        refine mn_imul C d_X7_puts_39 ?_
        refine m_iload_n C d_X7_puts_40 2 rfl ?_
        refine mn_iadd C d_X7_puts_41 ?_
        have join_52 : VM G x q h0 (puW S (12 + mK S 16) k) 52 [(0, .ref (q 0)), (1, .int (nI (12 + mK S 16))), (2, .int (nI k))] [.int (bI (decide (k = 1))), .int (nI (256 * (12 + mK S 16) + k)), .ref (q 10)] := by
          refine m_zst C d_X7_puts_52 (k := 10) (v := decide (k = 1)) (by decide) rfl (by show _ < 5376; omega) (by decide) ?_
          refine mn_iinc C d_X7_puts_53 (lv' := [(2, .int (nI (k + 1))), (0, .ref (q 0)), (1, .int (nI (12 + mK S 16)))]) 2 rfl (nI_inc _ rfl) (by decide) rfl ?_
          refine m_goto C d_X7_puts_56 (tgt := 24) rfl ?_
          refine m_eq (S' := puW S (12 + mK S 16) (k + 1)) (puW_step) ?_
          refine m_lv (lv' := [(0, .ref (q 0)), (1, .int (nI (12 + mK S 16))), (2, .int (nI (k + 1)))]) [1, 2, 0] rfl ?_
          exact ih_24 (k + 1) (by omega) (by omega)
        refine m_iload_n C d_X7_puts_42 2 rfl ?_
        refine m_iconst C d_X7_puts_43 (v := (nI 1)) rfl ?_
        refine mn_icmp_ne C d_X7_puts_44 (tgt := 51) rfl (by omega) (by omega) (fun c_44 => ?_) (fun c_44 => ?_)
        · skip
          refine m_iconst C d_X7_puts_51 (v := (bI false)) rfl ?_
          refine m_st (st' := [.int (bI (decide (k = 1))), .int (nI (256 * (12 + mK S 16) + k)), .ref (q 10)]) (by first | rw [decide_eq_true c_44] | rw [decide_eq_false c_44]) ?_
          exact join_52  
        · skip
          refine m_iconst C d_X7_puts_47 (v := (bI true)) rfl ?_
          refine m_goto C d_X7_puts_48 (tgt := 52) rfl ?_
          refine m_st (st' := [.int (bI (decide (k = 1))), .int (nI (256 * (12 + mK S 16) + k)), .ref (q 10)]) (by first | rw [decide_eq_true c_44] | rw [decide_eq_false c_44]) ?_
          exact join_52  
  refine m_eq (S' := puW S (12 + mK S 16) 0) (puW_0) ?_
  refine m_lv (lv' := [(0, .ref (q 0)), (1, .int (nI (12 + (mK S 16)))), (2, .int (nI 0))]) [2, 1, 0] rfl ?_
  refine m_lve (lv' := [(0, .ref (q 0)), (1, .int (nI (12 + mK S 16))), (2, .int (nI 0))]) (rfl) ?_
  exact loop_24 _ 0 (by omega) (Nat.lt_succ_self _)
end
section
theorem tw_785 : (Jvm.Cond.methodLink "CorpuslineModel" (105 : Nat) ({ cls := "CorpuslineModel", name := "testsInAll", desc := "()I" } : Jvm.MethodName)) ∈ TB := tb_of 785 (by decide +kernel) rfl
theorem tw_787 : (Jvm.Cond.instanceMethod ({ cls := "CorpuslineModel", name := "testsInAll", desc := "()I" } : Jvm.MethodName)) ∈ TB := tb_of 787 (by decide +kernel) rfl
theorem tw_788 : (Jvm.Cond.code ({ cls := "CorpuslineModel", name := "testsInAll", desc := "()I" } : Jvm.MethodName) prog_9_method_15_code (3 : Nat) (Option.some Jvm.ClassFile.FieldType.int)) ∈ TB := tb_of 788 (by decide +kernel) rfl
theorem tw_789 : (Jvm.Cond.methodLink "CorpuslineModel" (109 : Nat) ({ cls := "CorpuslineModel", name := "puts", desc := "()I" } : Jvm.MethodName)) ∈ TB := tb_of 789 (by decide +kernel) rfl
theorem tw_791 : (Jvm.Cond.instanceMethod ({ cls := "CorpuslineModel", name := "puts", desc := "()I" } : Jvm.MethodName)) ∈ TB := tb_of 791 (by decide +kernel) rfl
theorem tw_792 : (Jvm.Cond.code ({ cls := "CorpuslineModel", name := "puts", desc := "()I" } : Jvm.MethodName) prog_9_method_16_code (4 : Nat) (Option.some Jvm.ClassFile.FieldType.int)) ∈ TB := tb_of 792 (by decide +kernel) rfl
theorem tw_801 : (Jvm.Cond.methodLink "CorpuslineModel" (112 : Nat) ({ cls := "CorpuslineModel", name := "isLabel", desc := "(I)Z" } : Jvm.MethodName)) ∈ TB := tb_of 801 (by decide +kernel) rfl
theorem tw_802 : (Jvm.Cond.static ({ cls := "CorpuslineModel", name := "isLabel", desc := "(I)Z" } : Jvm.MethodName)) ∈ TB := tb_of 802 (by decide +kernel) rfl
theorem tw_803 : (Jvm.Cond.code ({ cls := "CorpuslineModel", name := "isLabel", desc := "(I)Z" } : Jvm.MethodName) prog_9_method_21_code (1 : Nat) (Option.some Jvm.ClassFile.FieldType.boolean)) ∈ TB := tb_of 803 (by decide +kernel) rfl
theorem ts_21 : Cond.selects "CorpuslineModel" ({ cls := "CorpuslineModel", name := "testsInAll", desc := "()I" } : MethodName) ({ cls := "CorpuslineModel", name := "testsInAll", desc := "()I" } : MethodName) ∈ TB := tb_sel 21 (by decide +kernel) rfl
theorem ts_22 : Cond.selects "CorpuslineModel" ({ cls := "CorpuslineModel", name := "puts", desc := "()I" } : MethodName) ({ cls := "CorpuslineModel", name := "puts", desc := "()I" } : MethodName) ∈ TB := tb_sel 22 (by decide +kernel) rfl
theorem ok_RX7_112 : okS RX7 112 yX7_isLabel cX7_isLabel 1 (Option.some Jvm.ClassFile.FieldType.boolean) 1 := ⟨tw_801, tw_802, tw_5, tw_803, ⟨by decide, by decide, by decide +kernel⟩⟩
theorem ok_RX7_105 : okV RX7 105 yX7_testsInAll cX7_testsInAll 3 (Option.some Jvm.ClassFile.FieldType.int) 0 := ⟨tw_785, tw_787, ts_21, tw_5, tw_788, ⟨by decide, by decide, by decide +kernel⟩⟩
theorem ok_RX7_109 : okV RX7 109 yX7_puts cX7_puts 4 (Option.some Jvm.ClassFile.FieldType.int) 0 := ⟨tw_789, tw_791, ts_22, tw_5, tw_792, ⟨by decide, by decide, by decide +kernel⟩⟩
theorem cTest_0 {S : mS} {a v : Int32} (h : cTest S a v = 0) : inR a 0 2 = true ∧ inR v 0 99 = true ∧ mTests S ≠ 8 := by
  unfold cTest at h
  split at h
  · rename_i c
    rw [Bool.and_eq_true] at c
    split at h
    · omega
    · exact ⟨c.1, c.2, by assumption⟩
  · omega
theorem cSame_0 {S : mS} {a v : Int32} (h : cSame S a v = 0) : inR a 0 2 = true ∧ inR v 0 2 = true ∧ mTests S ≠ 8 := by
  unfold cSame at h
  split at h
  · rename_i c
    rw [Bool.and_eq_true] at c
    split at h
    · omega
    · exact ⟨c.1, c.2, by assumption⟩
  · omega
theorem cLabel_0 {S : mS} {v : Int32} (h : cLabel S v = 0) : inR v 0 2 = true ∧ canL S = true := by
  unfold cLabel at h
  split at h
  · split at h
    · exact ⟨by assumption, by assumption⟩
    · omega
  · omega
theorem canL_of {S : mS} (h : canL S = true) : 0 < mK S 16 ∧ mB S 9 (12 + mK S 16 - 1) = true := by
  simpa [canL] using h
theorem canB_of {S : mS} (h : canB S = true) : 1 < mK S 16 ∧ mB S 9 (12 + mK S 16 - 1) = true ∧ mB S 9 (12 + mK S 16 - 2) = true := by
  simpa [canB] using h
theorem mTests_le {S : mS} (I : mInv S) : mTests S ≤ 8 := I.2.2.2.2.2.2.2.2.2.2.2.1
theorem pile_le {S : mS} (I : mInv S) : mK S 16 ≤ 8 := I.2.2.2.2.2.2.2.2.2.2.1
theorem pats_le {S : mS} (I : mInv S) : mK S 15 ≤ 12 := I.2.2.2.2.2.2.2.2.2.1
theorem tPuts_12 {S : mS} {x : Nat} (h1 : 48 * (12 + mK S 16) ≤ x) (h2 : x < 48 * (12 + mK S 16) + 6) : mN (tPuts S) 12 x = 0 := by
  show mN (uK (uN (uN (puV S (12 + mK S 16) 3) 13 (8 * (12 + mK S 16)) 0) 14 (8 * (12 + mK S 16)) 0) 16 (mK S 16 + 1)) 12 x = 0
  rw [mN_uK, mN_uN, if_neg (by omega), mN_uN, if_neg (by omega), puV, mN_sN, if_pos rfl, if_pos (by omega)]
theorem tPuts_14 {S : mS} : mN (tPuts S) 14 (8 * (12 + mK S 16)) = 0 := by
  show mN (uK (uN (uN (puV S (12 + mK S 16) 3) 13 (8 * (12 + mK S 16)) 0) 14 (8 * (12 + mK S 16)) 0) 16 (mK S 16 + 1)) 14 _ = 0
  rw [mN_uK, mN_uN, if_pos ⟨rfl, rfl⟩]
theorem boL_step {S : mS} {a o k : Nat} : uN (uN (uI (boL S a o k) 11 (3 * a + k) (vJoin (mI S 11 (3 * a + k)) (mI S 11 (3 * o + k)))) 12 (6 * a + 2 * k) (mN S 12 (6 * a + 2 * k) ||| mN S 12 (6 * o + 2 * k))) 12 (6 * a + 2 * k + 1) (mN S 12 (6 * a + 2 * k + 1) ||| mN S 12 (6 * o + 2 * k + 1)) = boL S a o (k + 1) := by
  unfold boL
  rw [uI_sN, sI_step (g := fun x => if 3 * a ≤ x ∧ x < 3 * a + (k + 1) then vJoin (mI S 11 x) (mI S 11 (3 * o + (x - 3 * a))) else mI S 11 x)]
  · rw [sN_step (g := fun x => if 6 * a ≤ x ∧ x < 6 * a + 2 * k + 1 then mN S 12 x ||| mN S 12 (6 * o + (x - 6 * a)) else mN S 12 x)]
    · rw [sN_step]
      intro z
      by_cases c : z = 6 * a + 2 * k + 1
      · rw [if_pos c, if_pos (by omega), c, show 6 * o + (6 * a + 2 * k + 1 - 6 * a) = 6 * o + 2 * k + 1 by omega]
      · rw [if_neg c]
        by_cases d : 6 * a ≤ z ∧ z < 6 * a + 2 * k + 1
        · rw [if_pos d, if_pos (by omega)]
        · rw [if_neg d, if_neg (by omega)]
    · intro z
      by_cases c : z = 6 * a + 2 * k
      · rw [if_pos c, if_pos (by omega), c, show 6 * o + (6 * a + 2 * k - 6 * a) = 6 * o + 2 * k by omega]
      · rw [if_neg c]
        by_cases d : 6 * a ≤ z ∧ z < 6 * a + 2 * k
        · rw [if_pos d, if_pos (by omega)]
        · rw [if_neg d, if_neg (by omega)]
  · intro z
    by_cases c : z = 3 * a + k
    · rw [if_pos c, if_pos (by omega), c, show 3 * o + (3 * a + k - 3 * a) = 3 * o + k by omega]
    · rw [if_neg c]
      by_cases d : 3 * a ≤ z ∧ z < 3 * a + k
      · rw [if_pos d, if_pos (by omega)]
      · rw [if_neg d, if_neg (by omega)]
theorem boL_0 (S : mS) (a o : Nat) : S = boL S a o 0 := by
  unfold boL
  rw [← sI_init (S := S)]
  · apply sN_init
    intro z
    rw [if_neg (by omega)]
  · intro z
    rw [if_neg (by omega)]
theorem boL_rI {S : mS} {a o k : Nat} : mI (boL S a o k) 11 (3 * a + k) = mI S 11 (3 * a + k) := by
  rw [boL, mI_sN, mI_sI, if_pos rfl, if_neg (by omega)]
theorem boL_rIo {S : mS} {a o k : Nat} (h : a ≠ o) (hk : k < 3) : mI (boL S a o k) 11 (3 * o + k) = mI S 11 (3 * o + k) := by
  rw [boL, mI_sN, mI_sI, if_pos rfl, if_neg (by omega)]
theorem boL_rN {S : mS} {a o k z : Nat} (hz : z < 6 * a ∨ 6 * a + 2 * k ≤ z) : mN (boL S a o k) 12 z = mN S 12 z := by
  rw [boL, mN_sN, if_pos rfl, if_neg (by omega)]
theorem beL_step {S : mS} {p k : Nat} (hk : k < 256) : uB (beL S p k) 10 (256 * p + k) (mB S 17 k) = beL S p (k + 1) := by
  unfold beL
  rw [sB_step]
  intro z
  by_cases c : z = 256 * p + k
  · rw [if_pos c, if_pos (by omega), c, Nat.add_sub_cancel_left]
  · rw [if_neg c]
    by_cases d : 256 * p ≤ z ∧ z < 256 * p + k
    · rw [if_pos d, if_pos (by omega)]
    · rw [if_neg d, if_neg (by omega)]
theorem beL_0 (S : mS) (p : Nat) : S = beL S p 0 := by
  unfold beL
  apply sB_init
  intro z
  rw [if_neg (by omega)]
theorem cpP_step {S : mS} {a t k : Nat} : uB (cpP S a t k) 10 (256 * t + k) (mB S 10 (256 * a + k)) = cpP S a t (k + 1) := by
  unfold cpP
  rw [sB_step]
  intro z
  by_cases c : z = 256 * t + k
  · rw [if_pos c, if_pos (by omega), c, Nat.add_sub_cancel_left]
  · rw [if_neg c]
    by_cases d : 256 * t ≤ z ∧ z < 256 * t + k
    · rw [if_pos d, if_pos (by omega)]
    · rw [if_neg d, if_neg (by omega)]
theorem cpP_0 (S : mS) (a t : Nat) : uB (uN S 8 t (mN S 8 a)) 9 t (mB S 9 a) = cpP S a t 0 := by
  unfold cpP
  apply sB_init
  intro z
  rw [if_neg (by omega)]; rfl
theorem cpP_r {S : mS} {a t k : Nat} (h : a ≠ t) (hk : k < 256) : mB (cpP S a t k) 10 (256 * a + k) = mB S 10 (256 * a + k) := by
  rw [cpP, mB_sB, if_pos rfl, if_neg (by omega)]
def chL (S : mS) (f : Nat → Bool) (k : Nat) : mS := sB S 17 (fun z => if z < k then f z else mB S 17 z)
theorem chL_0 (S : mS) (f : Nat → Bool) : S = chL S f 0 := by
  unfold chL
  apply sB_init
  intro z
  rw [if_neg (by omega)]
theorem chL_step {S : mS} {f : Nat → Bool} {k : Nat} : uB (chL S f k) 17 k (f k) = chL S f (k + 1) := by
  unfold chL
  rw [sB_step]
  intro z
  by_cases c : z = k
  · rw [if_pos c, if_pos (by omega), c]
  · rw [if_neg c]
    by_cases d : z < k
    · rw [if_pos d, if_pos (by omega)]
    · rw [if_neg d, if_neg (by omega)]
def wCh (S : mS) (p : Nat) (z : Nat) : Bool := mB S 10 (256 * p + z % 2 ^ mN S 8 p) && mB S 10 (256 * (p + 1) + z / 2 ^ mN S 8 p)
def wEi (S : mS) (p : Nat) (z : Nat) : Bool := (decide (z < 2 ^ mN S 8 p) && mB S 10 (256 * p + z)) || (decide (z % 2 ^ mN S 8 p = 0) && mB S 10 (256 * (p + 1) + z / 2 ^ mN S 8 p))
def tTwo (S : mS) (f : mS → Nat → Nat → Bool) : mS := if cTwo S = 0 then uK (tBec (chL (tLays (uK S 0 0)) (f S (12 + mK S 16 - 2)) 256) (12 + mK S 16 - 2) (mN S 8 (12 + mK S 16 - 2) + mN S 8 (12 + mK S 16 - 2 + 1))) 16 (mK S 16 - 1) else uK S 0 1
def rTwo (S : mS) : Nat := if cTwo S = 0 then mK S 16 - 1 else 0
def rBoth (S : mS) : Nat := if cBoth S = 0 then mK S 16 - 1 else 0

def dl_X7_test : List (Nat × Instr × Nat) := [(0, .aload_n 0, 1), (1, .iload_n 1, 1), (2, .invokestatic 91, 3), (5, .ifCond .eq 13, 3), (8, .iload_n 2, 1), (9, .iconst 0, 1), (10, .bipush 99, 2), (12, .invokestatic 76, 3), (15, .ifCond .ne 7, 3), (18, .iconst 1, 1), (19, .goto 17, 3), (22, .aload_n 0, 1), (23, .invokevirtual 105, 3), (26, .bipush 8, 2), (28, .if_icmp .ne 7, 3), (31, .iconst 2, 1), (32, .goto 4, 3), (35, .iconst 0, 1), (36, .invokevirtual 84, 3), (39, .ifCond .ne 5, 3), (42, .iconst 0, 1), (43, .ireturn, 1), (44, .aload_n 0, 1), (45, .invokevirtual 109, 3), (48, .istore 4, 2), (50, .iload_n 3, 1), (51, .ifCond .eq 34, 3), (54, .aload_n 0, 1), (55, .getfield 45, 3), (58, .bipush 6, 2), (60, .iload 4, 2), (62, .imul, 1), (63, .iconst 2, 1), (64, .iload_n 1, 1), (65, .imul, 1), (66, .iadd, 1), (67, .iload_n 2, 1), (68, .bipush 50, 2), (70, .idiv, 1), (71, .iadd, 1), (72, .dup2, 1), (73, .laload, 1), (74, .lconst 1, 1), (75, .iload_n 2, 1), (76, .bipush 50, 2), (78, .irem, 1), (79, .lshl, 1), (80, .lor, 1), (81, .lastore, 1), (82, .goto 15, 3), (85, .aload_n 0, 1), (86, .getfield 42, 3), (89, .iconst 3, 1), (90, .iload 4, 2), (92, .imul, 1), (93, .iload_n 1, 1), (94, .iadd, 1), (95, .iload_n 2, 1), (96, .iastore, 1), (97, .aload_n 0, 1), (98, .getfield 98, 3), (101, .ireturn, 1)]
theorem dc_X7_test : dnL cX7_test dl_X7_test = true := by decide +kernel
theorem d_X7_test_0 : dn cX7_test 0 (.aload_n 0) 1 1 := dnAt dc_X7_test 0 rfl rfl
theorem d_X7_test_1 : dn cX7_test 1 (.iload_n 1) 1 2 := dnAt dc_X7_test 1 rfl rfl
theorem d_X7_test_2 : dn cX7_test 2 (.invokestatic 91) 3 5 := dnAt dc_X7_test 2 rfl rfl
theorem d_X7_test_5 : dn cX7_test 5 (.ifCond .eq 13) 3 8 := dnAt dc_X7_test 3 rfl rfl
theorem d_X7_test_8 : dn cX7_test 8 (.iload_n 2) 1 9 := dnAt dc_X7_test 4 rfl rfl
theorem d_X7_test_9 : dn cX7_test 9 (.iconst 0) 1 10 := dnAt dc_X7_test 5 rfl rfl
theorem d_X7_test_10 : dn cX7_test 10 (.bipush 99) 2 12 := dnAt dc_X7_test 6 rfl rfl
theorem d_X7_test_12 : dn cX7_test 12 (.invokestatic 76) 3 15 := dnAt dc_X7_test 7 rfl rfl
theorem d_X7_test_15 : dn cX7_test 15 (.ifCond .ne 7) 3 18 := dnAt dc_X7_test 8 rfl rfl
theorem d_X7_test_18 : dn cX7_test 18 (.iconst 1) 1 19 := dnAt dc_X7_test 9 rfl rfl
theorem d_X7_test_19 : dn cX7_test 19 (.goto 17) 3 22 := dnAt dc_X7_test 10 rfl rfl
theorem d_X7_test_22 : dn cX7_test 22 (.aload_n 0) 1 23 := dnAt dc_X7_test 11 rfl rfl
theorem d_X7_test_23 : dn cX7_test 23 (.invokevirtual 105) 3 26 := dnAt dc_X7_test 12 rfl rfl
theorem d_X7_test_26 : dn cX7_test 26 (.bipush 8) 2 28 := dnAt dc_X7_test 13 rfl rfl
theorem d_X7_test_28 : dn cX7_test 28 (.if_icmp .ne 7) 3 31 := dnAt dc_X7_test 14 rfl rfl
theorem d_X7_test_31 : dn cX7_test 31 (.iconst 2) 1 32 := dnAt dc_X7_test 15 rfl rfl
theorem d_X7_test_32 : dn cX7_test 32 (.goto 4) 3 35 := dnAt dc_X7_test 16 rfl rfl
theorem d_X7_test_35 : dn cX7_test 35 (.iconst 0) 1 36 := dnAt dc_X7_test 17 rfl rfl
theorem d_X7_test_36 : dn cX7_test 36 (.invokevirtual 84) 3 39 := dnAt dc_X7_test 18 rfl rfl
theorem d_X7_test_39 : dn cX7_test 39 (.ifCond .ne 5) 3 42 := dnAt dc_X7_test 19 rfl rfl
theorem d_X7_test_42 : dn cX7_test 42 (.iconst 0) 1 43 := dnAt dc_X7_test 20 rfl rfl
theorem d_X7_test_43 : dn cX7_test 43 (.ireturn) 1 44 := dnAt dc_X7_test 21 rfl rfl
theorem d_X7_test_44 : dn cX7_test 44 (.aload_n 0) 1 45 := dnAt dc_X7_test 22 rfl rfl
theorem d_X7_test_45 : dn cX7_test 45 (.invokevirtual 109) 3 48 := dnAt dc_X7_test 23 rfl rfl
theorem d_X7_test_48 : dn cX7_test 48 (.istore 4) 2 50 := dnAt dc_X7_test 24 rfl rfl
theorem d_X7_test_50 : dn cX7_test 50 (.iload_n 3) 1 51 := dnAt dc_X7_test 25 rfl rfl
theorem d_X7_test_51 : dn cX7_test 51 (.ifCond .eq 34) 3 54 := dnAt dc_X7_test 26 rfl rfl
theorem d_X7_test_54 : dn cX7_test 54 (.aload_n 0) 1 55 := dnAt dc_X7_test 27 rfl rfl
theorem d_X7_test_55 : dn cX7_test 55 (.getfield 45) 3 58 := dnAt dc_X7_test 28 rfl rfl
theorem d_X7_test_58 : dn cX7_test 58 (.bipush 6) 2 60 := dnAt dc_X7_test 29 rfl rfl
theorem d_X7_test_60 : dn cX7_test 60 (.iload 4) 2 62 := dnAt dc_X7_test 30 rfl rfl
theorem d_X7_test_62 : dn cX7_test 62 (.imul) 1 63 := dnAt dc_X7_test 31 rfl rfl
theorem d_X7_test_63 : dn cX7_test 63 (.iconst 2) 1 64 := dnAt dc_X7_test 32 rfl rfl
theorem d_X7_test_64 : dn cX7_test 64 (.iload_n 1) 1 65 := dnAt dc_X7_test 33 rfl rfl
theorem d_X7_test_65 : dn cX7_test 65 (.imul) 1 66 := dnAt dc_X7_test 34 rfl rfl
theorem d_X7_test_66 : dn cX7_test 66 (.iadd) 1 67 := dnAt dc_X7_test 35 rfl rfl
theorem d_X7_test_67 : dn cX7_test 67 (.iload_n 2) 1 68 := dnAt dc_X7_test 36 rfl rfl
theorem d_X7_test_68 : dn cX7_test 68 (.bipush 50) 2 70 := dnAt dc_X7_test 37 rfl rfl
theorem d_X7_test_70 : dn cX7_test 70 (.idiv) 1 71 := dnAt dc_X7_test 38 rfl rfl
theorem d_X7_test_71 : dn cX7_test 71 (.iadd) 1 72 := dnAt dc_X7_test 39 rfl rfl
theorem d_X7_test_72 : dn cX7_test 72 (.dup2) 1 73 := dnAt dc_X7_test 40 rfl rfl
theorem d_X7_test_73 : dn cX7_test 73 (.laload) 1 74 := dnAt dc_X7_test 41 rfl rfl
theorem d_X7_test_74 : dn cX7_test 74 (.lconst 1) 1 75 := dnAt dc_X7_test 42 rfl rfl
theorem d_X7_test_75 : dn cX7_test 75 (.iload_n 2) 1 76 := dnAt dc_X7_test 43 rfl rfl
theorem d_X7_test_76 : dn cX7_test 76 (.bipush 50) 2 78 := dnAt dc_X7_test 44 rfl rfl
theorem d_X7_test_78 : dn cX7_test 78 (.irem) 1 79 := dnAt dc_X7_test 45 rfl rfl
theorem d_X7_test_79 : dn cX7_test 79 (.lshl) 1 80 := dnAt dc_X7_test 46 rfl rfl
theorem d_X7_test_80 : dn cX7_test 80 (.lor) 1 81 := dnAt dc_X7_test 47 rfl rfl
theorem d_X7_test_81 : dn cX7_test 81 (.lastore) 1 82 := dnAt dc_X7_test 48 rfl rfl
theorem d_X7_test_82 : dn cX7_test 82 (.goto 15) 3 85 := dnAt dc_X7_test 49 rfl rfl
theorem d_X7_test_85 : dn cX7_test 85 (.aload_n 0) 1 86 := dnAt dc_X7_test 50 rfl rfl
theorem d_X7_test_86 : dn cX7_test 86 (.getfield 42) 3 89 := dnAt dc_X7_test 51 rfl rfl
theorem d_X7_test_89 : dn cX7_test 89 (.iconst 3) 1 90 := dnAt dc_X7_test 52 rfl rfl
theorem d_X7_test_90 : dn cX7_test 90 (.iload 4) 2 92 := dnAt dc_X7_test 53 rfl rfl
theorem d_X7_test_92 : dn cX7_test 92 (.imul) 1 93 := dnAt dc_X7_test 54 rfl rfl
theorem d_X7_test_93 : dn cX7_test 93 (.iload_n 1) 1 94 := dnAt dc_X7_test 55 rfl rfl
theorem d_X7_test_94 : dn cX7_test 94 (.iadd) 1 95 := dnAt dc_X7_test 56 rfl rfl
theorem d_X7_test_95 : dn cX7_test 95 (.iload_n 2) 1 96 := dnAt dc_X7_test 57 rfl rfl
theorem d_X7_test_96 : dn cX7_test 96 (.iastore) 1 97 := dnAt dc_X7_test 58 rfl rfl
theorem d_X7_test_97 : dn cX7_test 97 (.aload_n 0) 1 98 := dnAt dc_X7_test 59 rfl rfl
theorem d_X7_test_98 : dn cX7_test 98 (.getfield 98) 3 101 := dnAt dc_X7_test 60 rfl rfl
theorem d_X7_test_101 : dn cX7_test 101 (.ireturn) 1 102 := dnAt dc_X7_test 61 rfl rfl
set_option maxHeartbeats 4000000 in
set_option maxRecDepth 100000 in
theorem m_test (S : mS) (attr value : Int32) (o : Bool) (I : mInv S) : mC yX7_test cX7_test 5 (Option.some Jvm.ClassFile.FieldType.int) { frames := 2, cells := 0, slots := 0, locals := 42 } [.int attr, .int value, .int (bI o)] S (fun v9 T9 => v9 = (some (.int (nI (rPut S (cTest S attr value))))) ∧ T9 = tTest S attr value o) := by
  refine mC.of (by decide) (Nat.le_of_ble_eq_true rfl) ?_
  intro G x q h0 C A TY
  show VM G x q h0 S 0 [(0, .ref (q 0)), (1, .int attr), (2, .int value), (3, .int (bI o))] []
  refine m_aload_n C d_X7_test_0 0 rfl ?_
  have join_36 : VM G x q h0 S 36 [(0, .ref (q 0)), (1, .int attr), (2, .int value), (3, .int (bI o))] [.int (nI (cTest S attr value)), .ref (q 0)] := by
    refine m_callV C d_X7_test_36 ok_RX7_84 (m_holds S (cTest S attr value) (by unfold cTest; split <;> (try split) <;> omega)) rfl (rest := []) rfl rfl (Nat.le_of_ble_eq_true rfl) ⟨⟨by decide, by decide⟩, by decide, by decide⟩ (fun v9 T9 e9 => ?_)
    obtain ⟨rfl, e9⟩ := e9
    refine m_eq e9 ?_
    show VM G x q h0 (uK S 0 (cTest S attr value)) 39 [(0, .ref (q 0)), (1, .int attr), (2, .int value), (3, .int (bI o))] [.int (bI (decide (cTest S attr value = 0)))]
    refine mb_if_ne C d_X7_test_39 (tgt := 44) rfl (fun c_39 => ?_) (fun c_39 => ?_)
    · skip
      have c0 := of_decide_eq_true c_39
      obtain ⟨c1, c2, c3⟩ := cTest_0 c0
      obtain ⟨e1, -, e2⟩ := inR_of c1 (by decide) (by decide)
      obtain ⟨e3, -, e4⟩ := inR_of c2 (by decide) (by decide)
      have i1 := pile_le I
      rw [c0]
      refine m_lve (lv' := [(0, .ref (q 0)), (1, .int (nI (tn attr))), (2, .int (nI (tn value))), (3, .int (bI o))]) (by rw [← e1, ← e3]) ?_
      refine m_aload_n C d_X7_test_44 0 rfl ?_
      refine m_callV C d_X7_test_45 ok_RX7_109 (m_puts (uK S 0 0) (pile_le I)) rfl (rest := []) rfl rfl (Nat.le_of_ble_eq_true rfl) ⟨⟨by decide, by decide⟩, by decide, by decide⟩ (fun v9 T9 e9 => ?_)
      obtain ⟨rfl, e9⟩ := e9
      refine m_eq e9 ?_
      show VM G x q h0 (tPuts (uK S 0 0)) 48 [(0, .ref (q 0)), (1, .int (nI (tn attr))), (2, .int (nI (tn value))), (3, .int (bI o))] [.int (nI (8 * (12 + mK S 16)))]
      refine m_istore C d_X7_test_48 (lv' := [(4, .int (nI (8 * (12 + mK S 16)))), (0, .ref (q 0)), (1, .int (nI (tn attr))), (2, .int (nI (tn value))), (3, .int (bI o))]) (by decide) rfl ?_
      have join_97 : VM G x q h0 (tTest S attr value o) 97 [(0, .ref (q 0))] [] := by
        refine m_aload_n C d_X7_test_97 0 rfl ?_
        refine m_get C d_X7_test_98 fd_RX7_98 (v := .int (nI (mK (tTest S attr value o) 16))) rfl ?_
        refine m_st (st' := [.int (nI (rPut S (cTest S attr value)))]) (by rw [rPut, if_pos c0, tTest, if_pos c0]; split <;> rfl) ?_
        exact m_iret C A TY d_X7_test_101 rfl (⟨rfl, rfl⟩)
      refine m_iload_n C d_X7_test_50 4 rfl ?_
      refine mb_if_eq C d_X7_test_51 (tgt := 85) rfl (fun c_51 => ?_) (fun c_51 => ?_)
      · skip
        refine m_aload_n C d_X7_test_85 1 rfl ?_
        refine m_get C d_X7_test_86 fd_RX7_42 (v := .ref (q 11)) rfl ?_
        refine m_iconst C d_X7_test_89 (v := (nI 3)) rfl ?_
        refine m_iload C d_X7_test_90 0 rfl ?_
        refine mn_imul C d_X7_test_92 ?_
        refine m_iload_n C d_X7_test_93 2 rfl ?_
        refine mn_iadd C d_X7_test_94 ?_
        refine m_iload_n C d_X7_test_95 3 rfl ?_
        refine m_astI C d_X7_test_96 (k := 11) (v := (nI (tn value))) (by decide) rfl (by show _ < 504; omega) (by decide) ?_
        refine m_eq (S' := tTest S attr value o) (by first | rw [tTest, if_pos c0, if_pos c_51] | rw [tTest, if_pos c0, if_neg (by rw [c_51]; decide), ← e3]) ?_
        refine m_lv (lv' := [(0, .ref (q 0))]) [1] rfl ?_
        exact join_97  
      · skip
        refine m_aload_n C d_X7_test_54 1 rfl ?_
        refine m_get C d_X7_test_55 fd_RX7_45 (v := .ref (q 12)) rfl ?_
        refine m_bipush C d_X7_test_58 (v := (nI 6)) rfl ?_
        refine m_iload C d_X7_test_60 0 rfl ?_
        refine mn_imul C d_X7_test_62 ?_
        refine m_iconst C d_X7_test_63 (v := (nI 2)) rfl ?_
        refine m_iload_n C d_X7_test_64 2 rfl ?_
        refine mn_imul C d_X7_test_65 ?_
        refine mn_iadd C d_X7_test_66 ?_
        refine m_iload_n C d_X7_test_67 3 rfl ?_
        refine m_bipush C d_X7_test_68 (v := (nI 50)) rfl ?_
        refine mn_idiv C d_X7_test_70 (by omega) (by omega) (by omega) ?_
        refine mn_iadd C d_X7_test_71 ?_
        refine m_dup2 C d_X7_test_72 rfl rfl ?_
        refine m_lld C d_X7_test_73 (k := 12) (by decide) rfl (by show _ < 1008; omega) (by decide) ?_
        refine m_st (st' := [.long (lN 0), .int (nI (((6 * (8 * (12 + mK S 16))) + (2 * (tn attr))) + ((tn value) / 50))), .ref (q 12)]) (by rw [tPuts_12 (S := uK S 0 0) (by show 48 * (12 + mK S 16) ≤ _; omega) (by show _ < 48 * (12 + mK S 16) + 6; omega)]) ?_
        refine m_lconst C d_X7_test_74 (v := (lN 1)) rfl ?_
        refine m_iload_n C d_X7_test_75 3 rfl ?_
        refine m_bipush C d_X7_test_76 (v := (nI 50)) rfl ?_
        refine mn_irem C d_X7_test_78 (by omega) (by omega) (by omega) ?_
        refine mn_lshl C d_X7_test_79 (by omega) ?_
        refine mn_lor C d_X7_test_80 ?_
        refine m_st (st' := [.long (lN (2 ^ (tn value % 50))), .int (nI (((6 * (8 * (12 + mK S 16))) + (2 * (tn attr))) + ((tn value) / 50))), .ref (q 12)]) (by rw [Nat.zero_or, Nat.one_mul]) ?_
        refine m_lst C d_X7_test_81 (k := 12) (v := 2 ^ (tn value % 50)) (by decide) rfl (by show _ < 1008; omega) (by decide) ?_
        refine m_goto C d_X7_test_82 (tgt := 97) rfl ?_
        refine m_eq (S' := tTest S attr value o) (by first | rw [tTest, if_pos c0, if_pos c_51] | rw [tTest, if_pos c0, if_neg (by rw [c_51]; decide), ← e3]) ?_
        refine m_lv (lv' := [(0, .ref (q 0))]) [1] rfl ?_
        exact join_97  
    · skip
      have c1 := of_decide_eq_false c_39
      refine m_iconst C d_X7_test_42 (v := (nI 0)) rfl ?_
      refine m_st (st' := [.int (nI (rPut S (cTest S attr value)))]) (by rw [rPut, if_neg c1]) ?_
      exact m_iret C A TY d_X7_test_43 rfl (⟨rfl, by rw [tTest, if_neg c1]⟩)
  refine m_iload_n C d_X7_test_1 1 rfl ?_
  refine m_callS C d_X7_test_2 ok_RX7_91 (s_isAttribute attr) (rest := [.ref (q 0)]) rfl rfl (Nat.le_of_ble_eq_true rfl) ⟨⟨by decide, by decide⟩, by decide, by decide⟩ ?_
  show VM G x q h0 S 5 [(0, .ref (q 0)), (1, .int attr), (2, .int value), (3, .int (bI o))] [.int (bI (inR attr 0 2)), .ref (q 0)]
  refine mb_if_eq C d_X7_test_5 (tgt := 18) rfl (fun c_5 => ?_) (fun c_5 => ?_)
  · skip
    refine m_iconst C d_X7_test_18 (v := (nI 1)) rfl ?_
    refine m_goto C d_X7_test_19 (tgt := 36) rfl ?_
    refine m_st (st' := [.int (nI (cTest S attr value)), .ref (q 0)]) (by first | (rw [cTest, c_5, c_15]; first | (rw [if_pos c_28]; rfl) | (rw [if_neg c_28]; rfl)) | (rw [cTest, c_5, c_15]; rfl) | (rw [cTest, c_5]; rfl)) ?_
    exact join_36  
  · skip
    refine m_iload_n C d_X7_test_8 2 rfl ?_
    refine m_iconst C d_X7_test_9 (v := (nI 0)) rfl ?_
    refine m_bipush C d_X7_test_10 (v := (nI 99)) rfl ?_
    refine m_callS C d_X7_test_12 ok_RX7_76 (s_isIn value ((nI 0)) ((nI 99))) (rest := [.ref (q 0)]) rfl rfl (Nat.le_of_ble_eq_true rfl) ⟨⟨by decide, by decide⟩, by decide, by decide⟩ ?_
    show VM G x q h0 S 15 [(0, .ref (q 0)), (1, .int attr), (2, .int value), (3, .int (bI o))] [.int (bI (inR value 0 99)), .ref (q 0)]
    refine mb_if_ne C d_X7_test_15 (tgt := 22) rfl (fun c_15 => ?_) (fun c_15 => ?_)
    · skip
      refine m_aload_n C d_X7_test_22 0 rfl ?_
      refine m_callV C d_X7_test_23 ok_RX7_105 (m_testsInAll S (pile_le I)) rfl (rest := [.ref (q 0)]) rfl rfl (Nat.le_of_ble_eq_true rfl) ⟨⟨by decide, by decide⟩, by decide, by decide⟩ (fun v9 T9 e9 => ?_)
      obtain ⟨rfl, e9⟩ := e9
      refine m_eq e9 ?_
      show VM G x q h0 S 26 [(0, .ref (q 0)), (1, .int attr), (2, .int value), (3, .int (bI o))] [.int (nI (mTests S)), .ref (q 0)]
      refine m_bipush C d_X7_test_26 (v := (nI 8)) rfl ?_
      refine mn_icmp_ne C d_X7_test_28 (tgt := 35) rfl (by have := mTests_le I; omega) (by omega) (fun c_28 => ?_) (fun c_28 => ?_)
      · skip
        refine m_iconst C d_X7_test_35 (v := (nI 0)) rfl ?_
        refine m_st (st' := [.int (nI (cTest S attr value)), .ref (q 0)]) (by first | (rw [cTest, c_5, c_15]; first | (rw [if_pos c_28]; rfl) | (rw [if_neg c_28]; rfl)) | (rw [cTest, c_5, c_15]; rfl) | (rw [cTest, c_5]; rfl)) ?_
        exact join_36  
      · skip
        refine m_iconst C d_X7_test_31 (v := (nI 2)) rfl ?_
        refine m_goto C d_X7_test_32 (tgt := 36) rfl ?_
        refine m_st (st' := [.int (nI (cTest S attr value)), .ref (q 0)]) (by first | (rw [cTest, c_5, c_15]; first | (rw [if_pos c_28]; rfl) | (rw [if_neg c_28]; rfl)) | (rw [cTest, c_5, c_15]; rfl) | (rw [cTest, c_5]; rfl)) ?_
        exact join_36  
    · skip
      refine m_iconst C d_X7_test_18 (v := (nI 1)) rfl ?_
      refine m_goto C d_X7_test_19 (tgt := 36) rfl ?_
      refine m_st (st' := [.int (nI (cTest S attr value)), .ref (q 0)]) (by first | (rw [cTest, c_5, c_15]; first | (rw [if_pos c_28]; rfl) | (rw [if_neg c_28]; rfl)) | (rw [cTest, c_5, c_15]; rfl) | (rw [cTest, c_5]; rfl)) ?_
      exact join_36  
def dl_X7_any : List (Nat × Instr × Nat) := [(0, .aload_n 0, 1), (1, .aload_n 0, 1), (2, .invokevirtual 105, 3), (5, .bipush 8, 2), (7, .if_icmp .ne 7, 3), (10, .iconst 1, 1), (11, .goto 4, 3), (14, .iconst 0, 1), (15, .invokevirtual 84, 3), (18, .ifCond .ne 5, 3), (21, .iconst 0, 1), (22, .ireturn, 1), (23, .aload_n 0, 1), (24, .invokevirtual 109, 3), (27, .istore_n 1, 1), (28, .aload_n 0, 1), (29, .getfield 98, 3), (32, .ireturn, 1)]
theorem dc_X7_any : dnL cX7_any dl_X7_any = true := by decide +kernel
theorem d_X7_any_0 : dn cX7_any 0 (.aload_n 0) 1 1 := dnAt dc_X7_any 0 rfl rfl
theorem d_X7_any_1 : dn cX7_any 1 (.aload_n 0) 1 2 := dnAt dc_X7_any 1 rfl rfl
theorem d_X7_any_2 : dn cX7_any 2 (.invokevirtual 105) 3 5 := dnAt dc_X7_any 2 rfl rfl
theorem d_X7_any_5 : dn cX7_any 5 (.bipush 8) 2 7 := dnAt dc_X7_any 3 rfl rfl
theorem d_X7_any_7 : dn cX7_any 7 (.if_icmp .ne 7) 3 10 := dnAt dc_X7_any 4 rfl rfl
theorem d_X7_any_10 : dn cX7_any 10 (.iconst 1) 1 11 := dnAt dc_X7_any 5 rfl rfl
theorem d_X7_any_11 : dn cX7_any 11 (.goto 4) 3 14 := dnAt dc_X7_any 6 rfl rfl
theorem d_X7_any_14 : dn cX7_any 14 (.iconst 0) 1 15 := dnAt dc_X7_any 7 rfl rfl
theorem d_X7_any_15 : dn cX7_any 15 (.invokevirtual 84) 3 18 := dnAt dc_X7_any 8 rfl rfl
theorem d_X7_any_18 : dn cX7_any 18 (.ifCond .ne 5) 3 21 := dnAt dc_X7_any 9 rfl rfl
theorem d_X7_any_21 : dn cX7_any 21 (.iconst 0) 1 22 := dnAt dc_X7_any 10 rfl rfl
theorem d_X7_any_22 : dn cX7_any 22 (.ireturn) 1 23 := dnAt dc_X7_any 11 rfl rfl
theorem d_X7_any_23 : dn cX7_any 23 (.aload_n 0) 1 24 := dnAt dc_X7_any 12 rfl rfl
theorem d_X7_any_24 : dn cX7_any 24 (.invokevirtual 109) 3 27 := dnAt dc_X7_any 13 rfl rfl
theorem d_X7_any_27 : dn cX7_any 27 (.istore_n 1) 1 28 := dnAt dc_X7_any 14 rfl rfl
theorem d_X7_any_28 : dn cX7_any 28 (.aload_n 0) 1 29 := dnAt dc_X7_any 15 rfl rfl
theorem d_X7_any_29 : dn cX7_any 29 (.getfield 98) 3 32 := dnAt dc_X7_any 16 rfl rfl
theorem d_X7_any_32 : dn cX7_any 32 (.ireturn) 1 33 := dnAt dc_X7_any 17 rfl rfl
set_option maxHeartbeats 4000000 in
set_option maxRecDepth 100000 in
theorem m_any (S : mS) (I : mInv S) : mC yX7_any cX7_any 2 (Option.some Jvm.ClassFile.FieldType.int) { frames := 1, cells := 0, slots := 0, locals := 23 } [] S (fun v9 T9 => v9 = (some (.int (nI (rPut S (cAny S))))) ∧ T9 = tAny S) := by
  refine mC.of (by decide) (Nat.le_of_ble_eq_true rfl) ?_
  intro G x q h0 C A TY
  show VM G x q h0 S 0 [(0, .ref (q 0))] []
  refine m_aload_n C d_X7_any_0 0 rfl ?_
  have join_15 : VM G x q h0 S 15 [(0, .ref (q 0))] [.int (nI (cAny S)), .ref (q 0)] := by
    refine m_callV C d_X7_any_15 ok_RX7_84 (m_holds S (cAny S) (by unfold cAny; split <;> omega)) rfl (rest := []) rfl rfl (Nat.le_of_ble_eq_true rfl) ⟨⟨by decide, by decide⟩, by decide, by decide⟩ (fun v9 T9 e9 => ?_)
    obtain ⟨rfl, e9⟩ := e9
    refine m_eq e9 ?_
    show VM G x q h0 (uK S 0 (cAny S)) 18 [(0, .ref (q 0))] [.int (bI (decide (cAny S = 0)))]
    refine mb_if_ne C d_X7_any_18 (tgt := 23) rfl (fun c_18 => ?_) (fun c_18 => ?_)
    · skip
      have c0 := of_decide_eq_true c_18
      rw [c0]
      refine m_aload_n C d_X7_any_23 0 rfl ?_
      refine m_callV C d_X7_any_24 ok_RX7_109 (m_puts (uK S 0 0) (pile_le I)) rfl (rest := []) rfl rfl (Nat.le_of_ble_eq_true rfl) ⟨⟨by decide, by decide⟩, by decide, by decide⟩ (fun v9 T9 e9 => ?_)
      obtain ⟨rfl, e9⟩ := e9
      refine m_eq e9 ?_
      show VM G x q h0 (tPuts (uK S 0 0)) 27 [(0, .ref (q 0))] [.int (nI (8 * (12 + mK S 16)))]
      refine m_istore_n C d_X7_any_27 (lv' := [(1, .int (nI (8 * (12 + mK S 16)))), (0, .ref (q 0))]) (by decide) rfl ?_
      refine m_aload_n C d_X7_any_28 1 rfl ?_
      refine m_get C d_X7_any_29 fd_RX7_98 (v := .int (nI (mK (tPuts (uK S 0 0)) 16))) rfl ?_
      refine m_st (st' := [.int (nI (rPut S (cAny S)))]) (by rw [rPut, if_pos c0]; rfl) ?_
      exact m_iret C A TY d_X7_any_32 rfl (⟨rfl, by rw [tAny, if_pos c0]⟩)
    · skip
      have c1 := of_decide_eq_false c_18
      have c2 : cAny S = 1 := by unfold cAny at c1 ⊢; split at c1 <;> first | omega | (rw [if_pos (by assumption)])
      rw [c2]
      refine m_iconst C d_X7_any_21 (v := (nI 0)) rfl ?_
      refine m_st (st' := [.int (nI (rPut S (cAny S)))]) (by rw [rPut, if_neg c1]) ?_
      exact m_iret C A TY d_X7_any_22 rfl (⟨rfl, by rw [tAny, if_neg c1]⟩)
  refine m_aload_n C d_X7_any_1 0 rfl ?_
  refine m_callV C d_X7_any_2 ok_RX7_105 (m_testsInAll S (pile_le I)) rfl (rest := [.ref (q 0)]) rfl rfl (Nat.le_of_ble_eq_true rfl) ⟨⟨by decide, by decide⟩, by decide, by decide⟩ (fun v9 T9 e9 => ?_)
  obtain ⟨rfl, e9⟩ := e9
  refine m_eq e9 ?_
  show VM G x q h0 S 5 [(0, .ref (q 0))] [.int (nI (mTests S)), .ref (q 0)]
  refine m_bipush C d_X7_any_5 (v := (nI 8)) rfl ?_
  refine mn_icmp_ne C d_X7_any_7 (tgt := 14) rfl (by have := mTests_le I; omega) (by omega) (fun c_7 => ?_) (fun c_7 => ?_)
  · skip
    refine m_iconst C d_X7_any_14 (v := (nI 0)) rfl ?_
    refine m_st (st' := [.int (nI (cAny S)), .ref (q 0)]) (by first | rw [cAny, if_pos c_7] | rw [cAny, if_neg c_7]) ?_
    exact join_15  
  · skip
    refine m_iconst C d_X7_any_10 (v := (nI 1)) rfl ?_
    refine m_goto C d_X7_any_11 (tgt := 15) rfl ?_
    refine m_st (st' := [.int (nI (cAny S)), .ref (q 0)]) (by first | rw [cAny, if_pos c_7] | rw [cAny, if_neg c_7]) ?_
    exact join_15  
def dl_X7_same : List (Nat × Instr × Nat) := [(0, .aload_n 0, 1), (1, .iload_n 1, 1), (2, .invokestatic 91, 3), (5, .ifCond .eq 10, 3), (8, .iload_n 2, 1), (9, .invokestatic 112, 3), (12, .ifCond .ne 7, 3), (15, .iconst 1, 1), (16, .goto 17, 3), (19, .aload_n 0, 1), (20, .invokevirtual 105, 3), (23, .bipush 8, 2), (25, .if_icmp .ne 7, 3), (28, .iconst 2, 1), (29, .goto 4, 3), (32, .iconst 0, 1), (33, .invokevirtual 84, 3), (36, .ifCond .ne 5, 3), (39, .iconst 0, 1), (40, .ireturn, 1), (41, .aload_n 0, 1), (42, .invokevirtual 109, 3), (45, .istore_n 3, 1), (46, .aload_n 0, 1), (47, .getfield 51, 3), (50, .iload_n 3, 1), (51, .iconst 1, 1), (52, .iconst 3, 1), (53, .iload_n 2, 1), (54, .imul, 1), (55, .iload_n 1, 1), (56, .iadd, 1), (57, .ishl, 1), (58, .iastore, 1), (59, .aload_n 0, 1), (60, .getfield 98, 3), (63, .ireturn, 1)]
theorem dc_X7_same : dnL cX7_same dl_X7_same = true := by decide +kernel
theorem d_X7_same_0 : dn cX7_same 0 (.aload_n 0) 1 1 := dnAt dc_X7_same 0 rfl rfl
theorem d_X7_same_1 : dn cX7_same 1 (.iload_n 1) 1 2 := dnAt dc_X7_same 1 rfl rfl
theorem d_X7_same_2 : dn cX7_same 2 (.invokestatic 91) 3 5 := dnAt dc_X7_same 2 rfl rfl
theorem d_X7_same_5 : dn cX7_same 5 (.ifCond .eq 10) 3 8 := dnAt dc_X7_same 3 rfl rfl
theorem d_X7_same_8 : dn cX7_same 8 (.iload_n 2) 1 9 := dnAt dc_X7_same 4 rfl rfl
theorem d_X7_same_9 : dn cX7_same 9 (.invokestatic 112) 3 12 := dnAt dc_X7_same 5 rfl rfl
theorem d_X7_same_12 : dn cX7_same 12 (.ifCond .ne 7) 3 15 := dnAt dc_X7_same 6 rfl rfl
theorem d_X7_same_15 : dn cX7_same 15 (.iconst 1) 1 16 := dnAt dc_X7_same 7 rfl rfl
theorem d_X7_same_16 : dn cX7_same 16 (.goto 17) 3 19 := dnAt dc_X7_same 8 rfl rfl
theorem d_X7_same_19 : dn cX7_same 19 (.aload_n 0) 1 20 := dnAt dc_X7_same 9 rfl rfl
theorem d_X7_same_20 : dn cX7_same 20 (.invokevirtual 105) 3 23 := dnAt dc_X7_same 10 rfl rfl
theorem d_X7_same_23 : dn cX7_same 23 (.bipush 8) 2 25 := dnAt dc_X7_same 11 rfl rfl
theorem d_X7_same_25 : dn cX7_same 25 (.if_icmp .ne 7) 3 28 := dnAt dc_X7_same 12 rfl rfl
theorem d_X7_same_28 : dn cX7_same 28 (.iconst 2) 1 29 := dnAt dc_X7_same 13 rfl rfl
theorem d_X7_same_29 : dn cX7_same 29 (.goto 4) 3 32 := dnAt dc_X7_same 14 rfl rfl
theorem d_X7_same_32 : dn cX7_same 32 (.iconst 0) 1 33 := dnAt dc_X7_same 15 rfl rfl
theorem d_X7_same_33 : dn cX7_same 33 (.invokevirtual 84) 3 36 := dnAt dc_X7_same 16 rfl rfl
theorem d_X7_same_36 : dn cX7_same 36 (.ifCond .ne 5) 3 39 := dnAt dc_X7_same 17 rfl rfl
theorem d_X7_same_39 : dn cX7_same 39 (.iconst 0) 1 40 := dnAt dc_X7_same 18 rfl rfl
theorem d_X7_same_40 : dn cX7_same 40 (.ireturn) 1 41 := dnAt dc_X7_same 19 rfl rfl
theorem d_X7_same_41 : dn cX7_same 41 (.aload_n 0) 1 42 := dnAt dc_X7_same 20 rfl rfl
theorem d_X7_same_42 : dn cX7_same 42 (.invokevirtual 109) 3 45 := dnAt dc_X7_same 21 rfl rfl
theorem d_X7_same_45 : dn cX7_same 45 (.istore_n 3) 1 46 := dnAt dc_X7_same 22 rfl rfl
theorem d_X7_same_46 : dn cX7_same 46 (.aload_n 0) 1 47 := dnAt dc_X7_same 23 rfl rfl
theorem d_X7_same_47 : dn cX7_same 47 (.getfield 51) 3 50 := dnAt dc_X7_same 24 rfl rfl
theorem d_X7_same_50 : dn cX7_same 50 (.iload_n 3) 1 51 := dnAt dc_X7_same 25 rfl rfl
theorem d_X7_same_51 : dn cX7_same 51 (.iconst 1) 1 52 := dnAt dc_X7_same 26 rfl rfl
theorem d_X7_same_52 : dn cX7_same 52 (.iconst 3) 1 53 := dnAt dc_X7_same 27 rfl rfl
theorem d_X7_same_53 : dn cX7_same 53 (.iload_n 2) 1 54 := dnAt dc_X7_same 28 rfl rfl
theorem d_X7_same_54 : dn cX7_same 54 (.imul) 1 55 := dnAt dc_X7_same 29 rfl rfl
theorem d_X7_same_55 : dn cX7_same 55 (.iload_n 1) 1 56 := dnAt dc_X7_same 30 rfl rfl
theorem d_X7_same_56 : dn cX7_same 56 (.iadd) 1 57 := dnAt dc_X7_same 31 rfl rfl
theorem d_X7_same_57 : dn cX7_same 57 (.ishl) 1 58 := dnAt dc_X7_same 32 rfl rfl
theorem d_X7_same_58 : dn cX7_same 58 (.iastore) 1 59 := dnAt dc_X7_same 33 rfl rfl
theorem d_X7_same_59 : dn cX7_same 59 (.aload_n 0) 1 60 := dnAt dc_X7_same 34 rfl rfl
theorem d_X7_same_60 : dn cX7_same 60 (.getfield 98) 3 63 := dnAt dc_X7_same 35 rfl rfl
theorem d_X7_same_63 : dn cX7_same 63 (.ireturn) 1 64 := dnAt dc_X7_same 36 rfl rfl
set_option maxHeartbeats 4000000 in
set_option maxRecDepth 100000 in
theorem m_same (S : mS) (attr label : Int32) (I : mInv S) : mC yX7_same cX7_same 4 (Option.some Jvm.ClassFile.FieldType.int) { frames := 2, cells := 0, slots := 0, locals := 42 } [.int attr, .int label] S (fun v9 T9 => v9 = (some (.int (nI (rPut S (cSame S attr label))))) ∧ T9 = tSame S attr label) := by
  refine mC.of (by decide) (Nat.le_of_ble_eq_true rfl) ?_
  intro G x q h0 C A TY
  show VM G x q h0 S 0 [(0, .ref (q 0)), (1, .int attr), (2, .int label)] []
  refine m_aload_n C d_X7_same_0 0 rfl ?_
  have join_33 : VM G x q h0 S 33 [(0, .ref (q 0)), (1, .int attr), (2, .int label)] [.int (nI (cSame S attr label)), .ref (q 0)] := by
    refine m_callV C d_X7_same_33 ok_RX7_84 (m_holds S (cSame S attr label) (by unfold cSame; split <;> (try split) <;> omega)) rfl (rest := []) rfl rfl (Nat.le_of_ble_eq_true rfl) ⟨⟨by decide, by decide⟩, by decide, by decide⟩ (fun v9 T9 e9 => ?_)
    obtain ⟨rfl, e9⟩ := e9
    refine m_eq e9 ?_
    show VM G x q h0 (uK S 0 (cSame S attr label)) 36 [(0, .ref (q 0)), (1, .int attr), (2, .int label)] [.int (bI (decide (cSame S attr label = 0)))]
    refine mb_if_ne C d_X7_same_36 (tgt := 41) rfl (fun c_36 => ?_) (fun c_36 => ?_)
    · skip
      have c0 := of_decide_eq_true c_36
      obtain ⟨c1, c2, c3⟩ := cSame_0 c0
      obtain ⟨e1, -, e2⟩ := inR_of c1 (by decide) (by decide)
      obtain ⟨e3, -, e4⟩ := inR_of c2 (by decide) (by decide)
      have i1 := pile_le I
      rw [c0]
      refine m_lve (lv' := [(0, .ref (q 0)), (1, .int (nI (tn attr))), (2, .int (nI (tn label)))]) (by rw [← e1, ← e3]) ?_
      refine m_aload_n C d_X7_same_41 0 rfl ?_
      refine m_callV C d_X7_same_42 ok_RX7_109 (m_puts (uK S 0 0) (pile_le I)) rfl (rest := []) rfl rfl (Nat.le_of_ble_eq_true rfl) ⟨⟨by decide, by decide⟩, by decide, by decide⟩ (fun v9 T9 e9 => ?_)
      obtain ⟨rfl, e9⟩ := e9
      refine m_eq e9 ?_
      show VM G x q h0 (tPuts (uK S 0 0)) 45 [(0, .ref (q 0)), (1, .int (nI (tn attr))), (2, .int (nI (tn label)))] [.int (nI (8 * (12 + mK S 16)))]
      refine m_istore_n C d_X7_same_45 (lv' := [(3, .int (nI (8 * (12 + mK S 16)))), (0, .ref (q 0)), (1, .int (nI (tn attr))), (2, .int (nI (tn label)))]) (by decide) rfl ?_
      refine m_aload_n C d_X7_same_46 1 rfl ?_
      refine m_get C d_X7_same_47 fd_RX7_51 (v := .ref (q 14)) rfl ?_
      refine m_iload_n C d_X7_same_50 0 rfl ?_
      refine m_iconst C d_X7_same_51 (v := (nI 1)) rfl ?_
      refine m_iconst C d_X7_same_52 (v := (nI 3)) rfl ?_
      refine m_iload_n C d_X7_same_53 3 rfl ?_
      refine mn_imul C d_X7_same_54 ?_
      refine m_iload_n C d_X7_same_55 2 rfl ?_
      refine mn_iadd C d_X7_same_56 ?_
      refine mn_ishl C d_X7_same_57 (by omega) ?_
      refine m_st (st' := [.int (nI (2 ^ (3 * tn label + tn attr))), .int (nI (8 * (12 + mK S 16))), .ref (q 14)]) (by rw [Nat.one_mul]) ?_
      refine m_ast C d_X7_same_58 (k := 14) (v := 2 ^ (3 * tn label + tn attr)) (by decide) rfl (by show _ < 168; omega) (by decide) ?_
      refine m_aload_n C d_X7_same_59 1 rfl ?_
      refine m_get C d_X7_same_60 fd_RX7_98 (v := .int (nI (mK (uN (tPuts (uK S 0 0)) 14 (8 * (12 + mK S 16)) (2 ^ (3 * tn label + tn attr))) 16))) rfl ?_
      refine m_st (st' := [.int (nI (mK (tPuts (uK S 0 0)) 16))]) rfl ?_
      refine m_st (st' := [.int (nI (rPut S (cSame S attr label)))]) (by rw [rPut, if_pos c0]; rfl) ?_
      exact m_iret C A TY d_X7_same_63 rfl (⟨rfl, by rw [tSame, if_pos c0]⟩)
    · skip
      have c1 := of_decide_eq_false c_36
      refine m_iconst C d_X7_same_39 (v := (nI 0)) rfl ?_
      refine m_st (st' := [.int (nI (rPut S (cSame S attr label)))]) (by rw [rPut, if_neg c1]) ?_
      exact m_iret C A TY d_X7_same_40 rfl (⟨rfl, by rw [tSame, if_neg c1]⟩)
  refine m_iload_n C d_X7_same_1 1 rfl ?_
  refine m_callS C d_X7_same_2 ok_RX7_91 (s_isAttribute attr) (rest := [.ref (q 0)]) rfl rfl (Nat.le_of_ble_eq_true rfl) ⟨⟨by decide, by decide⟩, by decide, by decide⟩ ?_
  show VM G x q h0 S 5 [(0, .ref (q 0)), (1, .int attr), (2, .int label)] [.int (bI (inR attr 0 2)), .ref (q 0)]
  refine mb_if_eq C d_X7_same_5 (tgt := 15) rfl (fun c_5 => ?_) (fun c_5 => ?_)
  · skip
    refine m_iconst C d_X7_same_15 (v := (nI 1)) rfl ?_
    refine m_goto C d_X7_same_16 (tgt := 33) rfl ?_
    refine m_st (st' := [.int (nI (cSame S attr label)), .ref (q 0)]) (by first | (rw [cSame, c_5, c_12]; first | (rw [if_pos c_25]; rfl) | (rw [if_neg c_25]; rfl)) | (rw [cSame, c_5, c_12]; rfl) | (rw [cSame, c_5]; rfl)) ?_
    exact join_33  
  · skip
    refine m_iload_n C d_X7_same_8 2 rfl ?_
    refine m_callS C d_X7_same_9 ok_RX7_112 (s_isLabel label) (rest := [.ref (q 0)]) rfl rfl (Nat.le_of_ble_eq_true rfl) ⟨⟨by decide, by decide⟩, by decide, by decide⟩ ?_
    show VM G x q h0 S 12 [(0, .ref (q 0)), (1, .int attr), (2, .int label)] [.int (bI (inR label 0 2)), .ref (q 0)]
    refine mb_if_ne C d_X7_same_12 (tgt := 19) rfl (fun c_12 => ?_) (fun c_12 => ?_)
    · skip
      refine m_aload_n C d_X7_same_19 0 rfl ?_
      refine m_callV C d_X7_same_20 ok_RX7_105 (m_testsInAll S (pile_le I)) rfl (rest := [.ref (q 0)]) rfl rfl (Nat.le_of_ble_eq_true rfl) ⟨⟨by decide, by decide⟩, by decide, by decide⟩ (fun v9 T9 e9 => ?_)
      obtain ⟨rfl, e9⟩ := e9
      refine m_eq e9 ?_
      show VM G x q h0 S 23 [(0, .ref (q 0)), (1, .int attr), (2, .int label)] [.int (nI (mTests S)), .ref (q 0)]
      refine m_bipush C d_X7_same_23 (v := (nI 8)) rfl ?_
      refine mn_icmp_ne C d_X7_same_25 (tgt := 32) rfl (by have := mTests_le I; omega) (by omega) (fun c_25 => ?_) (fun c_25 => ?_)
      · skip
        refine m_iconst C d_X7_same_32 (v := (nI 0)) rfl ?_
        refine m_st (st' := [.int (nI (cSame S attr label)), .ref (q 0)]) (by first | (rw [cSame, c_5, c_12]; first | (rw [if_pos c_25]; rfl) | (rw [if_neg c_25]; rfl)) | (rw [cSame, c_5, c_12]; rfl) | (rw [cSame, c_5]; rfl)) ?_
        exact join_33  
      · skip
        refine m_iconst C d_X7_same_28 (v := (nI 2)) rfl ?_
        refine m_goto C d_X7_same_29 (tgt := 33) rfl ?_
        refine m_st (st' := [.int (nI (cSame S attr label)), .ref (q 0)]) (by first | (rw [cSame, c_5, c_12]; first | (rw [if_pos c_25]; rfl) | (rw [if_neg c_25]; rfl)) | (rw [cSame, c_5, c_12]; rfl) | (rw [cSame, c_5]; rfl)) ?_
        exact join_33  
    · skip
      refine m_iconst C d_X7_same_15 (v := (nI 1)) rfl ?_
      refine m_goto C d_X7_same_16 (tgt := 33) rfl ?_
      refine m_st (st' := [.int (nI (cSame S attr label)), .ref (q 0)]) (by first | (rw [cSame, c_5, c_12]; first | (rw [if_pos c_25]; rfl) | (rw [if_neg c_25]; rfl)) | (rw [cSame, c_5, c_12]; rfl) | (rw [cSame, c_5]; rfl)) ?_
      exact join_33  
def dl_X7_label : List (Nat × Instr × Nat) := [(0, .aload_n 0, 1), (1, .getfield 98, 3), (4, .ifCond .le 24, 3), (7, .aload_n 0, 1), (8, .getfield 36, 3), (11, .bipush 12, 2), (13, .aload_n 0, 1), (14, .getfield 98, 3), (17, .iadd, 1), (18, .iconst 1, 1), (19, .isub, 1), (20, .baload, 1), (21, .ifCond .eq 7, 3), (24, .iconst 1, 1), (25, .goto 4, 3), (28, .iconst 0, 1), (29, .istore_n 2, 1), (30, .aload_n 0, 1), (31, .iload_n 1, 1), (32, .invokestatic 112, 3), (35, .ifCond .ne 7, 3), (38, .iconst 1, 1), (39, .goto 12, 3), (42, .iload_n 2, 1), (43, .ifCond .eq 7, 3), (46, .iconst 0, 1), (47, .goto 4, 3), (50, .iconst 2, 1), (51, .invokevirtual 84, 3), (54, .ifCond .eq 26, 3), (57, .aload_n 0, 1), (58, .getfield 48, 3), (61, .bipush 8, 2), (63, .bipush 12, 2), (65, .aload_n 0, 1), (66, .getfield 98, 3), (69, .iadd, 1), (70, .iconst 1, 1), (71, .isub, 1), (72, .imul, 1), (73, .dup2, 1), (74, .iaload, 1), (75, .iconst 1, 1), (76, .iload_n 1, 1), (77, .ishl, 1), (78, .ior, 1), (79, .iastore, 1), (80, .return_, 1)]
theorem dc_X7_label : dnL cX7_label dl_X7_label = true := by decide +kernel
theorem d_X7_label_0 : dn cX7_label 0 (.aload_n 0) 1 1 := dnAt dc_X7_label 0 rfl rfl
theorem d_X7_label_1 : dn cX7_label 1 (.getfield 98) 3 4 := dnAt dc_X7_label 1 rfl rfl
theorem d_X7_label_4 : dn cX7_label 4 (.ifCond .le 24) 3 7 := dnAt dc_X7_label 2 rfl rfl
theorem d_X7_label_7 : dn cX7_label 7 (.aload_n 0) 1 8 := dnAt dc_X7_label 3 rfl rfl
theorem d_X7_label_8 : dn cX7_label 8 (.getfield 36) 3 11 := dnAt dc_X7_label 4 rfl rfl
theorem d_X7_label_11 : dn cX7_label 11 (.bipush 12) 2 13 := dnAt dc_X7_label 5 rfl rfl
theorem d_X7_label_13 : dn cX7_label 13 (.aload_n 0) 1 14 := dnAt dc_X7_label 6 rfl rfl
theorem d_X7_label_14 : dn cX7_label 14 (.getfield 98) 3 17 := dnAt dc_X7_label 7 rfl rfl
theorem d_X7_label_17 : dn cX7_label 17 (.iadd) 1 18 := dnAt dc_X7_label 8 rfl rfl
theorem d_X7_label_18 : dn cX7_label 18 (.iconst 1) 1 19 := dnAt dc_X7_label 9 rfl rfl
theorem d_X7_label_19 : dn cX7_label 19 (.isub) 1 20 := dnAt dc_X7_label 10 rfl rfl
theorem d_X7_label_20 : dn cX7_label 20 (.baload) 1 21 := dnAt dc_X7_label 11 rfl rfl
theorem d_X7_label_21 : dn cX7_label 21 (.ifCond .eq 7) 3 24 := dnAt dc_X7_label 12 rfl rfl
theorem d_X7_label_24 : dn cX7_label 24 (.iconst 1) 1 25 := dnAt dc_X7_label 13 rfl rfl
theorem d_X7_label_25 : dn cX7_label 25 (.goto 4) 3 28 := dnAt dc_X7_label 14 rfl rfl
theorem d_X7_label_28 : dn cX7_label 28 (.iconst 0) 1 29 := dnAt dc_X7_label 15 rfl rfl
theorem d_X7_label_29 : dn cX7_label 29 (.istore_n 2) 1 30 := dnAt dc_X7_label 16 rfl rfl
theorem d_X7_label_30 : dn cX7_label 30 (.aload_n 0) 1 31 := dnAt dc_X7_label 17 rfl rfl
theorem d_X7_label_31 : dn cX7_label 31 (.iload_n 1) 1 32 := dnAt dc_X7_label 18 rfl rfl
theorem d_X7_label_32 : dn cX7_label 32 (.invokestatic 112) 3 35 := dnAt dc_X7_label 19 rfl rfl
theorem d_X7_label_35 : dn cX7_label 35 (.ifCond .ne 7) 3 38 := dnAt dc_X7_label 20 rfl rfl
theorem d_X7_label_38 : dn cX7_label 38 (.iconst 1) 1 39 := dnAt dc_X7_label 21 rfl rfl
theorem d_X7_label_39 : dn cX7_label 39 (.goto 12) 3 42 := dnAt dc_X7_label 22 rfl rfl
theorem d_X7_label_42 : dn cX7_label 42 (.iload_n 2) 1 43 := dnAt dc_X7_label 23 rfl rfl
theorem d_X7_label_43 : dn cX7_label 43 (.ifCond .eq 7) 3 46 := dnAt dc_X7_label 24 rfl rfl
theorem d_X7_label_46 : dn cX7_label 46 (.iconst 0) 1 47 := dnAt dc_X7_label 25 rfl rfl
theorem d_X7_label_47 : dn cX7_label 47 (.goto 4) 3 50 := dnAt dc_X7_label 26 rfl rfl
theorem d_X7_label_50 : dn cX7_label 50 (.iconst 2) 1 51 := dnAt dc_X7_label 27 rfl rfl
theorem d_X7_label_51 : dn cX7_label 51 (.invokevirtual 84) 3 54 := dnAt dc_X7_label 28 rfl rfl
theorem d_X7_label_54 : dn cX7_label 54 (.ifCond .eq 26) 3 57 := dnAt dc_X7_label 29 rfl rfl
theorem d_X7_label_57 : dn cX7_label 57 (.aload_n 0) 1 58 := dnAt dc_X7_label 30 rfl rfl
theorem d_X7_label_58 : dn cX7_label 58 (.getfield 48) 3 61 := dnAt dc_X7_label 31 rfl rfl
theorem d_X7_label_61 : dn cX7_label 61 (.bipush 8) 2 63 := dnAt dc_X7_label 32 rfl rfl
theorem d_X7_label_63 : dn cX7_label 63 (.bipush 12) 2 65 := dnAt dc_X7_label 33 rfl rfl
theorem d_X7_label_65 : dn cX7_label 65 (.aload_n 0) 1 66 := dnAt dc_X7_label 34 rfl rfl
theorem d_X7_label_66 : dn cX7_label 66 (.getfield 98) 3 69 := dnAt dc_X7_label 35 rfl rfl
theorem d_X7_label_69 : dn cX7_label 69 (.iadd) 1 70 := dnAt dc_X7_label 36 rfl rfl
theorem d_X7_label_70 : dn cX7_label 70 (.iconst 1) 1 71 := dnAt dc_X7_label 37 rfl rfl
theorem d_X7_label_71 : dn cX7_label 71 (.isub) 1 72 := dnAt dc_X7_label 38 rfl rfl
theorem d_X7_label_72 : dn cX7_label 72 (.imul) 1 73 := dnAt dc_X7_label 39 rfl rfl
theorem d_X7_label_73 : dn cX7_label 73 (.dup2) 1 74 := dnAt dc_X7_label 40 rfl rfl
theorem d_X7_label_74 : dn cX7_label 74 (.iaload) 1 75 := dnAt dc_X7_label 41 rfl rfl
theorem d_X7_label_75 : dn cX7_label 75 (.iconst 1) 1 76 := dnAt dc_X7_label 42 rfl rfl
theorem d_X7_label_76 : dn cX7_label 76 (.iload_n 1) 1 77 := dnAt dc_X7_label 43 rfl rfl
theorem d_X7_label_77 : dn cX7_label 77 (.ishl) 1 78 := dnAt dc_X7_label 44 rfl rfl
theorem d_X7_label_78 : dn cX7_label 78 (.ior) 1 79 := dnAt dc_X7_label 45 rfl rfl
theorem d_X7_label_79 : dn cX7_label 79 (.iastore) 1 80 := dnAt dc_X7_label 46 rfl rfl
theorem d_X7_label_80 : dn cX7_label 80 (.return_) 1 81 := dnAt dc_X7_label 47 rfl rfl
set_option maxHeartbeats 4000000 in
set_option maxRecDepth 100000 in
theorem m_label (S : mS) (label : Int32) (I : mInv S) : mC yX7_label cX7_label 3 (Option.none : Option Jvm.ClassFile.FieldType) { frames := 2, cells := 0, slots := 0, locals := 42 } [.int label] S (fun v9 T9 => v9 = none ∧ T9 = tLabel S label) := by
  refine mC.of (by decide) (Nat.le_of_ble_eq_true rfl) ?_
  intro G x q h0 C A TY
  show VM G x q h0 S 0 [(0, .ref (q 0)), (1, .int label)] []
  have join_29 : VM G x q h0 S 29 [(0, .ref (q 0)), (1, .int label)] [.int (bI (canL S))] := by
    refine m_istore_n C d_X7_label_29 (lv' := [(2, .int (bI (canL S))), (0, .ref (q 0)), (1, .int label)]) (by decide) rfl ?_
    have join_51 : VM G x q h0 S 51 [(0, .ref (q 0)), (1, .int label), (2, .int (bI (canL S)))] [.int (nI (cLabel S label)), .ref (q 0)] := by
      refine m_callV C d_X7_label_51 ok_RX7_84 (m_holds S (cLabel S label) (by unfold cLabel; split <;> (try split) <;> omega)) rfl (rest := []) rfl rfl (Nat.le_of_ble_eq_true rfl) ⟨⟨by decide, by decide⟩, by decide, by decide⟩ (fun v9 T9 e9 => ?_)
      obtain ⟨rfl, e9⟩ := e9
      refine m_eq e9 ?_
      show VM G x q h0 (uK S 0 (cLabel S label)) 54 [(0, .ref (q 0)), (1, .int label), (2, .int (bI (canL S)))] [.int (bI (decide (cLabel S label = 0)))]
      refine mb_if_eq C d_X7_label_54 (tgt := 80) rfl (fun c_54 => ?_) (fun c_54 => ?_)
      · skip
        have c1 := of_decide_eq_false c_54
        exact m_vret C A TY d_X7_label_80 (⟨rfl, by first | rw [tLabel, if_neg c1] | rw [tLabel, if_pos c0]⟩)
      · skip
        have c0 := of_decide_eq_true c_54
        obtain ⟨c1, c2⟩ := cLabel_0 c0
        obtain ⟨e1, -, e2⟩ := inR_of c1 (by decide) (by decide)
        obtain ⟨c3, c4⟩ := canL_of c2
        have i1 := pile_le I
        rw [c0]
        refine m_lve (lv' := [(0, .ref (q 0)), (1, .int (nI (tn label))), (2, .int (bI (canL S)))]) (by rw [← e1]) ?_
        refine m_aload_n C d_X7_label_57 0 rfl ?_
        refine m_get C d_X7_label_58 fd_RX7_48 (v := .ref (q 13)) rfl ?_
        refine m_bipush C d_X7_label_61 (v := (nI 8)) rfl ?_
        refine m_bipush C d_X7_label_63 (v := (nI 12)) rfl ?_
        refine m_aload_n C d_X7_label_65 0 rfl ?_
        refine m_get C d_X7_label_66 fd_RX7_98 (v := .int (nI (mK (uK S 0 0) 16))) rfl ?_
        refine m_st (st' := [.int (nI (mK S 16)), .int (nI 12), .int (nI 8), .ref (q 13)]) rfl ?_
        refine mn_iadd C d_X7_label_69 ?_
        refine m_iconst C d_X7_label_70 (v := (nI 1)) rfl ?_
        refine mn_isub C d_X7_label_71 (by omega) ?_
        refine mn_imul C d_X7_label_72 ?_
        refine m_dup2 C d_X7_label_73 rfl rfl ?_
        refine m_ald C d_X7_label_74 (k := 13) (by decide) rfl (by show _ < 168; omega) (by decide) ?_
        refine m_st (st' := [.int (nI (mN S 13 (8 * ((12 + (mK S 16)) - 1)))), .int (nI (8 * ((12 + (mK S 16)) - 1))), .ref (q 13)]) rfl ?_
        refine m_iconst C d_X7_label_75 (v := (nI 1)) rfl ?_
        refine m_iload_n C d_X7_label_76 1 rfl ?_
        refine mn_ishl C d_X7_label_77 (by omega) ?_
        refine m_st (st' := [.int (nI (2 ^ tn label)), .int (nI (mN S 13 (8 * ((12 + (mK S 16)) - 1)))), .int (nI (8 * ((12 + (mK S 16)) - 1))), .ref (q 13)]) (by rw [Nat.one_mul]) ?_
        refine mn_ior C d_X7_label_78 ?_
        refine m_ast C d_X7_label_79 (k := 13) (v := (mN S 13 (8 * ((12 + (mK S 16)) - 1))) ||| (2 ^ tn label)) (by decide) rfl (by show _ < 168; omega) (by decide) ?_
        exact m_vret C A TY d_X7_label_80 (⟨rfl, by first | rw [tLabel, if_neg c1] | rw [tLabel, if_pos c0]⟩)
    refine m_aload_n C d_X7_label_30 1 rfl ?_
    refine m_iload_n C d_X7_label_31 2 rfl ?_
    refine m_callS C d_X7_label_32 ok_RX7_112 (s_isLabel label) (rest := [.ref (q 0)]) rfl rfl (Nat.le_of_ble_eq_true rfl) ⟨⟨by decide, by decide⟩, by decide, by decide⟩ ?_
    show VM G x q h0 S 35 [(2, .int (bI (canL S))), (0, .ref (q 0)), (1, .int label)] [.int (bI (inR label 0 2)), .ref (q 0)]
    refine mb_if_ne C d_X7_label_35 (tgt := 42) rfl (fun c_35 => ?_) (fun c_35 => ?_)
    · skip
      refine m_iload_n C d_X7_label_42 0 rfl ?_
      refine mb_if_eq C d_X7_label_43 (tgt := 50) rfl (fun c_43 => ?_) (fun c_43 => ?_)
      · skip
        refine m_iconst C d_X7_label_50 (v := (nI 2)) rfl ?_
        refine m_lv (lv' := [(0, .ref (q 0)), (1, .int label), (2, .int (bI (canL S)))]) [1, 2, 0] rfl ?_
        refine m_st (st' := [.int (nI (cLabel S label)), .ref (q 0)]) (by first | (rw [cLabel, if_pos c_35]; first | rw [if_pos c_43] | rw [if_neg (by rw [c_43]; decide)]) | rw [cLabel, if_neg (by rw [c_35]; decide)]) ?_
        exact join_51  
      · skip
        refine m_iconst C d_X7_label_46 (v := (nI 0)) rfl ?_
        refine m_goto C d_X7_label_47 (tgt := 51) rfl ?_
        refine m_lv (lv' := [(0, .ref (q 0)), (1, .int label), (2, .int (bI (canL S)))]) [1, 2, 0] rfl ?_
        refine m_st (st' := [.int (nI (cLabel S label)), .ref (q 0)]) (by first | (rw [cLabel, if_pos c_35]; first | rw [if_pos c_43] | rw [if_neg (by rw [c_43]; decide)]) | rw [cLabel, if_neg (by rw [c_35]; decide)]) ?_
        exact join_51  
    · skip
      refine m_iconst C d_X7_label_38 (v := (nI 1)) rfl ?_
      refine m_goto C d_X7_label_39 (tgt := 51) rfl ?_
      refine m_lv (lv' := [(0, .ref (q 0)), (1, .int label), (2, .int (bI (canL S)))]) [1, 2, 0] rfl ?_
      refine m_st (st' := [.int (nI (cLabel S label)), .ref (q 0)]) (by first | (rw [cLabel, if_pos c_35]; first | rw [if_pos c_43] | rw [if_neg (by rw [c_43]; decide)]) | rw [cLabel, if_neg (by rw [c_35]; decide)]) ?_
      exact join_51  
  refine m_aload_n C d_X7_label_0 0 rfl ?_
  refine m_get C d_X7_label_1 fd_RX7_98 (v := .int (nI (mK S 16))) rfl ?_
  refine mn_if_le C d_X7_label_4 (tgt := 28) rfl (by have := pile_le I; omega) (fun c_4 => ?_) (fun c_4 => ?_)
  · skip
    refine m_iconst C d_X7_label_28 (v := (bI false)) rfl ?_
    refine m_st (st' := [.int (bI (canL S))]) (by first | (rw [canL, decide_eq_true c_4, c_21]; rfl) | (rw [canL, decide_eq_false (by omega)]; rfl)) ?_
    exact join_29  
  · skip
    have i1 := pile_le I
    refine m_aload_n C d_X7_label_7 0 rfl ?_
    refine m_get C d_X7_label_8 fd_RX7_36 (v := .ref (q 9)) rfl ?_
    refine m_bipush C d_X7_label_11 (v := (nI 12)) rfl ?_
    refine m_aload_n C d_X7_label_13 0 rfl ?_
    refine m_get C d_X7_label_14 fd_RX7_98 (v := .int (nI (mK S 16))) rfl ?_
    refine mn_iadd C d_X7_label_17 ?_
    refine m_iconst C d_X7_label_18 (v := (nI 1)) rfl ?_
    refine mn_isub C d_X7_label_19 (by omega) ?_
    refine m_zld C d_X7_label_20 (k := 9) (by decide) rfl (by show _ < 21; omega) (by decide) ?_
    refine mb_if_eq C d_X7_label_21 (tgt := 28) rfl (fun c_21 => ?_) (fun c_21 => ?_)
    · skip
      refine m_iconst C d_X7_label_28 (v := (bI false)) rfl ?_
      refine m_st (st' := [.int (bI (canL S))]) (by first | (rw [canL, decide_eq_true c_4, c_21]; rfl) | (rw [canL, decide_eq_false (by omega)]; rfl)) ?_
      exact join_29  
    · skip
      refine m_iconst C d_X7_label_24 (v := (bI true)) rfl ?_
      refine m_goto C d_X7_label_25 (tgt := 29) rfl ?_
      refine m_st (st' := [.int (bI (canL S))]) (by first | (rw [canL, decide_eq_true c_4, c_21]; rfl) | (rw [canL, decide_eq_false (by omega)]; rfl)) ?_
      exact join_29  
def dl_X7_both : List (Nat × Instr × Nat) := [(0, .aload_n 0, 1), (1, .getfield 98, 3), (4, .iconst 1, 1), (5, .if_icmp .le 41, 3), (8, .aload_n 0, 1), (9, .getfield 36, 3), (12, .bipush 12, 2), (14, .aload_n 0, 1), (15, .getfield 98, 3), (18, .iadd, 1), (19, .iconst 1, 1), (20, .isub, 1), (21, .baload, 1), (22, .ifCond .eq 24, 3), (25, .aload_n 0, 1), (26, .getfield 36, 3), (29, .bipush 12, 2), (31, .aload_n 0, 1), (32, .getfield 98, 3), (35, .iadd, 1), (36, .iconst 2, 1), (37, .isub, 1), (38, .baload, 1), (39, .ifCond .eq 7, 3), (42, .iconst 1, 1), (43, .goto 4, 3), (46, .iconst 0, 1), (47, .istore_n 1, 1), (48, .aload_n 0, 1), (49, .iload_n 1, 1), (50, .ifCond .eq 7, 3), (53, .iconst 0, 1), (54, .goto 4, 3), (57, .iconst 1, 1), (58, .invokevirtual 84, 3), (61, .ifCond .ne 5, 3), (64, .iconst 0, 1), (65, .ireturn, 1), (66, .bipush 8, 2), (68, .bipush 12, 2), (70, .aload_n 0, 1), (71, .getfield 98, 3), (74, .iadd, 1), (75, .iconst 2, 1), (76, .isub, 1), (77, .imul, 1), (78, .istore_n 2, 1), (79, .bipush 8, 2), (81, .bipush 12, 2), (83, .aload_n 0, 1), (84, .getfield 98, 3), (87, .iadd, 1), (88, .iconst 1, 1), (89, .isub, 1), (90, .imul, 1), (91, .istore_n 3, 1), (92, .iconst 0, 1), (93, .istore 4, 2), (95, .iload 4, 2), (97, .iconst 3, 1), (98, .if_icmp .ge 143, 3), (101, .aload_n 0, 1), (102, .getfield 42, 3), (105, .iconst 3, 1), (106, .iload_n 2, 1), (107, .imul, 1), (108, .iload 4, 2), (110, .iadd, 1), (111, .iaload, 1), (112, .istore 5, 2), (114, .aload_n 0, 1), (115, .getfield 42, 3), (118, .iconst 3, 1), (119, .iload_n 3, 1), (120, .imul, 1), (121, .iload 4, 2), (123, .iadd, 1), (124, .iaload, 1), (125, .istore 6, 2), (127, .aload_n 0, 1), (128, .getfield 42, 3), (131, .iconst 3, 1), (132, .iload_n 2, 1), (133, .imul, 1), (134, .iload 4, 2), (136, .iadd, 1), (137, .iload 5, 2), (139, .iconst (-1), 1), (140, .if_icmp .ne 8, 3), (143, .iload 6, 2), (145, .goto 23, 3), (148, .iload 6, 2), (150, .iconst (-1), 1), (151, .if_icmp .eq 10, 3), (154, .iload 6, 2), (156, .iload 5, 2), (158, .if_icmp .ne 8, 3), (161, .iload 5, 2), (163, .goto 5, 3), (166, .bipush (-2), 2), (168, .iastore, 1), (169, .aload_n 0, 1), (170, .getfield 45, 3), (173, .bipush 6, 2), (175, .iload_n 2, 1), (176, .imul, 1), (177, .iconst 2, 1), (178, .iload 4, 2), (180, .imul, 1), (181, .iadd, 1), (182, .dup2, 1), (183, .laload, 1), (184, .aload_n 0, 1), (185, .getfield 45, 3), (188, .bipush 6, 2), (190, .iload_n 3, 1), (191, .imul, 1), (192, .iconst 2, 1), (193, .iload 4, 2), (195, .imul, 1), (196, .iadd, 1), (197, .laload, 1), (198, .lor, 1), (199, .lastore, 1), (200, .aload_n 0, 1), (201, .getfield 45, 3), (204, .bipush 6, 2), (206, .iload_n 2, 1), (207, .imul, 1), (208, .iconst 2, 1), (209, .iload 4, 2), (211, .imul, 1), (212, .iadd, 1), (213, .iconst 1, 1), (214, .iadd, 1), (215, .dup2, 1), (216, .laload, 1), (217, .aload_n 0, 1), (218, .getfield 45, 3), (221, .bipush 6, 2), (223, .iload_n 3, 1), (224, .imul, 1), (225, .iconst 2, 1), (226, .iload 4, 2), (228, .imul, 1), (229, .iadd, 1), (230, .iconst 1, 1), (231, .iadd, 1), (232, .laload, 1), (233, .lor, 1), (234, .lastore, 1), (235, .iinc 4 1, 3), (238, .goto (-143), 3), (241, .aload_n 0, 1), (242, .getfield 48, 3), (245, .iload_n 2, 1), (246, .dup2, 1), (247, .iaload, 1), (248, .aload_n 0, 1), (249, .getfield 48, 3), (252, .iload_n 3, 1), (253, .iaload, 1), (254, .ior, 1), (255, .iastore, 1), (256, .aload_n 0, 1), (257, .getfield 51, 3), (260, .iload_n 2, 1), (261, .dup2, 1), (262, .iaload, 1), (263, .aload_n 0, 1), (264, .getfield 51, 3), (267, .iload_n 3, 1), (268, .iaload, 1), (269, .ior, 1), (270, .iastore, 1), (271, .aload_n 0, 1), (272, .dup, 1), (273, .getfield 98, 3), (276, .iconst 1, 1), (277, .isub, 1), (278, .putfield 98, 3), (281, .aload_n 0, 1), (282, .getfield 98, 3), (285, .ireturn, 1)]
theorem dc_X7_both : dnL cX7_both dl_X7_both = true := by decide +kernel
theorem d_X7_both_0 : dn cX7_both 0 (.aload_n 0) 1 1 := dnAt dc_X7_both 0 rfl rfl
theorem d_X7_both_1 : dn cX7_both 1 (.getfield 98) 3 4 := dnAt dc_X7_both 1 rfl rfl
theorem d_X7_both_4 : dn cX7_both 4 (.iconst 1) 1 5 := dnAt dc_X7_both 2 rfl rfl
theorem d_X7_both_5 : dn cX7_both 5 (.if_icmp .le 41) 3 8 := dnAt dc_X7_both 3 rfl rfl
theorem d_X7_both_8 : dn cX7_both 8 (.aload_n 0) 1 9 := dnAt dc_X7_both 4 rfl rfl
theorem d_X7_both_9 : dn cX7_both 9 (.getfield 36) 3 12 := dnAt dc_X7_both 5 rfl rfl
theorem d_X7_both_12 : dn cX7_both 12 (.bipush 12) 2 14 := dnAt dc_X7_both 6 rfl rfl
theorem d_X7_both_14 : dn cX7_both 14 (.aload_n 0) 1 15 := dnAt dc_X7_both 7 rfl rfl
theorem d_X7_both_15 : dn cX7_both 15 (.getfield 98) 3 18 := dnAt dc_X7_both 8 rfl rfl
theorem d_X7_both_18 : dn cX7_both 18 (.iadd) 1 19 := dnAt dc_X7_both 9 rfl rfl
theorem d_X7_both_19 : dn cX7_both 19 (.iconst 1) 1 20 := dnAt dc_X7_both 10 rfl rfl
theorem d_X7_both_20 : dn cX7_both 20 (.isub) 1 21 := dnAt dc_X7_both 11 rfl rfl
theorem d_X7_both_21 : dn cX7_both 21 (.baload) 1 22 := dnAt dc_X7_both 12 rfl rfl
theorem d_X7_both_22 : dn cX7_both 22 (.ifCond .eq 24) 3 25 := dnAt dc_X7_both 13 rfl rfl
theorem d_X7_both_25 : dn cX7_both 25 (.aload_n 0) 1 26 := dnAt dc_X7_both 14 rfl rfl
theorem d_X7_both_26 : dn cX7_both 26 (.getfield 36) 3 29 := dnAt dc_X7_both 15 rfl rfl
theorem d_X7_both_29 : dn cX7_both 29 (.bipush 12) 2 31 := dnAt dc_X7_both 16 rfl rfl
theorem d_X7_both_31 : dn cX7_both 31 (.aload_n 0) 1 32 := dnAt dc_X7_both 17 rfl rfl
theorem d_X7_both_32 : dn cX7_both 32 (.getfield 98) 3 35 := dnAt dc_X7_both 18 rfl rfl
theorem d_X7_both_35 : dn cX7_both 35 (.iadd) 1 36 := dnAt dc_X7_both 19 rfl rfl
theorem d_X7_both_36 : dn cX7_both 36 (.iconst 2) 1 37 := dnAt dc_X7_both 20 rfl rfl
theorem d_X7_both_37 : dn cX7_both 37 (.isub) 1 38 := dnAt dc_X7_both 21 rfl rfl
theorem d_X7_both_38 : dn cX7_both 38 (.baload) 1 39 := dnAt dc_X7_both 22 rfl rfl
theorem d_X7_both_39 : dn cX7_both 39 (.ifCond .eq 7) 3 42 := dnAt dc_X7_both 23 rfl rfl
theorem d_X7_both_42 : dn cX7_both 42 (.iconst 1) 1 43 := dnAt dc_X7_both 24 rfl rfl
theorem d_X7_both_43 : dn cX7_both 43 (.goto 4) 3 46 := dnAt dc_X7_both 25 rfl rfl
theorem d_X7_both_46 : dn cX7_both 46 (.iconst 0) 1 47 := dnAt dc_X7_both 26 rfl rfl
theorem d_X7_both_47 : dn cX7_both 47 (.istore_n 1) 1 48 := dnAt dc_X7_both 27 rfl rfl
theorem d_X7_both_48 : dn cX7_both 48 (.aload_n 0) 1 49 := dnAt dc_X7_both 28 rfl rfl
theorem d_X7_both_49 : dn cX7_both 49 (.iload_n 1) 1 50 := dnAt dc_X7_both 29 rfl rfl
theorem d_X7_both_50 : dn cX7_both 50 (.ifCond .eq 7) 3 53 := dnAt dc_X7_both 30 rfl rfl
theorem d_X7_both_53 : dn cX7_both 53 (.iconst 0) 1 54 := dnAt dc_X7_both 31 rfl rfl
theorem d_X7_both_54 : dn cX7_both 54 (.goto 4) 3 57 := dnAt dc_X7_both 32 rfl rfl
theorem d_X7_both_57 : dn cX7_both 57 (.iconst 1) 1 58 := dnAt dc_X7_both 33 rfl rfl
theorem d_X7_both_58 : dn cX7_both 58 (.invokevirtual 84) 3 61 := dnAt dc_X7_both 34 rfl rfl
theorem d_X7_both_61 : dn cX7_both 61 (.ifCond .ne 5) 3 64 := dnAt dc_X7_both 35 rfl rfl
theorem d_X7_both_64 : dn cX7_both 64 (.iconst 0) 1 65 := dnAt dc_X7_both 36 rfl rfl
theorem d_X7_both_65 : dn cX7_both 65 (.ireturn) 1 66 := dnAt dc_X7_both 37 rfl rfl
theorem d_X7_both_66 : dn cX7_both 66 (.bipush 8) 2 68 := dnAt dc_X7_both 38 rfl rfl
theorem d_X7_both_68 : dn cX7_both 68 (.bipush 12) 2 70 := dnAt dc_X7_both 39 rfl rfl
theorem d_X7_both_70 : dn cX7_both 70 (.aload_n 0) 1 71 := dnAt dc_X7_both 40 rfl rfl
theorem d_X7_both_71 : dn cX7_both 71 (.getfield 98) 3 74 := dnAt dc_X7_both 41 rfl rfl
theorem d_X7_both_74 : dn cX7_both 74 (.iadd) 1 75 := dnAt dc_X7_both 42 rfl rfl
theorem d_X7_both_75 : dn cX7_both 75 (.iconst 2) 1 76 := dnAt dc_X7_both 43 rfl rfl
theorem d_X7_both_76 : dn cX7_both 76 (.isub) 1 77 := dnAt dc_X7_both 44 rfl rfl
theorem d_X7_both_77 : dn cX7_both 77 (.imul) 1 78 := dnAt dc_X7_both 45 rfl rfl
theorem d_X7_both_78 : dn cX7_both 78 (.istore_n 2) 1 79 := dnAt dc_X7_both 46 rfl rfl
theorem d_X7_both_79 : dn cX7_both 79 (.bipush 8) 2 81 := dnAt dc_X7_both 47 rfl rfl
theorem d_X7_both_81 : dn cX7_both 81 (.bipush 12) 2 83 := dnAt dc_X7_both 48 rfl rfl
theorem d_X7_both_83 : dn cX7_both 83 (.aload_n 0) 1 84 := dnAt dc_X7_both 49 rfl rfl
theorem d_X7_both_84 : dn cX7_both 84 (.getfield 98) 3 87 := dnAt dc_X7_both 50 rfl rfl
theorem d_X7_both_87 : dn cX7_both 87 (.iadd) 1 88 := dnAt dc_X7_both 51 rfl rfl
theorem d_X7_both_88 : dn cX7_both 88 (.iconst 1) 1 89 := dnAt dc_X7_both 52 rfl rfl
theorem d_X7_both_89 : dn cX7_both 89 (.isub) 1 90 := dnAt dc_X7_both 53 rfl rfl
theorem d_X7_both_90 : dn cX7_both 90 (.imul) 1 91 := dnAt dc_X7_both 54 rfl rfl
theorem d_X7_both_91 : dn cX7_both 91 (.istore_n 3) 1 92 := dnAt dc_X7_both 55 rfl rfl
theorem d_X7_both_92 : dn cX7_both 92 (.iconst 0) 1 93 := dnAt dc_X7_both 56 rfl rfl
theorem d_X7_both_93 : dn cX7_both 93 (.istore 4) 2 95 := dnAt dc_X7_both 57 rfl rfl
theorem d_X7_both_95 : dn cX7_both 95 (.iload 4) 2 97 := dnAt dc_X7_both 58 rfl rfl
theorem d_X7_both_97 : dn cX7_both 97 (.iconst 3) 1 98 := dnAt dc_X7_both 59 rfl rfl
theorem d_X7_both_98 : dn cX7_both 98 (.if_icmp .ge 143) 3 101 := dnAt dc_X7_both 60 rfl rfl
theorem d_X7_both_101 : dn cX7_both 101 (.aload_n 0) 1 102 := dnAt dc_X7_both 61 rfl rfl
theorem d_X7_both_102 : dn cX7_both 102 (.getfield 42) 3 105 := dnAt dc_X7_both 62 rfl rfl
theorem d_X7_both_105 : dn cX7_both 105 (.iconst 3) 1 106 := dnAt dc_X7_both 63 rfl rfl
theorem d_X7_both_106 : dn cX7_both 106 (.iload_n 2) 1 107 := dnAt dc_X7_both 64 rfl rfl
theorem d_X7_both_107 : dn cX7_both 107 (.imul) 1 108 := dnAt dc_X7_both 65 rfl rfl
theorem d_X7_both_108 : dn cX7_both 108 (.iload 4) 2 110 := dnAt dc_X7_both 66 rfl rfl
theorem d_X7_both_110 : dn cX7_both 110 (.iadd) 1 111 := dnAt dc_X7_both 67 rfl rfl
theorem d_X7_both_111 : dn cX7_both 111 (.iaload) 1 112 := dnAt dc_X7_both 68 rfl rfl
theorem d_X7_both_112 : dn cX7_both 112 (.istore 5) 2 114 := dnAt dc_X7_both 69 rfl rfl
theorem d_X7_both_114 : dn cX7_both 114 (.aload_n 0) 1 115 := dnAt dc_X7_both 70 rfl rfl
theorem d_X7_both_115 : dn cX7_both 115 (.getfield 42) 3 118 := dnAt dc_X7_both 71 rfl rfl
theorem d_X7_both_118 : dn cX7_both 118 (.iconst 3) 1 119 := dnAt dc_X7_both 72 rfl rfl
theorem d_X7_both_119 : dn cX7_both 119 (.iload_n 3) 1 120 := dnAt dc_X7_both 73 rfl rfl
theorem d_X7_both_120 : dn cX7_both 120 (.imul) 1 121 := dnAt dc_X7_both 74 rfl rfl
theorem d_X7_both_121 : dn cX7_both 121 (.iload 4) 2 123 := dnAt dc_X7_both 75 rfl rfl
theorem d_X7_both_123 : dn cX7_both 123 (.iadd) 1 124 := dnAt dc_X7_both 76 rfl rfl
theorem d_X7_both_124 : dn cX7_both 124 (.iaload) 1 125 := dnAt dc_X7_both 77 rfl rfl
theorem d_X7_both_125 : dn cX7_both 125 (.istore 6) 2 127 := dnAt dc_X7_both 78 rfl rfl
theorem d_X7_both_127 : dn cX7_both 127 (.aload_n 0) 1 128 := dnAt dc_X7_both 79 rfl rfl
theorem d_X7_both_128 : dn cX7_both 128 (.getfield 42) 3 131 := dnAt dc_X7_both 80 rfl rfl
theorem d_X7_both_131 : dn cX7_both 131 (.iconst 3) 1 132 := dnAt dc_X7_both 81 rfl rfl
theorem d_X7_both_132 : dn cX7_both 132 (.iload_n 2) 1 133 := dnAt dc_X7_both 82 rfl rfl
theorem d_X7_both_133 : dn cX7_both 133 (.imul) 1 134 := dnAt dc_X7_both 83 rfl rfl
theorem d_X7_both_134 : dn cX7_both 134 (.iload 4) 2 136 := dnAt dc_X7_both 84 rfl rfl
theorem d_X7_both_136 : dn cX7_both 136 (.iadd) 1 137 := dnAt dc_X7_both 85 rfl rfl
theorem d_X7_both_137 : dn cX7_both 137 (.iload 5) 2 139 := dnAt dc_X7_both 86 rfl rfl
theorem d_X7_both_139 : dn cX7_both 139 (.iconst (-1)) 1 140 := dnAt dc_X7_both 87 rfl rfl
theorem d_X7_both_140 : dn cX7_both 140 (.if_icmp .ne 8) 3 143 := dnAt dc_X7_both 88 rfl rfl
theorem d_X7_both_143 : dn cX7_both 143 (.iload 6) 2 145 := dnAt dc_X7_both 89 rfl rfl
theorem d_X7_both_145 : dn cX7_both 145 (.goto 23) 3 148 := dnAt dc_X7_both 90 rfl rfl
theorem d_X7_both_148 : dn cX7_both 148 (.iload 6) 2 150 := dnAt dc_X7_both 91 rfl rfl
theorem d_X7_both_150 : dn cX7_both 150 (.iconst (-1)) 1 151 := dnAt dc_X7_both 92 rfl rfl
theorem d_X7_both_151 : dn cX7_both 151 (.if_icmp .eq 10) 3 154 := dnAt dc_X7_both 93 rfl rfl
theorem d_X7_both_154 : dn cX7_both 154 (.iload 6) 2 156 := dnAt dc_X7_both 94 rfl rfl
theorem d_X7_both_156 : dn cX7_both 156 (.iload 5) 2 158 := dnAt dc_X7_both 95 rfl rfl
theorem d_X7_both_158 : dn cX7_both 158 (.if_icmp .ne 8) 3 161 := dnAt dc_X7_both 96 rfl rfl
theorem d_X7_both_161 : dn cX7_both 161 (.iload 5) 2 163 := dnAt dc_X7_both 97 rfl rfl
theorem d_X7_both_163 : dn cX7_both 163 (.goto 5) 3 166 := dnAt dc_X7_both 98 rfl rfl
theorem d_X7_both_166 : dn cX7_both 166 (.bipush (-2)) 2 168 := dnAt dc_X7_both 99 rfl rfl
theorem d_X7_both_168 : dn cX7_both 168 (.iastore) 1 169 := dnAt dc_X7_both 100 rfl rfl
theorem d_X7_both_169 : dn cX7_both 169 (.aload_n 0) 1 170 := dnAt dc_X7_both 101 rfl rfl
theorem d_X7_both_170 : dn cX7_both 170 (.getfield 45) 3 173 := dnAt dc_X7_both 102 rfl rfl
theorem d_X7_both_173 : dn cX7_both 173 (.bipush 6) 2 175 := dnAt dc_X7_both 103 rfl rfl
theorem d_X7_both_175 : dn cX7_both 175 (.iload_n 2) 1 176 := dnAt dc_X7_both 104 rfl rfl
theorem d_X7_both_176 : dn cX7_both 176 (.imul) 1 177 := dnAt dc_X7_both 105 rfl rfl
theorem d_X7_both_177 : dn cX7_both 177 (.iconst 2) 1 178 := dnAt dc_X7_both 106 rfl rfl
theorem d_X7_both_178 : dn cX7_both 178 (.iload 4) 2 180 := dnAt dc_X7_both 107 rfl rfl
theorem d_X7_both_180 : dn cX7_both 180 (.imul) 1 181 := dnAt dc_X7_both 108 rfl rfl
theorem d_X7_both_181 : dn cX7_both 181 (.iadd) 1 182 := dnAt dc_X7_both 109 rfl rfl
theorem d_X7_both_182 : dn cX7_both 182 (.dup2) 1 183 := dnAt dc_X7_both 110 rfl rfl
theorem d_X7_both_183 : dn cX7_both 183 (.laload) 1 184 := dnAt dc_X7_both 111 rfl rfl
theorem d_X7_both_184 : dn cX7_both 184 (.aload_n 0) 1 185 := dnAt dc_X7_both 112 rfl rfl
theorem d_X7_both_185 : dn cX7_both 185 (.getfield 45) 3 188 := dnAt dc_X7_both 113 rfl rfl
theorem d_X7_both_188 : dn cX7_both 188 (.bipush 6) 2 190 := dnAt dc_X7_both 114 rfl rfl
theorem d_X7_both_190 : dn cX7_both 190 (.iload_n 3) 1 191 := dnAt dc_X7_both 115 rfl rfl
theorem d_X7_both_191 : dn cX7_both 191 (.imul) 1 192 := dnAt dc_X7_both 116 rfl rfl
theorem d_X7_both_192 : dn cX7_both 192 (.iconst 2) 1 193 := dnAt dc_X7_both 117 rfl rfl
theorem d_X7_both_193 : dn cX7_both 193 (.iload 4) 2 195 := dnAt dc_X7_both 118 rfl rfl
theorem d_X7_both_195 : dn cX7_both 195 (.imul) 1 196 := dnAt dc_X7_both 119 rfl rfl
theorem d_X7_both_196 : dn cX7_both 196 (.iadd) 1 197 := dnAt dc_X7_both 120 rfl rfl
theorem d_X7_both_197 : dn cX7_both 197 (.laload) 1 198 := dnAt dc_X7_both 121 rfl rfl
theorem d_X7_both_198 : dn cX7_both 198 (.lor) 1 199 := dnAt dc_X7_both 122 rfl rfl
theorem d_X7_both_199 : dn cX7_both 199 (.lastore) 1 200 := dnAt dc_X7_both 123 rfl rfl
theorem d_X7_both_200 : dn cX7_both 200 (.aload_n 0) 1 201 := dnAt dc_X7_both 124 rfl rfl
theorem d_X7_both_201 : dn cX7_both 201 (.getfield 45) 3 204 := dnAt dc_X7_both 125 rfl rfl
theorem d_X7_both_204 : dn cX7_both 204 (.bipush 6) 2 206 := dnAt dc_X7_both 126 rfl rfl
theorem d_X7_both_206 : dn cX7_both 206 (.iload_n 2) 1 207 := dnAt dc_X7_both 127 rfl rfl
theorem d_X7_both_207 : dn cX7_both 207 (.imul) 1 208 := dnAt dc_X7_both 128 rfl rfl
theorem d_X7_both_208 : dn cX7_both 208 (.iconst 2) 1 209 := dnAt dc_X7_both 129 rfl rfl
theorem d_X7_both_209 : dn cX7_both 209 (.iload 4) 2 211 := dnAt dc_X7_both 130 rfl rfl
theorem d_X7_both_211 : dn cX7_both 211 (.imul) 1 212 := dnAt dc_X7_both 131 rfl rfl
theorem d_X7_both_212 : dn cX7_both 212 (.iadd) 1 213 := dnAt dc_X7_both 132 rfl rfl
theorem d_X7_both_213 : dn cX7_both 213 (.iconst 1) 1 214 := dnAt dc_X7_both 133 rfl rfl
theorem d_X7_both_214 : dn cX7_both 214 (.iadd) 1 215 := dnAt dc_X7_both 134 rfl rfl
theorem d_X7_both_215 : dn cX7_both 215 (.dup2) 1 216 := dnAt dc_X7_both 135 rfl rfl
theorem d_X7_both_216 : dn cX7_both 216 (.laload) 1 217 := dnAt dc_X7_both 136 rfl rfl
theorem d_X7_both_217 : dn cX7_both 217 (.aload_n 0) 1 218 := dnAt dc_X7_both 137 rfl rfl
theorem d_X7_both_218 : dn cX7_both 218 (.getfield 45) 3 221 := dnAt dc_X7_both 138 rfl rfl
theorem d_X7_both_221 : dn cX7_both 221 (.bipush 6) 2 223 := dnAt dc_X7_both 139 rfl rfl
theorem d_X7_both_223 : dn cX7_both 223 (.iload_n 3) 1 224 := dnAt dc_X7_both 140 rfl rfl
theorem d_X7_both_224 : dn cX7_both 224 (.imul) 1 225 := dnAt dc_X7_both 141 rfl rfl
theorem d_X7_both_225 : dn cX7_both 225 (.iconst 2) 1 226 := dnAt dc_X7_both 142 rfl rfl
theorem d_X7_both_226 : dn cX7_both 226 (.iload 4) 2 228 := dnAt dc_X7_both 143 rfl rfl
theorem d_X7_both_228 : dn cX7_both 228 (.imul) 1 229 := dnAt dc_X7_both 144 rfl rfl
theorem d_X7_both_229 : dn cX7_both 229 (.iadd) 1 230 := dnAt dc_X7_both 145 rfl rfl
theorem d_X7_both_230 : dn cX7_both 230 (.iconst 1) 1 231 := dnAt dc_X7_both 146 rfl rfl
theorem d_X7_both_231 : dn cX7_both 231 (.iadd) 1 232 := dnAt dc_X7_both 147 rfl rfl
theorem d_X7_both_232 : dn cX7_both 232 (.laload) 1 233 := dnAt dc_X7_both 148 rfl rfl
theorem d_X7_both_233 : dn cX7_both 233 (.lor) 1 234 := dnAt dc_X7_both 149 rfl rfl
theorem d_X7_both_234 : dn cX7_both 234 (.lastore) 1 235 := dnAt dc_X7_both 150 rfl rfl
theorem d_X7_both_235 : dn cX7_both 235 (.iinc 4 1) 3 238 := dnAt dc_X7_both 151 rfl rfl
theorem d_X7_both_238 : dn cX7_both 238 (.goto (-143)) 3 241 := dnAt dc_X7_both 152 rfl rfl
theorem d_X7_both_241 : dn cX7_both 241 (.aload_n 0) 1 242 := dnAt dc_X7_both 153 rfl rfl
theorem d_X7_both_242 : dn cX7_both 242 (.getfield 48) 3 245 := dnAt dc_X7_both 154 rfl rfl
theorem d_X7_both_245 : dn cX7_both 245 (.iload_n 2) 1 246 := dnAt dc_X7_both 155 rfl rfl
theorem d_X7_both_246 : dn cX7_both 246 (.dup2) 1 247 := dnAt dc_X7_both 156 rfl rfl
theorem d_X7_both_247 : dn cX7_both 247 (.iaload) 1 248 := dnAt dc_X7_both 157 rfl rfl
theorem d_X7_both_248 : dn cX7_both 248 (.aload_n 0) 1 249 := dnAt dc_X7_both 158 rfl rfl
theorem d_X7_both_249 : dn cX7_both 249 (.getfield 48) 3 252 := dnAt dc_X7_both 159 rfl rfl
theorem d_X7_both_252 : dn cX7_both 252 (.iload_n 3) 1 253 := dnAt dc_X7_both 160 rfl rfl
theorem d_X7_both_253 : dn cX7_both 253 (.iaload) 1 254 := dnAt dc_X7_both 161 rfl rfl
theorem d_X7_both_254 : dn cX7_both 254 (.ior) 1 255 := dnAt dc_X7_both 162 rfl rfl
theorem d_X7_both_255 : dn cX7_both 255 (.iastore) 1 256 := dnAt dc_X7_both 163 rfl rfl
theorem d_X7_both_256 : dn cX7_both 256 (.aload_n 0) 1 257 := dnAt dc_X7_both 164 rfl rfl
theorem d_X7_both_257 : dn cX7_both 257 (.getfield 51) 3 260 := dnAt dc_X7_both 165 rfl rfl
theorem d_X7_both_260 : dn cX7_both 260 (.iload_n 2) 1 261 := dnAt dc_X7_both 166 rfl rfl
theorem d_X7_both_261 : dn cX7_both 261 (.dup2) 1 262 := dnAt dc_X7_both 167 rfl rfl
theorem d_X7_both_262 : dn cX7_both 262 (.iaload) 1 263 := dnAt dc_X7_both 168 rfl rfl
theorem d_X7_both_263 : dn cX7_both 263 (.aload_n 0) 1 264 := dnAt dc_X7_both 169 rfl rfl
theorem d_X7_both_264 : dn cX7_both 264 (.getfield 51) 3 267 := dnAt dc_X7_both 170 rfl rfl
theorem d_X7_both_267 : dn cX7_both 267 (.iload_n 3) 1 268 := dnAt dc_X7_both 171 rfl rfl
theorem d_X7_both_268 : dn cX7_both 268 (.iaload) 1 269 := dnAt dc_X7_both 172 rfl rfl
theorem d_X7_both_269 : dn cX7_both 269 (.ior) 1 270 := dnAt dc_X7_both 173 rfl rfl
theorem d_X7_both_270 : dn cX7_both 270 (.iastore) 1 271 := dnAt dc_X7_both 174 rfl rfl
theorem d_X7_both_271 : dn cX7_both 271 (.aload_n 0) 1 272 := dnAt dc_X7_both 175 rfl rfl
theorem d_X7_both_272 : dn cX7_both 272 (.dup) 1 273 := dnAt dc_X7_both 176 rfl rfl
theorem d_X7_both_273 : dn cX7_both 273 (.getfield 98) 3 276 := dnAt dc_X7_both 177 rfl rfl
theorem d_X7_both_276 : dn cX7_both 276 (.iconst 1) 1 277 := dnAt dc_X7_both 178 rfl rfl
theorem d_X7_both_277 : dn cX7_both 277 (.isub) 1 278 := dnAt dc_X7_both 179 rfl rfl
theorem d_X7_both_278 : dn cX7_both 278 (.putfield 98) 3 281 := dnAt dc_X7_both 180 rfl rfl
theorem d_X7_both_281 : dn cX7_both 281 (.aload_n 0) 1 282 := dnAt dc_X7_both 181 rfl rfl
theorem d_X7_both_282 : dn cX7_both 282 (.getfield 98) 3 285 := dnAt dc_X7_both 182 rfl rfl
theorem d_X7_both_285 : dn cX7_both 285 (.ireturn) 1 286 := dnAt dc_X7_both 183 rfl rfl
set_option maxHeartbeats 4000000 in
set_option maxRecDepth 100000 in
theorem m_both (S : mS) (I : mInv S) : mC yX7_both cX7_both 7 (Option.some Jvm.ClassFile.FieldType.int) { frames := 1, cells := 0, slots := 0, locals := 21 } [] S (fun v9 T9 => v9 = (some (.int (nI (rBoth S)))) ∧ T9 = tBoth S) := by
  refine mC.of (by decide) (Nat.le_of_ble_eq_true rfl) ?_
  intro G x q h0 C A TY
  show VM G x q h0 S 0 [(0, .ref (q 0))] []
  have join_47 : VM G x q h0 S 47 [(0, .ref (q 0))] [.int (bI (canB S))] := by
    refine m_istore_n C d_X7_both_47 (lv' := [(1, .int (bI (canB S))), (0, .ref (q 0))]) (by decide) rfl ?_
    have join_58 : VM G x q h0 S 58 [(0, .ref (q 0))] [.int (nI (cBoth S)), .ref (q 0)] := by
      refine m_callV C d_X7_both_58 ok_RX7_84 (m_holds S (cBoth S) (by unfold cBoth; split <;> omega)) rfl (rest := []) rfl rfl (Nat.le_of_ble_eq_true rfl) ⟨⟨by decide, by decide⟩, by decide, by decide⟩ (fun v9 T9 e9 => ?_)
      obtain ⟨rfl, e9⟩ := e9
      refine m_eq e9 ?_
      show VM G x q h0 (uK S 0 (cBoth S)) 61 [(0, .ref (q 0))] [.int (bI (decide (cBoth S = 0)))]
      refine mb_if_ne C d_X7_both_61 (tgt := 66) rfl (fun c_61 => ?_) (fun c_61 => ?_)
      · skip
        have c0 := of_decide_eq_true c_61
        have c1 : canB S = true := by unfold cBoth at c0; split at c0 <;> first | assumption | omega
        obtain ⟨c2, c3, c4⟩ := canB_of c1
        have i1 := pile_le I
        rw [c0]
        refine m_bipush C d_X7_both_66 (v := (nI 8)) rfl ?_
        refine m_bipush C d_X7_both_68 (v := (nI 12)) rfl ?_
        refine m_aload_n C d_X7_both_70 0 rfl ?_
        refine m_get C d_X7_both_71 fd_RX7_98 (v := .int (nI (mK (uK S 0 0) 16))) rfl ?_
        refine m_st (st' := [.int (nI (mK S 16)), .int (nI 12), .int (nI 8)]) rfl ?_
        refine mn_iadd C d_X7_both_74 ?_
        refine m_iconst C d_X7_both_75 (v := (nI 2)) rfl ?_
        refine mn_isub C d_X7_both_76 (by omega) ?_
        refine mn_imul C d_X7_both_77 ?_
        refine m_istore_n C d_X7_both_78 (lv' := [(2, .int (nI (8 * ((12 + (mK S 16)) - 2)))), (0, .ref (q 0))]) (by decide) rfl ?_
        refine m_bipush C d_X7_both_79 (v := (nI 8)) rfl ?_
        refine m_bipush C d_X7_both_81 (v := (nI 12)) rfl ?_
        refine m_aload_n C d_X7_both_83 1 rfl ?_
        refine m_get C d_X7_both_84 fd_RX7_98 (v := .int (nI (mK (uK S 0 0) 16))) rfl ?_
        refine m_st (st' := [.int (nI (mK S 16)), .int (nI 12), .int (nI 8)]) rfl ?_
        refine mn_iadd C d_X7_both_87 ?_
        refine m_iconst C d_X7_both_88 (v := (nI 1)) rfl ?_
        refine mn_isub C d_X7_both_89 (by omega) ?_
        refine mn_imul C d_X7_both_90 ?_
        refine m_istore_n C d_X7_both_91 (lv' := [(3, .int (nI (8 * ((12 + (mK S 16)) - 1)))), (2, .int (nI (8 * ((12 + (mK S 16)) - 2)))), (0, .ref (q 0))]) (by decide) rfl ?_
        refine m_iconst C d_X7_both_92 (v := (nI 0)) rfl ?_
        refine m_istore C d_X7_both_93 (lv' := [(4, .int (nI 0)), (3, .int (nI (8 * ((12 + (mK S 16)) - 1)))), (2, .int (nI (8 * ((12 + (mK S 16)) - 2)))), (0, .ref (q 0))]) (by decide) rfl ?_
        have loop_95 : ∀ (fuel : Nat) (k : Nat), (k ≤ 3) → (4 - k) < fuel → VM G x q h0 (boL (uK S 0 0) (8 * (12 + mK S 16 - 2)) (8 * (12 + mK S 16 - 1)) k) 95 [(0, .ref (q 0)), (2, .int (nI (8 * (12 + mK S 16 - 2)))), (3, .int (nI (8 * (12 + mK S 16 - 1)))), (4, .int (nI k))] [] := by
          intro fuel
          induction fuel with
          | zero => intro k hk hf9; exact absurd hf9 (Nat.not_lt_zero _)
          | succ fuel ih_95 =>
            intro k hk hf9
            refine m_iload C d_X7_both_95 3 rfl ?_
            refine m_iconst C d_X7_both_97 (v := (nI 3)) rfl ?_
            refine mn_icmp_ge C d_X7_both_98 (tgt := 241) rfl (by omega) (by omega) (fun c_98 => ?_) (fun c_98 => ?_)
            · skip
              obtain rfl : k = 3 := by omega
              refine m_aload_n C d_X7_both_241 0 rfl ?_
              refine m_get C d_X7_both_242 fd_RX7_48 (v := .ref (q 13)) rfl ?_
              refine m_iload_n C d_X7_both_245 1 rfl ?_
              refine m_dup2 C d_X7_both_246 rfl rfl ?_
              refine m_ald C d_X7_both_247 (k := 13) (by decide) rfl (by show _ < 168; omega) (by decide) ?_
              refine m_st (st' := [.int (nI (mN S 13 (8 * (12 + mK S 16 - 2)))), .int (nI (8 * (12 + mK S 16 - 2))), .ref (q 13)]) rfl ?_
              refine m_aload_n C d_X7_both_248 0 rfl ?_
              refine m_get C d_X7_both_249 fd_RX7_48 (v := .ref (q 13)) rfl ?_
              refine m_iload_n C d_X7_both_252 2 rfl ?_
              refine m_ald C d_X7_both_253 (k := 13) (by decide) rfl (by show _ < 168; omega) (by decide) ?_
              refine m_st (st' := [.int (nI (mN S 13 (8 * (12 + mK S 16 - 1)))), .int (nI (mN S 13 (8 * (12 + mK S 16 - 2)))), .int (nI (8 * (12 + mK S 16 - 2))), .ref (q 13)]) rfl ?_
              refine mn_ior C d_X7_both_254 ?_
              refine m_ast C d_X7_both_255 (k := 13) (v := (mN S 13 (8 * (12 + mK S 16 - 2))) ||| (mN S 13 (8 * (12 + mK S 16 - 1)))) (by decide) rfl (by show _ < 168; omega) (by decide) ?_
              refine m_aload_n C d_X7_both_256 0 rfl ?_
              refine m_get C d_X7_both_257 fd_RX7_51 (v := .ref (q 14)) rfl ?_
              refine m_iload_n C d_X7_both_260 1 rfl ?_
              refine m_dup2 C d_X7_both_261 rfl rfl ?_
              refine m_ald C d_X7_both_262 (k := 14) (by decide) rfl (by show _ < 168; omega) (by decide) ?_
              refine m_st (st' := [.int (nI (mN S 14 (8 * (12 + mK S 16 - 2)))), .int (nI (8 * (12 + mK S 16 - 2))), .ref (q 14)]) rfl ?_
              refine m_aload_n C d_X7_both_263 0 rfl ?_
              refine m_get C d_X7_both_264 fd_RX7_51 (v := .ref (q 14)) rfl ?_
              refine m_iload_n C d_X7_both_267 2 rfl ?_
              refine m_ald C d_X7_both_268 (k := 14) (by decide) rfl (by show _ < 168; omega) (by decide) ?_
              refine m_st (st' := [.int (nI (mN S 14 (8 * (12 + mK S 16 - 1)))), .int (nI (mN S 14 (8 * (12 + mK S 16 - 2)))), .int (nI (8 * (12 + mK S 16 - 2))), .ref (q 14)]) rfl ?_
              refine mn_ior C d_X7_both_269 ?_
              refine m_ast C d_X7_both_270 (k := 14) (v := (mN S 14 (8 * (12 + mK S 16 - 2))) ||| (mN S 14 (8 * (12 + mK S 16 - 1)))) (by decide) rfl (by show _ < 168; omega) (by decide) ?_
              refine m_aload_n C d_X7_both_271 0 rfl ?_
              refine m_dup C d_X7_both_272 rfl ?_
              refine m_get C d_X7_both_273 fd_RX7_98 (v := .int (nI (mK (uN (uN (boL (uK S 0 0) (8 * (12 + mK S 16 - 2)) (8 * (12 + mK S 16 - 1)) 3) 13 (8 * (12 + mK S 16 - 2)) ((mN S 13 (8 * (12 + mK S 16 - 2))) ||| (mN S 13 (8 * (12 + mK S 16 - 1))))) 14 (8 * (12 + mK S 16 - 2)) ((mN S 14 (8 * (12 + mK S 16 - 2))) ||| (mN S 14 (8 * (12 + mK S 16 - 1))))) 16))) rfl ?_
              refine m_st (st' := [.int (nI (mK S 16)), .ref (q 0)]) rfl ?_
              refine m_iconst C d_X7_both_276 (v := (nI 1)) rfl ?_
              refine mn_isub C d_X7_both_277 (by omega) ?_
              refine m_putK C d_X7_both_278 pf_RX7_98 (by decide) (fun _ _ => rfl) ?_
              refine m_aload_n C d_X7_both_281 0 rfl ?_
              refine m_get C d_X7_both_282 fd_RX7_98 (v := .int (nI (mK (uK (uN (uN (boL (uK S 0 0) (8 * (12 + mK S 16 - 2)) (8 * (12 + mK S 16 - 1)) 3) 13 (8 * (12 + mK S 16 - 2)) ((mN S 13 (8 * (12 + mK S 16 - 2))) ||| (mN S 13 (8 * (12 + mK S 16 - 1))))) 14 (8 * (12 + mK S 16 - 2)) ((mN S 14 (8 * (12 + mK S 16 - 2))) ||| (mN S 14 (8 * (12 + mK S 16 - 1))))) 16 ((mK S 16) - 1)) 16))) rfl ?_
              refine m_st (st' := [.int (nI ((mK S 16) - 1))]) rfl ?_
              refine m_st (st' := [.int (nI (rBoth S))]) (by rw [rBoth, if_pos c0]) ?_
              exact m_iret C A TY d_X7_both_285 rfl (⟨rfl, by rw [tBoth, if_pos c0]; rfl⟩)
            · skip
              refine m_aload_n C d_X7_both_101 0 rfl ?_
              refine m_get C d_X7_both_102 fd_RX7_42 (v := .ref (q 11)) rfl ?_
              refine m_iconst C d_X7_both_105 (v := (nI 3)) rfl ?_
              refine m_iload_n C d_X7_both_106 1 rfl ?_
              refine mn_imul C d_X7_both_107 ?_
              refine m_iload C d_X7_both_108 3 rfl ?_
              refine mn_iadd C d_X7_both_110 ?_
              refine m_aldI C d_X7_both_111 (k := 11) (by decide) rfl (by show _ < 504; omega) (by decide) ?_
              refine m_st (st' := [.int (mI S 11 (3 * (8 * (12 + mK S 16 - 2)) + k))]) (by rw [boL_rI]; rfl) ?_
              refine m_istore C d_X7_both_112 (lv' := [(5, .int (mI S 11 (3 * (8 * (12 + mK S 16 - 2)) + k))), (0, .ref (q 0)), (2, .int (nI (8 * (12 + mK S 16 - 2)))), (3, .int (nI (8 * (12 + mK S 16 - 1)))), (4, .int (nI k))]) (by decide) rfl ?_
              refine m_aload_n C d_X7_both_114 1 rfl ?_
              refine m_get C d_X7_both_115 fd_RX7_42 (v := .ref (q 11)) rfl ?_
              refine m_iconst C d_X7_both_118 (v := (nI 3)) rfl ?_
              refine m_iload_n C d_X7_both_119 3 rfl ?_
              refine mn_imul C d_X7_both_120 ?_
              refine m_iload C d_X7_both_121 4 rfl ?_
              refine mn_iadd C d_X7_both_123 ?_
              refine m_aldI C d_X7_both_124 (k := 11) (by decide) rfl (by show _ < 504; omega) (by decide) ?_
              refine m_st (st' := [.int (mI S 11 (3 * (8 * (12 + mK S 16 - 1)) + k))]) (by rw [boL_rIo (by omega) (by omega)]; rfl) ?_
              refine m_istore C d_X7_both_125 (lv' := [(6, .int (mI S 11 (3 * (8 * (12 + mK S 16 - 1)) + k))), (5, .int (mI S 11 (3 * (8 * (12 + mK S 16 - 2)) + k))), (0, .ref (q 0)), (2, .int (nI (8 * (12 + mK S 16 - 2)))), (3, .int (nI (8 * (12 + mK S 16 - 1)))), (4, .int (nI k))]) (by decide) rfl ?_
              have join_168 : VM G x q h0 (boL (uK S 0 0) (8 * (12 + mK S 16 - 2)) (8 * (12 + mK S 16 - 1)) k) 168 [(0, .ref (q 0)), (2, .int (nI (8 * (12 + mK S 16 - 2)))), (3, .int (nI (8 * (12 + mK S 16 - 1)))), (4, .int (nI k))] [.int (vJoin (mI S 11 (3 * (8 * (12 + mK S 16 - 2)) + k)) (mI S 11 (3 * (8 * (12 + mK S 16 - 1)) + k))), .int (nI (3 * (8 * (12 + mK S 16 - 2)) + k)), .ref (q 11)] := by
                refine m_astI C d_X7_both_168 (k := 11) (v := vJoin (mI S 11 (3 * (8 * (12 + mK S 16 - 2)) + k)) (mI S 11 (3 * (8 * (12 + mK S 16 - 1)) + k))) (by decide) rfl (by show _ < 504; omega) (by decide) ?_
                refine m_aload_n C d_X7_both_169 0 rfl ?_
                refine m_get C d_X7_both_170 fd_RX7_45 (v := .ref (q 12)) rfl ?_
                refine m_bipush C d_X7_both_173 (v := (nI 6)) rfl ?_
                refine m_iload_n C d_X7_both_175 1 rfl ?_
                refine mn_imul C d_X7_both_176 ?_
                refine m_iconst C d_X7_both_177 (v := (nI 2)) rfl ?_
                refine m_iload C d_X7_both_178 3 rfl ?_
                refine mn_imul C d_X7_both_180 ?_
                refine mn_iadd C d_X7_both_181 ?_
                refine m_dup2 C d_X7_both_182 rfl rfl ?_
                refine m_lld C d_X7_both_183 (k := 12) (by decide) rfl (by show _ < 1008; omega) (by decide) ?_
                refine m_st (st' := [.long (lN (mN (boL (uK S 0 0) (8 * (12 + mK S 16 - 2)) (8 * (12 + mK S 16 - 1)) k) 12 ((6 * (8 * (12 + mK S 16 - 2))) + (2 * k)))), .int (nI ((6 * (8 * (12 + mK S 16 - 2))) + (2 * k))), .ref (q 12)]) rfl ?_
                refine m_st (st' := [.long (lN (mN S 12 (6 * (8 * (12 + mK S 16 - 2)) + 2 * k))), .int (nI ((6 * (8 * (12 + mK S 16 - 2))) + (2 * k))), .ref (q 12)]) (by rw [boL_rN (by omega)]; rfl) ?_
                refine m_aload_n C d_X7_both_184 0 rfl ?_
                refine m_get C d_X7_both_185 fd_RX7_45 (v := .ref (q 12)) rfl ?_
                refine m_bipush C d_X7_both_188 (v := (nI 6)) rfl ?_
                refine m_iload_n C d_X7_both_190 2 rfl ?_
                refine mn_imul C d_X7_both_191 ?_
                refine m_iconst C d_X7_both_192 (v := (nI 2)) rfl ?_
                refine m_iload C d_X7_both_193 3 rfl ?_
                refine mn_imul C d_X7_both_195 ?_
                refine mn_iadd C d_X7_both_196 ?_
                refine m_lld C d_X7_both_197 (k := 12) (by decide) rfl (by show _ < 1008; omega) (by decide) ?_
                refine m_st (st' := [.long (lN (mN (boL (uK S 0 0) (8 * (12 + mK S 16 - 2)) (8 * (12 + mK S 16 - 1)) k) 12 ((6 * (8 * (12 + mK S 16 - 1))) + (2 * k)))), .long (lN (mN S 12 (6 * (8 * (12 + mK S 16 - 2)) + 2 * k))), .int (nI ((6 * (8 * (12 + mK S 16 - 2))) + (2 * k))), .ref (q 12)]) rfl ?_
                refine m_st (st' := [.long (lN (mN S 12 (6 * (8 * (12 + mK S 16 - 1)) + 2 * k))), .long (lN (mN S 12 (6 * (8 * (12 + mK S 16 - 2)) + 2 * k))), .int (nI ((6 * (8 * (12 + mK S 16 - 2))) + (2 * k))), .ref (q 12)]) (by rw [boL_rN (by omega)]; rfl) ?_
                refine mn_lor C d_X7_both_198 ?_
                refine m_lst C d_X7_both_199 (k := 12) (v := (mN S 12 (6 * (8 * (12 + mK S 16 - 2)) + 2 * k)) ||| (mN S 12 (6 * (8 * (12 + mK S 16 - 1)) + 2 * k))) (by decide) rfl (by show _ < 1008; omega) (by decide) ?_
                refine m_aload_n C d_X7_both_200 0 rfl ?_
                refine m_get C d_X7_both_201 fd_RX7_45 (v := .ref (q 12)) rfl ?_
                refine m_bipush C d_X7_both_204 (v := (nI 6)) rfl ?_
                refine m_iload_n C d_X7_both_206 1 rfl ?_
                refine mn_imul C d_X7_both_207 ?_
                refine m_iconst C d_X7_both_208 (v := (nI 2)) rfl ?_
                refine m_iload C d_X7_both_209 3 rfl ?_
                refine mn_imul C d_X7_both_211 ?_
                refine mn_iadd C d_X7_both_212 ?_
                refine m_iconst C d_X7_both_213 (v := (nI 1)) rfl ?_
                refine mn_iadd C d_X7_both_214 ?_
                refine m_dup2 C d_X7_both_215 rfl rfl ?_
                refine m_lld C d_X7_both_216 (k := 12) (by decide) rfl (by show _ < 1008; omega) (by decide) ?_
                refine m_st (st' := [.long (lN (mN S 12 (6 * (8 * (12 + mK S 16 - 2)) + 2 * k + 1))), .int (nI (((6 * (8 * (12 + mK S 16 - 2))) + (2 * k)) + 1)), .ref (q 12)]) (by rw [mN_uN, if_neg (by omega), mN_uI, boL_rN (by omega)]; rfl) ?_
                refine m_aload_n C d_X7_both_217 0 rfl ?_
                refine m_get C d_X7_both_218 fd_RX7_45 (v := .ref (q 12)) rfl ?_
                refine m_bipush C d_X7_both_221 (v := (nI 6)) rfl ?_
                refine m_iload_n C d_X7_both_223 2 rfl ?_
                refine mn_imul C d_X7_both_224 ?_
                refine m_iconst C d_X7_both_225 (v := (nI 2)) rfl ?_
                refine m_iload C d_X7_both_226 3 rfl ?_
                refine mn_imul C d_X7_both_228 ?_
                refine mn_iadd C d_X7_both_229 ?_
                refine m_iconst C d_X7_both_230 (v := (nI 1)) rfl ?_
                refine mn_iadd C d_X7_both_231 ?_
                refine m_lld C d_X7_both_232 (k := 12) (by decide) rfl (by show _ < 1008; omega) (by decide) ?_
                refine m_st (st' := [.long (lN (mN S 12 (6 * (8 * (12 + mK S 16 - 1)) + 2 * k + 1))), .long (lN (mN S 12 (6 * (8 * (12 + mK S 16 - 2)) + 2 * k + 1))), .int (nI (((6 * (8 * (12 + mK S 16 - 2))) + (2 * k)) + 1)), .ref (q 12)]) (by rw [mN_uN, if_neg (by omega), mN_uI, boL_rN (by omega)]; rfl) ?_
                refine mn_lor C d_X7_both_233 ?_
                refine m_lst C d_X7_both_234 (k := 12) (v := (mN S 12 (6 * (8 * (12 + mK S 16 - 2)) + 2 * k + 1)) ||| (mN S 12 (6 * (8 * (12 + mK S 16 - 1)) + 2 * k + 1))) (by decide) rfl (by show _ < 1008; omega) (by decide) ?_
                refine mn_iinc C d_X7_both_235 (lv' := [(4, .int (nI (k + 1))), (0, .ref (q 0)), (2, .int (nI (8 * (12 + mK S 16 - 2)))), (3, .int (nI (8 * (12 + mK S 16 - 1))))]) 3 rfl (nI_inc _ rfl) (by decide) rfl ?_
                refine m_goto C d_X7_both_238 (tgt := 95) rfl ?_
                refine m_eq (S' := boL (uK S 0 0) (8 * (12 + mK S 16 - 2)) (8 * (12 + mK S 16 - 1)) (k + 1)) (boL_step (S := uK S 0 0)) ?_
                refine m_lv (lv' := [(0, .ref (q 0)), (2, .int (nI (8 * (12 + mK S 16 - 2)))), (3, .int (nI (8 * (12 + mK S 16 - 1)))), (4, .int (nI (k + 1)))]) [1, 2, 3, 0] rfl ?_
                exact ih_95 (k + 1) (by omega) (by omega)
              refine m_aload_n C d_X7_both_127 2 rfl ?_
              refine m_get C d_X7_both_128 fd_RX7_42 (v := .ref (q 11)) rfl ?_
              refine m_iconst C d_X7_both_131 (v := (nI 3)) rfl ?_
              refine m_iload_n C d_X7_both_132 3 rfl ?_
              refine mn_imul C d_X7_both_133 ?_
              refine m_iload C d_X7_both_134 5 rfl ?_
              refine mn_iadd C d_X7_both_136 ?_
              refine m_iload C d_X7_both_137 1 rfl ?_
              refine m_iconst C d_X7_both_139 (v := ((-1))) rfl ?_
              refine m_icmp_ne C d_X7_both_140 (tgt := 148) rfl (fun c_140 => ?_) (fun c_140 => ?_)
              · skip
                refine m_iload C d_X7_both_148 0 rfl ?_
                refine m_iconst C d_X7_both_150 (v := ((-1))) rfl ?_
                refine m_icmp_eq C d_X7_both_151 (tgt := 161) rfl (fun c_151 => ?_) (fun c_151 => ?_)
                · skip
                  refine m_iload C d_X7_both_161 1 rfl ?_
                  refine m_goto C d_X7_both_163 (tgt := 168) rfl ?_
                  refine m_lv (lv' := [(0, .ref (q 0)), (2, .int (nI (8 * (12 + mK S 16 - 2)))), (3, .int (nI (8 * (12 + mK S 16 - 1)))), (4, .int (nI k))]) [2, 3, 4, 5] rfl ?_
                  refine m_st (st' := [.int (vJoin (mI S 11 (3 * (8 * (12 + mK S 16 - 2)) + k)) (mI S 11 (3 * (8 * (12 + mK S 16 - 1)) + k))), .int (nI (3 * (8 * (12 + mK S 16 - 2)) + k)), .ref (q 11)]) (congrArg (fun z => [Value.int z, .int (nI (3 * (8 * (12 + mK S 16 - 2)) + k)), .ref (q 11)]) (by unfold vJoin; grind)) ?_
                  exact join_168  
                · skip
                  refine m_iload C d_X7_both_154 0 rfl ?_
                  refine m_iload C d_X7_both_156 1 rfl ?_
                  refine m_icmp_ne C d_X7_both_158 (tgt := 166) rfl (fun c_158 => ?_) (fun c_158 => ?_)
                  · skip
                    refine m_bipush C d_X7_both_166 (v := ((-2))) rfl ?_
                    refine m_lv (lv' := [(0, .ref (q 0)), (2, .int (nI (8 * (12 + mK S 16 - 2)))), (3, .int (nI (8 * (12 + mK S 16 - 1)))), (4, .int (nI k))]) [2, 3, 4, 5] rfl ?_
                    refine m_st (st' := [.int (vJoin (mI S 11 (3 * (8 * (12 + mK S 16 - 2)) + k)) (mI S 11 (3 * (8 * (12 + mK S 16 - 1)) + k))), .int (nI (3 * (8 * (12 + mK S 16 - 2)) + k)), .ref (q 11)]) (congrArg (fun z => [Value.int z, .int (nI (3 * (8 * (12 + mK S 16 - 2)) + k)), .ref (q 11)]) (by unfold vJoin; grind)) ?_
                    exact join_168  
                  · skip
                    refine m_iload C d_X7_both_161 1 rfl ?_
                    refine m_goto C d_X7_both_163 (tgt := 168) rfl ?_
                    refine m_lv (lv' := [(0, .ref (q 0)), (2, .int (nI (8 * (12 + mK S 16 - 2)))), (3, .int (nI (8 * (12 + mK S 16 - 1)))), (4, .int (nI k))]) [2, 3, 4, 5] rfl ?_
                    refine m_st (st' := [.int (vJoin (mI S 11 (3 * (8 * (12 + mK S 16 - 2)) + k)) (mI S 11 (3 * (8 * (12 + mK S 16 - 1)) + k))), .int (nI (3 * (8 * (12 + mK S 16 - 2)) + k)), .ref (q 11)]) (congrArg (fun z => [Value.int z, .int (nI (3 * (8 * (12 + mK S 16 - 2)) + k)), .ref (q 11)]) (by unfold vJoin; grind)) ?_
                    exact join_168  
              · skip
                refine m_iload C d_X7_both_143 0 rfl ?_
                refine m_goto C d_X7_both_145 (tgt := 168) rfl ?_
                refine m_lv (lv' := [(0, .ref (q 0)), (2, .int (nI (8 * (12 + mK S 16 - 2)))), (3, .int (nI (8 * (12 + mK S 16 - 1)))), (4, .int (nI k))]) [2, 3, 4, 5] rfl ?_
                refine m_st (st' := [.int (vJoin (mI S 11 (3 * (8 * (12 + mK S 16 - 2)) + k)) (mI S 11 (3 * (8 * (12 + mK S 16 - 1)) + k))), .int (nI (3 * (8 * (12 + mK S 16 - 2)) + k)), .ref (q 11)]) (congrArg (fun z => [Value.int z, .int (nI (3 * (8 * (12 + mK S 16 - 2)) + k)), .ref (q 11)]) (by unfold vJoin; grind)) ?_
                exact join_168  
        refine m_eq (S' := boL (uK S 0 0) (8 * (12 + mK S 16 - 2)) (8 * (12 + mK S 16 - 1)) 0) (boL_0 _ _ _) ?_
        refine m_lv (lv' := [(0, .ref (q 0)), (2, .int (nI (8 * ((12 + (mK S 16)) - 2)))), (3, .int (nI (8 * ((12 + (mK S 16)) - 1)))), (4, .int (nI 0))]) [3, 2, 1, 0] rfl ?_
        refine m_lve (lv' := [(0, .ref (q 0)), (2, .int (nI (8 * (12 + mK S 16 - 2)))), (3, .int (nI (8 * (12 + mK S 16 - 1)))), (4, .int (nI 0))]) (rfl) ?_
        exact loop_95 _ 0 (by omega) (Nat.lt_succ_self _)
      · skip
        have c1 := of_decide_eq_false c_61
        have c2 : cBoth S = 1 := by unfold cBoth at c1 ⊢; split at c1 <;> first | omega | (rw [if_neg (by assumption)])
        rw [c2]
        refine m_iconst C d_X7_both_64 (v := (nI 0)) rfl ?_
        refine m_st (st' := [.int (nI (rBoth S))]) (by rw [rBoth, if_neg c1]) ?_
        exact m_iret C A TY d_X7_both_65 rfl (⟨rfl, by rw [tBoth, if_neg c1]⟩)
    refine m_aload_n C d_X7_both_48 1 rfl ?_
    refine m_iload_n C d_X7_both_49 0 rfl ?_
    refine mb_if_eq C d_X7_both_50 (tgt := 57) rfl (fun c_50 => ?_) (fun c_50 => ?_)
    · skip
      refine m_iconst C d_X7_both_57 (v := (nI 1)) rfl ?_
      refine m_lv (lv' := [(0, .ref (q 0))]) [1] rfl ?_
      refine m_st (st' := [.int (nI (cBoth S)), .ref (q 0)]) (by first | rw [cBoth, if_pos c_50] | rw [cBoth, if_neg (by rw [c_50]; decide)]) ?_
      exact join_58  
    · skip
      refine m_iconst C d_X7_both_53 (v := (nI 0)) rfl ?_
      refine m_goto C d_X7_both_54 (tgt := 58) rfl ?_
      refine m_lv (lv' := [(0, .ref (q 0))]) [1] rfl ?_
      refine m_st (st' := [.int (nI (cBoth S)), .ref (q 0)]) (by first | rw [cBoth, if_pos c_50] | rw [cBoth, if_neg (by rw [c_50]; decide)]) ?_
      exact join_58  
  refine m_aload_n C d_X7_both_0 0 rfl ?_
  refine m_get C d_X7_both_1 fd_RX7_98 (v := .int (nI (mK S 16))) rfl ?_
  refine m_iconst C d_X7_both_4 (v := (nI 1)) rfl ?_
  refine mn_icmp_le C d_X7_both_5 (tgt := 46) rfl (by have := pile_le I; omega) (by omega) (fun c_5 => ?_) (fun c_5 => ?_)
  · skip
    refine m_iconst C d_X7_both_46 (v := (bI false)) rfl ?_
    refine m_st (st' := [.int (bI (canB S))]) (by first | (rw [canB, decide_eq_true c_5, c_22, c_39]; rfl) | (rw [canB, decide_eq_true c_5, c_22]; rfl) | (rw [canB, decide_eq_false (by omega)]; rfl)) ?_
    exact join_47  
  · skip
    have i1 := pile_le I
    refine m_aload_n C d_X7_both_8 0 rfl ?_
    refine m_get C d_X7_both_9 fd_RX7_36 (v := .ref (q 9)) rfl ?_
    refine m_bipush C d_X7_both_12 (v := (nI 12)) rfl ?_
    refine m_aload_n C d_X7_both_14 0 rfl ?_
    refine m_get C d_X7_both_15 fd_RX7_98 (v := .int (nI (mK S 16))) rfl ?_
    refine mn_iadd C d_X7_both_18 ?_
    refine m_iconst C d_X7_both_19 (v := (nI 1)) rfl ?_
    refine mn_isub C d_X7_both_20 (by omega) ?_
    refine m_zld C d_X7_both_21 (k := 9) (by decide) rfl (by show _ < 21; omega) (by decide) ?_
    refine mb_if_eq C d_X7_both_22 (tgt := 46) rfl (fun c_22 => ?_) (fun c_22 => ?_)
    · skip
      refine m_iconst C d_X7_both_46 (v := (bI false)) rfl ?_
      refine m_st (st' := [.int (bI (canB S))]) (by first | (rw [canB, decide_eq_true c_5, c_22, c_39]; rfl) | (rw [canB, decide_eq_true c_5, c_22]; rfl) | (rw [canB, decide_eq_false (by omega)]; rfl)) ?_
      exact join_47  
    · skip
      refine m_aload_n C d_X7_both_25 0 rfl ?_
      refine m_get C d_X7_both_26 fd_RX7_36 (v := .ref (q 9)) rfl ?_
      refine m_bipush C d_X7_both_29 (v := (nI 12)) rfl ?_
      refine m_aload_n C d_X7_both_31 0 rfl ?_
      refine m_get C d_X7_both_32 fd_RX7_98 (v := .int (nI (mK S 16))) rfl ?_
      refine mn_iadd C d_X7_both_35 ?_
      refine m_iconst C d_X7_both_36 (v := (nI 2)) rfl ?_
      refine mn_isub C d_X7_both_37 (by omega) ?_
      refine m_zld C d_X7_both_38 (k := 9) (by decide) rfl (by show _ < 21; omega) (by decide) ?_
      refine mb_if_eq C d_X7_both_39 (tgt := 46) rfl (fun c_39 => ?_) (fun c_39 => ?_)
      · skip
        refine m_iconst C d_X7_both_46 (v := (bI false)) rfl ?_
        refine m_st (st' := [.int (bI (canB S))]) (by first | (rw [canB, decide_eq_true c_5, c_22, c_39]; rfl) | (rw [canB, decide_eq_true c_5, c_22]; rfl) | (rw [canB, decide_eq_false (by omega)]; rfl)) ?_
        exact join_47  
      · skip
        refine m_iconst C d_X7_both_42 (v := (bI true)) rfl ?_
        refine m_goto C d_X7_both_43 (tgt := 47) rfl ?_
        refine m_st (st' := [.int (bI (canB S))]) (by first | (rw [canB, decide_eq_true c_5, c_22, c_39]; rfl) | (rw [canB, decide_eq_true c_5, c_22]; rfl) | (rw [canB, decide_eq_false (by omega)]; rfl)) ?_
        exact join_47  
end
section
theorem tw_678 : (Jvm.Cond.fieldLink "CorpuslineModel" (54 : Nat) "CorpuslineModel" "then" "[Z") ∈ TB := tb_of 678 (by decide +kernel) rfl
theorem tw_816 : (Jvm.Cond.methodLink "CorpuslineModel" (115 : Nat) ({ cls := "CorpuslineModel", name := "laysBehind", desc := "()V" } : Jvm.MethodName)) ∈ TB := tb_of 816 (by decide +kernel) rfl
theorem tw_818 : (Jvm.Cond.instanceMethod ({ cls := "CorpuslineModel", name := "laysBehind", desc := "()V" } : Jvm.MethodName)) ∈ TB := tb_of 818 (by decide +kernel) rfl
theorem tw_819 : (Jvm.Cond.code ({ cls := "CorpuslineModel", name := "laysBehind", desc := "()V" } : Jvm.MethodName) prog_9_method_25_code (3 : Nat) (Option.none : Option Jvm.ClassFile.FieldType)) ∈ TB := tb_of 819 (by decide +kernel) rfl
theorem tw_820 : (Jvm.Cond.methodLink "CorpuslineModel" (101 : Nat) ({ cls := "CorpuslineModel", name := "copiesTest", desc := "(II)V" } : Jvm.MethodName)) ∈ TB := tb_of 820 (by decide +kernel) rfl
theorem tw_822 : (Jvm.Cond.instanceMethod ({ cls := "CorpuslineModel", name := "copiesTest", desc := "(II)V" } : Jvm.MethodName)) ∈ TB := tb_of 822 (by decide +kernel) rfl
theorem tw_823 : (Jvm.Cond.code ({ cls := "CorpuslineModel", name := "copiesTest", desc := "(II)V" } : Jvm.MethodName) prog_9_method_17_code (4 : Nat) (Option.none : Option Jvm.ClassFile.FieldType)) ∈ TB := tb_of 823 (by decide +kernel) rfl
theorem tw_824 : (Jvm.Cond.methodLink "CorpuslineModel" (118 : Nat) ({ cls := "CorpuslineModel", name := "becomes", desc := "(II)V" } : Jvm.MethodName)) ∈ TB := tb_of 824 (by decide +kernel) rfl
theorem tw_826 : (Jvm.Cond.instanceMethod ({ cls := "CorpuslineModel", name := "becomes", desc := "(II)V" } : Jvm.MethodName)) ∈ TB := tb_of 826 (by decide +kernel) rfl
theorem tw_827 : (Jvm.Cond.code ({ cls := "CorpuslineModel", name := "becomes", desc := "(II)V" } : Jvm.MethodName) prog_9_method_28_code (4 : Nat) (Option.none : Option Jvm.ClassFile.FieldType)) ∈ TB := tb_of 827 (by decide +kernel) rfl
theorem tw_840 : (Jvm.Cond.methodLink "CorpuslineModel" (124 : Nat) ({ cls := "CorpuslineModel", name := "copiesPart", desc := "(II)V" } : Jvm.MethodName)) ∈ TB := tb_of 840 (by decide +kernel) rfl
theorem tw_842 : (Jvm.Cond.instanceMethod ({ cls := "CorpuslineModel", name := "copiesPart", desc := "(II)V" } : Jvm.MethodName)) ∈ TB := tb_of 842 (by decide +kernel) rfl
theorem tw_843 : (Jvm.Cond.code ({ cls := "CorpuslineModel", name := "copiesPart", desc := "(II)V" } : Jvm.MethodName) prog_9_method_18_code (4 : Nat) (Option.none : Option Jvm.ClassFile.FieldType)) ∈ TB := tb_of 843 (by decide +kernel) rfl
theorem ts_23 : Cond.selects "CorpuslineModel" ({ cls := "CorpuslineModel", name := "laysBehind", desc := "()V" } : MethodName) ({ cls := "CorpuslineModel", name := "laysBehind", desc := "()V" } : MethodName) ∈ TB := tb_sel 23 (by decide +kernel) rfl
theorem ts_24 : Cond.selects "CorpuslineModel" ({ cls := "CorpuslineModel", name := "copiesTest", desc := "(II)V" } : MethodName) ({ cls := "CorpuslineModel", name := "copiesTest", desc := "(II)V" } : MethodName) ∈ TB := tb_sel 24 (by decide +kernel) rfl
theorem ts_25 : Cond.selects "CorpuslineModel" ({ cls := "CorpuslineModel", name := "becomes", desc := "(II)V" } : MethodName) ({ cls := "CorpuslineModel", name := "becomes", desc := "(II)V" } : MethodName) ∈ TB := tb_sel 25 (by decide +kernel) rfl
theorem ts_26 : Cond.selects "CorpuslineModel" ({ cls := "CorpuslineModel", name := "copiesPart", desc := "(II)V" } : MethodName) ({ cls := "CorpuslineModel", name := "copiesPart", desc := "(II)V" } : MethodName) ∈ TB := tb_sel 26 (by decide +kernel) rfl
theorem fd_RX7_54 : fdOk RX7 54 6 17 := ⟨_, _, _, rfl, by decide, cw_6, tw_678, rfl⟩
theorem pf_RX7_121 : pfOk RX7 121 6 15 .int false := ⟨_, _, _, tyX7, rfl, by decide, cw_6, tw_676, rfl, tyX7_ok, nmX7, rfl, by decide +kernel⟩
theorem ok_RX7_101 : okV RX7 101 yX7_copiesTest cX7_copiesTest 4 (Option.none : Option Jvm.ClassFile.FieldType) 2 := ⟨tw_820, tw_822, ts_24, tw_5, tw_823, ⟨by decide, by decide, by decide +kernel⟩⟩
theorem ok_RX7_115 : okV RX7 115 yX7_laysBehind cX7_laysBehind 3 (Option.none : Option Jvm.ClassFile.FieldType) 0 := ⟨tw_816, tw_818, ts_23, tw_5, tw_819, ⟨by decide, by decide, by decide +kernel⟩⟩
theorem ok_RX7_118 : okV RX7 118 yX7_becomes cX7_becomes 4 (Option.none : Option Jvm.ClassFile.FieldType) 2 := ⟨tw_824, tw_826, ts_25, tw_5, tw_827, ⟨by decide, by decide, by decide +kernel⟩⟩
theorem ok_RX7_124 : okV RX7 124 yX7_copiesPart cX7_copiesPart 4 (Option.none : Option Jvm.ClassFile.FieldType) 2 := ⟨tw_840, tw_842, ts_26, tw_5, tw_843, ⟨by decide, by decide, by decide +kernel⟩⟩
def rpG (b m k : Nat) : Nat → Nat := fun t => if b + m ≤ t ∧ t < k then b + (t - b) % m else t
theorem rpG_succ (S : mS) {b m k : Nat} (hm : 0 < m) (hk : b + m ≤ k) : tmap (tmap S (rpG b m k)) (cpG (k - m) k) = tmap S (rpG b m (k + 1)) := by
  rw [tmap_tmap]
  apply tmap_congr
  intro t
  unfold rpG cpG
  by_cases c : t = k
  · subst c
    rw [if_pos rfl, if_pos (show b + m ≤ t ∧ t < t + 1 by omega)]
    have e : (t - b) % m = (t - m - b) % m := by
      rw [show t - b = (t - m - b) + m by omega, Nat.add_mod_right]
    by_cases d : b + m ≤ t - m ∧ t - m < t
    · rw [if_pos d, e]
    · rw [if_neg d, e, Nat.mod_eq_of_lt (by omega)]; omega
  · rw [if_neg c]
    by_cases d : b + m ≤ t ∧ t < k
    · rw [if_pos d, if_pos (by omega)]
    · rw [if_neg d, if_neg (by omega)]
/-- the ways of so many times a part one behind the other; the ways of a repeat -/
def nxW (W : Nat → Bool) (m : Nat) : Nat → Nat → Bool
  | 0, z => decide (z = 0)
  | t + 1, z => nxW W m t (z % 2 ^ (m * t)) && W (z / 2 ^ (m * t))
def thW (W : Nat → Bool) (m least : Nat) : Nat → Nat → Bool
  | 0, z => decide (z = 0) && decide (least = 0)
  | t + 1, z => thW W m least t z || (decide (least ≤ t + 1) && nxW W m (t + 1) z)
/-- the two rows as they stand: next done from j on, then done below i -/
def rpS (S : mS) (f g : Nat → Bool) : mS := sB (sB S 18 f) 17 g
theorem rpS_18 {S : mS} {f g : Nat → Bool} {z : Nat} : mB (rpS S f g) 18 z = f z := rfl
theorem rpS_17 {S : mS} {f g : Nat → Bool} {z : Nat} : mB (rpS S f g) 17 z = g z := rfl
theorem rpS_u18 {S : mS} {f g h : Nat → Bool} {i : Nat} {v : Bool} (hh : ∀ z, (if z = i then v else f z) = h z) : uB (rpS S f g) 18 i v = rpS S h g := by
  unfold rpS
  apply mS_ext
  · intro j; rfl
  · intro j z; rfl
  · intro j z
    simp only [mB_uB, mB_sB, ← hh]
    by_cases e : j = 18
    · subst e; by_cases e2 : z = i <;> simp [e2]
    · simp [e]
  · intro j z; rfl
theorem rpS_u17 {S : mS} {f g h : Nat → Bool} {i : Nat} {v : Bool} (hh : ∀ z, (if z = i then v else g z) = h z) : uB (rpS S f g) 17 i v = rpS S f h := by
  unfold rpS
  rw [sB_step hh]
theorem rpS_init (S : mS) : S = rpS S (fun z => mB S 18 z) (fun z => mB S 17 z) := by
  unfold rpS
  rw [← sB_init (S := S)]
  · apply sB_init
    intro z; rfl
  · intro z; rfl
def canR (S : mS) (most : Int32) : Bool := decide (0 < mK S 16) && decide (nI (mTests S) + (most - nI 1) * nI (mN S 8 (12 + mK S 16 - 1)) ≤ nI 8)
def areR (least most : Int32) : Bool := inR least 0 3 && (inR most 1 3 && decide (least ≤ most))
def cRep (S : mS) (least most : Int32) : Nat := if areR least most = true then (if canR S most = true then 0 else 2) else 1
/-- the row 'next' behind so many times, the row 'then' behind so many times -/
def fT (S : mS) (p t : Nat) : Nat → Bool := fun z => if z < 256 then nxW (fun z => mB S 10 (256 * p + z)) (mN S 8 p) t z else mB S 18 z
def gT (S : mS) (p l t : Nat) : Nat → Bool := fun z => if z < 256 then thW (fun z => mB S 10 (256 * p + z)) (mN S 8 p) l t z else mB S 17 z
def rpT (S : mS) (p m : Nat) : mS := tmap (uK S 0 0) (rpG (8 * p) (mN S 8 p) (8 * p + mN S 8 p * m))
def tRep (S : mS) (least most : Int32) : mS :=
  if cRep S least most = 0 then tBec (rpS (rpT S (12 + mK S 16 - 1) (tn most)) (fT S (12 + mK S 16 - 1) (tn most)) (gT S (12 + mK S 16 - 1) (tn least) (tn most))) (12 + mK S 16 - 1) (mN S 8 (12 + mK S 16 - 1) * tn most)
  else uK S 0 (cRep S least most)
def rRep (S : mS) (least most : Int32) : Nat := if cRep S least most = 0 then mTests (tRep S least most) else 0
theorem rpG_0 (S : mS) (b m : Nat) : S = tmap S (rpG b m (b + m)) := tmap_id S (fun t => by unfold rpG; rw [if_neg (by omega)])
theorem sumTo_part {f : Nat → Nat} {j : Nat} : ∀ {k : Nat}, j < k → f j ≤ sumTo f k
  | 0, h => absurd h (Nat.not_lt_zero _)
  | k + 1, h => by
    rw [sumTo]
    rcases Nat.lt_or_ge j k with q | q
    · have := sumTo_part (f := f) (j := j) (k := k) q; omega
    · have : j = k := by omega
      subst this; omega
theorem part_le {S : mS} (h : 0 < mK S 16) : mN S 8 (12 + mK S 16 - 1) ≤ mTests S := by
  have := sumTo_part (f := fun k => mN S 8 (12 + k)) (j := mK S 16 - 1) (k := mK S 16) (by omega)
  rw [show 12 + mK S 16 - 1 = 12 + (mK S 16 - 1) by omega]
  exact this
theorem areR_of {l m : Int32} (h : areR l m = true) : l = nI (tn l) ∧ m = nI (tn m) ∧ tn l ≤ tn m ∧ 1 ≤ tn m ∧ tn m ≤ 3 := by
  simp only [areR, Bool.and_eq_true, decide_eq_true_eq] at h
  obtain ⟨h1, h2, h3⟩ := h
  obtain ⟨e1, -, e2⟩ := inR_of h1 (by decide) (by decide)
  obtain ⟨e3, e4, e5⟩ := inR_of h2 (by decide) (by decide)
  rw [e1, e3] at h3
  exact ⟨e1, e3, (nI_leI (by omega) (by omega)).mp h3, e4, e5⟩
theorem cRep_0 {S : mS} (I : mInv S) {l m : Int32} (h : cRep S l m = 0) : l = nI (tn l) ∧ m = nI (tn m) ∧ tn l ≤ tn m ∧ 1 ≤ tn m ∧ tn m ≤ 3 ∧ 0 < mK S 16 ∧ 0 < mN S 8 (12 + mK S 16 - 1) ∧ mN S 8 (12 + mK S 16 - 1) * tn m ≤ 8 ∧ mTests S + (tn m - 1) * mN S 8 (12 + mK S 16 - 1) ≤ 8 := by
  unfold cRep at h
  split at h
  · rename_i ha
    split at h
    · rename_i hc
      obtain ⟨e1, e2, e3, e4, e5⟩ := areR_of ha
      simp only [canR, Bool.and_eq_true, decide_eq_true_eq] at hc
      obtain ⟨h1, h2⟩ := hc
      have i1 := pile_le I
      have i2 := mTests_le I
      have i3 := part_le h1
      have i4 := (I.2.2.2.2.2.2.2.2.2.2.2.2.2.2.2 (12 + mK S 16 - 1) (by omega)).1
      rw [e2, pk_sub e4, pk_mul, nI_add] at h2
      have hq : (tn m - 1) * mN S 8 (12 + mK S 16 - 1) ≤ 2 * 8 := Nat.mul_le_mul (by omega) (by omega)
      have h3 := (nI_leI (by omega) (by omega)).mp h2
      refine ⟨e1, e2, e3, e4, e5, h1, by omega, ?_, h3⟩
      obtain ⟨z, hz⟩ : ∃ z, tn m = z + 1 := ⟨tn m - 1, by omega⟩
      rw [hz, Nat.add_sub_cancel, Nat.mul_comm] at h3
      rw [hz, Nat.mul_succ]
      omega
    · omega
  · omega
theorem pow_256 {a : Nat} (h : a ≤ 8) : 0 < 2 ^ a ∧ 2 ^ a ≤ 256 := ⟨Nat.two_pow_pos a, Nat.pow_le_pow_right (n := 2) (by decide) h⟩
theorem nI_neg1 {j : Nat} (hj : j ≤ 256) : nI j - nI 1 < 0 ↔ j = 0 := by
  constructor
  · intro h
    rcases Nat.eq_zero_or_pos j with q | q
    · exact q
    · rw [pk_sub q] at h
      exact absurd h (nI_pos (by omega))
  · intro h; subst h; decide
def iA (S : mS) (l k : Nat) (o : Nat) : Nat → Bool := fun z => if z < k then (decide (z = 0) && (decide (o = 0) || decide (l = 0))) else mB S (18 - o) z
def fJ (S : mS) (p t j : Nat) : Nat → Bool := fun z => if z < j then fT S p t z else fT S p (t + 1) z
def gJ (S : mS) (p l t k : Nat) : Nat → Bool := fun z => if z < k then gT S p l (t + 1) z else gT S p l t z
theorem iA_f (S : mS) (p l : Nat) : iA S l 256 0 = fT S p 0 := by
  funext z; unfold iA fT nxW; simp
theorem iA_g (S : mS) (p l : Nat) : iA S l 256 1 = gT S p l 0 := by
  funext z; unfold iA gT thW; simp
theorem iA_step {S : mS} {l k o : Nat} (z : Nat) : (if z = k then (decide (k = 0) && (decide (o = 0) || decide (l = 0))) else iA S l k o z) = iA S l (k + 1) o z := by
  unfold iA
  by_cases c : z = k
  · rw [if_pos c, if_pos (by omega), c]
  · rw [if_neg c]
    by_cases d : z < k
    · rw [if_pos d, if_pos (by omega)]
    · rw [if_neg d, if_neg (by omega)]
theorem fJ_256 (S : mS) (p t : Nat) : fT S p t = fJ S p t 256 := by
  funext z; unfold fJ
  by_cases c : z < 256
  · rw [if_pos c]
  · rw [if_neg c]; unfold fT; rw [if_neg c, if_neg c]
theorem fJ_0 (S : mS) (p t : Nat) : fJ S p t 0 = fT S p (t + 1) := by
  funext z; unfold fJ; rw [if_neg (by omega)]
theorem fJ_step {S : mS} {p t j : Nat} (hj : 0 < j) (z : Nat) : (if z = j - 1 then fT S p (t + 1) (j - 1) else fJ S p t j z) = fJ S p t (j - 1) z := by
  unfold fJ
  by_cases c : z = j - 1
  · rw [if_pos c, if_neg (by omega), c]
  · rw [if_neg c]
    by_cases d : z < j - 1
    · rw [if_pos d, if_pos (by omega)]
    · rw [if_neg d, if_neg (by omega)]
theorem gJ_0 (S : mS) (p l t : Nat) : gT S p l t = gJ S p l t 0 := by
  funext z; unfold gJ; rw [if_neg (by omega)]
theorem gJ_256 (S : mS) (p l t : Nat) : gJ S p l t 256 = gT S p l (t + 1) := by
  funext z; unfold gJ
  by_cases c : z < 256
  · rw [if_pos c]
  · rw [if_neg c]; unfold gT; rw [if_neg c, if_neg c]
theorem gJ_step {S : mS} {p l t k : Nat} (z : Nat) : (if z = k then gT S p l (t + 1) k else gJ S p l t k z) = gJ S p l t (k + 1) z := by
  unfold gJ
  by_cases c : z = k
  · rw [if_pos c, if_pos (by omega), c]
  · rw [if_neg c]
    by_cases d : z < k
    · rw [if_pos d, if_pos (by omega)]
    · rw [if_neg d, if_neg (by omega)]
theorem fT_in {S : mS} {p t z : Nat} (hz : z < 256) : fT S p t z = nxW (fun z => mB S 10 (256 * p + z)) (mN S 8 p) t z := by unfold fT; rw [if_pos hz]
theorem gT_in {S : mS} {p l t z : Nat} (hz : z < 256) : gT S p l t z = thW (fun z => mB S 10 (256 * p + z)) (mN S 8 p) l t z := by unfold gT; rw [if_pos hz]
theorem nI_minus1 (a : Nat) : nI a + Int32.ofInt (-1) = nI a - nI 1 := by
  rw [Int32.sub_eq_add_neg]; rfl

def dl_X7_becomes : List (Nat × Instr × Nat) := [(0, .iconst 0, 1), (1, .istore_n 3, 1), (2, .iload_n 3, 1), (3, .sipush 256, 3), (6, .if_icmp .ge 27, 3), (9, .aload_n 0, 1), (10, .getfield 39, 3), (13, .sipush 256, 3), (16, .iload_n 1, 1), (17, .imul, 1), (18, .iload_n 3, 1), (19, .iadd, 1), (20, .aload_n 0, 1), (21, .getfield 54, 3), (24, .iload_n 3, 1), (25, .baload, 1), (26, .bastore, 1), (27, .iinc 3 1, 3), (30, .goto (-28), 3), (33, .aload_n 0, 1), (34, .getfield 33, 3), (37, .iload_n 1, 1), (38, .iload_n 2, 1), (39, .iastore, 1), (40, .aload_n 0, 1), (41, .getfield 36, 3), (44, .iload_n 1, 1), (45, .iconst 0, 1), (46, .bastore, 1), (47, .return_, 1)]
theorem dc_X7_becomes : dnL cX7_becomes dl_X7_becomes = true := by decide +kernel
theorem d_X7_becomes_0 : dn cX7_becomes 0 (.iconst 0) 1 1 := dnAt dc_X7_becomes 0 rfl rfl
theorem d_X7_becomes_1 : dn cX7_becomes 1 (.istore_n 3) 1 2 := dnAt dc_X7_becomes 1 rfl rfl
theorem d_X7_becomes_2 : dn cX7_becomes 2 (.iload_n 3) 1 3 := dnAt dc_X7_becomes 2 rfl rfl
theorem d_X7_becomes_3 : dn cX7_becomes 3 (.sipush 256) 3 6 := dnAt dc_X7_becomes 3 rfl rfl
theorem d_X7_becomes_6 : dn cX7_becomes 6 (.if_icmp .ge 27) 3 9 := dnAt dc_X7_becomes 4 rfl rfl
theorem d_X7_becomes_9 : dn cX7_becomes 9 (.aload_n 0) 1 10 := dnAt dc_X7_becomes 5 rfl rfl
theorem d_X7_becomes_10 : dn cX7_becomes 10 (.getfield 39) 3 13 := dnAt dc_X7_becomes 6 rfl rfl
theorem d_X7_becomes_13 : dn cX7_becomes 13 (.sipush 256) 3 16 := dnAt dc_X7_becomes 7 rfl rfl
theorem d_X7_becomes_16 : dn cX7_becomes 16 (.iload_n 1) 1 17 := dnAt dc_X7_becomes 8 rfl rfl
theorem d_X7_becomes_17 : dn cX7_becomes 17 (.imul) 1 18 := dnAt dc_X7_becomes 9 rfl rfl
theorem d_X7_becomes_18 : dn cX7_becomes 18 (.iload_n 3) 1 19 := dnAt dc_X7_becomes 10 rfl rfl
theorem d_X7_becomes_19 : dn cX7_becomes 19 (.iadd) 1 20 := dnAt dc_X7_becomes 11 rfl rfl
theorem d_X7_becomes_20 : dn cX7_becomes 20 (.aload_n 0) 1 21 := dnAt dc_X7_becomes 12 rfl rfl
theorem d_X7_becomes_21 : dn cX7_becomes 21 (.getfield 54) 3 24 := dnAt dc_X7_becomes 13 rfl rfl
theorem d_X7_becomes_24 : dn cX7_becomes 24 (.iload_n 3) 1 25 := dnAt dc_X7_becomes 14 rfl rfl
theorem d_X7_becomes_25 : dn cX7_becomes 25 (.baload) 1 26 := dnAt dc_X7_becomes 15 rfl rfl
theorem d_X7_becomes_26 : dn cX7_becomes 26 (.bastore) 1 27 := dnAt dc_X7_becomes 16 rfl rfl
theorem d_X7_becomes_27 : dn cX7_becomes 27 (.iinc 3 1) 3 30 := dnAt dc_X7_becomes 17 rfl rfl
theorem d_X7_becomes_30 : dn cX7_becomes 30 (.goto (-28)) 3 33 := dnAt dc_X7_becomes 18 rfl rfl
theorem d_X7_becomes_33 : dn cX7_becomes 33 (.aload_n 0) 1 34 := dnAt dc_X7_becomes 19 rfl rfl
theorem d_X7_becomes_34 : dn cX7_becomes 34 (.getfield 33) 3 37 := dnAt dc_X7_becomes 20 rfl rfl
theorem d_X7_becomes_37 : dn cX7_becomes 37 (.iload_n 1) 1 38 := dnAt dc_X7_becomes 21 rfl rfl
theorem d_X7_becomes_38 : dn cX7_becomes 38 (.iload_n 2) 1 39 := dnAt dc_X7_becomes 22 rfl rfl
theorem d_X7_becomes_39 : dn cX7_becomes 39 (.iastore) 1 40 := dnAt dc_X7_becomes 23 rfl rfl
theorem d_X7_becomes_40 : dn cX7_becomes 40 (.aload_n 0) 1 41 := dnAt dc_X7_becomes 24 rfl rfl
theorem d_X7_becomes_41 : dn cX7_becomes 41 (.getfield 36) 3 44 := dnAt dc_X7_becomes 25 rfl rfl
theorem d_X7_becomes_44 : dn cX7_becomes 44 (.iload_n 1) 1 45 := dnAt dc_X7_becomes 26 rfl rfl
theorem d_X7_becomes_45 : dn cX7_becomes 45 (.iconst 0) 1 46 := dnAt dc_X7_becomes 27 rfl rfl
theorem d_X7_becomes_46 : dn cX7_becomes 46 (.bastore) 1 47 := dnAt dc_X7_becomes 28 rfl rfl
theorem d_X7_becomes_47 : dn cX7_becomes 47 (.return_) 1 48 := dnAt dc_X7_becomes 29 rfl rfl
set_option maxHeartbeats 4000000 in
set_option maxRecDepth 100000 in
theorem m_becomes (S : mS) (p m : Nat) (hp : p < 21) : mC yX7_becomes cX7_becomes 4 (Option.none : Option Jvm.ClassFile.FieldType) { frames := 0, cells := 0, slots := 0, locals := 0 } [.int (nI p), .int (nI m)] S (fun v9 T9 => v9 = none ∧ T9 = tBec S p m) := by
  refine mC.of (by decide) (Nat.le_of_ble_eq_true rfl) ?_
  intro G x q h0 C A TY
  show VM G x q h0 S 0 [(0, .ref (q 0)), (1, .int (nI p)), (2, .int (nI m))] []
  refine m_iconst C d_X7_becomes_0 (v := (nI 0)) rfl ?_
  refine m_istore_n C d_X7_becomes_1 (lv' := [(3, .int (nI 0)), (0, .ref (q 0)), (1, .int (nI p)), (2, .int (nI m))]) (by decide) rfl ?_
  have loop_2 : ∀ (fuel : Nat) (k : Nat), (k ≤ 256) → (257 - k) < fuel → VM G x q h0 (beL S p k) 2 [(0, .ref (q 0)), (1, .int (nI p)), (2, .int (nI m)), (3, .int (nI k))] [] := by
    intro fuel
    induction fuel with
    | zero => intro k hk hf9; exact absurd hf9 (Nat.not_lt_zero _)
    | succ fuel ih_2 =>
      intro k hk hf9
      refine m_iload_n C d_X7_becomes_2 3 rfl ?_
      refine m_sipush C d_X7_becomes_3 (v := (nI 256)) rfl ?_
      refine mn_icmp_ge C d_X7_becomes_6 (tgt := 33) rfl (by omega) (by omega) (fun c_6 => ?_) (fun c_6 => ?_)
      · skip
        obtain rfl : k = 256 := by omega
        refine m_aload_n C d_X7_becomes_33 0 rfl ?_
        refine m_get C d_X7_becomes_34 fd_RX7_33 (v := .ref (q 8)) rfl ?_
        refine m_iload_n C d_X7_becomes_37 1 rfl ?_
        refine m_iload_n C d_X7_becomes_38 2 rfl ?_
        refine m_ast C d_X7_becomes_39 (k := 8) (v := m) (by decide) rfl (by show _ < 21; omega) (by decide) ?_
        refine m_aload_n C d_X7_becomes_40 0 rfl ?_
        refine m_get C d_X7_becomes_41 fd_RX7_36 (v := .ref (q 9)) rfl ?_
        refine m_iload_n C d_X7_becomes_44 1 rfl ?_
        refine m_iconst C d_X7_becomes_45 (v := (bI false)) rfl ?_
        refine m_zst C d_X7_becomes_46 (k := 9) (v := false) (by decide) rfl (by show _ < 21; omega) (by decide) ?_
        exact m_vret C A TY d_X7_becomes_47 (⟨rfl, rfl⟩)
      · skip
        refine m_aload_n C d_X7_becomes_9 0 rfl ?_
        refine m_get C d_X7_becomes_10 fd_RX7_39 (v := .ref (q 10)) rfl ?_
        refine m_sipush C d_X7_becomes_13 (v := (nI 256)) rfl ?_
        refine m_iload_n C d_X7_becomes_16 1 rfl ?_
        refine mn_imul C d_X7_becomes_17 ?_
        refine m_iload_n C d_X7_becomes_18 3 rfl ?_
        refine mn_iadd C d_X7_becomes_19 ?_
        refine m_aload_n C d_X7_becomes_20 0 rfl ?_
        refine m_get C d_X7_becomes_21 fd_RX7_54 (v := .ref (q 17)) rfl ?_
        refine m_iload_n C d_X7_becomes_24 3 rfl ?_
        refine m_zld C d_X7_becomes_25 (k := 17) (by decide) rfl (by show _ < 256; omega) (by decide) ?_
        refine m_st (st' := [.int (bI (mB S 17 k)), .int (nI ((256 * p) + k)), .ref (q 10)]) rfl ?_
        refine m_zst C d_X7_becomes_26 (k := 10) (v := mB S 17 k) (by decide) rfl (by show _ < 5376; omega) (by decide) ?_
        refine mn_iinc C d_X7_becomes_27 (lv' := [(3, .int (nI (k + 1))), (0, .ref (q 0)), (1, .int (nI p)), (2, .int (nI m))]) 3 rfl (nI_inc _ rfl) (by decide) rfl ?_
        refine m_goto C d_X7_becomes_30 (tgt := 2) rfl ?_
        refine m_eq (S' := beL S p (k + 1)) (beL_step (by omega)) ?_
        refine m_lv (lv' := [(0, .ref (q 0)), (1, .int (nI p)), (2, .int (nI m)), (3, .int (nI (k + 1)))]) [1, 2, 3, 0] rfl ?_
        exact ih_2 (k + 1) (by omega) (by omega)
  refine m_eq (S' := beL S p 0) (beL_0 S p) ?_
  refine m_lv (lv' := [(0, .ref (q 0)), (1, .int (nI p)), (2, .int (nI m)), (3, .int (nI 0))]) [1, 2, 3, 0] rfl ?_
  exact loop_2 _ 0 (by omega) (Nat.lt_succ_self _)
def dl_X7_laysBehind : List (Nat × Instr × Nat) := [(0, .bipush 12, 2), (2, .aload_n 0, 1), (3, .getfield 98, 3), (6, .iadd, 1), (7, .iconst 2, 1), (8, .isub, 1), (9, .istore_n 1, 1), (10, .iconst 0, 1), (11, .istore_n 2, 1), (12, .iload_n 2, 1), (13, .aload_n 0, 1), (14, .getfield 33, 3), (17, .iload_n 1, 1), (18, .iconst 1, 1), (19, .iadd, 1), (20, .iaload, 1), (21, .if_icmp .ge 34, 3), (24, .aload_n 0, 1), (25, .bipush 8, 2), (27, .iload_n 1, 1), (28, .iconst 1, 1), (29, .iadd, 1), (30, .imul, 1), (31, .iload_n 2, 1), (32, .iadd, 1), (33, .bipush 8, 2), (35, .iload_n 1, 1), (36, .imul, 1), (37, .aload_n 0, 1), (38, .getfield 33, 3), (41, .iload_n 1, 1), (42, .iaload, 1), (43, .iadd, 1), (44, .iload_n 2, 1), (45, .iadd, 1), (46, .invokevirtual 101, 3), (49, .iinc 2 1, 3), (52, .goto (-40), 3), (55, .return_, 1)]
theorem dc_X7_laysBehind : dnL cX7_laysBehind dl_X7_laysBehind = true := by decide +kernel
theorem d_X7_laysBehind_0 : dn cX7_laysBehind 0 (.bipush 12) 2 2 := dnAt dc_X7_laysBehind 0 rfl rfl
theorem d_X7_laysBehind_2 : dn cX7_laysBehind 2 (.aload_n 0) 1 3 := dnAt dc_X7_laysBehind 1 rfl rfl
theorem d_X7_laysBehind_3 : dn cX7_laysBehind 3 (.getfield 98) 3 6 := dnAt dc_X7_laysBehind 2 rfl rfl
theorem d_X7_laysBehind_6 : dn cX7_laysBehind 6 (.iadd) 1 7 := dnAt dc_X7_laysBehind 3 rfl rfl
theorem d_X7_laysBehind_7 : dn cX7_laysBehind 7 (.iconst 2) 1 8 := dnAt dc_X7_laysBehind 4 rfl rfl
theorem d_X7_laysBehind_8 : dn cX7_laysBehind 8 (.isub) 1 9 := dnAt dc_X7_laysBehind 5 rfl rfl
theorem d_X7_laysBehind_9 : dn cX7_laysBehind 9 (.istore_n 1) 1 10 := dnAt dc_X7_laysBehind 6 rfl rfl
theorem d_X7_laysBehind_10 : dn cX7_laysBehind 10 (.iconst 0) 1 11 := dnAt dc_X7_laysBehind 7 rfl rfl
theorem d_X7_laysBehind_11 : dn cX7_laysBehind 11 (.istore_n 2) 1 12 := dnAt dc_X7_laysBehind 8 rfl rfl
theorem d_X7_laysBehind_12 : dn cX7_laysBehind 12 (.iload_n 2) 1 13 := dnAt dc_X7_laysBehind 9 rfl rfl
theorem d_X7_laysBehind_13 : dn cX7_laysBehind 13 (.aload_n 0) 1 14 := dnAt dc_X7_laysBehind 10 rfl rfl
theorem d_X7_laysBehind_14 : dn cX7_laysBehind 14 (.getfield 33) 3 17 := dnAt dc_X7_laysBehind 11 rfl rfl
theorem d_X7_laysBehind_17 : dn cX7_laysBehind 17 (.iload_n 1) 1 18 := dnAt dc_X7_laysBehind 12 rfl rfl
theorem d_X7_laysBehind_18 : dn cX7_laysBehind 18 (.iconst 1) 1 19 := dnAt dc_X7_laysBehind 13 rfl rfl
theorem d_X7_laysBehind_19 : dn cX7_laysBehind 19 (.iadd) 1 20 := dnAt dc_X7_laysBehind 14 rfl rfl
theorem d_X7_laysBehind_20 : dn cX7_laysBehind 20 (.iaload) 1 21 := dnAt dc_X7_laysBehind 15 rfl rfl
theorem d_X7_laysBehind_21 : dn cX7_laysBehind 21 (.if_icmp .ge 34) 3 24 := dnAt dc_X7_laysBehind 16 rfl rfl
theorem d_X7_laysBehind_24 : dn cX7_laysBehind 24 (.aload_n 0) 1 25 := dnAt dc_X7_laysBehind 17 rfl rfl
theorem d_X7_laysBehind_25 : dn cX7_laysBehind 25 (.bipush 8) 2 27 := dnAt dc_X7_laysBehind 18 rfl rfl
theorem d_X7_laysBehind_27 : dn cX7_laysBehind 27 (.iload_n 1) 1 28 := dnAt dc_X7_laysBehind 19 rfl rfl
theorem d_X7_laysBehind_28 : dn cX7_laysBehind 28 (.iconst 1) 1 29 := dnAt dc_X7_laysBehind 20 rfl rfl
theorem d_X7_laysBehind_29 : dn cX7_laysBehind 29 (.iadd) 1 30 := dnAt dc_X7_laysBehind 21 rfl rfl
theorem d_X7_laysBehind_30 : dn cX7_laysBehind 30 (.imul) 1 31 := dnAt dc_X7_laysBehind 22 rfl rfl
theorem d_X7_laysBehind_31 : dn cX7_laysBehind 31 (.iload_n 2) 1 32 := dnAt dc_X7_laysBehind 23 rfl rfl
theorem d_X7_laysBehind_32 : dn cX7_laysBehind 32 (.iadd) 1 33 := dnAt dc_X7_laysBehind 24 rfl rfl
theorem d_X7_laysBehind_33 : dn cX7_laysBehind 33 (.bipush 8) 2 35 := dnAt dc_X7_laysBehind 25 rfl rfl
theorem d_X7_laysBehind_35 : dn cX7_laysBehind 35 (.iload_n 1) 1 36 := dnAt dc_X7_laysBehind 26 rfl rfl
theorem d_X7_laysBehind_36 : dn cX7_laysBehind 36 (.imul) 1 37 := dnAt dc_X7_laysBehind 27 rfl rfl
theorem d_X7_laysBehind_37 : dn cX7_laysBehind 37 (.aload_n 0) 1 38 := dnAt dc_X7_laysBehind 28 rfl rfl
theorem d_X7_laysBehind_38 : dn cX7_laysBehind 38 (.getfield 33) 3 41 := dnAt dc_X7_laysBehind 29 rfl rfl
theorem d_X7_laysBehind_41 : dn cX7_laysBehind 41 (.iload_n 1) 1 42 := dnAt dc_X7_laysBehind 30 rfl rfl
theorem d_X7_laysBehind_42 : dn cX7_laysBehind 42 (.iaload) 1 43 := dnAt dc_X7_laysBehind 31 rfl rfl
theorem d_X7_laysBehind_43 : dn cX7_laysBehind 43 (.iadd) 1 44 := dnAt dc_X7_laysBehind 32 rfl rfl
theorem d_X7_laysBehind_44 : dn cX7_laysBehind 44 (.iload_n 2) 1 45 := dnAt dc_X7_laysBehind 33 rfl rfl
theorem d_X7_laysBehind_45 : dn cX7_laysBehind 45 (.iadd) 1 46 := dnAt dc_X7_laysBehind 34 rfl rfl
theorem d_X7_laysBehind_46 : dn cX7_laysBehind 46 (.invokevirtual 101) 3 49 := dnAt dc_X7_laysBehind 35 rfl rfl
theorem d_X7_laysBehind_49 : dn cX7_laysBehind 49 (.iinc 2 1) 3 52 := dnAt dc_X7_laysBehind 36 rfl rfl
theorem d_X7_laysBehind_52 : dn cX7_laysBehind 52 (.goto (-40)) 3 55 := dnAt dc_X7_laysBehind 37 rfl rfl
theorem d_X7_laysBehind_55 : dn cX7_laysBehind 55 (.return_) 1 56 := dnAt dc_X7_laysBehind 38 rfl rfl
set_option maxHeartbeats 4000000 in
set_option maxRecDepth 100000 in
theorem m_laysBehind (S : mS) (I : mInv S) (h2 : 2 ≤ mK S 16) : mC yX7_laysBehind cX7_laysBehind 3 (Option.none : Option Jvm.ClassFile.FieldType) { frames := 1, cells := 0, slots := 0, locals := 23 } [] S (fun v9 T9 => v9 = none ∧ T9 = tLays S) := by
  refine mC.of (by decide) (Nat.le_of_ble_eq_true rfl) ?_
  intro G x q h0 C A TY
  show VM G x q h0 S 0 [(0, .ref (q 0))] []
  have i1 := pile_le I
  have i2 := mInv_pair I h2
  refine m_bipush C d_X7_laysBehind_0 (v := (nI 12)) rfl ?_
  refine m_aload_n C d_X7_laysBehind_2 0 rfl ?_
  refine m_get C d_X7_laysBehind_3 fd_RX7_98 (v := .int (nI (mK S 16))) rfl ?_
  refine mn_iadd C d_X7_laysBehind_6 ?_
  refine m_iconst C d_X7_laysBehind_7 (v := (nI 2)) rfl ?_
  refine mn_isub C d_X7_laysBehind_8 (by omega) ?_
  refine m_istore_n C d_X7_laysBehind_9 (lv' := [(1, .int (nI ((12 + (mK S 16)) - 2))), (0, .ref (q 0))]) (by decide) rfl ?_
  refine m_iconst C d_X7_laysBehind_10 (v := (nI 0)) rfl ?_
  refine m_istore_n C d_X7_laysBehind_11 (lv' := [(2, .int (nI 0)), (1, .int (nI ((12 + (mK S 16)) - 2))), (0, .ref (q 0))]) (by decide) rfl ?_
  have loop_12 : ∀ (fuel : Nat) (k : Nat), (k ≤ mN S 8 (12 + mK S 16 - 2 + 1)) → (9 - k) < fuel → VM G x q h0 (tmap S (laG (8 * (12 + mK S 16 - 2) + mN S 8 (12 + mK S 16 - 2)) (8 * (12 + mK S 16 - 2 + 1)) k)) 12 [(0, .ref (q 0)), (1, .int (nI (12 + mK S 16 - 2))), (2, .int (nI k))] [] := by
    intro fuel
    induction fuel with
    | zero => intro k hk hf9; exact absurd hf9 (Nat.not_lt_zero _)
    | succ fuel ih_12 =>
      intro k hk hf9
      refine m_iload_n C d_X7_laysBehind_12 2 rfl ?_
      refine m_aload_n C d_X7_laysBehind_13 0 rfl ?_
      refine m_get C d_X7_laysBehind_14 fd_RX7_33 (v := .ref (q 8)) rfl ?_
      refine m_iload_n C d_X7_laysBehind_17 1 rfl ?_
      refine m_iconst C d_X7_laysBehind_18 (v := (nI 1)) rfl ?_
      refine mn_iadd C d_X7_laysBehind_19 ?_
      refine m_ald C d_X7_laysBehind_20 (k := 8) (by decide) rfl (by show _ < 21; omega) (by decide) ?_
      refine m_st (st' := [.int (nI (mN S 8 ((12 + mK S 16 - 2) + 1))), .int (nI k)]) rfl ?_
      refine mn_icmp_ge C d_X7_laysBehind_21 (tgt := 55) rfl (by omega) (by omega) (fun c_21 => ?_) (fun c_21 => ?_)
      · skip
        obtain rfl : k = mN S 8 (12 + mK S 16 - 2 + 1) := by omega
        exact m_vret C A TY d_X7_laysBehind_55 (⟨rfl, rfl⟩)
      · skip
        refine m_aload_n C d_X7_laysBehind_24 0 rfl ?_
        refine m_bipush C d_X7_laysBehind_25 (v := (nI 8)) rfl ?_
        refine m_iload_n C d_X7_laysBehind_27 1 rfl ?_
        refine m_iconst C d_X7_laysBehind_28 (v := (nI 1)) rfl ?_
        refine mn_iadd C d_X7_laysBehind_29 ?_
        refine mn_imul C d_X7_laysBehind_30 ?_
        refine m_iload_n C d_X7_laysBehind_31 2 rfl ?_
        refine mn_iadd C d_X7_laysBehind_32 ?_
        refine m_bipush C d_X7_laysBehind_33 (v := (nI 8)) rfl ?_
        refine m_iload_n C d_X7_laysBehind_35 1 rfl ?_
        refine mn_imul C d_X7_laysBehind_36 ?_
        refine m_aload_n C d_X7_laysBehind_37 0 rfl ?_
        refine m_get C d_X7_laysBehind_38 fd_RX7_33 (v := .ref (q 8)) rfl ?_
        refine m_iload_n C d_X7_laysBehind_41 1 rfl ?_
        refine m_ald C d_X7_laysBehind_42 (k := 8) (by decide) rfl (by show _ < 21; omega) (by decide) ?_
        refine m_st (st' := [.int (nI (mN S 8 (12 + mK S 16 - 2))), .int (nI (8 * (12 + mK S 16 - 2))), .int (nI ((8 * ((12 + mK S 16 - 2) + 1)) + k)), .ref (q 0)]) rfl ?_
        refine mn_iadd C d_X7_laysBehind_43 ?_
        refine m_iload_n C d_X7_laysBehind_44 2 rfl ?_
        refine mn_iadd C d_X7_laysBehind_45 ?_
        refine m_callV C d_X7_laysBehind_46 ok_RX7_101 (m_copiesTest (tmap S (laG (8 * (12 + mK S 16 - 2) + mN S 8 (12 + mK S 16 - 2)) (8 * (12 + mK S 16 - 2 + 1)) k)) ((8 * ((12 + mK S 16 - 2) + 1)) + k) (((8 * (12 + mK S 16 - 2)) + (mN S 8 (12 + mK S 16 - 2))) + k) (by omega) (by omega)) rfl (rest := []) rfl rfl (Nat.le_of_ble_eq_true rfl) ⟨⟨by decide, by decide⟩, by decide, by decide⟩ (fun v9 T9 e9 => ?_)
        obtain ⟨rfl, e9⟩ := e9
        refine m_eq e9 ?_
        show VM G x q h0 (tmap (tmap S (laG (8 * (12 + mK S 16 - 2) + mN S 8 (12 + mK S 16 - 2)) (8 * (12 + mK S 16 - 2 + 1)) k)) (cpG ((8 * ((12 + mK S 16 - 2) + 1)) + k) (((8 * (12 + mK S 16 - 2)) + (mN S 8 (12 + mK S 16 - 2))) + k))) 49 [(0, .ref (q 0)), (1, .int (nI (12 + mK S 16 - 2))), (2, .int (nI k))] []
        refine mn_iinc C d_X7_laysBehind_49 (lv' := [(2, .int (nI (k + 1))), (0, .ref (q 0)), (1, .int (nI (12 + mK S 16 - 2)))]) 2 rfl (nI_inc _ rfl) (by decide) rfl ?_
        refine m_goto C d_X7_laysBehind_52 (tgt := 12) rfl ?_
        refine m_eq (S' := tmap S (laG (8 * (12 + mK S 16 - 2) + mN S 8 (12 + mK S 16 - 2)) (8 * (12 + mK S 16 - 2 + 1)) (k + 1))) (laG_succ S (by omega)) ?_
        refine m_lv (lv' := [(0, .ref (q 0)), (1, .int (nI (12 + mK S 16 - 2))), (2, .int (nI (k + 1)))]) [1, 2, 0] rfl ?_
        exact ih_12 (k + 1) (by omega) (by omega)
  refine m_eq (S' := tmap S (laG (8 * (12 + mK S 16 - 2) + mN S 8 (12 + mK S 16 - 2)) (8 * (12 + mK S 16 - 2 + 1)) 0)) (tmap_id S (fun t => by unfold laG; rw [if_neg (by omega)])) ?_
  refine m_lv (lv' := [(0, .ref (q 0)), (1, .int (nI ((12 + (mK S 16)) - 2))), (2, .int (nI 0))]) [2, 1, 0] rfl ?_
  refine m_lve (lv' := [(0, .ref (q 0)), (1, .int (nI (12 + mK S 16 - 2))), (2, .int (nI 0))]) (rfl) ?_
  exact loop_12 _ 0 (by omega) (Nat.lt_succ_self _)
def dl_X7_chain : List (Nat × Instr × Nat) := [(0, .aload_n 0, 1), (1, .aload_n 0, 1), (2, .getfield 98, 3), (5, .iconst 2, 1), (6, .if_icmp .ge 7, 3), (9, .iconst 1, 1), (10, .goto 4, 3), (13, .iconst 0, 1), (14, .invokevirtual 84, 3), (17, .ifCond .ne 5, 3), (20, .iconst 0, 1), (21, .ireturn, 1), (22, .bipush 12, 2), (24, .aload_n 0, 1), (25, .getfield 98, 3), (28, .iadd, 1), (29, .iconst 2, 1), (30, .isub, 1), (31, .istore_n 1, 1), (32, .aload_n 0, 1), (33, .invokevirtual 115, 3), (36, .iconst 0, 1), (37, .istore_n 2, 1), (38, .iload_n 2, 1), (39, .sipush 256, 3), (42, .if_icmp .ge 68, 3), (45, .aload_n 0, 1), (46, .getfield 54, 3), (49, .iload_n 2, 1), (50, .aload_n 0, 1), (51, .getfield 39, 3), (54, .sipush 256, 3), (57, .iload_n 1, 1), (58, .imul, 1), (59, .iload_n 2, 1), (60, .iconst 1, 1), (61, .aload_n 0, 1), (62, .getfield 33, 3), (65, .iload_n 1, 1), (66, .iaload, 1), (67, .ishl, 1), (68, .irem, 1), (69, .iadd, 1), (70, .baload, 1), (71, .ifCond .eq 31, 3), (74, .aload_n 0, 1), (75, .getfield 39, 3), (78, .sipush 256, 3), (81, .iload_n 1, 1), (82, .iconst 1, 1), (83, .iadd, 1), (84, .imul, 1), (85, .iload_n 2, 1), (86, .aload_n 0, 1), (87, .getfield 33, 3), (90, .iload_n 1, 1), (91, .iaload, 1), (92, .ishr, 1), (93, .iadd, 1), (94, .baload, 1), (95, .ifCond .eq 7, 3), (98, .iconst 1, 1), (99, .goto 4, 3), (102, .iconst 0, 1), (103, .bastore, 1), (104, .iinc 2 1, 3), (107, .goto (-69), 3), (110, .aload_n 0, 1), (111, .iload_n 1, 1), (112, .aload_n 0, 1), (113, .getfield 33, 3), (116, .iload_n 1, 1), (117, .iaload, 1), (118, .aload_n 0, 1), (119, .getfield 33, 3), (122, .iload_n 1, 1), (123, .iconst 1, 1), (124, .iadd, 1), (125, .iaload, 1), (126, .iadd, 1), (127, .invokevirtual 118, 3), (130, .aload_n 0, 1), (131, .dup, 1), (132, .getfield 98, 3), (135, .iconst 1, 1), (136, .isub, 1), (137, .putfield 98, 3), (140, .aload_n 0, 1), (141, .getfield 98, 3), (144, .ireturn, 1)]
theorem dc_X7_chain : dnL cX7_chain dl_X7_chain = true := by decide +kernel
theorem d_X7_chain_0 : dn cX7_chain 0 (.aload_n 0) 1 1 := dnAt dc_X7_chain 0 rfl rfl
theorem d_X7_chain_1 : dn cX7_chain 1 (.aload_n 0) 1 2 := dnAt dc_X7_chain 1 rfl rfl
theorem d_X7_chain_2 : dn cX7_chain 2 (.getfield 98) 3 5 := dnAt dc_X7_chain 2 rfl rfl
theorem d_X7_chain_5 : dn cX7_chain 5 (.iconst 2) 1 6 := dnAt dc_X7_chain 3 rfl rfl
theorem d_X7_chain_6 : dn cX7_chain 6 (.if_icmp .ge 7) 3 9 := dnAt dc_X7_chain 4 rfl rfl
theorem d_X7_chain_9 : dn cX7_chain 9 (.iconst 1) 1 10 := dnAt dc_X7_chain 5 rfl rfl
theorem d_X7_chain_10 : dn cX7_chain 10 (.goto 4) 3 13 := dnAt dc_X7_chain 6 rfl rfl
theorem d_X7_chain_13 : dn cX7_chain 13 (.iconst 0) 1 14 := dnAt dc_X7_chain 7 rfl rfl
theorem d_X7_chain_14 : dn cX7_chain 14 (.invokevirtual 84) 3 17 := dnAt dc_X7_chain 8 rfl rfl
theorem d_X7_chain_17 : dn cX7_chain 17 (.ifCond .ne 5) 3 20 := dnAt dc_X7_chain 9 rfl rfl
theorem d_X7_chain_20 : dn cX7_chain 20 (.iconst 0) 1 21 := dnAt dc_X7_chain 10 rfl rfl
theorem d_X7_chain_21 : dn cX7_chain 21 (.ireturn) 1 22 := dnAt dc_X7_chain 11 rfl rfl
theorem d_X7_chain_22 : dn cX7_chain 22 (.bipush 12) 2 24 := dnAt dc_X7_chain 12 rfl rfl
theorem d_X7_chain_24 : dn cX7_chain 24 (.aload_n 0) 1 25 := dnAt dc_X7_chain 13 rfl rfl
theorem d_X7_chain_25 : dn cX7_chain 25 (.getfield 98) 3 28 := dnAt dc_X7_chain 14 rfl rfl
theorem d_X7_chain_28 : dn cX7_chain 28 (.iadd) 1 29 := dnAt dc_X7_chain 15 rfl rfl
theorem d_X7_chain_29 : dn cX7_chain 29 (.iconst 2) 1 30 := dnAt dc_X7_chain 16 rfl rfl
theorem d_X7_chain_30 : dn cX7_chain 30 (.isub) 1 31 := dnAt dc_X7_chain 17 rfl rfl
theorem d_X7_chain_31 : dn cX7_chain 31 (.istore_n 1) 1 32 := dnAt dc_X7_chain 18 rfl rfl
theorem d_X7_chain_32 : dn cX7_chain 32 (.aload_n 0) 1 33 := dnAt dc_X7_chain 19 rfl rfl
theorem d_X7_chain_33 : dn cX7_chain 33 (.invokevirtual 115) 3 36 := dnAt dc_X7_chain 20 rfl rfl
theorem d_X7_chain_36 : dn cX7_chain 36 (.iconst 0) 1 37 := dnAt dc_X7_chain 21 rfl rfl
theorem d_X7_chain_37 : dn cX7_chain 37 (.istore_n 2) 1 38 := dnAt dc_X7_chain 22 rfl rfl
theorem d_X7_chain_38 : dn cX7_chain 38 (.iload_n 2) 1 39 := dnAt dc_X7_chain 23 rfl rfl
theorem d_X7_chain_39 : dn cX7_chain 39 (.sipush 256) 3 42 := dnAt dc_X7_chain 24 rfl rfl
theorem d_X7_chain_42 : dn cX7_chain 42 (.if_icmp .ge 68) 3 45 := dnAt dc_X7_chain 25 rfl rfl
theorem d_X7_chain_45 : dn cX7_chain 45 (.aload_n 0) 1 46 := dnAt dc_X7_chain 26 rfl rfl
theorem d_X7_chain_46 : dn cX7_chain 46 (.getfield 54) 3 49 := dnAt dc_X7_chain 27 rfl rfl
theorem d_X7_chain_49 : dn cX7_chain 49 (.iload_n 2) 1 50 := dnAt dc_X7_chain 28 rfl rfl
theorem d_X7_chain_50 : dn cX7_chain 50 (.aload_n 0) 1 51 := dnAt dc_X7_chain 29 rfl rfl
theorem d_X7_chain_51 : dn cX7_chain 51 (.getfield 39) 3 54 := dnAt dc_X7_chain 30 rfl rfl
theorem d_X7_chain_54 : dn cX7_chain 54 (.sipush 256) 3 57 := dnAt dc_X7_chain 31 rfl rfl
theorem d_X7_chain_57 : dn cX7_chain 57 (.iload_n 1) 1 58 := dnAt dc_X7_chain 32 rfl rfl
theorem d_X7_chain_58 : dn cX7_chain 58 (.imul) 1 59 := dnAt dc_X7_chain 33 rfl rfl
theorem d_X7_chain_59 : dn cX7_chain 59 (.iload_n 2) 1 60 := dnAt dc_X7_chain 34 rfl rfl
theorem d_X7_chain_60 : dn cX7_chain 60 (.iconst 1) 1 61 := dnAt dc_X7_chain 35 rfl rfl
theorem d_X7_chain_61 : dn cX7_chain 61 (.aload_n 0) 1 62 := dnAt dc_X7_chain 36 rfl rfl
theorem d_X7_chain_62 : dn cX7_chain 62 (.getfield 33) 3 65 := dnAt dc_X7_chain 37 rfl rfl
theorem d_X7_chain_65 : dn cX7_chain 65 (.iload_n 1) 1 66 := dnAt dc_X7_chain 38 rfl rfl
theorem d_X7_chain_66 : dn cX7_chain 66 (.iaload) 1 67 := dnAt dc_X7_chain 39 rfl rfl
theorem d_X7_chain_67 : dn cX7_chain 67 (.ishl) 1 68 := dnAt dc_X7_chain 40 rfl rfl
theorem d_X7_chain_68 : dn cX7_chain 68 (.irem) 1 69 := dnAt dc_X7_chain 41 rfl rfl
theorem d_X7_chain_69 : dn cX7_chain 69 (.iadd) 1 70 := dnAt dc_X7_chain 42 rfl rfl
theorem d_X7_chain_70 : dn cX7_chain 70 (.baload) 1 71 := dnAt dc_X7_chain 43 rfl rfl
theorem d_X7_chain_71 : dn cX7_chain 71 (.ifCond .eq 31) 3 74 := dnAt dc_X7_chain 44 rfl rfl
theorem d_X7_chain_74 : dn cX7_chain 74 (.aload_n 0) 1 75 := dnAt dc_X7_chain 45 rfl rfl
theorem d_X7_chain_75 : dn cX7_chain 75 (.getfield 39) 3 78 := dnAt dc_X7_chain 46 rfl rfl
theorem d_X7_chain_78 : dn cX7_chain 78 (.sipush 256) 3 81 := dnAt dc_X7_chain 47 rfl rfl
theorem d_X7_chain_81 : dn cX7_chain 81 (.iload_n 1) 1 82 := dnAt dc_X7_chain 48 rfl rfl
theorem d_X7_chain_82 : dn cX7_chain 82 (.iconst 1) 1 83 := dnAt dc_X7_chain 49 rfl rfl
theorem d_X7_chain_83 : dn cX7_chain 83 (.iadd) 1 84 := dnAt dc_X7_chain 50 rfl rfl
theorem d_X7_chain_84 : dn cX7_chain 84 (.imul) 1 85 := dnAt dc_X7_chain 51 rfl rfl
theorem d_X7_chain_85 : dn cX7_chain 85 (.iload_n 2) 1 86 := dnAt dc_X7_chain 52 rfl rfl
theorem d_X7_chain_86 : dn cX7_chain 86 (.aload_n 0) 1 87 := dnAt dc_X7_chain 53 rfl rfl
theorem d_X7_chain_87 : dn cX7_chain 87 (.getfield 33) 3 90 := dnAt dc_X7_chain 54 rfl rfl
theorem d_X7_chain_90 : dn cX7_chain 90 (.iload_n 1) 1 91 := dnAt dc_X7_chain 55 rfl rfl
theorem d_X7_chain_91 : dn cX7_chain 91 (.iaload) 1 92 := dnAt dc_X7_chain 56 rfl rfl
theorem d_X7_chain_92 : dn cX7_chain 92 (.ishr) 1 93 := dnAt dc_X7_chain 57 rfl rfl
theorem d_X7_chain_93 : dn cX7_chain 93 (.iadd) 1 94 := dnAt dc_X7_chain 58 rfl rfl
theorem d_X7_chain_94 : dn cX7_chain 94 (.baload) 1 95 := dnAt dc_X7_chain 59 rfl rfl
theorem d_X7_chain_95 : dn cX7_chain 95 (.ifCond .eq 7) 3 98 := dnAt dc_X7_chain 60 rfl rfl
theorem d_X7_chain_98 : dn cX7_chain 98 (.iconst 1) 1 99 := dnAt dc_X7_chain 61 rfl rfl
theorem d_X7_chain_99 : dn cX7_chain 99 (.goto 4) 3 102 := dnAt dc_X7_chain 62 rfl rfl
theorem d_X7_chain_102 : dn cX7_chain 102 (.iconst 0) 1 103 := dnAt dc_X7_chain 63 rfl rfl
theorem d_X7_chain_103 : dn cX7_chain 103 (.bastore) 1 104 := dnAt dc_X7_chain 64 rfl rfl
theorem d_X7_chain_104 : dn cX7_chain 104 (.iinc 2 1) 3 107 := dnAt dc_X7_chain 65 rfl rfl
theorem d_X7_chain_107 : dn cX7_chain 107 (.goto (-69)) 3 110 := dnAt dc_X7_chain 66 rfl rfl
theorem d_X7_chain_110 : dn cX7_chain 110 (.aload_n 0) 1 111 := dnAt dc_X7_chain 67 rfl rfl
theorem d_X7_chain_111 : dn cX7_chain 111 (.iload_n 1) 1 112 := dnAt dc_X7_chain 68 rfl rfl
theorem d_X7_chain_112 : dn cX7_chain 112 (.aload_n 0) 1 113 := dnAt dc_X7_chain 69 rfl rfl
theorem d_X7_chain_113 : dn cX7_chain 113 (.getfield 33) 3 116 := dnAt dc_X7_chain 70 rfl rfl
theorem d_X7_chain_116 : dn cX7_chain 116 (.iload_n 1) 1 117 := dnAt dc_X7_chain 71 rfl rfl
theorem d_X7_chain_117 : dn cX7_chain 117 (.iaload) 1 118 := dnAt dc_X7_chain 72 rfl rfl
theorem d_X7_chain_118 : dn cX7_chain 118 (.aload_n 0) 1 119 := dnAt dc_X7_chain 73 rfl rfl
theorem d_X7_chain_119 : dn cX7_chain 119 (.getfield 33) 3 122 := dnAt dc_X7_chain 74 rfl rfl
theorem d_X7_chain_122 : dn cX7_chain 122 (.iload_n 1) 1 123 := dnAt dc_X7_chain 75 rfl rfl
theorem d_X7_chain_123 : dn cX7_chain 123 (.iconst 1) 1 124 := dnAt dc_X7_chain 76 rfl rfl
theorem d_X7_chain_124 : dn cX7_chain 124 (.iadd) 1 125 := dnAt dc_X7_chain 77 rfl rfl
theorem d_X7_chain_125 : dn cX7_chain 125 (.iaload) 1 126 := dnAt dc_X7_chain 78 rfl rfl
theorem d_X7_chain_126 : dn cX7_chain 126 (.iadd) 1 127 := dnAt dc_X7_chain 79 rfl rfl
theorem d_X7_chain_127 : dn cX7_chain 127 (.invokevirtual 118) 3 130 := dnAt dc_X7_chain 80 rfl rfl
theorem d_X7_chain_130 : dn cX7_chain 130 (.aload_n 0) 1 131 := dnAt dc_X7_chain 81 rfl rfl
theorem d_X7_chain_131 : dn cX7_chain 131 (.dup) 1 132 := dnAt dc_X7_chain 82 rfl rfl
theorem d_X7_chain_132 : dn cX7_chain 132 (.getfield 98) 3 135 := dnAt dc_X7_chain 83 rfl rfl
theorem d_X7_chain_135 : dn cX7_chain 135 (.iconst 1) 1 136 := dnAt dc_X7_chain 84 rfl rfl
theorem d_X7_chain_136 : dn cX7_chain 136 (.isub) 1 137 := dnAt dc_X7_chain 85 rfl rfl
theorem d_X7_chain_137 : dn cX7_chain 137 (.putfield 98) 3 140 := dnAt dc_X7_chain 86 rfl rfl
theorem d_X7_chain_140 : dn cX7_chain 140 (.aload_n 0) 1 141 := dnAt dc_X7_chain 87 rfl rfl
theorem d_X7_chain_141 : dn cX7_chain 141 (.getfield 98) 3 144 := dnAt dc_X7_chain 88 rfl rfl
theorem d_X7_chain_144 : dn cX7_chain 144 (.ireturn) 1 145 := dnAt dc_X7_chain 89 rfl rfl
set_option maxHeartbeats 4000000 in
set_option maxRecDepth 100000 in
theorem m_chain (S : mS) (I : mInv S) : mC yX7_chain cX7_chain 3 (Option.some Jvm.ClassFile.FieldType.int) { frames := 2, cells := 0, slots := 0, locals := 45 } [] S (fun v9 T9 => v9 = (some (.int (nI (rTwo S)))) ∧ T9 = tTwo S wCh) := by
  refine mC.of (by decide) (Nat.le_of_ble_eq_true rfl) ?_
  intro G x q h0 C A TY
  show VM G x q h0 S 0 [(0, .ref (q 0))] []
  refine m_aload_n C d_X7_chain_0 0 rfl ?_
  have join_14 : VM G x q h0 S 14 [(0, .ref (q 0))] [.int (nI (cTwo S)), .ref (q 0)] := by
    refine m_callV C d_X7_chain_14 ok_RX7_84 (m_holds S (cTwo S) (by unfold cTwo; split <;> omega)) rfl (rest := []) rfl rfl (Nat.le_of_ble_eq_true rfl) ⟨⟨by decide, by decide⟩, by decide, by decide⟩ (fun v9 T9 e9 => ?_)
    obtain ⟨rfl, e9⟩ := e9
    refine m_eq e9 ?_
    show VM G x q h0 (uK S 0 (cTwo S)) 17 [(0, .ref (q 0))] [.int (bI (decide (cTwo S = 0)))]
    refine mb_if_ne C d_X7_chain_17 (tgt := 22) rfl (fun c_17 => ?_) (fun c_17 => ?_)
    · skip
      have c0 := of_decide_eq_true c_17
      have h2 : 2 ≤ mK S 16 := by unfold cTwo at c0; split at c0 <;> omega
      have i1 := pile_le I
      have i2 := mInv_pair I h2
      have i3 := pow_256 (a := mN S 8 (12 + mK S 16 - 2)) (by omega)
      rw [c0]
      refine m_bipush C d_X7_chain_22 (v := (nI 12)) rfl ?_
      refine m_aload_n C d_X7_chain_24 0 rfl ?_
      refine m_get C d_X7_chain_25 fd_RX7_98 (v := .int (nI (mK (uK S 0 0) 16))) rfl ?_
      refine m_st (st' := [.int (nI (mK S 16)), .int (nI 12)]) rfl ?_
      refine mn_iadd C d_X7_chain_28 ?_
      refine m_iconst C d_X7_chain_29 (v := (nI 2)) rfl ?_
      refine mn_isub C d_X7_chain_30 (by omega) ?_
      refine m_istore_n C d_X7_chain_31 (lv' := [(1, .int (nI ((12 + (mK S 16)) - 2))), (0, .ref (q 0))]) (by decide) rfl ?_
      refine m_aload_n C d_X7_chain_32 1 rfl ?_
      refine m_callV C d_X7_chain_33 ok_RX7_115 (m_laysBehind (uK S 0 0) (I) (by show 2 ≤ mK S 16; omega)) rfl (rest := []) rfl rfl (Nat.le_of_ble_eq_true rfl) ⟨⟨by decide, by decide⟩, by decide, by decide⟩ (fun v9 T9 e9 => ?_)
      obtain ⟨rfl, e9⟩ := e9
      refine m_eq e9 ?_
      show VM G x q h0 (tLays (uK S 0 0)) 36 [(1, .int (nI ((12 + (mK S 16)) - 2))), (0, .ref (q 0))] []
      refine m_iconst C d_X7_chain_36 (v := (nI 0)) rfl ?_
      refine m_istore_n C d_X7_chain_37 (lv' := [(2, .int (nI 0)), (1, .int (nI ((12 + (mK S 16)) - 2))), (0, .ref (q 0))]) (by decide) rfl ?_
      have loop_38 : ∀ (fuel : Nat) (k : Nat), (k ≤ 256) → (257 - k) < fuel → VM G x q h0 (chL (tLays (uK S 0 0)) (wCh S (12 + mK S 16 - 2)) k) 38 [(0, .ref (q 0)), (1, .int (nI (12 + mK S 16 - 2))), (2, .int (nI k))] [] := by
        intro fuel
        induction fuel with
        | zero => intro k hk hf9; exact absurd hf9 (Nat.not_lt_zero _)
        | succ fuel ih_38 =>
          intro k hk hf9
          refine m_iload_n C d_X7_chain_38 2 rfl ?_
          refine m_sipush C d_X7_chain_39 (v := (nI 256)) rfl ?_
          refine mn_icmp_ge C d_X7_chain_42 (tgt := 110) rfl (by omega) (by omega) (fun c_42 => ?_) (fun c_42 => ?_)
          · skip
            obtain rfl : k = 256 := by omega
            refine m_aload_n C d_X7_chain_110 0 rfl ?_
            refine m_iload_n C d_X7_chain_111 1 rfl ?_
            refine m_aload_n C d_X7_chain_112 0 rfl ?_
            refine m_get C d_X7_chain_113 fd_RX7_33 (v := .ref (q 8)) rfl ?_
            refine m_iload_n C d_X7_chain_116 1 rfl ?_
            refine m_ald C d_X7_chain_117 (k := 8) (by decide) rfl (by show _ < 21; omega) (by decide) ?_
            refine m_st (st' := [.int (nI (mN S 8 (12 + mK S 16 - 2))), .int (nI (12 + mK S 16 - 2)), .ref (q 0)]) rfl ?_
            refine m_aload_n C d_X7_chain_118 0 rfl ?_
            refine m_get C d_X7_chain_119 fd_RX7_33 (v := .ref (q 8)) rfl ?_
            refine m_iload_n C d_X7_chain_122 1 rfl ?_
            refine m_iconst C d_X7_chain_123 (v := (nI 1)) rfl ?_
            refine mn_iadd C d_X7_chain_124 ?_
            refine m_ald C d_X7_chain_125 (k := 8) (by decide) rfl (by show _ < 21; omega) (by decide) ?_
            refine m_st (st' := [.int (nI (mN S 8 ((12 + mK S 16 - 2) + 1))), .int (nI (mN S 8 (12 + mK S 16 - 2))), .int (nI (12 + mK S 16 - 2)), .ref (q 0)]) rfl ?_
            refine mn_iadd C d_X7_chain_126 ?_
            refine m_callV C d_X7_chain_127 ok_RX7_118 (m_becomes (chL (tLays (uK S 0 0)) (wCh S (12 + mK S 16 - 2)) 256) (12 + mK S 16 - 2) ((mN S 8 (12 + mK S 16 - 2)) + (mN S 8 ((12 + mK S 16 - 2) + 1))) (by omega)) rfl (rest := []) rfl rfl (Nat.le_of_ble_eq_true rfl) ⟨⟨by decide, by decide⟩, by decide, by decide⟩ (fun v9 T9 e9 => ?_)
            obtain ⟨rfl, e9⟩ := e9
            refine m_eq e9 ?_
            show VM G x q h0 (tBec (chL (tLays (uK S 0 0)) (wCh S (12 + mK S 16 - 2)) 256) (12 + mK S 16 - 2) ((mN S 8 (12 + mK S 16 - 2)) + (mN S 8 ((12 + mK S 16 - 2) + 1)))) 130 [(0, .ref (q 0)), (1, .int (nI (12 + mK S 16 - 2))), (2, .int (nI 256))] []
            refine m_aload_n C d_X7_chain_130 0 rfl ?_
            refine m_dup C d_X7_chain_131 rfl ?_
            refine m_get C d_X7_chain_132 fd_RX7_98 (v := .int (nI (mK (tBec (chL (tLays (uK S 0 0)) (wCh S (12 + mK S 16 - 2)) 256) (12 + mK S 16 - 2) ((mN S 8 (12 + mK S 16 - 2)) + (mN S 8 ((12 + mK S 16 - 2) + 1)))) 16))) rfl ?_
            refine m_st (st' := [.int (nI (mK S 16)), .ref (q 0)]) rfl ?_
            refine m_iconst C d_X7_chain_135 (v := (nI 1)) rfl ?_
            refine mn_isub C d_X7_chain_136 (by omega) ?_
            refine m_putK C d_X7_chain_137 pf_RX7_98 (by decide) (fun _ _ => rfl) ?_
            refine m_aload_n C d_X7_chain_140 0 rfl ?_
            refine m_get C d_X7_chain_141 fd_RX7_98 (v := .int (nI (mK (uK (tBec (chL (tLays (uK S 0 0)) (wCh S (12 + mK S 16 - 2)) 256) (12 + mK S 16 - 2) ((mN S 8 (12 + mK S 16 - 2)) + (mN S 8 ((12 + mK S 16 - 2) + 1)))) 16 ((mK S 16) - 1)) 16))) rfl ?_
            refine m_st (st' := [.int (nI ((mK S 16) - 1))]) rfl ?_
            refine m_st (st' := [.int (nI (rTwo S))]) (by rw [rTwo, if_pos c0]) ?_
            exact m_iret C A TY d_X7_chain_144 rfl (⟨rfl, by rw [tTwo, if_pos c0]⟩)
          · skip
            have join_103 : VM G x q h0 (chL (tLays (uK S 0 0)) (wCh S (12 + mK S 16 - 2)) k) 103 [(0, .ref (q 0)), (1, .int (nI (12 + mK S 16 - 2))), (2, .int (nI k))] [.int (bI (wCh S (12 + mK S 16 - 2) k)), .int (nI k), .ref (q 17)] := by
              refine m_zst C d_X7_chain_103 (k := 17) (v := wCh S (12 + mK S 16 - 2) k) (by decide) rfl (by show _ < 256; omega) (by decide) ?_
              refine mn_iinc C d_X7_chain_104 (lv' := [(2, .int (nI (k + 1))), (0, .ref (q 0)), (1, .int (nI (12 + mK S 16 - 2)))]) 2 rfl (nI_inc _ rfl) (by decide) rfl ?_
              refine m_goto C d_X7_chain_107 (tgt := 38) rfl ?_
              refine m_eq (S' := chL (tLays (uK S 0 0)) (wCh S (12 + mK S 16 - 2)) (k + 1)) (chL_step) ?_
              refine m_lv (lv' := [(0, .ref (q 0)), (1, .int (nI (12 + mK S 16 - 2))), (2, .int (nI (k + 1)))]) [1, 2, 0] rfl ?_
              exact ih_38 (k + 1) (by omega) (by omega)
            refine m_aload_n C d_X7_chain_45 0 rfl ?_
            refine m_get C d_X7_chain_46 fd_RX7_54 (v := .ref (q 17)) rfl ?_
            refine m_iload_n C d_X7_chain_49 2 rfl ?_
            refine m_aload_n C d_X7_chain_50 0 rfl ?_
            refine m_get C d_X7_chain_51 fd_RX7_39 (v := .ref (q 10)) rfl ?_
            refine m_sipush C d_X7_chain_54 (v := (nI 256)) rfl ?_
            refine m_iload_n C d_X7_chain_57 1 rfl ?_
            refine mn_imul C d_X7_chain_58 ?_
            refine m_iload_n C d_X7_chain_59 2 rfl ?_
            refine m_iconst C d_X7_chain_60 (v := (nI 1)) rfl ?_
            refine m_aload_n C d_X7_chain_61 0 rfl ?_
            refine m_get C d_X7_chain_62 fd_RX7_33 (v := .ref (q 8)) rfl ?_
            refine m_iload_n C d_X7_chain_65 1 rfl ?_
            refine m_ald C d_X7_chain_66 (k := 8) (by decide) rfl (by show _ < 21; omega) (by decide) ?_
            refine m_st (st' := [.int (nI (mN S 8 (12 + mK S 16 - 2))), .int (nI 1), .int (nI k), .int (nI (256 * (12 + mK S 16 - 2))), .ref (q 10), .int (nI k), .ref (q 17)]) rfl ?_
            refine mn_ishl C d_X7_chain_67 (by omega) ?_
            refine m_st (st' := [.int (nI (2 ^ mN S 8 (12 + mK S 16 - 2))), .int (nI k), .int (nI (256 * (12 + mK S 16 - 2))), .ref (q 10), .int (nI k), .ref (q 17)]) (by rw [Nat.one_mul]) ?_
            refine mn_irem C d_X7_chain_68 (by omega) (i3.1) (by omega) ?_
            refine mn_iadd C d_X7_chain_69 ?_
            refine m_zld C d_X7_chain_70 (k := 10) (by decide) rfl (by have := Nat.mod_le k (2 ^ mN S 8 (12 + mK S 16 - 2)); show _ < 5376; omega) (by decide) ?_
            refine m_st (st' := [.int (bI (mB S 10 ((256 * (12 + mK S 16 - 2)) + (k % (2 ^ mN S 8 (12 + mK S 16 - 2)))))), .int (nI k), .ref (q 17)]) rfl ?_
            refine mb_if_eq C d_X7_chain_71 (tgt := 102) rfl (fun c_71 => ?_) (fun c_71 => ?_)
            · skip
              refine m_iconst C d_X7_chain_102 (v := (bI false)) rfl ?_
              refine m_st (st' := [.int (bI (wCh S (12 + mK S 16 - 2) k)), .int (nI k), .ref (q 17)]) (by first | (rw [wCh, c_71, c_95]; rfl) | (rw [wCh, c_71]; rfl)) ?_
              exact join_103  
            · skip
              refine m_aload_n C d_X7_chain_74 0 rfl ?_
              refine m_get C d_X7_chain_75 fd_RX7_39 (v := .ref (q 10)) rfl ?_
              refine m_sipush C d_X7_chain_78 (v := (nI 256)) rfl ?_
              refine m_iload_n C d_X7_chain_81 1 rfl ?_
              refine m_iconst C d_X7_chain_82 (v := (nI 1)) rfl ?_
              refine mn_iadd C d_X7_chain_83 ?_
              refine mn_imul C d_X7_chain_84 ?_
              refine m_iload_n C d_X7_chain_85 2 rfl ?_
              refine m_aload_n C d_X7_chain_86 0 rfl ?_
              refine m_get C d_X7_chain_87 fd_RX7_33 (v := .ref (q 8)) rfl ?_
              refine m_iload_n C d_X7_chain_90 1 rfl ?_
              refine m_ald C d_X7_chain_91 (k := 8) (by decide) rfl (by show _ < 21; omega) (by decide) ?_
              refine m_st (st' := [.int (nI (mN S 8 (12 + mK S 16 - 2))), .int (nI k), .int (nI (256 * ((12 + mK S 16 - 2) + 1))), .ref (q 10), .int (nI k), .ref (q 17)]) rfl ?_
              refine mn_ishr C d_X7_chain_92 (by omega) (by omega) ?_
              refine mn_iadd C d_X7_chain_93 ?_
              refine m_zld C d_X7_chain_94 (k := 10) (by decide) rfl (by have := Nat.div_le_self k (2 ^ mN S 8 (12 + mK S 16 - 2)); show _ < 5376; omega) (by decide) ?_
              refine m_st (st' := [.int (bI (mB S 10 ((256 * ((12 + mK S 16 - 2) + 1)) + (k / 2 ^ (mN S 8 (12 + mK S 16 - 2)))))), .int (nI k), .ref (q 17)]) rfl ?_
              refine mb_if_eq C d_X7_chain_95 (tgt := 102) rfl (fun c_95 => ?_) (fun c_95 => ?_)
              · skip
                refine m_iconst C d_X7_chain_102 (v := (bI false)) rfl ?_
                refine m_st (st' := [.int (bI (wCh S (12 + mK S 16 - 2) k)), .int (nI k), .ref (q 17)]) (by first | (rw [wCh, c_71, c_95]; rfl) | (rw [wCh, c_71]; rfl)) ?_
                exact join_103  
              · skip
                refine m_iconst C d_X7_chain_98 (v := (bI true)) rfl ?_
                refine m_goto C d_X7_chain_99 (tgt := 103) rfl ?_
                refine m_st (st' := [.int (bI (wCh S (12 + mK S 16 - 2) k)), .int (nI k), .ref (q 17)]) (by first | (rw [wCh, c_71, c_95]; rfl) | (rw [wCh, c_71]; rfl)) ?_
                exact join_103  
      refine m_eq (S' := chL (tLays (uK S 0 0)) (wCh S (12 + mK S 16 - 2)) 0) (chL_0 _ _) ?_
      refine m_lv (lv' := [(0, .ref (q 0)), (1, .int (nI ((12 + (mK S 16)) - 2))), (2, .int (nI 0))]) [2, 1, 0] rfl ?_
      refine m_lve (lv' := [(0, .ref (q 0)), (1, .int (nI (12 + mK S 16 - 2))), (2, .int (nI 0))]) (rfl) ?_
      exact loop_38 _ 0 (by omega) (Nat.lt_succ_self _)
    · skip
      have c1 := of_decide_eq_false c_17
      have c2 : cTwo S = 1 := by unfold cTwo at c1 ⊢; split at c1 <;> first | omega | (rw [if_pos (by assumption)])
      rw [c2]
      refine m_iconst C d_X7_chain_20 (v := (nI 0)) rfl ?_
      refine m_st (st' := [.int (nI (rTwo S))]) (by rw [rTwo, if_neg c1]) ?_
      exact m_iret C A TY d_X7_chain_21 rfl (⟨rfl, by rw [tTwo, if_neg c1]⟩)
  refine m_aload_n C d_X7_chain_1 0 rfl ?_
  refine m_get C d_X7_chain_2 fd_RX7_98 (v := .int (nI (mK S 16))) rfl ?_
  refine m_iconst C d_X7_chain_5 (v := (nI 2)) rfl ?_
  refine mn_icmp_ge C d_X7_chain_6 (tgt := 13) rfl (by have := pile_le I; omega) (by omega) (fun c_6 => ?_) (fun c_6 => ?_)
  · skip
    refine m_iconst C d_X7_chain_13 (v := (nI 0)) rfl ?_
    refine m_st (st' := [.int (nI (cTwo S)), .ref (q 0)]) (by first | rw [cTwo, if_pos (by omega)] | rw [cTwo, if_neg (by omega)]) ?_
    exact join_14  
  · skip
    refine m_iconst C d_X7_chain_9 (v := (nI 1)) rfl ?_
    refine m_goto C d_X7_chain_10 (tgt := 14) rfl ?_
    refine m_st (st' := [.int (nI (cTwo S)), .ref (q 0)]) (by first | rw [cTwo, if_pos (by omega)] | rw [cTwo, if_neg (by omega)]) ?_
    exact join_14  
def dl_X7_either : List (Nat × Instr × Nat) := [(0, .aload_n 0, 1), (1, .aload_n 0, 1), (2, .getfield 98, 3), (5, .iconst 2, 1), (6, .if_icmp .ge 7, 3), (9, .iconst 1, 1), (10, .goto 4, 3), (13, .iconst 0, 1), (14, .invokevirtual 84, 3), (17, .ifCond .ne 5, 3), (20, .iconst 0, 1), (21, .ireturn, 1), (22, .bipush 12, 2), (24, .aload_n 0, 1), (25, .getfield 98, 3), (28, .iadd, 1), (29, .iconst 2, 1), (30, .isub, 1), (31, .istore_n 1, 1), (32, .iconst 1, 1), (33, .aload_n 0, 1), (34, .getfield 33, 3), (37, .iload_n 1, 1), (38, .iaload, 1), (39, .ishl, 1), (40, .istore_n 2, 1), (41, .aload_n 0, 1), (42, .invokevirtual 115, 3), (45, .iconst 0, 1), (46, .istore_n 3, 1), (47, .iload_n 3, 1), (48, .sipush 256, 3), (51, .if_icmp .ge 70, 3), (54, .aload_n 0, 1), (55, .getfield 54, 3), (58, .iload_n 3, 1), (59, .iload_n 3, 1), (60, .iload_n 2, 1), (61, .if_icmp .ge 18, 3), (64, .aload_n 0, 1), (65, .getfield 39, 3), (68, .sipush 256, 3), (71, .iload_n 1, 1), (72, .imul, 1), (73, .iload_n 3, 1), (74, .iadd, 1), (75, .baload, 1), (76, .ifCond .ne 33, 3), (79, .iload_n 3, 1), (80, .iload_n 2, 1), (81, .irem, 1), (82, .ifCond .ne 31, 3), (85, .aload_n 0, 1), (86, .getfield 39, 3), (89, .sipush 256, 3), (92, .iload_n 1, 1), (93, .iconst 1, 1), (94, .iadd, 1), (95, .imul, 1), (96, .iload_n 3, 1), (97, .aload_n 0, 1), (98, .getfield 33, 3), (101, .iload_n 1, 1), (102, .iaload, 1), (103, .ishr, 1), (104, .iadd, 1), (105, .baload, 1), (106, .ifCond .eq 7, 3), (109, .iconst 1, 1), (110, .goto 4, 3), (113, .iconst 0, 1), (114, .bastore, 1), (115, .iinc 3 1, 3), (118, .goto (-71), 3), (121, .aload_n 0, 1), (122, .iload_n 1, 1), (123, .aload_n 0, 1), (124, .getfield 33, 3), (127, .iload_n 1, 1), (128, .iaload, 1), (129, .aload_n 0, 1), (130, .getfield 33, 3), (133, .iload_n 1, 1), (134, .iconst 1, 1), (135, .iadd, 1), (136, .iaload, 1), (137, .iadd, 1), (138, .invokevirtual 118, 3), (141, .aload_n 0, 1), (142, .dup, 1), (143, .getfield 98, 3), (146, .iconst 1, 1), (147, .isub, 1), (148, .putfield 98, 3), (151, .aload_n 0, 1), (152, .getfield 98, 3), (155, .ireturn, 1)]
theorem dc_X7_either : dnL cX7_either dl_X7_either = true := by decide +kernel
theorem d_X7_either_0 : dn cX7_either 0 (.aload_n 0) 1 1 := dnAt dc_X7_either 0 rfl rfl
theorem d_X7_either_1 : dn cX7_either 1 (.aload_n 0) 1 2 := dnAt dc_X7_either 1 rfl rfl
theorem d_X7_either_2 : dn cX7_either 2 (.getfield 98) 3 5 := dnAt dc_X7_either 2 rfl rfl
theorem d_X7_either_5 : dn cX7_either 5 (.iconst 2) 1 6 := dnAt dc_X7_either 3 rfl rfl
theorem d_X7_either_6 : dn cX7_either 6 (.if_icmp .ge 7) 3 9 := dnAt dc_X7_either 4 rfl rfl
theorem d_X7_either_9 : dn cX7_either 9 (.iconst 1) 1 10 := dnAt dc_X7_either 5 rfl rfl
theorem d_X7_either_10 : dn cX7_either 10 (.goto 4) 3 13 := dnAt dc_X7_either 6 rfl rfl
theorem d_X7_either_13 : dn cX7_either 13 (.iconst 0) 1 14 := dnAt dc_X7_either 7 rfl rfl
theorem d_X7_either_14 : dn cX7_either 14 (.invokevirtual 84) 3 17 := dnAt dc_X7_either 8 rfl rfl
theorem d_X7_either_17 : dn cX7_either 17 (.ifCond .ne 5) 3 20 := dnAt dc_X7_either 9 rfl rfl
theorem d_X7_either_20 : dn cX7_either 20 (.iconst 0) 1 21 := dnAt dc_X7_either 10 rfl rfl
theorem d_X7_either_21 : dn cX7_either 21 (.ireturn) 1 22 := dnAt dc_X7_either 11 rfl rfl
theorem d_X7_either_22 : dn cX7_either 22 (.bipush 12) 2 24 := dnAt dc_X7_either 12 rfl rfl
theorem d_X7_either_24 : dn cX7_either 24 (.aload_n 0) 1 25 := dnAt dc_X7_either 13 rfl rfl
theorem d_X7_either_25 : dn cX7_either 25 (.getfield 98) 3 28 := dnAt dc_X7_either 14 rfl rfl
theorem d_X7_either_28 : dn cX7_either 28 (.iadd) 1 29 := dnAt dc_X7_either 15 rfl rfl
theorem d_X7_either_29 : dn cX7_either 29 (.iconst 2) 1 30 := dnAt dc_X7_either 16 rfl rfl
theorem d_X7_either_30 : dn cX7_either 30 (.isub) 1 31 := dnAt dc_X7_either 17 rfl rfl
theorem d_X7_either_31 : dn cX7_either 31 (.istore_n 1) 1 32 := dnAt dc_X7_either 18 rfl rfl
theorem d_X7_either_32 : dn cX7_either 32 (.iconst 1) 1 33 := dnAt dc_X7_either 19 rfl rfl
theorem d_X7_either_33 : dn cX7_either 33 (.aload_n 0) 1 34 := dnAt dc_X7_either 20 rfl rfl
theorem d_X7_either_34 : dn cX7_either 34 (.getfield 33) 3 37 := dnAt dc_X7_either 21 rfl rfl
theorem d_X7_either_37 : dn cX7_either 37 (.iload_n 1) 1 38 := dnAt dc_X7_either 22 rfl rfl
theorem d_X7_either_38 : dn cX7_either 38 (.iaload) 1 39 := dnAt dc_X7_either 23 rfl rfl
theorem d_X7_either_39 : dn cX7_either 39 (.ishl) 1 40 := dnAt dc_X7_either 24 rfl rfl
theorem d_X7_either_40 : dn cX7_either 40 (.istore_n 2) 1 41 := dnAt dc_X7_either 25 rfl rfl
theorem d_X7_either_41 : dn cX7_either 41 (.aload_n 0) 1 42 := dnAt dc_X7_either 26 rfl rfl
theorem d_X7_either_42 : dn cX7_either 42 (.invokevirtual 115) 3 45 := dnAt dc_X7_either 27 rfl rfl
theorem d_X7_either_45 : dn cX7_either 45 (.iconst 0) 1 46 := dnAt dc_X7_either 28 rfl rfl
theorem d_X7_either_46 : dn cX7_either 46 (.istore_n 3) 1 47 := dnAt dc_X7_either 29 rfl rfl
theorem d_X7_either_47 : dn cX7_either 47 (.iload_n 3) 1 48 := dnAt dc_X7_either 30 rfl rfl
theorem d_X7_either_48 : dn cX7_either 48 (.sipush 256) 3 51 := dnAt dc_X7_either 31 rfl rfl
theorem d_X7_either_51 : dn cX7_either 51 (.if_icmp .ge 70) 3 54 := dnAt dc_X7_either 32 rfl rfl
theorem d_X7_either_54 : dn cX7_either 54 (.aload_n 0) 1 55 := dnAt dc_X7_either 33 rfl rfl
theorem d_X7_either_55 : dn cX7_either 55 (.getfield 54) 3 58 := dnAt dc_X7_either 34 rfl rfl
theorem d_X7_either_58 : dn cX7_either 58 (.iload_n 3) 1 59 := dnAt dc_X7_either 35 rfl rfl
theorem d_X7_either_59 : dn cX7_either 59 (.iload_n 3) 1 60 := dnAt dc_X7_either 36 rfl rfl
theorem d_X7_either_60 : dn cX7_either 60 (.iload_n 2) 1 61 := dnAt dc_X7_either 37 rfl rfl
theorem d_X7_either_61 : dn cX7_either 61 (.if_icmp .ge 18) 3 64 := dnAt dc_X7_either 38 rfl rfl
theorem d_X7_either_64 : dn cX7_either 64 (.aload_n 0) 1 65 := dnAt dc_X7_either 39 rfl rfl
theorem d_X7_either_65 : dn cX7_either 65 (.getfield 39) 3 68 := dnAt dc_X7_either 40 rfl rfl
theorem d_X7_either_68 : dn cX7_either 68 (.sipush 256) 3 71 := dnAt dc_X7_either 41 rfl rfl
theorem d_X7_either_71 : dn cX7_either 71 (.iload_n 1) 1 72 := dnAt dc_X7_either 42 rfl rfl
theorem d_X7_either_72 : dn cX7_either 72 (.imul) 1 73 := dnAt dc_X7_either 43 rfl rfl
theorem d_X7_either_73 : dn cX7_either 73 (.iload_n 3) 1 74 := dnAt dc_X7_either 44 rfl rfl
theorem d_X7_either_74 : dn cX7_either 74 (.iadd) 1 75 := dnAt dc_X7_either 45 rfl rfl
theorem d_X7_either_75 : dn cX7_either 75 (.baload) 1 76 := dnAt dc_X7_either 46 rfl rfl
theorem d_X7_either_76 : dn cX7_either 76 (.ifCond .ne 33) 3 79 := dnAt dc_X7_either 47 rfl rfl
theorem d_X7_either_79 : dn cX7_either 79 (.iload_n 3) 1 80 := dnAt dc_X7_either 48 rfl rfl
theorem d_X7_either_80 : dn cX7_either 80 (.iload_n 2) 1 81 := dnAt dc_X7_either 49 rfl rfl
theorem d_X7_either_81 : dn cX7_either 81 (.irem) 1 82 := dnAt dc_X7_either 50 rfl rfl
theorem d_X7_either_82 : dn cX7_either 82 (.ifCond .ne 31) 3 85 := dnAt dc_X7_either 51 rfl rfl
theorem d_X7_either_85 : dn cX7_either 85 (.aload_n 0) 1 86 := dnAt dc_X7_either 52 rfl rfl
theorem d_X7_either_86 : dn cX7_either 86 (.getfield 39) 3 89 := dnAt dc_X7_either 53 rfl rfl
theorem d_X7_either_89 : dn cX7_either 89 (.sipush 256) 3 92 := dnAt dc_X7_either 54 rfl rfl
theorem d_X7_either_92 : dn cX7_either 92 (.iload_n 1) 1 93 := dnAt dc_X7_either 55 rfl rfl
theorem d_X7_either_93 : dn cX7_either 93 (.iconst 1) 1 94 := dnAt dc_X7_either 56 rfl rfl
theorem d_X7_either_94 : dn cX7_either 94 (.iadd) 1 95 := dnAt dc_X7_either 57 rfl rfl
theorem d_X7_either_95 : dn cX7_either 95 (.imul) 1 96 := dnAt dc_X7_either 58 rfl rfl
theorem d_X7_either_96 : dn cX7_either 96 (.iload_n 3) 1 97 := dnAt dc_X7_either 59 rfl rfl
theorem d_X7_either_97 : dn cX7_either 97 (.aload_n 0) 1 98 := dnAt dc_X7_either 60 rfl rfl
theorem d_X7_either_98 : dn cX7_either 98 (.getfield 33) 3 101 := dnAt dc_X7_either 61 rfl rfl
theorem d_X7_either_101 : dn cX7_either 101 (.iload_n 1) 1 102 := dnAt dc_X7_either 62 rfl rfl
theorem d_X7_either_102 : dn cX7_either 102 (.iaload) 1 103 := dnAt dc_X7_either 63 rfl rfl
theorem d_X7_either_103 : dn cX7_either 103 (.ishr) 1 104 := dnAt dc_X7_either 64 rfl rfl
theorem d_X7_either_104 : dn cX7_either 104 (.iadd) 1 105 := dnAt dc_X7_either 65 rfl rfl
theorem d_X7_either_105 : dn cX7_either 105 (.baload) 1 106 := dnAt dc_X7_either 66 rfl rfl
theorem d_X7_either_106 : dn cX7_either 106 (.ifCond .eq 7) 3 109 := dnAt dc_X7_either 67 rfl rfl
theorem d_X7_either_109 : dn cX7_either 109 (.iconst 1) 1 110 := dnAt dc_X7_either 68 rfl rfl
theorem d_X7_either_110 : dn cX7_either 110 (.goto 4) 3 113 := dnAt dc_X7_either 69 rfl rfl
theorem d_X7_either_113 : dn cX7_either 113 (.iconst 0) 1 114 := dnAt dc_X7_either 70 rfl rfl
theorem d_X7_either_114 : dn cX7_either 114 (.bastore) 1 115 := dnAt dc_X7_either 71 rfl rfl
theorem d_X7_either_115 : dn cX7_either 115 (.iinc 3 1) 3 118 := dnAt dc_X7_either 72 rfl rfl
theorem d_X7_either_118 : dn cX7_either 118 (.goto (-71)) 3 121 := dnAt dc_X7_either 73 rfl rfl
theorem d_X7_either_121 : dn cX7_either 121 (.aload_n 0) 1 122 := dnAt dc_X7_either 74 rfl rfl
theorem d_X7_either_122 : dn cX7_either 122 (.iload_n 1) 1 123 := dnAt dc_X7_either 75 rfl rfl
theorem d_X7_either_123 : dn cX7_either 123 (.aload_n 0) 1 124 := dnAt dc_X7_either 76 rfl rfl
theorem d_X7_either_124 : dn cX7_either 124 (.getfield 33) 3 127 := dnAt dc_X7_either 77 rfl rfl
theorem d_X7_either_127 : dn cX7_either 127 (.iload_n 1) 1 128 := dnAt dc_X7_either 78 rfl rfl
theorem d_X7_either_128 : dn cX7_either 128 (.iaload) 1 129 := dnAt dc_X7_either 79 rfl rfl
theorem d_X7_either_129 : dn cX7_either 129 (.aload_n 0) 1 130 := dnAt dc_X7_either 80 rfl rfl
theorem d_X7_either_130 : dn cX7_either 130 (.getfield 33) 3 133 := dnAt dc_X7_either 81 rfl rfl
theorem d_X7_either_133 : dn cX7_either 133 (.iload_n 1) 1 134 := dnAt dc_X7_either 82 rfl rfl
theorem d_X7_either_134 : dn cX7_either 134 (.iconst 1) 1 135 := dnAt dc_X7_either 83 rfl rfl
theorem d_X7_either_135 : dn cX7_either 135 (.iadd) 1 136 := dnAt dc_X7_either 84 rfl rfl
theorem d_X7_either_136 : dn cX7_either 136 (.iaload) 1 137 := dnAt dc_X7_either 85 rfl rfl
theorem d_X7_either_137 : dn cX7_either 137 (.iadd) 1 138 := dnAt dc_X7_either 86 rfl rfl
theorem d_X7_either_138 : dn cX7_either 138 (.invokevirtual 118) 3 141 := dnAt dc_X7_either 87 rfl rfl
theorem d_X7_either_141 : dn cX7_either 141 (.aload_n 0) 1 142 := dnAt dc_X7_either 88 rfl rfl
theorem d_X7_either_142 : dn cX7_either 142 (.dup) 1 143 := dnAt dc_X7_either 89 rfl rfl
theorem d_X7_either_143 : dn cX7_either 143 (.getfield 98) 3 146 := dnAt dc_X7_either 90 rfl rfl
theorem d_X7_either_146 : dn cX7_either 146 (.iconst 1) 1 147 := dnAt dc_X7_either 91 rfl rfl
theorem d_X7_either_147 : dn cX7_either 147 (.isub) 1 148 := dnAt dc_X7_either 92 rfl rfl
theorem d_X7_either_148 : dn cX7_either 148 (.putfield 98) 3 151 := dnAt dc_X7_either 93 rfl rfl
theorem d_X7_either_151 : dn cX7_either 151 (.aload_n 0) 1 152 := dnAt dc_X7_either 94 rfl rfl
theorem d_X7_either_152 : dn cX7_either 152 (.getfield 98) 3 155 := dnAt dc_X7_either 95 rfl rfl
theorem d_X7_either_155 : dn cX7_either 155 (.ireturn) 1 156 := dnAt dc_X7_either 96 rfl rfl
set_option maxHeartbeats 4000000 in
set_option maxRecDepth 100000 in
theorem m_either (S : mS) (I : mInv S) : mC yX7_either cX7_either 4 (Option.some Jvm.ClassFile.FieldType.int) { frames := 2, cells := 0, slots := 0, locals := 45 } [] S (fun v9 T9 => v9 = (some (.int (nI (rTwo S)))) ∧ T9 = tTwo S wEi) := by
  refine mC.of (by decide) (Nat.le_of_ble_eq_true rfl) ?_
  intro G x q h0 C A TY
  show VM G x q h0 S 0 [(0, .ref (q 0))] []
  refine m_aload_n C d_X7_either_0 0 rfl ?_
  have join_14 : VM G x q h0 S 14 [(0, .ref (q 0))] [.int (nI (cTwo S)), .ref (q 0)] := by
    refine m_callV C d_X7_either_14 ok_RX7_84 (m_holds S (cTwo S) (by unfold cTwo; split <;> omega)) rfl (rest := []) rfl rfl (Nat.le_of_ble_eq_true rfl) ⟨⟨by decide, by decide⟩, by decide, by decide⟩ (fun v9 T9 e9 => ?_)
    obtain ⟨rfl, e9⟩ := e9
    refine m_eq e9 ?_
    show VM G x q h0 (uK S 0 (cTwo S)) 17 [(0, .ref (q 0))] [.int (bI (decide (cTwo S = 0)))]
    refine mb_if_ne C d_X7_either_17 (tgt := 22) rfl (fun c_17 => ?_) (fun c_17 => ?_)
    · skip
      have c0 := of_decide_eq_true c_17
      have h2 : 2 ≤ mK S 16 := by unfold cTwo at c0; split at c0 <;> omega
      have i1 := pile_le I
      have i2 := mInv_pair I h2
      have i3 := pow_256 (a := mN S 8 (12 + mK S 16 - 2)) (by omega)
      rw [c0]
      refine m_bipush C d_X7_either_22 (v := (nI 12)) rfl ?_
      refine m_aload_n C d_X7_either_24 0 rfl ?_
      refine m_get C d_X7_either_25 fd_RX7_98 (v := .int (nI (mK (uK S 0 0) 16))) rfl ?_
      refine m_st (st' := [.int (nI (mK S 16)), .int (nI 12)]) rfl ?_
      refine mn_iadd C d_X7_either_28 ?_
      refine m_iconst C d_X7_either_29 (v := (nI 2)) rfl ?_
      refine mn_isub C d_X7_either_30 (by omega) ?_
      refine m_istore_n C d_X7_either_31 (lv' := [(1, .int (nI ((12 + (mK S 16)) - 2))), (0, .ref (q 0))]) (by decide) rfl ?_
      refine m_iconst C d_X7_either_32 (v := (nI 1)) rfl ?_
      refine m_aload_n C d_X7_either_33 1 rfl ?_
      refine m_get C d_X7_either_34 fd_RX7_33 (v := .ref (q 8)) rfl ?_
      refine m_iload_n C d_X7_either_37 0 rfl ?_
      refine m_ald C d_X7_either_38 (k := 8) (by decide) rfl (by show _ < 21; omega) (by decide) ?_
      refine m_st (st' := [.int (nI (mN S 8 ((12 + (mK S 16)) - 2))), .int (nI 1)]) rfl ?_
      refine mn_ishl C d_X7_either_39 (by omega) ?_
      refine m_st (st' := [.int (nI (2 ^ mN S 8 (12 + mK S 16 - 2)))]) (by rw [Nat.one_mul]) ?_
      refine m_istore_n C d_X7_either_40 (lv' := [(2, .int (nI (2 ^ mN S 8 (12 + mK S 16 - 2)))), (1, .int (nI ((12 + (mK S 16)) - 2))), (0, .ref (q 0))]) (by decide) rfl ?_
      refine m_aload_n C d_X7_either_41 2 rfl ?_
      refine m_callV C d_X7_either_42 ok_RX7_115 (m_laysBehind (uK S 0 0) (I) (by show 2 ≤ mK S 16; omega)) rfl (rest := []) rfl rfl (Nat.le_of_ble_eq_true rfl) ⟨⟨by decide, by decide⟩, by decide, by decide⟩ (fun v9 T9 e9 => ?_)
      obtain ⟨rfl, e9⟩ := e9
      refine m_eq e9 ?_
      show VM G x q h0 (tLays (uK S 0 0)) 45 [(2, .int (nI (2 ^ mN S 8 (12 + mK S 16 - 2)))), (1, .int (nI ((12 + (mK S 16)) - 2))), (0, .ref (q 0))] []
      refine m_iconst C d_X7_either_45 (v := (nI 0)) rfl ?_
      refine m_istore_n C d_X7_either_46 (lv' := [(3, .int (nI 0)), (2, .int (nI (2 ^ mN S 8 (12 + mK S 16 - 2)))), (1, .int (nI ((12 + (mK S 16)) - 2))), (0, .ref (q 0))]) (by decide) rfl ?_
      have loop_47 : ∀ (fuel : Nat) (k : Nat), (k ≤ 256) → (257 - k) < fuel → VM G x q h0 (chL (tLays (uK S 0 0)) (wEi S (12 + mK S 16 - 2)) k) 47 [(0, .ref (q 0)), (1, .int (nI (12 + mK S 16 - 2))), (2, .int (nI (2 ^ mN S 8 (12 + mK S 16 - 2)))), (3, .int (nI k))] [] := by
        intro fuel
        induction fuel with
        | zero => intro k hk hf9; exact absurd hf9 (Nat.not_lt_zero _)
        | succ fuel ih_47 =>
          intro k hk hf9
          refine m_iload_n C d_X7_either_47 3 rfl ?_
          refine m_sipush C d_X7_either_48 (v := (nI 256)) rfl ?_
          refine mn_icmp_ge C d_X7_either_51 (tgt := 121) rfl (by omega) (by omega) (fun c_51 => ?_) (fun c_51 => ?_)
          · skip
            obtain rfl : k = 256 := by omega
            refine m_aload_n C d_X7_either_121 0 rfl ?_
            refine m_iload_n C d_X7_either_122 1 rfl ?_
            refine m_aload_n C d_X7_either_123 0 rfl ?_
            refine m_get C d_X7_either_124 fd_RX7_33 (v := .ref (q 8)) rfl ?_
            refine m_iload_n C d_X7_either_127 1 rfl ?_
            refine m_ald C d_X7_either_128 (k := 8) (by decide) rfl (by show _ < 21; omega) (by decide) ?_
            refine m_st (st' := [.int (nI (mN S 8 (12 + mK S 16 - 2))), .int (nI (12 + mK S 16 - 2)), .ref (q 0)]) rfl ?_
            refine m_aload_n C d_X7_either_129 0 rfl ?_
            refine m_get C d_X7_either_130 fd_RX7_33 (v := .ref (q 8)) rfl ?_
            refine m_iload_n C d_X7_either_133 1 rfl ?_
            refine m_iconst C d_X7_either_134 (v := (nI 1)) rfl ?_
            refine mn_iadd C d_X7_either_135 ?_
            refine m_ald C d_X7_either_136 (k := 8) (by decide) rfl (by show _ < 21; omega) (by decide) ?_
            refine m_st (st' := [.int (nI (mN S 8 ((12 + mK S 16 - 2) + 1))), .int (nI (mN S 8 (12 + mK S 16 - 2))), .int (nI (12 + mK S 16 - 2)), .ref (q 0)]) rfl ?_
            refine mn_iadd C d_X7_either_137 ?_
            refine m_callV C d_X7_either_138 ok_RX7_118 (m_becomes (chL (tLays (uK S 0 0)) (wEi S (12 + mK S 16 - 2)) 256) (12 + mK S 16 - 2) ((mN S 8 (12 + mK S 16 - 2)) + (mN S 8 ((12 + mK S 16 - 2) + 1))) (by omega)) rfl (rest := []) rfl rfl (Nat.le_of_ble_eq_true rfl) ⟨⟨by decide, by decide⟩, by decide, by decide⟩ (fun v9 T9 e9 => ?_)
            obtain ⟨rfl, e9⟩ := e9
            refine m_eq e9 ?_
            show VM G x q h0 (tBec (chL (tLays (uK S 0 0)) (wEi S (12 + mK S 16 - 2)) 256) (12 + mK S 16 - 2) ((mN S 8 (12 + mK S 16 - 2)) + (mN S 8 ((12 + mK S 16 - 2) + 1)))) 141 [(0, .ref (q 0)), (1, .int (nI (12 + mK S 16 - 2))), (2, .int (nI (2 ^ mN S 8 (12 + mK S 16 - 2)))), (3, .int (nI 256))] []
            refine m_aload_n C d_X7_either_141 0 rfl ?_
            refine m_dup C d_X7_either_142 rfl ?_
            refine m_get C d_X7_either_143 fd_RX7_98 (v := .int (nI (mK (tBec (chL (tLays (uK S 0 0)) (wEi S (12 + mK S 16 - 2)) 256) (12 + mK S 16 - 2) ((mN S 8 (12 + mK S 16 - 2)) + (mN S 8 ((12 + mK S 16 - 2) + 1)))) 16))) rfl ?_
            refine m_st (st' := [.int (nI (mK S 16)), .ref (q 0)]) rfl ?_
            refine m_iconst C d_X7_either_146 (v := (nI 1)) rfl ?_
            refine mn_isub C d_X7_either_147 (by omega) ?_
            refine m_putK C d_X7_either_148 pf_RX7_98 (by decide) (fun _ _ => rfl) ?_
            refine m_aload_n C d_X7_either_151 0 rfl ?_
            refine m_get C d_X7_either_152 fd_RX7_98 (v := .int (nI (mK (uK (tBec (chL (tLays (uK S 0 0)) (wEi S (12 + mK S 16 - 2)) 256) (12 + mK S 16 - 2) ((mN S 8 (12 + mK S 16 - 2)) + (mN S 8 ((12 + mK S 16 - 2) + 1)))) 16 ((mK S 16) - 1)) 16))) rfl ?_
            refine m_st (st' := [.int (nI ((mK S 16) - 1))]) rfl ?_
            refine m_st (st' := [.int (nI (rTwo S))]) (by rw [rTwo, if_pos c0]) ?_
            exact m_iret C A TY d_X7_either_155 rfl (⟨rfl, by rw [tTwo, if_pos c0]⟩)
          · skip
            have join_114 : VM G x q h0 (chL (tLays (uK S 0 0)) (wEi S (12 + mK S 16 - 2)) k) 114 [(0, .ref (q 0)), (1, .int (nI (12 + mK S 16 - 2))), (2, .int (nI (2 ^ mN S 8 (12 + mK S 16 - 2)))), (3, .int (nI k))] [.int (bI (wEi S (12 + mK S 16 - 2) k)), .int (nI k), .ref (q 17)] := by
              refine m_zst C d_X7_either_114 (k := 17) (v := wEi S (12 + mK S 16 - 2) k) (by decide) rfl (by show _ < 256; omega) (by decide) ?_
              refine mn_iinc C d_X7_either_115 (lv' := [(3, .int (nI (k + 1))), (0, .ref (q 0)), (1, .int (nI (12 + mK S 16 - 2))), (2, .int (nI (2 ^ mN S 8 (12 + mK S 16 - 2))))]) 3 rfl (nI_inc _ rfl) (by decide) rfl ?_
              refine m_goto C d_X7_either_118 (tgt := 47) rfl ?_
              refine m_eq (S' := chL (tLays (uK S 0 0)) (wEi S (12 + mK S 16 - 2)) (k + 1)) (chL_step) ?_
              refine m_lv (lv' := [(0, .ref (q 0)), (1, .int (nI (12 + mK S 16 - 2))), (2, .int (nI (2 ^ mN S 8 (12 + mK S 16 - 2)))), (3, .int (nI (k + 1)))]) [1, 2, 3, 0] rfl ?_
              exact ih_47 (k + 1) (by omega) (by omega)
            refine m_aload_n C d_X7_either_54 0 rfl ?_
            refine m_get C d_X7_either_55 fd_RX7_54 (v := .ref (q 17)) rfl ?_
            refine m_iload_n C d_X7_either_58 3 rfl ?_
            refine m_iload_n C d_X7_either_59 3 rfl ?_
            refine m_iload_n C d_X7_either_60 2 rfl ?_
            refine mn_icmp_ge C d_X7_either_61 (tgt := 79) rfl (by omega) (by omega) (fun c_61 => ?_) (fun c_61 => ?_)
            · skip
              refine m_iload_n C d_X7_either_79 3 rfl ?_
              refine m_iload_n C d_X7_either_80 2 rfl ?_
              refine mn_irem C d_X7_either_81 (by omega) (i3.1) (by omega) ?_
              refine mn_if_ne C d_X7_either_82 (tgt := 113) rfl (by have := Nat.mod_le k (2 ^ mN S 8 (12 + mK S 16 - 2)); omega) (fun c_82 => ?_) (fun c_82 => ?_)
              · skip
                refine m_iconst C d_X7_either_113 (v := (bI false)) rfl ?_
                refine m_st (st' := [.int (bI (wEi S (12 + mK S 16 - 2) k)), .int (nI k), .ref (q 17)]) (congrArg (fun z => [Value.int (bI z), .int (nI k), .ref (q 17)]) (by simp only [wEi]; grind)) ?_
                exact join_114  
              · skip
                refine m_aload_n C d_X7_either_85 0 rfl ?_
                refine m_get C d_X7_either_86 fd_RX7_39 (v := .ref (q 10)) rfl ?_
                refine m_sipush C d_X7_either_89 (v := (nI 256)) rfl ?_
                refine m_iload_n C d_X7_either_92 1 rfl ?_
                refine m_iconst C d_X7_either_93 (v := (nI 1)) rfl ?_
                refine mn_iadd C d_X7_either_94 ?_
                refine mn_imul C d_X7_either_95 ?_
                refine m_iload_n C d_X7_either_96 3 rfl ?_
                refine m_aload_n C d_X7_either_97 0 rfl ?_
                refine m_get C d_X7_either_98 fd_RX7_33 (v := .ref (q 8)) rfl ?_
                refine m_iload_n C d_X7_either_101 1 rfl ?_
                refine m_ald C d_X7_either_102 (k := 8) (by decide) rfl (by show _ < 21; omega) (by decide) ?_
                refine m_st (st' := [.int (nI (mN S 8 (12 + mK S 16 - 2))), .int (nI k), .int (nI (256 * ((12 + mK S 16 - 2) + 1))), .ref (q 10), .int (nI k), .ref (q 17)]) rfl ?_
                refine mn_ishr C d_X7_either_103 (by omega) (by omega) ?_
                refine mn_iadd C d_X7_either_104 ?_
                refine m_zld C d_X7_either_105 (k := 10) (by decide) rfl (by have := Nat.div_le_self k (2 ^ mN S 8 (12 + mK S 16 - 2)); show _ < 5376; omega) (by decide) ?_
                refine m_st (st' := [.int (bI (mB S 10 ((256 * ((12 + mK S 16 - 2) + 1)) + (k / 2 ^ (mN S 8 (12 + mK S 16 - 2)))))), .int (nI k), .ref (q 17)]) rfl ?_
                refine mb_if_eq C d_X7_either_106 (tgt := 113) rfl (fun c_106 => ?_) (fun c_106 => ?_)
                · skip
                  refine m_iconst C d_X7_either_113 (v := (bI false)) rfl ?_
                  refine m_st (st' := [.int (bI (wEi S (12 + mK S 16 - 2) k)), .int (nI k), .ref (q 17)]) (congrArg (fun z => [Value.int (bI z), .int (nI k), .ref (q 17)]) (by simp only [wEi]; grind)) ?_
                  exact join_114  
                · skip
                  refine m_iconst C d_X7_either_109 (v := (bI true)) rfl ?_
                  refine m_goto C d_X7_either_110 (tgt := 114) rfl ?_
                  refine m_st (st' := [.int (bI (wEi S (12 + mK S 16 - 2) k)), .int (nI k), .ref (q 17)]) (congrArg (fun z => [Value.int (bI z), .int (nI k), .ref (q 17)]) (by simp only [wEi]; grind)) ?_
                  exact join_114  
            · skip
              refine m_aload_n C d_X7_either_64 0 rfl ?_
              refine m_get C d_X7_either_65 fd_RX7_39 (v := .ref (q 10)) rfl ?_
              refine m_sipush C d_X7_either_68 (v := (nI 256)) rfl ?_
              refine m_iload_n C d_X7_either_71 1 rfl ?_
              refine mn_imul C d_X7_either_72 ?_
              refine m_iload_n C d_X7_either_73 3 rfl ?_
              refine mn_iadd C d_X7_either_74 ?_
              refine m_zld C d_X7_either_75 (k := 10) (by decide) rfl (by show _ < 5376; omega) (by decide) ?_
              refine m_st (st' := [.int (bI (mB S 10 ((256 * (12 + mK S 16 - 2)) + k))), .int (nI k), .ref (q 17)]) rfl ?_
              refine mb_if_ne C d_X7_either_76 (tgt := 109) rfl (fun c_76 => ?_) (fun c_76 => ?_)
              · skip
                refine m_iconst C d_X7_either_109 (v := (bI true)) rfl ?_
                refine m_goto C d_X7_either_110 (tgt := 114) rfl ?_
                refine m_st (st' := [.int (bI (wEi S (12 + mK S 16 - 2) k)), .int (nI k), .ref (q 17)]) (congrArg (fun z => [Value.int (bI z), .int (nI k), .ref (q 17)]) (by simp only [wEi]; grind)) ?_
                exact join_114  
              · skip
                refine m_iload_n C d_X7_either_79 3 rfl ?_
                refine m_iload_n C d_X7_either_80 2 rfl ?_
                refine mn_irem C d_X7_either_81 (by omega) (i3.1) (by omega) ?_
                refine mn_if_ne C d_X7_either_82 (tgt := 113) rfl (by have := Nat.mod_le k (2 ^ mN S 8 (12 + mK S 16 - 2)); omega) (fun c_82 => ?_) (fun c_82 => ?_)
                · skip
                  refine m_iconst C d_X7_either_113 (v := (bI false)) rfl ?_
                  refine m_st (st' := [.int (bI (wEi S (12 + mK S 16 - 2) k)), .int (nI k), .ref (q 17)]) (congrArg (fun z => [Value.int (bI z), .int (nI k), .ref (q 17)]) (by simp only [wEi]; grind)) ?_
                  exact join_114  
                · skip
                  refine m_aload_n C d_X7_either_85 0 rfl ?_
                  refine m_get C d_X7_either_86 fd_RX7_39 (v := .ref (q 10)) rfl ?_
                  refine m_sipush C d_X7_either_89 (v := (nI 256)) rfl ?_
                  refine m_iload_n C d_X7_either_92 1 rfl ?_
                  refine m_iconst C d_X7_either_93 (v := (nI 1)) rfl ?_
                  refine mn_iadd C d_X7_either_94 ?_
                  refine mn_imul C d_X7_either_95 ?_
                  refine m_iload_n C d_X7_either_96 3 rfl ?_
                  refine m_aload_n C d_X7_either_97 0 rfl ?_
                  refine m_get C d_X7_either_98 fd_RX7_33 (v := .ref (q 8)) rfl ?_
                  refine m_iload_n C d_X7_either_101 1 rfl ?_
                  refine m_ald C d_X7_either_102 (k := 8) (by decide) rfl (by show _ < 21; omega) (by decide) ?_
                  refine m_st (st' := [.int (nI (mN S 8 (12 + mK S 16 - 2))), .int (nI k), .int (nI (256 * ((12 + mK S 16 - 2) + 1))), .ref (q 10), .int (nI k), .ref (q 17)]) rfl ?_
                  refine mn_ishr C d_X7_either_103 (by omega) (by omega) ?_
                  refine mn_iadd C d_X7_either_104 ?_
                  refine m_zld C d_X7_either_105 (k := 10) (by decide) rfl (by have := Nat.div_le_self k (2 ^ mN S 8 (12 + mK S 16 - 2)); show _ < 5376; omega) (by decide) ?_
                  refine m_st (st' := [.int (bI (mB S 10 ((256 * ((12 + mK S 16 - 2) + 1)) + (k / 2 ^ (mN S 8 (12 + mK S 16 - 2)))))), .int (nI k), .ref (q 17)]) rfl ?_
                  refine mb_if_eq C d_X7_either_106 (tgt := 113) rfl (fun c_106 => ?_) (fun c_106 => ?_)
                  · skip
                    refine m_iconst C d_X7_either_113 (v := (bI false)) rfl ?_
                    refine m_st (st' := [.int (bI (wEi S (12 + mK S 16 - 2) k)), .int (nI k), .ref (q 17)]) (congrArg (fun z => [Value.int (bI z), .int (nI k), .ref (q 17)]) (by simp only [wEi]; grind)) ?_
                    exact join_114  
                  · skip
                    refine m_iconst C d_X7_either_109 (v := (bI true)) rfl ?_
                    refine m_goto C d_X7_either_110 (tgt := 114) rfl ?_
                    refine m_st (st' := [.int (bI (wEi S (12 + mK S 16 - 2) k)), .int (nI k), .ref (q 17)]) (congrArg (fun z => [Value.int (bI z), .int (nI k), .ref (q 17)]) (by simp only [wEi]; grind)) ?_
                    exact join_114  
      refine m_eq (S' := chL (tLays (uK S 0 0)) (wEi S (12 + mK S 16 - 2)) 0) (chL_0 _ _) ?_
      refine m_lv (lv' := [(0, .ref (q 0)), (1, .int (nI ((12 + (mK S 16)) - 2))), (2, .int (nI (2 ^ mN S 8 (12 + mK S 16 - 2)))), (3, .int (nI 0))]) [3, 2, 1, 0] rfl ?_
      refine m_lve (lv' := [(0, .ref (q 0)), (1, .int (nI (12 + mK S 16 - 2))), (2, .int (nI (2 ^ mN S 8 (12 + mK S 16 - 2)))), (3, .int (nI 0))]) (rfl) ?_
      exact loop_47 _ 0 (by omega) (Nat.lt_succ_self _)
    · skip
      have c1 := of_decide_eq_false c_17
      have c2 : cTwo S = 1 := by unfold cTwo at c1 ⊢; split at c1 <;> first | omega | (rw [if_pos (by assumption)])
      rw [c2]
      refine m_iconst C d_X7_either_20 (v := (nI 0)) rfl ?_
      refine m_st (st' := [.int (nI (rTwo S))]) (by rw [rTwo, if_neg c1]) ?_
      exact m_iret C A TY d_X7_either_21 rfl (⟨rfl, by rw [tTwo, if_neg c1]⟩)
  refine m_aload_n C d_X7_either_1 0 rfl ?_
  refine m_get C d_X7_either_2 fd_RX7_98 (v := .int (nI (mK S 16))) rfl ?_
  refine m_iconst C d_X7_either_5 (v := (nI 2)) rfl ?_
  refine mn_icmp_ge C d_X7_either_6 (tgt := 13) rfl (by have := pile_le I; omega) (by omega) (fun c_6 => ?_) (fun c_6 => ?_)
  · skip
    refine m_iconst C d_X7_either_13 (v := (nI 0)) rfl ?_
    refine m_st (st' := [.int (nI (cTwo S)), .ref (q 0)]) (by first | rw [cTwo, if_pos (by omega)] | rw [cTwo, if_neg (by omega)]) ?_
    exact join_14  
  · skip
    refine m_iconst C d_X7_either_9 (v := (nI 1)) rfl ?_
    refine m_goto C d_X7_either_10 (tgt := 14) rfl ?_
    refine m_st (st' := [.int (nI (cTwo S)), .ref (q 0)]) (by first | rw [cTwo, if_pos (by omega)] | rw [cTwo, if_neg (by omega)]) ?_
    exact join_14  
def dl_X7_copiesPart : List (Nat × Instr × Nat) := [(0, .aload_n 0, 1), (1, .getfield 33, 3), (4, .iload_n 2, 1), (5, .aload_n 0, 1), (6, .getfield 33, 3), (9, .iload_n 1, 1), (10, .iaload, 1), (11, .iastore, 1), (12, .aload_n 0, 1), (13, .getfield 36, 3), (16, .iload_n 2, 1), (17, .aload_n 0, 1), (18, .getfield 36, 3), (21, .iload_n 1, 1), (22, .baload, 1), (23, .bastore, 1), (24, .iconst 0, 1), (25, .istore_n 3, 1), (26, .iload_n 3, 1), (27, .sipush 256, 3), (30, .if_icmp .ge 33, 3), (33, .aload_n 0, 1), (34, .getfield 39, 3), (37, .sipush 256, 3), (40, .iload_n 2, 1), (41, .imul, 1), (42, .iload_n 3, 1), (43, .iadd, 1), (44, .aload_n 0, 1), (45, .getfield 39, 3), (48, .sipush 256, 3), (51, .iload_n 1, 1), (52, .imul, 1), (53, .iload_n 3, 1), (54, .iadd, 1), (55, .baload, 1), (56, .bastore, 1), (57, .iinc 3 1, 3), (60, .goto (-34), 3), (63, .iconst 0, 1), (64, .istore_n 3, 1), (65, .iload_n 3, 1), (66, .bipush 8, 2), (68, .if_icmp .ge 25, 3), (71, .aload_n 0, 1), (72, .bipush 8, 2), (74, .iload_n 1, 1), (75, .imul, 1), (76, .iload_n 3, 1), (77, .iadd, 1), (78, .bipush 8, 2), (80, .iload_n 2, 1), (81, .imul, 1), (82, .iload_n 3, 1), (83, .iadd, 1), (84, .invokevirtual 101, 3), (87, .iinc 3 1, 3), (90, .goto (-25), 3), (93, .return_, 1)]
theorem dc_X7_copiesPart : dnL cX7_copiesPart dl_X7_copiesPart = true := by decide +kernel
theorem d_X7_copiesPart_0 : dn cX7_copiesPart 0 (.aload_n 0) 1 1 := dnAt dc_X7_copiesPart 0 rfl rfl
theorem d_X7_copiesPart_1 : dn cX7_copiesPart 1 (.getfield 33) 3 4 := dnAt dc_X7_copiesPart 1 rfl rfl
theorem d_X7_copiesPart_4 : dn cX7_copiesPart 4 (.iload_n 2) 1 5 := dnAt dc_X7_copiesPart 2 rfl rfl
theorem d_X7_copiesPart_5 : dn cX7_copiesPart 5 (.aload_n 0) 1 6 := dnAt dc_X7_copiesPart 3 rfl rfl
theorem d_X7_copiesPart_6 : dn cX7_copiesPart 6 (.getfield 33) 3 9 := dnAt dc_X7_copiesPart 4 rfl rfl
theorem d_X7_copiesPart_9 : dn cX7_copiesPart 9 (.iload_n 1) 1 10 := dnAt dc_X7_copiesPart 5 rfl rfl
theorem d_X7_copiesPart_10 : dn cX7_copiesPart 10 (.iaload) 1 11 := dnAt dc_X7_copiesPart 6 rfl rfl
theorem d_X7_copiesPart_11 : dn cX7_copiesPart 11 (.iastore) 1 12 := dnAt dc_X7_copiesPart 7 rfl rfl
theorem d_X7_copiesPart_12 : dn cX7_copiesPart 12 (.aload_n 0) 1 13 := dnAt dc_X7_copiesPart 8 rfl rfl
theorem d_X7_copiesPart_13 : dn cX7_copiesPart 13 (.getfield 36) 3 16 := dnAt dc_X7_copiesPart 9 rfl rfl
theorem d_X7_copiesPart_16 : dn cX7_copiesPart 16 (.iload_n 2) 1 17 := dnAt dc_X7_copiesPart 10 rfl rfl
theorem d_X7_copiesPart_17 : dn cX7_copiesPart 17 (.aload_n 0) 1 18 := dnAt dc_X7_copiesPart 11 rfl rfl
theorem d_X7_copiesPart_18 : dn cX7_copiesPart 18 (.getfield 36) 3 21 := dnAt dc_X7_copiesPart 12 rfl rfl
theorem d_X7_copiesPart_21 : dn cX7_copiesPart 21 (.iload_n 1) 1 22 := dnAt dc_X7_copiesPart 13 rfl rfl
theorem d_X7_copiesPart_22 : dn cX7_copiesPart 22 (.baload) 1 23 := dnAt dc_X7_copiesPart 14 rfl rfl
theorem d_X7_copiesPart_23 : dn cX7_copiesPart 23 (.bastore) 1 24 := dnAt dc_X7_copiesPart 15 rfl rfl
theorem d_X7_copiesPart_24 : dn cX7_copiesPart 24 (.iconst 0) 1 25 := dnAt dc_X7_copiesPart 16 rfl rfl
theorem d_X7_copiesPart_25 : dn cX7_copiesPart 25 (.istore_n 3) 1 26 := dnAt dc_X7_copiesPart 17 rfl rfl
theorem d_X7_copiesPart_26 : dn cX7_copiesPart 26 (.iload_n 3) 1 27 := dnAt dc_X7_copiesPart 18 rfl rfl
theorem d_X7_copiesPart_27 : dn cX7_copiesPart 27 (.sipush 256) 3 30 := dnAt dc_X7_copiesPart 19 rfl rfl
theorem d_X7_copiesPart_30 : dn cX7_copiesPart 30 (.if_icmp .ge 33) 3 33 := dnAt dc_X7_copiesPart 20 rfl rfl
theorem d_X7_copiesPart_33 : dn cX7_copiesPart 33 (.aload_n 0) 1 34 := dnAt dc_X7_copiesPart 21 rfl rfl
theorem d_X7_copiesPart_34 : dn cX7_copiesPart 34 (.getfield 39) 3 37 := dnAt dc_X7_copiesPart 22 rfl rfl
theorem d_X7_copiesPart_37 : dn cX7_copiesPart 37 (.sipush 256) 3 40 := dnAt dc_X7_copiesPart 23 rfl rfl
theorem d_X7_copiesPart_40 : dn cX7_copiesPart 40 (.iload_n 2) 1 41 := dnAt dc_X7_copiesPart 24 rfl rfl
theorem d_X7_copiesPart_41 : dn cX7_copiesPart 41 (.imul) 1 42 := dnAt dc_X7_copiesPart 25 rfl rfl
theorem d_X7_copiesPart_42 : dn cX7_copiesPart 42 (.iload_n 3) 1 43 := dnAt dc_X7_copiesPart 26 rfl rfl
theorem d_X7_copiesPart_43 : dn cX7_copiesPart 43 (.iadd) 1 44 := dnAt dc_X7_copiesPart 27 rfl rfl
theorem d_X7_copiesPart_44 : dn cX7_copiesPart 44 (.aload_n 0) 1 45 := dnAt dc_X7_copiesPart 28 rfl rfl
theorem d_X7_copiesPart_45 : dn cX7_copiesPart 45 (.getfield 39) 3 48 := dnAt dc_X7_copiesPart 29 rfl rfl
theorem d_X7_copiesPart_48 : dn cX7_copiesPart 48 (.sipush 256) 3 51 := dnAt dc_X7_copiesPart 30 rfl rfl
theorem d_X7_copiesPart_51 : dn cX7_copiesPart 51 (.iload_n 1) 1 52 := dnAt dc_X7_copiesPart 31 rfl rfl
theorem d_X7_copiesPart_52 : dn cX7_copiesPart 52 (.imul) 1 53 := dnAt dc_X7_copiesPart 32 rfl rfl
theorem d_X7_copiesPart_53 : dn cX7_copiesPart 53 (.iload_n 3) 1 54 := dnAt dc_X7_copiesPart 33 rfl rfl
theorem d_X7_copiesPart_54 : dn cX7_copiesPart 54 (.iadd) 1 55 := dnAt dc_X7_copiesPart 34 rfl rfl
theorem d_X7_copiesPart_55 : dn cX7_copiesPart 55 (.baload) 1 56 := dnAt dc_X7_copiesPart 35 rfl rfl
theorem d_X7_copiesPart_56 : dn cX7_copiesPart 56 (.bastore) 1 57 := dnAt dc_X7_copiesPart 36 rfl rfl
theorem d_X7_copiesPart_57 : dn cX7_copiesPart 57 (.iinc 3 1) 3 60 := dnAt dc_X7_copiesPart 37 rfl rfl
theorem d_X7_copiesPart_60 : dn cX7_copiesPart 60 (.goto (-34)) 3 63 := dnAt dc_X7_copiesPart 38 rfl rfl
theorem d_X7_copiesPart_63 : dn cX7_copiesPart 63 (.iconst 0) 1 64 := dnAt dc_X7_copiesPart 39 rfl rfl
theorem d_X7_copiesPart_64 : dn cX7_copiesPart 64 (.istore_n 3) 1 65 := dnAt dc_X7_copiesPart 40 rfl rfl
theorem d_X7_copiesPart_65 : dn cX7_copiesPart 65 (.iload_n 3) 1 66 := dnAt dc_X7_copiesPart 41 rfl rfl
theorem d_X7_copiesPart_66 : dn cX7_copiesPart 66 (.bipush 8) 2 68 := dnAt dc_X7_copiesPart 42 rfl rfl
theorem d_X7_copiesPart_68 : dn cX7_copiesPart 68 (.if_icmp .ge 25) 3 71 := dnAt dc_X7_copiesPart 43 rfl rfl
theorem d_X7_copiesPart_71 : dn cX7_copiesPart 71 (.aload_n 0) 1 72 := dnAt dc_X7_copiesPart 44 rfl rfl
theorem d_X7_copiesPart_72 : dn cX7_copiesPart 72 (.bipush 8) 2 74 := dnAt dc_X7_copiesPart 45 rfl rfl
theorem d_X7_copiesPart_74 : dn cX7_copiesPart 74 (.iload_n 1) 1 75 := dnAt dc_X7_copiesPart 46 rfl rfl
theorem d_X7_copiesPart_75 : dn cX7_copiesPart 75 (.imul) 1 76 := dnAt dc_X7_copiesPart 47 rfl rfl
theorem d_X7_copiesPart_76 : dn cX7_copiesPart 76 (.iload_n 3) 1 77 := dnAt dc_X7_copiesPart 48 rfl rfl
theorem d_X7_copiesPart_77 : dn cX7_copiesPart 77 (.iadd) 1 78 := dnAt dc_X7_copiesPart 49 rfl rfl
theorem d_X7_copiesPart_78 : dn cX7_copiesPart 78 (.bipush 8) 2 80 := dnAt dc_X7_copiesPart 50 rfl rfl
theorem d_X7_copiesPart_80 : dn cX7_copiesPart 80 (.iload_n 2) 1 81 := dnAt dc_X7_copiesPart 51 rfl rfl
theorem d_X7_copiesPart_81 : dn cX7_copiesPart 81 (.imul) 1 82 := dnAt dc_X7_copiesPart 52 rfl rfl
theorem d_X7_copiesPart_82 : dn cX7_copiesPart 82 (.iload_n 3) 1 83 := dnAt dc_X7_copiesPart 53 rfl rfl
theorem d_X7_copiesPart_83 : dn cX7_copiesPart 83 (.iadd) 1 84 := dnAt dc_X7_copiesPart 54 rfl rfl
theorem d_X7_copiesPart_84 : dn cX7_copiesPart 84 (.invokevirtual 101) 3 87 := dnAt dc_X7_copiesPart 55 rfl rfl
theorem d_X7_copiesPart_87 : dn cX7_copiesPart 87 (.iinc 3 1) 3 90 := dnAt dc_X7_copiesPart 56 rfl rfl
theorem d_X7_copiesPart_90 : dn cX7_copiesPart 90 (.goto (-25)) 3 93 := dnAt dc_X7_copiesPart 57 rfl rfl
theorem d_X7_copiesPart_93 : dn cX7_copiesPart 93 (.return_) 1 94 := dnAt dc_X7_copiesPart 58 rfl rfl
set_option maxHeartbeats 4000000 in
set_option maxRecDepth 100000 in
theorem m_copiesPart (S : mS) (a t : Nat) (ha : a < 21) (ht : t < a) : mC yX7_copiesPart cX7_copiesPart 4 (Option.none : Option Jvm.ClassFile.FieldType) { frames := 1, cells := 0, slots := 0, locals := 23 } [.int (nI a), .int (nI t)] S (fun v9 T9 => v9 = none ∧ T9 = tPart S a t) := by
  refine mC.of (by decide) (Nat.le_of_ble_eq_true rfl) ?_
  intro G x q h0 C A TY
  show VM G x q h0 S 0 [(0, .ref (q 0)), (1, .int (nI a)), (2, .int (nI t))] []
  refine m_aload_n C d_X7_copiesPart_0 0 rfl ?_
  refine m_get C d_X7_copiesPart_1 fd_RX7_33 (v := .ref (q 8)) rfl ?_
  refine m_iload_n C d_X7_copiesPart_4 2 rfl ?_
  refine m_aload_n C d_X7_copiesPart_5 0 rfl ?_
  refine m_get C d_X7_copiesPart_6 fd_RX7_33 (v := .ref (q 8)) rfl ?_
  refine m_iload_n C d_X7_copiesPart_9 1 rfl ?_
  refine m_ald C d_X7_copiesPart_10 (k := 8) (by decide) rfl (by show _ < 21; omega) (by decide) ?_
  refine m_ast C d_X7_copiesPart_11 (k := 8) (v := mN S 8 a) (by decide) rfl (by show _ < 21; omega) (by decide) ?_
  refine m_aload_n C d_X7_copiesPart_12 0 rfl ?_
  refine m_get C d_X7_copiesPart_13 fd_RX7_36 (v := .ref (q 9)) rfl ?_
  refine m_iload_n C d_X7_copiesPart_16 2 rfl ?_
  refine m_aload_n C d_X7_copiesPart_17 0 rfl ?_
  refine m_get C d_X7_copiesPart_18 fd_RX7_36 (v := .ref (q 9)) rfl ?_
  refine m_iload_n C d_X7_copiesPart_21 1 rfl ?_
  refine m_zld C d_X7_copiesPart_22 (k := 9) (by decide) rfl (by show _ < 21; omega) (by decide) ?_
  refine m_st (st' := [.int (bI (mB S 9 a)), .int (nI t), .ref (q 9)]) rfl ?_
  refine m_zst C d_X7_copiesPart_23 (k := 9) (v := mB S 9 a) (by decide) rfl (by show _ < 21; omega) (by decide) ?_
  refine m_iconst C d_X7_copiesPart_24 (v := (nI 0)) rfl ?_
  refine m_istore_n C d_X7_copiesPart_25 (lv' := [(3, .int (nI 0)), (0, .ref (q 0)), (1, .int (nI a)), (2, .int (nI t))]) (by decide) rfl ?_
  have loop_26 : ∀ (fuel : Nat) (k : Nat), (k ≤ 256) → (257 - k) < fuel → VM G x q h0 (cpP S a t k) 26 [(0, .ref (q 0)), (1, .int (nI a)), (2, .int (nI t)), (3, .int (nI k))] [] := by
    intro fuel
    induction fuel with
    | zero => intro k hk hf9; exact absurd hf9 (Nat.not_lt_zero _)
    | succ fuel ih_26 =>
      intro k hk hf9
      refine m_iload_n C d_X7_copiesPart_26 3 rfl ?_
      refine m_sipush C d_X7_copiesPart_27 (v := (nI 256)) rfl ?_
      refine mn_icmp_ge C d_X7_copiesPart_30 (tgt := 63) rfl (by omega) (by omega) (fun c_30 => ?_) (fun c_30 => ?_)
      · skip
        obtain rfl : k = 256 := by omega
        refine m_iconst C d_X7_copiesPart_63 (v := (nI 0)) rfl ?_
        refine m_istore_n C d_X7_copiesPart_64 (lv' := [(3, .int (nI 0)), (0, .ref (q 0)), (1, .int (nI a)), (2, .int (nI t))]) (by decide) rfl ?_
        have loop_65 : ∀ (fuel : Nat) (k : Nat), (k ≤ 8) → (9 - k) < fuel → VM G x q h0 (tmap (cpP S a t 256) (laG (8 * t) (8 * a) k)) 65 [(0, .ref (q 0)), (1, .int (nI a)), (2, .int (nI t)), (3, .int (nI k))] [] := by
          intro fuel
          induction fuel with
          | zero => intro k hk2 hf9; exact absurd hf9 (Nat.not_lt_zero _)
          | succ fuel ih_65 =>
            intro k hk2 hf9
            refine m_iload_n C d_X7_copiesPart_65 3 rfl ?_
            refine m_bipush C d_X7_copiesPart_66 (v := (nI 8)) rfl ?_
            refine mn_icmp_ge C d_X7_copiesPart_68 (tgt := 93) rfl (by omega) (by omega) (fun c_68 => ?_) (fun c_68 => ?_)
            · skip
              obtain rfl : k = 8 := by omega
              exact m_vret C A TY d_X7_copiesPart_93 (⟨rfl, rfl⟩)
            · skip
              refine m_aload_n C d_X7_copiesPart_71 0 rfl ?_
              refine m_bipush C d_X7_copiesPart_72 (v := (nI 8)) rfl ?_
              refine m_iload_n C d_X7_copiesPart_74 1 rfl ?_
              refine mn_imul C d_X7_copiesPart_75 ?_
              refine m_iload_n C d_X7_copiesPart_76 3 rfl ?_
              refine mn_iadd C d_X7_copiesPart_77 ?_
              refine m_bipush C d_X7_copiesPart_78 (v := (nI 8)) rfl ?_
              refine m_iload_n C d_X7_copiesPart_80 2 rfl ?_
              refine mn_imul C d_X7_copiesPart_81 ?_
              refine m_iload_n C d_X7_copiesPart_82 3 rfl ?_
              refine mn_iadd C d_X7_copiesPart_83 ?_
              refine m_callV C d_X7_copiesPart_84 ok_RX7_101 (m_copiesTest (tmap (cpP S a t 256) (laG (8 * t) (8 * a) k)) ((8 * a) + k) ((8 * t) + k) (by omega) (by omega)) rfl (rest := []) rfl rfl (Nat.le_of_ble_eq_true rfl) ⟨⟨by decide, by decide⟩, by decide, by decide⟩ (fun v9 T9 e9 => ?_)
              obtain ⟨rfl, e9⟩ := e9
              refine m_eq e9 ?_
              show VM G x q h0 (tmap (tmap (cpP S a t 256) (laG (8 * t) (8 * a) k)) (cpG ((8 * a) + k) ((8 * t) + k))) 87 [(0, .ref (q 0)), (1, .int (nI a)), (2, .int (nI t)), (3, .int (nI k))] []
              refine mn_iinc C d_X7_copiesPart_87 (lv' := [(3, .int (nI (k + 1))), (0, .ref (q 0)), (1, .int (nI a)), (2, .int (nI t))]) 3 rfl (nI_inc _ rfl) (by decide) rfl ?_
              refine m_goto C d_X7_copiesPart_90 (tgt := 65) rfl ?_
              refine m_eq (S' := tmap (cpP S a t 256) (laG (8 * t) (8 * a) (k + 1))) (laG_succ _ (by omega)) ?_
              refine m_lv (lv' := [(0, .ref (q 0)), (1, .int (nI a)), (2, .int (nI t)), (3, .int (nI (k + 1)))]) [1, 2, 3, 0] rfl ?_
              exact ih_65 (k + 1) (by omega) (by omega)
        refine m_eq (S' := tmap (cpP S a t 256) (laG (8 * t) (8 * a) 0)) (tmap_id _ (fun t => by unfold laG; rw [if_neg (by omega)])) ?_
        refine m_lv (lv' := [(0, .ref (q 0)), (1, .int (nI a)), (2, .int (nI t)), (3, .int (nI 0))]) [1, 2, 3, 0] rfl ?_
        exact loop_65 _ 0 (by omega) (Nat.lt_succ_self _)
      · skip
        refine m_aload_n C d_X7_copiesPart_33 0 rfl ?_
        refine m_get C d_X7_copiesPart_34 fd_RX7_39 (v := .ref (q 10)) rfl ?_
        refine m_sipush C d_X7_copiesPart_37 (v := (nI 256)) rfl ?_
        refine m_iload_n C d_X7_copiesPart_40 2 rfl ?_
        refine mn_imul C d_X7_copiesPart_41 ?_
        refine m_iload_n C d_X7_copiesPart_42 3 rfl ?_
        refine mn_iadd C d_X7_copiesPart_43 ?_
        refine m_aload_n C d_X7_copiesPart_44 0 rfl ?_
        refine m_get C d_X7_copiesPart_45 fd_RX7_39 (v := .ref (q 10)) rfl ?_
        refine m_sipush C d_X7_copiesPart_48 (v := (nI 256)) rfl ?_
        refine m_iload_n C d_X7_copiesPart_51 1 rfl ?_
        refine mn_imul C d_X7_copiesPart_52 ?_
        refine m_iload_n C d_X7_copiesPart_53 3 rfl ?_
        refine mn_iadd C d_X7_copiesPart_54 ?_
        refine m_zld C d_X7_copiesPart_55 (k := 10) (by decide) rfl (by show _ < 5376; omega) (by decide) ?_
        refine m_st (st' := [.int (bI (mB S 10 (256 * a + k))), .int (nI ((256 * t) + k)), .ref (q 10)]) (by rw [cpP_r (by omega) (by omega)]) ?_
        refine m_zst C d_X7_copiesPart_56 (k := 10) (v := mB S 10 (256 * a + k)) (by decide) rfl (by show _ < 5376; omega) (by decide) ?_
        refine mn_iinc C d_X7_copiesPart_57 (lv' := [(3, .int (nI (k + 1))), (0, .ref (q 0)), (1, .int (nI a)), (2, .int (nI t))]) 3 rfl (nI_inc _ rfl) (by decide) rfl ?_
        refine m_goto C d_X7_copiesPart_60 (tgt := 26) rfl ?_
        refine m_eq (S' := cpP S a t (k + 1)) (cpP_step) ?_
        refine m_lv (lv' := [(0, .ref (q 0)), (1, .int (nI a)), (2, .int (nI t)), (3, .int (nI (k + 1)))]) [1, 2, 3, 0] rfl ?_
        exact ih_26 (k + 1) (by omega) (by omega)
  refine m_eq (S' := cpP S a t 0) (cpP_0 S a t) ?_
  refine m_lv (lv' := [(0, .ref (q 0)), (1, .int (nI a)), (2, .int (nI t)), (3, .int (nI 0))]) [1, 2, 3, 0] rfl ?_
  exact loop_26 _ 0 (by omega) (Nat.lt_succ_self _)
def dl_X7_keep : List (Nat × Instr × Nat) := [(0, .aload_n 0, 1), (1, .aload_n 0, 1), (2, .getfield 98, 3), (5, .iconst 1, 1), (6, .if_icmp .ne 12, 3), (9, .aload_n 0, 1), (10, .getfield 121, 3), (13, .bipush 12, 2), (15, .if_icmp .ne 7, 3), (18, .iconst 1, 1), (19, .goto 4, 3), (22, .iconst 0, 1), (23, .invokevirtual 84, 3), (26, .ifCond .ne 5, 3), (29, .iconst 0, 1), (30, .ireturn, 1), (31, .aload_n 0, 1), (32, .bipush 12, 2), (34, .aload_n 0, 1), (35, .getfield 121, 3), (38, .invokevirtual 124, 3), (41, .aload_n 0, 1), (42, .iconst 0, 1), (43, .putfield 98, 3), (46, .aload_n 0, 1), (47, .dup, 1), (48, .getfield 121, 3), (51, .iconst 1, 1), (52, .iadd, 1), (53, .putfield 121, 3), (56, .aload_n 0, 1), (57, .getfield 121, 3), (60, .iconst 1, 1), (61, .isub, 1), (62, .ireturn, 1)]
theorem dc_X7_keep : dnL cX7_keep dl_X7_keep = true := by decide +kernel
theorem d_X7_keep_0 : dn cX7_keep 0 (.aload_n 0) 1 1 := dnAt dc_X7_keep 0 rfl rfl
theorem d_X7_keep_1 : dn cX7_keep 1 (.aload_n 0) 1 2 := dnAt dc_X7_keep 1 rfl rfl
theorem d_X7_keep_2 : dn cX7_keep 2 (.getfield 98) 3 5 := dnAt dc_X7_keep 2 rfl rfl
theorem d_X7_keep_5 : dn cX7_keep 5 (.iconst 1) 1 6 := dnAt dc_X7_keep 3 rfl rfl
theorem d_X7_keep_6 : dn cX7_keep 6 (.if_icmp .ne 12) 3 9 := dnAt dc_X7_keep 4 rfl rfl
theorem d_X7_keep_9 : dn cX7_keep 9 (.aload_n 0) 1 10 := dnAt dc_X7_keep 5 rfl rfl
theorem d_X7_keep_10 : dn cX7_keep 10 (.getfield 121) 3 13 := dnAt dc_X7_keep 6 rfl rfl
theorem d_X7_keep_13 : dn cX7_keep 13 (.bipush 12) 2 15 := dnAt dc_X7_keep 7 rfl rfl
theorem d_X7_keep_15 : dn cX7_keep 15 (.if_icmp .ne 7) 3 18 := dnAt dc_X7_keep 8 rfl rfl
theorem d_X7_keep_18 : dn cX7_keep 18 (.iconst 1) 1 19 := dnAt dc_X7_keep 9 rfl rfl
theorem d_X7_keep_19 : dn cX7_keep 19 (.goto 4) 3 22 := dnAt dc_X7_keep 10 rfl rfl
theorem d_X7_keep_22 : dn cX7_keep 22 (.iconst 0) 1 23 := dnAt dc_X7_keep 11 rfl rfl
theorem d_X7_keep_23 : dn cX7_keep 23 (.invokevirtual 84) 3 26 := dnAt dc_X7_keep 12 rfl rfl
theorem d_X7_keep_26 : dn cX7_keep 26 (.ifCond .ne 5) 3 29 := dnAt dc_X7_keep 13 rfl rfl
theorem d_X7_keep_29 : dn cX7_keep 29 (.iconst 0) 1 30 := dnAt dc_X7_keep 14 rfl rfl
theorem d_X7_keep_30 : dn cX7_keep 30 (.ireturn) 1 31 := dnAt dc_X7_keep 15 rfl rfl
theorem d_X7_keep_31 : dn cX7_keep 31 (.aload_n 0) 1 32 := dnAt dc_X7_keep 16 rfl rfl
theorem d_X7_keep_32 : dn cX7_keep 32 (.bipush 12) 2 34 := dnAt dc_X7_keep 17 rfl rfl
theorem d_X7_keep_34 : dn cX7_keep 34 (.aload_n 0) 1 35 := dnAt dc_X7_keep 18 rfl rfl
theorem d_X7_keep_35 : dn cX7_keep 35 (.getfield 121) 3 38 := dnAt dc_X7_keep 19 rfl rfl
theorem d_X7_keep_38 : dn cX7_keep 38 (.invokevirtual 124) 3 41 := dnAt dc_X7_keep 20 rfl rfl
theorem d_X7_keep_41 : dn cX7_keep 41 (.aload_n 0) 1 42 := dnAt dc_X7_keep 21 rfl rfl
theorem d_X7_keep_42 : dn cX7_keep 42 (.iconst 0) 1 43 := dnAt dc_X7_keep 22 rfl rfl
theorem d_X7_keep_43 : dn cX7_keep 43 (.putfield 98) 3 46 := dnAt dc_X7_keep 23 rfl rfl
theorem d_X7_keep_46 : dn cX7_keep 46 (.aload_n 0) 1 47 := dnAt dc_X7_keep 24 rfl rfl
theorem d_X7_keep_47 : dn cX7_keep 47 (.dup) 1 48 := dnAt dc_X7_keep 25 rfl rfl
theorem d_X7_keep_48 : dn cX7_keep 48 (.getfield 121) 3 51 := dnAt dc_X7_keep 26 rfl rfl
theorem d_X7_keep_51 : dn cX7_keep 51 (.iconst 1) 1 52 := dnAt dc_X7_keep 27 rfl rfl
theorem d_X7_keep_52 : dn cX7_keep 52 (.iadd) 1 53 := dnAt dc_X7_keep 28 rfl rfl
theorem d_X7_keep_53 : dn cX7_keep 53 (.putfield 121) 3 56 := dnAt dc_X7_keep 29 rfl rfl
theorem d_X7_keep_56 : dn cX7_keep 56 (.aload_n 0) 1 57 := dnAt dc_X7_keep 30 rfl rfl
theorem d_X7_keep_57 : dn cX7_keep 57 (.getfield 121) 3 60 := dnAt dc_X7_keep 31 rfl rfl
theorem d_X7_keep_60 : dn cX7_keep 60 (.iconst 1) 1 61 := dnAt dc_X7_keep 32 rfl rfl
theorem d_X7_keep_61 : dn cX7_keep 61 (.isub) 1 62 := dnAt dc_X7_keep 33 rfl rfl
theorem d_X7_keep_62 : dn cX7_keep 62 (.ireturn) 1 63 := dnAt dc_X7_keep 34 rfl rfl
set_option maxHeartbeats 4000000 in
set_option maxRecDepth 100000 in
theorem m_keep (S : mS) (I : mInv S) : mC yX7_keep cX7_keep 1 (Option.some Jvm.ClassFile.FieldType.int) { frames := 2, cells := 0, slots := 0, locals := 46 } [] S (fun v9 T9 => v9 = (some (.int (nI (rKeep S)))) ∧ T9 = tKeep S) := by
  refine mC.of (by decide) (Nat.le_of_ble_eq_true rfl) ?_
  intro G x q h0 C A TY
  show VM G x q h0 S 0 [(0, .ref (q 0))] []
  refine m_aload_n C d_X7_keep_0 0 rfl ?_
  have join_23 : VM G x q h0 S 23 [(0, .ref (q 0))] [.int (nI (cKeep S)), .ref (q 0)] := by
    refine m_callV C d_X7_keep_23 ok_RX7_84 (m_holds S (cKeep S) (by unfold cKeep; split <;> omega)) rfl (rest := []) rfl rfl (Nat.le_of_ble_eq_true rfl) ⟨⟨by decide, by decide⟩, by decide, by decide⟩ (fun v9 T9 e9 => ?_)
    obtain ⟨rfl, e9⟩ := e9
    refine m_eq e9 ?_
    show VM G x q h0 (uK S 0 (cKeep S)) 26 [(0, .ref (q 0))] [.int (bI (decide (cKeep S = 0)))]
    refine mb_if_ne C d_X7_keep_26 (tgt := 31) rfl (fun c_26 => ?_) (fun c_26 => ?_)
    · skip
      have c0 := of_decide_eq_true c_26
      have c2 : mK S 16 = 1 ∧ mK S 15 ≠ 12 := by unfold cKeep at c0; split at c0 <;> first | assumption | omega
      have i1 := pats_le I
      rw [c0]
      refine m_aload_n C d_X7_keep_31 0 rfl ?_
      refine m_bipush C d_X7_keep_32 (v := (nI 12)) rfl ?_
      refine m_aload_n C d_X7_keep_34 0 rfl ?_
      refine m_get C d_X7_keep_35 fd_RX7_121 (v := .int (nI (mK (uK S 0 0) 15))) rfl ?_
      refine m_st (st' := [.int (nI (mK S 15)), .int (nI 12), .ref (q 0)]) rfl ?_
      refine m_callV C d_X7_keep_38 ok_RX7_124 (m_copiesPart (uK S 0 0) 12 (mK S 15) (by omega) (by show mK S 15 < 12; omega)) rfl (rest := []) rfl rfl (Nat.le_of_ble_eq_true rfl) ⟨⟨by decide, by decide⟩, by decide, by decide⟩ (fun v9 T9 e9 => ?_)
      obtain ⟨rfl, e9⟩ := e9
      refine m_eq e9 ?_
      show VM G x q h0 (tPart (uK S 0 0) 12 (mK S 15)) 41 [(0, .ref (q 0))] []
      refine m_aload_n C d_X7_keep_41 0 rfl ?_
      refine m_iconst C d_X7_keep_42 (v := (nI 0)) rfl ?_
      refine m_putK C d_X7_keep_43 pf_RX7_98 (by decide) (fun _ _ => rfl) ?_
      refine m_aload_n C d_X7_keep_46 0 rfl ?_
      refine m_dup C d_X7_keep_47 rfl ?_
      refine m_get C d_X7_keep_48 fd_RX7_121 (v := .int (nI (mK (uK (tPart (uK S 0 0) 12 (mK S 15)) 16 0) 15))) rfl ?_
      refine m_st (st' := [.int (nI (mK S 15)), .ref (q 0)]) rfl ?_
      refine m_iconst C d_X7_keep_51 (v := (nI 1)) rfl ?_
      refine mn_iadd C d_X7_keep_52 ?_
      refine m_putK C d_X7_keep_53 pf_RX7_121 (by decide) (fun _ _ => rfl) ?_
      refine m_aload_n C d_X7_keep_56 0 rfl ?_
      refine m_get C d_X7_keep_57 fd_RX7_121 (v := .int (nI (mK (uK (uK (tPart (uK S 0 0) 12 (mK S 15)) 16 0) 15 ((mK S 15) + 1)) 15))) rfl ?_
      refine m_st (st' := [.int (nI ((mK S 15) + 1))]) rfl ?_
      refine m_iconst C d_X7_keep_60 (v := (nI 1)) rfl ?_
      refine mn_isub C d_X7_keep_61 (by omega) ?_
      refine m_st (st' := [.int (nI (mK S 15))]) (by rw [Nat.add_sub_cancel]) ?_
      refine m_st (st' := [.int (nI (rKeep S))]) (by rw [rKeep, if_pos c0]) ?_
      exact m_iret C A TY d_X7_keep_62 rfl (⟨rfl, by rw [tKeep, if_pos c0]⟩)
    · skip
      have c1 := of_decide_eq_false c_26
      have c2 : cKeep S = 1 := by unfold cKeep at c1 ⊢; split at c1 <;> first | omega | (rw [if_neg (by assumption)])
      rw [c2]
      refine m_iconst C d_X7_keep_29 (v := (nI 0)) rfl ?_
      refine m_st (st' := [.int (nI (rKeep S))]) (by rw [rKeep, if_neg c1]) ?_
      exact m_iret C A TY d_X7_keep_30 rfl (⟨rfl, by rw [tKeep, if_neg c1]⟩)
  refine m_aload_n C d_X7_keep_1 0 rfl ?_
  refine m_get C d_X7_keep_2 fd_RX7_98 (v := .int (nI (mK S 16))) rfl ?_
  refine m_iconst C d_X7_keep_5 (v := (nI 1)) rfl ?_
  refine mn_icmp_ne C d_X7_keep_6 (tgt := 18) rfl (by have := pile_le I; omega) (by omega) (fun c_6 => ?_) (fun c_6 => ?_)
  · skip
    refine m_iconst C d_X7_keep_18 (v := (nI 1)) rfl ?_
    refine m_goto C d_X7_keep_19 (tgt := 23) rfl ?_
    refine m_st (st' := [.int (nI (cKeep S)), .ref (q 0)]) (congrArg (fun z => [Value.int (nI z), .ref (q 0)]) (by unfold cKeep; grind)) ?_
    exact join_23  
  · skip
    refine m_aload_n C d_X7_keep_9 0 rfl ?_
    refine m_get C d_X7_keep_10 fd_RX7_121 (v := .int (nI (mK S 15))) rfl ?_
    refine m_bipush C d_X7_keep_13 (v := (nI 12)) rfl ?_
    refine mn_icmp_ne C d_X7_keep_15 (tgt := 22) rfl (by have := pats_le I; omega) (by omega) (fun c_15 => ?_) (fun c_15 => ?_)
    · skip
      refine m_iconst C d_X7_keep_22 (v := (nI 0)) rfl ?_
      refine m_st (st' := [.int (nI (cKeep S)), .ref (q 0)]) (congrArg (fun z => [Value.int (nI z), .ref (q 0)]) (by unfold cKeep; grind)) ?_
      exact join_23  
    · skip
      refine m_iconst C d_X7_keep_18 (v := (nI 1)) rfl ?_
      refine m_goto C d_X7_keep_19 (tgt := 23) rfl ?_
      refine m_st (st' := [.int (nI (cKeep S)), .ref (q 0)]) (congrArg (fun z => [Value.int (nI z), .ref (q 0)]) (by unfold cKeep; grind)) ?_
      exact join_23  
end
section
theorem tw_679 : (Jvm.Cond.fieldLink "CorpuslineModel" (57 : Nat) "CorpuslineModel" "next" "[Z") ∈ TB := tb_of 679 (by decide +kernel) rfl
theorem fd_RX7_57 : fdOk RX7 57 6 18 := ⟨_, _, _, rfl, by decide, cw_6, tw_679, rfl⟩
def dl_X7_repeat : List (Nat × Instr × Nat) := [(0, .iload_n 1, 1), (1, .iconst 0, 1), (2, .iconst 3, 1), (3, .invokestatic 76, 3), (6, .ifCond .eq 21, 3), (9, .iload_n 2, 1), (10, .iconst 1, 1), (11, .iconst 3, 1), (12, .invokestatic 76, 3), (15, .ifCond .eq 12, 3), (18, .iload_n 2, 1), (19, .iload_n 1, 1), (20, .if_icmp .lt 7, 3), (23, .iconst 1, 1), (24, .goto 4, 3), (27, .iconst 0, 1), (28, .istore_n 3, 1), (29, .bipush 12, 2), (31, .aload_n 0, 1), (32, .getfield 98, 3), (35, .iadd, 1), (36, .iconst 1, 1), (37, .isub, 1), (38, .istore 4, 2), (40, .aload_n 0, 1), (41, .getfield 98, 3), (44, .ifCond .le 28, 3), (47, .aload_n 0, 1), (48, .invokevirtual 105, 3), (51, .iload_n 2, 1), (52, .iconst 1, 1), (53, .isub, 1), (54, .aload_n 0, 1), (55, .getfield 33, 3), (58, .iload 4, 2), (60, .iaload, 1), (61, .imul, 1), (62, .iadd, 1), (63, .bipush 8, 2), (65, .if_icmp .gt 7, 3), (68, .iconst 1, 1), (69, .goto 4, 3), (72, .iconst 0, 1), (73, .istore 5, 2), (75, .aload_n 0, 1), (76, .iload_n 3, 1), (77, .ifCond .ne 7, 3), (80, .iconst 1, 1), (81, .goto 13, 3), (84, .iload 5, 2), (86, .ifCond .eq 7, 3), (89, .iconst 0, 1), (90, .goto 4, 3), (93, .iconst 2, 1), (94, .invokevirtual 84, 3), (97, .ifCond .ne 5, 3), (100, .iconst 0, 1), (101, .ireturn, 1), (102, .aload_n 0, 1), (103, .getfield 33, 3), (106, .iload 4, 2), (108, .iaload, 1), (109, .istore 6, 2), (111, .iload 6, 2), (113, .istore 7, 2), (115, .iload 7, 2), (117, .iload 6, 2), (119, .iload_n 2, 1), (120, .imul, 1), (121, .if_icmp .ge 32, 3), (124, .aload_n 0, 1), (125, .bipush 8, 2), (127, .iload 4, 2), (129, .imul, 1), (130, .iload 7, 2), (132, .iadd, 1), (133, .iload 6, 2), (135, .isub, 1), (136, .bipush 8, 2), (138, .iload 4, 2), (140, .imul, 1), (141, .iload 7, 2), (143, .iadd, 1), (144, .invokevirtual 101, 3), (147, .iinc 7 1, 3), (150, .goto (-35), 3), (153, .iconst 0, 1), (154, .istore 7, 2), (156, .iload 7, 2), (158, .sipush 256, 3), (161, .if_icmp .ge 47, 3), (164, .aload_n 0, 1), (165, .getfield 57, 3), (168, .iload 7, 2), (170, .iload 7, 2), (172, .ifCond .ne 7, 3), (175, .iconst 1, 1), (176, .goto 4, 3), (179, .iconst 0, 1), (180, .bastore, 1), (181, .aload_n 0, 1), (182, .getfield 54, 3), (185, .iload 7, 2), (187, .iload 7, 2), (189, .ifCond .ne 11, 3), (192, .iload_n 1, 1), (193, .ifCond .ne 7, 3), (196, .iconst 1, 1), (197, .goto 4, 3), (200, .iconst 0, 1), (201, .bastore, 1), (202, .iinc 7 1, 3), (205, .goto (-49), 3), (208, .iconst 1, 1), (209, .istore 7, 2), (211, .iload 7, 2), (213, .iload_n 2, 1), (214, .if_icmp .gt 136, 3), (217, .iload 6, 2), (219, .iload 7, 2), (221, .iconst 1, 1), (222, .isub, 1), (223, .imul, 1), (224, .istore 8, 2), (226, .sipush 255, 3), (229, .istore 9, 2), (231, .iload 9, 2), (233, .ifCond .lt 56, 3), (236, .aload_n 0, 1), (237, .getfield 57, 3), (240, .iload 9, 2), (242, .aload_n 0, 1), (243, .getfield 57, 3), (246, .iload 9, 2), (248, .iconst 1, 1), (249, .iload 8, 2), (251, .ishl, 1), (252, .irem, 1), (253, .baload, 1), (254, .ifCond .eq 27, 3), (257, .aload_n 0, 1), (258, .getfield 39, 3), (261, .sipush 256, 3), (264, .iload 4, 2), (266, .imul, 1), (267, .iload 9, 2), (269, .iload 8, 2), (271, .ishr, 1), (272, .iadd, 1), (273, .baload, 1), (274, .ifCond .eq 7, 3), (277, .iconst 1, 1), (278, .goto 4, 3), (281, .iconst 0, 1), (282, .bastore, 1), (283, .iinc 9 (-1), 3), (286, .goto (-55), 3), (289, .iconst 0, 1), (290, .istore 9, 2), (292, .iload 9, 2), (294, .sipush 256, 3), (297, .if_icmp .ge 47, 3), (300, .aload_n 0, 1), (301, .getfield 54, 3), (304, .iload 9, 2), (306, .aload_n 0, 1), (307, .getfield 54, 3), (310, .iload 9, 2), (312, .baload, 1), (313, .ifCond .ne 19, 3), (316, .iload 7, 2), (318, .iload_n 1, 1), (319, .if_icmp .lt 17, 3), (322, .aload_n 0, 1), (323, .getfield 57, 3), (326, .iload 9, 2), (328, .baload, 1), (329, .ifCond .eq 7, 3), (332, .iconst 1, 1), (333, .goto 4, 3), (336, .iconst 0, 1), (337, .bastore, 1), (338, .iinc 9 1, 3), (341, .goto (-49), 3), (344, .iinc 7 1, 3), (347, .goto (-136), 3), (350, .aload_n 0, 1), (351, .iload 4, 2), (353, .iload 6, 2), (355, .iload_n 2, 1), (356, .imul, 1), (357, .invokevirtual 118, 3), (360, .aload_n 0, 1), (361, .invokevirtual 105, 3), (364, .ireturn, 1)]
theorem dc_X7_repeat : dnL cX7_repeat dl_X7_repeat = true := by decide +kernel
theorem d_X7_repeat_0 : dn cX7_repeat 0 (.iload_n 1) 1 1 := dnAt dc_X7_repeat 0 rfl rfl
theorem d_X7_repeat_1 : dn cX7_repeat 1 (.iconst 0) 1 2 := dnAt dc_X7_repeat 1 rfl rfl
theorem d_X7_repeat_2 : dn cX7_repeat 2 (.iconst 3) 1 3 := dnAt dc_X7_repeat 2 rfl rfl
theorem d_X7_repeat_3 : dn cX7_repeat 3 (.invokestatic 76) 3 6 := dnAt dc_X7_repeat 3 rfl rfl
theorem d_X7_repeat_6 : dn cX7_repeat 6 (.ifCond .eq 21) 3 9 := dnAt dc_X7_repeat 4 rfl rfl
theorem d_X7_repeat_9 : dn cX7_repeat 9 (.iload_n 2) 1 10 := dnAt dc_X7_repeat 5 rfl rfl
theorem d_X7_repeat_10 : dn cX7_repeat 10 (.iconst 1) 1 11 := dnAt dc_X7_repeat 6 rfl rfl
theorem d_X7_repeat_11 : dn cX7_repeat 11 (.iconst 3) 1 12 := dnAt dc_X7_repeat 7 rfl rfl
theorem d_X7_repeat_12 : dn cX7_repeat 12 (.invokestatic 76) 3 15 := dnAt dc_X7_repeat 8 rfl rfl
theorem d_X7_repeat_15 : dn cX7_repeat 15 (.ifCond .eq 12) 3 18 := dnAt dc_X7_repeat 9 rfl rfl
theorem d_X7_repeat_18 : dn cX7_repeat 18 (.iload_n 2) 1 19 := dnAt dc_X7_repeat 10 rfl rfl
theorem d_X7_repeat_19 : dn cX7_repeat 19 (.iload_n 1) 1 20 := dnAt dc_X7_repeat 11 rfl rfl
theorem d_X7_repeat_20 : dn cX7_repeat 20 (.if_icmp .lt 7) 3 23 := dnAt dc_X7_repeat 12 rfl rfl
theorem d_X7_repeat_23 : dn cX7_repeat 23 (.iconst 1) 1 24 := dnAt dc_X7_repeat 13 rfl rfl
theorem d_X7_repeat_24 : dn cX7_repeat 24 (.goto 4) 3 27 := dnAt dc_X7_repeat 14 rfl rfl
theorem d_X7_repeat_27 : dn cX7_repeat 27 (.iconst 0) 1 28 := dnAt dc_X7_repeat 15 rfl rfl
theorem d_X7_repeat_28 : dn cX7_repeat 28 (.istore_n 3) 1 29 := dnAt dc_X7_repeat 16 rfl rfl
theorem d_X7_repeat_29 : dn cX7_repeat 29 (.bipush 12) 2 31 := dnAt dc_X7_repeat 17 rfl rfl
theorem d_X7_repeat_31 : dn cX7_repeat 31 (.aload_n 0) 1 32 := dnAt dc_X7_repeat 18 rfl rfl
theorem d_X7_repeat_32 : dn cX7_repeat 32 (.getfield 98) 3 35 := dnAt dc_X7_repeat 19 rfl rfl
theorem d_X7_repeat_35 : dn cX7_repeat 35 (.iadd) 1 36 := dnAt dc_X7_repeat 20 rfl rfl
theorem d_X7_repeat_36 : dn cX7_repeat 36 (.iconst 1) 1 37 := dnAt dc_X7_repeat 21 rfl rfl
theorem d_X7_repeat_37 : dn cX7_repeat 37 (.isub) 1 38 := dnAt dc_X7_repeat 22 rfl rfl
theorem d_X7_repeat_38 : dn cX7_repeat 38 (.istore 4) 2 40 := dnAt dc_X7_repeat 23 rfl rfl
theorem d_X7_repeat_40 : dn cX7_repeat 40 (.aload_n 0) 1 41 := dnAt dc_X7_repeat 24 rfl rfl
theorem d_X7_repeat_41 : dn cX7_repeat 41 (.getfield 98) 3 44 := dnAt dc_X7_repeat 25 rfl rfl
theorem d_X7_repeat_44 : dn cX7_repeat 44 (.ifCond .le 28) 3 47 := dnAt dc_X7_repeat 26 rfl rfl
theorem d_X7_repeat_47 : dn cX7_repeat 47 (.aload_n 0) 1 48 := dnAt dc_X7_repeat 27 rfl rfl
theorem d_X7_repeat_48 : dn cX7_repeat 48 (.invokevirtual 105) 3 51 := dnAt dc_X7_repeat 28 rfl rfl
theorem d_X7_repeat_51 : dn cX7_repeat 51 (.iload_n 2) 1 52 := dnAt dc_X7_repeat 29 rfl rfl
theorem d_X7_repeat_52 : dn cX7_repeat 52 (.iconst 1) 1 53 := dnAt dc_X7_repeat 30 rfl rfl
theorem d_X7_repeat_53 : dn cX7_repeat 53 (.isub) 1 54 := dnAt dc_X7_repeat 31 rfl rfl
theorem d_X7_repeat_54 : dn cX7_repeat 54 (.aload_n 0) 1 55 := dnAt dc_X7_repeat 32 rfl rfl
theorem d_X7_repeat_55 : dn cX7_repeat 55 (.getfield 33) 3 58 := dnAt dc_X7_repeat 33 rfl rfl
theorem d_X7_repeat_58 : dn cX7_repeat 58 (.iload 4) 2 60 := dnAt dc_X7_repeat 34 rfl rfl
theorem d_X7_repeat_60 : dn cX7_repeat 60 (.iaload) 1 61 := dnAt dc_X7_repeat 35 rfl rfl
theorem d_X7_repeat_61 : dn cX7_repeat 61 (.imul) 1 62 := dnAt dc_X7_repeat 36 rfl rfl
theorem d_X7_repeat_62 : dn cX7_repeat 62 (.iadd) 1 63 := dnAt dc_X7_repeat 37 rfl rfl
theorem d_X7_repeat_63 : dn cX7_repeat 63 (.bipush 8) 2 65 := dnAt dc_X7_repeat 38 rfl rfl
theorem d_X7_repeat_65 : dn cX7_repeat 65 (.if_icmp .gt 7) 3 68 := dnAt dc_X7_repeat 39 rfl rfl
theorem d_X7_repeat_68 : dn cX7_repeat 68 (.iconst 1) 1 69 := dnAt dc_X7_repeat 40 rfl rfl
theorem d_X7_repeat_69 : dn cX7_repeat 69 (.goto 4) 3 72 := dnAt dc_X7_repeat 41 rfl rfl
theorem d_X7_repeat_72 : dn cX7_repeat 72 (.iconst 0) 1 73 := dnAt dc_X7_repeat 42 rfl rfl
theorem d_X7_repeat_73 : dn cX7_repeat 73 (.istore 5) 2 75 := dnAt dc_X7_repeat 43 rfl rfl
theorem d_X7_repeat_75 : dn cX7_repeat 75 (.aload_n 0) 1 76 := dnAt dc_X7_repeat 44 rfl rfl
theorem d_X7_repeat_76 : dn cX7_repeat 76 (.iload_n 3) 1 77 := dnAt dc_X7_repeat 45 rfl rfl
theorem d_X7_repeat_77 : dn cX7_repeat 77 (.ifCond .ne 7) 3 80 := dnAt dc_X7_repeat 46 rfl rfl
theorem d_X7_repeat_80 : dn cX7_repeat 80 (.iconst 1) 1 81 := dnAt dc_X7_repeat 47 rfl rfl
theorem d_X7_repeat_81 : dn cX7_repeat 81 (.goto 13) 3 84 := dnAt dc_X7_repeat 48 rfl rfl
theorem d_X7_repeat_84 : dn cX7_repeat 84 (.iload 5) 2 86 := dnAt dc_X7_repeat 49 rfl rfl
theorem d_X7_repeat_86 : dn cX7_repeat 86 (.ifCond .eq 7) 3 89 := dnAt dc_X7_repeat 50 rfl rfl
theorem d_X7_repeat_89 : dn cX7_repeat 89 (.iconst 0) 1 90 := dnAt dc_X7_repeat 51 rfl rfl
theorem d_X7_repeat_90 : dn cX7_repeat 90 (.goto 4) 3 93 := dnAt dc_X7_repeat 52 rfl rfl
theorem d_X7_repeat_93 : dn cX7_repeat 93 (.iconst 2) 1 94 := dnAt dc_X7_repeat 53 rfl rfl
theorem d_X7_repeat_94 : dn cX7_repeat 94 (.invokevirtual 84) 3 97 := dnAt dc_X7_repeat 54 rfl rfl
theorem d_X7_repeat_97 : dn cX7_repeat 97 (.ifCond .ne 5) 3 100 := dnAt dc_X7_repeat 55 rfl rfl
theorem d_X7_repeat_100 : dn cX7_repeat 100 (.iconst 0) 1 101 := dnAt dc_X7_repeat 56 rfl rfl
theorem d_X7_repeat_101 : dn cX7_repeat 101 (.ireturn) 1 102 := dnAt dc_X7_repeat 57 rfl rfl
theorem d_X7_repeat_102 : dn cX7_repeat 102 (.aload_n 0) 1 103 := dnAt dc_X7_repeat 58 rfl rfl
theorem d_X7_repeat_103 : dn cX7_repeat 103 (.getfield 33) 3 106 := dnAt dc_X7_repeat 59 rfl rfl
theorem d_X7_repeat_106 : dn cX7_repeat 106 (.iload 4) 2 108 := dnAt dc_X7_repeat 60 rfl rfl
theorem d_X7_repeat_108 : dn cX7_repeat 108 (.iaload) 1 109 := dnAt dc_X7_repeat 61 rfl rfl
theorem d_X7_repeat_109 : dn cX7_repeat 109 (.istore 6) 2 111 := dnAt dc_X7_repeat 62 rfl rfl
theorem d_X7_repeat_111 : dn cX7_repeat 111 (.iload 6) 2 113 := dnAt dc_X7_repeat 63 rfl rfl
theorem d_X7_repeat_113 : dn cX7_repeat 113 (.istore 7) 2 115 := dnAt dc_X7_repeat 64 rfl rfl
theorem d_X7_repeat_115 : dn cX7_repeat 115 (.iload 7) 2 117 := dnAt dc_X7_repeat 65 rfl rfl
theorem d_X7_repeat_117 : dn cX7_repeat 117 (.iload 6) 2 119 := dnAt dc_X7_repeat 66 rfl rfl
theorem d_X7_repeat_119 : dn cX7_repeat 119 (.iload_n 2) 1 120 := dnAt dc_X7_repeat 67 rfl rfl
theorem d_X7_repeat_120 : dn cX7_repeat 120 (.imul) 1 121 := dnAt dc_X7_repeat 68 rfl rfl
theorem d_X7_repeat_121 : dn cX7_repeat 121 (.if_icmp .ge 32) 3 124 := dnAt dc_X7_repeat 69 rfl rfl
theorem d_X7_repeat_124 : dn cX7_repeat 124 (.aload_n 0) 1 125 := dnAt dc_X7_repeat 70 rfl rfl
theorem d_X7_repeat_125 : dn cX7_repeat 125 (.bipush 8) 2 127 := dnAt dc_X7_repeat 71 rfl rfl
theorem d_X7_repeat_127 : dn cX7_repeat 127 (.iload 4) 2 129 := dnAt dc_X7_repeat 72 rfl rfl
theorem d_X7_repeat_129 : dn cX7_repeat 129 (.imul) 1 130 := dnAt dc_X7_repeat 73 rfl rfl
theorem d_X7_repeat_130 : dn cX7_repeat 130 (.iload 7) 2 132 := dnAt dc_X7_repeat 74 rfl rfl
theorem d_X7_repeat_132 : dn cX7_repeat 132 (.iadd) 1 133 := dnAt dc_X7_repeat 75 rfl rfl
theorem d_X7_repeat_133 : dn cX7_repeat 133 (.iload 6) 2 135 := dnAt dc_X7_repeat 76 rfl rfl
theorem d_X7_repeat_135 : dn cX7_repeat 135 (.isub) 1 136 := dnAt dc_X7_repeat 77 rfl rfl
theorem d_X7_repeat_136 : dn cX7_repeat 136 (.bipush 8) 2 138 := dnAt dc_X7_repeat 78 rfl rfl
theorem d_X7_repeat_138 : dn cX7_repeat 138 (.iload 4) 2 140 := dnAt dc_X7_repeat 79 rfl rfl
theorem d_X7_repeat_140 : dn cX7_repeat 140 (.imul) 1 141 := dnAt dc_X7_repeat 80 rfl rfl
theorem d_X7_repeat_141 : dn cX7_repeat 141 (.iload 7) 2 143 := dnAt dc_X7_repeat 81 rfl rfl
theorem d_X7_repeat_143 : dn cX7_repeat 143 (.iadd) 1 144 := dnAt dc_X7_repeat 82 rfl rfl
theorem d_X7_repeat_144 : dn cX7_repeat 144 (.invokevirtual 101) 3 147 := dnAt dc_X7_repeat 83 rfl rfl
theorem d_X7_repeat_147 : dn cX7_repeat 147 (.iinc 7 1) 3 150 := dnAt dc_X7_repeat 84 rfl rfl
theorem d_X7_repeat_150 : dn cX7_repeat 150 (.goto (-35)) 3 153 := dnAt dc_X7_repeat 85 rfl rfl
theorem d_X7_repeat_153 : dn cX7_repeat 153 (.iconst 0) 1 154 := dnAt dc_X7_repeat 86 rfl rfl
theorem d_X7_repeat_154 : dn cX7_repeat 154 (.istore 7) 2 156 := dnAt dc_X7_repeat 87 rfl rfl
theorem d_X7_repeat_156 : dn cX7_repeat 156 (.iload 7) 2 158 := dnAt dc_X7_repeat 88 rfl rfl
theorem d_X7_repeat_158 : dn cX7_repeat 158 (.sipush 256) 3 161 := dnAt dc_X7_repeat 89 rfl rfl
theorem d_X7_repeat_161 : dn cX7_repeat 161 (.if_icmp .ge 47) 3 164 := dnAt dc_X7_repeat 90 rfl rfl
theorem d_X7_repeat_164 : dn cX7_repeat 164 (.aload_n 0) 1 165 := dnAt dc_X7_repeat 91 rfl rfl
theorem d_X7_repeat_165 : dn cX7_repeat 165 (.getfield 57) 3 168 := dnAt dc_X7_repeat 92 rfl rfl
theorem d_X7_repeat_168 : dn cX7_repeat 168 (.iload 7) 2 170 := dnAt dc_X7_repeat 93 rfl rfl
theorem d_X7_repeat_170 : dn cX7_repeat 170 (.iload 7) 2 172 := dnAt dc_X7_repeat 94 rfl rfl
theorem d_X7_repeat_172 : dn cX7_repeat 172 (.ifCond .ne 7) 3 175 := dnAt dc_X7_repeat 95 rfl rfl
theorem d_X7_repeat_175 : dn cX7_repeat 175 (.iconst 1) 1 176 := dnAt dc_X7_repeat 96 rfl rfl
theorem d_X7_repeat_176 : dn cX7_repeat 176 (.goto 4) 3 179 := dnAt dc_X7_repeat 97 rfl rfl
theorem d_X7_repeat_179 : dn cX7_repeat 179 (.iconst 0) 1 180 := dnAt dc_X7_repeat 98 rfl rfl
theorem d_X7_repeat_180 : dn cX7_repeat 180 (.bastore) 1 181 := dnAt dc_X7_repeat 99 rfl rfl
theorem d_X7_repeat_181 : dn cX7_repeat 181 (.aload_n 0) 1 182 := dnAt dc_X7_repeat 100 rfl rfl
theorem d_X7_repeat_182 : dn cX7_repeat 182 (.getfield 54) 3 185 := dnAt dc_X7_repeat 101 rfl rfl
theorem d_X7_repeat_185 : dn cX7_repeat 185 (.iload 7) 2 187 := dnAt dc_X7_repeat 102 rfl rfl
theorem d_X7_repeat_187 : dn cX7_repeat 187 (.iload 7) 2 189 := dnAt dc_X7_repeat 103 rfl rfl
theorem d_X7_repeat_189 : dn cX7_repeat 189 (.ifCond .ne 11) 3 192 := dnAt dc_X7_repeat 104 rfl rfl
theorem d_X7_repeat_192 : dn cX7_repeat 192 (.iload_n 1) 1 193 := dnAt dc_X7_repeat 105 rfl rfl
theorem d_X7_repeat_193 : dn cX7_repeat 193 (.ifCond .ne 7) 3 196 := dnAt dc_X7_repeat 106 rfl rfl
theorem d_X7_repeat_196 : dn cX7_repeat 196 (.iconst 1) 1 197 := dnAt dc_X7_repeat 107 rfl rfl
theorem d_X7_repeat_197 : dn cX7_repeat 197 (.goto 4) 3 200 := dnAt dc_X7_repeat 108 rfl rfl
theorem d_X7_repeat_200 : dn cX7_repeat 200 (.iconst 0) 1 201 := dnAt dc_X7_repeat 109 rfl rfl
theorem d_X7_repeat_201 : dn cX7_repeat 201 (.bastore) 1 202 := dnAt dc_X7_repeat 110 rfl rfl
theorem d_X7_repeat_202 : dn cX7_repeat 202 (.iinc 7 1) 3 205 := dnAt dc_X7_repeat 111 rfl rfl
theorem d_X7_repeat_205 : dn cX7_repeat 205 (.goto (-49)) 3 208 := dnAt dc_X7_repeat 112 rfl rfl
theorem d_X7_repeat_208 : dn cX7_repeat 208 (.iconst 1) 1 209 := dnAt dc_X7_repeat 113 rfl rfl
theorem d_X7_repeat_209 : dn cX7_repeat 209 (.istore 7) 2 211 := dnAt dc_X7_repeat 114 rfl rfl
theorem d_X7_repeat_211 : dn cX7_repeat 211 (.iload 7) 2 213 := dnAt dc_X7_repeat 115 rfl rfl
theorem d_X7_repeat_213 : dn cX7_repeat 213 (.iload_n 2) 1 214 := dnAt dc_X7_repeat 116 rfl rfl
theorem d_X7_repeat_214 : dn cX7_repeat 214 (.if_icmp .gt 136) 3 217 := dnAt dc_X7_repeat 117 rfl rfl
theorem d_X7_repeat_217 : dn cX7_repeat 217 (.iload 6) 2 219 := dnAt dc_X7_repeat 118 rfl rfl
theorem d_X7_repeat_219 : dn cX7_repeat 219 (.iload 7) 2 221 := dnAt dc_X7_repeat 119 rfl rfl
theorem d_X7_repeat_221 : dn cX7_repeat 221 (.iconst 1) 1 222 := dnAt dc_X7_repeat 120 rfl rfl
theorem d_X7_repeat_222 : dn cX7_repeat 222 (.isub) 1 223 := dnAt dc_X7_repeat 121 rfl rfl
theorem d_X7_repeat_223 : dn cX7_repeat 223 (.imul) 1 224 := dnAt dc_X7_repeat 122 rfl rfl
theorem d_X7_repeat_224 : dn cX7_repeat 224 (.istore 8) 2 226 := dnAt dc_X7_repeat 123 rfl rfl
theorem d_X7_repeat_226 : dn cX7_repeat 226 (.sipush 255) 3 229 := dnAt dc_X7_repeat 124 rfl rfl
theorem d_X7_repeat_229 : dn cX7_repeat 229 (.istore 9) 2 231 := dnAt dc_X7_repeat 125 rfl rfl
theorem d_X7_repeat_231 : dn cX7_repeat 231 (.iload 9) 2 233 := dnAt dc_X7_repeat 126 rfl rfl
theorem d_X7_repeat_233 : dn cX7_repeat 233 (.ifCond .lt 56) 3 236 := dnAt dc_X7_repeat 127 rfl rfl
theorem d_X7_repeat_236 : dn cX7_repeat 236 (.aload_n 0) 1 237 := dnAt dc_X7_repeat 128 rfl rfl
theorem d_X7_repeat_237 : dn cX7_repeat 237 (.getfield 57) 3 240 := dnAt dc_X7_repeat 129 rfl rfl
theorem d_X7_repeat_240 : dn cX7_repeat 240 (.iload 9) 2 242 := dnAt dc_X7_repeat 130 rfl rfl
theorem d_X7_repeat_242 : dn cX7_repeat 242 (.aload_n 0) 1 243 := dnAt dc_X7_repeat 131 rfl rfl
theorem d_X7_repeat_243 : dn cX7_repeat 243 (.getfield 57) 3 246 := dnAt dc_X7_repeat 132 rfl rfl
theorem d_X7_repeat_246 : dn cX7_repeat 246 (.iload 9) 2 248 := dnAt dc_X7_repeat 133 rfl rfl
theorem d_X7_repeat_248 : dn cX7_repeat 248 (.iconst 1) 1 249 := dnAt dc_X7_repeat 134 rfl rfl
theorem d_X7_repeat_249 : dn cX7_repeat 249 (.iload 8) 2 251 := dnAt dc_X7_repeat 135 rfl rfl
theorem d_X7_repeat_251 : dn cX7_repeat 251 (.ishl) 1 252 := dnAt dc_X7_repeat 136 rfl rfl
theorem d_X7_repeat_252 : dn cX7_repeat 252 (.irem) 1 253 := dnAt dc_X7_repeat 137 rfl rfl
theorem d_X7_repeat_253 : dn cX7_repeat 253 (.baload) 1 254 := dnAt dc_X7_repeat 138 rfl rfl
theorem d_X7_repeat_254 : dn cX7_repeat 254 (.ifCond .eq 27) 3 257 := dnAt dc_X7_repeat 139 rfl rfl
theorem d_X7_repeat_257 : dn cX7_repeat 257 (.aload_n 0) 1 258 := dnAt dc_X7_repeat 140 rfl rfl
theorem d_X7_repeat_258 : dn cX7_repeat 258 (.getfield 39) 3 261 := dnAt dc_X7_repeat 141 rfl rfl
theorem d_X7_repeat_261 : dn cX7_repeat 261 (.sipush 256) 3 264 := dnAt dc_X7_repeat 142 rfl rfl
theorem d_X7_repeat_264 : dn cX7_repeat 264 (.iload 4) 2 266 := dnAt dc_X7_repeat 143 rfl rfl
theorem d_X7_repeat_266 : dn cX7_repeat 266 (.imul) 1 267 := dnAt dc_X7_repeat 144 rfl rfl
theorem d_X7_repeat_267 : dn cX7_repeat 267 (.iload 9) 2 269 := dnAt dc_X7_repeat 145 rfl rfl
theorem d_X7_repeat_269 : dn cX7_repeat 269 (.iload 8) 2 271 := dnAt dc_X7_repeat 146 rfl rfl
theorem d_X7_repeat_271 : dn cX7_repeat 271 (.ishr) 1 272 := dnAt dc_X7_repeat 147 rfl rfl
theorem d_X7_repeat_272 : dn cX7_repeat 272 (.iadd) 1 273 := dnAt dc_X7_repeat 148 rfl rfl
theorem d_X7_repeat_273 : dn cX7_repeat 273 (.baload) 1 274 := dnAt dc_X7_repeat 149 rfl rfl
theorem d_X7_repeat_274 : dn cX7_repeat 274 (.ifCond .eq 7) 3 277 := dnAt dc_X7_repeat 150 rfl rfl
theorem d_X7_repeat_277 : dn cX7_repeat 277 (.iconst 1) 1 278 := dnAt dc_X7_repeat 151 rfl rfl
theorem d_X7_repeat_278 : dn cX7_repeat 278 (.goto 4) 3 281 := dnAt dc_X7_repeat 152 rfl rfl
theorem d_X7_repeat_281 : dn cX7_repeat 281 (.iconst 0) 1 282 := dnAt dc_X7_repeat 153 rfl rfl
theorem d_X7_repeat_282 : dn cX7_repeat 282 (.bastore) 1 283 := dnAt dc_X7_repeat 154 rfl rfl
theorem d_X7_repeat_283 : dn cX7_repeat 283 (.iinc 9 (-1)) 3 286 := dnAt dc_X7_repeat 155 rfl rfl
theorem d_X7_repeat_286 : dn cX7_repeat 286 (.goto (-55)) 3 289 := dnAt dc_X7_repeat 156 rfl rfl
theorem d_X7_repeat_289 : dn cX7_repeat 289 (.iconst 0) 1 290 := dnAt dc_X7_repeat 157 rfl rfl
theorem d_X7_repeat_290 : dn cX7_repeat 290 (.istore 9) 2 292 := dnAt dc_X7_repeat 158 rfl rfl
theorem d_X7_repeat_292 : dn cX7_repeat 292 (.iload 9) 2 294 := dnAt dc_X7_repeat 159 rfl rfl
theorem d_X7_repeat_294 : dn cX7_repeat 294 (.sipush 256) 3 297 := dnAt dc_X7_repeat 160 rfl rfl
theorem d_X7_repeat_297 : dn cX7_repeat 297 (.if_icmp .ge 47) 3 300 := dnAt dc_X7_repeat 161 rfl rfl
theorem d_X7_repeat_300 : dn cX7_repeat 300 (.aload_n 0) 1 301 := dnAt dc_X7_repeat 162 rfl rfl
theorem d_X7_repeat_301 : dn cX7_repeat 301 (.getfield 54) 3 304 := dnAt dc_X7_repeat 163 rfl rfl
theorem d_X7_repeat_304 : dn cX7_repeat 304 (.iload 9) 2 306 := dnAt dc_X7_repeat 164 rfl rfl
theorem d_X7_repeat_306 : dn cX7_repeat 306 (.aload_n 0) 1 307 := dnAt dc_X7_repeat 165 rfl rfl
theorem d_X7_repeat_307 : dn cX7_repeat 307 (.getfield 54) 3 310 := dnAt dc_X7_repeat 166 rfl rfl
theorem d_X7_repeat_310 : dn cX7_repeat 310 (.iload 9) 2 312 := dnAt dc_X7_repeat 167 rfl rfl
theorem d_X7_repeat_312 : dn cX7_repeat 312 (.baload) 1 313 := dnAt dc_X7_repeat 168 rfl rfl
theorem d_X7_repeat_313 : dn cX7_repeat 313 (.ifCond .ne 19) 3 316 := dnAt dc_X7_repeat 169 rfl rfl
theorem d_X7_repeat_316 : dn cX7_repeat 316 (.iload 7) 2 318 := dnAt dc_X7_repeat 170 rfl rfl
theorem d_X7_repeat_318 : dn cX7_repeat 318 (.iload_n 1) 1 319 := dnAt dc_X7_repeat 171 rfl rfl
theorem d_X7_repeat_319 : dn cX7_repeat 319 (.if_icmp .lt 17) 3 322 := dnAt dc_X7_repeat 172 rfl rfl
theorem d_X7_repeat_322 : dn cX7_repeat 322 (.aload_n 0) 1 323 := dnAt dc_X7_repeat 173 rfl rfl
theorem d_X7_repeat_323 : dn cX7_repeat 323 (.getfield 57) 3 326 := dnAt dc_X7_repeat 174 rfl rfl
theorem d_X7_repeat_326 : dn cX7_repeat 326 (.iload 9) 2 328 := dnAt dc_X7_repeat 175 rfl rfl
theorem d_X7_repeat_328 : dn cX7_repeat 328 (.baload) 1 329 := dnAt dc_X7_repeat 176 rfl rfl
theorem d_X7_repeat_329 : dn cX7_repeat 329 (.ifCond .eq 7) 3 332 := dnAt dc_X7_repeat 177 rfl rfl
theorem d_X7_repeat_332 : dn cX7_repeat 332 (.iconst 1) 1 333 := dnAt dc_X7_repeat 178 rfl rfl
theorem d_X7_repeat_333 : dn cX7_repeat 333 (.goto 4) 3 336 := dnAt dc_X7_repeat 179 rfl rfl
theorem d_X7_repeat_336 : dn cX7_repeat 336 (.iconst 0) 1 337 := dnAt dc_X7_repeat 180 rfl rfl
theorem d_X7_repeat_337 : dn cX7_repeat 337 (.bastore) 1 338 := dnAt dc_X7_repeat 181 rfl rfl
theorem d_X7_repeat_338 : dn cX7_repeat 338 (.iinc 9 1) 3 341 := dnAt dc_X7_repeat 182 rfl rfl
theorem d_X7_repeat_341 : dn cX7_repeat 341 (.goto (-49)) 3 344 := dnAt dc_X7_repeat 183 rfl rfl
theorem d_X7_repeat_344 : dn cX7_repeat 344 (.iinc 7 1) 3 347 := dnAt dc_X7_repeat 184 rfl rfl
theorem d_X7_repeat_347 : dn cX7_repeat 347 (.goto (-136)) 3 350 := dnAt dc_X7_repeat 185 rfl rfl
theorem d_X7_repeat_350 : dn cX7_repeat 350 (.aload_n 0) 1 351 := dnAt dc_X7_repeat 186 rfl rfl
theorem d_X7_repeat_351 : dn cX7_repeat 351 (.iload 4) 2 353 := dnAt dc_X7_repeat 187 rfl rfl
theorem d_X7_repeat_353 : dn cX7_repeat 353 (.iload 6) 2 355 := dnAt dc_X7_repeat 188 rfl rfl
theorem d_X7_repeat_355 : dn cX7_repeat 355 (.iload_n 2) 1 356 := dnAt dc_X7_repeat 189 rfl rfl
theorem d_X7_repeat_356 : dn cX7_repeat 356 (.imul) 1 357 := dnAt dc_X7_repeat 190 rfl rfl
theorem d_X7_repeat_357 : dn cX7_repeat 357 (.invokevirtual 118) 3 360 := dnAt dc_X7_repeat 191 rfl rfl
theorem d_X7_repeat_360 : dn cX7_repeat 360 (.aload_n 0) 1 361 := dnAt dc_X7_repeat 192 rfl rfl
theorem d_X7_repeat_361 : dn cX7_repeat 361 (.invokevirtual 105) 3 364 := dnAt dc_X7_repeat 193 rfl rfl
theorem d_X7_repeat_364 : dn cX7_repeat 364 (.ireturn) 1 365 := dnAt dc_X7_repeat 194 rfl rfl
set_option maxHeartbeats 4000000 in
set_option maxRecDepth 100000 in
theorem m_repeat (S : mS) (least most : Int32) (I : mInv S) : mC yX7_repeat cX7_repeat 10 (Option.some Jvm.ClassFile.FieldType.int) { frames := 1, cells := 0, slots := 0, locals := 23 } [.int least, .int most] S (fun v9 T9 => v9 = (some (.int (nI (rRep S least most)))) ∧ T9 = tRep S least most) := by
  refine mC.of (by decide) (Nat.le_of_ble_eq_true rfl) ?_
  intro G x q h0 C A TY
  show VM G x q h0 S 0 [(0, .ref (q 0)), (1, .int least), (2, .int most)] []
  have i1 := pile_le I
  have join_28 : VM G x q h0 S 28 [(0, .ref (q 0)), (1, .int least), (2, .int most)] [.int (bI (areR least most))] := by
    refine m_istore_n C d_X7_repeat_28 (lv' := [(3, .int (bI (areR least most))), (0, .ref (q 0)), (1, .int least), (2, .int most)]) (by decide) rfl ?_
    refine m_bipush C d_X7_repeat_29 (v := (nI 12)) rfl ?_
    refine m_aload_n C d_X7_repeat_31 1 rfl ?_
    refine m_get C d_X7_repeat_32 fd_RX7_98 (v := .int (nI (mK S 16))) rfl ?_
    refine mn_iadd C d_X7_repeat_35 ?_
    refine m_iconst C d_X7_repeat_36 (v := (nI 1)) rfl ?_
    refine mn_isub C d_X7_repeat_37 (by omega) ?_
    refine m_istore C d_X7_repeat_38 (lv' := [(4, .int (nI ((12 + (mK S 16)) - 1))), (3, .int (bI (areR least most))), (0, .ref (q 0)), (1, .int least), (2, .int most)]) (by decide) rfl ?_
    have join_73 : VM G x q h0 S 73 [(0, .ref (q 0)), (1, .int least), (2, .int most), (3, .int (bI (areR least most))), (4, .int (nI (12 + mK S 16 - 1)))] [.int (bI (canR S most))] := by
      refine m_istore C d_X7_repeat_73 (lv' := [(5, .int (bI (canR S most))), (0, .ref (q 0)), (1, .int least), (2, .int most), (3, .int (bI (areR least most))), (4, .int (nI (12 + mK S 16 - 1)))]) (by decide) rfl ?_
      have join_94 : VM G x q h0 S 94 [(0, .ref (q 0)), (1, .int least), (2, .int most), (4, .int (nI (12 + mK S 16 - 1)))] [.int (nI (cRep S least most)), .ref (q 0)] := by
        refine m_callV C d_X7_repeat_94 ok_RX7_84 (m_holds S (cRep S least most) (by unfold cRep; split <;> (try split) <;> omega)) rfl (rest := []) rfl rfl (Nat.le_of_ble_eq_true rfl) ⟨⟨by decide, by decide⟩, by decide, by decide⟩ (fun v9 T9 e9 => ?_)
        obtain ⟨rfl, e9⟩ := e9
        refine m_eq e9 ?_
        show VM G x q h0 (uK S 0 (cRep S least most)) 97 [(0, .ref (q 0)), (1, .int least), (2, .int most), (4, .int (nI (12 + mK S 16 - 1)))] [.int (bI (decide (cRep S least most = 0)))]
        refine mb_if_ne C d_X7_repeat_97 (tgt := 102) rfl (fun c_97 => ?_) (fun c_97 => ?_)
        · skip
          have c0 := of_decide_eq_true c_97
          obtain ⟨e1, e2, e3, e4, e5, e6, e7, e8, e9⟩ := cRep_0 I c0
          have h8 := I.2.2.2.2.2.1 (12 + mK S 16 - 1) (by omega)
          have hb9 := mTests_le I
          have hp1 := part_le e6
          have h7 : mN S 8 (12 + mK S 16 - 1) ≤ mN S 8 (12 + mK S 16 - 1) * tn most := Nat.le_mul_of_pos_right _ (by omega)
          rw [c0]
          refine m_lve (lv' := [(0, .ref (q 0)), (1, .int (nI (tn least))), (2, .int (nI (tn most))), (4, .int (nI (12 + mK S 16 - 1)))]) (by rw [← e1, ← e2]) ?_
          refine m_aload_n C d_X7_repeat_102 0 rfl ?_
          refine m_get C d_X7_repeat_103 fd_RX7_33 (v := .ref (q 8)) rfl ?_
          refine m_iload C d_X7_repeat_106 3 rfl ?_
          refine m_ald C d_X7_repeat_108 (k := 8) (by decide) rfl (by show _ < 21; omega) (by decide) ?_
          refine m_st (st' := [.int (nI (mN S 8 (12 + mK S 16 - 1)))]) rfl ?_
          refine m_istore C d_X7_repeat_109 (lv' := [(6, .int (nI (mN S 8 (12 + mK S 16 - 1)))), (0, .ref (q 0)), (1, .int (nI (tn least))), (2, .int (nI (tn most))), (4, .int (nI (12 + mK S 16 - 1)))]) (by decide) rfl ?_
          refine m_iload C d_X7_repeat_111 0 rfl ?_
          refine m_istore C d_X7_repeat_113 (lv' := [(7, .int (nI (mN S 8 (12 + mK S 16 - 1)))), (6, .int (nI (mN S 8 (12 + mK S 16 - 1)))), (0, .ref (q 0)), (1, .int (nI (tn least))), (2, .int (nI (tn most))), (4, .int (nI (12 + mK S 16 - 1)))]) (by decide) rfl ?_
          have loop_115 : ∀ (fuel : Nat) (k : Nat), (mN S 8 (12 + mK S 16 - 1) ≤ k ∧ k ≤ mN S 8 (12 + mK S 16 - 1) * tn most) → (9 - k) < fuel → VM G x q h0 (tmap (uK S 0 0) (rpG (8 * (12 + mK S 16 - 1)) (mN S 8 (12 + mK S 16 - 1)) (8 * (12 + mK S 16 - 1) + k))) 115 [(0, .ref (q 0)), (1, .int (nI (tn least))), (2, .int (nI (tn most))), (4, .int (nI (12 + mK S 16 - 1))), (6, .int (nI (mN S 8 (12 + mK S 16 - 1)))), (7, .int (nI k))] [] := by
            intro fuel
            induction fuel with
            | zero => intro k hk hf9; exact absurd hf9 (Nat.not_lt_zero _)
            | succ fuel ih_115 =>
              intro k hk hf9
              refine m_iload C d_X7_repeat_115 5 rfl ?_
              refine m_iload C d_X7_repeat_117 4 rfl ?_
              refine m_iload_n C d_X7_repeat_119 2 rfl ?_
              refine mn_imul C d_X7_repeat_120 ?_
              refine mn_icmp_ge C d_X7_repeat_121 (tgt := 153) rfl (by omega) (by omega) (fun c_121 => ?_) (fun c_121 => ?_)
              · skip
                obtain rfl : k = mN S 8 (12 + mK S 16 - 1) * tn most := by omega
                refine m_iconst C d_X7_repeat_153 (v := (nI 0)) rfl ?_
                refine m_istore C d_X7_repeat_154 (lv' := [(7, .int (nI 0)), (0, .ref (q 0)), (1, .int (nI (tn least))), (2, .int (nI (tn most))), (4, .int (nI (12 + mK S 16 - 1))), (6, .int (nI (mN S 8 (12 + mK S 16 - 1))))]) (by decide) rfl ?_
                have loop_156 : ∀ (fuel : Nat) (k : Nat), (k ≤ 256) → (257 - k) < fuel → VM G x q h0 (rpS (rpT S (12 + mK S 16 - 1) (tn most)) (iA S (tn least) k 0) (iA S (tn least) k 1)) 156 [(0, .ref (q 0)), (1, .int (nI (tn least))), (2, .int (nI (tn most))), (4, .int (nI (12 + mK S 16 - 1))), (6, .int (nI (mN S 8 (12 + mK S 16 - 1)))), (7, .int (nI k))] [] := by
                  intro fuel
                  induction fuel with
                  | zero => intro k hk3 hf9; exact absurd hf9 (Nat.not_lt_zero _)
                  | succ fuel ih_156 =>
                    intro k hk3 hf9
                    refine m_iload C d_X7_repeat_156 5 rfl ?_
                    refine m_sipush C d_X7_repeat_158 (v := (nI 256)) rfl ?_
                    refine mn_icmp_ge C d_X7_repeat_161 (tgt := 208) rfl (by omega) (by omega) (fun c_161 => ?_) (fun c_161 => ?_)
                    · skip
                      obtain rfl : k = 256 := by omega
                      refine m_iconst C d_X7_repeat_208 (v := (nI 1)) rfl ?_
                      refine m_istore C d_X7_repeat_209 (lv' := [(7, .int (nI 1)), (0, .ref (q 0)), (1, .int (nI (tn least))), (2, .int (nI (tn most))), (4, .int (nI (12 + mK S 16 - 1))), (6, .int (nI (mN S 8 (12 + mK S 16 - 1))))]) (by decide) rfl ?_
                      have loop_211 : ∀ (fuel : Nat) (t : Nat), (t ≤ tn most) → (4 - t) < fuel → VM G x q h0 (rpS (rpT S (12 + mK S 16 - 1) (tn most)) (fT S (12 + mK S 16 - 1) t) (gT S (12 + mK S 16 - 1) (tn least) t)) 211 [(0, .ref (q 0)), (1, .int (nI (tn least))), (2, .int (nI (tn most))), (4, .int (nI (12 + mK S 16 - 1))), (6, .int (nI (mN S 8 (12 + mK S 16 - 1)))), (7, .int (nI (t + 1)))] [] := by
                        intro fuel
                        induction fuel with
                        | zero => intro t ht hf9; exact absurd hf9 (Nat.not_lt_zero _)
                        | succ fuel ih_211 =>
                          intro t ht hf9
                          refine m_iload C d_X7_repeat_211 5 rfl ?_
                          refine m_iload_n C d_X7_repeat_213 2 rfl ?_
                          refine mn_icmp_gt C d_X7_repeat_214 (tgt := 350) rfl (by omega) (by omega) (fun c_214 => ?_) (fun c_214 => ?_)
                          · skip
                            obtain rfl : t = tn most := by omega
                            refine m_aload_n C d_X7_repeat_350 0 rfl ?_
                            refine m_iload C d_X7_repeat_351 3 rfl ?_
                            refine m_iload C d_X7_repeat_353 4 rfl ?_
                            refine m_iload_n C d_X7_repeat_355 2 rfl ?_
                            refine mn_imul C d_X7_repeat_356 ?_
                            refine m_callV C d_X7_repeat_357 ok_RX7_118 (m_becomes (rpS (rpT S (12 + mK S 16 - 1) (tn most)) (fT S (12 + mK S 16 - 1) (tn most)) (gT S (12 + mK S 16 - 1) (tn least) (tn most))) (12 + mK S 16 - 1) ((mN S 8 (12 + mK S 16 - 1)) * (tn most)) (by omega)) rfl (rest := []) rfl rfl (Nat.le_of_ble_eq_true rfl) ⟨⟨by decide, by decide⟩, by decide, by decide⟩ (fun v9 T9 e9 => ?_)
                            obtain ⟨rfl, e9⟩ := e9
                            refine m_eq e9 ?_
                            show VM G x q h0 (tBec (rpS (rpT S (12 + mK S 16 - 1) (tn most)) (fT S (12 + mK S 16 - 1) (tn most)) (gT S (12 + mK S 16 - 1) (tn least) (tn most))) (12 + mK S 16 - 1) ((mN S 8 (12 + mK S 16 - 1)) * (tn most))) 360 [(0, .ref (q 0)), (1, .int (nI (tn least))), (2, .int (nI (tn most))), (4, .int (nI (12 + mK S 16 - 1))), (6, .int (nI (mN S 8 (12 + mK S 16 - 1)))), (7, .int (nI ((tn most) + 1)))] []
                            refine m_aload_n C d_X7_repeat_360 0 rfl ?_
                            refine m_callV C d_X7_repeat_361 ok_RX7_105 (m_testsInAll (tBec (rpS (rpT S (12 + mK S 16 - 1) (tn most)) (fT S (12 + mK S 16 - 1) (tn most)) (gT S (12 + mK S 16 - 1) (tn least) (tn most))) (12 + mK S 16 - 1) ((mN S 8 (12 + mK S 16 - 1)) * (tn most))) (i1)) rfl (rest := []) rfl rfl (Nat.le_of_ble_eq_true rfl) ⟨⟨by decide, by decide⟩, by decide, by decide⟩ (fun v9 T9 e9 => ?_)
                            obtain ⟨rfl, e9⟩ := e9
                            refine m_eq e9 ?_
                            show VM G x q h0 (tBec (rpS (rpT S (12 + mK S 16 - 1) (tn most)) (fT S (12 + mK S 16 - 1) (tn most)) (gT S (12 + mK S 16 - 1) (tn least) (tn most))) (12 + mK S 16 - 1) ((mN S 8 (12 + mK S 16 - 1)) * (tn most))) 364 [(0, .ref (q 0)), (1, .int (nI (tn least))), (2, .int (nI (tn most))), (4, .int (nI (12 + mK S 16 - 1))), (6, .int (nI (mN S 8 (12 + mK S 16 - 1)))), (7, .int (nI ((tn most) + 1)))] [.int (nI (mTests (tBec (rpS (rpT S (12 + mK S 16 - 1) (tn most)) (fT S (12 + mK S 16 - 1) (tn most)) (gT S (12 + mK S 16 - 1) (tn least) (tn most))) (12 + mK S 16 - 1) ((mN S 8 (12 + mK S 16 - 1)) * (tn most)))))]
                            refine m_st (st' := [.int (nI (rRep S least most))]) (by rw [rRep, if_pos c0, tRep, if_pos c0]) ?_
                            exact m_iret C A TY d_X7_repeat_364 rfl (⟨rfl, by rw [tRep, if_pos c0]⟩)
                          · skip
                            have hnt : mN S 8 (12 + mK S 16 - 1) * t ≤ mN S 8 (12 + mK S 16 - 1) * tn most := Nat.mul_le_mul (Nat.le_refl _) (by omega)
                            have i3 := pow_256 (a := mN S 8 (12 + mK S 16 - 1) * t) (by omega)
                            refine m_iload C d_X7_repeat_217 4 rfl ?_
                            refine m_iload C d_X7_repeat_219 5 rfl ?_
                            refine m_iconst C d_X7_repeat_221 (v := (nI 1)) rfl ?_
                            refine mn_isub C d_X7_repeat_222 (by omega) ?_
                            refine m_st (st' := [.int (nI t), .int (nI (mN S 8 (12 + mK S 16 - 1)))]) (by rw [Nat.add_sub_cancel]) ?_
                            refine mn_imul C d_X7_repeat_223 ?_
                            refine m_istore C d_X7_repeat_224 (lv' := [(8, .int (nI ((mN S 8 (12 + mK S 16 - 1)) * t))), (0, .ref (q 0)), (1, .int (nI (tn least))), (2, .int (nI (tn most))), (4, .int (nI (12 + mK S 16 - 1))), (6, .int (nI (mN S 8 (12 + mK S 16 - 1)))), (7, .int (nI (t + 1)))]) (by decide) rfl ?_
                            refine m_sipush C d_X7_repeat_226 (v := (nI 255)) rfl ?_
                            refine m_istore C d_X7_repeat_229 (lv' := [(9, .int (nI 255)), (8, .int (nI ((mN S 8 (12 + mK S 16 - 1)) * t))), (0, .ref (q 0)), (1, .int (nI (tn least))), (2, .int (nI (tn most))), (4, .int (nI (12 + mK S 16 - 1))), (6, .int (nI (mN S 8 (12 + mK S 16 - 1)))), (7, .int (nI (t + 1)))]) (by decide) rfl ?_
                            have loop_231 : ∀ (fuel : Nat) (j : Nat), (j ≤ 256) → (j) < fuel → VM G x q h0 (rpS (rpT S (12 + mK S 16 - 1) (tn most)) (fJ S (12 + mK S 16 - 1) t j) (gT S (12 + mK S 16 - 1) (tn least) t)) 231 [(0, .ref (q 0)), (1, .int (nI (tn least))), (2, .int (nI (tn most))), (4, .int (nI (12 + mK S 16 - 1))), (6, .int (nI (mN S 8 (12 + mK S 16 - 1)))), (7, .int (nI (t + 1))), (8, .int (nI (mN S 8 (12 + mK S 16 - 1) * t))), (9, .int (nI j - nI 1))] [] := by
                              intro fuel
                              induction fuel with
                              | zero => intro j hj hf9; exact absurd hf9 (Nat.not_lt_zero _)
                              | succ fuel ih_231 =>
                                intro j hj hf9
                                refine m_iload C d_X7_repeat_231 7 rfl ?_
                                refine m_if_lt C d_X7_repeat_233 (tgt := 289) rfl (fun c_233 => ?_) (fun c_233 => ?_)
                                · skip
                                  obtain rfl : j = 0 := (nI_neg1 hj).mp c_233
                                  refine m_iconst C d_X7_repeat_289 (v := (nI 0)) rfl ?_
                                  refine m_istore C d_X7_repeat_290 (lv' := [(9, .int (nI 0)), (0, .ref (q 0)), (1, .int (nI (tn least))), (2, .int (nI (tn most))), (4, .int (nI (12 + mK S 16 - 1))), (6, .int (nI (mN S 8 (12 + mK S 16 - 1)))), (7, .int (nI (t + 1))), (8, .int (nI (mN S 8 (12 + mK S 16 - 1) * t)))]) (by decide) rfl ?_
                                  have loop_292 : ∀ (fuel : Nat) (k : Nat), (k ≤ 256) → (257 - k) < fuel → VM G x q h0 (rpS (rpT S (12 + mK S 16 - 1) (tn most)) (fT S (12 + mK S 16 - 1) (t + 1)) (gJ S (12 + mK S 16 - 1) (tn least) t k)) 292 [(0, .ref (q 0)), (1, .int (nI (tn least))), (2, .int (nI (tn most))), (4, .int (nI (12 + mK S 16 - 1))), (6, .int (nI (mN S 8 (12 + mK S 16 - 1)))), (7, .int (nI (t + 1))), (9, .int (nI k))] [] := by
                                    intro fuel
                                    induction fuel with
                                    | zero => intro k hk4 hf9; exact absurd hf9 (Nat.not_lt_zero _)
                                    | succ fuel ih_292 =>
                                      intro k hk4 hf9
                                      refine m_iload C d_X7_repeat_292 6 rfl ?_
                                      refine m_sipush C d_X7_repeat_294 (v := (nI 256)) rfl ?_
                                      refine mn_icmp_ge C d_X7_repeat_297 (tgt := 344) rfl (by omega) (by omega) (fun c_297 => ?_) (fun c_297 => ?_)
                                      · skip
                                        obtain rfl : k = 256 := by omega
                                        refine mn_iinc C d_X7_repeat_344 (lv' := [(7, .int (nI (t + 1 + 1))), (0, .ref (q 0)), (1, .int (nI (tn least))), (2, .int (nI (tn most))), (4, .int (nI (12 + mK S 16 - 1))), (6, .int (nI (mN S 8 (12 + mK S 16 - 1)))), (9, .int (nI 256))]) 5 rfl (nI_inc _ rfl) (by decide) rfl ?_
                                        refine m_goto C d_X7_repeat_347 (tgt := 211) rfl ?_
                                        refine m_eq (S' := rpS (rpT S (12 + mK S 16 - 1) (tn most)) (fT S (12 + mK S 16 - 1) (t + 1)) (gT S (12 + mK S 16 - 1) (tn least) (t + 1))) (by rw [gJ_256]) ?_
                                        refine m_lv (lv' := [(0, .ref (q 0)), (1, .int (nI (tn least))), (2, .int (nI (tn most))), (4, .int (nI (12 + mK S 16 - 1))), (6, .int (nI (mN S 8 (12 + mK S 16 - 1)))), (7, .int (nI (t + 1 + 1)))]) [1, 2, 3, 4, 5, 0] rfl ?_
                                        exact ih_211 (t + 1) (by omega) (by omega)
                                      · skip
                                        have join_337 : VM G x q h0 (rpS (rpT S (12 + mK S 16 - 1) (tn most)) (fT S (12 + mK S 16 - 1) (t + 1)) (gJ S (12 + mK S 16 - 1) (tn least) t k)) 337 [(0, .ref (q 0)), (1, .int (nI (tn least))), (2, .int (nI (tn most))), (4, .int (nI (12 + mK S 16 - 1))), (6, .int (nI (mN S 8 (12 + mK S 16 - 1)))), (7, .int (nI (t + 1))), (9, .int (nI k))] [.int (bI (gT S (12 + mK S 16 - 1) (tn least) (t + 1) k)), .int (nI k), .ref (q 17)] := by
                                          refine m_zst C d_X7_repeat_337 (k := 17) (v := gT S (12 + mK S 16 - 1) (tn least) (t + 1) k) (by decide) rfl (by show _ < 256; omega) (by decide) ?_
                                          refine mn_iinc C d_X7_repeat_338 (lv' := [(9, .int (nI (k + 1))), (0, .ref (q 0)), (1, .int (nI (tn least))), (2, .int (nI (tn most))), (4, .int (nI (12 + mK S 16 - 1))), (6, .int (nI (mN S 8 (12 + mK S 16 - 1)))), (7, .int (nI (t + 1)))]) 6 rfl (nI_inc _ rfl) (by decide) rfl ?_
                                          refine m_goto C d_X7_repeat_341 (tgt := 292) rfl ?_
                                          refine m_eq (S' := rpS (rpT S (12 + mK S 16 - 1) (tn most)) (fT S (12 + mK S 16 - 1) (t + 1)) (gJ S (12 + mK S 16 - 1) (tn least) t (k + 1))) (by rw [rpS_u17 (gJ_step)]) ?_
                                          refine m_lv (lv' := [(0, .ref (q 0)), (1, .int (nI (tn least))), (2, .int (nI (tn most))), (4, .int (nI (12 + mK S 16 - 1))), (6, .int (nI (mN S 8 (12 + mK S 16 - 1)))), (7, .int (nI (t + 1))), (9, .int (nI (k + 1)))]) [1, 2, 3, 4, 5, 6, 0] rfl ?_
                                          exact ih_292 (k + 1) (by omega) (by omega)
                                        refine m_aload_n C d_X7_repeat_300 0 rfl ?_
                                        refine m_get C d_X7_repeat_301 fd_RX7_54 (v := .ref (q 17)) rfl ?_
                                        refine m_iload C d_X7_repeat_304 6 rfl ?_
                                        refine m_aload_n C d_X7_repeat_306 0 rfl ?_
                                        refine m_get C d_X7_repeat_307 fd_RX7_54 (v := .ref (q 17)) rfl ?_
                                        refine m_iload C d_X7_repeat_310 6 rfl ?_
                                        refine m_zld C d_X7_repeat_312 (k := 17) (by decide) rfl (by show _ < 256; omega) (by decide) ?_
                                        refine m_st (st' := [.int (bI (thW (fun z => mB S 10 (256 * (12 + mK S 16 - 1) + z)) (mN S 8 (12 + mK S 16 - 1)) (tn least) t k)), .int (nI k), .ref (q 17)]) (by rw [rpS_17, gJ, if_neg (by omega), gT_in (by omega)]) ?_
                                        refine mb_if_ne C d_X7_repeat_313 (tgt := 332) rfl (fun c_313 => ?_) (fun c_313 => ?_)
                                        · skip
                                          refine m_iconst C d_X7_repeat_332 (v := (bI true)) rfl ?_
                                          refine m_goto C d_X7_repeat_333 (tgt := 337) rfl ?_
                                          refine m_st (st' := [.int (bI (gT S (12 + mK S 16 - 1) (tn least) (t + 1) k)), .int (nI k), .ref (q 17)]) (by rw [gT_in (by omega), thW]; first | (rw [c_313]; rfl) | (rw [c_313, decide_eq_true c_319, c_329]; rfl) | (rw [c_313, decide_eq_false (by omega)]; rfl)) ?_
                                          exact join_337  
                                        · skip
                                          refine m_iload C d_X7_repeat_316 5 rfl ?_
                                          refine m_iload_n C d_X7_repeat_318 1 rfl ?_
                                          refine mn_icmp_lt C d_X7_repeat_319 (tgt := 336) rfl (by omega) (by omega) (fun c_319 => ?_) (fun c_319 => ?_)
                                          · skip
                                            refine m_iconst C d_X7_repeat_336 (v := (bI false)) rfl ?_
                                            refine m_st (st' := [.int (bI (gT S (12 + mK S 16 - 1) (tn least) (t + 1) k)), .int (nI k), .ref (q 17)]) (by rw [gT_in (by omega), thW]; first | (rw [c_313]; rfl) | (rw [c_313, decide_eq_true c_319, c_329]; rfl) | (rw [c_313, decide_eq_false (by omega)]; rfl)) ?_
                                            exact join_337  
                                          · skip
                                            refine m_aload_n C d_X7_repeat_322 0 rfl ?_
                                            refine m_get C d_X7_repeat_323 fd_RX7_57 (v := .ref (q 18)) rfl ?_
                                            refine m_iload C d_X7_repeat_326 6 rfl ?_
                                            refine m_zld C d_X7_repeat_328 (k := 18) (by decide) rfl (by show _ < 256; omega) (by decide) ?_
                                            refine m_st (st' := [.int (bI (nxW (fun z => mB S 10 (256 * (12 + mK S 16 - 1) + z)) (mN S 8 (12 + mK S 16 - 1)) (t + 1) k)), .int (nI k), .ref (q 17)]) (by rw [rpS_18, fT_in (by omega)]) ?_
                                            refine mb_if_eq C d_X7_repeat_329 (tgt := 336) rfl (fun c_329 => ?_) (fun c_329 => ?_)
                                            · skip
                                              refine m_iconst C d_X7_repeat_336 (v := (bI false)) rfl ?_
                                              refine m_st (st' := [.int (bI (gT S (12 + mK S 16 - 1) (tn least) (t + 1) k)), .int (nI k), .ref (q 17)]) (by rw [gT_in (by omega), thW]; first | (rw [c_313]; rfl) | (rw [c_313, decide_eq_true c_319, c_329]; rfl) | (rw [c_313, decide_eq_false (by omega)]; rfl)) ?_
                                              exact join_337  
                                            · skip
                                              refine m_iconst C d_X7_repeat_332 (v := (bI true)) rfl ?_
                                              refine m_goto C d_X7_repeat_333 (tgt := 337) rfl ?_
                                              refine m_st (st' := [.int (bI (gT S (12 + mK S 16 - 1) (tn least) (t + 1) k)), .int (nI k), .ref (q 17)]) (by rw [gT_in (by omega), thW]; first | (rw [c_313]; rfl) | (rw [c_313, decide_eq_true c_319, c_329]; rfl) | (rw [c_313, decide_eq_false (by omega)]; rfl)) ?_
                                              exact join_337  
                                  refine m_eq (S' := rpS (rpT S (12 + mK S 16 - 1) (tn most)) (fT S (12 + mK S 16 - 1) (t + 1)) (gJ S (12 + mK S 16 - 1) (tn least) t 0)) (by rw [fJ_0, ← gJ_0]) ?_
                                  refine m_lv (lv' := [(0, .ref (q 0)), (1, .int (nI (tn least))), (2, .int (nI (tn most))), (4, .int (nI (12 + mK S 16 - 1))), (6, .int (nI (mN S 8 (12 + mK S 16 - 1)))), (7, .int (nI (t + 1))), (9, .int (nI 0))]) [1, 2, 3, 4, 5, 6, 0] rfl ?_
                                  exact loop_292 _ 0 (by omega) (Nat.lt_succ_self _)
                                · skip
                                  have hj0 : 0 < j := Nat.pos_of_ne_zero fun z => c_233 ((nI_neg1 hj).mpr z)
                                  refine m_lve (lv' := [(0, .ref (q 0)), (1, .int (nI (tn least))), (2, .int (nI (tn most))), (4, .int (nI (12 + mK S 16 - 1))), (6, .int (nI (mN S 8 (12 + mK S 16 - 1)))), (7, .int (nI (t + 1))), (8, .int (nI (mN S 8 (12 + mK S 16 - 1) * t))), (9, .int (nI (j - 1)))]) (by rw [pk_sub hj0]) ?_
                                  have join_282 : VM G x q h0 (rpS (rpT S (12 + mK S 16 - 1) (tn most)) (fJ S (12 + mK S 16 - 1) t j) (gT S (12 + mK S 16 - 1) (tn least) t)) 282 [(0, .ref (q 0)), (1, .int (nI (tn least))), (2, .int (nI (tn most))), (4, .int (nI (12 + mK S 16 - 1))), (6, .int (nI (mN S 8 (12 + mK S 16 - 1)))), (7, .int (nI (t + 1))), (8, .int (nI (mN S 8 (12 + mK S 16 - 1) * t))), (9, .int (nI (j - 1)))] [.int (bI (fT S (12 + mK S 16 - 1) (t + 1) (j - 1))), .int (nI (j - 1)), .ref (q 18)] := by
                                    refine m_zst C d_X7_repeat_282 (k := 18) (v := fT S (12 + mK S 16 - 1) (t + 1) (j - 1)) (by decide) rfl (by show _ < 256; omega) (by decide) ?_
                                    refine m_iinc C d_X7_repeat_283 (v := (nI (j - 1) - nI 1)) (lv' := [(9, .int (nI (j - 1) - nI 1)), (0, .ref (q 0)), (1, .int (nI (tn least))), (2, .int (nI (tn most))), (4, .int (nI (12 + mK S 16 - 1))), (6, .int (nI (mN S 8 (12 + mK S 16 - 1)))), (7, .int (nI (t + 1))), (8, .int (nI (mN S 8 (12 + mK S 16 - 1) * t)))]) 7 rfl (nI_minus1 _) (by decide) rfl ?_
                                    refine m_goto C d_X7_repeat_286 (tgt := 231) rfl ?_
                                    refine m_eq (S' := rpS (rpT S (12 + mK S 16 - 1) (tn most)) (fJ S (12 + mK S 16 - 1) t (j - 1)) (gT S (12 + mK S 16 - 1) (tn least) t)) (by rw [rpS_u18 (fJ_step (by omega))]) ?_
                                    refine m_lv (lv' := [(0, .ref (q 0)), (1, .int (nI (tn least))), (2, .int (nI (tn most))), (4, .int (nI (12 + mK S 16 - 1))), (6, .int (nI (mN S 8 (12 + mK S 16 - 1)))), (7, .int (nI (t + 1))), (8, .int (nI (mN S 8 (12 + mK S 16 - 1) * t))), (9, .int (nI (j - 1) - nI 1))]) [1, 2, 3, 4, 5, 6, 7, 0] rfl ?_
                                    exact ih_231 (j - 1) (by omega) (by omega)
                                  refine m_aload_n C d_X7_repeat_236 0 rfl ?_
                                  refine m_get C d_X7_repeat_237 fd_RX7_57 (v := .ref (q 18)) rfl ?_
                                  refine m_iload C d_X7_repeat_240 7 rfl ?_
                                  refine m_aload_n C d_X7_repeat_242 0 rfl ?_
                                  refine m_get C d_X7_repeat_243 fd_RX7_57 (v := .ref (q 18)) rfl ?_
                                  refine m_iload C d_X7_repeat_246 7 rfl ?_
                                  refine m_iconst C d_X7_repeat_248 (v := (nI 1)) rfl ?_
                                  refine m_iload C d_X7_repeat_249 6 rfl ?_
                                  refine mn_ishl C d_X7_repeat_251 (by omega) ?_
                                  refine m_st (st' := [.int (nI (2 ^ (mN S 8 (12 + mK S 16 - 1) * t))), .int (nI (j - 1)), .ref (q 18), .int (nI (j - 1)), .ref (q 18)]) (by rw [Nat.one_mul]) ?_
                                  refine mn_irem C d_X7_repeat_252 (by omega) (i3.1) (by omega) ?_
                                  refine m_zld C d_X7_repeat_253 (k := 18) (by decide) rfl (by have := Nat.mod_le (j - 1) (2 ^ (mN S 8 (12 + mK S 16 - 1) * t)); show _ < 256; omega) (by decide) ?_
                                  refine m_st (st' := [.int (bI (nxW (fun z => mB S 10 (256 * (12 + mK S 16 - 1) + z)) (mN S 8 (12 + mK S 16 - 1)) t ((j - 1) % 2 ^ (mN S 8 (12 + mK S 16 - 1) * t)))), .int (nI (j - 1)), .ref (q 18)]) (by have hm := Nat.mod_le (j - 1) (2 ^ (mN S 8 (12 + mK S 16 - 1) * t)); rw [rpS_18, fJ, if_pos (by omega), fT_in (by omega)]) ?_
                                  refine mb_if_eq C d_X7_repeat_254 (tgt := 281) rfl (fun c_254 => ?_) (fun c_254 => ?_)
                                  · skip
                                    refine m_iconst C d_X7_repeat_281 (v := (bI false)) rfl ?_
                                    refine m_st (st' := [.int (bI (fT S (12 + mK S 16 - 1) (t + 1) (j - 1))), .int (nI (j - 1)), .ref (q 18)]) (by rw [fT_in (by omega), nxW]; first | (rw [c_254, c_274]; rfl) | (rw [c_254]; rfl)) ?_
                                    exact join_282  
                                  · skip
                                    refine m_aload_n C d_X7_repeat_257 0 rfl ?_
                                    refine m_get C d_X7_repeat_258 fd_RX7_39 (v := .ref (q 10)) rfl ?_
                                    refine m_sipush C d_X7_repeat_261 (v := (nI 256)) rfl ?_
                                    refine m_iload C d_X7_repeat_264 3 rfl ?_
                                    refine mn_imul C d_X7_repeat_266 ?_
                                    refine m_iload C d_X7_repeat_267 7 rfl ?_
                                    refine m_iload C d_X7_repeat_269 6 rfl ?_
                                    refine mn_ishr C d_X7_repeat_271 (by omega) (by omega) ?_
                                    refine mn_iadd C d_X7_repeat_272 ?_
                                    refine m_zld C d_X7_repeat_273 (k := 10) (by decide) rfl (by have := Nat.div_le_self (j - 1) (2 ^ (mN S 8 (12 + mK S 16 - 1) * t)); show _ < 5376; omega) (by decide) ?_
                                    refine m_st (st' := [.int (bI (mB S 10 ((256 * (12 + mK S 16 - 1)) + ((j - 1) / 2 ^ (mN S 8 (12 + mK S 16 - 1) * t))))), .int (nI (j - 1)), .ref (q 18)]) rfl ?_
                                    refine mb_if_eq C d_X7_repeat_274 (tgt := 281) rfl (fun c_274 => ?_) (fun c_274 => ?_)
                                    · skip
                                      refine m_iconst C d_X7_repeat_281 (v := (bI false)) rfl ?_
                                      refine m_st (st' := [.int (bI (fT S (12 + mK S 16 - 1) (t + 1) (j - 1))), .int (nI (j - 1)), .ref (q 18)]) (by rw [fT_in (by omega), nxW]; first | (rw [c_254, c_274]; rfl) | (rw [c_254]; rfl)) ?_
                                      exact join_282  
                                    · skip
                                      refine m_iconst C d_X7_repeat_277 (v := (bI true)) rfl ?_
                                      refine m_goto C d_X7_repeat_278 (tgt := 282) rfl ?_
                                      refine m_st (st' := [.int (bI (fT S (12 + mK S 16 - 1) (t + 1) (j - 1))), .int (nI (j - 1)), .ref (q 18)]) (by rw [fT_in (by omega), nxW]; first | (rw [c_254, c_274]; rfl) | (rw [c_254]; rfl)) ?_
                                      exact join_282  
                            refine m_eq (S' := rpS (rpT S (12 + mK S 16 - 1) (tn most)) (fJ S (12 + mK S 16 - 1) t 256) (gT S (12 + mK S 16 - 1) (tn least) t)) (by rw [← fJ_256]) ?_
                            refine m_lv (lv' := [(0, .ref (q 0)), (1, .int (nI (tn least))), (2, .int (nI (tn most))), (4, .int (nI (12 + mK S 16 - 1))), (6, .int (nI (mN S 8 (12 + mK S 16 - 1)))), (7, .int (nI (t + 1))), (8, .int (nI ((mN S 8 (12 + mK S 16 - 1)) * t))), (9, .int (nI 255))]) [2, 3, 4, 5, 6, 7, 1, 0] rfl ?_
                            refine m_lve (lv' := [(0, .ref (q 0)), (1, .int (nI (tn least))), (2, .int (nI (tn most))), (4, .int (nI (12 + mK S 16 - 1))), (6, .int (nI (mN S 8 (12 + mK S 16 - 1)))), (7, .int (nI (t + 1))), (8, .int (nI (mN S 8 (12 + mK S 16 - 1) * t))), (9, .int (nI 256 - nI 1))]) (rfl) ?_
                            exact loop_231 _ 256 (by omega) (Nat.lt_succ_self _)
                      refine m_eq (S' := rpS (rpT S (12 + mK S 16 - 1) (tn most)) (fT S (12 + mK S 16 - 1) 0) (gT S (12 + mK S 16 - 1) (tn least) 0)) (by rw [iA_f S (12 + mK S 16 - 1), iA_g S (12 + mK S 16 - 1)]) ?_
                      refine m_lv (lv' := [(0, .ref (q 0)), (1, .int (nI (tn least))), (2, .int (nI (tn most))), (4, .int (nI (12 + mK S 16 - 1))), (6, .int (nI (mN S 8 (12 + mK S 16 - 1)))), (7, .int (nI 1))]) [1, 2, 3, 4, 5, 0] rfl ?_
                      refine m_lve (lv' := [(0, .ref (q 0)), (1, .int (nI (tn least))), (2, .int (nI (tn most))), (4, .int (nI (12 + mK S 16 - 1))), (6, .int (nI (mN S 8 (12 + mK S 16 - 1)))), (7, .int (nI (0 + 1)))]) (rfl) ?_
                      exact loop_211 _ 0 (by omega) (Nat.lt_succ_self _)
                    · skip
                      have join_180 : VM G x q h0 (rpS (rpT S (12 + mK S 16 - 1) (tn most)) (iA S (tn least) k 0) (iA S (tn least) k 1)) 180 [(0, .ref (q 0)), (1, .int (nI (tn least))), (2, .int (nI (tn most))), (4, .int (nI (12 + mK S 16 - 1))), (6, .int (nI (mN S 8 (12 + mK S 16 - 1)))), (7, .int (nI k))] [.int (bI (decide (k = 0) && (decide (0 = 0) || decide (tn least = 0)))), .int (nI k), .ref (q 18)] := by
                        refine m_zst C d_X7_repeat_180 (k := 18) (v := decide (k = 0) && (decide (0 = 0) || decide (tn least = 0))) (by decide) rfl (by show _ < 256; omega) (by decide) ?_
                        have join_201 : VM G x q h0 (uB (rpS (rpT S (12 + mK S 16 - 1) (tn most)) (iA S (tn least) k 0) (iA S (tn least) k 1)) 18 k (decide (k = 0) && (decide (0 = 0) || decide (tn least = 0)))) 201 [(0, .ref (q 0)), (1, .int (nI (tn least))), (2, .int (nI (tn most))), (4, .int (nI (12 + mK S 16 - 1))), (6, .int (nI (mN S 8 (12 + mK S 16 - 1)))), (7, .int (nI k))] [.int (bI (decide (k = 0) && (decide (1 = 0) || decide (tn least = 0)))), .int (nI k), .ref (q 17)] := by
                          refine m_zst C d_X7_repeat_201 (k := 17) (v := decide (k = 0) && (decide (1 = 0) || decide (tn least = 0))) (by decide) rfl (by show _ < 256; omega) (by decide) ?_
                          refine mn_iinc C d_X7_repeat_202 (lv' := [(7, .int (nI (k + 1))), (0, .ref (q 0)), (1, .int (nI (tn least))), (2, .int (nI (tn most))), (4, .int (nI (12 + mK S 16 - 1))), (6, .int (nI (mN S 8 (12 + mK S 16 - 1))))]) 5 rfl (nI_inc _ rfl) (by decide) rfl ?_
                          refine m_goto C d_X7_repeat_205 (tgt := 156) rfl ?_
                          refine m_eq (S' := rpS (rpT S (12 + mK S 16 - 1) (tn most)) (iA S (tn least) (k + 1) 0) (iA S (tn least) (k + 1) 1)) (by rw [rpS_u18 (iA_step (o := 0)), rpS_u17 (iA_step (o := 1))]) ?_
                          refine m_lv (lv' := [(0, .ref (q 0)), (1, .int (nI (tn least))), (2, .int (nI (tn most))), (4, .int (nI (12 + mK S 16 - 1))), (6, .int (nI (mN S 8 (12 + mK S 16 - 1)))), (7, .int (nI (k + 1)))]) [1, 2, 3, 4, 5, 0] rfl ?_
                          exact ih_156 (k + 1) (by omega) (by omega)
                        refine m_aload_n C d_X7_repeat_181 0 rfl ?_
                        refine m_get C d_X7_repeat_182 fd_RX7_54 (v := .ref (q 17)) rfl ?_
                        refine m_iload C d_X7_repeat_185 5 rfl ?_
                        refine m_iload C d_X7_repeat_187 5 rfl ?_
                        refine mn_if_ne C d_X7_repeat_189 (tgt := 200) rfl (by omega) (fun c_189 => ?_) (fun c_189 => ?_)
                        · skip
                          refine m_iconst C d_X7_repeat_200 (v := (bI false)) rfl ?_
                          refine m_st (st' := [.int (bI (decide (k = 0) && (decide (1 = 0) || decide (tn least = 0)))), .int (nI k), .ref (q 17)]) (congrArg (fun z => [Value.int (bI z), .int (nI k), .ref (q 17)]) (by grind)) ?_
                          exact join_201  
                        · skip
                          refine m_iload_n C d_X7_repeat_192 1 rfl ?_
                          refine mn_if_ne C d_X7_repeat_193 (tgt := 200) rfl (by omega) (fun c_193 => ?_) (fun c_193 => ?_)
                          · skip
                            refine m_iconst C d_X7_repeat_200 (v := (bI false)) rfl ?_
                            refine m_st (st' := [.int (bI (decide (k = 0) && (decide (1 = 0) || decide (tn least = 0)))), .int (nI k), .ref (q 17)]) (congrArg (fun z => [Value.int (bI z), .int (nI k), .ref (q 17)]) (by grind)) ?_
                            exact join_201  
                          · skip
                            refine m_iconst C d_X7_repeat_196 (v := (bI true)) rfl ?_
                            refine m_goto C d_X7_repeat_197 (tgt := 201) rfl ?_
                            refine m_st (st' := [.int (bI (decide (k = 0) && (decide (1 = 0) || decide (tn least = 0)))), .int (nI k), .ref (q 17)]) (congrArg (fun z => [Value.int (bI z), .int (nI k), .ref (q 17)]) (by grind)) ?_
                            exact join_201  
                      refine m_aload_n C d_X7_repeat_164 0 rfl ?_
                      refine m_get C d_X7_repeat_165 fd_RX7_57 (v := .ref (q 18)) rfl ?_
                      refine m_iload C d_X7_repeat_168 5 rfl ?_
                      refine m_iload C d_X7_repeat_170 5 rfl ?_
                      refine mn_if_ne C d_X7_repeat_172 (tgt := 179) rfl (by omega) (fun c_172 => ?_) (fun c_172 => ?_)
                      · skip
                        refine m_iconst C d_X7_repeat_179 (v := (bI false)) rfl ?_
                        refine m_st (st' := [.int (bI (decide (k = 0) && (decide (0 = 0) || decide (tn least = 0)))), .int (nI k), .ref (q 18)]) (by first | (rw [decide_eq_true c_172]; rfl) | (rw [decide_eq_false (by omega)]; rfl)) ?_
                        exact join_180  
                      · skip
                        refine m_iconst C d_X7_repeat_175 (v := (bI true)) rfl ?_
                        refine m_goto C d_X7_repeat_176 (tgt := 180) rfl ?_
                        refine m_st (st' := [.int (bI (decide (k = 0) && (decide (0 = 0) || decide (tn least = 0)))), .int (nI k), .ref (q 18)]) (by first | (rw [decide_eq_true c_172]; rfl) | (rw [decide_eq_false (by omega)]; rfl)) ?_
                        exact join_180  
                refine m_eq (S' := rpS (rpT S (12 + mK S 16 - 1) (tn most)) (iA S (tn least) 0 0) (iA S (tn least) 0 1)) (by rw [← rpT]; exact (rpS_init _).trans (congr (congrArg (rpS _) (funext fun z => by unfold iA; rw [if_neg (by omega)]; rfl)) (funext fun z => by unfold iA; rw [if_neg (by omega)]; rfl))) ?_
                refine m_lv (lv' := [(0, .ref (q 0)), (1, .int (nI (tn least))), (2, .int (nI (tn most))), (4, .int (nI (12 + mK S 16 - 1))), (6, .int (nI (mN S 8 (12 + mK S 16 - 1)))), (7, .int (nI 0))]) [1, 2, 3, 4, 5, 0] rfl ?_
                exact loop_156 _ 0 (by omega) (Nat.lt_succ_self _)
              · skip
                refine m_aload_n C d_X7_repeat_124 0 rfl ?_
                refine m_bipush C d_X7_repeat_125 (v := (nI 8)) rfl ?_
                refine m_iload C d_X7_repeat_127 3 rfl ?_
                refine mn_imul C d_X7_repeat_129 ?_
                refine m_iload C d_X7_repeat_130 5 rfl ?_
                refine mn_iadd C d_X7_repeat_132 ?_
                refine m_iload C d_X7_repeat_133 4 rfl ?_
                refine mn_isub C d_X7_repeat_135 (by omega) ?_
                refine m_bipush C d_X7_repeat_136 (v := (nI 8)) rfl ?_
                refine m_iload C d_X7_repeat_138 3 rfl ?_
                refine mn_imul C d_X7_repeat_140 ?_
                refine m_iload C d_X7_repeat_141 5 rfl ?_
                refine mn_iadd C d_X7_repeat_143 ?_
                refine m_callV C d_X7_repeat_144 ok_RX7_101 (m_copiesTest (tmap (uK S 0 0) (rpG (8 * (12 + mK S 16 - 1)) (mN S 8 (12 + mK S 16 - 1)) (8 * (12 + mK S 16 - 1) + k))) (((8 * (12 + mK S 16 - 1)) + k) - (mN S 8 (12 + mK S 16 - 1))) ((8 * (12 + mK S 16 - 1)) + k) (by omega) (by omega)) rfl (rest := []) rfl rfl (Nat.le_of_ble_eq_true rfl) ⟨⟨by decide, by decide⟩, by decide, by decide⟩ (fun v9 T9 e9 => ?_)
                obtain ⟨rfl, e9⟩ := e9
                refine m_eq e9 ?_
                show VM G x q h0 (tmap (tmap (uK S 0 0) (rpG (8 * (12 + mK S 16 - 1)) (mN S 8 (12 + mK S 16 - 1)) (8 * (12 + mK S 16 - 1) + k))) (cpG (((8 * (12 + mK S 16 - 1)) + k) - (mN S 8 (12 + mK S 16 - 1))) ((8 * (12 + mK S 16 - 1)) + k))) 147 [(0, .ref (q 0)), (1, .int (nI (tn least))), (2, .int (nI (tn most))), (4, .int (nI (12 + mK S 16 - 1))), (6, .int (nI (mN S 8 (12 + mK S 16 - 1)))), (7, .int (nI k))] []
                refine mn_iinc C d_X7_repeat_147 (lv' := [(7, .int (nI (k + 1))), (0, .ref (q 0)), (1, .int (nI (tn least))), (2, .int (nI (tn most))), (4, .int (nI (12 + mK S 16 - 1))), (6, .int (nI (mN S 8 (12 + mK S 16 - 1))))]) 5 rfl (nI_inc _ rfl) (by decide) rfl ?_
                refine m_goto C d_X7_repeat_150 (tgt := 115) rfl ?_
                refine m_eq (S' := tmap (uK S 0 0) (rpG (8 * (12 + mK S 16 - 1)) (mN S 8 (12 + mK S 16 - 1)) (8 * (12 + mK S 16 - 1) + (k + 1)))) (rpG_succ _ (by omega) (by omega)) ?_
                refine m_lv (lv' := [(0, .ref (q 0)), (1, .int (nI (tn least))), (2, .int (nI (tn most))), (4, .int (nI (12 + mK S 16 - 1))), (6, .int (nI (mN S 8 (12 + mK S 16 - 1)))), (7, .int (nI (k + 1)))]) [1, 2, 3, 4, 5, 0] rfl ?_
                exact ih_115 (k + 1) (by omega) (by omega)
          refine m_eq (S' := tmap (uK S 0 0) (rpG (8 * (12 + mK S 16 - 1)) (mN S 8 (12 + mK S 16 - 1)) (8 * (12 + mK S 16 - 1) + (mN S 8 (12 + mK S 16 - 1))))) (rpG_0 _ _ _) ?_
          refine m_lv (lv' := [(0, .ref (q 0)), (1, .int (nI (tn least))), (2, .int (nI (tn most))), (4, .int (nI (12 + mK S 16 - 1))), (6, .int (nI (mN S 8 (12 + mK S 16 - 1)))), (7, .int (nI (mN S 8 (12 + mK S 16 - 1))))]) [2, 3, 4, 5, 1, 0] rfl ?_
          exact loop_115 _ (mN S 8 (12 + mK S 16 - 1)) (by omega) (Nat.lt_succ_self _)
        · skip
          have c1 := of_decide_eq_false c_97
          refine m_iconst C d_X7_repeat_100 (v := (nI 0)) rfl ?_
          refine m_st (st' := [.int (nI (rRep S least most))]) (by rw [rRep, if_neg c1]) ?_
          exact m_iret C A TY d_X7_repeat_101 rfl (⟨rfl, by rw [tRep, if_neg c1]⟩)
      refine m_aload_n C d_X7_repeat_75 1 rfl ?_
      refine m_iload_n C d_X7_repeat_76 4 rfl ?_
      refine mb_if_ne C d_X7_repeat_77 (tgt := 84) rfl (fun c_77 => ?_) (fun c_77 => ?_)
      · skip
        refine m_iload C d_X7_repeat_84 0 rfl ?_
        refine mb_if_eq C d_X7_repeat_86 (tgt := 93) rfl (fun c_86 => ?_) (fun c_86 => ?_)
        · skip
          refine m_iconst C d_X7_repeat_93 (v := (nI 2)) rfl ?_
          refine m_lv (lv' := [(0, .ref (q 0)), (1, .int least), (2, .int most), (4, .int (nI (12 + mK S 16 - 1)))]) [1, 2, 3, 5] rfl ?_
          refine m_st (st' := [.int (nI (cRep S least most)), .ref (q 0)]) (by first | (rw [cRep, if_pos c_77]; first | rw [if_pos c_86] | rw [if_neg (by rw [c_86]; decide)]) | rw [cRep, if_neg (by rw [c_77]; decide)]) ?_
          exact join_94  
        · skip
          refine m_iconst C d_X7_repeat_89 (v := (nI 0)) rfl ?_
          refine m_goto C d_X7_repeat_90 (tgt := 94) rfl ?_
          refine m_lv (lv' := [(0, .ref (q 0)), (1, .int least), (2, .int most), (4, .int (nI (12 + mK S 16 - 1)))]) [1, 2, 3, 5] rfl ?_
          refine m_st (st' := [.int (nI (cRep S least most)), .ref (q 0)]) (by first | (rw [cRep, if_pos c_77]; first | rw [if_pos c_86] | rw [if_neg (by rw [c_86]; decide)]) | rw [cRep, if_neg (by rw [c_77]; decide)]) ?_
          exact join_94  
      · skip
        refine m_iconst C d_X7_repeat_80 (v := (nI 1)) rfl ?_
        refine m_goto C d_X7_repeat_81 (tgt := 94) rfl ?_
        refine m_lv (lv' := [(0, .ref (q 0)), (1, .int least), (2, .int most), (4, .int (nI (12 + mK S 16 - 1)))]) [1, 2, 3, 5] rfl ?_
        refine m_st (st' := [.int (nI (cRep S least most)), .ref (q 0)]) (by first | (rw [cRep, if_pos c_77]; first | rw [if_pos c_86] | rw [if_neg (by rw [c_86]; decide)]) | rw [cRep, if_neg (by rw [c_77]; decide)]) ?_
        exact join_94  
    refine m_aload_n C d_X7_repeat_40 2 rfl ?_
    refine m_get C d_X7_repeat_41 fd_RX7_98 (v := .int (nI (mK S 16))) rfl ?_
    refine mn_if_le C d_X7_repeat_44 (tgt := 72) rfl (by omega) (fun c_44 => ?_) (fun c_44 => ?_)
    · skip
      refine m_iconst C d_X7_repeat_72 (v := (bI false)) rfl ?_
      refine m_lv (lv' := [(0, .ref (q 0)), (1, .int least), (2, .int most), (3, .int (bI (areR least most))), (4, .int (nI ((12 + (mK S 16)) - 1)))]) [2, 3, 4, 1, 0] rfl ?_
      refine m_lve (lv' := [(0, .ref (q 0)), (1, .int least), (2, .int most), (3, .int (bI (areR least most))), (4, .int (nI (12 + mK S 16 - 1)))]) (rfl) ?_
      refine m_st (st' := [.int (bI (canR S most))]) (by first | (rw [canR, decide_eq_true c_44, decide_eq_true (Int32.not_lt.mp c_65)]; rfl) | (rw [canR, decide_eq_true c_44, decide_eq_false (Int32.not_le.mpr c_65)]; rfl) | (rw [canR, decide_eq_false (by omega)]; rfl)) ?_
      exact join_73  
    · skip
      refine m_aload_n C d_X7_repeat_47 2 rfl ?_
      refine m_callV C d_X7_repeat_48 ok_RX7_105 (m_testsInAll S (by omega)) rfl (rest := []) rfl rfl (Nat.le_of_ble_eq_true rfl) ⟨⟨by decide, by decide⟩, by decide, by decide⟩ (fun v9 T9 e9 => ?_)
      obtain ⟨rfl, e9⟩ := e9
      refine m_eq e9 ?_
      show VM G x q h0 S 51 [(4, .int (nI ((12 + (mK S 16)) - 1))), (3, .int (bI (areR least most))), (0, .ref (q 0)), (1, .int least), (2, .int most)] [.int (nI (mTests S))]
      refine m_iload_n C d_X7_repeat_51 4 rfl ?_
      refine m_iconst C d_X7_repeat_52 (v := (nI 1)) rfl ?_
      refine m_isub C d_X7_repeat_53 ?_
      refine m_aload_n C d_X7_repeat_54 2 rfl ?_
      refine m_get C d_X7_repeat_55 fd_RX7_33 (v := .ref (q 8)) rfl ?_
      refine m_iload C d_X7_repeat_58 0 rfl ?_
      refine m_ald C d_X7_repeat_60 (k := 8) (by decide) rfl (by show _ < 21; omega) (by decide) ?_
      refine m_imul C d_X7_repeat_61 ?_
      refine m_iadd C d_X7_repeat_62 ?_
      refine m_bipush C d_X7_repeat_63 (v := (nI 8)) rfl ?_
      refine m_icmp_gt C d_X7_repeat_65 (tgt := 72) rfl (fun c_65 => ?_) (fun c_65 => ?_)
      · skip
        refine m_iconst C d_X7_repeat_72 (v := (bI false)) rfl ?_
        refine m_lv (lv' := [(0, .ref (q 0)), (1, .int least), (2, .int most), (3, .int (bI (areR least most))), (4, .int (nI ((12 + (mK S 16)) - 1)))]) [2, 3, 4, 1, 0] rfl ?_
        refine m_lve (lv' := [(0, .ref (q 0)), (1, .int least), (2, .int most), (3, .int (bI (areR least most))), (4, .int (nI (12 + mK S 16 - 1)))]) (rfl) ?_
        refine m_st (st' := [.int (bI (canR S most))]) (by first | (rw [canR, decide_eq_true c_44, decide_eq_true (Int32.not_lt.mp c_65)]; rfl) | (rw [canR, decide_eq_true c_44, decide_eq_false (Int32.not_le.mpr c_65)]; rfl) | (rw [canR, decide_eq_false (by omega)]; rfl)) ?_
        exact join_73  
      · skip
        refine m_iconst C d_X7_repeat_68 (v := (bI true)) rfl ?_
        refine m_goto C d_X7_repeat_69 (tgt := 73) rfl ?_
        refine m_lv (lv' := [(0, .ref (q 0)), (1, .int least), (2, .int most), (3, .int (bI (areR least most))), (4, .int (nI ((12 + (mK S 16)) - 1)))]) [2, 3, 4, 1, 0] rfl ?_
        refine m_lve (lv' := [(0, .ref (q 0)), (1, .int least), (2, .int most), (3, .int (bI (areR least most))), (4, .int (nI (12 + mK S 16 - 1)))]) (rfl) ?_
        refine m_st (st' := [.int (bI (canR S most))]) (by first | (rw [canR, decide_eq_true c_44, decide_eq_true (Int32.not_lt.mp c_65)]; rfl) | (rw [canR, decide_eq_true c_44, decide_eq_false (Int32.not_le.mpr c_65)]; rfl) | (rw [canR, decide_eq_false (by omega)]; rfl)) ?_
        exact join_73  
  refine m_iload_n C d_X7_repeat_0 1 rfl ?_
  refine m_iconst C d_X7_repeat_1 (v := (nI 0)) rfl ?_
  refine m_iconst C d_X7_repeat_2 (v := (nI 3)) rfl ?_
  refine m_callS C d_X7_repeat_3 ok_RX7_76 (s_isIn least ((nI 0)) ((nI 3))) (rest := []) rfl rfl (Nat.le_of_ble_eq_true rfl) ⟨⟨by decide, by decide⟩, by decide, by decide⟩ ?_
  show VM G x q h0 S 6 [(0, .ref (q 0)), (1, .int least), (2, .int most)] [.int (bI (inR least 0 3))]
  refine mb_if_eq C d_X7_repeat_6 (tgt := 27) rfl (fun c_6 => ?_) (fun c_6 => ?_)
  · skip
    refine m_iconst C d_X7_repeat_27 (v := (bI false)) rfl ?_
    refine m_st (st' := [.int (bI (areR least most))]) (by first | (rw [areR, c_6, c_15, decide_eq_true (Int32.not_lt.mp c_20)]; rfl) | (rw [areR, c_6, c_15, decide_eq_false (Int32.not_le.mpr c_20)]; rfl) | (rw [areR, c_6, c_15]; rfl) | (rw [areR, c_6]; rfl)) ?_
    exact join_28  
  · skip
    refine m_iload_n C d_X7_repeat_9 2 rfl ?_
    refine m_iconst C d_X7_repeat_10 (v := (nI 1)) rfl ?_
    refine m_iconst C d_X7_repeat_11 (v := (nI 3)) rfl ?_
    refine m_callS C d_X7_repeat_12 ok_RX7_76 (s_isIn most ((nI 1)) ((nI 3))) (rest := []) rfl rfl (Nat.le_of_ble_eq_true rfl) ⟨⟨by decide, by decide⟩, by decide, by decide⟩ ?_
    show VM G x q h0 S 15 [(0, .ref (q 0)), (1, .int least), (2, .int most)] [.int (bI (inR most 1 3))]
    refine mb_if_eq C d_X7_repeat_15 (tgt := 27) rfl (fun c_15 => ?_) (fun c_15 => ?_)
    · skip
      refine m_iconst C d_X7_repeat_27 (v := (bI false)) rfl ?_
      refine m_st (st' := [.int (bI (areR least most))]) (by first | (rw [areR, c_6, c_15, decide_eq_true (Int32.not_lt.mp c_20)]; rfl) | (rw [areR, c_6, c_15, decide_eq_false (Int32.not_le.mpr c_20)]; rfl) | (rw [areR, c_6, c_15]; rfl) | (rw [areR, c_6]; rfl)) ?_
      exact join_28  
    · skip
      refine m_iload_n C d_X7_repeat_18 2 rfl ?_
      refine m_iload_n C d_X7_repeat_19 1 rfl ?_
      refine m_icmp_lt C d_X7_repeat_20 (tgt := 27) rfl (fun c_20 => ?_) (fun c_20 => ?_)
      · skip
        refine m_iconst C d_X7_repeat_27 (v := (bI false)) rfl ?_
        refine m_st (st' := [.int (bI (areR least most))]) (by first | (rw [areR, c_6, c_15, decide_eq_true (Int32.not_lt.mp c_20)]; rfl) | (rw [areR, c_6, c_15, decide_eq_false (Int32.not_le.mpr c_20)]; rfl) | (rw [areR, c_6, c_15]; rfl) | (rw [areR, c_6]; rfl)) ?_
        exact join_28  
      · skip
        refine m_iconst C d_X7_repeat_23 (v := (bI true)) rfl ?_
        refine m_goto C d_X7_repeat_24 (tgt := 28) rfl ?_
        refine m_st (st' := [.int (bI (areR least most))]) (by first | (rw [areR, c_6, c_15, decide_eq_true (Int32.not_lt.mp c_20)]; rfl) | (rw [areR, c_6, c_15, decide_eq_false (Int32.not_le.mpr c_20)]; rfl) | (rw [areR, c_6, c_15]; rfl) | (rw [areR, c_6]; rfl)) ?_
        exact join_28  
end
section
theorem tw_680 : (Jvm.Cond.fieldLink "CorpuslineModel" (60 : Nat) "CorpuslineModel" "labels" "[I") ∈ TB := tb_of 680 (by decide +kernel) rfl
theorem fd_RX7_60 : fdOk RX7 60 6 19 := ⟨_, _, _, rfl, by decide, cw_6, tw_680, rfl⟩
def allTo (f : Nat → Bool) : Nat → Bool
  | 0 => true
  | k + 1 => allTo f k && f k
/-- a label, as the reference keeps it: none is -1 -/
def labI (x : Nat) : Int32 := nI x - nI 1
theorem labI_m1 {x : Nat} (hx : x ≤ 1000) : labI x = -1 ↔ x = 0 := by
  constructor
  · intro h
    rcases Nat.eq_zero_or_pos x with q | q
    · exact q
    · rw [labI, pk_sub q] at h
      have h1 : (nI (x - 1)).toInt = (-1 : Int32).toInt := by rw [h]
      rw [nI_toInt (by omega)] at h1
      have h2 : (-1 : Int32).toInt = -1 := rfl
      omega
  · intro h; subst h; decide
theorem labI_p {x : Nat} (hx : 0 < x) : labI x = nI (x - 1) := pk_sub hx
theorem labI_0 : labI 0 = -1 := by decide
theorem lcmp_0 {a b : Nat} (ha : a < 9223372036854775808) (hb : b < 9223372036854775808) : lg_cmp (lN a) (lN b) = 0 ↔ a = b := by
  rw [lN_cmp ha hb]
  by_cases h : a = b
  · rw [if_pos h]; exact ⟨fun _ => h, fun _ => rfl⟩
  · rw [if_neg h]
    constructor
    · intro q
      split at q
      · exact absurd q (by decide)
      · exact absurd q (by decide)
    · intro q; exact absurd q h
def tA (S : mS) (t s p k : Nat) : Bool := (decide (mI S 11 (3 * t + k) = -1) || decide (mI S 11 (3 * t + k) = nI (mVal S s p k))) && decide (mN S 12 (6 * t + 2 * k + mVal S s p k / 50) / 2 ^ (mVal S s p k % 50) % 2 = 0)
def tC (S : mS) (t s p : Nat) (lab : Nat → Nat) (k z : Nat) : Bool := !decide (mN S 14 t / 2 ^ (3 * z + k) % 2 = 1) || (!decide (lab z = 0) && decide (mVal S s (lab z - 1) k = mVal S s p k))
def tF (S : mS) (t s p : Nat) (lab : Nat → Nat) (k : Nat) : Bool := tA S t s p k && allTo (tC S t s p lab k) 3
def tMat (S : mS) (t s p : Nat) (lab : Nat → Nat) : Bool := allTo (tF S t s p lab) 3
theorem sI_sI {S : mS} {k : Nat} {f g : Nat → Int32} : sI (sI S k f) k g = sI S k g := by
  apply mS_ext
  · intro j; rfl
  · intro j z; rfl
  · intro j z; rfl
  · intro j z
    simp only [mI_sI]
    split <;> rfl
/-- a way through so many tests: the place then, and the labels; none if it can't be gone -/
def goS (M : Nat → Nat → (Nat → Nat) → Bool) (st : Nat → Nat) (way fr e : Nat) : Nat → Option (Nat × (Nat → Nat))
  | 0 => some (fr, fun _ => 0)
  | k + 1 => match goS M st way fr e k with
    | none => none
    | some (pl, lab) => if way / 2 ^ k % 2 = 1 then (if pl = e ∨ M k pl lab = false then none else some (pl + 1, fun z => if st k / 2 ^ z % 2 = 1 then pl + 1 else lab z)) else some (pl, lab)
def goA (S : mS) (pat way s fr e : Nat) (k : Nat) : Option (Nat × (Nat → Nat)) := goS (fun k pl lab => tMat S (8 * pat + k) s pl lab) (fun k => mN S 13 (8 * pat + k)) way fr e k
def goN (S : mS) (pat way s fr e : Nat) : Nat := match goA S pat way s fr e (mN S 8 pat) with
  | none => 0
  | some (pl, _) => pl - fr
def goI (S : mS) (pat way s fr e : Nat) : Int32 := match goA S pat way s fr e (mN S 8 pat) with
  | none => -1
  | some (pl, _) => nI (pl - fr)
theorem goS_mono {M : Nat → Nat → (Nat → Nat) → Bool} {st : Nat → Nat} {way fr e : Nat} {k : Nat} (h : goS M st way fr e k = none) : ∀ j, goS M st way fr e (k + j) = none
  | 0 => h
  | j + 1 => by
    show goS M st way fr e (k + j + 1) = none
    rw [goS, goS_mono h j]
theorem goS_fail {M : Nat → Nat → (Nat → Nat) → Bool} {st : Nat → Nat} {way fr e : Nat} {k m : Nat} (h : goS M st way fr e (k + 1) = none) (hk : k < m) : goS M st way fr e m = none := by
  have := goS_mono h (m - (k + 1))
  rwa [show k + 1 + (m - (k + 1)) = m by omega] at this
/-- the place behind a bound -/
def inB (S : mS) (s p bd e : Nat) : Bool := decide (bd = 0) || (if bd = 1 then decide (mN S 3 (40 * s + e) = mN S 3 (40 * s + p)) else decide (mN S 4 (40 * s + e) = mN S 4 (40 * s + p)))
def eGo (S : mS) (s p bd : Nat) : Nat → Nat → Nat
  | 0, e => e
  | f + 1, e => if e < mN S 1 s ∧ inB S s p bd e = true then eGo S s p bd f (e + 1) else e
def eOf (S : mS) (s p bd : Nat) : Nat := eGo S s p bd 41 (p + 1)
theorem eGo_le {S : mS} {s p bd : Nat} : ∀ (f e : Nat), e ≤ mN S 1 s → eGo S s p bd f e ≤ mN S 1 s
  | 0, _, h => h
  | f + 1, e, h => by
    rw [eGo]
    split
    · exact eGo_le f (e + 1) (by omega)
    · exact h
theorem eGo_ge {S : mS} {s p bd : Nat} : ∀ (f e : Nat), e ≤ eGo S s p bd f e
  | 0, _ => Nat.le_refl _
  | f + 1, e => by
    rw [eGo]
    split
    · exact Nat.le_trans (Nat.le_succ e) (eGo_ge f (e + 1))
    · exact Nat.le_refl _
def loS (W : Nat → Bool) (g : Nat → Nat) (L : Bool) : Nat → Nat
  | 0 => 0
  | w + 1 => if w ≠ 0 ∧ W w = true ∧ 0 < g w ∧ (loS W g L w = 0 ∨ (if L = true then loS W g L w < g w else g w < loS W g L w)) then g w else loS W g L w
def mLoW (S : mS) (pat s p bd : Nat) (L : Bool) (w : Nat) : Nat := loS (fun w => mB S 10 (256 * pat + w)) (fun w => goN S pat w s p (eOf S s p bd)) L w
def mLong (S : mS) (pat s p bd : Nat) (L : Bool) : Nat := mLoW S pat s p bd L (2 ^ mN S 8 pat)

def dl_X7_matches : List (Nat × Instr × Nat) := [(0, .iconst 1, 1), (1, .istore 4, 2), (3, .iconst 0, 1), (4, .istore 5, 2), (6, .iload 5, 2), (8, .iconst 3, 1), (9, .if_icmp .ge 184, 3), (12, .aload_n 0, 1), (13, .iload_n 2, 1), (14, .iload_n 3, 1), (15, .iload 5, 2), (17, .invokevirtual 94, 3), (20, .istore 6, 2), (22, .iload 4, 2), (24, .ifCond .eq 71, 3), (27, .aload_n 0, 1), (28, .getfield 42, 3), (31, .iconst 3, 1), (32, .iload_n 1, 1), (33, .imul, 1), (34, .iload 5, 2), (36, .iadd, 1), (37, .iaload, 1), (38, .iconst (-1), 1), (39, .if_icmp .eq 19, 3), (42, .aload_n 0, 1), (43, .getfield 42, 3), (46, .iconst 3, 1), (47, .iload_n 1, 1), (48, .imul, 1), (49, .iload 5, 2), (51, .iadd, 1), (52, .iaload, 1), (53, .iload 6, 2), (55, .if_icmp .ne 40, 3), (58, .aload_n 0, 1), (59, .getfield 45, 3), (62, .bipush 6, 2), (64, .iload_n 1, 1), (65, .imul, 1), (66, .iconst 2, 1), (67, .iload 5, 2), (69, .imul, 1), (70, .iadd, 1), (71, .iload 6, 2), (73, .bipush 50, 2), (75, .idiv, 1), (76, .iadd, 1), (77, .laload, 1), (78, .iload 6, 2), (80, .bipush 50, 2), (82, .irem, 1), (83, .lshr, 1), (84, .lconst 1, 1), (85, .land, 1), (86, .lconst 0, 1), (87, .lcmp, 1), (88, .ifCond .ne 7, 3), (91, .iconst 1, 1), (92, .goto 4, 3), (95, .iconst 0, 1), (96, .istore 4, 2), (98, .iconst 0, 1), (99, .istore 7, 2), (101, .iload 7, 2), (103, .iconst 3, 1), (104, .if_icmp .ge 83, 3), (107, .aload_n 0, 1), (108, .getfield 51, 3), (111, .iload_n 1, 1), (112, .iaload, 1), (113, .iconst 3, 1), (114, .iload 7, 2), (116, .imul, 1), (117, .iload 5, 2), (119, .iadd, 1), (120, .ishr, 1), (121, .iconst 1, 1), (122, .iand, 1), (123, .iconst 1, 1), (124, .if_icmp .ne 7, 3), (127, .iconst 1, 1), (128, .goto 4, 3), (131, .iconst 0, 1), (132, .istore 8, 2), (134, .iload 4, 2), (136, .ifCond .eq 42, 3), (139, .iload 8, 2), (141, .ifCond .eq 33, 3), (144, .aload_n 0, 1), (145, .getfield 60, 3), (148, .iload 7, 2), (150, .iaload, 1), (151, .iconst (-1), 1), (152, .if_icmp .eq 26, 3), (155, .aload_n 0, 1), (156, .iload_n 2, 1), (157, .aload_n 0, 1), (158, .getfield 60, 3), (161, .iload 7, 2), (163, .iaload, 1), (164, .iload 5, 2), (166, .invokevirtual 94, 3), (169, .iload 6, 2), (171, .if_icmp .ne 7, 3), (174, .iconst 1, 1), (175, .goto 4, 3), (178, .iconst 0, 1), (179, .istore 4, 2), (181, .iinc 7 1, 3), (184, .goto (-83), 3), (187, .iinc 5 1, 3), (190, .goto (-184), 3), (193, .iload 4, 2), (195, .ireturn, 1)]
theorem dc_X7_matches : dnL cX7_matches dl_X7_matches = true := by decide +kernel
theorem d_X7_matches_0 : dn cX7_matches 0 (.iconst 1) 1 1 := dnAt dc_X7_matches 0 rfl rfl
theorem d_X7_matches_1 : dn cX7_matches 1 (.istore 4) 2 3 := dnAt dc_X7_matches 1 rfl rfl
theorem d_X7_matches_3 : dn cX7_matches 3 (.iconst 0) 1 4 := dnAt dc_X7_matches 2 rfl rfl
theorem d_X7_matches_4 : dn cX7_matches 4 (.istore 5) 2 6 := dnAt dc_X7_matches 3 rfl rfl
theorem d_X7_matches_6 : dn cX7_matches 6 (.iload 5) 2 8 := dnAt dc_X7_matches 4 rfl rfl
theorem d_X7_matches_8 : dn cX7_matches 8 (.iconst 3) 1 9 := dnAt dc_X7_matches 5 rfl rfl
theorem d_X7_matches_9 : dn cX7_matches 9 (.if_icmp .ge 184) 3 12 := dnAt dc_X7_matches 6 rfl rfl
theorem d_X7_matches_12 : dn cX7_matches 12 (.aload_n 0) 1 13 := dnAt dc_X7_matches 7 rfl rfl
theorem d_X7_matches_13 : dn cX7_matches 13 (.iload_n 2) 1 14 := dnAt dc_X7_matches 8 rfl rfl
theorem d_X7_matches_14 : dn cX7_matches 14 (.iload_n 3) 1 15 := dnAt dc_X7_matches 9 rfl rfl
theorem d_X7_matches_15 : dn cX7_matches 15 (.iload 5) 2 17 := dnAt dc_X7_matches 10 rfl rfl
theorem d_X7_matches_17 : dn cX7_matches 17 (.invokevirtual 94) 3 20 := dnAt dc_X7_matches 11 rfl rfl
theorem d_X7_matches_20 : dn cX7_matches 20 (.istore 6) 2 22 := dnAt dc_X7_matches 12 rfl rfl
theorem d_X7_matches_22 : dn cX7_matches 22 (.iload 4) 2 24 := dnAt dc_X7_matches 13 rfl rfl
theorem d_X7_matches_24 : dn cX7_matches 24 (.ifCond .eq 71) 3 27 := dnAt dc_X7_matches 14 rfl rfl
theorem d_X7_matches_27 : dn cX7_matches 27 (.aload_n 0) 1 28 := dnAt dc_X7_matches 15 rfl rfl
theorem d_X7_matches_28 : dn cX7_matches 28 (.getfield 42) 3 31 := dnAt dc_X7_matches 16 rfl rfl
theorem d_X7_matches_31 : dn cX7_matches 31 (.iconst 3) 1 32 := dnAt dc_X7_matches 17 rfl rfl
theorem d_X7_matches_32 : dn cX7_matches 32 (.iload_n 1) 1 33 := dnAt dc_X7_matches 18 rfl rfl
theorem d_X7_matches_33 : dn cX7_matches 33 (.imul) 1 34 := dnAt dc_X7_matches 19 rfl rfl
theorem d_X7_matches_34 : dn cX7_matches 34 (.iload 5) 2 36 := dnAt dc_X7_matches 20 rfl rfl
theorem d_X7_matches_36 : dn cX7_matches 36 (.iadd) 1 37 := dnAt dc_X7_matches 21 rfl rfl
theorem d_X7_matches_37 : dn cX7_matches 37 (.iaload) 1 38 := dnAt dc_X7_matches 22 rfl rfl
theorem d_X7_matches_38 : dn cX7_matches 38 (.iconst (-1)) 1 39 := dnAt dc_X7_matches 23 rfl rfl
theorem d_X7_matches_39 : dn cX7_matches 39 (.if_icmp .eq 19) 3 42 := dnAt dc_X7_matches 24 rfl rfl
theorem d_X7_matches_42 : dn cX7_matches 42 (.aload_n 0) 1 43 := dnAt dc_X7_matches 25 rfl rfl
theorem d_X7_matches_43 : dn cX7_matches 43 (.getfield 42) 3 46 := dnAt dc_X7_matches 26 rfl rfl
theorem d_X7_matches_46 : dn cX7_matches 46 (.iconst 3) 1 47 := dnAt dc_X7_matches 27 rfl rfl
theorem d_X7_matches_47 : dn cX7_matches 47 (.iload_n 1) 1 48 := dnAt dc_X7_matches 28 rfl rfl
theorem d_X7_matches_48 : dn cX7_matches 48 (.imul) 1 49 := dnAt dc_X7_matches 29 rfl rfl
theorem d_X7_matches_49 : dn cX7_matches 49 (.iload 5) 2 51 := dnAt dc_X7_matches 30 rfl rfl
theorem d_X7_matches_51 : dn cX7_matches 51 (.iadd) 1 52 := dnAt dc_X7_matches 31 rfl rfl
theorem d_X7_matches_52 : dn cX7_matches 52 (.iaload) 1 53 := dnAt dc_X7_matches 32 rfl rfl
theorem d_X7_matches_53 : dn cX7_matches 53 (.iload 6) 2 55 := dnAt dc_X7_matches 33 rfl rfl
theorem d_X7_matches_55 : dn cX7_matches 55 (.if_icmp .ne 40) 3 58 := dnAt dc_X7_matches 34 rfl rfl
theorem d_X7_matches_58 : dn cX7_matches 58 (.aload_n 0) 1 59 := dnAt dc_X7_matches 35 rfl rfl
theorem d_X7_matches_59 : dn cX7_matches 59 (.getfield 45) 3 62 := dnAt dc_X7_matches 36 rfl rfl
theorem d_X7_matches_62 : dn cX7_matches 62 (.bipush 6) 2 64 := dnAt dc_X7_matches 37 rfl rfl
theorem d_X7_matches_64 : dn cX7_matches 64 (.iload_n 1) 1 65 := dnAt dc_X7_matches 38 rfl rfl
theorem d_X7_matches_65 : dn cX7_matches 65 (.imul) 1 66 := dnAt dc_X7_matches 39 rfl rfl
theorem d_X7_matches_66 : dn cX7_matches 66 (.iconst 2) 1 67 := dnAt dc_X7_matches 40 rfl rfl
theorem d_X7_matches_67 : dn cX7_matches 67 (.iload 5) 2 69 := dnAt dc_X7_matches 41 rfl rfl
theorem d_X7_matches_69 : dn cX7_matches 69 (.imul) 1 70 := dnAt dc_X7_matches 42 rfl rfl
theorem d_X7_matches_70 : dn cX7_matches 70 (.iadd) 1 71 := dnAt dc_X7_matches 43 rfl rfl
theorem d_X7_matches_71 : dn cX7_matches 71 (.iload 6) 2 73 := dnAt dc_X7_matches 44 rfl rfl
theorem d_X7_matches_73 : dn cX7_matches 73 (.bipush 50) 2 75 := dnAt dc_X7_matches 45 rfl rfl
theorem d_X7_matches_75 : dn cX7_matches 75 (.idiv) 1 76 := dnAt dc_X7_matches 46 rfl rfl
theorem d_X7_matches_76 : dn cX7_matches 76 (.iadd) 1 77 := dnAt dc_X7_matches 47 rfl rfl
theorem d_X7_matches_77 : dn cX7_matches 77 (.laload) 1 78 := dnAt dc_X7_matches 48 rfl rfl
theorem d_X7_matches_78 : dn cX7_matches 78 (.iload 6) 2 80 := dnAt dc_X7_matches 49 rfl rfl
theorem d_X7_matches_80 : dn cX7_matches 80 (.bipush 50) 2 82 := dnAt dc_X7_matches 50 rfl rfl
theorem d_X7_matches_82 : dn cX7_matches 82 (.irem) 1 83 := dnAt dc_X7_matches 51 rfl rfl
theorem d_X7_matches_83 : dn cX7_matches 83 (.lshr) 1 84 := dnAt dc_X7_matches 52 rfl rfl
theorem d_X7_matches_84 : dn cX7_matches 84 (.lconst 1) 1 85 := dnAt dc_X7_matches 53 rfl rfl
theorem d_X7_matches_85 : dn cX7_matches 85 (.land) 1 86 := dnAt dc_X7_matches 54 rfl rfl
theorem d_X7_matches_86 : dn cX7_matches 86 (.lconst 0) 1 87 := dnAt dc_X7_matches 55 rfl rfl
theorem d_X7_matches_87 : dn cX7_matches 87 (.lcmp) 1 88 := dnAt dc_X7_matches 56 rfl rfl
theorem d_X7_matches_88 : dn cX7_matches 88 (.ifCond .ne 7) 3 91 := dnAt dc_X7_matches 57 rfl rfl
theorem d_X7_matches_91 : dn cX7_matches 91 (.iconst 1) 1 92 := dnAt dc_X7_matches 58 rfl rfl
theorem d_X7_matches_92 : dn cX7_matches 92 (.goto 4) 3 95 := dnAt dc_X7_matches 59 rfl rfl
theorem d_X7_matches_95 : dn cX7_matches 95 (.iconst 0) 1 96 := dnAt dc_X7_matches 60 rfl rfl
theorem d_X7_matches_96 : dn cX7_matches 96 (.istore 4) 2 98 := dnAt dc_X7_matches 61 rfl rfl
theorem d_X7_matches_98 : dn cX7_matches 98 (.iconst 0) 1 99 := dnAt dc_X7_matches 62 rfl rfl
theorem d_X7_matches_99 : dn cX7_matches 99 (.istore 7) 2 101 := dnAt dc_X7_matches 63 rfl rfl
theorem d_X7_matches_101 : dn cX7_matches 101 (.iload 7) 2 103 := dnAt dc_X7_matches 64 rfl rfl
theorem d_X7_matches_103 : dn cX7_matches 103 (.iconst 3) 1 104 := dnAt dc_X7_matches 65 rfl rfl
theorem d_X7_matches_104 : dn cX7_matches 104 (.if_icmp .ge 83) 3 107 := dnAt dc_X7_matches 66 rfl rfl
theorem d_X7_matches_107 : dn cX7_matches 107 (.aload_n 0) 1 108 := dnAt dc_X7_matches 67 rfl rfl
theorem d_X7_matches_108 : dn cX7_matches 108 (.getfield 51) 3 111 := dnAt dc_X7_matches 68 rfl rfl
theorem d_X7_matches_111 : dn cX7_matches 111 (.iload_n 1) 1 112 := dnAt dc_X7_matches 69 rfl rfl
theorem d_X7_matches_112 : dn cX7_matches 112 (.iaload) 1 113 := dnAt dc_X7_matches 70 rfl rfl
theorem d_X7_matches_113 : dn cX7_matches 113 (.iconst 3) 1 114 := dnAt dc_X7_matches 71 rfl rfl
theorem d_X7_matches_114 : dn cX7_matches 114 (.iload 7) 2 116 := dnAt dc_X7_matches 72 rfl rfl
theorem d_X7_matches_116 : dn cX7_matches 116 (.imul) 1 117 := dnAt dc_X7_matches 73 rfl rfl
theorem d_X7_matches_117 : dn cX7_matches 117 (.iload 5) 2 119 := dnAt dc_X7_matches 74 rfl rfl
theorem d_X7_matches_119 : dn cX7_matches 119 (.iadd) 1 120 := dnAt dc_X7_matches 75 rfl rfl
theorem d_X7_matches_120 : dn cX7_matches 120 (.ishr) 1 121 := dnAt dc_X7_matches 76 rfl rfl
theorem d_X7_matches_121 : dn cX7_matches 121 (.iconst 1) 1 122 := dnAt dc_X7_matches 77 rfl rfl
theorem d_X7_matches_122 : dn cX7_matches 122 (.iand) 1 123 := dnAt dc_X7_matches 78 rfl rfl
theorem d_X7_matches_123 : dn cX7_matches 123 (.iconst 1) 1 124 := dnAt dc_X7_matches 79 rfl rfl
theorem d_X7_matches_124 : dn cX7_matches 124 (.if_icmp .ne 7) 3 127 := dnAt dc_X7_matches 80 rfl rfl
theorem d_X7_matches_127 : dn cX7_matches 127 (.iconst 1) 1 128 := dnAt dc_X7_matches 81 rfl rfl
theorem d_X7_matches_128 : dn cX7_matches 128 (.goto 4) 3 131 := dnAt dc_X7_matches 82 rfl rfl
theorem d_X7_matches_131 : dn cX7_matches 131 (.iconst 0) 1 132 := dnAt dc_X7_matches 83 rfl rfl
theorem d_X7_matches_132 : dn cX7_matches 132 (.istore 8) 2 134 := dnAt dc_X7_matches 84 rfl rfl
theorem d_X7_matches_134 : dn cX7_matches 134 (.iload 4) 2 136 := dnAt dc_X7_matches 85 rfl rfl
theorem d_X7_matches_136 : dn cX7_matches 136 (.ifCond .eq 42) 3 139 := dnAt dc_X7_matches 86 rfl rfl
theorem d_X7_matches_139 : dn cX7_matches 139 (.iload 8) 2 141 := dnAt dc_X7_matches 87 rfl rfl
theorem d_X7_matches_141 : dn cX7_matches 141 (.ifCond .eq 33) 3 144 := dnAt dc_X7_matches 88 rfl rfl
theorem d_X7_matches_144 : dn cX7_matches 144 (.aload_n 0) 1 145 := dnAt dc_X7_matches 89 rfl rfl
theorem d_X7_matches_145 : dn cX7_matches 145 (.getfield 60) 3 148 := dnAt dc_X7_matches 90 rfl rfl
theorem d_X7_matches_148 : dn cX7_matches 148 (.iload 7) 2 150 := dnAt dc_X7_matches 91 rfl rfl
theorem d_X7_matches_150 : dn cX7_matches 150 (.iaload) 1 151 := dnAt dc_X7_matches 92 rfl rfl
theorem d_X7_matches_151 : dn cX7_matches 151 (.iconst (-1)) 1 152 := dnAt dc_X7_matches 93 rfl rfl
theorem d_X7_matches_152 : dn cX7_matches 152 (.if_icmp .eq 26) 3 155 := dnAt dc_X7_matches 94 rfl rfl
theorem d_X7_matches_155 : dn cX7_matches 155 (.aload_n 0) 1 156 := dnAt dc_X7_matches 95 rfl rfl
theorem d_X7_matches_156 : dn cX7_matches 156 (.iload_n 2) 1 157 := dnAt dc_X7_matches 96 rfl rfl
theorem d_X7_matches_157 : dn cX7_matches 157 (.aload_n 0) 1 158 := dnAt dc_X7_matches 97 rfl rfl
theorem d_X7_matches_158 : dn cX7_matches 158 (.getfield 60) 3 161 := dnAt dc_X7_matches 98 rfl rfl
theorem d_X7_matches_161 : dn cX7_matches 161 (.iload 7) 2 163 := dnAt dc_X7_matches 99 rfl rfl
theorem d_X7_matches_163 : dn cX7_matches 163 (.iaload) 1 164 := dnAt dc_X7_matches 100 rfl rfl
theorem d_X7_matches_164 : dn cX7_matches 164 (.iload 5) 2 166 := dnAt dc_X7_matches 101 rfl rfl
theorem d_X7_matches_166 : dn cX7_matches 166 (.invokevirtual 94) 3 169 := dnAt dc_X7_matches 102 rfl rfl
theorem d_X7_matches_169 : dn cX7_matches 169 (.iload 6) 2 171 := dnAt dc_X7_matches 103 rfl rfl
theorem d_X7_matches_171 : dn cX7_matches 171 (.if_icmp .ne 7) 3 174 := dnAt dc_X7_matches 104 rfl rfl
theorem d_X7_matches_174 : dn cX7_matches 174 (.iconst 1) 1 175 := dnAt dc_X7_matches 105 rfl rfl
theorem d_X7_matches_175 : dn cX7_matches 175 (.goto 4) 3 178 := dnAt dc_X7_matches 106 rfl rfl
theorem d_X7_matches_178 : dn cX7_matches 178 (.iconst 0) 1 179 := dnAt dc_X7_matches 107 rfl rfl
theorem d_X7_matches_179 : dn cX7_matches 179 (.istore 4) 2 181 := dnAt dc_X7_matches 108 rfl rfl
theorem d_X7_matches_181 : dn cX7_matches 181 (.iinc 7 1) 3 184 := dnAt dc_X7_matches 109 rfl rfl
theorem d_X7_matches_184 : dn cX7_matches 184 (.goto (-83)) 3 187 := dnAt dc_X7_matches 110 rfl rfl
theorem d_X7_matches_187 : dn cX7_matches 187 (.iinc 5 1) 3 190 := dnAt dc_X7_matches 111 rfl rfl
theorem d_X7_matches_190 : dn cX7_matches 190 (.goto (-184)) 3 193 := dnAt dc_X7_matches 112 rfl rfl
theorem d_X7_matches_193 : dn cX7_matches 193 (.iload 4) 2 195 := dnAt dc_X7_matches 113 rfl rfl
theorem d_X7_matches_195 : dn cX7_matches 195 (.ireturn) 1 196 := dnAt dc_X7_matches 114 rfl rfl
set_option maxHeartbeats 4000000 in
set_option maxRecDepth 100000 in
theorem m_matches (S : mS) (f : Nat → Int32) (t s p : Nat) (lab : Nat → Nat) (I : mInv S) (ht : t < 168) (hs : s < 2) (hp : p < 40) (hl : ∀ z, z < 3 → f z = labI (lab z) ∧ lab z ≤ 40) : mC yX7_matches cX7_matches 9 (Option.some Jvm.ClassFile.FieldType.boolean) { frames := 1, cells := 0, slots := 0, locals := 23 } [.int (nI t), .int (nI s), .int (nI p)] (sI S 19 f) (fun v9 T9 => v9 = (some (.int (bI (tMat S t s p lab)))) ∧ T9 = sI S 19 f) := by
  refine mC.of (by decide) (Nat.le_of_ble_eq_true rfl) ?_
  intro G x q h0 C A TY
  show VM G x q h0 (sI S 19 f) 0 [(0, .ref (q 0)), (1, .int (nI t)), (2, .int (nI s)), (3, .int (nI p))] []
  refine m_iconst C d_X7_matches_0 (v := (bI true)) rfl ?_
  refine m_istore C d_X7_matches_1 (lv' := [(4, .int (bI true)), (0, .ref (q 0)), (1, .int (nI t)), (2, .int (nI s)), (3, .int (nI p))]) (by decide) rfl ?_
  refine m_iconst C d_X7_matches_3 (v := (nI 0)) rfl ?_
  refine m_istore C d_X7_matches_4 (lv' := [(5, .int (nI 0)), (4, .int (bI true)), (0, .ref (q 0)), (1, .int (nI t)), (2, .int (nI s)), (3, .int (nI p))]) (by decide) rfl ?_
  have loop_6 : ∀ (fuel : Nat) (k : Nat), (k ≤ 3) → (4 - k) < fuel → VM G x q h0 (sI S 19 f) 6 [(0, .ref (q 0)), (1, .int (nI t)), (2, .int (nI s)), (3, .int (nI p)), (4, .int (bI (allTo (tF S t s p lab) k))), (5, .int (nI k))] [] := by
    intro fuel
    induction fuel with
    | zero => intro k hk hf9; exact absurd hf9 (Nat.not_lt_zero _)
    | succ fuel ih_6 =>
      intro k hk hf9
      refine m_iload C d_X7_matches_6 5 rfl ?_
      refine m_iconst C d_X7_matches_8 (v := (nI 3)) rfl ?_
      refine mn_icmp_ge C d_X7_matches_9 (tgt := 193) rfl (by omega) (by omega) (fun c_9 => ?_) (fun c_9 => ?_)
      · skip
        obtain rfl : k = 3 := by omega
        refine m_iload C d_X7_matches_193 4 rfl ?_
        refine m_st (st' := [.int (bI (tMat S t s p lab))]) (rfl) ?_
        exact m_iret C A TY d_X7_matches_195 (bI_nar _) (⟨rfl, rfl⟩)
      · skip
        refine m_aload_n C d_X7_matches_12 0 rfl ?_
        refine m_iload_n C d_X7_matches_13 2 rfl ?_
        refine m_iload_n C d_X7_matches_14 3 rfl ?_
        refine m_iload C d_X7_matches_15 5 rfl ?_
        refine m_callV C d_X7_matches_17 ok_RX7_94 (m_valueOf (sI S 19 f) s p k (by omega) (by omega) (by omega)) rfl (rest := []) rfl rfl (Nat.le_of_ble_eq_true rfl) ⟨⟨by decide, by decide⟩, by decide, by decide⟩ (fun v9 T9 e9 => ?_)
        obtain ⟨rfl, e9⟩ := e9
        refine m_eq e9 ?_
        show VM G x q h0 (sI S 19 f) 20 [(0, .ref (q 0)), (1, .int (nI t)), (2, .int (nI s)), (3, .int (nI p)), (4, .int (bI (allTo (tF S t s p lab) k))), (5, .int (nI k))] [.int (nI (mVal S s p k))]
        have hv := I.2.1 (3 * (40 * s + p) + k) (by omega)
        have hv2 : mVal S s p k < 100 := hv
        refine m_istore C d_X7_matches_20 (lv' := [(6, .int (nI (mVal S s p k))), (0, .ref (q 0)), (1, .int (nI t)), (2, .int (nI s)), (3, .int (nI p)), (4, .int (bI (allTo (tF S t s p lab) k))), (5, .int (nI k))]) (by decide) rfl ?_
        have join_96 : VM G x q h0 (sI S 19 f) 96 [(0, .ref (q 0)), (1, .int (nI t)), (2, .int (nI s)), (3, .int (nI p)), (5, .int (nI k)), (6, .int (nI (mVal S s p k)))] [.int (bI (allTo (tF S t s p lab) k && tA S t s p k))] := by
          refine m_istore C d_X7_matches_96 (lv' := [(4, .int (bI (allTo (tF S t s p lab) k && tA S t s p k))), (0, .ref (q 0)), (1, .int (nI t)), (2, .int (nI s)), (3, .int (nI p)), (5, .int (nI k)), (6, .int (nI (mVal S s p k)))]) (by decide) rfl ?_
          refine m_iconst C d_X7_matches_98 (v := (nI 0)) rfl ?_
          refine m_istore C d_X7_matches_99 (lv' := [(7, .int (nI 0)), (4, .int (bI (allTo (tF S t s p lab) k && tA S t s p k))), (0, .ref (q 0)), (1, .int (nI t)), (2, .int (nI s)), (3, .int (nI p)), (5, .int (nI k)), (6, .int (nI (mVal S s p k)))]) (by decide) rfl ?_
          have loop_101 : ∀ (fuel : Nat) (z : Nat), (z ≤ 3) → (4 - z) < fuel → VM G x q h0 (sI S 19 f) 101 [(0, .ref (q 0)), (1, .int (nI t)), (2, .int (nI s)), (3, .int (nI p)), (4, .int (bI (allTo (tF S t s p lab) k && tA S t s p k && allTo (tC S t s p lab k) z))), (5, .int (nI k)), (6, .int (nI (mVal S s p k))), (7, .int (nI z))] [] := by
            intro fuel
            induction fuel with
            | zero => intro z hz hf9; exact absurd hf9 (Nat.not_lt_zero _)
            | succ fuel ih_101 =>
              intro z hz hf9
              refine m_iload C d_X7_matches_101 7 rfl ?_
              refine m_iconst C d_X7_matches_103 (v := (nI 3)) rfl ?_
              refine mn_icmp_ge C d_X7_matches_104 (tgt := 187) rfl (by omega) (by omega) (fun c_104 => ?_) (fun c_104 => ?_)
              · skip
                obtain rfl : z = 3 := by omega
                refine mn_iinc C d_X7_matches_187 (lv' := [(5, .int (nI (k + 1))), (0, .ref (q 0)), (1, .int (nI t)), (2, .int (nI s)), (3, .int (nI p)), (4, .int (bI (allTo (tF S t s p lab) k && tA S t s p k && allTo (tC S t s p lab k) 3))), (6, .int (nI (mVal S s p k))), (7, .int (nI 3))]) 5 rfl (nI_inc _ rfl) (by decide) rfl ?_
                refine m_goto C d_X7_matches_190 (tgt := 6) rfl ?_
                refine m_lv (lv' := [(0, .ref (q 0)), (1, .int (nI t)), (2, .int (nI s)), (3, .int (nI p)), (4, .int (bI (allTo (tF S t s p lab) k && tA S t s p k && allTo (tC S t s p lab k) 3))), (5, .int (nI (k + 1)))]) [1, 2, 3, 4, 5, 0] rfl ?_
                refine m_lve (lv' := [(0, .ref (q 0)), (1, .int (nI t)), (2, .int (nI s)), (3, .int (nI p)), (4, .int (bI (allTo (tF S t s p lab) (k + 1)))), (5, .int (nI (k + 1)))]) (by rw [allTo, Bool.and_assoc]; rfl) ?_
                exact ih_6 (k + 1) (by omega) (by omega)
              · skip
                have join_132 : VM G x q h0 (sI S 19 f) 132 [(0, .ref (q 0)), (1, .int (nI t)), (2, .int (nI s)), (3, .int (nI p)), (4, .int (bI (allTo (tF S t s p lab) k && tA S t s p k && allTo (tC S t s p lab k) z))), (5, .int (nI k)), (6, .int (nI (mVal S s p k))), (7, .int (nI z))] [.int (bI (decide (mN S 14 t / 2 ^ (3 * z + k) % 2 = 1)))] := by
                  refine m_istore C d_X7_matches_132 (lv' := [(8, .int (bI (decide (mN S 14 t / 2 ^ (3 * z + k) % 2 = 1)))), (0, .ref (q 0)), (1, .int (nI t)), (2, .int (nI s)), (3, .int (nI p)), (4, .int (bI (allTo (tF S t s p lab) k && tA S t s p k && allTo (tC S t s p lab k) z))), (5, .int (nI k)), (6, .int (nI (mVal S s p k))), (7, .int (nI z))]) (by decide) rfl ?_
                  have join_179 : VM G x q h0 (sI S 19 f) 179 [(0, .ref (q 0)), (1, .int (nI t)), (2, .int (nI s)), (3, .int (nI p)), (5, .int (nI k)), (6, .int (nI (mVal S s p k))), (7, .int (nI z))] [.int (bI (allTo (tF S t s p lab) k && tA S t s p k && allTo (tC S t s p lab k) (z + 1)))] := by
                    refine m_istore C d_X7_matches_179 (lv' := [(4, .int (bI (allTo (tF S t s p lab) k && tA S t s p k && allTo (tC S t s p lab k) (z + 1)))), (0, .ref (q 0)), (1, .int (nI t)), (2, .int (nI s)), (3, .int (nI p)), (5, .int (nI k)), (6, .int (nI (mVal S s p k))), (7, .int (nI z))]) (by decide) rfl ?_
                    refine mn_iinc C d_X7_matches_181 (lv' := [(7, .int (nI (z + 1))), (4, .int (bI (allTo (tF S t s p lab) k && tA S t s p k && allTo (tC S t s p lab k) (z + 1)))), (0, .ref (q 0)), (1, .int (nI t)), (2, .int (nI s)), (3, .int (nI p)), (5, .int (nI k)), (6, .int (nI (mVal S s p k)))]) 7 rfl (nI_inc _ rfl) (by decide) rfl ?_
                    refine m_goto C d_X7_matches_184 (tgt := 101) rfl ?_
                    refine m_lv (lv' := [(0, .ref (q 0)), (1, .int (nI t)), (2, .int (nI s)), (3, .int (nI p)), (4, .int (bI (allTo (tF S t s p lab) k && tA S t s p k && allTo (tC S t s p lab k) (z + 1)))), (5, .int (nI k)), (6, .int (nI (mVal S s p k))), (7, .int (nI (z + 1)))]) [2, 3, 4, 5, 1, 6, 7, 0] rfl ?_
                    exact ih_101 (z + 1) (by omega) (by omega)
                  refine m_iload C d_X7_matches_134 5 rfl ?_
                  refine mb_if_eq C d_X7_matches_136 (tgt := 178) rfl (fun c_136 => ?_) (fun c_136 => ?_)
                  · skip
                    refine m_iconst C d_X7_matches_178 (v := (bI false)) rfl ?_
                    refine m_lv (lv' := [(0, .ref (q 0)), (1, .int (nI t)), (2, .int (nI s)), (3, .int (nI p)), (5, .int (nI k)), (6, .int (nI (mVal S s p k))), (7, .int (nI z))]) [1, 2, 3, 4, 6, 7, 8] rfl ?_
                    refine m_st (st' := [.int (bI (allTo (tF S t s p lab) k && tA S t s p k && allTo (tC S t s p lab k) (z + 1)))]) (congrArg (fun z => [Value.int (bI z)]) (by rw [allTo]; revert c_136; cases allTo (tF S t s p lab) k <;> cases tA S t s p k <;> cases allTo (tC S t s p lab k) z <;> simp)) ?_
                    exact join_179  
                  · skip
                    refine m_iload C d_X7_matches_139 0 rfl ?_
                    refine mb_if_eq C d_X7_matches_141 (tgt := 174) rfl (fun c_141 => ?_) (fun c_141 => ?_)
                    · skip
                      refine m_iconst C d_X7_matches_174 (v := (bI true)) rfl ?_
                      refine m_goto C d_X7_matches_175 (tgt := 179) rfl ?_
                      refine m_lv (lv' := [(0, .ref (q 0)), (1, .int (nI t)), (2, .int (nI s)), (3, .int (nI p)), (5, .int (nI k)), (6, .int (nI (mVal S s p k))), (7, .int (nI z))]) [1, 2, 3, 4, 6, 7, 8] rfl ?_
                      refine m_st (st' := [.int (bI (allTo (tF S t s p lab) k && tA S t s p k && allTo (tC S t s p lab k) (z + 1)))]) (congrArg (fun z => [Value.int (bI z)]) (by rw [allTo, ← Bool.and_assoc, c_136, Bool.true_and, tC, c_141]; rfl)) ?_
                      exact join_179  
                    · skip
                      refine m_aload_n C d_X7_matches_144 1 rfl ?_
                      refine m_get C d_X7_matches_145 fd_RX7_60 (v := .ref (q 19)) rfl ?_
                      refine m_iload C d_X7_matches_148 8 rfl ?_
                      refine m_aldI C d_X7_matches_150 (k := 19) (by decide) rfl (by show _ < 3; omega) (by decide) ?_
                      refine m_st (st' := [.int (labI (lab z))]) (by rw [show mI (sI S 19 f) 19 z = labI (lab z) from (hl z (by omega)).1]) ?_
                      refine m_iconst C d_X7_matches_151 (v := ((-1))) rfl ?_
                      refine m_icmp_eq C d_X7_matches_152 (tgt := 178) rfl (fun c_152 => ?_) (fun c_152 => ?_)
                      · skip
                        have hz9 := (hl z (by omega)).2
                        have c9 : lab z = 0 := (labI_m1 (by omega)).mp c_152
                        refine m_iconst C d_X7_matches_178 (v := (bI false)) rfl ?_
                        refine m_lv (lv' := [(0, .ref (q 0)), (1, .int (nI t)), (2, .int (nI s)), (3, .int (nI p)), (5, .int (nI k)), (6, .int (nI (mVal S s p k))), (7, .int (nI z))]) [1, 2, 3, 4, 6, 7, 8] rfl ?_
                        refine m_st (st' := [.int (bI (allTo (tF S t s p lab) k && tA S t s p k && allTo (tC S t s p lab k) (z + 1)))]) (congrArg (fun z => [Value.int (bI z)]) (by rw [allTo, ← Bool.and_assoc, c_136, Bool.true_and, tC, c_141, decide_eq_true c9]; rfl)) ?_
                        exact join_179  
                      · skip
                        have hz9 := (hl z (by omega)).2
                        have c9 : 0 < lab z := Nat.pos_of_ne_zero fun q => c_152 ((labI_m1 (by omega)).mpr q)
                        refine m_aload_n C d_X7_matches_155 1 rfl ?_
                        refine m_iload_n C d_X7_matches_156 3 rfl ?_
                        refine m_aload_n C d_X7_matches_157 1 rfl ?_
                        refine m_get C d_X7_matches_158 fd_RX7_60 (v := .ref (q 19)) rfl ?_
                        refine m_iload C d_X7_matches_161 8 rfl ?_
                        refine m_aldI C d_X7_matches_163 (k := 19) (by decide) rfl (by show _ < 3; omega) (by decide) ?_
                        refine m_st (st' := [.int (nI (lab z - 1)), .int (nI s), .ref (q 0)]) (by rw [show mI (sI S 19 f) 19 z = labI (lab z) from (hl z (by omega)).1, labI_p c9]) ?_
                        refine m_iload C d_X7_matches_164 6 rfl ?_
                        refine m_callV C d_X7_matches_166 ok_RX7_94 (m_valueOf (sI S 19 f) s (lab z - 1) k (by omega) (by omega) (by omega)) rfl (rest := []) rfl rfl (Nat.le_of_ble_eq_true rfl) ⟨⟨by decide, by decide⟩, by decide, by decide⟩ (fun v9 T9 e9 => ?_)
                        obtain ⟨rfl, e9⟩ := e9
                        refine m_eq e9 ?_
                        show VM G x q h0 (sI S 19 f) 169 [(8, .int (bI (decide (mN S 14 t / 2 ^ (3 * z + k) % 2 = 1)))), (0, .ref (q 0)), (1, .int (nI t)), (2, .int (nI s)), (3, .int (nI p)), (4, .int (bI (allTo (tF S t s p lab) k && tA S t s p k && allTo (tC S t s p lab k) z))), (5, .int (nI k)), (6, .int (nI (mVal S s p k))), (7, .int (nI z))] [.int (nI (mVal S s (lab z - 1) k))]
                        refine m_iload C d_X7_matches_169 7 rfl ?_
                        refine mn_icmp_ne C d_X7_matches_171 (tgt := 178) rfl (by have := I.2.1 (3 * (40 * s + (lab z - 1)) + k) (by omega); unfold mVal; omega) (by omega) (fun c_171 => ?_) (fun c_171 => ?_)
                        · skip
                          refine m_iconst C d_X7_matches_178 (v := (bI false)) rfl ?_
                          refine m_lv (lv' := [(0, .ref (q 0)), (1, .int (nI t)), (2, .int (nI s)), (3, .int (nI p)), (5, .int (nI k)), (6, .int (nI (mVal S s p k))), (7, .int (nI z))]) [1, 2, 3, 4, 6, 7, 8] rfl ?_
                          refine m_st (st' := [.int (bI (allTo (tF S t s p lab) k && tA S t s p k && allTo (tC S t s p lab k) (z + 1)))]) (congrArg (fun z => [Value.int (bI z)]) (by rw [allTo, ← Bool.and_assoc, c_136, Bool.true_and, tC, c_141, decide_eq_false (by omega), decide_eq_false c_171]; rfl)) ?_
                          exact join_179  
                        · skip
                          refine m_iconst C d_X7_matches_174 (v := (bI true)) rfl ?_
                          refine m_goto C d_X7_matches_175 (tgt := 179) rfl ?_
                          refine m_lv (lv' := [(0, .ref (q 0)), (1, .int (nI t)), (2, .int (nI s)), (3, .int (nI p)), (5, .int (nI k)), (6, .int (nI (mVal S s p k))), (7, .int (nI z))]) [1, 2, 3, 4, 6, 7, 8] rfl ?_
                          refine m_st (st' := [.int (bI (allTo (tF S t s p lab) k && tA S t s p k && allTo (tC S t s p lab k) (z + 1)))]) (congrArg (fun z => [Value.int (bI z)]) (by rw [allTo, ← Bool.and_assoc, c_136, Bool.true_and, tC, c_141, decide_eq_false (by omega), decide_eq_true c_171]; rfl)) ?_
                          exact join_179  
                refine m_aload_n C d_X7_matches_107 0 rfl ?_
                refine m_get C d_X7_matches_108 fd_RX7_51 (v := .ref (q 14)) rfl ?_
                refine m_iload_n C d_X7_matches_111 1 rfl ?_
                refine m_ald C d_X7_matches_112 (k := 14) (by decide) rfl (by show _ < 168; omega) (by decide) ?_
                refine m_st (st' := [.int (nI (mN S 14 t))]) rfl ?_
                refine m_iconst C d_X7_matches_113 (v := (nI 3)) rfl ?_
                refine m_iload C d_X7_matches_114 7 rfl ?_
                refine mn_imul C d_X7_matches_116 ?_
                refine m_iload C d_X7_matches_117 5 rfl ?_
                refine mn_iadd C d_X7_matches_119 ?_
                refine mn_ishr C d_X7_matches_120 (by have := I.2.2.2.2.2.2.2.2.1 t (by omega); omega) (by omega) ?_
                refine m_iconst C d_X7_matches_121 (v := (nI 1)) rfl ?_
                refine mn_iand C d_X7_matches_122 ?_
                refine m_st (st' := [.int (nI (mN S 14 t / 2 ^ (3 * z + k) % 2))]) (by rw [and1]) ?_
                refine m_iconst C d_X7_matches_123 (v := (nI 1)) rfl ?_
                refine mn_icmp_ne C d_X7_matches_124 (tgt := 131) rfl (by omega) (by omega) (fun c_124 => ?_) (fun c_124 => ?_)
                · skip
                  refine m_iconst C d_X7_matches_131 (v := (bI false)) rfl ?_
                  refine m_st (st' := [.int (bI (decide (mN S 14 t / 2 ^ (3 * z + k) % 2 = 1)))]) (by first | rw [decide_eq_true c_124] | rw [decide_eq_false c_124]) ?_
                  exact join_132  
                · skip
                  refine m_iconst C d_X7_matches_127 (v := (bI true)) rfl ?_
                  refine m_goto C d_X7_matches_128 (tgt := 132) rfl ?_
                  refine m_st (st' := [.int (bI (decide (mN S 14 t / 2 ^ (3 * z + k) % 2 = 1)))]) (by first | rw [decide_eq_true c_124] | rw [decide_eq_false c_124]) ?_
                  exact join_132  
          refine m_lv (lv' := [(0, .ref (q 0)), (1, .int (nI t)), (2, .int (nI s)), (3, .int (nI p)), (4, .int (bI (allTo (tF S t s p lab) k && tA S t s p k))), (5, .int (nI k)), (6, .int (nI (mVal S s p k))), (7, .int (nI 0))]) [2, 3, 4, 5, 1, 6, 7, 0] rfl ?_
          refine m_lve (lv' := [(0, .ref (q 0)), (1, .int (nI t)), (2, .int (nI s)), (3, .int (nI p)), (4, .int (bI (allTo (tF S t s p lab) k && tA S t s p k && allTo (tC S t s p lab k) 0))), (5, .int (nI k)), (6, .int (nI (mVal S s p k))), (7, .int (nI 0))]) (by rw [allTo, Bool.and_true]) ?_
          exact loop_101 _ 0 (by omega) (Nat.lt_succ_self _)
        refine m_iload C d_X7_matches_22 5 rfl ?_
        refine mb_if_eq C d_X7_matches_24 (tgt := 95) rfl (fun c_24 => ?_) (fun c_24 => ?_)
        · skip
          refine m_iconst C d_X7_matches_95 (v := (bI false)) rfl ?_
          refine m_lv (lv' := [(0, .ref (q 0)), (1, .int (nI t)), (2, .int (nI s)), (3, .int (nI p)), (5, .int (nI k)), (6, .int (nI (mVal S s p k)))]) [1, 2, 3, 4, 6, 0] rfl ?_
          refine m_st (st' := [.int (bI (allTo (tF S t s p lab) k && tA S t s p k))]) (by rw [c_24]; rfl) ?_
          exact join_96  
        · skip
          refine m_aload_n C d_X7_matches_27 1 rfl ?_
          refine m_get C d_X7_matches_28 fd_RX7_42 (v := .ref (q 11)) rfl ?_
          refine m_iconst C d_X7_matches_31 (v := (nI 3)) rfl ?_
          refine m_iload_n C d_X7_matches_32 2 rfl ?_
          refine mn_imul C d_X7_matches_33 ?_
          refine m_iload C d_X7_matches_34 6 rfl ?_
          refine mn_iadd C d_X7_matches_36 ?_
          refine m_aldI C d_X7_matches_37 (k := 11) (by decide) rfl (by show _ < 504; omega) (by decide) ?_
          refine m_st (st' := [.int (mI S 11 ((3 * t) + k))]) rfl ?_
          refine m_iconst C d_X7_matches_38 (v := ((-1))) rfl ?_
          refine m_icmp_eq C d_X7_matches_39 (tgt := 58) rfl (fun c_39 => ?_) (fun c_39 => ?_)
          · skip
            refine m_aload_n C d_X7_matches_58 1 rfl ?_
            refine m_get C d_X7_matches_59 fd_RX7_45 (v := .ref (q 12)) rfl ?_
            refine m_bipush C d_X7_matches_62 (v := (nI 6)) rfl ?_
            refine m_iload_n C d_X7_matches_64 2 rfl ?_
            refine mn_imul C d_X7_matches_65 ?_
            refine m_iconst C d_X7_matches_66 (v := (nI 2)) rfl ?_
            refine m_iload C d_X7_matches_67 6 rfl ?_
            refine mn_imul C d_X7_matches_69 ?_
            refine mn_iadd C d_X7_matches_70 ?_
            refine m_iload C d_X7_matches_71 0 rfl ?_
            refine m_bipush C d_X7_matches_73 (v := (nI 50)) rfl ?_
            refine mn_idiv C d_X7_matches_75 (by omega) (by omega) (by omega) ?_
            refine mn_iadd C d_X7_matches_76 ?_
            refine m_lld C d_X7_matches_77 (k := 12) (by decide) rfl (by show _ < 1008; omega) (by decide) ?_
            refine m_st (st' := [.long (lN (mN S 12 (((6 * t) + (2 * k)) + ((mVal S s p k) / 50))))]) rfl ?_
            refine m_iload C d_X7_matches_78 0 rfl ?_
            refine m_bipush C d_X7_matches_80 (v := (nI 50)) rfl ?_
            refine mn_irem C d_X7_matches_82 (by omega) (by omega) (by omega) ?_
            refine mn_lshr C d_X7_matches_83 (by have := I.2.2.2.2.2.2.1 (6 * t + 2 * k + mVal S s p k / 50) (by omega); omega) (by omega) ?_
            refine m_lconst C d_X7_matches_84 (v := (lN 1)) rfl ?_
            refine mn_land C d_X7_matches_85 ?_
            refine m_st (st' := [.long (lN (mN S 12 (6 * t + 2 * k + mVal S s p k / 50) / 2 ^ (mVal S s p k % 50) % 2))]) (by rw [and1]) ?_
            refine m_lconst C d_X7_matches_86 (v := (lN 0)) rfl ?_
            refine mn_lcmp C d_X7_matches_87 (by omega) (by omega) ?_
            refine m_if_ne C d_X7_matches_88 (tgt := 95) rfl (fun c_88 => ?_) (fun c_88 => ?_)
            · skip
              have c9 : ¬ mN S 12 (6 * t + 2 * k + mVal S s p k / 50) / 2 ^ (mVal S s p k % 50) % 2 = 0 := fun z => c_88 ((lcmp_0 (by omega) (by omega)).mpr z)
              refine m_iconst C d_X7_matches_95 (v := (bI false)) rfl ?_
              refine m_lv (lv' := [(0, .ref (q 0)), (1, .int (nI t)), (2, .int (nI s)), (3, .int (nI p)), (5, .int (nI k)), (6, .int (nI (mVal S s p k)))]) [1, 2, 3, 4, 6, 0] rfl ?_
              refine m_st (st' := [.int (bI (allTo (tF S t s p lab) k && tA S t s p k))]) (by rw [c_24, tA, decide_eq_true c_39, decide_eq_false c9]; first | rfl | simp) ?_
              exact join_96  
            · skip
              have c9 : mN S 12 (6 * t + 2 * k + mVal S s p k / 50) / 2 ^ (mVal S s p k % 50) % 2 = 0 := (lcmp_0 (by omega) (by omega)).mp (Classical.not_not.mp c_88)
              refine m_iconst C d_X7_matches_91 (v := (bI true)) rfl ?_
              refine m_goto C d_X7_matches_92 (tgt := 96) rfl ?_
              refine m_lv (lv' := [(0, .ref (q 0)), (1, .int (nI t)), (2, .int (nI s)), (3, .int (nI p)), (5, .int (nI k)), (6, .int (nI (mVal S s p k)))]) [1, 2, 3, 4, 6, 0] rfl ?_
              refine m_st (st' := [.int (bI (allTo (tF S t s p lab) k && tA S t s p k))]) (by rw [c_24, tA, decide_eq_true c_39, decide_eq_true c9]; first | rfl | simp) ?_
              exact join_96  
          · skip
            refine m_aload_n C d_X7_matches_42 1 rfl ?_
            refine m_get C d_X7_matches_43 fd_RX7_42 (v := .ref (q 11)) rfl ?_
            refine m_iconst C d_X7_matches_46 (v := (nI 3)) rfl ?_
            refine m_iload_n C d_X7_matches_47 2 rfl ?_
            refine mn_imul C d_X7_matches_48 ?_
            refine m_iload C d_X7_matches_49 6 rfl ?_
            refine mn_iadd C d_X7_matches_51 ?_
            refine m_aldI C d_X7_matches_52 (k := 11) (by decide) rfl (by show _ < 504; omega) (by decide) ?_
            refine m_st (st' := [.int (mI S 11 ((3 * t) + k))]) rfl ?_
            refine m_iload C d_X7_matches_53 0 rfl ?_
            refine m_icmp_ne C d_X7_matches_55 (tgt := 95) rfl (fun c_55 => ?_) (fun c_55 => ?_)
            · skip
              refine m_iconst C d_X7_matches_95 (v := (bI false)) rfl ?_
              refine m_lv (lv' := [(0, .ref (q 0)), (1, .int (nI t)), (2, .int (nI s)), (3, .int (nI p)), (5, .int (nI k)), (6, .int (nI (mVal S s p k)))]) [1, 2, 3, 4, 6, 0] rfl ?_
              refine m_st (st' := [.int (bI (allTo (tF S t s p lab) k && tA S t s p k))]) (by rw [c_24, tA, decide_eq_false c_39, decide_eq_false c_55]; rfl) ?_
              exact join_96  
            · skip
              refine m_aload_n C d_X7_matches_58 1 rfl ?_
              refine m_get C d_X7_matches_59 fd_RX7_45 (v := .ref (q 12)) rfl ?_
              refine m_bipush C d_X7_matches_62 (v := (nI 6)) rfl ?_
              refine m_iload_n C d_X7_matches_64 2 rfl ?_
              refine mn_imul C d_X7_matches_65 ?_
              refine m_iconst C d_X7_matches_66 (v := (nI 2)) rfl ?_
              refine m_iload C d_X7_matches_67 6 rfl ?_
              refine mn_imul C d_X7_matches_69 ?_
              refine mn_iadd C d_X7_matches_70 ?_
              refine m_iload C d_X7_matches_71 0 rfl ?_
              refine m_bipush C d_X7_matches_73 (v := (nI 50)) rfl ?_
              refine mn_idiv C d_X7_matches_75 (by omega) (by omega) (by omega) ?_
              refine mn_iadd C d_X7_matches_76 ?_
              refine m_lld C d_X7_matches_77 (k := 12) (by decide) rfl (by show _ < 1008; omega) (by decide) ?_
              refine m_st (st' := [.long (lN (mN S 12 (((6 * t) + (2 * k)) + ((mVal S s p k) / 50))))]) rfl ?_
              refine m_iload C d_X7_matches_78 0 rfl ?_
              refine m_bipush C d_X7_matches_80 (v := (nI 50)) rfl ?_
              refine mn_irem C d_X7_matches_82 (by omega) (by omega) (by omega) ?_
              refine mn_lshr C d_X7_matches_83 (by have := I.2.2.2.2.2.2.1 (6 * t + 2 * k + mVal S s p k / 50) (by omega); omega) (by omega) ?_
              refine m_lconst C d_X7_matches_84 (v := (lN 1)) rfl ?_
              refine mn_land C d_X7_matches_85 ?_
              refine m_st (st' := [.long (lN (mN S 12 (6 * t + 2 * k + mVal S s p k / 50) / 2 ^ (mVal S s p k % 50) % 2))]) (by rw [and1]) ?_
              refine m_lconst C d_X7_matches_86 (v := (lN 0)) rfl ?_
              refine mn_lcmp C d_X7_matches_87 (by omega) (by omega) ?_
              refine m_if_ne C d_X7_matches_88 (tgt := 95) rfl (fun c_88 => ?_) (fun c_88 => ?_)
              · skip
                have c9 : ¬ mN S 12 (6 * t + 2 * k + mVal S s p k / 50) / 2 ^ (mVal S s p k % 50) % 2 = 0 := fun z => c_88 ((lcmp_0 (by omega) (by omega)).mpr z)
                refine m_iconst C d_X7_matches_95 (v := (bI false)) rfl ?_
                refine m_lv (lv' := [(0, .ref (q 0)), (1, .int (nI t)), (2, .int (nI s)), (3, .int (nI p)), (5, .int (nI k)), (6, .int (nI (mVal S s p k)))]) [1, 2, 3, 4, 6, 0] rfl ?_
                refine m_st (st' := [.int (bI (allTo (tF S t s p lab) k && tA S t s p k))]) (by rw [c_24, tA, decide_eq_false c_39, decide_eq_true (Classical.not_not.mp c_55), decide_eq_false c9]; first | rfl | simp) ?_
                exact join_96  
              · skip
                have c9 : mN S 12 (6 * t + 2 * k + mVal S s p k / 50) / 2 ^ (mVal S s p k % 50) % 2 = 0 := (lcmp_0 (by omega) (by omega)).mp (Classical.not_not.mp c_88)
                refine m_iconst C d_X7_matches_91 (v := (bI true)) rfl ?_
                refine m_goto C d_X7_matches_92 (tgt := 96) rfl ?_
                refine m_lv (lv' := [(0, .ref (q 0)), (1, .int (nI t)), (2, .int (nI s)), (3, .int (nI p)), (5, .int (nI k)), (6, .int (nI (mVal S s p k)))]) [1, 2, 3, 4, 6, 0] rfl ?_
                refine m_st (st' := [.int (bI (allTo (tF S t s p lab) k && tA S t s p k))]) (by rw [c_24, tA, decide_eq_false c_39, decide_eq_true (Classical.not_not.mp c_55), decide_eq_true c9]; first | rfl | simp) ?_
                exact join_96  
  refine m_lv (lv' := [(0, .ref (q 0)), (1, .int (nI t)), (2, .int (nI s)), (3, .int (nI p)), (4, .int (bI true)), (5, .int (nI 0))]) [2, 3, 4, 5, 1, 0] rfl ?_
  refine m_lve (lv' := [(0, .ref (q 0)), (1, .int (nI t)), (2, .int (nI s)), (3, .int (nI p)), (4, .int (bI (allTo (tF S t s p lab) 0))), (5, .int (nI 0))]) (rfl) ?_
  exact loop_6 _ 0 (by omega) (Nat.lt_succ_self _)
end
section
theorem tw_871 : (Jvm.Cond.methodLink "CorpuslineModel" (127 : Nat) ({ cls := "CorpuslineModel", name := "matches", desc := "(III)Z" } : Jvm.MethodName)) ∈ TB := tb_of 871 (by decide +kernel) rfl
theorem tw_873 : (Jvm.Cond.instanceMethod ({ cls := "CorpuslineModel", name := "matches", desc := "(III)Z" } : Jvm.MethodName)) ∈ TB := tb_of 873 (by decide +kernel) rfl
theorem tw_874 : (Jvm.Cond.code ({ cls := "CorpuslineModel", name := "matches", desc := "(III)Z" } : Jvm.MethodName) prog_9_method_32_code (9 : Nat) (Option.some Jvm.ClassFile.FieldType.boolean)) ∈ TB := tb_of 874 (by decide +kernel) rfl
theorem ts_31 : Cond.selects "CorpuslineModel" ({ cls := "CorpuslineModel", name := "matches", desc := "(III)Z" } : MethodName) ({ cls := "CorpuslineModel", name := "matches", desc := "(III)Z" } : MethodName) ∈ TB := tb_sel 31 (by decide +kernel) rfl
theorem ok_RX7_127 : okV RX7 127 yX7_matches cX7_matches 9 (Option.some Jvm.ClassFile.FieldType.boolean) 3 := ⟨tw_871, tw_873, ts_31, tw_5, tw_874, ⟨by decide, by decide, by decide +kernel⟩⟩
theorem ite_le {c : Prop} [Decidable c] {a b m : Nat} (ha : a ≤ m) (hb : b ≤ m) : (if c then a else b) ≤ m := by split <;> assumption
theorem goA_succ {S : mS} {pat way s fr e k pl : Nat} {lab : Nat → Nat} (h : goA S pat way s fr e k = some (pl, lab)) : goA S pat way s fr e (k + 1) = if way / 2 ^ k % 2 = 1 then (if pl = e ∨ tMat S (8 * pat + k) s pl lab = false then none else some (pl + 1, fun z => if mN S 13 (8 * pat + k) / 2 ^ z % 2 = 1 then pl + 1 else lab z)) else some (pl, lab) := by
  unfold goA at h ⊢
  rw [goS, h]
theorem goA_fail {S : mS} {pat way s fr e k m : Nat} (h : goA S pat way s fr e (k + 1) = none) (hk : k < m) : goA S pat way s fr e m = none := goS_fail h hk
theorem goI_none {S : mS} {pat way s fr e k : Nat} (h : goA S pat way s fr e (k + 1) = none) (hk : k < mN S 8 pat) : goI S pat way s fr e = -1 := by
  unfold goI; rw [goA_fail h hk]
theorem goI_some {S : mS} {pat way s fr e pl : Nat} {lab : Nat → Nat} (h : goA S pat way s fr e (mN S 8 pat) = some (pl, lab)) : goI S pat way s fr e = nI (pl - fr) := by
  unfold goI; rw [h]
theorem goS_le {M : Nat → Nat → (Nat → Nat) → Bool} {st : Nat → Nat} {way fr e : Nat} : ∀ {k pl : Nat} {lab : Nat → Nat}, goS M st way fr e k = some (pl, lab) → fr ≤ pl ∧ pl ≤ fr + k
  | 0, pl, lab, h => by
    rw [goS] at h
    cases h
    exact ⟨Nat.le_refl _, Nat.le_refl _⟩
  | k + 1, pl, lab, h => by
    rw [goS] at h
    split at h
    · cases h
    · rename_i pl' lab' h'
      have := goS_le h'
      split at h
      · split at h
        · cases h
        · cases h; omega
      · cases h; omega
theorem goN_le {S : mS} {pat way s fr e : Nat} : goN S pat way s fr e ≤ mN S 8 pat := by
  unfold goN
  split
  · omega
  · rename_i pl lab h
    have := goS_le h
    omega
theorem goI_pos {S : mS} {pat way s fr e : Nat} (hn : mN S 8 pat ≤ 8) (h : ¬ goI S pat way s fr e ≤ 0) : goI S pat way s fr e = nI (goN S pat way s fr e) ∧ 0 < goN S pat way s fr e := by
  have h1 := goN_le (S := S) (pat := pat) (way := way) (s := s) (fr := fr) (e := e)
  have h2 : goI S pat way s fr e = nI (goN S pat way s fr e) := by
    revert h
    unfold goI goN
    split
    · intro h; exact absurd (by decide) h
    · intro _; rfl
  refine ⟨h2, ?_⟩
  rw [h2] at h
  rcases Nat.eq_zero_or_pos (goN S pat way s fr e) with q | q
  · rw [q] at h; exact absurd (by decide) h
  · exact q
theorem goI_npos {S : mS} {pat way s fr e : Nat} (hn : mN S 8 pat ≤ 8) (h : goI S pat way s fr e ≤ 0) : goN S pat way s fr e = 0 := by
  have h1 := goN_le (S := S) (pat := pat) (way := way) (s := s) (fr := fr) (e := e)
  revert h h1
  unfold goI goN
  split
  · intro _ _; rfl
  · rename_i pl lab _
    intro h h1
    have h1' : pl - fr ≤ mN S 8 pat := h1
    have h2 := (nI_leI (a := pl - fr) (b := 0) (by omega) (by decide)).mp h
    exact Nat.le_zero.mp h2
def gI (S : mS) (pat s p e w : Nat) : Int32 := if mB S 10 (256 * pat + w) = true then goI S pat w s p e else -1
theorem mLoW_succ (S : mS) (pat s p bd : Nat) (L : Bool) (w : Nat) : mLoW S pat s p bd L (w + 1) = if w ≠ 0 ∧ mB S 10 (256 * pat + w) = true ∧ 0 < goN S pat w s p (eOf S s p bd) ∧ (mLoW S pat s p bd L w = 0 ∨ (if L = true then mLoW S pat s p bd L w < goN S pat w s p (eOf S s p bd) else goN S pat w s p (eOf S s p bd) < mLoW S pat s p bd L w)) then goN S pat w s p (eOf S s p bd) else mLoW S pat s p bd L w := rfl
theorem mLoW_le {S : mS} {pat s p bd : Nat} {L : Bool} : ∀ w, mLoW S pat s p bd L w ≤ mN S 8 pat
  | 0 => Nat.zero_le _
  | w + 1 => by
    rw [mLoW_succ]
    exact ite_le goN_le (mLoW_le w)
theorem gI_no {S : mS} {pat s p e w : Nat} (hn : mN S 8 pat ≤ 8) (h : gI S pat s p e w ≤ 0) : ¬ (mB S 10 (256 * pat + w) = true ∧ 0 < goN S pat w s p e) := by
  intro ⟨h1, h2⟩
  rw [gI, if_pos h1] at h
  have := goI_npos hn h
  omega
theorem gI_yes {S : mS} {pat s p e w : Nat} (hn : mN S 8 pat ≤ 8) (h : ¬ gI S pat s p e w ≤ 0) : mB S 10 (256 * pat + w) = true ∧ 0 < goN S pat w s p e ∧ gI S pat s p e w = nI (goN S pat w s p e) := by
  unfold gI at h ⊢
  split at h
  · rename_i c
    obtain ⟨h1, h2⟩ := goI_pos hn h
    exact ⟨c, h2, by rw [if_pos c]; exact h1⟩
  · exact absurd (by decide) h

def dl_X7_goes : List (Nat × Instr × Nat) := [(0, .iload 4, 2), (2, .istore 6, 2), (4, .iconst 0, 1), (5, .istore 7, 2), (7, .iload 7, 2), (9, .iconst 3, 1), (10, .if_icmp .ge 17, 3), (13, .aload_n 0, 1), (14, .getfield 60, 3), (17, .iload 7, 2), (19, .iconst (-1), 1), (20, .iastore, 1), (21, .iinc 7 1, 3), (24, .goto (-17), 3), (27, .iconst 0, 1), (28, .istore 7, 2), (30, .iload 7, 2), (32, .aload_n 0, 1), (33, .getfield 33, 3), (36, .iload_n 1, 1), (37, .iaload, 1), (38, .if_icmp .ge 102, 3), (41, .iload_n 2, 1), (42, .iload 7, 2), (44, .ishr, 1), (45, .iconst 1, 1), (46, .iand, 1), (47, .iconst 1, 1), (48, .if_icmp .ne 86, 3), (51, .bipush 8, 2), (53, .iload_n 1, 1), (54, .imul, 1), (55, .iload 7, 2), (57, .iadd, 1), (58, .istore 8, 2), (60, .iload 6, 2), (62, .iload 5, 2), (64, .if_icmp .eq 15, 3), (67, .aload_n 0, 1), (68, .iload 8, 2), (70, .iload_n 3, 1), (71, .iload 6, 2), (73, .invokevirtual 127, 3), (76, .ifCond .ne 5, 3), (79, .iconst (-1), 1), (80, .ireturn, 1), (81, .iconst 0, 1), (82, .istore 9, 2), (84, .iload 9, 2), (86, .iconst 3, 1), (87, .if_icmp .ge 44, 3), (90, .aload_n 0, 1), (91, .getfield 60, 3), (94, .iload 9, 2), (96, .aload_n 0, 1), (97, .getfield 48, 3), (100, .iload 8, 2), (102, .iaload, 1), (103, .iload 9, 2), (105, .ishr, 1), (106, .iconst 1, 1), (107, .iand, 1), (108, .iconst 1, 1), (109, .if_icmp .ne 8, 3), (112, .iload 6, 2), (114, .goto 10, 3), (117, .aload_n 0, 1), (118, .getfield 60, 3), (121, .iload 9, 2), (123, .iaload, 1), (124, .iastore, 1), (125, .iinc 9 1, 3), (128, .goto (-44), 3), (131, .iinc 6 1, 3), (134, .iinc 7 1, 3), (137, .goto (-107), 3), (140, .iload 6, 2), (142, .iload 4, 2), (144, .isub, 1), (145, .ireturn, 1)]
theorem dc_X7_goes : dnL cX7_goes dl_X7_goes = true := by decide +kernel
theorem d_X7_goes_0 : dn cX7_goes 0 (.iload 4) 2 2 := dnAt dc_X7_goes 0 rfl rfl
theorem d_X7_goes_2 : dn cX7_goes 2 (.istore 6) 2 4 := dnAt dc_X7_goes 1 rfl rfl
theorem d_X7_goes_4 : dn cX7_goes 4 (.iconst 0) 1 5 := dnAt dc_X7_goes 2 rfl rfl
theorem d_X7_goes_5 : dn cX7_goes 5 (.istore 7) 2 7 := dnAt dc_X7_goes 3 rfl rfl
theorem d_X7_goes_7 : dn cX7_goes 7 (.iload 7) 2 9 := dnAt dc_X7_goes 4 rfl rfl
theorem d_X7_goes_9 : dn cX7_goes 9 (.iconst 3) 1 10 := dnAt dc_X7_goes 5 rfl rfl
theorem d_X7_goes_10 : dn cX7_goes 10 (.if_icmp .ge 17) 3 13 := dnAt dc_X7_goes 6 rfl rfl
theorem d_X7_goes_13 : dn cX7_goes 13 (.aload_n 0) 1 14 := dnAt dc_X7_goes 7 rfl rfl
theorem d_X7_goes_14 : dn cX7_goes 14 (.getfield 60) 3 17 := dnAt dc_X7_goes 8 rfl rfl
theorem d_X7_goes_17 : dn cX7_goes 17 (.iload 7) 2 19 := dnAt dc_X7_goes 9 rfl rfl
theorem d_X7_goes_19 : dn cX7_goes 19 (.iconst (-1)) 1 20 := dnAt dc_X7_goes 10 rfl rfl
theorem d_X7_goes_20 : dn cX7_goes 20 (.iastore) 1 21 := dnAt dc_X7_goes 11 rfl rfl
theorem d_X7_goes_21 : dn cX7_goes 21 (.iinc 7 1) 3 24 := dnAt dc_X7_goes 12 rfl rfl
theorem d_X7_goes_24 : dn cX7_goes 24 (.goto (-17)) 3 27 := dnAt dc_X7_goes 13 rfl rfl
theorem d_X7_goes_27 : dn cX7_goes 27 (.iconst 0) 1 28 := dnAt dc_X7_goes 14 rfl rfl
theorem d_X7_goes_28 : dn cX7_goes 28 (.istore 7) 2 30 := dnAt dc_X7_goes 15 rfl rfl
theorem d_X7_goes_30 : dn cX7_goes 30 (.iload 7) 2 32 := dnAt dc_X7_goes 16 rfl rfl
theorem d_X7_goes_32 : dn cX7_goes 32 (.aload_n 0) 1 33 := dnAt dc_X7_goes 17 rfl rfl
theorem d_X7_goes_33 : dn cX7_goes 33 (.getfield 33) 3 36 := dnAt dc_X7_goes 18 rfl rfl
theorem d_X7_goes_36 : dn cX7_goes 36 (.iload_n 1) 1 37 := dnAt dc_X7_goes 19 rfl rfl
theorem d_X7_goes_37 : dn cX7_goes 37 (.iaload) 1 38 := dnAt dc_X7_goes 20 rfl rfl
theorem d_X7_goes_38 : dn cX7_goes 38 (.if_icmp .ge 102) 3 41 := dnAt dc_X7_goes 21 rfl rfl
theorem d_X7_goes_41 : dn cX7_goes 41 (.iload_n 2) 1 42 := dnAt dc_X7_goes 22 rfl rfl
theorem d_X7_goes_42 : dn cX7_goes 42 (.iload 7) 2 44 := dnAt dc_X7_goes 23 rfl rfl
theorem d_X7_goes_44 : dn cX7_goes 44 (.ishr) 1 45 := dnAt dc_X7_goes 24 rfl rfl
theorem d_X7_goes_45 : dn cX7_goes 45 (.iconst 1) 1 46 := dnAt dc_X7_goes 25 rfl rfl
theorem d_X7_goes_46 : dn cX7_goes 46 (.iand) 1 47 := dnAt dc_X7_goes 26 rfl rfl
theorem d_X7_goes_47 : dn cX7_goes 47 (.iconst 1) 1 48 := dnAt dc_X7_goes 27 rfl rfl
theorem d_X7_goes_48 : dn cX7_goes 48 (.if_icmp .ne 86) 3 51 := dnAt dc_X7_goes 28 rfl rfl
theorem d_X7_goes_51 : dn cX7_goes 51 (.bipush 8) 2 53 := dnAt dc_X7_goes 29 rfl rfl
theorem d_X7_goes_53 : dn cX7_goes 53 (.iload_n 1) 1 54 := dnAt dc_X7_goes 30 rfl rfl
theorem d_X7_goes_54 : dn cX7_goes 54 (.imul) 1 55 := dnAt dc_X7_goes 31 rfl rfl
theorem d_X7_goes_55 : dn cX7_goes 55 (.iload 7) 2 57 := dnAt dc_X7_goes 32 rfl rfl
theorem d_X7_goes_57 : dn cX7_goes 57 (.iadd) 1 58 := dnAt dc_X7_goes 33 rfl rfl
theorem d_X7_goes_58 : dn cX7_goes 58 (.istore 8) 2 60 := dnAt dc_X7_goes 34 rfl rfl
theorem d_X7_goes_60 : dn cX7_goes 60 (.iload 6) 2 62 := dnAt dc_X7_goes 35 rfl rfl
theorem d_X7_goes_62 : dn cX7_goes 62 (.iload 5) 2 64 := dnAt dc_X7_goes 36 rfl rfl
theorem d_X7_goes_64 : dn cX7_goes 64 (.if_icmp .eq 15) 3 67 := dnAt dc_X7_goes 37 rfl rfl
theorem d_X7_goes_67 : dn cX7_goes 67 (.aload_n 0) 1 68 := dnAt dc_X7_goes 38 rfl rfl
theorem d_X7_goes_68 : dn cX7_goes 68 (.iload 8) 2 70 := dnAt dc_X7_goes 39 rfl rfl
theorem d_X7_goes_70 : dn cX7_goes 70 (.iload_n 3) 1 71 := dnAt dc_X7_goes 40 rfl rfl
theorem d_X7_goes_71 : dn cX7_goes 71 (.iload 6) 2 73 := dnAt dc_X7_goes 41 rfl rfl
theorem d_X7_goes_73 : dn cX7_goes 73 (.invokevirtual 127) 3 76 := dnAt dc_X7_goes 42 rfl rfl
theorem d_X7_goes_76 : dn cX7_goes 76 (.ifCond .ne 5) 3 79 := dnAt dc_X7_goes 43 rfl rfl
theorem d_X7_goes_79 : dn cX7_goes 79 (.iconst (-1)) 1 80 := dnAt dc_X7_goes 44 rfl rfl
theorem d_X7_goes_80 : dn cX7_goes 80 (.ireturn) 1 81 := dnAt dc_X7_goes 45 rfl rfl
theorem d_X7_goes_81 : dn cX7_goes 81 (.iconst 0) 1 82 := dnAt dc_X7_goes 46 rfl rfl
theorem d_X7_goes_82 : dn cX7_goes 82 (.istore 9) 2 84 := dnAt dc_X7_goes 47 rfl rfl
theorem d_X7_goes_84 : dn cX7_goes 84 (.iload 9) 2 86 := dnAt dc_X7_goes 48 rfl rfl
theorem d_X7_goes_86 : dn cX7_goes 86 (.iconst 3) 1 87 := dnAt dc_X7_goes 49 rfl rfl
theorem d_X7_goes_87 : dn cX7_goes 87 (.if_icmp .ge 44) 3 90 := dnAt dc_X7_goes 50 rfl rfl
theorem d_X7_goes_90 : dn cX7_goes 90 (.aload_n 0) 1 91 := dnAt dc_X7_goes 51 rfl rfl
theorem d_X7_goes_91 : dn cX7_goes 91 (.getfield 60) 3 94 := dnAt dc_X7_goes 52 rfl rfl
theorem d_X7_goes_94 : dn cX7_goes 94 (.iload 9) 2 96 := dnAt dc_X7_goes 53 rfl rfl
theorem d_X7_goes_96 : dn cX7_goes 96 (.aload_n 0) 1 97 := dnAt dc_X7_goes 54 rfl rfl
theorem d_X7_goes_97 : dn cX7_goes 97 (.getfield 48) 3 100 := dnAt dc_X7_goes 55 rfl rfl
theorem d_X7_goes_100 : dn cX7_goes 100 (.iload 8) 2 102 := dnAt dc_X7_goes 56 rfl rfl
theorem d_X7_goes_102 : dn cX7_goes 102 (.iaload) 1 103 := dnAt dc_X7_goes 57 rfl rfl
theorem d_X7_goes_103 : dn cX7_goes 103 (.iload 9) 2 105 := dnAt dc_X7_goes 58 rfl rfl
theorem d_X7_goes_105 : dn cX7_goes 105 (.ishr) 1 106 := dnAt dc_X7_goes 59 rfl rfl
theorem d_X7_goes_106 : dn cX7_goes 106 (.iconst 1) 1 107 := dnAt dc_X7_goes 60 rfl rfl
theorem d_X7_goes_107 : dn cX7_goes 107 (.iand) 1 108 := dnAt dc_X7_goes 61 rfl rfl
theorem d_X7_goes_108 : dn cX7_goes 108 (.iconst 1) 1 109 := dnAt dc_X7_goes 62 rfl rfl
theorem d_X7_goes_109 : dn cX7_goes 109 (.if_icmp .ne 8) 3 112 := dnAt dc_X7_goes 63 rfl rfl
theorem d_X7_goes_112 : dn cX7_goes 112 (.iload 6) 2 114 := dnAt dc_X7_goes 64 rfl rfl
theorem d_X7_goes_114 : dn cX7_goes 114 (.goto 10) 3 117 := dnAt dc_X7_goes 65 rfl rfl
theorem d_X7_goes_117 : dn cX7_goes 117 (.aload_n 0) 1 118 := dnAt dc_X7_goes 66 rfl rfl
theorem d_X7_goes_118 : dn cX7_goes 118 (.getfield 60) 3 121 := dnAt dc_X7_goes 67 rfl rfl
theorem d_X7_goes_121 : dn cX7_goes 121 (.iload 9) 2 123 := dnAt dc_X7_goes 68 rfl rfl
theorem d_X7_goes_123 : dn cX7_goes 123 (.iaload) 1 124 := dnAt dc_X7_goes 69 rfl rfl
theorem d_X7_goes_124 : dn cX7_goes 124 (.iastore) 1 125 := dnAt dc_X7_goes 70 rfl rfl
theorem d_X7_goes_125 : dn cX7_goes 125 (.iinc 9 1) 3 128 := dnAt dc_X7_goes 71 rfl rfl
theorem d_X7_goes_128 : dn cX7_goes 128 (.goto (-44)) 3 131 := dnAt dc_X7_goes 72 rfl rfl
theorem d_X7_goes_131 : dn cX7_goes 131 (.iinc 6 1) 3 134 := dnAt dc_X7_goes 73 rfl rfl
theorem d_X7_goes_134 : dn cX7_goes 134 (.iinc 7 1) 3 137 := dnAt dc_X7_goes 74 rfl rfl
theorem d_X7_goes_137 : dn cX7_goes 137 (.goto (-107)) 3 140 := dnAt dc_X7_goes 75 rfl rfl
theorem d_X7_goes_140 : dn cX7_goes 140 (.iload 6) 2 142 := dnAt dc_X7_goes 76 rfl rfl
theorem d_X7_goes_142 : dn cX7_goes 142 (.iload 4) 2 144 := dnAt dc_X7_goes 77 rfl rfl
theorem d_X7_goes_144 : dn cX7_goes 144 (.isub) 1 145 := dnAt dc_X7_goes 78 rfl rfl
theorem d_X7_goes_145 : dn cX7_goes 145 (.ireturn) 1 146 := dnAt dc_X7_goes 79 rfl rfl
set_option maxHeartbeats 4000000 in
set_option maxRecDepth 100000 in
theorem m_goes (S : mS) (f : Nat → Int32) (pat way s fr e : Nat) (I : mInv S) (ht : pat < 21) (hw : way < 2147483648) (hs : s < 2) (hp : fr ≤ e) (he : e ≤ 40) : mC yX7_goes cX7_goes 10 (Option.some Jvm.ClassFile.FieldType.int) { frames := 2, cells := 0, slots := 0, locals := 51 } [.int (nI pat), .int (nI way), .int (nI s), .int (nI fr), .int (nI e)] (sI S 19 f) (fun v9 T9 => v9 = some (.int (goI S pat way s fr e)) ∧ ∃ f9, T9 = sI S 19 f9) := by
  refine mC.of (by decide) (Nat.le_of_ble_eq_true rfl) ?_
  intro G x q h0 C A TY
  show VM G x q h0 (sI S 19 f) 0 [(0, .ref (q 0)), (1, .int (nI pat)), (2, .int (nI way)), (3, .int (nI s)), (4, .int (nI fr)), (5, .int (nI e))] []
  have hn8 := I.2.2.2.2.2.1 pat ht
  refine m_iload C d_X7_goes_0 4 rfl ?_
  refine m_istore C d_X7_goes_2 (lv' := [(6, .int (nI fr)), (0, .ref (q 0)), (1, .int (nI pat)), (2, .int (nI way)), (3, .int (nI s)), (4, .int (nI fr)), (5, .int (nI e))]) (by decide) rfl ?_
  refine m_iconst C d_X7_goes_4 (v := (nI 0)) rfl ?_
  refine m_istore C d_X7_goes_5 (lv' := [(7, .int (nI 0)), (6, .int (nI fr)), (0, .ref (q 0)), (1, .int (nI pat)), (2, .int (nI way)), (3, .int (nI s)), (4, .int (nI fr)), (5, .int (nI e))]) (by decide) rfl ?_
  have loop_7 : ∀ (fuel : Nat) (k : Nat) (g : Nat → Int32), (k ≤ 3) → (∀ z, z < k → g z = -1) → (4 - k) < fuel → VM G x q h0 (sI S 19 g) 7 [(0, .ref (q 0)), (1, .int (nI pat)), (2, .int (nI way)), (3, .int (nI s)), (4, .int (nI fr)), (5, .int (nI e)), (6, .int (nI fr)), (7, .int (nI k))] [] := by
    intro fuel
    induction fuel with
    | zero => intro k g hk hg0 hf9; exact absurd hf9 (Nat.not_lt_zero _)
    | succ fuel ih_7 =>
      intro k g hk hg0 hf9
      refine m_iload C d_X7_goes_7 7 rfl ?_
      refine m_iconst C d_X7_goes_9 (v := (nI 3)) rfl ?_
      refine mn_icmp_ge C d_X7_goes_10 (tgt := 27) rfl (by omega) (by omega) (fun c_10 => ?_) (fun c_10 => ?_)
      · skip
        refine m_iconst C d_X7_goes_27 (v := (nI 0)) rfl ?_
        refine m_istore C d_X7_goes_28 (lv' := [(7, .int (nI 0)), (0, .ref (q 0)), (1, .int (nI pat)), (2, .int (nI way)), (3, .int (nI s)), (4, .int (nI fr)), (5, .int (nI e)), (6, .int (nI fr))]) (by decide) rfl ?_
        have loop_30 : ∀ (fuel : Nat) (k : Nat) (pl : Nat) (lab : Nat → Nat) (g : Nat → Int32), (k ≤ mN S 8 pat) → (goA S pat way s fr e k = some (pl, lab)) → (fr ≤ pl ∧ pl ≤ e) → (∀ z, z < 3 → g z = labI (lab z) ∧ lab z ≤ 40) → (9 - k) < fuel → VM G x q h0 (sI S 19 g) 30 [(0, .ref (q 0)), (1, .int (nI pat)), (2, .int (nI way)), (3, .int (nI s)), (4, .int (nI fr)), (5, .int (nI e)), (6, .int (nI pl)), (7, .int (nI k))] [] := by
          intro fuel
          induction fuel with
          | zero => intro k pl lab g hk2 hg hpl hgl hf9; exact absurd hf9 (Nat.not_lt_zero _)
          | succ fuel ih_30 =>
            intro k pl lab g hk2 hg hpl hgl hf9
            refine m_iload C d_X7_goes_30 7 rfl ?_
            refine m_aload_n C d_X7_goes_32 0 rfl ?_
            refine m_get C d_X7_goes_33 fd_RX7_33 (v := .ref (q 8)) rfl ?_
            refine m_iload_n C d_X7_goes_36 1 rfl ?_
            refine m_ald C d_X7_goes_37 (k := 8) (by decide) rfl (by show _ < 21; omega) (by decide) ?_
            refine m_st (st' := [.int (nI (mN S 8 pat)), .int (nI k)]) rfl ?_
            refine mn_icmp_ge C d_X7_goes_38 (tgt := 140) rfl (by omega) (by omega) (fun c_38 => ?_) (fun c_38 => ?_)
            · skip
              obtain rfl : k = mN S 8 pat := by omega
              refine m_iload C d_X7_goes_140 6 rfl ?_
              refine m_iload C d_X7_goes_142 4 rfl ?_
              refine mn_isub C d_X7_goes_144 (by omega) ?_
              exact m_iret C A TY d_X7_goes_145 rfl (⟨congrArg (fun z => some (Value.int z)) (goI_some hg).symm, _, rfl⟩)
            · skip
              refine m_iload_n C d_X7_goes_41 2 rfl ?_
              refine m_iload C d_X7_goes_42 7 rfl ?_
              refine mn_ishr C d_X7_goes_44 (by omega) (by omega) ?_
              refine m_iconst C d_X7_goes_45 (v := (nI 1)) rfl ?_
              refine mn_iand C d_X7_goes_46 ?_
              refine m_st (st' := [.int (nI (way / 2 ^ k % 2))]) (by rw [and1]) ?_
              refine m_iconst C d_X7_goes_47 (v := (nI 1)) rfl ?_
              refine mn_icmp_ne C d_X7_goes_48 (tgt := 134) rfl (by omega) (by omega) (fun c_48 => ?_) (fun c_48 => ?_)
              · skip
                refine mn_iinc C d_X7_goes_134 (lv' := [(7, .int (nI (k + 1))), (0, .ref (q 0)), (1, .int (nI pat)), (2, .int (nI way)), (3, .int (nI s)), (4, .int (nI fr)), (5, .int (nI e)), (6, .int (nI pl))]) 7 rfl (nI_inc _ rfl) (by decide) rfl ?_
                refine m_goto C d_X7_goes_137 (tgt := 30) rfl ?_
                refine m_lv (lv' := [(0, .ref (q 0)), (1, .int (nI pat)), (2, .int (nI way)), (3, .int (nI s)), (4, .int (nI fr)), (5, .int (nI e)), (6, .int (nI pl)), (7, .int (nI (k + 1)))]) [1, 2, 3, 4, 5, 6, 7, 0] rfl ?_
                exact ih_30 (k + 1) pl lab g (by omega) (by rw [goA_succ hg, if_neg c_48]) (by omega) (hgl) (by omega)
              · skip
                refine m_bipush C d_X7_goes_51 (v := (nI 8)) rfl ?_
                refine m_iload_n C d_X7_goes_53 1 rfl ?_
                refine mn_imul C d_X7_goes_54 ?_
                refine m_iload C d_X7_goes_55 7 rfl ?_
                refine mn_iadd C d_X7_goes_57 ?_
                refine m_istore C d_X7_goes_58 (lv' := [(8, .int (nI ((8 * pat) + k))), (0, .ref (q 0)), (1, .int (nI pat)), (2, .int (nI way)), (3, .int (nI s)), (4, .int (nI fr)), (5, .int (nI e)), (6, .int (nI pl)), (7, .int (nI k))]) (by decide) rfl ?_
                refine m_iload C d_X7_goes_60 7 rfl ?_
                refine m_iload C d_X7_goes_62 6 rfl ?_
                refine mn_icmp_eq C d_X7_goes_64 (tgt := 79) rfl (by omega) (by omega) (fun c_64 => ?_) (fun c_64 => ?_)
                · skip
                  refine m_iconst C d_X7_goes_79 (v := ((-1))) rfl ?_
                  exact m_iret C A TY d_X7_goes_80 rfl (⟨congrArg (fun z => some (Value.int z)) (goI_none (k := k) (by rw [goA_succ hg, if_pos c_48, if_pos (Or.inl c_64)]) (by omega)).symm, _, rfl⟩)
                · skip
                  refine m_aload_n C d_X7_goes_67 1 rfl ?_
                  refine m_iload C d_X7_goes_68 0 rfl ?_
                  refine m_iload_n C d_X7_goes_70 4 rfl ?_
                  refine m_iload C d_X7_goes_71 7 rfl ?_
                  refine m_callV C d_X7_goes_73 ok_RX7_127 (m_matches S g (8 * pat + k) s pl lab I (by omega) hs (by omega) hgl) rfl (rest := []) rfl rfl (Nat.le_of_ble_eq_true rfl) ⟨⟨by decide, by decide⟩, by decide, by decide⟩ (fun v9 T9 e9 => ?_)
                  obtain ⟨rfl, e9⟩ := e9
                  refine m_eq e9 ?_
                  show VM G x q h0 (sI S 19 g) 76 [(8, .int (nI ((8 * pat) + k))), (0, .ref (q 0)), (1, .int (nI pat)), (2, .int (nI way)), (3, .int (nI s)), (4, .int (nI fr)), (5, .int (nI e)), (6, .int (nI pl)), (7, .int (nI k))] [.int (bI (tMat S (8 * pat + k) s pl lab))]
                  refine mb_if_ne C d_X7_goes_76 (tgt := 81) rfl (fun c_76 => ?_) (fun c_76 => ?_)
                  · skip
                    refine m_iconst C d_X7_goes_81 (v := (nI 0)) rfl ?_
                    refine m_istore C d_X7_goes_82 (lv' := [(9, .int (nI 0)), (8, .int (nI ((8 * pat) + k))), (0, .ref (q 0)), (1, .int (nI pat)), (2, .int (nI way)), (3, .int (nI s)), (4, .int (nI fr)), (5, .int (nI e)), (6, .int (nI pl)), (7, .int (nI k))]) (by decide) rfl ?_
                    have loop_84 : ∀ (fuel : Nat) (z : Nat) (g2 : Nat → Int32), (z ≤ 3) → (∀ y, y < z → g2 y = labI ((fun z => if mN S 13 (8 * pat + k) / 2 ^ z % 2 = 1 then pl + 1 else lab z) y)) → (∀ y, z ≤ y → y < 3 → g2 y = labI (lab y)) → (4 - z) < fuel → VM G x q h0 (sI S 19 g2) 84 [(0, .ref (q 0)), (1, .int (nI pat)), (2, .int (nI way)), (3, .int (nI s)), (4, .int (nI fr)), (5, .int (nI e)), (6, .int (nI pl)), (7, .int (nI k)), (8, .int (nI (8 * pat + k))), (9, .int (nI z))] [] := by
                      intro fuel
                      induction fuel with
                      | zero => intro z g2 hz hga hgb hf9; exact absurd hf9 (Nat.not_lt_zero _)
                      | succ fuel ih_84 =>
                        intro z g2 hz hga hgb hf9
                        refine m_iload C d_X7_goes_84 9 rfl ?_
                        refine m_iconst C d_X7_goes_86 (v := (nI 3)) rfl ?_
                        refine mn_icmp_ge C d_X7_goes_87 (tgt := 131) rfl (by omega) (by omega) (fun c_87 => ?_) (fun c_87 => ?_)
                        · skip
                          obtain rfl : z = 3 := by omega
                          refine mn_iinc C d_X7_goes_131 (lv' := [(6, .int (nI (pl + 1))), (0, .ref (q 0)), (1, .int (nI pat)), (2, .int (nI way)), (3, .int (nI s)), (4, .int (nI fr)), (5, .int (nI e)), (7, .int (nI k)), (8, .int (nI (8 * pat + k))), (9, .int (nI 3))]) 6 rfl (nI_inc _ rfl) (by decide) rfl ?_
                          refine mn_iinc C d_X7_goes_134 (lv' := [(7, .int (nI (k + 1))), (6, .int (nI (pl + 1))), (0, .ref (q 0)), (1, .int (nI pat)), (2, .int (nI way)), (3, .int (nI s)), (4, .int (nI fr)), (5, .int (nI e)), (8, .int (nI (8 * pat + k))), (9, .int (nI 3))]) 7 rfl (nI_inc _ rfl) (by decide) rfl ?_
                          refine m_goto C d_X7_goes_137 (tgt := 30) rfl ?_
                          refine m_lv (lv' := [(0, .ref (q 0)), (1, .int (nI pat)), (2, .int (nI way)), (3, .int (nI s)), (4, .int (nI fr)), (5, .int (nI e)), (6, .int (nI (pl + 1))), (7, .int (nI (k + 1)))]) [2, 3, 4, 5, 6, 7, 1, 0] rfl ?_
                          exact ih_30 (k + 1) (pl + 1) ((fun z => if mN S 13 (8 * pat + k) / 2 ^ z % 2 = 1 then pl + 1 else lab z)) g2 (by omega) (by rw [goA_succ hg, if_pos c_48, if_neg (fun z => z.elim (fun y => absurd y c_64) (fun y => by rw [c_76] at y; cases y))]) (by omega) (fun z hz => ⟨hga z hz, ite_le (by omega) (hgl z hz).2⟩) (by omega)
                        · skip
                          have join_124 : VM G x q h0 (sI S 19 g2) 124 [(0, .ref (q 0)), (1, .int (nI pat)), (2, .int (nI way)), (3, .int (nI s)), (4, .int (nI fr)), (5, .int (nI e)), (6, .int (nI pl)), (7, .int (nI k)), (8, .int (nI (8 * pat + k))), (9, .int (nI z))] [.int (labI (if mN S 13 (8 * pat + k) / 2 ^ z % 2 = 1 then pl + 1 else lab z)), .int (nI z), .ref (q 19)] := by
                            refine m_astI C d_X7_goes_124 (k := 19) (v := labI (if mN S 13 (8 * pat + k) / 2 ^ z % 2 = 1 then pl + 1 else lab z)) (by decide) rfl (by show _ < 3; omega) (by decide) ?_
                            refine mn_iinc C d_X7_goes_125 (lv' := [(9, .int (nI (z + 1))), (0, .ref (q 0)), (1, .int (nI pat)), (2, .int (nI way)), (3, .int (nI s)), (4, .int (nI fr)), (5, .int (nI e)), (6, .int (nI pl)), (7, .int (nI k)), (8, .int (nI (8 * pat + k)))]) 9 rfl (nI_inc _ rfl) (by decide) rfl ?_
                            refine m_goto C d_X7_goes_128 (tgt := 84) rfl ?_
                            refine m_eq (S' := sI S 19 (fun y => if y = z then labI (if mN S 13 (8 * pat + k) / 2 ^ z % 2 = 1 then pl + 1 else lab z) else g2 y)) (sI_step (fun _ => rfl)) ?_
                            refine m_lv (lv' := [(0, .ref (q 0)), (1, .int (nI pat)), (2, .int (nI way)), (3, .int (nI s)), (4, .int (nI fr)), (5, .int (nI e)), (6, .int (nI pl)), (7, .int (nI k)), (8, .int (nI (8 * pat + k))), (9, .int (nI (z + 1)))]) [1, 2, 3, 4, 5, 6, 7, 8, 9, 0] rfl ?_
                            exact ih_84 (z + 1) (fun y => if y = z then labI (if mN S 13 (8 * pat + k) / 2 ^ z % 2 = 1 then pl + 1 else lab z) else g2 y) (by omega) (fun y hy => by show (if y = z then labI (if mN S 13 (8 * pat + k) / 2 ^ z % 2 = 1 then pl + 1 else lab z) else g2 y) = _; split; (rename_i q; rw [q]); exact hga y (by omega)) (fun y h1 h2 => by show (if y = z then labI (if mN S 13 (8 * pat + k) / 2 ^ z % 2 = 1 then pl + 1 else lab z) else g2 y) = _; rw [if_neg (by omega)]; exact hgb y (by omega) h2) (by omega)
                          refine m_aload_n C d_X7_goes_90 0 rfl ?_
                          refine m_get C d_X7_goes_91 fd_RX7_60 (v := .ref (q 19)) rfl ?_
                          refine m_iload C d_X7_goes_94 9 rfl ?_
                          refine m_aload_n C d_X7_goes_96 0 rfl ?_
                          refine m_get C d_X7_goes_97 fd_RX7_48 (v := .ref (q 13)) rfl ?_
                          refine m_iload C d_X7_goes_100 8 rfl ?_
                          refine m_ald C d_X7_goes_102 (k := 13) (by decide) rfl (by show _ < 168; omega) (by decide) ?_
                          refine m_st (st' := [.int (nI (mN S 13 (8 * pat + k))), .int (nI z), .ref (q 19)]) rfl ?_
                          refine m_iload C d_X7_goes_103 9 rfl ?_
                          refine mn_ishr C d_X7_goes_105 (by have := I.2.2.2.2.2.2.2.1 (8 * pat + k) (by omega); omega) (by omega) ?_
                          refine m_iconst C d_X7_goes_106 (v := (nI 1)) rfl ?_
                          refine mn_iand C d_X7_goes_107 ?_
                          refine m_st (st' := [.int (nI (mN S 13 (8 * pat + k) / 2 ^ z % 2)), .int (nI z), .ref (q 19)]) (by rw [and1]) ?_
                          refine m_iconst C d_X7_goes_108 (v := (nI 1)) rfl ?_
                          refine mn_icmp_ne C d_X7_goes_109 (tgt := 117) rfl (by omega) (by omega) (fun c_109 => ?_) (fun c_109 => ?_)
                          · skip
                            refine m_aload_n C d_X7_goes_117 0 rfl ?_
                            refine m_get C d_X7_goes_118 fd_RX7_60 (v := .ref (q 19)) rfl ?_
                            refine m_iload C d_X7_goes_121 9 rfl ?_
                            refine m_aldI C d_X7_goes_123 (k := 19) (by decide) rfl (by show _ < 3; omega) (by decide) ?_
                            refine m_st (st' := [.int (labI (if mN S 13 (8 * pat + k) / 2 ^ z % 2 = 1 then pl + 1 else lab z)), .int (nI z), .ref (q 19)]) (by rw [if_neg c_109, show mI (sI S 19 g2) 19 z = labI (lab z) from hgb z (Nat.le_refl _) (by omega)]) ?_
                            exact join_124  
                          · skip
                            refine m_iload C d_X7_goes_112 6 rfl ?_
                            refine m_goto C d_X7_goes_114 (tgt := 124) rfl ?_
                            refine m_st (st' := [.int (labI (if mN S 13 (8 * pat + k) / 2 ^ z % 2 = 1 then pl + 1 else lab z)), .int (nI z), .ref (q 19)]) (by rw [if_pos c_109, labI_p (by omega), Nat.add_sub_cancel]) ?_
                            exact join_124  
                    refine m_lv (lv' := [(0, .ref (q 0)), (1, .int (nI pat)), (2, .int (nI way)), (3, .int (nI s)), (4, .int (nI fr)), (5, .int (nI e)), (6, .int (nI pl)), (7, .int (nI k)), (8, .int (nI ((8 * pat) + k))), (9, .int (nI 0))]) [2, 3, 4, 5, 6, 7, 8, 9, 1, 0] rfl ?_
                    refine m_lve (lv' := [(0, .ref (q 0)), (1, .int (nI pat)), (2, .int (nI way)), (3, .int (nI s)), (4, .int (nI fr)), (5, .int (nI e)), (6, .int (nI pl)), (7, .int (nI k)), (8, .int (nI (8 * pat + k))), (9, .int (nI 0))]) (rfl) ?_
                    exact loop_84 _ 0 g (by omega) (fun y hy => absurd hy (Nat.not_lt_zero _)) (fun y _ hy => (hgl y hy).1) (Nat.lt_succ_self _)
                  · skip
                    refine m_iconst C d_X7_goes_79 (v := ((-1))) rfl ?_
                    exact m_iret C A TY d_X7_goes_80 rfl (⟨congrArg (fun z => some (Value.int z)) (goI_none (k := k) (by rw [goA_succ hg, if_pos c_48, if_pos (Or.inr c_76)]) (by omega)).symm, _, rfl⟩)
        refine m_lv (lv' := [(0, .ref (q 0)), (1, .int (nI pat)), (2, .int (nI way)), (3, .int (nI s)), (4, .int (nI fr)), (5, .int (nI e)), (6, .int (nI fr)), (7, .int (nI 0))]) [1, 2, 3, 4, 5, 6, 7, 0] rfl ?_
        exact loop_30 _ 0 fr (fun _ => 0) g (by omega) (rfl) (by omega) (fun z hz => ⟨(hg0 z (by omega)).trans labI_0.symm, Nat.zero_le _⟩) (Nat.lt_succ_self _)
      · skip
        refine m_aload_n C d_X7_goes_13 0 rfl ?_
        refine m_get C d_X7_goes_14 fd_RX7_60 (v := .ref (q 19)) rfl ?_
        refine m_iload C d_X7_goes_17 7 rfl ?_
        refine m_iconst C d_X7_goes_19 (v := ((-1))) rfl ?_
        refine m_astI C d_X7_goes_20 (k := 19) (v := (-1)) (by decide) rfl (by show _ < 3; omega) (by decide) ?_
        refine mn_iinc C d_X7_goes_21 (lv' := [(7, .int (nI (k + 1))), (0, .ref (q 0)), (1, .int (nI pat)), (2, .int (nI way)), (3, .int (nI s)), (4, .int (nI fr)), (5, .int (nI e)), (6, .int (nI fr))]) 7 rfl (nI_inc _ rfl) (by decide) rfl ?_
        refine m_goto C d_X7_goes_24 (tgt := 7) rfl ?_
        refine m_eq (S' := sI S 19 (fun z => if z = k then (-1 : Int32) else g z)) (sI_step (fun _ => rfl)) ?_
        refine m_lv (lv' := [(0, .ref (q 0)), (1, .int (nI pat)), (2, .int (nI way)), (3, .int (nI s)), (4, .int (nI fr)), (5, .int (nI e)), (6, .int (nI fr)), (7, .int (nI (k + 1)))]) [1, 2, 3, 4, 5, 6, 7, 0] rfl ?_
        exact ih_7 (k + 1) (fun z => if z = k then (-1 : Int32) else g z) (by omega) (fun z hz => by show (if z = k then (-1 : Int32) else g z) = -1; split; rfl; exact hg0 z (by omega)) (by omega)
  refine m_lv (lv' := [(0, .ref (q 0)), (1, .int (nI pat)), (2, .int (nI way)), (3, .int (nI s)), (4, .int (nI fr)), (5, .int (nI e)), (6, .int (nI fr)), (7, .int (nI 0))]) [2, 3, 4, 5, 6, 7, 1, 0] rfl ?_
  exact loop_7 _ 0 f (by omega) (fun z hz => absurd hz (Nat.not_lt_zero _)) (Nat.lt_succ_self _)
def dl_X7_endOf : List (Nat × Instr × Nat) := [(0, .iload_n 2, 1), (1, .iconst 1, 1), (2, .iadd, 1), (3, .istore 4, 2), (5, .iload 4, 2), (7, .aload_n 0, 1), (8, .getfield 7, 3), (11, .iload_n 1, 1), (12, .iaload, 1), (13, .if_icmp .ge 73, 3), (16, .iload_n 3, 1), (17, .ifCond .eq 63, 3), (20, .iload_n 3, 1), (21, .iconst 1, 1), (22, .if_icmp .ne 32, 3), (25, .aload_n 0, 1), (26, .getfield 16, 3), (29, .bipush 40, 2), (31, .iload_n 1, 1), (32, .imul, 1), (33, .iload 4, 2), (35, .iadd, 1), (36, .iaload, 1), (37, .aload_n 0, 1), (38, .getfield 16, 3), (41, .bipush 40, 2), (43, .iload_n 1, 1), (44, .imul, 1), (45, .iload_n 2, 1), (46, .iadd, 1), (47, .iaload, 1), (48, .if_icmp .ne 38, 3), (51, .goto 29, 3), (54, .aload_n 0, 1), (55, .getfield 19, 3), (58, .bipush 40, 2), (60, .iload_n 1, 1), (61, .imul, 1), (62, .iload 4, 2), (64, .iadd, 1), (65, .iaload, 1), (66, .aload_n 0, 1), (67, .getfield 19, 3), (70, .bipush 40, 2), (72, .iload_n 1, 1), (73, .imul, 1), (74, .iload_n 2, 1), (75, .iadd, 1), (76, .iaload, 1), (77, .if_icmp .ne 9, 3), (80, .iinc 4 1, 3), (83, .goto (-78), 3), (86, .iload 4, 2), (88, .ireturn, 1)]
theorem dc_X7_endOf : dnL cX7_endOf dl_X7_endOf = true := by decide +kernel
theorem d_X7_endOf_0 : dn cX7_endOf 0 (.iload_n 2) 1 1 := dnAt dc_X7_endOf 0 rfl rfl
theorem d_X7_endOf_1 : dn cX7_endOf 1 (.iconst 1) 1 2 := dnAt dc_X7_endOf 1 rfl rfl
theorem d_X7_endOf_2 : dn cX7_endOf 2 (.iadd) 1 3 := dnAt dc_X7_endOf 2 rfl rfl
theorem d_X7_endOf_3 : dn cX7_endOf 3 (.istore 4) 2 5 := dnAt dc_X7_endOf 3 rfl rfl
theorem d_X7_endOf_5 : dn cX7_endOf 5 (.iload 4) 2 7 := dnAt dc_X7_endOf 4 rfl rfl
theorem d_X7_endOf_7 : dn cX7_endOf 7 (.aload_n 0) 1 8 := dnAt dc_X7_endOf 5 rfl rfl
theorem d_X7_endOf_8 : dn cX7_endOf 8 (.getfield 7) 3 11 := dnAt dc_X7_endOf 6 rfl rfl
theorem d_X7_endOf_11 : dn cX7_endOf 11 (.iload_n 1) 1 12 := dnAt dc_X7_endOf 7 rfl rfl
theorem d_X7_endOf_12 : dn cX7_endOf 12 (.iaload) 1 13 := dnAt dc_X7_endOf 8 rfl rfl
theorem d_X7_endOf_13 : dn cX7_endOf 13 (.if_icmp .ge 73) 3 16 := dnAt dc_X7_endOf 9 rfl rfl
theorem d_X7_endOf_16 : dn cX7_endOf 16 (.iload_n 3) 1 17 := dnAt dc_X7_endOf 10 rfl rfl
theorem d_X7_endOf_17 : dn cX7_endOf 17 (.ifCond .eq 63) 3 20 := dnAt dc_X7_endOf 11 rfl rfl
theorem d_X7_endOf_20 : dn cX7_endOf 20 (.iload_n 3) 1 21 := dnAt dc_X7_endOf 12 rfl rfl
theorem d_X7_endOf_21 : dn cX7_endOf 21 (.iconst 1) 1 22 := dnAt dc_X7_endOf 13 rfl rfl
theorem d_X7_endOf_22 : dn cX7_endOf 22 (.if_icmp .ne 32) 3 25 := dnAt dc_X7_endOf 14 rfl rfl
theorem d_X7_endOf_25 : dn cX7_endOf 25 (.aload_n 0) 1 26 := dnAt dc_X7_endOf 15 rfl rfl
theorem d_X7_endOf_26 : dn cX7_endOf 26 (.getfield 16) 3 29 := dnAt dc_X7_endOf 16 rfl rfl
theorem d_X7_endOf_29 : dn cX7_endOf 29 (.bipush 40) 2 31 := dnAt dc_X7_endOf 17 rfl rfl
theorem d_X7_endOf_31 : dn cX7_endOf 31 (.iload_n 1) 1 32 := dnAt dc_X7_endOf 18 rfl rfl
theorem d_X7_endOf_32 : dn cX7_endOf 32 (.imul) 1 33 := dnAt dc_X7_endOf 19 rfl rfl
theorem d_X7_endOf_33 : dn cX7_endOf 33 (.iload 4) 2 35 := dnAt dc_X7_endOf 20 rfl rfl
theorem d_X7_endOf_35 : dn cX7_endOf 35 (.iadd) 1 36 := dnAt dc_X7_endOf 21 rfl rfl
theorem d_X7_endOf_36 : dn cX7_endOf 36 (.iaload) 1 37 := dnAt dc_X7_endOf 22 rfl rfl
theorem d_X7_endOf_37 : dn cX7_endOf 37 (.aload_n 0) 1 38 := dnAt dc_X7_endOf 23 rfl rfl
theorem d_X7_endOf_38 : dn cX7_endOf 38 (.getfield 16) 3 41 := dnAt dc_X7_endOf 24 rfl rfl
theorem d_X7_endOf_41 : dn cX7_endOf 41 (.bipush 40) 2 43 := dnAt dc_X7_endOf 25 rfl rfl
theorem d_X7_endOf_43 : dn cX7_endOf 43 (.iload_n 1) 1 44 := dnAt dc_X7_endOf 26 rfl rfl
theorem d_X7_endOf_44 : dn cX7_endOf 44 (.imul) 1 45 := dnAt dc_X7_endOf 27 rfl rfl
theorem d_X7_endOf_45 : dn cX7_endOf 45 (.iload_n 2) 1 46 := dnAt dc_X7_endOf 28 rfl rfl
theorem d_X7_endOf_46 : dn cX7_endOf 46 (.iadd) 1 47 := dnAt dc_X7_endOf 29 rfl rfl
theorem d_X7_endOf_47 : dn cX7_endOf 47 (.iaload) 1 48 := dnAt dc_X7_endOf 30 rfl rfl
theorem d_X7_endOf_48 : dn cX7_endOf 48 (.if_icmp .ne 38) 3 51 := dnAt dc_X7_endOf 31 rfl rfl
theorem d_X7_endOf_51 : dn cX7_endOf 51 (.goto 29) 3 54 := dnAt dc_X7_endOf 32 rfl rfl
theorem d_X7_endOf_54 : dn cX7_endOf 54 (.aload_n 0) 1 55 := dnAt dc_X7_endOf 33 rfl rfl
theorem d_X7_endOf_55 : dn cX7_endOf 55 (.getfield 19) 3 58 := dnAt dc_X7_endOf 34 rfl rfl
theorem d_X7_endOf_58 : dn cX7_endOf 58 (.bipush 40) 2 60 := dnAt dc_X7_endOf 35 rfl rfl
theorem d_X7_endOf_60 : dn cX7_endOf 60 (.iload_n 1) 1 61 := dnAt dc_X7_endOf 36 rfl rfl
theorem d_X7_endOf_61 : dn cX7_endOf 61 (.imul) 1 62 := dnAt dc_X7_endOf 37 rfl rfl
theorem d_X7_endOf_62 : dn cX7_endOf 62 (.iload 4) 2 64 := dnAt dc_X7_endOf 38 rfl rfl
theorem d_X7_endOf_64 : dn cX7_endOf 64 (.iadd) 1 65 := dnAt dc_X7_endOf 39 rfl rfl
theorem d_X7_endOf_65 : dn cX7_endOf 65 (.iaload) 1 66 := dnAt dc_X7_endOf 40 rfl rfl
theorem d_X7_endOf_66 : dn cX7_endOf 66 (.aload_n 0) 1 67 := dnAt dc_X7_endOf 41 rfl rfl
theorem d_X7_endOf_67 : dn cX7_endOf 67 (.getfield 19) 3 70 := dnAt dc_X7_endOf 42 rfl rfl
theorem d_X7_endOf_70 : dn cX7_endOf 70 (.bipush 40) 2 72 := dnAt dc_X7_endOf 43 rfl rfl
theorem d_X7_endOf_72 : dn cX7_endOf 72 (.iload_n 1) 1 73 := dnAt dc_X7_endOf 44 rfl rfl
theorem d_X7_endOf_73 : dn cX7_endOf 73 (.imul) 1 74 := dnAt dc_X7_endOf 45 rfl rfl
theorem d_X7_endOf_74 : dn cX7_endOf 74 (.iload_n 2) 1 75 := dnAt dc_X7_endOf 46 rfl rfl
theorem d_X7_endOf_75 : dn cX7_endOf 75 (.iadd) 1 76 := dnAt dc_X7_endOf 47 rfl rfl
theorem d_X7_endOf_76 : dn cX7_endOf 76 (.iaload) 1 77 := dnAt dc_X7_endOf 48 rfl rfl
theorem d_X7_endOf_77 : dn cX7_endOf 77 (.if_icmp .ne 9) 3 80 := dnAt dc_X7_endOf 49 rfl rfl
theorem d_X7_endOf_80 : dn cX7_endOf 80 (.iinc 4 1) 3 83 := dnAt dc_X7_endOf 50 rfl rfl
theorem d_X7_endOf_83 : dn cX7_endOf 83 (.goto (-78)) 3 86 := dnAt dc_X7_endOf 51 rfl rfl
theorem d_X7_endOf_86 : dn cX7_endOf 86 (.iload 4) 2 88 := dnAt dc_X7_endOf 52 rfl rfl
theorem d_X7_endOf_88 : dn cX7_endOf 88 (.ireturn) 1 89 := dnAt dc_X7_endOf 53 rfl rfl
set_option maxHeartbeats 4000000 in
set_option maxRecDepth 100000 in
theorem m_endOf (S : mS) (s p bd : Nat) (I : mInv S) (hs : s < 2) (hp : p < mN S 1 s) (hb : bd < 2147483648) : mC yX7_endOf cX7_endOf 5 (Option.some Jvm.ClassFile.FieldType.int) { frames := 0, cells := 0, slots := 0, locals := 0 } [.int (nI s), .int (nI p), .int (nI bd)] S (fun v9 T9 => v9 = (some (.int (nI (eOf S s p bd)))) ∧ T9 = S) := by
  refine mC.of (by decide) (Nat.le_of_ble_eq_true rfl) ?_
  intro G x q h0 C A TY
  show VM G x q h0 S 0 [(0, .ref (q 0)), (1, .int (nI s)), (2, .int (nI p)), (3, .int (nI bd))] []
  have i1 := I.1 s hs
  refine m_iload_n C d_X7_endOf_0 2 rfl ?_
  refine m_iconst C d_X7_endOf_1 (v := (nI 1)) rfl ?_
  refine mn_iadd C d_X7_endOf_2 ?_
  refine m_istore C d_X7_endOf_3 (lv' := [(4, .int (nI (p + 1))), (0, .ref (q 0)), (1, .int (nI s)), (2, .int (nI p)), (3, .int (nI bd))]) (by decide) rfl ?_
  have loop_5 : ∀ (fuel : Nat) (j : Nat) (e : Nat), (eOf S s p bd = eGo S s p bd j e) → (mN S 1 s < e + j ∧ e ≤ mN S 1 s) → (42 - e) < fuel → VM G x q h0 S 5 [(0, .ref (q 0)), (1, .int (nI s)), (2, .int (nI p)), (3, .int (nI bd)), (4, .int (nI e))] [] := by
    intro fuel
    induction fuel with
    | zero => intro j e he hj hf9; exact absurd hf9 (Nat.not_lt_zero _)
    | succ fuel ih_5 =>
      intro j e he hj hf9
      refine m_iload C d_X7_endOf_5 4 rfl ?_
      have join_86 : (eOf S s p bd = e) → VM G x q h0 S 86 [(0, .ref (q 0)), (4, .int (nI e))] [] := by
        intro hee
        refine m_iload C d_X7_endOf_86 1 rfl ?_
        refine m_st (st' := [.int (nI (eOf S s p bd))]) (by rw [hee]) ?_
        exact m_iret C A TY d_X7_endOf_88 rfl (⟨rfl, rfl⟩)
      refine m_aload_n C d_X7_endOf_7 0 rfl ?_
      refine m_get C d_X7_endOf_8 fd_RX7_7 (v := .ref (q 1)) rfl ?_
      refine m_iload_n C d_X7_endOf_11 1 rfl ?_
      refine m_ald C d_X7_endOf_12 (k := 1) (by decide) rfl (by show _ < 2; omega) (by decide) ?_
      refine mn_icmp_ge C d_X7_endOf_13 (tgt := 86) rfl (by omega) (by omega) (fun c_13 => ?_) (fun c_13 => ?_)
      · skip
        refine m_lv (lv' := [(0, .ref (q 0)), (4, .int (nI e))]) [0, 4] rfl ?_
        exact join_86  (by rw [he, show j = (j - 1) + 1 by omega, eGo, if_neg (fun z => absurd z.1 (by omega))])
      · skip
        refine m_iload_n C d_X7_endOf_16 3 rfl ?_
        refine mn_if_eq C d_X7_endOf_17 (tgt := 80) rfl (by omega) (fun c_17 => ?_) (fun c_17 => ?_)
        · skip
          refine mn_iinc C d_X7_endOf_80 (lv' := [(4, .int (nI (e + 1))), (0, .ref (q 0)), (1, .int (nI s)), (2, .int (nI p)), (3, .int (nI bd))]) 4 rfl (nI_inc _ rfl) (by decide) rfl ?_
          refine m_goto C d_X7_endOf_83 (tgt := 5) rfl ?_
          refine m_lv (lv' := [(0, .ref (q 0)), (1, .int (nI s)), (2, .int (nI p)), (3, .int (nI bd)), (4, .int (nI (e + 1)))]) [1, 2, 3, 4, 0] rfl ?_
          exact ih_5 (j - 1) (e + 1) (by rw [he, show j = (j - 1) + 1 by omega, eGo, if_pos ⟨c_13, by rw [inB, decide_eq_true c_17]; rfl⟩]; rfl) (by omega) (by omega)
        · skip
          refine m_iload_n C d_X7_endOf_20 3 rfl ?_
          refine m_iconst C d_X7_endOf_21 (v := (nI 1)) rfl ?_
          refine mn_icmp_ne C d_X7_endOf_22 (tgt := 54) rfl (by omega) (by omega) (fun c_22 => ?_) (fun c_22 => ?_)
          · skip
            refine m_aload_n C d_X7_endOf_54 0 rfl ?_
            refine m_get C d_X7_endOf_55 fd_RX7_19 (v := .ref (q 4)) rfl ?_
            refine m_bipush C d_X7_endOf_58 (v := (nI 40)) rfl ?_
            refine m_iload_n C d_X7_endOf_60 1 rfl ?_
            refine mn_imul C d_X7_endOf_61 ?_
            refine m_iload C d_X7_endOf_62 4 rfl ?_
            refine mn_iadd C d_X7_endOf_64 ?_
            refine m_ald C d_X7_endOf_65 (k := 4) (by decide) rfl (by show _ < 80; omega) (by decide) ?_
            refine m_aload_n C d_X7_endOf_66 0 rfl ?_
            refine m_get C d_X7_endOf_67 fd_RX7_19 (v := .ref (q 4)) rfl ?_
            refine m_bipush C d_X7_endOf_70 (v := (nI 40)) rfl ?_
            refine m_iload_n C d_X7_endOf_72 1 rfl ?_
            refine mn_imul C d_X7_endOf_73 ?_
            refine m_iload_n C d_X7_endOf_74 2 rfl ?_
            refine mn_iadd C d_X7_endOf_75 ?_
            refine m_ald C d_X7_endOf_76 (k := 4) (by decide) rfl (by show _ < 80; omega) (by decide) ?_
            refine mn_icmp_ne C d_X7_endOf_77 (tgt := 86) rfl (by have := I.2.2.2.1 (40 * s + e) (by omega); omega) (by have := I.2.2.2.1 (40 * s + p) (by omega); omega) (fun c_77 => ?_) (fun c_77 => ?_)
            · skip
              refine m_lv (lv' := [(0, .ref (q 0)), (4, .int (nI e))]) [0, 4] rfl ?_
              exact join_86  (by rw [he, show j = (j - 1) + 1 by omega, eGo, if_neg (fun z => absurd z.2 (by rw [inB, decide_eq_false (by omega), if_neg c_22, decide_eq_false c_77]; decide))])
            · skip
              refine mn_iinc C d_X7_endOf_80 (lv' := [(4, .int (nI (e + 1))), (0, .ref (q 0)), (1, .int (nI s)), (2, .int (nI p)), (3, .int (nI bd))]) 4 rfl (nI_inc _ rfl) (by decide) rfl ?_
              refine m_goto C d_X7_endOf_83 (tgt := 5) rfl ?_
              refine m_lv (lv' := [(0, .ref (q 0)), (1, .int (nI s)), (2, .int (nI p)), (3, .int (nI bd)), (4, .int (nI (e + 1)))]) [1, 2, 3, 4, 0] rfl ?_
              exact ih_5 (j - 1) (e + 1) (by rw [he, show j = (j - 1) + 1 by omega, eGo, if_pos ⟨c_13, by rw [inB, if_neg c_22, decide_eq_true c_77, Bool.or_true]⟩]; rfl) (by omega) (by omega)
          · skip
            refine m_aload_n C d_X7_endOf_25 0 rfl ?_
            refine m_get C d_X7_endOf_26 fd_RX7_16 (v := .ref (q 3)) rfl ?_
            refine m_bipush C d_X7_endOf_29 (v := (nI 40)) rfl ?_
            refine m_iload_n C d_X7_endOf_31 1 rfl ?_
            refine mn_imul C d_X7_endOf_32 ?_
            refine m_iload C d_X7_endOf_33 4 rfl ?_
            refine mn_iadd C d_X7_endOf_35 ?_
            refine m_ald C d_X7_endOf_36 (k := 3) (by decide) rfl (by show _ < 80; omega) (by decide) ?_
            refine m_aload_n C d_X7_endOf_37 0 rfl ?_
            refine m_get C d_X7_endOf_38 fd_RX7_16 (v := .ref (q 3)) rfl ?_
            refine m_bipush C d_X7_endOf_41 (v := (nI 40)) rfl ?_
            refine m_iload_n C d_X7_endOf_43 1 rfl ?_
            refine mn_imul C d_X7_endOf_44 ?_
            refine m_iload_n C d_X7_endOf_45 2 rfl ?_
            refine mn_iadd C d_X7_endOf_46 ?_
            refine m_ald C d_X7_endOf_47 (k := 3) (by decide) rfl (by show _ < 80; omega) (by decide) ?_
            refine mn_icmp_ne C d_X7_endOf_48 (tgt := 86) rfl (by have := I.2.2.1 (40 * s + e) (by omega); omega) (by have := I.2.2.1 (40 * s + p) (by omega); omega) (fun c_48 => ?_) (fun c_48 => ?_)
            · skip
              refine m_lv (lv' := [(0, .ref (q 0)), (4, .int (nI e))]) [0, 4] rfl ?_
              exact join_86  (by rw [he, show j = (j - 1) + 1 by omega, eGo, if_neg (fun z => absurd z.2 (by rw [inB, decide_eq_false (by omega), if_pos c_22, decide_eq_false c_48]; decide))])
            · skip
              refine m_goto C d_X7_endOf_51 (tgt := 80) rfl ?_
              refine mn_iinc C d_X7_endOf_80 (lv' := [(4, .int (nI (e + 1))), (0, .ref (q 0)), (1, .int (nI s)), (2, .int (nI p)), (3, .int (nI bd))]) 4 rfl (nI_inc _ rfl) (by decide) rfl ?_
              refine m_goto C d_X7_endOf_83 (tgt := 5) rfl ?_
              refine m_lv (lv' := [(0, .ref (q 0)), (1, .int (nI s)), (2, .int (nI p)), (3, .int (nI bd)), (4, .int (nI (e + 1)))]) [1, 2, 3, 4, 0] rfl ?_
              exact ih_5 (j - 1) (e + 1) (by rw [he, show j = (j - 1) + 1 by omega, eGo, if_pos ⟨c_13, by rw [inB, if_pos c_22, decide_eq_true c_48, Bool.or_true]⟩]; rfl) (by omega) (by omega)
  refine m_lv (lv' := [(0, .ref (q 0)), (1, .int (nI s)), (2, .int (nI p)), (3, .int (nI bd)), (4, .int (nI (p + 1)))]) [1, 2, 3, 4, 0] rfl ?_
  exact loop_5 _ 41 (p + 1) (rfl) (by omega) (Nat.lt_succ_self _)
end
section
theorem tw_863 : (Jvm.Cond.methodLink "CorpuslineModel" (130 : Nat) ({ cls := "CorpuslineModel", name := "endOf", desc := "(III)I" } : Jvm.MethodName)) ∈ TB := tb_of 863 (by decide +kernel) rfl
theorem tw_865 : (Jvm.Cond.instanceMethod ({ cls := "CorpuslineModel", name := "endOf", desc := "(III)I" } : Jvm.MethodName)) ∈ TB := tb_of 865 (by decide +kernel) rfl
theorem tw_866 : (Jvm.Cond.code ({ cls := "CorpuslineModel", name := "endOf", desc := "(III)I" } : Jvm.MethodName) prog_9_method_34_code (5 : Nat) (Option.some Jvm.ClassFile.FieldType.int)) ∈ TB := tb_of 866 (by decide +kernel) rfl
theorem tw_867 : (Jvm.Cond.methodLink "CorpuslineModel" (133 : Nat) ({ cls := "CorpuslineModel", name := "goes", desc := "(IIIII)I" } : Jvm.MethodName)) ∈ TB := tb_of 867 (by decide +kernel) rfl
theorem tw_869 : (Jvm.Cond.instanceMethod ({ cls := "CorpuslineModel", name := "goes", desc := "(IIIII)I" } : Jvm.MethodName)) ∈ TB := tb_of 869 (by decide +kernel) rfl
theorem tw_870 : (Jvm.Cond.code ({ cls := "CorpuslineModel", name := "goes", desc := "(IIIII)I" } : Jvm.MethodName) prog_9_method_33_code (10 : Nat) (Option.some Jvm.ClassFile.FieldType.int)) ∈ TB := tb_of 870 (by decide +kernel) rfl
theorem ts_29 : Cond.selects "CorpuslineModel" ({ cls := "CorpuslineModel", name := "endOf", desc := "(III)I" } : MethodName) ({ cls := "CorpuslineModel", name := "endOf", desc := "(III)I" } : MethodName) ∈ TB := tb_sel 29 (by decide +kernel) rfl
theorem ts_30 : Cond.selects "CorpuslineModel" ({ cls := "CorpuslineModel", name := "goes", desc := "(IIIII)I" } : MethodName) ({ cls := "CorpuslineModel", name := "goes", desc := "(IIIII)I" } : MethodName) ∈ TB := tb_sel 30 (by decide +kernel) rfl
theorem ok_RX7_130 : okV RX7 130 yX7_endOf cX7_endOf 5 (Option.some Jvm.ClassFile.FieldType.int) 3 := ⟨tw_863, tw_865, ts_29, tw_5, tw_866, ⟨by decide, by decide, by decide +kernel⟩⟩
theorem ok_RX7_133 : okV RX7 133 yX7_goes cX7_goes 10 (Option.some Jvm.ClassFile.FieldType.int) 5 := ⟨tw_867, tw_869, ts_30, tw_5, tw_870, ⟨by decide, by decide, by decide +kernel⟩⟩
def dl_X7_longest : List (Nat × Instr × Nat) := [(0, .aload_n 0, 1), (1, .iload_n 2, 1), (2, .iload_n 3, 1), (3, .iload 4, 2), (5, .invokevirtual 130, 3), (8, .istore 6, 2), (10, .iconst 0, 1), (11, .istore 7, 2), (13, .iconst 1, 1), (14, .istore 8, 2), (16, .iload 8, 2), (18, .iconst 1, 1), (19, .aload_n 0, 1), (20, .getfield 33, 3), (23, .iload_n 1, 1), (24, .iaload, 1), (25, .ishl, 1), (26, .if_icmp .ge 83, 3), (29, .aload_n 0, 1), (30, .getfield 39, 3), (33, .sipush 256, 3), (36, .iload_n 1, 1), (37, .imul, 1), (38, .iload 8, 2), (40, .iadd, 1), (41, .baload, 1), (42, .ifCond .eq 17, 3), (45, .aload_n 0, 1), (46, .iload_n 1, 1), (47, .iload 8, 2), (49, .iload_n 2, 1), (50, .iload_n 3, 1), (51, .iload 6, 2), (53, .invokevirtual 133, 3), (56, .goto 4, 3), (59, .iconst (-1), 1), (60, .istore 9, 2), (62, .iload 9, 2), (64, .ifCond .le 35, 3), (67, .iload 7, 2), (69, .ifCond .eq 25, 3), (72, .iload 5, 2), (74, .ifCond .eq 13, 3), (77, .iload 9, 2), (79, .iload 7, 2), (81, .if_icmp .le 18, 3), (84, .goto 10, 3), (87, .iload 9, 2), (89, .iload 7, 2), (91, .if_icmp .ge 8, 3), (94, .iload 9, 2), (96, .goto 5, 3), (99, .iload 7, 2), (101, .istore 7, 2), (103, .iinc 8 1, 3), (106, .goto (-90), 3), (109, .iload 7, 2), (111, .ireturn, 1)]
theorem dc_X7_longest : dnL cX7_longest dl_X7_longest = true := by decide +kernel
theorem d_X7_longest_0 : dn cX7_longest 0 (.aload_n 0) 1 1 := dnAt dc_X7_longest 0 rfl rfl
theorem d_X7_longest_1 : dn cX7_longest 1 (.iload_n 2) 1 2 := dnAt dc_X7_longest 1 rfl rfl
theorem d_X7_longest_2 : dn cX7_longest 2 (.iload_n 3) 1 3 := dnAt dc_X7_longest 2 rfl rfl
theorem d_X7_longest_3 : dn cX7_longest 3 (.iload 4) 2 5 := dnAt dc_X7_longest 3 rfl rfl
theorem d_X7_longest_5 : dn cX7_longest 5 (.invokevirtual 130) 3 8 := dnAt dc_X7_longest 4 rfl rfl
theorem d_X7_longest_8 : dn cX7_longest 8 (.istore 6) 2 10 := dnAt dc_X7_longest 5 rfl rfl
theorem d_X7_longest_10 : dn cX7_longest 10 (.iconst 0) 1 11 := dnAt dc_X7_longest 6 rfl rfl
theorem d_X7_longest_11 : dn cX7_longest 11 (.istore 7) 2 13 := dnAt dc_X7_longest 7 rfl rfl
theorem d_X7_longest_13 : dn cX7_longest 13 (.iconst 1) 1 14 := dnAt dc_X7_longest 8 rfl rfl
theorem d_X7_longest_14 : dn cX7_longest 14 (.istore 8) 2 16 := dnAt dc_X7_longest 9 rfl rfl
theorem d_X7_longest_16 : dn cX7_longest 16 (.iload 8) 2 18 := dnAt dc_X7_longest 10 rfl rfl
theorem d_X7_longest_18 : dn cX7_longest 18 (.iconst 1) 1 19 := dnAt dc_X7_longest 11 rfl rfl
theorem d_X7_longest_19 : dn cX7_longest 19 (.aload_n 0) 1 20 := dnAt dc_X7_longest 12 rfl rfl
theorem d_X7_longest_20 : dn cX7_longest 20 (.getfield 33) 3 23 := dnAt dc_X7_longest 13 rfl rfl
theorem d_X7_longest_23 : dn cX7_longest 23 (.iload_n 1) 1 24 := dnAt dc_X7_longest 14 rfl rfl
theorem d_X7_longest_24 : dn cX7_longest 24 (.iaload) 1 25 := dnAt dc_X7_longest 15 rfl rfl
theorem d_X7_longest_25 : dn cX7_longest 25 (.ishl) 1 26 := dnAt dc_X7_longest 16 rfl rfl
theorem d_X7_longest_26 : dn cX7_longest 26 (.if_icmp .ge 83) 3 29 := dnAt dc_X7_longest 17 rfl rfl
theorem d_X7_longest_29 : dn cX7_longest 29 (.aload_n 0) 1 30 := dnAt dc_X7_longest 18 rfl rfl
theorem d_X7_longest_30 : dn cX7_longest 30 (.getfield 39) 3 33 := dnAt dc_X7_longest 19 rfl rfl
theorem d_X7_longest_33 : dn cX7_longest 33 (.sipush 256) 3 36 := dnAt dc_X7_longest 20 rfl rfl
theorem d_X7_longest_36 : dn cX7_longest 36 (.iload_n 1) 1 37 := dnAt dc_X7_longest 21 rfl rfl
theorem d_X7_longest_37 : dn cX7_longest 37 (.imul) 1 38 := dnAt dc_X7_longest 22 rfl rfl
theorem d_X7_longest_38 : dn cX7_longest 38 (.iload 8) 2 40 := dnAt dc_X7_longest 23 rfl rfl
theorem d_X7_longest_40 : dn cX7_longest 40 (.iadd) 1 41 := dnAt dc_X7_longest 24 rfl rfl
theorem d_X7_longest_41 : dn cX7_longest 41 (.baload) 1 42 := dnAt dc_X7_longest 25 rfl rfl
theorem d_X7_longest_42 : dn cX7_longest 42 (.ifCond .eq 17) 3 45 := dnAt dc_X7_longest 26 rfl rfl
theorem d_X7_longest_45 : dn cX7_longest 45 (.aload_n 0) 1 46 := dnAt dc_X7_longest 27 rfl rfl
theorem d_X7_longest_46 : dn cX7_longest 46 (.iload_n 1) 1 47 := dnAt dc_X7_longest 28 rfl rfl
theorem d_X7_longest_47 : dn cX7_longest 47 (.iload 8) 2 49 := dnAt dc_X7_longest 29 rfl rfl
theorem d_X7_longest_49 : dn cX7_longest 49 (.iload_n 2) 1 50 := dnAt dc_X7_longest 30 rfl rfl
theorem d_X7_longest_50 : dn cX7_longest 50 (.iload_n 3) 1 51 := dnAt dc_X7_longest 31 rfl rfl
theorem d_X7_longest_51 : dn cX7_longest 51 (.iload 6) 2 53 := dnAt dc_X7_longest 32 rfl rfl
theorem d_X7_longest_53 : dn cX7_longest 53 (.invokevirtual 133) 3 56 := dnAt dc_X7_longest 33 rfl rfl
theorem d_X7_longest_56 : dn cX7_longest 56 (.goto 4) 3 59 := dnAt dc_X7_longest 34 rfl rfl
theorem d_X7_longest_59 : dn cX7_longest 59 (.iconst (-1)) 1 60 := dnAt dc_X7_longest 35 rfl rfl
theorem d_X7_longest_60 : dn cX7_longest 60 (.istore 9) 2 62 := dnAt dc_X7_longest 36 rfl rfl
theorem d_X7_longest_62 : dn cX7_longest 62 (.iload 9) 2 64 := dnAt dc_X7_longest 37 rfl rfl
theorem d_X7_longest_64 : dn cX7_longest 64 (.ifCond .le 35) 3 67 := dnAt dc_X7_longest 38 rfl rfl
theorem d_X7_longest_67 : dn cX7_longest 67 (.iload 7) 2 69 := dnAt dc_X7_longest 39 rfl rfl
theorem d_X7_longest_69 : dn cX7_longest 69 (.ifCond .eq 25) 3 72 := dnAt dc_X7_longest 40 rfl rfl
theorem d_X7_longest_72 : dn cX7_longest 72 (.iload 5) 2 74 := dnAt dc_X7_longest 41 rfl rfl
theorem d_X7_longest_74 : dn cX7_longest 74 (.ifCond .eq 13) 3 77 := dnAt dc_X7_longest 42 rfl rfl
theorem d_X7_longest_77 : dn cX7_longest 77 (.iload 9) 2 79 := dnAt dc_X7_longest 43 rfl rfl
theorem d_X7_longest_79 : dn cX7_longest 79 (.iload 7) 2 81 := dnAt dc_X7_longest 44 rfl rfl
theorem d_X7_longest_81 : dn cX7_longest 81 (.if_icmp .le 18) 3 84 := dnAt dc_X7_longest 45 rfl rfl
theorem d_X7_longest_84 : dn cX7_longest 84 (.goto 10) 3 87 := dnAt dc_X7_longest 46 rfl rfl
theorem d_X7_longest_87 : dn cX7_longest 87 (.iload 9) 2 89 := dnAt dc_X7_longest 47 rfl rfl
theorem d_X7_longest_89 : dn cX7_longest 89 (.iload 7) 2 91 := dnAt dc_X7_longest 48 rfl rfl
theorem d_X7_longest_91 : dn cX7_longest 91 (.if_icmp .ge 8) 3 94 := dnAt dc_X7_longest 49 rfl rfl
theorem d_X7_longest_94 : dn cX7_longest 94 (.iload 9) 2 96 := dnAt dc_X7_longest 50 rfl rfl
theorem d_X7_longest_96 : dn cX7_longest 96 (.goto 5) 3 99 := dnAt dc_X7_longest 51 rfl rfl
theorem d_X7_longest_99 : dn cX7_longest 99 (.iload 7) 2 101 := dnAt dc_X7_longest 52 rfl rfl
theorem d_X7_longest_101 : dn cX7_longest 101 (.istore 7) 2 103 := dnAt dc_X7_longest 53 rfl rfl
theorem d_X7_longest_103 : dn cX7_longest 103 (.iinc 8 1) 3 106 := dnAt dc_X7_longest 54 rfl rfl
theorem d_X7_longest_106 : dn cX7_longest 106 (.goto (-90)) 3 109 := dnAt dc_X7_longest 55 rfl rfl
theorem d_X7_longest_109 : dn cX7_longest 109 (.iload 7) 2 111 := dnAt dc_X7_longest 56 rfl rfl
theorem d_X7_longest_111 : dn cX7_longest 111 (.ireturn) 1 112 := dnAt dc_X7_longest 57 rfl rfl
set_option maxHeartbeats 4000000 in
set_option maxRecDepth 100000 in
theorem m_longest (S : mS) (f : Nat → Int32) (pat s p bd : Nat) (L : Bool) (I : mInv S) (ht : pat < 21) (hs : s < 2) (hp : p < mN S 1 s) (hb : bd < 2147483648) : mC yX7_longest cX7_longest 10 (Option.some Jvm.ClassFile.FieldType.int) { frames := 3, cells := 0, slots := 0, locals := 80 } [.int (nI pat), .int (nI s), .int (nI p), .int (nI bd), .int (bI L)] (sI S 19 f) (fun v9 T9 => v9 = some (.int (nI (mLong S pat s p bd L))) ∧ ∃ f9, T9 = sI S 19 f9) := by
  refine mC.of (by decide) (Nat.le_of_ble_eq_true rfl) ?_
  intro G x q h0 C A TY
  show VM G x q h0 (sI S 19 f) 0 [(0, .ref (q 0)), (1, .int (nI pat)), (2, .int (nI s)), (3, .int (nI p)), (4, .int (nI bd)), (5, .int (bI L))] []
  have hn8 := I.2.2.2.2.2.1 pat ht
  have i1 := I.1 s hs
  have i3 := pow_256 hn8
  have he1 : p + 1 ≤ eOf S s p bd := eGo_ge 41 (p + 1)
  have he2 : eOf S s p bd ≤ mN S 1 s := eGo_le 41 (p + 1) (by omega)
  refine m_aload_n C d_X7_longest_0 0 rfl ?_
  refine m_iload_n C d_X7_longest_1 2 rfl ?_
  refine m_iload_n C d_X7_longest_2 3 rfl ?_
  refine m_iload C d_X7_longest_3 4 rfl ?_
  refine m_callV C d_X7_longest_5 ok_RX7_130 (m_endOf (sI S 19 f) s p bd (I) (by omega) (hp) (by omega)) rfl (rest := []) rfl rfl (Nat.le_of_ble_eq_true rfl) ⟨⟨by decide, by decide⟩, by decide, by decide⟩ (fun v9 T9 e9 => ?_)
  obtain ⟨rfl, e9⟩ := e9
  refine m_eq e9 ?_
  show VM G x q h0 (sI S 19 f) 8 [(0, .ref (q 0)), (1, .int (nI pat)), (2, .int (nI s)), (3, .int (nI p)), (4, .int (nI bd)), (5, .int (bI L))] [.int (nI (eOf S s p bd))]
  refine m_istore C d_X7_longest_8 (lv' := [(6, .int (nI (eOf S s p bd))), (0, .ref (q 0)), (1, .int (nI pat)), (2, .int (nI s)), (3, .int (nI p)), (4, .int (nI bd)), (5, .int (bI L))]) (by decide) rfl ?_
  refine m_iconst C d_X7_longest_10 (v := (nI 0)) rfl ?_
  refine m_istore C d_X7_longest_11 (lv' := [(7, .int (nI 0)), (6, .int (nI (eOf S s p bd))), (0, .ref (q 0)), (1, .int (nI pat)), (2, .int (nI s)), (3, .int (nI p)), (4, .int (nI bd)), (5, .int (bI L))]) (by decide) rfl ?_
  refine m_iconst C d_X7_longest_13 (v := (nI 1)) rfl ?_
  refine m_istore C d_X7_longest_14 (lv' := [(8, .int (nI 1)), (7, .int (nI 0)), (6, .int (nI (eOf S s p bd))), (0, .ref (q 0)), (1, .int (nI pat)), (2, .int (nI s)), (3, .int (nI p)), (4, .int (nI bd)), (5, .int (bI L))]) (by decide) rfl ?_
  have loop_16 : ∀ (fuel : Nat) (w : Nat) (g : Nat → Int32), (1 ≤ w ∧ w ≤ 2 ^ mN S 8 pat) → (257 - w) < fuel → VM G x q h0 (sI S 19 g) 16 [(0, .ref (q 0)), (1, .int (nI pat)), (2, .int (nI s)), (3, .int (nI p)), (4, .int (nI bd)), (5, .int (bI L)), (6, .int (nI (eOf S s p bd))), (7, .int (nI (mLoW S pat s p bd L w))), (8, .int (nI w))] [] := by
    intro fuel
    induction fuel with
    | zero => intro w g hw hf9; exact absurd hf9 (Nat.not_lt_zero _)
    | succ fuel ih_16 =>
      intro w g hw hf9
      refine m_iload C d_X7_longest_16 8 rfl ?_
      refine m_iconst C d_X7_longest_18 (v := (nI 1)) rfl ?_
      refine m_aload_n C d_X7_longest_19 0 rfl ?_
      refine m_get C d_X7_longest_20 fd_RX7_33 (v := .ref (q 8)) rfl ?_
      refine m_iload_n C d_X7_longest_23 1 rfl ?_
      refine m_ald C d_X7_longest_24 (k := 8) (by decide) rfl (by show _ < 21; omega) (by decide) ?_
      refine m_st (st' := [.int (nI (mN S 8 pat)), .int (nI 1), .int (nI w)]) rfl ?_
      refine mn_ishl C d_X7_longest_25 (by omega) ?_
      refine m_st (st' := [.int (nI (2 ^ mN S 8 pat)), .int (nI w)]) (by rw [Nat.one_mul]) ?_
      refine mn_icmp_ge C d_X7_longest_26 (tgt := 109) rfl (by omega) (by omega) (fun c_26 => ?_) (fun c_26 => ?_)
      · skip
        obtain rfl : w = 2 ^ mN S 8 pat := by omega
        refine m_iload C d_X7_longest_109 7 rfl ?_
        exact m_iret C A TY d_X7_longest_111 rfl (⟨rfl, _, rfl⟩)
      · skip
        have join_60 : ∀ (g2 : Nat → Int32), VM G x q h0 (sI S 19 g2) 60 [(0, .ref (q 0)), (1, .int (nI pat)), (2, .int (nI s)), (3, .int (nI p)), (4, .int (nI bd)), (5, .int (bI L)), (6, .int (nI (eOf S s p bd))), (7, .int (nI (mLoW S pat s p bd L w))), (8, .int (nI w))] [.int (gI S pat s p (eOf S s p bd) w)] := by
          intro g2
          refine m_istore C d_X7_longest_60 (lv' := [(9, .int (gI S pat s p (eOf S s p bd) w)), (0, .ref (q 0)), (1, .int (nI pat)), (2, .int (nI s)), (3, .int (nI p)), (4, .int (nI bd)), (5, .int (bI L)), (6, .int (nI (eOf S s p bd))), (7, .int (nI (mLoW S pat s p bd L w))), (8, .int (nI w))]) (by decide) rfl ?_
          have join_101 : VM G x q h0 (sI S 19 g2) 101 [(0, .ref (q 0)), (1, .int (nI pat)), (2, .int (nI s)), (3, .int (nI p)), (4, .int (nI bd)), (5, .int (bI L)), (6, .int (nI (eOf S s p bd))), (8, .int (nI w))] [.int (nI (mLoW S pat s p bd L (w + 1)))] := by
            refine m_istore C d_X7_longest_101 (lv' := [(7, .int (nI (mLoW S pat s p bd L (w + 1)))), (0, .ref (q 0)), (1, .int (nI pat)), (2, .int (nI s)), (3, .int (nI p)), (4, .int (nI bd)), (5, .int (bI L)), (6, .int (nI (eOf S s p bd))), (8, .int (nI w))]) (by decide) rfl ?_
            refine mn_iinc C d_X7_longest_103 (lv' := [(8, .int (nI (w + 1))), (7, .int (nI (mLoW S pat s p bd L (w + 1)))), (0, .ref (q 0)), (1, .int (nI pat)), (2, .int (nI s)), (3, .int (nI p)), (4, .int (nI bd)), (5, .int (bI L)), (6, .int (nI (eOf S s p bd)))]) 8 rfl (nI_inc _ rfl) (by decide) rfl ?_
            refine m_goto C d_X7_longest_106 (tgt := 16) rfl ?_
            refine m_lv (lv' := [(0, .ref (q 0)), (1, .int (nI pat)), (2, .int (nI s)), (3, .int (nI p)), (4, .int (nI bd)), (5, .int (bI L)), (6, .int (nI (eOf S s p bd))), (7, .int (nI (mLoW S pat s p bd L (w + 1)))), (8, .int (nI (w + 1)))]) [2, 3, 4, 5, 6, 7, 8, 1, 0] rfl ?_
            exact ih_16 (w + 1) g2 (by omega) (by omega)
          refine m_iload C d_X7_longest_62 0 rfl ?_
          refine m_if_le C d_X7_longest_64 (tgt := 99) rfl (fun c_64 => ?_) (fun c_64 => ?_)
          · skip
            have hl1 := mLoW_le (S := S) (pat := pat) (s := s) (p := p) (bd := bd) (L := L) w
            refine m_iload C d_X7_longest_99 8 rfl ?_
            refine m_lv (lv' := [(0, .ref (q 0)), (1, .int (nI pat)), (2, .int (nI s)), (3, .int (nI p)), (4, .int (nI bd)), (5, .int (bI L)), (6, .int (nI (eOf S s p bd))), (8, .int (nI w))]) [1, 2, 3, 4, 5, 6, 7, 9] rfl ?_
            refine m_st (st' := [.int (nI (mLoW S pat s p bd L (w + 1)))]) (by rw [mLoW_succ, if_neg (fun z => gI_no hn8 c_64 ⟨z.2.1, z.2.2.1⟩)]) ?_
            exact join_101  
          · skip
            obtain ⟨c9, c8, c7⟩ := gI_yes hn8 c_64
            have hl1 := mLoW_le (S := S) (pat := pat) (s := s) (p := p) (bd := bd) (L := L) w
            have hl2 := goN_le (S := S) (pat := pat) (way := w) (s := s) (fr := p) (e := eOf S s p bd)
            refine m_lve (lv' := [(9, .int (nI (goN S pat w s p (eOf S s p bd)))), (0, .ref (q 0)), (1, .int (nI pat)), (2, .int (nI s)), (3, .int (nI p)), (4, .int (nI bd)), (5, .int (bI L)), (6, .int (nI (eOf S s p bd))), (7, .int (nI (mLoW S pat s p bd L w))), (8, .int (nI w))]) (by rw [c7]) ?_
            refine m_iload C d_X7_longest_67 8 rfl ?_
            refine mn_if_eq C d_X7_longest_69 (tgt := 94) rfl (by omega) (fun c_69 => ?_) (fun c_69 => ?_)
            · skip
              refine m_iload C d_X7_longest_94 0 rfl ?_
              refine m_goto C d_X7_longest_96 (tgt := 101) rfl ?_
              refine m_lv (lv' := [(0, .ref (q 0)), (1, .int (nI pat)), (2, .int (nI s)), (3, .int (nI p)), (4, .int (nI bd)), (5, .int (bI L)), (6, .int (nI (eOf S s p bd))), (8, .int (nI w))]) [1, 2, 3, 4, 5, 6, 7, 9] rfl ?_
              refine m_st (st' := [.int (nI (mLoW S pat s p bd L (w + 1)))]) (by rw [mLoW_succ, if_pos ⟨by omega, c9, c8, Or.inl c_69⟩]) ?_
              exact join_101  
            · skip
              refine m_iload C d_X7_longest_72 6 rfl ?_
              refine mb_if_eq C d_X7_longest_74 (tgt := 87) rfl (fun c_74 => ?_) (fun c_74 => ?_)
              · skip
                refine m_iload C d_X7_longest_87 0 rfl ?_
                refine m_iload C d_X7_longest_89 8 rfl ?_
                refine mn_icmp_ge C d_X7_longest_91 (tgt := 99) rfl (by omega) (by omega) (fun c_91 => ?_) (fun c_91 => ?_)
                · skip
                  refine m_iload C d_X7_longest_99 8 rfl ?_
                  refine m_lv (lv' := [(0, .ref (q 0)), (1, .int (nI pat)), (2, .int (nI s)), (3, .int (nI p)), (4, .int (nI bd)), (5, .int (bI L)), (6, .int (nI (eOf S s p bd))), (8, .int (nI w))]) [1, 2, 3, 4, 5, 6, 7, 9] rfl ?_
                  refine m_st (st' := [.int (nI (mLoW S pat s p bd L (w + 1)))]) (by rw [mLoW_succ, if_neg (fun z => z.2.2.2.elim (by omega) (fun y => by rw [if_neg (show ¬ L = true by rw [c_74]; decide)] at y; omega))]) ?_
                  exact join_101  
                · skip
                  refine m_iload C d_X7_longest_94 0 rfl ?_
                  refine m_goto C d_X7_longest_96 (tgt := 101) rfl ?_
                  refine m_lv (lv' := [(0, .ref (q 0)), (1, .int (nI pat)), (2, .int (nI s)), (3, .int (nI p)), (4, .int (nI bd)), (5, .int (bI L)), (6, .int (nI (eOf S s p bd))), (8, .int (nI w))]) [1, 2, 3, 4, 5, 6, 7, 9] rfl ?_
                  refine m_st (st' := [.int (nI (mLoW S pat s p bd L (w + 1)))]) (by rw [mLoW_succ, if_pos ⟨by omega, c9, c8, Or.inr (by rw [if_neg (show ¬ L = true by rw [c_74]; decide)]; exact c_91)⟩]) ?_
                  exact join_101  
              · skip
                refine m_iload C d_X7_longest_77 0 rfl ?_
                refine m_iload C d_X7_longest_79 8 rfl ?_
                refine mn_icmp_le C d_X7_longest_81 (tgt := 99) rfl (by omega) (by omega) (fun c_81 => ?_) (fun c_81 => ?_)
                · skip
                  refine m_iload C d_X7_longest_99 8 rfl ?_
                  refine m_lv (lv' := [(0, .ref (q 0)), (1, .int (nI pat)), (2, .int (nI s)), (3, .int (nI p)), (4, .int (nI bd)), (5, .int (bI L)), (6, .int (nI (eOf S s p bd))), (8, .int (nI w))]) [1, 2, 3, 4, 5, 6, 7, 9] rfl ?_
                  refine m_st (st' := [.int (nI (mLoW S pat s p bd L (w + 1)))]) (by rw [mLoW_succ, if_neg (fun z => z.2.2.2.elim (by omega) (fun y => by rw [if_pos c_74] at y; omega))]) ?_
                  exact join_101  
                · skip
                  refine m_goto C d_X7_longest_84 (tgt := 94) rfl ?_
                  refine m_iload C d_X7_longest_94 0 rfl ?_
                  refine m_goto C d_X7_longest_96 (tgt := 101) rfl ?_
                  refine m_lv (lv' := [(0, .ref (q 0)), (1, .int (nI pat)), (2, .int (nI s)), (3, .int (nI p)), (4, .int (nI bd)), (5, .int (bI L)), (6, .int (nI (eOf S s p bd))), (8, .int (nI w))]) [1, 2, 3, 4, 5, 6, 7, 9] rfl ?_
                  refine m_st (st' := [.int (nI (mLoW S pat s p bd L (w + 1)))]) (by rw [mLoW_succ, if_pos ⟨by omega, c9, c8, Or.inr (by rw [if_pos c_74]; exact c_81)⟩]) ?_
                  exact join_101  
        refine m_aload_n C d_X7_longest_29 0 rfl ?_
        refine m_get C d_X7_longest_30 fd_RX7_39 (v := .ref (q 10)) rfl ?_
        refine m_sipush C d_X7_longest_33 (v := (nI 256)) rfl ?_
        refine m_iload_n C d_X7_longest_36 1 rfl ?_
        refine mn_imul C d_X7_longest_37 ?_
        refine m_iload C d_X7_longest_38 8 rfl ?_
        refine mn_iadd C d_X7_longest_40 ?_
        refine m_zld C d_X7_longest_41 (k := 10) (by decide) rfl (by show _ < 5376; omega) (by decide) ?_
        refine m_st (st' := [.int (bI (mB S 10 ((256 * pat) + w)))]) rfl ?_
        refine mb_if_eq C d_X7_longest_42 (tgt := 59) rfl (fun c_42 => ?_) (fun c_42 => ?_)
        · skip
          refine m_iconst C d_X7_longest_59 (v := ((-1))) rfl ?_
          refine m_st (st' := [.int (gI S pat s p (eOf S s p bd) w)]) (by rw [gI, if_neg (by rw [c_42]; decide)]) ?_
          exact join_60 g 
        · skip
          refine m_aload_n C d_X7_longest_45 0 rfl ?_
          refine m_iload_n C d_X7_longest_46 1 rfl ?_
          refine m_iload C d_X7_longest_47 8 rfl ?_
          refine m_iload_n C d_X7_longest_49 2 rfl ?_
          refine m_iload_n C d_X7_longest_50 3 rfl ?_
          refine m_iload C d_X7_longest_51 6 rfl ?_
          refine m_callV C d_X7_longest_53 ok_RX7_133 (m_goes S g pat w s p (eOf S s p bd) I ht (by omega) hs (by omega) (by omega)) rfl (rest := []) rfl rfl (Nat.le_of_ble_eq_true rfl) ⟨⟨by decide, by decide⟩, by decide, by decide⟩ (fun v9 T9 e9 => ?_)
          obtain ⟨rfl, f9, rfl⟩ := e9
          show VM G x q h0 (sI S 19 f9) 56 [(0, .ref (q 0)), (1, .int (nI pat)), (2, .int (nI s)), (3, .int (nI p)), (4, .int (nI bd)), (5, .int (bI L)), (6, .int (nI (eOf S s p bd))), (7, .int (nI (mLoW S pat s p bd L w))), (8, .int (nI w))] [.int (goI S pat w s p (eOf S s p bd))]
          refine m_goto C d_X7_longest_56 (tgt := 60) rfl ?_
          refine m_st (st' := [.int (gI S pat s p (eOf S s p bd) w)]) (by rw [gI, if_pos c_42]) ?_
          exact join_60 f9 
  refine m_lv (lv' := [(0, .ref (q 0)), (1, .int (nI pat)), (2, .int (nI s)), (3, .int (nI p)), (4, .int (nI bd)), (5, .int (bI L)), (6, .int (nI (eOf S s p bd))), (7, .int (nI 0)), (8, .int (nI 1))]) [3, 4, 5, 6, 7, 8, 2, 1, 0] rfl ?_
  refine m_lve (lv' := [(0, .ref (q 0)), (1, .int (nI pat)), (2, .int (nI s)), (3, .int (nI p)), (4, .int (nI bd)), (5, .int (bI L)), (6, .int (nI (eOf S s p bd))), (7, .int (nI (mLoW S pat s p bd L 1))), (8, .int (nI 1))]) (rfl) ?_
  exact loop_16 _ 1 f (by omega) (Nat.lt_succ_self _)
end
