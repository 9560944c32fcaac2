-- ===== PART A: goes FIRST, ahead of the names: the tables' words, and 'selects' of the private methods out of them =====
/-- a private method of a class that the tables say can be made, by its rows of tables_1 -/
def lw_okq (q : MethodName × Nat) : Prop := (q.1.cls ≠ "java/lang/invoke/MethodHandle" ∧ q.1.cls ≠ "java/lang/invoke/VarHandle") ∧ Cond.instantiable q.1.cls q.2 ∈ tables_1 ∧ Cond.privateMethod q.1 ∈ tables_1 ∧ Cond.instanceMethod q.1 ∈ tables_1
theorem lw_p0 : lw_okq (⟨"DeltaPress", "findLongest", "(I)V"⟩, 10) := ⟨⟨by decide +kernel, by decide +kernel⟩, List.mem_of_getElem? (i := 17) (by decide +kernel), List.mem_of_getElem? (i := 161) (by decide +kernel), List.mem_of_getElem? (i := 162) (by decide +kernel)⟩
theorem lw_p1 : lw_okq (⟨"DeltaPress$SuffixTree", "emptySlots", "()V"⟩, 15) := ⟨⟨by decide +kernel, by decide +kernel⟩, List.mem_of_getElem? (i := 41) (by decide +kernel), List.mem_of_getElem? (i := 174) (by decide +kernel), List.mem_of_getElem? (i := 175) (by decide +kernel)⟩
theorem lw_p2 : lw_okq (⟨"DeltaPress$SuffixTree", "addLetter", "(I)V"⟩, 15) := ⟨⟨by decide +kernel, by decide +kernel⟩, List.mem_of_getElem? (i := 41) (by decide +kernel), List.mem_of_getElem? (i := 195) (by decide +kernel), List.mem_of_getElem? (i := 196) (by decide +kernel)⟩
theorem lw_p3 : lw_okq (⟨"DeltaPress$SuffixTree", "goDown", "(I)I"⟩, 15) := ⟨⟨by decide +kernel, by decide +kernel⟩, List.mem_of_getElem? (i := 41) (by decide +kernel), List.mem_of_getElem? (i := 199) (by decide +kernel), List.mem_of_getElem? (i := 200) (by decide +kernel)⟩
theorem lw_p4 : lw_okq (⟨"DeltaPress$SuffixTree", "slotOf", "(IB)I"⟩, 15) := ⟨⟨by decide +kernel, by decide +kernel⟩, List.mem_of_getElem? (i := 41) (by decide +kernel), List.mem_of_getElem? (i := 203) (by decide +kernel), List.mem_of_getElem? (i := 204) (by decide +kernel)⟩
theorem lw_p5 : lw_okq (⟨"DeltaPress$SuffixTree", "split", "(II)I"⟩, 15) := ⟨⟨by decide +kernel, by decide +kernel⟩, List.mem_of_getElem? (i := 41) (by decide +kernel), List.mem_of_getElem? (i := 208) (by decide +kernel), List.mem_of_getElem? (i := 209) (by decide +kernel)⟩
theorem lw_p6 : lw_okq (⟨"DeltaPress$SuffixTree", "addNode", "(III)I"⟩, 15) := ⟨⟨by decide +kernel, by decide +kernel⟩, List.mem_of_getElem? (i := 41) (by decide +kernel), List.mem_of_getElem? (i := 212) (by decide +kernel), List.mem_of_getElem? (i := 213) (by decide +kernel)⟩
theorem lw_p7 : lw_okq (⟨"DeltaPress$SuffixTree", "addLeaf", "(II)V"⟩, 15) := ⟨⟨by decide +kernel, by decide +kernel⟩, List.mem_of_getElem? (i := 41) (by decide +kernel), List.mem_of_getElem? (i := 216) (by decide +kernel), List.mem_of_getElem? (i := 217) (by decide +kernel)⟩
theorem lw_p8 : lw_okq (⟨"DeltaPress$SuffixTree", "goToNextSuffix", "()V"⟩, 15) := ⟨⟨by decide +kernel, by decide +kernel⟩, List.mem_of_getElem? (i := 41) (by decide +kernel), List.mem_of_getElem? (i := 220) (by decide +kernel), List.mem_of_getElem? (i := 221) (by decide +kernel)⟩
theorem lw_p9 : lw_okq (⟨"DeltaPress$SuffixTree", "sameLetters", "(I[BII)I"⟩, 15) := ⟨⟨by decide +kernel, by decide +kernel⟩, List.mem_of_getElem? (i := 41) (by decide +kernel), List.mem_of_getElem? (i := 232) (by decide +kernel), List.mem_of_getElem? (i := 233) (by decide +kernel)⟩
theorem lw_p10 : lw_okq (⟨"DeltaPress", "writeNew", "(II)V"⟩, 10) := ⟨⟨by decide +kernel, by decide +kernel⟩, List.mem_of_getElem? (i := 17) (by decide +kernel), List.mem_of_getElem? (i := 240) (by decide +kernel), List.mem_of_getElem? (i := 241) (by decide +kernel)⟩
theorem lw_p11 : lw_okq (⟨"DeltaPress", "writeCopy", "(II)V"⟩, 10) := ⟨⟨by decide +kernel, by decide +kernel⟩, List.mem_of_getElem? (i := 17) (by decide +kernel), List.mem_of_getElem? (i := 257) (by decide +kernel), List.mem_of_getElem? (i := 258) (by decide +kernel)⟩
theorem lw_p12 : lw_okq (⟨"java/lang/Throwable", "fillInStackTrace", "(I)Ljava/lang/Throwable;"⟩, 6) := ⟨⟨by decide +kernel, by decide +kernel⟩, List.mem_of_getElem? (i := 320) (by decide +kernel), List.mem_of_getElem? (i := 318) (by decide +kernel), List.mem_of_getElem? (i := 319) (by decide +kernel)⟩
theorem lw_p13 : lw_okq (⟨"DeltaPress$DeltaReader", "readNumber", "(LDeltaPress$Text;)I"⟩, 1) := ⟨⟨by decide +kernel, by decide +kernel⟩, List.mem_of_getElem? (i := 96) (by decide +kernel), List.mem_of_getElem? (i := 407) (by decide +kernel), List.mem_of_getElem? (i := 408) (by decide +kernel)⟩
theorem lw_p14 : lw_okq (⟨"DeltaPress$DeltaReader", "isCopyRead", "(LDeltaPress$Text;ILDeltaPress$Text;LDeltaPress$Text;I)Z"⟩, 1) := ⟨⟨by decide +kernel, by decide +kernel⟩, List.mem_of_getElem? (i := 96) (by decide +kernel), List.mem_of_getElem? (i := 417) (by decide +kernel), List.mem_of_getElem? (i := 418) (by decide +kernel)⟩
theorem lw_p15 : lw_okq (⟨"DeltaPress$DeltaReader", "readChosenBytes", "(LDeltaPress$Text;II)I"⟩, 1) := ⟨⟨by decide +kernel, by decide +kernel⟩, List.mem_of_getElem? (i := 96) (by decide +kernel), List.mem_of_getElem? (i := 421) (by decide +kernel), List.mem_of_getElem? (i := 422) (by decide +kernel)⟩
def lw_privs_1 : List (MethodName × Nat) := [(⟨"DeltaPress", "findLongest", "(I)V"⟩, 10), (⟨"DeltaPress$SuffixTree", "emptySlots", "()V"⟩, 15), (⟨"DeltaPress$SuffixTree", "addLetter", "(I)V"⟩, 15), (⟨"DeltaPress$SuffixTree", "goDown", "(I)I"⟩, 15), (⟨"DeltaPress$SuffixTree", "slotOf", "(IB)I"⟩, 15), (⟨"DeltaPress$SuffixTree", "split", "(II)I"⟩, 15), (⟨"DeltaPress$SuffixTree", "addNode", "(III)I"⟩, 15), (⟨"DeltaPress$SuffixTree", "addLeaf", "(II)V"⟩, 15), (⟨"DeltaPress$SuffixTree", "goToNextSuffix", "()V"⟩, 15), (⟨"DeltaPress$SuffixTree", "sameLetters", "(I[BII)I"⟩, 15), (⟨"DeltaPress", "writeNew", "(II)V"⟩, 10), (⟨"DeltaPress", "writeCopy", "(II)V"⟩, 10), (⟨"java/lang/Throwable", "fillInStackTrace", "(I)Ljava/lang/Throwable;"⟩, 6), (⟨"DeltaPress$DeltaReader", "readNumber", "(LDeltaPress$Text;)I"⟩, 1), (⟨"DeltaPress$DeltaReader", "isCopyRead", "(LDeltaPress$Text;ILDeltaPress$Text;LDeltaPress$Text;I)Z"⟩, 1), (⟨"DeltaPress$DeltaReader", "readChosenBytes", "(LDeltaPress$Text;II)I"⟩, 1)]
theorem lw_r1 : ∀ q ∈ lw_privs_1, lw_okq q := List.forall_mem_cons.mpr ⟨lw_p0, List.forall_mem_cons.mpr ⟨lw_p1, List.forall_mem_cons.mpr ⟨lw_p2, List.forall_mem_cons.mpr ⟨lw_p3, List.forall_mem_cons.mpr ⟨lw_p4, List.forall_mem_cons.mpr ⟨lw_p5, List.forall_mem_cons.mpr ⟨lw_p6, List.forall_mem_cons.mpr ⟨lw_p7, List.forall_mem_cons.mpr ⟨lw_p8, List.forall_mem_cons.mpr ⟨lw_p9, List.forall_mem_cons.mpr ⟨lw_p10, List.forall_mem_cons.mpr ⟨lw_p11, List.forall_mem_cons.mpr ⟨lw_p12, List.forall_mem_cons.mpr ⟨lw_p13, List.forall_mem_cons.mpr ⟨lw_p14, List.forall_mem_cons.mpr ⟨lw_p15, fun _ h => absurd h List.not_mem_nil⟩⟩⟩⟩⟩⟩⟩⟩⟩⟩⟩⟩⟩⟩⟩⟩
theorem lw_p16 : lw_okq (⟨"DeltaPress$DeltaReader", "isNewRead", "(LDeltaPress$Text;ILDeltaPress$Text;I)Z"⟩, 1) := ⟨⟨by decide +kernel, by decide +kernel⟩, List.mem_of_getElem? (i := 96) (by decide +kernel), List.mem_of_getElem? (i := 426) (by decide +kernel), List.mem_of_getElem? (i := 427) (by decide +kernel)⟩
theorem lw_p17 : lw_okq (⟨"DeltaPressModel", "refuse", "(I)I"⟩, 16) := ⟨⟨by decide +kernel, by decide +kernel⟩, List.mem_of_getElem? (i := 486) (by decide +kernel), List.mem_of_getElem? (i := 551) (by decide +kernel), List.mem_of_getElem? (i := 552) (by decide +kernel)⟩
theorem lw_p18 : lw_okq (⟨"DeltaPressModel", "putNumber", "(I)V"⟩, 16) := ⟨⟨by decide +kernel, by decide +kernel⟩, List.mem_of_getElem? (i := 486) (by decide +kernel), List.mem_of_getElem? (i := 571) (by decide +kernel), List.mem_of_getElem? (i := 572) (by decide +kernel)⟩
theorem lw_p19 : lw_okq (⟨"DeltaPressModel", "put", "(I)V"⟩, 16) := ⟨⟨by decide +kernel, by decide +kernel⟩, List.mem_of_getElem? (i := 486) (by decide +kernel), List.mem_of_getElem? (i := 575) (by decide +kernel), List.mem_of_getElem? (i := 576) (by decide +kernel)⟩
theorem lw_p20 : lw_okq (⟨"DeltaPressModel", "look", "(I)V"⟩, 16) := ⟨⟨by decide +kernel, by decide +kernel⟩, List.mem_of_getElem? (i := 486) (by decide +kernel), List.mem_of_getElem? (i := 579) (by decide +kernel), List.mem_of_getElem? (i := 580) (by decide +kernel)⟩
theorem lw_p21 : lw_okq (⟨"DeltaPressModel", "putFresh", "(II)V"⟩, 16) := ⟨⟨by decide +kernel, by decide +kernel⟩, List.mem_of_getElem? (i := 486) (by decide +kernel), List.mem_of_getElem? (i := 584) (by decide +kernel), List.mem_of_getElem? (i := 585) (by decide +kernel)⟩
theorem lw_p22 : lw_okq (⟨"DeltaPressModel", "putCopy", "()V"⟩, 16) := ⟨⟨by decide +kernel, by decide +kernel⟩, List.mem_of_getElem? (i := 486) (by decide +kernel), List.mem_of_getElem? (i := 588) (by decide +kernel), List.mem_of_getElem? (i := 589) (by decide +kernel)⟩
theorem lw_p23 : lw_okq (⟨"DeltaPressModel", "number", "()I"⟩, 16) := ⟨⟨by decide +kernel, by decide +kernel⟩, List.mem_of_getElem? (i := 486) (by decide +kernel), List.mem_of_getElem? (i := 596) (by decide +kernel), List.mem_of_getElem? (i := 597) (by decide +kernel)⟩
theorem lw_p24 : lw_okq (⟨"DeltaPressModel", "next", "()I"⟩, 16) := ⟨⟨by decide +kernel, by decide +kernel⟩, List.mem_of_getElem? (i := 486) (by decide +kernel), List.mem_of_getElem? (i := 600) (by decide +kernel), List.mem_of_getElem? (i := 601) (by decide +kernel)⟩
theorem lw_p25 : lw_okq (⟨"DeltaPressModel", "part", "(I)V"⟩, 16) := ⟨⟨by decide +kernel, by decide +kernel⟩, List.mem_of_getElem? (i := 486) (by decide +kernel), List.mem_of_getElem? (i := 604) (by decide +kernel), List.mem_of_getElem? (i := 605) (by decide +kernel)⟩
theorem lw_p26 : lw_okq (⟨"DeltaPressModel", "give", "(BI)V"⟩, 16) := ⟨⟨by decide +kernel, by decide +kernel⟩, List.mem_of_getElem? (i := 486) (by decide +kernel), List.mem_of_getElem? (i := 608) (by decide +kernel), List.mem_of_getElem? (i := 609) (by decide +kernel)⟩
def lw_privs_2 : List (MethodName × Nat) := [(⟨"DeltaPress$DeltaReader", "isNewRead", "(LDeltaPress$Text;ILDeltaPress$Text;I)Z"⟩, 1), (⟨"DeltaPressModel", "refuse", "(I)I"⟩, 16), (⟨"DeltaPressModel", "putNumber", "(I)V"⟩, 16), (⟨"DeltaPressModel", "put", "(I)V"⟩, 16), (⟨"DeltaPressModel", "look", "(I)V"⟩, 16), (⟨"DeltaPressModel", "putFresh", "(II)V"⟩, 16), (⟨"DeltaPressModel", "putCopy", "()V"⟩, 16), (⟨"DeltaPressModel", "number", "()I"⟩, 16), (⟨"DeltaPressModel", "next", "()I"⟩, 16), (⟨"DeltaPressModel", "part", "(I)V"⟩, 16), (⟨"DeltaPressModel", "give", "(BI)V"⟩, 16)]
theorem lw_r2 : ∀ q ∈ lw_privs_2, lw_okq q := List.forall_mem_cons.mpr ⟨lw_p16, List.forall_mem_cons.mpr ⟨lw_p17, List.forall_mem_cons.mpr ⟨lw_p18, List.forall_mem_cons.mpr ⟨lw_p19, List.forall_mem_cons.mpr ⟨lw_p20, List.forall_mem_cons.mpr ⟨lw_p21, List.forall_mem_cons.mpr ⟨lw_p22, List.forall_mem_cons.mpr ⟨lw_p23, List.forall_mem_cons.mpr ⟨lw_p24, List.forall_mem_cons.mpr ⟨lw_p25, List.forall_mem_cons.mpr ⟨lw_p26, fun _ h => absurd h List.not_mem_nil⟩⟩⟩⟩⟩⟩⟩⟩⟩⟩⟩
def lw_privs : List (MethodName × Nat) := lw_privs_1 ++ (lw_privs_2)
def lw_tbl : List Cond := k2_sels lw_privs ++ tables_1
theorem lw_privs_ok : ∀ q ∈ lw_privs, lw_okq q := by
  show ∀ q ∈ lw_privs_1 ++ (lw_privs_2), lw_okq q
  exact List.forall_mem_append.mpr ⟨lw_r1, lw_r2⟩

/-- every word of the tables that may be handed to a callee -/
def wz : List Cond := lw_tbl.filter goodWord
theorem wz_tbl : ∀ w ∈ wz, w ∈ lw_tbl := fun w h => (List.mem_filter.mp h).1
theorem wz_good : GoodIn wz wz := fun w h => ⟨h, good_of_word (List.mem_filter.mp h).2⟩
theorem wz_cons {y : Cond} (hy : y ∈ wz) : GoodIn wz (y :: wz) := fun w h => (List.mem_cons.mp h).elim (fun e => by rw [e]; exact wz_good _ hy) (wz_good w)
theorem wz_V {own : String} {idx : Nat} {C : String} {y : MethodName} {c : ByteArray} {n : Nat} {r : Option FieldType} (h1 : Cond.methodLink own idx y ∈ wz) (h2 : Cond.instanceMethod y ∈ wz) (h3 : Cond.selects C y y ∈ wz) (h4 : Cond.initialized C ∈ wz) (h5 : Cond.code y c n r ∈ wz) : GoodIn wz (wsV own idx C y (.code y c n r :: wz)) := by
  intro w h
  rcases List.mem_append.mp h with h | h
  · simp only [List.mem_cons, List.not_mem_nil, or_false] at h
    rcases h with rfl | rfl | rfl | rfl <;> exact wz_good _ (by assumption)
  · exact wz_cons h5 w h
theorem wz_S {own : String} {idx : Nat} {y : MethodName} {c : ByteArray} {n : Nat} {r : Option FieldType} (h1 : Cond.methodLink own idx y ∈ wz) (h2 : Cond.static y ∈ wz) (h4 : Cond.initialized y.cls ∈ wz) (h5 : Cond.code y c n r ∈ wz) : GoodIn wz (va_wsS own idx y (.code y c n r :: wz)) := by
  intro w h
  rcases List.mem_append.mp h with h | h
  · simp only [List.mem_cons, List.not_mem_nil, or_false] at h
    rcases h with rfl | rfl | rfl <;> exact wz_good _ (by assumption)
  · exact wz_cons h5 w h
set_option maxRecDepth 20000 in
theorem zw_0 : Cond.initialized "DeltaPressLaw" ∈ wz := List.mem_filter.mpr ⟨(List.mem_append_right _ (List.mem_append_left _ (List.mem_of_getElem? (i := 0) rfl))), by decide +kernel⟩
set_option maxRecDepth 20000 in
theorem zw_1 : Cond.initialized "DeltaPress" ∈ wz := List.mem_filter.mpr ⟨(List.mem_append_right _ (List.mem_append_left _ (List.mem_of_getElem? (i := 1) rfl))), by decide +kernel⟩
set_option maxRecDepth 20000 in
theorem zw_2 : Cond.initialized "DeltaPress$Text" ∈ wz := List.mem_filter.mpr ⟨(List.mem_append_right _ (List.mem_append_left _ (List.mem_of_getElem? (i := 2) rfl))), by decide +kernel⟩
set_option maxRecDepth 20000 in
theorem zw_3 : Cond.initialized "DeltaPress$SuffixTree" ∈ wz := List.mem_filter.mpr ⟨(List.mem_append_right _ (List.mem_append_left _ (List.mem_of_getElem? (i := 3) rfl))), by decide +kernel⟩
set_option maxRecDepth 20000 in
theorem zw_4 : Cond.initialized "DeltaPress$DeltaReader" ∈ wz := List.mem_filter.mpr ⟨(List.mem_append_right _ (List.mem_append_left _ (List.mem_of_getElem? (i := 4) rfl))), by decide +kernel⟩
set_option maxRecDepth 20000 in
theorem zw_5 : Cond.initialized "DeltaPressModel" ∈ wz := List.mem_filter.mpr ⟨(List.mem_append_right _ (List.mem_append_left _ (List.mem_of_getElem? (i := 5) rfl))), by decide +kernel⟩
set_option maxRecDepth 20000 in
theorem zw_6 : Cond.initialized "java/lang/Throwable" ∈ wz := List.mem_filter.mpr ⟨(List.mem_append_right _ (List.mem_append_left _ (List.mem_of_getElem? (i := 6) rfl))), by decide +kernel⟩
set_option maxRecDepth 20000 in
theorem zw_7 : Cond.initialized "java/lang/Exception" ∈ wz := List.mem_filter.mpr ⟨(List.mem_append_right _ (List.mem_append_left _ (List.mem_of_getElem? (i := 7) rfl))), by decide +kernel⟩
set_option maxRecDepth 20000 in
theorem zw_8 : Cond.initialized "java/lang/RuntimeException" ∈ wz := List.mem_filter.mpr ⟨(List.mem_append_right _ (List.mem_append_left _ (List.mem_of_getElem? (i := 8) rfl))), by decide +kernel⟩
set_option maxRecDepth 20000 in
theorem zw_9 : Cond.initialized "java/lang/IllegalStateException" ∈ wz := List.mem_filter.mpr ⟨(List.mem_append_right _ (List.mem_append_left _ (List.mem_of_getElem? (i := 9) rfl))), by decide +kernel⟩
set_option maxRecDepth 20000 in
theorem zw_10 : Cond.initialized "java/lang/IllegalArgumentException" ∈ wz := List.mem_filter.mpr ⟨(List.mem_append_right _ (List.mem_append_left _ (List.mem_of_getElem? (i := 10) rfl))), by decide +kernel⟩
set_option maxRecDepth 20000 in
theorem zw_11 : Cond.initialized "java/lang/Math" ∈ wz := List.mem_filter.mpr ⟨(List.mem_append_right _ (List.mem_append_left _ (List.mem_of_getElem? (i := 11) rfl))), by decide +kernel⟩
set_option maxRecDepth 20000 in
theorem zw_12 : Cond.initialized "java/lang/Integer" ∈ wz := List.mem_filter.mpr ⟨(List.mem_append_right _ (List.mem_append_left _ (List.mem_of_getElem? (i := 12) rfl))), by decide +kernel⟩
set_option maxRecDepth 20000 in
theorem zw_13 : Cond.initialized "java/lang/System" ∈ wz := List.mem_filter.mpr ⟨(List.mem_append_right _ (List.mem_append_left _ (List.mem_of_getElem? (i := 13) rfl))), by decide +kernel⟩
set_option maxRecDepth 20000 in
theorem zw_14 : Cond.initialized "java/lang/ArithmeticException" ∈ wz := List.mem_filter.mpr ⟨(List.mem_append_right _ (List.mem_append_left _ (List.mem_of_getElem? (i := 14) rfl))), by decide +kernel⟩
set_option maxRecDepth 20000 in
theorem zw_15 : Cond.initialized "java/lang/IndexOutOfBoundsException" ∈ wz := List.mem_filter.mpr ⟨(List.mem_append_right _ (List.mem_append_left _ (List.mem_of_getElem? (i := 15) rfl))), by decide +kernel⟩
set_option maxRecDepth 20000 in
theorem zw_16 : Cond.classLink "DeltaPressLaw" (8 : Nat) "DeltaPress" ∈ wz := List.mem_filter.mpr ⟨(List.mem_append_right _ (List.mem_append_left _ (List.mem_of_getElem? (i := 16) rfl))), by decide +kernel⟩
set_option maxRecDepth 20000 in
theorem zw_17 : Cond.instantiable "DeltaPress" (10 : Nat) ∈ wz := List.mem_filter.mpr ⟨(List.mem_append_right _ (List.mem_append_left _ (List.mem_of_getElem? (i := 17) rfl))), by decide +kernel⟩
set_option maxRecDepth 20000 in
theorem zw_18 : Cond.methodLink "DeltaPressLaw" (43 : Nat) ({ cls := "DeltaPress", name := "<init>", desc := "()V" } : MethodName) ∈ wz := List.mem_filter.mpr ⟨(List.mem_append_right _ (List.mem_append_left _ (List.mem_of_getElem? (i := 18) rfl))), by decide +kernel⟩
set_option maxRecDepth 20000 in
theorem zw_19 : Cond.instanceMethod ({ cls := "DeltaPress", name := "<init>", desc := "()V" } : MethodName) ∈ wz := List.mem_filter.mpr ⟨(List.mem_append_right _ (List.mem_append_left _ (List.mem_of_getElem? (i := 19) rfl))), by decide +kernel⟩
set_option maxRecDepth 20000 in
theorem zw_20 : Cond.code ({ cls := "DeltaPress", name := "<init>", desc := "()V" } : MethodName) prog_1_method_1_code (1 : Nat) (Option.none : Option ClassFile.FieldType) ∈ wz := List.mem_filter.mpr ⟨(List.mem_append_right _ (List.mem_append_left _ (List.mem_of_getElem? (i := 20) rfl))), by decide +kernel⟩
set_option maxRecDepth 20000 in
theorem zw_21 : Cond.methodLink "DeltaPress" (3 : Nat) ({ cls := "java/lang/Object", name := "<init>", desc := "()V" } : MethodName) ∈ wz := List.mem_filter.mpr ⟨(List.mem_append_right _ (List.mem_append_left _ (List.mem_of_getElem? (i := 21) rfl))), by decide +kernel⟩
set_option maxRecDepth 20000 in
theorem zw_22 : Cond.instanceMethod ({ cls := "java/lang/Object", name := "<init>", desc := "()V" } : MethodName) ∈ wz := List.mem_filter.mpr ⟨(List.mem_append_right _ (List.mem_append_left _ (List.mem_of_getElem? (i := 22) rfl))), by decide +kernel⟩
set_option maxRecDepth 20000 in
theorem zw_23 : Cond.code ({ cls := "java/lang/Object", name := "<init>", desc := "()V" } : MethodName) object_method_1_code (1 : Nat) (Option.none : Option ClassFile.FieldType) ∈ wz := List.mem_filter.mpr ⟨(List.mem_append_right _ (List.mem_append_left _ (List.mem_of_getElem? (i := 23) rfl))), by decide +kernel⟩
set_option maxRecDepth 20000 in
theorem zw_24 : Cond.classLink "DeltaPress" (9 : Nat) "DeltaPress$Text" ∈ wz := List.mem_filter.mpr ⟨(List.mem_append_right _ (List.mem_append_left _ (List.mem_of_getElem? (i := 24) rfl))), by decide +kernel⟩
set_option maxRecDepth 20000 in
theorem zw_25 : Cond.instantiable "DeltaPress$Text" (2 : Nat) ∈ wz := List.mem_filter.mpr ⟨(List.mem_append_right _ (List.mem_append_left _ (List.mem_of_getElem? (i := 25) rfl))), by decide +kernel⟩
set_option maxRecDepth 20000 in
theorem zw_26 : Cond.constant "DeltaPress" (11 : Nat) (65536 : Int32) ∈ wz := List.mem_filter.mpr ⟨(List.mem_append_right _ (List.mem_append_left _ (List.mem_of_getElem? (i := 26) rfl))), by decide +kernel⟩
set_option maxRecDepth 20000 in
theorem zw_27 : Cond.methodLink "DeltaPress" (12 : Nat) ({ cls := "DeltaPress$Text", name := "<init>", desc := "(I)V" } : MethodName) ∈ wz := List.mem_filter.mpr ⟨(List.mem_append_right _ (List.mem_append_left _ (List.mem_of_getElem? (i := 27) rfl))), by decide +kernel⟩
set_option maxRecDepth 20000 in
theorem zw_28 : Cond.instanceMethod ({ cls := "DeltaPress$Text", name := "<init>", desc := "(I)V" } : MethodName) ∈ wz := List.mem_filter.mpr ⟨(List.mem_append_right _ (List.mem_append_left _ (List.mem_of_getElem? (i := 28) rfl))), by decide +kernel⟩
set_option maxRecDepth 20000 in
theorem zw_29 : Cond.code ({ cls := "DeltaPress$Text", name := "<init>", desc := "(I)V" } : MethodName) prog_4_method_1_code (2 : Nat) (Option.none : Option ClassFile.FieldType) ∈ wz := List.mem_filter.mpr ⟨(List.mem_append_right _ (List.mem_append_left _ (List.mem_of_getElem? (i := 29) rfl))), by decide +kernel⟩
set_option maxRecDepth 20000 in
theorem zw_30 : Cond.methodLink "DeltaPress$Text" (1 : Nat) ({ cls := "java/lang/Object", name := "<init>", desc := "()V" } : MethodName) ∈ wz := List.mem_filter.mpr ⟨(List.mem_append_right _ (List.mem_append_left _ (List.mem_of_getElem? (i := 30) rfl))), by decide +kernel⟩
set_option maxRecDepth 20000 in
theorem zw_31 : Cond.fieldLink "DeltaPress$Text" (13 : Nat) "DeltaPress$Text" "bytes" "[B" ∈ wz := List.mem_filter.mpr ⟨(List.mem_append_right _ (List.mem_append_left _ (List.mem_of_getElem? (i := 31) rfl))), by decide +kernel⟩
set_option maxRecDepth 20000 in
theorem zw_32 : Cond.fieldLink "DeltaPress$Text" (7 : Nat) "DeltaPress$Text" "length" "I" ∈ wz := List.mem_filter.mpr ⟨(List.mem_append_right _ (List.mem_append_left _ (List.mem_of_getElem? (i := 32) rfl))), by decide +kernel⟩
set_option maxRecDepth 20000 in
theorem zw_33 : Cond.laysFinal "DeltaPress$Text" "DeltaPress$Text" "bytes" "[B" ∈ wz := List.mem_filter.mpr ⟨(List.mem_append_right _ (List.mem_append_left _ (List.mem_of_getElem? (i := 33) rfl))), by decide +kernel⟩
set_option maxRecDepth 20000 in
theorem zw_34 : Cond.soleField "DeltaPress$Text" "bytes" ∈ wz := List.mem_filter.mpr ⟨(List.mem_append_right _ (List.mem_append_left _ (List.mem_of_getElem? (i := 34) rfl))), by decide +kernel⟩
set_option maxRecDepth 20000 in
theorem zw_35 : Cond.lays "DeltaPress$Text" "DeltaPress$Text" "length" "I" ∈ wz := List.mem_filter.mpr ⟨(List.mem_append_right _ (List.mem_append_left _ (List.mem_of_getElem? (i := 35) rfl))), by decide +kernel⟩
set_option maxRecDepth 20000 in
theorem zw_36 : Cond.soleField "DeltaPress$Text" "length" ∈ wz := List.mem_filter.mpr ⟨(List.mem_append_right _ (List.mem_append_left _ (List.mem_of_getElem? (i := 36) rfl))), by decide +kernel⟩
set_option maxRecDepth 20000 in
theorem zw_37 : Cond.superclass "DeltaPress$Text" "java/lang/Object" ∈ wz := List.mem_filter.mpr ⟨(List.mem_append_right _ (List.mem_append_left _ (List.mem_of_getElem? (i := 37) rfl))), by decide +kernel⟩
set_option maxRecDepth 20000 in
theorem zw_38 : Cond.arrayClass ClassFile.FieldType.byte ∈ wz := List.mem_filter.mpr ⟨(List.mem_append_right _ (List.mem_append_left _ (List.mem_of_getElem? (i := 38) rfl))), by decide +kernel⟩
set_option maxRecDepth 20000 in
theorem zw_39 : Cond.constant "DeltaPress" (22 : Nat) (66059 : Int32) ∈ wz := List.mem_filter.mpr ⟨(List.mem_append_right _ (List.mem_append_left _ (List.mem_of_getElem? (i := 39) rfl))), by decide +kernel⟩
set_option maxRecDepth 20000 in
theorem zw_40 : Cond.classLink "DeltaPress" (29 : Nat) "DeltaPress$SuffixTree" ∈ wz := List.mem_filter.mpr ⟨(List.mem_append_right _ (List.mem_append_left _ (List.mem_of_getElem? (i := 40) rfl))), by decide +kernel⟩
set_option maxRecDepth 20000 in
theorem zw_41 : Cond.instantiable "DeltaPress$SuffixTree" (15 : Nat) ∈ wz := List.mem_filter.mpr ⟨(List.mem_append_right _ (List.mem_append_left _ (List.mem_of_getElem? (i := 41) rfl))), by decide +kernel⟩
set_option maxRecDepth 20000 in
theorem zw_43 : Cond.instanceMethod ({ cls := "DeltaPress$SuffixTree", name := "<init>", desc := "()V" } : MethodName) ∈ wz := List.mem_filter.mpr ⟨(List.mem_append_right _ (List.mem_append_left _ (List.mem_of_getElem? (i := 43) rfl))), by decide +kernel⟩
set_option maxRecDepth 20000 in
theorem zw_44 : Cond.code ({ cls := "DeltaPress$SuffixTree", name := "<init>", desc := "()V" } : MethodName) prog_3_method_1_code (1 : Nat) (Option.none : Option ClassFile.FieldType) ∈ wz := List.mem_filter.mpr ⟨(List.mem_append_right _ (List.mem_append_left _ (List.mem_of_getElem? (i := 44) rfl))), by decide +kernel⟩
set_option maxRecDepth 20000 in
theorem zw_45 : Cond.methodLink "DeltaPress$SuffixTree" (3 : Nat) ({ cls := "java/lang/Object", name := "<init>", desc := "()V" } : MethodName) ∈ wz := List.mem_filter.mpr ⟨(List.mem_append_right _ (List.mem_append_left _ (List.mem_of_getElem? (i := 45) rfl))), by decide +kernel⟩
set_option maxRecDepth 20000 in
theorem zw_46 : Cond.constant "DeltaPress$SuffixTree" (19 : Nat) (131072 : Int32) ∈ wz := List.mem_filter.mpr ⟨(List.mem_append_right _ (List.mem_append_left _ (List.mem_of_getElem? (i := 46) rfl))), by decide +kernel⟩
set_option maxRecDepth 20000 in
theorem zw_47 : Cond.constant "DeltaPress$SuffixTree" (36 : Nat) (262144 : Int32) ∈ wz := List.mem_filter.mpr ⟨(List.mem_append_right _ (List.mem_append_left _ (List.mem_of_getElem? (i := 47) rfl))), by decide +kernel⟩
set_option maxRecDepth 20000 in
theorem zw_48 : Cond.fieldLink "DeltaPress$SuffixTree" (9 : Nat) "DeltaPress$SuffixTree" "text" "[B" ∈ wz := List.mem_filter.mpr ⟨(List.mem_append_right _ (List.mem_append_left _ (List.mem_of_getElem? (i := 48) rfl))), by decide +kernel⟩
set_option maxRecDepth 20000 in
theorem zw_49 : Cond.fieldLink "DeltaPress$SuffixTree" (15 : Nat) "DeltaPress$SuffixTree" "length" "I" ∈ wz := List.mem_filter.mpr ⟨(List.mem_append_right _ (List.mem_append_left _ (List.mem_of_getElem? (i := 49) rfl))), by decide +kernel⟩
set_option maxRecDepth 20000 in
theorem zw_50 : Cond.fieldLink "DeltaPress$SuffixTree" (20 : Nat) "DeltaPress$SuffixTree" "start" "[I" ∈ wz := List.mem_filter.mpr ⟨(List.mem_append_right _ (List.mem_append_left _ (List.mem_of_getElem? (i := 50) rfl))), by decide +kernel⟩
set_option maxRecDepth 20000 in
theorem zw_51 : Cond.fieldLink "DeltaPress$SuffixTree" (24 : Nat) "DeltaPress$SuffixTree" "end" "[I" ∈ wz := List.mem_filter.mpr ⟨(List.mem_append_right _ (List.mem_append_left _ (List.mem_of_getElem? (i := 51) rfl))), by decide +kernel⟩
set_option maxRecDepth 20000 in
theorem zw_52 : Cond.fieldLink "DeltaPress$SuffixTree" (27 : Nat) "DeltaPress$SuffixTree" "parent" "[I" ∈ wz := List.mem_filter.mpr ⟨(List.mem_append_right _ (List.mem_append_left _ (List.mem_of_getElem? (i := 52) rfl))), by decide +kernel⟩
set_option maxRecDepth 20000 in
theorem zw_53 : Cond.fieldLink "DeltaPress$SuffixTree" (30 : Nat) "DeltaPress$SuffixTree" "link" "[I" ∈ wz := List.mem_filter.mpr ⟨(List.mem_append_right _ (List.mem_append_left _ (List.mem_of_getElem? (i := 53) rfl))), by decide +kernel⟩
set_option maxRecDepth 20000 in
theorem zw_54 : Cond.fieldLink "DeltaPress$SuffixTree" (33 : Nat) "DeltaPress$SuffixTree" "nodes" "I" ∈ wz := List.mem_filter.mpr ⟨(List.mem_append_right _ (List.mem_append_left _ (List.mem_of_getElem? (i := 54) rfl))), by decide +kernel⟩
set_option maxRecDepth 20000 in
theorem zw_55 : Cond.fieldLink "DeltaPress$SuffixTree" (37 : Nat) "DeltaPress$SuffixTree" "slots" "[I" ∈ wz := List.mem_filter.mpr ⟨(List.mem_append_right _ (List.mem_append_left _ (List.mem_of_getElem? (i := 55) rfl))), by decide +kernel⟩
set_option maxRecDepth 20000 in
theorem zw_56 : Cond.fieldLink "DeltaPress$SuffixTree" (40 : Nat) "DeltaPress$SuffixTree" "slotsUsed" "I" ∈ wz := List.mem_filter.mpr ⟨(List.mem_append_right _ (List.mem_append_left _ (List.mem_of_getElem? (i := 56) rfl))), by decide +kernel⟩
set_option maxRecDepth 20000 in
theorem zw_57 : Cond.fieldLink "DeltaPress$SuffixTree" (43 : Nat) "DeltaPress$SuffixTree" "slotShift" "I" ∈ wz := List.mem_filter.mpr ⟨(List.mem_append_right _ (List.mem_append_left _ (List.mem_of_getElem? (i := 57) rfl))), by decide +kernel⟩
set_option maxRecDepth 20000 in
theorem zw_58 : Cond.fieldLink "DeltaPress$SuffixTree" (46 : Nat) "DeltaPress$SuffixTree" "activeNode" "I" ∈ wz := List.mem_filter.mpr ⟨(List.mem_append_right _ (List.mem_append_left _ (List.mem_of_getElem? (i := 58) rfl))), by decide +kernel⟩
set_option maxRecDepth 20000 in
theorem zw_59 : Cond.fieldLink "DeltaPress$SuffixTree" (49 : Nat) "DeltaPress$SuffixTree" "activeLength" "I" ∈ wz := List.mem_filter.mpr ⟨(List.mem_append_right _ (List.mem_append_left _ (List.mem_of_getElem? (i := 59) rfl))), by decide +kernel⟩
set_option maxRecDepth 20000 in
theorem zw_60 : Cond.fieldLink "DeltaPress$SuffixTree" (52 : Nat) "DeltaPress$SuffixTree" "waiting" "I" ∈ wz := List.mem_filter.mpr ⟨(List.mem_append_right _ (List.mem_append_left _ (List.mem_of_getElem? (i := 60) rfl))), by decide +kernel⟩
set_option maxRecDepth 20000 in
theorem zw_61 : Cond.fieldLink "DeltaPress$SuffixTree" (55 : Nat) "DeltaPress$SuffixTree" "foundLength" "I" ∈ wz := List.mem_filter.mpr ⟨(List.mem_append_right _ (List.mem_append_left _ (List.mem_of_getElem? (i := 61) rfl))), by decide +kernel⟩
set_option maxRecDepth 20000 in
theorem zw_62 : Cond.fieldLink "DeltaPress$SuffixTree" (58 : Nat) "DeltaPress$SuffixTree" "foundPlace" "I" ∈ wz := List.mem_filter.mpr ⟨(List.mem_append_right _ (List.mem_append_left _ (List.mem_of_getElem? (i := 62) rfl))), by decide +kernel⟩
set_option maxRecDepth 20000 in
theorem zw_63 : Cond.lays "DeltaPress$SuffixTree" "DeltaPress$SuffixTree" "text" "[B" ∈ wz := List.mem_filter.mpr ⟨(List.mem_append_right _ (List.mem_append_left _ (List.mem_of_getElem? (i := 63) rfl))), by decide +kernel⟩
set_option maxRecDepth 20000 in
theorem zw_64 : Cond.soleField "DeltaPress$SuffixTree" "text" ∈ wz := List.mem_filter.mpr ⟨(List.mem_append_right _ (List.mem_append_left _ (List.mem_of_getElem? (i := 64) rfl))), by decide +kernel⟩
set_option maxRecDepth 20000 in
theorem zw_65 : Cond.lays "DeltaPress$SuffixTree" "DeltaPress$SuffixTree" "length" "I" ∈ wz := List.mem_filter.mpr ⟨(List.mem_append_right _ (List.mem_append_left _ (List.mem_of_getElem? (i := 65) rfl))), by decide +kernel⟩
set_option maxRecDepth 20000 in
theorem zw_66 : Cond.soleField "DeltaPress$SuffixTree" "length" ∈ wz := List.mem_filter.mpr ⟨(List.mem_append_right _ (List.mem_append_left _ (List.mem_of_getElem? (i := 66) rfl))), by decide +kernel⟩
set_option maxRecDepth 20000 in
theorem zw_67 : Cond.laysFinal "DeltaPress$SuffixTree" "DeltaPress$SuffixTree" "start" "[I" ∈ wz := List.mem_filter.mpr ⟨(List.mem_append_right _ (List.mem_append_left _ (List.mem_of_getElem? (i := 67) rfl))), by decide +kernel⟩
set_option maxRecDepth 20000 in
theorem zw_68 : Cond.soleField "DeltaPress$SuffixTree" "start" ∈ wz := List.mem_filter.mpr ⟨(List.mem_append_right _ (List.mem_append_left _ (List.mem_of_getElem? (i := 68) rfl))), by decide +kernel⟩
set_option maxRecDepth 20000 in
theorem zw_69 : Cond.laysFinal "DeltaPress$SuffixTree" "DeltaPress$SuffixTree" "end" "[I" ∈ wz := List.mem_filter.mpr ⟨(List.mem_append_right _ (List.mem_append_left _ (List.mem_of_getElem? (i := 69) rfl))), by decide +kernel⟩
set_option maxRecDepth 20000 in
theorem zw_70 : Cond.soleField "DeltaPress$SuffixTree" "end" ∈ wz := List.mem_filter.mpr ⟨(List.mem_append_right _ (List.mem_append_left _ (List.mem_of_getElem? (i := 70) rfl))), by decide +kernel⟩
set_option maxRecDepth 20000 in
theorem zw_71 : Cond.laysFinal "DeltaPress$SuffixTree" "DeltaPress$SuffixTree" "parent" "[I" ∈ wz := List.mem_filter.mpr ⟨(List.mem_append_right _ (List.mem_append_left _ (List.mem_of_getElem? (i := 71) rfl))), by decide +kernel⟩
set_option maxRecDepth 20000 in
theorem zw_72 : Cond.soleField "DeltaPress$SuffixTree" "parent" ∈ wz := List.mem_filter.mpr ⟨(List.mem_append_right _ (List.mem_append_left _ (List.mem_of_getElem? (i := 72) rfl))), by decide +kernel⟩
set_option maxRecDepth 20000 in
theorem zw_73 : Cond.laysFinal "DeltaPress$SuffixTree" "DeltaPress$SuffixTree" "link" "[I" ∈ wz := List.mem_filter.mpr ⟨(List.mem_append_right _ (List.mem_append_left _ (List.mem_of_getElem? (i := 73) rfl))), by decide +kernel⟩
set_option maxRecDepth 20000 in
theorem zw_74 : Cond.soleField "DeltaPress$SuffixTree" "link" ∈ wz := List.mem_filter.mpr ⟨(List.mem_append_right _ (List.mem_append_left _ (List.mem_of_getElem? (i := 74) rfl))), by decide +kernel⟩
set_option maxRecDepth 20000 in
theorem zw_75 : Cond.lays "DeltaPress$SuffixTree" "DeltaPress$SuffixTree" "nodes" "I" ∈ wz := List.mem_filter.mpr ⟨(List.mem_append_right _ (List.mem_append_left _ (List.mem_of_getElem? (i := 75) rfl))), by decide +kernel⟩
set_option maxRecDepth 20000 in
theorem zw_76 : Cond.soleField "DeltaPress$SuffixTree" "nodes" ∈ wz := List.mem_filter.mpr ⟨(List.mem_append_right _ (List.mem_append_left _ (List.mem_of_getElem? (i := 76) rfl))), by decide +kernel⟩
set_option maxRecDepth 20000 in
theorem zw_77 : Cond.laysFinal "DeltaPress$SuffixTree" "DeltaPress$SuffixTree" "slots" "[I" ∈ wz := List.mem_filter.mpr ⟨(List.mem_append_right _ (List.mem_append_left _ (List.mem_of_getElem? (i := 77) rfl))), by decide +kernel⟩
set_option maxRecDepth 20000 in
theorem zw_78 : Cond.soleField "DeltaPress$SuffixTree" "slots" ∈ wz := List.mem_filter.mpr ⟨(List.mem_append_right _ (List.mem_append_left _ (List.mem_of_getElem? (i := 78) rfl))), by decide +kernel⟩
set_option maxRecDepth 20000 in
theorem zw_79 : Cond.lays "DeltaPress$SuffixTree" "DeltaPress$SuffixTree" "slotsUsed" "I" ∈ wz := List.mem_filter.mpr ⟨(List.mem_append_right _ (List.mem_append_left _ (List.mem_of_getElem? (i := 79) rfl))), by decide +kernel⟩
set_option maxRecDepth 20000 in
theorem zw_80 : Cond.soleField "DeltaPress$SuffixTree" "slotsUsed" ∈ wz := List.mem_filter.mpr ⟨(List.mem_append_right _ (List.mem_append_left _ (List.mem_of_getElem? (i := 80) rfl))), by decide +kernel⟩
set_option maxRecDepth 20000 in
theorem zw_81 : Cond.lays "DeltaPress$SuffixTree" "DeltaPress$SuffixTree" "slotShift" "I" ∈ wz := List.mem_filter.mpr ⟨(List.mem_append_right _ (List.mem_append_left _ (List.mem_of_getElem? (i := 81) rfl))), by decide +kernel⟩
set_option maxRecDepth 20000 in
theorem zw_82 : Cond.soleField "DeltaPress$SuffixTree" "slotShift" ∈ wz := List.mem_filter.mpr ⟨(List.mem_append_right _ (List.mem_append_left _ (List.mem_of_getElem? (i := 82) rfl))), by decide +kernel⟩
set_option maxRecDepth 20000 in
theorem zw_83 : Cond.lays "DeltaPress$SuffixTree" "DeltaPress$SuffixTree" "activeNode" "I" ∈ wz := List.mem_filter.mpr ⟨(List.mem_append_right _ (List.mem_append_left _ (List.mem_of_getElem? (i := 83) rfl))), by decide +kernel⟩
set_option maxRecDepth 20000 in
theorem zw_84 : Cond.soleField "DeltaPress$SuffixTree" "activeNode" ∈ wz := List.mem_filter.mpr ⟨(List.mem_append_right _ (List.mem_append_left _ (List.mem_of_getElem? (i := 84) rfl))), by decide +kernel⟩
set_option maxRecDepth 20000 in
theorem zw_85 : Cond.lays "DeltaPress$SuffixTree" "DeltaPress$SuffixTree" "activeLength" "I" ∈ wz := List.mem_filter.mpr ⟨(List.mem_append_right _ (List.mem_append_left _ (List.mem_of_getElem? (i := 85) rfl))), by decide +kernel⟩
set_option maxRecDepth 20000 in
theorem zw_86 : Cond.soleField "DeltaPress$SuffixTree" "activeLength" ∈ wz := List.mem_filter.mpr ⟨(List.mem_append_right _ (List.mem_append_left _ (List.mem_of_getElem? (i := 86) rfl))), by decide +kernel⟩
set_option maxRecDepth 20000 in
theorem zw_87 : Cond.lays "DeltaPress$SuffixTree" "DeltaPress$SuffixTree" "waiting" "I" ∈ wz := List.mem_filter.mpr ⟨(List.mem_append_right _ (List.mem_append_left _ (List.mem_of_getElem? (i := 87) rfl))), by decide +kernel⟩
set_option maxRecDepth 20000 in
theorem zw_88 : Cond.soleField "DeltaPress$SuffixTree" "waiting" ∈ wz := List.mem_filter.mpr ⟨(List.mem_append_right _ (List.mem_append_left _ (List.mem_of_getElem? (i := 88) rfl))), by decide +kernel⟩
set_option maxRecDepth 20000 in
theorem zw_89 : Cond.lays "DeltaPress$SuffixTree" "DeltaPress$SuffixTree" "foundLength" "I" ∈ wz := List.mem_filter.mpr ⟨(List.mem_append_right _ (List.mem_append_left _ (List.mem_of_getElem? (i := 89) rfl))), by decide +kernel⟩
set_option maxRecDepth 20000 in
theorem zw_90 : Cond.soleField "DeltaPress$SuffixTree" "foundLength" ∈ wz := List.mem_filter.mpr ⟨(List.mem_append_right _ (List.mem_append_left _ (List.mem_of_getElem? (i := 90) rfl))), by decide +kernel⟩
set_option maxRecDepth 20000 in
theorem zw_91 : Cond.lays "DeltaPress$SuffixTree" "DeltaPress$SuffixTree" "foundPlace" "I" ∈ wz := List.mem_filter.mpr ⟨(List.mem_append_right _ (List.mem_append_left _ (List.mem_of_getElem? (i := 91) rfl))), by decide +kernel⟩
set_option maxRecDepth 20000 in
theorem zw_92 : Cond.soleField "DeltaPress$SuffixTree" "foundPlace" ∈ wz := List.mem_filter.mpr ⟨(List.mem_append_right _ (List.mem_append_left _ (List.mem_of_getElem? (i := 92) rfl))), by decide +kernel⟩
set_option maxRecDepth 20000 in
theorem zw_93 : Cond.superclass "DeltaPress$SuffixTree" "java/lang/Object" ∈ wz := List.mem_filter.mpr ⟨(List.mem_append_right _ (List.mem_append_left _ (List.mem_of_getElem? (i := 93) rfl))), by decide +kernel⟩
set_option maxRecDepth 20000 in
theorem zw_94 : Cond.arrayClass ClassFile.FieldType.int ∈ wz := List.mem_filter.mpr ⟨(List.mem_append_right _ (List.mem_append_left _ (List.mem_of_getElem? (i := 94) rfl))), by decide +kernel⟩
set_option maxRecDepth 20000 in
theorem zw_95 : Cond.classLink "DeltaPress" (40 : Nat) "DeltaPress$DeltaReader" ∈ wz := List.mem_filter.mpr ⟨(List.mem_append_right _ (List.mem_append_left _ (List.mem_of_getElem? (i := 95) rfl))), by decide +kernel⟩
set_option maxRecDepth 20000 in
theorem zw_96 : Cond.instantiable "DeltaPress$DeltaReader" (1 : Nat) ∈ wz := List.mem_filter.mpr ⟨(List.mem_append_right _ (List.mem_append_left _ (List.mem_of_getElem? (i := 96) rfl))), by decide +kernel⟩
set_option maxRecDepth 20000 in
theorem zw_98 : Cond.instanceMethod ({ cls := "DeltaPress$DeltaReader", name := "<init>", desc := "()V" } : MethodName) ∈ wz := List.mem_filter.mpr ⟨(List.mem_append_right _ (List.mem_append_left _ (List.mem_of_getElem? (i := 98) rfl))), by decide +kernel⟩
set_option maxRecDepth 20000 in
theorem zw_99 : Cond.code ({ cls := "DeltaPress$DeltaReader", name := "<init>", desc := "()V" } : MethodName) prog_2_method_1_code (1 : Nat) (Option.none : Option ClassFile.FieldType) ∈ wz := List.mem_filter.mpr ⟨(List.mem_append_right _ (List.mem_append_left _ (List.mem_of_getElem? (i := 99) rfl))), by decide +kernel⟩
set_option maxRecDepth 20000 in
theorem zw_100 : Cond.methodLink "DeltaPress$DeltaReader" (3 : Nat) ({ cls := "java/lang/Object", name := "<init>", desc := "()V" } : MethodName) ∈ wz := List.mem_filter.mpr ⟨(List.mem_append_right _ (List.mem_append_left _ (List.mem_of_getElem? (i := 100) rfl))), by decide +kernel⟩
set_option maxRecDepth 20000 in
theorem zw_101 : Cond.fieldLink "DeltaPress$DeltaReader" (9 : Nat) "DeltaPress$DeltaReader" "place" "I" ∈ wz := List.mem_filter.mpr ⟨(List.mem_append_right _ (List.mem_append_left _ (List.mem_of_getElem? (i := 101) rfl))), by decide +kernel⟩
set_option maxRecDepth 20000 in
theorem zw_102 : Cond.lays "DeltaPress$DeltaReader" "DeltaPress$DeltaReader" "place" "I" ∈ wz := List.mem_filter.mpr ⟨(List.mem_append_right _ (List.mem_append_left _ (List.mem_of_getElem? (i := 102) rfl))), by decide +kernel⟩
set_option maxRecDepth 20000 in
theorem zw_103 : Cond.soleField "DeltaPress$DeltaReader" "place" ∈ wz := List.mem_filter.mpr ⟨(List.mem_append_right _ (List.mem_append_left _ (List.mem_of_getElem? (i := 103) rfl))), by decide +kernel⟩
set_option maxRecDepth 20000 in
theorem zw_104 : Cond.superclass "DeltaPress$DeltaReader" "java/lang/Object" ∈ wz := List.mem_filter.mpr ⟨(List.mem_append_right _ (List.mem_append_left _ (List.mem_of_getElem? (i := 104) rfl))), by decide +kernel⟩
set_option maxRecDepth 20000 in
theorem zw_105 : Cond.fieldLink "DeltaPress" (15 : Nat) "DeltaPress" "input" "LDeltaPress$Text;" ∈ wz := List.mem_filter.mpr ⟨(List.mem_append_right _ (List.mem_append_left _ (List.mem_of_getElem? (i := 105) rfl))), by decide +kernel⟩
set_option maxRecDepth 20000 in
theorem zw_106 : Cond.fieldLink "DeltaPress" (19 : Nat) "DeltaPress" "base" "LDeltaPress$Text;" ∈ wz := List.mem_filter.mpr ⟨(List.mem_append_right _ (List.mem_append_left _ (List.mem_of_getElem? (i := 106) rfl))), by decide +kernel⟩
set_option maxRecDepth 20000 in
theorem zw_107 : Cond.fieldLink "DeltaPress" (23 : Nat) "DeltaPress" "output" "LDeltaPress$Text;" ∈ wz := List.mem_filter.mpr ⟨(List.mem_append_right _ (List.mem_append_left _ (List.mem_of_getElem? (i := 107) rfl))), by decide +kernel⟩
set_option maxRecDepth 20000 in
theorem zw_108 : Cond.fieldLink "DeltaPress" (26 : Nat) "DeltaPress" "spare" "LDeltaPress$Text;" ∈ wz := List.mem_filter.mpr ⟨(List.mem_append_right _ (List.mem_append_left _ (List.mem_of_getElem? (i := 108) rfl))), by decide +kernel⟩
set_option maxRecDepth 20000 in
theorem zw_109 : Cond.fieldLink "DeltaPress" (32 : Nat) "DeltaPress" "tree" "LDeltaPress$SuffixTree;" ∈ wz := List.mem_filter.mpr ⟨(List.mem_append_right _ (List.mem_append_left _ (List.mem_of_getElem? (i := 109) rfl))), by decide +kernel⟩
set_option maxRecDepth 20000 in
theorem zw_110 : Cond.fieldLink "DeltaPress" (36 : Nat) "DeltaPress" "treeIsOfBase" "Z" ∈ wz := List.mem_filter.mpr ⟨(List.mem_append_right _ (List.mem_append_left _ (List.mem_of_getElem? (i := 110) rfl))), by decide +kernel⟩
set_option maxRecDepth 20000 in
theorem zw_111 : Cond.fieldLink "DeltaPress" (43 : Nat) "DeltaPress" "reader" "LDeltaPress$DeltaReader;" ∈ wz := List.mem_filter.mpr ⟨(List.mem_append_right _ (List.mem_append_left _ (List.mem_of_getElem? (i := 111) rfl))), by decide +kernel⟩
set_option maxRecDepth 20000 in
theorem zw_112 : Cond.fieldLink "DeltaPress" (47 : Nat) "DeltaPress" "copiesMade" "I" ∈ wz := List.mem_filter.mpr ⟨(List.mem_append_right _ (List.mem_append_left _ (List.mem_of_getElem? (i := 112) rfl))), by decide +kernel⟩
set_option maxRecDepth 20000 in
theorem zw_113 : Cond.fieldLink "DeltaPress" (51 : Nat) "DeltaPress" "newBytesMade" "I" ∈ wz := List.mem_filter.mpr ⟨(List.mem_append_right _ (List.mem_append_left _ (List.mem_of_getElem? (i := 113) rfl))), by decide +kernel⟩
set_option maxRecDepth 20000 in
theorem zw_114 : Cond.fieldLink "DeltaPress" (54 : Nat) "DeltaPress" "damagedReadings" "I" ∈ wz := List.mem_filter.mpr ⟨(List.mem_append_right _ (List.mem_append_left _ (List.mem_of_getElem? (i := 114) rfl))), by decide +kernel⟩
set_option maxRecDepth 20000 in
theorem zw_115 : Cond.lays "DeltaPress" "DeltaPress" "input" "LDeltaPress$Text;" ∈ wz := List.mem_filter.mpr ⟨(List.mem_append_right _ (List.mem_append_left _ (List.mem_of_getElem? (i := 115) rfl))), by decide +kernel⟩
set_option maxRecDepth 20000 in
theorem zw_116 : Cond.soleField "DeltaPress" "input" ∈ wz := List.mem_filter.mpr ⟨(List.mem_append_right _ (List.mem_append_left _ (List.mem_of_getElem? (i := 116) rfl))), by decide +kernel⟩
set_option maxRecDepth 20000 in
theorem zw_117 : Cond.lays "DeltaPress" "DeltaPress" "base" "LDeltaPress$Text;" ∈ wz := List.mem_filter.mpr ⟨(List.mem_append_right _ (List.mem_append_left _ (List.mem_of_getElem? (i := 117) rfl))), by decide +kernel⟩
set_option maxRecDepth 20000 in
theorem zw_118 : Cond.soleField "DeltaPress" "base" ∈ wz := List.mem_filter.mpr ⟨(List.mem_append_right _ (List.mem_append_left _ (List.mem_of_getElem? (i := 118) rfl))), by decide +kernel⟩
set_option maxRecDepth 20000 in
theorem zw_119 : Cond.lays "DeltaPress" "DeltaPress" "output" "LDeltaPress$Text;" ∈ wz := List.mem_filter.mpr ⟨(List.mem_append_right _ (List.mem_append_left _ (List.mem_of_getElem? (i := 119) rfl))), by decide +kernel⟩
set_option maxRecDepth 20000 in
theorem zw_120 : Cond.soleField "DeltaPress" "output" ∈ wz := List.mem_filter.mpr ⟨(List.mem_append_right _ (List.mem_append_left _ (List.mem_of_getElem? (i := 120) rfl))), by decide +kernel⟩
set_option maxRecDepth 20000 in
theorem zw_121 : Cond.lays "DeltaPress" "DeltaPress" "spare" "LDeltaPress$Text;" ∈ wz := List.mem_filter.mpr ⟨(List.mem_append_right _ (List.mem_append_left _ (List.mem_of_getElem? (i := 121) rfl))), by decide +kernel⟩
set_option maxRecDepth 20000 in
theorem zw_122 : Cond.soleField "DeltaPress" "spare" ∈ wz := List.mem_filter.mpr ⟨(List.mem_append_right _ (List.mem_append_left _ (List.mem_of_getElem? (i := 122) rfl))), by decide +kernel⟩
set_option maxRecDepth 20000 in
theorem zw_123 : Cond.laysFinal "DeltaPress" "DeltaPress" "tree" "LDeltaPress$SuffixTree;" ∈ wz := List.mem_filter.mpr ⟨(List.mem_append_right _ (List.mem_append_left _ (List.mem_of_getElem? (i := 123) rfl))), by decide +kernel⟩
set_option maxRecDepth 20000 in
theorem zw_124 : Cond.soleField "DeltaPress" "tree" ∈ wz := List.mem_filter.mpr ⟨(List.mem_append_right _ (List.mem_append_left _ (List.mem_of_getElem? (i := 124) rfl))), by decide +kernel⟩
set_option maxRecDepth 20000 in
theorem zw_125 : Cond.lays "DeltaPress" "DeltaPress" "treeIsOfBase" "Z" ∈ wz := List.mem_filter.mpr ⟨(List.mem_append_right _ (List.mem_append_left _ (List.mem_of_getElem? (i := 125) rfl))), by decide +kernel⟩
set_option maxRecDepth 20000 in
theorem zw_126 : Cond.soleField "DeltaPress" "treeIsOfBase" ∈ wz := List.mem_filter.mpr ⟨(List.mem_append_right _ (List.mem_append_left _ (List.mem_of_getElem? (i := 126) rfl))), by decide +kernel⟩
set_option maxRecDepth 20000 in
theorem zw_127 : Cond.laysFinal "DeltaPress" "DeltaPress" "reader" "LDeltaPress$DeltaReader;" ∈ wz := List.mem_filter.mpr ⟨(List.mem_append_right _ (List.mem_append_left _ (List.mem_of_getElem? (i := 127) rfl))), by decide +kernel⟩
set_option maxRecDepth 20000 in
theorem zw_128 : Cond.soleField "DeltaPress" "reader" ∈ wz := List.mem_filter.mpr ⟨(List.mem_append_right _ (List.mem_append_left _ (List.mem_of_getElem? (i := 128) rfl))), by decide +kernel⟩
set_option maxRecDepth 20000 in
theorem zw_129 : Cond.lays "DeltaPress" "DeltaPress" "copiesMade" "I" ∈ wz := List.mem_filter.mpr ⟨(List.mem_append_right _ (List.mem_append_left _ (List.mem_of_getElem? (i := 129) rfl))), by decide +kernel⟩
set_option maxRecDepth 20000 in
theorem zw_130 : Cond.soleField "DeltaPress" "copiesMade" ∈ wz := List.mem_filter.mpr ⟨(List.mem_append_right _ (List.mem_append_left _ (List.mem_of_getElem? (i := 130) rfl))), by decide +kernel⟩
set_option maxRecDepth 20000 in
theorem zw_131 : Cond.lays "DeltaPress" "DeltaPress" "newBytesMade" "I" ∈ wz := List.mem_filter.mpr ⟨(List.mem_append_right _ (List.mem_append_left _ (List.mem_of_getElem? (i := 131) rfl))), by decide +kernel⟩
set_option maxRecDepth 20000 in
theorem zw_132 : Cond.soleField "DeltaPress" "newBytesMade" ∈ wz := List.mem_filter.mpr ⟨(List.mem_append_right _ (List.mem_append_left _ (List.mem_of_getElem? (i := 132) rfl))), by decide +kernel⟩
set_option maxRecDepth 20000 in
theorem zw_133 : Cond.lays "DeltaPress" "DeltaPress" "damagedReadings" "I" ∈ wz := List.mem_filter.mpr ⟨(List.mem_append_right _ (List.mem_append_left _ (List.mem_of_getElem? (i := 133) rfl))), by decide +kernel⟩
set_option maxRecDepth 20000 in
theorem zw_134 : Cond.soleField "DeltaPress" "damagedReadings" ∈ wz := List.mem_filter.mpr ⟨(List.mem_append_right _ (List.mem_append_left _ (List.mem_of_getElem? (i := 134) rfl))), by decide +kernel⟩
set_option maxRecDepth 20000 in
theorem zw_135 : Cond.superclass "DeltaPress" "java/lang/Object" ∈ wz := List.mem_filter.mpr ⟨(List.mem_append_right _ (List.mem_append_left _ (List.mem_of_getElem? (i := 135) rfl))), by decide +kernel⟩
set_option maxRecDepth 20000 in
theorem zw_136 : Cond.methodLink "DeltaPressLaw" (64 : Nat) ({ cls := "DeltaPress", name := "base", desc := "()I" } : MethodName) ∈ wz := List.mem_filter.mpr ⟨(List.mem_append_right _ (List.mem_append_left _ (List.mem_of_getElem? (i := 136) rfl))), by decide +kernel⟩
set_option maxRecDepth 20000 in
theorem zw_137 : Cond.instanceMethod ({ cls := "DeltaPress", name := "base", desc := "()I" } : MethodName) ∈ wz := List.mem_filter.mpr ⟨(List.mem_append_right _ (List.mem_append_left _ (List.mem_of_getElem? (i := 137) rfl))), by decide +kernel⟩
set_option maxRecDepth 20000 in
theorem zw_138 : Cond.selects "DeltaPress" ({ cls := "DeltaPress", name := "base", desc := "()I" } : MethodName) ({ cls := "DeltaPress", name := "base", desc := "()I" } : MethodName) ∈ wz := List.mem_filter.mpr ⟨(List.mem_append_right _ (List.mem_append_left _ (List.mem_of_getElem? (i := 138) rfl))), by decide +kernel⟩
set_option maxRecDepth 20000 in
theorem zw_139 : Cond.code ({ cls := "DeltaPress", name := "base", desc := "()I" } : MethodName) prog_1_method_5_code (2 : Nat) (Option.some ClassFile.FieldType.int) ∈ wz := List.mem_filter.mpr ⟨(List.mem_append_right _ (List.mem_append_left _ (List.mem_of_getElem? (i := 139) rfl))), by decide +kernel⟩
set_option maxRecDepth 20000 in
theorem zw_140 : Cond.methodLink "DeltaPress" (77 : Nat) ({ cls := "DeltaPress$Text", name := "cut", desc := "(I)V" } : MethodName) ∈ wz := List.mem_filter.mpr ⟨(List.mem_append_right _ (List.mem_append_left _ (List.mem_of_getElem? (i := 140) rfl))), by decide +kernel⟩
set_option maxRecDepth 20000 in
theorem zw_141 : Cond.instanceMethod ({ cls := "DeltaPress$Text", name := "cut", desc := "(I)V" } : MethodName) ∈ wz := List.mem_filter.mpr ⟨(List.mem_append_right _ (List.mem_append_left _ (List.mem_of_getElem? (i := 141) rfl))), by decide +kernel⟩
set_option maxRecDepth 20000 in
theorem zw_142 : Cond.selects "DeltaPress$Text" ({ cls := "DeltaPress$Text", name := "cut", desc := "(I)V" } : MethodName) ({ cls := "DeltaPress$Text", name := "cut", desc := "(I)V" } : MethodName) ∈ wz := List.mem_filter.mpr ⟨(List.mem_append_right _ (List.mem_append_left _ (List.mem_of_getElem? (i := 142) rfl))), by decide +kernel⟩
set_option maxRecDepth 20000 in
theorem zw_143 : Cond.code ({ cls := "DeltaPress$Text", name := "cut", desc := "(I)V" } : MethodName) prog_4_method_6_code (2 : Nat) (Option.none : Option ClassFile.FieldType) ∈ wz := List.mem_filter.mpr ⟨(List.mem_append_right _ (List.mem_append_left _ (List.mem_of_getElem? (i := 143) rfl))), by decide +kernel⟩
set_option maxRecDepth 20000 in
theorem zw_144 : Cond.methodLink "DeltaPress" (57 : Nat) ({ cls := "DeltaPress$Text", name := "size", desc := "()I" } : MethodName) ∈ wz := List.mem_filter.mpr ⟨(List.mem_append_right _ (List.mem_append_left _ (List.mem_of_getElem? (i := 144) rfl))), by decide +kernel⟩
set_option maxRecDepth 20000 in
theorem zw_145 : Cond.instanceMethod ({ cls := "DeltaPress$Text", name := "size", desc := "()I" } : MethodName) ∈ wz := List.mem_filter.mpr ⟨(List.mem_append_right _ (List.mem_append_left _ (List.mem_of_getElem? (i := 145) rfl))), by decide +kernel⟩
set_option maxRecDepth 20000 in
theorem zw_146 : Cond.selects "DeltaPress$Text" ({ cls := "DeltaPress$Text", name := "size", desc := "()I" } : MethodName) ({ cls := "DeltaPress$Text", name := "size", desc := "()I" } : MethodName) ∈ wz := List.mem_filter.mpr ⟨(List.mem_append_right _ (List.mem_append_left _ (List.mem_of_getElem? (i := 146) rfl))), by decide +kernel⟩
set_option maxRecDepth 20000 in
theorem zw_147 : Cond.code ({ cls := "DeltaPress$Text", name := "size", desc := "()I" } : MethodName) prog_4_method_2_code (1 : Nat) (Option.some ClassFile.FieldType.int) ∈ wz := List.mem_filter.mpr ⟨(List.mem_append_right _ (List.mem_append_left _ (List.mem_of_getElem? (i := 147) rfl))), by decide +kernel⟩
set_option maxRecDepth 20000 in
theorem zw_148 : Cond.methodLink "DeltaPressLaw" (68 : Nat) ({ cls := "DeltaPress", name := "make", desc := "()I" } : MethodName) ∈ wz := List.mem_filter.mpr ⟨(List.mem_append_right _ (List.mem_append_left _ (List.mem_of_getElem? (i := 148) rfl))), by decide +kernel⟩
set_option maxRecDepth 20000 in
theorem zw_149 : Cond.instanceMethod ({ cls := "DeltaPress", name := "make", desc := "()I" } : MethodName) ∈ wz := List.mem_filter.mpr ⟨(List.mem_append_right _ (List.mem_append_left _ (List.mem_of_getElem? (i := 149) rfl))), by decide +kernel⟩
set_option maxRecDepth 20000 in
theorem zw_150 : Cond.selects "DeltaPress" ({ cls := "DeltaPress", name := "make", desc := "()I" } : MethodName) ({ cls := "DeltaPress", name := "make", desc := "()I" } : MethodName) ∈ wz := List.mem_filter.mpr ⟨(List.mem_append_right _ (List.mem_append_left _ (List.mem_of_getElem? (i := 150) rfl))), by decide +kernel⟩
set_option maxRecDepth 20000 in
theorem zw_151 : Cond.code ({ cls := "DeltaPress", name := "make", desc := "()I" } : MethodName) prog_1_method_6_code (4 : Nat) (Option.some ClassFile.FieldType.int) ∈ wz := List.mem_filter.mpr ⟨(List.mem_append_right _ (List.mem_append_left _ (List.mem_of_getElem? (i := 151) rfl))), by decide +kernel⟩
set_option maxRecDepth 20000 in
theorem zw_152 : Cond.methodLink "DeltaPress" (92 : Nat) ({ cls := "DeltaPress$Text", name := "addNumber", desc := "(I)V" } : MethodName) ∈ wz := List.mem_filter.mpr ⟨(List.mem_append_right _ (List.mem_append_left _ (List.mem_of_getElem? (i := 152) rfl))), by decide +kernel⟩
set_option maxRecDepth 20000 in
theorem zw_153 : Cond.instanceMethod ({ cls := "DeltaPress$Text", name := "addNumber", desc := "(I)V" } : MethodName) ∈ wz := List.mem_filter.mpr ⟨(List.mem_append_right _ (List.mem_append_left _ (List.mem_of_getElem? (i := 153) rfl))), by decide +kernel⟩
set_option maxRecDepth 20000 in
theorem zw_154 : Cond.selects "DeltaPress$Text" ({ cls := "DeltaPress$Text", name := "addNumber", desc := "(I)V" } : MethodName) ({ cls := "DeltaPress$Text", name := "addNumber", desc := "(I)V" } : MethodName) ∈ wz := List.mem_filter.mpr ⟨(List.mem_append_right _ (List.mem_append_left _ (List.mem_of_getElem? (i := 154) rfl))), by decide +kernel⟩
set_option maxRecDepth 20000 in
theorem zw_155 : Cond.code ({ cls := "DeltaPress$Text", name := "addNumber", desc := "(I)V" } : MethodName) prog_4_method_10_code (4 : Nat) (Option.none : Option ClassFile.FieldType) ∈ wz := List.mem_filter.mpr ⟨(List.mem_append_right _ (List.mem_append_left _ (List.mem_of_getElem? (i := 155) rfl))), by decide +kernel⟩
set_option maxRecDepth 20000 in
theorem zw_156 : Cond.methodLink "DeltaPress$Text" (17 : Nat) ({ cls := "DeltaPress$Text", name := "add", desc := "(I)V" } : MethodName) ∈ wz := List.mem_filter.mpr ⟨(List.mem_append_right _ (List.mem_append_left _ (List.mem_of_getElem? (i := 156) rfl))), by decide +kernel⟩
set_option maxRecDepth 20000 in
theorem zw_157 : Cond.instanceMethod ({ cls := "DeltaPress$Text", name := "add", desc := "(I)V" } : MethodName) ∈ wz := List.mem_filter.mpr ⟨(List.mem_append_right _ (List.mem_append_left _ (List.mem_of_getElem? (i := 157) rfl))), by decide +kernel⟩
set_option maxRecDepth 20000 in
theorem zw_158 : Cond.selects "DeltaPress$Text" ({ cls := "DeltaPress$Text", name := "add", desc := "(I)V" } : MethodName) ({ cls := "DeltaPress$Text", name := "add", desc := "(I)V" } : MethodName) ∈ wz := List.mem_filter.mpr ⟨(List.mem_append_right _ (List.mem_append_left _ (List.mem_of_getElem? (i := 158) rfl))), by decide +kernel⟩
set_option maxRecDepth 20000 in
theorem zw_159 : Cond.code ({ cls := "DeltaPress$Text", name := "add", desc := "(I)V" } : MethodName) prog_4_method_8_code (2 : Nat) (Option.none : Option ClassFile.FieldType) ∈ wz := List.mem_filter.mpr ⟨(List.mem_append_right _ (List.mem_append_left _ (List.mem_of_getElem? (i := 159) rfl))), by decide +kernel⟩
set_option maxRecDepth 20000 in
theorem zw_160 : Cond.methodLink "DeltaPress" (95 : Nat) ({ cls := "DeltaPress", name := "findLongest", desc := "(I)V" } : MethodName) ∈ wz := List.mem_filter.mpr ⟨(List.mem_append_right _ (List.mem_append_left _ (List.mem_of_getElem? (i := 160) rfl))), by decide +kernel⟩
set_option maxRecDepth 20000 in
theorem zw_162 : Cond.instanceMethod ({ cls := "DeltaPress", name := "findLongest", desc := "(I)V" } : MethodName) ∈ wz := List.mem_filter.mpr ⟨(List.mem_append_right _ (List.mem_append_left _ (List.mem_of_getElem? (i := 162) rfl))), by decide +kernel⟩
set_option maxRecDepth 20000 in
theorem zw_163 : Cond.code ({ cls := "DeltaPress", name := "findLongest", desc := "(I)V" } : MethodName) prog_1_method_12_code (2 : Nat) (Option.none : Option ClassFile.FieldType) ∈ wz := List.mem_filter.mpr ⟨(List.mem_append_right _ (List.mem_append_left _ (List.mem_of_getElem? (i := 163) rfl))), by decide +kernel⟩
set_option maxRecDepth 20000 in
theorem zw_164 : Cond.methodLink "DeltaPress" (134 : Nat) ({ cls := "DeltaPress$SuffixTree", name := "grow", desc := "(LDeltaPress$Text;)V" } : MethodName) ∈ wz := List.mem_filter.mpr ⟨(List.mem_append_right _ (List.mem_append_left _ (List.mem_of_getElem? (i := 164) rfl))), by decide +kernel⟩
set_option maxRecDepth 20000 in
theorem zw_165 : Cond.instanceMethod ({ cls := "DeltaPress$SuffixTree", name := "grow", desc := "(LDeltaPress$Text;)V" } : MethodName) ∈ wz := List.mem_filter.mpr ⟨(List.mem_append_right _ (List.mem_append_left _ (List.mem_of_getElem? (i := 165) rfl))), by decide +kernel⟩
set_option maxRecDepth 20000 in
theorem zw_166 : Cond.selects "DeltaPress$SuffixTree" ({ cls := "DeltaPress$SuffixTree", name := "grow", desc := "(LDeltaPress$Text;)V" } : MethodName) ({ cls := "DeltaPress$SuffixTree", name := "grow", desc := "(LDeltaPress$Text;)V" } : MethodName) ∈ wz := List.mem_filter.mpr ⟨(List.mem_append_right _ (List.mem_append_left _ (List.mem_of_getElem? (i := 166) rfl))), by decide +kernel⟩
set_option maxRecDepth 20000 in
theorem zw_167 : Cond.code ({ cls := "DeltaPress$SuffixTree", name := "grow", desc := "(LDeltaPress$Text;)V" } : MethodName) prog_3_method_4_code (3 : Nat) (Option.none : Option ClassFile.FieldType) ∈ wz := List.mem_filter.mpr ⟨(List.mem_append_right _ (List.mem_append_left _ (List.mem_of_getElem? (i := 167) rfl))), by decide +kernel⟩
set_option maxRecDepth 20000 in
theorem zw_168 : Cond.methodLink "DeltaPress$SuffixTree" (61 : Nat) ({ cls := "DeltaPress$Text", name := "row", desc := "()[B" } : MethodName) ∈ wz := List.mem_filter.mpr ⟨(List.mem_append_right _ (List.mem_append_left _ (List.mem_of_getElem? (i := 168) rfl))), by decide +kernel⟩
set_option maxRecDepth 20000 in
theorem zw_169 : Cond.instanceMethod ({ cls := "DeltaPress$Text", name := "row", desc := "()[B" } : MethodName) ∈ wz := List.mem_filter.mpr ⟨(List.mem_append_right _ (List.mem_append_left _ (List.mem_of_getElem? (i := 169) rfl))), by decide +kernel⟩
set_option maxRecDepth 20000 in
theorem zw_170 : Cond.selects "DeltaPress$Text" ({ cls := "DeltaPress$Text", name := "row", desc := "()[B" } : MethodName) ({ cls := "DeltaPress$Text", name := "row", desc := "()[B" } : MethodName) ∈ wz := List.mem_filter.mpr ⟨(List.mem_append_right _ (List.mem_append_left _ (List.mem_of_getElem? (i := 170) rfl))), by decide +kernel⟩
set_option maxRecDepth 20000 in
theorem zw_171 : Cond.code ({ cls := "DeltaPress$Text", name := "row", desc := "()[B" } : MethodName) prog_4_method_5_code (1 : Nat) (Option.some (ClassFile.FieldType.array ClassFile.FieldType.byte)) ∈ wz := List.mem_filter.mpr ⟨(List.mem_append_right _ (List.mem_append_left _ (List.mem_of_getElem? (i := 171) rfl))), by decide +kernel⟩
set_option maxRecDepth 20000 in
theorem zw_172 : Cond.methodLink "DeltaPress$SuffixTree" (67 : Nat) ({ cls := "DeltaPress$Text", name := "size", desc := "()I" } : MethodName) ∈ wz := List.mem_filter.mpr ⟨(List.mem_append_right _ (List.mem_append_left _ (List.mem_of_getElem? (i := 172) rfl))), by decide +kernel⟩
set_option maxRecDepth 20000 in
theorem zw_173 : Cond.methodLink "DeltaPress$SuffixTree" (71 : Nat) ({ cls := "DeltaPress$SuffixTree", name := "emptySlots", desc := "()V" } : MethodName) ∈ wz := List.mem_filter.mpr ⟨(List.mem_append_right _ (List.mem_append_left _ (List.mem_of_getElem? (i := 173) rfl))), by decide +kernel⟩
set_option maxRecDepth 20000 in
theorem zw_175 : Cond.instanceMethod ({ cls := "DeltaPress$SuffixTree", name := "emptySlots", desc := "()V" } : MethodName) ∈ wz := List.mem_filter.mpr ⟨(List.mem_append_right _ (List.mem_append_left _ (List.mem_of_getElem? (i := 175) rfl))), by decide +kernel⟩
set_option maxRecDepth 20000 in
theorem zw_176 : Cond.code ({ cls := "DeltaPress$SuffixTree", name := "emptySlots", desc := "()V" } : MethodName) prog_3_method_5_code (2 : Nat) (Option.none : Option ClassFile.FieldType) ∈ wz := List.mem_filter.mpr ⟨(List.mem_append_right _ (List.mem_append_left _ (List.mem_of_getElem? (i := 176) rfl))), by decide +kernel⟩
set_option maxRecDepth 20000 in
theorem zw_177 : Cond.methodLink "DeltaPress$SuffixTree" (78 : Nat) ({ cls := "java/lang/Math", name := "max", desc := "(II)I" } : MethodName) ∈ wz := List.mem_filter.mpr ⟨(List.mem_append_right _ (List.mem_append_left _ (List.mem_of_getElem? (i := 177) rfl))), by decide +kernel⟩
set_option maxRecDepth 20000 in
theorem zw_178 : Cond.static ({ cls := "java/lang/Math", name := "max", desc := "(II)I" } : MethodName) ∈ wz := List.mem_filter.mpr ⟨(List.mem_append_right _ (List.mem_append_left _ (List.mem_of_getElem? (i := 178) rfl))), by decide +kernel⟩
set_option maxRecDepth 20000 in
theorem zw_179 : Cond.code ({ cls := "java/lang/Math", name := "max", desc := "(II)I" } : MethodName) prog_13_method_65_code (2 : Nat) (Option.some ClassFile.FieldType.int) ∈ wz := List.mem_filter.mpr ⟨(List.mem_append_right _ (List.mem_append_left _ (List.mem_of_getElem? (i := 179) rfl))), by decide +kernel⟩
set_option maxRecDepth 20000 in
theorem zw_180 : Cond.methodLink "DeltaPress$SuffixTree" (84 : Nat) ({ cls := "java/lang/Integer", name := "highestOneBit", desc := "(I)I" } : MethodName) ∈ wz := List.mem_filter.mpr ⟨(List.mem_append_right _ (List.mem_append_left _ (List.mem_of_getElem? (i := 180) rfl))), by decide +kernel⟩
set_option maxRecDepth 20000 in
theorem zw_181 : Cond.static ({ cls := "java/lang/Integer", name := "highestOneBit", desc := "(I)I" } : MethodName) ∈ wz := List.mem_filter.mpr ⟨(List.mem_append_right _ (List.mem_append_left _ (List.mem_of_getElem? (i := 181) rfl))), by decide +kernel⟩
set_option maxRecDepth 20000 in
theorem zw_182 : Cond.code ({ cls := "java/lang/Integer", name := "highestOneBit", desc := "(I)I" } : MethodName) prog_12_method_45_code (1 : Nat) (Option.some ClassFile.FieldType.int) ∈ wz := List.mem_filter.mpr ⟨(List.mem_append_right _ (List.mem_append_left _ (List.mem_of_getElem? (i := 182) rfl))), by decide +kernel⟩
set_option maxRecDepth 20000 in
theorem zw_183 : Cond.constant "java/lang/Integer" (127 : Nat) (-2147483648 : Int32) ∈ wz := List.mem_filter.mpr ⟨(List.mem_append_right _ (List.mem_append_left _ (List.mem_of_getElem? (i := 183) rfl))), by decide +kernel⟩
set_option maxRecDepth 20000 in
theorem zw_184 : Cond.methodLink "java/lang/Integer" (51 : Nat) ({ cls := "java/lang/Integer", name := "numberOfLeadingZeros", desc := "(I)I" } : MethodName) ∈ wz := List.mem_filter.mpr ⟨(List.mem_append_right _ (List.mem_append_left _ (List.mem_of_getElem? (i := 184) rfl))), by decide +kernel⟩
set_option maxRecDepth 20000 in
theorem zw_185 : Cond.static ({ cls := "java/lang/Integer", name := "numberOfLeadingZeros", desc := "(I)I" } : MethodName) ∈ wz := List.mem_filter.mpr ⟨(List.mem_append_right _ (List.mem_append_left _ (List.mem_of_getElem? (i := 185) rfl))), by decide +kernel⟩
set_option maxRecDepth 20000 in
theorem zw_186 : Cond.code ({ cls := "java/lang/Integer", name := "numberOfLeadingZeros", desc := "(I)I" } : MethodName) prog_12_method_47_code (2 : Nat) (Option.some ClassFile.FieldType.int) ∈ wz := List.mem_filter.mpr ⟨(List.mem_append_right _ (List.mem_append_left _ (List.mem_of_getElem? (i := 186) rfl))), by decide +kernel⟩
set_option maxRecDepth 20000 in
theorem zw_187 : Cond.constant "java/lang/Integer" (264 : Nat) (65536 : Int32) ∈ wz := List.mem_filter.mpr ⟨(List.mem_append_right _ (List.mem_append_left _ (List.mem_of_getElem? (i := 187) rfl))), by decide +kernel⟩
set_option maxRecDepth 20000 in
theorem zw_188 : Cond.methodLink "DeltaPress$SuffixTree" (90 : Nat) ({ cls := "java/lang/Integer", name := "bitCount", desc := "(I)I" } : MethodName) ∈ wz := List.mem_filter.mpr ⟨(List.mem_append_right _ (List.mem_append_left _ (List.mem_of_getElem? (i := 188) rfl))), by decide +kernel⟩
set_option maxRecDepth 20000 in
theorem zw_189 : Cond.static ({ cls := "java/lang/Integer", name := "bitCount", desc := "(I)I" } : MethodName) ∈ wz := List.mem_filter.mpr ⟨(List.mem_append_right _ (List.mem_append_left _ (List.mem_of_getElem? (i := 189) rfl))), by decide +kernel⟩
set_option maxRecDepth 20000 in
theorem zw_190 : Cond.code ({ cls := "java/lang/Integer", name := "bitCount", desc := "(I)I" } : MethodName) prog_12_method_49_code (1 : Nat) (Option.some ClassFile.FieldType.int) ∈ wz := List.mem_filter.mpr ⟨(List.mem_append_right _ (List.mem_append_left _ (List.mem_of_getElem? (i := 190) rfl))), by decide +kernel⟩
set_option maxRecDepth 20000 in
theorem zw_191 : Cond.constant "java/lang/Integer" (265 : Nat) (1431655765 : Int32) ∈ wz := List.mem_filter.mpr ⟨(List.mem_append_right _ (List.mem_append_left _ (List.mem_of_getElem? (i := 191) rfl))), by decide +kernel⟩
set_option maxRecDepth 20000 in
theorem zw_192 : Cond.constant "java/lang/Integer" (266 : Nat) (858993459 : Int32) ∈ wz := List.mem_filter.mpr ⟨(List.mem_append_right _ (List.mem_append_left _ (List.mem_of_getElem? (i := 192) rfl))), by decide +kernel⟩
set_option maxRecDepth 20000 in
theorem zw_193 : Cond.constant "java/lang/Integer" (267 : Nat) (252645135 : Int32) ∈ wz := List.mem_filter.mpr ⟨(List.mem_append_right _ (List.mem_append_left _ (List.mem_of_getElem? (i := 193) rfl))), by decide +kernel⟩
set_option maxRecDepth 20000 in
theorem zw_194 : Cond.methodLink "DeltaPress$SuffixTree" (74 : Nat) ({ cls := "DeltaPress$SuffixTree", name := "addLetter", desc := "(I)V" } : MethodName) ∈ wz := List.mem_filter.mpr ⟨(List.mem_append_right _ (List.mem_append_left _ (List.mem_of_getElem? (i := 194) rfl))), by decide +kernel⟩
set_option maxRecDepth 20000 in
theorem zw_196 : Cond.instanceMethod ({ cls := "DeltaPress$SuffixTree", name := "addLetter", desc := "(I)V" } : MethodName) ∈ wz := List.mem_filter.mpr ⟨(List.mem_append_right _ (List.mem_append_left _ (List.mem_of_getElem? (i := 196) rfl))), by decide +kernel⟩
set_option maxRecDepth 20000 in
theorem zw_197 : Cond.code ({ cls := "DeltaPress$SuffixTree", name := "addLetter", desc := "(I)V" } : MethodName) prog_3_method_6_code (7 : Nat) (Option.none : Option ClassFile.FieldType) ∈ wz := List.mem_filter.mpr ⟨(List.mem_append_right _ (List.mem_append_left _ (List.mem_of_getElem? (i := 197) rfl))), by decide +kernel⟩
set_option maxRecDepth 20000 in
theorem zw_198 : Cond.methodLink "DeltaPress$SuffixTree" (93 : Nat) ({ cls := "DeltaPress$SuffixTree", name := "goDown", desc := "(I)I" } : MethodName) ∈ wz := List.mem_filter.mpr ⟨(List.mem_append_right _ (List.mem_append_left _ (List.mem_of_getElem? (i := 198) rfl))), by decide +kernel⟩
set_option maxRecDepth 20000 in
theorem zw_200 : Cond.instanceMethod ({ cls := "DeltaPress$SuffixTree", name := "goDown", desc := "(I)I" } : MethodName) ∈ wz := List.mem_filter.mpr ⟨(List.mem_append_right _ (List.mem_append_left _ (List.mem_of_getElem? (i := 200) rfl))), by decide +kernel⟩
set_option maxRecDepth 20000 in
theorem zw_201 : Cond.code ({ cls := "DeltaPress$SuffixTree", name := "goDown", desc := "(I)I" } : MethodName) prog_3_method_7_code (6 : Nat) (Option.some ClassFile.FieldType.int) ∈ wz := List.mem_filter.mpr ⟨(List.mem_append_right _ (List.mem_append_left _ (List.mem_of_getElem? (i := 201) rfl))), by decide +kernel⟩
set_option maxRecDepth 20000 in
theorem zw_202 : Cond.methodLink "DeltaPress$SuffixTree" (106 : Nat) ({ cls := "DeltaPress$SuffixTree", name := "slotOf", desc := "(IB)I" } : MethodName) ∈ wz := List.mem_filter.mpr ⟨(List.mem_append_right _ (List.mem_append_left _ (List.mem_of_getElem? (i := 202) rfl))), by decide +kernel⟩
set_option maxRecDepth 20000 in
theorem zw_204 : Cond.instanceMethod ({ cls := "DeltaPress$SuffixTree", name := "slotOf", desc := "(IB)I" } : MethodName) ∈ wz := List.mem_filter.mpr ⟨(List.mem_append_right _ (List.mem_append_left _ (List.mem_of_getElem? (i := 204) rfl))), by decide +kernel⟩
set_option maxRecDepth 20000 in
theorem zw_205 : Cond.code ({ cls := "DeltaPress$SuffixTree", name := "slotOf", desc := "(IB)I" } : MethodName) prog_3_method_12_code (6 : Nat) (Option.some ClassFile.FieldType.int) ∈ wz := List.mem_filter.mpr ⟨(List.mem_append_right _ (List.mem_append_left _ (List.mem_of_getElem? (i := 205) rfl))), by decide +kernel⟩
set_option maxRecDepth 20000 in
theorem zw_206 : Cond.constant "DeltaPress$SuffixTree" (114 : Nat) (-1640531535 : Int32) ∈ wz := List.mem_filter.mpr ⟨(List.mem_append_right _ (List.mem_append_left _ (List.mem_of_getElem? (i := 206) rfl))), by decide +kernel⟩
set_option maxRecDepth 20000 in
theorem zw_207 : Cond.methodLink "DeltaPress$SuffixTree" (96 : Nat) ({ cls := "DeltaPress$SuffixTree", name := "split", desc := "(II)I" } : MethodName) ∈ wz := List.mem_filter.mpr ⟨(List.mem_append_right _ (List.mem_append_left _ (List.mem_of_getElem? (i := 207) rfl))), by decide +kernel⟩
set_option maxRecDepth 20000 in
theorem zw_209 : Cond.instanceMethod ({ cls := "DeltaPress$SuffixTree", name := "split", desc := "(II)I" } : MethodName) ∈ wz := List.mem_filter.mpr ⟨(List.mem_append_right _ (List.mem_append_left _ (List.mem_of_getElem? (i := 209) rfl))), by decide +kernel⟩
set_option maxRecDepth 20000 in
theorem zw_210 : Cond.code ({ cls := "DeltaPress$SuffixTree", name := "split", desc := "(II)I" } : MethodName) prog_3_method_8_code (5 : Nat) (Option.some ClassFile.FieldType.int) ∈ wz := List.mem_filter.mpr ⟨(List.mem_append_right _ (List.mem_append_left _ (List.mem_of_getElem? (i := 210) rfl))), by decide +kernel⟩
set_option maxRecDepth 20000 in
theorem zw_211 : Cond.methodLink "DeltaPress$SuffixTree" (110 : Nat) ({ cls := "DeltaPress$SuffixTree", name := "addNode", desc := "(III)I" } : MethodName) ∈ wz := List.mem_filter.mpr ⟨(List.mem_append_right _ (List.mem_append_left _ (List.mem_of_getElem? (i := 211) rfl))), by decide +kernel⟩
set_option maxRecDepth 20000 in
theorem zw_213 : Cond.instanceMethod ({ cls := "DeltaPress$SuffixTree", name := "addNode", desc := "(III)I" } : MethodName) ∈ wz := List.mem_filter.mpr ⟨(List.mem_append_right _ (List.mem_append_left _ (List.mem_of_getElem? (i := 213) rfl))), by decide +kernel⟩
set_option maxRecDepth 20000 in
theorem zw_214 : Cond.code ({ cls := "DeltaPress$SuffixTree", name := "addNode", desc := "(III)I" } : MethodName) prog_3_method_10_code (5 : Nat) (Option.some ClassFile.FieldType.int) ∈ wz := List.mem_filter.mpr ⟨(List.mem_append_right _ (List.mem_append_left _ (List.mem_of_getElem? (i := 214) rfl))), by decide +kernel⟩
set_option maxRecDepth 20000 in
theorem zw_215 : Cond.methodLink "DeltaPress$SuffixTree" (99 : Nat) ({ cls := "DeltaPress$SuffixTree", name := "addLeaf", desc := "(II)V" } : MethodName) ∈ wz := List.mem_filter.mpr ⟨(List.mem_append_right _ (List.mem_append_left _ (List.mem_of_getElem? (i := 215) rfl))), by decide +kernel⟩
set_option maxRecDepth 20000 in
theorem zw_217 : Cond.instanceMethod ({ cls := "DeltaPress$SuffixTree", name := "addLeaf", desc := "(II)V" } : MethodName) ∈ wz := List.mem_filter.mpr ⟨(List.mem_append_right _ (List.mem_append_left _ (List.mem_of_getElem? (i := 217) rfl))), by decide +kernel⟩
set_option maxRecDepth 20000 in
theorem zw_218 : Cond.code ({ cls := "DeltaPress$SuffixTree", name := "addLeaf", desc := "(II)V" } : MethodName) prog_3_method_9_code (4 : Nat) (Option.none : Option ClassFile.FieldType) ∈ wz := List.mem_filter.mpr ⟨(List.mem_append_right _ (List.mem_append_left _ (List.mem_of_getElem? (i := 218) rfl))), by decide +kernel⟩
set_option maxRecDepth 20000 in
theorem zw_219 : Cond.methodLink "DeltaPress$SuffixTree" (103 : Nat) ({ cls := "DeltaPress$SuffixTree", name := "goToNextSuffix", desc := "()V" } : MethodName) ∈ wz := List.mem_filter.mpr ⟨(List.mem_append_right _ (List.mem_append_left _ (List.mem_of_getElem? (i := 219) rfl))), by decide +kernel⟩
set_option maxRecDepth 20000 in
theorem zw_221 : Cond.instanceMethod ({ cls := "DeltaPress$SuffixTree", name := "goToNextSuffix", desc := "()V" } : MethodName) ∈ wz := List.mem_filter.mpr ⟨(List.mem_append_right _ (List.mem_append_left _ (List.mem_of_getElem? (i := 221) rfl))), by decide +kernel⟩
set_option maxRecDepth 20000 in
theorem zw_222 : Cond.code ({ cls := "DeltaPress$SuffixTree", name := "goToNextSuffix", desc := "()V" } : MethodName) prog_3_method_11_code (1 : Nat) (Option.none : Option ClassFile.FieldType) ∈ wz := List.mem_filter.mpr ⟨(List.mem_append_right _ (List.mem_append_left _ (List.mem_of_getElem? (i := 222) rfl))), by decide +kernel⟩
set_option maxRecDepth 20000 in
theorem zw_223 : Cond.constant "DeltaPress" (138 : Nat) (65535 : Int32) ∈ wz := List.mem_filter.mpr ⟨(List.mem_append_right _ (List.mem_append_left _ (List.mem_of_getElem? (i := 223) rfl))), by decide +kernel⟩
set_option maxRecDepth 20000 in
theorem zw_224 : Cond.methodLink "DeltaPress" (139 : Nat) ({ cls := "DeltaPress$SuffixTree", name := "find", desc := "(LDeltaPress$Text;II)V" } : MethodName) ∈ wz := List.mem_filter.mpr ⟨(List.mem_append_right _ (List.mem_append_left _ (List.mem_of_getElem? (i := 224) rfl))), by decide +kernel⟩
set_option maxRecDepth 20000 in
theorem zw_225 : Cond.instanceMethod ({ cls := "DeltaPress$SuffixTree", name := "find", desc := "(LDeltaPress$Text;II)V" } : MethodName) ∈ wz := List.mem_filter.mpr ⟨(List.mem_append_right _ (List.mem_append_left _ (List.mem_of_getElem? (i := 225) rfl))), by decide +kernel⟩
set_option maxRecDepth 20000 in
theorem zw_226 : Cond.selects "DeltaPress$SuffixTree" ({ cls := "DeltaPress$SuffixTree", name := "find", desc := "(LDeltaPress$Text;II)V" } : MethodName) ({ cls := "DeltaPress$SuffixTree", name := "find", desc := "(LDeltaPress$Text;II)V" } : MethodName) ∈ wz := List.mem_filter.mpr ⟨(List.mem_append_right _ (List.mem_append_left _ (List.mem_of_getElem? (i := 226) rfl))), by decide +kernel⟩
set_option maxRecDepth 20000 in
theorem zw_227 : Cond.code ({ cls := "DeltaPress$SuffixTree", name := "find", desc := "(LDeltaPress$Text;II)V" } : MethodName) prog_3_method_13_code (10 : Nat) (Option.none : Option ClassFile.FieldType) ∈ wz := List.mem_filter.mpr ⟨(List.mem_append_right _ (List.mem_append_left _ (List.mem_of_getElem? (i := 227) rfl))), by decide +kernel⟩
set_option maxRecDepth 20000 in
theorem zw_228 : Cond.methodLink "DeltaPress$SuffixTree" (115 : Nat) ({ cls := "java/lang/Math", name := "min", desc := "(II)I" } : MethodName) ∈ wz := List.mem_filter.mpr ⟨(List.mem_append_right _ (List.mem_append_left _ (List.mem_of_getElem? (i := 228) rfl))), by decide +kernel⟩
set_option maxRecDepth 20000 in
theorem zw_229 : Cond.static ({ cls := "java/lang/Math", name := "min", desc := "(II)I" } : MethodName) ∈ wz := List.mem_filter.mpr ⟨(List.mem_append_right _ (List.mem_append_left _ (List.mem_of_getElem? (i := 229) rfl))), by decide +kernel⟩
set_option maxRecDepth 20000 in
theorem zw_230 : Cond.code ({ cls := "java/lang/Math", name := "min", desc := "(II)I" } : MethodName) prog_13_method_69_code (2 : Nat) (Option.some ClassFile.FieldType.int) ∈ wz := List.mem_filter.mpr ⟨(List.mem_append_right _ (List.mem_append_left _ (List.mem_of_getElem? (i := 230) rfl))), by decide +kernel⟩
set_option maxRecDepth 20000 in
theorem zw_231 : Cond.methodLink "DeltaPress$SuffixTree" (118 : Nat) ({ cls := "DeltaPress$SuffixTree", name := "sameLetters", desc := "(I[BII)I" } : MethodName) ∈ wz := List.mem_filter.mpr ⟨(List.mem_append_right _ (List.mem_append_left _ (List.mem_of_getElem? (i := 231) rfl))), by decide +kernel⟩
set_option maxRecDepth 20000 in
theorem zw_233 : Cond.instanceMethod ({ cls := "DeltaPress$SuffixTree", name := "sameLetters", desc := "(I[BII)I" } : MethodName) ∈ wz := List.mem_filter.mpr ⟨(List.mem_append_right _ (List.mem_append_left _ (List.mem_of_getElem? (i := 233) rfl))), by decide +kernel⟩
set_option maxRecDepth 20000 in
theorem zw_234 : Cond.code ({ cls := "DeltaPress$SuffixTree", name := "sameLetters", desc := "(I[BII)I" } : MethodName) prog_3_method_14_code (6 : Nat) (Option.some ClassFile.FieldType.int) ∈ wz := List.mem_filter.mpr ⟨(List.mem_append_right _ (List.mem_append_left _ (List.mem_of_getElem? (i := 234) rfl))), by decide +kernel⟩
set_option maxRecDepth 20000 in
theorem zw_235 : Cond.methodLink "DeltaPress" (98 : Nat) ({ cls := "DeltaPress$SuffixTree", name := "foundLength", desc := "()I" } : MethodName) ∈ wz := List.mem_filter.mpr ⟨(List.mem_append_right _ (List.mem_append_left _ (List.mem_of_getElem? (i := 235) rfl))), by decide +kernel⟩
set_option maxRecDepth 20000 in
theorem zw_236 : Cond.instanceMethod ({ cls := "DeltaPress$SuffixTree", name := "foundLength", desc := "()I" } : MethodName) ∈ wz := List.mem_filter.mpr ⟨(List.mem_append_right _ (List.mem_append_left _ (List.mem_of_getElem? (i := 236) rfl))), by decide +kernel⟩
set_option maxRecDepth 20000 in
theorem zw_237 : Cond.selects "DeltaPress$SuffixTree" ({ cls := "DeltaPress$SuffixTree", name := "foundLength", desc := "()I" } : MethodName) ({ cls := "DeltaPress$SuffixTree", name := "foundLength", desc := "()I" } : MethodName) ∈ wz := List.mem_filter.mpr ⟨(List.mem_append_right _ (List.mem_append_left _ (List.mem_of_getElem? (i := 237) rfl))), by decide +kernel⟩
set_option maxRecDepth 20000 in
theorem zw_238 : Cond.code ({ cls := "DeltaPress$SuffixTree", name := "foundLength", desc := "()I" } : MethodName) prog_3_method_2_code (1 : Nat) (Option.some ClassFile.FieldType.int) ∈ wz := List.mem_filter.mpr ⟨(List.mem_append_right _ (List.mem_append_left _ (List.mem_of_getElem? (i := 238) rfl))), by decide +kernel⟩
set_option maxRecDepth 20000 in
theorem zw_239 : Cond.methodLink "DeltaPress" (101 : Nat) ({ cls := "DeltaPress", name := "writeNew", desc := "(II)V" } : MethodName) ∈ wz := List.mem_filter.mpr ⟨(List.mem_append_right _ (List.mem_append_left _ (List.mem_of_getElem? (i := 239) rfl))), by decide +kernel⟩
set_option maxRecDepth 20000 in
theorem zw_241 : Cond.instanceMethod ({ cls := "DeltaPress", name := "writeNew", desc := "(II)V" } : MethodName) ∈ wz := List.mem_filter.mpr ⟨(List.mem_append_right _ (List.mem_append_right _ (List.mem_append_left _ (List.mem_of_getElem? (i := 1) rfl)))), by decide +kernel⟩
set_option maxRecDepth 20000 in
theorem zw_242 : Cond.code ({ cls := "DeltaPress", name := "writeNew", desc := "(II)V" } : MethodName) prog_1_method_13_code (5 : Nat) (Option.none : Option ClassFile.FieldType) ∈ wz := List.mem_filter.mpr ⟨(List.mem_append_right _ (List.mem_append_right _ (List.mem_append_left _ (List.mem_of_getElem? (i := 2) rfl)))), by decide +kernel⟩
set_option maxRecDepth 20000 in
theorem zw_243 : Cond.methodLink "DeltaPress" (142 : Nat) ({ cls := "java/lang/Math", name := "min", desc := "(II)I" } : MethodName) ∈ wz := List.mem_filter.mpr ⟨(List.mem_append_right _ (List.mem_append_right _ (List.mem_append_left _ (List.mem_of_getElem? (i := 3) rfl)))), by decide +kernel⟩
set_option maxRecDepth 20000 in
theorem zw_244 : Cond.methodLink "DeltaPress" (148 : Nat) ({ cls := "DeltaPress$Text", name := "add", desc := "(I)V" } : MethodName) ∈ wz := List.mem_filter.mpr ⟨(List.mem_append_right _ (List.mem_append_right _ (List.mem_append_left _ (List.mem_of_getElem? (i := 4) rfl)))), by decide +kernel⟩
set_option maxRecDepth 20000 in
theorem zw_245 : Cond.methodLink "DeltaPress" (119 : Nat) ({ cls := "DeltaPress$Text", name := "addPart", desc := "(LDeltaPress$Text;II)V" } : MethodName) ∈ wz := List.mem_filter.mpr ⟨(List.mem_append_right _ (List.mem_append_right _ (List.mem_append_left _ (List.mem_of_getElem? (i := 5) rfl)))), by decide +kernel⟩
set_option maxRecDepth 20000 in
theorem zw_246 : Cond.instanceMethod ({ cls := "DeltaPress$Text", name := "addPart", desc := "(LDeltaPress$Text;II)V" } : MethodName) ∈ wz := List.mem_filter.mpr ⟨(List.mem_append_right _ (List.mem_append_right _ (List.mem_append_left _ (List.mem_of_getElem? (i := 6) rfl)))), by decide +kernel⟩
set_option maxRecDepth 20000 in
theorem zw_247 : Cond.selects "DeltaPress$Text" ({ cls := "DeltaPress$Text", name := "addPart", desc := "(LDeltaPress$Text;II)V" } : MethodName) ({ cls := "DeltaPress$Text", name := "addPart", desc := "(LDeltaPress$Text;II)V" } : MethodName) ∈ wz := List.mem_filter.mpr ⟨(List.mem_append_right _ (List.mem_append_right _ (List.mem_append_left _ (List.mem_of_getElem? (i := 7) rfl)))), by decide +kernel⟩
set_option maxRecDepth 20000 in
theorem zw_248 : Cond.code ({ cls := "DeltaPress$Text", name := "addPart", desc := "(LDeltaPress$Text;II)V" } : MethodName) prog_4_method_12_code (4 : Nat) (Option.none : Option ClassFile.FieldType) ∈ wz := List.mem_filter.mpr ⟨(List.mem_append_right _ (List.mem_append_right _ (List.mem_append_left _ (List.mem_of_getElem? (i := 8) rfl)))), by decide +kernel⟩
set_option maxRecDepth 20000 in
theorem zw_249 : Cond.methodLink "DeltaPress$Text" (21 : Nat) ({ cls := "java/lang/System", name := "arraycopy", desc := "(Ljava/lang/Object;ILjava/lang/Object;II)V" } : MethodName) ∈ wz := List.mem_filter.mpr ⟨(List.mem_append_right _ (List.mem_append_right _ (List.mem_append_left _ (List.mem_of_getElem? (i := 9) rfl)))), by decide +kernel⟩
set_option maxRecDepth 20000 in
theorem zw_250 : Cond.static ({ cls := "java/lang/System", name := "arraycopy", desc := "(Ljava/lang/Object;ILjava/lang/Object;II)V" } : MethodName) ∈ wz := List.mem_filter.mpr ⟨(List.mem_append_right _ (List.mem_append_right _ (List.mem_append_left _ (List.mem_of_getElem? (i := 10) rfl)))), by decide +kernel⟩
set_option maxRecDepth 20000 in
theorem zw_251 : Cond.native ({ cls := "java/lang/System", name := "arraycopy", desc := "(Ljava/lang/Object;ILjava/lang/Object;II)V" } : MethodName) ∈ wz := List.mem_filter.mpr ⟨(List.mem_append_right _ (List.mem_append_right _ (List.mem_append_left _ (List.mem_of_getElem? (i := 11) rfl)))), by decide +kernel⟩
set_option maxRecDepth 20000 in
theorem zw_252 : Cond.methodLink "DeltaPress" (104 : Nat) ({ cls := "DeltaPress$SuffixTree", name := "foundPlace", desc := "()I" } : MethodName) ∈ wz := List.mem_filter.mpr ⟨(List.mem_append_right _ (List.mem_append_right _ (List.mem_append_left _ (List.mem_of_getElem? (i := 12) rfl)))), by decide +kernel⟩
set_option maxRecDepth 20000 in
theorem zw_253 : Cond.instanceMethod ({ cls := "DeltaPress$SuffixTree", name := "foundPlace", desc := "()I" } : MethodName) ∈ wz := List.mem_filter.mpr ⟨(List.mem_append_right _ (List.mem_append_right _ (List.mem_append_left _ (List.mem_of_getElem? (i := 13) rfl)))), by decide +kernel⟩
set_option maxRecDepth 20000 in
theorem zw_254 : Cond.selects "DeltaPress$SuffixTree" ({ cls := "DeltaPress$SuffixTree", name := "foundPlace", desc := "()I" } : MethodName) ({ cls := "DeltaPress$SuffixTree", name := "foundPlace", desc := "()I" } : MethodName) ∈ wz := List.mem_filter.mpr ⟨(List.mem_append_right _ (List.mem_append_right _ (List.mem_append_left _ (List.mem_of_getElem? (i := 14) rfl)))), by decide +kernel⟩
set_option maxRecDepth 20000 in
theorem zw_255 : Cond.code ({ cls := "DeltaPress$SuffixTree", name := "foundPlace", desc := "()I" } : MethodName) prog_3_method_3_code (1 : Nat) (Option.some ClassFile.FieldType.int) ∈ wz := List.mem_filter.mpr ⟨(List.mem_append_right _ (List.mem_append_right _ (List.mem_append_left _ (List.mem_of_getElem? (i := 15) rfl)))), by decide +kernel⟩
set_option maxRecDepth 20000 in
theorem zw_256 : Cond.methodLink "DeltaPress" (107 : Nat) ({ cls := "DeltaPress", name := "writeCopy", desc := "(II)V" } : MethodName) ∈ wz := List.mem_filter.mpr ⟨(List.mem_append_right _ (List.mem_append_right _ (List.mem_append_left _ (List.mem_of_getElem? (i := 16) rfl)))), by decide +kernel⟩
set_option maxRecDepth 20000 in
theorem zw_258 : Cond.instanceMethod ({ cls := "DeltaPress", name := "writeCopy", desc := "(II)V" } : MethodName) ∈ wz := List.mem_filter.mpr ⟨(List.mem_append_right _ (List.mem_append_right _ (List.mem_append_left _ (List.mem_of_getElem? (i := 18) rfl)))), by decide +kernel⟩
set_option maxRecDepth 20000 in
theorem zw_259 : Cond.code ({ cls := "DeltaPress", name := "writeCopy", desc := "(II)V" } : MethodName) prog_1_method_14_code (4 : Nat) (Option.none : Option ClassFile.FieldType) ∈ wz := List.mem_filter.mpr ⟨(List.mem_append_right _ (List.mem_append_right _ (List.mem_append_left _ (List.mem_of_getElem? (i := 19) rfl)))), by decide +kernel⟩
set_option maxRecDepth 20000 in
theorem zw_260 : Cond.methodLink "DeltaPress" (151 : Nat) ({ cls := "DeltaPress", name := "bitsOfBytes", desc := "(II)I" } : MethodName) ∈ wz := List.mem_filter.mpr ⟨(List.mem_append_right _ (List.mem_append_right _ (List.mem_append_left _ (List.mem_of_getElem? (i := 20) rfl)))), by decide +kernel⟩
set_option maxRecDepth 20000 in
theorem zw_261 : Cond.static ({ cls := "DeltaPress", name := "bitsOfBytes", desc := "(II)I" } : MethodName) ∈ wz := List.mem_filter.mpr ⟨(List.mem_append_right _ (List.mem_append_right _ (List.mem_append_left _ (List.mem_of_getElem? (i := 21) rfl)))), by decide +kernel⟩
set_option maxRecDepth 20000 in
theorem zw_262 : Cond.code ({ cls := "DeltaPress", name := "bitsOfBytes", desc := "(II)I" } : MethodName) prog_1_method_15_code (4 : Nat) (Option.some ClassFile.FieldType.int) ∈ wz := List.mem_filter.mpr ⟨(List.mem_append_right _ (List.mem_append_right _ (List.mem_append_left _ (List.mem_of_getElem? (i := 22) rfl)))), by decide +kernel⟩
set_option maxRecDepth 20000 in
theorem zw_263 : Cond.methodLink "DeltaPress" (154 : Nat) ({ cls := "DeltaPress$Text", name := "addBytesNotZero", desc := "(II)V" } : MethodName) ∈ wz := List.mem_filter.mpr ⟨(List.mem_append_right _ (List.mem_append_right _ (List.mem_append_left _ (List.mem_of_getElem? (i := 23) rfl)))), by decide +kernel⟩
set_option maxRecDepth 20000 in
theorem zw_264 : Cond.instanceMethod ({ cls := "DeltaPress$Text", name := "addBytesNotZero", desc := "(II)V" } : MethodName) ∈ wz := List.mem_filter.mpr ⟨(List.mem_append_right _ (List.mem_append_right _ (List.mem_append_left _ (List.mem_of_getElem? (i := 24) rfl)))), by decide +kernel⟩
set_option maxRecDepth 20000 in
theorem zw_265 : Cond.selects "DeltaPress$Text" ({ cls := "DeltaPress$Text", name := "addBytesNotZero", desc := "(II)V" } : MethodName) ({ cls := "DeltaPress$Text", name := "addBytesNotZero", desc := "(II)V" } : MethodName) ∈ wz := List.mem_filter.mpr ⟨(List.mem_append_right _ (List.mem_append_right _ (List.mem_append_left _ (List.mem_of_getElem? (i := 25) rfl)))), by decide +kernel⟩
set_option maxRecDepth 20000 in
theorem zw_266 : Cond.code ({ cls := "DeltaPress$Text", name := "addBytesNotZero", desc := "(II)V" } : MethodName) prog_4_method_11_code (5 : Nat) (Option.none : Option ClassFile.FieldType) ∈ wz := List.mem_filter.mpr ⟨(List.mem_append_right _ (List.mem_append_right _ (List.mem_append_left _ (List.mem_of_getElem? (i := 26) rfl)))), by decide +kernel⟩
set_option maxRecDepth 20000 in
theorem zw_267 : Cond.methodLink "DeltaPressLaw" (86 : Nat) ({ cls := "DeltaPress", name := "count", desc := "(I)I" } : MethodName) ∈ wz := List.mem_filter.mpr ⟨(List.mem_append_right _ (List.mem_append_right _ (List.mem_append_left _ (List.mem_of_getElem? (i := 27) rfl)))), by decide +kernel⟩
set_option maxRecDepth 20000 in
theorem zw_268 : Cond.instanceMethod ({ cls := "DeltaPress", name := "count", desc := "(I)I" } : MethodName) ∈ wz := List.mem_filter.mpr ⟨(List.mem_append_right _ (List.mem_append_right _ (List.mem_append_left _ (List.mem_of_getElem? (i := 28) rfl)))), by decide +kernel⟩
set_option maxRecDepth 20000 in
theorem zw_269 : Cond.selects "DeltaPress" ({ cls := "DeltaPress", name := "count", desc := "(I)I" } : MethodName) ({ cls := "DeltaPress", name := "count", desc := "(I)I" } : MethodName) ∈ wz := List.mem_filter.mpr ⟨(List.mem_append_right _ (List.mem_append_right _ (List.mem_append_left _ (List.mem_of_getElem? (i := 29) rfl)))), by decide +kernel⟩
set_option maxRecDepth 20000 in
theorem zw_270 : Cond.code ({ cls := "DeltaPress", name := "count", desc := "(I)I" } : MethodName) prog_1_method_11_code (2 : Nat) (Option.some ClassFile.FieldType.int) ∈ wz := List.mem_filter.mpr ⟨(List.mem_append_right _ (List.mem_append_right _ (List.mem_append_left _ (List.mem_of_getElem? (i := 30) rfl)))), by decide +kernel⟩
set_option maxRecDepth 20000 in
theorem zw_271 : Cond.methodLink "DeltaPressLaw" (47 : Nat) ({ cls := "DeltaPressLaw", name := "feed", desc := "(LDeltaPress;IIIII[J)I" } : MethodName) ∈ wz := List.mem_filter.mpr ⟨(List.mem_append_right _ (List.mem_append_right _ (List.mem_append_left _ (List.mem_of_getElem? (i := 31) rfl)))), by decide +kernel⟩
set_option maxRecDepth 20000 in
theorem zw_272 : Cond.static ({ cls := "DeltaPressLaw", name := "feed", desc := "(LDeltaPress;IIIII[J)I" } : MethodName) ∈ wz := List.mem_filter.mpr ⟨(List.mem_append_right _ (List.mem_append_right _ (List.mem_append_left _ (List.mem_of_getElem? (i := 32) rfl)))), by decide +kernel⟩
set_option maxRecDepth 20000 in
theorem zw_274 : Cond.classLink "DeltaPressLaw" (13 : Nat) "java/lang/IllegalStateException" ∈ wz := List.mem_filter.mpr ⟨(List.mem_append_right _ (List.mem_append_right _ (List.mem_append_left _ (List.mem_of_getElem? (i := 34) rfl)))), by decide +kernel⟩
set_option maxRecDepth 20000 in
theorem zw_275 : Cond.methodLink "DeltaPressLaw" (7 : Nat) ({ cls := "DeltaPress", name := "feed", desc := "(IIIII)I" } : MethodName) ∈ wz := List.mem_filter.mpr ⟨(List.mem_append_right _ (List.mem_append_right _ (List.mem_append_left _ (List.mem_of_getElem? (i := 35) rfl)))), by decide +kernel⟩
set_option maxRecDepth 20000 in
theorem zw_276 : Cond.instanceMethod ({ cls := "DeltaPress", name := "feed", desc := "(IIIII)I" } : MethodName) ∈ wz := List.mem_filter.mpr ⟨(List.mem_append_right _ (List.mem_append_right _ (List.mem_append_left _ (List.mem_of_getElem? (i := 36) rfl)))), by decide +kernel⟩
set_option maxRecDepth 20000 in
theorem zw_277 : Cond.selects "DeltaPress" ({ cls := "DeltaPress", name := "feed", desc := "(IIIII)I" } : MethodName) ({ cls := "DeltaPress", name := "feed", desc := "(IIIII)I" } : MethodName) ∈ wz := List.mem_filter.mpr ⟨(List.mem_append_right _ (List.mem_append_right _ (List.mem_append_left _ (List.mem_of_getElem? (i := 37) rfl)))), by decide +kernel⟩
set_option maxRecDepth 20000 in
theorem zw_278 : Cond.code ({ cls := "DeltaPress", name := "feed", desc := "(IIIII)I" } : MethodName) prog_1_method_2_code (6 : Nat) (Option.some ClassFile.FieldType.int) ∈ wz := List.mem_filter.mpr ⟨(List.mem_append_right _ (List.mem_append_right _ (List.mem_append_left _ (List.mem_of_getElem? (i := 38) rfl)))), by decide +kernel⟩
set_option maxRecDepth 20000 in
theorem zw_279 : Cond.constant "DeltaPress" (61 : Nat) (65516 : Int32) ∈ wz := List.mem_filter.mpr ⟨(List.mem_append_right _ (List.mem_append_right _ (List.mem_append_left _ (List.mem_of_getElem? (i := 39) rfl)))), by decide +kernel⟩
set_option maxRecDepth 20000 in
theorem zw_280 : Cond.classLink "DeltaPress" (62 : Nat) "java/lang/IllegalStateException" ∈ wz := List.mem_filter.mpr ⟨(List.mem_append_right _ (List.mem_append_right _ (List.mem_append_left _ (List.mem_of_getElem? (i := 40) rfl)))), by decide +kernel⟩
set_option maxRecDepth 20000 in
theorem zw_281 : Cond.instantiable "java/lang/IllegalStateException" (6 : Nat) ∈ wz := List.mem_filter.mpr ⟨(List.mem_append_right _ (List.mem_append_right _ (List.mem_append_left _ (List.mem_of_getElem? (i := 41) rfl)))), by decide +kernel⟩
set_option maxRecDepth 20000 in
theorem zw_289 : Cond.selects "java/lang/IllegalStateException" ({ cls := "java/lang/Throwable", name := "fillInStackTrace", desc := "(I)Ljava/lang/Throwable;" } : MethodName) ({ cls := "java/lang/Throwable", name := "fillInStackTrace", desc := "(I)Ljava/lang/Throwable;" } : MethodName) ∈ wz := List.mem_filter.mpr ⟨(List.mem_append_right _ (List.mem_append_right _ (List.mem_append_left _ (List.mem_of_getElem? (i := 49) rfl)))), by decide +kernel⟩
set_option maxRecDepth 20000 in
theorem zw_290 : Cond.selects "java/lang/IllegalStateException" ({ cls := "java/lang/Throwable", name := "fillInStackTrace", desc := "()Ljava/lang/Throwable;" } : MethodName) ({ cls := "java/lang/Throwable", name := "fillInStackTrace", desc := "()Ljava/lang/Throwable;" } : MethodName) ∈ wz := List.mem_filter.mpr ⟨(List.mem_append_right _ (List.mem_append_right _ (List.mem_append_left _ (List.mem_of_getElem? (i := 50) rfl)))), by decide +kernel⟩
set_option maxRecDepth 20000 in
theorem zw_291 : Cond.lays "java/lang/IllegalStateException" "java/lang/Throwable" "cause" "Ljava/lang/Throwable;" ∈ wz := List.mem_filter.mpr ⟨(List.mem_append_right _ (List.mem_append_right _ (List.mem_append_left _ (List.mem_of_getElem? (i := 51) rfl)))), by decide +kernel⟩
set_option maxRecDepth 20000 in
theorem zw_292 : Cond.lays "java/lang/Throwable" "java/lang/Throwable" "cause" "Ljava/lang/Throwable;" ∈ wz := List.mem_filter.mpr ⟨(List.mem_append_right _ (List.mem_append_right _ (List.mem_append_left _ (List.mem_of_getElem? (i := 52) rfl)))), by decide +kernel⟩
set_option maxRecDepth 20000 in
theorem zw_293 : Cond.lays "java/lang/IllegalStateException" "java/lang/Throwable" "stackTrace" "[Ljava/lang/StackTraceElement;" ∈ wz := List.mem_filter.mpr ⟨(List.mem_append_right _ (List.mem_append_right _ (List.mem_append_left _ (List.mem_of_getElem? (i := 53) rfl)))), by decide +kernel⟩
set_option maxRecDepth 20000 in
theorem zw_294 : Cond.lays "java/lang/Throwable" "java/lang/Throwable" "stackTrace" "[Ljava/lang/StackTraceElement;" ∈ wz := List.mem_filter.mpr ⟨(List.mem_append_right _ (List.mem_append_right _ (List.mem_append_left _ (List.mem_of_getElem? (i := 54) rfl)))), by decide +kernel⟩
set_option maxRecDepth 20000 in
theorem zw_295 : Cond.lays "java/lang/IllegalStateException" "java/lang/Throwable" "suppressedExceptions" "Ljava/util/List;" ∈ wz := List.mem_filter.mpr ⟨(List.mem_append_right _ (List.mem_append_right _ (List.mem_append_left _ (List.mem_of_getElem? (i := 55) rfl)))), by decide +kernel⟩
set_option maxRecDepth 20000 in
theorem zw_296 : Cond.lays "java/lang/Throwable" "java/lang/Throwable" "suppressedExceptions" "Ljava/util/List;" ∈ wz := List.mem_filter.mpr ⟨(List.mem_append_right _ (List.mem_append_right _ (List.mem_append_left _ (List.mem_of_getElem? (i := 56) rfl)))), by decide +kernel⟩
set_option maxRecDepth 20000 in
theorem zw_297 : Cond.lays "java/lang/IllegalStateException" "java/lang/Throwable" "detailMessage" "Ljava/lang/String;" ∈ wz := List.mem_filter.mpr ⟨(List.mem_append_right _ (List.mem_append_right _ (List.mem_append_left _ (List.mem_of_getElem? (i := 57) rfl)))), by decide +kernel⟩
set_option maxRecDepth 20000 in
theorem zw_298 : Cond.lays "java/lang/Throwable" "java/lang/Throwable" "detailMessage" "Ljava/lang/String;" ∈ wz := List.mem_filter.mpr ⟨(List.mem_append_right _ (List.mem_append_right _ (List.mem_append_left _ (List.mem_of_getElem? (i := 58) rfl)))), by decide +kernel⟩
set_option maxRecDepth 20000 in
theorem zw_299 : Cond.lays "java/lang/IllegalStateException" "java/lang/Throwable" "backtrace" "Ljava/lang/Object;" ∈ wz := List.mem_filter.mpr ⟨(List.mem_append_right _ (List.mem_append_right _ (List.mem_append_left _ (List.mem_of_getElem? (i := 59) rfl)))), by decide +kernel⟩
set_option maxRecDepth 20000 in
theorem zw_300 : Cond.lays "java/lang/Throwable" "java/lang/Throwable" "backtrace" "Ljava/lang/Object;" ∈ wz := List.mem_filter.mpr ⟨(List.mem_append_right _ (List.mem_append_right _ (List.mem_append_left _ (List.mem_of_getElem? (i := 60) rfl)))), by decide +kernel⟩
set_option maxRecDepth 20000 in
theorem zw_301 : Cond.fieldLink "java/lang/Throwable" (198 : Nat) "java/lang/Throwable" "backtrace" "Ljava/lang/Object;" ∈ wz := List.mem_filter.mpr ⟨(List.mem_append_right _ (List.mem_append_right _ (List.mem_append_left _ (List.mem_of_getElem? (i := 61) rfl)))), by decide +kernel⟩
set_option maxRecDepth 20000 in
theorem zw_302 : Cond.superclass "java/lang/Throwable" "java/lang/Object" ∈ wz := List.mem_filter.mpr ⟨(List.mem_append_right _ (List.mem_append_right _ (List.mem_append_left _ (List.mem_of_getElem? (i := 62) rfl)))), by decide +kernel⟩
set_option maxRecDepth 20000 in
theorem zw_303 : Cond.instanceMethod ({ cls := "java/lang/Throwable", name := "<init>", desc := "()V" } : MethodName) ∈ wz := List.mem_filter.mpr ⟨(List.mem_append_right _ (List.mem_append_right _ (List.mem_append_left _ (List.mem_of_getElem? (i := 63) rfl)))), by decide +kernel⟩
set_option maxRecDepth 20000 in
theorem zw_304 : Cond.code ({ cls := "java/lang/Throwable", name := "<init>", desc := "()V" } : MethodName) prog_17_method_1_code (1 : Nat) (Option.none : Option ClassFile.FieldType) ∈ wz := List.mem_filter.mpr ⟨(List.mem_append_right _ (List.mem_append_right _ (List.mem_append_left _ (List.mem_of_getElem? (i := 64) rfl)))), by decide +kernel⟩
set_option maxRecDepth 20000 in
theorem zw_305 : Cond.methodLink "java/lang/Throwable" (1 : Nat) ({ cls := "java/lang/Object", name := "<init>", desc := "()V" } : MethodName) ∈ wz := List.mem_filter.mpr ⟨(List.mem_append_right _ (List.mem_append_right _ (List.mem_append_left _ (List.mem_of_getElem? (i := 65) rfl)))), by decide +kernel⟩
set_option maxRecDepth 20000 in
theorem zw_306 : Cond.fieldLink "java/lang/Throwable" (13 : Nat) "java/lang/Throwable" "UNASSIGNED_STACK" "[Ljava/lang/StackTraceElement;" ∈ wz := List.mem_filter.mpr ⟨(List.mem_append_right _ (List.mem_append_right _ (List.mem_append_left _ (List.mem_of_getElem? (i := 66) rfl)))), by decide +kernel⟩
set_option maxRecDepth 20000 in
theorem zw_308 : Cond.fieldLink "java/lang/Throwable" (20 : Nat) "java/lang/Throwable" "SUPPRESSED_SENTINEL" "Ljava/util/List;" ∈ wz := List.mem_filter.mpr ⟨(List.mem_append_right _ (List.mem_append_right _ (List.mem_append_left _ (List.mem_of_getElem? (i := 68) rfl)))), by decide +kernel⟩
set_option maxRecDepth 20000 in
theorem zw_310 : Cond.methodLink "java/lang/Throwable" (27 : Nat) ({ cls := "java/lang/Throwable", name := "fillInStackTrace", desc := "()Ljava/lang/Throwable;" } : MethodName) ∈ wz := List.mem_filter.mpr ⟨(List.mem_append_right _ (List.mem_append_right _ (List.mem_append_left _ (List.mem_of_getElem? (i := 70) rfl)))), by decide +kernel⟩
set_option maxRecDepth 20000 in
theorem zw_311 : Cond.instanceMethod ({ cls := "java/lang/Throwable", name := "fillInStackTrace", desc := "()Ljava/lang/Throwable;" } : MethodName) ∈ wz := List.mem_filter.mpr ⟨(List.mem_append_right _ (List.mem_append_right _ (List.mem_append_left _ (List.mem_of_getElem? (i := 71) rfl)))), by decide +kernel⟩
set_option maxRecDepth 20000 in
theorem zw_312 : Cond.sameMethod "java/lang/Throwable" "java/lang/Throwable" "fillInStackTrace" "()Ljava/lang/Throwable;" ∈ wz := List.mem_filter.mpr ⟨(List.mem_append_right _ (List.mem_append_right _ (List.mem_append_left _ (List.mem_of_getElem? (i := 72) rfl)))), by decide +kernel⟩
set_option maxRecDepth 20000 in
theorem zw_313 : Cond.selects "java/lang/ArithmeticException" ({ cls := "java/lang/Throwable", name := "fillInStackTrace", desc := "()Ljava/lang/Throwable;" } : MethodName) ({ cls := "java/lang/Throwable", name := "fillInStackTrace", desc := "()Ljava/lang/Throwable;" } : MethodName) ∈ wz := List.mem_filter.mpr ⟨(List.mem_append_right _ (List.mem_append_right _ (List.mem_append_left _ (List.mem_of_getElem? (i := 73) rfl)))), by decide +kernel⟩
set_option maxRecDepth 20000 in
theorem zw_314 : Cond.selects "java/lang/IllegalArgumentException" ({ cls := "java/lang/Throwable", name := "fillInStackTrace", desc := "()Ljava/lang/Throwable;" } : MethodName) ({ cls := "java/lang/Throwable", name := "fillInStackTrace", desc := "()Ljava/lang/Throwable;" } : MethodName) ∈ wz := List.mem_filter.mpr ⟨(List.mem_append_right _ (List.mem_append_right _ (List.mem_append_left _ (List.mem_of_getElem? (i := 74) rfl)))), by decide +kernel⟩
set_option maxRecDepth 20000 in
theorem zw_315 : Cond.selects "java/lang/IndexOutOfBoundsException" ({ cls := "java/lang/Throwable", name := "fillInStackTrace", desc := "()Ljava/lang/Throwable;" } : MethodName) ({ cls := "java/lang/Throwable", name := "fillInStackTrace", desc := "()Ljava/lang/Throwable;" } : MethodName) ∈ wz := List.mem_filter.mpr ⟨(List.mem_append_right _ (List.mem_append_right _ (List.mem_append_left _ (List.mem_of_getElem? (i := 75) rfl)))), by decide +kernel⟩
set_option maxRecDepth 20000 in
theorem zw_317 : Cond.methodLink "java/lang/Throwable" (202 : Nat) ({ cls := "java/lang/Throwable", name := "fillInStackTrace", desc := "(I)Ljava/lang/Throwable;" } : MethodName) ∈ wz := List.mem_filter.mpr ⟨(List.mem_append_right _ (List.mem_append_right _ (List.mem_append_left _ (List.mem_of_getElem? (i := 77) rfl)))), by decide +kernel⟩
set_option maxRecDepth 20000 in
theorem zw_319 : Cond.instanceMethod ({ cls := "java/lang/Throwable", name := "fillInStackTrace", desc := "(I)Ljava/lang/Throwable;" } : MethodName) ∈ wz := List.mem_filter.mpr ⟨(List.mem_append_right _ (List.mem_append_right _ (List.mem_append_left _ (List.mem_of_getElem? (i := 79) rfl)))), by decide +kernel⟩
set_option maxRecDepth 20000 in
theorem zw_320 : Cond.instantiable "java/lang/Throwable" (6 : Nat) ∈ wz := List.mem_filter.mpr ⟨(List.mem_append_right _ (List.mem_append_right _ (List.mem_append_left _ (List.mem_of_getElem? (i := 80) rfl)))), by decide +kernel⟩
set_option maxRecDepth 20000 in
theorem zw_321 : Cond.native ({ cls := "java/lang/Throwable", name := "fillInStackTrace", desc := "(I)Ljava/lang/Throwable;" } : MethodName) ∈ wz := List.mem_filter.mpr ⟨(List.mem_append_right _ (List.mem_append_right _ (List.mem_append_left _ (List.mem_of_getElem? (i := 81) rfl)))), by decide +kernel⟩
set_option maxRecDepth 20000 in
theorem zw_323 : Cond.methodLink "DeltaPress" (66 : Nat) ({ cls := "java/lang/IllegalStateException", name := "<init>", desc := "(Ljava/lang/String;)V" } : MethodName) ∈ wz := List.mem_filter.mpr ⟨(List.mem_append_right _ (List.mem_append_right _ (List.mem_append_left _ (List.mem_of_getElem? (i := 83) rfl)))), by decide +kernel⟩
set_option maxRecDepth 20000 in
theorem zw_324 : Cond.instanceMethod ({ cls := "java/lang/IllegalStateException", name := "<init>", desc := "(Ljava/lang/String;)V" } : MethodName) ∈ wz := List.mem_filter.mpr ⟨(List.mem_append_right _ (List.mem_append_right _ (List.mem_append_left _ (List.mem_of_getElem? (i := 84) rfl)))), by decide +kernel⟩
set_option maxRecDepth 20000 in
theorem zw_325 : Cond.code ({ cls := "java/lang/IllegalStateException", name := "<init>", desc := "(Ljava/lang/String;)V" } : MethodName) prog_10_method_2_code (2 : Nat) (Option.none : Option ClassFile.FieldType) ∈ wz := List.mem_filter.mpr ⟨(List.mem_append_right _ (List.mem_append_right _ (List.mem_append_left _ (List.mem_of_getElem? (i := 85) rfl)))), by decide +kernel⟩
set_option maxRecDepth 20000 in
theorem zw_326 : Cond.methodLink "java/lang/IllegalStateException" (7 : Nat) ({ cls := "java/lang/RuntimeException", name := "<init>", desc := "(Ljava/lang/String;)V" } : MethodName) ∈ wz := List.mem_filter.mpr ⟨(List.mem_append_right _ (List.mem_append_right _ (List.mem_append_left _ (List.mem_of_getElem? (i := 86) rfl)))), by decide +kernel⟩
set_option maxRecDepth 20000 in
theorem zw_327 : Cond.instanceMethod ({ cls := "java/lang/RuntimeException", name := "<init>", desc := "(Ljava/lang/String;)V" } : MethodName) ∈ wz := List.mem_filter.mpr ⟨(List.mem_append_right _ (List.mem_append_right _ (List.mem_append_left _ (List.mem_of_getElem? (i := 87) rfl)))), by decide +kernel⟩
set_option maxRecDepth 20000 in
theorem zw_328 : Cond.code ({ cls := "java/lang/RuntimeException", name := "<init>", desc := "(Ljava/lang/String;)V" } : MethodName) prog_14_method_2_code (2 : Nat) (Option.none : Option ClassFile.FieldType) ∈ wz := List.mem_filter.mpr ⟨(List.mem_append_right _ (List.mem_append_right _ (List.mem_append_left _ (List.mem_of_getElem? (i := 88) rfl)))), by decide +kernel⟩
set_option maxRecDepth 20000 in
theorem zw_329 : Cond.methodLink "java/lang/RuntimeException" (7 : Nat) ({ cls := "java/lang/Exception", name := "<init>", desc := "(Ljava/lang/String;)V" } : MethodName) ∈ wz := List.mem_filter.mpr ⟨(List.mem_append_right _ (List.mem_append_right _ (List.mem_append_left _ (List.mem_of_getElem? (i := 89) rfl)))), by decide +kernel⟩
set_option maxRecDepth 20000 in
theorem zw_330 : Cond.instanceMethod ({ cls := "java/lang/Exception", name := "<init>", desc := "(Ljava/lang/String;)V" } : MethodName) ∈ wz := List.mem_filter.mpr ⟨(List.mem_append_right _ (List.mem_append_right _ (List.mem_append_left _ (List.mem_of_getElem? (i := 90) rfl)))), by decide +kernel⟩
set_option maxRecDepth 20000 in
theorem zw_331 : Cond.code ({ cls := "java/lang/Exception", name := "<init>", desc := "(Ljava/lang/String;)V" } : MethodName) prog_8_method_2_code (2 : Nat) (Option.none : Option ClassFile.FieldType) ∈ wz := List.mem_filter.mpr ⟨(List.mem_append_right _ (List.mem_append_right _ (List.mem_append_left _ (List.mem_of_getElem? (i := 91) rfl)))), by decide +kernel⟩
set_option maxRecDepth 20000 in
theorem zw_332 : Cond.methodLink "java/lang/Exception" (7 : Nat) ({ cls := "java/lang/Throwable", name := "<init>", desc := "(Ljava/lang/String;)V" } : MethodName) ∈ wz := List.mem_filter.mpr ⟨(List.mem_append_right _ (List.mem_append_right _ (List.mem_append_left _ (List.mem_of_getElem? (i := 92) rfl)))), by decide +kernel⟩
set_option maxRecDepth 20000 in
theorem zw_333 : Cond.instanceMethod ({ cls := "java/lang/Throwable", name := "<init>", desc := "(Ljava/lang/String;)V" } : MethodName) ∈ wz := List.mem_filter.mpr ⟨(List.mem_append_right _ (List.mem_append_right _ (List.mem_append_left _ (List.mem_of_getElem? (i := 93) rfl)))), by decide +kernel⟩
set_option maxRecDepth 20000 in
theorem zw_334 : Cond.code ({ cls := "java/lang/Throwable", name := "<init>", desc := "(Ljava/lang/String;)V" } : MethodName) prog_17_method_2_code (2 : Nat) (Option.none : Option ClassFile.FieldType) ∈ wz := List.mem_filter.mpr ⟨(List.mem_append_right _ (List.mem_append_right _ (List.mem_append_left _ (List.mem_of_getElem? (i := 94) rfl)))), by decide +kernel⟩
set_option maxRecDepth 20000 in
theorem zw_335 : Cond.fieldLink "java/lang/Throwable" (198 : Nat) "java/lang/Throwable" "backtrace" "Ljava/lang/Object;" ∈ wz := List.mem_filter.mpr ⟨(List.mem_append_right _ (List.mem_append_right _ (List.mem_append_left _ (List.mem_of_getElem? (i := 95) rfl)))), by decide +kernel⟩
set_option maxRecDepth 20000 in
theorem zw_336 : Cond.fieldLink "java/lang/Throwable" (31 : Nat) "java/lang/Throwable" "detailMessage" "Ljava/lang/String;" ∈ wz := List.mem_filter.mpr ⟨(List.mem_append_right _ (List.mem_append_right _ (List.mem_append_left _ (List.mem_of_getElem? (i := 96) rfl)))), by decide +kernel⟩
set_option maxRecDepth 20000 in
theorem zw_337 : Cond.fieldLink "java/lang/Throwable" (7 : Nat) "java/lang/Throwable" "cause" "Ljava/lang/Throwable;" ∈ wz := List.mem_filter.mpr ⟨(List.mem_append_right _ (List.mem_append_right _ (List.mem_append_left _ (List.mem_of_getElem? (i := 97) rfl)))), by decide +kernel⟩
set_option maxRecDepth 20000 in
theorem zw_338 : Cond.fieldLink "java/lang/Throwable" (17 : Nat) "java/lang/Throwable" "stackTrace" "[Ljava/lang/StackTraceElement;" ∈ wz := List.mem_filter.mpr ⟨(List.mem_append_right _ (List.mem_append_right _ (List.mem_append_left _ (List.mem_of_getElem? (i := 98) rfl)))), by decide +kernel⟩
set_option maxRecDepth 20000 in
theorem zw_339 : Cond.fieldLink "java/lang/Throwable" (24 : Nat) "java/lang/Throwable" "suppressedExceptions" "Ljava/util/List;" ∈ wz := List.mem_filter.mpr ⟨(List.mem_append_right _ (List.mem_append_right _ (List.mem_append_left _ (List.mem_of_getElem? (i := 99) rfl)))), by decide +kernel⟩
set_option maxRecDepth 20000 in
theorem zw_340 : Cond.soleField "java/lang/Throwable" "backtrace" ∈ wz := List.mem_filter.mpr ⟨(List.mem_append_right _ (List.mem_append_right _ (List.mem_append_left _ (List.mem_of_getElem? (i := 100) rfl)))), by decide +kernel⟩
set_option maxRecDepth 20000 in
theorem zw_341 : Cond.soleField "java/lang/Throwable" "detailMessage" ∈ wz := List.mem_filter.mpr ⟨(List.mem_append_right _ (List.mem_append_right _ (List.mem_append_left _ (List.mem_of_getElem? (i := 101) rfl)))), by decide +kernel⟩
set_option maxRecDepth 20000 in
theorem zw_342 : Cond.soleField "java/lang/Throwable" "cause" ∈ wz := List.mem_filter.mpr ⟨(List.mem_append_right _ (List.mem_append_right _ (List.mem_append_left _ (List.mem_of_getElem? (i := 102) rfl)))), by decide +kernel⟩
set_option maxRecDepth 20000 in
theorem zw_343 : Cond.soleField "java/lang/Throwable" "stackTrace" ∈ wz := List.mem_filter.mpr ⟨(List.mem_append_right _ (List.mem_append_right _ (List.mem_append_left _ (List.mem_of_getElem? (i := 103) rfl)))), by decide +kernel⟩
set_option maxRecDepth 20000 in
theorem zw_344 : Cond.lays "java/lang/IllegalStateException" "java/lang/Throwable" "depth" "I" ∈ wz := List.mem_filter.mpr ⟨(List.mem_append_right _ (List.mem_append_right _ (List.mem_append_left _ (List.mem_of_getElem? (i := 104) rfl)))), by decide +kernel⟩
set_option maxRecDepth 20000 in
theorem zw_345 : Cond.soleField "java/lang/Throwable" "depth" ∈ wz := List.mem_filter.mpr ⟨(List.mem_append_right _ (List.mem_append_right _ (List.mem_append_left _ (List.mem_of_getElem? (i := 105) rfl)))), by decide +kernel⟩
set_option maxRecDepth 20000 in
theorem zw_346 : Cond.soleField "java/lang/Throwable" "suppressedExceptions" ∈ wz := List.mem_filter.mpr ⟨(List.mem_append_right _ (List.mem_append_right _ (List.mem_append_left _ (List.mem_of_getElem? (i := 106) rfl)))), by decide +kernel⟩
set_option maxRecDepth 20000 in
theorem zw_347 : Cond.superclass "java/lang/IllegalStateException" "java/lang/RuntimeException" ∈ wz := List.mem_filter.mpr ⟨(List.mem_append_right _ (List.mem_append_right _ (List.mem_append_left _ (List.mem_of_getElem? (i := 107) rfl)))), by decide +kernel⟩
set_option maxRecDepth 20000 in
theorem zw_348 : Cond.methodLink "DeltaPress" (69 : Nat) ({ cls := "DeltaPress$Text", name := "addFour", desc := "(I)V" } : MethodName) ∈ wz := List.mem_filter.mpr ⟨(List.mem_append_right _ (List.mem_append_right _ (List.mem_append_left _ (List.mem_of_getElem? (i := 108) rfl)))), by decide +kernel⟩
set_option maxRecDepth 20000 in
theorem zw_349 : Cond.instanceMethod ({ cls := "DeltaPress$Text", name := "addFour", desc := "(I)V" } : MethodName) ∈ wz := List.mem_filter.mpr ⟨(List.mem_append_right _ (List.mem_append_right _ (List.mem_append_left _ (List.mem_of_getElem? (i := 109) rfl)))), by decide +kernel⟩
set_option maxRecDepth 20000 in
theorem zw_350 : Cond.selects "DeltaPress$Text" ({ cls := "DeltaPress$Text", name := "addFour", desc := "(I)V" } : MethodName) ({ cls := "DeltaPress$Text", name := "addFour", desc := "(I)V" } : MethodName) ∈ wz := List.mem_filter.mpr ⟨(List.mem_append_right _ (List.mem_append_right _ (List.mem_append_left _ (List.mem_of_getElem? (i := 110) rfl)))), by decide +kernel⟩
set_option maxRecDepth 20000 in
theorem zw_351 : Cond.code ({ cls := "DeltaPress$Text", name := "addFour", desc := "(I)V" } : MethodName) prog_4_method_9_code (2 : Nat) (Option.none : Option ClassFile.FieldType) ∈ wz := List.mem_filter.mpr ⟨(List.mem_append_right _ (List.mem_append_right _ (List.mem_append_left _ (List.mem_of_getElem? (i := 111) rfl)))), by decide +kernel⟩
set_option maxRecDepth 20000 in
theorem zw_352 : Cond.methodLink "DeltaPressLaw" (56 : Nat) ({ cls := "DeltaPressLaw", name := "end", desc := "(LDeltaPress;I[J)I" } : MethodName) ∈ wz := List.mem_filter.mpr ⟨(List.mem_append_right _ (List.mem_append_right _ (List.mem_append_left _ (List.mem_of_getElem? (i := 112) rfl)))), by decide +kernel⟩
set_option maxRecDepth 20000 in
theorem zw_353 : Cond.static ({ cls := "DeltaPressLaw", name := "end", desc := "(LDeltaPress;I[J)I" } : MethodName) ∈ wz := List.mem_filter.mpr ⟨(List.mem_append_right _ (List.mem_append_right _ (List.mem_append_left _ (List.mem_of_getElem? (i := 113) rfl)))), by decide +kernel⟩
set_option maxRecDepth 20000 in
theorem zw_355 : Cond.classLink "DeltaPressLaw" (19 : Nat) "java/lang/IllegalArgumentException" ∈ wz := List.mem_filter.mpr ⟨(List.mem_append_right _ (List.mem_append_right _ (List.mem_append_left _ (List.mem_of_getElem? (i := 115) rfl)))), by decide +kernel⟩
set_option maxRecDepth 20000 in
theorem zw_356 : Cond.methodLink "DeltaPressLaw" (15 : Nat) ({ cls := "DeltaPress", name := "end", desc := "(I)I" } : MethodName) ∈ wz := List.mem_filter.mpr ⟨(List.mem_append_right _ (List.mem_append_right _ (List.mem_append_left _ (List.mem_of_getElem? (i := 116) rfl)))), by decide +kernel⟩
set_option maxRecDepth 20000 in
theorem zw_357 : Cond.instanceMethod ({ cls := "DeltaPress", name := "end", desc := "(I)I" } : MethodName) ∈ wz := List.mem_filter.mpr ⟨(List.mem_append_right _ (List.mem_append_right _ (List.mem_append_left _ (List.mem_of_getElem? (i := 117) rfl)))), by decide +kernel⟩
set_option maxRecDepth 20000 in
theorem zw_358 : Cond.selects "DeltaPress" ({ cls := "DeltaPress", name := "end", desc := "(I)I" } : MethodName) ({ cls := "DeltaPress", name := "end", desc := "(I)I" } : MethodName) ∈ wz := List.mem_filter.mpr ⟨(List.mem_append_right _ (List.mem_append_right _ (List.mem_append_left _ (List.mem_of_getElem? (i := 118) rfl)))), by decide +kernel⟩
set_option maxRecDepth 20000 in
theorem zw_359 : Cond.code ({ cls := "DeltaPress", name := "end", desc := "(I)I" } : MethodName) prog_1_method_3_code (2 : Nat) (Option.some ClassFile.FieldType.int) ∈ wz := List.mem_filter.mpr ⟨(List.mem_append_right _ (List.mem_append_right _ (List.mem_append_left _ (List.mem_of_getElem? (i := 119) rfl)))), by decide +kernel⟩
set_option maxRecDepth 20000 in
theorem zw_360 : Cond.classLink "DeltaPress" (72 : Nat) "java/lang/IllegalArgumentException" ∈ wz := List.mem_filter.mpr ⟨(List.mem_append_right _ (List.mem_append_right _ (List.mem_append_left _ (List.mem_of_getElem? (i := 120) rfl)))), by decide +kernel⟩
set_option maxRecDepth 20000 in
theorem zw_361 : Cond.instantiable "java/lang/IllegalArgumentException" (6 : Nat) ∈ wz := List.mem_filter.mpr ⟨(List.mem_append_right _ (List.mem_append_right _ (List.mem_append_left _ (List.mem_of_getElem? (i := 121) rfl)))), by decide +kernel⟩
set_option maxRecDepth 20000 in
theorem zw_363 : Cond.selects "java/lang/IllegalArgumentException" ({ cls := "java/lang/Throwable", name := "fillInStackTrace", desc := "(I)Ljava/lang/Throwable;" } : MethodName) ({ cls := "java/lang/Throwable", name := "fillInStackTrace", desc := "(I)Ljava/lang/Throwable;" } : MethodName) ∈ wz := List.mem_filter.mpr ⟨(List.mem_append_right _ (List.mem_append_right _ (List.mem_append_left _ (List.mem_of_getElem? (i := 123) rfl)))), by decide +kernel⟩
set_option maxRecDepth 20000 in
theorem zw_364 : Cond.lays "java/lang/IllegalArgumentException" "java/lang/Throwable" "cause" "Ljava/lang/Throwable;" ∈ wz := List.mem_filter.mpr ⟨(List.mem_append_right _ (List.mem_append_right _ (List.mem_append_left _ (List.mem_of_getElem? (i := 124) rfl)))), by decide +kernel⟩
set_option maxRecDepth 20000 in
theorem zw_365 : Cond.lays "java/lang/IllegalArgumentException" "java/lang/Throwable" "stackTrace" "[Ljava/lang/StackTraceElement;" ∈ wz := List.mem_filter.mpr ⟨(List.mem_append_right _ (List.mem_append_right _ (List.mem_append_left _ (List.mem_of_getElem? (i := 125) rfl)))), by decide +kernel⟩
set_option maxRecDepth 20000 in
theorem zw_366 : Cond.lays "java/lang/IllegalArgumentException" "java/lang/Throwable" "suppressedExceptions" "Ljava/util/List;" ∈ wz := List.mem_filter.mpr ⟨(List.mem_append_right _ (List.mem_append_right _ (List.mem_append_left _ (List.mem_of_getElem? (i := 126) rfl)))), by decide +kernel⟩
set_option maxRecDepth 20000 in
theorem zw_367 : Cond.lays "java/lang/IllegalArgumentException" "java/lang/Throwable" "detailMessage" "Ljava/lang/String;" ∈ wz := List.mem_filter.mpr ⟨(List.mem_append_right _ (List.mem_append_right _ (List.mem_append_left _ (List.mem_of_getElem? (i := 127) rfl)))), by decide +kernel⟩
set_option maxRecDepth 20000 in
theorem zw_368 : Cond.lays "java/lang/IllegalArgumentException" "java/lang/Throwable" "backtrace" "Ljava/lang/Object;" ∈ wz := List.mem_filter.mpr ⟨(List.mem_append_right _ (List.mem_append_right _ (List.mem_append_left _ (List.mem_of_getElem? (i := 128) rfl)))), by decide +kernel⟩
set_option maxRecDepth 20000 in
theorem zw_370 : Cond.methodLink "DeltaPress" (76 : Nat) ({ cls := "java/lang/IllegalArgumentException", name := "<init>", desc := "(Ljava/lang/String;)V" } : MethodName) ∈ wz := List.mem_filter.mpr ⟨(List.mem_append_right _ (List.mem_append_right _ (List.mem_append_left _ (List.mem_of_getElem? (i := 130) rfl)))), by decide +kernel⟩
set_option maxRecDepth 20000 in
theorem zw_371 : Cond.instanceMethod ({ cls := "java/lang/IllegalArgumentException", name := "<init>", desc := "(Ljava/lang/String;)V" } : MethodName) ∈ wz := List.mem_filter.mpr ⟨(List.mem_append_right _ (List.mem_append_right _ (List.mem_append_left _ (List.mem_of_getElem? (i := 131) rfl)))), by decide +kernel⟩
set_option maxRecDepth 20000 in
theorem zw_372 : Cond.code ({ cls := "java/lang/IllegalArgumentException", name := "<init>", desc := "(Ljava/lang/String;)V" } : MethodName) prog_9_method_2_code (2 : Nat) (Option.none : Option ClassFile.FieldType) ∈ wz := List.mem_filter.mpr ⟨(List.mem_append_right _ (List.mem_append_right _ (List.mem_append_left _ (List.mem_of_getElem? (i := 132) rfl)))), by decide +kernel⟩
set_option maxRecDepth 20000 in
theorem zw_373 : Cond.methodLink "java/lang/IllegalArgumentException" (7 : Nat) ({ cls := "java/lang/RuntimeException", name := "<init>", desc := "(Ljava/lang/String;)V" } : MethodName) ∈ wz := List.mem_filter.mpr ⟨(List.mem_append_right _ (List.mem_append_right _ (List.mem_append_left _ (List.mem_of_getElem? (i := 133) rfl)))), by decide +kernel⟩
set_option maxRecDepth 20000 in
theorem zw_374 : Cond.lays "java/lang/IllegalArgumentException" "java/lang/Throwable" "depth" "I" ∈ wz := List.mem_filter.mpr ⟨(List.mem_append_right _ (List.mem_append_right _ (List.mem_append_left _ (List.mem_of_getElem? (i := 134) rfl)))), by decide +kernel⟩
set_option maxRecDepth 20000 in
theorem zw_375 : Cond.superclass "java/lang/IllegalArgumentException" "java/lang/RuntimeException" ∈ wz := List.mem_filter.mpr ⟨(List.mem_append_right _ (List.mem_append_right _ (List.mem_append_left _ (List.mem_of_getElem? (i := 135) rfl)))), by decide +kernel⟩
set_option maxRecDepth 20000 in
theorem zw_376 : Cond.methodLink "DeltaPressLaw" (60 : Nat) ({ cls := "DeltaPressLaw", name := "change", desc := "(LDeltaPress;II)I" } : MethodName) ∈ wz := List.mem_filter.mpr ⟨(List.mem_append_right _ (List.mem_append_right _ (List.mem_append_left _ (List.mem_of_getElem? (i := 136) rfl)))), by decide +kernel⟩
set_option maxRecDepth 20000 in
theorem zw_377 : Cond.static ({ cls := "DeltaPressLaw", name := "change", desc := "(LDeltaPress;II)I" } : MethodName) ∈ wz := List.mem_filter.mpr ⟨(List.mem_append_right _ (List.mem_append_right _ (List.mem_append_left _ (List.mem_of_getElem? (i := 137) rfl)))), by decide +kernel⟩
set_option maxRecDepth 20000 in
theorem zw_379 : Cond.methodLink "DeltaPressLaw" (21 : Nat) ({ cls := "DeltaPress", name := "change", desc := "(II)V" } : MethodName) ∈ wz := List.mem_filter.mpr ⟨(List.mem_append_right _ (List.mem_append_right _ (List.mem_append_left _ (List.mem_of_getElem? (i := 139) rfl)))), by decide +kernel⟩
set_option maxRecDepth 20000 in
theorem zw_380 : Cond.instanceMethod ({ cls := "DeltaPress", name := "change", desc := "(II)V" } : MethodName) ∈ wz := List.mem_filter.mpr ⟨(List.mem_append_right _ (List.mem_append_right _ (List.mem_append_left _ (List.mem_of_getElem? (i := 140) rfl)))), by decide +kernel⟩
set_option maxRecDepth 20000 in
theorem zw_381 : Cond.selects "DeltaPress" ({ cls := "DeltaPress", name := "change", desc := "(II)V" } : MethodName) ({ cls := "DeltaPress", name := "change", desc := "(II)V" } : MethodName) ∈ wz := List.mem_filter.mpr ⟨(List.mem_append_right _ (List.mem_append_right _ (List.mem_append_left _ (List.mem_of_getElem? (i := 141) rfl)))), by decide +kernel⟩
set_option maxRecDepth 20000 in
theorem zw_382 : Cond.code ({ cls := "DeltaPress", name := "change", desc := "(II)V" } : MethodName) prog_1_method_4_code (3 : Nat) (Option.none : Option ClassFile.FieldType) ∈ wz := List.mem_filter.mpr ⟨(List.mem_append_right _ (List.mem_append_right _ (List.mem_append_left _ (List.mem_of_getElem? (i := 142) rfl)))), by decide +kernel⟩
set_option maxRecDepth 20000 in
theorem zw_383 : Cond.methodLink "DeltaPress" (80 : Nat) ({ cls := "DeltaPress$Text", name := "has", desc := "(I)Z" } : MethodName) ∈ wz := List.mem_filter.mpr ⟨(List.mem_append_right _ (List.mem_append_right _ (List.mem_append_left _ (List.mem_of_getElem? (i := 143) rfl)))), by decide +kernel⟩
set_option maxRecDepth 20000 in
theorem zw_384 : Cond.instanceMethod ({ cls := "DeltaPress$Text", name := "has", desc := "(I)Z" } : MethodName) ∈ wz := List.mem_filter.mpr ⟨(List.mem_append_right _ (List.mem_append_right _ (List.mem_append_left _ (List.mem_of_getElem? (i := 144) rfl)))), by decide +kernel⟩
set_option maxRecDepth 20000 in
theorem zw_385 : Cond.selects "DeltaPress$Text" ({ cls := "DeltaPress$Text", name := "has", desc := "(I)Z" } : MethodName) ({ cls := "DeltaPress$Text", name := "has", desc := "(I)Z" } : MethodName) ∈ wz := List.mem_filter.mpr ⟨(List.mem_append_right _ (List.mem_append_right _ (List.mem_append_left _ (List.mem_of_getElem? (i := 145) rfl)))), by decide +kernel⟩
set_option maxRecDepth 20000 in
theorem zw_386 : Cond.code ({ cls := "DeltaPress$Text", name := "has", desc := "(I)Z" } : MethodName) prog_4_method_3_code (2 : Nat) (Option.some ClassFile.FieldType.boolean) ∈ wz := List.mem_filter.mpr ⟨(List.mem_append_right _ (List.mem_append_right _ (List.mem_append_left _ (List.mem_of_getElem? (i := 146) rfl)))), by decide +kernel⟩
set_option maxRecDepth 20000 in
theorem zw_389 : Cond.methodLink "DeltaPress" (88 : Nat) ({ cls := "DeltaPress$Text", name := "flip", desc := "(II)V" } : MethodName) ∈ wz := List.mem_filter.mpr ⟨(List.mem_append_right _ (List.mem_append_right _ (List.mem_append_left _ (List.mem_of_getElem? (i := 149) rfl)))), by decide +kernel⟩
set_option maxRecDepth 20000 in
theorem zw_390 : Cond.instanceMethod ({ cls := "DeltaPress$Text", name := "flip", desc := "(II)V" } : MethodName) ∈ wz := List.mem_filter.mpr ⟨(List.mem_append_right _ (List.mem_append_right _ (List.mem_append_left _ (List.mem_of_getElem? (i := 150) rfl)))), by decide +kernel⟩
set_option maxRecDepth 20000 in
theorem zw_391 : Cond.selects "DeltaPress$Text" ({ cls := "DeltaPress$Text", name := "flip", desc := "(II)V" } : MethodName) ({ cls := "DeltaPress$Text", name := "flip", desc := "(II)V" } : MethodName) ∈ wz := List.mem_filter.mpr ⟨(List.mem_append_right _ (List.mem_append_right _ (List.mem_append_left _ (List.mem_of_getElem? (i := 151) rfl)))), by decide +kernel⟩
set_option maxRecDepth 20000 in
theorem zw_392 : Cond.code ({ cls := "DeltaPress$Text", name := "flip", desc := "(II)V" } : MethodName) prog_4_method_7_code (3 : Nat) (Option.none : Option ClassFile.FieldType) ∈ wz := List.mem_filter.mpr ⟨(List.mem_append_right _ (List.mem_append_right _ (List.mem_append_left _ (List.mem_of_getElem? (i := 152) rfl)))), by decide +kernel⟩
set_option maxRecDepth 20000 in
theorem zw_393 : Cond.methodLink "DeltaPressLaw" (72 : Nat) ({ cls := "DeltaPressLaw", name := "use", desc := "(LDeltaPress;[J)I" } : MethodName) ∈ wz := List.mem_filter.mpr ⟨(List.mem_append_right _ (List.mem_append_right _ (List.mem_append_left _ (List.mem_of_getElem? (i := 153) rfl)))), by decide +kernel⟩
set_option maxRecDepth 20000 in
theorem zw_394 : Cond.static ({ cls := "DeltaPressLaw", name := "use", desc := "(LDeltaPress;[J)I" } : MethodName) ∈ wz := List.mem_filter.mpr ⟨(List.mem_append_right _ (List.mem_append_right _ (List.mem_append_left _ (List.mem_of_getElem? (i := 154) rfl)))), by decide +kernel⟩
set_option maxRecDepth 20000 in
theorem zw_396 : Cond.classLink "DeltaPressLaw" (29 : Nat) "java/lang/ArithmeticException" ∈ wz := List.mem_filter.mpr ⟨(List.mem_append_right _ (List.mem_append_right _ (List.mem_append_left _ (List.mem_of_getElem? (i := 156) rfl)))), by decide +kernel⟩
set_option maxRecDepth 20000 in
theorem zw_397 : Cond.methodLink "DeltaPressLaw" (25 : Nat) ({ cls := "DeltaPress", name := "use", desc := "()I" } : MethodName) ∈ wz := List.mem_filter.mpr ⟨(List.mem_append_right _ (List.mem_append_right _ (List.mem_append_left _ (List.mem_of_getElem? (i := 157) rfl)))), by decide +kernel⟩
set_option maxRecDepth 20000 in
theorem zw_398 : Cond.instanceMethod ({ cls := "DeltaPress", name := "use", desc := "()I" } : MethodName) ∈ wz := List.mem_filter.mpr ⟨(List.mem_append_right _ (List.mem_append_right _ (List.mem_append_left _ (List.mem_of_getElem? (i := 158) rfl)))), by decide +kernel⟩
set_option maxRecDepth 20000 in
theorem zw_399 : Cond.selects "DeltaPress" ({ cls := "DeltaPress", name := "use", desc := "()I" } : MethodName) ({ cls := "DeltaPress", name := "use", desc := "()I" } : MethodName) ∈ wz := List.mem_filter.mpr ⟨(List.mem_append_right _ (List.mem_append_right _ (List.mem_append_left _ (List.mem_of_getElem? (i := 159) rfl)))), by decide +kernel⟩
set_option maxRecDepth 20000 in
theorem zw_400 : Cond.code ({ cls := "DeltaPress", name := "use", desc := "()I" } : MethodName) prog_1_method_7_code (2 : Nat) (Option.some ClassFile.FieldType.int) ∈ wz := List.mem_filter.mpr ⟨(List.mem_append_right _ (List.mem_append_right _ (List.mem_append_left _ (List.mem_of_getElem? (i := 160) rfl)))), by decide +kernel⟩
set_option maxRecDepth 20000 in
theorem zw_401 : Cond.methodLink "DeltaPress" (110 : Nat) ({ cls := "DeltaPress$DeltaReader", name := "isRead", desc := "(LDeltaPress$Text;LDeltaPress$Text;LDeltaPress$Text;)Z" } : MethodName) ∈ wz := List.mem_filter.mpr ⟨(List.mem_append_right _ (List.mem_append_right _ (List.mem_append_left _ (List.mem_of_getElem? (i := 161) rfl)))), by decide +kernel⟩
set_option maxRecDepth 20000 in
theorem zw_402 : Cond.instanceMethod ({ cls := "DeltaPress$DeltaReader", name := "isRead", desc := "(LDeltaPress$Text;LDeltaPress$Text;LDeltaPress$Text;)Z" } : MethodName) ∈ wz := List.mem_filter.mpr ⟨(List.mem_append_right _ (List.mem_append_right _ (List.mem_append_left _ (List.mem_of_getElem? (i := 162) rfl)))), by decide +kernel⟩
set_option maxRecDepth 20000 in
theorem zw_403 : Cond.selects "DeltaPress$DeltaReader" ({ cls := "DeltaPress$DeltaReader", name := "isRead", desc := "(LDeltaPress$Text;LDeltaPress$Text;LDeltaPress$Text;)Z" } : MethodName) ({ cls := "DeltaPress$DeltaReader", name := "isRead", desc := "(LDeltaPress$Text;LDeltaPress$Text;LDeltaPress$Text;)Z" } : MethodName) ∈ wz := List.mem_filter.mpr ⟨(List.mem_append_right _ (List.mem_append_right _ (List.mem_append_left _ (List.mem_of_getElem? (i := 163) rfl)))), by decide +kernel⟩
set_option maxRecDepth 20000 in
theorem zw_404 : Cond.code ({ cls := "DeltaPress$DeltaReader", name := "isRead", desc := "(LDeltaPress$Text;LDeltaPress$Text;LDeltaPress$Text;)Z" } : MethodName) prog_2_method_2_code (7 : Nat) (Option.some ClassFile.FieldType.boolean) ∈ wz := List.mem_filter.mpr ⟨(List.mem_append_right _ (List.mem_append_right _ (List.mem_append_left _ (List.mem_of_getElem? (i := 164) rfl)))), by decide +kernel⟩
set_option maxRecDepth 20000 in
theorem zw_405 : Cond.methodLink "DeltaPress$DeltaReader" (15 : Nat) ({ cls := "DeltaPress$Text", name := "cut", desc := "(I)V" } : MethodName) ∈ wz := List.mem_filter.mpr ⟨(List.mem_append_right _ (List.mem_append_right _ (List.mem_append_left _ (List.mem_of_getElem? (i := 165) rfl)))), by decide +kernel⟩
set_option maxRecDepth 20000 in
theorem zw_406 : Cond.methodLink "DeltaPress$DeltaReader" (21 : Nat) ({ cls := "DeltaPress$DeltaReader", name := "readNumber", desc := "(LDeltaPress$Text;)I" } : MethodName) ∈ wz := List.mem_filter.mpr ⟨(List.mem_append_right _ (List.mem_append_right _ (List.mem_append_left _ (List.mem_of_getElem? (i := 166) rfl)))), by decide +kernel⟩
set_option maxRecDepth 20000 in
theorem zw_408 : Cond.instanceMethod ({ cls := "DeltaPress$DeltaReader", name := "readNumber", desc := "(LDeltaPress$Text;)I" } : MethodName) ∈ wz := List.mem_filter.mpr ⟨(List.mem_append_right _ (List.mem_append_right _ (List.mem_append_left _ (List.mem_of_getElem? (i := 168) rfl)))), by decide +kernel⟩
set_option maxRecDepth 20000 in
theorem zw_409 : Cond.code ({ cls := "DeltaPress$DeltaReader", name := "readNumber", desc := "(LDeltaPress$Text;)I" } : MethodName) prog_2_method_3_code (5 : Nat) (Option.some ClassFile.FieldType.int) ∈ wz := List.mem_filter.mpr ⟨(List.mem_append_right _ (List.mem_append_right _ (List.mem_append_left _ (List.mem_of_getElem? (i := 169) rfl)))), by decide +kernel⟩
set_option maxRecDepth 20000 in
theorem zw_410 : Cond.methodLink "DeltaPress$DeltaReader" (25 : Nat) ({ cls := "DeltaPress$Text", name := "size", desc := "()I" } : MethodName) ∈ wz := List.mem_filter.mpr ⟨(List.mem_append_right _ (List.mem_append_right _ (List.mem_append_left _ (List.mem_of_getElem? (i := 170) rfl)))), by decide +kernel⟩
set_option maxRecDepth 20000 in
theorem zw_411 : Cond.methodLink "DeltaPress$DeltaReader" (30 : Nat) ({ cls := "DeltaPress$Text", name := "at", desc := "(I)I" } : MethodName) ∈ wz := List.mem_filter.mpr ⟨(List.mem_append_right _ (List.mem_append_right _ (List.mem_append_left _ (List.mem_of_getElem? (i := 171) rfl)))), by decide +kernel⟩
set_option maxRecDepth 20000 in
theorem zw_412 : Cond.instanceMethod ({ cls := "DeltaPress$Text", name := "at", desc := "(I)I" } : MethodName) ∈ wz := List.mem_filter.mpr ⟨(List.mem_append_right _ (List.mem_append_right _ (List.mem_append_left _ (List.mem_of_getElem? (i := 172) rfl)))), by decide +kernel⟩
set_option maxRecDepth 20000 in
theorem zw_413 : Cond.selects "DeltaPress$Text" ({ cls := "DeltaPress$Text", name := "at", desc := "(I)I" } : MethodName) ({ cls := "DeltaPress$Text", name := "at", desc := "(I)I" } : MethodName) ∈ wz := List.mem_filter.mpr ⟨(List.mem_append_right _ (List.mem_append_right _ (List.mem_append_left _ (List.mem_of_getElem? (i := 173) rfl)))), by decide +kernel⟩
set_option maxRecDepth 20000 in
theorem zw_414 : Cond.code ({ cls := "DeltaPress$Text", name := "at", desc := "(I)I" } : MethodName) prog_4_method_4_code (2 : Nat) (Option.some ClassFile.FieldType.int) ∈ wz := List.mem_filter.mpr ⟨(List.mem_append_right _ (List.mem_append_right _ (List.mem_append_left _ (List.mem_of_getElem? (i := 174) rfl)))), by decide +kernel⟩
set_option maxRecDepth 20000 in
theorem zw_415 : Cond.constant "DeltaPress$DeltaReader" (29 : Nat) (65536 : Int32) ∈ wz := List.mem_filter.mpr ⟨(List.mem_append_right _ (List.mem_append_right _ (List.mem_append_left _ (List.mem_of_getElem? (i := 175) rfl)))), by decide +kernel⟩
set_option maxRecDepth 20000 in
theorem zw_416 : Cond.methodLink "DeltaPress$DeltaReader" (34 : Nat) ({ cls := "DeltaPress$DeltaReader", name := "isCopyRead", desc := "(LDeltaPress$Text;ILDeltaPress$Text;LDeltaPress$Text;I)Z" } : MethodName) ∈ wz := List.mem_filter.mpr ⟨(List.mem_append_right _ (List.mem_append_right _ (List.mem_append_left _ (List.mem_of_getElem? (i := 176) rfl)))), by decide +kernel⟩
set_option maxRecDepth 20000 in
theorem zw_418 : Cond.instanceMethod ({ cls := "DeltaPress$DeltaReader", name := "isCopyRead", desc := "(LDeltaPress$Text;ILDeltaPress$Text;LDeltaPress$Text;I)Z" } : MethodName) ∈ wz := List.mem_filter.mpr ⟨(List.mem_append_right _ (List.mem_append_right _ (List.mem_append_left _ (List.mem_of_getElem? (i := 178) rfl)))), by decide +kernel⟩
set_option maxRecDepth 20000 in
theorem zw_419 : Cond.code ({ cls := "DeltaPress$DeltaReader", name := "isCopyRead", desc := "(LDeltaPress$Text;ILDeltaPress$Text;LDeltaPress$Text;I)Z" } : MethodName) prog_2_method_4_code (8 : Nat) (Option.some ClassFile.FieldType.boolean) ∈ wz := List.mem_filter.mpr ⟨(List.mem_append_right _ (List.mem_append_right _ (List.mem_append_left _ (List.mem_of_getElem? (i := 179) rfl)))), by decide +kernel⟩
set_option maxRecDepth 20000 in
theorem zw_420 : Cond.methodLink "DeltaPress$DeltaReader" (42 : Nat) ({ cls := "DeltaPress$DeltaReader", name := "readChosenBytes", desc := "(LDeltaPress$Text;II)I" } : MethodName) ∈ wz := List.mem_filter.mpr ⟨(List.mem_append_right _ (List.mem_append_right _ (List.mem_append_left _ (List.mem_of_getElem? (i := 180) rfl)))), by decide +kernel⟩
set_option maxRecDepth 20000 in
theorem zw_422 : Cond.instanceMethod ({ cls := "DeltaPress$DeltaReader", name := "readChosenBytes", desc := "(LDeltaPress$Text;II)I" } : MethodName) ∈ wz := List.mem_filter.mpr ⟨(List.mem_append_right _ (List.mem_append_right _ (List.mem_append_left _ (List.mem_of_getElem? (i := 182) rfl)))), by decide +kernel⟩
set_option maxRecDepth 20000 in
theorem zw_423 : Cond.code ({ cls := "DeltaPress$DeltaReader", name := "readChosenBytes", desc := "(LDeltaPress$Text;II)I" } : MethodName) prog_2_method_5_code (6 : Nat) (Option.some ClassFile.FieldType.int) ∈ wz := List.mem_filter.mpr ⟨(List.mem_append_right _ (List.mem_append_right _ (List.mem_append_left _ (List.mem_of_getElem? (i := 183) rfl)))), by decide +kernel⟩
set_option maxRecDepth 20000 in
theorem zw_424 : Cond.methodLink "DeltaPress$DeltaReader" (46 : Nat) ({ cls := "DeltaPress$Text", name := "addPart", desc := "(LDeltaPress$Text;II)V" } : MethodName) ∈ wz := List.mem_filter.mpr ⟨(List.mem_append_right _ (List.mem_append_right _ (List.mem_append_left _ (List.mem_of_getElem? (i := 184) rfl)))), by decide +kernel⟩
set_option maxRecDepth 20000 in
theorem zw_425 : Cond.methodLink "DeltaPress$DeltaReader" (38 : Nat) ({ cls := "DeltaPress$DeltaReader", name := "isNewRead", desc := "(LDeltaPress$Text;ILDeltaPress$Text;I)Z" } : MethodName) ∈ wz := List.mem_filter.mpr ⟨(List.mem_append_right _ (List.mem_append_right _ (List.mem_append_left _ (List.mem_of_getElem? (i := 185) rfl)))), by decide +kernel⟩
set_option maxRecDepth 20000 in
theorem zw_427 : Cond.instanceMethod ({ cls := "DeltaPress$DeltaReader", name := "isNewRead", desc := "(LDeltaPress$Text;ILDeltaPress$Text;I)Z" } : MethodName) ∈ wz := List.mem_filter.mpr ⟨(List.mem_append_right _ (List.mem_append_right _ (List.mem_append_left _ (List.mem_of_getElem? (i := 187) rfl)))), by decide +kernel⟩
set_option maxRecDepth 20000 in
theorem zw_428 : Cond.code ({ cls := "DeltaPress$DeltaReader", name := "isNewRead", desc := "(LDeltaPress$Text;ILDeltaPress$Text;I)Z" } : MethodName) prog_2_method_6_code (5 : Nat) (Option.some ClassFile.FieldType.boolean) ∈ wz := List.mem_filter.mpr ⟨(List.mem_append_right _ (List.mem_append_right _ (List.mem_append_left _ (List.mem_of_getElem? (i := 188) rfl)))), by decide +kernel⟩
set_option maxRecDepth 20000 in
theorem zw_429 : Cond.classLink "DeltaPress" (114 : Nat) "java/lang/ArithmeticException" ∈ wz := List.mem_filter.mpr ⟨(List.mem_append_right _ (List.mem_append_right _ (List.mem_append_left _ (List.mem_of_getElem? (i := 189) rfl)))), by decide +kernel⟩
set_option maxRecDepth 20000 in
theorem zw_430 : Cond.instantiable "java/lang/ArithmeticException" (6 : Nat) ∈ wz := List.mem_filter.mpr ⟨(List.mem_append_right _ (List.mem_append_right _ (List.mem_append_left _ (List.mem_of_getElem? (i := 190) rfl)))), by decide +kernel⟩
set_option maxRecDepth 20000 in
theorem zw_432 : Cond.selects "java/lang/ArithmeticException" ({ cls := "java/lang/Throwable", name := "fillInStackTrace", desc := "(I)Ljava/lang/Throwable;" } : MethodName) ({ cls := "java/lang/Throwable", name := "fillInStackTrace", desc := "(I)Ljava/lang/Throwable;" } : MethodName) ∈ wz := List.mem_filter.mpr ⟨(List.mem_append_right _ (List.mem_append_right _ (List.mem_append_left _ (List.mem_of_getElem? (i := 192) rfl)))), by decide +kernel⟩
set_option maxRecDepth 20000 in
theorem zw_433 : Cond.lays "java/lang/ArithmeticException" "java/lang/Throwable" "cause" "Ljava/lang/Throwable;" ∈ wz := List.mem_filter.mpr ⟨(List.mem_append_right _ (List.mem_append_right _ (List.mem_append_left _ (List.mem_of_getElem? (i := 193) rfl)))), by decide +kernel⟩
set_option maxRecDepth 20000 in
theorem zw_434 : Cond.lays "java/lang/ArithmeticException" "java/lang/Throwable" "stackTrace" "[Ljava/lang/StackTraceElement;" ∈ wz := List.mem_filter.mpr ⟨(List.mem_append_right _ (List.mem_append_right _ (List.mem_append_left _ (List.mem_of_getElem? (i := 194) rfl)))), by decide +kernel⟩
set_option maxRecDepth 20000 in
theorem zw_435 : Cond.lays "java/lang/ArithmeticException" "java/lang/Throwable" "suppressedExceptions" "Ljava/util/List;" ∈ wz := List.mem_filter.mpr ⟨(List.mem_append_right _ (List.mem_append_right _ (List.mem_append_left _ (List.mem_of_getElem? (i := 195) rfl)))), by decide +kernel⟩
set_option maxRecDepth 20000 in
theorem zw_436 : Cond.lays "java/lang/ArithmeticException" "java/lang/Throwable" "detailMessage" "Ljava/lang/String;" ∈ wz := List.mem_filter.mpr ⟨(List.mem_append_right _ (List.mem_append_right _ (List.mem_append_left _ (List.mem_of_getElem? (i := 196) rfl)))), by decide +kernel⟩
set_option maxRecDepth 20000 in
theorem zw_437 : Cond.lays "java/lang/ArithmeticException" "java/lang/Throwable" "backtrace" "Ljava/lang/Object;" ∈ wz := List.mem_filter.mpr ⟨(List.mem_append_right _ (List.mem_append_right _ (List.mem_append_left _ (List.mem_of_getElem? (i := 197) rfl)))), by decide +kernel⟩
set_option maxRecDepth 20000 in
theorem zw_439 : Cond.methodLink "DeltaPress" (118 : Nat) ({ cls := "java/lang/ArithmeticException", name := "<init>", desc := "(Ljava/lang/String;)V" } : MethodName) ∈ wz := List.mem_filter.mpr ⟨(List.mem_append_right _ (List.mem_append_right _ (List.mem_append_left _ (List.mem_of_getElem? (i := 199) rfl)))), by decide +kernel⟩
set_option maxRecDepth 20000 in
theorem zw_440 : Cond.instanceMethod ({ cls := "java/lang/ArithmeticException", name := "<init>", desc := "(Ljava/lang/String;)V" } : MethodName) ∈ wz := List.mem_filter.mpr ⟨(List.mem_append_right _ (List.mem_append_right _ (List.mem_append_left _ (List.mem_of_getElem? (i := 200) rfl)))), by decide +kernel⟩
set_option maxRecDepth 20000 in
theorem zw_441 : Cond.code ({ cls := "java/lang/ArithmeticException", name := "<init>", desc := "(Ljava/lang/String;)V" } : MethodName) prog_7_method_2_code (2 : Nat) (Option.none : Option ClassFile.FieldType) ∈ wz := List.mem_filter.mpr ⟨(List.mem_append_right _ (List.mem_append_right _ (List.mem_append_left _ (List.mem_of_getElem? (i := 201) rfl)))), by decide +kernel⟩
set_option maxRecDepth 20000 in
theorem zw_442 : Cond.methodLink "java/lang/ArithmeticException" (7 : Nat) ({ cls := "java/lang/RuntimeException", name := "<init>", desc := "(Ljava/lang/String;)V" } : MethodName) ∈ wz := List.mem_filter.mpr ⟨(List.mem_append_right _ (List.mem_append_right _ (List.mem_append_left _ (List.mem_of_getElem? (i := 202) rfl)))), by decide +kernel⟩
set_option maxRecDepth 20000 in
theorem zw_443 : Cond.lays "java/lang/ArithmeticException" "java/lang/Throwable" "depth" "I" ∈ wz := List.mem_filter.mpr ⟨(List.mem_append_right _ (List.mem_append_right _ (List.mem_append_left _ (List.mem_of_getElem? (i := 203) rfl)))), by decide +kernel⟩
set_option maxRecDepth 20000 in
theorem zw_444 : Cond.superclass "java/lang/ArithmeticException" "java/lang/RuntimeException" ∈ wz := List.mem_filter.mpr ⟨(List.mem_append_right _ (List.mem_append_right _ (List.mem_append_left _ (List.mem_of_getElem? (i := 204) rfl)))), by decide +kernel⟩
set_option maxRecDepth 20000 in
theorem zw_445 : Cond.methodLink "DeltaPressLaw" (76 : Nat) ({ cls := "DeltaPressLaw", name := "turn", desc := "(LDeltaPress;[J)I" } : MethodName) ∈ wz := List.mem_filter.mpr ⟨(List.mem_append_right _ (List.mem_append_right _ (List.mem_append_left _ (List.mem_of_getElem? (i := 205) rfl)))), by decide +kernel⟩
set_option maxRecDepth 20000 in
theorem zw_446 : Cond.static ({ cls := "DeltaPressLaw", name := "turn", desc := "(LDeltaPress;[J)I" } : MethodName) ∈ wz := List.mem_filter.mpr ⟨(List.mem_append_right _ (List.mem_append_right _ (List.mem_append_left _ (List.mem_of_getElem? (i := 206) rfl)))), by decide +kernel⟩
set_option maxRecDepth 20000 in
theorem zw_448 : Cond.methodLink "DeltaPressLaw" (31 : Nat) ({ cls := "DeltaPress", name := "turn", desc := "()I" } : MethodName) ∈ wz := List.mem_filter.mpr ⟨(List.mem_append_right _ (List.mem_append_right _ (List.mem_append_left _ (List.mem_of_getElem? (i := 208) rfl)))), by decide +kernel⟩
set_option maxRecDepth 20000 in
theorem zw_449 : Cond.instanceMethod ({ cls := "DeltaPress", name := "turn", desc := "()I" } : MethodName) ∈ wz := List.mem_filter.mpr ⟨(List.mem_append_right _ (List.mem_append_right _ (List.mem_append_left _ (List.mem_of_getElem? (i := 209) rfl)))), by decide +kernel⟩
set_option maxRecDepth 20000 in
theorem zw_450 : Cond.selects "DeltaPress" ({ cls := "DeltaPress", name := "turn", desc := "()I" } : MethodName) ({ cls := "DeltaPress", name := "turn", desc := "()I" } : MethodName) ∈ wz := List.mem_filter.mpr ⟨(List.mem_append_right _ (List.mem_append_right _ (List.mem_append_left _ (List.mem_of_getElem? (i := 210) rfl)))), by decide +kernel⟩
set_option maxRecDepth 20000 in
theorem zw_451 : Cond.code ({ cls := "DeltaPress", name := "turn", desc := "()I" } : MethodName) prog_1_method_8_code (1 : Nat) (Option.some ClassFile.FieldType.int) ∈ wz := List.mem_filter.mpr ⟨(List.mem_append_right _ (List.mem_append_right _ (List.mem_append_left _ (List.mem_of_getElem? (i := 211) rfl)))), by decide +kernel⟩
set_option maxRecDepth 20000 in
theorem zw_452 : Cond.methodLink "DeltaPressLaw" (79 : Nat) ({ cls := "DeltaPressLaw", name := "longest", desc := "(LDeltaPress;II[J)I" } : MethodName) ∈ wz := List.mem_filter.mpr ⟨(List.mem_append_right _ (List.mem_append_right _ (List.mem_append_left _ (List.mem_of_getElem? (i := 212) rfl)))), by decide +kernel⟩
set_option maxRecDepth 20000 in
theorem zw_453 : Cond.static ({ cls := "DeltaPressLaw", name := "longest", desc := "(LDeltaPress;II[J)I" } : MethodName) ∈ wz := List.mem_filter.mpr ⟨(List.mem_append_right _ (List.mem_append_right _ (List.mem_append_left _ (List.mem_of_getElem? (i := 213) rfl)))), by decide +kernel⟩
set_option maxRecDepth 20000 in
theorem zw_455 : Cond.methodLink "DeltaPressLaw" (34 : Nat) ({ cls := "DeltaPress", name := "longest", desc := "(II)I" } : MethodName) ∈ wz := List.mem_filter.mpr ⟨(List.mem_append_right _ (List.mem_append_right _ (List.mem_append_left _ (List.mem_of_getElem? (i := 215) rfl)))), by decide +kernel⟩
set_option maxRecDepth 20000 in
theorem zw_456 : Cond.instanceMethod ({ cls := "DeltaPress", name := "longest", desc := "(II)I" } : MethodName) ∈ wz := List.mem_filter.mpr ⟨(List.mem_append_right _ (List.mem_append_right _ (List.mem_append_left _ (List.mem_of_getElem? (i := 216) rfl)))), by decide +kernel⟩
set_option maxRecDepth 20000 in
theorem zw_457 : Cond.selects "DeltaPress" ({ cls := "DeltaPress", name := "longest", desc := "(II)I" } : MethodName) ({ cls := "DeltaPress", name := "longest", desc := "(II)I" } : MethodName) ∈ wz := List.mem_filter.mpr ⟨(List.mem_append_right _ (List.mem_append_right _ (List.mem_append_left _ (List.mem_of_getElem? (i := 217) rfl)))), by decide +kernel⟩
set_option maxRecDepth 20000 in
theorem zw_458 : Cond.code ({ cls := "DeltaPress", name := "longest", desc := "(II)I" } : MethodName) prog_1_method_9_code (4 : Nat) (Option.some ClassFile.FieldType.int) ∈ wz := List.mem_filter.mpr ⟨(List.mem_append_right _ (List.mem_append_right _ (List.mem_append_left _ (List.mem_of_getElem? (i := 218) rfl)))), by decide +kernel⟩
set_option maxRecDepth 20000 in
theorem zw_460 : Cond.methodLink "DeltaPressLaw" (83 : Nat) ({ cls := "DeltaPressLaw", name := "letter", desc := "(LDeltaPress;I[J)I" } : MethodName) ∈ wz := List.mem_filter.mpr ⟨(List.mem_append_right _ (List.mem_append_right _ (List.mem_append_left _ (List.mem_of_getElem? (i := 220) rfl)))), by decide +kernel⟩
set_option maxRecDepth 20000 in
theorem zw_461 : Cond.static ({ cls := "DeltaPressLaw", name := "letter", desc := "(LDeltaPress;I[J)I" } : MethodName) ∈ wz := List.mem_filter.mpr ⟨(List.mem_append_right _ (List.mem_append_right _ (List.mem_append_left _ (List.mem_of_getElem? (i := 221) rfl)))), by decide +kernel⟩
set_option maxRecDepth 20000 in
theorem zw_463 : Cond.classLink "DeltaPressLaw" (41 : Nat) "java/lang/IndexOutOfBoundsException" ∈ wz := List.mem_filter.mpr ⟨(List.mem_append_right _ (List.mem_append_right _ (List.mem_append_left _ (List.mem_of_getElem? (i := 223) rfl)))), by decide +kernel⟩
set_option maxRecDepth 20000 in
theorem zw_464 : Cond.methodLink "DeltaPressLaw" (38 : Nat) ({ cls := "DeltaPress", name := "letter", desc := "(I)I" } : MethodName) ∈ wz := List.mem_filter.mpr ⟨(List.mem_append_right _ (List.mem_append_right _ (List.mem_append_left _ (List.mem_of_getElem? (i := 224) rfl)))), by decide +kernel⟩
set_option maxRecDepth 20000 in
theorem zw_465 : Cond.instanceMethod ({ cls := "DeltaPress", name := "letter", desc := "(I)I" } : MethodName) ∈ wz := List.mem_filter.mpr ⟨(List.mem_append_right _ (List.mem_append_right _ (List.mem_append_left _ (List.mem_of_getElem? (i := 225) rfl)))), by decide +kernel⟩
set_option maxRecDepth 20000 in
theorem zw_466 : Cond.selects "DeltaPress" ({ cls := "DeltaPress", name := "letter", desc := "(I)I" } : MethodName) ({ cls := "DeltaPress", name := "letter", desc := "(I)I" } : MethodName) ∈ wz := List.mem_filter.mpr ⟨(List.mem_append_right _ (List.mem_append_right _ (List.mem_append_left _ (List.mem_of_getElem? (i := 226) rfl)))), by decide +kernel⟩
set_option maxRecDepth 20000 in
theorem zw_467 : Cond.code ({ cls := "DeltaPress", name := "letter", desc := "(I)I" } : MethodName) prog_1_method_10_code (2 : Nat) (Option.some ClassFile.FieldType.int) ∈ wz := List.mem_filter.mpr ⟨(List.mem_append_right _ (List.mem_append_right _ (List.mem_append_left _ (List.mem_of_getElem? (i := 227) rfl)))), by decide +kernel⟩
set_option maxRecDepth 20000 in
theorem zw_468 : Cond.classLink "DeltaPress" (125 : Nat) "java/lang/IndexOutOfBoundsException" ∈ wz := List.mem_filter.mpr ⟨(List.mem_append_right _ (List.mem_append_right _ (List.mem_append_left _ (List.mem_of_getElem? (i := 228) rfl)))), by decide +kernel⟩
set_option maxRecDepth 20000 in
theorem zw_469 : Cond.instantiable "java/lang/IndexOutOfBoundsException" (6 : Nat) ∈ wz := List.mem_filter.mpr ⟨(List.mem_append_right _ (List.mem_append_right _ (List.mem_append_left _ (List.mem_of_getElem? (i := 229) rfl)))), by decide +kernel⟩
set_option maxRecDepth 20000 in
theorem zw_471 : Cond.selects "java/lang/IndexOutOfBoundsException" ({ cls := "java/lang/Throwable", name := "fillInStackTrace", desc := "(I)Ljava/lang/Throwable;" } : MethodName) ({ cls := "java/lang/Throwable", name := "fillInStackTrace", desc := "(I)Ljava/lang/Throwable;" } : MethodName) ∈ wz := List.mem_filter.mpr ⟨(List.mem_append_right _ (List.mem_append_right _ (List.mem_append_left _ (List.mem_of_getElem? (i := 231) rfl)))), by decide +kernel⟩
set_option maxRecDepth 20000 in
theorem zw_472 : Cond.lays "java/lang/IndexOutOfBoundsException" "java/lang/Throwable" "cause" "Ljava/lang/Throwable;" ∈ wz := List.mem_filter.mpr ⟨(List.mem_append_right _ (List.mem_append_right _ (List.mem_append_left _ (List.mem_of_getElem? (i := 232) rfl)))), by decide +kernel⟩
set_option maxRecDepth 20000 in
theorem zw_473 : Cond.lays "java/lang/IndexOutOfBoundsException" "java/lang/Throwable" "stackTrace" "[Ljava/lang/StackTraceElement;" ∈ wz := List.mem_filter.mpr ⟨(List.mem_append_right _ (List.mem_append_right _ (List.mem_append_left _ (List.mem_of_getElem? (i := 233) rfl)))), by decide +kernel⟩
set_option maxRecDepth 20000 in
theorem zw_474 : Cond.lays "java/lang/IndexOutOfBoundsException" "java/lang/Throwable" "suppressedExceptions" "Ljava/util/List;" ∈ wz := List.mem_filter.mpr ⟨(List.mem_append_right _ (List.mem_append_right _ (List.mem_append_left _ (List.mem_of_getElem? (i := 234) rfl)))), by decide +kernel⟩
set_option maxRecDepth 20000 in
theorem zw_475 : Cond.lays "java/lang/IndexOutOfBoundsException" "java/lang/Throwable" "detailMessage" "Ljava/lang/String;" ∈ wz := List.mem_filter.mpr ⟨(List.mem_append_right _ (List.mem_append_right _ (List.mem_append_left _ (List.mem_of_getElem? (i := 235) rfl)))), by decide +kernel⟩
set_option maxRecDepth 20000 in
theorem zw_476 : Cond.lays "java/lang/IndexOutOfBoundsException" "java/lang/Throwable" "backtrace" "Ljava/lang/Object;" ∈ wz := List.mem_filter.mpr ⟨(List.mem_append_right _ (List.mem_append_right _ (List.mem_append_left _ (List.mem_of_getElem? (i := 236) rfl)))), by decide +kernel⟩
set_option maxRecDepth 20000 in
theorem zw_478 : Cond.methodLink "DeltaPress" (129 : Nat) ({ cls := "java/lang/IndexOutOfBoundsException", name := "<init>", desc := "(Ljava/lang/String;)V" } : MethodName) ∈ wz := List.mem_filter.mpr ⟨(List.mem_append_right _ (List.mem_append_right _ (List.mem_append_left _ (List.mem_of_getElem? (i := 238) rfl)))), by decide +kernel⟩
set_option maxRecDepth 20000 in
theorem zw_479 : Cond.instanceMethod ({ cls := "java/lang/IndexOutOfBoundsException", name := "<init>", desc := "(Ljava/lang/String;)V" } : MethodName) ∈ wz := List.mem_filter.mpr ⟨(List.mem_append_right _ (List.mem_append_right _ (List.mem_append_left _ (List.mem_of_getElem? (i := 239) rfl)))), by decide +kernel⟩
set_option maxRecDepth 20000 in
theorem zw_480 : Cond.code ({ cls := "java/lang/IndexOutOfBoundsException", name := "<init>", desc := "(Ljava/lang/String;)V" } : MethodName) prog_11_method_2_code (2 : Nat) (Option.none : Option ClassFile.FieldType) ∈ wz := List.mem_filter.mpr ⟨(List.mem_append_right _ (List.mem_append_right _ (List.mem_append_right _ (List.mem_of_getElem? (i := 0) rfl)))), by decide +kernel⟩
set_option maxRecDepth 20000 in
theorem zw_481 : Cond.methodLink "java/lang/IndexOutOfBoundsException" (7 : Nat) ({ cls := "java/lang/RuntimeException", name := "<init>", desc := "(Ljava/lang/String;)V" } : MethodName) ∈ wz := List.mem_filter.mpr ⟨(List.mem_append_right _ (List.mem_append_right _ (List.mem_append_right _ (List.mem_of_getElem? (i := 1) rfl)))), by decide +kernel⟩
set_option maxRecDepth 20000 in
theorem zw_482 : Cond.lays "java/lang/IndexOutOfBoundsException" "java/lang/Throwable" "depth" "I" ∈ wz := List.mem_filter.mpr ⟨(List.mem_append_right _ (List.mem_append_right _ (List.mem_append_right _ (List.mem_of_getElem? (i := 2) rfl)))), by decide +kernel⟩
set_option maxRecDepth 20000 in
theorem zw_483 : Cond.superclass "java/lang/IndexOutOfBoundsException" "java/lang/RuntimeException" ∈ wz := List.mem_filter.mpr ⟨(List.mem_append_right _ (List.mem_append_right _ (List.mem_append_right _ (List.mem_of_getElem? (i := 3) rfl)))), by decide +kernel⟩
set_option maxRecDepth 20000 in
theorem zw_484 : Cond.methodLink "DeltaPress" (130 : Nat) ({ cls := "DeltaPress$Text", name := "at", desc := "(I)I" } : MethodName) ∈ wz := List.mem_filter.mpr ⟨(List.mem_append_right _ (List.mem_append_right _ (List.mem_append_right _ (List.mem_of_getElem? (i := 4) rfl)))), by decide +kernel⟩
set_option maxRecDepth 20000 in
theorem zw_485 : Cond.classLink "DeltaPressLaw" (44 : Nat) "DeltaPressModel" ∈ wz := List.mem_filter.mpr ⟨(List.mem_append_right _ (List.mem_append_right _ (List.mem_append_right _ (List.mem_of_getElem? (i := 5) rfl)))), by decide +kernel⟩
set_option maxRecDepth 20000 in
theorem zw_486 : Cond.instantiable "DeltaPressModel" (16 : Nat) ∈ wz := List.mem_filter.mpr ⟨(List.mem_append_right _ (List.mem_append_right _ (List.mem_append_right _ (List.mem_of_getElem? (i := 6) rfl)))), by decide +kernel⟩
set_option maxRecDepth 20000 in
theorem zw_487 : Cond.methodLink "DeltaPressLaw" (46 : Nat) ({ cls := "DeltaPressModel", name := "<init>", desc := "()V" } : MethodName) ∈ wz := List.mem_filter.mpr ⟨(List.mem_append_right _ (List.mem_append_right _ (List.mem_append_right _ (List.mem_of_getElem? (i := 7) rfl)))), by decide +kernel⟩
set_option maxRecDepth 20000 in
theorem zw_488 : Cond.instanceMethod ({ cls := "DeltaPressModel", name := "<init>", desc := "()V" } : MethodName) ∈ wz := List.mem_filter.mpr ⟨(List.mem_append_right _ (List.mem_append_right _ (List.mem_append_right _ (List.mem_of_getElem? (i := 8) rfl)))), by decide +kernel⟩
set_option maxRecDepth 20000 in
theorem zw_489 : Cond.code ({ cls := "DeltaPressModel", name := "<init>", desc := "()V" } : MethodName) prog_6_method_1_code (1 : Nat) (Option.none : Option ClassFile.FieldType) ∈ wz := List.mem_filter.mpr ⟨(List.mem_append_right _ (List.mem_append_right _ (List.mem_append_right _ (List.mem_of_getElem? (i := 9) rfl)))), by decide +kernel⟩
set_option maxRecDepth 20000 in
theorem zw_490 : Cond.methodLink "DeltaPressModel" (1 : Nat) ({ cls := "java/lang/Object", name := "<init>", desc := "()V" } : MethodName) ∈ wz := List.mem_filter.mpr ⟨(List.mem_append_right _ (List.mem_append_right _ (List.mem_append_right _ (List.mem_of_getElem? (i := 10) rfl)))), by decide +kernel⟩
set_option maxRecDepth 20000 in
theorem zw_491 : Cond.constant "DeltaPressModel" (7 : Nat) (65536 : Int32) ∈ wz := List.mem_filter.mpr ⟨(List.mem_append_right _ (List.mem_append_right _ (List.mem_append_right _ (List.mem_of_getElem? (i := 11) rfl)))), by decide +kernel⟩
set_option maxRecDepth 20000 in
theorem zw_492 : Cond.constant "DeltaPressModel" (17 : Nat) (67000 : Int32) ∈ wz := List.mem_filter.mpr ⟨(List.mem_append_right _ (List.mem_append_right _ (List.mem_append_right _ (List.mem_of_getElem? (i := 12) rfl)))), by decide +kernel⟩
set_option maxRecDepth 20000 in
theorem zw_493 : Cond.fieldLink "DeltaPressModel" (8 : Nat) "DeltaPressModel" "input" "[B" ∈ wz := List.mem_filter.mpr ⟨(List.mem_append_right _ (List.mem_append_right _ (List.mem_append_right _ (List.mem_of_getElem? (i := 13) rfl)))), by decide +kernel⟩
set_option maxRecDepth 20000 in
theorem zw_494 : Cond.fieldLink "DeltaPressModel" (14 : Nat) "DeltaPressModel" "base" "[B" ∈ wz := List.mem_filter.mpr ⟨(List.mem_append_right _ (List.mem_append_right _ (List.mem_append_right _ (List.mem_of_getElem? (i := 14) rfl)))), by decide +kernel⟩
set_option maxRecDepth 20000 in
theorem zw_495 : Cond.fieldLink "DeltaPressModel" (18 : Nat) "DeltaPressModel" "output" "[B" ∈ wz := List.mem_filter.mpr ⟨(List.mem_append_right _ (List.mem_append_right _ (List.mem_append_right _ (List.mem_of_getElem? (i := 15) rfl)))), by decide +kernel⟩
set_option maxRecDepth 20000 in
theorem zw_496 : Cond.fieldLink "DeltaPressModel" (21 : Nat) "DeltaPressModel" "room" "[B" ∈ wz := List.mem_filter.mpr ⟨(List.mem_append_right _ (List.mem_append_right _ (List.mem_append_right _ (List.mem_of_getElem? (i := 16) rfl)))), by decide +kernel⟩
set_option maxRecDepth 20000 in
theorem zw_497 : Cond.fieldLink "DeltaPressModel" (28 : Nat) "DeltaPressModel" "size" "I" ∈ wz := List.mem_filter.mpr ⟨(List.mem_append_right _ (List.mem_append_right _ (List.mem_append_right _ (List.mem_of_getElem? (i := 17) rfl)))), by decide +kernel⟩
set_option maxRecDepth 20000 in
theorem zw_498 : Cond.fieldLink "DeltaPressModel" (35 : Nat) "DeltaPressModel" "baseSize" "I" ∈ wz := List.mem_filter.mpr ⟨(List.mem_append_right _ (List.mem_append_right _ (List.mem_append_right _ (List.mem_of_getElem? (i := 18) rfl)))), by decide +kernel⟩
set_option maxRecDepth 20000 in
theorem zw_499 : Cond.fieldLink "DeltaPressModel" (45 : Nat) "DeltaPressModel" "made" "I" ∈ wz := List.mem_filter.mpr ⟨(List.mem_append_right _ (List.mem_append_right _ (List.mem_append_right _ (List.mem_of_getElem? (i := 19) rfl)))), by decide +kernel⟩
set_option maxRecDepth 20000 in
theorem zw_500 : Cond.fieldLink "DeltaPressModel" (52 : Nat) "DeltaPressModel" "copies" "I" ∈ wz := List.mem_filter.mpr ⟨(List.mem_append_right _ (List.mem_append_right _ (List.mem_append_right _ (List.mem_of_getElem? (i := 20) rfl)))), by decide +kernel⟩
set_option maxRecDepth 20000 in
theorem zw_501 : Cond.fieldLink "DeltaPressModel" (55 : Nat) "DeltaPressModel" "fresh" "I" ∈ wz := List.mem_filter.mpr ⟨(List.mem_append_right _ (List.mem_append_right _ (List.mem_append_right _ (List.mem_of_getElem? (i := 21) rfl)))), by decide +kernel⟩
set_option maxRecDepth 20000 in
theorem zw_502 : Cond.fieldLink "DeltaPressModel" (95 : Nat) "DeltaPressModel" "damaged" "I" ∈ wz := List.mem_filter.mpr ⟨(List.mem_append_right _ (List.mem_append_right _ (List.mem_append_right _ (List.mem_of_getElem? (i := 22) rfl)))), by decide +kernel⟩
set_option maxRecDepth 20000 in
theorem zw_503 : Cond.fieldLink "DeltaPressModel" (24 : Nat) "DeltaPressModel" "thrown" "I" ∈ wz := List.mem_filter.mpr ⟨(List.mem_append_right _ (List.mem_append_right _ (List.mem_append_right _ (List.mem_of_getElem? (i := 23) rfl)))), by decide +kernel⟩
set_option maxRecDepth 20000 in
theorem zw_504 : Cond.fieldLink "DeltaPressModel" (38 : Nat) "DeltaPressModel" "best" "I" ∈ wz := List.mem_filter.mpr ⟨(List.mem_append_right _ (List.mem_append_right _ (List.mem_append_right _ (List.mem_of_getElem? (i := 24) rfl)))), by decide +kernel⟩
set_option maxRecDepth 20000 in
theorem zw_505 : Cond.fieldLink "DeltaPressModel" (41 : Nat) "DeltaPressModel" "where" "I" ∈ wz := List.mem_filter.mpr ⟨(List.mem_append_right _ (List.mem_append_right _ (List.mem_append_right _ (List.mem_of_getElem? (i := 25) rfl)))), by decide +kernel⟩
set_option maxRecDepth 20000 in
theorem zw_506 : Cond.fieldLink "DeltaPressModel" (71 : Nat) "DeltaPressModel" "at" "I" ∈ wz := List.mem_filter.mpr ⟨(List.mem_append_right _ (List.mem_append_right _ (List.mem_append_right _ (List.mem_of_getElem? (i := 26) rfl)))), by decide +kernel⟩
set_option maxRecDepth 20000 in
theorem zw_507 : Cond.fieldLink "DeltaPressModel" (74 : Nat) "DeltaPressModel" "wrong" "Z" ∈ wz := List.mem_filter.mpr ⟨(List.mem_append_right _ (List.mem_append_right _ (List.mem_append_right _ (List.mem_of_getElem? (i := 27) rfl)))), by decide +kernel⟩
set_option maxRecDepth 20000 in
theorem zw_508 : Cond.fieldLink "DeltaPressModel" (82 : Nat) "DeltaPressModel" "filled" "I" ∈ wz := List.mem_filter.mpr ⟨(List.mem_append_right _ (List.mem_append_right _ (List.mem_append_right _ (List.mem_of_getElem? (i := 28) rfl)))), by decide +kernel⟩
set_option maxRecDepth 20000 in
theorem zw_509 : Cond.laysFinal "DeltaPressModel" "DeltaPressModel" "input" "[B" ∈ wz := List.mem_filter.mpr ⟨(List.mem_append_right _ (List.mem_append_right _ (List.mem_append_right _ (List.mem_of_getElem? (i := 29) rfl)))), by decide +kernel⟩
set_option maxRecDepth 20000 in
theorem zw_510 : Cond.soleField "DeltaPressModel" "input" ∈ wz := List.mem_filter.mpr ⟨(List.mem_append_right _ (List.mem_append_right _ (List.mem_append_right _ (List.mem_of_getElem? (i := 30) rfl)))), by decide +kernel⟩
set_option maxRecDepth 20000 in
theorem zw_511 : Cond.laysFinal "DeltaPressModel" "DeltaPressModel" "base" "[B" ∈ wz := List.mem_filter.mpr ⟨(List.mem_append_right _ (List.mem_append_right _ (List.mem_append_right _ (List.mem_of_getElem? (i := 31) rfl)))), by decide +kernel⟩
set_option maxRecDepth 20000 in
theorem zw_512 : Cond.soleField "DeltaPressModel" "base" ∈ wz := List.mem_filter.mpr ⟨(List.mem_append_right _ (List.mem_append_right _ (List.mem_append_right _ (List.mem_of_getElem? (i := 32) rfl)))), by decide +kernel⟩
set_option maxRecDepth 20000 in
theorem zw_513 : Cond.laysFinal "DeltaPressModel" "DeltaPressModel" "output" "[B" ∈ wz := List.mem_filter.mpr ⟨(List.mem_append_right _ (List.mem_append_right _ (List.mem_append_right _ (List.mem_of_getElem? (i := 33) rfl)))), by decide +kernel⟩
set_option maxRecDepth 20000 in
theorem zw_514 : Cond.soleField "DeltaPressModel" "output" ∈ wz := List.mem_filter.mpr ⟨(List.mem_append_right _ (List.mem_append_right _ (List.mem_append_right _ (List.mem_of_getElem? (i := 34) rfl)))), by decide +kernel⟩
set_option maxRecDepth 20000 in
theorem zw_515 : Cond.laysFinal "DeltaPressModel" "DeltaPressModel" "room" "[B" ∈ wz := List.mem_filter.mpr ⟨(List.mem_append_right _ (List.mem_append_right _ (List.mem_append_right _ (List.mem_of_getElem? (i := 35) rfl)))), by decide +kernel⟩
set_option maxRecDepth 20000 in
theorem zw_516 : Cond.soleField "DeltaPressModel" "room" ∈ wz := List.mem_filter.mpr ⟨(List.mem_append_right _ (List.mem_append_right _ (List.mem_append_right _ (List.mem_of_getElem? (i := 36) rfl)))), by decide +kernel⟩
set_option maxRecDepth 20000 in
theorem zw_517 : Cond.lays "DeltaPressModel" "DeltaPressModel" "size" "I" ∈ wz := List.mem_filter.mpr ⟨(List.mem_append_right _ (List.mem_append_right _ (List.mem_append_right _ (List.mem_of_getElem? (i := 37) rfl)))), by decide +kernel⟩
set_option maxRecDepth 20000 in
theorem zw_518 : Cond.soleField "DeltaPressModel" "size" ∈ wz := List.mem_filter.mpr ⟨(List.mem_append_right _ (List.mem_append_right _ (List.mem_append_right _ (List.mem_of_getElem? (i := 38) rfl)))), by decide +kernel⟩
set_option maxRecDepth 20000 in
theorem zw_519 : Cond.lays "DeltaPressModel" "DeltaPressModel" "baseSize" "I" ∈ wz := List.mem_filter.mpr ⟨(List.mem_append_right _ (List.mem_append_right _ (List.mem_append_right _ (List.mem_of_getElem? (i := 39) rfl)))), by decide +kernel⟩
set_option maxRecDepth 20000 in
theorem zw_520 : Cond.soleField "DeltaPressModel" "baseSize" ∈ wz := List.mem_filter.mpr ⟨(List.mem_append_right _ (List.mem_append_right _ (List.mem_append_right _ (List.mem_of_getElem? (i := 40) rfl)))), by decide +kernel⟩
set_option maxRecDepth 20000 in
theorem zw_521 : Cond.lays "DeltaPressModel" "DeltaPressModel" "made" "I" ∈ wz := List.mem_filter.mpr ⟨(List.mem_append_right _ (List.mem_append_right _ (List.mem_append_right _ (List.mem_of_getElem? (i := 41) rfl)))), by decide +kernel⟩
set_option maxRecDepth 20000 in
theorem zw_522 : Cond.soleField "DeltaPressModel" "made" ∈ wz := List.mem_filter.mpr ⟨(List.mem_append_right _ (List.mem_append_right _ (List.mem_append_right _ (List.mem_of_getElem? (i := 42) rfl)))), by decide +kernel⟩
set_option maxRecDepth 20000 in
theorem zw_523 : Cond.lays "DeltaPressModel" "DeltaPressModel" "copies" "I" ∈ wz := List.mem_filter.mpr ⟨(List.mem_append_right _ (List.mem_append_right _ (List.mem_append_right _ (List.mem_of_getElem? (i := 43) rfl)))), by decide +kernel⟩
set_option maxRecDepth 20000 in
theorem zw_524 : Cond.soleField "DeltaPressModel" "copies" ∈ wz := List.mem_filter.mpr ⟨(List.mem_append_right _ (List.mem_append_right _ (List.mem_append_right _ (List.mem_of_getElem? (i := 44) rfl)))), by decide +kernel⟩
set_option maxRecDepth 20000 in
theorem zw_525 : Cond.lays "DeltaPressModel" "DeltaPressModel" "fresh" "I" ∈ wz := List.mem_filter.mpr ⟨(List.mem_append_right _ (List.mem_append_right _ (List.mem_append_right _ (List.mem_of_getElem? (i := 45) rfl)))), by decide +kernel⟩
set_option maxRecDepth 20000 in
theorem zw_526 : Cond.soleField "DeltaPressModel" "fresh" ∈ wz := List.mem_filter.mpr ⟨(List.mem_append_right _ (List.mem_append_right _ (List.mem_append_right _ (List.mem_of_getElem? (i := 46) rfl)))), by decide +kernel⟩
set_option maxRecDepth 20000 in
theorem zw_527 : Cond.lays "DeltaPressModel" "DeltaPressModel" "damaged" "I" ∈ wz := List.mem_filter.mpr ⟨(List.mem_append_right _ (List.mem_append_right _ (List.mem_append_right _ (List.mem_of_getElem? (i := 47) rfl)))), by decide +kernel⟩
set_option maxRecDepth 20000 in
theorem zw_528 : Cond.soleField "DeltaPressModel" "damaged" ∈ wz := List.mem_filter.mpr ⟨(List.mem_append_right _ (List.mem_append_right _ (List.mem_append_right _ (List.mem_of_getElem? (i := 48) rfl)))), by decide +kernel⟩
set_option maxRecDepth 20000 in
theorem zw_529 : Cond.lays "DeltaPressModel" "DeltaPressModel" "thrown" "I" ∈ wz := List.mem_filter.mpr ⟨(List.mem_append_right _ (List.mem_append_right _ (List.mem_append_right _ (List.mem_of_getElem? (i := 49) rfl)))), by decide +kernel⟩
set_option maxRecDepth 20000 in
theorem zw_530 : Cond.soleField "DeltaPressModel" "thrown" ∈ wz := List.mem_filter.mpr ⟨(List.mem_append_right _ (List.mem_append_right _ (List.mem_append_right _ (List.mem_of_getElem? (i := 50) rfl)))), by decide +kernel⟩
set_option maxRecDepth 20000 in
theorem zw_531 : Cond.lays "DeltaPressModel" "DeltaPressModel" "best" "I" ∈ wz := List.mem_filter.mpr ⟨(List.mem_append_right _ (List.mem_append_right _ (List.mem_append_right _ (List.mem_of_getElem? (i := 51) rfl)))), by decide +kernel⟩
set_option maxRecDepth 20000 in
theorem zw_532 : Cond.soleField "DeltaPressModel" "best" ∈ wz := List.mem_filter.mpr ⟨(List.mem_append_right _ (List.mem_append_right _ (List.mem_append_right _ (List.mem_of_getElem? (i := 52) rfl)))), by decide +kernel⟩
set_option maxRecDepth 20000 in
theorem zw_533 : Cond.lays "DeltaPressModel" "DeltaPressModel" "where" "I" ∈ wz := List.mem_filter.mpr ⟨(List.mem_append_right _ (List.mem_append_right _ (List.mem_append_right _ (List.mem_of_getElem? (i := 53) rfl)))), by decide +kernel⟩
set_option maxRecDepth 20000 in
theorem zw_534 : Cond.soleField "DeltaPressModel" "where" ∈ wz := List.mem_filter.mpr ⟨(List.mem_append_right _ (List.mem_append_right _ (List.mem_append_right _ (List.mem_of_getElem? (i := 54) rfl)))), by decide +kernel⟩
set_option maxRecDepth 20000 in
theorem zw_535 : Cond.lays "DeltaPressModel" "DeltaPressModel" "at" "I" ∈ wz := List.mem_filter.mpr ⟨(List.mem_append_right _ (List.mem_append_right _ (List.mem_append_right _ (List.mem_of_getElem? (i := 55) rfl)))), by decide +kernel⟩
set_option maxRecDepth 20000 in
theorem zw_536 : Cond.soleField "DeltaPressModel" "at" ∈ wz := List.mem_filter.mpr ⟨(List.mem_append_right _ (List.mem_append_right _ (List.mem_append_right _ (List.mem_of_getElem? (i := 56) rfl)))), by decide +kernel⟩
set_option maxRecDepth 20000 in
theorem zw_537 : Cond.lays "DeltaPressModel" "DeltaPressModel" "wrong" "Z" ∈ wz := List.mem_filter.mpr ⟨(List.mem_append_right _ (List.mem_append_right _ (List.mem_append_right _ (List.mem_of_getElem? (i := 57) rfl)))), by decide +kernel⟩
set_option maxRecDepth 20000 in
theorem zw_538 : Cond.soleField "DeltaPressModel" "wrong" ∈ wz := List.mem_filter.mpr ⟨(List.mem_append_right _ (List.mem_append_right _ (List.mem_append_right _ (List.mem_of_getElem? (i := 58) rfl)))), by decide +kernel⟩
set_option maxRecDepth 20000 in
theorem zw_539 : Cond.lays "DeltaPressModel" "DeltaPressModel" "filled" "I" ∈ wz := List.mem_filter.mpr ⟨(List.mem_append_right _ (List.mem_append_right _ (List.mem_append_right _ (List.mem_of_getElem? (i := 59) rfl)))), by decide +kernel⟩
set_option maxRecDepth 20000 in
theorem zw_540 : Cond.soleField "DeltaPressModel" "filled" ∈ wz := List.mem_filter.mpr ⟨(List.mem_append_right _ (List.mem_append_right _ (List.mem_append_right _ (List.mem_of_getElem? (i := 60) rfl)))), by decide +kernel⟩
set_option maxRecDepth 20000 in
theorem zw_541 : Cond.superclass "DeltaPressModel" "java/lang/Object" ∈ wz := List.mem_filter.mpr ⟨(List.mem_append_right _ (List.mem_append_right _ (List.mem_append_right _ (List.mem_of_getElem? (i := 61) rfl)))), by decide +kernel⟩
set_option maxRecDepth 20000 in
theorem zw_542 : Cond.methodLink "DeltaPressLaw" (53 : Nat) ({ cls := "DeltaPressModel", name := "thrown", desc := "()I" } : MethodName) ∈ wz := List.mem_filter.mpr ⟨(List.mem_append_right _ (List.mem_append_right _ (List.mem_append_right _ (List.mem_of_getElem? (i := 62) rfl)))), by decide +kernel⟩
set_option maxRecDepth 20000 in
theorem zw_543 : Cond.instanceMethod ({ cls := "DeltaPressModel", name := "thrown", desc := "()I" } : MethodName) ∈ wz := List.mem_filter.mpr ⟨(List.mem_append_right _ (List.mem_append_right _ (List.mem_append_right _ (List.mem_of_getElem? (i := 63) rfl)))), by decide +kernel⟩
set_option maxRecDepth 20000 in
theorem zw_544 : Cond.selects "DeltaPressModel" ({ cls := "DeltaPressModel", name := "thrown", desc := "()I" } : MethodName) ({ cls := "DeltaPressModel", name := "thrown", desc := "()I" } : MethodName) ∈ wz := List.mem_filter.mpr ⟨(List.mem_append_right _ (List.mem_append_right _ (List.mem_append_right _ (List.mem_of_getElem? (i := 64) rfl)))), by decide +kernel⟩
set_option maxRecDepth 20000 in
theorem zw_545 : Cond.code ({ cls := "DeltaPressModel", name := "thrown", desc := "()I" } : MethodName) prog_6_method_2_code (1 : Nat) (Option.some ClassFile.FieldType.int) ∈ wz := List.mem_filter.mpr ⟨(List.mem_append_right _ (List.mem_append_right _ (List.mem_append_right _ (List.mem_of_getElem? (i := 65) rfl)))), by decide +kernel⟩
set_option maxRecDepth 20000 in
theorem zw_546 : Cond.methodLink "DeltaPressLaw" (52 : Nat) ({ cls := "DeltaPressModel", name := "feed", desc := "(IIIII)I" } : MethodName) ∈ wz := List.mem_filter.mpr ⟨(List.mem_append_right _ (List.mem_append_right _ (List.mem_append_right _ (List.mem_of_getElem? (i := 66) rfl)))), by decide +kernel⟩
set_option maxRecDepth 20000 in
theorem zw_547 : Cond.instanceMethod ({ cls := "DeltaPressModel", name := "feed", desc := "(IIIII)I" } : MethodName) ∈ wz := List.mem_filter.mpr ⟨(List.mem_append_right _ (List.mem_append_right _ (List.mem_append_right _ (List.mem_of_getElem? (i := 67) rfl)))), by decide +kernel⟩
set_option maxRecDepth 20000 in
theorem zw_548 : Cond.selects "DeltaPressModel" ({ cls := "DeltaPressModel", name := "feed", desc := "(IIIII)I" } : MethodName) ({ cls := "DeltaPressModel", name := "feed", desc := "(IIIII)I" } : MethodName) ∈ wz := List.mem_filter.mpr ⟨(List.mem_append_right _ (List.mem_append_right _ (List.mem_append_right _ (List.mem_of_getElem? (i := 68) rfl)))), by decide +kernel⟩
set_option maxRecDepth 20000 in
theorem zw_549 : Cond.code ({ cls := "DeltaPressModel", name := "feed", desc := "(IIIII)I" } : MethodName) prog_6_method_4_code (8 : Nat) (Option.some ClassFile.FieldType.int) ∈ wz := List.mem_filter.mpr ⟨(List.mem_append_right _ (List.mem_append_right _ (List.mem_append_right _ (List.mem_of_getElem? (i := 69) rfl)))), by decide +kernel⟩
set_option maxRecDepth 20000 in
theorem zw_550 : Cond.methodLink "DeltaPressModel" (31 : Nat) ({ cls := "DeltaPressModel", name := "refuse", desc := "(I)I" } : MethodName) ∈ wz := List.mem_filter.mpr ⟨(List.mem_append_right _ (List.mem_append_right _ (List.mem_append_right _ (List.mem_of_getElem? (i := 70) rfl)))), by decide +kernel⟩
set_option maxRecDepth 20000 in
theorem zw_552 : Cond.instanceMethod ({ cls := "DeltaPressModel", name := "refuse", desc := "(I)I" } : MethodName) ∈ wz := List.mem_filter.mpr ⟨(List.mem_append_right _ (List.mem_append_right _ (List.mem_append_right _ (List.mem_of_getElem? (i := 72) rfl)))), by decide +kernel⟩
set_option maxRecDepth 20000 in
theorem zw_553 : Cond.code ({ cls := "DeltaPressModel", name := "refuse", desc := "(I)I" } : MethodName) prog_6_method_3_code (2 : Nat) (Option.some ClassFile.FieldType.int) ∈ wz := List.mem_filter.mpr ⟨(List.mem_append_right _ (List.mem_append_right _ (List.mem_append_right _ (List.mem_of_getElem? (i := 73) rfl)))), by decide +kernel⟩
set_option maxRecDepth 20000 in
theorem zw_554 : Cond.methodLink "DeltaPressLaw" (59 : Nat) ({ cls := "DeltaPressModel", name := "end", desc := "(I)I" } : MethodName) ∈ wz := List.mem_filter.mpr ⟨(List.mem_append_right _ (List.mem_append_right _ (List.mem_append_right _ (List.mem_of_getElem? (i := 74) rfl)))), by decide +kernel⟩
set_option maxRecDepth 20000 in
theorem zw_555 : Cond.instanceMethod ({ cls := "DeltaPressModel", name := "end", desc := "(I)I" } : MethodName) ∈ wz := List.mem_filter.mpr ⟨(List.mem_append_right _ (List.mem_append_right _ (List.mem_append_right _ (List.mem_of_getElem? (i := 75) rfl)))), by decide +kernel⟩
set_option maxRecDepth 20000 in
theorem zw_556 : Cond.selects "DeltaPressModel" ({ cls := "DeltaPressModel", name := "end", desc := "(I)I" } : MethodName) ({ cls := "DeltaPressModel", name := "end", desc := "(I)I" } : MethodName) ∈ wz := List.mem_filter.mpr ⟨(List.mem_append_right _ (List.mem_append_right _ (List.mem_append_right _ (List.mem_of_getElem? (i := 76) rfl)))), by decide +kernel⟩
set_option maxRecDepth 20000 in
theorem zw_557 : Cond.code ({ cls := "DeltaPressModel", name := "end", desc := "(I)I" } : MethodName) prog_6_method_5_code (2 : Nat) (Option.some ClassFile.FieldType.int) ∈ wz := List.mem_filter.mpr ⟨(List.mem_append_right _ (List.mem_append_right _ (List.mem_append_right _ (List.mem_of_getElem? (i := 77) rfl)))), by decide +kernel⟩
set_option maxRecDepth 20000 in
theorem zw_558 : Cond.methodLink "DeltaPressLaw" (63 : Nat) ({ cls := "DeltaPressModel", name := "change", desc := "(II)V" } : MethodName) ∈ wz := List.mem_filter.mpr ⟨(List.mem_append_right _ (List.mem_append_right _ (List.mem_append_right _ (List.mem_of_getElem? (i := 78) rfl)))), by decide +kernel⟩
set_option maxRecDepth 20000 in
theorem zw_559 : Cond.instanceMethod ({ cls := "DeltaPressModel", name := "change", desc := "(II)V" } : MethodName) ∈ wz := List.mem_filter.mpr ⟨(List.mem_append_right _ (List.mem_append_right _ (List.mem_append_right _ (List.mem_of_getElem? (i := 79) rfl)))), by decide +kernel⟩
set_option maxRecDepth 20000 in
theorem zw_560 : Cond.selects "DeltaPressModel" ({ cls := "DeltaPressModel", name := "change", desc := "(II)V" } : MethodName) ({ cls := "DeltaPressModel", name := "change", desc := "(II)V" } : MethodName) ∈ wz := List.mem_filter.mpr ⟨(List.mem_append_right _ (List.mem_append_right _ (List.mem_append_right _ (List.mem_of_getElem? (i := 80) rfl)))), by decide +kernel⟩
set_option maxRecDepth 20000 in
theorem zw_561 : Cond.code ({ cls := "DeltaPressModel", name := "change", desc := "(II)V" } : MethodName) prog_6_method_6_code (3 : Nat) (Option.none : Option ClassFile.FieldType) ∈ wz := List.mem_filter.mpr ⟨(List.mem_append_right _ (List.mem_append_right _ (List.mem_append_right _ (List.mem_of_getElem? (i := 81) rfl)))), by decide +kernel⟩
set_option maxRecDepth 20000 in
theorem zw_562 : Cond.methodLink "DeltaPressLaw" (67 : Nat) ({ cls := "DeltaPressModel", name := "base", desc := "()I" } : MethodName) ∈ wz := List.mem_filter.mpr ⟨(List.mem_append_right _ (List.mem_append_right _ (List.mem_append_right _ (List.mem_of_getElem? (i := 82) rfl)))), by decide +kernel⟩
set_option maxRecDepth 20000 in
theorem zw_563 : Cond.instanceMethod ({ cls := "DeltaPressModel", name := "base", desc := "()I" } : MethodName) ∈ wz := List.mem_filter.mpr ⟨(List.mem_append_right _ (List.mem_append_right _ (List.mem_append_right _ (List.mem_of_getElem? (i := 83) rfl)))), by decide +kernel⟩
set_option maxRecDepth 20000 in
theorem zw_564 : Cond.selects "DeltaPressModel" ({ cls := "DeltaPressModel", name := "base", desc := "()I" } : MethodName) ({ cls := "DeltaPressModel", name := "base", desc := "()I" } : MethodName) ∈ wz := List.mem_filter.mpr ⟨(List.mem_append_right _ (List.mem_append_right _ (List.mem_append_right _ (List.mem_of_getElem? (i := 84) rfl)))), by decide +kernel⟩
set_option maxRecDepth 20000 in
theorem zw_565 : Cond.code ({ cls := "DeltaPressModel", name := "base", desc := "()I" } : MethodName) prog_6_method_7_code (2 : Nat) (Option.some ClassFile.FieldType.int) ∈ wz := List.mem_filter.mpr ⟨(List.mem_append_right _ (List.mem_append_right _ (List.mem_append_right _ (List.mem_of_getElem? (i := 85) rfl)))), by decide +kernel⟩
set_option maxRecDepth 20000 in
theorem zw_566 : Cond.methodLink "DeltaPressLaw" (71 : Nat) ({ cls := "DeltaPressModel", name := "make", desc := "()I" } : MethodName) ∈ wz := List.mem_filter.mpr ⟨(List.mem_append_right _ (List.mem_append_right _ (List.mem_append_right _ (List.mem_of_getElem? (i := 86) rfl)))), by decide +kernel⟩
set_option maxRecDepth 20000 in
theorem zw_567 : Cond.instanceMethod ({ cls := "DeltaPressModel", name := "make", desc := "()I" } : MethodName) ∈ wz := List.mem_filter.mpr ⟨(List.mem_append_right _ (List.mem_append_right _ (List.mem_append_right _ (List.mem_of_getElem? (i := 87) rfl)))), by decide +kernel⟩
set_option maxRecDepth 20000 in
theorem zw_568 : Cond.selects "DeltaPressModel" ({ cls := "DeltaPressModel", name := "make", desc := "()I" } : MethodName) ({ cls := "DeltaPressModel", name := "make", desc := "()I" } : MethodName) ∈ wz := List.mem_filter.mpr ⟨(List.mem_append_right _ (List.mem_append_right _ (List.mem_append_right _ (List.mem_of_getElem? (i := 88) rfl)))), by decide +kernel⟩
set_option maxRecDepth 20000 in
theorem zw_569 : Cond.code ({ cls := "DeltaPressModel", name := "make", desc := "()I" } : MethodName) prog_6_method_13_code (3 : Nat) (Option.some ClassFile.FieldType.int) ∈ wz := List.mem_filter.mpr ⟨(List.mem_append_right _ (List.mem_append_right _ (List.mem_append_right _ (List.mem_of_getElem? (i := 89) rfl)))), by decide +kernel⟩
set_option maxRecDepth 20000 in
theorem zw_570 : Cond.methodLink "DeltaPressModel" (58 : Nat) ({ cls := "DeltaPressModel", name := "putNumber", desc := "(I)V" } : MethodName) ∈ wz := List.mem_filter.mpr ⟨(List.mem_append_right _ (List.mem_append_right _ (List.mem_append_right _ (List.mem_of_getElem? (i := 90) rfl)))), by decide +kernel⟩
set_option maxRecDepth 20000 in
theorem zw_572 : Cond.instanceMethod ({ cls := "DeltaPressModel", name := "putNumber", desc := "(I)V" } : MethodName) ∈ wz := List.mem_filter.mpr ⟨(List.mem_append_right _ (List.mem_append_right _ (List.mem_append_right _ (List.mem_of_getElem? (i := 92) rfl)))), by decide +kernel⟩
set_option maxRecDepth 20000 in
theorem zw_573 : Cond.code ({ cls := "DeltaPressModel", name := "putNumber", desc := "(I)V" } : MethodName) prog_6_method_10_code (3 : Nat) (Option.none : Option ClassFile.FieldType) ∈ wz := List.mem_filter.mpr ⟨(List.mem_append_right _ (List.mem_append_right _ (List.mem_append_right _ (List.mem_of_getElem? (i := 93) rfl)))), by decide +kernel⟩
set_option maxRecDepth 20000 in
theorem zw_574 : Cond.methodLink "DeltaPressModel" (48 : Nat) ({ cls := "DeltaPressModel", name := "put", desc := "(I)V" } : MethodName) ∈ wz := List.mem_filter.mpr ⟨(List.mem_append_right _ (List.mem_append_right _ (List.mem_append_right _ (List.mem_of_getElem? (i := 94) rfl)))), by decide +kernel⟩
set_option maxRecDepth 20000 in
theorem zw_576 : Cond.instanceMethod ({ cls := "DeltaPressModel", name := "put", desc := "(I)V" } : MethodName) ∈ wz := List.mem_filter.mpr ⟨(List.mem_append_right _ (List.mem_append_right _ (List.mem_append_right _ (List.mem_of_getElem? (i := 96) rfl)))), by decide +kernel⟩
set_option maxRecDepth 20000 in
theorem zw_577 : Cond.code ({ cls := "DeltaPressModel", name := "put", desc := "(I)V" } : MethodName) prog_6_method_9_code (2 : Nat) (Option.none : Option ClassFile.FieldType) ∈ wz := List.mem_filter.mpr ⟨(List.mem_append_right _ (List.mem_append_right _ (List.mem_append_right _ (List.mem_of_getElem? (i := 97) rfl)))), by decide +kernel⟩
set_option maxRecDepth 20000 in
theorem zw_578 : Cond.methodLink "DeltaPressModel" (61 : Nat) ({ cls := "DeltaPressModel", name := "look", desc := "(I)V" } : MethodName) ∈ wz := List.mem_filter.mpr ⟨(List.mem_append_right _ (List.mem_append_right _ (List.mem_append_right _ (List.mem_of_getElem? (i := 98) rfl)))), by decide +kernel⟩
set_option maxRecDepth 20000 in
theorem zw_580 : Cond.instanceMethod ({ cls := "DeltaPressModel", name := "look", desc := "(I)V" } : MethodName) ∈ wz := List.mem_filter.mpr ⟨(List.mem_append_right _ (List.mem_append_right _ (List.mem_append_right _ (List.mem_of_getElem? (i := 100) rfl)))), by decide +kernel⟩
set_option maxRecDepth 20000 in
theorem zw_581 : Cond.code ({ cls := "DeltaPressModel", name := "look", desc := "(I)V" } : MethodName) prog_6_method_8_code (4 : Nat) (Option.none : Option ClassFile.FieldType) ∈ wz := List.mem_filter.mpr ⟨(List.mem_append_right _ (List.mem_append_right _ (List.mem_append_right _ (List.mem_of_getElem? (i := 101) rfl)))), by decide +kernel⟩
set_option maxRecDepth 20000 in
theorem zw_582 : Cond.constant "DeltaPressModel" (44 : Nat) (65535 : Int32) ∈ wz := List.mem_filter.mpr ⟨(List.mem_append_right _ (List.mem_append_right _ (List.mem_append_right _ (List.mem_of_getElem? (i := 102) rfl)))), by decide +kernel⟩
set_option maxRecDepth 20000 in
theorem zw_583 : Cond.methodLink "DeltaPressModel" (64 : Nat) ({ cls := "DeltaPressModel", name := "putFresh", desc := "(II)V" } : MethodName) ∈ wz := List.mem_filter.mpr ⟨(List.mem_append_right _ (List.mem_append_right _ (List.mem_append_right _ (List.mem_of_getElem? (i := 103) rfl)))), by decide +kernel⟩
set_option maxRecDepth 20000 in
theorem zw_585 : Cond.instanceMethod ({ cls := "DeltaPressModel", name := "putFresh", desc := "(II)V" } : MethodName) ∈ wz := List.mem_filter.mpr ⟨(List.mem_append_right _ (List.mem_append_right _ (List.mem_append_right _ (List.mem_of_getElem? (i := 105) rfl)))), by decide +kernel⟩
set_option maxRecDepth 20000 in
theorem zw_586 : Cond.code ({ cls := "DeltaPressModel", name := "putFresh", desc := "(II)V" } : MethodName) prog_6_method_12_code (6 : Nat) (Option.none : Option ClassFile.FieldType) ∈ wz := List.mem_filter.mpr ⟨(List.mem_append_right _ (List.mem_append_right _ (List.mem_append_right _ (List.mem_of_getElem? (i := 106) rfl)))), by decide +kernel⟩
set_option maxRecDepth 20000 in
theorem zw_587 : Cond.methodLink "DeltaPressModel" (68 : Nat) ({ cls := "DeltaPressModel", name := "putCopy", desc := "()V" } : MethodName) ∈ wz := List.mem_filter.mpr ⟨(List.mem_append_right _ (List.mem_append_right _ (List.mem_append_right _ (List.mem_of_getElem? (i := 107) rfl)))), by decide +kernel⟩
set_option maxRecDepth 20000 in
theorem zw_589 : Cond.instanceMethod ({ cls := "DeltaPressModel", name := "putCopy", desc := "()V" } : MethodName) ∈ wz := List.mem_filter.mpr ⟨(List.mem_append_right _ (List.mem_append_right _ (List.mem_append_right _ (List.mem_of_getElem? (i := 109) rfl)))), by decide +kernel⟩
set_option maxRecDepth 20000 in
theorem zw_590 : Cond.code ({ cls := "DeltaPressModel", name := "putCopy", desc := "()V" } : MethodName) prog_6_method_11_code (3 : Nat) (Option.none : Option ClassFile.FieldType) ∈ wz := List.mem_filter.mpr ⟨(List.mem_append_right _ (List.mem_append_right _ (List.mem_append_right _ (List.mem_of_getElem? (i := 110) rfl)))), by decide +kernel⟩
set_option maxRecDepth 20000 in
theorem zw_591 : Cond.methodLink "DeltaPressLaw" (75 : Nat) ({ cls := "DeltaPressModel", name := "use", desc := "()I" } : MethodName) ∈ wz := List.mem_filter.mpr ⟨(List.mem_append_right _ (List.mem_append_right _ (List.mem_append_right _ (List.mem_of_getElem? (i := 111) rfl)))), by decide +kernel⟩
set_option maxRecDepth 20000 in
theorem zw_592 : Cond.instanceMethod ({ cls := "DeltaPressModel", name := "use", desc := "()I" } : MethodName) ∈ wz := List.mem_filter.mpr ⟨(List.mem_append_right _ (List.mem_append_right _ (List.mem_append_right _ (List.mem_of_getElem? (i := 112) rfl)))), by decide +kernel⟩
set_option maxRecDepth 20000 in
theorem zw_593 : Cond.selects "DeltaPressModel" ({ cls := "DeltaPressModel", name := "use", desc := "()I" } : MethodName) ({ cls := "DeltaPressModel", name := "use", desc := "()I" } : MethodName) ∈ wz := List.mem_filter.mpr ⟨(List.mem_append_right _ (List.mem_append_right _ (List.mem_append_right _ (List.mem_of_getElem? (i := 113) rfl)))), by decide +kernel⟩
set_option maxRecDepth 20000 in
theorem zw_594 : Cond.code ({ cls := "DeltaPressModel", name := "use", desc := "()I" } : MethodName) prog_6_method_18_code (4 : Nat) (Option.some ClassFile.FieldType.int) ∈ wz := List.mem_filter.mpr ⟨(List.mem_append_right _ (List.mem_append_right _ (List.mem_append_right _ (List.mem_of_getElem? (i := 114) rfl)))), by decide +kernel⟩
set_option maxRecDepth 20000 in
theorem zw_595 : Cond.methodLink "DeltaPressModel" (89 : Nat) ({ cls := "DeltaPressModel", name := "number", desc := "()I" } : MethodName) ∈ wz := List.mem_filter.mpr ⟨(List.mem_append_right _ (List.mem_append_right _ (List.mem_append_right _ (List.mem_of_getElem? (i := 115) rfl)))), by decide +kernel⟩
set_option maxRecDepth 20000 in
theorem zw_597 : Cond.instanceMethod ({ cls := "DeltaPressModel", name := "number", desc := "()I" } : MethodName) ∈ wz := List.mem_filter.mpr ⟨(List.mem_append_right _ (List.mem_append_right _ (List.mem_append_right _ (List.mem_of_getElem? (i := 117) rfl)))), by decide +kernel⟩
set_option maxRecDepth 20000 in
theorem zw_598 : Cond.code ({ cls := "DeltaPressModel", name := "number", desc := "()I" } : MethodName) prog_6_method_15_code (4 : Nat) (Option.some ClassFile.FieldType.int) ∈ wz := List.mem_filter.mpr ⟨(List.mem_append_right _ (List.mem_append_right _ (List.mem_append_right _ (List.mem_of_getElem? (i := 118) rfl)))), by decide +kernel⟩
set_option maxRecDepth 20000 in
theorem zw_599 : Cond.methodLink "DeltaPressModel" (78 : Nat) ({ cls := "DeltaPressModel", name := "next", desc := "()I" } : MethodName) ∈ wz := List.mem_filter.mpr ⟨(List.mem_append_right _ (List.mem_append_right _ (List.mem_append_right _ (List.mem_of_getElem? (i := 119) rfl)))), by decide +kernel⟩
set_option maxRecDepth 20000 in
theorem zw_601 : Cond.instanceMethod ({ cls := "DeltaPressModel", name := "next", desc := "()I" } : MethodName) ∈ wz := List.mem_filter.mpr ⟨(List.mem_append_right _ (List.mem_append_right _ (List.mem_append_right _ (List.mem_of_getElem? (i := 121) rfl)))), by decide +kernel⟩
set_option maxRecDepth 20000 in
theorem zw_602 : Cond.code ({ cls := "DeltaPressModel", name := "next", desc := "()I" } : MethodName) prog_6_method_14_code (1 : Nat) (Option.some ClassFile.FieldType.int) ∈ wz := List.mem_filter.mpr ⟨(List.mem_append_right _ (List.mem_append_right _ (List.mem_append_right _ (List.mem_of_getElem? (i := 122) rfl)))), by decide +kernel⟩
set_option maxRecDepth 20000 in
theorem zw_603 : Cond.methodLink "DeltaPressModel" (92 : Nat) ({ cls := "DeltaPressModel", name := "part", desc := "(I)V" } : MethodName) ∈ wz := List.mem_filter.mpr ⟨(List.mem_append_right _ (List.mem_append_right _ (List.mem_append_right _ (List.mem_of_getElem? (i := 123) rfl)))), by decide +kernel⟩
set_option maxRecDepth 20000 in
theorem zw_605 : Cond.instanceMethod ({ cls := "DeltaPressModel", name := "part", desc := "(I)V" } : MethodName) ∈ wz := List.mem_filter.mpr ⟨(List.mem_append_right _ (List.mem_append_right _ (List.mem_append_right _ (List.mem_of_getElem? (i := 125) rfl)))), by decide +kernel⟩
set_option maxRecDepth 20000 in
theorem zw_606 : Cond.code ({ cls := "DeltaPressModel", name := "part", desc := "(I)V" } : MethodName) prog_6_method_17_code (7 : Nat) (Option.none : Option ClassFile.FieldType) ∈ wz := List.mem_filter.mpr ⟨(List.mem_append_right _ (List.mem_append_right _ (List.mem_append_right _ (List.mem_of_getElem? (i := 126) rfl)))), by decide +kernel⟩
set_option maxRecDepth 20000 in
theorem zw_607 : Cond.methodLink "DeltaPressModel" (85 : Nat) ({ cls := "DeltaPressModel", name := "give", desc := "(BI)V" } : MethodName) ∈ wz := List.mem_filter.mpr ⟨(List.mem_append_right _ (List.mem_append_right _ (List.mem_append_right _ (List.mem_of_getElem? (i := 127) rfl)))), by decide +kernel⟩
set_option maxRecDepth 20000 in
theorem zw_609 : Cond.instanceMethod ({ cls := "DeltaPressModel", name := "give", desc := "(BI)V" } : MethodName) ∈ wz := List.mem_filter.mpr ⟨(List.mem_append_right _ (List.mem_append_right _ (List.mem_append_right _ (List.mem_of_getElem? (i := 129) rfl)))), by decide +kernel⟩
set_option maxRecDepth 20000 in
theorem zw_610 : Cond.code ({ cls := "DeltaPressModel", name := "give", desc := "(BI)V" } : MethodName) prog_6_method_16_code (3 : Nat) (Option.none : Option ClassFile.FieldType) ∈ wz := List.mem_filter.mpr ⟨(List.mem_append_right _ (List.mem_append_right _ (List.mem_append_right _ (List.mem_of_getElem? (i := 130) rfl)))), by decide +kernel⟩
set_option maxRecDepth 20000 in
theorem zw_611 : Cond.methodLink "DeltaPressLaw" (78 : Nat) ({ cls := "DeltaPressModel", name := "turn", desc := "()I" } : MethodName) ∈ wz := List.mem_filter.mpr ⟨(List.mem_append_right _ (List.mem_append_right _ (List.mem_append_right _ (List.mem_of_getElem? (i := 131) rfl)))), by decide +kernel⟩
set_option maxRecDepth 20000 in
theorem zw_612 : Cond.instanceMethod ({ cls := "DeltaPressModel", name := "turn", desc := "()I" } : MethodName) ∈ wz := List.mem_filter.mpr ⟨(List.mem_append_right _ (List.mem_append_right _ (List.mem_append_right _ (List.mem_of_getElem? (i := 132) rfl)))), by decide +kernel⟩
set_option maxRecDepth 20000 in
theorem zw_613 : Cond.selects "DeltaPressModel" ({ cls := "DeltaPressModel", name := "turn", desc := "()I" } : MethodName) ({ cls := "DeltaPressModel", name := "turn", desc := "()I" } : MethodName) ∈ wz := List.mem_filter.mpr ⟨(List.mem_append_right _ (List.mem_append_right _ (List.mem_append_right _ (List.mem_of_getElem? (i := 133) rfl)))), by decide +kernel⟩
set_option maxRecDepth 20000 in
theorem zw_614 : Cond.code ({ cls := "DeltaPressModel", name := "turn", desc := "()I" } : MethodName) prog_6_method_19_code (2 : Nat) (Option.some ClassFile.FieldType.int) ∈ wz := List.mem_filter.mpr ⟨(List.mem_append_right _ (List.mem_append_right _ (List.mem_append_right _ (List.mem_of_getElem? (i := 134) rfl)))), by decide +kernel⟩
set_option maxRecDepth 20000 in
theorem zw_615 : Cond.methodLink "DeltaPressLaw" (82 : Nat) ({ cls := "DeltaPressModel", name := "longest", desc := "(II)I" } : MethodName) ∈ wz := List.mem_filter.mpr ⟨(List.mem_append_right _ (List.mem_append_right _ (List.mem_append_right _ (List.mem_of_getElem? (i := 135) rfl)))), by decide +kernel⟩
set_option maxRecDepth 20000 in
theorem zw_616 : Cond.instanceMethod ({ cls := "DeltaPressModel", name := "longest", desc := "(II)I" } : MethodName) ∈ wz := List.mem_filter.mpr ⟨(List.mem_append_right _ (List.mem_append_right _ (List.mem_append_right _ (List.mem_of_getElem? (i := 136) rfl)))), by decide +kernel⟩
set_option maxRecDepth 20000 in
theorem zw_617 : Cond.selects "DeltaPressModel" ({ cls := "DeltaPressModel", name := "longest", desc := "(II)I" } : MethodName) ({ cls := "DeltaPressModel", name := "longest", desc := "(II)I" } : MethodName) ∈ wz := List.mem_filter.mpr ⟨(List.mem_append_right _ (List.mem_append_right _ (List.mem_append_right _ (List.mem_of_getElem? (i := 137) rfl)))), by decide +kernel⟩
set_option maxRecDepth 20000 in
theorem zw_618 : Cond.code ({ cls := "DeltaPressModel", name := "longest", desc := "(II)I" } : MethodName) prog_6_method_20_code (3 : Nat) (Option.some ClassFile.FieldType.int) ∈ wz := List.mem_filter.mpr ⟨(List.mem_append_right _ (List.mem_append_right _ (List.mem_append_right _ (List.mem_of_getElem? (i := 138) rfl)))), by decide +kernel⟩
set_option maxRecDepth 20000 in
theorem zw_619 : Cond.methodLink "DeltaPressLaw" (85 : Nat) ({ cls := "DeltaPressModel", name := "letter", desc := "(I)I" } : MethodName) ∈ wz := List.mem_filter.mpr ⟨(List.mem_append_right _ (List.mem_append_right _ (List.mem_append_right _ (List.mem_of_getElem? (i := 139) rfl)))), by decide +kernel⟩
set_option maxRecDepth 20000 in
theorem zw_620 : Cond.instanceMethod ({ cls := "DeltaPressModel", name := "letter", desc := "(I)I" } : MethodName) ∈ wz := List.mem_filter.mpr ⟨(List.mem_append_right _ (List.mem_append_right _ (List.mem_append_right _ (List.mem_of_getElem? (i := 140) rfl)))), by decide +kernel⟩
set_option maxRecDepth 20000 in
theorem zw_621 : Cond.selects "DeltaPressModel" ({ cls := "DeltaPressModel", name := "letter", desc := "(I)I" } : MethodName) ({ cls := "DeltaPressModel", name := "letter", desc := "(I)I" } : MethodName) ∈ wz := List.mem_filter.mpr ⟨(List.mem_append_right _ (List.mem_append_right _ (List.mem_append_right _ (List.mem_of_getElem? (i := 141) rfl)))), by decide +kernel⟩
set_option maxRecDepth 20000 in
theorem zw_622 : Cond.code ({ cls := "DeltaPressModel", name := "letter", desc := "(I)I" } : MethodName) prog_6_method_21_code (2 : Nat) (Option.some ClassFile.FieldType.int) ∈ wz := List.mem_filter.mpr ⟨(List.mem_append_right _ (List.mem_append_right _ (List.mem_append_right _ (List.mem_of_getElem? (i := 142) rfl)))), by decide +kernel⟩
set_option maxRecDepth 20000 in
theorem zw_623 : Cond.methodLink "DeltaPressLaw" (89 : Nat) ({ cls := "DeltaPressModel", name := "count", desc := "(I)I" } : MethodName) ∈ wz := List.mem_filter.mpr ⟨(List.mem_append_right _ (List.mem_append_right _ (List.mem_append_right _ (List.mem_of_getElem? (i := 143) rfl)))), by decide +kernel⟩
set_option maxRecDepth 20000 in
theorem zw_624 : Cond.instanceMethod ({ cls := "DeltaPressModel", name := "count", desc := "(I)I" } : MethodName) ∈ wz := List.mem_filter.mpr ⟨(List.mem_append_right _ (List.mem_append_right _ (List.mem_append_right _ (List.mem_of_getElem? (i := 144) rfl)))), by decide +kernel⟩
set_option maxRecDepth 20000 in
theorem zw_625 : Cond.selects "DeltaPressModel" ({ cls := "DeltaPressModel", name := "count", desc := "(I)I" } : MethodName) ({ cls := "DeltaPressModel", name := "count", desc := "(I)I" } : MethodName) ∈ wz := List.mem_filter.mpr ⟨(List.mem_append_right _ (List.mem_append_right _ (List.mem_append_right _ (List.mem_of_getElem? (i := 145) rfl)))), by decide +kernel⟩
set_option maxRecDepth 20000 in
theorem zw_626 : Cond.code ({ cls := "DeltaPressModel", name := "count", desc := "(I)I" } : MethodName) prog_6_method_22_code (2 : Nat) (Option.some ClassFile.FieldType.int) ∈ wz := List.mem_filter.mpr ⟨(List.mem_append_right _ (List.mem_append_right _ (List.mem_append_right _ (List.mem_of_getElem? (i := 146) rfl)))), by decide +kernel⟩
set_option maxRecDepth 20000 in
theorem zw_627 : Cond.arrayClass ClassFile.FieldType.long ∈ wz := List.mem_filter.mpr ⟨(List.mem_append_right _ (List.mem_append_right _ (List.mem_append_right _ (List.mem_of_getElem? (i := 147) rfl)))), by decide +kernel⟩
set_option maxRecDepth 20000 in
theorem zw_628 : Cond.sameMethod "java/lang/Throwable" "java/lang/Throwable" "fillInStackTrace" "(I)Ljava/lang/Throwable;" ∈ wz := List.mem_filter.mpr ⟨(List.mem_append_right _ (List.mem_append_right _ (List.mem_append_right _ (List.mem_of_getElem? (i := 148) rfl)))), by decide +kernel⟩
set_option maxRecDepth 20000 in
theorem zs_0 : Cond.selects "DeltaPress" ⟨"DeltaPress", "findLongest", "(I)V"⟩ ⟨"DeltaPress", "findLongest", "(I)V"⟩ ∈ wz := List.mem_filter.mpr ⟨List.mem_append_left _ (List.mem_of_getElem? (i := 0) rfl), by decide +kernel⟩
set_option maxRecDepth 20000 in
theorem zs_1 : Cond.selects "DeltaPress$SuffixTree" ⟨"DeltaPress$SuffixTree", "emptySlots", "()V"⟩ ⟨"DeltaPress$SuffixTree", "emptySlots", "()V"⟩ ∈ wz := List.mem_filter.mpr ⟨List.mem_append_left _ (List.mem_of_getElem? (i := 1) rfl), by decide +kernel⟩
set_option maxRecDepth 20000 in
theorem zs_2 : Cond.selects "DeltaPress$SuffixTree" ⟨"DeltaPress$SuffixTree", "addLetter", "(I)V"⟩ ⟨"DeltaPress$SuffixTree", "addLetter", "(I)V"⟩ ∈ wz := List.mem_filter.mpr ⟨List.mem_append_left _ (List.mem_of_getElem? (i := 2) rfl), by decide +kernel⟩
set_option maxRecDepth 20000 in
theorem zs_3 : Cond.selects "DeltaPress$SuffixTree" ⟨"DeltaPress$SuffixTree", "goDown", "(I)I"⟩ ⟨"DeltaPress$SuffixTree", "goDown", "(I)I"⟩ ∈ wz := List.mem_filter.mpr ⟨List.mem_append_left _ (List.mem_of_getElem? (i := 3) rfl), by decide +kernel⟩
set_option maxRecDepth 20000 in
theorem zs_4 : Cond.selects "DeltaPress$SuffixTree" ⟨"DeltaPress$SuffixTree", "slotOf", "(IB)I"⟩ ⟨"DeltaPress$SuffixTree", "slotOf", "(IB)I"⟩ ∈ wz := List.mem_filter.mpr ⟨List.mem_append_left _ (List.mem_of_getElem? (i := 4) rfl), by decide +kernel⟩
set_option maxRecDepth 20000 in
theorem zs_5 : Cond.selects "DeltaPress$SuffixTree" ⟨"DeltaPress$SuffixTree", "split", "(II)I"⟩ ⟨"DeltaPress$SuffixTree", "split", "(II)I"⟩ ∈ wz := List.mem_filter.mpr ⟨List.mem_append_left _ (List.mem_of_getElem? (i := 5) rfl), by decide +kernel⟩
set_option maxRecDepth 20000 in
theorem zs_6 : Cond.selects "DeltaPress$SuffixTree" ⟨"DeltaPress$SuffixTree", "addNode", "(III)I"⟩ ⟨"DeltaPress$SuffixTree", "addNode", "(III)I"⟩ ∈ wz := List.mem_filter.mpr ⟨List.mem_append_left _ (List.mem_of_getElem? (i := 6) rfl), by decide +kernel⟩
set_option maxRecDepth 20000 in
theorem zs_7 : Cond.selects "DeltaPress$SuffixTree" ⟨"DeltaPress$SuffixTree", "addLeaf", "(II)V"⟩ ⟨"DeltaPress$SuffixTree", "addLeaf", "(II)V"⟩ ∈ wz := List.mem_filter.mpr ⟨List.mem_append_left _ (List.mem_of_getElem? (i := 7) rfl), by decide +kernel⟩
set_option maxRecDepth 20000 in
theorem zs_8 : Cond.selects "DeltaPress$SuffixTree" ⟨"DeltaPress$SuffixTree", "goToNextSuffix", "()V"⟩ ⟨"DeltaPress$SuffixTree", "goToNextSuffix", "()V"⟩ ∈ wz := List.mem_filter.mpr ⟨List.mem_append_left _ (List.mem_of_getElem? (i := 8) rfl), by decide +kernel⟩
set_option maxRecDepth 20000 in
theorem zs_9 : Cond.selects "DeltaPress$SuffixTree" ⟨"DeltaPress$SuffixTree", "sameLetters", "(I[BII)I"⟩ ⟨"DeltaPress$SuffixTree", "sameLetters", "(I[BII)I"⟩ ∈ wz := List.mem_filter.mpr ⟨List.mem_append_left _ (List.mem_of_getElem? (i := 9) rfl), by decide +kernel⟩
set_option maxRecDepth 20000 in
theorem zs_10 : Cond.selects "DeltaPress" ⟨"DeltaPress", "writeNew", "(II)V"⟩ ⟨"DeltaPress", "writeNew", "(II)V"⟩ ∈ wz := List.mem_filter.mpr ⟨List.mem_append_left _ (List.mem_of_getElem? (i := 10) rfl), by decide +kernel⟩
set_option maxRecDepth 20000 in
theorem zs_11 : Cond.selects "DeltaPress" ⟨"DeltaPress", "writeCopy", "(II)V"⟩ ⟨"DeltaPress", "writeCopy", "(II)V"⟩ ∈ wz := List.mem_filter.mpr ⟨List.mem_append_left _ (List.mem_of_getElem? (i := 11) rfl), by decide +kernel⟩
set_option maxRecDepth 20000 in
theorem zs_12 : Cond.selects "java/lang/Throwable" ⟨"java/lang/Throwable", "fillInStackTrace", "(I)Ljava/lang/Throwable;"⟩ ⟨"java/lang/Throwable", "fillInStackTrace", "(I)Ljava/lang/Throwable;"⟩ ∈ wz := List.mem_filter.mpr ⟨List.mem_append_left _ (List.mem_of_getElem? (i := 12) rfl), by decide +kernel⟩
set_option maxRecDepth 20000 in
theorem zs_13 : Cond.selects "DeltaPress$DeltaReader" ⟨"DeltaPress$DeltaReader", "readNumber", "(LDeltaPress$Text;)I"⟩ ⟨"DeltaPress$DeltaReader", "readNumber", "(LDeltaPress$Text;)I"⟩ ∈ wz := List.mem_filter.mpr ⟨List.mem_append_left _ (List.mem_of_getElem? (i := 13) rfl), by decide +kernel⟩
set_option maxRecDepth 20000 in
theorem zs_14 : Cond.selects "DeltaPress$DeltaReader" ⟨"DeltaPress$DeltaReader", "isCopyRead", "(LDeltaPress$Text;ILDeltaPress$Text;LDeltaPress$Text;I)Z"⟩ ⟨"DeltaPress$DeltaReader", "isCopyRead", "(LDeltaPress$Text;ILDeltaPress$Text;LDeltaPress$Text;I)Z"⟩ ∈ wz := List.mem_filter.mpr ⟨List.mem_append_left _ (List.mem_of_getElem? (i := 14) rfl), by decide +kernel⟩
set_option maxRecDepth 20000 in
theorem zs_15 : Cond.selects "DeltaPress$DeltaReader" ⟨"DeltaPress$DeltaReader", "readChosenBytes", "(LDeltaPress$Text;II)I"⟩ ⟨"DeltaPress$DeltaReader", "readChosenBytes", "(LDeltaPress$Text;II)I"⟩ ∈ wz := List.mem_filter.mpr ⟨List.mem_append_left _ (List.mem_of_getElem? (i := 15) rfl), by decide +kernel⟩
set_option maxRecDepth 20000 in
theorem zs_16 : Cond.selects "DeltaPress$DeltaReader" ⟨"DeltaPress$DeltaReader", "isNewRead", "(LDeltaPress$Text;ILDeltaPress$Text;I)Z"⟩ ⟨"DeltaPress$DeltaReader", "isNewRead", "(LDeltaPress$Text;ILDeltaPress$Text;I)Z"⟩ ∈ wz := List.mem_filter.mpr ⟨List.mem_append_left _ (List.mem_of_getElem? (i := 16) rfl), by decide +kernel⟩
set_option maxRecDepth 20000 in
theorem zs_17 : Cond.selects "DeltaPressModel" ⟨"DeltaPressModel", "refuse", "(I)I"⟩ ⟨"DeltaPressModel", "refuse", "(I)I"⟩ ∈ wz := List.mem_filter.mpr ⟨List.mem_append_left _ (List.mem_of_getElem? (i := 17) rfl), by decide +kernel⟩
set_option maxRecDepth 20000 in
theorem zs_18 : Cond.selects "DeltaPressModel" ⟨"DeltaPressModel", "putNumber", "(I)V"⟩ ⟨"DeltaPressModel", "putNumber", "(I)V"⟩ ∈ wz := List.mem_filter.mpr ⟨List.mem_append_left _ (List.mem_of_getElem? (i := 18) rfl), by decide +kernel⟩
set_option maxRecDepth 20000 in
theorem zs_19 : Cond.selects "DeltaPressModel" ⟨"DeltaPressModel", "put", "(I)V"⟩ ⟨"DeltaPressModel", "put", "(I)V"⟩ ∈ wz := List.mem_filter.mpr ⟨List.mem_append_left _ (List.mem_of_getElem? (i := 19) rfl), by decide +kernel⟩
set_option maxRecDepth 20000 in
theorem zs_20 : Cond.selects "DeltaPressModel" ⟨"DeltaPressModel", "look", "(I)V"⟩ ⟨"DeltaPressModel", "look", "(I)V"⟩ ∈ wz := List.mem_filter.mpr ⟨List.mem_append_left _ (List.mem_of_getElem? (i := 20) rfl), by decide +kernel⟩
set_option maxRecDepth 20000 in
theorem zs_21 : Cond.selects "DeltaPressModel" ⟨"DeltaPressModel", "putFresh", "(II)V"⟩ ⟨"DeltaPressModel", "putFresh", "(II)V"⟩ ∈ wz := List.mem_filter.mpr ⟨List.mem_append_left _ (List.mem_of_getElem? (i := 21) rfl), by decide +kernel⟩
set_option maxRecDepth 20000 in
theorem zs_22 : Cond.selects "DeltaPressModel" ⟨"DeltaPressModel", "putCopy", "()V"⟩ ⟨"DeltaPressModel", "putCopy", "()V"⟩ ∈ wz := List.mem_filter.mpr ⟨List.mem_append_left _ (List.mem_of_getElem? (i := 22) rfl), by decide +kernel⟩
set_option maxRecDepth 20000 in
theorem zs_23 : Cond.selects "DeltaPressModel" ⟨"DeltaPressModel", "number", "()I"⟩ ⟨"DeltaPressModel", "number", "()I"⟩ ∈ wz := List.mem_filter.mpr ⟨List.mem_append_left _ (List.mem_of_getElem? (i := 23) rfl), by decide +kernel⟩
set_option maxRecDepth 20000 in
theorem zs_24 : Cond.selects "DeltaPressModel" ⟨"DeltaPressModel", "next", "()I"⟩ ⟨"DeltaPressModel", "next", "()I"⟩ ∈ wz := List.mem_filter.mpr ⟨List.mem_append_left _ (List.mem_of_getElem? (i := 24) rfl), by decide +kernel⟩
set_option maxRecDepth 20000 in
theorem zs_25 : Cond.selects "DeltaPressModel" ⟨"DeltaPressModel", "part", "(I)V"⟩ ⟨"DeltaPressModel", "part", "(I)V"⟩ ∈ wz := List.mem_filter.mpr ⟨List.mem_append_left _ (List.mem_of_getElem? (i := 25) rfl), by decide +kernel⟩
set_option maxRecDepth 20000 in
theorem zs_26 : Cond.selects "DeltaPressModel" ⟨"DeltaPressModel", "give", "(BI)V"⟩ ⟨"DeltaPressModel", "give", "(BI)V"⟩ ∈ wz := List.mem_filter.mpr ⟨List.mem_append_left _ (List.mem_of_getElem? (i := 26) rfl), by decide +kernel⟩
