section
-- ===== PART A: goes FIRST, ahead of the names: the tables' words, and 'selects' of the private methods out of them =====
/-- a private method of a class that the tables say can be made, by its rows of tables_1 -/
def lw_okq (q : MethodName × Nat) : Prop := (q.1.cls ≠ "java/lang/invoke/MethodHandle" ∧ q.1.cls ≠ "java/lang/invoke/VarHandle") ∧ Cond.instantiable q.1.cls q.2 ∈ tables_1 ∧ Cond.privateMethod q.1 ∈ tables_1 ∧ Cond.instanceMethod q.1 ∈ tables_1
theorem lw_p0 : lw_okq (⟨"DeltaPress", "findLongest", "(I)V"⟩, 10) := ⟨⟨by decide +kernel, by decide +kernel⟩, List.mem_of_getElem? (i := 17) (by decide +kernel), List.mem_of_getElem? (i := 161) (by decide +kernel), List.mem_of_getElem? (i := 162) (by decide +kernel)⟩
theorem lw_p1 : lw_okq (⟨"DeltaPress$SuffixTree", "emptySlots", "()V"⟩, 15) := ⟨⟨by decide +kernel, by decide +kernel⟩, List.mem_of_getElem? (i := 41) (by decide +kernel), List.mem_of_getElem? (i := 174) (by decide +kernel), List.mem_of_getElem? (i := 175) (by decide +kernel)⟩
theorem lw_p2 : lw_okq (⟨"DeltaPress$SuffixTree", "addLetter", "(I)V"⟩, 15) := ⟨⟨by decide +kernel, by decide +kernel⟩, List.mem_of_getElem? (i := 41) (by decide +kernel), List.mem_of_getElem? (i := 195) (by decide +kernel), List.mem_of_getElem? (i := 196) (by decide +kernel)⟩
theorem lw_p3 : lw_okq (⟨"DeltaPress$SuffixTree", "goDown", "(I)I"⟩, 15) := ⟨⟨by decide +kernel, by decide +kernel⟩, List.mem_of_getElem? (i := 41) (by decide +kernel), List.mem_of_getElem? (i := 199) (by decide +kernel), List.mem_of_getElem? (i := 200) (by decide +kernel)⟩
theorem lw_p4 : lw_okq (⟨"DeltaPress$SuffixTree", "slotOf", "(IB)I"⟩, 15) := ⟨⟨by decide +kernel, by decide +kernel⟩, List.mem_of_getElem? (i := 41) (by decide +kernel), List.mem_of_getElem? (i := 203) (by decide +kernel), List.mem_of_getElem? (i := 204) (by decide +kernel)⟩
theorem lw_p5 : lw_okq (⟨"DeltaPress$SuffixTree", "split", "(II)I"⟩, 15) := ⟨⟨by decide +kernel, by decide +kernel⟩, List.mem_of_getElem? (i := 41) (by decide +kernel), List.mem_of_getElem? (i := 208) (by decide +kernel), List.mem_of_getElem? (i := 209) (by decide +kernel)⟩
theorem lw_p6 : lw_okq (⟨"DeltaPress$SuffixTree", "addNode", "(III)I"⟩, 15) := ⟨⟨by decide +kernel, by decide +kernel⟩, List.mem_of_getElem? (i := 41) (by decide +kernel), List.mem_of_getElem? (i := 212) (by decide +kernel), List.mem_of_getElem? (i := 213) (by decide +kernel)⟩
theorem lw_p7 : lw_okq (⟨"DeltaPress$SuffixTree", "addLeaf", "(II)V"⟩, 15) := ⟨⟨by decide +kernel, by decide +kernel⟩, List.mem_of_getElem? (i := 41) (by decide +kernel), List.mem_of_getElem? (i := 216) (by decide +kernel), List.mem_of_getElem? (i := 217) (by decide +kernel)⟩
theorem lw_p8 : lw_okq (⟨"DeltaPress$SuffixTree", "goToNextSuffix", "()V"⟩, 15) := ⟨⟨by decide +kernel, by decide +kernel⟩, List.mem_of_getElem? (i := 41) (by decide +kernel), List.mem_of_getElem? (i := 220) (by decide +kernel), List.mem_of_getElem? (i := 221) (by decide +kernel)⟩
theorem lw_p9 : lw_okq (⟨"DeltaPress$SuffixTree", "sameLetters", "(I[BII)I"⟩, 15) := ⟨⟨by decide +kernel, by decide +kernel⟩, List.mem_of_getElem? (i := 41) (by decide +kernel), List.mem_of_getElem? (i := 232) (by decide +kernel), List.mem_of_getElem? (i := 233) (by decide +kernel)⟩
theorem lw_p10 : lw_okq (⟨"DeltaPress", "writeNew", "(II)V"⟩, 10) := ⟨⟨by decide +kernel, by decide +kernel⟩, List.mem_of_getElem? (i := 17) (by decide +kernel), List.mem_of_getElem? (i := 240) (by decide +kernel), List.mem_of_getElem? (i := 241) (by decide +kernel)⟩
theorem lw_p11 : lw_okq (⟨"DeltaPress", "writeCopy", "(II)V"⟩, 10) := ⟨⟨by decide +kernel, by decide +kernel⟩, List.mem_of_getElem? (i := 17) (by decide +kernel), List.mem_of_getElem? (i := 257) (by decide +kernel), List.mem_of_getElem? (i := 258) (by decide +kernel)⟩
theorem lw_p12 : lw_okq (⟨"java/lang/Throwable", "fillInStackTrace", "(I)Ljava/lang/Throwable;"⟩, 6) := ⟨⟨by decide +kernel, by decide +kernel⟩, List.mem_of_getElem? (i := 320) (by decide +kernel), List.mem_of_getElem? (i := 318) (by decide +kernel), List.mem_of_getElem? (i := 319) (by decide +kernel)⟩
theorem lw_p13 : lw_okq (⟨"DeltaPress$DeltaReader", "readNumber", "(LDeltaPress$Text;)I"⟩, 1) := ⟨⟨by decide +kernel, by decide +kernel⟩, List.mem_of_getElem? (i := 96) (by decide +kernel), List.mem_of_getElem? (i := 407) (by decide +kernel), List.mem_of_getElem? (i := 408) (by decide +kernel)⟩
theorem lw_p14 : lw_okq (⟨"DeltaPress$DeltaReader", "isCopyRead", "(LDeltaPress$Text;ILDeltaPress$Text;LDeltaPress$Text;I)Z"⟩, 1) := ⟨⟨by decide +kernel, by decide +kernel⟩, List.mem_of_getElem? (i := 96) (by decide +kernel), List.mem_of_getElem? (i := 417) (by decide +kernel), List.mem_of_getElem? (i := 418) (by decide +kernel)⟩
theorem lw_p15 : lw_okq (⟨"DeltaPress$DeltaReader", "readChosenBytes", "(LDeltaPress$Text;II)I"⟩, 1) := ⟨⟨by decide +kernel, by decide +kernel⟩, List.mem_of_getElem? (i := 96) (by decide +kernel), List.mem_of_getElem? (i := 421) (by decide +kernel), List.mem_of_getElem? (i := 422) (by decide +kernel)⟩
def lw_privs_1 : List (MethodName × Nat) := [(⟨"DeltaPress", "findLongest", "(I)V"⟩, 10), (⟨"DeltaPress$SuffixTree", "emptySlots", "()V"⟩, 15), (⟨"DeltaPress$SuffixTree", "addLetter", "(I)V"⟩, 15), (⟨"DeltaPress$SuffixTree", "goDown", "(I)I"⟩, 15), (⟨"DeltaPress$SuffixTree", "slotOf", "(IB)I"⟩, 15), (⟨"DeltaPress$SuffixTree", "split", "(II)I"⟩, 15), (⟨"DeltaPress$SuffixTree", "addNode", "(III)I"⟩, 15), (⟨"DeltaPress$SuffixTree", "addLeaf", "(II)V"⟩, 15), (⟨"DeltaPress$SuffixTree", "goToNextSuffix", "()V"⟩, 15), (⟨"DeltaPress$SuffixTree", "sameLetters", "(I[BII)I"⟩, 15), (⟨"DeltaPress", "writeNew", "(II)V"⟩, 10), (⟨"DeltaPress", "writeCopy", "(II)V"⟩, 10), (⟨"java/lang/Throwable", "fillInStackTrace", "(I)Ljava/lang/Throwable;"⟩, 6), (⟨"DeltaPress$DeltaReader", "readNumber", "(LDeltaPress$Text;)I"⟩, 1), (⟨"DeltaPress$DeltaReader", "isCopyRead", "(LDeltaPress$Text;ILDeltaPress$Text;LDeltaPress$Text;I)Z"⟩, 1), (⟨"DeltaPress$DeltaReader", "readChosenBytes", "(LDeltaPress$Text;II)I"⟩, 1)]
theorem lw_r1 : ∀ q ∈ lw_privs_1, lw_okq q := List.forall_mem_cons.mpr ⟨lw_p0, List.forall_mem_cons.mpr ⟨lw_p1, List.forall_mem_cons.mpr ⟨lw_p2, List.forall_mem_cons.mpr ⟨lw_p3, List.forall_mem_cons.mpr ⟨lw_p4, List.forall_mem_cons.mpr ⟨lw_p5, List.forall_mem_cons.mpr ⟨lw_p6, List.forall_mem_cons.mpr ⟨lw_p7, List.forall_mem_cons.mpr ⟨lw_p8, List.forall_mem_cons.mpr ⟨lw_p9, List.forall_mem_cons.mpr ⟨lw_p10, List.forall_mem_cons.mpr ⟨lw_p11, List.forall_mem_cons.mpr ⟨lw_p12, List.forall_mem_cons.mpr ⟨lw_p13, List.forall_mem_cons.mpr ⟨lw_p14, List.forall_mem_cons.mpr ⟨lw_p15, fun _ h => absurd h List.not_mem_nil⟩⟩⟩⟩⟩⟩⟩⟩⟩⟩⟩⟩⟩⟩⟩⟩
theorem lw_p16 : lw_okq (⟨"DeltaPress$DeltaReader", "isNewRead", "(LDeltaPress$Text;ILDeltaPress$Text;I)Z"⟩, 1) := ⟨⟨by decide +kernel, by decide +kernel⟩, List.mem_of_getElem? (i := 96) (by decide +kernel), List.mem_of_getElem? (i := 426) (by decide +kernel), List.mem_of_getElem? (i := 427) (by decide +kernel)⟩
theorem lw_p17 : lw_okq (⟨"DeltaPressModel", "refuse", "(I)I"⟩, 16) := ⟨⟨by decide +kernel, by decide +kernel⟩, List.mem_of_getElem? (i := 486) (by decide +kernel), List.mem_of_getElem? (i := 551) (by decide +kernel), List.mem_of_getElem? (i := 552) (by decide +kernel)⟩
theorem lw_p18 : lw_okq (⟨"DeltaPressModel", "putNumber", "(I)V"⟩, 16) := ⟨⟨by decide +kernel, by decide +kernel⟩, List.mem_of_getElem? (i := 486) (by decide +kernel), List.mem_of_getElem? (i := 571) (by decide +kernel), List.mem_of_getElem? (i := 572) (by decide +kernel)⟩
theorem lw_p19 : lw_okq (⟨"DeltaPressModel", "put", "(I)V"⟩, 16) := ⟨⟨by decide +kernel, by decide +kernel⟩, List.mem_of_getElem? (i := 486) (by decide +kernel), List.mem_of_getElem? (i := 575) (by decide +kernel), List.mem_of_getElem? (i := 576) (by decide +kernel)⟩
theorem lw_p20 : lw_okq (⟨"DeltaPressModel", "look", "(I)V"⟩, 16) := ⟨⟨by decide +kernel, by decide +kernel⟩, List.mem_of_getElem? (i := 486) (by decide +kernel), List.mem_of_getElem? (i := 579) (by decide +kernel), List.mem_of_getElem? (i := 580) (by decide +kernel)⟩
theorem lw_p21 : lw_okq (⟨"DeltaPressModel", "putFresh", "(II)V"⟩, 16) := ⟨⟨by decide +kernel, by decide +kernel⟩, List.mem_of_getElem? (i := 486) (by decide +kernel), List.mem_of_getElem? (i := 584) (by decide +kernel), List.mem_of_getElem? (i := 585) (by decide +kernel)⟩
theorem lw_p22 : lw_okq (⟨"DeltaPressModel", "putCopy", "()V"⟩, 16) := ⟨⟨by decide +kernel, by decide +kernel⟩, List.mem_of_getElem? (i := 486) (by decide +kernel), List.mem_of_getElem? (i := 588) (by decide +kernel), List.mem_of_getElem? (i := 589) (by decide +kernel)⟩
theorem lw_p23 : lw_okq (⟨"DeltaPressModel", "number", "()I"⟩, 16) := ⟨⟨by decide +kernel, by decide +kernel⟩, List.mem_of_getElem? (i := 486) (by decide +kernel), List.mem_of_getElem? (i := 596) (by decide +kernel), List.mem_of_getElem? (i := 597) (by decide +kernel)⟩
theorem lw_p24 : lw_okq (⟨"DeltaPressModel", "next", "()I"⟩, 16) := ⟨⟨by decide +kernel, by decide +kernel⟩, List.mem_of_getElem? (i := 486) (by decide +kernel), List.mem_of_getElem? (i := 600) (by decide +kernel), List.mem_of_getElem? (i := 601) (by decide +kernel)⟩
theorem lw_p25 : lw_okq (⟨"DeltaPressModel", "part", "(I)V"⟩, 16) := ⟨⟨by decide +kernel, by decide +kernel⟩, List.mem_of_getElem? (i := 486) (by decide +kernel), List.mem_of_getElem? (i := 604) (by decide +kernel), List.mem_of_getElem? (i := 605) (by decide +kernel)⟩
theorem lw_p26 : lw_okq (⟨"DeltaPressModel", "give", "(BI)V"⟩, 16) := ⟨⟨by decide +kernel, by decide +kernel⟩, List.mem_of_getElem? (i := 486) (by decide +kernel), List.mem_of_getElem? (i := 608) (by decide +kernel), List.mem_of_getElem? (i := 609) (by decide +kernel)⟩
def lw_privs_2 : List (MethodName × Nat) := [(⟨"DeltaPress$DeltaReader", "isNewRead", "(LDeltaPress$Text;ILDeltaPress$Text;I)Z"⟩, 1), (⟨"DeltaPressModel", "refuse", "(I)I"⟩, 16), (⟨"DeltaPressModel", "putNumber", "(I)V"⟩, 16), (⟨"DeltaPressModel", "put", "(I)V"⟩, 16), (⟨"DeltaPressModel", "look", "(I)V"⟩, 16), (⟨"DeltaPressModel", "putFresh", "(II)V"⟩, 16), (⟨"DeltaPressModel", "putCopy", "()V"⟩, 16), (⟨"DeltaPressModel", "number", "()I"⟩, 16), (⟨"DeltaPressModel", "next", "()I"⟩, 16), (⟨"DeltaPressModel", "part", "(I)V"⟩, 16), (⟨"DeltaPressModel", "give", "(BI)V"⟩, 16)]
theorem lw_r2 : ∀ q ∈ lw_privs_2, lw_okq q := List.forall_mem_cons.mpr ⟨lw_p16, List.forall_mem_cons.mpr ⟨lw_p17, List.forall_mem_cons.mpr ⟨lw_p18, List.forall_mem_cons.mpr ⟨lw_p19, List.forall_mem_cons.mpr ⟨lw_p20, List.forall_mem_cons.mpr ⟨lw_p21, List.forall_mem_cons.mpr ⟨lw_p22, List.forall_mem_cons.mpr ⟨lw_p23, List.forall_mem_cons.mpr ⟨lw_p24, List.forall_mem_cons.mpr ⟨lw_p25, List.forall_mem_cons.mpr ⟨lw_p26, fun _ h => absurd h List.not_mem_nil⟩⟩⟩⟩⟩⟩⟩⟩⟩⟩⟩
def lw_privs : List (MethodName × Nat) := lw_privs_1 ++ (lw_privs_2)
def lw_tbl : List Cond := k2_sels lw_privs ++ tables_1
theorem lw_privs_ok : ∀ q ∈ lw_privs, lw_okq q := by
  show ∀ q ∈ lw_privs_1 ++ (lw_privs_2), lw_okq q
  exact List.forall_mem_append.mpr ⟨lw_r1, lw_r2⟩

/-- every word of the tables that may be handed to a callee -/
def wz : List Cond := lw_tbl.filter goodWord
theorem wz_tbl : ∀ w ∈ wz, w ∈ lw_tbl := fun w h => (List.mem_filter.mp h).1
theorem wz_good : GoodIn wz wz := fun w h => ⟨h, good_of_word (List.mem_filter.mp h).2⟩
theorem wz_cons {y : Cond} (hy : y ∈ wz) : GoodIn wz (y :: wz) := fun w h => (List.mem_cons.mp h).elim (fun e => by rw [e]; exact wz_good _ hy) (wz_good w)
theorem wz_V {own : String} {idx : Nat} {C : String} {y : MethodName} {c : ByteArray} {n : Nat} {r : Option FieldType} (h1 : Cond.methodLink own idx y ∈ wz) (h2 : Cond.instanceMethod y ∈ wz) (h3 : Cond.selects C y y ∈ wz) (h4 : Cond.initialized C ∈ wz) (h5 : Cond.code y c n r ∈ wz) : GoodIn wz (wsV own idx C y (.code y c n r :: wz)) := by
  intro w h
  rcases List.mem_append.mp h with h | h
  · simp only [List.mem_cons, List.not_mem_nil, or_false] at h
    rcases h with rfl | rfl | rfl | rfl <;> exact wz_good _ (by assumption)
  · exact wz_cons h5 w h
theorem wz_S {own : String} {idx : Nat} {y : MethodName} {c : ByteArray} {n : Nat} {r : Option FieldType} (h1 : Cond.methodLink own idx y ∈ wz) (h2 : Cond.static y ∈ wz) (h4 : Cond.initialized y.cls ∈ wz) (h5 : Cond.code y c n r ∈ wz) : GoodIn wz (va_wsS own idx y (.code y c n r :: wz)) := by
  intro w h
  rcases List.mem_append.mp h with h | h
  · simp only [List.mem_cons, List.not_mem_nil, or_false] at h
    rcases h with rfl | rfl | rfl <;> exact wz_good _ (by assumption)
  · exact wz_cons h5 w h
set_option maxRecDepth 20000 in
theorem zw_0 : Cond.initialized "DeltaPressLaw" ∈ wz := List.mem_filter.mpr ⟨(List.mem_append_right _ (List.mem_append_left _ (List.mem_of_getElem? (i := 0) rfl))), by decide +kernel⟩
set_option maxRecDepth 20000 in
theorem zw_1 : Cond.initialized "DeltaPress" ∈ wz := List.mem_filter.mpr ⟨(List.mem_append_right _ (List.mem_append_left _ (List.mem_of_getElem? (i := 1) rfl))), by decide +kernel⟩
set_option maxRecDepth 20000 in
theorem zw_2 : Cond.initialized "DeltaPress$Text" ∈ wz := List.mem_filter.mpr ⟨(List.mem_append_right _ (List.mem_append_left _ (List.mem_of_getElem? (i := 2) rfl))), by decide +kernel⟩
set_option maxRecDepth 20000 in
theorem zw_3 : Cond.initialized "DeltaPress$SuffixTree" ∈ wz := List.mem_filter.mpr ⟨(List.mem_append_right _ (List.mem_append_left _ (List.mem_of_getElem? (i := 3) rfl))), by decide +kernel⟩
set_option maxRecDepth 20000 in
theorem zw_4 : Cond.initialized "DeltaPress$DeltaReader" ∈ wz := List.mem_filter.mpr ⟨(List.mem_append_right _ (List.mem_append_left _ (List.mem_of_getElem? (i := 4) rfl))), by decide +kernel⟩
set_option maxRecDepth 20000 in
theorem zw_5 : Cond.initialized "DeltaPressModel" ∈ wz := List.mem_filter.mpr ⟨(List.mem_append_right _ (List.mem_append_left _ (List.mem_of_getElem? (i := 5) rfl))), by decide +kernel⟩
set_option maxRecDepth 20000 in
theorem zw_6 : Cond.initialized "java/lang/Throwable" ∈ wz := List.mem_filter.mpr ⟨(List.mem_append_right _ (List.mem_append_left _ (List.mem_of_getElem? (i := 6) rfl))), by decide +kernel⟩
set_option maxRecDepth 20000 in
theorem zw_7 : Cond.initialized "java/lang/Exception" ∈ wz := List.mem_filter.mpr ⟨(List.mem_append_right _ (List.mem_append_left _ (List.mem_of_getElem? (i := 7) rfl))), by decide +kernel⟩
set_option maxRecDepth 20000 in
theorem zw_8 : Cond.initialized "java/lang/RuntimeException" ∈ wz := List.mem_filter.mpr ⟨(List.mem_append_right _ (List.mem_append_left _ (List.mem_of_getElem? (i := 8) rfl))), by decide +kernel⟩
set_option maxRecDepth 20000 in
theorem zw_9 : Cond.initialized "java/lang/IllegalStateException" ∈ wz := List.mem_filter.mpr ⟨(List.mem_append_right _ (List.mem_append_left _ (List.mem_of_getElem? (i := 9) rfl))), by decide +kernel⟩
set_option maxRecDepth 20000 in
theorem zw_10 : Cond.initialized "java/lang/IllegalArgumentException" ∈ wz := List.mem_filter.mpr ⟨(List.mem_append_right _ (List.mem_append_left _ (List.mem_of_getElem? (i := 10) rfl))), by decide +kernel⟩
set_option maxRecDepth 20000 in
theorem zw_11 : Cond.initialized "java/lang/Math" ∈ wz := List.mem_filter.mpr ⟨(List.mem_append_right _ (List.mem_append_left _ (List.mem_of_getElem? (i := 11) rfl))), by decide +kernel⟩
set_option maxRecDepth 20000 in
theorem zw_12 : Cond.initialized "java/lang/Integer" ∈ wz := List.mem_filter.mpr ⟨(List.mem_append_right _ (List.mem_append_left _ (List.mem_of_getElem? (i := 12) rfl))), by decide +kernel⟩
set_option maxRecDepth 20000 in
theorem zw_13 : Cond.initialized "java/lang/System" ∈ wz := List.mem_filter.mpr ⟨(List.mem_append_right _ (List.mem_append_left _ (List.mem_of_getElem? (i := 13) rfl))), by decide +kernel⟩
set_option maxRecDepth 20000 in
theorem zw_14 : Cond.initialized "java/lang/ArithmeticException" ∈ wz := List.mem_filter.mpr ⟨(List.mem_append_right _ (List.mem_append_left _ (List.mem_of_getElem? (i := 14) rfl))), by decide +kernel⟩
set_option maxRecDepth 20000 in
theorem zw_15 : Cond.initialized "java/lang/IndexOutOfBoundsException" ∈ wz := List.mem_filter.mpr ⟨(List.mem_append_right _ (List.mem_append_left _ (List.mem_of_getElem? (i := 15) rfl))), by decide +kernel⟩
set_option maxRecDepth 20000 in
theorem zw_16 : Cond.classLink "DeltaPressLaw" (8 : Nat) "DeltaPress" ∈ wz := List.mem_filter.mpr ⟨(List.mem_append_right _ (List.mem_append_left _ (List.mem_of_getElem? (i := 16) rfl))), by decide +kernel⟩
set_option maxRecDepth 20000 in
theorem zw_17 : Cond.instantiable "DeltaPress" (10 : Nat) ∈ wz := List.mem_filter.mpr ⟨(List.mem_append_right _ (List.mem_append_left _ (List.mem_of_getElem? (i := 17) rfl))), by decide +kernel⟩
set_option maxRecDepth 20000 in
theorem zw_18 : Cond.methodLink "DeltaPressLaw" (43 : Nat) ({ cls := "DeltaPress", name := "<init>", desc := "()V" } : MethodName) ∈ wz := List.mem_filter.mpr ⟨(List.mem_append_right _ (List.mem_append_left _ (List.mem_of_getElem? (i := 18) rfl))), by decide +kernel⟩
set_option maxRecDepth 20000 in
theorem zw_19 : Cond.instanceMethod ({ cls := "DeltaPress", name := "<init>", desc := "()V" } : MethodName) ∈ wz := List.mem_filter.mpr ⟨(List.mem_append_right _ (List.mem_append_left _ (List.mem_of_getElem? (i := 19) rfl))), by decide +kernel⟩
set_option maxRecDepth 20000 in
theorem zw_20 : Cond.code ({ cls := "DeltaPress", name := "<init>", desc := "()V" } : MethodName) prog_1_method_1_code (1 : Nat) (Option.none : Option ClassFile.FieldType) ∈ wz := List.mem_filter.mpr ⟨(List.mem_append_right _ (List.mem_append_left _ (List.mem_of_getElem? (i := 20) rfl))), by decide +kernel⟩
set_option maxRecDepth 20000 in
theorem zw_21 : Cond.methodLink "DeltaPress" (3 : Nat) ({ cls := "java/lang/Object", name := "<init>", desc := "()V" } : MethodName) ∈ wz := List.mem_filter.mpr ⟨(List.mem_append_right _ (List.mem_append_left _ (List.mem_of_getElem? (i := 21) rfl))), by decide +kernel⟩
set_option maxRecDepth 20000 in
theorem zw_22 : Cond.instanceMethod ({ cls := "java/lang/Object", name := "<init>", desc := "()V" } : MethodName) ∈ wz := List.mem_filter.mpr ⟨(List.mem_append_right _ (List.mem_append_left _ (List.mem_of_getElem? (i := 22) rfl))), by decide +kernel⟩
set_option maxRecDepth 20000 in
theorem zw_23 : Cond.code ({ cls := "java/lang/Object", name := "<init>", desc := "()V" } : MethodName) object_method_1_code (1 : Nat) (Option.none : Option ClassFile.FieldType) ∈ wz := List.mem_filter.mpr ⟨(List.mem_append_right _ (List.mem_append_left _ (List.mem_of_getElem? (i := 23) rfl))), by decide +kernel⟩
set_option maxRecDepth 20000 in
theorem zw_24 : Cond.classLink "DeltaPress" (9 : Nat) "DeltaPress$Text" ∈ wz := List.mem_filter.mpr ⟨(List.mem_append_right _ (List.mem_append_left _ (List.mem_of_getElem? (i := 24) rfl))), by decide +kernel⟩
set_option maxRecDepth 20000 in
theorem zw_25 : Cond.instantiable "DeltaPress$Text" (2 : Nat) ∈ wz := List.mem_filter.mpr ⟨(List.mem_append_right _ (List.mem_append_left _ (List.mem_of_getElem? (i := 25) rfl))), by decide +kernel⟩
set_option maxRecDepth 20000 in
theorem zw_26 : Cond.constant "DeltaPress" (11 : Nat) (65536 : Int32) ∈ wz := List.mem_filter.mpr ⟨(List.mem_append_right _ (List.mem_append_left _ (List.mem_of_getElem? (i := 26) rfl))), by decide +kernel⟩
set_option maxRecDepth 20000 in
theorem zw_27 : Cond.methodLink "DeltaPress" (12 : Nat) ({ cls := "DeltaPress$Text", name := "<init>", desc := "(I)V" } : MethodName) ∈ wz := List.mem_filter.mpr ⟨(List.mem_append_right _ (List.mem_append_left _ (List.mem_of_getElem? (i := 27) rfl))), by decide +kernel⟩
set_option maxRecDepth 20000 in
theorem zw_28 : Cond.instanceMethod ({ cls := "DeltaPress$Text", name := "<init>", desc := "(I)V" } : MethodName) ∈ wz := List.mem_filter.mpr ⟨(List.mem_append_right _ (List.mem_append_left _ (List.mem_of_getElem? (i := 28) rfl))), by decide +kernel⟩
set_option maxRecDepth 20000 in
theorem zw_29 : Cond.code ({ cls := "DeltaPress$Text", name := "<init>", desc := "(I)V" } : MethodName) prog_4_method_1_code (2 : Nat) (Option.none : Option ClassFile.FieldType) ∈ wz := List.mem_filter.mpr ⟨(List.mem_append_right _ (List.mem_append_left _ (List.mem_of_getElem? (i := 29) rfl))), by decide +kernel⟩
set_option maxRecDepth 20000 in
theorem zw_30 : Cond.methodLink "DeltaPress$Text" (1 : Nat) ({ cls := "java/lang/Object", name := "<init>", desc := "()V" } : MethodName) ∈ wz := List.mem_filter.mpr ⟨(List.mem_append_right _ (List.mem_append_left _ (List.mem_of_getElem? (i := 30) rfl))), by decide +kernel⟩
set_option maxRecDepth 20000 in
theorem zw_31 : Cond.fieldLink "DeltaPress$Text" (13 : Nat) "DeltaPress$Text" "bytes" "[B" ∈ wz := List.mem_filter.mpr ⟨(List.mem_append_right _ (List.mem_append_left _ (List.mem_of_getElem? (i := 31) rfl))), by decide +kernel⟩
set_option maxRecDepth 20000 in
theorem zw_32 : Cond.fieldLink "DeltaPress$Text" (7 : Nat) "DeltaPress$Text" "length" "I" ∈ wz := List.mem_filter.mpr ⟨(List.mem_append_right _ (List.mem_append_left _ (List.mem_of_getElem? (i := 32) rfl))), by decide +kernel⟩
set_option maxRecDepth 20000 in
theorem zw_33 : Cond.laysFinal "DeltaPress$Text" "DeltaPress$Text" "bytes" "[B" ∈ wz := List.mem_filter.mpr ⟨(List.mem_append_right _ (List.mem_append_left _ (List.mem_of_getElem? (i := 33) rfl))), by decide +kernel⟩
set_option maxRecDepth 20000 in
theorem zw_34 : Cond.soleField "DeltaPress$Text" "bytes" ∈ wz := List.mem_filter.mpr ⟨(List.mem_append_right _ (List.mem_append_left _ (List.mem_of_getElem? (i := 34) rfl))), by decide +kernel⟩
set_option maxRecDepth 20000 in
theorem zw_35 : Cond.lays "DeltaPress$Text" "DeltaPress$Text" "length" "I" ∈ wz := List.mem_filter.mpr ⟨(List.mem_append_right _ (List.mem_append_left _ (List.mem_of_getElem? (i := 35) rfl))), by decide +kernel⟩
set_option maxRecDepth 20000 in
theorem zw_36 : Cond.soleField "DeltaPress$Text" "length" ∈ wz := List.mem_filter.mpr ⟨(List.mem_append_right _ (List.mem_append_left _ (List.mem_of_getElem? (i := 36) rfl))), by decide +kernel⟩
set_option maxRecDepth 20000 in
theorem zw_37 : Cond.superclass "DeltaPress$Text" "java/lang/Object" ∈ wz := List.mem_filter.mpr ⟨(List.mem_append_right _ (List.mem_append_left _ (List.mem_of_getElem? (i := 37) rfl))), by decide +kernel⟩
set_option maxRecDepth 20000 in
theorem zw_38 : Cond.arrayClass ClassFile.FieldType.byte ∈ wz := List.mem_filter.mpr ⟨(List.mem_append_right _ (List.mem_append_left _ (List.mem_of_getElem? (i := 38) rfl))), by decide +kernel⟩
set_option maxRecDepth 20000 in
theorem zw_39 : Cond.constant "DeltaPress" (22 : Nat) (66059 : Int32) ∈ wz := List.mem_filter.mpr ⟨(List.mem_append_right _ (List.mem_append_left _ (List.mem_of_getElem? (i := 39) rfl))), by decide +kernel⟩
set_option maxRecDepth 20000 in
theorem zw_40 : Cond.classLink "DeltaPress" (29 : Nat) "DeltaPress$SuffixTree" ∈ wz := List.mem_filter.mpr ⟨(List.mem_append_right _ (List.mem_append_left _ (List.mem_of_getElem? (i := 40) rfl))), by decide +kernel⟩
set_option maxRecDepth 20000 in
theorem zw_41 : Cond.instantiable "DeltaPress$SuffixTree" (15 : Nat) ∈ wz := List.mem_filter.mpr ⟨(List.mem_append_right _ (List.mem_append_left _ (List.mem_of_getElem? (i := 41) rfl))), by decide +kernel⟩
set_option maxRecDepth 20000 in
theorem zw_43 : Cond.instanceMethod ({ cls := "DeltaPress$SuffixTree", name := "<init>", desc := "()V" } : MethodName) ∈ wz := List.mem_filter.mpr ⟨(List.mem_append_right _ (List.mem_append_left _ (List.mem_of_getElem? (i := 43) rfl))), by decide +kernel⟩
set_option maxRecDepth 20000 in
theorem zw_44 : Cond.code ({ cls := "DeltaPress$SuffixTree", name := "<init>", desc := "()V" } : MethodName) prog_3_method_1_code (1 : Nat) (Option.none : Option ClassFile.FieldType) ∈ wz := List.mem_filter.mpr ⟨(List.mem_append_right _ (List.mem_append_left _ (List.mem_of_getElem? (i := 44) rfl))), by decide +kernel⟩
set_option maxRecDepth 20000 in
theorem zw_45 : Cond.methodLink "DeltaPress$SuffixTree" (3 : Nat) ({ cls := "java/lang/Object", name := "<init>", desc := "()V" } : MethodName) ∈ wz := List.mem_filter.mpr ⟨(List.mem_append_right _ (List.mem_append_left _ (List.mem_of_getElem? (i := 45) rfl))), by decide +kernel⟩
set_option maxRecDepth 20000 in
theorem zw_46 : Cond.constant "DeltaPress$SuffixTree" (19 : Nat) (131072 : Int32) ∈ wz := List.mem_filter.mpr ⟨(List.mem_append_right _ (List.mem_append_left _ (List.mem_of_getElem? (i := 46) rfl))), by decide +kernel⟩
set_option maxRecDepth 20000 in
theorem zw_47 : Cond.constant "DeltaPress$SuffixTree" (36 : Nat) (262144 : Int32) ∈ wz := List.mem_filter.mpr ⟨(List.mem_append_right _ (List.mem_append_left _ (List.mem_of_getElem? (i := 47) rfl))), by decide +kernel⟩
set_option maxRecDepth 20000 in
theorem zw_48 : Cond.fieldLink "DeltaPress$SuffixTree" (9 : Nat) "DeltaPress$SuffixTree" "text" "[B" ∈ wz := List.mem_filter.mpr ⟨(List.mem_append_right _ (List.mem_append_left _ (List.mem_of_getElem? (i := 48) rfl))), by decide +kernel⟩
set_option maxRecDepth 20000 in
theorem zw_49 : Cond.fieldLink "DeltaPress$SuffixTree" (15 : Nat) "DeltaPress$SuffixTree" "length" "I" ∈ wz := List.mem_filter.mpr ⟨(List.mem_append_right _ (List.mem_append_left _ (List.mem_of_getElem? (i := 49) rfl))), by decide +kernel⟩
set_option maxRecDepth 20000 in
theorem zw_50 : Cond.fieldLink "DeltaPress$SuffixTree" (20 : Nat) "DeltaPress$SuffixTree" "start" "[I" ∈ wz := List.mem_filter.mpr ⟨(List.mem_append_right _ (List.mem_append_left _ (List.mem_of_getElem? (i := 50) rfl))), by decide +kernel⟩
set_option maxRecDepth 20000 in
theorem zw_51 : Cond.fieldLink "DeltaPress$SuffixTree" (24 : Nat) "DeltaPress$SuffixTree" "end" "[I" ∈ wz := List.mem_filter.mpr ⟨(List.mem_append_right _ (List.mem_append_left _ (List.mem_of_getElem? (i := 51) rfl))), by decide +kernel⟩
set_option maxRecDepth 20000 in
theorem zw_52 : Cond.fieldLink "DeltaPress$SuffixTree" (27 : Nat) "DeltaPress$SuffixTree" "parent" "[I" ∈ wz := List.mem_filter.mpr ⟨(List.mem_append_right _ (List.mem_append_left _ (List.mem_of_getElem? (i := 52) rfl))), by decide +kernel⟩
set_option maxRecDepth 20000 in
theorem zw_53 : Cond.fieldLink "DeltaPress$SuffixTree" (30 : Nat) "DeltaPress$SuffixTree" "link" "[I" ∈ wz := List.mem_filter.mpr ⟨(List.mem_append_right _ (List.mem_append_left _ (List.mem_of_getElem? (i := 53) rfl))), by decide +kernel⟩
set_option maxRecDepth 20000 in
theorem zw_54 : Cond.fieldLink "DeltaPress$SuffixTree" (33 : Nat) "DeltaPress$SuffixTree" "nodes" "I" ∈ wz := List.mem_filter.mpr ⟨(List.mem_append_right _ (List.mem_append_left _ (List.mem_of_getElem? (i := 54) rfl))), by decide +kernel⟩
set_option maxRecDepth 20000 in
theorem zw_55 : Cond.fieldLink "DeltaPress$SuffixTree" (37 : Nat) "DeltaPress$SuffixTree" "slots" "[I" ∈ wz := List.mem_filter.mpr ⟨(List.mem_append_right _ (List.mem_append_left _ (List.mem_of_getElem? (i := 55) rfl))), by decide +kernel⟩
set_option maxRecDepth 20000 in
theorem zw_56 : Cond.fieldLink "DeltaPress$SuffixTree" (40 : Nat) "DeltaPress$SuffixTree" "slotsUsed" "I" ∈ wz := List.mem_filter.mpr ⟨(List.mem_append_right _ (List.mem_append_left _ (List.mem_of_getElem? (i := 56) rfl))), by decide +kernel⟩
set_option maxRecDepth 20000 in
theorem zw_57 : Cond.fieldLink "DeltaPress$SuffixTree" (43 : Nat) "DeltaPress$SuffixTree" "slotShift" "I" ∈ wz := List.mem_filter.mpr ⟨(List.mem_append_right _ (List.mem_append_left _ (List.mem_of_getElem? (i := 57) rfl))), by decide +kernel⟩
set_option maxRecDepth 20000 in
theorem zw_58 : Cond.fieldLink "DeltaPress$SuffixTree" (46 : Nat) "DeltaPress$SuffixTree" "activeNode" "I" ∈ wz := List.mem_filter.mpr ⟨(List.mem_append_right _ (List.mem_append_left _ (List.mem_of_getElem? (i := 58) rfl))), by decide +kernel⟩
set_option maxRecDepth 20000 in
theorem zw_59 : Cond.fieldLink "DeltaPress$SuffixTree" (49 : Nat) "DeltaPress$SuffixTree" "activeLength" "I" ∈ wz := List.mem_filter.mpr ⟨(List.mem_append_right _ (List.mem_append_left _ (List.mem_of_getElem? (i := 59) rfl))), by decide +kernel⟩
set_option maxRecDepth 20000 in
theorem zw_60 : Cond.fieldLink "DeltaPress$SuffixTree" (52 : Nat) "DeltaPress$SuffixTree" "waiting" "I" ∈ wz := List.mem_filter.mpr ⟨(List.mem_append_right _ (List.mem_append_left _ (List.mem_of_getElem? (i := 60) rfl))), by decide +kernel⟩
set_option maxRecDepth 20000 in
theorem zw_61 : Cond.fieldLink "DeltaPress$SuffixTree" (55 : Nat) "DeltaPress$SuffixTree" "foundLength" "I" ∈ wz := List.mem_filter.mpr ⟨(List.mem_append_right _ (List.mem_append_left _ (List.mem_of_getElem? (i := 61) rfl))), by decide +kernel⟩
set_option maxRecDepth 20000 in
theorem zw_62 : Cond.fieldLink "DeltaPress$SuffixTree" (58 : Nat) "DeltaPress$SuffixTree" "foundPlace" "I" ∈ wz := List.mem_filter.mpr ⟨(List.mem_append_right _ (List.mem_append_left _ (List.mem_of_getElem? (i := 62) rfl))), by decide +kernel⟩
set_option maxRecDepth 20000 in
theorem zw_63 : Cond.lays "DeltaPress$SuffixTree" "DeltaPress$SuffixTree" "text" "[B" ∈ wz := List.mem_filter.mpr ⟨(List.mem_append_right _ (List.mem_append_left _ (List.mem_of_getElem? (i := 63) rfl))), by decide +kernel⟩
set_option maxRecDepth 20000 in
theorem zw_64 : Cond.soleField "DeltaPress$SuffixTree" "text" ∈ wz := List.mem_filter.mpr ⟨(List.mem_append_right _ (List.mem_append_left _ (List.mem_of_getElem? (i := 64) rfl))), by decide +kernel⟩
set_option maxRecDepth 20000 in
theorem zw_65 : Cond.lays "DeltaPress$SuffixTree" "DeltaPress$SuffixTree" "length" "I" ∈ wz := List.mem_filter.mpr ⟨(List.mem_append_right _ (List.mem_append_left _ (List.mem_of_getElem? (i := 65) rfl))), by decide +kernel⟩
set_option maxRecDepth 20000 in
theorem zw_66 : Cond.soleField "DeltaPress$SuffixTree" "length" ∈ wz := List.mem_filter.mpr ⟨(List.mem_append_right _ (List.mem_append_left _ (List.mem_of_getElem? (i := 66) rfl))), by decide +kernel⟩
set_option maxRecDepth 20000 in
theorem zw_67 : Cond.laysFinal "DeltaPress$SuffixTree" "DeltaPress$SuffixTree" "start" "[I" ∈ wz := List.mem_filter.mpr ⟨(List.mem_append_right _ (List.mem_append_left _ (List.mem_of_getElem? (i := 67) rfl))), by decide +kernel⟩
set_option maxRecDepth 20000 in
theorem zw_68 : Cond.soleField "DeltaPress$SuffixTree" "start" ∈ wz := List.mem_filter.mpr ⟨(List.mem_append_right _ (List.mem_append_left _ (List.mem_of_getElem? (i := 68) rfl))), by decide +kernel⟩
set_option maxRecDepth 20000 in
theorem zw_69 : Cond.laysFinal "DeltaPress$SuffixTree" "DeltaPress$SuffixTree" "end" "[I" ∈ wz := List.mem_filter.mpr ⟨(List.mem_append_right _ (List.mem_append_left _ (List.mem_of_getElem? (i := 69) rfl))), by decide +kernel⟩
set_option maxRecDepth 20000 in
theorem zw_70 : Cond.soleField "DeltaPress$SuffixTree" "end" ∈ wz := List.mem_filter.mpr ⟨(List.mem_append_right _ (List.mem_append_left _ (List.mem_of_getElem? (i := 70) rfl))), by decide +kernel⟩
set_option maxRecDepth 20000 in
theorem zw_71 : Cond.laysFinal "DeltaPress$SuffixTree" "DeltaPress$SuffixTree" "parent" "[I" ∈ wz := List.mem_filter.mpr ⟨(List.mem_append_right _ (List.mem_append_left _ (List.mem_of_getElem? (i := 71) rfl))), by decide +kernel⟩
set_option maxRecDepth 20000 in
theorem zw_72 : Cond.soleField "DeltaPress$SuffixTree" "parent" ∈ wz := List.mem_filter.mpr ⟨(List.mem_append_right _ (List.mem_append_left _ (List.mem_of_getElem? (i := 72) rfl))), by decide +kernel⟩
set_option maxRecDepth 20000 in
theorem zw_73 : Cond.laysFinal "DeltaPress$SuffixTree" "DeltaPress$SuffixTree" "link" "[I" ∈ wz := List.mem_filter.mpr ⟨(List.mem_append_right _ (List.mem_append_left _ (List.mem_of_getElem? (i := 73) rfl))), by decide +kernel⟩
set_option maxRecDepth 20000 in
theorem zw_74 : Cond.soleField "DeltaPress$SuffixTree" "link" ∈ wz := List.mem_filter.mpr ⟨(List.mem_append_right _ (List.mem_append_left _ (List.mem_of_getElem? (i := 74) rfl))), by decide +kernel⟩
set_option maxRecDepth 20000 in
theorem zw_75 : Cond.lays "DeltaPress$SuffixTree" "DeltaPress$SuffixTree" "nodes" "I" ∈ wz := List.mem_filter.mpr ⟨(List.mem_append_right _ (List.mem_append_left _ (List.mem_of_getElem? (i := 75) rfl))), by decide +kernel⟩
set_option maxRecDepth 20000 in
theorem zw_76 : Cond.soleField "DeltaPress$SuffixTree" "nodes" ∈ wz := List.mem_filter.mpr ⟨(List.mem_append_right _ (List.mem_append_left _ (List.mem_of_getElem? (i := 76) rfl))), by decide +kernel⟩
set_option maxRecDepth 20000 in
theorem zw_77 : Cond.laysFinal "DeltaPress$SuffixTree" "DeltaPress$SuffixTree" "slots" "[I" ∈ wz := List.mem_filter.mpr ⟨(List.mem_append_right _ (List.mem_append_left _ (List.mem_of_getElem? (i := 77) rfl))), by decide +kernel⟩
set_option maxRecDepth 20000 in
theorem zw_78 : Cond.soleField "DeltaPress$SuffixTree" "slots" ∈ wz := List.mem_filter.mpr ⟨(List.mem_append_right _ (List.mem_append_left _ (List.mem_of_getElem? (i := 78) rfl))), by decide +kernel⟩
set_option maxRecDepth 20000 in
theorem zw_79 : Cond.lays "DeltaPress$SuffixTree" "DeltaPress$SuffixTree" "slotsUsed" "I" ∈ wz := List.mem_filter.mpr ⟨(List.mem_append_right _ (List.mem_append_left _ (List.mem_of_getElem? (i := 79) rfl))), by decide +kernel⟩
set_option maxRecDepth 20000 in
theorem zw_80 : Cond.soleField "DeltaPress$SuffixTree" "slotsUsed" ∈ wz := List.mem_filter.mpr ⟨(List.mem_append_right _ (List.mem_append_left _ (List.mem_of_getElem? (i := 80) rfl))), by decide +kernel⟩
set_option maxRecDepth 20000 in
theorem zw_81 : Cond.lays "DeltaPress$SuffixTree" "DeltaPress$SuffixTree" "slotShift" "I" ∈ wz := List.mem_filter.mpr ⟨(List.mem_append_right _ (List.mem_append_left _ (List.mem_of_getElem? (i := 81) rfl))), by decide +kernel⟩
set_option maxRecDepth 20000 in
theorem zw_82 : Cond.soleField "DeltaPress$SuffixTree" "slotShift" ∈ wz := List.mem_filter.mpr ⟨(List.mem_append_right _ (List.mem_append_left _ (List.mem_of_getElem? (i := 82) rfl))), by decide +kernel⟩
set_option maxRecDepth 20000 in
theorem zw_83 : Cond.lays "DeltaPress$SuffixTree" "DeltaPress$SuffixTree" "activeNode" "I" ∈ wz := List.mem_filter.mpr ⟨(List.mem_append_right _ (List.mem_append_left _ (List.mem_of_getElem? (i := 83) rfl))), by decide +kernel⟩
set_option maxRecDepth 20000 in
theorem zw_84 : Cond.soleField "DeltaPress$SuffixTree" "activeNode" ∈ wz := List.mem_filter.mpr ⟨(List.mem_append_right _ (List.mem_append_left _ (List.mem_of_getElem? (i := 84) rfl))), by decide +kernel⟩
set_option maxRecDepth 20000 in
theorem zw_85 : Cond.lays "DeltaPress$SuffixTree" "DeltaPress$SuffixTree" "activeLength" "I" ∈ wz := List.mem_filter.mpr ⟨(List.mem_append_right _ (List.mem_append_left _ (List.mem_of_getElem? (i := 85) rfl))), by decide +kernel⟩
set_option maxRecDepth 20000 in
theorem zw_86 : Cond.soleField "DeltaPress$SuffixTree" "activeLength" ∈ wz := List.mem_filter.mpr ⟨(List.mem_append_right _ (List.mem_append_left _ (List.mem_of_getElem? (i := 86) rfl))), by decide +kernel⟩
set_option maxRecDepth 20000 in
theorem zw_87 : Cond.lays "DeltaPress$SuffixTree" "DeltaPress$SuffixTree" "waiting" "I" ∈ wz := List.mem_filter.mpr ⟨(List.mem_append_right _ (List.mem_append_left _ (List.mem_of_getElem? (i := 87) rfl))), by decide +kernel⟩
set_option maxRecDepth 20000 in
theorem zw_88 : Cond.soleField "DeltaPress$SuffixTree" "waiting" ∈ wz := List.mem_filter.mpr ⟨(List.mem_append_right _ (List.mem_append_left _ (List.mem_of_getElem? (i := 88) rfl))), by decide +kernel⟩
set_option maxRecDepth 20000 in
theorem zw_89 : Cond.lays "DeltaPress$SuffixTree" "DeltaPress$SuffixTree" "foundLength" "I" ∈ wz := List.mem_filter.mpr ⟨(List.mem_append_right _ (List.mem_append_left _ (List.mem_of_getElem? (i := 89) rfl))), by decide +kernel⟩
set_option maxRecDepth 20000 in
theorem zw_90 : Cond.soleField "DeltaPress$SuffixTree" "foundLength" ∈ wz := List.mem_filter.mpr ⟨(List.mem_append_right _ (List.mem_append_left _ (List.mem_of_getElem? (i := 90) rfl))), by decide +kernel⟩
set_option maxRecDepth 20000 in
theorem zw_91 : Cond.lays "DeltaPress$SuffixTree" "DeltaPress$SuffixTree" "foundPlace" "I" ∈ wz := List.mem_filter.mpr ⟨(List.mem_append_right _ (List.mem_append_left _ (List.mem_of_getElem? (i := 91) rfl))), by decide +kernel⟩
set_option maxRecDepth 20000 in
theorem zw_92 : Cond.soleField "DeltaPress$SuffixTree" "foundPlace" ∈ wz := List.mem_filter.mpr ⟨(List.mem_append_right _ (List.mem_append_left _ (List.mem_of_getElem? (i := 92) rfl))), by decide +kernel⟩
set_option maxRecDepth 20000 in
theorem zw_93 : Cond.superclass "DeltaPress$SuffixTree" "java/lang/Object" ∈ wz := List.mem_filter.mpr ⟨(List.mem_append_right _ (List.mem_append_left _ (List.mem_of_getElem? (i := 93) rfl))), by decide +kernel⟩
set_option maxRecDepth 20000 in
theorem zw_94 : Cond.arrayClass ClassFile.FieldType.int ∈ wz := List.mem_filter.mpr ⟨(List.mem_append_right _ (List.mem_append_left _ (List.mem_of_getElem? (i := 94) rfl))), by decide +kernel⟩
set_option maxRecDepth 20000 in
theorem zw_95 : Cond.classLink "DeltaPress" (40 : Nat) "DeltaPress$DeltaReader" ∈ wz := List.mem_filter.mpr ⟨(List.mem_append_right _ (List.mem_append_left _ (List.mem_of_getElem? (i := 95) rfl))), by decide +kernel⟩
set_option maxRecDepth 20000 in
theorem zw_96 : Cond.instantiable "DeltaPress$DeltaReader" (1 : Nat) ∈ wz := List.mem_filter.mpr ⟨(List.mem_append_right _ (List.mem_append_left _ (List.mem_of_getElem? (i := 96) rfl))), by decide +kernel⟩
set_option maxRecDepth 20000 in
theorem zw_98 : Cond.instanceMethod ({ cls := "DeltaPress$DeltaReader", name := "<init>", desc := "()V" } : MethodName) ∈ wz := List.mem_filter.mpr ⟨(List.mem_append_right _ (List.mem_append_left _ (List.mem_of_getElem? (i := 98) rfl))), by decide +kernel⟩
set_option maxRecDepth 20000 in
theorem zw_99 : Cond.code ({ cls := "DeltaPress$DeltaReader", name := "<init>", desc := "()V" } : MethodName) prog_2_method_1_code (1 : Nat) (Option.none : Option ClassFile.FieldType) ∈ wz := List.mem_filter.mpr ⟨(List.mem_append_right _ (List.mem_append_left _ (List.mem_of_getElem? (i := 99) rfl))), by decide +kernel⟩
set_option maxRecDepth 20000 in
theorem zw_100 : Cond.methodLink "DeltaPress$DeltaReader" (3 : Nat) ({ cls := "java/lang/Object", name := "<init>", desc := "()V" } : MethodName) ∈ wz := List.mem_filter.mpr ⟨(List.mem_append_right _ (List.mem_append_left _ (List.mem_of_getElem? (i := 100) rfl))), by decide +kernel⟩
set_option maxRecDepth 20000 in
theorem zw_101 : Cond.fieldLink "DeltaPress$DeltaReader" (9 : Nat) "DeltaPress$DeltaReader" "place" "I" ∈ wz := List.mem_filter.mpr ⟨(List.mem_append_right _ (List.mem_append_left _ (List.mem_of_getElem? (i := 101) rfl))), by decide +kernel⟩
set_option maxRecDepth 20000 in
theorem zw_102 : Cond.lays "DeltaPress$DeltaReader" "DeltaPress$DeltaReader" "place" "I" ∈ wz := List.mem_filter.mpr ⟨(List.mem_append_right _ (List.mem_append_left _ (List.mem_of_getElem? (i := 102) rfl))), by decide +kernel⟩
set_option maxRecDepth 20000 in
theorem zw_103 : Cond.soleField "DeltaPress$DeltaReader" "place" ∈ wz := List.mem_filter.mpr ⟨(List.mem_append_right _ (List.mem_append_left _ (List.mem_of_getElem? (i := 103) rfl))), by decide +kernel⟩
set_option maxRecDepth 20000 in
theorem zw_104 : Cond.superclass "DeltaPress$DeltaReader" "java/lang/Object" ∈ wz := List.mem_filter.mpr ⟨(List.mem_append_right _ (List.mem_append_left _ (List.mem_of_getElem? (i := 104) rfl))), by decide +kernel⟩
set_option maxRecDepth 20000 in
theorem zw_105 : Cond.fieldLink "DeltaPress" (15 : Nat) "DeltaPress" "input" "LDeltaPress$Text;" ∈ wz := List.mem_filter.mpr ⟨(List.mem_append_right _ (List.mem_append_left _ (List.mem_of_getElem? (i := 105) rfl))), by decide +kernel⟩
set_option maxRecDepth 20000 in
theorem zw_106 : Cond.fieldLink "DeltaPress" (19 : Nat) "DeltaPress" "base" "LDeltaPress$Text;" ∈ wz := List.mem_filter.mpr ⟨(List.mem_append_right _ (List.mem_append_left _ (List.mem_of_getElem? (i := 106) rfl))), by decide +kernel⟩
set_option maxRecDepth 20000 in
theorem zw_107 : Cond.fieldLink "DeltaPress" (23 : Nat) "DeltaPress" "output" "LDeltaPress$Text;" ∈ wz := List.mem_filter.mpr ⟨(List.mem_append_right _ (List.mem_append_left _ (List.mem_of_getElem? (i := 107) rfl))), by decide +kernel⟩
set_option maxRecDepth 20000 in
theorem zw_108 : Cond.fieldLink "DeltaPress" (26 : Nat) "DeltaPress" "spare" "LDeltaPress$Text;" ∈ wz := List.mem_filter.mpr ⟨(List.mem_append_right _ (List.mem_append_left _ (List.mem_of_getElem? (i := 108) rfl))), by decide +kernel⟩
set_option maxRecDepth 20000 in
theorem zw_109 : Cond.fieldLink "DeltaPress" (32 : Nat) "DeltaPress" "tree" "LDeltaPress$SuffixTree;" ∈ wz := List.mem_filter.mpr ⟨(List.mem_append_right _ (List.mem_append_left _ (List.mem_of_getElem? (i := 109) rfl))), by decide +kernel⟩
set_option maxRecDepth 20000 in
theorem zw_110 : Cond.fieldLink "DeltaPress" (36 : Nat) "DeltaPress" "treeIsOfBase" "Z" ∈ wz := List.mem_filter.mpr ⟨(List.mem_append_right _ (List.mem_append_left _ (List.mem_of_getElem? (i := 110) rfl))), by decide +kernel⟩
set_option maxRecDepth 20000 in
theorem zw_111 : Cond.fieldLink "DeltaPress" (43 : Nat) "DeltaPress" "reader" "LDeltaPress$DeltaReader;" ∈ wz := List.mem_filter.mpr ⟨(List.mem_append_right _ (List.mem_append_left _ (List.mem_of_getElem? (i := 111) rfl))), by decide +kernel⟩
set_option maxRecDepth 20000 in
theorem zw_112 : Cond.fieldLink "DeltaPress" (47 : Nat) "DeltaPress" "copiesMade" "I" ∈ wz := List.mem_filter.mpr ⟨(List.mem_append_right _ (List.mem_append_left _ (List.mem_of_getElem? (i := 112) rfl))), by decide +kernel⟩
set_option maxRecDepth 20000 in
theorem zw_113 : Cond.fieldLink "DeltaPress" (51 : Nat) "DeltaPress" "newBytesMade" "I" ∈ wz := List.mem_filter.mpr ⟨(List.mem_append_right _ (List.mem_append_left _ (List.mem_of_getElem? (i := 113) rfl))), by decide +kernel⟩
set_option maxRecDepth 20000 in
theorem zw_114 : Cond.fieldLink "DeltaPress" (54 : Nat) "DeltaPress" "damagedReadings" "I" ∈ wz := List.mem_filter.mpr ⟨(List.mem_append_right _ (List.mem_append_left _ (List.mem_of_getElem? (i := 114) rfl))), by decide +kernel⟩
set_option maxRecDepth 20000 in
theorem zw_115 : Cond.lays "DeltaPress" "DeltaPress" "input" "LDeltaPress$Text;" ∈ wz := List.mem_filter.mpr ⟨(List.mem_append_right _ (List.mem_append_left _ (List.mem_of_getElem? (i := 115) rfl))), by decide +kernel⟩
set_option maxRecDepth 20000 in
theorem zw_116 : Cond.soleField "DeltaPress" "input" ∈ wz := List.mem_filter.mpr ⟨(List.mem_append_right _ (List.mem_append_left _ (List.mem_of_getElem? (i := 116) rfl))), by decide +kernel⟩
set_option maxRecDepth 20000 in
theorem zw_117 : Cond.lays "DeltaPress" "DeltaPress" "base" "LDeltaPress$Text;" ∈ wz := List.mem_filter.mpr ⟨(List.mem_append_right _ (List.mem_append_left _ (List.mem_of_getElem? (i := 117) rfl))), by decide +kernel⟩
set_option maxRecDepth 20000 in
theorem zw_118 : Cond.soleField "DeltaPress" "base" ∈ wz := List.mem_filter.mpr ⟨(List.mem_append_right _ (List.mem_append_left _ (List.mem_of_getElem? (i := 118) rfl))), by decide +kernel⟩
set_option maxRecDepth 20000 in
theorem zw_119 : Cond.lays "DeltaPress" "DeltaPress" "output" "LDeltaPress$Text;" ∈ wz := List.mem_filter.mpr ⟨(List.mem_append_right _ (List.mem_append_left _ (List.mem_of_getElem? (i := 119) rfl))), by decide +kernel⟩
set_option maxRecDepth 20000 in
theorem zw_120 : Cond.soleField "DeltaPress" "output" ∈ wz := List.mem_filter.mpr ⟨(List.mem_append_right _ (List.mem_append_left _ (List.mem_of_getElem? (i := 120) rfl))), by decide +kernel⟩
set_option maxRecDepth 20000 in
theorem zw_121 : Cond.lays "DeltaPress" "DeltaPress" "spare" "LDeltaPress$Text;" ∈ wz := List.mem_filter.mpr ⟨(List.mem_append_right _ (List.mem_append_left _ (List.mem_of_getElem? (i := 121) rfl))), by decide +kernel⟩
set_option maxRecDepth 20000 in
theorem zw_122 : Cond.soleField "DeltaPress" "spare" ∈ wz := List.mem_filter.mpr ⟨(List.mem_append_right _ (List.mem_append_left _ (List.mem_of_getElem? (i := 122) rfl))), by decide +kernel⟩
set_option maxRecDepth 20000 in
theorem zw_123 : Cond.laysFinal "DeltaPress" "DeltaPress" "tree" "LDeltaPress$SuffixTree;" ∈ wz := List.mem_filter.mpr ⟨(List.mem_append_right _ (List.mem_append_left _ (List.mem_of_getElem? (i := 123) rfl))), by decide +kernel⟩
set_option maxRecDepth 20000 in
theorem zw_124 : Cond.soleField "DeltaPress" "tree" ∈ wz := List.mem_filter.mpr ⟨(List.mem_append_right _ (List.mem_append_left _ (List.mem_of_getElem? (i := 124) rfl))), by decide +kernel⟩
set_option maxRecDepth 20000 in
theorem zw_125 : Cond.lays "DeltaPress" "DeltaPress" "treeIsOfBase" "Z" ∈ wz := List.mem_filter.mpr ⟨(List.mem_append_right _ (List.mem_append_left _ (List.mem_of_getElem? (i := 125) rfl))), by decide +kernel⟩
set_option maxRecDepth 20000 in
theorem zw_126 : Cond.soleField "DeltaPress" "treeIsOfBase" ∈ wz := List.mem_filter.mpr ⟨(List.mem_append_right _ (List.mem_append_left _ (List.mem_of_getElem? (i := 126) rfl))), by decide +kernel⟩
set_option maxRecDepth 20000 in
theorem zw_127 : Cond.laysFinal "DeltaPress" "DeltaPress" "reader" "LDeltaPress$DeltaReader;" ∈ wz := List.mem_filter.mpr ⟨(List.mem_append_right _ (List.mem_append_left _ (List.mem_of_getElem? (i := 127) rfl))), by decide +kernel⟩
set_option maxRecDepth 20000 in
theorem zw_128 : Cond.soleField "DeltaPress" "reader" ∈ wz := List.mem_filter.mpr ⟨(List.mem_append_right _ (List.mem_append_left _ (List.mem_of_getElem? (i := 128) rfl))), by decide +kernel⟩
set_option maxRecDepth 20000 in
theorem zw_129 : Cond.lays "DeltaPress" "DeltaPress" "copiesMade" "I" ∈ wz := List.mem_filter.mpr ⟨(List.mem_append_right _ (List.mem_append_left _ (List.mem_of_getElem? (i := 129) rfl))), by decide +kernel⟩
set_option maxRecDepth 20000 in
theorem zw_130 : Cond.soleField "DeltaPress" "copiesMade" ∈ wz := List.mem_filter.mpr ⟨(List.mem_append_right _ (List.mem_append_left _ (List.mem_of_getElem? (i := 130) rfl))), by decide +kernel⟩
set_option maxRecDepth 20000 in
theorem zw_131 : Cond.lays "DeltaPress" "DeltaPress" "newBytesMade" "I" ∈ wz := List.mem_filter.mpr ⟨(List.mem_append_right _ (List.mem_append_left _ (List.mem_of_getElem? (i := 131) rfl))), by decide +kernel⟩
set_option maxRecDepth 20000 in
theorem zw_132 : Cond.soleField "DeltaPress" "newBytesMade" ∈ wz := List.mem_filter.mpr ⟨(List.mem_append_right _ (List.mem_append_left _ (List.mem_of_getElem? (i := 132) rfl))), by decide +kernel⟩
set_option maxRecDepth 20000 in
theorem zw_133 : Cond.lays "DeltaPress" "DeltaPress" "damagedReadings" "I" ∈ wz := List.mem_filter.mpr ⟨(List.mem_append_right _ (List.mem_append_left _ (List.mem_of_getElem? (i := 133) rfl))), by decide +kernel⟩
set_option maxRecDepth 20000 in
theorem zw_134 : Cond.soleField "DeltaPress" "damagedReadings" ∈ wz := List.mem_filter.mpr ⟨(List.mem_append_right _ (List.mem_append_left _ (List.mem_of_getElem? (i := 134) rfl))), by decide +kernel⟩
set_option maxRecDepth 20000 in
theorem zw_135 : Cond.superclass "DeltaPress" "java/lang/Object" ∈ wz := List.mem_filter.mpr ⟨(List.mem_append_right _ (List.mem_append_left _ (List.mem_of_getElem? (i := 135) rfl))), by decide +kernel⟩
set_option maxRecDepth 20000 in
theorem zw_136 : Cond.methodLink "DeltaPressLaw" (64 : Nat) ({ cls := "DeltaPress", name := "base", desc := "()I" } : MethodName) ∈ wz := List.mem_filter.mpr ⟨(List.mem_append_right _ (List.mem_append_left _ (List.mem_of_getElem? (i := 136) rfl))), by decide +kernel⟩
set_option maxRecDepth 20000 in
theorem zw_137 : Cond.instanceMethod ({ cls := "DeltaPress", name := "base", desc := "()I" } : MethodName) ∈ wz := List.mem_filter.mpr ⟨(List.mem_append_right _ (List.mem_append_left _ (List.mem_of_getElem? (i := 137) rfl))), by decide +kernel⟩
set_option maxRecDepth 20000 in
theorem zw_138 : Cond.selects "DeltaPress" ({ cls := "DeltaPress", name := "base", desc := "()I" } : MethodName) ({ cls := "DeltaPress", name := "base", desc := "()I" } : MethodName) ∈ wz := List.mem_filter.mpr ⟨(List.mem_append_right _ (List.mem_append_left _ (List.mem_of_getElem? (i := 138) rfl))), by decide +kernel⟩
set_option maxRecDepth 20000 in
theorem zw_139 : Cond.code ({ cls := "DeltaPress", name := "base", desc := "()I" } : MethodName) prog_1_method_5_code (2 : Nat) (Option.some ClassFile.FieldType.int) ∈ wz := List.mem_filter.mpr ⟨(List.mem_append_right _ (List.mem_append_left _ (List.mem_of_getElem? (i := 139) rfl))), by decide +kernel⟩
set_option maxRecDepth 20000 in
theorem zw_140 : Cond.methodLink "DeltaPress" (77 : Nat) ({ cls := "DeltaPress$Text", name := "cut", desc := "(I)V" } : MethodName) ∈ wz := List.mem_filter.mpr ⟨(List.mem_append_right _ (List.mem_append_left _ (List.mem_of_getElem? (i := 140) rfl))), by decide +kernel⟩
set_option maxRecDepth 20000 in
theorem zw_141 : Cond.instanceMethod ({ cls := "DeltaPress$Text", name := "cut", desc := "(I)V" } : MethodName) ∈ wz := List.mem_filter.mpr ⟨(List.mem_append_right _ (List.mem_append_left _ (List.mem_of_getElem? (i := 141) rfl))), by decide +kernel⟩
set_option maxRecDepth 20000 in
theorem zw_142 : Cond.selects "DeltaPress$Text" ({ cls := "DeltaPress$Text", name := "cut", desc := "(I)V" } : MethodName) ({ cls := "DeltaPress$Text", name := "cut", desc := "(I)V" } : MethodName) ∈ wz := List.mem_filter.mpr ⟨(List.mem_append_right _ (List.mem_append_left _ (List.mem_of_getElem? (i := 142) rfl))), by decide +kernel⟩
set_option maxRecDepth 20000 in
theorem zw_143 : Cond.code ({ cls := "DeltaPress$Text", name := "cut", desc := "(I)V" } : MethodName) prog_4_method_6_code (2 : Nat) (Option.none : Option ClassFile.FieldType) ∈ wz := List.mem_filter.mpr ⟨(List.mem_append_right _ (List.mem_append_left _ (List.mem_of_getElem? (i := 143) rfl))), by decide +kernel⟩
set_option maxRecDepth 20000 in
theorem zw_144 : Cond.methodLink "DeltaPress" (57 : Nat) ({ cls := "DeltaPress$Text", name := "size", desc := "()I" } : MethodName) ∈ wz := List.mem_filter.mpr ⟨(List.mem_append_right _ (List.mem_append_left _ (List.mem_of_getElem? (i := 144) rfl))), by decide +kernel⟩
set_option maxRecDepth 20000 in
theorem zw_145 : Cond.instanceMethod ({ cls := "DeltaPress$Text", name := "size", desc := "()I" } : MethodName) ∈ wz := List.mem_filter.mpr ⟨(List.mem_append_right _ (List.mem_append_left _ (List.mem_of_getElem? (i := 145) rfl))), by decide +kernel⟩
set_option maxRecDepth 20000 in
theorem zw_146 : Cond.selects "DeltaPress$Text" ({ cls := "DeltaPress$Text", name := "size", desc := "()I" } : MethodName) ({ cls := "DeltaPress$Text", name := "size", desc := "()I" } : MethodName) ∈ wz := List.mem_filter.mpr ⟨(List.mem_append_right _ (List.mem_append_left _ (List.mem_of_getElem? (i := 146) rfl))), by decide +kernel⟩
set_option maxRecDepth 20000 in
theorem zw_147 : Cond.code ({ cls := "DeltaPress$Text", name := "size", desc := "()I" } : MethodName) prog_4_method_2_code (1 : Nat) (Option.some ClassFile.FieldType.int) ∈ wz := List.mem_filter.mpr ⟨(List.mem_append_right _ (List.mem_append_left _ (List.mem_of_getElem? (i := 147) rfl))), by decide +kernel⟩
set_option maxRecDepth 20000 in
theorem zw_148 : Cond.methodLink "DeltaPressLaw" (68 : Nat) ({ cls := "DeltaPress", name := "make", desc := "()I" } : MethodName) ∈ wz := List.mem_filter.mpr ⟨(List.mem_append_right _ (List.mem_append_left _ (List.mem_of_getElem? (i := 148) rfl))), by decide +kernel⟩
set_option maxRecDepth 20000 in
theorem zw_149 : Cond.instanceMethod ({ cls := "DeltaPress", name := "make", desc := "()I" } : MethodName) ∈ wz := List.mem_filter.mpr ⟨(List.mem_append_right _ (List.mem_append_left _ (List.mem_of_getElem? (i := 149) rfl))), by decide +kernel⟩
set_option maxRecDepth 20000 in
theorem zw_150 : Cond.selects "DeltaPress" ({ cls := "DeltaPress", name := "make", desc := "()I" } : MethodName) ({ cls := "DeltaPress", name := "make", desc := "()I" } : MethodName) ∈ wz := List.mem_filter.mpr ⟨(List.mem_append_right _ (List.mem_append_left _ (List.mem_of_getElem? (i := 150) rfl))), by decide +kernel⟩
set_option maxRecDepth 20000 in
theorem zw_151 : Cond.code ({ cls := "DeltaPress", name := "make", desc := "()I" } : MethodName) prog_1_method_6_code (4 : Nat) (Option.some ClassFile.FieldType.int) ∈ wz := List.mem_filter.mpr ⟨(List.mem_append_right _ (List.mem_append_left _ (List.mem_of_getElem? (i := 151) rfl))), by decide +kernel⟩
set_option maxRecDepth 20000 in
theorem zw_152 : Cond.methodLink "DeltaPress" (92 : Nat) ({ cls := "DeltaPress$Text", name := "addNumber", desc := "(I)V" } : MethodName) ∈ wz := List.mem_filter.mpr ⟨(List.mem_append_right _ (List.mem_append_left _ (List.mem_of_getElem? (i := 152) rfl))), by decide +kernel⟩
set_option maxRecDepth 20000 in
theorem zw_153 : Cond.instanceMethod ({ cls := "DeltaPress$Text", name := "addNumber", desc := "(I)V" } : MethodName) ∈ wz := List.mem_filter.mpr ⟨(List.mem_append_right _ (List.mem_append_left _ (List.mem_of_getElem? (i := 153) rfl))), by decide +kernel⟩
set_option maxRecDepth 20000 in
theorem zw_154 : Cond.selects "DeltaPress$Text" ({ cls := "DeltaPress$Text", name := "addNumber", desc := "(I)V" } : MethodName) ({ cls := "DeltaPress$Text", name := "addNumber", desc := "(I)V" } : MethodName) ∈ wz := List.mem_filter.mpr ⟨(List.mem_append_right _ (List.mem_append_left _ (List.mem_of_getElem? (i := 154) rfl))), by decide +kernel⟩
set_option maxRecDepth 20000 in
theorem zw_155 : Cond.code ({ cls := "DeltaPress$Text", name := "addNumber", desc := "(I)V" } : MethodName) prog_4_method_10_code (4 : Nat) (Option.none : Option ClassFile.FieldType) ∈ wz := List.mem_filter.mpr ⟨(List.mem_append_right _ (List.mem_append_left _ (List.mem_of_getElem? (i := 155) rfl))), by decide +kernel⟩
set_option maxRecDepth 20000 in
theorem zw_156 : Cond.methodLink "DeltaPress$Text" (17 : Nat) ({ cls := "DeltaPress$Text", name := "add", desc := "(I)V" } : MethodName) ∈ wz := List.mem_filter.mpr ⟨(List.mem_append_right _ (List.mem_append_left _ (List.mem_of_getElem? (i := 156) rfl))), by decide +kernel⟩
set_option maxRecDepth 20000 in
theorem zw_157 : Cond.instanceMethod ({ cls := "DeltaPress$Text", name := "add", desc := "(I)V" } : MethodName) ∈ wz := List.mem_filter.mpr ⟨(List.mem_append_right _ (List.mem_append_left _ (List.mem_of_getElem? (i := 157) rfl))), by decide +kernel⟩
set_option maxRecDepth 20000 in
theorem zw_158 : Cond.selects "DeltaPress$Text" ({ cls := "DeltaPress$Text", name := "add", desc := "(I)V" } : MethodName) ({ cls := "DeltaPress$Text", name := "add", desc := "(I)V" } : MethodName) ∈ wz := List.mem_filter.mpr ⟨(List.mem_append_right _ (List.mem_append_left _ (List.mem_of_getElem? (i := 158) rfl))), by decide +kernel⟩
set_option maxRecDepth 20000 in
theorem zw_159 : Cond.code ({ cls := "DeltaPress$Text", name := "add", desc := "(I)V" } : MethodName) prog_4_method_8_code (2 : Nat) (Option.none : Option ClassFile.FieldType) ∈ wz := List.mem_filter.mpr ⟨(List.mem_append_right _ (List.mem_append_left _ (List.mem_of_getElem? (i := 159) rfl))), by decide +kernel⟩
set_option maxRecDepth 20000 in
theorem zw_160 : Cond.methodLink "DeltaPress" (95 : Nat) ({ cls := "DeltaPress", name := "findLongest", desc := "(I)V" } : MethodName) ∈ wz := List.mem_filter.mpr ⟨(List.mem_append_right _ (List.mem_append_left _ (List.mem_of_getElem? (i := 160) rfl))), by decide +kernel⟩
set_option maxRecDepth 20000 in
theorem zw_162 : Cond.instanceMethod ({ cls := "DeltaPress", name := "findLongest", desc := "(I)V" } : MethodName) ∈ wz := List.mem_filter.mpr ⟨(List.mem_append_right _ (List.mem_append_left _ (List.mem_of_getElem? (i := 162) rfl))), by decide +kernel⟩
set_option maxRecDepth 20000 in
theorem zw_163 : Cond.code ({ cls := "DeltaPress", name := "findLongest", desc := "(I)V" } : MethodName) prog_1_method_12_code (2 : Nat) (Option.none : Option ClassFile.FieldType) ∈ wz := List.mem_filter.mpr ⟨(List.mem_append_right _ (List.mem_append_left _ (List.mem_of_getElem? (i := 163) rfl))), by decide +kernel⟩
set_option maxRecDepth 20000 in
theorem zw_164 : Cond.methodLink "DeltaPress" (134 : Nat) ({ cls := "DeltaPress$SuffixTree", name := "grow", desc := "(LDeltaPress$Text;)V" } : MethodName) ∈ wz := List.mem_filter.mpr ⟨(List.mem_append_right _ (List.mem_append_left _ (List.mem_of_getElem? (i := 164) rfl))), by decide +kernel⟩
set_option maxRecDepth 20000 in
theorem zw_165 : Cond.instanceMethod ({ cls := "DeltaPress$SuffixTree", name := "grow", desc := "(LDeltaPress$Text;)V" } : MethodName) ∈ wz := List.mem_filter.mpr ⟨(List.mem_append_right _ (List.mem_append_left _ (List.mem_of_getElem? (i := 165) rfl))), by decide +kernel⟩
set_option maxRecDepth 20000 in
theorem zw_166 : Cond.selects "DeltaPress$SuffixTree" ({ cls := "DeltaPress$SuffixTree", name := "grow", desc := "(LDeltaPress$Text;)V" } : MethodName) ({ cls := "DeltaPress$SuffixTree", name := "grow", desc := "(LDeltaPress$Text;)V" } : MethodName) ∈ wz := List.mem_filter.mpr ⟨(List.mem_append_right _ (List.mem_append_left _ (List.mem_of_getElem? (i := 166) rfl))), by decide +kernel⟩
set_option maxRecDepth 20000 in
theorem zw_167 : Cond.code ({ cls := "DeltaPress$SuffixTree", name := "grow", desc := "(LDeltaPress$Text;)V" } : MethodName) prog_3_method_4_code (3 : Nat) (Option.none : Option ClassFile.FieldType) ∈ wz := List.mem_filter.mpr ⟨(List.mem_append_right _ (List.mem_append_left _ (List.mem_of_getElem? (i := 167) rfl))), by decide +kernel⟩
set_option maxRecDepth 20000 in
theorem zw_168 : Cond.methodLink "DeltaPress$SuffixTree" (61 : Nat) ({ cls := "DeltaPress$Text", name := "row", desc := "()[B" } : MethodName) ∈ wz := List.mem_filter.mpr ⟨(List.mem_append_right _ (List.mem_append_left _ (List.mem_of_getElem? (i := 168) rfl))), by decide +kernel⟩
set_option maxRecDepth 20000 in
theorem zw_169 : Cond.instanceMethod ({ cls := "DeltaPress$Text", name := "row", desc := "()[B" } : MethodName) ∈ wz := List.mem_filter.mpr ⟨(List.mem_append_right _ (List.mem_append_left _ (List.mem_of_getElem? (i := 169) rfl))), by decide +kernel⟩
set_option maxRecDepth 20000 in
theorem zw_170 : Cond.selects "DeltaPress$Text" ({ cls := "DeltaPress$Text", name := "row", desc := "()[B" } : MethodName) ({ cls := "DeltaPress$Text", name := "row", desc := "()[B" } : MethodName) ∈ wz := List.mem_filter.mpr ⟨(List.mem_append_right _ (List.mem_append_left _ (List.mem_of_getElem? (i := 170) rfl))), by decide +kernel⟩
set_option maxRecDepth 20000 in
theorem zw_171 : Cond.code ({ cls := "DeltaPress$Text", name := "row", desc := "()[B" } : MethodName) prog_4_method_5_code (1 : Nat) (Option.some (ClassFile.FieldType.array ClassFile.FieldType.byte)) ∈ wz := List.mem_filter.mpr ⟨(List.mem_append_right _ (List.mem_append_left _ (List.mem_of_getElem? (i := 171) rfl))), by decide +kernel⟩
set_option maxRecDepth 20000 in
theorem zw_172 : Cond.methodLink "DeltaPress$SuffixTree" (67 : Nat) ({ cls := "DeltaPress$Text", name := "size", desc := "()I" } : MethodName) ∈ wz := List.mem_filter.mpr ⟨(List.mem_append_right _ (List.mem_append_left _ (List.mem_of_getElem? (i := 172) rfl))), by decide +kernel⟩
set_option maxRecDepth 20000 in
theorem zw_173 : Cond.methodLink "DeltaPress$SuffixTree" (71 : Nat) ({ cls := "DeltaPress$SuffixTree", name := "emptySlots", desc := "()V" } : MethodName) ∈ wz := List.mem_filter.mpr ⟨(List.mem_append_right _ (List.mem_append_left _ (List.mem_of_getElem? (i := 173) rfl))), by decide +kernel⟩
set_option maxRecDepth 20000 in
theorem zw_175 : Cond.instanceMethod ({ cls := "DeltaPress$SuffixTree", name := "emptySlots", desc := "()V" } : MethodName) ∈ wz := List.mem_filter.mpr ⟨(List.mem_append_right _ (List.mem_append_left _ (List.mem_of_getElem? (i := 175) rfl))), by decide +kernel⟩
set_option maxRecDepth 20000 in
theorem zw_176 : Cond.code ({ cls := "DeltaPress$SuffixTree", name := "emptySlots", desc := "()V" } : MethodName) prog_3_method_5_code (2 : Nat) (Option.none : Option ClassFile.FieldType) ∈ wz := List.mem_filter.mpr ⟨(List.mem_append_right _ (List.mem_append_left _ (List.mem_of_getElem? (i := 176) rfl))), by decide +kernel⟩
set_option maxRecDepth 20000 in
theorem zw_177 : Cond.methodLink "DeltaPress$SuffixTree" (78 : Nat) ({ cls := "java/lang/Math", name := "max", desc := "(II)I" } : MethodName) ∈ wz := List.mem_filter.mpr ⟨(List.mem_append_right _ (List.mem_append_left _ (List.mem_of_getElem? (i := 177) rfl))), by decide +kernel⟩
set_option maxRecDepth 20000 in
theorem zw_178 : Cond.static ({ cls := "java/lang/Math", name := "max", desc := "(II)I" } : MethodName) ∈ wz := List.mem_filter.mpr ⟨(List.mem_append_right _ (List.mem_append_left _ (List.mem_of_getElem? (i := 178) rfl))), by decide +kernel⟩
set_option maxRecDepth 20000 in
theorem zw_179 : Cond.code ({ cls := "java/lang/Math", name := "max", desc := "(II)I" } : MethodName) prog_13_method_65_code (2 : Nat) (Option.some ClassFile.FieldType.int) ∈ wz := List.mem_filter.mpr ⟨(List.mem_append_right _ (List.mem_append_left _ (List.mem_of_getElem? (i := 179) rfl))), by decide +kernel⟩
set_option maxRecDepth 20000 in
theorem zw_180 : Cond.methodLink "DeltaPress$SuffixTree" (84 : Nat) ({ cls := "java/lang/Integer", name := "highestOneBit", desc := "(I)I" } : MethodName) ∈ wz := List.mem_filter.mpr ⟨(List.mem_append_right _ (List.mem_append_left _ (List.mem_of_getElem? (i := 180) rfl))), by decide +kernel⟩
set_option maxRecDepth 20000 in
theorem zw_181 : Cond.static ({ cls := "java/lang/Integer", name := "highestOneBit", desc := "(I)I" } : MethodName) ∈ wz := List.mem_filter.mpr ⟨(List.mem_append_right _ (List.mem_append_left _ (List.mem_of_getElem? (i := 181) rfl))), by decide +kernel⟩
set_option maxRecDepth 20000 in
theorem zw_182 : Cond.code ({ cls := "java/lang/Integer", name := "highestOneBit", desc := "(I)I" } : MethodName) prog_12_method_45_code (1 : Nat) (Option.some ClassFile.FieldType.int) ∈ wz := List.mem_filter.mpr ⟨(List.mem_append_right _ (List.mem_append_left _ (List.mem_of_getElem? (i := 182) rfl))), by decide +kernel⟩
set_option maxRecDepth 20000 in
theorem zw_183 : Cond.constant "java/lang/Integer" (127 : Nat) (-2147483648 : Int32) ∈ wz := List.mem_filter.mpr ⟨(List.mem_append_right _ (List.mem_append_left _ (List.mem_of_getElem? (i := 183) rfl))), by decide +kernel⟩
set_option maxRecDepth 20000 in
theorem zw_184 : Cond.methodLink "java/lang/Integer" (51 : Nat) ({ cls := "java/lang/Integer", name := "numberOfLeadingZeros", desc := "(I)I" } : MethodName) ∈ wz := List.mem_filter.mpr ⟨(List.mem_append_right _ (List.mem_append_left _ (List.mem_of_getElem? (i := 184) rfl))), by decide +kernel⟩
set_option maxRecDepth 20000 in
theorem zw_185 : Cond.static ({ cls := "java/lang/Integer", name := "numberOfLeadingZeros", desc := "(I)I" } : MethodName) ∈ wz := List.mem_filter.mpr ⟨(List.mem_append_right _ (List.mem_append_left _ (List.mem_of_getElem? (i := 185) rfl))), by decide +kernel⟩
set_option maxRecDepth 20000 in
theorem zw_186 : Cond.code ({ cls := "java/lang/Integer", name := "numberOfLeadingZeros", desc := "(I)I" } : MethodName) prog_12_method_47_code (2 : Nat) (Option.some ClassFile.FieldType.int) ∈ wz := List.mem_filter.mpr ⟨(List.mem_append_right _ (List.mem_append_left _ (List.mem_of_getElem? (i := 186) rfl))), by decide +kernel⟩
set_option maxRecDepth 20000 in
theorem zw_187 : Cond.constant "java/lang/Integer" (264 : Nat) (65536 : Int32) ∈ wz := List.mem_filter.mpr ⟨(List.mem_append_right _ (List.mem_append_left _ (List.mem_of_getElem? (i := 187) rfl))), by decide +kernel⟩
set_option maxRecDepth 20000 in
theorem zw_188 : Cond.methodLink "DeltaPress$SuffixTree" (90 : Nat) ({ cls := "java/lang/Integer", name := "bitCount", desc := "(I)I" } : MethodName) ∈ wz := List.mem_filter.mpr ⟨(List.mem_append_right _ (List.mem_append_left _ (List.mem_of_getElem? (i := 188) rfl))), by decide +kernel⟩
set_option maxRecDepth 20000 in
theorem zw_189 : Cond.static ({ cls := "java/lang/Integer", name := "bitCount", desc := "(I)I" } : MethodName) ∈ wz := List.mem_filter.mpr ⟨(List.mem_append_right _ (List.mem_append_left _ (List.mem_of_getElem? (i := 189) rfl))), by decide +kernel⟩
set_option maxRecDepth 20000 in
theorem zw_190 : Cond.code ({ cls := "java/lang/Integer", name := "bitCount", desc := "(I)I" } : MethodName) prog_12_method_49_code (1 : Nat) (Option.some ClassFile.FieldType.int) ∈ wz := List.mem_filter.mpr ⟨(List.mem_append_right _ (List.mem_append_left _ (List.mem_of_getElem? (i := 190) rfl))), by decide +kernel⟩
set_option maxRecDepth 20000 in
theorem zw_191 : Cond.constant "java/lang/Integer" (265 : Nat) (1431655765 : Int32) ∈ wz := List.mem_filter.mpr ⟨(List.mem_append_right _ (List.mem_append_left _ (List.mem_of_getElem? (i := 191) rfl))), by decide +kernel⟩
set_option maxRecDepth 20000 in
theorem zw_192 : Cond.constant "java/lang/Integer" (266 : Nat) (858993459 : Int32) ∈ wz := List.mem_filter.mpr ⟨(List.mem_append_right _ (List.mem_append_left _ (List.mem_of_getElem? (i := 192) rfl))), by decide +kernel⟩
set_option maxRecDepth 20000 in
theorem zw_193 : Cond.constant "java/lang/Integer" (267 : Nat) (252645135 : Int32) ∈ wz := List.mem_filter.mpr ⟨(List.mem_append_right _ (List.mem_append_left _ (List.mem_of_getElem? (i := 193) rfl))), by decide +kernel⟩
set_option maxRecDepth 20000 in
theorem zw_194 : Cond.methodLink "DeltaPress$SuffixTree" (74 : Nat) ({ cls := "DeltaPress$SuffixTree", name := "addLetter", desc := "(I)V" } : MethodName) ∈ wz := List.mem_filter.mpr ⟨(List.mem_append_right _ (List.mem_append_left _ (List.mem_of_getElem? (i := 194) rfl))), by decide +kernel⟩
set_option maxRecDepth 20000 in
theorem zw_196 : Cond.instanceMethod ({ cls := "DeltaPress$SuffixTree", name := "addLetter", desc := "(I)V" } : MethodName) ∈ wz := List.mem_filter.mpr ⟨(List.mem_append_right _ (List.mem_append_left _ (List.mem_of_getElem? (i := 196) rfl))), by decide +kernel⟩
set_option maxRecDepth 20000 in
theorem zw_197 : Cond.code ({ cls := "DeltaPress$SuffixTree", name := "addLetter", desc := "(I)V" } : MethodName) prog_3_method_6_code (7 : Nat) (Option.none : Option ClassFile.FieldType) ∈ wz := List.mem_filter.mpr ⟨(List.mem_append_right _ (List.mem_append_left _ (List.mem_of_getElem? (i := 197) rfl))), by decide +kernel⟩
set_option maxRecDepth 20000 in
theorem zw_198 : Cond.methodLink "DeltaPress$SuffixTree" (93 : Nat) ({ cls := "DeltaPress$SuffixTree", name := "goDown", desc := "(I)I" } : MethodName) ∈ wz := List.mem_filter.mpr ⟨(List.mem_append_right _ (List.mem_append_left _ (List.mem_of_getElem? (i := 198) rfl))), by decide +kernel⟩
set_option maxRecDepth 20000 in
theorem zw_200 : Cond.instanceMethod ({ cls := "DeltaPress$SuffixTree", name := "goDown", desc := "(I)I" } : MethodName) ∈ wz := List.mem_filter.mpr ⟨(List.mem_append_right _ (List.mem_append_left _ (List.mem_of_getElem? (i := 200) rfl))), by decide +kernel⟩
set_option maxRecDepth 20000 in
theorem zw_201 : Cond.code ({ cls := "DeltaPress$SuffixTree", name := "goDown", desc := "(I)I" } : MethodName) prog_3_method_7_code (6 : Nat) (Option.some ClassFile.FieldType.int) ∈ wz := List.mem_filter.mpr ⟨(List.mem_append_right _ (List.mem_append_left _ (List.mem_of_getElem? (i := 201) rfl))), by decide +kernel⟩
set_option maxRecDepth 20000 in
theorem zw_202 : Cond.methodLink "DeltaPress$SuffixTree" (106 : Nat) ({ cls := "DeltaPress$SuffixTree", name := "slotOf", desc := "(IB)I" } : MethodName) ∈ wz := List.mem_filter.mpr ⟨(List.mem_append_right _ (List.mem_append_left _ (List.mem_of_getElem? (i := 202) rfl))), by decide +kernel⟩
set_option maxRecDepth 20000 in
theorem zw_204 : Cond.instanceMethod ({ cls := "DeltaPress$SuffixTree", name := "slotOf", desc := "(IB)I" } : MethodName) ∈ wz := List.mem_filter.mpr ⟨(List.mem_append_right _ (List.mem_append_left _ (List.mem_of_getElem? (i := 204) rfl))), by decide +kernel⟩
set_option maxRecDepth 20000 in
theorem zw_205 : Cond.code ({ cls := "DeltaPress$SuffixTree", name := "slotOf", desc := "(IB)I" } : MethodName) prog_3_method_12_code (6 : Nat) (Option.some ClassFile.FieldType.int) ∈ wz := List.mem_filter.mpr ⟨(List.mem_append_right _ (List.mem_append_left _ (List.mem_of_getElem? (i := 205) rfl))), by decide +kernel⟩
set_option maxRecDepth 20000 in
theorem zw_206 : Cond.constant "DeltaPress$SuffixTree" (114 : Nat) (-1640531535 : Int32) ∈ wz := List.mem_filter.mpr ⟨(List.mem_append_right _ (List.mem_append_left _ (List.mem_of_getElem? (i := 206) rfl))), by decide +kernel⟩
set_option maxRecDepth 20000 in
theorem zw_207 : Cond.methodLink "DeltaPress$SuffixTree" (96 : Nat) ({ cls := "DeltaPress$SuffixTree", name := "split", desc := "(II)I" } : MethodName) ∈ wz := List.mem_filter.mpr ⟨(List.mem_append_right _ (List.mem_append_left _ (List.mem_of_getElem? (i := 207) rfl))), by decide +kernel⟩
set_option maxRecDepth 20000 in
theorem zw_209 : Cond.instanceMethod ({ cls := "DeltaPress$SuffixTree", name := "split", desc := "(II)I" } : MethodName) ∈ wz := List.mem_filter.mpr ⟨(List.mem_append_right _ (List.mem_append_left _ (List.mem_of_getElem? (i := 209) rfl))), by decide +kernel⟩
set_option maxRecDepth 20000 in
theorem zw_210 : Cond.code ({ cls := "DeltaPress$SuffixTree", name := "split", desc := "(II)I" } : MethodName) prog_3_method_8_code (5 : Nat) (Option.some ClassFile.FieldType.int) ∈ wz := List.mem_filter.mpr ⟨(List.mem_append_right _ (List.mem_append_left _ (List.mem_of_getElem? (i := 210) rfl))), by decide +kernel⟩
set_option maxRecDepth 20000 in
theorem zw_211 : Cond.methodLink "DeltaPress$SuffixTree" (110 : Nat) ({ cls := "DeltaPress$SuffixTree", name := "addNode", desc := "(III)I" } : MethodName) ∈ wz := List.mem_filter.mpr ⟨(List.mem_append_right _ (List.mem_append_left _ (List.mem_of_getElem? (i := 211) rfl))), by decide +kernel⟩
set_option maxRecDepth 20000 in
theorem zw_213 : Cond.instanceMethod ({ cls := "DeltaPress$SuffixTree", name := "addNode", desc := "(III)I" } : MethodName) ∈ wz := List.mem_filter.mpr ⟨(List.mem_append_right _ (List.mem_append_left _ (List.mem_of_getElem? (i := 213) rfl))), by decide +kernel⟩
set_option maxRecDepth 20000 in
theorem zw_214 : Cond.code ({ cls := "DeltaPress$SuffixTree", name := "addNode", desc := "(III)I" } : MethodName) prog_3_method_10_code (5 : Nat) (Option.some ClassFile.FieldType.int) ∈ wz := List.mem_filter.mpr ⟨(List.mem_append_right _ (List.mem_append_left _ (List.mem_of_getElem? (i := 214) rfl))), by decide +kernel⟩
set_option maxRecDepth 20000 in
theorem zw_215 : Cond.methodLink "DeltaPress$SuffixTree" (99 : Nat) ({ cls := "DeltaPress$SuffixTree", name := "addLeaf", desc := "(II)V" } : MethodName) ∈ wz := List.mem_filter.mpr ⟨(List.mem_append_right _ (List.mem_append_left _ (List.mem_of_getElem? (i := 215) rfl))), by decide +kernel⟩
set_option maxRecDepth 20000 in
theorem zw_217 : Cond.instanceMethod ({ cls := "DeltaPress$SuffixTree", name := "addLeaf", desc := "(II)V" } : MethodName) ∈ wz := List.mem_filter.mpr ⟨(List.mem_append_right _ (List.mem_append_left _ (List.mem_of_getElem? (i := 217) rfl))), by decide +kernel⟩
set_option maxRecDepth 20000 in
theorem zw_218 : Cond.code ({ cls := "DeltaPress$SuffixTree", name := "addLeaf", desc := "(II)V" } : MethodName) prog_3_method_9_code (4 : Nat) (Option.none : Option ClassFile.FieldType) ∈ wz := List.mem_filter.mpr ⟨(List.mem_append_right _ (List.mem_append_left _ (List.mem_of_getElem? (i := 218) rfl))), by decide +kernel⟩
set_option maxRecDepth 20000 in
theorem zw_219 : Cond.methodLink "DeltaPress$SuffixTree" (103 : Nat) ({ cls := "DeltaPress$SuffixTree", name := "goToNextSuffix", desc := "()V" } : MethodName) ∈ wz := List.mem_filter.mpr ⟨(List.mem_append_right _ (List.mem_append_left _ (List.mem_of_getElem? (i := 219) rfl))), by decide +kernel⟩
set_option maxRecDepth 20000 in
theorem zw_221 : Cond.instanceMethod ({ cls := "DeltaPress$SuffixTree", name := "goToNextSuffix", desc := "()V" } : MethodName) ∈ wz := List.mem_filter.mpr ⟨(List.mem_append_right _ (List.mem_append_left _ (List.mem_of_getElem? (i := 221) rfl))), by decide +kernel⟩
set_option maxRecDepth 20000 in
theorem zw_222 : Cond.code ({ cls := "DeltaPress$SuffixTree", name := "goToNextSuffix", desc := "()V" } : MethodName) prog_3_method_11_code (1 : Nat) (Option.none : Option ClassFile.FieldType) ∈ wz := List.mem_filter.mpr ⟨(List.mem_append_right _ (List.mem_append_left _ (List.mem_of_getElem? (i := 222) rfl))), by decide +kernel⟩
set_option maxRecDepth 20000 in
theorem zw_223 : Cond.constant "DeltaPress" (138 : Nat) (65535 : Int32) ∈ wz := List.mem_filter.mpr ⟨(List.mem_append_right _ (List.mem_append_left _ (List.mem_of_getElem? (i := 223) rfl))), by decide +kernel⟩
set_option maxRecDepth 20000 in
theorem zw_224 : Cond.methodLink "DeltaPress" (139 : Nat) ({ cls := "DeltaPress$SuffixTree", name := "find", desc := "(LDeltaPress$Text;II)V" } : MethodName) ∈ wz := List.mem_filter.mpr ⟨(List.mem_append_right _ (List.mem_append_left _ (List.mem_of_getElem? (i := 224) rfl))), by decide +kernel⟩
set_option maxRecDepth 20000 in
theorem zw_225 : Cond.instanceMethod ({ cls := "DeltaPress$SuffixTree", name := "find", desc := "(LDeltaPress$Text;II)V" } : MethodName) ∈ wz := List.mem_filter.mpr ⟨(List.mem_append_right _ (List.mem_append_left _ (List.mem_of_getElem? (i := 225) rfl))), by decide +kernel⟩
set_option maxRecDepth 20000 in
theorem zw_226 : Cond.selects "DeltaPress$SuffixTree" ({ cls := "DeltaPress$SuffixTree", name := "find", desc := "(LDeltaPress$Text;II)V" } : MethodName) ({ cls := "DeltaPress$SuffixTree", name := "find", desc := "(LDeltaPress$Text;II)V" } : MethodName) ∈ wz := List.mem_filter.mpr ⟨(List.mem_append_right _ (List.mem_append_left _ (List.mem_of_getElem? (i := 226) rfl))), by decide +kernel⟩
set_option maxRecDepth 20000 in
theorem zw_227 : Cond.code ({ cls := "DeltaPress$SuffixTree", name := "find", desc := "(LDeltaPress$Text;II)V" } : MethodName) prog_3_method_13_code (10 : Nat) (Option.none : Option ClassFile.FieldType) ∈ wz := List.mem_filter.mpr ⟨(List.mem_append_right _ (List.mem_append_left _ (List.mem_of_getElem? (i := 227) rfl))), by decide +kernel⟩
set_option maxRecDepth 20000 in
theorem zw_228 : Cond.methodLink "DeltaPress$SuffixTree" (115 : Nat) ({ cls := "java/lang/Math", name := "min", desc := "(II)I" } : MethodName) ∈ wz := List.mem_filter.mpr ⟨(List.mem_append_right _ (List.mem_append_left _ (List.mem_of_getElem? (i := 228) rfl))), by decide +kernel⟩
set_option maxRecDepth 20000 in
theorem zw_229 : Cond.static ({ cls := "java/lang/Math", name := "min", desc := "(II)I" } : MethodName) ∈ wz := List.mem_filter.mpr ⟨(List.mem_append_right _ (List.mem_append_left _ (List.mem_of_getElem? (i := 229) rfl))), by decide +kernel⟩
set_option maxRecDepth 20000 in
theorem zw_230 : Cond.code ({ cls := "java/lang/Math", name := "min", desc := "(II)I" } : MethodName) prog_13_method_69_code (2 : Nat) (Option.some ClassFile.FieldType.int) ∈ wz := List.mem_filter.mpr ⟨(List.mem_append_right _ (List.mem_append_left _ (List.mem_of_getElem? (i := 230) rfl))), by decide +kernel⟩
set_option maxRecDepth 20000 in
theorem zw_231 : Cond.methodLink "DeltaPress$SuffixTree" (118 : Nat) ({ cls := "DeltaPress$SuffixTree", name := "sameLetters", desc := "(I[BII)I" } : MethodName) ∈ wz := List.mem_filter.mpr ⟨(List.mem_append_right _ (List.mem_append_left _ (List.mem_of_getElem? (i := 231) rfl))), by decide +kernel⟩
set_option maxRecDepth 20000 in
theorem zw_233 : Cond.instanceMethod ({ cls := "DeltaPress$SuffixTree", name := "sameLetters", desc := "(I[BII)I" } : MethodName) ∈ wz := List.mem_filter.mpr ⟨(List.mem_append_right _ (List.mem_append_left _ (List.mem_of_getElem? (i := 233) rfl))), by decide +kernel⟩
set_option maxRecDepth 20000 in
theorem zw_234 : Cond.code ({ cls := "DeltaPress$SuffixTree", name := "sameLetters", desc := "(I[BII)I" } : MethodName) prog_3_method_14_code (6 : Nat) (Option.some ClassFile.FieldType.int) ∈ wz := List.mem_filter.mpr ⟨(List.mem_append_right _ (List.mem_append_left _ (List.mem_of_getElem? (i := 234) rfl))), by decide +kernel⟩
set_option maxRecDepth 20000 in
theorem zw_235 : Cond.methodLink "DeltaPress" (98 : Nat) ({ cls := "DeltaPress$SuffixTree", name := "foundLength", desc := "()I" } : MethodName) ∈ wz := List.mem_filter.mpr ⟨(List.mem_append_right _ (List.mem_append_left _ (List.mem_of_getElem? (i := 235) rfl))), by decide +kernel⟩
set_option maxRecDepth 20000 in
theorem zw_236 : Cond.instanceMethod ({ cls := "DeltaPress$SuffixTree", name := "foundLength", desc := "()I" } : MethodName) ∈ wz := List.mem_filter.mpr ⟨(List.mem_append_right _ (List.mem_append_left _ (List.mem_of_getElem? (i := 236) rfl))), by decide +kernel⟩
set_option maxRecDepth 20000 in
theorem zw_237 : Cond.selects "DeltaPress$SuffixTree" ({ cls := "DeltaPress$SuffixTree", name := "foundLength", desc := "()I" } : MethodName) ({ cls := "DeltaPress$SuffixTree", name := "foundLength", desc := "()I" } : MethodName) ∈ wz := List.mem_filter.mpr ⟨(List.mem_append_right _ (List.mem_append_left _ (List.mem_of_getElem? (i := 237) rfl))), by decide +kernel⟩
set_option maxRecDepth 20000 in
theorem zw_238 : Cond.code ({ cls := "DeltaPress$SuffixTree", name := "foundLength", desc := "()I" } : MethodName) prog_3_method_2_code (1 : Nat) (Option.some ClassFile.FieldType.int) ∈ wz := List.mem_filter.mpr ⟨(List.mem_append_right _ (List.mem_append_left _ (List.mem_of_getElem? (i := 238) rfl))), by decide +kernel⟩
set_option maxRecDepth 20000 in
theorem zw_239 : Cond.methodLink "DeltaPress" (101 : Nat) ({ cls := "DeltaPress", name := "writeNew", desc := "(II)V" } : MethodName) ∈ wz := List.mem_filter.mpr ⟨(List.mem_append_right _ (List.mem_append_left _ (List.mem_of_getElem? (i := 239) rfl))), by decide +kernel⟩
set_option maxRecDepth 20000 in
theorem zw_241 : Cond.instanceMethod ({ cls := "DeltaPress", name := "writeNew", desc := "(II)V" } : MethodName) ∈ wz := List.mem_filter.mpr ⟨(List.mem_append_right _ (List.mem_append_right _ (List.mem_append_left _ (List.mem_of_getElem? (i := 1) rfl)))), by decide +kernel⟩
set_option maxRecDepth 20000 in
theorem zw_242 : Cond.code ({ cls := "DeltaPress", name := "writeNew", desc := "(II)V" } : MethodName) prog_1_method_13_code (5 : Nat) (Option.none : Option ClassFile.FieldType) ∈ wz := List.mem_filter.mpr ⟨(List.mem_append_right _ (List.mem_append_right _ (List.mem_append_left _ (List.mem_of_getElem? (i := 2) rfl)))), by decide +kernel⟩
set_option maxRecDepth 20000 in
theorem zw_243 : Cond.methodLink "DeltaPress" (142 : Nat) ({ cls := "java/lang/Math", name := "min", desc := "(II)I" } : MethodName) ∈ wz := List.mem_filter.mpr ⟨(List.mem_append_right _ (List.mem_append_right _ (List.mem_append_left _ (List.mem_of_getElem? (i := 3) rfl)))), by decide +kernel⟩
set_option maxRecDepth 20000 in
theorem zw_244 : Cond.methodLink "DeltaPress" (148 : Nat) ({ cls := "DeltaPress$Text", name := "add", desc := "(I)V" } : MethodName) ∈ wz := List.mem_filter.mpr ⟨(List.mem_append_right _ (List.mem_append_right _ (List.mem_append_left _ (List.mem_of_getElem? (i := 4) rfl)))), by decide +kernel⟩
set_option maxRecDepth 20000 in
theorem zw_245 : Cond.methodLink "DeltaPress" (119 : Nat) ({ cls := "DeltaPress$Text", name := "addPart", desc := "(LDeltaPress$Text;II)V" } : MethodName) ∈ wz := List.mem_filter.mpr ⟨(List.mem_append_right _ (List.mem_append_right _ (List.mem_append_left _ (List.mem_of_getElem? (i := 5) rfl)))), by decide +kernel⟩
set_option maxRecDepth 20000 in
theorem zw_246 : Cond.instanceMethod ({ cls := "DeltaPress$Text", name := "addPart", desc := "(LDeltaPress$Text;II)V" } : MethodName) ∈ wz := List.mem_filter.mpr ⟨(List.mem_append_right _ (List.mem_append_right _ (List.mem_append_left _ (List.mem_of_getElem? (i := 6) rfl)))), by decide +kernel⟩
set_option maxRecDepth 20000 in
theorem zw_247 : Cond.selects "DeltaPress$Text" ({ cls := "DeltaPress$Text", name := "addPart", desc := "(LDeltaPress$Text;II)V" } : MethodName) ({ cls := "DeltaPress$Text", name := "addPart", desc := "(LDeltaPress$Text;II)V" } : MethodName) ∈ wz := List.mem_filter.mpr ⟨(List.mem_append_right _ (List.mem_append_right _ (List.mem_append_left _ (List.mem_of_getElem? (i := 7) rfl)))), by decide +kernel⟩
set_option maxRecDepth 20000 in
theorem zw_248 : Cond.code ({ cls := "DeltaPress$Text", name := "addPart", desc := "(LDeltaPress$Text;II)V" } : MethodName) prog_4_method_12_code (4 : Nat) (Option.none : Option ClassFile.FieldType) ∈ wz := List.mem_filter.mpr ⟨(List.mem_append_right _ (List.mem_append_right _ (List.mem_append_left _ (List.mem_of_getElem? (i := 8) rfl)))), by decide +kernel⟩
set_option maxRecDepth 20000 in
theorem zw_249 : Cond.methodLink "DeltaPress$Text" (21 : Nat) ({ cls := "java/lang/System", name := "arraycopy", desc := "(Ljava/lang/Object;ILjava/lang/Object;II)V" } : MethodName) ∈ wz := List.mem_filter.mpr ⟨(List.mem_append_right _ (List.mem_append_right _ (List.mem_append_left _ (List.mem_of_getElem? (i := 9) rfl)))), by decide +kernel⟩
set_option maxRecDepth 20000 in
theorem zw_250 : Cond.static ({ cls := "java/lang/System", name := "arraycopy", desc := "(Ljava/lang/Object;ILjava/lang/Object;II)V" } : MethodName) ∈ wz := List.mem_filter.mpr ⟨(List.mem_append_right _ (List.mem_append_right _ (List.mem_append_left _ (List.mem_of_getElem? (i := 10) rfl)))), by decide +kernel⟩
set_option maxRecDepth 20000 in
theorem zw_251 : Cond.native ({ cls := "java/lang/System", name := "arraycopy", desc := "(Ljava/lang/Object;ILjava/lang/Object;II)V" } : MethodName) ∈ wz := List.mem_filter.mpr ⟨(List.mem_append_right _ (List.mem_append_right _ (List.mem_append_left _ (List.mem_of_getElem? (i := 11) rfl)))), by decide +kernel⟩
set_option maxRecDepth 20000 in
theorem zw_252 : Cond.methodLink "DeltaPress" (104 : Nat) ({ cls := "DeltaPress$SuffixTree", name := "foundPlace", desc := "()I" } : MethodName) ∈ wz := List.mem_filter.mpr ⟨(List.mem_append_right _ (List.mem_append_right _ (List.mem_append_left _ (List.mem_of_getElem? (i := 12) rfl)))), by decide +kernel⟩
set_option maxRecDepth 20000 in
theorem zw_253 : Cond.instanceMethod ({ cls := "DeltaPress$SuffixTree", name := "foundPlace", desc := "()I" } : MethodName) ∈ wz := List.mem_filter.mpr ⟨(List.mem_append_right _ (List.mem_append_right _ (List.mem_append_left _ (List.mem_of_getElem? (i := 13) rfl)))), by decide +kernel⟩
set_option maxRecDepth 20000 in
theorem zw_254 : Cond.selects "DeltaPress$SuffixTree" ({ cls := "DeltaPress$SuffixTree", name := "foundPlace", desc := "()I" } : MethodName) ({ cls := "DeltaPress$SuffixTree", name := "foundPlace", desc := "()I" } : MethodName) ∈ wz := List.mem_filter.mpr ⟨(List.mem_append_right _ (List.mem_append_right _ (List.mem_append_left _ (List.mem_of_getElem? (i := 14) rfl)))), by decide +kernel⟩
set_option maxRecDepth 20000 in
theorem zw_255 : Cond.code ({ cls := "DeltaPress$SuffixTree", name := "foundPlace", desc := "()I" } : MethodName) prog_3_method_3_code (1 : Nat) (Option.some ClassFile.FieldType.int) ∈ wz := List.mem_filter.mpr ⟨(List.mem_append_right _ (List.mem_append_right _ (List.mem_append_left _ (List.mem_of_getElem? (i := 15) rfl)))), by decide +kernel⟩
set_option maxRecDepth 20000 in
theorem zw_256 : Cond.methodLink "DeltaPress" (107 : Nat) ({ cls := "DeltaPress", name := "writeCopy", desc := "(II)V" } : MethodName) ∈ wz := List.mem_filter.mpr ⟨(List.mem_append_right _ (List.mem_append_right _ (List.mem_append_left _ (List.mem_of_getElem? (i := 16) rfl)))), by decide +kernel⟩
set_option maxRecDepth 20000 in
theorem zw_258 : Cond.instanceMethod ({ cls := "DeltaPress", name := "writeCopy", desc := "(II)V" } : MethodName) ∈ wz := List.mem_filter.mpr ⟨(List.mem_append_right _ (List.mem_append_right _ (List.mem_append_left _ (List.mem_of_getElem? (i := 18) rfl)))), by decide +kernel⟩
set_option maxRecDepth 20000 in
theorem zw_259 : Cond.code ({ cls := "DeltaPress", name := "writeCopy", desc := "(II)V" } : MethodName) prog_1_method_14_code (4 : Nat) (Option.none : Option ClassFile.FieldType) ∈ wz := List.mem_filter.mpr ⟨(List.mem_append_right _ (List.mem_append_right _ (List.mem_append_left _ (List.mem_of_getElem? (i := 19) rfl)))), by decide +kernel⟩
set_option maxRecDepth 20000 in
theorem zw_260 : Cond.methodLink "DeltaPress" (151 : Nat) ({ cls := "DeltaPress", name := "bitsOfBytes", desc := "(II)I" } : MethodName) ∈ wz := List.mem_filter.mpr ⟨(List.mem_append_right _ (List.mem_append_right _ (List.mem_append_left _ (List.mem_of_getElem? (i := 20) rfl)))), by decide +kernel⟩
set_option maxRecDepth 20000 in
theorem zw_261 : Cond.static ({ cls := "DeltaPress", name := "bitsOfBytes", desc := "(II)I" } : MethodName) ∈ wz := List.mem_filter.mpr ⟨(List.mem_append_right _ (List.mem_append_right _ (List.mem_append_left _ (List.mem_of_getElem? (i := 21) rfl)))), by decide +kernel⟩
set_option maxRecDepth 20000 in
theorem zw_262 : Cond.code ({ cls := "DeltaPress", name := "bitsOfBytes", desc := "(II)I" } : MethodName) prog_1_method_15_code (4 : Nat) (Option.some ClassFile.FieldType.int) ∈ wz := List.mem_filter.mpr ⟨(List.mem_append_right _ (List.mem_append_right _ (List.mem_append_left _ (List.mem_of_getElem? (i := 22) rfl)))), by decide +kernel⟩
set_option maxRecDepth 20000 in
theorem zw_263 : Cond.methodLink "DeltaPress" (154 : Nat) ({ cls := "DeltaPress$Text", name := "addBytesNotZero", desc := "(II)V" } : MethodName) ∈ wz := List.mem_filter.mpr ⟨(List.mem_append_right _ (List.mem_append_right _ (List.mem_append_left _ (List.mem_of_getElem? (i := 23) rfl)))), by decide +kernel⟩
set_option maxRecDepth 20000 in
theorem zw_264 : Cond.instanceMethod ({ cls := "DeltaPress$Text", name := "addBytesNotZero", desc := "(II)V" } : MethodName) ∈ wz := List.mem_filter.mpr ⟨(List.mem_append_right _ (List.mem_append_right _ (List.mem_append_left _ (List.mem_of_getElem? (i := 24) rfl)))), by decide +kernel⟩
set_option maxRecDepth 20000 in
theorem zw_265 : Cond.selects "DeltaPress$Text" ({ cls := "DeltaPress$Text", name := "addBytesNotZero", desc := "(II)V" } : MethodName) ({ cls := "DeltaPress$Text", name := "addBytesNotZero", desc := "(II)V" } : MethodName) ∈ wz := List.mem_filter.mpr ⟨(List.mem_append_right _ (List.mem_append_right _ (List.mem_append_left _ (List.mem_of_getElem? (i := 25) rfl)))), by decide +kernel⟩
set_option maxRecDepth 20000 in
theorem zw_266 : Cond.code ({ cls := "DeltaPress$Text", name := "addBytesNotZero", desc := "(II)V" } : MethodName) prog_4_method_11_code (5 : Nat) (Option.none : Option ClassFile.FieldType) ∈ wz := List.mem_filter.mpr ⟨(List.mem_append_right _ (List.mem_append_right _ (List.mem_append_left _ (List.mem_of_getElem? (i := 26) rfl)))), by decide +kernel⟩
set_option maxRecDepth 20000 in
theorem zw_267 : Cond.methodLink "DeltaPressLaw" (86 : Nat) ({ cls := "DeltaPress", name := "count", desc := "(I)I" } : MethodName) ∈ wz := List.mem_filter.mpr ⟨(List.mem_append_right _ (List.mem_append_right _ (List.mem_append_left _ (List.mem_of_getElem? (i := 27) rfl)))), by decide +kernel⟩
set_option maxRecDepth 20000 in
theorem zw_268 : Cond.instanceMethod ({ cls := "DeltaPress", name := "count", desc := "(I)I" } : MethodName) ∈ wz := List.mem_filter.mpr ⟨(List.mem_append_right _ (List.mem_append_right _ (List.mem_append_left _ (List.mem_of_getElem? (i := 28) rfl)))), by decide +kernel⟩
set_option maxRecDepth 20000 in
theorem zw_269 : Cond.selects "DeltaPress" ({ cls := "DeltaPress", name := "count", desc := "(I)I" } : MethodName) ({ cls := "DeltaPress", name := "count", desc := "(I)I" } : MethodName) ∈ wz := List.mem_filter.mpr ⟨(List.mem_append_right _ (List.mem_append_right _ (List.mem_append_left _ (List.mem_of_getElem? (i := 29) rfl)))), by decide +kernel⟩
set_option maxRecDepth 20000 in
theorem zw_270 : Cond.code ({ cls := "DeltaPress", name := "count", desc := "(I)I" } : MethodName) prog_1_method_11_code (2 : Nat) (Option.some ClassFile.FieldType.int) ∈ wz := List.mem_filter.mpr ⟨(List.mem_append_right _ (List.mem_append_right _ (List.mem_append_left _ (List.mem_of_getElem? (i := 30) rfl)))), by decide +kernel⟩
set_option maxRecDepth 20000 in
theorem zw_271 : Cond.methodLink "DeltaPressLaw" (47 : Nat) ({ cls := "DeltaPressLaw", name := "feed", desc := "(LDeltaPress;IIIII[J)I" } : MethodName) ∈ wz := List.mem_filter.mpr ⟨(List.mem_append_right _ (List.mem_append_right _ (List.mem_append_left _ (List.mem_of_getElem? (i := 31) rfl)))), by decide +kernel⟩
set_option maxRecDepth 20000 in
theorem zw_272 : Cond.static ({ cls := "DeltaPressLaw", name := "feed", desc := "(LDeltaPress;IIIII[J)I" } : MethodName) ∈ wz := List.mem_filter.mpr ⟨(List.mem_append_right _ (List.mem_append_right _ (List.mem_append_left _ (List.mem_of_getElem? (i := 32) rfl)))), by decide +kernel⟩
set_option maxRecDepth 20000 in
theorem zw_274 : Cond.classLink "DeltaPressLaw" (13 : Nat) "java/lang/IllegalStateException" ∈ wz := List.mem_filter.mpr ⟨(List.mem_append_right _ (List.mem_append_right _ (List.mem_append_left _ (List.mem_of_getElem? (i := 34) rfl)))), by decide +kernel⟩
set_option maxRecDepth 20000 in
theorem zw_275 : Cond.methodLink "DeltaPressLaw" (7 : Nat) ({ cls := "DeltaPress", name := "feed", desc := "(IIIII)I" } : MethodName) ∈ wz := List.mem_filter.mpr ⟨(List.mem_append_right _ (List.mem_append_right _ (List.mem_append_left _ (List.mem_of_getElem? (i := 35) rfl)))), by decide +kernel⟩
set_option maxRecDepth 20000 in
theorem zw_276 : Cond.instanceMethod ({ cls := "DeltaPress", name := "feed", desc := "(IIIII)I" } : MethodName) ∈ wz := List.mem_filter.mpr ⟨(List.mem_append_right _ (List.mem_append_right _ (List.mem_append_left _ (List.mem_of_getElem? (i := 36) rfl)))), by decide +kernel⟩
set_option maxRecDepth 20000 in
theorem zw_277 : Cond.selects "DeltaPress" ({ cls := "DeltaPress", name := "feed", desc := "(IIIII)I" } : MethodName) ({ cls := "DeltaPress", name := "feed", desc := "(IIIII)I" } : MethodName) ∈ wz := List.mem_filter.mpr ⟨(List.mem_append_right _ (List.mem_append_right _ (List.mem_append_left _ (List.mem_of_getElem? (i := 37) rfl)))), by decide +kernel⟩
set_option maxRecDepth 20000 in
theorem zw_278 : Cond.code ({ cls := "DeltaPress", name := "feed", desc := "(IIIII)I" } : MethodName) prog_1_method_2_code (6 : Nat) (Option.some ClassFile.FieldType.int) ∈ wz := List.mem_filter.mpr ⟨(List.mem_append_right _ (List.mem_append_right _ (List.mem_append_left _ (List.mem_of_getElem? (i := 38) rfl)))), by decide +kernel⟩
set_option maxRecDepth 20000 in
theorem zw_279 : Cond.constant "DeltaPress" (61 : Nat) (65516 : Int32) ∈ wz := List.mem_filter.mpr ⟨(List.mem_append_right _ (List.mem_append_right _ (List.mem_append_left _ (List.mem_of_getElem? (i := 39) rfl)))), by decide +kernel⟩
set_option maxRecDepth 20000 in
theorem zw_280 : Cond.classLink "DeltaPress" (62 : Nat) "java/lang/IllegalStateException" ∈ wz := List.mem_filter.mpr ⟨(List.mem_append_right _ (List.mem_append_right _ (List.mem_append_left _ (List.mem_of_getElem? (i := 40) rfl)))), by decide +kernel⟩
set_option maxRecDepth 20000 in
theorem zw_281 : Cond.instantiable "java/lang/IllegalStateException" (6 : Nat) ∈ wz := List.mem_filter.mpr ⟨(List.mem_append_right _ (List.mem_append_right _ (List.mem_append_left _ (List.mem_of_getElem? (i := 41) rfl)))), by decide +kernel⟩
set_option maxRecDepth 20000 in
theorem zw_289 : Cond.selects "java/lang/IllegalStateException" ({ cls := "java/lang/Throwable", name := "fillInStackTrace", desc := "(I)Ljava/lang/Throwable;" } : MethodName) ({ cls := "java/lang/Throwable", name := "fillInStackTrace", desc := "(I)Ljava/lang/Throwable;" } : MethodName) ∈ wz := List.mem_filter.mpr ⟨(List.mem_append_right _ (List.mem_append_right _ (List.mem_append_left _ (List.mem_of_getElem? (i := 49) rfl)))), by decide +kernel⟩
set_option maxRecDepth 20000 in
theorem zw_290 : Cond.selects "java/lang/IllegalStateException" ({ cls := "java/lang/Throwable", name := "fillInStackTrace", desc := "()Ljava/lang/Throwable;" } : MethodName) ({ cls := "java/lang/Throwable", name := "fillInStackTrace", desc := "()Ljava/lang/Throwable;" } : MethodName) ∈ wz := List.mem_filter.mpr ⟨(List.mem_append_right _ (List.mem_append_right _ (List.mem_append_left _ (List.mem_of_getElem? (i := 50) rfl)))), by decide +kernel⟩
set_option maxRecDepth 20000 in
theorem zw_291 : Cond.lays "java/lang/IllegalStateException" "java/lang/Throwable" "cause" "Ljava/lang/Throwable;" ∈ wz := List.mem_filter.mpr ⟨(List.mem_append_right _ (List.mem_append_right _ (List.mem_append_left _ (List.mem_of_getElem? (i := 51) rfl)))), by decide +kernel⟩
set_option maxRecDepth 20000 in
theorem zw_292 : Cond.lays "java/lang/Throwable" "java/lang/Throwable" "cause" "Ljava/lang/Throwable;" ∈ wz := List.mem_filter.mpr ⟨(List.mem_append_right _ (List.mem_append_right _ (List.mem_append_left _ (List.mem_of_getElem? (i := 52) rfl)))), by decide +kernel⟩
set_option maxRecDepth 20000 in
theorem zw_293 : Cond.lays "java/lang/IllegalStateException" "java/lang/Throwable" "stackTrace" "[Ljava/lang/StackTraceElement;" ∈ wz := List.mem_filter.mpr ⟨(List.mem_append_right _ (List.mem_append_right _ (List.mem_append_left _ (List.mem_of_getElem? (i := 53) rfl)))), by decide +kernel⟩
set_option maxRecDepth 20000 in
theorem zw_294 : Cond.lays "java/lang/Throwable" "java/lang/Throwable" "stackTrace" "[Ljava/lang/StackTraceElement;" ∈ wz := List.mem_filter.mpr ⟨(List.mem_append_right _ (List.mem_append_right _ (List.mem_append_left _ (List.mem_of_getElem? (i := 54) rfl)))), by decide +kernel⟩
set_option maxRecDepth 20000 in
theorem zw_295 : Cond.lays "java/lang/IllegalStateException" "java/lang/Throwable" "suppressedExceptions" "Ljava/util/List;" ∈ wz := List.mem_filter.mpr ⟨(List.mem_append_right _ (List.mem_append_right _ (List.mem_append_left _ (List.mem_of_getElem? (i := 55) rfl)))), by decide +kernel⟩
set_option maxRecDepth 20000 in
theorem zw_296 : Cond.lays "java/lang/Throwable" "java/lang/Throwable" "suppressedExceptions" "Ljava/util/List;" ∈ wz := List.mem_filter.mpr ⟨(List.mem_append_right _ (List.mem_append_right _ (List.mem_append_left _ (List.mem_of_getElem? (i := 56) rfl)))), by decide +kernel⟩
set_option maxRecDepth 20000 in
theorem zw_297 : Cond.lays "java/lang/IllegalStateException" "java/lang/Throwable" "detailMessage" "Ljava/lang/String;" ∈ wz := List.mem_filter.mpr ⟨(List.mem_append_right _ (List.mem_append_right _ (List.mem_append_left _ (List.mem_of_getElem? (i := 57) rfl)))), by decide +kernel⟩
set_option maxRecDepth 20000 in
theorem zw_298 : Cond.lays "java/lang/Throwable" "java/lang/Throwable" "detailMessage" "Ljava/lang/String;" ∈ wz := List.mem_filter.mpr ⟨(List.mem_append_right _ (List.mem_append_right _ (List.mem_append_left _ (List.mem_of_getElem? (i := 58) rfl)))), by decide +kernel⟩
set_option maxRecDepth 20000 in
theorem zw_299 : Cond.lays "java/lang/IllegalStateException" "java/lang/Throwable" "backtrace" "Ljava/lang/Object;" ∈ wz := List.mem_filter.mpr ⟨(List.mem_append_right _ (List.mem_append_right _ (List.mem_append_left _ (List.mem_of_getElem? (i := 59) rfl)))), by decide +kernel⟩
set_option maxRecDepth 20000 in
theorem zw_300 : Cond.lays "java/lang/Throwable" "java/lang/Throwable" "backtrace" "Ljava/lang/Object;" ∈ wz := List.mem_filter.mpr ⟨(List.mem_append_right _ (List.mem_append_right _ (List.mem_append_left _ (List.mem_of_getElem? (i := 60) rfl)))), by decide +kernel⟩
set_option maxRecDepth 20000 in
theorem zw_301 : Cond.fieldLink "java/lang/Throwable" (198 : Nat) "java/lang/Throwable" "backtrace" "Ljava/lang/Object;" ∈ wz := List.mem_filter.mpr ⟨(List.mem_append_right _ (List.mem_append_right _ (List.mem_append_left _ (List.mem_of_getElem? (i := 61) rfl)))), by decide +kernel⟩
set_option maxRecDepth 20000 in
theorem zw_302 : Cond.superclass "java/lang/Throwable" "java/lang/Object" ∈ wz := List.mem_filter.mpr ⟨(List.mem_append_right _ (List.mem_append_right _ (List.mem_append_left _ (List.mem_of_getElem? (i := 62) rfl)))), by decide +kernel⟩
set_option maxRecDepth 20000 in
theorem zw_303 : Cond.instanceMethod ({ cls := "java/lang/Throwable", name := "<init>", desc := "()V" } : MethodName) ∈ wz := List.mem_filter.mpr ⟨(List.mem_append_right _ (List.mem_append_right _ (List.mem_append_left _ (List.mem_of_getElem? (i := 63) rfl)))), by decide +kernel⟩
set_option maxRecDepth 20000 in
theorem zw_304 : Cond.code ({ cls := "java/lang/Throwable", name := "<init>", desc := "()V" } : MethodName) prog_17_method_1_code (1 : Nat) (Option.none : Option ClassFile.FieldType) ∈ wz := List.mem_filter.mpr ⟨(List.mem_append_right _ (List.mem_append_right _ (List.mem_append_left _ (List.mem_of_getElem? (i := 64) rfl)))), by decide +kernel⟩
set_option maxRecDepth 20000 in
theorem zw_305 : Cond.methodLink "java/lang/Throwable" (1 : Nat) ({ cls := "java/lang/Object", name := "<init>", desc := "()V" } : MethodName) ∈ wz := List.mem_filter.mpr ⟨(List.mem_append_right _ (List.mem_append_right _ (List.mem_append_left _ (List.mem_of_getElem? (i := 65) rfl)))), by decide +kernel⟩
set_option maxRecDepth 20000 in
theorem zw_306 : Cond.fieldLink "java/lang/Throwable" (13 : Nat) "java/lang/Throwable" "UNASSIGNED_STACK" "[Ljava/lang/StackTraceElement;" ∈ wz := List.mem_filter.mpr ⟨(List.mem_append_right _ (List.mem_append_right _ (List.mem_append_left _ (List.mem_of_getElem? (i := 66) rfl)))), by decide +kernel⟩
set_option maxRecDepth 20000 in
theorem zw_308 : Cond.fieldLink "java/lang/Throwable" (20 : Nat) "java/lang/Throwable" "SUPPRESSED_SENTINEL" "Ljava/util/List;" ∈ wz := List.mem_filter.mpr ⟨(List.mem_append_right _ (List.mem_append_right _ (List.mem_append_left _ (List.mem_of_getElem? (i := 68) rfl)))), by decide +kernel⟩
set_option maxRecDepth 20000 in
theorem zw_310 : Cond.methodLink "java/lang/Throwable" (27 : Nat) ({ cls := "java/lang/Throwable", name := "fillInStackTrace", desc := "()Ljava/lang/Throwable;" } : MethodName) ∈ wz := List.mem_filter.mpr ⟨(List.mem_append_right _ (List.mem_append_right _ (List.mem_append_left _ (List.mem_of_getElem? (i := 70) rfl)))), by decide +kernel⟩
set_option maxRecDepth 20000 in
theorem zw_311 : Cond.instanceMethod ({ cls := "java/lang/Throwable", name := "fillInStackTrace", desc := "()Ljava/lang/Throwable;" } : MethodName) ∈ wz := List.mem_filter.mpr ⟨(List.mem_append_right _ (List.mem_append_right _ (List.mem_append_left _ (List.mem_of_getElem? (i := 71) rfl)))), by decide +kernel⟩
set_option maxRecDepth 20000 in
theorem zw_312 : Cond.sameMethod "java/lang/Throwable" "java/lang/Throwable" "fillInStackTrace" "()Ljava/lang/Throwable;" ∈ wz := List.mem_filter.mpr ⟨(List.mem_append_right _ (List.mem_append_right _ (List.mem_append_left _ (List.mem_of_getElem? (i := 72) rfl)))), by decide +kernel⟩
set_option maxRecDepth 20000 in
theorem zw_313 : Cond.selects "java/lang/ArithmeticException" ({ cls := "java/lang/Throwable", name := "fillInStackTrace", desc := "()Ljava/lang/Throwable;" } : MethodName) ({ cls := "java/lang/Throwable", name := "fillInStackTrace", desc := "()Ljava/lang/Throwable;" } : MethodName) ∈ wz := List.mem_filter.mpr ⟨(List.mem_append_right _ (List.mem_append_right _ (List.mem_append_left _ (List.mem_of_getElem? (i := 73) rfl)))), by decide +kernel⟩
set_option maxRecDepth 20000 in
theorem zw_314 : Cond.selects "java/lang/IllegalArgumentException" ({ cls := "java/lang/Throwable", name := "fillInStackTrace", desc := "()Ljava/lang/Throwable;" } : MethodName) ({ cls := "java/lang/Throwable", name := "fillInStackTrace", desc := "()Ljava/lang/Throwable;" } : MethodName) ∈ wz := List.mem_filter.mpr ⟨(List.mem_append_right _ (List.mem_append_right _ (List.mem_append_left _ (List.mem_of_getElem? (i := 74) rfl)))), by decide +kernel⟩
set_option maxRecDepth 20000 in
theorem zw_315 : Cond.selects "java/lang/IndexOutOfBoundsException" ({ cls := "java/lang/Throwable", name := "fillInStackTrace", desc := "()Ljava/lang/Throwable;" } : MethodName) ({ cls := "java/lang/Throwable", name := "fillInStackTrace", desc := "()Ljava/lang/Throwable;" } : MethodName) ∈ wz := List.mem_filter.mpr ⟨(List.mem_append_right _ (List.mem_append_right _ (List.mem_append_left _ (List.mem_of_getElem? (i := 75) rfl)))), by decide +kernel⟩
set_option maxRecDepth 20000 in
theorem zw_317 : Cond.methodLink "java/lang/Throwable" (202 : Nat) ({ cls := "java/lang/Throwable", name := "fillInStackTrace", desc := "(I)Ljava/lang/Throwable;" } : MethodName) ∈ wz := List.mem_filter.mpr ⟨(List.mem_append_right _ (List.mem_append_right _ (List.mem_append_left _ (List.mem_of_getElem? (i := 77) rfl)))), by decide +kernel⟩
set_option maxRecDepth 20000 in
theorem zw_319 : Cond.instanceMethod ({ cls := "java/lang/Throwable", name := "fillInStackTrace", desc := "(I)Ljava/lang/Throwable;" } : MethodName) ∈ wz := List.mem_filter.mpr ⟨(List.mem_append_right _ (List.mem_append_right _ (List.mem_append_left _ (List.mem_of_getElem? (i := 79) rfl)))), by decide +kernel⟩
set_option maxRecDepth 20000 in
theorem zw_320 : Cond.instantiable "java/lang/Throwable" (6 : Nat) ∈ wz := List.mem_filter.mpr ⟨(List.mem_append_right _ (List.mem_append_right _ (List.mem_append_left _ (List.mem_of_getElem? (i := 80) rfl)))), by decide +kernel⟩
set_option maxRecDepth 20000 in
theorem zw_321 : Cond.native ({ cls := "java/lang/Throwable", name := "fillInStackTrace", desc := "(I)Ljava/lang/Throwable;" } : MethodName) ∈ wz := List.mem_filter.mpr ⟨(List.mem_append_right _ (List.mem_append_right _ (List.mem_append_left _ (List.mem_of_getElem? (i := 81) rfl)))), by decide +kernel⟩
set_option maxRecDepth 20000 in
theorem zw_323 : Cond.methodLink "DeltaPress" (66 : Nat) ({ cls := "java/lang/IllegalStateException", name := "<init>", desc := "(Ljava/lang/String;)V" } : MethodName) ∈ wz := List.mem_filter.mpr ⟨(List.mem_append_right _ (List.mem_append_right _ (List.mem_append_left _ (List.mem_of_getElem? (i := 83) rfl)))), by decide +kernel⟩
set_option maxRecDepth 20000 in
theorem zw_324 : Cond.instanceMethod ({ cls := "java/lang/IllegalStateException", name := "<init>", desc := "(Ljava/lang/String;)V" } : MethodName) ∈ wz := List.mem_filter.mpr ⟨(List.mem_append_right _ (List.mem_append_right _ (List.mem_append_left _ (List.mem_of_getElem? (i := 84) rfl)))), by decide +kernel⟩
set_option maxRecDepth 20000 in
theorem zw_325 : Cond.code ({ cls := "java/lang/IllegalStateException", name := "<init>", desc := "(Ljava/lang/String;)V" } : MethodName) prog_10_method_2_code (2 : Nat) (Option.none : Option ClassFile.FieldType) ∈ wz := List.mem_filter.mpr ⟨(List.mem_append_right _ (List.mem_append_right _ (List.mem_append_left _ (List.mem_of_getElem? (i := 85) rfl)))), by decide +kernel⟩
set_option maxRecDepth 20000 in
theorem zw_326 : Cond.methodLink "java/lang/IllegalStateException" (7 : Nat) ({ cls := "java/lang/RuntimeException", name := "<init>", desc := "(Ljava/lang/String;)V" } : MethodName) ∈ wz := List.mem_filter.mpr ⟨(List.mem_append_right _ (List.mem_append_right _ (List.mem_append_left _ (List.mem_of_getElem? (i := 86) rfl)))), by decide +kernel⟩
set_option maxRecDepth 20000 in
theorem zw_327 : Cond.instanceMethod ({ cls := "java/lang/RuntimeException", name := "<init>", desc := "(Ljava/lang/String;)V" } : MethodName) ∈ wz := List.mem_filter.mpr ⟨(List.mem_append_right _ (List.mem_append_right _ (List.mem_append_left _ (List.mem_of_getElem? (i := 87) rfl)))), by decide +kernel⟩
set_option maxRecDepth 20000 in
theorem zw_328 : Cond.code ({ cls := "java/lang/RuntimeException", name := "<init>", desc := "(Ljava/lang/String;)V" } : MethodName) prog_14_method_2_code (2 : Nat) (Option.none : Option ClassFile.FieldType) ∈ wz := List.mem_filter.mpr ⟨(List.mem_append_right _ (List.mem_append_right _ (List.mem_append_left _ (List.mem_of_getElem? (i := 88) rfl)))), by decide +kernel⟩
set_option maxRecDepth 20000 in
theorem zw_329 : Cond.methodLink "java/lang/RuntimeException" (7 : Nat) ({ cls := "java/lang/Exception", name := "<init>", desc := "(Ljava/lang/String;)V" } : MethodName) ∈ wz := List.mem_filter.mpr ⟨(List.mem_append_right _ (List.mem_append_right _ (List.mem_append_left _ (List.mem_of_getElem? (i := 89) rfl)))), by decide +kernel⟩
set_option maxRecDepth 20000 in
theorem zw_330 : Cond.instanceMethod ({ cls := "java/lang/Exception", name := "<init>", desc := "(Ljava/lang/String;)V" } : MethodName) ∈ wz := List.mem_filter.mpr ⟨(List.mem_append_right _ (List.mem_append_right _ (List.mem_append_left _ (List.mem_of_getElem? (i := 90) rfl)))), by decide +kernel⟩
set_option maxRecDepth 20000 in
theorem zw_331 : Cond.code ({ cls := "java/lang/Exception", name := "<init>", desc := "(Ljava/lang/String;)V" } : MethodName) prog_8_method_2_code (2 : Nat) (Option.none : Option ClassFile.FieldType) ∈ wz := List.mem_filter.mpr ⟨(List.mem_append_right _ (List.mem_append_right _ (List.mem_append_left _ (List.mem_of_getElem? (i := 91) rfl)))), by decide +kernel⟩
set_option maxRecDepth 20000 in
theorem zw_332 : Cond.methodLink "java/lang/Exception" (7 : Nat) ({ cls := "java/lang/Throwable", name := "<init>", desc := "(Ljava/lang/String;)V" } : MethodName) ∈ wz := List.mem_filter.mpr ⟨(List.mem_append_right _ (List.mem_append_right _ (List.mem_append_left _ (List.mem_of_getElem? (i := 92) rfl)))), by decide +kernel⟩
set_option maxRecDepth 20000 in
theorem zw_333 : Cond.instanceMethod ({ cls := "java/lang/Throwable", name := "<init>", desc := "(Ljava/lang/String;)V" } : MethodName) ∈ wz := List.mem_filter.mpr ⟨(List.mem_append_right _ (List.mem_append_right _ (List.mem_append_left _ (List.mem_of_getElem? (i := 93) rfl)))), by decide +kernel⟩
set_option maxRecDepth 20000 in
theorem zw_334 : Cond.code ({ cls := "java/lang/Throwable", name := "<init>", desc := "(Ljava/lang/String;)V" } : MethodName) prog_17_method_2_code (2 : Nat) (Option.none : Option ClassFile.FieldType) ∈ wz := List.mem_filter.mpr ⟨(List.mem_append_right _ (List.mem_append_right _ (List.mem_append_left _ (List.mem_of_getElem? (i := 94) rfl)))), by decide +kernel⟩
set_option maxRecDepth 20000 in
theorem zw_335 : Cond.fieldLink "java/lang/Throwable" (198 : Nat) "java/lang/Throwable" "backtrace" "Ljava/lang/Object;" ∈ wz := List.mem_filter.mpr ⟨(List.mem_append_right _ (List.mem_append_right _ (List.mem_append_left _ (List.mem_of_getElem? (i := 95) rfl)))), by decide +kernel⟩
set_option maxRecDepth 20000 in
theorem zw_336 : Cond.fieldLink "java/lang/Throwable" (31 : Nat) "java/lang/Throwable" "detailMessage" "Ljava/lang/String;" ∈ wz := List.mem_filter.mpr ⟨(List.mem_append_right _ (List.mem_append_right _ (List.mem_append_left _ (List.mem_of_getElem? (i := 96) rfl)))), by decide +kernel⟩
set_option maxRecDepth 20000 in
theorem zw_337 : Cond.fieldLink "java/lang/Throwable" (7 : Nat) "java/lang/Throwable" "cause" "Ljava/lang/Throwable;" ∈ wz := List.mem_filter.mpr ⟨(List.mem_append_right _ (List.mem_append_right _ (List.mem_append_left _ (List.mem_of_getElem? (i := 97) rfl)))), by decide +kernel⟩
set_option maxRecDepth 20000 in
theorem zw_338 : Cond.fieldLink "java/lang/Throwable" (17 : Nat) "java/lang/Throwable" "stackTrace" "[Ljava/lang/StackTraceElement;" ∈ wz := List.mem_filter.mpr ⟨(List.mem_append_right _ (List.mem_append_right _ (List.mem_append_left _ (List.mem_of_getElem? (i := 98) rfl)))), by decide +kernel⟩
set_option maxRecDepth 20000 in
theorem zw_339 : Cond.fieldLink "java/lang/Throwable" (24 : Nat) "java/lang/Throwable" "suppressedExceptions" "Ljava/util/List;" ∈ wz := List.mem_filter.mpr ⟨(List.mem_append_right _ (List.mem_append_right _ (List.mem_append_left _ (List.mem_of_getElem? (i := 99) rfl)))), by decide +kernel⟩
set_option maxRecDepth 20000 in
theorem zw_340 : Cond.soleField "java/lang/Throwable" "backtrace" ∈ wz := List.mem_filter.mpr ⟨(List.mem_append_right _ (List.mem_append_right _ (List.mem_append_left _ (List.mem_of_getElem? (i := 100) rfl)))), by decide +kernel⟩
set_option maxRecDepth 20000 in
theorem zw_341 : Cond.soleField "java/lang/Throwable" "detailMessage" ∈ wz := List.mem_filter.mpr ⟨(List.mem_append_right _ (List.mem_append_right _ (List.mem_append_left _ (List.mem_of_getElem? (i := 101) rfl)))), by decide +kernel⟩
set_option maxRecDepth 20000 in
theorem zw_342 : Cond.soleField "java/lang/Throwable" "cause" ∈ wz := List.mem_filter.mpr ⟨(List.mem_append_right _ (List.mem_append_right _ (List.mem_append_left _ (List.mem_of_getElem? (i := 102) rfl)))), by decide +kernel⟩
set_option maxRecDepth 20000 in
theorem zw_343 : Cond.soleField "java/lang/Throwable" "stackTrace" ∈ wz := List.mem_filter.mpr ⟨(List.mem_append_right _ (List.mem_append_right _ (List.mem_append_left _ (List.mem_of_getElem? (i := 103) rfl)))), by decide +kernel⟩
set_option maxRecDepth 20000 in
theorem zw_344 : Cond.lays "java/lang/IllegalStateException" "java/lang/Throwable" "depth" "I" ∈ wz := List.mem_filter.mpr ⟨(List.mem_append_right _ (List.mem_append_right _ (List.mem_append_left _ (List.mem_of_getElem? (i := 104) rfl)))), by decide +kernel⟩
set_option maxRecDepth 20000 in
theorem zw_345 : Cond.soleField "java/lang/Throwable" "depth" ∈ wz := List.mem_filter.mpr ⟨(List.mem_append_right _ (List.mem_append_right _ (List.mem_append_left _ (List.mem_of_getElem? (i := 105) rfl)))), by decide +kernel⟩
set_option maxRecDepth 20000 in
theorem zw_346 : Cond.soleField "java/lang/Throwable" "suppressedExceptions" ∈ wz := List.mem_filter.mpr ⟨(List.mem_append_right _ (List.mem_append_right _ (List.mem_append_left _ (List.mem_of_getElem? (i := 106) rfl)))), by decide +kernel⟩
set_option maxRecDepth 20000 in
theorem zw_347 : Cond.superclass "java/lang/IllegalStateException" "java/lang/RuntimeException" ∈ wz := List.mem_filter.mpr ⟨(List.mem_append_right _ (List.mem_append_right _ (List.mem_append_left _ (List.mem_of_getElem? (i := 107) rfl)))), by decide +kernel⟩
set_option maxRecDepth 20000 in
theorem zw_348 : Cond.methodLink "DeltaPress" (69 : Nat) ({ cls := "DeltaPress$Text", name := "addFour", desc := "(I)V" } : MethodName) ∈ wz := List.mem_filter.mpr ⟨(List.mem_append_right _ (List.mem_append_right _ (List.mem_append_left _ (List.mem_of_getElem? (i := 108) rfl)))), by decide +kernel⟩
set_option maxRecDepth 20000 in
theorem zw_349 : Cond.instanceMethod ({ cls := "DeltaPress$Text", name := "addFour", desc := "(I)V" } : MethodName) ∈ wz := List.mem_filter.mpr ⟨(List.mem_append_right _ (List.mem_append_right _ (List.mem_append_left _ (List.mem_of_getElem? (i := 109) rfl)))), by decide +kernel⟩
set_option maxRecDepth 20000 in
theorem zw_350 : Cond.selects "DeltaPress$Text" ({ cls := "DeltaPress$Text", name := "addFour", desc := "(I)V" } : MethodName) ({ cls := "DeltaPress$Text", name := "addFour", desc := "(I)V" } : MethodName) ∈ wz := List.mem_filter.mpr ⟨(List.mem_append_right _ (List.mem_append_right _ (List.mem_append_left _ (List.mem_of_getElem? (i := 110) rfl)))), by decide +kernel⟩
set_option maxRecDepth 20000 in
theorem zw_351 : Cond.code ({ cls := "DeltaPress$Text", name := "addFour", desc := "(I)V" } : MethodName) prog_4_method_9_code (2 : Nat) (Option.none : Option ClassFile.FieldType) ∈ wz := List.mem_filter.mpr ⟨(List.mem_append_right _ (List.mem_append_right _ (List.mem_append_left _ (List.mem_of_getElem? (i := 111) rfl)))), by decide +kernel⟩
set_option maxRecDepth 20000 in
theorem zw_352 : Cond.methodLink "DeltaPressLaw" (56 : Nat) ({ cls := "DeltaPressLaw", name := "end", desc := "(LDeltaPress;I[J)I" } : MethodName) ∈ wz := List.mem_filter.mpr ⟨(List.mem_append_right _ (List.mem_append_right _ (List.mem_append_left _ (List.mem_of_getElem? (i := 112) rfl)))), by decide +kernel⟩
set_option maxRecDepth 20000 in
theorem zw_353 : Cond.static ({ cls := "DeltaPressLaw", name := "end", desc := "(LDeltaPress;I[J)I" } : MethodName) ∈ wz := List.mem_filter.mpr ⟨(List.mem_append_right _ (List.mem_append_right _ (List.mem_append_left _ (List.mem_of_getElem? (i := 113) rfl)))), by decide +kernel⟩
set_option maxRecDepth 20000 in
theorem zw_355 : Cond.classLink "DeltaPressLaw" (19 : Nat) "java/lang/IllegalArgumentException" ∈ wz := List.mem_filter.mpr ⟨(List.mem_append_right _ (List.mem_append_right _ (List.mem_append_left _ (List.mem_of_getElem? (i := 115) rfl)))), by decide +kernel⟩
set_option maxRecDepth 20000 in
theorem zw_356 : Cond.methodLink "DeltaPressLaw" (15 : Nat) ({ cls := "DeltaPress", name := "end", desc := "(I)I" } : MethodName) ∈ wz := List.mem_filter.mpr ⟨(List.mem_append_right _ (List.mem_append_right _ (List.mem_append_left _ (List.mem_of_getElem? (i := 116) rfl)))), by decide +kernel⟩
set_option maxRecDepth 20000 in
theorem zw_357 : Cond.instanceMethod ({ cls := "DeltaPress", name := "end", desc := "(I)I" } : MethodName) ∈ wz := List.mem_filter.mpr ⟨(List.mem_append_right _ (List.mem_append_right _ (List.mem_append_left _ (List.mem_of_getElem? (i := 117) rfl)))), by decide +kernel⟩
set_option maxRecDepth 20000 in
theorem zw_358 : Cond.selects "DeltaPress" ({ cls := "DeltaPress", name := "end", desc := "(I)I" } : MethodName) ({ cls := "DeltaPress", name := "end", desc := "(I)I" } : MethodName) ∈ wz := List.mem_filter.mpr ⟨(List.mem_append_right _ (List.mem_append_right _ (List.mem_append_left _ (List.mem_of_getElem? (i := 118) rfl)))), by decide +kernel⟩
set_option maxRecDepth 20000 in
theorem zw_359 : Cond.code ({ cls := "DeltaPress", name := "end", desc := "(I)I" } : MethodName) prog_1_method_3_code (2 : Nat) (Option.some ClassFile.FieldType.int) ∈ wz := List.mem_filter.mpr ⟨(List.mem_append_right _ (List.mem_append_right _ (List.mem_append_left _ (List.mem_of_getElem? (i := 119) rfl)))), by decide +kernel⟩
set_option maxRecDepth 20000 in
theorem zw_360 : Cond.classLink "DeltaPress" (72 : Nat) "java/lang/IllegalArgumentException" ∈ wz := List.mem_filter.mpr ⟨(List.mem_append_right _ (List.mem_append_right _ (List.mem_append_left _ (List.mem_of_getElem? (i := 120) rfl)))), by decide +kernel⟩
set_option maxRecDepth 20000 in
theorem zw_361 : Cond.instantiable "java/lang/IllegalArgumentException" (6 : Nat) ∈ wz := List.mem_filter.mpr ⟨(List.mem_append_right _ (List.mem_append_right _ (List.mem_append_left _ (List.mem_of_getElem? (i := 121) rfl)))), by decide +kernel⟩
set_option maxRecDepth 20000 in
theorem zw_363 : Cond.selects "java/lang/IllegalArgumentException" ({ cls := "java/lang/Throwable", name := "fillInStackTrace", desc := "(I)Ljava/lang/Throwable;" } : MethodName) ({ cls := "java/lang/Throwable", name := "fillInStackTrace", desc := "(I)Ljava/lang/Throwable;" } : MethodName) ∈ wz := List.mem_filter.mpr ⟨(List.mem_append_right _ (List.mem_append_right _ (List.mem_append_left _ (List.mem_of_getElem? (i := 123) rfl)))), by decide +kernel⟩
set_option maxRecDepth 20000 in
theorem zw_364 : Cond.lays "java/lang/IllegalArgumentException" "java/lang/Throwable" "cause" "Ljava/lang/Throwable;" ∈ wz := List.mem_filter.mpr ⟨(List.mem_append_right _ (List.mem_append_right _ (List.mem_append_left _ (List.mem_of_getElem? (i := 124) rfl)))), by decide +kernel⟩
set_option maxRecDepth 20000 in
theorem zw_365 : Cond.lays "java/lang/IllegalArgumentException" "java/lang/Throwable" "stackTrace" "[Ljava/lang/StackTraceElement;" ∈ wz := List.mem_filter.mpr ⟨(List.mem_append_right _ (List.mem_append_right _ (List.mem_append_left _ (List.mem_of_getElem? (i := 125) rfl)))), by decide +kernel⟩
set_option maxRecDepth 20000 in
theorem zw_366 : Cond.lays "java/lang/IllegalArgumentException" "java/lang/Throwable" "suppressedExceptions" "Ljava/util/List;" ∈ wz := List.mem_filter.mpr ⟨(List.mem_append_right _ (List.mem_append_right _ (List.mem_append_left _ (List.mem_of_getElem? (i := 126) rfl)))), by decide +kernel⟩
set_option maxRecDepth 20000 in
theorem zw_367 : Cond.lays "java/lang/IllegalArgumentException" "java/lang/Throwable" "detailMessage" "Ljava/lang/String;" ∈ wz := List.mem_filter.mpr ⟨(List.mem_append_right _ (List.mem_append_right _ (List.mem_append_left _ (List.mem_of_getElem? (i := 127) rfl)))), by decide +kernel⟩
set_option maxRecDepth 20000 in
theorem zw_368 : Cond.lays "java/lang/IllegalArgumentException" "java/lang/Throwable" "backtrace" "Ljava/lang/Object;" ∈ wz := List.mem_filter.mpr ⟨(List.mem_append_right _ (List.mem_append_right _ (List.mem_append_left _ (List.mem_of_getElem? (i := 128) rfl)))), by decide +kernel⟩
set_option maxRecDepth 20000 in
theorem zw_370 : Cond.methodLink "DeltaPress" (76 : Nat) ({ cls := "java/lang/IllegalArgumentException", name := "<init>", desc := "(Ljava/lang/String;)V" } : MethodName) ∈ wz := List.mem_filter.mpr ⟨(List.mem_append_right _ (List.mem_append_right _ (List.mem_append_left _ (List.mem_of_getElem? (i := 130) rfl)))), by decide +kernel⟩
set_option maxRecDepth 20000 in
theorem zw_371 : Cond.instanceMethod ({ cls := "java/lang/IllegalArgumentException", name := "<init>", desc := "(Ljava/lang/String;)V" } : MethodName) ∈ wz := List.mem_filter.mpr ⟨(List.mem_append_right _ (List.mem_append_right _ (List.mem_append_left _ (List.mem_of_getElem? (i := 131) rfl)))), by decide +kernel⟩
set_option maxRecDepth 20000 in
theorem zw_372 : Cond.code ({ cls := "java/lang/IllegalArgumentException", name := "<init>", desc := "(Ljava/lang/String;)V" } : MethodName) prog_9_method_2_code (2 : Nat) (Option.none : Option ClassFile.FieldType) ∈ wz := List.mem_filter.mpr ⟨(List.mem_append_right _ (List.mem_append_right _ (List.mem_append_left _ (List.mem_of_getElem? (i := 132) rfl)))), by decide +kernel⟩
set_option maxRecDepth 20000 in
theorem zw_373 : Cond.methodLink "java/lang/IllegalArgumentException" (7 : Nat) ({ cls := "java/lang/RuntimeException", name := "<init>", desc := "(Ljava/lang/String;)V" } : MethodName) ∈ wz := List.mem_filter.mpr ⟨(List.mem_append_right _ (List.mem_append_right _ (List.mem_append_left _ (List.mem_of_getElem? (i := 133) rfl)))), by decide +kernel⟩
set_option maxRecDepth 20000 in
theorem zw_374 : Cond.lays "java/lang/IllegalArgumentException" "java/lang/Throwable" "depth" "I" ∈ wz := List.mem_filter.mpr ⟨(List.mem_append_right _ (List.mem_append_right _ (List.mem_append_left _ (List.mem_of_getElem? (i := 134) rfl)))), by decide +kernel⟩
set_option maxRecDepth 20000 in
theorem zw_375 : Cond.superclass "java/lang/IllegalArgumentException" "java/lang/RuntimeException" ∈ wz := List.mem_filter.mpr ⟨(List.mem_append_right _ (List.mem_append_right _ (List.mem_append_left _ (List.mem_of_getElem? (i := 135) rfl)))), by decide +kernel⟩
set_option maxRecDepth 20000 in
theorem zw_376 : Cond.methodLink "DeltaPressLaw" (60 : Nat) ({ cls := "DeltaPressLaw", name := "change", desc := "(LDeltaPress;II)I" } : MethodName) ∈ wz := List.mem_filter.mpr ⟨(List.mem_append_right _ (List.mem_append_right _ (List.mem_append_left _ (List.mem_of_getElem? (i := 136) rfl)))), by decide +kernel⟩
set_option maxRecDepth 20000 in
theorem zw_377 : Cond.static ({ cls := "DeltaPressLaw", name := "change", desc := "(LDeltaPress;II)I" } : MethodName) ∈ wz := List.mem_filter.mpr ⟨(List.mem_append_right _ (List.mem_append_right _ (List.mem_append_left _ (List.mem_of_getElem? (i := 137) rfl)))), by decide +kernel⟩
set_option maxRecDepth 20000 in
theorem zw_379 : Cond.methodLink "DeltaPressLaw" (21 : Nat) ({ cls := "DeltaPress", name := "change", desc := "(II)V" } : MethodName) ∈ wz := List.mem_filter.mpr ⟨(List.mem_append_right _ (List.mem_append_right _ (List.mem_append_left _ (List.mem_of_getElem? (i := 139) rfl)))), by decide +kernel⟩
set_option maxRecDepth 20000 in
theorem zw_380 : Cond.instanceMethod ({ cls := "DeltaPress", name := "change", desc := "(II)V" } : MethodName) ∈ wz := List.mem_filter.mpr ⟨(List.mem_append_right _ (List.mem_append_right _ (List.mem_append_left _ (List.mem_of_getElem? (i := 140) rfl)))), by decide +kernel⟩
set_option maxRecDepth 20000 in
theorem zw_381 : Cond.selects "DeltaPress" ({ cls := "DeltaPress", name := "change", desc := "(II)V" } : MethodName) ({ cls := "DeltaPress", name := "change", desc := "(II)V" } : MethodName) ∈ wz := List.mem_filter.mpr ⟨(List.mem_append_right _ (List.mem_append_right _ (List.mem_append_left _ (List.mem_of_getElem? (i := 141) rfl)))), by decide +kernel⟩
set_option maxRecDepth 20000 in
theorem zw_382 : Cond.code ({ cls := "DeltaPress", name := "change", desc := "(II)V" } : MethodName) prog_1_method_4_code (3 : Nat) (Option.none : Option ClassFile.FieldType) ∈ wz := List.mem_filter.mpr ⟨(List.mem_append_right _ (List.mem_append_right _ (List.mem_append_left _ (List.mem_of_getElem? (i := 142) rfl)))), by decide +kernel⟩
set_option maxRecDepth 20000 in
theorem zw_383 : Cond.methodLink "DeltaPress" (80 : Nat) ({ cls := "DeltaPress$Text", name := "has", desc := "(I)Z" } : MethodName) ∈ wz := List.mem_filter.mpr ⟨(List.mem_append_right _ (List.mem_append_right _ (List.mem_append_left _ (List.mem_of_getElem? (i := 143) rfl)))), by decide +kernel⟩
set_option maxRecDepth 20000 in
theorem zw_384 : Cond.instanceMethod ({ cls := "DeltaPress$Text", name := "has", desc := "(I)Z" } : MethodName) ∈ wz := List.mem_filter.mpr ⟨(List.mem_append_right _ (List.mem_append_right _ (List.mem_append_left _ (List.mem_of_getElem? (i := 144) rfl)))), by decide +kernel⟩
set_option maxRecDepth 20000 in
theorem zw_385 : Cond.selects "DeltaPress$Text" ({ cls := "DeltaPress$Text", name := "has", desc := "(I)Z" } : MethodName) ({ cls := "DeltaPress$Text", name := "has", desc := "(I)Z" } : MethodName) ∈ wz := List.mem_filter.mpr ⟨(List.mem_append_right _ (List.mem_append_right _ (List.mem_append_left _ (List.mem_of_getElem? (i := 145) rfl)))), by decide +kernel⟩
set_option maxRecDepth 20000 in
theorem zw_386 : Cond.code ({ cls := "DeltaPress$Text", name := "has", desc := "(I)Z" } : MethodName) prog_4_method_3_code (2 : Nat) (Option.some ClassFile.FieldType.boolean) ∈ wz := List.mem_filter.mpr ⟨(List.mem_append_right _ (List.mem_append_right _ (List.mem_append_left _ (List.mem_of_getElem? (i := 146) rfl)))), by decide +kernel⟩
set_option maxRecDepth 20000 in
theorem zw_389 : Cond.methodLink "DeltaPress" (88 : Nat) ({ cls := "DeltaPress$Text", name := "flip", desc := "(II)V" } : MethodName) ∈ wz := List.mem_filter.mpr ⟨(List.mem_append_right _ (List.mem_append_right _ (List.mem_append_left _ (List.mem_of_getElem? (i := 149) rfl)))), by decide +kernel⟩
set_option maxRecDepth 20000 in
theorem zw_390 : Cond.instanceMethod ({ cls := "DeltaPress$Text", name := "flip", desc := "(II)V" } : MethodName) ∈ wz := List.mem_filter.mpr ⟨(List.mem_append_right _ (List.mem_append_right _ (List.mem_append_left _ (List.mem_of_getElem? (i := 150) rfl)))), by decide +kernel⟩
set_option maxRecDepth 20000 in
theorem zw_391 : Cond.selects "DeltaPress$Text" ({ cls := "DeltaPress$Text", name := "flip", desc := "(II)V" } : MethodName) ({ cls := "DeltaPress$Text", name := "flip", desc := "(II)V" } : MethodName) ∈ wz := List.mem_filter.mpr ⟨(List.mem_append_right _ (List.mem_append_right _ (List.mem_append_left _ (List.mem_of_getElem? (i := 151) rfl)))), by decide +kernel⟩
set_option maxRecDepth 20000 in
theorem zw_392 : Cond.code ({ cls := "DeltaPress$Text", name := "flip", desc := "(II)V" } : MethodName) prog_4_method_7_code (3 : Nat) (Option.none : Option ClassFile.FieldType) ∈ wz := List.mem_filter.mpr ⟨(List.mem_append_right _ (List.mem_append_right _ (List.mem_append_left _ (List.mem_of_getElem? (i := 152) rfl)))), by decide +kernel⟩
set_option maxRecDepth 20000 in
theorem zw_393 : Cond.methodLink "DeltaPressLaw" (72 : Nat) ({ cls := "DeltaPressLaw", name := "use", desc := "(LDeltaPress;[J)I" } : MethodName) ∈ wz := List.mem_filter.mpr ⟨(List.mem_append_right _ (List.mem_append_right _ (List.mem_append_left _ (List.mem_of_getElem? (i := 153) rfl)))), by decide +kernel⟩
set_option maxRecDepth 20000 in
theorem zw_394 : Cond.static ({ cls := "DeltaPressLaw", name := "use", desc := "(LDeltaPress;[J)I" } : MethodName) ∈ wz := List.mem_filter.mpr ⟨(List.mem_append_right _ (List.mem_append_right _ (List.mem_append_left _ (List.mem_of_getElem? (i := 154) rfl)))), by decide +kernel⟩
set_option maxRecDepth 20000 in
theorem zw_396 : Cond.classLink "DeltaPressLaw" (29 : Nat) "java/lang/ArithmeticException" ∈ wz := List.mem_filter.mpr ⟨(List.mem_append_right _ (List.mem_append_right _ (List.mem_append_left _ (List.mem_of_getElem? (i := 156) rfl)))), by decide +kernel⟩
set_option maxRecDepth 20000 in
theorem zw_397 : Cond.methodLink "DeltaPressLaw" (25 : Nat) ({ cls := "DeltaPress", name := "use", desc := "()I" } : MethodName) ∈ wz := List.mem_filter.mpr ⟨(List.mem_append_right _ (List.mem_append_right _ (List.mem_append_left _ (List.mem_of_getElem? (i := 157) rfl)))), by decide +kernel⟩
set_option maxRecDepth 20000 in
theorem zw_398 : Cond.instanceMethod ({ cls := "DeltaPress", name := "use", desc := "()I" } : MethodName) ∈ wz := List.mem_filter.mpr ⟨(List.mem_append_right _ (List.mem_append_right _ (List.mem_append_left _ (List.mem_of_getElem? (i := 158) rfl)))), by decide +kernel⟩
set_option maxRecDepth 20000 in
theorem zw_399 : Cond.selects "DeltaPress" ({ cls := "DeltaPress", name := "use", desc := "()I" } : MethodName) ({ cls := "DeltaPress", name := "use", desc := "()I" } : MethodName) ∈ wz := List.mem_filter.mpr ⟨(List.mem_append_right _ (List.mem_append_right _ (List.mem_append_left _ (List.mem_of_getElem? (i := 159) rfl)))), by decide +kernel⟩
set_option maxRecDepth 20000 in
theorem zw_400 : Cond.code ({ cls := "DeltaPress", name := "use", desc := "()I" } : MethodName) prog_1_method_7_code (2 : Nat) (Option.some ClassFile.FieldType.int) ∈ wz := List.mem_filter.mpr ⟨(List.mem_append_right _ (List.mem_append_right _ (List.mem_append_left _ (List.mem_of_getElem? (i := 160) rfl)))), by decide +kernel⟩
set_option maxRecDepth 20000 in
theorem zw_401 : Cond.methodLink "DeltaPress" (110 : Nat) ({ cls := "DeltaPress$DeltaReader", name := "isRead", desc := "(LDeltaPress$Text;LDeltaPress$Text;LDeltaPress$Text;)Z" } : MethodName) ∈ wz := List.mem_filter.mpr ⟨(List.mem_append_right _ (List.mem_append_right _ (List.mem_append_left _ (List.mem_of_getElem? (i := 161) rfl)))), by decide +kernel⟩
set_option maxRecDepth 20000 in
theorem zw_402 : Cond.instanceMethod ({ cls := "DeltaPress$DeltaReader", name := "isRead", desc := "(LDeltaPress$Text;LDeltaPress$Text;LDeltaPress$Text;)Z" } : MethodName) ∈ wz := List.mem_filter.mpr ⟨(List.mem_append_right _ (List.mem_append_right _ (List.mem_append_left _ (List.mem_of_getElem? (i := 162) rfl)))), by decide +kernel⟩
set_option maxRecDepth 20000 in
theorem zw_403 : Cond.selects "DeltaPress$DeltaReader" ({ cls := "DeltaPress$DeltaReader", name := "isRead", desc := "(LDeltaPress$Text;LDeltaPress$Text;LDeltaPress$Text;)Z" } : MethodName) ({ cls := "DeltaPress$DeltaReader", name := "isRead", desc := "(LDeltaPress$Text;LDeltaPress$Text;LDeltaPress$Text;)Z" } : MethodName) ∈ wz := List.mem_filter.mpr ⟨(List.mem_append_right _ (List.mem_append_right _ (List.mem_append_left _ (List.mem_of_getElem? (i := 163) rfl)))), by decide +kernel⟩
set_option maxRecDepth 20000 in
theorem zw_404 : Cond.code ({ cls := "DeltaPress$DeltaReader", name := "isRead", desc := "(LDeltaPress$Text;LDeltaPress$Text;LDeltaPress$Text;)Z" } : MethodName) prog_2_method_2_code (7 : Nat) (Option.some ClassFile.FieldType.boolean) ∈ wz := List.mem_filter.mpr ⟨(List.mem_append_right _ (List.mem_append_right _ (List.mem_append_left _ (List.mem_of_getElem? (i := 164) rfl)))), by decide +kernel⟩
set_option maxRecDepth 20000 in
theorem zw_405 : Cond.methodLink "DeltaPress$DeltaReader" (15 : Nat) ({ cls := "DeltaPress$Text", name := "cut", desc := "(I)V" } : MethodName) ∈ wz := List.mem_filter.mpr ⟨(List.mem_append_right _ (List.mem_append_right _ (List.mem_append_left _ (List.mem_of_getElem? (i := 165) rfl)))), by decide +kernel⟩
set_option maxRecDepth 20000 in
theorem zw_406 : Cond.methodLink "DeltaPress$DeltaReader" (21 : Nat) ({ cls := "DeltaPress$DeltaReader", name := "readNumber", desc := "(LDeltaPress$Text;)I" } : MethodName) ∈ wz := List.mem_filter.mpr ⟨(List.mem_append_right _ (List.mem_append_right _ (List.mem_append_left _ (List.mem_of_getElem? (i := 166) rfl)))), by decide +kernel⟩
set_option maxRecDepth 20000 in
theorem zw_408 : Cond.instanceMethod ({ cls := "DeltaPress$DeltaReader", name := "readNumber", desc := "(LDeltaPress$Text;)I" } : MethodName) ∈ wz := List.mem_filter.mpr ⟨(List.mem_append_right _ (List.mem_append_right _ (List.mem_append_left _ (List.mem_of_getElem? (i := 168) rfl)))), by decide +kernel⟩
set_option maxRecDepth 20000 in
theorem zw_409 : Cond.code ({ cls := "DeltaPress$DeltaReader", name := "readNumber", desc := "(LDeltaPress$Text;)I" } : MethodName) prog_2_method_3_code (5 : Nat) (Option.some ClassFile.FieldType.int) ∈ wz := List.mem_filter.mpr ⟨(List.mem_append_right _ (List.mem_append_right _ (List.mem_append_left _ (List.mem_of_getElem? (i := 169) rfl)))), by decide +kernel⟩
set_option maxRecDepth 20000 in
theorem zw_410 : Cond.methodLink "DeltaPress$DeltaReader" (25 : Nat) ({ cls := "DeltaPress$Text", name := "size", desc := "()I" } : MethodName) ∈ wz := List.mem_filter.mpr ⟨(List.mem_append_right _ (List.mem_append_right _ (List.mem_append_left _ (List.mem_of_getElem? (i := 170) rfl)))), by decide +kernel⟩
set_option maxRecDepth 20000 in
theorem zw_411 : Cond.methodLink "DeltaPress$DeltaReader" (30 : Nat) ({ cls := "DeltaPress$Text", name := "at", desc := "(I)I" } : MethodName) ∈ wz := List.mem_filter.mpr ⟨(List.mem_append_right _ (List.mem_append_right _ (List.mem_append_left _ (List.mem_of_getElem? (i := 171) rfl)))), by decide +kernel⟩
set_option maxRecDepth 20000 in
theorem zw_412 : Cond.instanceMethod ({ cls := "DeltaPress$Text", name := "at", desc := "(I)I" } : MethodName) ∈ wz := List.mem_filter.mpr ⟨(List.mem_append_right _ (List.mem_append_right _ (List.mem_append_left _ (List.mem_of_getElem? (i := 172) rfl)))), by decide +kernel⟩
set_option maxRecDepth 20000 in
theorem zw_413 : Cond.selects "DeltaPress$Text" ({ cls := "DeltaPress$Text", name := "at", desc := "(I)I" } : MethodName) ({ cls := "DeltaPress$Text", name := "at", desc := "(I)I" } : MethodName) ∈ wz := List.mem_filter.mpr ⟨(List.mem_append_right _ (List.mem_append_right _ (List.mem_append_left _ (List.mem_of_getElem? (i := 173) rfl)))), by decide +kernel⟩
set_option maxRecDepth 20000 in
theorem zw_414 : Cond.code ({ cls := "DeltaPress$Text", name := "at", desc := "(I)I" } : MethodName) prog_4_method_4_code (2 : Nat) (Option.some ClassFile.FieldType.int) ∈ wz := List.mem_filter.mpr ⟨(List.mem_append_right _ (List.mem_append_right _ (List.mem_append_left _ (List.mem_of_getElem? (i := 174) rfl)))), by decide +kernel⟩
set_option maxRecDepth 20000 in
theorem zw_415 : Cond.constant "DeltaPress$DeltaReader" (29 : Nat) (65536 : Int32) ∈ wz := List.mem_filter.mpr ⟨(List.mem_append_right _ (List.mem_append_right _ (List.mem_append_left _ (List.mem_of_getElem? (i := 175) rfl)))), by decide +kernel⟩
set_option maxRecDepth 20000 in
theorem zw_416 : Cond.methodLink "DeltaPress$DeltaReader" (34 : Nat) ({ cls := "DeltaPress$DeltaReader", name := "isCopyRead", desc := "(LDeltaPress$Text;ILDeltaPress$Text;LDeltaPress$Text;I)Z" } : MethodName) ∈ wz := List.mem_filter.mpr ⟨(List.mem_append_right _ (List.mem_append_right _ (List.mem_append_left _ (List.mem_of_getElem? (i := 176) rfl)))), by decide +kernel⟩
set_option maxRecDepth 20000 in
theorem zw_418 : Cond.instanceMethod ({ cls := "DeltaPress$DeltaReader", name := "isCopyRead", desc := "(LDeltaPress$Text;ILDeltaPress$Text;LDeltaPress$Text;I)Z" } : MethodName) ∈ wz := List.mem_filter.mpr ⟨(List.mem_append_right _ (List.mem_append_right _ (List.mem_append_left _ (List.mem_of_getElem? (i := 178) rfl)))), by decide +kernel⟩
set_option maxRecDepth 20000 in
theorem zw_419 : Cond.code ({ cls := "DeltaPress$DeltaReader", name := "isCopyRead", desc := "(LDeltaPress$Text;ILDeltaPress$Text;LDeltaPress$Text;I)Z" } : MethodName) prog_2_method_4_code (8 : Nat) (Option.some ClassFile.FieldType.boolean) ∈ wz := List.mem_filter.mpr ⟨(List.mem_append_right _ (List.mem_append_right _ (List.mem_append_left _ (List.mem_of_getElem? (i := 179) rfl)))), by decide +kernel⟩
set_option maxRecDepth 20000 in
theorem zw_420 : Cond.methodLink "DeltaPress$DeltaReader" (42 : Nat) ({ cls := "DeltaPress$DeltaReader", name := "readChosenBytes", desc := "(LDeltaPress$Text;II)I" } : MethodName) ∈ wz := List.mem_filter.mpr ⟨(List.mem_append_right _ (List.mem_append_right _ (List.mem_append_left _ (List.mem_of_getElem? (i := 180) rfl)))), by decide +kernel⟩
set_option maxRecDepth 20000 in
theorem zw_422 : Cond.instanceMethod ({ cls := "DeltaPress$DeltaReader", name := "readChosenBytes", desc := "(LDeltaPress$Text;II)I" } : MethodName) ∈ wz := List.mem_filter.mpr ⟨(List.mem_append_right _ (List.mem_append_right _ (List.mem_append_left _ (List.mem_of_getElem? (i := 182) rfl)))), by decide +kernel⟩
set_option maxRecDepth 20000 in
theorem zw_423 : Cond.code ({ cls := "DeltaPress$DeltaReader", name := "readChosenBytes", desc := "(LDeltaPress$Text;II)I" } : MethodName) prog_2_method_5_code (6 : Nat) (Option.some ClassFile.FieldType.int) ∈ wz := List.mem_filter.mpr ⟨(List.mem_append_right _ (List.mem_append_right _ (List.mem_append_left _ (List.mem_of_getElem? (i := 183) rfl)))), by decide +kernel⟩
set_option maxRecDepth 20000 in
theorem zw_424 : Cond.methodLink "DeltaPress$DeltaReader" (46 : Nat) ({ cls := "DeltaPress$Text", name := "addPart", desc := "(LDeltaPress$Text;II)V" } : MethodName) ∈ wz := List.mem_filter.mpr ⟨(List.mem_append_right _ (List.mem_append_right _ (List.mem_append_left _ (List.mem_of_getElem? (i := 184) rfl)))), by decide +kernel⟩
set_option maxRecDepth 20000 in
theorem zw_425 : Cond.methodLink "DeltaPress$DeltaReader" (38 : Nat) ({ cls := "DeltaPress$DeltaReader", name := "isNewRead", desc := "(LDeltaPress$Text;ILDeltaPress$Text;I)Z" } : MethodName) ∈ wz := List.mem_filter.mpr ⟨(List.mem_append_right _ (List.mem_append_right _ (List.mem_append_left _ (List.mem_of_getElem? (i := 185) rfl)))), by decide +kernel⟩
set_option maxRecDepth 20000 in
theorem zw_427 : Cond.instanceMethod ({ cls := "DeltaPress$DeltaReader", name := "isNewRead", desc := "(LDeltaPress$Text;ILDeltaPress$Text;I)Z" } : MethodName) ∈ wz := List.mem_filter.mpr ⟨(List.mem_append_right _ (List.mem_append_right _ (List.mem_append_left _ (List.mem_of_getElem? (i := 187) rfl)))), by decide +kernel⟩
set_option maxRecDepth 20000 in
theorem zw_428 : Cond.code ({ cls := "DeltaPress$DeltaReader", name := "isNewRead", desc := "(LDeltaPress$Text;ILDeltaPress$Text;I)Z" } : MethodName) prog_2_method_6_code (5 : Nat) (Option.some ClassFile.FieldType.boolean) ∈ wz := List.mem_filter.mpr ⟨(List.mem_append_right _ (List.mem_append_right _ (List.mem_append_left _ (List.mem_of_getElem? (i := 188) rfl)))), by decide +kernel⟩
set_option maxRecDepth 20000 in
theorem zw_429 : Cond.classLink "DeltaPress" (114 : Nat) "java/lang/ArithmeticException" ∈ wz := List.mem_filter.mpr ⟨(List.mem_append_right _ (List.mem_append_right _ (List.mem_append_left _ (List.mem_of_getElem? (i := 189) rfl)))), by decide +kernel⟩
set_option maxRecDepth 20000 in
theorem zw_430 : Cond.instantiable "java/lang/ArithmeticException" (6 : Nat) ∈ wz := List.mem_filter.mpr ⟨(List.mem_append_right _ (List.mem_append_right _ (List.mem_append_left _ (List.mem_of_getElem? (i := 190) rfl)))), by decide +kernel⟩
set_option maxRecDepth 20000 in
theorem zw_432 : Cond.selects "java/lang/ArithmeticException" ({ cls := "java/lang/Throwable", name := "fillInStackTrace", desc := "(I)Ljava/lang/Throwable;" } : MethodName) ({ cls := "java/lang/Throwable", name := "fillInStackTrace", desc := "(I)Ljava/lang/Throwable;" } : MethodName) ∈ wz := List.mem_filter.mpr ⟨(List.mem_append_right _ (List.mem_append_right _ (List.mem_append_left _ (List.mem_of_getElem? (i := 192) rfl)))), by decide +kernel⟩
set_option maxRecDepth 20000 in
theorem zw_433 : Cond.lays "java/lang/ArithmeticException" "java/lang/Throwable" "cause" "Ljava/lang/Throwable;" ∈ wz := List.mem_filter.mpr ⟨(List.mem_append_right _ (List.mem_append_right _ (List.mem_append_left _ (List.mem_of_getElem? (i := 193) rfl)))), by decide +kernel⟩
set_option maxRecDepth 20000 in
theorem zw_434 : Cond.lays "java/lang/ArithmeticException" "java/lang/Throwable" "stackTrace" "[Ljava/lang/StackTraceElement;" ∈ wz := List.mem_filter.mpr ⟨(List.mem_append_right _ (List.mem_append_right _ (List.mem_append_left _ (List.mem_of_getElem? (i := 194) rfl)))), by decide +kernel⟩
set_option maxRecDepth 20000 in
theorem zw_435 : Cond.lays "java/lang/ArithmeticException" "java/lang/Throwable" "suppressedExceptions" "Ljava/util/List;" ∈ wz := List.mem_filter.mpr ⟨(List.mem_append_right _ (List.mem_append_right _ (List.mem_append_left _ (List.mem_of_getElem? (i := 195) rfl)))), by decide +kernel⟩
set_option maxRecDepth 20000 in
theorem zw_436 : Cond.lays "java/lang/ArithmeticException" "java/lang/Throwable" "detailMessage" "Ljava/lang/String;" ∈ wz := List.mem_filter.mpr ⟨(List.mem_append_right _ (List.mem_append_right _ (List.mem_append_left _ (List.mem_of_getElem? (i := 196) rfl)))), by decide +kernel⟩
set_option maxRecDepth 20000 in
theorem zw_437 : Cond.lays "java/lang/ArithmeticException" "java/lang/Throwable" "backtrace" "Ljava/lang/Object;" ∈ wz := List.mem_filter.mpr ⟨(List.mem_append_right _ (List.mem_append_right _ (List.mem_append_left _ (List.mem_of_getElem? (i := 197) rfl)))), by decide +kernel⟩
set_option maxRecDepth 20000 in
theorem zw_439 : Cond.methodLink "DeltaPress" (118 : Nat) ({ cls := "java/lang/ArithmeticException", name := "<init>", desc := "(Ljava/lang/String;)V" } : MethodName) ∈ wz := List.mem_filter.mpr ⟨(List.mem_append_right _ (List.mem_append_right _ (List.mem_append_left _ (List.mem_of_getElem? (i := 199) rfl)))), by decide +kernel⟩
set_option maxRecDepth 20000 in
theorem zw_440 : Cond.instanceMethod ({ cls := "java/lang/ArithmeticException", name := "<init>", desc := "(Ljava/lang/String;)V" } : MethodName) ∈ wz := List.mem_filter.mpr ⟨(List.mem_append_right _ (List.mem_append_right _ (List.mem_append_left _ (List.mem_of_getElem? (i := 200) rfl)))), by decide +kernel⟩
set_option maxRecDepth 20000 in
theorem zw_441 : Cond.code ({ cls := "java/lang/ArithmeticException", name := "<init>", desc := "(Ljava/lang/String;)V" } : MethodName) prog_7_method_2_code (2 : Nat) (Option.none : Option ClassFile.FieldType) ∈ wz := List.mem_filter.mpr ⟨(List.mem_append_right _ (List.mem_append_right _ (List.mem_append_left _ (List.mem_of_getElem? (i := 201) rfl)))), by decide +kernel⟩
set_option maxRecDepth 20000 in
theorem zw_442 : Cond.methodLink "java/lang/ArithmeticException" (7 : Nat) ({ cls := "java/lang/RuntimeException", name := "<init>", desc := "(Ljava/lang/String;)V" } : MethodName) ∈ wz := List.mem_filter.mpr ⟨(List.mem_append_right _ (List.mem_append_right _ (List.mem_append_left _ (List.mem_of_getElem? (i := 202) rfl)))), by decide +kernel⟩
set_option maxRecDepth 20000 in
theorem zw_443 : Cond.lays "java/lang/ArithmeticException" "java/lang/Throwable" "depth" "I" ∈ wz := List.mem_filter.mpr ⟨(List.mem_append_right _ (List.mem_append_right _ (List.mem_append_left _ (List.mem_of_getElem? (i := 203) rfl)))), by decide +kernel⟩
set_option maxRecDepth 20000 in
theorem zw_444 : Cond.superclass "java/lang/ArithmeticException" "java/lang/RuntimeException" ∈ wz := List.mem_filter.mpr ⟨(List.mem_append_right _ (List.mem_append_right _ (List.mem_append_left _ (List.mem_of_getElem? (i := 204) rfl)))), by decide +kernel⟩
set_option maxRecDepth 20000 in
theorem zw_445 : Cond.methodLink "DeltaPressLaw" (76 : Nat) ({ cls := "DeltaPressLaw", name := "turn", desc := "(LDeltaPress;[J)I" } : MethodName) ∈ wz := List.mem_filter.mpr ⟨(List.mem_append_right _ (List.mem_append_right _ (List.mem_append_left _ (List.mem_of_getElem? (i := 205) rfl)))), by decide +kernel⟩
set_option maxRecDepth 20000 in
theorem zw_446 : Cond.static ({ cls := "DeltaPressLaw", name := "turn", desc := "(LDeltaPress;[J)I" } : MethodName) ∈ wz := List.mem_filter.mpr ⟨(List.mem_append_right _ (List.mem_append_right _ (List.mem_append_left _ (List.mem_of_getElem? (i := 206) rfl)))), by decide +kernel⟩
set_option maxRecDepth 20000 in
theorem zw_448 : Cond.methodLink "DeltaPressLaw" (31 : Nat) ({ cls := "DeltaPress", name := "turn", desc := "()I" } : MethodName) ∈ wz := List.mem_filter.mpr ⟨(List.mem_append_right _ (List.mem_append_right _ (List.mem_append_left _ (List.mem_of_getElem? (i := 208) rfl)))), by decide +kernel⟩
set_option maxRecDepth 20000 in
theorem zw_449 : Cond.instanceMethod ({ cls := "DeltaPress", name := "turn", desc := "()I" } : MethodName) ∈ wz := List.mem_filter.mpr ⟨(List.mem_append_right _ (List.mem_append_right _ (List.mem_append_left _ (List.mem_of_getElem? (i := 209) rfl)))), by decide +kernel⟩
set_option maxRecDepth 20000 in
theorem zw_450 : Cond.selects "DeltaPress" ({ cls := "DeltaPress", name := "turn", desc := "()I" } : MethodName) ({ cls := "DeltaPress", name := "turn", desc := "()I" } : MethodName) ∈ wz := List.mem_filter.mpr ⟨(List.mem_append_right _ (List.mem_append_right _ (List.mem_append_left _ (List.mem_of_getElem? (i := 210) rfl)))), by decide +kernel⟩
set_option maxRecDepth 20000 in
theorem zw_451 : Cond.code ({ cls := "DeltaPress", name := "turn", desc := "()I" } : MethodName) prog_1_method_8_code (1 : Nat) (Option.some ClassFile.FieldType.int) ∈ wz := List.mem_filter.mpr ⟨(List.mem_append_right _ (List.mem_append_right _ (List.mem_append_left _ (List.mem_of_getElem? (i := 211) rfl)))), by decide +kernel⟩
set_option maxRecDepth 20000 in
theorem zw_452 : Cond.methodLink "DeltaPressLaw" (79 : Nat) ({ cls := "DeltaPressLaw", name := "longest", desc := "(LDeltaPress;II[J)I" } : MethodName) ∈ wz := List.mem_filter.mpr ⟨(List.mem_append_right _ (List.mem_append_right _ (List.mem_append_left _ (List.mem_of_getElem? (i := 212) rfl)))), by decide +kernel⟩
set_option maxRecDepth 20000 in
theorem zw_453 : Cond.static ({ cls := "DeltaPressLaw", name := "longest", desc := "(LDeltaPress;II[J)I" } : MethodName) ∈ wz := List.mem_filter.mpr ⟨(List.mem_append_right _ (List.mem_append_right _ (List.mem_append_left _ (List.mem_of_getElem? (i := 213) rfl)))), by decide +kernel⟩
set_option maxRecDepth 20000 in
theorem zw_455 : Cond.methodLink "DeltaPressLaw" (34 : Nat) ({ cls := "DeltaPress", name := "longest", desc := "(II)I" } : MethodName) ∈ wz := List.mem_filter.mpr ⟨(List.mem_append_right _ (List.mem_append_right _ (List.mem_append_left _ (List.mem_of_getElem? (i := 215) rfl)))), by decide +kernel⟩
set_option maxRecDepth 20000 in
theorem zw_456 : Cond.instanceMethod ({ cls := "DeltaPress", name := "longest", desc := "(II)I" } : MethodName) ∈ wz := List.mem_filter.mpr ⟨(List.mem_append_right _ (List.mem_append_right _ (List.mem_append_left _ (List.mem_of_getElem? (i := 216) rfl)))), by decide +kernel⟩
set_option maxRecDepth 20000 in
theorem zw_457 : Cond.selects "DeltaPress" ({ cls := "DeltaPress", name := "longest", desc := "(II)I" } : MethodName) ({ cls := "DeltaPress", name := "longest", desc := "(II)I" } : MethodName) ∈ wz := List.mem_filter.mpr ⟨(List.mem_append_right _ (List.mem_append_right _ (List.mem_append_left _ (List.mem_of_getElem? (i := 217) rfl)))), by decide +kernel⟩
set_option maxRecDepth 20000 in
theorem zw_458 : Cond.code ({ cls := "DeltaPress", name := "longest", desc := "(II)I" } : MethodName) prog_1_method_9_code (4 : Nat) (Option.some ClassFile.FieldType.int) ∈ wz := List.mem_filter.mpr ⟨(List.mem_append_right _ (List.mem_append_right _ (List.mem_append_left _ (List.mem_of_getElem? (i := 218) rfl)))), by decide +kernel⟩
set_option maxRecDepth 20000 in
theorem zw_460 : Cond.methodLink "DeltaPressLaw" (83 : Nat) ({ cls := "DeltaPressLaw", name := "letter", desc := "(LDeltaPress;I[J)I" } : MethodName) ∈ wz := List.mem_filter.mpr ⟨(List.mem_append_right _ (List.mem_append_right _ (List.mem_append_left _ (List.mem_of_getElem? (i := 220) rfl)))), by decide +kernel⟩
set_option maxRecDepth 20000 in
theorem zw_461 : Cond.static ({ cls := "DeltaPressLaw", name := "letter", desc := "(LDeltaPress;I[J)I" } : MethodName) ∈ wz := List.mem_filter.mpr ⟨(List.mem_append_right _ (List.mem_append_right _ (List.mem_append_left _ (List.mem_of_getElem? (i := 221) rfl)))), by decide +kernel⟩
set_option maxRecDepth 20000 in
theorem zw_463 : Cond.classLink "DeltaPressLaw" (41 : Nat) "java/lang/IndexOutOfBoundsException" ∈ wz := List.mem_filter.mpr ⟨(List.mem_append_right _ (List.mem_append_right _ (List.mem_append_left _ (List.mem_of_getElem? (i := 223) rfl)))), by decide +kernel⟩
set_option maxRecDepth 20000 in
theorem zw_464 : Cond.methodLink "DeltaPressLaw" (38 : Nat) ({ cls := "DeltaPress", name := "letter", desc := "(I)I" } : MethodName) ∈ wz := List.mem_filter.mpr ⟨(List.mem_append_right _ (List.mem_append_right _ (List.mem_append_left _ (List.mem_of_getElem? (i := 224) rfl)))), by decide +kernel⟩
set_option maxRecDepth 20000 in
theorem zw_465 : Cond.instanceMethod ({ cls := "DeltaPress", name := "letter", desc := "(I)I" } : MethodName) ∈ wz := List.mem_filter.mpr ⟨(List.mem_append_right _ (List.mem_append_right _ (List.mem_append_left _ (List.mem_of_getElem? (i := 225) rfl)))), by decide +kernel⟩
set_option maxRecDepth 20000 in
theorem zw_466 : Cond.selects "DeltaPress" ({ cls := "DeltaPress", name := "letter", desc := "(I)I" } : MethodName) ({ cls := "DeltaPress", name := "letter", desc := "(I)I" } : MethodName) ∈ wz := List.mem_filter.mpr ⟨(List.mem_append_right _ (List.mem_append_right _ (List.mem_append_left _ (List.mem_of_getElem? (i := 226) rfl)))), by decide +kernel⟩
set_option maxRecDepth 20000 in
theorem zw_467 : Cond.code ({ cls := "DeltaPress", name := "letter", desc := "(I)I" } : MethodName) prog_1_method_10_code (2 : Nat) (Option.some ClassFile.FieldType.int) ∈ wz := List.mem_filter.mpr ⟨(List.mem_append_right _ (List.mem_append_right _ (List.mem_append_left _ (List.mem_of_getElem? (i := 227) rfl)))), by decide +kernel⟩
set_option maxRecDepth 20000 in
theorem zw_468 : Cond.classLink "DeltaPress" (125 : Nat) "java/lang/IndexOutOfBoundsException" ∈ wz := List.mem_filter.mpr ⟨(List.mem_append_right _ (List.mem_append_right _ (List.mem_append_left _ (List.mem_of_getElem? (i := 228) rfl)))), by decide +kernel⟩
set_option maxRecDepth 20000 in
theorem zw_469 : Cond.instantiable "java/lang/IndexOutOfBoundsException" (6 : Nat) ∈ wz := List.mem_filter.mpr ⟨(List.mem_append_right _ (List.mem_append_right _ (List.mem_append_left _ (List.mem_of_getElem? (i := 229) rfl)))), by decide +kernel⟩
set_option maxRecDepth 20000 in
theorem zw_471 : Cond.selects "java/lang/IndexOutOfBoundsException" ({ cls := "java/lang/Throwable", name := "fillInStackTrace", desc := "(I)Ljava/lang/Throwable;" } : MethodName) ({ cls := "java/lang/Throwable", name := "fillInStackTrace", desc := "(I)Ljava/lang/Throwable;" } : MethodName) ∈ wz := List.mem_filter.mpr ⟨(List.mem_append_right _ (List.mem_append_right _ (List.mem_append_left _ (List.mem_of_getElem? (i := 231) rfl)))), by decide +kernel⟩
set_option maxRecDepth 20000 in
theorem zw_472 : Cond.lays "java/lang/IndexOutOfBoundsException" "java/lang/Throwable" "cause" "Ljava/lang/Throwable;" ∈ wz := List.mem_filter.mpr ⟨(List.mem_append_right _ (List.mem_append_right _ (List.mem_append_left _ (List.mem_of_getElem? (i := 232) rfl)))), by decide +kernel⟩
set_option maxRecDepth 20000 in
theorem zw_473 : Cond.lays "java/lang/IndexOutOfBoundsException" "java/lang/Throwable" "stackTrace" "[Ljava/lang/StackTraceElement;" ∈ wz := List.mem_filter.mpr ⟨(List.mem_append_right _ (List.mem_append_right _ (List.mem_append_left _ (List.mem_of_getElem? (i := 233) rfl)))), by decide +kernel⟩
set_option maxRecDepth 20000 in
theorem zw_474 : Cond.lays "java/lang/IndexOutOfBoundsException" "java/lang/Throwable" "suppressedExceptions" "Ljava/util/List;" ∈ wz := List.mem_filter.mpr ⟨(List.mem_append_right _ (List.mem_append_right _ (List.mem_append_left _ (List.mem_of_getElem? (i := 234) rfl)))), by decide +kernel⟩
set_option maxRecDepth 20000 in
theorem zw_475 : Cond.lays "java/lang/IndexOutOfBoundsException" "java/lang/Throwable" "detailMessage" "Ljava/lang/String;" ∈ wz := List.mem_filter.mpr ⟨(List.mem_append_right _ (List.mem_append_right _ (List.mem_append_left _ (List.mem_of_getElem? (i := 235) rfl)))), by decide +kernel⟩
set_option maxRecDepth 20000 in
theorem zw_476 : Cond.lays "java/lang/IndexOutOfBoundsException" "java/lang/Throwable" "backtrace" "Ljava/lang/Object;" ∈ wz := List.mem_filter.mpr ⟨(List.mem_append_right _ (List.mem_append_right _ (List.mem_append_left _ (List.mem_of_getElem? (i := 236) rfl)))), by decide +kernel⟩
set_option maxRecDepth 20000 in
theorem zw_478 : Cond.methodLink "DeltaPress" (129 : Nat) ({ cls := "java/lang/IndexOutOfBoundsException", name := "<init>", desc := "(Ljava/lang/String;)V" } : MethodName) ∈ wz := List.mem_filter.mpr ⟨(List.mem_append_right _ (List.mem_append_right _ (List.mem_append_left _ (List.mem_of_getElem? (i := 238) rfl)))), by decide +kernel⟩
set_option maxRecDepth 20000 in
theorem zw_479 : Cond.instanceMethod ({ cls := "java/lang/IndexOutOfBoundsException", name := "<init>", desc := "(Ljava/lang/String;)V" } : MethodName) ∈ wz := List.mem_filter.mpr ⟨(List.mem_append_right _ (List.mem_append_right _ (List.mem_append_left _ (List.mem_of_getElem? (i := 239) rfl)))), by decide +kernel⟩
set_option maxRecDepth 20000 in
theorem zw_480 : Cond.code ({ cls := "java/lang/IndexOutOfBoundsException", name := "<init>", desc := "(Ljava/lang/String;)V" } : MethodName) prog_11_method_2_code (2 : Nat) (Option.none : Option ClassFile.FieldType) ∈ wz := List.mem_filter.mpr ⟨(List.mem_append_right _ (List.mem_append_right _ (List.mem_append_right _ (List.mem_of_getElem? (i := 0) rfl)))), by decide +kernel⟩
set_option maxRecDepth 20000 in
theorem zw_481 : Cond.methodLink "java/lang/IndexOutOfBoundsException" (7 : Nat) ({ cls := "java/lang/RuntimeException", name := "<init>", desc := "(Ljava/lang/String;)V" } : MethodName) ∈ wz := List.mem_filter.mpr ⟨(List.mem_append_right _ (List.mem_append_right _ (List.mem_append_right _ (List.mem_of_getElem? (i := 1) rfl)))), by decide +kernel⟩
set_option maxRecDepth 20000 in
theorem zw_482 : Cond.lays "java/lang/IndexOutOfBoundsException" "java/lang/Throwable" "depth" "I" ∈ wz := List.mem_filter.mpr ⟨(List.mem_append_right _ (List.mem_append_right _ (List.mem_append_right _ (List.mem_of_getElem? (i := 2) rfl)))), by decide +kernel⟩
set_option maxRecDepth 20000 in
theorem zw_483 : Cond.superclass "java/lang/IndexOutOfBoundsException" "java/lang/RuntimeException" ∈ wz := List.mem_filter.mpr ⟨(List.mem_append_right _ (List.mem_append_right _ (List.mem_append_right _ (List.mem_of_getElem? (i := 3) rfl)))), by decide +kernel⟩
set_option maxRecDepth 20000 in
theorem zw_484 : Cond.methodLink "DeltaPress" (130 : Nat) ({ cls := "DeltaPress$Text", name := "at", desc := "(I)I" } : MethodName) ∈ wz := List.mem_filter.mpr ⟨(List.mem_append_right _ (List.mem_append_right _ (List.mem_append_right _ (List.mem_of_getElem? (i := 4) rfl)))), by decide +kernel⟩
set_option maxRecDepth 20000 in
theorem zw_485 : Cond.classLink "DeltaPressLaw" (44 : Nat) "DeltaPressModel" ∈ wz := List.mem_filter.mpr ⟨(List.mem_append_right _ (List.mem_append_right _ (List.mem_append_right _ (List.mem_of_getElem? (i := 5) rfl)))), by decide +kernel⟩
set_option maxRecDepth 20000 in
theorem zw_486 : Cond.instantiable "DeltaPressModel" (16 : Nat) ∈ wz := List.mem_filter.mpr ⟨(List.mem_append_right _ (List.mem_append_right _ (List.mem_append_right _ (List.mem_of_getElem? (i := 6) rfl)))), by decide +kernel⟩
set_option maxRecDepth 20000 in
theorem zw_487 : Cond.methodLink "DeltaPressLaw" (46 : Nat) ({ cls := "DeltaPressModel", name := "<init>", desc := "()V" } : MethodName) ∈ wz := List.mem_filter.mpr ⟨(List.mem_append_right _ (List.mem_append_right _ (List.mem_append_right _ (List.mem_of_getElem? (i := 7) rfl)))), by decide +kernel⟩
set_option maxRecDepth 20000 in
theorem zw_488 : Cond.instanceMethod ({ cls := "DeltaPressModel", name := "<init>", desc := "()V" } : MethodName) ∈ wz := List.mem_filter.mpr ⟨(List.mem_append_right _ (List.mem_append_right _ (List.mem_append_right _ (List.mem_of_getElem? (i := 8) rfl)))), by decide +kernel⟩
set_option maxRecDepth 20000 in
theorem zw_489 : Cond.code ({ cls := "DeltaPressModel", name := "<init>", desc := "()V" } : MethodName) prog_6_method_1_code (1 : Nat) (Option.none : Option ClassFile.FieldType) ∈ wz := List.mem_filter.mpr ⟨(List.mem_append_right _ (List.mem_append_right _ (List.mem_append_right _ (List.mem_of_getElem? (i := 9) rfl)))), by decide +kernel⟩
set_option maxRecDepth 20000 in
theorem zw_490 : Cond.methodLink "DeltaPressModel" (1 : Nat) ({ cls := "java/lang/Object", name := "<init>", desc := "()V" } : MethodName) ∈ wz := List.mem_filter.mpr ⟨(List.mem_append_right _ (List.mem_append_right _ (List.mem_append_right _ (List.mem_of_getElem? (i := 10) rfl)))), by decide +kernel⟩
set_option maxRecDepth 20000 in
theorem zw_491 : Cond.constant "DeltaPressModel" (7 : Nat) (65536 : Int32) ∈ wz := List.mem_filter.mpr ⟨(List.mem_append_right _ (List.mem_append_right _ (List.mem_append_right _ (List.mem_of_getElem? (i := 11) rfl)))), by decide +kernel⟩
set_option maxRecDepth 20000 in
theorem zw_492 : Cond.constant "DeltaPressModel" (17 : Nat) (67000 : Int32) ∈ wz := List.mem_filter.mpr ⟨(List.mem_append_right _ (List.mem_append_right _ (List.mem_append_right _ (List.mem_of_getElem? (i := 12) rfl)))), by decide +kernel⟩
set_option maxRecDepth 20000 in
theorem zw_493 : Cond.fieldLink "DeltaPressModel" (8 : Nat) "DeltaPressModel" "input" "[B" ∈ wz := List.mem_filter.mpr ⟨(List.mem_append_right _ (List.mem_append_right _ (List.mem_append_right _ (List.mem_of_getElem? (i := 13) rfl)))), by decide +kernel⟩
set_option maxRecDepth 20000 in
theorem zw_494 : Cond.fieldLink "DeltaPressModel" (14 : Nat) "DeltaPressModel" "base" "[B" ∈ wz := List.mem_filter.mpr ⟨(List.mem_append_right _ (List.mem_append_right _ (List.mem_append_right _ (List.mem_of_getElem? (i := 14) rfl)))), by decide +kernel⟩
set_option maxRecDepth 20000 in
theorem zw_495 : Cond.fieldLink "DeltaPressModel" (18 : Nat) "DeltaPressModel" "output" "[B" ∈ wz := List.mem_filter.mpr ⟨(List.mem_append_right _ (List.mem_append_right _ (List.mem_append_right _ (List.mem_of_getElem? (i := 15) rfl)))), by decide +kernel⟩
set_option maxRecDepth 20000 in
theorem zw_496 : Cond.fieldLink "DeltaPressModel" (21 : Nat) "DeltaPressModel" "room" "[B" ∈ wz := List.mem_filter.mpr ⟨(List.mem_append_right _ (List.mem_append_right _ (List.mem_append_right _ (List.mem_of_getElem? (i := 16) rfl)))), by decide +kernel⟩
set_option maxRecDepth 20000 in
theorem zw_497 : Cond.fieldLink "DeltaPressModel" (28 : Nat) "DeltaPressModel" "size" "I" ∈ wz := List.mem_filter.mpr ⟨(List.mem_append_right _ (List.mem_append_right _ (List.mem_append_right _ (List.mem_of_getElem? (i := 17) rfl)))), by decide +kernel⟩
set_option maxRecDepth 20000 in
theorem zw_498 : Cond.fieldLink "DeltaPressModel" (35 : Nat) "DeltaPressModel" "baseSize" "I" ∈ wz := List.mem_filter.mpr ⟨(List.mem_append_right _ (List.mem_append_right _ (List.mem_append_right _ (List.mem_of_getElem? (i := 18) rfl)))), by decide +kernel⟩
set_option maxRecDepth 20000 in
theorem zw_499 : Cond.fieldLink "DeltaPressModel" (45 : Nat) "DeltaPressModel" "made" "I" ∈ wz := List.mem_filter.mpr ⟨(List.mem_append_right _ (List.mem_append_right _ (List.mem_append_right _ (List.mem_of_getElem? (i := 19) rfl)))), by decide +kernel⟩
set_option maxRecDepth 20000 in
theorem zw_500 : Cond.fieldLink "DeltaPressModel" (52 : Nat) "DeltaPressModel" "copies" "I" ∈ wz := List.mem_filter.mpr ⟨(List.mem_append_right _ (List.mem_append_right _ (List.mem_append_right _ (List.mem_of_getElem? (i := 20) rfl)))), by decide +kernel⟩
set_option maxRecDepth 20000 in
theorem zw_501 : Cond.fieldLink "DeltaPressModel" (55 : Nat) "DeltaPressModel" "fresh" "I" ∈ wz := List.mem_filter.mpr ⟨(List.mem_append_right _ (List.mem_append_right _ (List.mem_append_right _ (List.mem_of_getElem? (i := 21) rfl)))), by decide +kernel⟩
set_option maxRecDepth 20000 in
theorem zw_502 : Cond.fieldLink "DeltaPressModel" (95 : Nat) "DeltaPressModel" "damaged" "I" ∈ wz := List.mem_filter.mpr ⟨(List.mem_append_right _ (List.mem_append_right _ (List.mem_append_right _ (List.mem_of_getElem? (i := 22) rfl)))), by decide +kernel⟩
set_option maxRecDepth 20000 in
theorem zw_503 : Cond.fieldLink "DeltaPressModel" (24 : Nat) "DeltaPressModel" "thrown" "I" ∈ wz := List.mem_filter.mpr ⟨(List.mem_append_right _ (List.mem_append_right _ (List.mem_append_right _ (List.mem_of_getElem? (i := 23) rfl)))), by decide +kernel⟩
set_option maxRecDepth 20000 in
theorem zw_504 : Cond.fieldLink "DeltaPressModel" (38 : Nat) "DeltaPressModel" "best" "I" ∈ wz := List.mem_filter.mpr ⟨(List.mem_append_right _ (List.mem_append_right _ (List.mem_append_right _ (List.mem_of_getElem? (i := 24) rfl)))), by decide +kernel⟩
set_option maxRecDepth 20000 in
theorem zw_505 : Cond.fieldLink "DeltaPressModel" (41 : Nat) "DeltaPressModel" "where" "I" ∈ wz := List.mem_filter.mpr ⟨(List.mem_append_right _ (List.mem_append_right _ (List.mem_append_right _ (List.mem_of_getElem? (i := 25) rfl)))), by decide +kernel⟩
set_option maxRecDepth 20000 in
theorem zw_506 : Cond.fieldLink "DeltaPressModel" (71 : Nat) "DeltaPressModel" "at" "I" ∈ wz := List.mem_filter.mpr ⟨(List.mem_append_right _ (List.mem_append_right _ (List.mem_append_right _ (List.mem_of_getElem? (i := 26) rfl)))), by decide +kernel⟩
set_option maxRecDepth 20000 in
theorem zw_507 : Cond.fieldLink "DeltaPressModel" (74 : Nat) "DeltaPressModel" "wrong" "Z" ∈ wz := List.mem_filter.mpr ⟨(List.mem_append_right _ (List.mem_append_right _ (List.mem_append_right _ (List.mem_of_getElem? (i := 27) rfl)))), by decide +kernel⟩
set_option maxRecDepth 20000 in
theorem zw_508 : Cond.fieldLink "DeltaPressModel" (82 : Nat) "DeltaPressModel" "filled" "I" ∈ wz := List.mem_filter.mpr ⟨(List.mem_append_right _ (List.mem_append_right _ (List.mem_append_right _ (List.mem_of_getElem? (i := 28) rfl)))), by decide +kernel⟩
set_option maxRecDepth 20000 in
theorem zw_509 : Cond.laysFinal "DeltaPressModel" "DeltaPressModel" "input" "[B" ∈ wz := List.mem_filter.mpr ⟨(List.mem_append_right _ (List.mem_append_right _ (List.mem_append_right _ (List.mem_of_getElem? (i := 29) rfl)))), by decide +kernel⟩
set_option maxRecDepth 20000 in
theorem zw_510 : Cond.soleField "DeltaPressModel" "input" ∈ wz := List.mem_filter.mpr ⟨(List.mem_append_right _ (List.mem_append_right _ (List.mem_append_right _ (List.mem_of_getElem? (i := 30) rfl)))), by decide +kernel⟩
set_option maxRecDepth 20000 in
theorem zw_511 : Cond.laysFinal "DeltaPressModel" "DeltaPressModel" "base" "[B" ∈ wz := List.mem_filter.mpr ⟨(List.mem_append_right _ (List.mem_append_right _ (List.mem_append_right _ (List.mem_of_getElem? (i := 31) rfl)))), by decide +kernel⟩
set_option maxRecDepth 20000 in
theorem zw_512 : Cond.soleField "DeltaPressModel" "base" ∈ wz := List.mem_filter.mpr ⟨(List.mem_append_right _ (List.mem_append_right _ (List.mem_append_right _ (List.mem_of_getElem? (i := 32) rfl)))), by decide +kernel⟩
set_option maxRecDepth 20000 in
theorem zw_513 : Cond.laysFinal "DeltaPressModel" "DeltaPressModel" "output" "[B" ∈ wz := List.mem_filter.mpr ⟨(List.mem_append_right _ (List.mem_append_right _ (List.mem_append_right _ (List.mem_of_getElem? (i := 33) rfl)))), by decide +kernel⟩
set_option maxRecDepth 20000 in
theorem zw_514 : Cond.soleField "DeltaPressModel" "output" ∈ wz := List.mem_filter.mpr ⟨(List.mem_append_right _ (List.mem_append_right _ (List.mem_append_right _ (List.mem_of_getElem? (i := 34) rfl)))), by decide +kernel⟩
set_option maxRecDepth 20000 in
theorem zw_515 : Cond.laysFinal "DeltaPressModel" "DeltaPressModel" "room" "[B" ∈ wz := List.mem_filter.mpr ⟨(List.mem_append_right _ (List.mem_append_right _ (List.mem_append_right _ (List.mem_of_getElem? (i := 35) rfl)))), by decide +kernel⟩
set_option maxRecDepth 20000 in
theorem zw_516 : Cond.soleField "DeltaPressModel" "room" ∈ wz := List.mem_filter.mpr ⟨(List.mem_append_right _ (List.mem_append_right _ (List.mem_append_right _ (List.mem_of_getElem? (i := 36) rfl)))), by decide +kernel⟩
set_option maxRecDepth 20000 in
theorem zw_517 : Cond.lays "DeltaPressModel" "DeltaPressModel" "size" "I" ∈ wz := List.mem_filter.mpr ⟨(List.mem_append_right _ (List.mem_append_right _ (List.mem_append_right _ (List.mem_of_getElem? (i := 37) rfl)))), by decide +kernel⟩
set_option maxRecDepth 20000 in
theorem zw_518 : Cond.soleField "DeltaPressModel" "size" ∈ wz := List.mem_filter.mpr ⟨(List.mem_append_right _ (List.mem_append_right _ (List.mem_append_right _ (List.mem_of_getElem? (i := 38) rfl)))), by decide +kernel⟩
set_option maxRecDepth 20000 in
theorem zw_519 : Cond.lays "DeltaPressModel" "DeltaPressModel" "baseSize" "I" ∈ wz := List.mem_filter.mpr ⟨(List.mem_append_right _ (List.mem_append_right _ (List.mem_append_right _ (List.mem_of_getElem? (i := 39) rfl)))), by decide +kernel⟩
set_option maxRecDepth 20000 in
theorem zw_520 : Cond.soleField "DeltaPressModel" "baseSize" ∈ wz := List.mem_filter.mpr ⟨(List.mem_append_right _ (List.mem_append_right _ (List.mem_append_right _ (List.mem_of_getElem? (i := 40) rfl)))), by decide +kernel⟩
set_option maxRecDepth 20000 in
theorem zw_521 : Cond.lays "DeltaPressModel" "DeltaPressModel" "made" "I" ∈ wz := List.mem_filter.mpr ⟨(List.mem_append_right _ (List.mem_append_right _ (List.mem_append_right _ (List.mem_of_getElem? (i := 41) rfl)))), by decide +kernel⟩
set_option maxRecDepth 20000 in
theorem zw_522 : Cond.soleField "DeltaPressModel" "made" ∈ wz := List.mem_filter.mpr ⟨(List.mem_append_right _ (List.mem_append_right _ (List.mem_append_right _ (List.mem_of_getElem? (i := 42) rfl)))), by decide +kernel⟩
set_option maxRecDepth 20000 in
theorem zw_523 : Cond.lays "DeltaPressModel" "DeltaPressModel" "copies" "I" ∈ wz := List.mem_filter.mpr ⟨(List.mem_append_right _ (List.mem_append_right _ (List.mem_append_right _ (List.mem_of_getElem? (i := 43) rfl)))), by decide +kernel⟩
set_option maxRecDepth 20000 in
theorem zw_524 : Cond.soleField "DeltaPressModel" "copies" ∈ wz := List.mem_filter.mpr ⟨(List.mem_append_right _ (List.mem_append_right _ (List.mem_append_right _ (List.mem_of_getElem? (i := 44) rfl)))), by decide +kernel⟩
set_option maxRecDepth 20000 in
theorem zw_525 : Cond.lays "DeltaPressModel" "DeltaPressModel" "fresh" "I" ∈ wz := List.mem_filter.mpr ⟨(List.mem_append_right _ (List.mem_append_right _ (List.mem_append_right _ (List.mem_of_getElem? (i := 45) rfl)))), by decide +kernel⟩
set_option maxRecDepth 20000 in
theorem zw_526 : Cond.soleField "DeltaPressModel" "fresh" ∈ wz := List.mem_filter.mpr ⟨(List.mem_append_right _ (List.mem_append_right _ (List.mem_append_right _ (List.mem_of_getElem? (i := 46) rfl)))), by decide +kernel⟩
set_option maxRecDepth 20000 in
theorem zw_527 : Cond.lays "DeltaPressModel" "DeltaPressModel" "damaged" "I" ∈ wz := List.mem_filter.mpr ⟨(List.mem_append_right _ (List.mem_append_right _ (List.mem_append_right _ (List.mem_of_getElem? (i := 47) rfl)))), by decide +kernel⟩
set_option maxRecDepth 20000 in
theorem zw_528 : Cond.soleField "DeltaPressModel" "damaged" ∈ wz := List.mem_filter.mpr ⟨(List.mem_append_right _ (List.mem_append_right _ (List.mem_append_right _ (List.mem_of_getElem? (i := 48) rfl)))), by decide +kernel⟩
set_option maxRecDepth 20000 in
theorem zw_529 : Cond.lays "DeltaPressModel" "DeltaPressModel" "thrown" "I" ∈ wz := List.mem_filter.mpr ⟨(List.mem_append_right _ (List.mem_append_right _ (List.mem_append_right _ (List.mem_of_getElem? (i := 49) rfl)))), by decide +kernel⟩
set_option maxRecDepth 20000 in
theorem zw_530 : Cond.soleField "DeltaPressModel" "thrown" ∈ wz := List.mem_filter.mpr ⟨(List.mem_append_right _ (List.mem_append_right _ (List.mem_append_right _ (List.mem_of_getElem? (i := 50) rfl)))), by decide +kernel⟩
set_option maxRecDepth 20000 in
theorem zw_531 : Cond.lays "DeltaPressModel" "DeltaPressModel" "best" "I" ∈ wz := List.mem_filter.mpr ⟨(List.mem_append_right _ (List.mem_append_right _ (List.mem_append_right _ (List.mem_of_getElem? (i := 51) rfl)))), by decide +kernel⟩
set_option maxRecDepth 20000 in
theorem zw_532 : Cond.soleField "DeltaPressModel" "best" ∈ wz := List.mem_filter.mpr ⟨(List.mem_append_right _ (List.mem_append_right _ (List.mem_append_right _ (List.mem_of_getElem? (i := 52) rfl)))), by decide +kernel⟩
set_option maxRecDepth 20000 in
theorem zw_533 : Cond.lays "DeltaPressModel" "DeltaPressModel" "where" "I" ∈ wz := List.mem_filter.mpr ⟨(List.mem_append_right _ (List.mem_append_right _ (List.mem_append_right _ (List.mem_of_getElem? (i := 53) rfl)))), by decide +kernel⟩
set_option maxRecDepth 20000 in
theorem zw_534 : Cond.soleField "DeltaPressModel" "where" ∈ wz := List.mem_filter.mpr ⟨(List.mem_append_right _ (List.mem_append_right _ (List.mem_append_right _ (List.mem_of_getElem? (i := 54) rfl)))), by decide +kernel⟩
set_option maxRecDepth 20000 in
theorem zw_535 : Cond.lays "DeltaPressModel" "DeltaPressModel" "at" "I" ∈ wz := List.mem_filter.mpr ⟨(List.mem_append_right _ (List.mem_append_right _ (List.mem_append_right _ (List.mem_of_getElem? (i := 55) rfl)))), by decide +kernel⟩
set_option maxRecDepth 20000 in
theorem zw_536 : Cond.soleField "DeltaPressModel" "at" ∈ wz := List.mem_filter.mpr ⟨(List.mem_append_right _ (List.mem_append_right _ (List.mem_append_right _ (List.mem_of_getElem? (i := 56) rfl)))), by decide +kernel⟩
set_option maxRecDepth 20000 in
theorem zw_537 : Cond.lays "DeltaPressModel" "DeltaPressModel" "wrong" "Z" ∈ wz := List.mem_filter.mpr ⟨(List.mem_append_right _ (List.mem_append_right _ (List.mem_append_right _ (List.mem_of_getElem? (i := 57) rfl)))), by decide +kernel⟩
set_option maxRecDepth 20000 in
theorem zw_538 : Cond.soleField "DeltaPressModel" "wrong" ∈ wz := List.mem_filter.mpr ⟨(List.mem_append_right _ (List.mem_append_right _ (List.mem_append_right _ (List.mem_of_getElem? (i := 58) rfl)))), by decide +kernel⟩
set_option maxRecDepth 20000 in
theorem zw_539 : Cond.lays "DeltaPressModel" "DeltaPressModel" "filled" "I" ∈ wz := List.mem_filter.mpr ⟨(List.mem_append_right _ (List.mem_append_right _ (List.mem_append_right _ (List.mem_of_getElem? (i := 59) rfl)))), by decide +kernel⟩
set_option maxRecDepth 20000 in
theorem zw_540 : Cond.soleField "DeltaPressModel" "filled" ∈ wz := List.mem_filter.mpr ⟨(List.mem_append_right _ (List.mem_append_right _ (List.mem_append_right _ (List.mem_of_getElem? (i := 60) rfl)))), by decide +kernel⟩
set_option maxRecDepth 20000 in
theorem zw_541 : Cond.superclass "DeltaPressModel" "java/lang/Object" ∈ wz := List.mem_filter.mpr ⟨(List.mem_append_right _ (List.mem_append_right _ (List.mem_append_right _ (List.mem_of_getElem? (i := 61) rfl)))), by decide +kernel⟩
set_option maxRecDepth 20000 in
theorem zw_542 : Cond.methodLink "DeltaPressLaw" (53 : Nat) ({ cls := "DeltaPressModel", name := "thrown", desc := "()I" } : MethodName) ∈ wz := List.mem_filter.mpr ⟨(List.mem_append_right _ (List.mem_append_right _ (List.mem_append_right _ (List.mem_of_getElem? (i := 62) rfl)))), by decide +kernel⟩
set_option maxRecDepth 20000 in
theorem zw_543 : Cond.instanceMethod ({ cls := "DeltaPressModel", name := "thrown", desc := "()I" } : MethodName) ∈ wz := List.mem_filter.mpr ⟨(List.mem_append_right _ (List.mem_append_right _ (List.mem_append_right _ (List.mem_of_getElem? (i := 63) rfl)))), by decide +kernel⟩
set_option maxRecDepth 20000 in
theorem zw_544 : Cond.selects "DeltaPressModel" ({ cls := "DeltaPressModel", name := "thrown", desc := "()I" } : MethodName) ({ cls := "DeltaPressModel", name := "thrown", desc := "()I" } : MethodName) ∈ wz := List.mem_filter.mpr ⟨(List.mem_append_right _ (List.mem_append_right _ (List.mem_append_right _ (List.mem_of_getElem? (i := 64) rfl)))), by decide +kernel⟩
set_option maxRecDepth 20000 in
theorem zw_545 : Cond.code ({ cls := "DeltaPressModel", name := "thrown", desc := "()I" } : MethodName) prog_6_method_2_code (1 : Nat) (Option.some ClassFile.FieldType.int) ∈ wz := List.mem_filter.mpr ⟨(List.mem_append_right _ (List.mem_append_right _ (List.mem_append_right _ (List.mem_of_getElem? (i := 65) rfl)))), by decide +kernel⟩
set_option maxRecDepth 20000 in
theorem zw_546 : Cond.methodLink "DeltaPressLaw" (52 : Nat) ({ cls := "DeltaPressModel", name := "feed", desc := "(IIIII)I" } : MethodName) ∈ wz := List.mem_filter.mpr ⟨(List.mem_append_right _ (List.mem_append_right _ (List.mem_append_right _ (List.mem_of_getElem? (i := 66) rfl)))), by decide +kernel⟩
set_option maxRecDepth 20000 in
theorem zw_547 : Cond.instanceMethod ({ cls := "DeltaPressModel", name := "feed", desc := "(IIIII)I" } : MethodName) ∈ wz := List.mem_filter.mpr ⟨(List.mem_append_right _ (List.mem_append_right _ (List.mem_append_right _ (List.mem_of_getElem? (i := 67) rfl)))), by decide +kernel⟩
set_option maxRecDepth 20000 in
theorem zw_548 : Cond.selects "DeltaPressModel" ({ cls := "DeltaPressModel", name := "feed", desc := "(IIIII)I" } : MethodName) ({ cls := "DeltaPressModel", name := "feed", desc := "(IIIII)I" } : MethodName) ∈ wz := List.mem_filter.mpr ⟨(List.mem_append_right _ (List.mem_append_right _ (List.mem_append_right _ (List.mem_of_getElem? (i := 68) rfl)))), by decide +kernel⟩
set_option maxRecDepth 20000 in
theorem zw_549 : Cond.code ({ cls := "DeltaPressModel", name := "feed", desc := "(IIIII)I" } : MethodName) prog_6_method_4_code (8 : Nat) (Option.some ClassFile.FieldType.int) ∈ wz := List.mem_filter.mpr ⟨(List.mem_append_right _ (List.mem_append_right _ (List.mem_append_right _ (List.mem_of_getElem? (i := 69) rfl)))), by decide +kernel⟩
set_option maxRecDepth 20000 in
theorem zw_550 : Cond.methodLink "DeltaPressModel" (31 : Nat) ({ cls := "DeltaPressModel", name := "refuse", desc := "(I)I" } : MethodName) ∈ wz := List.mem_filter.mpr ⟨(List.mem_append_right _ (List.mem_append_right _ (List.mem_append_right _ (List.mem_of_getElem? (i := 70) rfl)))), by decide +kernel⟩
set_option maxRecDepth 20000 in
theorem zw_552 : Cond.instanceMethod ({ cls := "DeltaPressModel", name := "refuse", desc := "(I)I" } : MethodName) ∈ wz := List.mem_filter.mpr ⟨(List.mem_append_right _ (List.mem_append_right _ (List.mem_append_right _ (List.mem_of_getElem? (i := 72) rfl)))), by decide +kernel⟩
set_option maxRecDepth 20000 in
theorem zw_553 : Cond.code ({ cls := "DeltaPressModel", name := "refuse", desc := "(I)I" } : MethodName) prog_6_method_3_code (2 : Nat) (Option.some ClassFile.FieldType.int) ∈ wz := List.mem_filter.mpr ⟨(List.mem_append_right _ (List.mem_append_right _ (List.mem_append_right _ (List.mem_of_getElem? (i := 73) rfl)))), by decide +kernel⟩
set_option maxRecDepth 20000 in
theorem zw_554 : Cond.methodLink "DeltaPressLaw" (59 : Nat) ({ cls := "DeltaPressModel", name := "end", desc := "(I)I" } : MethodName) ∈ wz := List.mem_filter.mpr ⟨(List.mem_append_right _ (List.mem_append_right _ (List.mem_append_right _ (List.mem_of_getElem? (i := 74) rfl)))), by decide +kernel⟩
set_option maxRecDepth 20000 in
theorem zw_555 : Cond.instanceMethod ({ cls := "DeltaPressModel", name := "end", desc := "(I)I" } : MethodName) ∈ wz := List.mem_filter.mpr ⟨(List.mem_append_right _ (List.mem_append_right _ (List.mem_append_right _ (List.mem_of_getElem? (i := 75) rfl)))), by decide +kernel⟩
set_option maxRecDepth 20000 in
theorem zw_556 : Cond.selects "DeltaPressModel" ({ cls := "DeltaPressModel", name := "end", desc := "(I)I" } : MethodName) ({ cls := "DeltaPressModel", name := "end", desc := "(I)I" } : MethodName) ∈ wz := List.mem_filter.mpr ⟨(List.mem_append_right _ (List.mem_append_right _ (List.mem_append_right _ (List.mem_of_getElem? (i := 76) rfl)))), by decide +kernel⟩
set_option maxRecDepth 20000 in
theorem zw_557 : Cond.code ({ cls := "DeltaPressModel", name := "end", desc := "(I)I" } : MethodName) prog_6_method_5_code (2 : Nat) (Option.some ClassFile.FieldType.int) ∈ wz := List.mem_filter.mpr ⟨(List.mem_append_right _ (List.mem_append_right _ (List.mem_append_right _ (List.mem_of_getElem? (i := 77) rfl)))), by decide +kernel⟩
set_option maxRecDepth 20000 in
theorem zw_558 : Cond.methodLink "DeltaPressLaw" (63 : Nat) ({ cls := "DeltaPressModel", name := "change", desc := "(II)V" } : MethodName) ∈ wz := List.mem_filter.mpr ⟨(List.mem_append_right _ (List.mem_append_right _ (List.mem_append_right _ (List.mem_of_getElem? (i := 78) rfl)))), by decide +kernel⟩
set_option maxRecDepth 20000 in
theorem zw_559 : Cond.instanceMethod ({ cls := "DeltaPressModel", name := "change", desc := "(II)V" } : MethodName) ∈ wz := List.mem_filter.mpr ⟨(List.mem_append_right _ (List.mem_append_right _ (List.mem_append_right _ (List.mem_of_getElem? (i := 79) rfl)))), by decide +kernel⟩
set_option maxRecDepth 20000 in
theorem zw_560 : Cond.selects "DeltaPressModel" ({ cls := "DeltaPressModel", name := "change", desc := "(II)V" } : MethodName) ({ cls := "DeltaPressModel", name := "change", desc := "(II)V" } : MethodName) ∈ wz := List.mem_filter.mpr ⟨(List.mem_append_right _ (List.mem_append_right _ (List.mem_append_right _ (List.mem_of_getElem? (i := 80) rfl)))), by decide +kernel⟩
set_option maxRecDepth 20000 in
theorem zw_561 : Cond.code ({ cls := "DeltaPressModel", name := "change", desc := "(II)V" } : MethodName) prog_6_method_6_code (3 : Nat) (Option.none : Option ClassFile.FieldType) ∈ wz := List.mem_filter.mpr ⟨(List.mem_append_right _ (List.mem_append_right _ (List.mem_append_right _ (List.mem_of_getElem? (i := 81) rfl)))), by decide +kernel⟩
set_option maxRecDepth 20000 in
theorem zw_562 : Cond.methodLink "DeltaPressLaw" (67 : Nat) ({ cls := "DeltaPressModel", name := "base", desc := "()I" } : MethodName) ∈ wz := List.mem_filter.mpr ⟨(List.mem_append_right _ (List.mem_append_right _ (List.mem_append_right _ (List.mem_of_getElem? (i := 82) rfl)))), by decide +kernel⟩
set_option maxRecDepth 20000 in
theorem zw_563 : Cond.instanceMethod ({ cls := "DeltaPressModel", name := "base", desc := "()I" } : MethodName) ∈ wz := List.mem_filter.mpr ⟨(List.mem_append_right _ (List.mem_append_right _ (List.mem_append_right _ (List.mem_of_getElem? (i := 83) rfl)))), by decide +kernel⟩
set_option maxRecDepth 20000 in
theorem zw_564 : Cond.selects "DeltaPressModel" ({ cls := "DeltaPressModel", name := "base", desc := "()I" } : MethodName) ({ cls := "DeltaPressModel", name := "base", desc := "()I" } : MethodName) ∈ wz := List.mem_filter.mpr ⟨(List.mem_append_right _ (List.mem_append_right _ (List.mem_append_right _ (List.mem_of_getElem? (i := 84) rfl)))), by decide +kernel⟩
set_option maxRecDepth 20000 in
theorem zw_565 : Cond.code ({ cls := "DeltaPressModel", name := "base", desc := "()I" } : MethodName) prog_6_method_7_code (2 : Nat) (Option.some ClassFile.FieldType.int) ∈ wz := List.mem_filter.mpr ⟨(List.mem_append_right _ (List.mem_append_right _ (List.mem_append_right _ (List.mem_of_getElem? (i := 85) rfl)))), by decide +kernel⟩
set_option maxRecDepth 20000 in
theorem zw_566 : Cond.methodLink "DeltaPressLaw" (71 : Nat) ({ cls := "DeltaPressModel", name := "make", desc := "()I" } : MethodName) ∈ wz := List.mem_filter.mpr ⟨(List.mem_append_right _ (List.mem_append_right _ (List.mem_append_right _ (List.mem_of_getElem? (i := 86) rfl)))), by decide +kernel⟩
set_option maxRecDepth 20000 in
theorem zw_567 : Cond.instanceMethod ({ cls := "DeltaPressModel", name := "make", desc := "()I" } : MethodName) ∈ wz := List.mem_filter.mpr ⟨(List.mem_append_right _ (List.mem_append_right _ (List.mem_append_right _ (List.mem_of_getElem? (i := 87) rfl)))), by decide +kernel⟩
set_option maxRecDepth 20000 in
theorem zw_568 : Cond.selects "DeltaPressModel" ({ cls := "DeltaPressModel", name := "make", desc := "()I" } : MethodName) ({ cls := "DeltaPressModel", name := "make", desc := "()I" } : MethodName) ∈ wz := List.mem_filter.mpr ⟨(List.mem_append_right _ (List.mem_append_right _ (List.mem_append_right _ (List.mem_of_getElem? (i := 88) rfl)))), by decide +kernel⟩
set_option maxRecDepth 20000 in
theorem zw_569 : Cond.code ({ cls := "DeltaPressModel", name := "make", desc := "()I" } : MethodName) prog_6_method_13_code (3 : Nat) (Option.some ClassFile.FieldType.int) ∈ wz := List.mem_filter.mpr ⟨(List.mem_append_right _ (List.mem_append_right _ (List.mem_append_right _ (List.mem_of_getElem? (i := 89) rfl)))), by decide +kernel⟩
set_option maxRecDepth 20000 in
theorem zw_570 : Cond.methodLink "DeltaPressModel" (58 : Nat) ({ cls := "DeltaPressModel", name := "putNumber", desc := "(I)V" } : MethodName) ∈ wz := List.mem_filter.mpr ⟨(List.mem_append_right _ (List.mem_append_right _ (List.mem_append_right _ (List.mem_of_getElem? (i := 90) rfl)))), by decide +kernel⟩
set_option maxRecDepth 20000 in
theorem zw_572 : Cond.instanceMethod ({ cls := "DeltaPressModel", name := "putNumber", desc := "(I)V" } : MethodName) ∈ wz := List.mem_filter.mpr ⟨(List.mem_append_right _ (List.mem_append_right _ (List.mem_append_right _ (List.mem_of_getElem? (i := 92) rfl)))), by decide +kernel⟩
set_option maxRecDepth 20000 in
theorem zw_573 : Cond.code ({ cls := "DeltaPressModel", name := "putNumber", desc := "(I)V" } : MethodName) prog_6_method_10_code (3 : Nat) (Option.none : Option ClassFile.FieldType) ∈ wz := List.mem_filter.mpr ⟨(List.mem_append_right _ (List.mem_append_right _ (List.mem_append_right _ (List.mem_of_getElem? (i := 93) rfl)))), by decide +kernel⟩
set_option maxRecDepth 20000 in
theorem zw_574 : Cond.methodLink "DeltaPressModel" (48 : Nat) ({ cls := "DeltaPressModel", name := "put", desc := "(I)V" } : MethodName) ∈ wz := List.mem_filter.mpr ⟨(List.mem_append_right _ (List.mem_append_right _ (List.mem_append_right _ (List.mem_of_getElem? (i := 94) rfl)))), by decide +kernel⟩
set_option maxRecDepth 20000 in
theorem zw_576 : Cond.instanceMethod ({ cls := "DeltaPressModel", name := "put", desc := "(I)V" } : MethodName) ∈ wz := List.mem_filter.mpr ⟨(List.mem_append_right _ (List.mem_append_right _ (List.mem_append_right _ (List.mem_of_getElem? (i := 96) rfl)))), by decide +kernel⟩
set_option maxRecDepth 20000 in
theorem zw_577 : Cond.code ({ cls := "DeltaPressModel", name := "put", desc := "(I)V" } : MethodName) prog_6_method_9_code (2 : Nat) (Option.none : Option ClassFile.FieldType) ∈ wz := List.mem_filter.mpr ⟨(List.mem_append_right _ (List.mem_append_right _ (List.mem_append_right _ (List.mem_of_getElem? (i := 97) rfl)))), by decide +kernel⟩
set_option maxRecDepth 20000 in
theorem zw_578 : Cond.methodLink "DeltaPressModel" (61 : Nat) ({ cls := "DeltaPressModel", name := "look", desc := "(I)V" } : MethodName) ∈ wz := List.mem_filter.mpr ⟨(List.mem_append_right _ (List.mem_append_right _ (List.mem_append_right _ (List.mem_of_getElem? (i := 98) rfl)))), by decide +kernel⟩
set_option maxRecDepth 20000 in
theorem zw_580 : Cond.instanceMethod ({ cls := "DeltaPressModel", name := "look", desc := "(I)V" } : MethodName) ∈ wz := List.mem_filter.mpr ⟨(List.mem_append_right _ (List.mem_append_right _ (List.mem_append_right _ (List.mem_of_getElem? (i := 100) rfl)))), by decide +kernel⟩
set_option maxRecDepth 20000 in
theorem zw_581 : Cond.code ({ cls := "DeltaPressModel", name := "look", desc := "(I)V" } : MethodName) prog_6_method_8_code (4 : Nat) (Option.none : Option ClassFile.FieldType) ∈ wz := List.mem_filter.mpr ⟨(List.mem_append_right _ (List.mem_append_right _ (List.mem_append_right _ (List.mem_of_getElem? (i := 101) rfl)))), by decide +kernel⟩
set_option maxRecDepth 20000 in
theorem zw_582 : Cond.constant "DeltaPressModel" (44 : Nat) (65535 : Int32) ∈ wz := List.mem_filter.mpr ⟨(List.mem_append_right _ (List.mem_append_right _ (List.mem_append_right _ (List.mem_of_getElem? (i := 102) rfl)))), by decide +kernel⟩
set_option maxRecDepth 20000 in
theorem zw_583 : Cond.methodLink "DeltaPressModel" (64 : Nat) ({ cls := "DeltaPressModel", name := "putFresh", desc := "(II)V" } : MethodName) ∈ wz := List.mem_filter.mpr ⟨(List.mem_append_right _ (List.mem_append_right _ (List.mem_append_right _ (List.mem_of_getElem? (i := 103) rfl)))), by decide +kernel⟩
set_option maxRecDepth 20000 in
theorem zw_585 : Cond.instanceMethod ({ cls := "DeltaPressModel", name := "putFresh", desc := "(II)V" } : MethodName) ∈ wz := List.mem_filter.mpr ⟨(List.mem_append_right _ (List.mem_append_right _ (List.mem_append_right _ (List.mem_of_getElem? (i := 105) rfl)))), by decide +kernel⟩
set_option maxRecDepth 20000 in
theorem zw_586 : Cond.code ({ cls := "DeltaPressModel", name := "putFresh", desc := "(II)V" } : MethodName) prog_6_method_12_code (6 : Nat) (Option.none : Option ClassFile.FieldType) ∈ wz := List.mem_filter.mpr ⟨(List.mem_append_right _ (List.mem_append_right _ (List.mem_append_right _ (List.mem_of_getElem? (i := 106) rfl)))), by decide +kernel⟩
set_option maxRecDepth 20000 in
theorem zw_587 : Cond.methodLink "DeltaPressModel" (68 : Nat) ({ cls := "DeltaPressModel", name := "putCopy", desc := "()V" } : MethodName) ∈ wz := List.mem_filter.mpr ⟨(List.mem_append_right _ (List.mem_append_right _ (List.mem_append_right _ (List.mem_of_getElem? (i := 107) rfl)))), by decide +kernel⟩
set_option maxRecDepth 20000 in
theorem zw_589 : Cond.instanceMethod ({ cls := "DeltaPressModel", name := "putCopy", desc := "()V" } : MethodName) ∈ wz := List.mem_filter.mpr ⟨(List.mem_append_right _ (List.mem_append_right _ (List.mem_append_right _ (List.mem_of_getElem? (i := 109) rfl)))), by decide +kernel⟩
set_option maxRecDepth 20000 in
theorem zw_590 : Cond.code ({ cls := "DeltaPressModel", name := "putCopy", desc := "()V" } : MethodName) prog_6_method_11_code (3 : Nat) (Option.none : Option ClassFile.FieldType) ∈ wz := List.mem_filter.mpr ⟨(List.mem_append_right _ (List.mem_append_right _ (List.mem_append_right _ (List.mem_of_getElem? (i := 110) rfl)))), by decide +kernel⟩
set_option maxRecDepth 20000 in
theorem zw_591 : Cond.methodLink "DeltaPressLaw" (75 : Nat) ({ cls := "DeltaPressModel", name := "use", desc := "()I" } : MethodName) ∈ wz := List.mem_filter.mpr ⟨(List.mem_append_right _ (List.mem_append_right _ (List.mem_append_right _ (List.mem_of_getElem? (i := 111) rfl)))), by decide +kernel⟩
set_option maxRecDepth 20000 in
theorem zw_592 : Cond.instanceMethod ({ cls := "DeltaPressModel", name := "use", desc := "()I" } : MethodName) ∈ wz := List.mem_filter.mpr ⟨(List.mem_append_right _ (List.mem_append_right _ (List.mem_append_right _ (List.mem_of_getElem? (i := 112) rfl)))), by decide +kernel⟩
set_option maxRecDepth 20000 in
theorem zw_593 : Cond.selects "DeltaPressModel" ({ cls := "DeltaPressModel", name := "use", desc := "()I" } : MethodName) ({ cls := "DeltaPressModel", name := "use", desc := "()I" } : MethodName) ∈ wz := List.mem_filter.mpr ⟨(List.mem_append_right _ (List.mem_append_right _ (List.mem_append_right _ (List.mem_of_getElem? (i := 113) rfl)))), by decide +kernel⟩
set_option maxRecDepth 20000 in
theorem zw_594 : Cond.code ({ cls := "DeltaPressModel", name := "use", desc := "()I" } : MethodName) prog_6_method_18_code (4 : Nat) (Option.some ClassFile.FieldType.int) ∈ wz := List.mem_filter.mpr ⟨(List.mem_append_right _ (List.mem_append_right _ (List.mem_append_right _ (List.mem_of_getElem? (i := 114) rfl)))), by decide +kernel⟩
set_option maxRecDepth 20000 in
theorem zw_595 : Cond.methodLink "DeltaPressModel" (89 : Nat) ({ cls := "DeltaPressModel", name := "number", desc := "()I" } : MethodName) ∈ wz := List.mem_filter.mpr ⟨(List.mem_append_right _ (List.mem_append_right _ (List.mem_append_right _ (List.mem_of_getElem? (i := 115) rfl)))), by decide +kernel⟩
set_option maxRecDepth 20000 in
theorem zw_597 : Cond.instanceMethod ({ cls := "DeltaPressModel", name := "number", desc := "()I" } : MethodName) ∈ wz := List.mem_filter.mpr ⟨(List.mem_append_right _ (List.mem_append_right _ (List.mem_append_right _ (List.mem_of_getElem? (i := 117) rfl)))), by decide +kernel⟩
set_option maxRecDepth 20000 in
theorem zw_598 : Cond.code ({ cls := "DeltaPressModel", name := "number", desc := "()I" } : MethodName) prog_6_method_15_code (4 : Nat) (Option.some ClassFile.FieldType.int) ∈ wz := List.mem_filter.mpr ⟨(List.mem_append_right _ (List.mem_append_right _ (List.mem_append_right _ (List.mem_of_getElem? (i := 118) rfl)))), by decide +kernel⟩
set_option maxRecDepth 20000 in
theorem zw_599 : Cond.methodLink "DeltaPressModel" (78 : Nat) ({ cls := "DeltaPressModel", name := "next", desc := "()I" } : MethodName) ∈ wz := List.mem_filter.mpr ⟨(List.mem_append_right _ (List.mem_append_right _ (List.mem_append_right _ (List.mem_of_getElem? (i := 119) rfl)))), by decide +kernel⟩
set_option maxRecDepth 20000 in
theorem zw_601 : Cond.instanceMethod ({ cls := "DeltaPressModel", name := "next", desc := "()I" } : MethodName) ∈ wz := List.mem_filter.mpr ⟨(List.mem_append_right _ (List.mem_append_right _ (List.mem_append_right _ (List.mem_of_getElem? (i := 121) rfl)))), by decide +kernel⟩
set_option maxRecDepth 20000 in
theorem zw_602 : Cond.code ({ cls := "DeltaPressModel", name := "next", desc := "()I" } : MethodName) prog_6_method_14_code (1 : Nat) (Option.some ClassFile.FieldType.int) ∈ wz := List.mem_filter.mpr ⟨(List.mem_append_right _ (List.mem_append_right _ (List.mem_append_right _ (List.mem_of_getElem? (i := 122) rfl)))), by decide +kernel⟩
set_option maxRecDepth 20000 in
theorem zw_603 : Cond.methodLink "DeltaPressModel" (92 : Nat) ({ cls := "DeltaPressModel", name := "part", desc := "(I)V" } : MethodName) ∈ wz := List.mem_filter.mpr ⟨(List.mem_append_right _ (List.mem_append_right _ (List.mem_append_right _ (List.mem_of_getElem? (i := 123) rfl)))), by decide +kernel⟩
set_option maxRecDepth 20000 in
theorem zw_605 : Cond.instanceMethod ({ cls := "DeltaPressModel", name := "part", desc := "(I)V" } : MethodName) ∈ wz := List.mem_filter.mpr ⟨(List.mem_append_right _ (List.mem_append_right _ (List.mem_append_right _ (List.mem_of_getElem? (i := 125) rfl)))), by decide +kernel⟩
set_option maxRecDepth 20000 in
theorem zw_606 : Cond.code ({ cls := "DeltaPressModel", name := "part", desc := "(I)V" } : MethodName) prog_6_method_17_code (7 : Nat) (Option.none : Option ClassFile.FieldType) ∈ wz := List.mem_filter.mpr ⟨(List.mem_append_right _ (List.mem_append_right _ (List.mem_append_right _ (List.mem_of_getElem? (i := 126) rfl)))), by decide +kernel⟩
set_option maxRecDepth 20000 in
theorem zw_607 : Cond.methodLink "DeltaPressModel" (85 : Nat) ({ cls := "DeltaPressModel", name := "give", desc := "(BI)V" } : MethodName) ∈ wz := List.mem_filter.mpr ⟨(List.mem_append_right _ (List.mem_append_right _ (List.mem_append_right _ (List.mem_of_getElem? (i := 127) rfl)))), by decide +kernel⟩
set_option maxRecDepth 20000 in
theorem zw_609 : Cond.instanceMethod ({ cls := "DeltaPressModel", name := "give", desc := "(BI)V" } : MethodName) ∈ wz := List.mem_filter.mpr ⟨(List.mem_append_right _ (List.mem_append_right _ (List.mem_append_right _ (List.mem_of_getElem? (i := 129) rfl)))), by decide +kernel⟩
set_option maxRecDepth 20000 in
theorem zw_610 : Cond.code ({ cls := "DeltaPressModel", name := "give", desc := "(BI)V" } : MethodName) prog_6_method_16_code (3 : Nat) (Option.none : Option ClassFile.FieldType) ∈ wz := List.mem_filter.mpr ⟨(List.mem_append_right _ (List.mem_append_right _ (List.mem_append_right _ (List.mem_of_getElem? (i := 130) rfl)))), by decide +kernel⟩
set_option maxRecDepth 20000 in
theorem zw_611 : Cond.methodLink "DeltaPressLaw" (78 : Nat) ({ cls := "DeltaPressModel", name := "turn", desc := "()I" } : MethodName) ∈ wz := List.mem_filter.mpr ⟨(List.mem_append_right _ (List.mem_append_right _ (List.mem_append_right _ (List.mem_of_getElem? (i := 131) rfl)))), by decide +kernel⟩
set_option maxRecDepth 20000 in
theorem zw_612 : Cond.instanceMethod ({ cls := "DeltaPressModel", name := "turn", desc := "()I" } : MethodName) ∈ wz := List.mem_filter.mpr ⟨(List.mem_append_right _ (List.mem_append_right _ (List.mem_append_right _ (List.mem_of_getElem? (i := 132) rfl)))), by decide +kernel⟩
set_option maxRecDepth 20000 in
theorem zw_613 : Cond.selects "DeltaPressModel" ({ cls := "DeltaPressModel", name := "turn", desc := "()I" } : MethodName) ({ cls := "DeltaPressModel", name := "turn", desc := "()I" } : MethodName) ∈ wz := List.mem_filter.mpr ⟨(List.mem_append_right _ (List.mem_append_right _ (List.mem_append_right _ (List.mem_of_getElem? (i := 133) rfl)))), by decide +kernel⟩
set_option maxRecDepth 20000 in
theorem zw_614 : Cond.code ({ cls := "DeltaPressModel", name := "turn", desc := "()I" } : MethodName) prog_6_method_19_code (2 : Nat) (Option.some ClassFile.FieldType.int) ∈ wz := List.mem_filter.mpr ⟨(List.mem_append_right _ (List.mem_append_right _ (List.mem_append_right _ (List.mem_of_getElem? (i := 134) rfl)))), by decide +kernel⟩
set_option maxRecDepth 20000 in
theorem zw_615 : Cond.methodLink "DeltaPressLaw" (82 : Nat) ({ cls := "DeltaPressModel", name := "longest", desc := "(II)I" } : MethodName) ∈ wz := List.mem_filter.mpr ⟨(List.mem_append_right _ (List.mem_append_right _ (List.mem_append_right _ (List.mem_of_getElem? (i := 135) rfl)))), by decide +kernel⟩
set_option maxRecDepth 20000 in
theorem zw_616 : Cond.instanceMethod ({ cls := "DeltaPressModel", name := "longest", desc := "(II)I" } : MethodName) ∈ wz := List.mem_filter.mpr ⟨(List.mem_append_right _ (List.mem_append_right _ (List.mem_append_right _ (List.mem_of_getElem? (i := 136) rfl)))), by decide +kernel⟩
set_option maxRecDepth 20000 in
theorem zw_617 : Cond.selects "DeltaPressModel" ({ cls := "DeltaPressModel", name := "longest", desc := "(II)I" } : MethodName) ({ cls := "DeltaPressModel", name := "longest", desc := "(II)I" } : MethodName) ∈ wz := List.mem_filter.mpr ⟨(List.mem_append_right _ (List.mem_append_right _ (List.mem_append_right _ (List.mem_of_getElem? (i := 137) rfl)))), by decide +kernel⟩
set_option maxRecDepth 20000 in
theorem zw_618 : Cond.code ({ cls := "DeltaPressModel", name := "longest", desc := "(II)I" } : MethodName) prog_6_method_20_code (3 : Nat) (Option.some ClassFile.FieldType.int) ∈ wz := List.mem_filter.mpr ⟨(List.mem_append_right _ (List.mem_append_right _ (List.mem_append_right _ (List.mem_of_getElem? (i := 138) rfl)))), by decide +kernel⟩
set_option maxRecDepth 20000 in
theorem zw_619 : Cond.methodLink "DeltaPressLaw" (85 : Nat) ({ cls := "DeltaPressModel", name := "letter", desc := "(I)I" } : MethodName) ∈ wz := List.mem_filter.mpr ⟨(List.mem_append_right _ (List.mem_append_right _ (List.mem_append_right _ (List.mem_of_getElem? (i := 139) rfl)))), by decide +kernel⟩
set_option maxRecDepth 20000 in
theorem zw_620 : Cond.instanceMethod ({ cls := "DeltaPressModel", name := "letter", desc := "(I)I" } : MethodName) ∈ wz := List.mem_filter.mpr ⟨(List.mem_append_right _ (List.mem_append_right _ (List.mem_append_right _ (List.mem_of_getElem? (i := 140) rfl)))), by decide +kernel⟩
set_option maxRecDepth 20000 in
theorem zw_621 : Cond.selects "DeltaPressModel" ({ cls := "DeltaPressModel", name := "letter", desc := "(I)I" } : MethodName) ({ cls := "DeltaPressModel", name := "letter", desc := "(I)I" } : MethodName) ∈ wz := List.mem_filter.mpr ⟨(List.mem_append_right _ (List.mem_append_right _ (List.mem_append_right _ (List.mem_of_getElem? (i := 141) rfl)))), by decide +kernel⟩
set_option maxRecDepth 20000 in
theorem zw_622 : Cond.code ({ cls := "DeltaPressModel", name := "letter", desc := "(I)I" } : MethodName) prog_6_method_21_code (2 : Nat) (Option.some ClassFile.FieldType.int) ∈ wz := List.mem_filter.mpr ⟨(List.mem_append_right _ (List.mem_append_right _ (List.mem_append_right _ (List.mem_of_getElem? (i := 142) rfl)))), by decide +kernel⟩
set_option maxRecDepth 20000 in
theorem zw_623 : Cond.methodLink "DeltaPressLaw" (89 : Nat) ({ cls := "DeltaPressModel", name := "count", desc := "(I)I" } : MethodName) ∈ wz := List.mem_filter.mpr ⟨(List.mem_append_right _ (List.mem_append_right _ (List.mem_append_right _ (List.mem_of_getElem? (i := 143) rfl)))), by decide +kernel⟩
set_option maxRecDepth 20000 in
theorem zw_624 : Cond.instanceMethod ({ cls := "DeltaPressModel", name := "count", desc := "(I)I" } : MethodName) ∈ wz := List.mem_filter.mpr ⟨(List.mem_append_right _ (List.mem_append_right _ (List.mem_append_right _ (List.mem_of_getElem? (i := 144) rfl)))), by decide +kernel⟩
set_option maxRecDepth 20000 in
theorem zw_625 : Cond.selects "DeltaPressModel" ({ cls := "DeltaPressModel", name := "count", desc := "(I)I" } : MethodName) ({ cls := "DeltaPressModel", name := "count", desc := "(I)I" } : MethodName) ∈ wz := List.mem_filter.mpr ⟨(List.mem_append_right _ (List.mem_append_right _ (List.mem_append_right _ (List.mem_of_getElem? (i := 145) rfl)))), by decide +kernel⟩
set_option maxRecDepth 20000 in
theorem zw_626 : Cond.code ({ cls := "DeltaPressModel", name := "count", desc := "(I)I" } : MethodName) prog_6_method_22_code (2 : Nat) (Option.some ClassFile.FieldType.int) ∈ wz := List.mem_filter.mpr ⟨(List.mem_append_right _ (List.mem_append_right _ (List.mem_append_right _ (List.mem_of_getElem? (i := 146) rfl)))), by decide +kernel⟩
set_option maxRecDepth 20000 in
theorem zw_627 : Cond.arrayClass ClassFile.FieldType.long ∈ wz := List.mem_filter.mpr ⟨(List.mem_append_right _ (List.mem_append_right _ (List.mem_append_right _ (List.mem_of_getElem? (i := 147) rfl)))), by decide +kernel⟩
set_option maxRecDepth 20000 in
theorem zw_628 : Cond.sameMethod "java/lang/Throwable" "java/lang/Throwable" "fillInStackTrace" "(I)Ljava/lang/Throwable;" ∈ wz := List.mem_filter.mpr ⟨(List.mem_append_right _ (List.mem_append_right _ (List.mem_append_right _ (List.mem_of_getElem? (i := 148) rfl)))), by decide +kernel⟩
set_option maxRecDepth 20000 in
theorem zs_0 : Cond.selects "DeltaPress" ⟨"DeltaPress", "findLongest", "(I)V"⟩ ⟨"DeltaPress", "findLongest", "(I)V"⟩ ∈ wz := List.mem_filter.mpr ⟨List.mem_append_left _ (List.mem_of_getElem? (i := 0) rfl), by decide +kernel⟩
set_option maxRecDepth 20000 in
theorem zs_1 : Cond.selects "DeltaPress$SuffixTree" ⟨"DeltaPress$SuffixTree", "emptySlots", "()V"⟩ ⟨"DeltaPress$SuffixTree", "emptySlots", "()V"⟩ ∈ wz := List.mem_filter.mpr ⟨List.mem_append_left _ (List.mem_of_getElem? (i := 1) rfl), by decide +kernel⟩
set_option maxRecDepth 20000 in
theorem zs_2 : Cond.selects "DeltaPress$SuffixTree" ⟨"DeltaPress$SuffixTree", "addLetter", "(I)V"⟩ ⟨"DeltaPress$SuffixTree", "addLetter", "(I)V"⟩ ∈ wz := List.mem_filter.mpr ⟨List.mem_append_left _ (List.mem_of_getElem? (i := 2) rfl), by decide +kernel⟩
set_option maxRecDepth 20000 in
theorem zs_3 : Cond.selects "DeltaPress$SuffixTree" ⟨"DeltaPress$SuffixTree", "goDown", "(I)I"⟩ ⟨"DeltaPress$SuffixTree", "goDown", "(I)I"⟩ ∈ wz := List.mem_filter.mpr ⟨List.mem_append_left _ (List.mem_of_getElem? (i := 3) rfl), by decide +kernel⟩
set_option maxRecDepth 20000 in
theorem zs_4 : Cond.selects "DeltaPress$SuffixTree" ⟨"DeltaPress$SuffixTree", "slotOf", "(IB)I"⟩ ⟨"DeltaPress$SuffixTree", "slotOf", "(IB)I"⟩ ∈ wz := List.mem_filter.mpr ⟨List.mem_append_left _ (List.mem_of_getElem? (i := 4) rfl), by decide +kernel⟩
set_option maxRecDepth 20000 in
theorem zs_5 : Cond.selects "DeltaPress$SuffixTree" ⟨"DeltaPress$SuffixTree", "split", "(II)I"⟩ ⟨"DeltaPress$SuffixTree", "split", "(II)I"⟩ ∈ wz := List.mem_filter.mpr ⟨List.mem_append_left _ (List.mem_of_getElem? (i := 5) rfl), by decide +kernel⟩
set_option maxRecDepth 20000 in
theorem zs_6 : Cond.selects "DeltaPress$SuffixTree" ⟨"DeltaPress$SuffixTree", "addNode", "(III)I"⟩ ⟨"DeltaPress$SuffixTree", "addNode", "(III)I"⟩ ∈ wz := List.mem_filter.mpr ⟨List.mem_append_left _ (List.mem_of_getElem? (i := 6) rfl), by decide +kernel⟩
set_option maxRecDepth 20000 in
theorem zs_7 : Cond.selects "DeltaPress$SuffixTree" ⟨"DeltaPress$SuffixTree", "addLeaf", "(II)V"⟩ ⟨"DeltaPress$SuffixTree", "addLeaf", "(II)V"⟩ ∈ wz := List.mem_filter.mpr ⟨List.mem_append_left _ (List.mem_of_getElem? (i := 7) rfl), by decide +kernel⟩
set_option maxRecDepth 20000 in
theorem zs_8 : Cond.selects "DeltaPress$SuffixTree" ⟨"DeltaPress$SuffixTree", "goToNextSuffix", "()V"⟩ ⟨"DeltaPress$SuffixTree", "goToNextSuffix", "()V"⟩ ∈ wz := List.mem_filter.mpr ⟨List.mem_append_left _ (List.mem_of_getElem? (i := 8) rfl), by decide +kernel⟩
set_option maxRecDepth 20000 in
theorem zs_9 : Cond.selects "DeltaPress$SuffixTree" ⟨"DeltaPress$SuffixTree", "sameLetters", "(I[BII)I"⟩ ⟨"DeltaPress$SuffixTree", "sameLetters", "(I[BII)I"⟩ ∈ wz := List.mem_filter.mpr ⟨List.mem_append_left _ (List.mem_of_getElem? (i := 9) rfl), by decide +kernel⟩
set_option maxRecDepth 20000 in
theorem zs_10 : Cond.selects "DeltaPress" ⟨"DeltaPress", "writeNew", "(II)V"⟩ ⟨"DeltaPress", "writeNew", "(II)V"⟩ ∈ wz := List.mem_filter.mpr ⟨List.mem_append_left _ (List.mem_of_getElem? (i := 10) rfl), by decide +kernel⟩
set_option maxRecDepth 20000 in
theorem zs_11 : Cond.selects "DeltaPress" ⟨"DeltaPress", "writeCopy", "(II)V"⟩ ⟨"DeltaPress", "writeCopy", "(II)V"⟩ ∈ wz := List.mem_filter.mpr ⟨List.mem_append_left _ (List.mem_of_getElem? (i := 11) rfl), by decide +kernel⟩
set_option maxRecDepth 20000 in
theorem zs_12 : Cond.selects "java/lang/Throwable" ⟨"java/lang/Throwable", "fillInStackTrace", "(I)Ljava/lang/Throwable;"⟩ ⟨"java/lang/Throwable", "fillInStackTrace", "(I)Ljava/lang/Throwable;"⟩ ∈ wz := List.mem_filter.mpr ⟨List.mem_append_left _ (List.mem_of_getElem? (i := 12) rfl), by decide +kernel⟩
set_option maxRecDepth 20000 in
theorem zs_13 : Cond.selects "DeltaPress$DeltaReader" ⟨"DeltaPress$DeltaReader", "readNumber", "(LDeltaPress$Text;)I"⟩ ⟨"DeltaPress$DeltaReader", "readNumber", "(LDeltaPress$Text;)I"⟩ ∈ wz := List.mem_filter.mpr ⟨List.mem_append_left _ (List.mem_of_getElem? (i := 13) rfl), by decide +kernel⟩
set_option maxRecDepth 20000 in
theorem zs_14 : Cond.selects "DeltaPress$DeltaReader" ⟨"DeltaPress$DeltaReader", "isCopyRead", "(LDeltaPress$Text;ILDeltaPress$Text;LDeltaPress$Text;I)Z"⟩ ⟨"DeltaPress$DeltaReader", "isCopyRead", "(LDeltaPress$Text;ILDeltaPress$Text;LDeltaPress$Text;I)Z"⟩ ∈ wz := List.mem_filter.mpr ⟨List.mem_append_left _ (List.mem_of_getElem? (i := 14) rfl), by decide +kernel⟩
set_option maxRecDepth 20000 in
theorem zs_15 : Cond.selects "DeltaPress$DeltaReader" ⟨"DeltaPress$DeltaReader", "readChosenBytes", "(LDeltaPress$Text;II)I"⟩ ⟨"DeltaPress$DeltaReader", "readChosenBytes", "(LDeltaPress$Text;II)I"⟩ ∈ wz := List.mem_filter.mpr ⟨List.mem_append_left _ (List.mem_of_getElem? (i := 15) rfl), by decide +kernel⟩
set_option maxRecDepth 20000 in
theorem zs_16 : Cond.selects "DeltaPress$DeltaReader" ⟨"DeltaPress$DeltaReader", "isNewRead", "(LDeltaPress$Text;ILDeltaPress$Text;I)Z"⟩ ⟨"DeltaPress$DeltaReader", "isNewRead", "(LDeltaPress$Text;ILDeltaPress$Text;I)Z"⟩ ∈ wz := List.mem_filter.mpr ⟨List.mem_append_left _ (List.mem_of_getElem? (i := 16) rfl), by decide +kernel⟩
set_option maxRecDepth 20000 in
theorem zs_17 : Cond.selects "DeltaPressModel" ⟨"DeltaPressModel", "refuse", "(I)I"⟩ ⟨"DeltaPressModel", "refuse", "(I)I"⟩ ∈ wz := List.mem_filter.mpr ⟨List.mem_append_left _ (List.mem_of_getElem? (i := 17) rfl), by decide +kernel⟩
set_option maxRecDepth 20000 in
theorem zs_18 : Cond.selects "DeltaPressModel" ⟨"DeltaPressModel", "putNumber", "(I)V"⟩ ⟨"DeltaPressModel", "putNumber", "(I)V"⟩ ∈ wz := List.mem_filter.mpr ⟨List.mem_append_left _ (List.mem_of_getElem? (i := 18) rfl), by decide +kernel⟩
set_option maxRecDepth 20000 in
theorem zs_19 : Cond.selects "DeltaPressModel" ⟨"DeltaPressModel", "put", "(I)V"⟩ ⟨"DeltaPressModel", "put", "(I)V"⟩ ∈ wz := List.mem_filter.mpr ⟨List.mem_append_left _ (List.mem_of_getElem? (i := 19) rfl), by decide +kernel⟩
set_option maxRecDepth 20000 in
theorem zs_20 : Cond.selects "DeltaPressModel" ⟨"DeltaPressModel", "look", "(I)V"⟩ ⟨"DeltaPressModel", "look", "(I)V"⟩ ∈ wz := List.mem_filter.mpr ⟨List.mem_append_left _ (List.mem_of_getElem? (i := 20) rfl), by decide +kernel⟩
set_option maxRecDepth 20000 in
theorem zs_21 : Cond.selects "DeltaPressModel" ⟨"DeltaPressModel", "putFresh", "(II)V"⟩ ⟨"DeltaPressModel", "putFresh", "(II)V"⟩ ∈ wz := List.mem_filter.mpr ⟨List.mem_append_left _ (List.mem_of_getElem? (i := 21) rfl), by decide +kernel⟩
set_option maxRecDepth 20000 in
theorem zs_22 : Cond.selects "DeltaPressModel" ⟨"DeltaPressModel", "putCopy", "()V"⟩ ⟨"DeltaPressModel", "putCopy", "()V"⟩ ∈ wz := List.mem_filter.mpr ⟨List.mem_append_left _ (List.mem_of_getElem? (i := 22) rfl), by decide +kernel⟩
set_option maxRecDepth 20000 in
theorem zs_23 : Cond.selects "DeltaPressModel" ⟨"DeltaPressModel", "number", "()I"⟩ ⟨"DeltaPressModel", "number", "()I"⟩ ∈ wz := List.mem_filter.mpr ⟨List.mem_append_left _ (List.mem_of_getElem? (i := 23) rfl), by decide +kernel⟩
set_option maxRecDepth 20000 in
theorem zs_24 : Cond.selects "DeltaPressModel" ⟨"DeltaPressModel", "next", "()I"⟩ ⟨"DeltaPressModel", "next", "()I"⟩ ∈ wz := List.mem_filter.mpr ⟨List.mem_append_left _ (List.mem_of_getElem? (i := 24) rfl), by decide +kernel⟩
set_option maxRecDepth 20000 in
theorem zs_25 : Cond.selects "DeltaPressModel" ⟨"DeltaPressModel", "part", "(I)V"⟩ ⟨"DeltaPressModel", "part", "(I)V"⟩ ∈ wz := List.mem_filter.mpr ⟨List.mem_append_left _ (List.mem_of_getElem? (i := 25) rfl), by decide +kernel⟩
set_option maxRecDepth 20000 in
theorem zs_26 : Cond.selects "DeltaPressModel" ⟨"DeltaPressModel", "give", "(BI)V"⟩ ⟨"DeltaPressModel", "give", "(BI)V"⟩ ∈ wz := List.mem_filter.mpr ⟨List.mem_append_left _ (List.mem_of_getElem? (i := 26) rfl), by decide +kernel⟩
end
section
abbrev zR_Pr : String := "DeltaPress"
def zF_Pr : u_T := fun k => match k with
  | 0 => ("DeltaPress", "input", "LDeltaPress$Text;", false)
  | 1 => ("DeltaPress", "base", "LDeltaPress$Text;", false)
  | 2 => ("DeltaPress", "output", "LDeltaPress$Text;", false)
  | 3 => ("DeltaPress", "spare", "LDeltaPress$Text;", false)
  | 4 => ("DeltaPress", "tree", "LDeltaPress$SuffixTree;", true)
  | 5 => ("DeltaPress", "treeIsOfBase", "Z", false)
  | 6 => ("DeltaPress", "reader", "LDeltaPress$DeltaReader;", true)
  | 7 => ("DeltaPress", "copiesMade", "I", false)
  | 8 => ("DeltaPress", "newBytesMade", "I", false)
  | _ => ("DeltaPress", "damagedReadings", "I", false)
def zT_Pr : Nat → FieldType := fun k => match k with
  | 0 => .object "DeltaPress$Text"
  | 1 => .object "DeltaPress$Text"
  | 2 => .object "DeltaPress$Text"
  | 3 => .object "DeltaPress$Text"
  | 4 => .object "DeltaPress$SuffixTree"
  | 5 => .boolean
  | 6 => .object "DeltaPress$DeltaReader"
  | 7 => .int
  | 8 => .int
  | _ => .int
theorem zN_Pr : ∀ a, a < 10 → ∀ b, b < 10 → a ≠ b → (zF_Pr a).2.1 ≠ (zF_Pr b).2.1 := by decide +kernel
theorem zO_Pr : ∀ k, k < 10 → parseFieldDescriptor (zF_Pr k).2.2.1 = some (zT_Pr k) := by decide +kernel
theorem zW_Pr : ∀ w ∈ u_ws zR_Pr zF_Pr 10, w ∈ wz := by
  intro w h
  have h : w ∈ ([.lays "DeltaPress" "DeltaPress" "input" "LDeltaPress$Text;", .lays "DeltaPress" "DeltaPress" "base" "LDeltaPress$Text;", .lays "DeltaPress" "DeltaPress" "output" "LDeltaPress$Text;", .lays "DeltaPress" "DeltaPress" "spare" "LDeltaPress$Text;", .laysFinal "DeltaPress" "DeltaPress" "tree" "LDeltaPress$SuffixTree;", .lays "DeltaPress" "DeltaPress" "treeIsOfBase" "Z", .laysFinal "DeltaPress" "DeltaPress" "reader" "LDeltaPress$DeltaReader;", .lays "DeltaPress" "DeltaPress" "copiesMade" "I", .lays "DeltaPress" "DeltaPress" "newBytesMade" "I", .lays "DeltaPress" "DeltaPress" "damagedReadings" "I"] : List Cond) := h
  simp only [List.mem_cons, List.not_mem_nil, or_false] at h
  rcases h with rfl | rfl | rfl | rfl | rfl | rfl | rfl | rfl | rfl | rfl
  · exact zw_115
  · exact zw_117
  · exact zw_119
  · exact zw_121
  · exact zw_123
  · exact zw_125
  · exact zw_127
  · exact zw_129
  · exact zw_131
  · exact zw_133
abbrev zR_Tx : String := "DeltaPress$Text"
def zF_Tx : u_T := fun k => match k with
  | 0 => ("DeltaPress$Text", "bytes", "[B", true)
  | _ => ("DeltaPress$Text", "length", "I", false)
def zT_Tx : Nat → FieldType := fun k => match k with
  | 0 => .array .byte
  | _ => .int
theorem zN_Tx : ∀ a, a < 2 → ∀ b, b < 2 → a ≠ b → (zF_Tx a).2.1 ≠ (zF_Tx b).2.1 := by decide +kernel
theorem zO_Tx : ∀ k, k < 2 → parseFieldDescriptor (zF_Tx k).2.2.1 = some (zT_Tx k) := by decide +kernel
theorem zW_Tx : ∀ w ∈ u_ws zR_Tx zF_Tx 2, w ∈ wz := by
  intro w h
  have h : w ∈ ([.laysFinal "DeltaPress$Text" "DeltaPress$Text" "bytes" "[B", .lays "DeltaPress$Text" "DeltaPress$Text" "length" "I"] : List Cond) := h
  simp only [List.mem_cons, List.not_mem_nil, or_false] at h
  rcases h with rfl | rfl
  · exact zw_33
  · exact zw_35
abbrev zR_Su : String := "DeltaPress$SuffixTree"
def zF_Su : u_T := fun k => match k with
  | 0 => ("DeltaPress$SuffixTree", "text", "[B", false)
  | 1 => ("DeltaPress$SuffixTree", "length", "I", false)
  | 2 => ("DeltaPress$SuffixTree", "start", "[I", true)
  | 3 => ("DeltaPress$SuffixTree", "end", "[I", true)
  | 4 => ("DeltaPress$SuffixTree", "parent", "[I", true)
  | 5 => ("DeltaPress$SuffixTree", "link", "[I", true)
  | 6 => ("DeltaPress$SuffixTree", "nodes", "I", false)
  | 7 => ("DeltaPress$SuffixTree", "slots", "[I", true)
  | 8 => ("DeltaPress$SuffixTree", "slotsUsed", "I", false)
  | 9 => ("DeltaPress$SuffixTree", "slotShift", "I", false)
  | 10 => ("DeltaPress$SuffixTree", "activeNode", "I", false)
  | 11 => ("DeltaPress$SuffixTree", "activeLength", "I", false)
  | 12 => ("DeltaPress$SuffixTree", "waiting", "I", false)
  | 13 => ("DeltaPress$SuffixTree", "foundLength", "I", false)
  | _ => ("DeltaPress$SuffixTree", "foundPlace", "I", false)
def zT_Su : Nat → FieldType := fun k => match k with
  | 0 => .array .byte
  | 1 => .int
  | 2 => .array .int
  | 3 => .array .int
  | 4 => .array .int
  | 5 => .array .int
  | 6 => .int
  | 7 => .array .int
  | 8 => .int
  | 9 => .int
  | 10 => .int
  | 11 => .int
  | 12 => .int
  | 13 => .int
  | _ => .int
theorem zN_Su : ∀ a, a < 15 → ∀ b, b < 15 → a ≠ b → (zF_Su a).2.1 ≠ (zF_Su b).2.1 := by decide +kernel
theorem zO_Su : ∀ k, k < 15 → parseFieldDescriptor (zF_Su k).2.2.1 = some (zT_Su k) := by decide +kernel
theorem zW_Su : ∀ w ∈ u_ws zR_Su zF_Su 15, w ∈ wz := by
  intro w h
  have h : w ∈ ([.lays "DeltaPress$SuffixTree" "DeltaPress$SuffixTree" "text" "[B", .lays "DeltaPress$SuffixTree" "DeltaPress$SuffixTree" "length" "I", .laysFinal "DeltaPress$SuffixTree" "DeltaPress$SuffixTree" "start" "[I", .laysFinal "DeltaPress$SuffixTree" "DeltaPress$SuffixTree" "end" "[I", .laysFinal "DeltaPress$SuffixTree" "DeltaPress$SuffixTree" "parent" "[I", .laysFinal "DeltaPress$SuffixTree" "DeltaPress$SuffixTree" "link" "[I", .lays "DeltaPress$SuffixTree" "DeltaPress$SuffixTree" "nodes" "I", .laysFinal "DeltaPress$SuffixTree" "DeltaPress$SuffixTree" "slots" "[I", .lays "DeltaPress$SuffixTree" "DeltaPress$SuffixTree" "slotsUsed" "I", .lays "DeltaPress$SuffixTree" "DeltaPress$SuffixTree" "slotShift" "I", .lays "DeltaPress$SuffixTree" "DeltaPress$SuffixTree" "activeNode" "I", .lays "DeltaPress$SuffixTree" "DeltaPress$SuffixTree" "activeLength" "I", .lays "DeltaPress$SuffixTree" "DeltaPress$SuffixTree" "waiting" "I", .lays "DeltaPress$SuffixTree" "DeltaPress$SuffixTree" "foundLength" "I", .lays "DeltaPress$SuffixTree" "DeltaPress$SuffixTree" "foundPlace" "I"] : List Cond) := h
  simp only [List.mem_cons, List.not_mem_nil, or_false] at h
  rcases h with rfl | rfl | rfl | rfl | rfl | rfl | rfl | rfl | rfl | rfl | rfl | rfl | rfl | rfl | rfl
  · exact zw_63
  · exact zw_65
  · exact zw_67
  · exact zw_69
  · exact zw_71
  · exact zw_73
  · exact zw_75
  · exact zw_77
  · exact zw_79
  · exact zw_81
  · exact zw_83
  · exact zw_85
  · exact zw_87
  · exact zw_89
  · exact zw_91
abbrev zR_De : String := "DeltaPress$DeltaReader"
def zF_De : u_T := fun k => match k with
  | _ => ("DeltaPress$DeltaReader", "place", "I", false)
def zT_De : Nat → FieldType := fun k => match k with
  | _ => .int
theorem zN_De : ∀ a, a < 1 → ∀ b, b < 1 → a ≠ b → (zF_De a).2.1 ≠ (zF_De b).2.1 := by decide +kernel
theorem zO_De : ∀ k, k < 1 → parseFieldDescriptor (zF_De k).2.2.1 = some (zT_De k) := by decide +kernel
theorem zW_De : ∀ w ∈ u_ws zR_De zF_De 1, w ∈ wz := by
  intro w h
  have h : w ∈ ([.lays "DeltaPress$DeltaReader" "DeltaPress$DeltaReader" "place" "I"] : List Cond) := h
  simp only [List.mem_cons, List.not_mem_nil, or_false] at h
  rcases h with rfl
  · exact zw_102
abbrev zR_Mo : String := "DeltaPressModel"
def zF_Mo : u_T := fun k => match k with
  | 0 => ("DeltaPressModel", "input", "[B", true)
  | 1 => ("DeltaPressModel", "base", "[B", true)
  | 2 => ("DeltaPressModel", "output", "[B", true)
  | 3 => ("DeltaPressModel", "room", "[B", true)
  | 4 => ("DeltaPressModel", "size", "I", false)
  | 5 => ("DeltaPressModel", "baseSize", "I", false)
  | 6 => ("DeltaPressModel", "made", "I", false)
  | 7 => ("DeltaPressModel", "copies", "I", false)
  | 8 => ("DeltaPressModel", "fresh", "I", false)
  | 9 => ("DeltaPressModel", "damaged", "I", false)
  | 10 => ("DeltaPressModel", "thrown", "I", false)
  | 11 => ("DeltaPressModel", "best", "I", false)
  | 12 => ("DeltaPressModel", "where", "I", false)
  | 13 => ("DeltaPressModel", "at", "I", false)
  | 14 => ("DeltaPressModel", "wrong", "Z", false)
  | _ => ("DeltaPressModel", "filled", "I", false)
def zT_Mo : Nat → FieldType := fun k => match k with
  | 0 => .array .byte
  | 1 => .array .byte
  | 2 => .array .byte
  | 3 => .array .byte
  | 4 => .int
  | 5 => .int
  | 6 => .int
  | 7 => .int
  | 8 => .int
  | 9 => .int
  | 10 => .int
  | 11 => .int
  | 12 => .int
  | 13 => .int
  | 14 => .boolean
  | _ => .int
theorem zN_Mo : ∀ a, a < 16 → ∀ b, b < 16 → a ≠ b → (zF_Mo a).2.1 ≠ (zF_Mo b).2.1 := by decide +kernel
theorem zO_Mo : ∀ k, k < 16 → parseFieldDescriptor (zF_Mo k).2.2.1 = some (zT_Mo k) := by decide +kernel
theorem zW_Mo : ∀ w ∈ u_ws zR_Mo zF_Mo 16, w ∈ wz := by
  intro w h
  have h : w ∈ ([.laysFinal "DeltaPressModel" "DeltaPressModel" "input" "[B", .laysFinal "DeltaPressModel" "DeltaPressModel" "base" "[B", .laysFinal "DeltaPressModel" "DeltaPressModel" "output" "[B", .laysFinal "DeltaPressModel" "DeltaPressModel" "room" "[B", .lays "DeltaPressModel" "DeltaPressModel" "size" "I", .lays "DeltaPressModel" "DeltaPressModel" "baseSize" "I", .lays "DeltaPressModel" "DeltaPressModel" "made" "I", .lays "DeltaPressModel" "DeltaPressModel" "copies" "I", .lays "DeltaPressModel" "DeltaPressModel" "fresh" "I", .lays "DeltaPressModel" "DeltaPressModel" "damaged" "I", .lays "DeltaPressModel" "DeltaPressModel" "thrown" "I", .lays "DeltaPressModel" "DeltaPressModel" "best" "I", .lays "DeltaPressModel" "DeltaPressModel" "where" "I", .lays "DeltaPressModel" "DeltaPressModel" "at" "I", .lays "DeltaPressModel" "DeltaPressModel" "wrong" "Z", .lays "DeltaPressModel" "DeltaPressModel" "filled" "I"] : List Cond) := h
  simp only [List.mem_cons, List.not_mem_nil, or_false] at h
  rcases h with rfl | rfl | rfl | rfl | rfl | rfl | rfl | rfl | rfl | rfl | rfl | rfl | rfl | rfl | rfl | rfl
  · exact zw_509
  · exact zw_511
  · exact zw_513
  · exact zw_515
  · exact zw_517
  · exact zw_519
  · exact zw_521
  · exact zw_523
  · exact zw_525
  · exact zw_527
  · exact zw_529
  · exact zw_531
  · exact zw_533
  · exact zw_535
  · exact zw_537
  · exact zw_539
abbrev zR_La : String := "DeltaPressLaw"
abbrev zR_In : String := "java/lang/Integer"
/-- the classes whose objects the worlds hold -/
abbrev zC : List vw_C := [(zR_Pr, zF_Pr, 10), (zR_Tx, zF_Tx, 2), (zR_Su, zF_Su, 15), (zR_De, zF_De, 1), (zR_Mo, zF_Mo, 16)]
abbrev zb_Pr_init : ByteArray := prog_1_method_1_code
abbrev zy_Pr_init : MethodName := ⟨"DeltaPress", "<init>", "()V"⟩
theorem zm_Pr_init : Cond.code zy_Pr_init zb_Pr_init 1 (none) ∈ wz := zw_20
abbrev zb_Tx_init : ByteArray := prog_4_method_1_code
abbrev zy_Tx_init : MethodName := ⟨"DeltaPress$Text", "<init>", "(I)V"⟩
theorem zm_Tx_init : Cond.code zy_Tx_init zb_Tx_init 2 (none) ∈ wz := zw_29
abbrev zb_Su_init : ByteArray := prog_3_method_1_code
abbrev zy_Su_init : MethodName := ⟨"DeltaPress$SuffixTree", "<init>", "()V"⟩
theorem zm_Su_init : Cond.code zy_Su_init zb_Su_init 1 (none) ∈ wz := zw_44
abbrev zb_De_init : ByteArray := prog_2_method_1_code
abbrev zy_De_init : MethodName := ⟨"DeltaPress$DeltaReader", "<init>", "()V"⟩
theorem zm_De_init : Cond.code zy_De_init zb_De_init 1 (none) ∈ wz := zw_99
abbrev zb_Pr_base : ByteArray := prog_1_method_5_code
abbrev zy_Pr_base : MethodName := ⟨"DeltaPress", "base", "()I"⟩
theorem zm_Pr_base : Cond.code zy_Pr_base zb_Pr_base 2 (some .int) ∈ wz := zw_139
abbrev zb_Tx_cut : ByteArray := prog_4_method_6_code
abbrev zy_Tx_cut : MethodName := ⟨"DeltaPress$Text", "cut", "(I)V"⟩
theorem zm_Tx_cut : Cond.code zy_Tx_cut zb_Tx_cut 2 (none) ∈ wz := zw_143
abbrev zb_Tx_size : ByteArray := prog_4_method_2_code
abbrev zy_Tx_size : MethodName := ⟨"DeltaPress$Text", "size", "()I"⟩
theorem zm_Tx_size : Cond.code zy_Tx_size zb_Tx_size 1 (some .int) ∈ wz := zw_147
abbrev zb_Pr_make : ByteArray := prog_1_method_6_code
abbrev zy_Pr_make : MethodName := ⟨"DeltaPress", "make", "()I"⟩
theorem zm_Pr_make : Cond.code zy_Pr_make zb_Pr_make 4 (some .int) ∈ wz := zw_151
abbrev zb_Tx_addNumber : ByteArray := prog_4_method_10_code
abbrev zy_Tx_addNumber : MethodName := ⟨"DeltaPress$Text", "addNumber", "(I)V"⟩
theorem zm_Tx_addNumber : Cond.code zy_Tx_addNumber zb_Tx_addNumber 4 (none) ∈ wz := zw_155
abbrev zb_Tx_add : ByteArray := prog_4_method_8_code
abbrev zy_Tx_add : MethodName := ⟨"DeltaPress$Text", "add", "(I)V"⟩
theorem zm_Tx_add : Cond.code zy_Tx_add zb_Tx_add 2 (none) ∈ wz := zw_159
abbrev zb_Pr_findLongest : ByteArray := prog_1_method_12_code
abbrev zy_Pr_findLongest : MethodName := ⟨"DeltaPress", "findLongest", "(I)V"⟩
theorem zm_Pr_findLongest : Cond.code zy_Pr_findLongest zb_Pr_findLongest 2 (none) ∈ wz := zw_163
abbrev zb_Su_grow : ByteArray := prog_3_method_4_code
abbrev zy_Su_grow : MethodName := ⟨"DeltaPress$SuffixTree", "grow", "(LDeltaPress$Text;)V"⟩
theorem zm_Su_grow : Cond.code zy_Su_grow zb_Su_grow 3 (none) ∈ wz := zw_167
abbrev zb_Tx_row : ByteArray := prog_4_method_5_code
abbrev zy_Tx_row : MethodName := ⟨"DeltaPress$Text", "row", "()[B"⟩
theorem zm_Tx_row : Cond.code zy_Tx_row zb_Tx_row 1 (some (.array .byte)) ∈ wz := zw_171
abbrev zb_Su_emptySlots : ByteArray := prog_3_method_5_code
abbrev zy_Su_emptySlots : MethodName := ⟨"DeltaPress$SuffixTree", "emptySlots", "()V"⟩
theorem zm_Su_emptySlots : Cond.code zy_Su_emptySlots zb_Su_emptySlots 2 (none) ∈ wz := zw_176
abbrev zb_In_highestOneBit : ByteArray := prog_12_method_45_code
abbrev zy_In_highestOneBit : MethodName := ⟨"java/lang/Integer", "highestOneBit", "(I)I"⟩
theorem zm_In_highestOneBit : Cond.code zy_In_highestOneBit zb_In_highestOneBit 1 (some .int) ∈ wz := zw_182
abbrev zb_In_numberOfLeadingZeros : ByteArray := prog_12_method_47_code
abbrev zy_In_numberOfLeadingZeros : MethodName := ⟨"java/lang/Integer", "numberOfLeadingZeros", "(I)I"⟩
theorem zm_In_numberOfLeadingZeros : Cond.code zy_In_numberOfLeadingZeros zb_In_numberOfLeadingZeros 2 (some .int) ∈ wz := zw_186
abbrev zb_In_bitCount : ByteArray := prog_12_method_49_code
abbrev zy_In_bitCount : MethodName := ⟨"java/lang/Integer", "bitCount", "(I)I"⟩
theorem zm_In_bitCount : Cond.code zy_In_bitCount zb_In_bitCount 1 (some .int) ∈ wz := zw_190
abbrev zb_Su_addLetter : ByteArray := prog_3_method_6_code
abbrev zy_Su_addLetter : MethodName := ⟨"DeltaPress$SuffixTree", "addLetter", "(I)V"⟩
theorem zm_Su_addLetter : Cond.code zy_Su_addLetter zb_Su_addLetter 7 (none) ∈ wz := zw_197
abbrev zb_Su_goDown : ByteArray := prog_3_method_7_code
abbrev zy_Su_goDown : MethodName := ⟨"DeltaPress$SuffixTree", "goDown", "(I)I"⟩
theorem zm_Su_goDown : Cond.code zy_Su_goDown zb_Su_goDown 6 (some .int) ∈ wz := zw_201
abbrev zb_Su_slotOf : ByteArray := prog_3_method_12_code
abbrev zy_Su_slotOf : MethodName := ⟨"DeltaPress$SuffixTree", "slotOf", "(IB)I"⟩
theorem zm_Su_slotOf : Cond.code zy_Su_slotOf zb_Su_slotOf 6 (some .int) ∈ wz := zw_205
abbrev zb_Su_split : ByteArray := prog_3_method_8_code
abbrev zy_Su_split : MethodName := ⟨"DeltaPress$SuffixTree", "split", "(II)I"⟩
theorem zm_Su_split : Cond.code zy_Su_split zb_Su_split 5 (some .int) ∈ wz := zw_210
abbrev zb_Su_addNode : ByteArray := prog_3_method_10_code
abbrev zy_Su_addNode : MethodName := ⟨"DeltaPress$SuffixTree", "addNode", "(III)I"⟩
theorem zm_Su_addNode : Cond.code zy_Su_addNode zb_Su_addNode 5 (some .int) ∈ wz := zw_214
abbrev zb_Su_addLeaf : ByteArray := prog_3_method_9_code
abbrev zy_Su_addLeaf : MethodName := ⟨"DeltaPress$SuffixTree", "addLeaf", "(II)V"⟩
theorem zm_Su_addLeaf : Cond.code zy_Su_addLeaf zb_Su_addLeaf 4 (none) ∈ wz := zw_218
abbrev zb_Su_goToNextSuffix : ByteArray := prog_3_method_11_code
abbrev zy_Su_goToNextSuffix : MethodName := ⟨"DeltaPress$SuffixTree", "goToNextSuffix", "()V"⟩
theorem zm_Su_goToNextSuffix : Cond.code zy_Su_goToNextSuffix zb_Su_goToNextSuffix 1 (none) ∈ wz := zw_222
abbrev zb_Su_find : ByteArray := prog_3_method_13_code
abbrev zy_Su_find : MethodName := ⟨"DeltaPress$SuffixTree", "find", "(LDeltaPress$Text;II)V"⟩
theorem zm_Su_find : Cond.code zy_Su_find zb_Su_find 10 (none) ∈ wz := zw_227
abbrev zb_Su_sameLetters : ByteArray := prog_3_method_14_code
abbrev zy_Su_sameLetters : MethodName := ⟨"DeltaPress$SuffixTree", "sameLetters", "(I[BII)I"⟩
theorem zm_Su_sameLetters : Cond.code zy_Su_sameLetters zb_Su_sameLetters 6 (some .int) ∈ wz := zw_234
abbrev zb_Su_foundLength : ByteArray := prog_3_method_2_code
abbrev zy_Su_foundLength : MethodName := ⟨"DeltaPress$SuffixTree", "foundLength", "()I"⟩
theorem zm_Su_foundLength : Cond.code zy_Su_foundLength zb_Su_foundLength 1 (some .int) ∈ wz := zw_238
abbrev zb_Pr_writeNew : ByteArray := prog_1_method_13_code
abbrev zy_Pr_writeNew : MethodName := ⟨"DeltaPress", "writeNew", "(II)V"⟩
theorem zm_Pr_writeNew : Cond.code zy_Pr_writeNew zb_Pr_writeNew 5 (none) ∈ wz := zw_242
abbrev zb_Tx_addPart : ByteArray := prog_4_method_12_code
abbrev zy_Tx_addPart : MethodName := ⟨"DeltaPress$Text", "addPart", "(LDeltaPress$Text;II)V"⟩
theorem zm_Tx_addPart : Cond.code zy_Tx_addPart zb_Tx_addPart 4 (none) ∈ wz := zw_248
abbrev zb_Su_foundPlace : ByteArray := prog_3_method_3_code
abbrev zy_Su_foundPlace : MethodName := ⟨"DeltaPress$SuffixTree", "foundPlace", "()I"⟩
theorem zm_Su_foundPlace : Cond.code zy_Su_foundPlace zb_Su_foundPlace 1 (some .int) ∈ wz := zw_255
abbrev zb_Pr_writeCopy : ByteArray := prog_1_method_14_code
abbrev zy_Pr_writeCopy : MethodName := ⟨"DeltaPress", "writeCopy", "(II)V"⟩
theorem zm_Pr_writeCopy : Cond.code zy_Pr_writeCopy zb_Pr_writeCopy 4 (none) ∈ wz := zw_259
abbrev zb_Pr_bitsOfBytes : ByteArray := prog_1_method_15_code
abbrev zy_Pr_bitsOfBytes : MethodName := ⟨"DeltaPress", "bitsOfBytes", "(II)I"⟩
theorem zm_Pr_bitsOfBytes : Cond.code zy_Pr_bitsOfBytes zb_Pr_bitsOfBytes 4 (some .int) ∈ wz := zw_262
abbrev zb_Tx_addBytesNotZero : ByteArray := prog_4_method_11_code
abbrev zy_Tx_addBytesNotZero : MethodName := ⟨"DeltaPress$Text", "addBytesNotZero", "(II)V"⟩
theorem zm_Tx_addBytesNotZero : Cond.code zy_Tx_addBytesNotZero zb_Tx_addBytesNotZero 5 (none) ∈ wz := zw_266
abbrev zb_Pr_count : ByteArray := prog_1_method_11_code
abbrev zy_Pr_count : MethodName := ⟨"DeltaPress", "count", "(I)I"⟩
theorem zm_Pr_count : Cond.code zy_Pr_count zb_Pr_count 2 (some .int) ∈ wz := zw_270
abbrev zb_La_feed : ByteArray := method_3_code
abbrev zy_La_feed : MethodName := ⟨"DeltaPressLaw", "feed", "(LDeltaPress;IIIII[J)I"⟩
abbrev zb_Pr_feed : ByteArray := prog_1_method_2_code
abbrev zy_Pr_feed : MethodName := ⟨"DeltaPress", "feed", "(IIIII)I"⟩
theorem zm_Pr_feed : Cond.code zy_Pr_feed zb_Pr_feed 6 (some .int) ∈ wz := zw_278
abbrev zb_Tx_addFour : ByteArray := prog_4_method_9_code
abbrev zy_Tx_addFour : MethodName := ⟨"DeltaPress$Text", "addFour", "(I)V"⟩
theorem zm_Tx_addFour : Cond.code zy_Tx_addFour zb_Tx_addFour 2 (none) ∈ wz := zw_351
abbrev zb_La_end : ByteArray := method_4_code
abbrev zy_La_end : MethodName := ⟨"DeltaPressLaw", "end", "(LDeltaPress;I[J)I"⟩
abbrev zb_Pr_end : ByteArray := prog_1_method_3_code
abbrev zy_Pr_end : MethodName := ⟨"DeltaPress", "end", "(I)I"⟩
theorem zm_Pr_end : Cond.code zy_Pr_end zb_Pr_end 2 (some .int) ∈ wz := zw_359
abbrev zb_La_change : ByteArray := method_5_code
abbrev zy_La_change : MethodName := ⟨"DeltaPressLaw", "change", "(LDeltaPress;II)I"⟩
abbrev zb_Pr_change : ByteArray := prog_1_method_4_code
abbrev zy_Pr_change : MethodName := ⟨"DeltaPress", "change", "(II)V"⟩
theorem zm_Pr_change : Cond.code zy_Pr_change zb_Pr_change 3 (none) ∈ wz := zw_382
abbrev zb_Tx_has : ByteArray := prog_4_method_3_code
abbrev zy_Tx_has : MethodName := ⟨"DeltaPress$Text", "has", "(I)Z"⟩
theorem zm_Tx_has : Cond.code zy_Tx_has zb_Tx_has 2 (some .boolean) ∈ wz := zw_386
abbrev zb_Tx_flip : ByteArray := prog_4_method_7_code
abbrev zy_Tx_flip : MethodName := ⟨"DeltaPress$Text", "flip", "(II)V"⟩
theorem zm_Tx_flip : Cond.code zy_Tx_flip zb_Tx_flip 3 (none) ∈ wz := zw_392
abbrev zb_La_use : ByteArray := method_6_code
abbrev zy_La_use : MethodName := ⟨"DeltaPressLaw", "use", "(LDeltaPress;[J)I"⟩
abbrev zb_Pr_use : ByteArray := prog_1_method_7_code
abbrev zy_Pr_use : MethodName := ⟨"DeltaPress", "use", "()I"⟩
theorem zm_Pr_use : Cond.code zy_Pr_use zb_Pr_use 2 (some .int) ∈ wz := zw_400
abbrev zb_De_isRead : ByteArray := prog_2_method_2_code
abbrev zy_De_isRead : MethodName := ⟨"DeltaPress$DeltaReader", "isRead", "(LDeltaPress$Text;LDeltaPress$Text;LDeltaPress$Text;)Z"⟩
theorem zm_De_isRead : Cond.code zy_De_isRead zb_De_isRead 7 (some .boolean) ∈ wz := zw_404
abbrev zb_De_readNumber : ByteArray := prog_2_method_3_code
abbrev zy_De_readNumber : MethodName := ⟨"DeltaPress$DeltaReader", "readNumber", "(LDeltaPress$Text;)I"⟩
theorem zm_De_readNumber : Cond.code zy_De_readNumber zb_De_readNumber 5 (some .int) ∈ wz := zw_409
abbrev zb_Tx_at : ByteArray := prog_4_method_4_code
abbrev zy_Tx_at : MethodName := ⟨"DeltaPress$Text", "at", "(I)I"⟩
theorem zm_Tx_at : Cond.code zy_Tx_at zb_Tx_at 2 (some .int) ∈ wz := zw_414
abbrev zb_De_isCopyRead : ByteArray := prog_2_method_4_code
abbrev zy_De_isCopyRead : MethodName := ⟨"DeltaPress$DeltaReader", "isCopyRead", "(LDeltaPress$Text;ILDeltaPress$Text;LDeltaPress$Text;I)Z"⟩
theorem zm_De_isCopyRead : Cond.code zy_De_isCopyRead zb_De_isCopyRead 8 (some .boolean) ∈ wz := zw_419
abbrev zb_De_readChosenBytes : ByteArray := prog_2_method_5_code
abbrev zy_De_readChosenBytes : MethodName := ⟨"DeltaPress$DeltaReader", "readChosenBytes", "(LDeltaPress$Text;II)I"⟩
theorem zm_De_readChosenBytes : Cond.code zy_De_readChosenBytes zb_De_readChosenBytes 6 (some .int) ∈ wz := zw_423
abbrev zb_De_isNewRead : ByteArray := prog_2_method_6_code
abbrev zy_De_isNewRead : MethodName := ⟨"DeltaPress$DeltaReader", "isNewRead", "(LDeltaPress$Text;ILDeltaPress$Text;I)Z"⟩
theorem zm_De_isNewRead : Cond.code zy_De_isNewRead zb_De_isNewRead 5 (some .boolean) ∈ wz := zw_428
abbrev zb_La_turn : ByteArray := method_7_code
abbrev zy_La_turn : MethodName := ⟨"DeltaPressLaw", "turn", "(LDeltaPress;[J)I"⟩
abbrev zb_Pr_turn : ByteArray := prog_1_method_8_code
abbrev zy_Pr_turn : MethodName := ⟨"DeltaPress", "turn", "()I"⟩
theorem zm_Pr_turn : Cond.code zy_Pr_turn zb_Pr_turn 1 (some .int) ∈ wz := zw_451
abbrev zb_La_longest : ByteArray := method_8_code
abbrev zy_La_longest : MethodName := ⟨"DeltaPressLaw", "longest", "(LDeltaPress;II[J)I"⟩
abbrev zb_Pr_longest : ByteArray := prog_1_method_9_code
abbrev zy_Pr_longest : MethodName := ⟨"DeltaPress", "longest", "(II)I"⟩
theorem zm_Pr_longest : Cond.code zy_Pr_longest zb_Pr_longest 4 (some .int) ∈ wz := zw_458
abbrev zb_La_letter : ByteArray := method_9_code
abbrev zy_La_letter : MethodName := ⟨"DeltaPressLaw", "letter", "(LDeltaPress;I[J)I"⟩
abbrev zb_Pr_letter : ByteArray := prog_1_method_10_code
abbrev zy_Pr_letter : MethodName := ⟨"DeltaPress", "letter", "(I)I"⟩
theorem zm_Pr_letter : Cond.code zy_Pr_letter zb_Pr_letter 2 (some .int) ∈ wz := zw_467
abbrev zb_Mo_init : ByteArray := prog_6_method_1_code
abbrev zy_Mo_init : MethodName := ⟨"DeltaPressModel", "<init>", "()V"⟩
theorem zm_Mo_init : Cond.code zy_Mo_init zb_Mo_init 1 (none) ∈ wz := zw_489
abbrev zb_Mo_thrown : ByteArray := prog_6_method_2_code
abbrev zy_Mo_thrown : MethodName := ⟨"DeltaPressModel", "thrown", "()I"⟩
theorem zm_Mo_thrown : Cond.code zy_Mo_thrown zb_Mo_thrown 1 (some .int) ∈ wz := zw_545
abbrev zb_Mo_feed : ByteArray := prog_6_method_4_code
abbrev zy_Mo_feed : MethodName := ⟨"DeltaPressModel", "feed", "(IIIII)I"⟩
theorem zm_Mo_feed : Cond.code zy_Mo_feed zb_Mo_feed 8 (some .int) ∈ wz := zw_549
abbrev zb_Mo_refuse : ByteArray := prog_6_method_3_code
abbrev zy_Mo_refuse : MethodName := ⟨"DeltaPressModel", "refuse", "(I)I"⟩
theorem zm_Mo_refuse : Cond.code zy_Mo_refuse zb_Mo_refuse 2 (some .int) ∈ wz := zw_553
abbrev zb_Mo_end : ByteArray := prog_6_method_5_code
abbrev zy_Mo_end : MethodName := ⟨"DeltaPressModel", "end", "(I)I"⟩
theorem zm_Mo_end : Cond.code zy_Mo_end zb_Mo_end 2 (some .int) ∈ wz := zw_557
abbrev zb_Mo_change : ByteArray := prog_6_method_6_code
abbrev zy_Mo_change : MethodName := ⟨"DeltaPressModel", "change", "(II)V"⟩
theorem zm_Mo_change : Cond.code zy_Mo_change zb_Mo_change 3 (none) ∈ wz := zw_561
abbrev zb_Mo_base : ByteArray := prog_6_method_7_code
abbrev zy_Mo_base : MethodName := ⟨"DeltaPressModel", "base", "()I"⟩
theorem zm_Mo_base : Cond.code zy_Mo_base zb_Mo_base 2 (some .int) ∈ wz := zw_565
abbrev zb_Mo_make : ByteArray := prog_6_method_13_code
abbrev zy_Mo_make : MethodName := ⟨"DeltaPressModel", "make", "()I"⟩
theorem zm_Mo_make : Cond.code zy_Mo_make zb_Mo_make 3 (some .int) ∈ wz := zw_569
abbrev zb_Mo_putNumber : ByteArray := prog_6_method_10_code
abbrev zy_Mo_putNumber : MethodName := ⟨"DeltaPressModel", "putNumber", "(I)V"⟩
theorem zm_Mo_putNumber : Cond.code zy_Mo_putNumber zb_Mo_putNumber 3 (none) ∈ wz := zw_573
abbrev zb_Mo_put : ByteArray := prog_6_method_9_code
abbrev zy_Mo_put : MethodName := ⟨"DeltaPressModel", "put", "(I)V"⟩
theorem zm_Mo_put : Cond.code zy_Mo_put zb_Mo_put 2 (none) ∈ wz := zw_577
abbrev zb_Mo_look : ByteArray := prog_6_method_8_code
abbrev zy_Mo_look : MethodName := ⟨"DeltaPressModel", "look", "(I)V"⟩
theorem zm_Mo_look : Cond.code zy_Mo_look zb_Mo_look 4 (none) ∈ wz := zw_581
abbrev zb_Mo_putFresh : ByteArray := prog_6_method_12_code
abbrev zy_Mo_putFresh : MethodName := ⟨"DeltaPressModel", "putFresh", "(II)V"⟩
theorem zm_Mo_putFresh : Cond.code zy_Mo_putFresh zb_Mo_putFresh 6 (none) ∈ wz := zw_586
abbrev zb_Mo_putCopy : ByteArray := prog_6_method_11_code
abbrev zy_Mo_putCopy : MethodName := ⟨"DeltaPressModel", "putCopy", "()V"⟩
theorem zm_Mo_putCopy : Cond.code zy_Mo_putCopy zb_Mo_putCopy 3 (none) ∈ wz := zw_590
abbrev zb_Mo_use : ByteArray := prog_6_method_18_code
abbrev zy_Mo_use : MethodName := ⟨"DeltaPressModel", "use", "()I"⟩
theorem zm_Mo_use : Cond.code zy_Mo_use zb_Mo_use 4 (some .int) ∈ wz := zw_594
abbrev zb_Mo_number : ByteArray := prog_6_method_15_code
abbrev zy_Mo_number : MethodName := ⟨"DeltaPressModel", "number", "()I"⟩
theorem zm_Mo_number : Cond.code zy_Mo_number zb_Mo_number 4 (some .int) ∈ wz := zw_598
abbrev zb_Mo_next : ByteArray := prog_6_method_14_code
abbrev zy_Mo_next : MethodName := ⟨"DeltaPressModel", "next", "()I"⟩
theorem zm_Mo_next : Cond.code zy_Mo_next zb_Mo_next 1 (some .int) ∈ wz := zw_602
abbrev zb_Mo_part : ByteArray := prog_6_method_17_code
abbrev zy_Mo_part : MethodName := ⟨"DeltaPressModel", "part", "(I)V"⟩
theorem zm_Mo_part : Cond.code zy_Mo_part zb_Mo_part 7 (none) ∈ wz := zw_606
abbrev zb_Mo_give : ByteArray := prog_6_method_16_code
abbrev zy_Mo_give : MethodName := ⟨"DeltaPressModel", "give", "(BI)V"⟩
theorem zm_Mo_give : Cond.code zy_Mo_give zb_Mo_give 3 (none) ∈ wz := zw_610
abbrev zb_Mo_turn : ByteArray := prog_6_method_19_code
abbrev zy_Mo_turn : MethodName := ⟨"DeltaPressModel", "turn", "()I"⟩
theorem zm_Mo_turn : Cond.code zy_Mo_turn zb_Mo_turn 2 (some .int) ∈ wz := zw_614
abbrev zb_Mo_longest : ByteArray := prog_6_method_20_code
abbrev zy_Mo_longest : MethodName := ⟨"DeltaPressModel", "longest", "(II)I"⟩
theorem zm_Mo_longest : Cond.code zy_Mo_longest zb_Mo_longest 3 (some .int) ∈ wz := zw_618
abbrev zb_Mo_letter : ByteArray := prog_6_method_21_code
abbrev zy_Mo_letter : MethodName := ⟨"DeltaPressModel", "letter", "(I)I"⟩
theorem zm_Mo_letter : Cond.code zy_Mo_letter zb_Mo_letter 2 (some .int) ∈ wz := zw_622
abbrev zb_Mo_count : ByteArray := prog_6_method_22_code
abbrev zy_Mo_count : MethodName := ⟨"DeltaPressModel", "count", "(I)I"⟩
theorem zm_Mo_count : Cond.code zy_Mo_count zb_Mo_count 2 (some .int) ∈ wz := zw_626
abbrev zb_La_law : ByteArray := code
end
section
theorem zd_Pr_init_0 : decode zb_Pr_init 0 = .ok (.aload_n 0, 1) := by decide +kernel
theorem zd_Pr_init_1 : decode zb_Pr_init 1 = .ok (.invokespecial 3, 3) := by decide +kernel
theorem zd_Pr_init_4 : decode zb_Pr_init 4 = .ok (.aload_n 0, 1) := by decide +kernel
theorem zd_Pr_init_5 : decode zb_Pr_init 5 = .ok (.new 9, 3) := by decide +kernel
theorem zd_Pr_init_8 : decode zb_Pr_init 8 = .ok (.dup, 1) := by decide +kernel
theorem zd_Pr_init_9 : decode zb_Pr_init 9 = .ok (.ldc 11, 2) := by decide +kernel
theorem zd_Pr_init_11 : decode zb_Pr_init 11 = .ok (.invokespecial 12, 3) := by decide +kernel
theorem zd_Pr_init_14 : decode zb_Pr_init 14 = .ok (.putfield 15, 3) := by decide +kernel
theorem zd_Pr_init_17 : decode zb_Pr_init 17 = .ok (.aload_n 0, 1) := by decide +kernel
theorem zd_Pr_init_18 : decode zb_Pr_init 18 = .ok (.new 9, 3) := by decide +kernel
theorem zd_Pr_init_21 : decode zb_Pr_init 21 = .ok (.dup, 1) := by decide +kernel
theorem zd_Pr_init_22 : decode zb_Pr_init 22 = .ok (.ldc 11, 2) := by decide +kernel
theorem zd_Pr_init_24 : decode zb_Pr_init 24 = .ok (.invokespecial 12, 3) := by decide +kernel
theorem zd_Pr_init_27 : decode zb_Pr_init 27 = .ok (.putfield 19, 3) := by decide +kernel
theorem zd_Pr_init_30 : decode zb_Pr_init 30 = .ok (.aload_n 0, 1) := by decide +kernel
theorem zd_Pr_init_31 : decode zb_Pr_init 31 = .ok (.new 9, 3) := by decide +kernel
theorem zd_Pr_init_34 : decode zb_Pr_init 34 = .ok (.dup, 1) := by decide +kernel
theorem zd_Pr_init_35 : decode zb_Pr_init 35 = .ok (.ldc 22, 2) := by decide +kernel
theorem zd_Pr_init_37 : decode zb_Pr_init 37 = .ok (.invokespecial 12, 3) := by decide +kernel
theorem zd_Pr_init_40 : decode zb_Pr_init 40 = .ok (.putfield 23, 3) := by decide +kernel
theorem zd_Pr_init_43 : decode zb_Pr_init 43 = .ok (.aload_n 0, 1) := by decide +kernel
theorem zd_Pr_init_44 : decode zb_Pr_init 44 = .ok (.new 9, 3) := by decide +kernel
theorem zd_Pr_init_47 : decode zb_Pr_init 47 = .ok (.dup, 1) := by decide +kernel
theorem zd_Pr_init_48 : decode zb_Pr_init 48 = .ok (.ldc 22, 2) := by decide +kernel
theorem zd_Pr_init_50 : decode zb_Pr_init 50 = .ok (.invokespecial 12, 3) := by decide +kernel
theorem zd_Pr_init_53 : decode zb_Pr_init 53 = .ok (.putfield 26, 3) := by decide +kernel
theorem zd_Pr_init_56 : decode zb_Pr_init 56 = .ok (.aload_n 0, 1) := by decide +kernel
theorem zd_Pr_init_57 : decode zb_Pr_init 57 = .ok (.new 29, 3) := by decide +kernel
theorem zd_Pr_init_60 : decode zb_Pr_init 60 = .ok (.dup, 1) := by decide +kernel
theorem zd_Pr_init_61 : decode zb_Pr_init 61 = .ok (.invokespecial 31, 3) := by decide +kernel
theorem zd_Pr_init_64 : decode zb_Pr_init 64 = .ok (.putfield 32, 3) := by decide +kernel
theorem zd_Pr_init_67 : decode zb_Pr_init 67 = .ok (.aload_n 0, 1) := by decide +kernel
theorem zd_Pr_init_68 : decode zb_Pr_init 68 = .ok (.iconst 0, 1) := by decide +kernel
theorem zd_Pr_init_69 : decode zb_Pr_init 69 = .ok (.putfield 36, 3) := by decide +kernel
theorem zd_Pr_init_72 : decode zb_Pr_init 72 = .ok (.aload_n 0, 1) := by decide +kernel
theorem zd_Pr_init_73 : decode zb_Pr_init 73 = .ok (.new 40, 3) := by decide +kernel
theorem zd_Pr_init_76 : decode zb_Pr_init 76 = .ok (.dup, 1) := by decide +kernel
theorem zd_Pr_init_77 : decode zb_Pr_init 77 = .ok (.invokespecial 42, 3) := by decide +kernel
theorem zd_Pr_init_80 : decode zb_Pr_init 80 = .ok (.putfield 43, 3) := by decide +kernel
theorem zd_Pr_init_83 : decode zb_Pr_init 83 = .ok (.aload_n 0, 1) := by decide +kernel
theorem zd_Pr_init_84 : decode zb_Pr_init 84 = .ok (.iconst 0, 1) := by decide +kernel
theorem zd_Pr_init_85 : decode zb_Pr_init 85 = .ok (.putfield 47, 3) := by decide +kernel
theorem zd_Pr_init_88 : decode zb_Pr_init 88 = .ok (.aload_n 0, 1) := by decide +kernel
theorem zd_Pr_init_89 : decode zb_Pr_init 89 = .ok (.iconst 0, 1) := by decide +kernel
theorem zd_Pr_init_90 : decode zb_Pr_init 90 = .ok (.putfield 51, 3) := by decide +kernel
theorem zd_Pr_init_93 : decode zb_Pr_init 93 = .ok (.aload_n 0, 1) := by decide +kernel
theorem zd_Pr_init_94 : decode zb_Pr_init 94 = .ok (.iconst 0, 1) := by decide +kernel
theorem zd_Pr_init_95 : decode zb_Pr_init 95 = .ok (.putfield 54, 3) := by decide +kernel
theorem zd_Pr_init_98 : decode zb_Pr_init 98 = .ok (.return_, 1) := by decide +kernel
theorem zd_Tx_init_0 : decode zb_Tx_init 0 = .ok (.aload_n 0, 1) := by decide +kernel
theorem zd_Tx_init_1 : decode zb_Tx_init 1 = .ok (.invokespecial 1, 3) := by decide +kernel
theorem zd_Tx_init_4 : decode zb_Tx_init 4 = .ok (.aload_n 0, 1) := by decide +kernel
theorem zd_Tx_init_5 : decode zb_Tx_init 5 = .ok (.iconst 0, 1) := by decide +kernel
theorem zd_Tx_init_6 : decode zb_Tx_init 6 = .ok (.putfield 7, 3) := by decide +kernel
theorem zd_Tx_init_9 : decode zb_Tx_init 9 = .ok (.aload_n 0, 1) := by decide +kernel
theorem zd_Tx_init_10 : decode zb_Tx_init 10 = .ok (.iload_n 1, 1) := by decide +kernel
theorem zd_Tx_init_11 : decode zb_Tx_init 11 = .ok (.newarray .byte, 2) := by decide +kernel
theorem zd_Tx_init_13 : decode zb_Tx_init 13 = .ok (.putfield 13, 3) := by decide +kernel
theorem zd_Tx_init_16 : decode zb_Tx_init 16 = .ok (.return_, 1) := by decide +kernel
theorem zd_Su_init_0 : decode zb_Su_init 0 = .ok (.aload_n 0, 1) := by decide +kernel
theorem zd_Su_init_1 : decode zb_Su_init 1 = .ok (.invokespecial 3, 3) := by decide +kernel
theorem zd_Su_init_4 : decode zb_Su_init 4 = .ok (.aload_n 0, 1) := by decide +kernel
theorem zd_Su_init_5 : decode zb_Su_init 5 = .ok (.iconst 0, 1) := by decide +kernel
theorem zd_Su_init_6 : decode zb_Su_init 6 = .ok (.newarray .byte, 2) := by decide +kernel
theorem zd_Su_init_8 : decode zb_Su_init 8 = .ok (.putfield 9, 3) := by decide +kernel
theorem zd_Su_init_11 : decode zb_Su_init 11 = .ok (.aload_n 0, 1) := by decide +kernel
theorem zd_Su_init_12 : decode zb_Su_init 12 = .ok (.iconst 0, 1) := by decide +kernel
theorem zd_Su_init_13 : decode zb_Su_init 13 = .ok (.putfield 15, 3) := by decide +kernel
theorem zd_Su_init_16 : decode zb_Su_init 16 = .ok (.aload_n 0, 1) := by decide +kernel
theorem zd_Su_init_17 : decode zb_Su_init 17 = .ok (.ldc 19, 2) := by decide +kernel
theorem zd_Su_init_19 : decode zb_Su_init 19 = .ok (.newarray .int, 2) := by decide +kernel
theorem zd_Su_init_21 : decode zb_Su_init 21 = .ok (.putfield 20, 3) := by decide +kernel
theorem zd_Su_init_24 : decode zb_Su_init 24 = .ok (.aload_n 0, 1) := by decide +kernel
theorem zd_Su_init_25 : decode zb_Su_init 25 = .ok (.ldc 19, 2) := by decide +kernel
theorem zd_Su_init_27 : decode zb_Su_init 27 = .ok (.newarray .int, 2) := by decide +kernel
theorem zd_Su_init_29 : decode zb_Su_init 29 = .ok (.putfield 24, 3) := by decide +kernel
theorem zd_Su_init_32 : decode zb_Su_init 32 = .ok (.aload_n 0, 1) := by decide +kernel
theorem zd_Su_init_33 : decode zb_Su_init 33 = .ok (.ldc 19, 2) := by decide +kernel
theorem zd_Su_init_35 : decode zb_Su_init 35 = .ok (.newarray .int, 2) := by decide +kernel
theorem zd_Su_init_37 : decode zb_Su_init 37 = .ok (.putfield 27, 3) := by decide +kernel
theorem zd_Su_init_40 : decode zb_Su_init 40 = .ok (.aload_n 0, 1) := by decide +kernel
theorem zd_Su_init_41 : decode zb_Su_init 41 = .ok (.ldc 19, 2) := by decide +kernel
theorem zd_Su_init_43 : decode zb_Su_init 43 = .ok (.newarray .int, 2) := by decide +kernel
theorem zd_Su_init_45 : decode zb_Su_init 45 = .ok (.putfield 30, 3) := by decide +kernel
theorem zd_Su_init_48 : decode zb_Su_init 48 = .ok (.aload_n 0, 1) := by decide +kernel
theorem zd_Su_init_49 : decode zb_Su_init 49 = .ok (.iconst 1, 1) := by decide +kernel
theorem zd_Su_init_50 : decode zb_Su_init 50 = .ok (.putfield 33, 3) := by decide +kernel
theorem zd_Su_init_53 : decode zb_Su_init 53 = .ok (.aload_n 0, 1) := by decide +kernel
theorem zd_Su_init_54 : decode zb_Su_init 54 = .ok (.ldc 36, 2) := by decide +kernel
theorem zd_Su_init_56 : decode zb_Su_init 56 = .ok (.newarray .int, 2) := by decide +kernel
theorem zd_Su_init_58 : decode zb_Su_init 58 = .ok (.putfield 37, 3) := by decide +kernel
theorem zd_Su_init_61 : decode zb_Su_init 61 = .ok (.aload_n 0, 1) := by decide +kernel
theorem zd_Su_init_62 : decode zb_Su_init 62 = .ok (.iconst 0, 1) := by decide +kernel
theorem zd_Su_init_63 : decode zb_Su_init 63 = .ok (.putfield 40, 3) := by decide +kernel
theorem zd_Su_init_66 : decode zb_Su_init 66 = .ok (.aload_n 0, 1) := by decide +kernel
theorem zd_Su_init_67 : decode zb_Su_init 67 = .ok (.iconst 0, 1) := by decide +kernel
theorem zd_Su_init_68 : decode zb_Su_init 68 = .ok (.putfield 43, 3) := by decide +kernel
theorem zd_Su_init_71 : decode zb_Su_init 71 = .ok (.aload_n 0, 1) := by decide +kernel
theorem zd_Su_init_72 : decode zb_Su_init 72 = .ok (.iconst 0, 1) := by decide +kernel
theorem zd_Su_init_73 : decode zb_Su_init 73 = .ok (.putfield 46, 3) := by decide +kernel
theorem zd_Su_init_76 : decode zb_Su_init 76 = .ok (.aload_n 0, 1) := by decide +kernel
theorem zd_Su_init_77 : decode zb_Su_init 77 = .ok (.iconst 0, 1) := by decide +kernel
theorem zd_Su_init_78 : decode zb_Su_init 78 = .ok (.putfield 49, 3) := by decide +kernel
theorem zd_Su_init_81 : decode zb_Su_init 81 = .ok (.aload_n 0, 1) := by decide +kernel
theorem zd_Su_init_82 : decode zb_Su_init 82 = .ok (.iconst 0, 1) := by decide +kernel
theorem zd_Su_init_83 : decode zb_Su_init 83 = .ok (.putfield 52, 3) := by decide +kernel
theorem zd_Su_init_86 : decode zb_Su_init 86 = .ok (.aload_n 0, 1) := by decide +kernel
theorem zd_Su_init_87 : decode zb_Su_init 87 = .ok (.iconst 0, 1) := by decide +kernel
theorem zd_Su_init_88 : decode zb_Su_init 88 = .ok (.putfield 55, 3) := by decide +kernel
theorem zd_Su_init_91 : decode zb_Su_init 91 = .ok (.aload_n 0, 1) := by decide +kernel
theorem zd_Su_init_92 : decode zb_Su_init 92 = .ok (.iconst (-1), 1) := by decide +kernel
theorem zd_Su_init_93 : decode zb_Su_init 93 = .ok (.putfield 58, 3) := by decide +kernel
theorem zd_Su_init_96 : decode zb_Su_init 96 = .ok (.return_, 1) := by decide +kernel
theorem zd_De_init_0 : decode zb_De_init 0 = .ok (.aload_n 0, 1) := by decide +kernel
theorem zd_De_init_1 : decode zb_De_init 1 = .ok (.invokespecial 3, 3) := by decide +kernel
theorem zd_De_init_4 : decode zb_De_init 4 = .ok (.aload_n 0, 1) := by decide +kernel
theorem zd_De_init_5 : decode zb_De_init 5 = .ok (.iconst 0, 1) := by decide +kernel
theorem zd_De_init_6 : decode zb_De_init 6 = .ok (.putfield 9, 3) := by decide +kernel
theorem zd_De_init_9 : decode zb_De_init 9 = .ok (.return_, 1) := by decide +kernel
theorem zd_Pr_base_0 : decode zb_Pr_base 0 = .ok (.aload_n 0, 1) := by decide +kernel
theorem zd_Pr_base_1 : decode zb_Pr_base 1 = .ok (.getfield 19, 3) := by decide +kernel
theorem zd_Pr_base_4 : decode zb_Pr_base 4 = .ok (.astore_n 1, 1) := by decide +kernel
theorem zd_Pr_base_5 : decode zb_Pr_base 5 = .ok (.aload_n 0, 1) := by decide +kernel
theorem zd_Pr_base_6 : decode zb_Pr_base 6 = .ok (.aload_n 0, 1) := by decide +kernel
theorem zd_Pr_base_7 : decode zb_Pr_base 7 = .ok (.getfield 15, 3) := by decide +kernel
theorem zd_Pr_base_10 : decode zb_Pr_base 10 = .ok (.putfield 19, 3) := by decide +kernel
theorem zd_Pr_base_13 : decode zb_Pr_base 13 = .ok (.aload_n 0, 1) := by decide +kernel
theorem zd_Pr_base_14 : decode zb_Pr_base 14 = .ok (.aload_n 1, 1) := by decide +kernel
theorem zd_Pr_base_15 : decode zb_Pr_base 15 = .ok (.putfield 15, 3) := by decide +kernel
theorem zd_Pr_base_18 : decode zb_Pr_base 18 = .ok (.aload_n 0, 1) := by decide +kernel
theorem zd_Pr_base_19 : decode zb_Pr_base 19 = .ok (.getfield 15, 3) := by decide +kernel
theorem zd_Pr_base_22 : decode zb_Pr_base 22 = .ok (.iconst 0, 1) := by decide +kernel
theorem zd_Pr_base_23 : decode zb_Pr_base 23 = .ok (.invokevirtual 77, 3) := by decide +kernel
theorem zd_Pr_base_26 : decode zb_Pr_base 26 = .ok (.aload_n 0, 1) := by decide +kernel
theorem zd_Pr_base_27 : decode zb_Pr_base 27 = .ok (.iconst 0, 1) := by decide +kernel
theorem zd_Pr_base_28 : decode zb_Pr_base 28 = .ok (.putfield 36, 3) := by decide +kernel
theorem zd_Pr_base_31 : decode zb_Pr_base 31 = .ok (.aload_n 0, 1) := by decide +kernel
theorem zd_Pr_base_32 : decode zb_Pr_base 32 = .ok (.getfield 19, 3) := by decide +kernel
theorem zd_Pr_base_35 : decode zb_Pr_base 35 = .ok (.invokevirtual 57, 3) := by decide +kernel
theorem zd_Pr_base_38 : decode zb_Pr_base 38 = .ok (.ireturn, 1) := by decide +kernel
theorem zd_Tx_cut_0 : decode zb_Tx_cut 0 = .ok (.aload_n 0, 1) := by decide +kernel
theorem zd_Tx_cut_1 : decode zb_Tx_cut 1 = .ok (.iload_n 1, 1) := by decide +kernel
theorem zd_Tx_cut_2 : decode zb_Tx_cut 2 = .ok (.putfield 7, 3) := by decide +kernel
theorem zd_Tx_cut_5 : decode zb_Tx_cut 5 = .ok (.return_, 1) := by decide +kernel
theorem zd_Tx_size_0 : decode zb_Tx_size 0 = .ok (.aload_n 0, 1) := by decide +kernel
theorem zd_Tx_size_1 : decode zb_Tx_size 1 = .ok (.getfield 7, 3) := by decide +kernel
theorem zd_Tx_size_4 : decode zb_Tx_size 4 = .ok (.ireturn, 1) := by decide +kernel
theorem zd_Pr_make_0 : decode zb_Pr_make 0 = .ok (.aload_n 0, 1) := by decide +kernel
theorem zd_Pr_make_1 : decode zb_Pr_make 1 = .ok (.getfield 23, 3) := by decide +kernel
theorem zd_Pr_make_4 : decode zb_Pr_make 4 = .ok (.iconst 0, 1) := by decide +kernel
theorem zd_Pr_make_5 : decode zb_Pr_make 5 = .ok (.invokevirtual 77, 3) := by decide +kernel
theorem zd_Pr_make_8 : decode zb_Pr_make 8 = .ok (.aload_n 0, 1) := by decide +kernel
theorem zd_Pr_make_9 : decode zb_Pr_make 9 = .ok (.getfield 23, 3) := by decide +kernel
theorem zd_Pr_make_12 : decode zb_Pr_make 12 = .ok (.aload_n 0, 1) := by decide +kernel
theorem zd_Pr_make_13 : decode zb_Pr_make 13 = .ok (.getfield 19, 3) := by decide +kernel
theorem zd_Pr_make_16 : decode zb_Pr_make 16 = .ok (.invokevirtual 57, 3) := by decide +kernel
theorem zd_Pr_make_19 : decode zb_Pr_make 19 = .ok (.invokevirtual 92, 3) := by decide +kernel
theorem zd_Pr_make_22 : decode zb_Pr_make 22 = .ok (.aload_n 0, 1) := by decide +kernel
theorem zd_Pr_make_23 : decode zb_Pr_make 23 = .ok (.getfield 23, 3) := by decide +kernel
theorem zd_Pr_make_26 : decode zb_Pr_make 26 = .ok (.aload_n 0, 1) := by decide +kernel
theorem zd_Pr_make_27 : decode zb_Pr_make 27 = .ok (.getfield 15, 3) := by decide +kernel
theorem zd_Pr_make_30 : decode zb_Pr_make 30 = .ok (.invokevirtual 57, 3) := by decide +kernel
theorem zd_Pr_make_33 : decode zb_Pr_make 33 = .ok (.invokevirtual 92, 3) := by decide +kernel
theorem zd_Pr_make_36 : decode zb_Pr_make 36 = .ok (.aload_n 0, 1) := by decide +kernel
theorem zd_Pr_make_37 : decode zb_Pr_make 37 = .ok (.iconst 0, 1) := by decide +kernel
theorem zd_Pr_make_38 : decode zb_Pr_make 38 = .ok (.putfield 47, 3) := by decide +kernel
theorem zd_Pr_make_41 : decode zb_Pr_make 41 = .ok (.aload_n 0, 1) := by decide +kernel
theorem zd_Pr_make_42 : decode zb_Pr_make 42 = .ok (.iconst 0, 1) := by decide +kernel
theorem zd_Pr_make_43 : decode zb_Pr_make 43 = .ok (.putfield 51, 3) := by decide +kernel
theorem zd_Pr_make_46 : decode zb_Pr_make 46 = .ok (.iconst 0, 1) := by decide +kernel
theorem zd_Pr_make_47 : decode zb_Pr_make 47 = .ok (.istore_n 1, 1) := by decide +kernel
theorem zd_Pr_make_48 : decode zb_Pr_make 48 = .ok (.iconst 0, 1) := by decide +kernel
theorem zd_Pr_make_49 : decode zb_Pr_make 49 = .ok (.istore_n 2, 1) := by decide +kernel
theorem zd_Pr_make_50 : decode zb_Pr_make 50 = .ok (.iload_n 2, 1) := by decide +kernel
theorem zd_Pr_make_51 : decode zb_Pr_make 51 = .ok (.aload_n 0, 1) := by decide +kernel
theorem zd_Pr_make_52 : decode zb_Pr_make 52 = .ok (.getfield 15, 3) := by decide +kernel
theorem zd_Pr_make_55 : decode zb_Pr_make 55 = .ok (.invokevirtual 57, 3) := by decide +kernel
theorem zd_Pr_make_58 : decode zb_Pr_make 58 = .ok (.if_icmp .ge 55, 3) := by decide +kernel
theorem zd_Pr_make_61 : decode zb_Pr_make 61 = .ok (.aload_n 0, 1) := by decide +kernel
theorem zd_Pr_make_62 : decode zb_Pr_make 62 = .ok (.iload_n 2, 1) := by decide +kernel
theorem zd_Pr_make_63 : decode zb_Pr_make 63 = .ok (.invokevirtual 95, 3) := by decide +kernel
theorem zd_Pr_make_66 : decode zb_Pr_make 66 = .ok (.aload_n 0, 1) := by decide +kernel
theorem zd_Pr_make_67 : decode zb_Pr_make 67 = .ok (.getfield 32, 3) := by decide +kernel
theorem zd_Pr_make_70 : decode zb_Pr_make 70 = .ok (.invokevirtual 98, 3) := by decide +kernel
theorem zd_Pr_make_73 : decode zb_Pr_make 73 = .ok (.istore_n 3, 1) := by decide +kernel
theorem zd_Pr_make_74 : decode zb_Pr_make 74 = .ok (.iload_n 3, 1) := by decide +kernel
theorem zd_Pr_make_75 : decode zb_Pr_make 75 = .ok (.bipush 8, 2) := by decide +kernel
theorem zd_Pr_make_77 : decode zb_Pr_make 77 = .ok (.if_icmp .lt 30, 3) := by decide +kernel
theorem zd_Pr_make_80 : decode zb_Pr_make 80 = .ok (.aload_n 0, 1) := by decide +kernel
theorem zd_Pr_make_81 : decode zb_Pr_make 81 = .ok (.iload_n 1, 1) := by decide +kernel
theorem zd_Pr_make_82 : decode zb_Pr_make 82 = .ok (.iload_n 2, 1) := by decide +kernel
theorem zd_Pr_make_83 : decode zb_Pr_make 83 = .ok (.invokevirtual 101, 3) := by decide +kernel
theorem zd_Pr_make_86 : decode zb_Pr_make 86 = .ok (.aload_n 0, 1) := by decide +kernel
theorem zd_Pr_make_87 : decode zb_Pr_make 87 = .ok (.aload_n 0, 1) := by decide +kernel
theorem zd_Pr_make_88 : decode zb_Pr_make 88 = .ok (.getfield 32, 3) := by decide +kernel
theorem zd_Pr_make_91 : decode zb_Pr_make 91 = .ok (.invokevirtual 104, 3) := by decide +kernel
theorem zd_Pr_make_94 : decode zb_Pr_make 94 = .ok (.iload_n 3, 1) := by decide +kernel
theorem zd_Pr_make_95 : decode zb_Pr_make 95 = .ok (.invokevirtual 107, 3) := by decide +kernel
theorem zd_Pr_make_98 : decode zb_Pr_make 98 = .ok (.iload_n 2, 1) := by decide +kernel
theorem zd_Pr_make_99 : decode zb_Pr_make 99 = .ok (.iload_n 3, 1) := by decide +kernel
theorem zd_Pr_make_100 : decode zb_Pr_make 100 = .ok (.iadd, 1) := by decide +kernel
theorem zd_Pr_make_101 : decode zb_Pr_make 101 = .ok (.istore_n 2, 1) := by decide +kernel
theorem zd_Pr_make_102 : decode zb_Pr_make 102 = .ok (.iload_n 2, 1) := by decide +kernel
theorem zd_Pr_make_103 : decode zb_Pr_make 103 = .ok (.istore_n 1, 1) := by decide +kernel
theorem zd_Pr_make_104 : decode zb_Pr_make 104 = .ok (.goto 6, 3) := by decide +kernel
theorem zd_Pr_make_107 : decode zb_Pr_make 107 = .ok (.iinc 2 1, 3) := by decide +kernel
theorem zd_Pr_make_110 : decode zb_Pr_make 110 = .ok (.goto (-60), 3) := by decide +kernel
theorem zd_Pr_make_113 : decode zb_Pr_make 113 = .ok (.aload_n 0, 1) := by decide +kernel
theorem zd_Pr_make_114 : decode zb_Pr_make 114 = .ok (.iload_n 1, 1) := by decide +kernel
theorem zd_Pr_make_115 : decode zb_Pr_make 115 = .ok (.aload_n 0, 1) := by decide +kernel
theorem zd_Pr_make_116 : decode zb_Pr_make 116 = .ok (.getfield 15, 3) := by decide +kernel
theorem zd_Pr_make_119 : decode zb_Pr_make 119 = .ok (.invokevirtual 57, 3) := by decide +kernel
theorem zd_Pr_make_122 : decode zb_Pr_make 122 = .ok (.invokevirtual 101, 3) := by decide +kernel
theorem zd_Pr_make_125 : decode zb_Pr_make 125 = .ok (.aload_n 0, 1) := by decide +kernel
theorem zd_Pr_make_126 : decode zb_Pr_make 126 = .ok (.getfield 23, 3) := by decide +kernel
theorem zd_Pr_make_129 : decode zb_Pr_make 129 = .ok (.invokevirtual 57, 3) := by decide +kernel
theorem zd_Pr_make_132 : decode zb_Pr_make 132 = .ok (.ireturn, 1) := by decide +kernel
theorem zd_Tx_addNumber_0 : decode zb_Tx_addNumber 0 = .ok (.iload_n 1, 1) := by decide +kernel
theorem zd_Tx_addNumber_1 : decode zb_Tx_addNumber 1 = .ok (.istore_n 2, 1) := by decide +kernel
theorem zd_Tx_addNumber_2 : decode zb_Tx_addNumber 2 = .ok (.iconst 0, 1) := by decide +kernel
theorem zd_Tx_addNumber_3 : decode zb_Tx_addNumber 3 = .ok (.istore_n 3, 1) := by decide +kernel
theorem zd_Tx_addNumber_4 : decode zb_Tx_addNumber 4 = .ok (.iload_n 3, 1) := by decide +kernel
theorem zd_Tx_addNumber_5 : decode zb_Tx_addNumber 5 = .ok (.iconst 4, 1) := by decide +kernel
theorem zd_Tx_addNumber_6 : decode zb_Tx_addNumber 6 = .ok (.if_icmp .ge 32, 3) := by decide +kernel
theorem zd_Tx_addNumber_9 : decode zb_Tx_addNumber 9 = .ok (.iload_n 2, 1) := by decide +kernel
theorem zd_Tx_addNumber_10 : decode zb_Tx_addNumber 10 = .ok (.bipush 127, 2) := by decide +kernel
theorem zd_Tx_addNumber_12 : decode zb_Tx_addNumber 12 = .ok (.if_icmp .le 26, 3) := by decide +kernel
theorem zd_Tx_addNumber_15 : decode zb_Tx_addNumber 15 = .ok (.aload_n 0, 1) := by decide +kernel
theorem zd_Tx_addNumber_16 : decode zb_Tx_addNumber 16 = .ok (.iload_n 2, 1) := by decide +kernel
theorem zd_Tx_addNumber_17 : decode zb_Tx_addNumber 17 = .ok (.bipush 127, 2) := by decide +kernel
theorem zd_Tx_addNumber_19 : decode zb_Tx_addNumber 19 = .ok (.iand, 1) := by decide +kernel
theorem zd_Tx_addNumber_20 : decode zb_Tx_addNumber 20 = .ok (.sipush 128, 3) := by decide +kernel
theorem zd_Tx_addNumber_23 : decode zb_Tx_addNumber 23 = .ok (.ior, 1) := by decide +kernel
theorem zd_Tx_addNumber_24 : decode zb_Tx_addNumber 24 = .ok (.invokevirtual 17, 3) := by decide +kernel
theorem zd_Tx_addNumber_27 : decode zb_Tx_addNumber 27 = .ok (.iload_n 2, 1) := by decide +kernel
theorem zd_Tx_addNumber_28 : decode zb_Tx_addNumber 28 = .ok (.bipush 7, 2) := by decide +kernel
theorem zd_Tx_addNumber_30 : decode zb_Tx_addNumber 30 = .ok (.iushr, 1) := by decide +kernel
theorem zd_Tx_addNumber_31 : decode zb_Tx_addNumber 31 = .ok (.istore_n 2, 1) := by decide +kernel
theorem zd_Tx_addNumber_32 : decode zb_Tx_addNumber 32 = .ok (.iinc 3 1, 3) := by decide +kernel
theorem zd_Tx_addNumber_35 : decode zb_Tx_addNumber 35 = .ok (.goto (-31), 3) := by decide +kernel
theorem zd_Tx_addNumber_38 : decode zb_Tx_addNumber 38 = .ok (.aload_n 0, 1) := by decide +kernel
theorem zd_Tx_addNumber_39 : decode zb_Tx_addNumber 39 = .ok (.iload_n 2, 1) := by decide +kernel
theorem zd_Tx_addNumber_40 : decode zb_Tx_addNumber 40 = .ok (.invokevirtual 17, 3) := by decide +kernel
theorem zd_Tx_addNumber_43 : decode zb_Tx_addNumber 43 = .ok (.return_, 1) := by decide +kernel
theorem zd_Tx_add_0 : decode zb_Tx_add 0 = .ok (.aload_n 0, 1) := by decide +kernel
theorem zd_Tx_add_1 : decode zb_Tx_add 1 = .ok (.getfield 13, 3) := by decide +kernel
theorem zd_Tx_add_4 : decode zb_Tx_add 4 = .ok (.aload_n 0, 1) := by decide +kernel
theorem zd_Tx_add_5 : decode zb_Tx_add 5 = .ok (.getfield 7, 3) := by decide +kernel
theorem zd_Tx_add_8 : decode zb_Tx_add 8 = .ok (.iload_n 1, 1) := by decide +kernel
theorem zd_Tx_add_9 : decode zb_Tx_add 9 = .ok (.i2b, 1) := by decide +kernel
theorem zd_Tx_add_10 : decode zb_Tx_add 10 = .ok (.bastore, 1) := by decide +kernel
theorem zd_Tx_add_11 : decode zb_Tx_add 11 = .ok (.aload_n 0, 1) := by decide +kernel
theorem zd_Tx_add_12 : decode zb_Tx_add 12 = .ok (.dup, 1) := by decide +kernel
theorem zd_Tx_add_13 : decode zb_Tx_add 13 = .ok (.getfield 7, 3) := by decide +kernel
theorem zd_Tx_add_16 : decode zb_Tx_add 16 = .ok (.iconst 1, 1) := by decide +kernel
theorem zd_Tx_add_17 : decode zb_Tx_add 17 = .ok (.iadd, 1) := by decide +kernel
theorem zd_Tx_add_18 : decode zb_Tx_add 18 = .ok (.putfield 7, 3) := by decide +kernel
theorem zd_Tx_add_21 : decode zb_Tx_add 21 = .ok (.return_, 1) := by decide +kernel
theorem zd_Pr_findLongest_0 : decode zb_Pr_findLongest 0 = .ok (.aload_n 0, 1) := by decide +kernel
theorem zd_Pr_findLongest_1 : decode zb_Pr_findLongest 1 = .ok (.getfield 36, 3) := by decide +kernel
theorem zd_Pr_findLongest_4 : decode zb_Pr_findLongest 4 = .ok (.ifCond .ne 19, 3) := by decide +kernel
theorem zd_Pr_findLongest_7 : decode zb_Pr_findLongest 7 = .ok (.aload_n 0, 1) := by decide +kernel
theorem zd_Pr_findLongest_8 : decode zb_Pr_findLongest 8 = .ok (.getfield 32, 3) := by decide +kernel
theorem zd_Pr_findLongest_11 : decode zb_Pr_findLongest 11 = .ok (.aload_n 0, 1) := by decide +kernel
theorem zd_Pr_findLongest_12 : decode zb_Pr_findLongest 12 = .ok (.getfield 19, 3) := by decide +kernel
theorem zd_Pr_findLongest_15 : decode zb_Pr_findLongest 15 = .ok (.invokevirtual 134, 3) := by decide +kernel
theorem zd_Pr_findLongest_18 : decode zb_Pr_findLongest 18 = .ok (.aload_n 0, 1) := by decide +kernel
theorem zd_Pr_findLongest_19 : decode zb_Pr_findLongest 19 = .ok (.iconst 1, 1) := by decide +kernel
theorem zd_Pr_findLongest_20 : decode zb_Pr_findLongest 20 = .ok (.putfield 36, 3) := by decide +kernel
theorem zd_Pr_findLongest_23 : decode zb_Pr_findLongest 23 = .ok (.aload_n 0, 1) := by decide +kernel
theorem zd_Pr_findLongest_24 : decode zb_Pr_findLongest 24 = .ok (.getfield 32, 3) := by decide +kernel
theorem zd_Pr_findLongest_27 : decode zb_Pr_findLongest 27 = .ok (.aload_n 0, 1) := by decide +kernel
theorem zd_Pr_findLongest_28 : decode zb_Pr_findLongest 28 = .ok (.getfield 15, 3) := by decide +kernel
theorem zd_Pr_findLongest_31 : decode zb_Pr_findLongest 31 = .ok (.iload_n 1, 1) := by decide +kernel
theorem zd_Pr_findLongest_32 : decode zb_Pr_findLongest 32 = .ok (.ldc 138, 2) := by decide +kernel
theorem zd_Pr_findLongest_34 : decode zb_Pr_findLongest 34 = .ok (.invokevirtual 139, 3) := by decide +kernel
theorem zd_Pr_findLongest_37 : decode zb_Pr_findLongest 37 = .ok (.return_, 1) := by decide +kernel
theorem zd_Su_grow_0 : decode zb_Su_grow 0 = .ok (.aload_n 0, 1) := by decide +kernel
theorem zd_Su_grow_1 : decode zb_Su_grow 1 = .ok (.aload_n 1, 1) := by decide +kernel
theorem zd_Su_grow_2 : decode zb_Su_grow 2 = .ok (.invokevirtual 61, 3) := by decide +kernel
theorem zd_Su_grow_5 : decode zb_Su_grow 5 = .ok (.putfield 9, 3) := by decide +kernel
theorem zd_Su_grow_8 : decode zb_Su_grow 8 = .ok (.aload_n 0, 1) := by decide +kernel
theorem zd_Su_grow_9 : decode zb_Su_grow 9 = .ok (.aload_n 1, 1) := by decide +kernel
theorem zd_Su_grow_10 : decode zb_Su_grow 10 = .ok (.invokevirtual 67, 3) := by decide +kernel
theorem zd_Su_grow_13 : decode zb_Su_grow 13 = .ok (.putfield 15, 3) := by decide +kernel
theorem zd_Su_grow_16 : decode zb_Su_grow 16 = .ok (.aload_n 0, 1) := by decide +kernel
theorem zd_Su_grow_17 : decode zb_Su_grow 17 = .ok (.invokevirtual 71, 3) := by decide +kernel
theorem zd_Su_grow_20 : decode zb_Su_grow 20 = .ok (.aload_n 0, 1) := by decide +kernel
theorem zd_Su_grow_21 : decode zb_Su_grow 21 = .ok (.iconst 1, 1) := by decide +kernel
theorem zd_Su_grow_22 : decode zb_Su_grow 22 = .ok (.putfield 33, 3) := by decide +kernel
theorem zd_Su_grow_25 : decode zb_Su_grow 25 = .ok (.aload_n 0, 1) := by decide +kernel
theorem zd_Su_grow_26 : decode zb_Su_grow 26 = .ok (.iconst 0, 1) := by decide +kernel
theorem zd_Su_grow_27 : decode zb_Su_grow 27 = .ok (.putfield 46, 3) := by decide +kernel
theorem zd_Su_grow_30 : decode zb_Su_grow 30 = .ok (.aload_n 0, 1) := by decide +kernel
theorem zd_Su_grow_31 : decode zb_Su_grow 31 = .ok (.iconst 0, 1) := by decide +kernel
theorem zd_Su_grow_32 : decode zb_Su_grow 32 = .ok (.putfield 49, 3) := by decide +kernel
theorem zd_Su_grow_35 : decode zb_Su_grow 35 = .ok (.aload_n 0, 1) := by decide +kernel
theorem zd_Su_grow_36 : decode zb_Su_grow 36 = .ok (.iconst 0, 1) := by decide +kernel
theorem zd_Su_grow_37 : decode zb_Su_grow 37 = .ok (.putfield 52, 3) := by decide +kernel
theorem zd_Su_grow_40 : decode zb_Su_grow 40 = .ok (.iconst 0, 1) := by decide +kernel
theorem zd_Su_grow_41 : decode zb_Su_grow 41 = .ok (.istore_n 2, 1) := by decide +kernel
theorem zd_Su_grow_42 : decode zb_Su_grow 42 = .ok (.iload_n 2, 1) := by decide +kernel
theorem zd_Su_grow_43 : decode zb_Su_grow 43 = .ok (.aload_n 0, 1) := by decide +kernel
theorem zd_Su_grow_44 : decode zb_Su_grow 44 = .ok (.getfield 15, 3) := by decide +kernel
theorem zd_Su_grow_47 : decode zb_Su_grow 47 = .ok (.if_icmp .ge 14, 3) := by decide +kernel
theorem zd_Su_grow_50 : decode zb_Su_grow 50 = .ok (.aload_n 0, 1) := by decide +kernel
theorem zd_Su_grow_51 : decode zb_Su_grow 51 = .ok (.iload_n 2, 1) := by decide +kernel
theorem zd_Su_grow_52 : decode zb_Su_grow 52 = .ok (.invokevirtual 74, 3) := by decide +kernel
theorem zd_Su_grow_55 : decode zb_Su_grow 55 = .ok (.iinc 2 1, 3) := by decide +kernel
theorem zd_Su_grow_58 : decode zb_Su_grow 58 = .ok (.goto (-16), 3) := by decide +kernel
theorem zd_Su_grow_61 : decode zb_Su_grow 61 = .ok (.return_, 1) := by decide +kernel
theorem zd_Tx_row_0 : decode zb_Tx_row 0 = .ok (.aload_n 0, 1) := by decide +kernel
theorem zd_Tx_row_1 : decode zb_Tx_row 1 = .ok (.getfield 13, 3) := by decide +kernel
theorem zd_Tx_row_4 : decode zb_Tx_row 4 = .ok (.areturn, 1) := by decide +kernel
theorem zd_Su_emptySlots_0 : decode zb_Su_emptySlots 0 = .ok (.aload_n 0, 1) := by decide +kernel
theorem zd_Su_emptySlots_1 : decode zb_Su_emptySlots 1 = .ok (.bipush 8, 2) := by decide +kernel
theorem zd_Su_emptySlots_3 : decode zb_Su_emptySlots 3 = .ok (.aload_n 0, 1) := by decide +kernel
theorem zd_Su_emptySlots_4 : decode zb_Su_emptySlots 4 = .ok (.getfield 15, 3) := by decide +kernel
theorem zd_Su_emptySlots_7 : decode zb_Su_emptySlots 7 = .ok (.iconst 2, 1) := by decide +kernel
theorem zd_Su_emptySlots_8 : decode zb_Su_emptySlots 8 = .ok (.invokestatic 78, 3) := by decide +kernel
theorem zd_Su_emptySlots_11 : decode zb_Su_emptySlots 11 = .ok (.iconst 1, 1) := by decide +kernel
theorem zd_Su_emptySlots_12 : decode zb_Su_emptySlots 12 = .ok (.isub, 1) := by decide +kernel
theorem zd_Su_emptySlots_13 : decode zb_Su_emptySlots 13 = .ok (.invokestatic 84, 3) := by decide +kernel
theorem zd_Su_emptySlots_16 : decode zb_Su_emptySlots 16 = .ok (.imul, 1) := by decide +kernel
theorem zd_Su_emptySlots_17 : decode zb_Su_emptySlots 17 = .ok (.putfield 40, 3) := by decide +kernel
theorem zd_Su_emptySlots_20 : decode zb_Su_emptySlots 20 = .ok (.aload_n 0, 1) := by decide +kernel
theorem zd_Su_emptySlots_21 : decode zb_Su_emptySlots 21 = .ok (.bipush 32, 2) := by decide +kernel
theorem zd_Su_emptySlots_23 : decode zb_Su_emptySlots 23 = .ok (.aload_n 0, 1) := by decide +kernel
theorem zd_Su_emptySlots_24 : decode zb_Su_emptySlots 24 = .ok (.getfield 40, 3) := by decide +kernel
theorem zd_Su_emptySlots_27 : decode zb_Su_emptySlots 27 = .ok (.iconst 1, 1) := by decide +kernel
theorem zd_Su_emptySlots_28 : decode zb_Su_emptySlots 28 = .ok (.isub, 1) := by decide +kernel
theorem zd_Su_emptySlots_29 : decode zb_Su_emptySlots 29 = .ok (.invokestatic 90, 3) := by decide +kernel
theorem zd_Su_emptySlots_32 : decode zb_Su_emptySlots 32 = .ok (.isub, 1) := by decide +kernel
theorem zd_Su_emptySlots_33 : decode zb_Su_emptySlots 33 = .ok (.putfield 43, 3) := by decide +kernel
theorem zd_Su_emptySlots_36 : decode zb_Su_emptySlots 36 = .ok (.iconst 0, 1) := by decide +kernel
theorem zd_Su_emptySlots_37 : decode zb_Su_emptySlots 37 = .ok (.istore_n 1, 1) := by decide +kernel
theorem zd_Su_emptySlots_38 : decode zb_Su_emptySlots 38 = .ok (.iload_n 1, 1) := by decide +kernel
theorem zd_Su_emptySlots_39 : decode zb_Su_emptySlots 39 = .ok (.aload_n 0, 1) := by decide +kernel
theorem zd_Su_emptySlots_40 : decode zb_Su_emptySlots 40 = .ok (.getfield 40, 3) := by decide +kernel
theorem zd_Su_emptySlots_43 : decode zb_Su_emptySlots 43 = .ok (.if_icmp .ge 16, 3) := by decide +kernel
theorem zd_Su_emptySlots_46 : decode zb_Su_emptySlots 46 = .ok (.aload_n 0, 1) := by decide +kernel
theorem zd_Su_emptySlots_47 : decode zb_Su_emptySlots 47 = .ok (.getfield 37, 3) := by decide +kernel
theorem zd_Su_emptySlots_50 : decode zb_Su_emptySlots 50 = .ok (.iload_n 1, 1) := by decide +kernel
theorem zd_Su_emptySlots_51 : decode zb_Su_emptySlots 51 = .ok (.iconst 0, 1) := by decide +kernel
theorem zd_Su_emptySlots_52 : decode zb_Su_emptySlots 52 = .ok (.iastore, 1) := by decide +kernel
theorem zd_Su_emptySlots_53 : decode zb_Su_emptySlots 53 = .ok (.iinc 1 1, 3) := by decide +kernel
theorem zd_Su_emptySlots_56 : decode zb_Su_emptySlots 56 = .ok (.goto (-18), 3) := by decide +kernel
theorem zd_Su_emptySlots_59 : decode zb_Su_emptySlots 59 = .ok (.return_, 1) := by decide +kernel
theorem zd_In_highestOneBit_0 : decode zb_In_highestOneBit 0 = .ok (.iload_n 0, 1) := by decide +kernel
theorem zd_In_highestOneBit_1 : decode zb_In_highestOneBit 1 = .ok (.ldc 127, 2) := by decide +kernel
theorem zd_In_highestOneBit_3 : decode zb_In_highestOneBit 3 = .ok (.iload_n 0, 1) := by decide +kernel
theorem zd_In_highestOneBit_4 : decode zb_In_highestOneBit 4 = .ok (.invokestatic 51, 3) := by decide +kernel
theorem zd_In_highestOneBit_7 : decode zb_In_highestOneBit 7 = .ok (.iushr, 1) := by decide +kernel
theorem zd_In_highestOneBit_8 : decode zb_In_highestOneBit 8 = .ok (.iand, 1) := by decide +kernel
theorem zd_In_highestOneBit_9 : decode zb_In_highestOneBit 9 = .ok (.ireturn, 1) := by decide +kernel
end
section
theorem zd_In_numberOfLeadingZeros_0 : decode zb_In_numberOfLeadingZeros 0 = .ok (.iload_n 0, 1) := by decide +kernel
theorem zd_In_numberOfLeadingZeros_1 : decode zb_In_numberOfLeadingZeros 1 = .ok (.ifCond .gt 14, 3) := by decide +kernel
theorem zd_In_numberOfLeadingZeros_4 : decode zb_In_numberOfLeadingZeros 4 = .ok (.iload_n 0, 1) := by decide +kernel
theorem zd_In_numberOfLeadingZeros_5 : decode zb_In_numberOfLeadingZeros 5 = .ok (.ifCond .ne 8, 3) := by decide +kernel
theorem zd_In_numberOfLeadingZeros_8 : decode zb_In_numberOfLeadingZeros 8 = .ok (.bipush 32, 2) := by decide +kernel
theorem zd_In_numberOfLeadingZeros_10 : decode zb_In_numberOfLeadingZeros 10 = .ok (.goto 4, 3) := by decide +kernel
theorem zd_In_numberOfLeadingZeros_13 : decode zb_In_numberOfLeadingZeros 13 = .ok (.iconst 0, 1) := by decide +kernel
theorem zd_In_numberOfLeadingZeros_14 : decode zb_In_numberOfLeadingZeros 14 = .ok (.ireturn, 1) := by decide +kernel
theorem zd_In_numberOfLeadingZeros_15 : decode zb_In_numberOfLeadingZeros 15 = .ok (.bipush 31, 2) := by decide +kernel
theorem zd_In_numberOfLeadingZeros_17 : decode zb_In_numberOfLeadingZeros 17 = .ok (.istore_n 1, 1) := by decide +kernel
theorem zd_In_numberOfLeadingZeros_18 : decode zb_In_numberOfLeadingZeros 18 = .ok (.iload_n 0, 1) := by decide +kernel
theorem zd_In_numberOfLeadingZeros_19 : decode zb_In_numberOfLeadingZeros 19 = .ok (.ldc_w 264, 3) := by decide +kernel
theorem zd_In_numberOfLeadingZeros_22 : decode zb_In_numberOfLeadingZeros 22 = .ok (.if_icmp .lt 11, 3) := by decide +kernel
theorem zd_In_numberOfLeadingZeros_25 : decode zb_In_numberOfLeadingZeros 25 = .ok (.iinc 1 (-16), 3) := by decide +kernel
theorem zd_In_numberOfLeadingZeros_28 : decode zb_In_numberOfLeadingZeros 28 = .ok (.iload_n 0, 1) := by decide +kernel
theorem zd_In_numberOfLeadingZeros_29 : decode zb_In_numberOfLeadingZeros 29 = .ok (.bipush 16, 2) := by decide +kernel
theorem zd_In_numberOfLeadingZeros_31 : decode zb_In_numberOfLeadingZeros 31 = .ok (.iushr, 1) := by decide +kernel
theorem zd_In_numberOfLeadingZeros_32 : decode zb_In_numberOfLeadingZeros 32 = .ok (.istore_n 0, 1) := by decide +kernel
theorem zd_In_numberOfLeadingZeros_33 : decode zb_In_numberOfLeadingZeros 33 = .ok (.iload_n 0, 1) := by decide +kernel
theorem zd_In_numberOfLeadingZeros_34 : decode zb_In_numberOfLeadingZeros 34 = .ok (.sipush 256, 3) := by decide +kernel
theorem zd_In_numberOfLeadingZeros_37 : decode zb_In_numberOfLeadingZeros 37 = .ok (.if_icmp .lt 11, 3) := by decide +kernel
theorem zd_In_numberOfLeadingZeros_40 : decode zb_In_numberOfLeadingZeros 40 = .ok (.iinc 1 (-8), 3) := by decide +kernel
theorem zd_In_numberOfLeadingZeros_43 : decode zb_In_numberOfLeadingZeros 43 = .ok (.iload_n 0, 1) := by decide +kernel
theorem zd_In_numberOfLeadingZeros_44 : decode zb_In_numberOfLeadingZeros 44 = .ok (.bipush 8, 2) := by decide +kernel
theorem zd_In_numberOfLeadingZeros_46 : decode zb_In_numberOfLeadingZeros 46 = .ok (.iushr, 1) := by decide +kernel
theorem zd_In_numberOfLeadingZeros_47 : decode zb_In_numberOfLeadingZeros 47 = .ok (.istore_n 0, 1) := by decide +kernel
theorem zd_In_numberOfLeadingZeros_48 : decode zb_In_numberOfLeadingZeros 48 = .ok (.iload_n 0, 1) := by decide +kernel
theorem zd_In_numberOfLeadingZeros_49 : decode zb_In_numberOfLeadingZeros 49 = .ok (.bipush 16, 2) := by decide +kernel
theorem zd_In_numberOfLeadingZeros_51 : decode zb_In_numberOfLeadingZeros 51 = .ok (.if_icmp .lt 10, 3) := by decide +kernel
theorem zd_In_numberOfLeadingZeros_54 : decode zb_In_numberOfLeadingZeros 54 = .ok (.iinc 1 (-4), 3) := by decide +kernel
theorem zd_In_numberOfLeadingZeros_57 : decode zb_In_numberOfLeadingZeros 57 = .ok (.iload_n 0, 1) := by decide +kernel
theorem zd_In_numberOfLeadingZeros_58 : decode zb_In_numberOfLeadingZeros 58 = .ok (.iconst 4, 1) := by decide +kernel
theorem zd_In_numberOfLeadingZeros_59 : decode zb_In_numberOfLeadingZeros 59 = .ok (.iushr, 1) := by decide +kernel
theorem zd_In_numberOfLeadingZeros_60 : decode zb_In_numberOfLeadingZeros 60 = .ok (.istore_n 0, 1) := by decide +kernel
theorem zd_In_numberOfLeadingZeros_61 : decode zb_In_numberOfLeadingZeros 61 = .ok (.iload_n 0, 1) := by decide +kernel
theorem zd_In_numberOfLeadingZeros_62 : decode zb_In_numberOfLeadingZeros 62 = .ok (.iconst 4, 1) := by decide +kernel
theorem zd_In_numberOfLeadingZeros_63 : decode zb_In_numberOfLeadingZeros 63 = .ok (.if_icmp .lt 10, 3) := by decide +kernel
theorem zd_In_numberOfLeadingZeros_66 : decode zb_In_numberOfLeadingZeros 66 = .ok (.iinc 1 (-2), 3) := by decide +kernel
theorem zd_In_numberOfLeadingZeros_69 : decode zb_In_numberOfLeadingZeros 69 = .ok (.iload_n 0, 1) := by decide +kernel
theorem zd_In_numberOfLeadingZeros_70 : decode zb_In_numberOfLeadingZeros 70 = .ok (.iconst 2, 1) := by decide +kernel
theorem zd_In_numberOfLeadingZeros_71 : decode zb_In_numberOfLeadingZeros 71 = .ok (.iushr, 1) := by decide +kernel
theorem zd_In_numberOfLeadingZeros_72 : decode zb_In_numberOfLeadingZeros 72 = .ok (.istore_n 0, 1) := by decide +kernel
theorem zd_In_numberOfLeadingZeros_73 : decode zb_In_numberOfLeadingZeros 73 = .ok (.iload_n 1, 1) := by decide +kernel
theorem zd_In_numberOfLeadingZeros_74 : decode zb_In_numberOfLeadingZeros 74 = .ok (.iload_n 0, 1) := by decide +kernel
theorem zd_In_numberOfLeadingZeros_75 : decode zb_In_numberOfLeadingZeros 75 = .ok (.iconst 1, 1) := by decide +kernel
theorem zd_In_numberOfLeadingZeros_76 : decode zb_In_numberOfLeadingZeros 76 = .ok (.iushr, 1) := by decide +kernel
theorem zd_In_numberOfLeadingZeros_77 : decode zb_In_numberOfLeadingZeros 77 = .ok (.isub, 1) := by decide +kernel
theorem zd_In_numberOfLeadingZeros_78 : decode zb_In_numberOfLeadingZeros 78 = .ok (.ireturn, 1) := by decide +kernel
theorem zd_In_bitCount_0 : decode zb_In_bitCount 0 = .ok (.iload_n 0, 1) := by decide +kernel
theorem zd_In_bitCount_1 : decode zb_In_bitCount 1 = .ok (.iload_n 0, 1) := by decide +kernel
theorem zd_In_bitCount_2 : decode zb_In_bitCount 2 = .ok (.iconst 1, 1) := by decide +kernel
theorem zd_In_bitCount_3 : decode zb_In_bitCount 3 = .ok (.iushr, 1) := by decide +kernel
theorem zd_In_bitCount_4 : decode zb_In_bitCount 4 = .ok (.ldc_w 265, 3) := by decide +kernel
theorem zd_In_bitCount_7 : decode zb_In_bitCount 7 = .ok (.iand, 1) := by decide +kernel
theorem zd_In_bitCount_8 : decode zb_In_bitCount 8 = .ok (.isub, 1) := by decide +kernel
theorem zd_In_bitCount_9 : decode zb_In_bitCount 9 = .ok (.istore_n 0, 1) := by decide +kernel
theorem zd_In_bitCount_10 : decode zb_In_bitCount 10 = .ok (.iload_n 0, 1) := by decide +kernel
theorem zd_In_bitCount_11 : decode zb_In_bitCount 11 = .ok (.ldc_w 266, 3) := by decide +kernel
theorem zd_In_bitCount_14 : decode zb_In_bitCount 14 = .ok (.iand, 1) := by decide +kernel
theorem zd_In_bitCount_15 : decode zb_In_bitCount 15 = .ok (.iload_n 0, 1) := by decide +kernel
theorem zd_In_bitCount_16 : decode zb_In_bitCount 16 = .ok (.iconst 2, 1) := by decide +kernel
theorem zd_In_bitCount_17 : decode zb_In_bitCount 17 = .ok (.iushr, 1) := by decide +kernel
theorem zd_In_bitCount_18 : decode zb_In_bitCount 18 = .ok (.ldc_w 266, 3) := by decide +kernel
theorem zd_In_bitCount_21 : decode zb_In_bitCount 21 = .ok (.iand, 1) := by decide +kernel
theorem zd_In_bitCount_22 : decode zb_In_bitCount 22 = .ok (.iadd, 1) := by decide +kernel
theorem zd_In_bitCount_23 : decode zb_In_bitCount 23 = .ok (.istore_n 0, 1) := by decide +kernel
theorem zd_In_bitCount_24 : decode zb_In_bitCount 24 = .ok (.iload_n 0, 1) := by decide +kernel
theorem zd_In_bitCount_25 : decode zb_In_bitCount 25 = .ok (.iload_n 0, 1) := by decide +kernel
theorem zd_In_bitCount_26 : decode zb_In_bitCount 26 = .ok (.iconst 4, 1) := by decide +kernel
theorem zd_In_bitCount_27 : decode zb_In_bitCount 27 = .ok (.iushr, 1) := by decide +kernel
theorem zd_In_bitCount_28 : decode zb_In_bitCount 28 = .ok (.iadd, 1) := by decide +kernel
theorem zd_In_bitCount_29 : decode zb_In_bitCount 29 = .ok (.ldc_w 267, 3) := by decide +kernel
theorem zd_In_bitCount_32 : decode zb_In_bitCount 32 = .ok (.iand, 1) := by decide +kernel
theorem zd_In_bitCount_33 : decode zb_In_bitCount 33 = .ok (.istore_n 0, 1) := by decide +kernel
theorem zd_In_bitCount_34 : decode zb_In_bitCount 34 = .ok (.iload_n 0, 1) := by decide +kernel
theorem zd_In_bitCount_35 : decode zb_In_bitCount 35 = .ok (.iload_n 0, 1) := by decide +kernel
theorem zd_In_bitCount_36 : decode zb_In_bitCount 36 = .ok (.bipush 8, 2) := by decide +kernel
theorem zd_In_bitCount_38 : decode zb_In_bitCount 38 = .ok (.iushr, 1) := by decide +kernel
theorem zd_In_bitCount_39 : decode zb_In_bitCount 39 = .ok (.iadd, 1) := by decide +kernel
theorem zd_In_bitCount_40 : decode zb_In_bitCount 40 = .ok (.istore_n 0, 1) := by decide +kernel
theorem zd_In_bitCount_41 : decode zb_In_bitCount 41 = .ok (.iload_n 0, 1) := by decide +kernel
theorem zd_In_bitCount_42 : decode zb_In_bitCount 42 = .ok (.iload_n 0, 1) := by decide +kernel
theorem zd_In_bitCount_43 : decode zb_In_bitCount 43 = .ok (.bipush 16, 2) := by decide +kernel
theorem zd_In_bitCount_45 : decode zb_In_bitCount 45 = .ok (.iushr, 1) := by decide +kernel
theorem zd_In_bitCount_46 : decode zb_In_bitCount 46 = .ok (.iadd, 1) := by decide +kernel
theorem zd_In_bitCount_47 : decode zb_In_bitCount 47 = .ok (.istore_n 0, 1) := by decide +kernel
theorem zd_In_bitCount_48 : decode zb_In_bitCount 48 = .ok (.iload_n 0, 1) := by decide +kernel
theorem zd_In_bitCount_49 : decode zb_In_bitCount 49 = .ok (.bipush 63, 2) := by decide +kernel
theorem zd_In_bitCount_51 : decode zb_In_bitCount 51 = .ok (.iand, 1) := by decide +kernel
theorem zd_In_bitCount_52 : decode zb_In_bitCount 52 = .ok (.ireturn, 1) := by decide +kernel
theorem zd_Su_addLetter_0 : decode zb_Su_addLetter 0 = .ok (.iconst 0, 1) := by decide +kernel
theorem zd_Su_addLetter_1 : decode zb_Su_addLetter 1 = .ok (.istore_n 2, 1) := by decide +kernel
theorem zd_Su_addLetter_2 : decode zb_Su_addLetter 2 = .ok (.aload_n 0, 1) := by decide +kernel
theorem zd_Su_addLetter_3 : decode zb_Su_addLetter 3 = .ok (.dup, 1) := by decide +kernel
theorem zd_Su_addLetter_4 : decode zb_Su_addLetter 4 = .ok (.getfield 52, 3) := by decide +kernel
theorem zd_Su_addLetter_7 : decode zb_Su_addLetter 7 = .ok (.iconst 1, 1) := by decide +kernel
theorem zd_Su_addLetter_8 : decode zb_Su_addLetter 8 = .ok (.iadd, 1) := by decide +kernel
theorem zd_Su_addLetter_9 : decode zb_Su_addLetter 9 = .ok (.putfield 52, 3) := by decide +kernel
theorem zd_Su_addLetter_12 : decode zb_Su_addLetter 12 = .ok (.aload_n 0, 1) := by decide +kernel
theorem zd_Su_addLetter_13 : decode zb_Su_addLetter 13 = .ok (.getfield 52, 3) := by decide +kernel
theorem zd_Su_addLetter_16 : decode zb_Su_addLetter 16 = .ok (.ifCond .le 149, 3) := by decide +kernel
theorem zd_Su_addLetter_19 : decode zb_Su_addLetter 19 = .ok (.aload_n 0, 1) := by decide +kernel
theorem zd_Su_addLetter_20 : decode zb_Su_addLetter 20 = .ok (.iload_n 1, 1) := by decide +kernel
theorem zd_Su_addLetter_21 : decode zb_Su_addLetter 21 = .ok (.invokevirtual 93, 3) := by decide +kernel
theorem zd_Su_addLetter_24 : decode zb_Su_addLetter 24 = .ok (.istore_n 3, 1) := by decide +kernel
theorem zd_Su_addLetter_25 : decode zb_Su_addLetter 25 = .ok (.aload_n 0, 1) := by decide +kernel
theorem zd_Su_addLetter_26 : decode zb_Su_addLetter 26 = .ok (.getfield 37, 3) := by decide +kernel
theorem zd_Su_addLetter_29 : decode zb_Su_addLetter 29 = .ok (.iload_n 3, 1) := by decide +kernel
theorem zd_Su_addLetter_30 : decode zb_Su_addLetter 30 = .ok (.iaload, 1) := by decide +kernel
theorem zd_Su_addLetter_31 : decode zb_Su_addLetter 31 = .ok (.istore 4, 2) := by decide +kernel
theorem zd_Su_addLetter_33 : decode zb_Su_addLetter 33 = .ok (.iload 4, 2) := by decide +kernel
theorem zd_Su_addLetter_35 : decode zb_Su_addLetter 35 = .ok (.ifCond .eq 33, 3) := by decide +kernel
theorem zd_Su_addLetter_38 : decode zb_Su_addLetter 38 = .ok (.aload_n 0, 1) := by decide +kernel
theorem zd_Su_addLetter_39 : decode zb_Su_addLetter 39 = .ok (.getfield 9, 3) := by decide +kernel
theorem zd_Su_addLetter_42 : decode zb_Su_addLetter 42 = .ok (.aload_n 0, 1) := by decide +kernel
theorem zd_Su_addLetter_43 : decode zb_Su_addLetter 43 = .ok (.getfield 20, 3) := by decide +kernel
theorem zd_Su_addLetter_46 : decode zb_Su_addLetter 46 = .ok (.iload 4, 2) := by decide +kernel
theorem zd_Su_addLetter_48 : decode zb_Su_addLetter 48 = .ok (.iaload, 1) := by decide +kernel
theorem zd_Su_addLetter_49 : decode zb_Su_addLetter 49 = .ok (.aload_n 0, 1) := by decide +kernel
theorem zd_Su_addLetter_50 : decode zb_Su_addLetter 50 = .ok (.getfield 49, 3) := by decide +kernel
theorem zd_Su_addLetter_53 : decode zb_Su_addLetter 53 = .ok (.iadd, 1) := by decide +kernel
theorem zd_Su_addLetter_54 : decode zb_Su_addLetter 54 = .ok (.baload, 1) := by decide +kernel
theorem zd_Su_addLetter_55 : decode zb_Su_addLetter 55 = .ok (.aload_n 0, 1) := by decide +kernel
theorem zd_Su_addLetter_56 : decode zb_Su_addLetter 56 = .ok (.getfield 9, 3) := by decide +kernel
theorem zd_Su_addLetter_59 : decode zb_Su_addLetter 59 = .ok (.iload_n 1, 1) := by decide +kernel
theorem zd_Su_addLetter_60 : decode zb_Su_addLetter 60 = .ok (.baload, 1) := by decide +kernel
theorem zd_Su_addLetter_61 : decode zb_Su_addLetter 61 = .ok (.if_icmp .ne 7, 3) := by decide +kernel
theorem zd_Su_addLetter_64 : decode zb_Su_addLetter 64 = .ok (.iconst 1, 1) := by decide +kernel
theorem zd_Su_addLetter_65 : decode zb_Su_addLetter 65 = .ok (.goto 4, 3) := by decide +kernel
theorem zd_Su_addLetter_68 : decode zb_Su_addLetter 68 = .ok (.iconst 0, 1) := by decide +kernel
theorem zd_Su_addLetter_69 : decode zb_Su_addLetter 69 = .ok (.istore 5, 2) := by decide +kernel
theorem zd_Su_addLetter_71 : decode zb_Su_addLetter 71 = .ok (.iload 5, 2) := by decide +kernel
theorem zd_Su_addLetter_73 : decode zb_Su_addLetter 73 = .ok (.ifCond .ne 8, 3) := by decide +kernel
theorem zd_Su_addLetter_76 : decode zb_Su_addLetter 76 = .ok (.iload 4, 2) := by decide +kernel
theorem zd_Su_addLetter_78 : decode zb_Su_addLetter 78 = .ok (.ifCond .ne 10, 3) := by decide +kernel
theorem zd_Su_addLetter_81 : decode zb_Su_addLetter 81 = .ok (.aload_n 0, 1) := by decide +kernel
theorem zd_Su_addLetter_82 : decode zb_Su_addLetter 82 = .ok (.getfield 46, 3) := by decide +kernel
theorem zd_Su_addLetter_85 : decode zb_Su_addLetter 85 = .ok (.goto 10, 3) := by decide +kernel
theorem zd_Su_addLetter_88 : decode zb_Su_addLetter 88 = .ok (.aload_n 0, 1) := by decide +kernel
theorem zd_Su_addLetter_89 : decode zb_Su_addLetter 89 = .ok (.iload_n 3, 1) := by decide +kernel
theorem zd_Su_addLetter_90 : decode zb_Su_addLetter 90 = .ok (.iload 4, 2) := by decide +kernel
theorem zd_Su_addLetter_92 : decode zb_Su_addLetter 92 = .ok (.invokevirtual 96, 3) := by decide +kernel
theorem zd_Su_addLetter_95 : decode zb_Su_addLetter 95 = .ok (.istore 6, 2) := by decide +kernel
theorem zd_Su_addLetter_97 : decode zb_Su_addLetter 97 = .ok (.iload_n 2, 1) := by decide +kernel
theorem zd_Su_addLetter_98 : decode zb_Su_addLetter 98 = .ok (.ifCond .eq 11, 3) := by decide +kernel
theorem zd_Su_addLetter_101 : decode zb_Su_addLetter 101 = .ok (.aload_n 0, 1) := by decide +kernel
theorem zd_Su_addLetter_102 : decode zb_Su_addLetter 102 = .ok (.getfield 30, 3) := by decide +kernel
theorem zd_Su_addLetter_105 : decode zb_Su_addLetter 105 = .ok (.iload_n 2, 1) := by decide +kernel
theorem zd_Su_addLetter_106 : decode zb_Su_addLetter 106 = .ok (.iload 6, 2) := by decide +kernel
theorem zd_Su_addLetter_108 : decode zb_Su_addLetter 108 = .ok (.iastore, 1) := by decide +kernel
theorem zd_Su_addLetter_109 : decode zb_Su_addLetter 109 = .ok (.iload 5, 2) := by decide +kernel
theorem zd_Su_addLetter_111 : decode zb_Su_addLetter 111 = .ok (.ifCond .eq 14, 3) := by decide +kernel
theorem zd_Su_addLetter_114 : decode zb_Su_addLetter 114 = .ok (.aload_n 0, 1) := by decide +kernel
theorem zd_Su_addLetter_115 : decode zb_Su_addLetter 115 = .ok (.dup, 1) := by decide +kernel
theorem zd_Su_addLetter_116 : decode zb_Su_addLetter 116 = .ok (.getfield 49, 3) := by decide +kernel
theorem zd_Su_addLetter_119 : decode zb_Su_addLetter 119 = .ok (.iconst 1, 1) := by decide +kernel
theorem zd_Su_addLetter_120 : decode zb_Su_addLetter 120 = .ok (.iadd, 1) := by decide +kernel
theorem zd_Su_addLetter_121 : decode zb_Su_addLetter 121 = .ok (.putfield 49, 3) := by decide +kernel
theorem zd_Su_addLetter_124 : decode zb_Su_addLetter 124 = .ok (.return_, 1) := by decide +kernel
theorem zd_Su_addLetter_125 : decode zb_Su_addLetter 125 = .ok (.iload 6, 2) := by decide +kernel
theorem zd_Su_addLetter_127 : decode zb_Su_addLetter 127 = .ok (.aload_n 0, 1) := by decide +kernel
theorem zd_Su_addLetter_128 : decode zb_Su_addLetter 128 = .ok (.getfield 46, 3) := by decide +kernel
theorem zd_Su_addLetter_131 : decode zb_Su_addLetter 131 = .ok (.if_icmp .ne 7, 3) := by decide +kernel
theorem zd_Su_addLetter_134 : decode zb_Su_addLetter 134 = .ok (.iconst 0, 1) := by decide +kernel
theorem zd_Su_addLetter_135 : decode zb_Su_addLetter 135 = .ok (.goto 5, 3) := by decide +kernel
theorem zd_Su_addLetter_138 : decode zb_Su_addLetter 138 = .ok (.iload 6, 2) := by decide +kernel
theorem zd_Su_addLetter_140 : decode zb_Su_addLetter 140 = .ok (.istore_n 2, 1) := by decide +kernel
theorem zd_Su_addLetter_141 : decode zb_Su_addLetter 141 = .ok (.aload_n 0, 1) := by decide +kernel
theorem zd_Su_addLetter_142 : decode zb_Su_addLetter 142 = .ok (.iload 6, 2) := by decide +kernel
theorem zd_Su_addLetter_144 : decode zb_Su_addLetter 144 = .ok (.iload_n 1, 1) := by decide +kernel
theorem zd_Su_addLetter_145 : decode zb_Su_addLetter 145 = .ok (.invokevirtual 99, 3) := by decide +kernel
theorem zd_Su_addLetter_148 : decode zb_Su_addLetter 148 = .ok (.aload_n 0, 1) := by decide +kernel
theorem zd_Su_addLetter_149 : decode zb_Su_addLetter 149 = .ok (.invokevirtual 103, 3) := by decide +kernel
theorem zd_Su_addLetter_152 : decode zb_Su_addLetter 152 = .ok (.aload_n 0, 1) := by decide +kernel
theorem zd_Su_addLetter_153 : decode zb_Su_addLetter 153 = .ok (.dup, 1) := by decide +kernel
theorem zd_Su_addLetter_154 : decode zb_Su_addLetter 154 = .ok (.getfield 52, 3) := by decide +kernel
theorem zd_Su_addLetter_157 : decode zb_Su_addLetter 157 = .ok (.iconst 1, 1) := by decide +kernel
theorem zd_Su_addLetter_158 : decode zb_Su_addLetter 158 = .ok (.isub, 1) := by decide +kernel
theorem zd_Su_addLetter_159 : decode zb_Su_addLetter 159 = .ok (.putfield 52, 3) := by decide +kernel
theorem zd_Su_addLetter_162 : decode zb_Su_addLetter 162 = .ok (.goto (-150), 3) := by decide +kernel
theorem zd_Su_addLetter_165 : decode zb_Su_addLetter 165 = .ok (.return_, 1) := by decide +kernel
theorem zd_Su_goDown_0 : decode zb_Su_goDown 0 = .ok (.aload_n 0, 1) := by decide +kernel
theorem zd_Su_goDown_1 : decode zb_Su_goDown 1 = .ok (.aload_n 0, 1) := by decide +kernel
theorem zd_Su_goDown_2 : decode zb_Su_goDown 2 = .ok (.getfield 46, 3) := by decide +kernel
theorem zd_Su_goDown_5 : decode zb_Su_goDown 5 = .ok (.aload_n 0, 1) := by decide +kernel
theorem zd_Su_goDown_6 : decode zb_Su_goDown 6 = .ok (.getfield 9, 3) := by decide +kernel
theorem zd_Su_goDown_9 : decode zb_Su_goDown 9 = .ok (.iload_n 1, 1) := by decide +kernel
theorem zd_Su_goDown_10 : decode zb_Su_goDown 10 = .ok (.aload_n 0, 1) := by decide +kernel
theorem zd_Su_goDown_11 : decode zb_Su_goDown 11 = .ok (.getfield 49, 3) := by decide +kernel
theorem zd_Su_goDown_14 : decode zb_Su_goDown 14 = .ok (.isub, 1) := by decide +kernel
theorem zd_Su_goDown_15 : decode zb_Su_goDown 15 = .ok (.baload, 1) := by decide +kernel
theorem zd_Su_goDown_16 : decode zb_Su_goDown 16 = .ok (.invokevirtual 106, 3) := by decide +kernel
theorem zd_Su_goDown_19 : decode zb_Su_goDown 19 = .ok (.istore_n 2, 1) := by decide +kernel
theorem zd_Su_goDown_20 : decode zb_Su_goDown 20 = .ok (.iconst 0, 1) := by decide +kernel
theorem zd_Su_goDown_21 : decode zb_Su_goDown 21 = .ok (.istore_n 3, 1) := by decide +kernel
theorem zd_Su_goDown_22 : decode zb_Su_goDown 22 = .ok (.iload_n 3, 1) := by decide +kernel
theorem zd_Su_goDown_23 : decode zb_Su_goDown 23 = .ok (.aload_n 0, 1) := by decide +kernel
theorem zd_Su_goDown_24 : decode zb_Su_goDown 24 = .ok (.getfield 15, 3) := by decide +kernel
theorem zd_Su_goDown_27 : decode zb_Su_goDown 27 = .ok (.if_icmp .ge 90, 3) := by decide +kernel
theorem zd_Su_goDown_30 : decode zb_Su_goDown 30 = .ok (.aload_n 0, 1) := by decide +kernel
theorem zd_Su_goDown_31 : decode zb_Su_goDown 31 = .ok (.getfield 49, 3) := by decide +kernel
theorem zd_Su_goDown_34 : decode zb_Su_goDown 34 = .ok (.ifCond .le 83, 3) := by decide +kernel
theorem zd_Su_goDown_37 : decode zb_Su_goDown 37 = .ok (.aload_n 0, 1) := by decide +kernel
theorem zd_Su_goDown_38 : decode zb_Su_goDown 38 = .ok (.getfield 37, 3) := by decide +kernel
theorem zd_Su_goDown_41 : decode zb_Su_goDown 41 = .ok (.iload_n 2, 1) := by decide +kernel
theorem zd_Su_goDown_42 : decode zb_Su_goDown 42 = .ok (.iaload, 1) := by decide +kernel
theorem zd_Su_goDown_43 : decode zb_Su_goDown 43 = .ok (.istore 4, 2) := by decide +kernel
theorem zd_Su_goDown_45 : decode zb_Su_goDown 45 = .ok (.aload_n 0, 1) := by decide +kernel
theorem zd_Su_goDown_46 : decode zb_Su_goDown 46 = .ok (.getfield 24, 3) := by decide +kernel
theorem zd_Su_goDown_49 : decode zb_Su_goDown 49 = .ok (.iload 4, 2) := by decide +kernel
theorem zd_Su_goDown_51 : decode zb_Su_goDown 51 = .ok (.iaload, 1) := by decide +kernel
theorem zd_Su_goDown_52 : decode zb_Su_goDown 52 = .ok (.aload_n 0, 1) := by decide +kernel
theorem zd_Su_goDown_53 : decode zb_Su_goDown 53 = .ok (.getfield 20, 3) := by decide +kernel
theorem zd_Su_goDown_56 : decode zb_Su_goDown 56 = .ok (.iload 4, 2) := by decide +kernel
theorem zd_Su_goDown_58 : decode zb_Su_goDown 58 = .ok (.iaload, 1) := by decide +kernel
theorem zd_Su_goDown_59 : decode zb_Su_goDown 59 = .ok (.isub, 1) := by decide +kernel
theorem zd_Su_goDown_60 : decode zb_Su_goDown 60 = .ok (.istore 5, 2) := by decide +kernel
theorem zd_Su_goDown_62 : decode zb_Su_goDown 62 = .ok (.aload_n 0, 1) := by decide +kernel
theorem zd_Su_goDown_63 : decode zb_Su_goDown 63 = .ok (.getfield 49, 3) := by decide +kernel
theorem zd_Su_goDown_66 : decode zb_Su_goDown 66 = .ok (.iload 5, 2) := by decide +kernel
theorem zd_Su_goDown_68 : decode zb_Su_goDown 68 = .ok (.if_icmp .ge 6, 3) := by decide +kernel
theorem zd_Su_goDown_71 : decode zb_Su_goDown 71 = .ok (.goto 46, 3) := by decide +kernel
theorem zd_Su_goDown_74 : decode zb_Su_goDown 74 = .ok (.aload_n 0, 1) := by decide +kernel
theorem zd_Su_goDown_75 : decode zb_Su_goDown 75 = .ok (.iload 4, 2) := by decide +kernel
theorem zd_Su_goDown_77 : decode zb_Su_goDown 77 = .ok (.putfield 46, 3) := by decide +kernel
theorem zd_Su_goDown_80 : decode zb_Su_goDown 80 = .ok (.aload_n 0, 1) := by decide +kernel
theorem zd_Su_goDown_81 : decode zb_Su_goDown 81 = .ok (.dup, 1) := by decide +kernel
theorem zd_Su_goDown_82 : decode zb_Su_goDown 82 = .ok (.getfield 49, 3) := by decide +kernel
theorem zd_Su_goDown_85 : decode zb_Su_goDown 85 = .ok (.iload 5, 2) := by decide +kernel
theorem zd_Su_goDown_87 : decode zb_Su_goDown 87 = .ok (.isub, 1) := by decide +kernel
theorem zd_Su_goDown_88 : decode zb_Su_goDown 88 = .ok (.putfield 49, 3) := by decide +kernel
theorem zd_Su_goDown_91 : decode zb_Su_goDown 91 = .ok (.aload_n 0, 1) := by decide +kernel
theorem zd_Su_goDown_92 : decode zb_Su_goDown 92 = .ok (.aload_n 0, 1) := by decide +kernel
theorem zd_Su_goDown_93 : decode zb_Su_goDown 93 = .ok (.getfield 46, 3) := by decide +kernel
theorem zd_Su_goDown_96 : decode zb_Su_goDown 96 = .ok (.aload_n 0, 1) := by decide +kernel
theorem zd_Su_goDown_97 : decode zb_Su_goDown 97 = .ok (.getfield 9, 3) := by decide +kernel
theorem zd_Su_goDown_100 : decode zb_Su_goDown 100 = .ok (.iload_n 1, 1) := by decide +kernel
theorem zd_Su_goDown_101 : decode zb_Su_goDown 101 = .ok (.aload_n 0, 1) := by decide +kernel
theorem zd_Su_goDown_102 : decode zb_Su_goDown 102 = .ok (.getfield 49, 3) := by decide +kernel
theorem zd_Su_goDown_105 : decode zb_Su_goDown 105 = .ok (.isub, 1) := by decide +kernel
theorem zd_Su_goDown_106 : decode zb_Su_goDown 106 = .ok (.baload, 1) := by decide +kernel
theorem zd_Su_goDown_107 : decode zb_Su_goDown 107 = .ok (.invokevirtual 106, 3) := by decide +kernel
theorem zd_Su_goDown_110 : decode zb_Su_goDown 110 = .ok (.istore_n 2, 1) := by decide +kernel
theorem zd_Su_goDown_111 : decode zb_Su_goDown 111 = .ok (.iinc 3 1, 3) := by decide +kernel
theorem zd_Su_goDown_114 : decode zb_Su_goDown 114 = .ok (.goto (-92), 3) := by decide +kernel
theorem zd_Su_goDown_117 : decode zb_Su_goDown 117 = .ok (.iload_n 2, 1) := by decide +kernel
theorem zd_Su_goDown_118 : decode zb_Su_goDown 118 = .ok (.ireturn, 1) := by decide +kernel
theorem zd_Su_slotOf_0 : decode zb_Su_slotOf 0 = .ok (.iload_n 1, 1) := by decide +kernel
theorem zd_Su_slotOf_1 : decode zb_Su_slotOf 1 = .ok (.bipush 8, 2) := by decide +kernel
theorem zd_Su_slotOf_3 : decode zb_Su_slotOf 3 = .ok (.ishl, 1) := by decide +kernel
theorem zd_Su_slotOf_4 : decode zb_Su_slotOf 4 = .ok (.iload_n 2, 1) := by decide +kernel
theorem zd_Su_slotOf_5 : decode zb_Su_slotOf 5 = .ok (.sipush 255, 3) := by decide +kernel
theorem zd_Su_slotOf_8 : decode zb_Su_slotOf 8 = .ok (.iand, 1) := by decide +kernel
theorem zd_Su_slotOf_9 : decode zb_Su_slotOf 9 = .ok (.ior, 1) := by decide +kernel
theorem zd_Su_slotOf_10 : decode zb_Su_slotOf 10 = .ok (.ldc 114, 2) := by decide +kernel
theorem zd_Su_slotOf_12 : decode zb_Su_slotOf 12 = .ok (.imul, 1) := by decide +kernel
theorem zd_Su_slotOf_13 : decode zb_Su_slotOf 13 = .ok (.aload_n 0, 1) := by decide +kernel
theorem zd_Su_slotOf_14 : decode zb_Su_slotOf 14 = .ok (.getfield 43, 3) := by decide +kernel
theorem zd_Su_slotOf_17 : decode zb_Su_slotOf 17 = .ok (.iushr, 1) := by decide +kernel
theorem zd_Su_slotOf_18 : decode zb_Su_slotOf 18 = .ok (.istore_n 3, 1) := by decide +kernel
theorem zd_Su_slotOf_19 : decode zb_Su_slotOf 19 = .ok (.iconst 0, 1) := by decide +kernel
theorem zd_Su_slotOf_20 : decode zb_Su_slotOf 20 = .ok (.istore 4, 2) := by decide +kernel
theorem zd_Su_slotOf_22 : decode zb_Su_slotOf 22 = .ok (.iload 4, 2) := by decide +kernel
theorem zd_Su_slotOf_24 : decode zb_Su_slotOf 24 = .ok (.aload_n 0, 1) := by decide +kernel
theorem zd_Su_slotOf_25 : decode zb_Su_slotOf 25 = .ok (.getfield 40, 3) := by decide +kernel
theorem zd_Su_slotOf_28 : decode zb_Su_slotOf 28 = .ok (.if_icmp .ge 63, 3) := by decide +kernel
theorem zd_Su_slotOf_31 : decode zb_Su_slotOf 31 = .ok (.aload_n 0, 1) := by decide +kernel
theorem zd_Su_slotOf_32 : decode zb_Su_slotOf 32 = .ok (.getfield 37, 3) := by decide +kernel
theorem zd_Su_slotOf_35 : decode zb_Su_slotOf 35 = .ok (.iload_n 3, 1) := by decide +kernel
theorem zd_Su_slotOf_36 : decode zb_Su_slotOf 36 = .ok (.iaload, 1) := by decide +kernel
theorem zd_Su_slotOf_37 : decode zb_Su_slotOf 37 = .ok (.istore 5, 2) := by decide +kernel
theorem zd_Su_slotOf_39 : decode zb_Su_slotOf 39 = .ok (.iload 5, 2) := by decide +kernel
theorem zd_Su_slotOf_41 : decode zb_Su_slotOf 41 = .ok (.ifCond .eq 50, 3) := by decide +kernel
theorem zd_Su_slotOf_44 : decode zb_Su_slotOf 44 = .ok (.aload_n 0, 1) := by decide +kernel
theorem zd_Su_slotOf_45 : decode zb_Su_slotOf 45 = .ok (.getfield 27, 3) := by decide +kernel
theorem zd_Su_slotOf_48 : decode zb_Su_slotOf 48 = .ok (.iload 5, 2) := by decide +kernel
theorem zd_Su_slotOf_50 : decode zb_Su_slotOf 50 = .ok (.iaload, 1) := by decide +kernel
theorem zd_Su_slotOf_51 : decode zb_Su_slotOf 51 = .ok (.iload_n 1, 1) := by decide +kernel
theorem zd_Su_slotOf_52 : decode zb_Su_slotOf 52 = .ok (.if_icmp .ne 22, 3) := by decide +kernel
theorem zd_Su_slotOf_55 : decode zb_Su_slotOf 55 = .ok (.aload_n 0, 1) := by decide +kernel
theorem zd_Su_slotOf_56 : decode zb_Su_slotOf 56 = .ok (.getfield 9, 3) := by decide +kernel
theorem zd_Su_slotOf_59 : decode zb_Su_slotOf 59 = .ok (.aload_n 0, 1) := by decide +kernel
theorem zd_Su_slotOf_60 : decode zb_Su_slotOf 60 = .ok (.getfield 20, 3) := by decide +kernel
theorem zd_Su_slotOf_63 : decode zb_Su_slotOf 63 = .ok (.iload 5, 2) := by decide +kernel
theorem zd_Su_slotOf_65 : decode zb_Su_slotOf 65 = .ok (.iaload, 1) := by decide +kernel
theorem zd_Su_slotOf_66 : decode zb_Su_slotOf 66 = .ok (.baload, 1) := by decide +kernel
theorem zd_Su_slotOf_67 : decode zb_Su_slotOf 67 = .ok (.iload_n 2, 1) := by decide +kernel
theorem zd_Su_slotOf_68 : decode zb_Su_slotOf 68 = .ok (.if_icmp .ne 6, 3) := by decide +kernel
theorem zd_Su_slotOf_71 : decode zb_Su_slotOf 71 = .ok (.goto 20, 3) := by decide +kernel
theorem zd_Su_slotOf_74 : decode zb_Su_slotOf 74 = .ok (.iload_n 3, 1) := by decide +kernel
theorem zd_Su_slotOf_75 : decode zb_Su_slotOf 75 = .ok (.iconst 1, 1) := by decide +kernel
theorem zd_Su_slotOf_76 : decode zb_Su_slotOf 76 = .ok (.iadd, 1) := by decide +kernel
theorem zd_Su_slotOf_77 : decode zb_Su_slotOf 77 = .ok (.aload_n 0, 1) := by decide +kernel
theorem zd_Su_slotOf_78 : decode zb_Su_slotOf 78 = .ok (.getfield 40, 3) := by decide +kernel
theorem zd_Su_slotOf_81 : decode zb_Su_slotOf 81 = .ok (.iconst 1, 1) := by decide +kernel
theorem zd_Su_slotOf_82 : decode zb_Su_slotOf 82 = .ok (.isub, 1) := by decide +kernel
theorem zd_Su_slotOf_83 : decode zb_Su_slotOf 83 = .ok (.iand, 1) := by decide +kernel
theorem zd_Su_slotOf_84 : decode zb_Su_slotOf 84 = .ok (.istore_n 3, 1) := by decide +kernel
theorem zd_Su_slotOf_85 : decode zb_Su_slotOf 85 = .ok (.iinc 4 1, 3) := by decide +kernel
theorem zd_Su_slotOf_88 : decode zb_Su_slotOf 88 = .ok (.goto (-66), 3) := by decide +kernel
theorem zd_Su_slotOf_91 : decode zb_Su_slotOf 91 = .ok (.iload_n 3, 1) := by decide +kernel
theorem zd_Su_slotOf_92 : decode zb_Su_slotOf 92 = .ok (.ireturn, 1) := by decide +kernel
theorem zd_Su_split_0 : decode zb_Su_split 0 = .ok (.aload_n 0, 1) := by decide +kernel
theorem zd_Su_split_1 : decode zb_Su_split 1 = .ok (.getfield 20, 3) := by decide +kernel
theorem zd_Su_split_4 : decode zb_Su_split 4 = .ok (.iload_n 2, 1) := by decide +kernel
theorem zd_Su_split_5 : decode zb_Su_split 5 = .ok (.iaload, 1) := by decide +kernel
theorem zd_Su_split_6 : decode zb_Su_split 6 = .ok (.aload_n 0, 1) := by decide +kernel
theorem zd_Su_split_7 : decode zb_Su_split 7 = .ok (.getfield 49, 3) := by decide +kernel
theorem zd_Su_split_10 : decode zb_Su_split 10 = .ok (.iadd, 1) := by decide +kernel
theorem zd_Su_split_11 : decode zb_Su_split 11 = .ok (.istore_n 3, 1) := by decide +kernel
theorem zd_Su_split_12 : decode zb_Su_split 12 = .ok (.aload_n 0, 1) := by decide +kernel
theorem zd_Su_split_13 : decode zb_Su_split 13 = .ok (.aload_n 0, 1) := by decide +kernel
theorem zd_Su_split_14 : decode zb_Su_split 14 = .ok (.getfield 46, 3) := by decide +kernel
theorem zd_Su_split_17 : decode zb_Su_split 17 = .ok (.aload_n 0, 1) := by decide +kernel
theorem zd_Su_split_18 : decode zb_Su_split 18 = .ok (.getfield 20, 3) := by decide +kernel
theorem zd_Su_split_21 : decode zb_Su_split 21 = .ok (.iload_n 2, 1) := by decide +kernel
theorem zd_Su_split_22 : decode zb_Su_split 22 = .ok (.iaload, 1) := by decide +kernel
theorem zd_Su_split_23 : decode zb_Su_split 23 = .ok (.iload_n 3, 1) := by decide +kernel
theorem zd_Su_split_24 : decode zb_Su_split 24 = .ok (.invokevirtual 110, 3) := by decide +kernel
theorem zd_Su_split_27 : decode zb_Su_split 27 = .ok (.istore 4, 2) := by decide +kernel
theorem zd_Su_split_29 : decode zb_Su_split 29 = .ok (.aload_n 0, 1) := by decide +kernel
theorem zd_Su_split_30 : decode zb_Su_split 30 = .ok (.getfield 37, 3) := by decide +kernel
theorem zd_Su_split_33 : decode zb_Su_split 33 = .ok (.iload_n 1, 1) := by decide +kernel
theorem zd_Su_split_34 : decode zb_Su_split 34 = .ok (.iload 4, 2) := by decide +kernel
theorem zd_Su_split_36 : decode zb_Su_split 36 = .ok (.iastore, 1) := by decide +kernel
theorem zd_Su_split_37 : decode zb_Su_split 37 = .ok (.aload_n 0, 1) := by decide +kernel
theorem zd_Su_split_38 : decode zb_Su_split 38 = .ok (.getfield 20, 3) := by decide +kernel
theorem zd_Su_split_41 : decode zb_Su_split 41 = .ok (.iload_n 2, 1) := by decide +kernel
theorem zd_Su_split_42 : decode zb_Su_split 42 = .ok (.iload_n 3, 1) := by decide +kernel
theorem zd_Su_split_43 : decode zb_Su_split 43 = .ok (.iastore, 1) := by decide +kernel
theorem zd_Su_split_44 : decode zb_Su_split 44 = .ok (.aload_n 0, 1) := by decide +kernel
theorem zd_Su_split_45 : decode zb_Su_split 45 = .ok (.getfield 27, 3) := by decide +kernel
theorem zd_Su_split_48 : decode zb_Su_split 48 = .ok (.iload_n 2, 1) := by decide +kernel
theorem zd_Su_split_49 : decode zb_Su_split 49 = .ok (.iload 4, 2) := by decide +kernel
theorem zd_Su_split_51 : decode zb_Su_split 51 = .ok (.iastore, 1) := by decide +kernel
theorem zd_Su_split_52 : decode zb_Su_split 52 = .ok (.aload_n 0, 1) := by decide +kernel
theorem zd_Su_split_53 : decode zb_Su_split 53 = .ok (.getfield 37, 3) := by decide +kernel
theorem zd_Su_split_56 : decode zb_Su_split 56 = .ok (.aload_n 0, 1) := by decide +kernel
theorem zd_Su_split_57 : decode zb_Su_split 57 = .ok (.iload 4, 2) := by decide +kernel
theorem zd_Su_split_59 : decode zb_Su_split 59 = .ok (.aload_n 0, 1) := by decide +kernel
theorem zd_Su_split_60 : decode zb_Su_split 60 = .ok (.getfield 9, 3) := by decide +kernel
theorem zd_Su_split_63 : decode zb_Su_split 63 = .ok (.iload_n 3, 1) := by decide +kernel
theorem zd_Su_split_64 : decode zb_Su_split 64 = .ok (.baload, 1) := by decide +kernel
theorem zd_Su_split_65 : decode zb_Su_split 65 = .ok (.invokevirtual 106, 3) := by decide +kernel
theorem zd_Su_split_68 : decode zb_Su_split 68 = .ok (.iload_n 2, 1) := by decide +kernel
theorem zd_Su_split_69 : decode zb_Su_split 69 = .ok (.iastore, 1) := by decide +kernel
theorem zd_Su_split_70 : decode zb_Su_split 70 = .ok (.iload 4, 2) := by decide +kernel
theorem zd_Su_split_72 : decode zb_Su_split 72 = .ok (.ireturn, 1) := by decide +kernel
theorem zd_Su_addNode_0 : decode zb_Su_addNode 0 = .ok (.aload_n 0, 1) := by decide +kernel
theorem zd_Su_addNode_1 : decode zb_Su_addNode 1 = .ok (.getfield 33, 3) := by decide +kernel
theorem zd_Su_addNode_4 : decode zb_Su_addNode 4 = .ok (.istore 4, 2) := by decide +kernel
theorem zd_Su_addNode_6 : decode zb_Su_addNode 6 = .ok (.aload_n 0, 1) := by decide +kernel
theorem zd_Su_addNode_7 : decode zb_Su_addNode 7 = .ok (.dup, 1) := by decide +kernel
theorem zd_Su_addNode_8 : decode zb_Su_addNode 8 = .ok (.getfield 33, 3) := by decide +kernel
theorem zd_Su_addNode_11 : decode zb_Su_addNode 11 = .ok (.iconst 1, 1) := by decide +kernel
theorem zd_Su_addNode_12 : decode zb_Su_addNode 12 = .ok (.iadd, 1) := by decide +kernel
theorem zd_Su_addNode_13 : decode zb_Su_addNode 13 = .ok (.putfield 33, 3) := by decide +kernel
theorem zd_Su_addNode_16 : decode zb_Su_addNode 16 = .ok (.aload_n 0, 1) := by decide +kernel
theorem zd_Su_addNode_17 : decode zb_Su_addNode 17 = .ok (.getfield 27, 3) := by decide +kernel
theorem zd_Su_addNode_20 : decode zb_Su_addNode 20 = .ok (.iload 4, 2) := by decide +kernel
theorem zd_Su_addNode_22 : decode zb_Su_addNode 22 = .ok (.iload_n 1, 1) := by decide +kernel
theorem zd_Su_addNode_23 : decode zb_Su_addNode 23 = .ok (.iastore, 1) := by decide +kernel
theorem zd_Su_addNode_24 : decode zb_Su_addNode 24 = .ok (.aload_n 0, 1) := by decide +kernel
theorem zd_Su_addNode_25 : decode zb_Su_addNode 25 = .ok (.getfield 20, 3) := by decide +kernel
theorem zd_Su_addNode_28 : decode zb_Su_addNode 28 = .ok (.iload 4, 2) := by decide +kernel
theorem zd_Su_addNode_30 : decode zb_Su_addNode 30 = .ok (.iload_n 2, 1) := by decide +kernel
theorem zd_Su_addNode_31 : decode zb_Su_addNode 31 = .ok (.iastore, 1) := by decide +kernel
theorem zd_Su_addNode_32 : decode zb_Su_addNode 32 = .ok (.aload_n 0, 1) := by decide +kernel
theorem zd_Su_addNode_33 : decode zb_Su_addNode 33 = .ok (.getfield 24, 3) := by decide +kernel
theorem zd_Su_addNode_36 : decode zb_Su_addNode 36 = .ok (.iload 4, 2) := by decide +kernel
theorem zd_Su_addNode_38 : decode zb_Su_addNode 38 = .ok (.iload_n 3, 1) := by decide +kernel
theorem zd_Su_addNode_39 : decode zb_Su_addNode 39 = .ok (.iastore, 1) := by decide +kernel
theorem zd_Su_addNode_40 : decode zb_Su_addNode 40 = .ok (.aload_n 0, 1) := by decide +kernel
theorem zd_Su_addNode_41 : decode zb_Su_addNode 41 = .ok (.getfield 30, 3) := by decide +kernel
theorem zd_Su_addNode_44 : decode zb_Su_addNode 44 = .ok (.iload 4, 2) := by decide +kernel
theorem zd_Su_addNode_46 : decode zb_Su_addNode 46 = .ok (.iconst 0, 1) := by decide +kernel
theorem zd_Su_addNode_47 : decode zb_Su_addNode 47 = .ok (.iastore, 1) := by decide +kernel
theorem zd_Su_addNode_48 : decode zb_Su_addNode 48 = .ok (.iload 4, 2) := by decide +kernel
theorem zd_Su_addNode_50 : decode zb_Su_addNode 50 = .ok (.ireturn, 1) := by decide +kernel
theorem zd_Su_addLeaf_0 : decode zb_Su_addLeaf 0 = .ok (.aload_n 0, 1) := by decide +kernel
theorem zd_Su_addLeaf_1 : decode zb_Su_addLeaf 1 = .ok (.iload_n 1, 1) := by decide +kernel
theorem zd_Su_addLeaf_2 : decode zb_Su_addLeaf 2 = .ok (.aload_n 0, 1) := by decide +kernel
theorem zd_Su_addLeaf_3 : decode zb_Su_addLeaf 3 = .ok (.getfield 9, 3) := by decide +kernel
theorem zd_Su_addLeaf_6 : decode zb_Su_addLeaf 6 = .ok (.iload_n 2, 1) := by decide +kernel
theorem zd_Su_addLeaf_7 : decode zb_Su_addLeaf 7 = .ok (.baload, 1) := by decide +kernel
theorem zd_Su_addLeaf_8 : decode zb_Su_addLeaf 8 = .ok (.invokevirtual 106, 3) := by decide +kernel
theorem zd_Su_addLeaf_11 : decode zb_Su_addLeaf 11 = .ok (.istore_n 3, 1) := by decide +kernel
theorem zd_Su_addLeaf_12 : decode zb_Su_addLeaf 12 = .ok (.aload_n 0, 1) := by decide +kernel
theorem zd_Su_addLeaf_13 : decode zb_Su_addLeaf 13 = .ok (.getfield 37, 3) := by decide +kernel
theorem zd_Su_addLeaf_16 : decode zb_Su_addLeaf 16 = .ok (.iload_n 3, 1) := by decide +kernel
theorem zd_Su_addLeaf_17 : decode zb_Su_addLeaf 17 = .ok (.aload_n 0, 1) := by decide +kernel
theorem zd_Su_addLeaf_18 : decode zb_Su_addLeaf 18 = .ok (.iload_n 1, 1) := by decide +kernel
theorem zd_Su_addLeaf_19 : decode zb_Su_addLeaf 19 = .ok (.iload_n 2, 1) := by decide +kernel
theorem zd_Su_addLeaf_20 : decode zb_Su_addLeaf 20 = .ok (.aload_n 0, 1) := by decide +kernel
theorem zd_Su_addLeaf_21 : decode zb_Su_addLeaf 21 = .ok (.getfield 15, 3) := by decide +kernel
theorem zd_Su_addLeaf_24 : decode zb_Su_addLeaf 24 = .ok (.invokevirtual 110, 3) := by decide +kernel
theorem zd_Su_addLeaf_27 : decode zb_Su_addLeaf 27 = .ok (.iastore, 1) := by decide +kernel
theorem zd_Su_addLeaf_28 : decode zb_Su_addLeaf 28 = .ok (.return_, 1) := by decide +kernel
end
section
theorem zd_Su_goToNextSuffix_0 : decode zb_Su_goToNextSuffix 0 = .ok (.aload_n 0, 1) := by decide +kernel
theorem zd_Su_goToNextSuffix_1 : decode zb_Su_goToNextSuffix 1 = .ok (.getfield 46, 3) := by decide +kernel
theorem zd_Su_goToNextSuffix_4 : decode zb_Su_goToNextSuffix 4 = .ok (.ifCond .eq 19, 3) := by decide +kernel
theorem zd_Su_goToNextSuffix_7 : decode zb_Su_goToNextSuffix 7 = .ok (.aload_n 0, 1) := by decide +kernel
theorem zd_Su_goToNextSuffix_8 : decode zb_Su_goToNextSuffix 8 = .ok (.aload_n 0, 1) := by decide +kernel
theorem zd_Su_goToNextSuffix_9 : decode zb_Su_goToNextSuffix 9 = .ok (.getfield 30, 3) := by decide +kernel
theorem zd_Su_goToNextSuffix_12 : decode zb_Su_goToNextSuffix 12 = .ok (.aload_n 0, 1) := by decide +kernel
theorem zd_Su_goToNextSuffix_13 : decode zb_Su_goToNextSuffix 13 = .ok (.getfield 46, 3) := by decide +kernel
theorem zd_Su_goToNextSuffix_16 : decode zb_Su_goToNextSuffix 16 = .ok (.iaload, 1) := by decide +kernel
theorem zd_Su_goToNextSuffix_17 : decode zb_Su_goToNextSuffix 17 = .ok (.putfield 46, 3) := by decide +kernel
theorem zd_Su_goToNextSuffix_20 : decode zb_Su_goToNextSuffix 20 = .ok (.goto 20, 3) := by decide +kernel
theorem zd_Su_goToNextSuffix_23 : decode zb_Su_goToNextSuffix 23 = .ok (.aload_n 0, 1) := by decide +kernel
theorem zd_Su_goToNextSuffix_24 : decode zb_Su_goToNextSuffix 24 = .ok (.getfield 49, 3) := by decide +kernel
theorem zd_Su_goToNextSuffix_27 : decode zb_Su_goToNextSuffix 27 = .ok (.ifCond .le 13, 3) := by decide +kernel
theorem zd_Su_goToNextSuffix_30 : decode zb_Su_goToNextSuffix 30 = .ok (.aload_n 0, 1) := by decide +kernel
theorem zd_Su_goToNextSuffix_31 : decode zb_Su_goToNextSuffix 31 = .ok (.dup, 1) := by decide +kernel
theorem zd_Su_goToNextSuffix_32 : decode zb_Su_goToNextSuffix 32 = .ok (.getfield 49, 3) := by decide +kernel
theorem zd_Su_goToNextSuffix_35 : decode zb_Su_goToNextSuffix 35 = .ok (.iconst 1, 1) := by decide +kernel
theorem zd_Su_goToNextSuffix_36 : decode zb_Su_goToNextSuffix 36 = .ok (.isub, 1) := by decide +kernel
theorem zd_Su_goToNextSuffix_37 : decode zb_Su_goToNextSuffix 37 = .ok (.putfield 49, 3) := by decide +kernel
theorem zd_Su_goToNextSuffix_40 : decode zb_Su_goToNextSuffix 40 = .ok (.return_, 1) := by decide +kernel
theorem zd_Su_find_0 : decode zb_Su_find 0 = .ok (.aload_n 1, 1) := by decide +kernel
theorem zd_Su_find_1 : decode zb_Su_find 1 = .ok (.invokevirtual 61, 3) := by decide +kernel
theorem zd_Su_find_4 : decode zb_Su_find 4 = .ok (.astore 4, 2) := by decide +kernel
theorem zd_Su_find_6 : decode zb_Su_find 6 = .ok (.aload_n 1, 1) := by decide +kernel
theorem zd_Su_find_7 : decode zb_Su_find 7 = .ok (.invokevirtual 67, 3) := by decide +kernel
theorem zd_Su_find_10 : decode zb_Su_find 10 = .ok (.iload_n 2, 1) := by decide +kernel
theorem zd_Su_find_11 : decode zb_Su_find 11 = .ok (.isub, 1) := by decide +kernel
theorem zd_Su_find_12 : decode zb_Su_find 12 = .ok (.iload_n 3, 1) := by decide +kernel
theorem zd_Su_find_13 : decode zb_Su_find 13 = .ok (.invokestatic 115, 3) := by decide +kernel
theorem zd_Su_find_16 : decode zb_Su_find 16 = .ok (.istore 5, 2) := by decide +kernel
theorem zd_Su_find_18 : decode zb_Su_find 18 = .ok (.iconst 0, 1) := by decide +kernel
theorem zd_Su_find_19 : decode zb_Su_find 19 = .ok (.istore 6, 2) := by decide +kernel
theorem zd_Su_find_21 : decode zb_Su_find 21 = .ok (.aload_n 0, 1) := by decide +kernel
theorem zd_Su_find_22 : decode zb_Su_find 22 = .ok (.iconst 0, 1) := by decide +kernel
theorem zd_Su_find_23 : decode zb_Su_find 23 = .ok (.putfield 55, 3) := by decide +kernel
theorem zd_Su_find_26 : decode zb_Su_find 26 = .ok (.aload_n 0, 1) := by decide +kernel
theorem zd_Su_find_27 : decode zb_Su_find 27 = .ok (.iconst (-1), 1) := by decide +kernel
theorem zd_Su_find_28 : decode zb_Su_find 28 = .ok (.putfield 58, 3) := by decide +kernel
theorem zd_Su_find_31 : decode zb_Su_find 31 = .ok (.aload_n 0, 1) := by decide +kernel
theorem zd_Su_find_32 : decode zb_Su_find 32 = .ok (.getfield 55, 3) := by decide +kernel
theorem zd_Su_find_35 : decode zb_Su_find 35 = .ok (.iload 5, 2) := by decide +kernel
theorem zd_Su_find_37 : decode zb_Su_find 37 = .ok (.if_icmp .ge 135, 3) := by decide +kernel
theorem zd_Su_find_40 : decode zb_Su_find 40 = .ok (.aload_n 0, 1) := by decide +kernel
theorem zd_Su_find_41 : decode zb_Su_find 41 = .ok (.getfield 37, 3) := by decide +kernel
theorem zd_Su_find_44 : decode zb_Su_find 44 = .ok (.aload_n 0, 1) := by decide +kernel
theorem zd_Su_find_45 : decode zb_Su_find 45 = .ok (.iload 6, 2) := by decide +kernel
theorem zd_Su_find_47 : decode zb_Su_find 47 = .ok (.aload 4, 2) := by decide +kernel
theorem zd_Su_find_49 : decode zb_Su_find 49 = .ok (.iload_n 2, 1) := by decide +kernel
theorem zd_Su_find_50 : decode zb_Su_find 50 = .ok (.aload_n 0, 1) := by decide +kernel
theorem zd_Su_find_51 : decode zb_Su_find 51 = .ok (.getfield 55, 3) := by decide +kernel
theorem zd_Su_find_54 : decode zb_Su_find 54 = .ok (.iadd, 1) := by decide +kernel
theorem zd_Su_find_55 : decode zb_Su_find 55 = .ok (.baload, 1) := by decide +kernel
theorem zd_Su_find_56 : decode zb_Su_find 56 = .ok (.invokevirtual 106, 3) := by decide +kernel
theorem zd_Su_find_59 : decode zb_Su_find 59 = .ok (.iaload, 1) := by decide +kernel
theorem zd_Su_find_60 : decode zb_Su_find 60 = .ok (.istore 7, 2) := by decide +kernel
theorem zd_Su_find_62 : decode zb_Su_find 62 = .ok (.iload 7, 2) := by decide +kernel
theorem zd_Su_find_64 : decode zb_Su_find 64 = .ok (.ifCond .ne 6, 3) := by decide +kernel
theorem zd_Su_find_67 : decode zb_Su_find 67 = .ok (.goto 105, 3) := by decide +kernel
theorem zd_Su_find_70 : decode zb_Su_find 70 = .ok (.aload_n 0, 1) := by decide +kernel
theorem zd_Su_find_71 : decode zb_Su_find 71 = .ok (.getfield 24, 3) := by decide +kernel
theorem zd_Su_find_74 : decode zb_Su_find 74 = .ok (.iload 7, 2) := by decide +kernel
theorem zd_Su_find_76 : decode zb_Su_find 76 = .ok (.iaload, 1) := by decide +kernel
theorem zd_Su_find_77 : decode zb_Su_find 77 = .ok (.aload_n 0, 1) := by decide +kernel
theorem zd_Su_find_78 : decode zb_Su_find 78 = .ok (.getfield 20, 3) := by decide +kernel
theorem zd_Su_find_81 : decode zb_Su_find 81 = .ok (.iload 7, 2) := by decide +kernel
theorem zd_Su_find_83 : decode zb_Su_find 83 = .ok (.iaload, 1) := by decide +kernel
theorem zd_Su_find_84 : decode zb_Su_find 84 = .ok (.isub, 1) := by decide +kernel
theorem zd_Su_find_85 : decode zb_Su_find 85 = .ok (.istore 8, 2) := by decide +kernel
theorem zd_Su_find_87 : decode zb_Su_find 87 = .ok (.aload_n 0, 1) := by decide +kernel
theorem zd_Su_find_88 : decode zb_Su_find 88 = .ok (.aload_n 0, 1) := by decide +kernel
theorem zd_Su_find_89 : decode zb_Su_find 89 = .ok (.getfield 20, 3) := by decide +kernel
theorem zd_Su_find_92 : decode zb_Su_find 92 = .ok (.iload 7, 2) := by decide +kernel
theorem zd_Su_find_94 : decode zb_Su_find 94 = .ok (.iaload, 1) := by decide +kernel
theorem zd_Su_find_95 : decode zb_Su_find 95 = .ok (.aload_n 0, 1) := by decide +kernel
theorem zd_Su_find_96 : decode zb_Su_find 96 = .ok (.getfield 55, 3) := by decide +kernel
theorem zd_Su_find_99 : decode zb_Su_find 99 = .ok (.isub, 1) := by decide +kernel
theorem zd_Su_find_100 : decode zb_Su_find 100 = .ok (.putfield 58, 3) := by decide +kernel
theorem zd_Su_find_103 : decode zb_Su_find 103 = .ok (.iconst 1, 1) := by decide +kernel
theorem zd_Su_find_104 : decode zb_Su_find 104 = .ok (.aload_n 0, 1) := by decide +kernel
theorem zd_Su_find_105 : decode zb_Su_find 105 = .ok (.aload_n 0, 1) := by decide +kernel
theorem zd_Su_find_106 : decode zb_Su_find 106 = .ok (.getfield 20, 3) := by decide +kernel
theorem zd_Su_find_109 : decode zb_Su_find 109 = .ok (.iload 7, 2) := by decide +kernel
theorem zd_Su_find_111 : decode zb_Su_find 111 = .ok (.iaload, 1) := by decide +kernel
theorem zd_Su_find_112 : decode zb_Su_find 112 = .ok (.iconst 1, 1) := by decide +kernel
theorem zd_Su_find_113 : decode zb_Su_find 113 = .ok (.iadd, 1) := by decide +kernel
theorem zd_Su_find_114 : decode zb_Su_find 114 = .ok (.aload 4, 2) := by decide +kernel
theorem zd_Su_find_116 : decode zb_Su_find 116 = .ok (.iload_n 2, 1) := by decide +kernel
theorem zd_Su_find_117 : decode zb_Su_find 117 = .ok (.aload_n 0, 1) := by decide +kernel
theorem zd_Su_find_118 : decode zb_Su_find 118 = .ok (.getfield 55, 3) := by decide +kernel
theorem zd_Su_find_121 : decode zb_Su_find 121 = .ok (.iadd, 1) := by decide +kernel
theorem zd_Su_find_122 : decode zb_Su_find 122 = .ok (.iconst 1, 1) := by decide +kernel
theorem zd_Su_find_123 : decode zb_Su_find 123 = .ok (.iadd, 1) := by decide +kernel
theorem zd_Su_find_124 : decode zb_Su_find 124 = .ok (.iload 8, 2) := by decide +kernel
theorem zd_Su_find_126 : decode zb_Su_find 126 = .ok (.iload 5, 2) := by decide +kernel
theorem zd_Su_find_128 : decode zb_Su_find 128 = .ok (.aload_n 0, 1) := by decide +kernel
theorem zd_Su_find_129 : decode zb_Su_find 129 = .ok (.getfield 55, 3) := by decide +kernel
theorem zd_Su_find_132 : decode zb_Su_find 132 = .ok (.isub, 1) := by decide +kernel
theorem zd_Su_find_133 : decode zb_Su_find 133 = .ok (.invokestatic 115, 3) := by decide +kernel
theorem zd_Su_find_136 : decode zb_Su_find 136 = .ok (.iconst 1, 1) := by decide +kernel
theorem zd_Su_find_137 : decode zb_Su_find 137 = .ok (.isub, 1) := by decide +kernel
theorem zd_Su_find_138 : decode zb_Su_find 138 = .ok (.invokevirtual 118, 3) := by decide +kernel
theorem zd_Su_find_141 : decode zb_Su_find 141 = .ok (.iadd, 1) := by decide +kernel
theorem zd_Su_find_142 : decode zb_Su_find 142 = .ok (.istore 9, 2) := by decide +kernel
theorem zd_Su_find_144 : decode zb_Su_find 144 = .ok (.aload_n 0, 1) := by decide +kernel
theorem zd_Su_find_145 : decode zb_Su_find 145 = .ok (.dup, 1) := by decide +kernel
theorem zd_Su_find_146 : decode zb_Su_find 146 = .ok (.getfield 55, 3) := by decide +kernel
theorem zd_Su_find_149 : decode zb_Su_find 149 = .ok (.iload 9, 2) := by decide +kernel
theorem zd_Su_find_151 : decode zb_Su_find 151 = .ok (.iadd, 1) := by decide +kernel
theorem zd_Su_find_152 : decode zb_Su_find 152 = .ok (.putfield 55, 3) := by decide +kernel
theorem zd_Su_find_155 : decode zb_Su_find 155 = .ok (.iload 9, 2) := by decide +kernel
theorem zd_Su_find_157 : decode zb_Su_find 157 = .ok (.iload 8, 2) := by decide +kernel
theorem zd_Su_find_159 : decode zb_Su_find 159 = .ok (.if_icmp .ge 6, 3) := by decide +kernel
theorem zd_Su_find_162 : decode zb_Su_find 162 = .ok (.goto 10, 3) := by decide +kernel
theorem zd_Su_find_165 : decode zb_Su_find 165 = .ok (.iload 7, 2) := by decide +kernel
theorem zd_Su_find_167 : decode zb_Su_find 167 = .ok (.istore 6, 2) := by decide +kernel
theorem zd_Su_find_169 : decode zb_Su_find 169 = .ok (.goto (-138), 3) := by decide +kernel
theorem zd_Su_find_172 : decode zb_Su_find 172 = .ok (.return_, 1) := by decide +kernel
theorem zd_Su_sameLetters_0 : decode zb_Su_sameLetters 0 = .ok (.iconst 0, 1) := by decide +kernel
theorem zd_Su_sameLetters_1 : decode zb_Su_sameLetters 1 = .ok (.istore 5, 2) := by decide +kernel
theorem zd_Su_sameLetters_3 : decode zb_Su_sameLetters 3 = .ok (.iload 5, 2) := by decide +kernel
theorem zd_Su_sameLetters_5 : decode zb_Su_sameLetters 5 = .ok (.iload 4, 2) := by decide +kernel
theorem zd_Su_sameLetters_7 : decode zb_Su_sameLetters 7 = .ok (.if_icmp .ge 27, 3) := by decide +kernel
theorem zd_Su_sameLetters_10 : decode zb_Su_sameLetters 10 = .ok (.aload_n 0, 1) := by decide +kernel
theorem zd_Su_sameLetters_11 : decode zb_Su_sameLetters 11 = .ok (.getfield 9, 3) := by decide +kernel
theorem zd_Su_sameLetters_14 : decode zb_Su_sameLetters 14 = .ok (.iload_n 1, 1) := by decide +kernel
theorem zd_Su_sameLetters_15 : decode zb_Su_sameLetters 15 = .ok (.iload 5, 2) := by decide +kernel
theorem zd_Su_sameLetters_17 : decode zb_Su_sameLetters 17 = .ok (.iadd, 1) := by decide +kernel
theorem zd_Su_sameLetters_18 : decode zb_Su_sameLetters 18 = .ok (.baload, 1) := by decide +kernel
theorem zd_Su_sameLetters_19 : decode zb_Su_sameLetters 19 = .ok (.aload_n 2, 1) := by decide +kernel
theorem zd_Su_sameLetters_20 : decode zb_Su_sameLetters 20 = .ok (.iload_n 3, 1) := by decide +kernel
theorem zd_Su_sameLetters_21 : decode zb_Su_sameLetters 21 = .ok (.iload 5, 2) := by decide +kernel
theorem zd_Su_sameLetters_23 : decode zb_Su_sameLetters 23 = .ok (.iadd, 1) := by decide +kernel
theorem zd_Su_sameLetters_24 : decode zb_Su_sameLetters 24 = .ok (.baload, 1) := by decide +kernel
theorem zd_Su_sameLetters_25 : decode zb_Su_sameLetters 25 = .ok (.if_icmp .ne 9, 3) := by decide +kernel
theorem zd_Su_sameLetters_28 : decode zb_Su_sameLetters 28 = .ok (.iinc 5 1, 3) := by decide +kernel
theorem zd_Su_sameLetters_31 : decode zb_Su_sameLetters 31 = .ok (.goto (-28), 3) := by decide +kernel
theorem zd_Su_sameLetters_34 : decode zb_Su_sameLetters 34 = .ok (.iload 5, 2) := by decide +kernel
theorem zd_Su_sameLetters_36 : decode zb_Su_sameLetters 36 = .ok (.ireturn, 1) := by decide +kernel
theorem zd_Su_foundLength_0 : decode zb_Su_foundLength 0 = .ok (.aload_n 0, 1) := by decide +kernel
theorem zd_Su_foundLength_1 : decode zb_Su_foundLength 1 = .ok (.getfield 55, 3) := by decide +kernel
theorem zd_Su_foundLength_4 : decode zb_Su_foundLength 4 = .ok (.ireturn, 1) := by decide +kernel
theorem zd_Pr_writeNew_0 : decode zb_Pr_writeNew 0 = .ok (.iload_n 1, 1) := by decide +kernel
theorem zd_Pr_writeNew_1 : decode zb_Pr_writeNew 1 = .ok (.istore_n 3, 1) := by decide +kernel
theorem zd_Pr_writeNew_2 : decode zb_Pr_writeNew 2 = .ok (.iload_n 3, 1) := by decide +kernel
theorem zd_Pr_writeNew_3 : decode zb_Pr_writeNew 3 = .ok (.iload_n 2, 1) := by decide +kernel
theorem zd_Pr_writeNew_4 : decode zb_Pr_writeNew 4 = .ok (.if_icmp .ge 42, 3) := by decide +kernel
theorem zd_Pr_writeNew_7 : decode zb_Pr_writeNew 7 = .ok (.bipush 127, 2) := by decide +kernel
theorem zd_Pr_writeNew_9 : decode zb_Pr_writeNew 9 = .ok (.iload_n 2, 1) := by decide +kernel
theorem zd_Pr_writeNew_10 : decode zb_Pr_writeNew 10 = .ok (.iload_n 3, 1) := by decide +kernel
theorem zd_Pr_writeNew_11 : decode zb_Pr_writeNew 11 = .ok (.isub, 1) := by decide +kernel
theorem zd_Pr_writeNew_12 : decode zb_Pr_writeNew 12 = .ok (.invokestatic 142, 3) := by decide +kernel
theorem zd_Pr_writeNew_15 : decode zb_Pr_writeNew 15 = .ok (.istore 4, 2) := by decide +kernel
theorem zd_Pr_writeNew_17 : decode zb_Pr_writeNew 17 = .ok (.aload_n 0, 1) := by decide +kernel
theorem zd_Pr_writeNew_18 : decode zb_Pr_writeNew 18 = .ok (.getfield 23, 3) := by decide +kernel
theorem zd_Pr_writeNew_21 : decode zb_Pr_writeNew 21 = .ok (.iload 4, 2) := by decide +kernel
theorem zd_Pr_writeNew_23 : decode zb_Pr_writeNew 23 = .ok (.invokevirtual 148, 3) := by decide +kernel
theorem zd_Pr_writeNew_26 : decode zb_Pr_writeNew 26 = .ok (.aload_n 0, 1) := by decide +kernel
theorem zd_Pr_writeNew_27 : decode zb_Pr_writeNew 27 = .ok (.getfield 23, 3) := by decide +kernel
theorem zd_Pr_writeNew_30 : decode zb_Pr_writeNew 30 = .ok (.aload_n 0, 1) := by decide +kernel
theorem zd_Pr_writeNew_31 : decode zb_Pr_writeNew 31 = .ok (.getfield 15, 3) := by decide +kernel
theorem zd_Pr_writeNew_34 : decode zb_Pr_writeNew 34 = .ok (.iload_n 3, 1) := by decide +kernel
theorem zd_Pr_writeNew_35 : decode zb_Pr_writeNew 35 = .ok (.iload 4, 2) := by decide +kernel
theorem zd_Pr_writeNew_37 : decode zb_Pr_writeNew 37 = .ok (.invokevirtual 119, 3) := by decide +kernel
theorem zd_Pr_writeNew_40 : decode zb_Pr_writeNew 40 = .ok (.iinc 3 127, 3) := by decide +kernel
theorem zd_Pr_writeNew_43 : decode zb_Pr_writeNew 43 = .ok (.goto (-41), 3) := by decide +kernel
theorem zd_Pr_writeNew_46 : decode zb_Pr_writeNew 46 = .ok (.aload_n 0, 1) := by decide +kernel
theorem zd_Pr_writeNew_47 : decode zb_Pr_writeNew 47 = .ok (.dup, 1) := by decide +kernel
theorem zd_Pr_writeNew_48 : decode zb_Pr_writeNew 48 = .ok (.getfield 51, 3) := by decide +kernel
theorem zd_Pr_writeNew_51 : decode zb_Pr_writeNew 51 = .ok (.iload_n 2, 1) := by decide +kernel
theorem zd_Pr_writeNew_52 : decode zb_Pr_writeNew 52 = .ok (.iload_n 1, 1) := by decide +kernel
theorem zd_Pr_writeNew_53 : decode zb_Pr_writeNew 53 = .ok (.isub, 1) := by decide +kernel
theorem zd_Pr_writeNew_54 : decode zb_Pr_writeNew 54 = .ok (.iadd, 1) := by decide +kernel
theorem zd_Pr_writeNew_55 : decode zb_Pr_writeNew 55 = .ok (.putfield 51, 3) := by decide +kernel
theorem zd_Pr_writeNew_58 : decode zb_Pr_writeNew 58 = .ok (.return_, 1) := by decide +kernel
theorem zd_Tx_addPart_0 : decode zb_Tx_addPart 0 = .ok (.aload_n 1, 1) := by decide +kernel
theorem zd_Tx_addPart_1 : decode zb_Tx_addPart 1 = .ok (.getfield 13, 3) := by decide +kernel
theorem zd_Tx_addPart_4 : decode zb_Tx_addPart 4 = .ok (.iload_n 2, 1) := by decide +kernel
theorem zd_Tx_addPart_5 : decode zb_Tx_addPart 5 = .ok (.aload_n 0, 1) := by decide +kernel
theorem zd_Tx_addPart_6 : decode zb_Tx_addPart 6 = .ok (.getfield 13, 3) := by decide +kernel
theorem zd_Tx_addPart_9 : decode zb_Tx_addPart 9 = .ok (.aload_n 0, 1) := by decide +kernel
theorem zd_Tx_addPart_10 : decode zb_Tx_addPart 10 = .ok (.getfield 7, 3) := by decide +kernel
theorem zd_Tx_addPart_13 : decode zb_Tx_addPart 13 = .ok (.iload_n 3, 1) := by decide +kernel
theorem zd_Tx_addPart_14 : decode zb_Tx_addPart 14 = .ok (.invokestatic 21, 3) := by decide +kernel
theorem zd_Tx_addPart_17 : decode zb_Tx_addPart 17 = .ok (.aload_n 0, 1) := by decide +kernel
theorem zd_Tx_addPart_18 : decode zb_Tx_addPart 18 = .ok (.dup, 1) := by decide +kernel
theorem zd_Tx_addPart_19 : decode zb_Tx_addPart 19 = .ok (.getfield 7, 3) := by decide +kernel
theorem zd_Tx_addPart_22 : decode zb_Tx_addPart 22 = .ok (.iload_n 3, 1) := by decide +kernel
theorem zd_Tx_addPart_23 : decode zb_Tx_addPart 23 = .ok (.iadd, 1) := by decide +kernel
theorem zd_Tx_addPart_24 : decode zb_Tx_addPart 24 = .ok (.putfield 7, 3) := by decide +kernel
theorem zd_Tx_addPart_27 : decode zb_Tx_addPart 27 = .ok (.return_, 1) := by decide +kernel
theorem zd_Su_foundPlace_0 : decode zb_Su_foundPlace 0 = .ok (.aload_n 0, 1) := by decide +kernel
theorem zd_Su_foundPlace_1 : decode zb_Su_foundPlace 1 = .ok (.getfield 58, 3) := by decide +kernel
theorem zd_Su_foundPlace_4 : decode zb_Su_foundPlace 4 = .ok (.ireturn, 1) := by decide +kernel
theorem zd_Pr_writeCopy_0 : decode zb_Pr_writeCopy 0 = .ok (.iload_n 1, 1) := by decide +kernel
theorem zd_Pr_writeCopy_1 : decode zb_Pr_writeCopy 1 = .ok (.iconst 4, 1) := by decide +kernel
theorem zd_Pr_writeCopy_2 : decode zb_Pr_writeCopy 2 = .ok (.invokestatic 151, 3) := by decide +kernel
theorem zd_Pr_writeCopy_5 : decode zb_Pr_writeCopy 5 = .ok (.iload_n 2, 1) := by decide +kernel
theorem zd_Pr_writeCopy_6 : decode zb_Pr_writeCopy 6 = .ok (.iconst 2, 1) := by decide +kernel
theorem zd_Pr_writeCopy_7 : decode zb_Pr_writeCopy 7 = .ok (.invokestatic 151, 3) := by decide +kernel
theorem zd_Pr_writeCopy_10 : decode zb_Pr_writeCopy 10 = .ok (.iconst 4, 1) := by decide +kernel
theorem zd_Pr_writeCopy_11 : decode zb_Pr_writeCopy 11 = .ok (.ishl, 1) := by decide +kernel
theorem zd_Pr_writeCopy_12 : decode zb_Pr_writeCopy 12 = .ok (.ior, 1) := by decide +kernel
theorem zd_Pr_writeCopy_13 : decode zb_Pr_writeCopy 13 = .ok (.istore_n 3, 1) := by decide +kernel
theorem zd_Pr_writeCopy_14 : decode zb_Pr_writeCopy 14 = .ok (.aload_n 0, 1) := by decide +kernel
theorem zd_Pr_writeCopy_15 : decode zb_Pr_writeCopy 15 = .ok (.getfield 23, 3) := by decide +kernel
theorem zd_Pr_writeCopy_18 : decode zb_Pr_writeCopy 18 = .ok (.sipush 128, 3) := by decide +kernel
theorem zd_Pr_writeCopy_21 : decode zb_Pr_writeCopy 21 = .ok (.iload_n 3, 1) := by decide +kernel
theorem zd_Pr_writeCopy_22 : decode zb_Pr_writeCopy 22 = .ok (.ior, 1) := by decide +kernel
theorem zd_Pr_writeCopy_23 : decode zb_Pr_writeCopy 23 = .ok (.invokevirtual 148, 3) := by decide +kernel
theorem zd_Pr_writeCopy_26 : decode zb_Pr_writeCopy 26 = .ok (.aload_n 0, 1) := by decide +kernel
theorem zd_Pr_writeCopy_27 : decode zb_Pr_writeCopy 27 = .ok (.getfield 23, 3) := by decide +kernel
theorem zd_Pr_writeCopy_30 : decode zb_Pr_writeCopy 30 = .ok (.iload_n 1, 1) := by decide +kernel
theorem zd_Pr_writeCopy_31 : decode zb_Pr_writeCopy 31 = .ok (.iconst 4, 1) := by decide +kernel
theorem zd_Pr_writeCopy_32 : decode zb_Pr_writeCopy 32 = .ok (.invokevirtual 154, 3) := by decide +kernel
theorem zd_Pr_writeCopy_35 : decode zb_Pr_writeCopy 35 = .ok (.aload_n 0, 1) := by decide +kernel
theorem zd_Pr_writeCopy_36 : decode zb_Pr_writeCopy 36 = .ok (.getfield 23, 3) := by decide +kernel
theorem zd_Pr_writeCopy_39 : decode zb_Pr_writeCopy 39 = .ok (.iload_n 2, 1) := by decide +kernel
theorem zd_Pr_writeCopy_40 : decode zb_Pr_writeCopy 40 = .ok (.iconst 2, 1) := by decide +kernel
theorem zd_Pr_writeCopy_41 : decode zb_Pr_writeCopy 41 = .ok (.invokevirtual 154, 3) := by decide +kernel
theorem zd_Pr_writeCopy_44 : decode zb_Pr_writeCopy 44 = .ok (.aload_n 0, 1) := by decide +kernel
theorem zd_Pr_writeCopy_45 : decode zb_Pr_writeCopy 45 = .ok (.dup, 1) := by decide +kernel
theorem zd_Pr_writeCopy_46 : decode zb_Pr_writeCopy 46 = .ok (.getfield 47, 3) := by decide +kernel
theorem zd_Pr_writeCopy_49 : decode zb_Pr_writeCopy 49 = .ok (.iconst 1, 1) := by decide +kernel
theorem zd_Pr_writeCopy_50 : decode zb_Pr_writeCopy 50 = .ok (.iadd, 1) := by decide +kernel
theorem zd_Pr_writeCopy_51 : decode zb_Pr_writeCopy 51 = .ok (.putfield 47, 3) := by decide +kernel
theorem zd_Pr_writeCopy_54 : decode zb_Pr_writeCopy 54 = .ok (.return_, 1) := by decide +kernel
theorem zd_Pr_bitsOfBytes_0 : decode zb_Pr_bitsOfBytes 0 = .ok (.iconst 0, 1) := by decide +kernel
theorem zd_Pr_bitsOfBytes_1 : decode zb_Pr_bitsOfBytes 1 = .ok (.istore_n 2, 1) := by decide +kernel
theorem zd_Pr_bitsOfBytes_2 : decode zb_Pr_bitsOfBytes 2 = .ok (.iconst 0, 1) := by decide +kernel
theorem zd_Pr_bitsOfBytes_3 : decode zb_Pr_bitsOfBytes 3 = .ok (.istore_n 3, 1) := by decide +kernel
theorem zd_Pr_bitsOfBytes_4 : decode zb_Pr_bitsOfBytes 4 = .ok (.iload_n 3, 1) := by decide +kernel
theorem zd_Pr_bitsOfBytes_5 : decode zb_Pr_bitsOfBytes 5 = .ok (.iload_n 1, 1) := by decide +kernel
theorem zd_Pr_bitsOfBytes_6 : decode zb_Pr_bitsOfBytes 6 = .ok (.if_icmp .ge 28, 3) := by decide +kernel
theorem zd_Pr_bitsOfBytes_9 : decode zb_Pr_bitsOfBytes 9 = .ok (.iload_n 0, 1) := by decide +kernel
theorem zd_Pr_bitsOfBytes_10 : decode zb_Pr_bitsOfBytes 10 = .ok (.bipush 8, 2) := by decide +kernel
theorem zd_Pr_bitsOfBytes_12 : decode zb_Pr_bitsOfBytes 12 = .ok (.iload_n 3, 1) := by decide +kernel
theorem zd_Pr_bitsOfBytes_13 : decode zb_Pr_bitsOfBytes 13 = .ok (.imul, 1) := by decide +kernel
theorem zd_Pr_bitsOfBytes_14 : decode zb_Pr_bitsOfBytes 14 = .ok (.iushr, 1) := by decide +kernel
theorem zd_Pr_bitsOfBytes_15 : decode zb_Pr_bitsOfBytes 15 = .ok (.sipush 255, 3) := by decide +kernel
theorem zd_Pr_bitsOfBytes_18 : decode zb_Pr_bitsOfBytes 18 = .ok (.iand, 1) := by decide +kernel
theorem zd_Pr_bitsOfBytes_19 : decode zb_Pr_bitsOfBytes 19 = .ok (.ifCond .eq 9, 3) := by decide +kernel
theorem zd_Pr_bitsOfBytes_22 : decode zb_Pr_bitsOfBytes 22 = .ok (.iload_n 2, 1) := by decide +kernel
theorem zd_Pr_bitsOfBytes_23 : decode zb_Pr_bitsOfBytes 23 = .ok (.iconst 1, 1) := by decide +kernel
theorem zd_Pr_bitsOfBytes_24 : decode zb_Pr_bitsOfBytes 24 = .ok (.iload_n 3, 1) := by decide +kernel
theorem zd_Pr_bitsOfBytes_25 : decode zb_Pr_bitsOfBytes 25 = .ok (.ishl, 1) := by decide +kernel
theorem zd_Pr_bitsOfBytes_26 : decode zb_Pr_bitsOfBytes 26 = .ok (.ior, 1) := by decide +kernel
theorem zd_Pr_bitsOfBytes_27 : decode zb_Pr_bitsOfBytes 27 = .ok (.istore_n 2, 1) := by decide +kernel
theorem zd_Pr_bitsOfBytes_28 : decode zb_Pr_bitsOfBytes 28 = .ok (.iinc 3 1, 3) := by decide +kernel
theorem zd_Pr_bitsOfBytes_31 : decode zb_Pr_bitsOfBytes 31 = .ok (.goto (-27), 3) := by decide +kernel
theorem zd_Pr_bitsOfBytes_34 : decode zb_Pr_bitsOfBytes 34 = .ok (.iload_n 2, 1) := by decide +kernel
theorem zd_Pr_bitsOfBytes_35 : decode zb_Pr_bitsOfBytes 35 = .ok (.ireturn, 1) := by decide +kernel
theorem zd_Tx_addBytesNotZero_0 : decode zb_Tx_addBytesNotZero 0 = .ok (.iconst 0, 1) := by decide +kernel
theorem zd_Tx_addBytesNotZero_1 : decode zb_Tx_addBytesNotZero 1 = .ok (.istore_n 3, 1) := by decide +kernel
theorem zd_Tx_addBytesNotZero_2 : decode zb_Tx_addBytesNotZero 2 = .ok (.iload_n 3, 1) := by decide +kernel
theorem zd_Tx_addBytesNotZero_3 : decode zb_Tx_addBytesNotZero 3 = .ok (.iload_n 2, 1) := by decide +kernel
theorem zd_Tx_addBytesNotZero_4 : decode zb_Tx_addBytesNotZero 4 = .ok (.if_icmp .ge 32, 3) := by decide +kernel
theorem zd_Tx_addBytesNotZero_7 : decode zb_Tx_addBytesNotZero 7 = .ok (.iload_n 1, 1) := by decide +kernel
theorem zd_Tx_addBytesNotZero_8 : decode zb_Tx_addBytesNotZero 8 = .ok (.bipush 8, 2) := by decide +kernel
theorem zd_Tx_addBytesNotZero_10 : decode zb_Tx_addBytesNotZero 10 = .ok (.iload_n 3, 1) := by decide +kernel
theorem zd_Tx_addBytesNotZero_11 : decode zb_Tx_addBytesNotZero 11 = .ok (.imul, 1) := by decide +kernel
theorem zd_Tx_addBytesNotZero_12 : decode zb_Tx_addBytesNotZero 12 = .ok (.iushr, 1) := by decide +kernel
theorem zd_Tx_addBytesNotZero_13 : decode zb_Tx_addBytesNotZero 13 = .ok (.sipush 255, 3) := by decide +kernel
theorem zd_Tx_addBytesNotZero_16 : decode zb_Tx_addBytesNotZero 16 = .ok (.iand, 1) := by decide +kernel
theorem zd_Tx_addBytesNotZero_17 : decode zb_Tx_addBytesNotZero 17 = .ok (.istore 4, 2) := by decide +kernel
theorem zd_Tx_addBytesNotZero_19 : decode zb_Tx_addBytesNotZero 19 = .ok (.iload 4, 2) := by decide +kernel
theorem zd_Tx_addBytesNotZero_21 : decode zb_Tx_addBytesNotZero 21 = .ok (.ifCond .eq 9, 3) := by decide +kernel
theorem zd_Tx_addBytesNotZero_24 : decode zb_Tx_addBytesNotZero 24 = .ok (.aload_n 0, 1) := by decide +kernel
theorem zd_Tx_addBytesNotZero_25 : decode zb_Tx_addBytesNotZero 25 = .ok (.iload 4, 2) := by decide +kernel
theorem zd_Tx_addBytesNotZero_27 : decode zb_Tx_addBytesNotZero 27 = .ok (.invokevirtual 17, 3) := by decide +kernel
theorem zd_Tx_addBytesNotZero_30 : decode zb_Tx_addBytesNotZero 30 = .ok (.iinc 3 1, 3) := by decide +kernel
theorem zd_Tx_addBytesNotZero_33 : decode zb_Tx_addBytesNotZero 33 = .ok (.goto (-31), 3) := by decide +kernel
theorem zd_Tx_addBytesNotZero_36 : decode zb_Tx_addBytesNotZero 36 = .ok (.return_, 1) := by decide +kernel
theorem zd_Pr_count_0 : decode zb_Pr_count 0 = .ok (.iload_n 1, 1) := by decide +kernel
theorem zd_Pr_count_1 : decode zb_Pr_count 1 = .ok (.tableswitch 78 0 5 #[39, 47, 55, 63, 68, 73], 39) := by decide +kernel
theorem zd_Pr_count_40 : decode zb_Pr_count 40 = .ok (.aload_n 0, 1) := by decide +kernel
theorem zd_Pr_count_41 : decode zb_Pr_count 41 = .ok (.getfield 15, 3) := by decide +kernel
theorem zd_Pr_count_44 : decode zb_Pr_count 44 = .ok (.invokevirtual 57, 3) := by decide +kernel
theorem zd_Pr_count_47 : decode zb_Pr_count 47 = .ok (.ireturn, 1) := by decide +kernel
theorem zd_Pr_count_48 : decode zb_Pr_count 48 = .ok (.aload_n 0, 1) := by decide +kernel
theorem zd_Pr_count_49 : decode zb_Pr_count 49 = .ok (.getfield 19, 3) := by decide +kernel
theorem zd_Pr_count_52 : decode zb_Pr_count 52 = .ok (.invokevirtual 57, 3) := by decide +kernel
theorem zd_Pr_count_55 : decode zb_Pr_count 55 = .ok (.ireturn, 1) := by decide +kernel
theorem zd_Pr_count_56 : decode zb_Pr_count 56 = .ok (.aload_n 0, 1) := by decide +kernel
theorem zd_Pr_count_57 : decode zb_Pr_count 57 = .ok (.getfield 23, 3) := by decide +kernel
theorem zd_Pr_count_60 : decode zb_Pr_count 60 = .ok (.invokevirtual 57, 3) := by decide +kernel
theorem zd_Pr_count_63 : decode zb_Pr_count 63 = .ok (.ireturn, 1) := by decide +kernel
theorem zd_Pr_count_64 : decode zb_Pr_count 64 = .ok (.aload_n 0, 1) := by decide +kernel
theorem zd_Pr_count_65 : decode zb_Pr_count 65 = .ok (.getfield 47, 3) := by decide +kernel
theorem zd_Pr_count_68 : decode zb_Pr_count 68 = .ok (.ireturn, 1) := by decide +kernel
theorem zd_Pr_count_69 : decode zb_Pr_count 69 = .ok (.aload_n 0, 1) := by decide +kernel
theorem zd_Pr_count_70 : decode zb_Pr_count 70 = .ok (.getfield 51, 3) := by decide +kernel
theorem zd_Pr_count_73 : decode zb_Pr_count 73 = .ok (.ireturn, 1) := by decide +kernel
theorem zd_Pr_count_74 : decode zb_Pr_count 74 = .ok (.aload_n 0, 1) := by decide +kernel
theorem zd_Pr_count_75 : decode zb_Pr_count 75 = .ok (.getfield 54, 3) := by decide +kernel
theorem zd_Pr_count_78 : decode zb_Pr_count 78 = .ok (.ireturn, 1) := by decide +kernel
theorem zd_Pr_count_79 : decode zb_Pr_count 79 = .ok (.iconst (-1), 1) := by decide +kernel
theorem zd_Pr_count_80 : decode zb_Pr_count 80 = .ok (.ireturn, 1) := by decide +kernel
theorem zd_La_feed_0 : decode zb_La_feed 0 = .ok (.aload 6, 2) := by decide +kernel
theorem zd_La_feed_2 : decode zb_La_feed 2 = .ok (.iconst 0, 1) := by decide +kernel
theorem zd_La_feed_3 : decode zb_La_feed 3 = .ok (.aload_n 0, 1) := by decide +kernel
theorem zd_La_feed_4 : decode zb_La_feed 4 = .ok (.iload_n 1, 1) := by decide +kernel
theorem zd_La_feed_5 : decode zb_La_feed 5 = .ok (.iload_n 2, 1) := by decide +kernel
theorem zd_La_feed_6 : decode zb_La_feed 6 = .ok (.iload_n 3, 1) := by decide +kernel
theorem zd_La_feed_7 : decode zb_La_feed 7 = .ok (.iload 4, 2) := by decide +kernel
theorem zd_La_feed_9 : decode zb_La_feed 9 = .ok (.iload 5, 2) := by decide +kernel
theorem zd_La_feed_11 : decode zb_La_feed 11 = .ok (.invokevirtual 7, 3) := by decide +kernel
theorem zd_La_feed_14 : decode zb_La_feed 14 = .ok (.i2l, 1) := by decide +kernel
theorem zd_La_feed_15 : decode zb_La_feed 15 = .ok (.lastore, 1) := by decide +kernel
theorem zd_La_feed_16 : decode zb_La_feed 16 = .ok (.goto 7, 3) := by decide +kernel
theorem zd_La_feed_19 : decode zb_La_feed 19 = .ok (.astore 7, 2) := by decide +kernel
theorem zd_La_feed_21 : decode zb_La_feed 21 = .ok (.iconst 1, 1) := by decide +kernel
theorem zd_La_feed_22 : decode zb_La_feed 22 = .ok (.ireturn, 1) := by decide +kernel
theorem zd_La_feed_23 : decode zb_La_feed 23 = .ok (.iconst 0, 1) := by decide +kernel
theorem zd_La_feed_24 : decode zb_La_feed 24 = .ok (.ireturn, 1) := by decide +kernel
theorem zd_Pr_feed_0 : decode zb_Pr_feed 0 = .ok (.aload_n 0, 1) := by decide +kernel
theorem zd_Pr_feed_1 : decode zb_Pr_feed 1 = .ok (.getfield 15, 3) := by decide +kernel
theorem zd_Pr_feed_4 : decode zb_Pr_feed 4 = .ok (.invokevirtual 57, 3) := by decide +kernel
theorem zd_Pr_feed_7 : decode zb_Pr_feed 7 = .ok (.ldc 61, 2) := by decide +kernel
theorem zd_Pr_feed_9 : decode zb_Pr_feed 9 = .ok (.if_icmp .le 13, 3) := by decide +kernel
theorem zd_Pr_feed_12 : decode zb_Pr_feed 12 = .ok (.new 62, 3) := by decide +kernel
theorem zd_Pr_feed_15 : decode zb_Pr_feed 15 = .ok (.dup, 1) := by decide +kernel
theorem zd_Pr_feed_16 : decode zb_Pr_feed 16 = .ok (.ldc 64, 2) := by decide +kernel
theorem zd_Pr_feed_18 : decode zb_Pr_feed 18 = .ok (.invokespecial 66, 3) := by decide +kernel
theorem zd_Pr_feed_21 : decode zb_Pr_feed 21 = .ok (.athrow, 1) := by decide +kernel
theorem zd_Pr_feed_22 : decode zb_Pr_feed 22 = .ok (.aload_n 0, 1) := by decide +kernel
theorem zd_Pr_feed_23 : decode zb_Pr_feed 23 = .ok (.getfield 15, 3) := by decide +kernel
theorem zd_Pr_feed_26 : decode zb_Pr_feed 26 = .ok (.iload_n 1, 1) := by decide +kernel
theorem zd_Pr_feed_27 : decode zb_Pr_feed 27 = .ok (.invokevirtual 69, 3) := by decide +kernel
theorem zd_Pr_feed_30 : decode zb_Pr_feed 30 = .ok (.aload_n 0, 1) := by decide +kernel
theorem zd_Pr_feed_31 : decode zb_Pr_feed 31 = .ok (.getfield 15, 3) := by decide +kernel
theorem zd_Pr_feed_34 : decode zb_Pr_feed 34 = .ok (.iload_n 2, 1) := by decide +kernel
theorem zd_Pr_feed_35 : decode zb_Pr_feed 35 = .ok (.invokevirtual 69, 3) := by decide +kernel
theorem zd_Pr_feed_38 : decode zb_Pr_feed 38 = .ok (.aload_n 0, 1) := by decide +kernel
theorem zd_Pr_feed_39 : decode zb_Pr_feed 39 = .ok (.getfield 15, 3) := by decide +kernel
theorem zd_Pr_feed_42 : decode zb_Pr_feed 42 = .ok (.iload_n 3, 1) := by decide +kernel
theorem zd_Pr_feed_43 : decode zb_Pr_feed 43 = .ok (.invokevirtual 69, 3) := by decide +kernel
theorem zd_Pr_feed_46 : decode zb_Pr_feed 46 = .ok (.aload_n 0, 1) := by decide +kernel
theorem zd_Pr_feed_47 : decode zb_Pr_feed 47 = .ok (.getfield 15, 3) := by decide +kernel
theorem zd_Pr_feed_50 : decode zb_Pr_feed 50 = .ok (.iload 4, 2) := by decide +kernel
theorem zd_Pr_feed_52 : decode zb_Pr_feed 52 = .ok (.invokevirtual 69, 3) := by decide +kernel
theorem zd_Pr_feed_55 : decode zb_Pr_feed 55 = .ok (.aload_n 0, 1) := by decide +kernel
theorem zd_Pr_feed_56 : decode zb_Pr_feed 56 = .ok (.getfield 15, 3) := by decide +kernel
theorem zd_Pr_feed_59 : decode zb_Pr_feed 59 = .ok (.iload 5, 2) := by decide +kernel
theorem zd_Pr_feed_61 : decode zb_Pr_feed 61 = .ok (.invokevirtual 69, 3) := by decide +kernel
theorem zd_Pr_feed_64 : decode zb_Pr_feed 64 = .ok (.aload_n 0, 1) := by decide +kernel
theorem zd_Pr_feed_65 : decode zb_Pr_feed 65 = .ok (.getfield 15, 3) := by decide +kernel
theorem zd_Pr_feed_68 : decode zb_Pr_feed 68 = .ok (.invokevirtual 57, 3) := by decide +kernel
theorem zd_Pr_feed_71 : decode zb_Pr_feed 71 = .ok (.ireturn, 1) := by decide +kernel
theorem zd_Tx_addFour_0 : decode zb_Tx_addFour 0 = .ok (.aload_n 0, 1) := by decide +kernel
theorem zd_Tx_addFour_1 : decode zb_Tx_addFour 1 = .ok (.iload_n 1, 1) := by decide +kernel
theorem zd_Tx_addFour_2 : decode zb_Tx_addFour 2 = .ok (.bipush 24, 2) := by decide +kernel
theorem zd_Tx_addFour_4 : decode zb_Tx_addFour 4 = .ok (.iushr, 1) := by decide +kernel
theorem zd_Tx_addFour_5 : decode zb_Tx_addFour 5 = .ok (.invokevirtual 17, 3) := by decide +kernel
theorem zd_Tx_addFour_8 : decode zb_Tx_addFour 8 = .ok (.aload_n 0, 1) := by decide +kernel
theorem zd_Tx_addFour_9 : decode zb_Tx_addFour 9 = .ok (.iload_n 1, 1) := by decide +kernel
theorem zd_Tx_addFour_10 : decode zb_Tx_addFour 10 = .ok (.bipush 16, 2) := by decide +kernel
theorem zd_Tx_addFour_12 : decode zb_Tx_addFour 12 = .ok (.iushr, 1) := by decide +kernel
theorem zd_Tx_addFour_13 : decode zb_Tx_addFour 13 = .ok (.invokevirtual 17, 3) := by decide +kernel
theorem zd_Tx_addFour_16 : decode zb_Tx_addFour 16 = .ok (.aload_n 0, 1) := by decide +kernel
theorem zd_Tx_addFour_17 : decode zb_Tx_addFour 17 = .ok (.iload_n 1, 1) := by decide +kernel
theorem zd_Tx_addFour_18 : decode zb_Tx_addFour 18 = .ok (.bipush 8, 2) := by decide +kernel
theorem zd_Tx_addFour_20 : decode zb_Tx_addFour 20 = .ok (.iushr, 1) := by decide +kernel
theorem zd_Tx_addFour_21 : decode zb_Tx_addFour 21 = .ok (.invokevirtual 17, 3) := by decide +kernel
theorem zd_Tx_addFour_24 : decode zb_Tx_addFour 24 = .ok (.aload_n 0, 1) := by decide +kernel
theorem zd_Tx_addFour_25 : decode zb_Tx_addFour 25 = .ok (.iload_n 1, 1) := by decide +kernel
theorem zd_Tx_addFour_26 : decode zb_Tx_addFour 26 = .ok (.invokevirtual 17, 3) := by decide +kernel
theorem zd_Tx_addFour_29 : decode zb_Tx_addFour 29 = .ok (.return_, 1) := by decide +kernel
theorem zd_La_end_0 : decode zb_La_end 0 = .ok (.aload_n 2, 1) := by decide +kernel
theorem zd_La_end_1 : decode zb_La_end 1 = .ok (.iconst 0, 1) := by decide +kernel
theorem zd_La_end_2 : decode zb_La_end 2 = .ok (.aload_n 0, 1) := by decide +kernel
theorem zd_La_end_3 : decode zb_La_end 3 = .ok (.iload_n 1, 1) := by decide +kernel
theorem zd_La_end_4 : decode zb_La_end 4 = .ok (.invokevirtual 15, 3) := by decide +kernel
theorem zd_La_end_7 : decode zb_La_end 7 = .ok (.i2l, 1) := by decide +kernel
theorem zd_La_end_8 : decode zb_La_end 8 = .ok (.lastore, 1) := by decide +kernel
theorem zd_La_end_9 : decode zb_La_end 9 = .ok (.goto 6, 3) := by decide +kernel
theorem zd_La_end_12 : decode zb_La_end 12 = .ok (.astore_n 3, 1) := by decide +kernel
theorem zd_La_end_13 : decode zb_La_end 13 = .ok (.iconst 1, 1) := by decide +kernel
theorem zd_La_end_14 : decode zb_La_end 14 = .ok (.ireturn, 1) := by decide +kernel
theorem zd_La_end_15 : decode zb_La_end 15 = .ok (.iconst 0, 1) := by decide +kernel
theorem zd_La_end_16 : decode zb_La_end 16 = .ok (.ireturn, 1) := by decide +kernel
end
section
theorem zd_Pr_end_0 : decode zb_Pr_end 0 = .ok (.iload_n 1, 1) := by decide +kernel
theorem zd_Pr_end_1 : decode zb_Pr_end 1 = .ok (.ifCond .lt 14, 3) := by decide +kernel
theorem zd_Pr_end_4 : decode zb_Pr_end 4 = .ok (.iload_n 1, 1) := by decide +kernel
theorem zd_Pr_end_5 : decode zb_Pr_end 5 = .ok (.aload_n 0, 1) := by decide +kernel
theorem zd_Pr_end_6 : decode zb_Pr_end 6 = .ok (.getfield 15, 3) := by decide +kernel
theorem zd_Pr_end_9 : decode zb_Pr_end 9 = .ok (.invokevirtual 57, 3) := by decide +kernel
theorem zd_Pr_end_12 : decode zb_Pr_end 12 = .ok (.if_icmp .le 13, 3) := by decide +kernel
theorem zd_Pr_end_15 : decode zb_Pr_end 15 = .ok (.new 72, 3) := by decide +kernel
theorem zd_Pr_end_18 : decode zb_Pr_end 18 = .ok (.dup, 1) := by decide +kernel
theorem zd_Pr_end_19 : decode zb_Pr_end 19 = .ok (.ldc 74, 2) := by decide +kernel
theorem zd_Pr_end_21 : decode zb_Pr_end 21 = .ok (.invokespecial 76, 3) := by decide +kernel
theorem zd_Pr_end_24 : decode zb_Pr_end 24 = .ok (.athrow, 1) := by decide +kernel
theorem zd_Pr_end_25 : decode zb_Pr_end 25 = .ok (.aload_n 0, 1) := by decide +kernel
theorem zd_Pr_end_26 : decode zb_Pr_end 26 = .ok (.getfield 15, 3) := by decide +kernel
theorem zd_Pr_end_29 : decode zb_Pr_end 29 = .ok (.aload_n 0, 1) := by decide +kernel
theorem zd_Pr_end_30 : decode zb_Pr_end 30 = .ok (.getfield 15, 3) := by decide +kernel
theorem zd_Pr_end_33 : decode zb_Pr_end 33 = .ok (.invokevirtual 57, 3) := by decide +kernel
theorem zd_Pr_end_36 : decode zb_Pr_end 36 = .ok (.iload_n 1, 1) := by decide +kernel
theorem zd_Pr_end_37 : decode zb_Pr_end 37 = .ok (.isub, 1) := by decide +kernel
theorem zd_Pr_end_38 : decode zb_Pr_end 38 = .ok (.invokevirtual 77, 3) := by decide +kernel
theorem zd_Pr_end_41 : decode zb_Pr_end 41 = .ok (.aload_n 0, 1) := by decide +kernel
theorem zd_Pr_end_42 : decode zb_Pr_end 42 = .ok (.getfield 15, 3) := by decide +kernel
theorem zd_Pr_end_45 : decode zb_Pr_end 45 = .ok (.invokevirtual 57, 3) := by decide +kernel
theorem zd_Pr_end_48 : decode zb_Pr_end 48 = .ok (.ireturn, 1) := by decide +kernel
theorem zd_La_change_0 : decode zb_La_change 0 = .ok (.aload_n 0, 1) := by decide +kernel
theorem zd_La_change_1 : decode zb_La_change 1 = .ok (.iload_n 1, 1) := by decide +kernel
theorem zd_La_change_2 : decode zb_La_change 2 = .ok (.iload_n 2, 1) := by decide +kernel
theorem zd_La_change_3 : decode zb_La_change 3 = .ok (.invokevirtual 21, 3) := by decide +kernel
theorem zd_La_change_6 : decode zb_La_change 6 = .ok (.goto 6, 3) := by decide +kernel
theorem zd_La_change_9 : decode zb_La_change 9 = .ok (.astore_n 3, 1) := by decide +kernel
theorem zd_La_change_10 : decode zb_La_change 10 = .ok (.iconst 1, 1) := by decide +kernel
theorem zd_La_change_11 : decode zb_La_change 11 = .ok (.ireturn, 1) := by decide +kernel
theorem zd_La_change_12 : decode zb_La_change 12 = .ok (.iconst 0, 1) := by decide +kernel
theorem zd_La_change_13 : decode zb_La_change 13 = .ok (.ireturn, 1) := by decide +kernel
theorem zd_Pr_change_0 : decode zb_Pr_change 0 = .ok (.aload_n 0, 1) := by decide +kernel
theorem zd_Pr_change_1 : decode zb_Pr_change 1 = .ok (.getfield 15, 3) := by decide +kernel
theorem zd_Pr_change_4 : decode zb_Pr_change 4 = .ok (.iload_n 1, 1) := by decide +kernel
theorem zd_Pr_change_5 : decode zb_Pr_change 5 = .ok (.invokevirtual 80, 3) := by decide +kernel
theorem zd_Pr_change_8 : decode zb_Pr_change 8 = .ok (.ifCond .ne 13, 3) := by decide +kernel
theorem zd_Pr_change_11 : decode zb_Pr_change 11 = .ok (.new 72, 3) := by decide +kernel
theorem zd_Pr_change_14 : decode zb_Pr_change 14 = .ok (.dup, 1) := by decide +kernel
theorem zd_Pr_change_15 : decode zb_Pr_change 15 = .ok (.ldc 84, 2) := by decide +kernel
theorem zd_Pr_change_17 : decode zb_Pr_change 17 = .ok (.invokespecial 76, 3) := by decide +kernel
theorem zd_Pr_change_20 : decode zb_Pr_change 20 = .ok (.athrow, 1) := by decide +kernel
theorem zd_Pr_change_21 : decode zb_Pr_change 21 = .ok (.iload_n 2, 1) := by decide +kernel
theorem zd_Pr_change_22 : decode zb_Pr_change 22 = .ok (.ifCond .lt 10, 3) := by decide +kernel
theorem zd_Pr_change_25 : decode zb_Pr_change 25 = .ok (.iload_n 2, 1) := by decide +kernel
theorem zd_Pr_change_26 : decode zb_Pr_change 26 = .ok (.sipush 255, 3) := by decide +kernel
theorem zd_Pr_change_29 : decode zb_Pr_change 29 = .ok (.if_icmp .le 13, 3) := by decide +kernel
theorem zd_Pr_change_32 : decode zb_Pr_change 32 = .ok (.new 72, 3) := by decide +kernel
theorem zd_Pr_change_35 : decode zb_Pr_change 35 = .ok (.dup, 1) := by decide +kernel
theorem zd_Pr_change_36 : decode zb_Pr_change 36 = .ok (.ldc 86, 2) := by decide +kernel
theorem zd_Pr_change_38 : decode zb_Pr_change 38 = .ok (.invokespecial 76, 3) := by decide +kernel
theorem zd_Pr_change_41 : decode zb_Pr_change 41 = .ok (.athrow, 1) := by decide +kernel
theorem zd_Pr_change_42 : decode zb_Pr_change 42 = .ok (.aload_n 0, 1) := by decide +kernel
theorem zd_Pr_change_43 : decode zb_Pr_change 43 = .ok (.getfield 15, 3) := by decide +kernel
theorem zd_Pr_change_46 : decode zb_Pr_change 46 = .ok (.iload_n 1, 1) := by decide +kernel
theorem zd_Pr_change_47 : decode zb_Pr_change 47 = .ok (.iload_n 2, 1) := by decide +kernel
theorem zd_Pr_change_48 : decode zb_Pr_change 48 = .ok (.invokevirtual 88, 3) := by decide +kernel
theorem zd_Pr_change_51 : decode zb_Pr_change 51 = .ok (.return_, 1) := by decide +kernel
theorem zd_Tx_has_0 : decode zb_Tx_has 0 = .ok (.iload_n 1, 1) := by decide +kernel
theorem zd_Tx_has_1 : decode zb_Tx_has 1 = .ok (.ifCond .lt 15, 3) := by decide +kernel
theorem zd_Tx_has_4 : decode zb_Tx_has 4 = .ok (.iload_n 1, 1) := by decide +kernel
theorem zd_Tx_has_5 : decode zb_Tx_has 5 = .ok (.aload_n 0, 1) := by decide +kernel
theorem zd_Tx_has_6 : decode zb_Tx_has 6 = .ok (.getfield 7, 3) := by decide +kernel
theorem zd_Tx_has_9 : decode zb_Tx_has 9 = .ok (.if_icmp .ge 7, 3) := by decide +kernel
theorem zd_Tx_has_12 : decode zb_Tx_has 12 = .ok (.iconst 1, 1) := by decide +kernel
theorem zd_Tx_has_13 : decode zb_Tx_has 13 = .ok (.goto 4, 3) := by decide +kernel
theorem zd_Tx_has_16 : decode zb_Tx_has 16 = .ok (.iconst 0, 1) := by decide +kernel
theorem zd_Tx_has_17 : decode zb_Tx_has 17 = .ok (.ireturn, 1) := by decide +kernel
theorem zd_Tx_flip_0 : decode zb_Tx_flip 0 = .ok (.aload_n 0, 1) := by decide +kernel
theorem zd_Tx_flip_1 : decode zb_Tx_flip 1 = .ok (.getfield 13, 3) := by decide +kernel
theorem zd_Tx_flip_4 : decode zb_Tx_flip 4 = .ok (.iload_n 1, 1) := by decide +kernel
theorem zd_Tx_flip_5 : decode zb_Tx_flip 5 = .ok (.dup2, 1) := by decide +kernel
theorem zd_Tx_flip_6 : decode zb_Tx_flip 6 = .ok (.baload, 1) := by decide +kernel
theorem zd_Tx_flip_7 : decode zb_Tx_flip 7 = .ok (.iload_n 2, 1) := by decide +kernel
theorem zd_Tx_flip_8 : decode zb_Tx_flip 8 = .ok (.i2b, 1) := by decide +kernel
theorem zd_Tx_flip_9 : decode zb_Tx_flip 9 = .ok (.ixor, 1) := by decide +kernel
theorem zd_Tx_flip_10 : decode zb_Tx_flip 10 = .ok (.i2b, 1) := by decide +kernel
theorem zd_Tx_flip_11 : decode zb_Tx_flip 11 = .ok (.bastore, 1) := by decide +kernel
theorem zd_Tx_flip_12 : decode zb_Tx_flip 12 = .ok (.return_, 1) := by decide +kernel
theorem zd_La_use_0 : decode zb_La_use 0 = .ok (.aload_n 1, 1) := by decide +kernel
theorem zd_La_use_1 : decode zb_La_use 1 = .ok (.iconst 0, 1) := by decide +kernel
theorem zd_La_use_2 : decode zb_La_use 2 = .ok (.aload_n 0, 1) := by decide +kernel
theorem zd_La_use_3 : decode zb_La_use 3 = .ok (.invokevirtual 25, 3) := by decide +kernel
theorem zd_La_use_6 : decode zb_La_use 6 = .ok (.i2l, 1) := by decide +kernel
theorem zd_La_use_7 : decode zb_La_use 7 = .ok (.lastore, 1) := by decide +kernel
theorem zd_La_use_8 : decode zb_La_use 8 = .ok (.goto 6, 3) := by decide +kernel
theorem zd_La_use_11 : decode zb_La_use 11 = .ok (.astore_n 2, 1) := by decide +kernel
theorem zd_La_use_12 : decode zb_La_use 12 = .ok (.iconst 1, 1) := by decide +kernel
theorem zd_La_use_13 : decode zb_La_use 13 = .ok (.ireturn, 1) := by decide +kernel
theorem zd_La_use_14 : decode zb_La_use 14 = .ok (.iconst 0, 1) := by decide +kernel
theorem zd_La_use_15 : decode zb_La_use 15 = .ok (.ireturn, 1) := by decide +kernel
theorem zd_Pr_use_0 : decode zb_Pr_use 0 = .ok (.aload_n 0, 1) := by decide +kernel
theorem zd_Pr_use_1 : decode zb_Pr_use 1 = .ok (.getfield 43, 3) := by decide +kernel
theorem zd_Pr_use_4 : decode zb_Pr_use 4 = .ok (.aload_n 0, 1) := by decide +kernel
theorem zd_Pr_use_5 : decode zb_Pr_use 5 = .ok (.getfield 15, 3) := by decide +kernel
theorem zd_Pr_use_8 : decode zb_Pr_use 8 = .ok (.aload_n 0, 1) := by decide +kernel
theorem zd_Pr_use_9 : decode zb_Pr_use 9 = .ok (.getfield 19, 3) := by decide +kernel
theorem zd_Pr_use_12 : decode zb_Pr_use 12 = .ok (.aload_n 0, 1) := by decide +kernel
theorem zd_Pr_use_13 : decode zb_Pr_use 13 = .ok (.getfield 26, 3) := by decide +kernel
theorem zd_Pr_use_16 : decode zb_Pr_use 16 = .ok (.invokevirtual 110, 3) := by decide +kernel
theorem zd_Pr_use_19 : decode zb_Pr_use 19 = .ok (.ifCond .ne 23, 3) := by decide +kernel
theorem zd_Pr_use_22 : decode zb_Pr_use 22 = .ok (.aload_n 0, 1) := by decide +kernel
theorem zd_Pr_use_23 : decode zb_Pr_use 23 = .ok (.dup, 1) := by decide +kernel
theorem zd_Pr_use_24 : decode zb_Pr_use 24 = .ok (.getfield 54, 3) := by decide +kernel
theorem zd_Pr_use_27 : decode zb_Pr_use 27 = .ok (.iconst 1, 1) := by decide +kernel
theorem zd_Pr_use_28 : decode zb_Pr_use 28 = .ok (.iadd, 1) := by decide +kernel
theorem zd_Pr_use_29 : decode zb_Pr_use 29 = .ok (.putfield 54, 3) := by decide +kernel
theorem zd_Pr_use_32 : decode zb_Pr_use 32 = .ok (.new 114, 3) := by decide +kernel
theorem zd_Pr_use_35 : decode zb_Pr_use 35 = .ok (.dup, 1) := by decide +kernel
theorem zd_Pr_use_36 : decode zb_Pr_use 36 = .ok (.ldc 116, 2) := by decide +kernel
theorem zd_Pr_use_38 : decode zb_Pr_use 38 = .ok (.invokespecial 118, 3) := by decide +kernel
theorem zd_Pr_use_41 : decode zb_Pr_use 41 = .ok (.athrow, 1) := by decide +kernel
theorem zd_Pr_use_42 : decode zb_Pr_use 42 = .ok (.aload_n 0, 1) := by decide +kernel
theorem zd_Pr_use_43 : decode zb_Pr_use 43 = .ok (.getfield 23, 3) := by decide +kernel
theorem zd_Pr_use_46 : decode zb_Pr_use 46 = .ok (.astore_n 1, 1) := by decide +kernel
theorem zd_Pr_use_47 : decode zb_Pr_use 47 = .ok (.aload_n 0, 1) := by decide +kernel
theorem zd_Pr_use_48 : decode zb_Pr_use 48 = .ok (.aload_n 0, 1) := by decide +kernel
theorem zd_Pr_use_49 : decode zb_Pr_use 49 = .ok (.getfield 26, 3) := by decide +kernel
theorem zd_Pr_use_52 : decode zb_Pr_use 52 = .ok (.putfield 23, 3) := by decide +kernel
theorem zd_Pr_use_55 : decode zb_Pr_use 55 = .ok (.aload_n 0, 1) := by decide +kernel
theorem zd_Pr_use_56 : decode zb_Pr_use 56 = .ok (.aload_n 1, 1) := by decide +kernel
theorem zd_Pr_use_57 : decode zb_Pr_use 57 = .ok (.putfield 26, 3) := by decide +kernel
theorem zd_Pr_use_60 : decode zb_Pr_use 60 = .ok (.aload_n 0, 1) := by decide +kernel
theorem zd_Pr_use_61 : decode zb_Pr_use 61 = .ok (.getfield 23, 3) := by decide +kernel
theorem zd_Pr_use_64 : decode zb_Pr_use 64 = .ok (.invokevirtual 57, 3) := by decide +kernel
theorem zd_Pr_use_67 : decode zb_Pr_use 67 = .ok (.ireturn, 1) := by decide +kernel
theorem zd_De_isRead_0 : decode zb_De_isRead 0 = .ok (.aload_n 3, 1) := by decide +kernel
theorem zd_De_isRead_1 : decode zb_De_isRead 1 = .ok (.iconst 0, 1) := by decide +kernel
theorem zd_De_isRead_2 : decode zb_De_isRead 2 = .ok (.invokevirtual 15, 3) := by decide +kernel
theorem zd_De_isRead_5 : decode zb_De_isRead 5 = .ok (.aload_n 0, 1) := by decide +kernel
theorem zd_De_isRead_6 : decode zb_De_isRead 6 = .ok (.iconst 0, 1) := by decide +kernel
theorem zd_De_isRead_7 : decode zb_De_isRead 7 = .ok (.putfield 9, 3) := by decide +kernel
theorem zd_De_isRead_10 : decode zb_De_isRead 10 = .ok (.aload_n 0, 1) := by decide +kernel
theorem zd_De_isRead_11 : decode zb_De_isRead 11 = .ok (.aload_n 1, 1) := by decide +kernel
theorem zd_De_isRead_12 : decode zb_De_isRead 12 = .ok (.invokevirtual 21, 3) := by decide +kernel
theorem zd_De_isRead_15 : decode zb_De_isRead 15 = .ok (.aload_n 2, 1) := by decide +kernel
theorem zd_De_isRead_16 : decode zb_De_isRead 16 = .ok (.invokevirtual 25, 3) := by decide +kernel
theorem zd_De_isRead_19 : decode zb_De_isRead 19 = .ok (.if_icmp .eq 5, 3) := by decide +kernel
theorem zd_De_isRead_22 : decode zb_De_isRead 22 = .ok (.iconst 0, 1) := by decide +kernel
theorem zd_De_isRead_23 : decode zb_De_isRead 23 = .ok (.ireturn, 1) := by decide +kernel
theorem zd_De_isRead_24 : decode zb_De_isRead 24 = .ok (.aload_n 0, 1) := by decide +kernel
theorem zd_De_isRead_25 : decode zb_De_isRead 25 = .ok (.aload_n 1, 1) := by decide +kernel
theorem zd_De_isRead_26 : decode zb_De_isRead 26 = .ok (.invokevirtual 21, 3) := by decide +kernel
theorem zd_De_isRead_29 : decode zb_De_isRead 29 = .ok (.istore 4, 2) := by decide +kernel
theorem zd_De_isRead_31 : decode zb_De_isRead 31 = .ok (.iload 4, 2) := by decide +kernel
theorem zd_De_isRead_33 : decode zb_De_isRead 33 = .ok (.iconst (-1), 1) := by decide +kernel
theorem zd_De_isRead_34 : decode zb_De_isRead 34 = .ok (.if_icmp .eq 10, 3) := by decide +kernel
theorem zd_De_isRead_37 : decode zb_De_isRead 37 = .ok (.iload 4, 2) := by decide +kernel
theorem zd_De_isRead_39 : decode zb_De_isRead 39 = .ok (.ldc 29, 2) := by decide +kernel
theorem zd_De_isRead_41 : decode zb_De_isRead 41 = .ok (.if_icmp .le 5, 3) := by decide +kernel
theorem zd_De_isRead_44 : decode zb_De_isRead 44 = .ok (.iconst 0, 1) := by decide +kernel
theorem zd_De_isRead_45 : decode zb_De_isRead 45 = .ok (.ireturn, 1) := by decide +kernel
theorem zd_De_isRead_46 : decode zb_De_isRead 46 = .ok (.aload_n 0, 1) := by decide +kernel
theorem zd_De_isRead_47 : decode zb_De_isRead 47 = .ok (.getfield 9, 3) := by decide +kernel
theorem zd_De_isRead_50 : decode zb_De_isRead 50 = .ok (.aload_n 1, 1) := by decide +kernel
theorem zd_De_isRead_51 : decode zb_De_isRead 51 = .ok (.invokevirtual 25, 3) := by decide +kernel
theorem zd_De_isRead_54 : decode zb_De_isRead 54 = .ok (.if_icmp .ge 67, 3) := by decide +kernel
theorem zd_De_isRead_57 : decode zb_De_isRead 57 = .ok (.aload_n 1, 1) := by decide +kernel
theorem zd_De_isRead_58 : decode zb_De_isRead 58 = .ok (.aload_n 0, 1) := by decide +kernel
theorem zd_De_isRead_59 : decode zb_De_isRead 59 = .ok (.getfield 9, 3) := by decide +kernel
theorem zd_De_isRead_62 : decode zb_De_isRead 62 = .ok (.invokevirtual 30, 3) := by decide +kernel
theorem zd_De_isRead_65 : decode zb_De_isRead 65 = .ok (.istore 5, 2) := by decide +kernel
theorem zd_De_isRead_67 : decode zb_De_isRead 67 = .ok (.aload_n 0, 1) := by decide +kernel
theorem zd_De_isRead_68 : decode zb_De_isRead 68 = .ok (.dup, 1) := by decide +kernel
theorem zd_De_isRead_69 : decode zb_De_isRead 69 = .ok (.getfield 9, 3) := by decide +kernel
theorem zd_De_isRead_72 : decode zb_De_isRead 72 = .ok (.iconst 1, 1) := by decide +kernel
theorem zd_De_isRead_73 : decode zb_De_isRead 73 = .ok (.iadd, 1) := by decide +kernel
theorem zd_De_isRead_74 : decode zb_De_isRead 74 = .ok (.putfield 9, 3) := by decide +kernel
theorem zd_De_isRead_77 : decode zb_De_isRead 77 = .ok (.iload 5, 2) := by decide +kernel
theorem zd_De_isRead_79 : decode zb_De_isRead 79 = .ok (.sipush 128, 3) := by decide +kernel
theorem zd_De_isRead_82 : decode zb_De_isRead 82 = .ok (.if_icmp .lt 17, 3) := by decide +kernel
theorem zd_De_isRead_85 : decode zb_De_isRead 85 = .ok (.aload_n 0, 1) := by decide +kernel
theorem zd_De_isRead_86 : decode zb_De_isRead 86 = .ok (.aload_n 1, 1) := by decide +kernel
theorem zd_De_isRead_87 : decode zb_De_isRead 87 = .ok (.iload 5, 2) := by decide +kernel
theorem zd_De_isRead_89 : decode zb_De_isRead 89 = .ok (.aload_n 2, 1) := by decide +kernel
theorem zd_De_isRead_90 : decode zb_De_isRead 90 = .ok (.aload_n 3, 1) := by decide +kernel
theorem zd_De_isRead_91 : decode zb_De_isRead 91 = .ok (.iload 4, 2) := by decide +kernel
theorem zd_De_isRead_93 : decode zb_De_isRead 93 = .ok (.invokevirtual 34, 3) := by decide +kernel
theorem zd_De_isRead_96 : decode zb_De_isRead 96 = .ok (.goto 13, 3) := by decide +kernel
theorem zd_De_isRead_99 : decode zb_De_isRead 99 = .ok (.aload_n 0, 1) := by decide +kernel
theorem zd_De_isRead_100 : decode zb_De_isRead 100 = .ok (.aload_n 1, 1) := by decide +kernel
theorem zd_De_isRead_101 : decode zb_De_isRead 101 = .ok (.iload 5, 2) := by decide +kernel
theorem zd_De_isRead_103 : decode zb_De_isRead 103 = .ok (.aload_n 3, 1) := by decide +kernel
theorem zd_De_isRead_104 : decode zb_De_isRead 104 = .ok (.iload 4, 2) := by decide +kernel
theorem zd_De_isRead_106 : decode zb_De_isRead 106 = .ok (.invokevirtual 38, 3) := by decide +kernel
theorem zd_De_isRead_109 : decode zb_De_isRead 109 = .ok (.istore 6, 2) := by decide +kernel
theorem zd_De_isRead_111 : decode zb_De_isRead 111 = .ok (.iload 6, 2) := by decide +kernel
theorem zd_De_isRead_113 : decode zb_De_isRead 113 = .ok (.ifCond .ne 5, 3) := by decide +kernel
theorem zd_De_isRead_116 : decode zb_De_isRead 116 = .ok (.iconst 0, 1) := by decide +kernel
theorem zd_De_isRead_117 : decode zb_De_isRead 117 = .ok (.ireturn, 1) := by decide +kernel
theorem zd_De_isRead_118 : decode zb_De_isRead 118 = .ok (.goto (-72), 3) := by decide +kernel
theorem zd_De_isRead_121 : decode zb_De_isRead 121 = .ok (.aload_n 3, 1) := by decide +kernel
theorem zd_De_isRead_122 : decode zb_De_isRead 122 = .ok (.invokevirtual 25, 3) := by decide +kernel
theorem zd_De_isRead_125 : decode zb_De_isRead 125 = .ok (.iload 4, 2) := by decide +kernel
theorem zd_De_isRead_127 : decode zb_De_isRead 127 = .ok (.if_icmp .ne 7, 3) := by decide +kernel
theorem zd_De_isRead_130 : decode zb_De_isRead 130 = .ok (.iconst 1, 1) := by decide +kernel
theorem zd_De_isRead_131 : decode zb_De_isRead 131 = .ok (.goto 4, 3) := by decide +kernel
theorem zd_De_isRead_134 : decode zb_De_isRead 134 = .ok (.iconst 0, 1) := by decide +kernel
theorem zd_De_isRead_135 : decode zb_De_isRead 135 = .ok (.ireturn, 1) := by decide +kernel
theorem zd_De_readNumber_0 : decode zb_De_readNumber 0 = .ok (.iconst 0, 1) := by decide +kernel
theorem zd_De_readNumber_1 : decode zb_De_readNumber 1 = .ok (.istore_n 2, 1) := by decide +kernel
theorem zd_De_readNumber_2 : decode zb_De_readNumber 2 = .ok (.iconst 0, 1) := by decide +kernel
theorem zd_De_readNumber_3 : decode zb_De_readNumber 3 = .ok (.istore_n 3, 1) := by decide +kernel
theorem zd_De_readNumber_4 : decode zb_De_readNumber 4 = .ok (.iload_n 3, 1) := by decide +kernel
theorem zd_De_readNumber_5 : decode zb_De_readNumber 5 = .ok (.iconst 4, 1) := by decide +kernel
theorem zd_De_readNumber_6 : decode zb_De_readNumber 6 = .ok (.if_icmp .ge 63, 3) := by decide +kernel
theorem zd_De_readNumber_9 : decode zb_De_readNumber 9 = .ok (.aload_n 0, 1) := by decide +kernel
theorem zd_De_readNumber_10 : decode zb_De_readNumber 10 = .ok (.getfield 9, 3) := by decide +kernel
theorem zd_De_readNumber_13 : decode zb_De_readNumber 13 = .ok (.aload_n 1, 1) := by decide +kernel
theorem zd_De_readNumber_14 : decode zb_De_readNumber 14 = .ok (.invokevirtual 25, 3) := by decide +kernel
theorem zd_De_readNumber_17 : decode zb_De_readNumber 17 = .ok (.if_icmp .ge 52, 3) := by decide +kernel
theorem zd_De_readNumber_20 : decode zb_De_readNumber 20 = .ok (.aload_n 1, 1) := by decide +kernel
theorem zd_De_readNumber_21 : decode zb_De_readNumber 21 = .ok (.aload_n 0, 1) := by decide +kernel
theorem zd_De_readNumber_22 : decode zb_De_readNumber 22 = .ok (.getfield 9, 3) := by decide +kernel
theorem zd_De_readNumber_25 : decode zb_De_readNumber 25 = .ok (.invokevirtual 30, 3) := by decide +kernel
theorem zd_De_readNumber_28 : decode zb_De_readNumber 28 = .ok (.istore 4, 2) := by decide +kernel
theorem zd_De_readNumber_30 : decode zb_De_readNumber 30 = .ok (.aload_n 0, 1) := by decide +kernel
theorem zd_De_readNumber_31 : decode zb_De_readNumber 31 = .ok (.dup, 1) := by decide +kernel
theorem zd_De_readNumber_32 : decode zb_De_readNumber 32 = .ok (.getfield 9, 3) := by decide +kernel
theorem zd_De_readNumber_35 : decode zb_De_readNumber 35 = .ok (.iconst 1, 1) := by decide +kernel
theorem zd_De_readNumber_36 : decode zb_De_readNumber 36 = .ok (.iadd, 1) := by decide +kernel
theorem zd_De_readNumber_37 : decode zb_De_readNumber 37 = .ok (.putfield 9, 3) := by decide +kernel
theorem zd_De_readNumber_40 : decode zb_De_readNumber 40 = .ok (.iload_n 2, 1) := by decide +kernel
theorem zd_De_readNumber_41 : decode zb_De_readNumber 41 = .ok (.iload 4, 2) := by decide +kernel
theorem zd_De_readNumber_43 : decode zb_De_readNumber 43 = .ok (.bipush 127, 2) := by decide +kernel
theorem zd_De_readNumber_45 : decode zb_De_readNumber 45 = .ok (.iand, 1) := by decide +kernel
theorem zd_De_readNumber_46 : decode zb_De_readNumber 46 = .ok (.bipush 7, 2) := by decide +kernel
theorem zd_De_readNumber_48 : decode zb_De_readNumber 48 = .ok (.iload_n 3, 1) := by decide +kernel
theorem zd_De_readNumber_49 : decode zb_De_readNumber 49 = .ok (.imul, 1) := by decide +kernel
theorem zd_De_readNumber_50 : decode zb_De_readNumber 50 = .ok (.ishl, 1) := by decide +kernel
theorem zd_De_readNumber_51 : decode zb_De_readNumber 51 = .ok (.ior, 1) := by decide +kernel
theorem zd_De_readNumber_52 : decode zb_De_readNumber 52 = .ok (.istore_n 2, 1) := by decide +kernel
theorem zd_De_readNumber_53 : decode zb_De_readNumber 53 = .ok (.iload 4, 2) := by decide +kernel
theorem zd_De_readNumber_55 : decode zb_De_readNumber 55 = .ok (.sipush 128, 3) := by decide +kernel
theorem zd_De_readNumber_58 : decode zb_De_readNumber 58 = .ok (.if_icmp .ge 5, 3) := by decide +kernel
theorem zd_De_readNumber_61 : decode zb_De_readNumber 61 = .ok (.iload_n 2, 1) := by decide +kernel
theorem zd_De_readNumber_62 : decode zb_De_readNumber 62 = .ok (.ireturn, 1) := by decide +kernel
theorem zd_De_readNumber_63 : decode zb_De_readNumber 63 = .ok (.iinc 3 1, 3) := by decide +kernel
theorem zd_De_readNumber_66 : decode zb_De_readNumber 66 = .ok (.goto (-62), 3) := by decide +kernel
theorem zd_De_readNumber_69 : decode zb_De_readNumber 69 = .ok (.iconst (-1), 1) := by decide +kernel
theorem zd_De_readNumber_70 : decode zb_De_readNumber 70 = .ok (.ireturn, 1) := by decide +kernel
theorem zd_Tx_at_0 : decode zb_Tx_at 0 = .ok (.aload_n 0, 1) := by decide +kernel
theorem zd_Tx_at_1 : decode zb_Tx_at 1 = .ok (.getfield 13, 3) := by decide +kernel
theorem zd_Tx_at_4 : decode zb_Tx_at 4 = .ok (.iload_n 1, 1) := by decide +kernel
theorem zd_Tx_at_5 : decode zb_Tx_at 5 = .ok (.baload, 1) := by decide +kernel
theorem zd_Tx_at_6 : decode zb_Tx_at 6 = .ok (.sipush 255, 3) := by decide +kernel
theorem zd_Tx_at_9 : decode zb_Tx_at 9 = .ok (.iand, 1) := by decide +kernel
theorem zd_Tx_at_10 : decode zb_Tx_at 10 = .ok (.ireturn, 1) := by decide +kernel
theorem zd_De_isCopyRead_0 : decode zb_De_isCopyRead 0 = .ok (.aload_n 0, 1) := by decide +kernel
theorem zd_De_isCopyRead_1 : decode zb_De_isCopyRead 1 = .ok (.aload_n 1, 1) := by decide +kernel
theorem zd_De_isCopyRead_2 : decode zb_De_isCopyRead 2 = .ok (.iload_n 2, 1) := by decide +kernel
theorem zd_De_isCopyRead_3 : decode zb_De_isCopyRead 3 = .ok (.iconst 4, 1) := by decide +kernel
theorem zd_De_isCopyRead_4 : decode zb_De_isCopyRead 4 = .ok (.invokevirtual 42, 3) := by decide +kernel
theorem zd_De_isCopyRead_7 : decode zb_De_isCopyRead 7 = .ok (.istore 6, 2) := by decide +kernel
theorem zd_De_isCopyRead_9 : decode zb_De_isCopyRead 9 = .ok (.aload_n 0, 1) := by decide +kernel
theorem zd_De_isCopyRead_10 : decode zb_De_isCopyRead 10 = .ok (.aload_n 1, 1) := by decide +kernel
theorem zd_De_isCopyRead_11 : decode zb_De_isCopyRead 11 = .ok (.iload_n 2, 1) := by decide +kernel
theorem zd_De_isCopyRead_12 : decode zb_De_isCopyRead 12 = .ok (.iconst 4, 1) := by decide +kernel
theorem zd_De_isCopyRead_13 : decode zb_De_isCopyRead 13 = .ok (.iushr, 1) := by decide +kernel
theorem zd_De_isCopyRead_14 : decode zb_De_isCopyRead 14 = .ok (.iconst 3, 1) := by decide +kernel
theorem zd_De_isCopyRead_15 : decode zb_De_isCopyRead 15 = .ok (.invokevirtual 42, 3) := by decide +kernel
theorem zd_De_isCopyRead_18 : decode zb_De_isCopyRead 18 = .ok (.istore 7, 2) := by decide +kernel
theorem zd_De_isCopyRead_20 : decode zb_De_isCopyRead 20 = .ok (.iload 7, 2) := by decide +kernel
theorem zd_De_isCopyRead_22 : decode zb_De_isCopyRead 22 = .ok (.ifCond .ne 7, 3) := by decide +kernel
theorem zd_De_isCopyRead_25 : decode zb_De_isCopyRead 25 = .ok (.ldc 29, 2) := by decide +kernel
theorem zd_De_isCopyRead_27 : decode zb_De_isCopyRead 27 = .ok (.istore 7, 2) := by decide +kernel
theorem zd_De_isCopyRead_29 : decode zb_De_isCopyRead 29 = .ok (.iload 6, 2) := by decide +kernel
theorem zd_De_isCopyRead_31 : decode zb_De_isCopyRead 31 = .ok (.ifCond .lt 20, 3) := by decide +kernel
theorem zd_De_isCopyRead_34 : decode zb_De_isCopyRead 34 = .ok (.iload 7, 2) := by decide +kernel
theorem zd_De_isCopyRead_36 : decode zb_De_isCopyRead 36 = .ok (.ifCond .lt 15, 3) := by decide +kernel
theorem zd_De_isCopyRead_39 : decode zb_De_isCopyRead 39 = .ok (.iload 6, 2) := by decide +kernel
theorem zd_De_isCopyRead_41 : decode zb_De_isCopyRead 41 = .ok (.aload_n 3, 1) := by decide +kernel
theorem zd_De_isCopyRead_42 : decode zb_De_isCopyRead 42 = .ok (.invokevirtual 25, 3) := by decide +kernel
theorem zd_De_isCopyRead_45 : decode zb_De_isCopyRead 45 = .ok (.iload 7, 2) := by decide +kernel
theorem zd_De_isCopyRead_47 : decode zb_De_isCopyRead 47 = .ok (.isub, 1) := by decide +kernel
theorem zd_De_isCopyRead_48 : decode zb_De_isCopyRead 48 = .ok (.if_icmp .le 5, 3) := by decide +kernel
theorem zd_De_isCopyRead_51 : decode zb_De_isCopyRead 51 = .ok (.iconst 0, 1) := by decide +kernel
theorem zd_De_isCopyRead_52 : decode zb_De_isCopyRead 52 = .ok (.ireturn, 1) := by decide +kernel
theorem zd_De_isCopyRead_53 : decode zb_De_isCopyRead 53 = .ok (.iload 7, 2) := by decide +kernel
theorem zd_De_isCopyRead_55 : decode zb_De_isCopyRead 55 = .ok (.iload 5, 2) := by decide +kernel
theorem zd_De_isCopyRead_57 : decode zb_De_isCopyRead 57 = .ok (.aload 4, 2) := by decide +kernel
theorem zd_De_isCopyRead_59 : decode zb_De_isCopyRead 59 = .ok (.invokevirtual 25, 3) := by decide +kernel
theorem zd_De_isCopyRead_62 : decode zb_De_isCopyRead 62 = .ok (.isub, 1) := by decide +kernel
theorem zd_De_isCopyRead_63 : decode zb_De_isCopyRead 63 = .ok (.if_icmp .le 5, 3) := by decide +kernel
theorem zd_De_isCopyRead_66 : decode zb_De_isCopyRead 66 = .ok (.iconst 0, 1) := by decide +kernel
theorem zd_De_isCopyRead_67 : decode zb_De_isCopyRead 67 = .ok (.ireturn, 1) := by decide +kernel
theorem zd_De_isCopyRead_68 : decode zb_De_isCopyRead 68 = .ok (.aload 4, 2) := by decide +kernel
theorem zd_De_isCopyRead_70 : decode zb_De_isCopyRead 70 = .ok (.aload_n 3, 1) := by decide +kernel
theorem zd_De_isCopyRead_71 : decode zb_De_isCopyRead 71 = .ok (.iload 6, 2) := by decide +kernel
theorem zd_De_isCopyRead_73 : decode zb_De_isCopyRead 73 = .ok (.iload 7, 2) := by decide +kernel
theorem zd_De_isCopyRead_75 : decode zb_De_isCopyRead 75 = .ok (.invokevirtual 46, 3) := by decide +kernel
theorem zd_De_isCopyRead_78 : decode zb_De_isCopyRead 78 = .ok (.iconst 1, 1) := by decide +kernel
theorem zd_De_isCopyRead_79 : decode zb_De_isCopyRead 79 = .ok (.ireturn, 1) := by decide +kernel
theorem zd_De_readChosenBytes_0 : decode zb_De_readChosenBytes 0 = .ok (.iconst 0, 1) := by decide +kernel
theorem zd_De_readChosenBytes_1 : decode zb_De_readChosenBytes 1 = .ok (.istore 4, 2) := by decide +kernel
theorem zd_De_readChosenBytes_3 : decode zb_De_readChosenBytes 3 = .ok (.iconst 0, 1) := by decide +kernel
theorem zd_De_readChosenBytes_4 : decode zb_De_readChosenBytes 4 = .ok (.istore 5, 2) := by decide +kernel
theorem zd_De_readChosenBytes_6 : decode zb_De_readChosenBytes 6 = .ok (.iload 5, 2) := by decide +kernel
theorem zd_De_readChosenBytes_8 : decode zb_De_readChosenBytes 8 = .ok (.iload_n 3, 1) := by decide +kernel
theorem zd_De_readChosenBytes_9 : decode zb_De_readChosenBytes 9 = .ok (.if_icmp .ge 61, 3) := by decide +kernel
theorem zd_De_readChosenBytes_12 : decode zb_De_readChosenBytes 12 = .ok (.iload_n 2, 1) := by decide +kernel
theorem zd_De_readChosenBytes_13 : decode zb_De_readChosenBytes 13 = .ok (.iload 5, 2) := by decide +kernel
theorem zd_De_readChosenBytes_15 : decode zb_De_readChosenBytes 15 = .ok (.iushr, 1) := by decide +kernel
theorem zd_De_readChosenBytes_16 : decode zb_De_readChosenBytes 16 = .ok (.iconst 1, 1) := by decide +kernel
theorem zd_De_readChosenBytes_17 : decode zb_De_readChosenBytes 17 = .ok (.iand, 1) := by decide +kernel
theorem zd_De_readChosenBytes_18 : decode zb_De_readChosenBytes 18 = .ok (.iconst 1, 1) := by decide +kernel
theorem zd_De_readChosenBytes_19 : decode zb_De_readChosenBytes 19 = .ok (.if_icmp .ne 45, 3) := by decide +kernel
theorem zd_De_readChosenBytes_22 : decode zb_De_readChosenBytes 22 = .ok (.aload_n 0, 1) := by decide +kernel
theorem zd_De_readChosenBytes_23 : decode zb_De_readChosenBytes 23 = .ok (.getfield 9, 3) := by decide +kernel
theorem zd_De_readChosenBytes_26 : decode zb_De_readChosenBytes 26 = .ok (.aload_n 1, 1) := by decide +kernel
theorem zd_De_readChosenBytes_27 : decode zb_De_readChosenBytes 27 = .ok (.invokevirtual 25, 3) := by decide +kernel
theorem zd_De_readChosenBytes_30 : decode zb_De_readChosenBytes 30 = .ok (.if_icmp .lt 5, 3) := by decide +kernel
theorem zd_De_readChosenBytes_33 : decode zb_De_readChosenBytes 33 = .ok (.iconst (-1), 1) := by decide +kernel
theorem zd_De_readChosenBytes_34 : decode zb_De_readChosenBytes 34 = .ok (.ireturn, 1) := by decide +kernel
theorem zd_De_readChosenBytes_35 : decode zb_De_readChosenBytes 35 = .ok (.iload 4, 2) := by decide +kernel
theorem zd_De_readChosenBytes_37 : decode zb_De_readChosenBytes 37 = .ok (.aload_n 1, 1) := by decide +kernel
theorem zd_De_readChosenBytes_38 : decode zb_De_readChosenBytes 38 = .ok (.aload_n 0, 1) := by decide +kernel
theorem zd_De_readChosenBytes_39 : decode zb_De_readChosenBytes 39 = .ok (.getfield 9, 3) := by decide +kernel
theorem zd_De_readChosenBytes_42 : decode zb_De_readChosenBytes 42 = .ok (.invokevirtual 30, 3) := by decide +kernel
theorem zd_De_readChosenBytes_45 : decode zb_De_readChosenBytes 45 = .ok (.bipush 8, 2) := by decide +kernel
theorem zd_De_readChosenBytes_47 : decode zb_De_readChosenBytes 47 = .ok (.iload 5, 2) := by decide +kernel
theorem zd_De_readChosenBytes_49 : decode zb_De_readChosenBytes 49 = .ok (.imul, 1) := by decide +kernel
theorem zd_De_readChosenBytes_50 : decode zb_De_readChosenBytes 50 = .ok (.ishl, 1) := by decide +kernel
theorem zd_De_readChosenBytes_51 : decode zb_De_readChosenBytes 51 = .ok (.ior, 1) := by decide +kernel
theorem zd_De_readChosenBytes_52 : decode zb_De_readChosenBytes 52 = .ok (.istore 4, 2) := by decide +kernel
theorem zd_De_readChosenBytes_54 : decode zb_De_readChosenBytes 54 = .ok (.aload_n 0, 1) := by decide +kernel
theorem zd_De_readChosenBytes_55 : decode zb_De_readChosenBytes 55 = .ok (.dup, 1) := by decide +kernel
theorem zd_De_readChosenBytes_56 : decode zb_De_readChosenBytes 56 = .ok (.getfield 9, 3) := by decide +kernel
theorem zd_De_readChosenBytes_59 : decode zb_De_readChosenBytes 59 = .ok (.iconst 1, 1) := by decide +kernel
theorem zd_De_readChosenBytes_60 : decode zb_De_readChosenBytes 60 = .ok (.iadd, 1) := by decide +kernel
theorem zd_De_readChosenBytes_61 : decode zb_De_readChosenBytes 61 = .ok (.putfield 9, 3) := by decide +kernel
theorem zd_De_readChosenBytes_64 : decode zb_De_readChosenBytes 64 = .ok (.iinc 5 1, 3) := by decide +kernel
theorem zd_De_readChosenBytes_67 : decode zb_De_readChosenBytes 67 = .ok (.goto (-61), 3) := by decide +kernel
theorem zd_De_readChosenBytes_70 : decode zb_De_readChosenBytes 70 = .ok (.iload 4, 2) := by decide +kernel
theorem zd_De_readChosenBytes_72 : decode zb_De_readChosenBytes 72 = .ok (.ireturn, 1) := by decide +kernel
theorem zd_De_isNewRead_0 : decode zb_De_isNewRead 0 = .ok (.iload_n 2, 1) := by decide +kernel
theorem zd_De_isNewRead_1 : decode zb_De_isNewRead 1 = .ok (.ifCond .eq 27, 3) := by decide +kernel
theorem zd_De_isNewRead_4 : decode zb_De_isNewRead 4 = .ok (.iload_n 2, 1) := by decide +kernel
theorem zd_De_isNewRead_5 : decode zb_De_isNewRead 5 = .ok (.aload_n 1, 1) := by decide +kernel
theorem zd_De_isNewRead_6 : decode zb_De_isNewRead 6 = .ok (.invokevirtual 25, 3) := by decide +kernel
theorem zd_De_isNewRead_9 : decode zb_De_isNewRead 9 = .ok (.aload_n 0, 1) := by decide +kernel
theorem zd_De_isNewRead_10 : decode zb_De_isNewRead 10 = .ok (.getfield 9, 3) := by decide +kernel
theorem zd_De_isNewRead_13 : decode zb_De_isNewRead 13 = .ok (.isub, 1) := by decide +kernel
theorem zd_De_isNewRead_14 : decode zb_De_isNewRead 14 = .ok (.if_icmp .gt 14, 3) := by decide +kernel
theorem zd_De_isNewRead_17 : decode zb_De_isNewRead 17 = .ok (.iload_n 2, 1) := by decide +kernel
theorem zd_De_isNewRead_18 : decode zb_De_isNewRead 18 = .ok (.iload 4, 2) := by decide +kernel
theorem zd_De_isNewRead_20 : decode zb_De_isNewRead 20 = .ok (.aload_n 3, 1) := by decide +kernel
theorem zd_De_isNewRead_21 : decode zb_De_isNewRead 21 = .ok (.invokevirtual 25, 3) := by decide +kernel
theorem zd_De_isNewRead_24 : decode zb_De_isNewRead 24 = .ok (.isub, 1) := by decide +kernel
theorem zd_De_isNewRead_25 : decode zb_De_isNewRead 25 = .ok (.if_icmp .le 5, 3) := by decide +kernel
theorem zd_De_isNewRead_28 : decode zb_De_isNewRead 28 = .ok (.iconst 0, 1) := by decide +kernel
theorem zd_De_isNewRead_29 : decode zb_De_isNewRead 29 = .ok (.ireturn, 1) := by decide +kernel
theorem zd_De_isNewRead_30 : decode zb_De_isNewRead 30 = .ok (.aload_n 3, 1) := by decide +kernel
theorem zd_De_isNewRead_31 : decode zb_De_isNewRead 31 = .ok (.aload_n 1, 1) := by decide +kernel
theorem zd_De_isNewRead_32 : decode zb_De_isNewRead 32 = .ok (.aload_n 0, 1) := by decide +kernel
theorem zd_De_isNewRead_33 : decode zb_De_isNewRead 33 = .ok (.getfield 9, 3) := by decide +kernel
theorem zd_De_isNewRead_36 : decode zb_De_isNewRead 36 = .ok (.iload_n 2, 1) := by decide +kernel
theorem zd_De_isNewRead_37 : decode zb_De_isNewRead 37 = .ok (.invokevirtual 46, 3) := by decide +kernel
theorem zd_De_isNewRead_40 : decode zb_De_isNewRead 40 = .ok (.aload_n 0, 1) := by decide +kernel
theorem zd_De_isNewRead_41 : decode zb_De_isNewRead 41 = .ok (.dup, 1) := by decide +kernel
theorem zd_De_isNewRead_42 : decode zb_De_isNewRead 42 = .ok (.getfield 9, 3) := by decide +kernel
theorem zd_De_isNewRead_45 : decode zb_De_isNewRead 45 = .ok (.iload_n 2, 1) := by decide +kernel
theorem zd_De_isNewRead_46 : decode zb_De_isNewRead 46 = .ok (.iadd, 1) := by decide +kernel
theorem zd_De_isNewRead_47 : decode zb_De_isNewRead 47 = .ok (.putfield 9, 3) := by decide +kernel
theorem zd_De_isNewRead_50 : decode zb_De_isNewRead 50 = .ok (.iconst 1, 1) := by decide +kernel
theorem zd_De_isNewRead_51 : decode zb_De_isNewRead 51 = .ok (.ireturn, 1) := by decide +kernel
theorem zd_La_turn_0 : decode zb_La_turn 0 = .ok (.aload_n 1, 1) := by decide +kernel
theorem zd_La_turn_1 : decode zb_La_turn 1 = .ok (.iconst 0, 1) := by decide +kernel
theorem zd_La_turn_2 : decode zb_La_turn 2 = .ok (.aload_n 0, 1) := by decide +kernel
theorem zd_La_turn_3 : decode zb_La_turn 3 = .ok (.invokevirtual 31, 3) := by decide +kernel
theorem zd_La_turn_6 : decode zb_La_turn 6 = .ok (.i2l, 1) := by decide +kernel
theorem zd_La_turn_7 : decode zb_La_turn 7 = .ok (.lastore, 1) := by decide +kernel
theorem zd_La_turn_8 : decode zb_La_turn 8 = .ok (.goto 6, 3) := by decide +kernel
theorem zd_La_turn_11 : decode zb_La_turn 11 = .ok (.astore_n 2, 1) := by decide +kernel
theorem zd_La_turn_12 : decode zb_La_turn 12 = .ok (.iconst 1, 1) := by decide +kernel
theorem zd_La_turn_13 : decode zb_La_turn 13 = .ok (.ireturn, 1) := by decide +kernel
theorem zd_La_turn_14 : decode zb_La_turn 14 = .ok (.iconst 0, 1) := by decide +kernel
theorem zd_La_turn_15 : decode zb_La_turn 15 = .ok (.ireturn, 1) := by decide +kernel
end
section
theorem zd_Pr_turn_0 : decode zb_Pr_turn 0 = .ok (.aload_n 0, 1) := by decide +kernel
theorem zd_Pr_turn_1 : decode zb_Pr_turn 1 = .ok (.getfield 23, 3) := by decide +kernel
theorem zd_Pr_turn_4 : decode zb_Pr_turn 4 = .ok (.invokevirtual 57, 3) := by decide +kernel
theorem zd_Pr_turn_7 : decode zb_Pr_turn 7 = .ok (.ldc 11, 2) := by decide +kernel
theorem zd_Pr_turn_9 : decode zb_Pr_turn 9 = .ok (.if_icmp .le 13, 3) := by decide +kernel
theorem zd_Pr_turn_12 : decode zb_Pr_turn 12 = .ok (.new 62, 3) := by decide +kernel
theorem zd_Pr_turn_15 : decode zb_Pr_turn 15 = .ok (.dup, 1) := by decide +kernel
theorem zd_Pr_turn_16 : decode zb_Pr_turn 16 = .ok (.ldc 64, 2) := by decide +kernel
theorem zd_Pr_turn_18 : decode zb_Pr_turn 18 = .ok (.invokespecial 66, 3) := by decide +kernel
theorem zd_Pr_turn_21 : decode zb_Pr_turn 21 = .ok (.athrow, 1) := by decide +kernel
theorem zd_Pr_turn_22 : decode zb_Pr_turn 22 = .ok (.aload_n 0, 1) := by decide +kernel
theorem zd_Pr_turn_23 : decode zb_Pr_turn 23 = .ok (.getfield 15, 3) := by decide +kernel
theorem zd_Pr_turn_26 : decode zb_Pr_turn 26 = .ok (.iconst 0, 1) := by decide +kernel
theorem zd_Pr_turn_27 : decode zb_Pr_turn 27 = .ok (.invokevirtual 77, 3) := by decide +kernel
theorem zd_Pr_turn_30 : decode zb_Pr_turn 30 = .ok (.aload_n 0, 1) := by decide +kernel
theorem zd_Pr_turn_31 : decode zb_Pr_turn 31 = .ok (.getfield 15, 3) := by decide +kernel
theorem zd_Pr_turn_34 : decode zb_Pr_turn 34 = .ok (.aload_n 0, 1) := by decide +kernel
theorem zd_Pr_turn_35 : decode zb_Pr_turn 35 = .ok (.getfield 23, 3) := by decide +kernel
theorem zd_Pr_turn_38 : decode zb_Pr_turn 38 = .ok (.iconst 0, 1) := by decide +kernel
theorem zd_Pr_turn_39 : decode zb_Pr_turn 39 = .ok (.aload_n 0, 1) := by decide +kernel
theorem zd_Pr_turn_40 : decode zb_Pr_turn 40 = .ok (.getfield 23, 3) := by decide +kernel
theorem zd_Pr_turn_43 : decode zb_Pr_turn 43 = .ok (.invokevirtual 57, 3) := by decide +kernel
theorem zd_Pr_turn_46 : decode zb_Pr_turn 46 = .ok (.invokevirtual 119, 3) := by decide +kernel
theorem zd_Pr_turn_49 : decode zb_Pr_turn 49 = .ok (.aload_n 0, 1) := by decide +kernel
theorem zd_Pr_turn_50 : decode zb_Pr_turn 50 = .ok (.getfield 15, 3) := by decide +kernel
theorem zd_Pr_turn_53 : decode zb_Pr_turn 53 = .ok (.invokevirtual 57, 3) := by decide +kernel
theorem zd_Pr_turn_56 : decode zb_Pr_turn 56 = .ok (.ireturn, 1) := by decide +kernel
theorem zd_La_longest_0 : decode zb_La_longest 0 = .ok (.aload_n 3, 1) := by decide +kernel
theorem zd_La_longest_1 : decode zb_La_longest 1 = .ok (.iconst 0, 1) := by decide +kernel
theorem zd_La_longest_2 : decode zb_La_longest 2 = .ok (.aload_n 0, 1) := by decide +kernel
theorem zd_La_longest_3 : decode zb_La_longest 3 = .ok (.iload_n 1, 1) := by decide +kernel
theorem zd_La_longest_4 : decode zb_La_longest 4 = .ok (.iload_n 2, 1) := by decide +kernel
theorem zd_La_longest_5 : decode zb_La_longest 5 = .ok (.invokevirtual 34, 3) := by decide +kernel
theorem zd_La_longest_8 : decode zb_La_longest 8 = .ok (.i2l, 1) := by decide +kernel
theorem zd_La_longest_9 : decode zb_La_longest 9 = .ok (.lastore, 1) := by decide +kernel
theorem zd_La_longest_10 : decode zb_La_longest 10 = .ok (.goto 7, 3) := by decide +kernel
theorem zd_La_longest_13 : decode zb_La_longest 13 = .ok (.astore 4, 2) := by decide +kernel
theorem zd_La_longest_15 : decode zb_La_longest 15 = .ok (.iconst 1, 1) := by decide +kernel
theorem zd_La_longest_16 : decode zb_La_longest 16 = .ok (.ireturn, 1) := by decide +kernel
theorem zd_La_longest_17 : decode zb_La_longest 17 = .ok (.iconst 0, 1) := by decide +kernel
theorem zd_La_longest_18 : decode zb_La_longest 18 = .ok (.ireturn, 1) := by decide +kernel
theorem zd_Pr_longest_0 : decode zb_Pr_longest 0 = .ok (.aload_n 0, 1) := by decide +kernel
theorem zd_Pr_longest_1 : decode zb_Pr_longest 1 = .ok (.getfield 15, 3) := by decide +kernel
theorem zd_Pr_longest_4 : decode zb_Pr_longest 4 = .ok (.iload_n 1, 1) := by decide +kernel
theorem zd_Pr_longest_5 : decode zb_Pr_longest 5 = .ok (.invokevirtual 80, 3) := by decide +kernel
theorem zd_Pr_longest_8 : decode zb_Pr_longest 8 = .ok (.ifCond .ne 13, 3) := by decide +kernel
theorem zd_Pr_longest_11 : decode zb_Pr_longest 11 = .ok (.new 72, 3) := by decide +kernel
theorem zd_Pr_longest_14 : decode zb_Pr_longest 14 = .ok (.dup, 1) := by decide +kernel
theorem zd_Pr_longest_15 : decode zb_Pr_longest 15 = .ok (.ldc 84, 2) := by decide +kernel
theorem zd_Pr_longest_17 : decode zb_Pr_longest 17 = .ok (.invokespecial 76, 3) := by decide +kernel
theorem zd_Pr_longest_20 : decode zb_Pr_longest 20 = .ok (.athrow, 1) := by decide +kernel
theorem zd_Pr_longest_21 : decode zb_Pr_longest 21 = .ok (.iload_n 2, 1) := by decide +kernel
theorem zd_Pr_longest_22 : decode zb_Pr_longest 22 = .ok (.ifCond .eq 18, 3) := by decide +kernel
theorem zd_Pr_longest_25 : decode zb_Pr_longest 25 = .ok (.iload_n 2, 1) := by decide +kernel
theorem zd_Pr_longest_26 : decode zb_Pr_longest 26 = .ok (.iconst 1, 1) := by decide +kernel
theorem zd_Pr_longest_27 : decode zb_Pr_longest 27 = .ok (.if_icmp .eq 13, 3) := by decide +kernel
theorem zd_Pr_longest_30 : decode zb_Pr_longest 30 = .ok (.new 72, 3) := by decide +kernel
theorem zd_Pr_longest_33 : decode zb_Pr_longest 33 = .ok (.dup, 1) := by decide +kernel
theorem zd_Pr_longest_34 : decode zb_Pr_longest 34 = .ok (.ldc 123, 2) := by decide +kernel
theorem zd_Pr_longest_36 : decode zb_Pr_longest 36 = .ok (.invokespecial 76, 3) := by decide +kernel
theorem zd_Pr_longest_39 : decode zb_Pr_longest 39 = .ok (.athrow, 1) := by decide +kernel
theorem zd_Pr_longest_40 : decode zb_Pr_longest 40 = .ok (.aload_n 0, 1) := by decide +kernel
theorem zd_Pr_longest_41 : decode zb_Pr_longest 41 = .ok (.iload_n 1, 1) := by decide +kernel
theorem zd_Pr_longest_42 : decode zb_Pr_longest 42 = .ok (.invokevirtual 95, 3) := by decide +kernel
theorem zd_Pr_longest_45 : decode zb_Pr_longest 45 = .ok (.aload_n 0, 1) := by decide +kernel
theorem zd_Pr_longest_46 : decode zb_Pr_longest 46 = .ok (.getfield 32, 3) := by decide +kernel
theorem zd_Pr_longest_49 : decode zb_Pr_longest 49 = .ok (.invokevirtual 98, 3) := by decide +kernel
theorem zd_Pr_longest_52 : decode zb_Pr_longest 52 = .ok (.bipush 8, 2) := by decide +kernel
theorem zd_Pr_longest_54 : decode zb_Pr_longest 54 = .ok (.if_icmp .lt 7, 3) := by decide +kernel
theorem zd_Pr_longest_57 : decode zb_Pr_longest 57 = .ok (.iconst 1, 1) := by decide +kernel
theorem zd_Pr_longest_58 : decode zb_Pr_longest 58 = .ok (.goto 4, 3) := by decide +kernel
theorem zd_Pr_longest_61 : decode zb_Pr_longest 61 = .ok (.iconst 0, 1) := by decide +kernel
theorem zd_Pr_longest_62 : decode zb_Pr_longest 62 = .ok (.istore_n 3, 1) := by decide +kernel
theorem zd_Pr_longest_63 : decode zb_Pr_longest 63 = .ok (.iload_n 2, 1) := by decide +kernel
theorem zd_Pr_longest_64 : decode zb_Pr_longest 64 = .ok (.ifCond .ne 19, 3) := by decide +kernel
theorem zd_Pr_longest_67 : decode zb_Pr_longest 67 = .ok (.iload_n 3, 1) := by decide +kernel
theorem zd_Pr_longest_68 : decode zb_Pr_longest 68 = .ok (.ifCond .eq 13, 3) := by decide +kernel
theorem zd_Pr_longest_71 : decode zb_Pr_longest 71 = .ok (.aload_n 0, 1) := by decide +kernel
theorem zd_Pr_longest_72 : decode zb_Pr_longest 72 = .ok (.getfield 32, 3) := by decide +kernel
theorem zd_Pr_longest_75 : decode zb_Pr_longest 75 = .ok (.invokevirtual 98, 3) := by decide +kernel
theorem zd_Pr_longest_78 : decode zb_Pr_longest 78 = .ok (.goto 4, 3) := by decide +kernel
theorem zd_Pr_longest_81 : decode zb_Pr_longest 81 = .ok (.iconst 0, 1) := by decide +kernel
theorem zd_Pr_longest_82 : decode zb_Pr_longest 82 = .ok (.ireturn, 1) := by decide +kernel
theorem zd_Pr_longest_83 : decode zb_Pr_longest 83 = .ok (.iload_n 3, 1) := by decide +kernel
theorem zd_Pr_longest_84 : decode zb_Pr_longest 84 = .ok (.ifCond .eq 13, 3) := by decide +kernel
theorem zd_Pr_longest_87 : decode zb_Pr_longest 87 = .ok (.aload_n 0, 1) := by decide +kernel
theorem zd_Pr_longest_88 : decode zb_Pr_longest 88 = .ok (.getfield 32, 3) := by decide +kernel
theorem zd_Pr_longest_91 : decode zb_Pr_longest 91 = .ok (.invokevirtual 104, 3) := by decide +kernel
theorem zd_Pr_longest_94 : decode zb_Pr_longest 94 = .ok (.goto 4, 3) := by decide +kernel
theorem zd_Pr_longest_97 : decode zb_Pr_longest 97 = .ok (.iconst (-1), 1) := by decide +kernel
theorem zd_Pr_longest_98 : decode zb_Pr_longest 98 = .ok (.ireturn, 1) := by decide +kernel
theorem zd_La_letter_0 : decode zb_La_letter 0 = .ok (.aload_n 2, 1) := by decide +kernel
theorem zd_La_letter_1 : decode zb_La_letter 1 = .ok (.iconst 0, 1) := by decide +kernel
theorem zd_La_letter_2 : decode zb_La_letter 2 = .ok (.aload_n 0, 1) := by decide +kernel
theorem zd_La_letter_3 : decode zb_La_letter 3 = .ok (.iload_n 1, 1) := by decide +kernel
theorem zd_La_letter_4 : decode zb_La_letter 4 = .ok (.invokevirtual 38, 3) := by decide +kernel
theorem zd_La_letter_7 : decode zb_La_letter 7 = .ok (.i2l, 1) := by decide +kernel
theorem zd_La_letter_8 : decode zb_La_letter 8 = .ok (.lastore, 1) := by decide +kernel
theorem zd_La_letter_9 : decode zb_La_letter 9 = .ok (.goto 6, 3) := by decide +kernel
theorem zd_La_letter_12 : decode zb_La_letter 12 = .ok (.astore_n 3, 1) := by decide +kernel
theorem zd_La_letter_13 : decode zb_La_letter 13 = .ok (.iconst 1, 1) := by decide +kernel
theorem zd_La_letter_14 : decode zb_La_letter 14 = .ok (.ireturn, 1) := by decide +kernel
theorem zd_La_letter_15 : decode zb_La_letter 15 = .ok (.iconst 0, 1) := by decide +kernel
theorem zd_La_letter_16 : decode zb_La_letter 16 = .ok (.ireturn, 1) := by decide +kernel
theorem zd_Pr_letter_0 : decode zb_Pr_letter 0 = .ok (.aload_n 0, 1) := by decide +kernel
theorem zd_Pr_letter_1 : decode zb_Pr_letter 1 = .ok (.getfield 23, 3) := by decide +kernel
theorem zd_Pr_letter_4 : decode zb_Pr_letter 4 = .ok (.iload_n 1, 1) := by decide +kernel
theorem zd_Pr_letter_5 : decode zb_Pr_letter 5 = .ok (.invokevirtual 80, 3) := by decide +kernel
theorem zd_Pr_letter_8 : decode zb_Pr_letter 8 = .ok (.ifCond .ne 13, 3) := by decide +kernel
theorem zd_Pr_letter_11 : decode zb_Pr_letter 11 = .ok (.new 125, 3) := by decide +kernel
theorem zd_Pr_letter_14 : decode zb_Pr_letter 14 = .ok (.dup, 1) := by decide +kernel
theorem zd_Pr_letter_15 : decode zb_Pr_letter 15 = .ok (.ldc 127, 2) := by decide +kernel
theorem zd_Pr_letter_17 : decode zb_Pr_letter 17 = .ok (.invokespecial 129, 3) := by decide +kernel
theorem zd_Pr_letter_20 : decode zb_Pr_letter 20 = .ok (.athrow, 1) := by decide +kernel
theorem zd_Pr_letter_21 : decode zb_Pr_letter 21 = .ok (.aload_n 0, 1) := by decide +kernel
theorem zd_Pr_letter_22 : decode zb_Pr_letter 22 = .ok (.getfield 23, 3) := by decide +kernel
theorem zd_Pr_letter_25 : decode zb_Pr_letter 25 = .ok (.iload_n 1, 1) := by decide +kernel
theorem zd_Pr_letter_26 : decode zb_Pr_letter 26 = .ok (.invokevirtual 130, 3) := by decide +kernel
theorem zd_Pr_letter_29 : decode zb_Pr_letter 29 = .ok (.ireturn, 1) := by decide +kernel
theorem zd_Mo_init_0 : decode zb_Mo_init 0 = .ok (.aload_n 0, 1) := by decide +kernel
theorem zd_Mo_init_1 : decode zb_Mo_init 1 = .ok (.invokespecial 1, 3) := by decide +kernel
theorem zd_Mo_init_4 : decode zb_Mo_init 4 = .ok (.aload_n 0, 1) := by decide +kernel
theorem zd_Mo_init_5 : decode zb_Mo_init 5 = .ok (.ldc 7, 2) := by decide +kernel
theorem zd_Mo_init_7 : decode zb_Mo_init 7 = .ok (.newarray .byte, 2) := by decide +kernel
theorem zd_Mo_init_9 : decode zb_Mo_init 9 = .ok (.putfield 8, 3) := by decide +kernel
theorem zd_Mo_init_12 : decode zb_Mo_init 12 = .ok (.aload_n 0, 1) := by decide +kernel
theorem zd_Mo_init_13 : decode zb_Mo_init 13 = .ok (.ldc 7, 2) := by decide +kernel
theorem zd_Mo_init_15 : decode zb_Mo_init 15 = .ok (.newarray .byte, 2) := by decide +kernel
theorem zd_Mo_init_17 : decode zb_Mo_init 17 = .ok (.putfield 14, 3) := by decide +kernel
theorem zd_Mo_init_20 : decode zb_Mo_init 20 = .ok (.aload_n 0, 1) := by decide +kernel
theorem zd_Mo_init_21 : decode zb_Mo_init 21 = .ok (.ldc 17, 2) := by decide +kernel
theorem zd_Mo_init_23 : decode zb_Mo_init 23 = .ok (.newarray .byte, 2) := by decide +kernel
theorem zd_Mo_init_25 : decode zb_Mo_init 25 = .ok (.putfield 18, 3) := by decide +kernel
theorem zd_Mo_init_28 : decode zb_Mo_init 28 = .ok (.aload_n 0, 1) := by decide +kernel
theorem zd_Mo_init_29 : decode zb_Mo_init 29 = .ok (.ldc 7, 2) := by decide +kernel
theorem zd_Mo_init_31 : decode zb_Mo_init 31 = .ok (.newarray .byte, 2) := by decide +kernel
theorem zd_Mo_init_33 : decode zb_Mo_init 33 = .ok (.putfield 21, 3) := by decide +kernel
theorem zd_Mo_init_36 : decode zb_Mo_init 36 = .ok (.return_, 1) := by decide +kernel
theorem zd_Mo_thrown_0 : decode zb_Mo_thrown 0 = .ok (.aload_n 0, 1) := by decide +kernel
theorem zd_Mo_thrown_1 : decode zb_Mo_thrown 1 = .ok (.getfield 24, 3) := by decide +kernel
theorem zd_Mo_thrown_4 : decode zb_Mo_thrown 4 = .ok (.ireturn, 1) := by decide +kernel
theorem zd_Mo_feed_0 : decode zb_Mo_feed 0 = .ok (.aload_n 0, 1) := by decide +kernel
theorem zd_Mo_feed_1 : decode zb_Mo_feed 1 = .ok (.iconst 0, 1) := by decide +kernel
theorem zd_Mo_feed_2 : decode zb_Mo_feed 2 = .ok (.putfield 24, 3) := by decide +kernel
theorem zd_Mo_feed_5 : decode zb_Mo_feed 5 = .ok (.aload_n 0, 1) := by decide +kernel
theorem zd_Mo_feed_6 : decode zb_Mo_feed 6 = .ok (.getfield 28, 3) := by decide +kernel
theorem zd_Mo_feed_9 : decode zb_Mo_feed 9 = .ok (.bipush 20, 2) := by decide +kernel
theorem zd_Mo_feed_11 : decode zb_Mo_feed 11 = .ok (.iadd, 1) := by decide +kernel
theorem zd_Mo_feed_12 : decode zb_Mo_feed 12 = .ok (.ldc 7, 2) := by decide +kernel
theorem zd_Mo_feed_14 : decode zb_Mo_feed 14 = .ok (.if_icmp .le 9, 3) := by decide +kernel
theorem zd_Mo_feed_17 : decode zb_Mo_feed 17 = .ok (.aload_n 0, 1) := by decide +kernel
theorem zd_Mo_feed_18 : decode zb_Mo_feed 18 = .ok (.iconst 1, 1) := by decide +kernel
theorem zd_Mo_feed_19 : decode zb_Mo_feed 19 = .ok (.invokevirtual 31, 3) := by decide +kernel
theorem zd_Mo_feed_22 : decode zb_Mo_feed 22 = .ok (.ireturn, 1) := by decide +kernel
theorem zd_Mo_feed_23 : decode zb_Mo_feed 23 = .ok (.iconst 0, 1) := by decide +kernel
theorem zd_Mo_feed_24 : decode zb_Mo_feed 24 = .ok (.istore 6, 2) := by decide +kernel
theorem zd_Mo_feed_26 : decode zb_Mo_feed 26 = .ok (.iload 6, 2) := by decide +kernel
theorem zd_Mo_feed_28 : decode zb_Mo_feed 28 = .ok (.bipush 20, 2) := by decide +kernel
theorem zd_Mo_feed_30 : decode zb_Mo_feed 30 = .ok (.if_icmp .ge 90, 3) := by decide +kernel
theorem zd_Mo_feed_33 : decode zb_Mo_feed 33 = .ok (.iload 6, 2) := by decide +kernel
theorem zd_Mo_feed_35 : decode zb_Mo_feed 35 = .ok (.iconst 4, 1) := by decide +kernel
theorem zd_Mo_feed_36 : decode zb_Mo_feed 36 = .ok (.if_icmp .ge 7, 3) := by decide +kernel
theorem zd_Mo_feed_39 : decode zb_Mo_feed 39 = .ok (.iload_n 1, 1) := by decide +kernel
theorem zd_Mo_feed_40 : decode zb_Mo_feed 40 = .ok (.goto 39, 3) := by decide +kernel
theorem zd_Mo_feed_43 : decode zb_Mo_feed 43 = .ok (.iload 6, 2) := by decide +kernel
theorem zd_Mo_feed_45 : decode zb_Mo_feed 45 = .ok (.bipush 8, 2) := by decide +kernel
theorem zd_Mo_feed_47 : decode zb_Mo_feed 47 = .ok (.if_icmp .ge 7, 3) := by decide +kernel
theorem zd_Mo_feed_50 : decode zb_Mo_feed 50 = .ok (.iload_n 2, 1) := by decide +kernel
theorem zd_Mo_feed_51 : decode zb_Mo_feed 51 = .ok (.goto 28, 3) := by decide +kernel
theorem zd_Mo_feed_54 : decode zb_Mo_feed 54 = .ok (.iload 6, 2) := by decide +kernel
theorem zd_Mo_feed_56 : decode zb_Mo_feed 56 = .ok (.bipush 12, 2) := by decide +kernel
theorem zd_Mo_feed_58 : decode zb_Mo_feed 58 = .ok (.if_icmp .ge 7, 3) := by decide +kernel
theorem zd_Mo_feed_61 : decode zb_Mo_feed 61 = .ok (.iload_n 3, 1) := by decide +kernel
theorem zd_Mo_feed_62 : decode zb_Mo_feed 62 = .ok (.goto 17, 3) := by decide +kernel
theorem zd_Mo_feed_65 : decode zb_Mo_feed 65 = .ok (.iload 6, 2) := by decide +kernel
theorem zd_Mo_feed_67 : decode zb_Mo_feed 67 = .ok (.bipush 16, 2) := by decide +kernel
theorem zd_Mo_feed_69 : decode zb_Mo_feed 69 = .ok (.if_icmp .ge 8, 3) := by decide +kernel
theorem zd_Mo_feed_72 : decode zb_Mo_feed 72 = .ok (.iload 4, 2) := by decide +kernel
theorem zd_Mo_feed_74 : decode zb_Mo_feed 74 = .ok (.goto 5, 3) := by decide +kernel
theorem zd_Mo_feed_77 : decode zb_Mo_feed 77 = .ok (.iload 5, 2) := by decide +kernel
theorem zd_Mo_feed_79 : decode zb_Mo_feed 79 = .ok (.istore 7, 2) := by decide +kernel
theorem zd_Mo_feed_81 : decode zb_Mo_feed 81 = .ok (.aload_n 0, 1) := by decide +kernel
theorem zd_Mo_feed_82 : decode zb_Mo_feed 82 = .ok (.getfield 8, 3) := by decide +kernel
theorem zd_Mo_feed_85 : decode zb_Mo_feed 85 = .ok (.aload_n 0, 1) := by decide +kernel
theorem zd_Mo_feed_86 : decode zb_Mo_feed 86 = .ok (.getfield 28, 3) := by decide +kernel
theorem zd_Mo_feed_89 : decode zb_Mo_feed 89 = .ok (.iload 7, 2) := by decide +kernel
theorem zd_Mo_feed_91 : decode zb_Mo_feed 91 = .ok (.bipush 24, 2) := by decide +kernel
theorem zd_Mo_feed_93 : decode zb_Mo_feed 93 = .ok (.iload 6, 2) := by decide +kernel
theorem zd_Mo_feed_95 : decode zb_Mo_feed 95 = .ok (.iconst 4, 1) := by decide +kernel
theorem zd_Mo_feed_96 : decode zb_Mo_feed 96 = .ok (.irem, 1) := by decide +kernel
theorem zd_Mo_feed_97 : decode zb_Mo_feed 97 = .ok (.bipush 8, 2) := by decide +kernel
theorem zd_Mo_feed_99 : decode zb_Mo_feed 99 = .ok (.imul, 1) := by decide +kernel
theorem zd_Mo_feed_100 : decode zb_Mo_feed 100 = .ok (.isub, 1) := by decide +kernel
theorem zd_Mo_feed_101 : decode zb_Mo_feed 101 = .ok (.iushr, 1) := by decide +kernel
theorem zd_Mo_feed_102 : decode zb_Mo_feed 102 = .ok (.i2b, 1) := by decide +kernel
theorem zd_Mo_feed_103 : decode zb_Mo_feed 103 = .ok (.bastore, 1) := by decide +kernel
theorem zd_Mo_feed_104 : decode zb_Mo_feed 104 = .ok (.aload_n 0, 1) := by decide +kernel
theorem zd_Mo_feed_105 : decode zb_Mo_feed 105 = .ok (.dup, 1) := by decide +kernel
theorem zd_Mo_feed_106 : decode zb_Mo_feed 106 = .ok (.getfield 28, 3) := by decide +kernel
theorem zd_Mo_feed_109 : decode zb_Mo_feed 109 = .ok (.iconst 1, 1) := by decide +kernel
theorem zd_Mo_feed_110 : decode zb_Mo_feed 110 = .ok (.iadd, 1) := by decide +kernel
theorem zd_Mo_feed_111 : decode zb_Mo_feed 111 = .ok (.putfield 28, 3) := by decide +kernel
theorem zd_Mo_feed_114 : decode zb_Mo_feed 114 = .ok (.iinc 6 1, 3) := by decide +kernel
theorem zd_Mo_feed_117 : decode zb_Mo_feed 117 = .ok (.goto (-91), 3) := by decide +kernel
theorem zd_Mo_feed_120 : decode zb_Mo_feed 120 = .ok (.aload_n 0, 1) := by decide +kernel
theorem zd_Mo_feed_121 : decode zb_Mo_feed 121 = .ok (.getfield 28, 3) := by decide +kernel
theorem zd_Mo_feed_124 : decode zb_Mo_feed 124 = .ok (.ireturn, 1) := by decide +kernel
theorem zd_Mo_refuse_0 : decode zb_Mo_refuse 0 = .ok (.aload_n 0, 1) := by decide +kernel
theorem zd_Mo_refuse_1 : decode zb_Mo_refuse 1 = .ok (.iload_n 1, 1) := by decide +kernel
theorem zd_Mo_refuse_2 : decode zb_Mo_refuse 2 = .ok (.putfield 24, 3) := by decide +kernel
theorem zd_Mo_refuse_5 : decode zb_Mo_refuse 5 = .ok (.iconst 0, 1) := by decide +kernel
theorem zd_Mo_refuse_6 : decode zb_Mo_refuse 6 = .ok (.ireturn, 1) := by decide +kernel
theorem zd_Mo_end_0 : decode zb_Mo_end 0 = .ok (.aload_n 0, 1) := by decide +kernel
theorem zd_Mo_end_1 : decode zb_Mo_end 1 = .ok (.iconst 0, 1) := by decide +kernel
theorem zd_Mo_end_2 : decode zb_Mo_end 2 = .ok (.putfield 24, 3) := by decide +kernel
theorem zd_Mo_end_5 : decode zb_Mo_end 5 = .ok (.iload_n 1, 1) := by decide +kernel
theorem zd_Mo_end_6 : decode zb_Mo_end 6 = .ok (.ifCond .lt 11, 3) := by decide +kernel
theorem zd_Mo_end_9 : decode zb_Mo_end 9 = .ok (.iload_n 1, 1) := by decide +kernel
theorem zd_Mo_end_10 : decode zb_Mo_end 10 = .ok (.aload_n 0, 1) := by decide +kernel
theorem zd_Mo_end_11 : decode zb_Mo_end 11 = .ok (.getfield 28, 3) := by decide +kernel
theorem zd_Mo_end_14 : decode zb_Mo_end 14 = .ok (.if_icmp .le 9, 3) := by decide +kernel
theorem zd_Mo_end_17 : decode zb_Mo_end 17 = .ok (.aload_n 0, 1) := by decide +kernel
theorem zd_Mo_end_18 : decode zb_Mo_end 18 = .ok (.iconst 1, 1) := by decide +kernel
theorem zd_Mo_end_19 : decode zb_Mo_end 19 = .ok (.invokevirtual 31, 3) := by decide +kernel
theorem zd_Mo_end_22 : decode zb_Mo_end 22 = .ok (.ireturn, 1) := by decide +kernel
theorem zd_Mo_end_23 : decode zb_Mo_end 23 = .ok (.aload_n 0, 1) := by decide +kernel
theorem zd_Mo_end_24 : decode zb_Mo_end 24 = .ok (.dup, 1) := by decide +kernel
theorem zd_Mo_end_25 : decode zb_Mo_end 25 = .ok (.getfield 28, 3) := by decide +kernel
theorem zd_Mo_end_28 : decode zb_Mo_end 28 = .ok (.iload_n 1, 1) := by decide +kernel
theorem zd_Mo_end_29 : decode zb_Mo_end 29 = .ok (.isub, 1) := by decide +kernel
theorem zd_Mo_end_30 : decode zb_Mo_end 30 = .ok (.putfield 28, 3) := by decide +kernel
theorem zd_Mo_end_33 : decode zb_Mo_end 33 = .ok (.aload_n 0, 1) := by decide +kernel
theorem zd_Mo_end_34 : decode zb_Mo_end 34 = .ok (.getfield 28, 3) := by decide +kernel
theorem zd_Mo_end_37 : decode zb_Mo_end 37 = .ok (.ireturn, 1) := by decide +kernel
theorem zd_Mo_change_0 : decode zb_Mo_change 0 = .ok (.aload_n 0, 1) := by decide +kernel
theorem zd_Mo_change_1 : decode zb_Mo_change 1 = .ok (.iconst 0, 1) := by decide +kernel
theorem zd_Mo_change_2 : decode zb_Mo_change 2 = .ok (.putfield 24, 3) := by decide +kernel
theorem zd_Mo_change_5 : decode zb_Mo_change 5 = .ok (.iload_n 1, 1) := by decide +kernel
theorem zd_Mo_change_6 : decode zb_Mo_change 6 = .ok (.ifCond .lt 22, 3) := by decide +kernel
theorem zd_Mo_change_9 : decode zb_Mo_change 9 = .ok (.iload_n 1, 1) := by decide +kernel
theorem zd_Mo_change_10 : decode zb_Mo_change 10 = .ok (.aload_n 0, 1) := by decide +kernel
theorem zd_Mo_change_11 : decode zb_Mo_change 11 = .ok (.getfield 28, 3) := by decide +kernel
theorem zd_Mo_change_14 : decode zb_Mo_change 14 = .ok (.if_icmp .ge 14, 3) := by decide +kernel
theorem zd_Mo_change_17 : decode zb_Mo_change 17 = .ok (.iload_n 2, 1) := by decide +kernel
theorem zd_Mo_change_18 : decode zb_Mo_change 18 = .ok (.ifCond .lt 10, 3) := by decide +kernel
theorem zd_Mo_change_21 : decode zb_Mo_change 21 = .ok (.iload_n 2, 1) := by decide +kernel
theorem zd_Mo_change_22 : decode zb_Mo_change 22 = .ok (.sipush 255, 3) := by decide +kernel
theorem zd_Mo_change_25 : decode zb_Mo_change 25 = .ok (.if_icmp .le 11, 3) := by decide +kernel
theorem zd_Mo_change_28 : decode zb_Mo_change 28 = .ok (.aload_n 0, 1) := by decide +kernel
theorem zd_Mo_change_29 : decode zb_Mo_change 29 = .ok (.iconst 1, 1) := by decide +kernel
theorem zd_Mo_change_30 : decode zb_Mo_change 30 = .ok (.putfield 24, 3) := by decide +kernel
theorem zd_Mo_change_33 : decode zb_Mo_change 33 = .ok (.goto 18, 3) := by decide +kernel
theorem zd_Mo_change_36 : decode zb_Mo_change 36 = .ok (.aload_n 0, 1) := by decide +kernel
theorem zd_Mo_change_37 : decode zb_Mo_change 37 = .ok (.getfield 8, 3) := by decide +kernel
theorem zd_Mo_change_40 : decode zb_Mo_change 40 = .ok (.iload_n 1, 1) := by decide +kernel
theorem zd_Mo_change_41 : decode zb_Mo_change 41 = .ok (.aload_n 0, 1) := by decide +kernel
theorem zd_Mo_change_42 : decode zb_Mo_change 42 = .ok (.getfield 8, 3) := by decide +kernel
theorem zd_Mo_change_45 : decode zb_Mo_change 45 = .ok (.iload_n 1, 1) := by decide +kernel
theorem zd_Mo_change_46 : decode zb_Mo_change 46 = .ok (.baload, 1) := by decide +kernel
theorem zd_Mo_change_47 : decode zb_Mo_change 47 = .ok (.iload_n 2, 1) := by decide +kernel
theorem zd_Mo_change_48 : decode zb_Mo_change 48 = .ok (.ixor, 1) := by decide +kernel
theorem zd_Mo_change_49 : decode zb_Mo_change 49 = .ok (.i2b, 1) := by decide +kernel
theorem zd_Mo_change_50 : decode zb_Mo_change 50 = .ok (.bastore, 1) := by decide +kernel
theorem zd_Mo_change_51 : decode zb_Mo_change 51 = .ok (.return_, 1) := by decide +kernel
theorem zd_Mo_base_0 : decode zb_Mo_base 0 = .ok (.aload_n 0, 1) := by decide +kernel
theorem zd_Mo_base_1 : decode zb_Mo_base 1 = .ok (.iconst 0, 1) := by decide +kernel
theorem zd_Mo_base_2 : decode zb_Mo_base 2 = .ok (.putfield 24, 3) := by decide +kernel
theorem zd_Mo_base_5 : decode zb_Mo_base 5 = .ok (.iconst 0, 1) := by decide +kernel
theorem zd_Mo_base_6 : decode zb_Mo_base 6 = .ok (.istore_n 1, 1) := by decide +kernel
theorem zd_Mo_base_7 : decode zb_Mo_base 7 = .ok (.iload_n 1, 1) := by decide +kernel
theorem zd_Mo_base_8 : decode zb_Mo_base 8 = .ok (.aload_n 0, 1) := by decide +kernel
theorem zd_Mo_base_9 : decode zb_Mo_base 9 = .ok (.getfield 28, 3) := by decide +kernel
theorem zd_Mo_base_12 : decode zb_Mo_base 12 = .ok (.if_icmp .ge 21, 3) := by decide +kernel
theorem zd_Mo_base_15 : decode zb_Mo_base 15 = .ok (.aload_n 0, 1) := by decide +kernel
theorem zd_Mo_base_16 : decode zb_Mo_base 16 = .ok (.getfield 14, 3) := by decide +kernel
theorem zd_Mo_base_19 : decode zb_Mo_base 19 = .ok (.iload_n 1, 1) := by decide +kernel
theorem zd_Mo_base_20 : decode zb_Mo_base 20 = .ok (.aload_n 0, 1) := by decide +kernel
theorem zd_Mo_base_21 : decode zb_Mo_base 21 = .ok (.getfield 8, 3) := by decide +kernel
theorem zd_Mo_base_24 : decode zb_Mo_base 24 = .ok (.iload_n 1, 1) := by decide +kernel
theorem zd_Mo_base_25 : decode zb_Mo_base 25 = .ok (.baload, 1) := by decide +kernel
theorem zd_Mo_base_26 : decode zb_Mo_base 26 = .ok (.bastore, 1) := by decide +kernel
theorem zd_Mo_base_27 : decode zb_Mo_base 27 = .ok (.iinc 1 1, 3) := by decide +kernel
theorem zd_Mo_base_30 : decode zb_Mo_base 30 = .ok (.goto (-23), 3) := by decide +kernel
theorem zd_Mo_base_33 : decode zb_Mo_base 33 = .ok (.aload_n 0, 1) := by decide +kernel
theorem zd_Mo_base_34 : decode zb_Mo_base 34 = .ok (.aload_n 0, 1) := by decide +kernel
theorem zd_Mo_base_35 : decode zb_Mo_base 35 = .ok (.getfield 28, 3) := by decide +kernel
theorem zd_Mo_base_38 : decode zb_Mo_base 38 = .ok (.putfield 35, 3) := by decide +kernel
theorem zd_Mo_base_41 : decode zb_Mo_base 41 = .ok (.aload_n 0, 1) := by decide +kernel
theorem zd_Mo_base_42 : decode zb_Mo_base 42 = .ok (.iconst 0, 1) := by decide +kernel
theorem zd_Mo_base_43 : decode zb_Mo_base 43 = .ok (.putfield 28, 3) := by decide +kernel
theorem zd_Mo_base_46 : decode zb_Mo_base 46 = .ok (.aload_n 0, 1) := by decide +kernel
theorem zd_Mo_base_47 : decode zb_Mo_base 47 = .ok (.getfield 35, 3) := by decide +kernel
theorem zd_Mo_base_50 : decode zb_Mo_base 50 = .ok (.ireturn, 1) := by decide +kernel
theorem zd_Mo_make_0 : decode zb_Mo_make 0 = .ok (.aload_n 0, 1) := by decide +kernel
theorem zd_Mo_make_1 : decode zb_Mo_make 1 = .ok (.iconst 0, 1) := by decide +kernel
theorem zd_Mo_make_2 : decode zb_Mo_make 2 = .ok (.putfield 24, 3) := by decide +kernel
theorem zd_Mo_make_5 : decode zb_Mo_make 5 = .ok (.aload_n 0, 1) := by decide +kernel
theorem zd_Mo_make_6 : decode zb_Mo_make 6 = .ok (.iconst 0, 1) := by decide +kernel
theorem zd_Mo_make_7 : decode zb_Mo_make 7 = .ok (.putfield 45, 3) := by decide +kernel
theorem zd_Mo_make_10 : decode zb_Mo_make 10 = .ok (.aload_n 0, 1) := by decide +kernel
theorem zd_Mo_make_11 : decode zb_Mo_make 11 = .ok (.iconst 0, 1) := by decide +kernel
theorem zd_Mo_make_12 : decode zb_Mo_make 12 = .ok (.putfield 52, 3) := by decide +kernel
theorem zd_Mo_make_15 : decode zb_Mo_make 15 = .ok (.aload_n 0, 1) := by decide +kernel
theorem zd_Mo_make_16 : decode zb_Mo_make 16 = .ok (.iconst 0, 1) := by decide +kernel
theorem zd_Mo_make_17 : decode zb_Mo_make 17 = .ok (.putfield 55, 3) := by decide +kernel
theorem zd_Mo_make_20 : decode zb_Mo_make 20 = .ok (.aload_n 0, 1) := by decide +kernel
theorem zd_Mo_make_21 : decode zb_Mo_make 21 = .ok (.aload_n 0, 1) := by decide +kernel
theorem zd_Mo_make_22 : decode zb_Mo_make 22 = .ok (.getfield 35, 3) := by decide +kernel
theorem zd_Mo_make_25 : decode zb_Mo_make 25 = .ok (.invokevirtual 58, 3) := by decide +kernel
theorem zd_Mo_make_28 : decode zb_Mo_make 28 = .ok (.aload_n 0, 1) := by decide +kernel
theorem zd_Mo_make_29 : decode zb_Mo_make 29 = .ok (.aload_n 0, 1) := by decide +kernel
theorem zd_Mo_make_30 : decode zb_Mo_make 30 = .ok (.getfield 28, 3) := by decide +kernel
theorem zd_Mo_make_33 : decode zb_Mo_make 33 = .ok (.invokevirtual 58, 3) := by decide +kernel
theorem zd_Mo_make_36 : decode zb_Mo_make 36 = .ok (.iconst 0, 1) := by decide +kernel
theorem zd_Mo_make_37 : decode zb_Mo_make 37 = .ok (.istore_n 1, 1) := by decide +kernel
theorem zd_Mo_make_38 : decode zb_Mo_make 38 = .ok (.iconst 0, 1) := by decide +kernel
theorem zd_Mo_make_39 : decode zb_Mo_make 39 = .ok (.istore_n 2, 1) := by decide +kernel
theorem zd_Mo_make_40 : decode zb_Mo_make 40 = .ok (.iload_n 1, 1) := by decide +kernel
theorem zd_Mo_make_41 : decode zb_Mo_make 41 = .ok (.aload_n 0, 1) := by decide +kernel
theorem zd_Mo_make_42 : decode zb_Mo_make 42 = .ok (.getfield 28, 3) := by decide +kernel
theorem zd_Mo_make_45 : decode zb_Mo_make 45 = .ok (.if_icmp .ge 45, 3) := by decide +kernel
theorem zd_Mo_make_48 : decode zb_Mo_make 48 = .ok (.aload_n 0, 1) := by decide +kernel
theorem zd_Mo_make_49 : decode zb_Mo_make 49 = .ok (.iload_n 1, 1) := by decide +kernel
theorem zd_Mo_make_50 : decode zb_Mo_make 50 = .ok (.invokevirtual 61, 3) := by decide +kernel
theorem zd_Mo_make_53 : decode zb_Mo_make 53 = .ok (.aload_n 0, 1) := by decide +kernel
theorem zd_Mo_make_54 : decode zb_Mo_make 54 = .ok (.getfield 38, 3) := by decide +kernel
theorem zd_Mo_make_57 : decode zb_Mo_make 57 = .ok (.bipush 8, 2) := by decide +kernel
theorem zd_Mo_make_59 : decode zb_Mo_make 59 = .ok (.if_icmp .ge 9, 3) := by decide +kernel
theorem zd_Mo_make_62 : decode zb_Mo_make 62 = .ok (.iinc 1 1, 3) := by decide +kernel
theorem zd_Mo_make_65 : decode zb_Mo_make 65 = .ok (.goto (-25), 3) := by decide +kernel
theorem zd_Mo_make_68 : decode zb_Mo_make 68 = .ok (.aload_n 0, 1) := by decide +kernel
theorem zd_Mo_make_69 : decode zb_Mo_make 69 = .ok (.iload_n 2, 1) := by decide +kernel
theorem zd_Mo_make_70 : decode zb_Mo_make 70 = .ok (.iload_n 1, 1) := by decide +kernel
theorem zd_Mo_make_71 : decode zb_Mo_make 71 = .ok (.invokevirtual 64, 3) := by decide +kernel
theorem zd_Mo_make_74 : decode zb_Mo_make 74 = .ok (.aload_n 0, 1) := by decide +kernel
theorem zd_Mo_make_75 : decode zb_Mo_make 75 = .ok (.invokevirtual 68, 3) := by decide +kernel
theorem zd_Mo_make_78 : decode zb_Mo_make 78 = .ok (.iload_n 1, 1) := by decide +kernel
theorem zd_Mo_make_79 : decode zb_Mo_make 79 = .ok (.aload_n 0, 1) := by decide +kernel
theorem zd_Mo_make_80 : decode zb_Mo_make 80 = .ok (.getfield 38, 3) := by decide +kernel
theorem zd_Mo_make_83 : decode zb_Mo_make 83 = .ok (.iadd, 1) := by decide +kernel
theorem zd_Mo_make_84 : decode zb_Mo_make 84 = .ok (.istore_n 1, 1) := by decide +kernel
theorem zd_Mo_make_85 : decode zb_Mo_make 85 = .ok (.iload_n 1, 1) := by decide +kernel
theorem zd_Mo_make_86 : decode zb_Mo_make 86 = .ok (.istore_n 2, 1) := by decide +kernel
theorem zd_Mo_make_87 : decode zb_Mo_make 87 = .ok (.goto (-47), 3) := by decide +kernel
theorem zd_Mo_make_90 : decode zb_Mo_make 90 = .ok (.aload_n 0, 1) := by decide +kernel
theorem zd_Mo_make_91 : decode zb_Mo_make 91 = .ok (.iload_n 2, 1) := by decide +kernel
theorem zd_Mo_make_92 : decode zb_Mo_make 92 = .ok (.aload_n 0, 1) := by decide +kernel
theorem zd_Mo_make_93 : decode zb_Mo_make 93 = .ok (.getfield 28, 3) := by decide +kernel
theorem zd_Mo_make_96 : decode zb_Mo_make 96 = .ok (.invokevirtual 64, 3) := by decide +kernel
theorem zd_Mo_make_99 : decode zb_Mo_make 99 = .ok (.aload_n 0, 1) := by decide +kernel
theorem zd_Mo_make_100 : decode zb_Mo_make 100 = .ok (.getfield 45, 3) := by decide +kernel
theorem zd_Mo_make_103 : decode zb_Mo_make 103 = .ok (.ireturn, 1) := by decide +kernel
theorem zd_Mo_putNumber_0 : decode zb_Mo_putNumber 0 = .ok (.iload_n 1, 1) := by decide +kernel
theorem zd_Mo_putNumber_1 : decode zb_Mo_putNumber 1 = .ok (.istore_n 2, 1) := by decide +kernel
theorem zd_Mo_putNumber_2 : decode zb_Mo_putNumber 2 = .ok (.iload_n 2, 1) := by decide +kernel
theorem zd_Mo_putNumber_3 : decode zb_Mo_putNumber 3 = .ok (.sipush 128, 3) := by decide +kernel
theorem zd_Mo_putNumber_6 : decode zb_Mo_putNumber 6 = .ok (.if_icmp .lt 25, 3) := by decide +kernel
theorem zd_Mo_putNumber_9 : decode zb_Mo_putNumber 9 = .ok (.aload_n 0, 1) := by decide +kernel
theorem zd_Mo_putNumber_10 : decode zb_Mo_putNumber 10 = .ok (.iload_n 2, 1) := by decide +kernel
theorem zd_Mo_putNumber_11 : decode zb_Mo_putNumber 11 = .ok (.sipush 128, 3) := by decide +kernel
theorem zd_Mo_putNumber_14 : decode zb_Mo_putNumber 14 = .ok (.irem, 1) := by decide +kernel
theorem zd_Mo_putNumber_15 : decode zb_Mo_putNumber 15 = .ok (.sipush 128, 3) := by decide +kernel
theorem zd_Mo_putNumber_18 : decode zb_Mo_putNumber 18 = .ok (.iadd, 1) := by decide +kernel
theorem zd_Mo_putNumber_19 : decode zb_Mo_putNumber 19 = .ok (.invokevirtual 48, 3) := by decide +kernel
theorem zd_Mo_putNumber_22 : decode zb_Mo_putNumber 22 = .ok (.iload_n 2, 1) := by decide +kernel
theorem zd_Mo_putNumber_23 : decode zb_Mo_putNumber 23 = .ok (.sipush 128, 3) := by decide +kernel
theorem zd_Mo_putNumber_26 : decode zb_Mo_putNumber 26 = .ok (.idiv, 1) := by decide +kernel
theorem zd_Mo_putNumber_27 : decode zb_Mo_putNumber 27 = .ok (.istore_n 2, 1) := by decide +kernel
theorem zd_Mo_putNumber_28 : decode zb_Mo_putNumber 28 = .ok (.goto (-26), 3) := by decide +kernel
theorem zd_Mo_putNumber_31 : decode zb_Mo_putNumber 31 = .ok (.aload_n 0, 1) := by decide +kernel
theorem zd_Mo_putNumber_32 : decode zb_Mo_putNumber 32 = .ok (.iload_n 2, 1) := by decide +kernel
theorem zd_Mo_putNumber_33 : decode zb_Mo_putNumber 33 = .ok (.invokevirtual 48, 3) := by decide +kernel
theorem zd_Mo_putNumber_36 : decode zb_Mo_putNumber 36 = .ok (.return_, 1) := by decide +kernel
theorem zd_Mo_put_0 : decode zb_Mo_put 0 = .ok (.aload_n 0, 1) := by decide +kernel
theorem zd_Mo_put_1 : decode zb_Mo_put 1 = .ok (.getfield 18, 3) := by decide +kernel
theorem zd_Mo_put_4 : decode zb_Mo_put 4 = .ok (.aload_n 0, 1) := by decide +kernel
theorem zd_Mo_put_5 : decode zb_Mo_put 5 = .ok (.getfield 45, 3) := by decide +kernel
theorem zd_Mo_put_8 : decode zb_Mo_put 8 = .ok (.iload_n 1, 1) := by decide +kernel
theorem zd_Mo_put_9 : decode zb_Mo_put 9 = .ok (.i2b, 1) := by decide +kernel
theorem zd_Mo_put_10 : decode zb_Mo_put 10 = .ok (.bastore, 1) := by decide +kernel
theorem zd_Mo_put_11 : decode zb_Mo_put 11 = .ok (.aload_n 0, 1) := by decide +kernel
theorem zd_Mo_put_12 : decode zb_Mo_put 12 = .ok (.dup, 1) := by decide +kernel
theorem zd_Mo_put_13 : decode zb_Mo_put 13 = .ok (.getfield 45, 3) := by decide +kernel
theorem zd_Mo_put_16 : decode zb_Mo_put 16 = .ok (.iconst 1, 1) := by decide +kernel
theorem zd_Mo_put_17 : decode zb_Mo_put 17 = .ok (.iadd, 1) := by decide +kernel
theorem zd_Mo_put_18 : decode zb_Mo_put 18 = .ok (.putfield 45, 3) := by decide +kernel
theorem zd_Mo_put_21 : decode zb_Mo_put 21 = .ok (.return_, 1) := by decide +kernel
end
section
theorem zd_Mo_look_0 : decode zb_Mo_look 0 = .ok (.aload_n 0, 1) := by decide +kernel
theorem zd_Mo_look_1 : decode zb_Mo_look 1 = .ok (.iconst 0, 1) := by decide +kernel
theorem zd_Mo_look_2 : decode zb_Mo_look 2 = .ok (.putfield 38, 3) := by decide +kernel
theorem zd_Mo_look_5 : decode zb_Mo_look 5 = .ok (.aload_n 0, 1) := by decide +kernel
theorem zd_Mo_look_6 : decode zb_Mo_look 6 = .ok (.iconst (-1), 1) := by decide +kernel
theorem zd_Mo_look_7 : decode zb_Mo_look 7 = .ok (.putfield 41, 3) := by decide +kernel
theorem zd_Mo_look_10 : decode zb_Mo_look 10 = .ok (.iconst 0, 1) := by decide +kernel
theorem zd_Mo_look_11 : decode zb_Mo_look 11 = .ok (.istore_n 2, 1) := by decide +kernel
theorem zd_Mo_look_12 : decode zb_Mo_look 12 = .ok (.iload_n 2, 1) := by decide +kernel
theorem zd_Mo_look_13 : decode zb_Mo_look 13 = .ok (.aload_n 0, 1) := by decide +kernel
theorem zd_Mo_look_14 : decode zb_Mo_look 14 = .ok (.getfield 38, 3) := by decide +kernel
theorem zd_Mo_look_17 : decode zb_Mo_look 17 = .ok (.iadd, 1) := by decide +kernel
theorem zd_Mo_look_18 : decode zb_Mo_look 18 = .ok (.aload_n 0, 1) := by decide +kernel
theorem zd_Mo_look_19 : decode zb_Mo_look 19 = .ok (.getfield 35, 3) := by decide +kernel
theorem zd_Mo_look_22 : decode zb_Mo_look 22 = .ok (.if_icmp .ge 133, 3) := by decide +kernel
theorem zd_Mo_look_25 : decode zb_Mo_look 25 = .ok (.iload_n 1, 1) := by decide +kernel
theorem zd_Mo_look_26 : decode zb_Mo_look 26 = .ok (.aload_n 0, 1) := by decide +kernel
theorem zd_Mo_look_27 : decode zb_Mo_look 27 = .ok (.getfield 38, 3) := by decide +kernel
theorem zd_Mo_look_30 : decode zb_Mo_look 30 = .ok (.iadd, 1) := by decide +kernel
theorem zd_Mo_look_31 : decode zb_Mo_look 31 = .ok (.aload_n 0, 1) := by decide +kernel
theorem zd_Mo_look_32 : decode zb_Mo_look 32 = .ok (.getfield 28, 3) := by decide +kernel
theorem zd_Mo_look_35 : decode zb_Mo_look 35 = .ok (.if_icmp .ge 120, 3) := by decide +kernel
theorem zd_Mo_look_38 : decode zb_Mo_look 38 = .ok (.aload_n 0, 1) := by decide +kernel
theorem zd_Mo_look_39 : decode zb_Mo_look 39 = .ok (.getfield 38, 3) := by decide +kernel
theorem zd_Mo_look_42 : decode zb_Mo_look 42 = .ok (.ldc 44, 2) := by decide +kernel
theorem zd_Mo_look_44 : decode zb_Mo_look 44 = .ok (.if_icmp .ge 111, 3) := by decide +kernel
theorem zd_Mo_look_47 : decode zb_Mo_look 47 = .ok (.aload_n 0, 1) := by decide +kernel
theorem zd_Mo_look_48 : decode zb_Mo_look 48 = .ok (.getfield 14, 3) := by decide +kernel
theorem zd_Mo_look_51 : decode zb_Mo_look 51 = .ok (.iload_n 2, 1) := by decide +kernel
theorem zd_Mo_look_52 : decode zb_Mo_look 52 = .ok (.aload_n 0, 1) := by decide +kernel
theorem zd_Mo_look_53 : decode zb_Mo_look 53 = .ok (.getfield 38, 3) := by decide +kernel
theorem zd_Mo_look_56 : decode zb_Mo_look 56 = .ok (.iadd, 1) := by decide +kernel
theorem zd_Mo_look_57 : decode zb_Mo_look 57 = .ok (.baload, 1) := by decide +kernel
theorem zd_Mo_look_58 : decode zb_Mo_look 58 = .ok (.aload_n 0, 1) := by decide +kernel
theorem zd_Mo_look_59 : decode zb_Mo_look 59 = .ok (.getfield 8, 3) := by decide +kernel
theorem zd_Mo_look_62 : decode zb_Mo_look 62 = .ok (.iload_n 1, 1) := by decide +kernel
theorem zd_Mo_look_63 : decode zb_Mo_look 63 = .ok (.aload_n 0, 1) := by decide +kernel
theorem zd_Mo_look_64 : decode zb_Mo_look 64 = .ok (.getfield 38, 3) := by decide +kernel
theorem zd_Mo_look_67 : decode zb_Mo_look 67 = .ok (.iadd, 1) := by decide +kernel
theorem zd_Mo_look_68 : decode zb_Mo_look 68 = .ok (.baload, 1) := by decide +kernel
theorem zd_Mo_look_69 : decode zb_Mo_look 69 = .ok (.if_icmp .eq 6, 3) := by decide +kernel
theorem zd_Mo_look_72 : decode zb_Mo_look 72 = .ok (.goto 77, 3) := by decide +kernel
theorem zd_Mo_look_75 : decode zb_Mo_look 75 = .ok (.iconst 0, 1) := by decide +kernel
theorem zd_Mo_look_76 : decode zb_Mo_look 76 = .ok (.istore_n 3, 1) := by decide +kernel
theorem zd_Mo_look_77 : decode zb_Mo_look 77 = .ok (.iload_n 3, 1) := by decide +kernel
theorem zd_Mo_look_78 : decode zb_Mo_look 78 = .ok (.ldc 44, 2) := by decide +kernel
theorem zd_Mo_look_80 : decode zb_Mo_look 80 = .ok (.if_icmp .ge 48, 3) := by decide +kernel
theorem zd_Mo_look_83 : decode zb_Mo_look 83 = .ok (.iload_n 2, 1) := by decide +kernel
theorem zd_Mo_look_84 : decode zb_Mo_look 84 = .ok (.iload_n 3, 1) := by decide +kernel
theorem zd_Mo_look_85 : decode zb_Mo_look 85 = .ok (.iadd, 1) := by decide +kernel
theorem zd_Mo_look_86 : decode zb_Mo_look 86 = .ok (.aload_n 0, 1) := by decide +kernel
theorem zd_Mo_look_87 : decode zb_Mo_look 87 = .ok (.getfield 35, 3) := by decide +kernel
theorem zd_Mo_look_90 : decode zb_Mo_look 90 = .ok (.if_icmp .ge 38, 3) := by decide +kernel
theorem zd_Mo_look_93 : decode zb_Mo_look 93 = .ok (.iload_n 1, 1) := by decide +kernel
theorem zd_Mo_look_94 : decode zb_Mo_look 94 = .ok (.iload_n 3, 1) := by decide +kernel
theorem zd_Mo_look_95 : decode zb_Mo_look 95 = .ok (.iadd, 1) := by decide +kernel
theorem zd_Mo_look_96 : decode zb_Mo_look 96 = .ok (.aload_n 0, 1) := by decide +kernel
theorem zd_Mo_look_97 : decode zb_Mo_look 97 = .ok (.getfield 28, 3) := by decide +kernel
theorem zd_Mo_look_100 : decode zb_Mo_look 100 = .ok (.if_icmp .ge 28, 3) := by decide +kernel
theorem zd_Mo_look_103 : decode zb_Mo_look 103 = .ok (.aload_n 0, 1) := by decide +kernel
theorem zd_Mo_look_104 : decode zb_Mo_look 104 = .ok (.getfield 14, 3) := by decide +kernel
theorem zd_Mo_look_107 : decode zb_Mo_look 107 = .ok (.iload_n 2, 1) := by decide +kernel
theorem zd_Mo_look_108 : decode zb_Mo_look 108 = .ok (.iload_n 3, 1) := by decide +kernel
theorem zd_Mo_look_109 : decode zb_Mo_look 109 = .ok (.iadd, 1) := by decide +kernel
theorem zd_Mo_look_110 : decode zb_Mo_look 110 = .ok (.baload, 1) := by decide +kernel
theorem zd_Mo_look_111 : decode zb_Mo_look 111 = .ok (.aload_n 0, 1) := by decide +kernel
theorem zd_Mo_look_112 : decode zb_Mo_look 112 = .ok (.getfield 8, 3) := by decide +kernel
theorem zd_Mo_look_115 : decode zb_Mo_look 115 = .ok (.iload_n 1, 1) := by decide +kernel
theorem zd_Mo_look_116 : decode zb_Mo_look 116 = .ok (.iload_n 3, 1) := by decide +kernel
theorem zd_Mo_look_117 : decode zb_Mo_look 117 = .ok (.iadd, 1) := by decide +kernel
theorem zd_Mo_look_118 : decode zb_Mo_look 118 = .ok (.baload, 1) := by decide +kernel
theorem zd_Mo_look_119 : decode zb_Mo_look 119 = .ok (.if_icmp .ne 9, 3) := by decide +kernel
theorem zd_Mo_look_122 : decode zb_Mo_look 122 = .ok (.iinc 3 1, 3) := by decide +kernel
theorem zd_Mo_look_125 : decode zb_Mo_look 125 = .ok (.goto (-48), 3) := by decide +kernel
theorem zd_Mo_look_128 : decode zb_Mo_look 128 = .ok (.iload_n 3, 1) := by decide +kernel
theorem zd_Mo_look_129 : decode zb_Mo_look 129 = .ok (.aload_n 0, 1) := by decide +kernel
theorem zd_Mo_look_130 : decode zb_Mo_look 130 = .ok (.getfield 38, 3) := by decide +kernel
theorem zd_Mo_look_133 : decode zb_Mo_look 133 = .ok (.if_icmp .gt 6, 3) := by decide +kernel
theorem zd_Mo_look_136 : decode zb_Mo_look 136 = .ok (.goto 13, 3) := by decide +kernel
theorem zd_Mo_look_139 : decode zb_Mo_look 139 = .ok (.aload_n 0, 1) := by decide +kernel
theorem zd_Mo_look_140 : decode zb_Mo_look 140 = .ok (.iload_n 3, 1) := by decide +kernel
theorem zd_Mo_look_141 : decode zb_Mo_look 141 = .ok (.putfield 38, 3) := by decide +kernel
theorem zd_Mo_look_144 : decode zb_Mo_look 144 = .ok (.aload_n 0, 1) := by decide +kernel
theorem zd_Mo_look_145 : decode zb_Mo_look 145 = .ok (.iload_n 2, 1) := by decide +kernel
theorem zd_Mo_look_146 : decode zb_Mo_look 146 = .ok (.putfield 41, 3) := by decide +kernel
theorem zd_Mo_look_149 : decode zb_Mo_look 149 = .ok (.iinc 2 1, 3) := by decide +kernel
theorem zd_Mo_look_152 : decode zb_Mo_look 152 = .ok (.goto (-140), 3) := by decide +kernel
theorem zd_Mo_look_155 : decode zb_Mo_look 155 = .ok (.return_, 1) := by decide +kernel
theorem zd_Mo_putFresh_0 : decode zb_Mo_putFresh 0 = .ok (.iload_n 1, 1) := by decide +kernel
theorem zd_Mo_putFresh_1 : decode zb_Mo_putFresh 1 = .ok (.istore_n 3, 1) := by decide +kernel
theorem zd_Mo_putFresh_2 : decode zb_Mo_putFresh 2 = .ok (.iload_n 3, 1) := by decide +kernel
theorem zd_Mo_putFresh_3 : decode zb_Mo_putFresh 3 = .ok (.iload_n 2, 1) := by decide +kernel
theorem zd_Mo_putFresh_4 : decode zb_Mo_putFresh 4 = .ok (.if_icmp .ge 64, 3) := by decide +kernel
theorem zd_Mo_putFresh_7 : decode zb_Mo_putFresh 7 = .ok (.iload_n 2, 1) := by decide +kernel
theorem zd_Mo_putFresh_8 : decode zb_Mo_putFresh 8 = .ok (.iload_n 3, 1) := by decide +kernel
theorem zd_Mo_putFresh_9 : decode zb_Mo_putFresh 9 = .ok (.isub, 1) := by decide +kernel
theorem zd_Mo_putFresh_10 : decode zb_Mo_putFresh 10 = .ok (.bipush 127, 2) := by decide +kernel
theorem zd_Mo_putFresh_12 : decode zb_Mo_putFresh 12 = .ok (.if_icmp .le 8, 3) := by decide +kernel
theorem zd_Mo_putFresh_15 : decode zb_Mo_putFresh 15 = .ok (.bipush 127, 2) := by decide +kernel
theorem zd_Mo_putFresh_17 : decode zb_Mo_putFresh 17 = .ok (.goto 6, 3) := by decide +kernel
theorem zd_Mo_putFresh_20 : decode zb_Mo_putFresh 20 = .ok (.iload_n 2, 1) := by decide +kernel
theorem zd_Mo_putFresh_21 : decode zb_Mo_putFresh 21 = .ok (.iload_n 3, 1) := by decide +kernel
theorem zd_Mo_putFresh_22 : decode zb_Mo_putFresh 22 = .ok (.isub, 1) := by decide +kernel
theorem zd_Mo_putFresh_23 : decode zb_Mo_putFresh 23 = .ok (.istore 4, 2) := by decide +kernel
theorem zd_Mo_putFresh_25 : decode zb_Mo_putFresh 25 = .ok (.aload_n 0, 1) := by decide +kernel
theorem zd_Mo_putFresh_26 : decode zb_Mo_putFresh 26 = .ok (.iload 4, 2) := by decide +kernel
theorem zd_Mo_putFresh_28 : decode zb_Mo_putFresh 28 = .ok (.invokevirtual 48, 3) := by decide +kernel
theorem zd_Mo_putFresh_31 : decode zb_Mo_putFresh 31 = .ok (.iconst 0, 1) := by decide +kernel
theorem zd_Mo_putFresh_32 : decode zb_Mo_putFresh 32 = .ok (.istore 5, 2) := by decide +kernel
theorem zd_Mo_putFresh_34 : decode zb_Mo_putFresh 34 = .ok (.iload 5, 2) := by decide +kernel
theorem zd_Mo_putFresh_36 : decode zb_Mo_putFresh 36 = .ok (.iload 4, 2) := by decide +kernel
theorem zd_Mo_putFresh_38 : decode zb_Mo_putFresh 38 = .ok (.if_icmp .ge 22, 3) := by decide +kernel
theorem zd_Mo_putFresh_41 : decode zb_Mo_putFresh 41 = .ok (.aload_n 0, 1) := by decide +kernel
theorem zd_Mo_putFresh_42 : decode zb_Mo_putFresh 42 = .ok (.aload_n 0, 1) := by decide +kernel
theorem zd_Mo_putFresh_43 : decode zb_Mo_putFresh 43 = .ok (.getfield 8, 3) := by decide +kernel
theorem zd_Mo_putFresh_46 : decode zb_Mo_putFresh 46 = .ok (.iload_n 3, 1) := by decide +kernel
theorem zd_Mo_putFresh_47 : decode zb_Mo_putFresh 47 = .ok (.iload 5, 2) := by decide +kernel
theorem zd_Mo_putFresh_49 : decode zb_Mo_putFresh 49 = .ok (.iadd, 1) := by decide +kernel
theorem zd_Mo_putFresh_50 : decode zb_Mo_putFresh 50 = .ok (.baload, 1) := by decide +kernel
theorem zd_Mo_putFresh_51 : decode zb_Mo_putFresh 51 = .ok (.invokevirtual 48, 3) := by decide +kernel
theorem zd_Mo_putFresh_54 : decode zb_Mo_putFresh 54 = .ok (.iinc 5 1, 3) := by decide +kernel
theorem zd_Mo_putFresh_57 : decode zb_Mo_putFresh 57 = .ok (.goto (-23), 3) := by decide +kernel
theorem zd_Mo_putFresh_60 : decode zb_Mo_putFresh 60 = .ok (.iload_n 3, 1) := by decide +kernel
theorem zd_Mo_putFresh_61 : decode zb_Mo_putFresh 61 = .ok (.iload 4, 2) := by decide +kernel
theorem zd_Mo_putFresh_63 : decode zb_Mo_putFresh 63 = .ok (.iadd, 1) := by decide +kernel
theorem zd_Mo_putFresh_64 : decode zb_Mo_putFresh 64 = .ok (.istore_n 3, 1) := by decide +kernel
theorem zd_Mo_putFresh_65 : decode zb_Mo_putFresh 65 = .ok (.goto (-63), 3) := by decide +kernel
theorem zd_Mo_putFresh_68 : decode zb_Mo_putFresh 68 = .ok (.aload_n 0, 1) := by decide +kernel
theorem zd_Mo_putFresh_69 : decode zb_Mo_putFresh 69 = .ok (.dup, 1) := by decide +kernel
theorem zd_Mo_putFresh_70 : decode zb_Mo_putFresh 70 = .ok (.getfield 55, 3) := by decide +kernel
theorem zd_Mo_putFresh_73 : decode zb_Mo_putFresh 73 = .ok (.iload_n 2, 1) := by decide +kernel
theorem zd_Mo_putFresh_74 : decode zb_Mo_putFresh 74 = .ok (.iload_n 1, 1) := by decide +kernel
theorem zd_Mo_putFresh_75 : decode zb_Mo_putFresh 75 = .ok (.isub, 1) := by decide +kernel
theorem zd_Mo_putFresh_76 : decode zb_Mo_putFresh 76 = .ok (.iadd, 1) := by decide +kernel
theorem zd_Mo_putFresh_77 : decode zb_Mo_putFresh 77 = .ok (.putfield 55, 3) := by decide +kernel
theorem zd_Mo_putFresh_80 : decode zb_Mo_putFresh 80 = .ok (.return_, 1) := by decide +kernel
theorem zd_Mo_putCopy_0 : decode zb_Mo_putCopy 0 = .ok (.sipush 128, 3) := by decide +kernel
theorem zd_Mo_putCopy_3 : decode zb_Mo_putCopy 3 = .ok (.istore_n 1, 1) := by decide +kernel
theorem zd_Mo_putCopy_4 : decode zb_Mo_putCopy 4 = .ok (.iconst 0, 1) := by decide +kernel
theorem zd_Mo_putCopy_5 : decode zb_Mo_putCopy 5 = .ok (.istore_n 2, 1) := by decide +kernel
theorem zd_Mo_putCopy_6 : decode zb_Mo_putCopy 6 = .ok (.iload_n 2, 1) := by decide +kernel
theorem zd_Mo_putCopy_7 : decode zb_Mo_putCopy 7 = .ok (.iconst 4, 1) := by decide +kernel
theorem zd_Mo_putCopy_8 : decode zb_Mo_putCopy 8 = .ok (.if_icmp .ge 31, 3) := by decide +kernel
theorem zd_Mo_putCopy_11 : decode zb_Mo_putCopy 11 = .ok (.aload_n 0, 1) := by decide +kernel
theorem zd_Mo_putCopy_12 : decode zb_Mo_putCopy 12 = .ok (.getfield 41, 3) := by decide +kernel
theorem zd_Mo_putCopy_15 : decode zb_Mo_putCopy 15 = .ok (.bipush 8, 2) := by decide +kernel
theorem zd_Mo_putCopy_17 : decode zb_Mo_putCopy 17 = .ok (.iload_n 2, 1) := by decide +kernel
theorem zd_Mo_putCopy_18 : decode zb_Mo_putCopy 18 = .ok (.imul, 1) := by decide +kernel
theorem zd_Mo_putCopy_19 : decode zb_Mo_putCopy 19 = .ok (.iushr, 1) := by decide +kernel
theorem zd_Mo_putCopy_20 : decode zb_Mo_putCopy 20 = .ok (.sipush 255, 3) := by decide +kernel
theorem zd_Mo_putCopy_23 : decode zb_Mo_putCopy 23 = .ok (.iand, 1) := by decide +kernel
theorem zd_Mo_putCopy_24 : decode zb_Mo_putCopy 24 = .ok (.ifCond .eq 9, 3) := by decide +kernel
theorem zd_Mo_putCopy_27 : decode zb_Mo_putCopy 27 = .ok (.iload_n 1, 1) := by decide +kernel
theorem zd_Mo_putCopy_28 : decode zb_Mo_putCopy 28 = .ok (.iconst 1, 1) := by decide +kernel
theorem zd_Mo_putCopy_29 : decode zb_Mo_putCopy 29 = .ok (.iload_n 2, 1) := by decide +kernel
theorem zd_Mo_putCopy_30 : decode zb_Mo_putCopy 30 = .ok (.ishl, 1) := by decide +kernel
theorem zd_Mo_putCopy_31 : decode zb_Mo_putCopy 31 = .ok (.iadd, 1) := by decide +kernel
theorem zd_Mo_putCopy_32 : decode zb_Mo_putCopy 32 = .ok (.istore_n 1, 1) := by decide +kernel
theorem zd_Mo_putCopy_33 : decode zb_Mo_putCopy 33 = .ok (.iinc 2 1, 3) := by decide +kernel
theorem zd_Mo_putCopy_36 : decode zb_Mo_putCopy 36 = .ok (.goto (-30), 3) := by decide +kernel
theorem zd_Mo_putCopy_39 : decode zb_Mo_putCopy 39 = .ok (.iconst 0, 1) := by decide +kernel
theorem zd_Mo_putCopy_40 : decode zb_Mo_putCopy 40 = .ok (.istore_n 2, 1) := by decide +kernel
theorem zd_Mo_putCopy_41 : decode zb_Mo_putCopy 41 = .ok (.iload_n 2, 1) := by decide +kernel
theorem zd_Mo_putCopy_42 : decode zb_Mo_putCopy 42 = .ok (.iconst 2, 1) := by decide +kernel
theorem zd_Mo_putCopy_43 : decode zb_Mo_putCopy 43 = .ok (.if_icmp .ge 32, 3) := by decide +kernel
theorem zd_Mo_putCopy_46 : decode zb_Mo_putCopy 46 = .ok (.aload_n 0, 1) := by decide +kernel
theorem zd_Mo_putCopy_47 : decode zb_Mo_putCopy 47 = .ok (.getfield 38, 3) := by decide +kernel
theorem zd_Mo_putCopy_50 : decode zb_Mo_putCopy 50 = .ok (.bipush 8, 2) := by decide +kernel
theorem zd_Mo_putCopy_52 : decode zb_Mo_putCopy 52 = .ok (.iload_n 2, 1) := by decide +kernel
theorem zd_Mo_putCopy_53 : decode zb_Mo_putCopy 53 = .ok (.imul, 1) := by decide +kernel
theorem zd_Mo_putCopy_54 : decode zb_Mo_putCopy 54 = .ok (.iushr, 1) := by decide +kernel
theorem zd_Mo_putCopy_55 : decode zb_Mo_putCopy 55 = .ok (.sipush 255, 3) := by decide +kernel
theorem zd_Mo_putCopy_58 : decode zb_Mo_putCopy 58 = .ok (.iand, 1) := by decide +kernel
theorem zd_Mo_putCopy_59 : decode zb_Mo_putCopy 59 = .ok (.ifCond .eq 10, 3) := by decide +kernel
theorem zd_Mo_putCopy_62 : decode zb_Mo_putCopy 62 = .ok (.iload_n 1, 1) := by decide +kernel
theorem zd_Mo_putCopy_63 : decode zb_Mo_putCopy 63 = .ok (.bipush 16, 2) := by decide +kernel
theorem zd_Mo_putCopy_65 : decode zb_Mo_putCopy 65 = .ok (.iload_n 2, 1) := by decide +kernel
theorem zd_Mo_putCopy_66 : decode zb_Mo_putCopy 66 = .ok (.ishl, 1) := by decide +kernel
theorem zd_Mo_putCopy_67 : decode zb_Mo_putCopy 67 = .ok (.iadd, 1) := by decide +kernel
theorem zd_Mo_putCopy_68 : decode zb_Mo_putCopy 68 = .ok (.istore_n 1, 1) := by decide +kernel
theorem zd_Mo_putCopy_69 : decode zb_Mo_putCopy 69 = .ok (.iinc 2 1, 3) := by decide +kernel
theorem zd_Mo_putCopy_72 : decode zb_Mo_putCopy 72 = .ok (.goto (-31), 3) := by decide +kernel
theorem zd_Mo_putCopy_75 : decode zb_Mo_putCopy 75 = .ok (.aload_n 0, 1) := by decide +kernel
theorem zd_Mo_putCopy_76 : decode zb_Mo_putCopy 76 = .ok (.iload_n 1, 1) := by decide +kernel
theorem zd_Mo_putCopy_77 : decode zb_Mo_putCopy 77 = .ok (.invokevirtual 48, 3) := by decide +kernel
theorem zd_Mo_putCopy_80 : decode zb_Mo_putCopy 80 = .ok (.iconst 0, 1) := by decide +kernel
theorem zd_Mo_putCopy_81 : decode zb_Mo_putCopy 81 = .ok (.istore_n 2, 1) := by decide +kernel
theorem zd_Mo_putCopy_82 : decode zb_Mo_putCopy 82 = .ok (.iload_n 2, 1) := by decide +kernel
theorem zd_Mo_putCopy_83 : decode zb_Mo_putCopy 83 = .ok (.iconst 4, 1) := by decide +kernel
theorem zd_Mo_putCopy_84 : decode zb_Mo_putCopy 84 = .ok (.if_icmp .ge 30, 3) := by decide +kernel
theorem zd_Mo_putCopy_87 : decode zb_Mo_putCopy 87 = .ok (.iload_n 1, 1) := by decide +kernel
theorem zd_Mo_putCopy_88 : decode zb_Mo_putCopy 88 = .ok (.iload_n 2, 1) := by decide +kernel
theorem zd_Mo_putCopy_89 : decode zb_Mo_putCopy 89 = .ok (.iushr, 1) := by decide +kernel
theorem zd_Mo_putCopy_90 : decode zb_Mo_putCopy 90 = .ok (.iconst 1, 1) := by decide +kernel
theorem zd_Mo_putCopy_91 : decode zb_Mo_putCopy 91 = .ok (.iand, 1) := by decide +kernel
theorem zd_Mo_putCopy_92 : decode zb_Mo_putCopy 92 = .ok (.ifCond .eq 16, 3) := by decide +kernel
theorem zd_Mo_putCopy_95 : decode zb_Mo_putCopy 95 = .ok (.aload_n 0, 1) := by decide +kernel
theorem zd_Mo_putCopy_96 : decode zb_Mo_putCopy 96 = .ok (.aload_n 0, 1) := by decide +kernel
theorem zd_Mo_putCopy_97 : decode zb_Mo_putCopy 97 = .ok (.getfield 41, 3) := by decide +kernel
theorem zd_Mo_putCopy_100 : decode zb_Mo_putCopy 100 = .ok (.bipush 8, 2) := by decide +kernel
theorem zd_Mo_putCopy_102 : decode zb_Mo_putCopy 102 = .ok (.iload_n 2, 1) := by decide +kernel
theorem zd_Mo_putCopy_103 : decode zb_Mo_putCopy 103 = .ok (.imul, 1) := by decide +kernel
theorem zd_Mo_putCopy_104 : decode zb_Mo_putCopy 104 = .ok (.iushr, 1) := by decide +kernel
theorem zd_Mo_putCopy_105 : decode zb_Mo_putCopy 105 = .ok (.invokevirtual 48, 3) := by decide +kernel
theorem zd_Mo_putCopy_108 : decode zb_Mo_putCopy 108 = .ok (.iinc 2 1, 3) := by decide +kernel
theorem zd_Mo_putCopy_111 : decode zb_Mo_putCopy 111 = .ok (.goto (-29), 3) := by decide +kernel
theorem zd_Mo_putCopy_114 : decode zb_Mo_putCopy 114 = .ok (.iconst 0, 1) := by decide +kernel
theorem zd_Mo_putCopy_115 : decode zb_Mo_putCopy 115 = .ok (.istore_n 2, 1) := by decide +kernel
theorem zd_Mo_putCopy_116 : decode zb_Mo_putCopy 116 = .ok (.iload_n 2, 1) := by decide +kernel
theorem zd_Mo_putCopy_117 : decode zb_Mo_putCopy 117 = .ok (.iconst 2, 1) := by decide +kernel
theorem zd_Mo_putCopy_118 : decode zb_Mo_putCopy 118 = .ok (.if_icmp .ge 32, 3) := by decide +kernel
theorem zd_Mo_putCopy_121 : decode zb_Mo_putCopy 121 = .ok (.iload_n 1, 1) := by decide +kernel
theorem zd_Mo_putCopy_122 : decode zb_Mo_putCopy 122 = .ok (.iconst 4, 1) := by decide +kernel
theorem zd_Mo_putCopy_123 : decode zb_Mo_putCopy 123 = .ok (.iload_n 2, 1) := by decide +kernel
theorem zd_Mo_putCopy_124 : decode zb_Mo_putCopy 124 = .ok (.iadd, 1) := by decide +kernel
theorem zd_Mo_putCopy_125 : decode zb_Mo_putCopy 125 = .ok (.iushr, 1) := by decide +kernel
theorem zd_Mo_putCopy_126 : decode zb_Mo_putCopy 126 = .ok (.iconst 1, 1) := by decide +kernel
theorem zd_Mo_putCopy_127 : decode zb_Mo_putCopy 127 = .ok (.iand, 1) := by decide +kernel
theorem zd_Mo_putCopy_128 : decode zb_Mo_putCopy 128 = .ok (.ifCond .eq 16, 3) := by decide +kernel
theorem zd_Mo_putCopy_131 : decode zb_Mo_putCopy 131 = .ok (.aload_n 0, 1) := by decide +kernel
theorem zd_Mo_putCopy_132 : decode zb_Mo_putCopy 132 = .ok (.aload_n 0, 1) := by decide +kernel
theorem zd_Mo_putCopy_133 : decode zb_Mo_putCopy 133 = .ok (.getfield 38, 3) := by decide +kernel
theorem zd_Mo_putCopy_136 : decode zb_Mo_putCopy 136 = .ok (.bipush 8, 2) := by decide +kernel
theorem zd_Mo_putCopy_138 : decode zb_Mo_putCopy 138 = .ok (.iload_n 2, 1) := by decide +kernel
theorem zd_Mo_putCopy_139 : decode zb_Mo_putCopy 139 = .ok (.imul, 1) := by decide +kernel
theorem zd_Mo_putCopy_140 : decode zb_Mo_putCopy 140 = .ok (.iushr, 1) := by decide +kernel
theorem zd_Mo_putCopy_141 : decode zb_Mo_putCopy 141 = .ok (.invokevirtual 48, 3) := by decide +kernel
theorem zd_Mo_putCopy_144 : decode zb_Mo_putCopy 144 = .ok (.iinc 2 1, 3) := by decide +kernel
theorem zd_Mo_putCopy_147 : decode zb_Mo_putCopy 147 = .ok (.goto (-31), 3) := by decide +kernel
theorem zd_Mo_putCopy_150 : decode zb_Mo_putCopy 150 = .ok (.aload_n 0, 1) := by decide +kernel
theorem zd_Mo_putCopy_151 : decode zb_Mo_putCopy 151 = .ok (.dup, 1) := by decide +kernel
theorem zd_Mo_putCopy_152 : decode zb_Mo_putCopy 152 = .ok (.getfield 52, 3) := by decide +kernel
theorem zd_Mo_putCopy_155 : decode zb_Mo_putCopy 155 = .ok (.iconst 1, 1) := by decide +kernel
theorem zd_Mo_putCopy_156 : decode zb_Mo_putCopy 156 = .ok (.iadd, 1) := by decide +kernel
theorem zd_Mo_putCopy_157 : decode zb_Mo_putCopy 157 = .ok (.putfield 52, 3) := by decide +kernel
theorem zd_Mo_putCopy_160 : decode zb_Mo_putCopy 160 = .ok (.return_, 1) := by decide +kernel
theorem zd_Mo_use_0 : decode zb_Mo_use 0 = .ok (.aload_n 0, 1) := by decide +kernel
theorem zd_Mo_use_1 : decode zb_Mo_use 1 = .ok (.iconst 0, 1) := by decide +kernel
theorem zd_Mo_use_2 : decode zb_Mo_use 2 = .ok (.putfield 24, 3) := by decide +kernel
theorem zd_Mo_use_5 : decode zb_Mo_use 5 = .ok (.aload_n 0, 1) := by decide +kernel
theorem zd_Mo_use_6 : decode zb_Mo_use 6 = .ok (.iconst 0, 1) := by decide +kernel
theorem zd_Mo_use_7 : decode zb_Mo_use 7 = .ok (.putfield 71, 3) := by decide +kernel
theorem zd_Mo_use_10 : decode zb_Mo_use 10 = .ok (.aload_n 0, 1) := by decide +kernel
theorem zd_Mo_use_11 : decode zb_Mo_use 11 = .ok (.iconst 0, 1) := by decide +kernel
theorem zd_Mo_use_12 : decode zb_Mo_use 12 = .ok (.putfield 74, 3) := by decide +kernel
theorem zd_Mo_use_15 : decode zb_Mo_use 15 = .ok (.aload_n 0, 1) := by decide +kernel
theorem zd_Mo_use_16 : decode zb_Mo_use 16 = .ok (.iconst 0, 1) := by decide +kernel
theorem zd_Mo_use_17 : decode zb_Mo_use 17 = .ok (.putfield 82, 3) := by decide +kernel
theorem zd_Mo_use_20 : decode zb_Mo_use 20 = .ok (.aload_n 0, 1) := by decide +kernel
theorem zd_Mo_use_21 : decode zb_Mo_use 21 = .ok (.invokevirtual 89, 3) := by decide +kernel
theorem zd_Mo_use_24 : decode zb_Mo_use 24 = .ok (.istore_n 1, 1) := by decide +kernel
theorem zd_Mo_use_25 : decode zb_Mo_use 25 = .ok (.aload_n 0, 1) := by decide +kernel
theorem zd_Mo_use_26 : decode zb_Mo_use 26 = .ok (.invokevirtual 89, 3) := by decide +kernel
theorem zd_Mo_use_29 : decode zb_Mo_use 29 = .ok (.istore_n 2, 1) := by decide +kernel
theorem zd_Mo_use_30 : decode zb_Mo_use 30 = .ok (.iload_n 1, 1) := by decide +kernel
theorem zd_Mo_use_31 : decode zb_Mo_use 31 = .ok (.aload_n 0, 1) := by decide +kernel
theorem zd_Mo_use_32 : decode zb_Mo_use 32 = .ok (.getfield 35, 3) := by decide +kernel
theorem zd_Mo_use_35 : decode zb_Mo_use 35 = .ok (.if_icmp .ne 9, 3) := by decide +kernel
theorem zd_Mo_use_38 : decode zb_Mo_use 38 = .ok (.iload_n 2, 1) := by decide +kernel
theorem zd_Mo_use_39 : decode zb_Mo_use 39 = .ok (.ldc 7, 2) := by decide +kernel
theorem zd_Mo_use_41 : decode zb_Mo_use 41 = .ok (.if_icmp .le 8, 3) := by decide +kernel
theorem zd_Mo_use_44 : decode zb_Mo_use 44 = .ok (.aload_n 0, 1) := by decide +kernel
theorem zd_Mo_use_45 : decode zb_Mo_use 45 = .ok (.iconst 1, 1) := by decide +kernel
theorem zd_Mo_use_46 : decode zb_Mo_use 46 = .ok (.putfield 74, 3) := by decide +kernel
theorem zd_Mo_use_49 : decode zb_Mo_use 49 = .ok (.aload_n 0, 1) := by decide +kernel
theorem zd_Mo_use_50 : decode zb_Mo_use 50 = .ok (.getfield 74, 3) := by decide +kernel
theorem zd_Mo_use_53 : decode zb_Mo_use 53 = .ok (.ifCond .ne 22, 3) := by decide +kernel
theorem zd_Mo_use_56 : decode zb_Mo_use 56 = .ok (.aload_n 0, 1) := by decide +kernel
theorem zd_Mo_use_57 : decode zb_Mo_use 57 = .ok (.getfield 71, 3) := by decide +kernel
theorem zd_Mo_use_60 : decode zb_Mo_use 60 = .ok (.aload_n 0, 1) := by decide +kernel
theorem zd_Mo_use_61 : decode zb_Mo_use 61 = .ok (.getfield 28, 3) := by decide +kernel
theorem zd_Mo_use_64 : decode zb_Mo_use 64 = .ok (.if_icmp .ge 11, 3) := by decide +kernel
theorem zd_Mo_use_67 : decode zb_Mo_use 67 = .ok (.aload_n 0, 1) := by decide +kernel
theorem zd_Mo_use_68 : decode zb_Mo_use 68 = .ok (.iload_n 2, 1) := by decide +kernel
theorem zd_Mo_use_69 : decode zb_Mo_use 69 = .ok (.invokevirtual 92, 3) := by decide +kernel
theorem zd_Mo_use_72 : decode zb_Mo_use 72 = .ok (.goto (-23), 3) := by decide +kernel
theorem zd_Mo_use_75 : decode zb_Mo_use 75 = .ok (.aload_n 0, 1) := by decide +kernel
theorem zd_Mo_use_76 : decode zb_Mo_use 76 = .ok (.getfield 74, 3) := by decide +kernel
theorem zd_Mo_use_79 : decode zb_Mo_use 79 = .ok (.ifCond .ne 11, 3) := by decide +kernel
theorem zd_Mo_use_82 : decode zb_Mo_use 82 = .ok (.aload_n 0, 1) := by decide +kernel
theorem zd_Mo_use_83 : decode zb_Mo_use 83 = .ok (.getfield 82, 3) := by decide +kernel
theorem zd_Mo_use_86 : decode zb_Mo_use 86 = .ok (.iload_n 2, 1) := by decide +kernel
theorem zd_Mo_use_87 : decode zb_Mo_use 87 = .ok (.if_icmp .eq 19, 3) := by decide +kernel
theorem zd_Mo_use_90 : decode zb_Mo_use 90 = .ok (.aload_n 0, 1) := by decide +kernel
theorem zd_Mo_use_91 : decode zb_Mo_use 91 = .ok (.dup, 1) := by decide +kernel
theorem zd_Mo_use_92 : decode zb_Mo_use 92 = .ok (.getfield 95, 3) := by decide +kernel
theorem zd_Mo_use_95 : decode zb_Mo_use 95 = .ok (.iconst 1, 1) := by decide +kernel
theorem zd_Mo_use_96 : decode zb_Mo_use 96 = .ok (.iadd, 1) := by decide +kernel
theorem zd_Mo_use_97 : decode zb_Mo_use 97 = .ok (.putfield 95, 3) := by decide +kernel
theorem zd_Mo_use_100 : decode zb_Mo_use 100 = .ok (.aload_n 0, 1) := by decide +kernel
theorem zd_Mo_use_101 : decode zb_Mo_use 101 = .ok (.iconst 1, 1) := by decide +kernel
theorem zd_Mo_use_102 : decode zb_Mo_use 102 = .ok (.invokevirtual 31, 3) := by decide +kernel
theorem zd_Mo_use_105 : decode zb_Mo_use 105 = .ok (.ireturn, 1) := by decide +kernel
theorem zd_Mo_use_106 : decode zb_Mo_use 106 = .ok (.iconst 0, 1) := by decide +kernel
theorem zd_Mo_use_107 : decode zb_Mo_use 107 = .ok (.istore_n 3, 1) := by decide +kernel
theorem zd_Mo_use_108 : decode zb_Mo_use 108 = .ok (.iload_n 3, 1) := by decide +kernel
theorem zd_Mo_use_109 : decode zb_Mo_use 109 = .ok (.aload_n 0, 1) := by decide +kernel
theorem zd_Mo_use_110 : decode zb_Mo_use 110 = .ok (.getfield 82, 3) := by decide +kernel
theorem zd_Mo_use_113 : decode zb_Mo_use 113 = .ok (.if_icmp .ge 21, 3) := by decide +kernel
theorem zd_Mo_use_116 : decode zb_Mo_use 116 = .ok (.aload_n 0, 1) := by decide +kernel
theorem zd_Mo_use_117 : decode zb_Mo_use 117 = .ok (.getfield 18, 3) := by decide +kernel
theorem zd_Mo_use_120 : decode zb_Mo_use 120 = .ok (.iload_n 3, 1) := by decide +kernel
theorem zd_Mo_use_121 : decode zb_Mo_use 121 = .ok (.aload_n 0, 1) := by decide +kernel
theorem zd_Mo_use_122 : decode zb_Mo_use 122 = .ok (.getfield 21, 3) := by decide +kernel
theorem zd_Mo_use_125 : decode zb_Mo_use 125 = .ok (.iload_n 3, 1) := by decide +kernel
theorem zd_Mo_use_126 : decode zb_Mo_use 126 = .ok (.baload, 1) := by decide +kernel
theorem zd_Mo_use_127 : decode zb_Mo_use 127 = .ok (.bastore, 1) := by decide +kernel
theorem zd_Mo_use_128 : decode zb_Mo_use 128 = .ok (.iinc 3 1, 3) := by decide +kernel
theorem zd_Mo_use_131 : decode zb_Mo_use 131 = .ok (.goto (-23), 3) := by decide +kernel
theorem zd_Mo_use_134 : decode zb_Mo_use 134 = .ok (.aload_n 0, 1) := by decide +kernel
theorem zd_Mo_use_135 : decode zb_Mo_use 135 = .ok (.aload_n 0, 1) := by decide +kernel
theorem zd_Mo_use_136 : decode zb_Mo_use 136 = .ok (.getfield 82, 3) := by decide +kernel
theorem zd_Mo_use_139 : decode zb_Mo_use 139 = .ok (.putfield 45, 3) := by decide +kernel
theorem zd_Mo_use_142 : decode zb_Mo_use 142 = .ok (.aload_n 0, 1) := by decide +kernel
theorem zd_Mo_use_143 : decode zb_Mo_use 143 = .ok (.getfield 45, 3) := by decide +kernel
theorem zd_Mo_use_146 : decode zb_Mo_use 146 = .ok (.ireturn, 1) := by decide +kernel
theorem zd_Mo_number_0 : decode zb_Mo_number 0 = .ok (.iconst 0, 1) := by decide +kernel
theorem zd_Mo_number_1 : decode zb_Mo_number 1 = .ok (.istore_n 1, 1) := by decide +kernel
theorem zd_Mo_number_2 : decode zb_Mo_number 2 = .ok (.iconst 0, 1) := by decide +kernel
theorem zd_Mo_number_3 : decode zb_Mo_number 3 = .ok (.istore_n 2, 1) := by decide +kernel
theorem zd_Mo_number_4 : decode zb_Mo_number 4 = .ok (.iload_n 2, 1) := by decide +kernel
theorem zd_Mo_number_5 : decode zb_Mo_number 5 = .ok (.iconst 4, 1) := by decide +kernel
theorem zd_Mo_number_6 : decode zb_Mo_number 6 = .ok (.if_icmp .ge 35, 3) := by decide +kernel
theorem zd_Mo_number_9 : decode zb_Mo_number 9 = .ok (.aload_n 0, 1) := by decide +kernel
theorem zd_Mo_number_10 : decode zb_Mo_number 10 = .ok (.invokevirtual 78, 3) := by decide +kernel
theorem zd_Mo_number_13 : decode zb_Mo_number 13 = .ok (.istore_n 3, 1) := by decide +kernel
theorem zd_Mo_number_14 : decode zb_Mo_number 14 = .ok (.iload_n 1, 1) := by decide +kernel
theorem zd_Mo_number_15 : decode zb_Mo_number 15 = .ok (.iload_n 3, 1) := by decide +kernel
theorem zd_Mo_number_16 : decode zb_Mo_number 16 = .ok (.bipush 127, 2) := by decide +kernel
theorem zd_Mo_number_18 : decode zb_Mo_number 18 = .ok (.iand, 1) := by decide +kernel
theorem zd_Mo_number_19 : decode zb_Mo_number 19 = .ok (.bipush 7, 2) := by decide +kernel
theorem zd_Mo_number_21 : decode zb_Mo_number 21 = .ok (.iload_n 2, 1) := by decide +kernel
theorem zd_Mo_number_22 : decode zb_Mo_number 22 = .ok (.imul, 1) := by decide +kernel
theorem zd_Mo_number_23 : decode zb_Mo_number 23 = .ok (.ishl, 1) := by decide +kernel
theorem zd_Mo_number_24 : decode zb_Mo_number 24 = .ok (.iadd, 1) := by decide +kernel
theorem zd_Mo_number_25 : decode zb_Mo_number 25 = .ok (.istore_n 1, 1) := by decide +kernel
theorem zd_Mo_number_26 : decode zb_Mo_number 26 = .ok (.iload_n 3, 1) := by decide +kernel
theorem zd_Mo_number_27 : decode zb_Mo_number 27 = .ok (.sipush 128, 3) := by decide +kernel
theorem zd_Mo_number_30 : decode zb_Mo_number 30 = .ok (.if_icmp .ge 5, 3) := by decide +kernel
theorem zd_Mo_number_33 : decode zb_Mo_number 33 = .ok (.iload_n 1, 1) := by decide +kernel
theorem zd_Mo_number_34 : decode zb_Mo_number 34 = .ok (.ireturn, 1) := by decide +kernel
theorem zd_Mo_number_35 : decode zb_Mo_number 35 = .ok (.iinc 2 1, 3) := by decide +kernel
theorem zd_Mo_number_38 : decode zb_Mo_number 38 = .ok (.goto (-34), 3) := by decide +kernel
theorem zd_Mo_number_41 : decode zb_Mo_number 41 = .ok (.aload_n 0, 1) := by decide +kernel
theorem zd_Mo_number_42 : decode zb_Mo_number 42 = .ok (.iconst 1, 1) := by decide +kernel
theorem zd_Mo_number_43 : decode zb_Mo_number 43 = .ok (.putfield 74, 3) := by decide +kernel
theorem zd_Mo_number_46 : decode zb_Mo_number 46 = .ok (.iconst 0, 1) := by decide +kernel
theorem zd_Mo_number_47 : decode zb_Mo_number 47 = .ok (.ireturn, 1) := by decide +kernel
theorem zd_Mo_next_0 : decode zb_Mo_next 0 = .ok (.aload_n 0, 1) := by decide +kernel
theorem zd_Mo_next_1 : decode zb_Mo_next 1 = .ok (.getfield 71, 3) := by decide +kernel
theorem zd_Mo_next_4 : decode zb_Mo_next 4 = .ok (.aload_n 0, 1) := by decide +kernel
theorem zd_Mo_next_5 : decode zb_Mo_next 5 = .ok (.getfield 28, 3) := by decide +kernel
theorem zd_Mo_next_8 : decode zb_Mo_next 8 = .ok (.if_icmp .lt 8, 3) := by decide +kernel
theorem zd_Mo_next_11 : decode zb_Mo_next 11 = .ok (.aload_n 0, 1) := by decide +kernel
theorem zd_Mo_next_12 : decode zb_Mo_next 12 = .ok (.iconst 1, 1) := by decide +kernel
theorem zd_Mo_next_13 : decode zb_Mo_next 13 = .ok (.putfield 74, 3) := by decide +kernel
theorem zd_Mo_next_16 : decode zb_Mo_next 16 = .ok (.aload_n 0, 1) := by decide +kernel
theorem zd_Mo_next_17 : decode zb_Mo_next 17 = .ok (.getfield 74, 3) := by decide +kernel
theorem zd_Mo_next_20 : decode zb_Mo_next 20 = .ok (.ifCond .eq 5, 3) := by decide +kernel
theorem zd_Mo_next_23 : decode zb_Mo_next 23 = .ok (.iconst 0, 1) := by decide +kernel
theorem zd_Mo_next_24 : decode zb_Mo_next 24 = .ok (.ireturn, 1) := by decide +kernel
theorem zd_Mo_next_25 : decode zb_Mo_next 25 = .ok (.aload_n 0, 1) := by decide +kernel
theorem zd_Mo_next_26 : decode zb_Mo_next 26 = .ok (.dup, 1) := by decide +kernel
theorem zd_Mo_next_27 : decode zb_Mo_next 27 = .ok (.getfield 71, 3) := by decide +kernel
theorem zd_Mo_next_30 : decode zb_Mo_next 30 = .ok (.iconst 1, 1) := by decide +kernel
theorem zd_Mo_next_31 : decode zb_Mo_next 31 = .ok (.iadd, 1) := by decide +kernel
theorem zd_Mo_next_32 : decode zb_Mo_next 32 = .ok (.putfield 71, 3) := by decide +kernel
theorem zd_Mo_next_35 : decode zb_Mo_next 35 = .ok (.aload_n 0, 1) := by decide +kernel
theorem zd_Mo_next_36 : decode zb_Mo_next 36 = .ok (.getfield 8, 3) := by decide +kernel
theorem zd_Mo_next_39 : decode zb_Mo_next 39 = .ok (.aload_n 0, 1) := by decide +kernel
theorem zd_Mo_next_40 : decode zb_Mo_next 40 = .ok (.getfield 71, 3) := by decide +kernel
theorem zd_Mo_next_43 : decode zb_Mo_next 43 = .ok (.iconst 1, 1) := by decide +kernel
theorem zd_Mo_next_44 : decode zb_Mo_next 44 = .ok (.isub, 1) := by decide +kernel
theorem zd_Mo_next_45 : decode zb_Mo_next 45 = .ok (.baload, 1) := by decide +kernel
theorem zd_Mo_next_46 : decode zb_Mo_next 46 = .ok (.sipush 255, 3) := by decide +kernel
theorem zd_Mo_next_49 : decode zb_Mo_next 49 = .ok (.iand, 1) := by decide +kernel
theorem zd_Mo_next_50 : decode zb_Mo_next 50 = .ok (.ireturn, 1) := by decide +kernel
end
section
theorem zd_Mo_part_0 : decode zb_Mo_part 0 = .ok (.aload_n 0, 1) := by decide +kernel
theorem zd_Mo_part_1 : decode zb_Mo_part 1 = .ok (.invokevirtual 78, 3) := by decide +kernel
theorem zd_Mo_part_4 : decode zb_Mo_part 4 = .ok (.istore_n 2, 1) := by decide +kernel
theorem zd_Mo_part_5 : decode zb_Mo_part 5 = .ok (.iload_n 2, 1) := by decide +kernel
theorem zd_Mo_part_6 : decode zb_Mo_part 6 = .ok (.ifCond .ne 8, 3) := by decide +kernel
theorem zd_Mo_part_9 : decode zb_Mo_part 9 = .ok (.aload_n 0, 1) := by decide +kernel
theorem zd_Mo_part_10 : decode zb_Mo_part 10 = .ok (.iconst 1, 1) := by decide +kernel
theorem zd_Mo_part_11 : decode zb_Mo_part 11 = .ok (.putfield 74, 3) := by decide +kernel
theorem zd_Mo_part_14 : decode zb_Mo_part 14 = .ok (.iload_n 2, 1) := by decide +kernel
theorem zd_Mo_part_15 : decode zb_Mo_part 15 = .ok (.sipush 128, 3) := by decide +kernel
theorem zd_Mo_part_18 : decode zb_Mo_part 18 = .ok (.if_icmp .ge 38, 3) := by decide +kernel
theorem zd_Mo_part_21 : decode zb_Mo_part 21 = .ok (.iconst 0, 1) := by decide +kernel
theorem zd_Mo_part_22 : decode zb_Mo_part 22 = .ok (.istore_n 3, 1) := by decide +kernel
theorem zd_Mo_part_23 : decode zb_Mo_part 23 = .ok (.iload_n 3, 1) := by decide +kernel
theorem zd_Mo_part_24 : decode zb_Mo_part 24 = .ok (.iload_n 2, 1) := by decide +kernel
theorem zd_Mo_part_25 : decode zb_Mo_part 25 = .ok (.if_icmp .ge 30, 3) := by decide +kernel
theorem zd_Mo_part_28 : decode zb_Mo_part 28 = .ok (.aload_n 0, 1) := by decide +kernel
theorem zd_Mo_part_29 : decode zb_Mo_part 29 = .ok (.getfield 74, 3) := by decide +kernel
theorem zd_Mo_part_32 : decode zb_Mo_part 32 = .ok (.ifCond .ne 23, 3) := by decide +kernel
theorem zd_Mo_part_35 : decode zb_Mo_part 35 = .ok (.aload_n 0, 1) := by decide +kernel
theorem zd_Mo_part_36 : decode zb_Mo_part 36 = .ok (.invokevirtual 78, 3) := by decide +kernel
theorem zd_Mo_part_39 : decode zb_Mo_part 39 = .ok (.istore 4, 2) := by decide +kernel
theorem zd_Mo_part_41 : decode zb_Mo_part 41 = .ok (.aload_n 0, 1) := by decide +kernel
theorem zd_Mo_part_42 : decode zb_Mo_part 42 = .ok (.iload 4, 2) := by decide +kernel
theorem zd_Mo_part_44 : decode zb_Mo_part 44 = .ok (.i2b, 1) := by decide +kernel
theorem zd_Mo_part_45 : decode zb_Mo_part 45 = .ok (.iload_n 1, 1) := by decide +kernel
theorem zd_Mo_part_46 : decode zb_Mo_part 46 = .ok (.invokevirtual 85, 3) := by decide +kernel
theorem zd_Mo_part_49 : decode zb_Mo_part 49 = .ok (.iinc 3 1, 3) := by decide +kernel
theorem zd_Mo_part_52 : decode zb_Mo_part 52 = .ok (.goto (-29), 3) := by decide +kernel
theorem zd_Mo_part_55 : decode zb_Mo_part 55 = .ok (.return_, 1) := by decide +kernel
theorem zd_Mo_part_56 : decode zb_Mo_part 56 = .ok (.lconst 0, 1) := by decide +kernel
theorem zd_Mo_part_57 : decode zb_Mo_part 57 = .ok (.lstore_n 3, 1) := by decide +kernel
theorem zd_Mo_part_58 : decode zb_Mo_part 58 = .ok (.iconst 0, 1) := by decide +kernel
theorem zd_Mo_part_59 : decode zb_Mo_part 59 = .ok (.istore 5, 2) := by decide +kernel
theorem zd_Mo_part_61 : decode zb_Mo_part 61 = .ok (.iconst 0, 1) := by decide +kernel
theorem zd_Mo_part_62 : decode zb_Mo_part 62 = .ok (.istore 6, 2) := by decide +kernel
theorem zd_Mo_part_64 : decode zb_Mo_part 64 = .ok (.iload 6, 2) := by decide +kernel
theorem zd_Mo_part_66 : decode zb_Mo_part 66 = .ok (.iconst 4, 1) := by decide +kernel
theorem zd_Mo_part_67 : decode zb_Mo_part 67 = .ok (.if_icmp .ge 32, 3) := by decide +kernel
theorem zd_Mo_part_70 : decode zb_Mo_part 70 = .ok (.iload_n 2, 1) := by decide +kernel
theorem zd_Mo_part_71 : decode zb_Mo_part 71 = .ok (.iload 6, 2) := by decide +kernel
theorem zd_Mo_part_73 : decode zb_Mo_part 73 = .ok (.iushr, 1) := by decide +kernel
theorem zd_Mo_part_74 : decode zb_Mo_part 74 = .ok (.iconst 1, 1) := by decide +kernel
theorem zd_Mo_part_75 : decode zb_Mo_part 75 = .ok (.iand, 1) := by decide +kernel
theorem zd_Mo_part_76 : decode zb_Mo_part 76 = .ok (.ifCond .eq 17, 3) := by decide +kernel
theorem zd_Mo_part_79 : decode zb_Mo_part 79 = .ok (.lload_n 3, 1) := by decide +kernel
theorem zd_Mo_part_80 : decode zb_Mo_part 80 = .ok (.aload_n 0, 1) := by decide +kernel
theorem zd_Mo_part_81 : decode zb_Mo_part 81 = .ok (.invokevirtual 78, 3) := by decide +kernel
theorem zd_Mo_part_84 : decode zb_Mo_part 84 = .ok (.i2l, 1) := by decide +kernel
theorem zd_Mo_part_85 : decode zb_Mo_part 85 = .ok (.bipush 8, 2) := by decide +kernel
theorem zd_Mo_part_87 : decode zb_Mo_part 87 = .ok (.iload 6, 2) := by decide +kernel
theorem zd_Mo_part_89 : decode zb_Mo_part 89 = .ok (.imul, 1) := by decide +kernel
theorem zd_Mo_part_90 : decode zb_Mo_part 90 = .ok (.lshl, 1) := by decide +kernel
theorem zd_Mo_part_91 : decode zb_Mo_part 91 = .ok (.ladd, 1) := by decide +kernel
theorem zd_Mo_part_92 : decode zb_Mo_part 92 = .ok (.lstore_n 3, 1) := by decide +kernel
theorem zd_Mo_part_93 : decode zb_Mo_part 93 = .ok (.iinc 6 1, 3) := by decide +kernel
theorem zd_Mo_part_96 : decode zb_Mo_part 96 = .ok (.goto (-32), 3) := by decide +kernel
theorem zd_Mo_part_99 : decode zb_Mo_part 99 = .ok (.iconst 0, 1) := by decide +kernel
theorem zd_Mo_part_100 : decode zb_Mo_part 100 = .ok (.istore 6, 2) := by decide +kernel
theorem zd_Mo_part_102 : decode zb_Mo_part 102 = .ok (.iload 6, 2) := by decide +kernel
theorem zd_Mo_part_104 : decode zb_Mo_part 104 = .ok (.iconst 3, 1) := by decide +kernel
theorem zd_Mo_part_105 : decode zb_Mo_part 105 = .ok (.if_icmp .ge 35, 3) := by decide +kernel
theorem zd_Mo_part_108 : decode zb_Mo_part 108 = .ok (.iload_n 2, 1) := by decide +kernel
theorem zd_Mo_part_109 : decode zb_Mo_part 109 = .ok (.iconst 4, 1) := by decide +kernel
theorem zd_Mo_part_110 : decode zb_Mo_part 110 = .ok (.iload 6, 2) := by decide +kernel
theorem zd_Mo_part_112 : decode zb_Mo_part 112 = .ok (.iadd, 1) := by decide +kernel
theorem zd_Mo_part_113 : decode zb_Mo_part 113 = .ok (.iushr, 1) := by decide +kernel
theorem zd_Mo_part_114 : decode zb_Mo_part 114 = .ok (.iconst 1, 1) := by decide +kernel
theorem zd_Mo_part_115 : decode zb_Mo_part 115 = .ok (.iand, 1) := by decide +kernel
theorem zd_Mo_part_116 : decode zb_Mo_part 116 = .ok (.ifCond .eq 18, 3) := by decide +kernel
theorem zd_Mo_part_119 : decode zb_Mo_part 119 = .ok (.iload 5, 2) := by decide +kernel
theorem zd_Mo_part_121 : decode zb_Mo_part 121 = .ok (.aload_n 0, 1) := by decide +kernel
theorem zd_Mo_part_122 : decode zb_Mo_part 122 = .ok (.invokevirtual 78, 3) := by decide +kernel
theorem zd_Mo_part_125 : decode zb_Mo_part 125 = .ok (.bipush 8, 2) := by decide +kernel
theorem zd_Mo_part_127 : decode zb_Mo_part 127 = .ok (.iload 6, 2) := by decide +kernel
theorem zd_Mo_part_129 : decode zb_Mo_part 129 = .ok (.imul, 1) := by decide +kernel
theorem zd_Mo_part_130 : decode zb_Mo_part 130 = .ok (.ishl, 1) := by decide +kernel
theorem zd_Mo_part_131 : decode zb_Mo_part 131 = .ok (.iadd, 1) := by decide +kernel
theorem zd_Mo_part_132 : decode zb_Mo_part 132 = .ok (.istore 5, 2) := by decide +kernel
theorem zd_Mo_part_134 : decode zb_Mo_part 134 = .ok (.iinc 6 1, 3) := by decide +kernel
theorem zd_Mo_part_137 : decode zb_Mo_part 137 = .ok (.goto (-35), 3) := by decide +kernel
theorem zd_Mo_part_140 : decode zb_Mo_part 140 = .ok (.iload 5, 2) := by decide +kernel
theorem zd_Mo_part_142 : decode zb_Mo_part 142 = .ok (.ifCond .ne 7, 3) := by decide +kernel
theorem zd_Mo_part_145 : decode zb_Mo_part 145 = .ok (.ldc 7, 2) := by decide +kernel
theorem zd_Mo_part_147 : decode zb_Mo_part 147 = .ok (.istore 5, 2) := by decide +kernel
theorem zd_Mo_part_149 : decode zb_Mo_part 149 = .ok (.lload_n 3, 1) := by decide +kernel
theorem zd_Mo_part_150 : decode zb_Mo_part 150 = .ok (.iload 5, 2) := by decide +kernel
theorem zd_Mo_part_152 : decode zb_Mo_part 152 = .ok (.i2l, 1) := by decide +kernel
theorem zd_Mo_part_153 : decode zb_Mo_part 153 = .ok (.ladd, 1) := by decide +kernel
theorem zd_Mo_part_154 : decode zb_Mo_part 154 = .ok (.aload_n 0, 1) := by decide +kernel
theorem zd_Mo_part_155 : decode zb_Mo_part 155 = .ok (.getfield 35, 3) := by decide +kernel
theorem zd_Mo_part_158 : decode zb_Mo_part 158 = .ok (.i2l, 1) := by decide +kernel
theorem zd_Mo_part_159 : decode zb_Mo_part 159 = .ok (.lcmp, 1) := by decide +kernel
theorem zd_Mo_part_160 : decode zb_Mo_part 160 = .ok (.ifCond .le 8, 3) := by decide +kernel
theorem zd_Mo_part_163 : decode zb_Mo_part 163 = .ok (.aload_n 0, 1) := by decide +kernel
theorem zd_Mo_part_164 : decode zb_Mo_part 164 = .ok (.iconst 1, 1) := by decide +kernel
theorem zd_Mo_part_165 : decode zb_Mo_part 165 = .ok (.putfield 74, 3) := by decide +kernel
theorem zd_Mo_part_168 : decode zb_Mo_part 168 = .ok (.iconst 0, 1) := by decide +kernel
theorem zd_Mo_part_169 : decode zb_Mo_part 169 = .ok (.istore 6, 2) := by decide +kernel
theorem zd_Mo_part_171 : decode zb_Mo_part 171 = .ok (.iload 6, 2) := by decide +kernel
theorem zd_Mo_part_173 : decode zb_Mo_part 173 = .ok (.iload 5, 2) := by decide +kernel
theorem zd_Mo_part_175 : decode zb_Mo_part 175 = .ok (.if_icmp .ge 31, 3) := by decide +kernel
theorem zd_Mo_part_178 : decode zb_Mo_part 178 = .ok (.aload_n 0, 1) := by decide +kernel
theorem zd_Mo_part_179 : decode zb_Mo_part 179 = .ok (.getfield 74, 3) := by decide +kernel
theorem zd_Mo_part_182 : decode zb_Mo_part 182 = .ok (.ifCond .ne 24, 3) := by decide +kernel
theorem zd_Mo_part_185 : decode zb_Mo_part 185 = .ok (.aload_n 0, 1) := by decide +kernel
theorem zd_Mo_part_186 : decode zb_Mo_part 186 = .ok (.aload_n 0, 1) := by decide +kernel
theorem zd_Mo_part_187 : decode zb_Mo_part 187 = .ok (.getfield 14, 3) := by decide +kernel
theorem zd_Mo_part_190 : decode zb_Mo_part 190 = .ok (.lload_n 3, 1) := by decide +kernel
theorem zd_Mo_part_191 : decode zb_Mo_part 191 = .ok (.l2i, 1) := by decide +kernel
theorem zd_Mo_part_192 : decode zb_Mo_part 192 = .ok (.iload 6, 2) := by decide +kernel
theorem zd_Mo_part_194 : decode zb_Mo_part 194 = .ok (.iadd, 1) := by decide +kernel
theorem zd_Mo_part_195 : decode zb_Mo_part 195 = .ok (.baload, 1) := by decide +kernel
theorem zd_Mo_part_196 : decode zb_Mo_part 196 = .ok (.iload_n 1, 1) := by decide +kernel
theorem zd_Mo_part_197 : decode zb_Mo_part 197 = .ok (.invokevirtual 85, 3) := by decide +kernel
theorem zd_Mo_part_200 : decode zb_Mo_part 200 = .ok (.iinc 6 1, 3) := by decide +kernel
theorem zd_Mo_part_203 : decode zb_Mo_part 203 = .ok (.goto (-32), 3) := by decide +kernel
theorem zd_Mo_part_206 : decode zb_Mo_part 206 = .ok (.return_, 1) := by decide +kernel
theorem zd_Mo_give_0 : decode zb_Mo_give 0 = .ok (.aload_n 0, 1) := by decide +kernel
theorem zd_Mo_give_1 : decode zb_Mo_give 1 = .ok (.getfield 82, 3) := by decide +kernel
theorem zd_Mo_give_4 : decode zb_Mo_give 4 = .ok (.iload_n 2, 1) := by decide +kernel
theorem zd_Mo_give_5 : decode zb_Mo_give 5 = .ok (.if_icmp .lt 8, 3) := by decide +kernel
theorem zd_Mo_give_8 : decode zb_Mo_give 8 = .ok (.aload_n 0, 1) := by decide +kernel
theorem zd_Mo_give_9 : decode zb_Mo_give 9 = .ok (.iconst 1, 1) := by decide +kernel
theorem zd_Mo_give_10 : decode zb_Mo_give 10 = .ok (.putfield 74, 3) := by decide +kernel
theorem zd_Mo_give_13 : decode zb_Mo_give 13 = .ok (.aload_n 0, 1) := by decide +kernel
theorem zd_Mo_give_14 : decode zb_Mo_give 14 = .ok (.getfield 74, 3) := by decide +kernel
theorem zd_Mo_give_17 : decode zb_Mo_give 17 = .ok (.ifCond .eq 4, 3) := by decide +kernel
theorem zd_Mo_give_20 : decode zb_Mo_give 20 = .ok (.return_, 1) := by decide +kernel
theorem zd_Mo_give_21 : decode zb_Mo_give 21 = .ok (.aload_n 0, 1) := by decide +kernel
theorem zd_Mo_give_22 : decode zb_Mo_give 22 = .ok (.getfield 21, 3) := by decide +kernel
theorem zd_Mo_give_25 : decode zb_Mo_give 25 = .ok (.aload_n 0, 1) := by decide +kernel
theorem zd_Mo_give_26 : decode zb_Mo_give 26 = .ok (.getfield 82, 3) := by decide +kernel
theorem zd_Mo_give_29 : decode zb_Mo_give 29 = .ok (.iload_n 1, 1) := by decide +kernel
theorem zd_Mo_give_30 : decode zb_Mo_give 30 = .ok (.bastore, 1) := by decide +kernel
theorem zd_Mo_give_31 : decode zb_Mo_give 31 = .ok (.aload_n 0, 1) := by decide +kernel
theorem zd_Mo_give_32 : decode zb_Mo_give 32 = .ok (.dup, 1) := by decide +kernel
theorem zd_Mo_give_33 : decode zb_Mo_give 33 = .ok (.getfield 82, 3) := by decide +kernel
theorem zd_Mo_give_36 : decode zb_Mo_give 36 = .ok (.iconst 1, 1) := by decide +kernel
theorem zd_Mo_give_37 : decode zb_Mo_give 37 = .ok (.iadd, 1) := by decide +kernel
theorem zd_Mo_give_38 : decode zb_Mo_give 38 = .ok (.putfield 82, 3) := by decide +kernel
theorem zd_Mo_give_41 : decode zb_Mo_give 41 = .ok (.return_, 1) := by decide +kernel
theorem zd_Mo_turn_0 : decode zb_Mo_turn 0 = .ok (.aload_n 0, 1) := by decide +kernel
theorem zd_Mo_turn_1 : decode zb_Mo_turn 1 = .ok (.iconst 0, 1) := by decide +kernel
theorem zd_Mo_turn_2 : decode zb_Mo_turn 2 = .ok (.putfield 24, 3) := by decide +kernel
theorem zd_Mo_turn_5 : decode zb_Mo_turn 5 = .ok (.aload_n 0, 1) := by decide +kernel
theorem zd_Mo_turn_6 : decode zb_Mo_turn 6 = .ok (.getfield 45, 3) := by decide +kernel
theorem zd_Mo_turn_9 : decode zb_Mo_turn 9 = .ok (.ldc 7, 2) := by decide +kernel
theorem zd_Mo_turn_11 : decode zb_Mo_turn 11 = .ok (.if_icmp .le 9, 3) := by decide +kernel
theorem zd_Mo_turn_14 : decode zb_Mo_turn 14 = .ok (.aload_n 0, 1) := by decide +kernel
theorem zd_Mo_turn_15 : decode zb_Mo_turn 15 = .ok (.iconst 1, 1) := by decide +kernel
theorem zd_Mo_turn_16 : decode zb_Mo_turn 16 = .ok (.invokevirtual 31, 3) := by decide +kernel
theorem zd_Mo_turn_19 : decode zb_Mo_turn 19 = .ok (.ireturn, 1) := by decide +kernel
theorem zd_Mo_turn_20 : decode zb_Mo_turn 20 = .ok (.iconst 0, 1) := by decide +kernel
theorem zd_Mo_turn_21 : decode zb_Mo_turn 21 = .ok (.istore_n 1, 1) := by decide +kernel
theorem zd_Mo_turn_22 : decode zb_Mo_turn 22 = .ok (.iload_n 1, 1) := by decide +kernel
theorem zd_Mo_turn_23 : decode zb_Mo_turn 23 = .ok (.aload_n 0, 1) := by decide +kernel
theorem zd_Mo_turn_24 : decode zb_Mo_turn 24 = .ok (.getfield 45, 3) := by decide +kernel
theorem zd_Mo_turn_27 : decode zb_Mo_turn 27 = .ok (.if_icmp .ge 21, 3) := by decide +kernel
theorem zd_Mo_turn_30 : decode zb_Mo_turn 30 = .ok (.aload_n 0, 1) := by decide +kernel
theorem zd_Mo_turn_31 : decode zb_Mo_turn 31 = .ok (.getfield 8, 3) := by decide +kernel
theorem zd_Mo_turn_34 : decode zb_Mo_turn 34 = .ok (.iload_n 1, 1) := by decide +kernel
theorem zd_Mo_turn_35 : decode zb_Mo_turn 35 = .ok (.aload_n 0, 1) := by decide +kernel
theorem zd_Mo_turn_36 : decode zb_Mo_turn 36 = .ok (.getfield 18, 3) := by decide +kernel
theorem zd_Mo_turn_39 : decode zb_Mo_turn 39 = .ok (.iload_n 1, 1) := by decide +kernel
theorem zd_Mo_turn_40 : decode zb_Mo_turn 40 = .ok (.baload, 1) := by decide +kernel
theorem zd_Mo_turn_41 : decode zb_Mo_turn 41 = .ok (.bastore, 1) := by decide +kernel
theorem zd_Mo_turn_42 : decode zb_Mo_turn 42 = .ok (.iinc 1 1, 3) := by decide +kernel
theorem zd_Mo_turn_45 : decode zb_Mo_turn 45 = .ok (.goto (-23), 3) := by decide +kernel
theorem zd_Mo_turn_48 : decode zb_Mo_turn 48 = .ok (.aload_n 0, 1) := by decide +kernel
theorem zd_Mo_turn_49 : decode zb_Mo_turn 49 = .ok (.aload_n 0, 1) := by decide +kernel
theorem zd_Mo_turn_50 : decode zb_Mo_turn 50 = .ok (.getfield 45, 3) := by decide +kernel
theorem zd_Mo_turn_53 : decode zb_Mo_turn 53 = .ok (.putfield 28, 3) := by decide +kernel
theorem zd_Mo_turn_56 : decode zb_Mo_turn 56 = .ok (.aload_n 0, 1) := by decide +kernel
theorem zd_Mo_turn_57 : decode zb_Mo_turn 57 = .ok (.getfield 28, 3) := by decide +kernel
theorem zd_Mo_turn_60 : decode zb_Mo_turn 60 = .ok (.ireturn, 1) := by decide +kernel
theorem zd_Mo_longest_0 : decode zb_Mo_longest 0 = .ok (.aload_n 0, 1) := by decide +kernel
theorem zd_Mo_longest_1 : decode zb_Mo_longest 1 = .ok (.iconst 0, 1) := by decide +kernel
theorem zd_Mo_longest_2 : decode zb_Mo_longest 2 = .ok (.putfield 24, 3) := by decide +kernel
theorem zd_Mo_longest_5 : decode zb_Mo_longest 5 = .ok (.iload_n 1, 1) := by decide +kernel
theorem zd_Mo_longest_6 : decode zb_Mo_longest 6 = .ok (.ifCond .lt 20, 3) := by decide +kernel
theorem zd_Mo_longest_9 : decode zb_Mo_longest 9 = .ok (.iload_n 1, 1) := by decide +kernel
theorem zd_Mo_longest_10 : decode zb_Mo_longest 10 = .ok (.aload_n 0, 1) := by decide +kernel
theorem zd_Mo_longest_11 : decode zb_Mo_longest 11 = .ok (.getfield 28, 3) := by decide +kernel
theorem zd_Mo_longest_14 : decode zb_Mo_longest 14 = .ok (.if_icmp .ge 12, 3) := by decide +kernel
theorem zd_Mo_longest_17 : decode zb_Mo_longest 17 = .ok (.iload_n 2, 1) := by decide +kernel
theorem zd_Mo_longest_18 : decode zb_Mo_longest 18 = .ok (.ifCond .lt 8, 3) := by decide +kernel
theorem zd_Mo_longest_21 : decode zb_Mo_longest 21 = .ok (.iload_n 2, 1) := by decide +kernel
theorem zd_Mo_longest_22 : decode zb_Mo_longest 22 = .ok (.iconst 1, 1) := by decide +kernel
theorem zd_Mo_longest_23 : decode zb_Mo_longest 23 = .ok (.if_icmp .le 9, 3) := by decide +kernel
theorem zd_Mo_longest_26 : decode zb_Mo_longest 26 = .ok (.aload_n 0, 1) := by decide +kernel
theorem zd_Mo_longest_27 : decode zb_Mo_longest 27 = .ok (.iconst 1, 1) := by decide +kernel
theorem zd_Mo_longest_28 : decode zb_Mo_longest 28 = .ok (.invokevirtual 31, 3) := by decide +kernel
theorem zd_Mo_longest_31 : decode zb_Mo_longest 31 = .ok (.ireturn, 1) := by decide +kernel
theorem zd_Mo_longest_32 : decode zb_Mo_longest 32 = .ok (.aload_n 0, 1) := by decide +kernel
theorem zd_Mo_longest_33 : decode zb_Mo_longest 33 = .ok (.iload_n 1, 1) := by decide +kernel
theorem zd_Mo_longest_34 : decode zb_Mo_longest 34 = .ok (.invokevirtual 61, 3) := by decide +kernel
theorem zd_Mo_longest_37 : decode zb_Mo_longest 37 = .ok (.aload_n 0, 1) := by decide +kernel
theorem zd_Mo_longest_38 : decode zb_Mo_longest 38 = .ok (.getfield 38, 3) := by decide +kernel
theorem zd_Mo_longest_41 : decode zb_Mo_longest 41 = .ok (.bipush 8, 2) := by decide +kernel
theorem zd_Mo_longest_43 : decode zb_Mo_longest 43 = .ok (.if_icmp .ge 13, 3) := by decide +kernel
theorem zd_Mo_longest_46 : decode zb_Mo_longest 46 = .ok (.iload_n 2, 1) := by decide +kernel
theorem zd_Mo_longest_47 : decode zb_Mo_longest 47 = .ok (.ifCond .ne 7, 3) := by decide +kernel
theorem zd_Mo_longest_50 : decode zb_Mo_longest 50 = .ok (.iconst 0, 1) := by decide +kernel
theorem zd_Mo_longest_51 : decode zb_Mo_longest 51 = .ok (.goto 4, 3) := by decide +kernel
theorem zd_Mo_longest_54 : decode zb_Mo_longest 54 = .ok (.iconst (-1), 1) := by decide +kernel
theorem zd_Mo_longest_55 : decode zb_Mo_longest 55 = .ok (.ireturn, 1) := by decide +kernel
theorem zd_Mo_longest_56 : decode zb_Mo_longest 56 = .ok (.iload_n 2, 1) := by decide +kernel
theorem zd_Mo_longest_57 : decode zb_Mo_longest 57 = .ok (.ifCond .ne 10, 3) := by decide +kernel
theorem zd_Mo_longest_60 : decode zb_Mo_longest 60 = .ok (.aload_n 0, 1) := by decide +kernel
theorem zd_Mo_longest_61 : decode zb_Mo_longest 61 = .ok (.getfield 38, 3) := by decide +kernel
theorem zd_Mo_longest_64 : decode zb_Mo_longest 64 = .ok (.goto 7, 3) := by decide +kernel
theorem zd_Mo_longest_67 : decode zb_Mo_longest 67 = .ok (.aload_n 0, 1) := by decide +kernel
theorem zd_Mo_longest_68 : decode zb_Mo_longest 68 = .ok (.getfield 41, 3) := by decide +kernel
theorem zd_Mo_longest_71 : decode zb_Mo_longest 71 = .ok (.ireturn, 1) := by decide +kernel
theorem zd_Mo_letter_0 : decode zb_Mo_letter 0 = .ok (.aload_n 0, 1) := by decide +kernel
theorem zd_Mo_letter_1 : decode zb_Mo_letter 1 = .ok (.iconst 0, 1) := by decide +kernel
theorem zd_Mo_letter_2 : decode zb_Mo_letter 2 = .ok (.putfield 24, 3) := by decide +kernel
theorem zd_Mo_letter_5 : decode zb_Mo_letter 5 = .ok (.iload_n 1, 1) := by decide +kernel
theorem zd_Mo_letter_6 : decode zb_Mo_letter 6 = .ok (.ifCond .lt 11, 3) := by decide +kernel
theorem zd_Mo_letter_9 : decode zb_Mo_letter 9 = .ok (.iload_n 1, 1) := by decide +kernel
theorem zd_Mo_letter_10 : decode zb_Mo_letter 10 = .ok (.aload_n 0, 1) := by decide +kernel
theorem zd_Mo_letter_11 : decode zb_Mo_letter 11 = .ok (.getfield 45, 3) := by decide +kernel
theorem zd_Mo_letter_14 : decode zb_Mo_letter 14 = .ok (.if_icmp .lt 9, 3) := by decide +kernel
theorem zd_Mo_letter_17 : decode zb_Mo_letter 17 = .ok (.aload_n 0, 1) := by decide +kernel
theorem zd_Mo_letter_18 : decode zb_Mo_letter 18 = .ok (.iconst 1, 1) := by decide +kernel
theorem zd_Mo_letter_19 : decode zb_Mo_letter 19 = .ok (.invokevirtual 31, 3) := by decide +kernel
theorem zd_Mo_letter_22 : decode zb_Mo_letter 22 = .ok (.ireturn, 1) := by decide +kernel
theorem zd_Mo_letter_23 : decode zb_Mo_letter 23 = .ok (.aload_n 0, 1) := by decide +kernel
theorem zd_Mo_letter_24 : decode zb_Mo_letter 24 = .ok (.getfield 18, 3) := by decide +kernel
theorem zd_Mo_letter_27 : decode zb_Mo_letter 27 = .ok (.iload_n 1, 1) := by decide +kernel
theorem zd_Mo_letter_28 : decode zb_Mo_letter 28 = .ok (.baload, 1) := by decide +kernel
theorem zd_Mo_letter_29 : decode zb_Mo_letter 29 = .ok (.sipush 255, 3) := by decide +kernel
theorem zd_Mo_letter_32 : decode zb_Mo_letter 32 = .ok (.iand, 1) := by decide +kernel
theorem zd_Mo_letter_33 : decode zb_Mo_letter 33 = .ok (.ireturn, 1) := by decide +kernel
theorem zd_Mo_count_0 : decode zb_Mo_count 0 = .ok (.aload_n 0, 1) := by decide +kernel
theorem zd_Mo_count_1 : decode zb_Mo_count 1 = .ok (.iconst 0, 1) := by decide +kernel
theorem zd_Mo_count_2 : decode zb_Mo_count 2 = .ok (.putfield 24, 3) := by decide +kernel
theorem zd_Mo_count_5 : decode zb_Mo_count 5 = .ok (.iload_n 1, 1) := by decide +kernel
theorem zd_Mo_count_6 : decode zb_Mo_count 6 = .ok (.tableswitch 68 0 5 #[38, 43, 48, 53, 58, 63], 38) := by decide +kernel
theorem zd_Mo_count_44 : decode zb_Mo_count 44 = .ok (.aload_n 0, 1) := by decide +kernel
theorem zd_Mo_count_45 : decode zb_Mo_count 45 = .ok (.getfield 28, 3) := by decide +kernel
theorem zd_Mo_count_48 : decode zb_Mo_count 48 = .ok (.ireturn, 1) := by decide +kernel
theorem zd_Mo_count_49 : decode zb_Mo_count 49 = .ok (.aload_n 0, 1) := by decide +kernel
theorem zd_Mo_count_50 : decode zb_Mo_count 50 = .ok (.getfield 35, 3) := by decide +kernel
theorem zd_Mo_count_53 : decode zb_Mo_count 53 = .ok (.ireturn, 1) := by decide +kernel
theorem zd_Mo_count_54 : decode zb_Mo_count 54 = .ok (.aload_n 0, 1) := by decide +kernel
theorem zd_Mo_count_55 : decode zb_Mo_count 55 = .ok (.getfield 45, 3) := by decide +kernel
theorem zd_Mo_count_58 : decode zb_Mo_count 58 = .ok (.ireturn, 1) := by decide +kernel
theorem zd_Mo_count_59 : decode zb_Mo_count 59 = .ok (.aload_n 0, 1) := by decide +kernel
theorem zd_Mo_count_60 : decode zb_Mo_count 60 = .ok (.getfield 52, 3) := by decide +kernel
theorem zd_Mo_count_63 : decode zb_Mo_count 63 = .ok (.ireturn, 1) := by decide +kernel
theorem zd_Mo_count_64 : decode zb_Mo_count 64 = .ok (.aload_n 0, 1) := by decide +kernel
theorem zd_Mo_count_65 : decode zb_Mo_count 65 = .ok (.getfield 55, 3) := by decide +kernel
theorem zd_Mo_count_68 : decode zb_Mo_count 68 = .ok (.ireturn, 1) := by decide +kernel
theorem zd_Mo_count_69 : decode zb_Mo_count 69 = .ok (.aload_n 0, 1) := by decide +kernel
theorem zd_Mo_count_70 : decode zb_Mo_count 70 = .ok (.getfield 95, 3) := by decide +kernel
theorem zd_Mo_count_73 : decode zb_Mo_count 73 = .ok (.ireturn, 1) := by decide +kernel
theorem zd_Mo_count_74 : decode zb_Mo_count 74 = .ok (.iconst (-1), 1) := by decide +kernel
theorem zd_Mo_count_75 : decode zb_Mo_count 75 = .ok (.ireturn, 1) := by decide +kernel
theorem zd_La_law_0 : decode zb_La_law 0 = .ok (.new 8, 3) := by decide +kernel
theorem zd_La_law_3 : decode zb_La_law 3 = .ok (.dup, 1) := by decide +kernel
theorem zd_La_law_4 : decode zb_La_law 4 = .ok (.invokespecial 43, 3) := by decide +kernel
theorem zd_La_law_7 : decode zb_La_law 7 = .ok (.astore_n 1, 1) := by decide +kernel
theorem zd_La_law_8 : decode zb_La_law 8 = .ok (.new 44, 3) := by decide +kernel
theorem zd_La_law_11 : decode zb_La_law 11 = .ok (.dup, 1) := by decide +kernel
theorem zd_La_law_12 : decode zb_La_law 12 = .ok (.invokespecial 46, 3) := by decide +kernel
theorem zd_La_law_15 : decode zb_La_law 15 = .ok (.astore_n 2, 1) := by decide +kernel
theorem zd_La_law_16 : decode zb_La_law 16 = .ok (.iconst 1, 1) := by decide +kernel
theorem zd_La_law_17 : decode zb_La_law 17 = .ok (.newarray .long, 2) := by decide +kernel
theorem zd_La_law_19 : decode zb_La_law 19 = .ok (.astore_n 3, 1) := by decide +kernel
theorem zd_La_law_20 : decode zb_La_law 20 = .ok (.iconst 0, 1) := by decide +kernel
theorem zd_La_law_21 : decode zb_La_law 21 = .ok (.istore 4, 2) := by decide +kernel
theorem zd_La_law_23 : decode zb_La_law 23 = .ok (.iload 4, 2) := by decide +kernel
theorem zd_La_law_25 : decode zb_La_law 25 = .ok (.aload_n 0, 1) := by decide +kernel
theorem zd_La_law_26 : decode zb_La_law 26 = .ok (.arraylength, 1) := by decide +kernel
theorem zd_La_law_27 : decode zb_La_law 27 = .ok (.bipush 6, 2) := by decide +kernel
theorem zd_La_law_29 : decode zb_La_law 29 = .ok (.isub, 1) := by decide +kernel
theorem zd_La_law_30 : decode zb_La_law 30 = .ok (.if_icmp .gt 543, 3) := by decide +kernel
theorem zd_La_law_33 : decode zb_La_law 33 = .ok (.aload_n 0, 1) := by decide +kernel
theorem zd_La_law_34 : decode zb_La_law 34 = .ok (.iload 4, 2) := by decide +kernel
theorem zd_La_law_36 : decode zb_La_law 36 = .ok (.iaload, 1) := by decide +kernel
theorem zd_La_law_37 : decode zb_La_law 37 = .ok (.bipush 15, 2) := by decide +kernel
theorem zd_La_law_39 : decode zb_La_law 39 = .ok (.iand, 1) := by decide +kernel
theorem zd_La_law_40 : decode zb_La_law 40 = .ok (.tableswitch 527 0 9 #[56, 160, 216, 264, 277, 290, 334, 378, 446, 502], 56) := by decide +kernel
theorem zd_La_law_96 : decode zb_La_law 96 = .ok (.aload_n 1, 1) := by decide +kernel
theorem zd_La_law_97 : decode zb_La_law 97 = .ok (.aload_n 0, 1) := by decide +kernel
theorem zd_La_law_98 : decode zb_La_law 98 = .ok (.iload 4, 2) := by decide +kernel
theorem zd_La_law_100 : decode zb_La_law 100 = .ok (.iconst 1, 1) := by decide +kernel
theorem zd_La_law_101 : decode zb_La_law 101 = .ok (.iadd, 1) := by decide +kernel
theorem zd_La_law_102 : decode zb_La_law 102 = .ok (.iaload, 1) := by decide +kernel
theorem zd_La_law_103 : decode zb_La_law 103 = .ok (.aload_n 0, 1) := by decide +kernel
theorem zd_La_law_104 : decode zb_La_law 104 = .ok (.iload 4, 2) := by decide +kernel
theorem zd_La_law_106 : decode zb_La_law 106 = .ok (.iconst 2, 1) := by decide +kernel
theorem zd_La_law_107 : decode zb_La_law 107 = .ok (.iadd, 1) := by decide +kernel
theorem zd_La_law_108 : decode zb_La_law 108 = .ok (.iaload, 1) := by decide +kernel
theorem zd_La_law_109 : decode zb_La_law 109 = .ok (.aload_n 0, 1) := by decide +kernel
theorem zd_La_law_110 : decode zb_La_law 110 = .ok (.iload 4, 2) := by decide +kernel
theorem zd_La_law_112 : decode zb_La_law 112 = .ok (.iconst 3, 1) := by decide +kernel
theorem zd_La_law_113 : decode zb_La_law 113 = .ok (.iadd, 1) := by decide +kernel
theorem zd_La_law_114 : decode zb_La_law 114 = .ok (.iaload, 1) := by decide +kernel
theorem zd_La_law_115 : decode zb_La_law 115 = .ok (.aload_n 0, 1) := by decide +kernel
theorem zd_La_law_116 : decode zb_La_law 116 = .ok (.iload 4, 2) := by decide +kernel
theorem zd_La_law_118 : decode zb_La_law 118 = .ok (.iconst 4, 1) := by decide +kernel
theorem zd_La_law_119 : decode zb_La_law 119 = .ok (.iadd, 1) := by decide +kernel
theorem zd_La_law_120 : decode zb_La_law 120 = .ok (.iaload, 1) := by decide +kernel
theorem zd_La_law_121 : decode zb_La_law 121 = .ok (.aload_n 0, 1) := by decide +kernel
theorem zd_La_law_122 : decode zb_La_law 122 = .ok (.iload 4, 2) := by decide +kernel
theorem zd_La_law_124 : decode zb_La_law 124 = .ok (.iconst 5, 1) := by decide +kernel
theorem zd_La_law_125 : decode zb_La_law 125 = .ok (.iadd, 1) := by decide +kernel
theorem zd_La_law_126 : decode zb_La_law 126 = .ok (.iaload, 1) := by decide +kernel
theorem zd_La_law_127 : decode zb_La_law 127 = .ok (.aload_n 3, 1) := by decide +kernel
theorem zd_La_law_128 : decode zb_La_law 128 = .ok (.invokestatic 47, 3) := by decide +kernel
theorem zd_La_law_131 : decode zb_La_law 131 = .ok (.istore 5, 2) := by decide +kernel
theorem zd_La_law_133 : decode zb_La_law 133 = .ok (.aload_n 2, 1) := by decide +kernel
theorem zd_La_law_134 : decode zb_La_law 134 = .ok (.aload_n 0, 1) := by decide +kernel
theorem zd_La_law_135 : decode zb_La_law 135 = .ok (.iload 4, 2) := by decide +kernel
theorem zd_La_law_137 : decode zb_La_law 137 = .ok (.iconst 1, 1) := by decide +kernel
theorem zd_La_law_138 : decode zb_La_law 138 = .ok (.iadd, 1) := by decide +kernel
theorem zd_La_law_139 : decode zb_La_law 139 = .ok (.iaload, 1) := by decide +kernel
theorem zd_La_law_140 : decode zb_La_law 140 = .ok (.aload_n 0, 1) := by decide +kernel
theorem zd_La_law_141 : decode zb_La_law 141 = .ok (.iload 4, 2) := by decide +kernel
theorem zd_La_law_143 : decode zb_La_law 143 = .ok (.iconst 2, 1) := by decide +kernel
theorem zd_La_law_144 : decode zb_La_law 144 = .ok (.iadd, 1) := by decide +kernel
theorem zd_La_law_145 : decode zb_La_law 145 = .ok (.iaload, 1) := by decide +kernel
theorem zd_La_law_146 : decode zb_La_law 146 = .ok (.aload_n 0, 1) := by decide +kernel
theorem zd_La_law_147 : decode zb_La_law 147 = .ok (.iload 4, 2) := by decide +kernel
theorem zd_La_law_149 : decode zb_La_law 149 = .ok (.iconst 3, 1) := by decide +kernel
theorem zd_La_law_150 : decode zb_La_law 150 = .ok (.iadd, 1) := by decide +kernel
theorem zd_La_law_151 : decode zb_La_law 151 = .ok (.iaload, 1) := by decide +kernel
theorem zd_La_law_152 : decode zb_La_law 152 = .ok (.aload_n 0, 1) := by decide +kernel
theorem zd_La_law_153 : decode zb_La_law 153 = .ok (.iload 4, 2) := by decide +kernel
theorem zd_La_law_155 : decode zb_La_law 155 = .ok (.iconst 4, 1) := by decide +kernel
theorem zd_La_law_156 : decode zb_La_law 156 = .ok (.iadd, 1) := by decide +kernel
theorem zd_La_law_157 : decode zb_La_law 157 = .ok (.iaload, 1) := by decide +kernel
theorem zd_La_law_158 : decode zb_La_law 158 = .ok (.aload_n 0, 1) := by decide +kernel
theorem zd_La_law_159 : decode zb_La_law 159 = .ok (.iload 4, 2) := by decide +kernel
theorem zd_La_law_161 : decode zb_La_law 161 = .ok (.iconst 5, 1) := by decide +kernel
theorem zd_La_law_162 : decode zb_La_law 162 = .ok (.iadd, 1) := by decide +kernel
theorem zd_La_law_163 : decode zb_La_law 163 = .ok (.iaload, 1) := by decide +kernel
theorem zd_La_law_164 : decode zb_La_law 164 = .ok (.invokevirtual 52, 3) := by decide +kernel
theorem zd_La_law_167 : decode zb_La_law 167 = .ok (.istore 6, 2) := by decide +kernel
theorem zd_La_law_169 : decode zb_La_law 169 = .ok (.aload_n 2, 1) := by decide +kernel
theorem zd_La_law_170 : decode zb_La_law 170 = .ok (.invokevirtual 53, 3) := by decide +kernel
theorem zd_La_law_173 : decode zb_La_law 173 = .ok (.iload 5, 2) := by decide +kernel
theorem zd_La_law_175 : decode zb_La_law 175 = .ok (.if_icmp .eq 5, 3) := by decide +kernel
theorem zd_La_law_178 : decode zb_La_law 178 = .ok (.iconst 0, 1) := by decide +kernel
theorem zd_La_law_179 : decode zb_La_law 179 = .ok (.ireturn, 1) := by decide +kernel
theorem zd_La_law_180 : decode zb_La_law 180 = .ok (.iload 5, 2) := by decide +kernel
theorem zd_La_law_182 : decode zb_La_law 182 = .ok (.ifCond .ne 15, 3) := by decide +kernel
theorem zd_La_law_185 : decode zb_La_law 185 = .ok (.aload_n 3, 1) := by decide +kernel
theorem zd_La_law_186 : decode zb_La_law 186 = .ok (.iconst 0, 1) := by decide +kernel
theorem zd_La_law_187 : decode zb_La_law 187 = .ok (.laload, 1) := by decide +kernel
theorem zd_La_law_188 : decode zb_La_law 188 = .ok (.iload 6, 2) := by decide +kernel
theorem zd_La_law_190 : decode zb_La_law 190 = .ok (.i2l, 1) := by decide +kernel
theorem zd_La_law_191 : decode zb_La_law 191 = .ok (.lcmp, 1) := by decide +kernel
theorem zd_La_law_192 : decode zb_La_law 192 = .ok (.ifCond .eq 5, 3) := by decide +kernel
theorem zd_La_law_195 : decode zb_La_law 195 = .ok (.iconst 0, 1) := by decide +kernel
theorem zd_La_law_196 : decode zb_La_law 196 = .ok (.ireturn, 1) := by decide +kernel
theorem zd_La_law_197 : decode zb_La_law 197 = .ok (.goto 370, 3) := by decide +kernel
theorem zd_La_law_200 : decode zb_La_law 200 = .ok (.aload_n 1, 1) := by decide +kernel
theorem zd_La_law_201 : decode zb_La_law 201 = .ok (.aload_n 0, 1) := by decide +kernel
theorem zd_La_law_202 : decode zb_La_law 202 = .ok (.iload 4, 2) := by decide +kernel
theorem zd_La_law_204 : decode zb_La_law 204 = .ok (.iconst 1, 1) := by decide +kernel
theorem zd_La_law_205 : decode zb_La_law 205 = .ok (.iadd, 1) := by decide +kernel
theorem zd_La_law_206 : decode zb_La_law 206 = .ok (.iaload, 1) := by decide +kernel
theorem zd_La_law_207 : decode zb_La_law 207 = .ok (.aload_n 3, 1) := by decide +kernel
theorem zd_La_law_208 : decode zb_La_law 208 = .ok (.invokestatic 56, 3) := by decide +kernel
theorem zd_La_law_211 : decode zb_La_law 211 = .ok (.istore 5, 2) := by decide +kernel
theorem zd_La_law_213 : decode zb_La_law 213 = .ok (.aload_n 2, 1) := by decide +kernel
theorem zd_La_law_214 : decode zb_La_law 214 = .ok (.aload_n 0, 1) := by decide +kernel
theorem zd_La_law_215 : decode zb_La_law 215 = .ok (.iload 4, 2) := by decide +kernel
theorem zd_La_law_217 : decode zb_La_law 217 = .ok (.iconst 1, 1) := by decide +kernel
theorem zd_La_law_218 : decode zb_La_law 218 = .ok (.iadd, 1) := by decide +kernel
theorem zd_La_law_219 : decode zb_La_law 219 = .ok (.iaload, 1) := by decide +kernel
theorem zd_La_law_220 : decode zb_La_law 220 = .ok (.invokevirtual 59, 3) := by decide +kernel
theorem zd_La_law_223 : decode zb_La_law 223 = .ok (.istore 6, 2) := by decide +kernel
theorem zd_La_law_225 : decode zb_La_law 225 = .ok (.aload_n 2, 1) := by decide +kernel
theorem zd_La_law_226 : decode zb_La_law 226 = .ok (.invokevirtual 53, 3) := by decide +kernel
theorem zd_La_law_229 : decode zb_La_law 229 = .ok (.iload 5, 2) := by decide +kernel
end
section
theorem zd_La_law_231 : decode zb_La_law 231 = .ok (.if_icmp .eq 5, 3) := by decide +kernel
theorem zd_La_law_234 : decode zb_La_law 234 = .ok (.iconst 0, 1) := by decide +kernel
theorem zd_La_law_235 : decode zb_La_law 235 = .ok (.ireturn, 1) := by decide +kernel
theorem zd_La_law_236 : decode zb_La_law 236 = .ok (.iload 5, 2) := by decide +kernel
theorem zd_La_law_238 : decode zb_La_law 238 = .ok (.ifCond .ne 15, 3) := by decide +kernel
theorem zd_La_law_241 : decode zb_La_law 241 = .ok (.aload_n 3, 1) := by decide +kernel
theorem zd_La_law_242 : decode zb_La_law 242 = .ok (.iconst 0, 1) := by decide +kernel
theorem zd_La_law_243 : decode zb_La_law 243 = .ok (.laload, 1) := by decide +kernel
theorem zd_La_law_244 : decode zb_La_law 244 = .ok (.iload 6, 2) := by decide +kernel
theorem zd_La_law_246 : decode zb_La_law 246 = .ok (.i2l, 1) := by decide +kernel
theorem zd_La_law_247 : decode zb_La_law 247 = .ok (.lcmp, 1) := by decide +kernel
theorem zd_La_law_248 : decode zb_La_law 248 = .ok (.ifCond .eq 5, 3) := by decide +kernel
theorem zd_La_law_251 : decode zb_La_law 251 = .ok (.iconst 0, 1) := by decide +kernel
theorem zd_La_law_252 : decode zb_La_law 252 = .ok (.ireturn, 1) := by decide +kernel
theorem zd_La_law_253 : decode zb_La_law 253 = .ok (.goto 314, 3) := by decide +kernel
theorem zd_La_law_256 : decode zb_La_law 256 = .ok (.aload_n 1, 1) := by decide +kernel
theorem zd_La_law_257 : decode zb_La_law 257 = .ok (.aload_n 0, 1) := by decide +kernel
theorem zd_La_law_258 : decode zb_La_law 258 = .ok (.iload 4, 2) := by decide +kernel
theorem zd_La_law_260 : decode zb_La_law 260 = .ok (.iconst 1, 1) := by decide +kernel
theorem zd_La_law_261 : decode zb_La_law 261 = .ok (.iadd, 1) := by decide +kernel
theorem zd_La_law_262 : decode zb_La_law 262 = .ok (.iaload, 1) := by decide +kernel
theorem zd_La_law_263 : decode zb_La_law 263 = .ok (.aload_n 0, 1) := by decide +kernel
theorem zd_La_law_264 : decode zb_La_law 264 = .ok (.iload 4, 2) := by decide +kernel
theorem zd_La_law_266 : decode zb_La_law 266 = .ok (.iconst 2, 1) := by decide +kernel
theorem zd_La_law_267 : decode zb_La_law 267 = .ok (.iadd, 1) := by decide +kernel
theorem zd_La_law_268 : decode zb_La_law 268 = .ok (.iaload, 1) := by decide +kernel
theorem zd_La_law_269 : decode zb_La_law 269 = .ok (.invokestatic 60, 3) := by decide +kernel
theorem zd_La_law_272 : decode zb_La_law 272 = .ok (.istore 5, 2) := by decide +kernel
theorem zd_La_law_274 : decode zb_La_law 274 = .ok (.aload_n 2, 1) := by decide +kernel
theorem zd_La_law_275 : decode zb_La_law 275 = .ok (.aload_n 0, 1) := by decide +kernel
theorem zd_La_law_276 : decode zb_La_law 276 = .ok (.iload 4, 2) := by decide +kernel
theorem zd_La_law_278 : decode zb_La_law 278 = .ok (.iconst 1, 1) := by decide +kernel
theorem zd_La_law_279 : decode zb_La_law 279 = .ok (.iadd, 1) := by decide +kernel
theorem zd_La_law_280 : decode zb_La_law 280 = .ok (.iaload, 1) := by decide +kernel
theorem zd_La_law_281 : decode zb_La_law 281 = .ok (.aload_n 0, 1) := by decide +kernel
theorem zd_La_law_282 : decode zb_La_law 282 = .ok (.iload 4, 2) := by decide +kernel
theorem zd_La_law_284 : decode zb_La_law 284 = .ok (.iconst 2, 1) := by decide +kernel
theorem zd_La_law_285 : decode zb_La_law 285 = .ok (.iadd, 1) := by decide +kernel
theorem zd_La_law_286 : decode zb_La_law 286 = .ok (.iaload, 1) := by decide +kernel
theorem zd_La_law_287 : decode zb_La_law 287 = .ok (.invokevirtual 63, 3) := by decide +kernel
theorem zd_La_law_290 : decode zb_La_law 290 = .ok (.aload_n 2, 1) := by decide +kernel
theorem zd_La_law_291 : decode zb_La_law 291 = .ok (.invokevirtual 53, 3) := by decide +kernel
theorem zd_La_law_294 : decode zb_La_law 294 = .ok (.iload 5, 2) := by decide +kernel
theorem zd_La_law_296 : decode zb_La_law 296 = .ok (.if_icmp .eq 5, 3) := by decide +kernel
theorem zd_La_law_299 : decode zb_La_law 299 = .ok (.iconst 0, 1) := by decide +kernel
theorem zd_La_law_300 : decode zb_La_law 300 = .ok (.ireturn, 1) := by decide +kernel
theorem zd_La_law_301 : decode zb_La_law 301 = .ok (.goto 266, 3) := by decide +kernel
theorem zd_La_law_304 : decode zb_La_law 304 = .ok (.aload_n 1, 1) := by decide +kernel
theorem zd_La_law_305 : decode zb_La_law 305 = .ok (.invokevirtual 64, 3) := by decide +kernel
theorem zd_La_law_308 : decode zb_La_law 308 = .ok (.aload_n 2, 1) := by decide +kernel
theorem zd_La_law_309 : decode zb_La_law 309 = .ok (.invokevirtual 67, 3) := by decide +kernel
theorem zd_La_law_312 : decode zb_La_law 312 = .ok (.if_icmp .eq 255, 3) := by decide +kernel
theorem zd_La_law_315 : decode zb_La_law 315 = .ok (.iconst 0, 1) := by decide +kernel
theorem zd_La_law_316 : decode zb_La_law 316 = .ok (.ireturn, 1) := by decide +kernel
theorem zd_La_law_317 : decode zb_La_law 317 = .ok (.aload_n 1, 1) := by decide +kernel
theorem zd_La_law_318 : decode zb_La_law 318 = .ok (.invokevirtual 68, 3) := by decide +kernel
theorem zd_La_law_321 : decode zb_La_law 321 = .ok (.aload_n 2, 1) := by decide +kernel
theorem zd_La_law_322 : decode zb_La_law 322 = .ok (.invokevirtual 71, 3) := by decide +kernel
theorem zd_La_law_325 : decode zb_La_law 325 = .ok (.if_icmp .eq 242, 3) := by decide +kernel
theorem zd_La_law_328 : decode zb_La_law 328 = .ok (.iconst 0, 1) := by decide +kernel
theorem zd_La_law_329 : decode zb_La_law 329 = .ok (.ireturn, 1) := by decide +kernel
theorem zd_La_law_330 : decode zb_La_law 330 = .ok (.aload_n 1, 1) := by decide +kernel
theorem zd_La_law_331 : decode zb_La_law 331 = .ok (.aload_n 3, 1) := by decide +kernel
theorem zd_La_law_332 : decode zb_La_law 332 = .ok (.invokestatic 72, 3) := by decide +kernel
theorem zd_La_law_335 : decode zb_La_law 335 = .ok (.istore 5, 2) := by decide +kernel
theorem zd_La_law_337 : decode zb_La_law 337 = .ok (.aload_n 2, 1) := by decide +kernel
theorem zd_La_law_338 : decode zb_La_law 338 = .ok (.invokevirtual 75, 3) := by decide +kernel
theorem zd_La_law_341 : decode zb_La_law 341 = .ok (.istore 6, 2) := by decide +kernel
theorem zd_La_law_343 : decode zb_La_law 343 = .ok (.aload_n 2, 1) := by decide +kernel
theorem zd_La_law_344 : decode zb_La_law 344 = .ok (.invokevirtual 53, 3) := by decide +kernel
theorem zd_La_law_347 : decode zb_La_law 347 = .ok (.iload 5, 2) := by decide +kernel
theorem zd_La_law_349 : decode zb_La_law 349 = .ok (.if_icmp .eq 5, 3) := by decide +kernel
theorem zd_La_law_352 : decode zb_La_law 352 = .ok (.iconst 0, 1) := by decide +kernel
theorem zd_La_law_353 : decode zb_La_law 353 = .ok (.ireturn, 1) := by decide +kernel
theorem zd_La_law_354 : decode zb_La_law 354 = .ok (.iload 5, 2) := by decide +kernel
theorem zd_La_law_356 : decode zb_La_law 356 = .ok (.ifCond .ne 15, 3) := by decide +kernel
theorem zd_La_law_359 : decode zb_La_law 359 = .ok (.aload_n 3, 1) := by decide +kernel
theorem zd_La_law_360 : decode zb_La_law 360 = .ok (.iconst 0, 1) := by decide +kernel
theorem zd_La_law_361 : decode zb_La_law 361 = .ok (.laload, 1) := by decide +kernel
theorem zd_La_law_362 : decode zb_La_law 362 = .ok (.iload 6, 2) := by decide +kernel
theorem zd_La_law_364 : decode zb_La_law 364 = .ok (.i2l, 1) := by decide +kernel
theorem zd_La_law_365 : decode zb_La_law 365 = .ok (.lcmp, 1) := by decide +kernel
theorem zd_La_law_366 : decode zb_La_law 366 = .ok (.ifCond .eq 5, 3) := by decide +kernel
theorem zd_La_law_369 : decode zb_La_law 369 = .ok (.iconst 0, 1) := by decide +kernel
theorem zd_La_law_370 : decode zb_La_law 370 = .ok (.ireturn, 1) := by decide +kernel
theorem zd_La_law_371 : decode zb_La_law 371 = .ok (.goto 196, 3) := by decide +kernel
theorem zd_La_law_374 : decode zb_La_law 374 = .ok (.aload_n 1, 1) := by decide +kernel
theorem zd_La_law_375 : decode zb_La_law 375 = .ok (.aload_n 3, 1) := by decide +kernel
theorem zd_La_law_376 : decode zb_La_law 376 = .ok (.invokestatic 76, 3) := by decide +kernel
theorem zd_La_law_379 : decode zb_La_law 379 = .ok (.istore 5, 2) := by decide +kernel
theorem zd_La_law_381 : decode zb_La_law 381 = .ok (.aload_n 2, 1) := by decide +kernel
theorem zd_La_law_382 : decode zb_La_law 382 = .ok (.invokevirtual 78, 3) := by decide +kernel
theorem zd_La_law_385 : decode zb_La_law 385 = .ok (.istore 6, 2) := by decide +kernel
theorem zd_La_law_387 : decode zb_La_law 387 = .ok (.aload_n 2, 1) := by decide +kernel
theorem zd_La_law_388 : decode zb_La_law 388 = .ok (.invokevirtual 53, 3) := by decide +kernel
theorem zd_La_law_391 : decode zb_La_law 391 = .ok (.iload 5, 2) := by decide +kernel
theorem zd_La_law_393 : decode zb_La_law 393 = .ok (.if_icmp .eq 5, 3) := by decide +kernel
theorem zd_La_law_396 : decode zb_La_law 396 = .ok (.iconst 0, 1) := by decide +kernel
theorem zd_La_law_397 : decode zb_La_law 397 = .ok (.ireturn, 1) := by decide +kernel
theorem zd_La_law_398 : decode zb_La_law 398 = .ok (.iload 5, 2) := by decide +kernel
theorem zd_La_law_400 : decode zb_La_law 400 = .ok (.ifCond .ne 15, 3) := by decide +kernel
theorem zd_La_law_403 : decode zb_La_law 403 = .ok (.aload_n 3, 1) := by decide +kernel
theorem zd_La_law_404 : decode zb_La_law 404 = .ok (.iconst 0, 1) := by decide +kernel
theorem zd_La_law_405 : decode zb_La_law 405 = .ok (.laload, 1) := by decide +kernel
theorem zd_La_law_406 : decode zb_La_law 406 = .ok (.iload 6, 2) := by decide +kernel
theorem zd_La_law_408 : decode zb_La_law 408 = .ok (.i2l, 1) := by decide +kernel
theorem zd_La_law_409 : decode zb_La_law 409 = .ok (.lcmp, 1) := by decide +kernel
theorem zd_La_law_410 : decode zb_La_law 410 = .ok (.ifCond .eq 5, 3) := by decide +kernel
theorem zd_La_law_413 : decode zb_La_law 413 = .ok (.iconst 0, 1) := by decide +kernel
theorem zd_La_law_414 : decode zb_La_law 414 = .ok (.ireturn, 1) := by decide +kernel
theorem zd_La_law_415 : decode zb_La_law 415 = .ok (.goto 152, 3) := by decide +kernel
theorem zd_La_law_418 : decode zb_La_law 418 = .ok (.aload_n 1, 1) := by decide +kernel
theorem zd_La_law_419 : decode zb_La_law 419 = .ok (.aload_n 0, 1) := by decide +kernel
theorem zd_La_law_420 : decode zb_La_law 420 = .ok (.iload 4, 2) := by decide +kernel
theorem zd_La_law_422 : decode zb_La_law 422 = .ok (.iconst 1, 1) := by decide +kernel
theorem zd_La_law_423 : decode zb_La_law 423 = .ok (.iadd, 1) := by decide +kernel
theorem zd_La_law_424 : decode zb_La_law 424 = .ok (.iaload, 1) := by decide +kernel
theorem zd_La_law_425 : decode zb_La_law 425 = .ok (.aload_n 0, 1) := by decide +kernel
theorem zd_La_law_426 : decode zb_La_law 426 = .ok (.iload 4, 2) := by decide +kernel
theorem zd_La_law_428 : decode zb_La_law 428 = .ok (.iconst 2, 1) := by decide +kernel
theorem zd_La_law_429 : decode zb_La_law 429 = .ok (.iadd, 1) := by decide +kernel
theorem zd_La_law_430 : decode zb_La_law 430 = .ok (.iaload, 1) := by decide +kernel
theorem zd_La_law_431 : decode zb_La_law 431 = .ok (.aload_n 3, 1) := by decide +kernel
theorem zd_La_law_432 : decode zb_La_law 432 = .ok (.invokestatic 79, 3) := by decide +kernel
theorem zd_La_law_435 : decode zb_La_law 435 = .ok (.istore 5, 2) := by decide +kernel
theorem zd_La_law_437 : decode zb_La_law 437 = .ok (.aload_n 2, 1) := by decide +kernel
theorem zd_La_law_438 : decode zb_La_law 438 = .ok (.aload_n 0, 1) := by decide +kernel
theorem zd_La_law_439 : decode zb_La_law 439 = .ok (.iload 4, 2) := by decide +kernel
theorem zd_La_law_441 : decode zb_La_law 441 = .ok (.iconst 1, 1) := by decide +kernel
theorem zd_La_law_442 : decode zb_La_law 442 = .ok (.iadd, 1) := by decide +kernel
theorem zd_La_law_443 : decode zb_La_law 443 = .ok (.iaload, 1) := by decide +kernel
theorem zd_La_law_444 : decode zb_La_law 444 = .ok (.aload_n 0, 1) := by decide +kernel
theorem zd_La_law_445 : decode zb_La_law 445 = .ok (.iload 4, 2) := by decide +kernel
theorem zd_La_law_447 : decode zb_La_law 447 = .ok (.iconst 2, 1) := by decide +kernel
theorem zd_La_law_448 : decode zb_La_law 448 = .ok (.iadd, 1) := by decide +kernel
theorem zd_La_law_449 : decode zb_La_law 449 = .ok (.iaload, 1) := by decide +kernel
theorem zd_La_law_450 : decode zb_La_law 450 = .ok (.invokevirtual 82, 3) := by decide +kernel
theorem zd_La_law_453 : decode zb_La_law 453 = .ok (.istore 6, 2) := by decide +kernel
theorem zd_La_law_455 : decode zb_La_law 455 = .ok (.aload_n 2, 1) := by decide +kernel
theorem zd_La_law_456 : decode zb_La_law 456 = .ok (.invokevirtual 53, 3) := by decide +kernel
theorem zd_La_law_459 : decode zb_La_law 459 = .ok (.iload 5, 2) := by decide +kernel
theorem zd_La_law_461 : decode zb_La_law 461 = .ok (.if_icmp .eq 5, 3) := by decide +kernel
theorem zd_La_law_464 : decode zb_La_law 464 = .ok (.iconst 0, 1) := by decide +kernel
theorem zd_La_law_465 : decode zb_La_law 465 = .ok (.ireturn, 1) := by decide +kernel
theorem zd_La_law_466 : decode zb_La_law 466 = .ok (.iload 5, 2) := by decide +kernel
theorem zd_La_law_468 : decode zb_La_law 468 = .ok (.ifCond .ne 15, 3) := by decide +kernel
theorem zd_La_law_471 : decode zb_La_law 471 = .ok (.aload_n 3, 1) := by decide +kernel
theorem zd_La_law_472 : decode zb_La_law 472 = .ok (.iconst 0, 1) := by decide +kernel
theorem zd_La_law_473 : decode zb_La_law 473 = .ok (.laload, 1) := by decide +kernel
theorem zd_La_law_474 : decode zb_La_law 474 = .ok (.iload 6, 2) := by decide +kernel
theorem zd_La_law_476 : decode zb_La_law 476 = .ok (.i2l, 1) := by decide +kernel
theorem zd_La_law_477 : decode zb_La_law 477 = .ok (.lcmp, 1) := by decide +kernel
theorem zd_La_law_478 : decode zb_La_law 478 = .ok (.ifCond .eq 5, 3) := by decide +kernel
theorem zd_La_law_481 : decode zb_La_law 481 = .ok (.iconst 0, 1) := by decide +kernel
theorem zd_La_law_482 : decode zb_La_law 482 = .ok (.ireturn, 1) := by decide +kernel
theorem zd_La_law_483 : decode zb_La_law 483 = .ok (.goto 84, 3) := by decide +kernel
theorem zd_La_law_486 : decode zb_La_law 486 = .ok (.aload_n 1, 1) := by decide +kernel
theorem zd_La_law_487 : decode zb_La_law 487 = .ok (.aload_n 0, 1) := by decide +kernel
theorem zd_La_law_488 : decode zb_La_law 488 = .ok (.iload 4, 2) := by decide +kernel
theorem zd_La_law_490 : decode zb_La_law 490 = .ok (.iconst 1, 1) := by decide +kernel
theorem zd_La_law_491 : decode zb_La_law 491 = .ok (.iadd, 1) := by decide +kernel
theorem zd_La_law_492 : decode zb_La_law 492 = .ok (.iaload, 1) := by decide +kernel
theorem zd_La_law_493 : decode zb_La_law 493 = .ok (.aload_n 3, 1) := by decide +kernel
theorem zd_La_law_494 : decode zb_La_law 494 = .ok (.invokestatic 83, 3) := by decide +kernel
theorem zd_La_law_497 : decode zb_La_law 497 = .ok (.istore 5, 2) := by decide +kernel
theorem zd_La_law_499 : decode zb_La_law 499 = .ok (.aload_n 2, 1) := by decide +kernel
theorem zd_La_law_500 : decode zb_La_law 500 = .ok (.aload_n 0, 1) := by decide +kernel
theorem zd_La_law_501 : decode zb_La_law 501 = .ok (.iload 4, 2) := by decide +kernel
theorem zd_La_law_503 : decode zb_La_law 503 = .ok (.iconst 1, 1) := by decide +kernel
theorem zd_La_law_504 : decode zb_La_law 504 = .ok (.iadd, 1) := by decide +kernel
theorem zd_La_law_505 : decode zb_La_law 505 = .ok (.iaload, 1) := by decide +kernel
theorem zd_La_law_506 : decode zb_La_law 506 = .ok (.invokevirtual 85, 3) := by decide +kernel
theorem zd_La_law_509 : decode zb_La_law 509 = .ok (.istore 6, 2) := by decide +kernel
theorem zd_La_law_511 : decode zb_La_law 511 = .ok (.aload_n 2, 1) := by decide +kernel
theorem zd_La_law_512 : decode zb_La_law 512 = .ok (.invokevirtual 53, 3) := by decide +kernel
theorem zd_La_law_515 : decode zb_La_law 515 = .ok (.iload 5, 2) := by decide +kernel
theorem zd_La_law_517 : decode zb_La_law 517 = .ok (.if_icmp .eq 5, 3) := by decide +kernel
theorem zd_La_law_520 : decode zb_La_law 520 = .ok (.iconst 0, 1) := by decide +kernel
theorem zd_La_law_521 : decode zb_La_law 521 = .ok (.ireturn, 1) := by decide +kernel
theorem zd_La_law_522 : decode zb_La_law 522 = .ok (.iload 5, 2) := by decide +kernel
theorem zd_La_law_524 : decode zb_La_law 524 = .ok (.ifCond .ne 15, 3) := by decide +kernel
theorem zd_La_law_527 : decode zb_La_law 527 = .ok (.aload_n 3, 1) := by decide +kernel
theorem zd_La_law_528 : decode zb_La_law 528 = .ok (.iconst 0, 1) := by decide +kernel
theorem zd_La_law_529 : decode zb_La_law 529 = .ok (.laload, 1) := by decide +kernel
theorem zd_La_law_530 : decode zb_La_law 530 = .ok (.iload 6, 2) := by decide +kernel
theorem zd_La_law_532 : decode zb_La_law 532 = .ok (.i2l, 1) := by decide +kernel
theorem zd_La_law_533 : decode zb_La_law 533 = .ok (.lcmp, 1) := by decide +kernel
theorem zd_La_law_534 : decode zb_La_law 534 = .ok (.ifCond .eq 5, 3) := by decide +kernel
theorem zd_La_law_537 : decode zb_La_law 537 = .ok (.iconst 0, 1) := by decide +kernel
theorem zd_La_law_538 : decode zb_La_law 538 = .ok (.ireturn, 1) := by decide +kernel
theorem zd_La_law_539 : decode zb_La_law 539 = .ok (.goto 28, 3) := by decide +kernel
theorem zd_La_law_542 : decode zb_La_law 542 = .ok (.aload_n 1, 1) := by decide +kernel
theorem zd_La_law_543 : decode zb_La_law 543 = .ok (.aload_n 0, 1) := by decide +kernel
theorem zd_La_law_544 : decode zb_La_law 544 = .ok (.iload 4, 2) := by decide +kernel
theorem zd_La_law_546 : decode zb_La_law 546 = .ok (.iconst 1, 1) := by decide +kernel
theorem zd_La_law_547 : decode zb_La_law 547 = .ok (.iadd, 1) := by decide +kernel
theorem zd_La_law_548 : decode zb_La_law 548 = .ok (.iaload, 1) := by decide +kernel
theorem zd_La_law_549 : decode zb_La_law 549 = .ok (.invokevirtual 86, 3) := by decide +kernel
theorem zd_La_law_552 : decode zb_La_law 552 = .ok (.aload_n 2, 1) := by decide +kernel
theorem zd_La_law_553 : decode zb_La_law 553 = .ok (.aload_n 0, 1) := by decide +kernel
theorem zd_La_law_554 : decode zb_La_law 554 = .ok (.iload 4, 2) := by decide +kernel
theorem zd_La_law_556 : decode zb_La_law 556 = .ok (.iconst 1, 1) := by decide +kernel
theorem zd_La_law_557 : decode zb_La_law 557 = .ok (.iadd, 1) := by decide +kernel
theorem zd_La_law_558 : decode zb_La_law 558 = .ok (.iaload, 1) := by decide +kernel
theorem zd_La_law_559 : decode zb_La_law 559 = .ok (.invokevirtual 89, 3) := by decide +kernel
theorem zd_La_law_562 : decode zb_La_law 562 = .ok (.if_icmp .eq 5, 3) := by decide +kernel
theorem zd_La_law_565 : decode zb_La_law 565 = .ok (.iconst 0, 1) := by decide +kernel
theorem zd_La_law_566 : decode zb_La_law 566 = .ok (.ireturn, 1) := by decide +kernel
theorem zd_La_law_567 : decode zb_La_law 567 = .ok (.iinc 4 6, 3) := by decide +kernel
theorem zd_La_law_570 : decode zb_La_law 570 = .ok (.goto (-547), 3) := by decide +kernel
theorem zd_La_law_573 : decode zb_La_law 573 = .ok (.iconst 1, 1) := by decide +kernel
theorem zd_La_law_574 : decode zb_La_law 574 = .ok (.ireturn, 1) := by decide +kernel
end
section
/-! base rows of this proof: contracts in one form, entries, ends, calls.  -/
theorem zfm {α : Type} {f : Nat → Option α} {is : List Nat} {w : List α} (h : is.map f = w.map some) : is.filterMap f = w := by
  have e : is.filterMap f = (is.map f).filterMap id := by rw [List.filterMap_map]; rfl
  rw [e, h, List.filterMap_map]
  exact List.filterMap_some
def zPre (D : va_G) (tys : List (ClassId × FieldType)) (ws : va_W) (sz : Nat) (U : State) : Prop := U.heap.size = sz ∧ va_P D zC ws U.heap ∧ va_K D zC tys U ∧ va_D (fun _ => True) ws
def zPost (D : va_G) (tys : List (ClassId × FieldType)) (ws : va_W) (A : Nat → Prop) (t : State) : Prop := va_P D zC ws t.heap ∧ va_K D zC tys t ∧ va_D A ws
/-- a contract: args, the arrays' classes, the cells; behind it 'post' of what comes (u), the cells ws' u -/
abbrev zMv (l : Launch) (D : va_G) (y : MethodName) (cc : ByteArray) (nL : Nat) (rm : Room) (as : List Value) (tys : List (ClassId × FieldType)) (ws : va_W) (sz : Nat) {S : Type} (post : S → Prop) (ws' : S → va_W) : Prop :=
  Met l y (.code y cc nL none :: wz) rm (va_Pc as (zPre D tys ws sz)) (va_Qv post (fun u => zPost D tys (ws' u) (va_A ws sz)) (va_A ws sz)) rm.cells rm.slots (va_A ws sz)
abbrev zMi (l : Launch) (D : va_G) (y : MethodName) (cc : ByteArray) (nL : Nat) (ret : FieldType) (rm : Room) (as : List Value) (tys : List (ClassId × FieldType)) (ws : va_W) (sz : Nat) {S : Type} (post : Int32 → S → Prop) (ws' : S → va_W) : Prop :=
  Met l y (.code y cc nL (some ret) :: wz) rm (va_Pc as (zPre D tys ws sz)) (va_Qi post (fun u => zPost D tys (ws' u) (va_A ws sz)) (va_A ws sz)) rm.cells rm.slots (va_A ws sz)
theorem zBlind {D : va_G} {tys : List (ClassId × FieldType)} {ws : va_W} {sz : Nat} {as : List Value} : FrameBlind (va_Pc as (zPre D tys ws sz)) := fun a U g mk q => by
  obtain ⟨q0, q1, qP, qK, qD⟩ := q
  exact ⟨q0, q1, qP, va_K.moved (u := U) (U := U.calling g mk a) (Vm.Alike.refl U.vm) qK, qD⟩
/-- the entry of a method without answer -/
theorem zInv {l : Launch} {D : va_G} {y : MethodName} {cc : ByteArray} {nL : Nat} {rm : Room} {as : List Value} {tys : List (ClassId × FieldType)} {ws : va_W} {sz : Nat} {S : Type} {post : S → Prop} {ws' : S → va_W} (hy : plainName y.cls = true) (hlen : (lg_sl as).length ≤ nL)
    (body : ∀ (p : Program) (e : Env) (s : State) (m : MethodId) (below : List Frame) (meth : Method) (c : Code) (ls : Array Slot) (A : Nat → Prop), CallFix p m c cc nL s as.toArray wz y.cls → meth.sig.returnType = none → meth.locks = false → meth.name = y.name → lv_has ls nL (lv_args 0 as) → va_P D zC ws s.heap → va_K D zC tys s → va_D A ws → va_S A s.heap s.heap [] → (∀ q, s.heap.size ≤ q → A q) → s.heap.size = sz →
      W p l e rm s m as.toArray below meth c s.heap [] 0 0 (MQ below (va_Qv post (fun u => zPost D tys (ws' u) A) A) as.toArray s rm.cells rm.slots A) (F0 m 0 ls [])) : zMv l D y cc nL rm as tys ws sz post ws' := by
  refine Met.ofW (cc := cc) (maxL := nL) (ret := none) hy rfl ?_
  intro p e s m args below meth c s₁ B hml hv
  obtain ⟨rfl, hsz, hP, hK, hD0⟩ := hv
  have hts := atoms_spec (ws := .code y cc nL none :: wz) B.pre
  have hl := lv_entry as (n := nL) hlen
  rw [lg_entry_eq]
  generalize (lg_sl as ++ List.replicate (nL - (lg_sl as).length) Slot.unset).toArray = ls at hl ⊢
  exact body p e s m below meth c ls (va_A ws sz) ⟨B.exec, B.bytes, hml, findClass_of_methodNamed B.named, fun w h => hts w (List.mem_cons_of_mem _ h)⟩ B.returns B.notSynchronized (name_of_methodNamed B.named B.method).1 hl hP hK (hD0.self (sz := sz)) va_S.rf (fun q h => Or.inr (by rw [← hsz]; exact h)) hsz
/-- .. of one that answers a number -/
theorem zIni {l : Launch} {D : va_G} {y : MethodName} {cc : ByteArray} {nL : Nat} {ret : FieldType} {rm : Room} {as : List Value} {tys : List (ClassId × FieldType)} {ws : va_W} {sz : Nat} {S : Type} {post : Int32 → S → Prop} {ws' : S → va_W} (hy : plainName y.cls = true) (hlen : (lg_sl as).length ≤ nL)
    (body : ∀ (p : Program) (e : Env) (s : State) (m : MethodId) (below : List Frame) (meth : Method) (c : Code) (ls : Array Slot) (A : Nat → Prop), CallFix p m c cc nL s as.toArray wz y.cls → meth.sig.returnType = some ret → meth.locks = false → lv_has ls nL (lv_args 0 as) → va_P D zC ws s.heap → va_K D zC tys s → va_D A ws → va_S A s.heap s.heap [] → (∀ q, s.heap.size ≤ q → A q) → s.heap.size = sz →
      W p l e rm s m as.toArray below meth c s.heap [] 0 0 (MQ below (va_Qi post (fun u => zPost D tys (ws' u) A) A) as.toArray s rm.cells rm.slots A) (F0 m 0 ls [])) : zMi l D y cc nL ret rm as tys ws sz post ws' := by
  refine Met.ofW (cc := cc) (maxL := nL) (ret := some ret) hy rfl ?_
  intro p e s m args below meth c s₁ B hml hv
  obtain ⟨rfl, hsz, hP, hK, hD0⟩ := hv
  have hts := atoms_spec (ws := .code y cc nL (some ret) :: wz) B.pre
  have hl := lv_entry as (n := nL) hlen
  rw [lg_entry_eq]
  generalize (lg_sl as ++ List.replicate (nL - (lg_sl as).length) Slot.unset).toArray = ls at hl ⊢
  exact body p e s m below meth c ls (va_A ws sz) ⟨B.exec, B.bytes, hml, findClass_of_methodNamed B.named, fun w h => hts w (List.mem_cons_of_mem _ h)⟩ B.returns B.notSynchronized hl hP hK (hD0.self (sz := sz)) va_S.rf (fun q h => Or.inr (by rw [← hsz]; exact h)) hsz
/-! what a compare of two numbers says -/
theorem zc_eq_t {a b : Nat} (ha : a < 2 ^ 31) (hb : b < 2 ^ 31) (h : nI a = nI b) : a = b := (nI_eq ha hb).mp h
theorem zc_eq_f {a b : Nat} (ha : a < 2 ^ 31) (hb : b < 2 ^ 31) (h : ¬ nI a = nI b) : a ≠ b := fun e => h ((nI_eq ha hb).mpr e)
theorem zc_ne_t {a b : Nat} (ha : a < 2 ^ 31) (hb : b < 2 ^ 31) (h : ¬ nI a = nI b) : a ≠ b := zc_eq_f ha hb h
theorem zc_ne_f {a b : Nat} (ha : a < 2 ^ 31) (hb : b < 2 ^ 31) (h : nI a = nI b) : a = b := zc_eq_t ha hb h
theorem zc_lt_t {a b : Nat} (ha : a < 2 ^ 31) (hb : b < 2 ^ 31) (h : nI a < nI b) : a < b := (nI_ltI ha hb).mp h
theorem zc_lt_f {a b : Nat} (ha : a < 2 ^ 31) (hb : b < 2 ^ 31) (h : ¬ nI a < nI b) : b ≤ a := Nat.le_of_not_lt (fun q => h ((nI_ltI ha hb).mpr q))
theorem zc_ge_t {a b : Nat} (ha : a < 2 ^ 31) (hb : b < 2 ^ 31) (h : nI b ≤ nI a) : b ≤ a := (nI_leI hb ha).mp h
theorem zc_ge_f {a b : Nat} (ha : a < 2 ^ 31) (hb : b < 2 ^ 31) (h : ¬ nI b ≤ nI a) : a < b := Nat.lt_of_not_le (fun q => h ((nI_leI hb ha).mpr q))
theorem zc_gt_t {a b : Nat} (ha : a < 2 ^ 31) (hb : b < 2 ^ 31) (h : nI b < nI a) : b < a := (nI_ltI hb ha).mp h
theorem zc_gt_f {a b : Nat} (ha : a < 2 ^ 31) (hb : b < 2 ^ 31) (h : ¬ nI b < nI a) : a ≤ b := Nat.le_of_not_lt (fun q => h ((nI_ltI hb ha).mpr q))
theorem zc_le_t {a b : Nat} (ha : a < 2 ^ 31) (hb : b < 2 ^ 31) (h : nI a ≤ nI b) : a ≤ b := (nI_leI ha hb).mp h
theorem zc_le_f {a b : Nat} (ha : a < 2 ^ 31) (hb : b < 2 ^ 31) (h : ¬ nI a ≤ nI b) : b < a := Nat.lt_of_not_le (fun q => h ((nI_leI ha hb).mpr q))
theorem zc_eq0_t {a : Nat} (ha : a < 2 ^ 31) (hb : 0 < 2 ^ 31) (h : nI a = 0) : a = 0 := zc_eq_t ha hb (by rw [nI_0]; exact h)
theorem zc_eq0_f {a : Nat} (ha : a < 2 ^ 31) (hb : 0 < 2 ^ 31) (h : ¬ nI a = 0) : a ≠ 0 := zc_eq_f ha hb (by rw [nI_0]; exact h)
theorem zc_ne0_t {a : Nat} (ha : a < 2 ^ 31) (hb : 0 < 2 ^ 31) (h : ¬ nI a = 0) : a ≠ 0 := zc_ne_t ha hb (by rw [nI_0]; exact h)
theorem zc_ne0_f {a : Nat} (ha : a < 2 ^ 31) (hb : 0 < 2 ^ 31) (h : nI a = 0) : a = 0 := zc_ne_f ha hb (by rw [nI_0]; exact h)
theorem zc_lt0_t {a : Nat} (ha : a < 2 ^ 31) (hb : 0 < 2 ^ 31) (h : nI a < 0) : a < 0 := zc_lt_t ha hb (by rw [nI_0]; exact h)
theorem zc_lt0_f {a : Nat} (ha : a < 2 ^ 31) (hb : 0 < 2 ^ 31) (h : ¬ nI a < 0) : 0 ≤ a := zc_lt_f ha hb (by rw [nI_0]; exact h)
theorem zc_ge0_t {a : Nat} (ha : a < 2 ^ 31) (hb : 0 < 2 ^ 31) (h : 0 ≤ nI a) : 0 ≤ a := zc_ge_t ha hb (by rw [nI_0]; exact h)
theorem zc_ge0_f {a : Nat} (ha : a < 2 ^ 31) (hb : 0 < 2 ^ 31) (h : ¬ 0 ≤ nI a) : a < 0 := zc_ge_f ha hb (by rw [nI_0]; exact h)
theorem zc_gt0_t {a : Nat} (ha : a < 2 ^ 31) (hb : 0 < 2 ^ 31) (h : 0 < nI a) : 0 < a := zc_gt_t ha hb (by rw [nI_0]; exact h)
theorem zc_gt0_f {a : Nat} (ha : a < 2 ^ 31) (hb : 0 < 2 ^ 31) (h : ¬ 0 < nI a) : a ≤ 0 := zc_gt_f ha hb (by rw [nI_0]; exact h)
theorem zc_le0_t {a : Nat} (ha : a < 2 ^ 31) (hb : 0 < 2 ^ 31) (h : nI a ≤ 0) : a ≤ 0 := zc_le_t ha hb (by rw [nI_0]; exact h)
theorem zc_le0_f {a : Nat} (ha : a < 2 ^ 31) (hb : 0 < 2 ^ 31) (h : ¬ nI a ≤ 0) : 0 < a := zc_le_f ha hb (by rw [nI_0]; exact h)
section ZB
variable {p : Program} {l : Launch} {e : Env} {R : Room} {s : State} {m : MethodId} {args : Array Value} {below : List Frame} {meth : Method} {c : Code} {H : Heap} {locs : List Loc} {cells slots : Nat} {Q : State → Prop}
variable {cc : ByteArray} {pc nL : Nat} {ls : Array Slot} {rest st : List Value} {own : String} {D : va_G} {A : Nat → Prop} {tys : List (ClassId × FieldType)} {ws : va_W}
/-- a number on the stack under another name -/
theorem zTop {x y : Int32} (h : x = y) (k : W p l e R s m args below meth c H locs cells slots Q (F0 m pc ls (.int y :: rest))) : W p l e R s m args below meth c H locs cells slots Q (F0 m pc ls (.int x :: rest)) := by
  rw [h]
  exact k
theorem zRetv {S : Type} {post : S → Prop} {ws' : S → va_W} {u : S} (X : CallFix p m c cc nL s args wz own) (hr : meth.sig.returnType = none) (hlk : meth.locks = false) (hpost : post u) (hP : va_P D zC (ws' u) H) (hK : va_K D zC tys s) (hD : va_D A (ws' u)) (hS : va_S A s.heap H locs) (hdg : decode cc pc = .ok (.return_, 1)) :
    W p l e R s m args below meth c H locs cells slots (MQ below (va_Qv post (fun u => zPost D tys (ws' u) A) A) args s cells slots A) (F0 m pc ls []) :=
  W.vret X.1 X.2.1 hr (fun t ht hW => ⟨⟨u, rfl, hpost, by rw [ht]; exact hP, va_K.moved hW.alike hK, hD⟩, hS.F ht⟩) hS.2.2 hdg hlk
theorem zReti {S : Type} {post : Int32 → S → Prop} {ws' : S → va_W} {u : S} {v : Int32} (X : CallFix p m c cc nL s args wz own) (hr : meth.sig.returnType = some .int) (hlk : meth.locks = false) (hpost : post v u) (hP : va_P D zC (ws' u) H) (hK : va_K D zC tys s) (hD : va_D A (ws' u)) (hS : va_S A s.heap H locs) (hdg : decode cc pc = .ok (.ireturn, 1)) :
    W p l e R s m args below meth c H locs cells slots (MQ below (va_Qi post (fun u => zPost D tys (ws' u) A) A) args s cells slots A) (F0 m pc ls [.int v]) :=
  W.iret X.1 X.2.1 hr (fun t ht hW => ⟨⟨v, u, rfl, hpost, by rw [ht]; exact hP, va_K.moved hW.alike hK, hD⟩, hS.F ht⟩) hS.2.2 hdg hlk
/-- .. a boolean -/
theorem zRetz {S : Type} {post : Int32 → S → Prop} {ws' : S → va_W} {u : S} {v : Int32} (X : CallFix p m c cc nL s args wz own) (hr : meth.sig.returnType = some .boolean) (hlk : meth.locks = false) (hn : narrow .boolean (.int v) = .int v) (hpost : post v u) (hP : va_P D zC (ws' u) H) (hK : va_K D zC tys s) (hD : va_D A (ws' u)) (hS : va_S A s.heap H locs) (hdg : decode cc pc = .ok (.ireturn, 1)) :
    W p l e R s m args below meth c H locs cells slots (MQ below (va_Qi post (fun u => zPost D tys (ws' u) A) A) args s cells slots A) (F0 m pc ls [.int v]) :=
  W.zret X.1 X.2.1 hr hn (fun t ht hW => ⟨⟨v, u, rfl, hpost, by rw [ht]; exact hP, va_K.moved hW.alike hK, hD⟩, hS.F ht⟩) hS.2.2 hdg hlk
/-- a field is read -/
theorem zGet {a : Nat} (X : CallFix p m c cc nL s args wz own) (hK : va_K D zC tys s) (hP : va_P D zC ws H) (q0 : Nat) {ci : Nat} {fs : List Value} (he : ws[q0]? = some (a, .inr (ci, fs))) {C : String} {T : u_T} {N : Nat} (hc : zC[ci]? = some (C, T, N)) (hin : ∀ w ∈ u_ws C T N, w ∈ wz) (k : Nat) (hk : k < N) {index : Nat} (hlink : Cond.fieldLink own index (T k).1 (T k).2.1 (T k).2.2.1 ∈ wz) {v : Value} (hv : fs[k]? = some v) (hdg : decode cc pc = .ok (.getfield index, 3))
    (kk : W p l e R s m args below meth c H locs cells slots Q (F0 m (pc + 3) ls (v :: rest))) : W p l e R s m args below meth c H locs cells slots Q (F0 m pc ls (.ref a :: rest)) :=
  va_get X.1 X.2.1 X.2.2.2.2 hin X.2.2.2.1 hK hP q0 he hc k hk (X.2.2.2.2 _ hlink) (fun _ h => h) hv hdg kk
/-- a field is written -/
theorem zPut {a : Nat} (X : CallFix p m c cc nL s args wz own) (hK : va_K D zC tys s) (hP : va_P D zC ws H) (hD : va_D A ws) (hS : va_S A s.heap H locs) (q0 : Nat) {ci : Nat} {fs : List Value} (he : ws[q0]? = some (a, .inr (ci, fs))) {C : String} {T : u_T} {N : Nat} (hc : zC[ci]? = some (C, T, N)) (hin : ∀ w ∈ u_ws C T N, w ∈ wz) {ty0 : Nat → FieldType} (hty : ∀ k, k < N → parseFieldDescriptor (T k).2.2.1 = some (ty0 k)) (hnm : ∀ a, a < N → ∀ b, b < N → a ≠ b → (T a).2.1 ≠ (T b).2.1) (k : Nat) (hk : k < N) {index : Nat} (hlink : Cond.fieldLink own index (T k).1 (T k).2.1 (T k).2.2.1 ∈ wz) (hfin : (T k).2.2.2 = false) {v : Value} (hn : narrow (ty0 k) v = v) (hfit : fits (ty0 k) v = true) (hl : k < fs.length) (hdg : decode cc pc = .ok (.putfield index, 3))
    (kk : ∀ (H1 : Heap) (locs1 : List Loc), va_P D zC (ws.set q0 (a, .inr (ci, fs.set k v))) H1 → va_D A (ws.set q0 (a, .inr (ci, fs.set k v))) → va_S A s.heap H1 locs1 → W p l e R s m args below meth c H1 locs1 cells slots Q (F0 m (pc + 3) ls rest)) : W p l e R s m args below meth c H locs cells slots Q (F0 m pc ls (v :: .ref a :: rest)) :=
  va_put X.1 X.2.1 X.2.2.2.2 hin ty0 hty hnm X.2.2.2.1 hK hP hD hS q0 he hc k hk (X.2.2.2.2 _ hlink) (fun _ h => h) hfin (hty k hk) hn hfit hl hdg kk
/-- an int, a byte at place k of an array is read -/
theorem zLdi {a n k t0 : Nat} {f : Nat → Int32} {cA : ClassId} (X : CallFix p m c cc nL s args wz own) (hK : va_K D zC tys s) (hP : va_P D zC ws H) (q0 : Nat) (ha : ws[q0]? = some (a, .inl (cA, n, .inl f))) (ht : tys[t0]? = some (cA, .int)) (hk : k < n) (hn : n < 2 ^ 31) (hdg : decode cc pc = .ok (.iaload, 1))
    (kk : W p l e R s m args below meth c H locs cells slots Q (F0 m (pc + 1) ls (.int (f k) :: rest))) : W p l e R s m args below meth c H locs cells slots Q (F0 m pc ls (.int (nI k) :: .ref a :: rest)) := by
  refine va_iald X.1 X.2.1 hK hP q0 t0 ha ht (vp_in_nI hk hn) hdg ?_
  rw [nI_clamp (by omega)]
  exact kk
theorem zLdb {a n k t0 : Nat} {f : Nat → Int32} {cA : ClassId} (X : CallFix p m c cc nL s args wz own) (hK : va_K D zC tys s) (hP : va_P D zC ws H) (q0 : Nat) (ha : ws[q0]? = some (a, .inl (cA, n, .inl f))) (ht : tys[t0]? = some (cA, .byte)) (hk : k < n) (hn : n < 2 ^ 31) (hdg : decode cc pc = .ok (.baload, 1))
    (kk : W p l e R s m args below meth c H locs cells slots Q (F0 m (pc + 1) ls (.int (f k) :: rest))) : W p l e R s m args below meth c H locs cells slots Q (F0 m pc ls (.int (nI k) :: .ref a :: rest)) := by
  refine va_bald X.1 X.2.1 hK hP q0 t0 ha ht (vp_in_nI hk hn) hdg ?_
  rw [nI_clamp (by omega)]
  exact kk
theorem zSti {a n k t0 : Nat} {x : Int32} {f : Nat → Int32} {cA : ClassId} (X : CallFix p m c cc nL s args wz own) (hK : va_K D zC tys s) (hP : va_P D zC ws H) (hD : va_D A ws) (hS : va_S A s.heap H locs) (q0 : Nat) (ha : ws[q0]? = some (a, .inl (cA, n, .inl f))) (ht : tys[t0]? = some (cA, .int)) (hk : k < n) (hn : n < 2 ^ 31) (hdg : decode cc pc = .ok (.iastore, 1))
    (kk : ∀ (H1 : Heap) (locs1 : List Loc), va_P D zC (ws.set q0 (a, .inl (cA, n, .inl (upd f k x)))) H1 → va_D A (ws.set q0 (a, .inl (cA, n, .inl (upd f k x)))) → va_S A s.heap H1 locs1 → W p l e R s m args below meth c H1 locs1 cells slots Q (F0 m (pc + 1) ls rest)) : W p l e R s m args below meth c H locs cells slots Q (F0 m pc ls (.int x :: .int (nI k) :: .ref a :: rest)) := by
  refine va_iast X.1 X.2.1 hK hP hD hS q0 t0 ha ht (vp_in_nI hk hn) hdg ?_
  rw [nI_clamp (by omega)]
  exact kk
/-- .. a byte is written: what it is narrowed to (pk_vb _ where it came from i2b) -/
theorem zStb {a n k t0 : Nat} {x x' : Int32} {f : Nat → Int32} {cA : ClassId} (X : CallFix p m c cc nL s args wz own) (hK : va_K D zC tys s) (hP : va_P D zC ws H) (hD : va_D A ws) (hS : va_S A s.heap H locs) (q0 : Nat) (ha : ws[q0]? = some (a, .inl (cA, n, .inl f))) (ht : tys[t0]? = some (cA, .byte)) (hk : k < n) (hn : n < 2 ^ 31) (hx : vp_nar .byte x = x') (hdg : decode cc pc = .ok (.bastore, 1))
    (kk : ∀ (H1 : Heap) (locs1 : List Loc), va_P D zC (ws.set q0 (a, .inl (cA, n, .inl (upd f k x')))) H1 → va_D A (ws.set q0 (a, .inl (cA, n, .inl (upd f k x')))) → va_S A s.heap H1 locs1 → W p l e R s m args below meth c H1 locs1 cells slots Q (F0 m (pc + 1) ls rest)) : W p l e R s m args below meth c H locs cells slots Q (F0 m pc ls (.int x :: .int (nI k) :: .ref a :: rest)) := by
  refine va_bast X.1 X.2.1 hK hP hD hS q0 t0 ha ht (vp_in_nI hk hn) hdg ?_
  rw [nI_clamp (by omega), hx]
  exact kk
/-- a final field is written in a constructor -/
theorem zPutF {a : Nat} (X : CallFix p m c cc nL s args wz own) (hK : va_K D zC tys s) (hP : va_P D zC ws H) (hD : va_D A ws) (hS : va_S A s.heap H locs) (q0 : Nat) {ci : Nat} {fs : List Value} (he : ws[q0]? = some (a, .inr (ci, fs))) {C : String} {T : u_T} {N : Nat} (hc : zC[ci]? = some (C, T, N)) (hin : ∀ w ∈ u_ws C T N, w ∈ wz) {ty0 : Nat → FieldType} (hty : ∀ k, k < N → parseFieldDescriptor (T k).2.2.1 = some (ty0 k)) (hnm : ∀ a, a < N → ∀ b, b < N → a ≠ b → (T a).2.1 ≠ (T b).2.1) (k : Nat) (hk : k < N) {index : Nat} (hlink : Cond.fieldLink own index (T k).1 (T k).2.1 (T k).2.2.1 ∈ wz) (hfin : (T k).2.2.2 = true) (hinit : meth.name = "<init>") (hdecl : (T k).1 = own) {v : Value} (hn : narrow (ty0 k) v = v) (hfit : fits (ty0 k) v = true) (hl : k < fs.length) (hdg : decode cc pc = .ok (.putfield index, 3))
    (kk : ∀ (H1 : Heap) (locs1 : List Loc), va_P D zC (ws.set q0 (a, .inr (ci, fs.set k v))) H1 → va_D A (ws.set q0 (a, .inr (ci, fs.set k v))) → va_S A s.heap H1 locs1 → W p l e R s m args below meth c H1 locs1 cells slots Q (F0 m (pc + 3) ls rest)) : W p l e R s m args below meth c H locs cells slots Q (F0 m pc ls (v :: .ref a :: rest)) :=
  va_putF X.1 X.2.1 X.2.2.2.2 hin ty0 hty hnm X.2.2.2.1 hK hP hD hS q0 he hc k hk (X.2.2.2.2 _ hlink) (fun _ h => h) hfin hinit hdecl (hty k hk) hn hfit hl hdg kk
/-- a call on an object, no answer: isC the callee's cells, isR the rest -/
theorem zCallVv {C : String} {index ci : Nat} {fs : List Value} {T : u_T} {N : Nat} {y : MethodName} {cc' : ByteArray} {nL' b : Nat} {rm : Room} {As : List Value} {tysC : List (ClassId × FieldType)} {wc wr : va_W} {S : Type} {post : S → Prop} {ws' : S → va_W}
    (X : CallFix p m c cc nL s args wz own) (hl : ls.size = nL) (hM : zMv l D y cc' nL' rm (.ref b :: As) tysC wc H.size post ws') (h1 : Cond.methodLink own index y ∈ wz) (h2 : Cond.instanceMethod y ∈ wz) (h3 : Cond.selects C y y ∈ wz) (h4 : Cond.initialized C ∈ wz) (h5 : Cond.code y cc' nL' none ∈ wz)
    (hd : y.cls = C ∧ y.cls ≠ "java/lang/invoke/MethodHandle" ∧ y.cls ≠ "java/lang/invoke/VarHandle" ∧ (parseMethodDescriptor y.desc).map (fun d => d.parameters.length) = some As.length) (hR : rm.frames + 1 ≤ R.frames ∧ 8 + (nL' + 11) + rm.locals ≤ R.locals) (hcs : cells + rm.cells ≤ R.cells ∧ slots + rm.slots ≤ R.slots)
    (hK : va_K D zC tys s) (ts : List Nat) (hts : ts.filterMap (fun i => tys[i]?) = tysC) (hP : va_P D zC ws H) (hD : va_D A ws) (hS : va_S A s.heap H locs) (hA : ∀ q, s.heap.size ≤ q → A q) (isC isR : List Nat) (hC : isC.map (fun i => ws[i]?) = wc.map some) (hnC : va_nd isC = true) (hRr : isR.map (fun i => ws[i]?) = wr.map some) (hnR : va_nd isR = true) (hdis : ∀ i ∈ isR, i ∉ isC)
    (q0 : Nat) (hb0 : wc[q0]? = some (b, .inr (ci, fs))) (hci : zC[ci]? = some (C, T, N)) (hst : st = As.reverse ++ .ref b :: rest) (hrest : (rest.map fun v => v.category).sum ≤ 8) (hdg : decode cc pc = .ok (.invokevirtual index, 3))
    (kk : ∀ (u : S) (H1 : Heap) (locs1 : List Loc), post u → va_P D zC (wr ++ ws' u) H1 → va_D A (wr ++ ws' u) → va_S A s.heap H1 locs1 → W p l e R s m args below meth c H1 locs1 (cells + rm.cells) (slots + rm.slots) Q (F0 m (pc + 3) ls rest)) : W p l e R s m args below meth c H locs cells slots Q (F0 m pc ls st) := by
  subst hst
  have hPc : va_P D zC wc H := hP.sub isC (zfm hC)
  have hDc : va_D A wc := hD.sub isC hnC hC
  have hKc : va_K D zC tysC s := hK.sub ts hts
  have hFc := va_free hD hS hA isC hC
  refine va_callv (va_runV (As := As) (rest := rest) X hM (cwV As.length X.2.2.2.2 (wz_V h1 h2 h3 h4 h5) rfl rfl rfl hd hR) ⟨zBlind, va_recv hKc hPc hci hb0, fun U hU hW => ⟨rfl, by rw [hU], by rw [hU]; exact hPc, va_K.moved hW.alike hKc, hDc.weaken (fun _ _ _ _ => trivial)⟩⟩ rfl rfl hl rfl (lv_room hrest) hdg hcs) hS (fun q _ h => hFc q h) hFc (fun u t H1 locs1 ht hvm hp hB hz hk hS1 => ?_)
  obtain ⟨hP1, hK1, hD1⟩ := hB
  rw [ht] at hP1
  obtain ⟨hP2, hD2⟩ := va_join hP hD isC isR hC hRr hnR hdis hk hFc hP1 hD1
  exact kk u H1 locs1 hp hP2 hD2 hS1
/-- .. with a number as answer -/
theorem zCallVi {C : String} {index ci : Nat} {fs : List Value} {T : u_T} {N : Nat} {y : MethodName} {cc' : ByteArray} {nL' b : Nat} {ret : FieldType} {rm : Room} {As : List Value} {tysC : List (ClassId × FieldType)} {wc wr : va_W} {S : Type} {post : Int32 → S → Prop} {ws' : S → va_W}
    (X : CallFix p m c cc nL s args wz own) (hl : ls.size = nL) (hM : zMi l D y cc' nL' ret rm (.ref b :: As) tysC wc H.size post ws') (h1 : Cond.methodLink own index y ∈ wz) (h2 : Cond.instanceMethod y ∈ wz) (h3 : Cond.selects C y y ∈ wz) (h4 : Cond.initialized C ∈ wz) (h5 : Cond.code y cc' nL' (some ret) ∈ wz)
    (hd : y.cls = C ∧ y.cls ≠ "java/lang/invoke/MethodHandle" ∧ y.cls ≠ "java/lang/invoke/VarHandle" ∧ (parseMethodDescriptor y.desc).map (fun d => d.parameters.length) = some As.length) (hR : rm.frames + 1 ≤ R.frames ∧ 8 + (nL' + 11) + rm.locals ≤ R.locals) (hcs : cells + rm.cells ≤ R.cells ∧ slots + rm.slots ≤ R.slots)
    (hK : va_K D zC tys s) (ts : List Nat) (hts : ts.filterMap (fun i => tys[i]?) = tysC) (hP : va_P D zC ws H) (hD : va_D A ws) (hS : va_S A s.heap H locs) (hA : ∀ q, s.heap.size ≤ q → A q) (isC isR : List Nat) (hC : isC.map (fun i => ws[i]?) = wc.map some) (hnC : va_nd isC = true) (hRr : isR.map (fun i => ws[i]?) = wr.map some) (hnR : va_nd isR = true) (hdis : ∀ i ∈ isR, i ∉ isC)
    (q0 : Nat) (hb0 : wc[q0]? = some (b, .inr (ci, fs))) (hci : zC[ci]? = some (C, T, N)) (hst : st = As.reverse ++ .ref b :: rest) (hrest : (rest.map fun v => v.category).sum ≤ 8) (hdg : decode cc pc = .ok (.invokevirtual index, 3))
    (kk : ∀ (r : Int32) (u : S) (H1 : Heap) (locs1 : List Loc), post r u → va_P D zC (wr ++ ws' u) H1 → va_D A (wr ++ ws' u) → va_S A s.heap H1 locs1 → W p l e R s m args below meth c H1 locs1 (cells + rm.cells) (slots + rm.slots) Q (F0 m (pc + 3) ls (.int r :: rest))) : W p l e R s m args below meth c H locs cells slots Q (F0 m pc ls st) := by
  subst hst
  have hPc : va_P D zC wc H := hP.sub isC (zfm hC)
  have hDc : va_D A wc := hD.sub isC hnC hC
  have hKc : va_K D zC tysC s := hK.sub ts hts
  have hFc := va_free hD hS hA isC hC
  refine va_calli (va_runV (As := As) (rest := rest) X hM (cwV As.length X.2.2.2.2 (wz_V h1 h2 h3 h4 h5) rfl rfl rfl hd hR) ⟨zBlind, va_recv hKc hPc hci hb0, fun U hU hW => ⟨rfl, by rw [hU], by rw [hU]; exact hPc, va_K.moved hW.alike hKc, hDc.weaken (fun _ _ _ _ => trivial)⟩⟩ rfl rfl hl rfl (lv_room hrest) hdg hcs) hS (fun q _ h => hFc q h) hFc (fun r u t H1 locs1 ht hvm hp hB hz hk hS1 => ?_)
  obtain ⟨hP1, hK1, hD1⟩ := hB
  rw [ht] at hP1
  obtain ⟨hP2, hD2⟩ := va_join hP hD isC isR hC hRr hnR hdis hk hFc hP1 hD1
  exact kk r u H1 locs1 hp hP2 hD2 hS1
/-- a static call, a number as answer -/
theorem zCallSi {index : Nat} {y : MethodName} {cc' : ByteArray} {nL' : Nat} {ret : FieldType} {rm : Room} {As : List Value} {tysC : List (ClassId × FieldType)} {wc wr : va_W} {S : Type} {post : Int32 → S → Prop} {ws' : S → va_W}
    (X : CallFix p m c cc nL s args wz own) (hl : ls.size = nL) (hM : zMi l D y cc' nL' ret rm As tysC wc H.size post ws') (h1 : Cond.methodLink own index y ∈ wz) (h2 : Cond.static y ∈ wz) (h4 : Cond.initialized y.cls ∈ wz) (h5 : Cond.code y cc' nL' (some ret) ∈ wz)
    (hd : y.cls ≠ "java/lang/invoke/MethodHandle" ∧ y.cls ≠ "java/lang/invoke/VarHandle" ∧ (parseMethodDescriptor y.desc).map (fun d => d.parameters.length) = some As.length) (hR : rm.frames + 1 ≤ R.frames ∧ 8 + (nL' + 11) + rm.locals ≤ R.locals) (hcs : cells + rm.cells ≤ R.cells ∧ slots + rm.slots ≤ R.slots)
    (hK : va_K D zC tys s) (ts : List Nat) (hts : ts.filterMap (fun i => tys[i]?) = tysC) (hP : va_P D zC ws H) (hD : va_D A ws) (hS : va_S A s.heap H locs) (hA : ∀ q, s.heap.size ≤ q → A q) (isC isR : List Nat) (hC : isC.map (fun i => ws[i]?) = wc.map some) (hnC : va_nd isC = true) (hRr : isR.map (fun i => ws[i]?) = wr.map some) (hnR : va_nd isR = true) (hdis : ∀ i ∈ isR, i ∉ isC)
    (hst : st = As.reverse ++ rest) (hrest : (rest.map fun v => v.category).sum ≤ 8) (hdg : decode cc pc = .ok (.invokestatic index, 3))
    (kk : ∀ (r : Int32) (u : S) (H1 : Heap) (locs1 : List Loc), post r u → va_P D zC (wr ++ ws' u) H1 → va_D A (wr ++ ws' u) → va_S A s.heap H1 locs1 → W p l e R s m args below meth c H1 locs1 (cells + rm.cells) (slots + rm.slots) Q (F0 m (pc + 3) ls (.int r :: rest))) : W p l e R s m args below meth c H locs cells slots Q (F0 m pc ls st) := by
  subst hst
  have hPc : va_P D zC wc H := hP.sub isC (zfm hC)
  have hDc : va_D A wc := hD.sub isC hnC hC
  have hKc : va_K D zC tysC s := hK.sub ts hts
  have hFc := va_free hD hS hA isC hC
  refine va_calli (va_runS (As := As) (rest := rest) X hM (va_cwS As.length X.2.2.2.2 (wz_S h1 h2 h4 h5) rfl rfl rfl hd hR) ⟨zBlind, fun U hU hW => ⟨rfl, by rw [hU], by rw [hU]; exact hPc, va_K.moved hW.alike hKc, hDc.weaken (fun _ _ _ _ => trivial)⟩⟩ rfl rfl hl rfl (lv_room hrest) hdg hcs) hS (fun q _ h => hFc q h) hFc (fun r u t H1 locs1 ht hvm hp hB hz hk hS1 => ?_)
  obtain ⟨hP1, hK1, hD1⟩ := hB
  rw [ht] at hP1
  obtain ⟨hP2, hD2⟩ := va_join hP hD isC isR hC hRr hnR hdis hk hFc hP1 hD1
  exact kk r u H1 locs1 hp hP2 hD2 hS1
end ZB
end
section
/-! The tree of a text, as mathematics. T: the letters, n of them; nodes 0 (the root) .. nd - 1; node v stands for the dp v letters from T (ps v) on; the edge above v starts at ps v + dp (par v), ends at ps v + dp v; suffixes 0 .. j - 1 are leaves.  -/
def tr_eq (T : Nat → Int32) (a b k : Nat) : Prop := ∀ i, i < k → T (a + i) = T (b + i)
theorem tr_eq_rf {T : Nat → Int32} {a k : Nat} : tr_eq T a a k := fun _ _ => rfl
theorem tr_eq_sy {T : Nat → Int32} {a b k : Nat} (h : tr_eq T a b k) : tr_eq T b a k := fun i hi => (h i hi).symm
theorem tr_eq_tr {T : Nat → Int32} {a b c k : Nat} (h : tr_eq T a b k) (h2 : tr_eq T b c k) : tr_eq T a c k := fun i hi => (h i hi).trans (h2 i hi)
theorem tr_eq_le {T : Nat → Int32} {a b k k' : Nat} (h : tr_eq T a b k) (hk : k' ≤ k) : tr_eq T a b k' := fun i hi => h i (Nat.lt_of_lt_of_le hi hk)
theorem tr_eq_0 {T : Nat → Int32} {a b : Nat} : tr_eq T a b 0 := fun i hi => absurd hi (Nat.not_lt_zero i)
theorem tr_eq_su {T : Nat → Int32} {a b k : Nat} (h : tr_eq T a b k) (hk : T (a + k) = T (b + k)) : tr_eq T a b (k + 1) := by
  intro i hi
  by_cases h2 : i < k
  · exact h i h2
  · have e : i = k := by omega
    rw [e]
    exact hk
theorem tr_eq_sh {T : Nat → Int32} {a b k : Nat} (d : Nat) (h : tr_eq T a b (d + k)) : tr_eq T (a + d) (b + d) k := by
  intro i hi
  have q := h (d + i) (by omega)
  rw [Nat.add_assoc, Nat.add_assoc]
  exact q
/-- the edge above v holds the depth k -/
def tr_on (par dp : Nat → Nat) (v k : Nat) : Prop := dp (par v) < k ∧ k ≤ dp v
def tr_I (T : Nat → Int32) (n nd j : Nat) (par ps dp : Nat → Nat) : Prop :=
  (dp 0 = 0 ∧ 0 < nd) ∧
  (∀ v, 0 < v → v < nd → par v < nd ∧ dp (par v) < dp v ∧ ps v + dp v ≤ n ∧ ps v < j ∧ tr_eq T (ps (par v)) (ps v) (dp (par v))) ∧
  (∀ v w k, 0 < v → v < nd → 0 < w → w < nd → tr_on par dp v k → tr_on par dp w k → tr_eq T (ps v) (ps w) k → v = w) ∧
  (∀ i k, i < j → 0 < k → i + k ≤ n → ∃ v, 0 < v ∧ v < nd ∧ tr_on par dp v k ∧ tr_eq T (ps v) i k) ∧
  (∀ v i, 0 < v → v < nd → i < ps v → ¬ tr_eq T i (ps v) (dp (par v) + 1))
section TR
variable {T : Nat → Int32} {n nd j : Nat} {par ps dp lk : Nat → Nat}
/-- the empty tree -/
theorem tr_I0 (hd : dp 0 = 0) : tr_I T n 1 0 par ps dp :=
  ⟨⟨hd, Nat.one_pos⟩, fun v h1 h2 => absurd h1 (by omega), fun v w k h1 h2 => absurd h1 (by omega), fun i k h1 => absurd h1 (Nat.not_lt_zero i), fun v i h1 h2 => absurd h1 (by omega)⟩
theorem tr_d0 (h : tr_I T n nd j par ps dp) {v : Nat} (hv : v < nd) (hd : dp v = 0) : v = 0 := by
  rcases Nat.eq_zero_or_pos v with e | e
  · exact e
  · have := (h.2.1 v e hv).2.1
    omega
/-- whose edge holds the first letter below a is a's child -/
theorem tr_child (h : tr_I T n nd j par ps dp) {a w x : Nat} (ha : a < nd) (hax : tr_eq T (ps a) x (dp a)) (hw0 : 0 < w) (hw : w < nd) (hon : tr_on par dp w (dp a + 1)) (hwx : tr_eq T (ps w) x (dp a + 1)) : par w = a := by
  have h' := h
  obtain ⟨⟨h0, hn0⟩, h2, h3, h4, h5⟩ := h
  obtain ⟨p1, p2, p3, p4, p5⟩ := h2 w hw0 hw
  obtain ⟨o1, o2⟩ := hon
  have e1 : tr_eq T (ps w) (ps a) (dp a) := tr_eq_tr (tr_eq_le hwx (by omega)) (tr_eq_sy hax)
  by_cases hc : dp (par w) = dp a
  · by_cases ha0 : a = 0
    · have hz : dp (par w) = 0 := by rw [hc, ha0, h0]
      rw [ha0]
      exact tr_d0 h' p1 hz
    · have q := h2 a (by omega) ha
      have hpw : par w ≠ 0 := by
        intro hp
        have hz : dp (par w) = 0 := by rw [hp, h0]
        have := q.2.1
        omega
      have q2 := h2 (par w) (by omega) p1
      refine h3 (par w) a (dp a) (by omega) p1 (by omega) ha ⟨?_, ?_⟩ ⟨q.2.1, Nat.le_refl _⟩ ?_
      · have := q2.2.1
        omega
      · omega
      · refine tr_eq_tr ?_ e1
        rw [← hc]
        exact p5
  · have hlt : dp (par w) < dp a := by omega
    have ha0 : 0 < a := by
      rcases Nat.eq_zero_or_pos a with e | e
      · rw [e, h0] at hlt
        exact absurd hlt (Nat.not_lt_zero _)
      · exact e
    have q := h2 a ha0 ha
    have e2 : w = a := h3 w a (dp a) hw0 hw ha0 ha ⟨hlt, by omega⟩ ⟨q.2.1, Nat.le_refl _⟩ e1
    exfalso
    rw [e2] at o2
    omega
/-- two children of one node with one first letter are one -/
theorem tr_key (h : tr_I T n nd j par ps dp) {v w : Nat} (hv0 : 0 < v) (hv : v < nd) (hw0 : 0 < w) (hw : w < nd) (hp : par v = par w) (hl : T (ps v + dp (par v)) = T (ps w + dp (par w))) : v = w := by
  obtain ⟨p1, p2, p3, p4, p5⟩ := h.2.1 v hv0 hv
  obtain ⟨q1, q2, q3, q4, q5⟩ := h.2.1 w hw0 hw
  rw [hp] at p2 p5 hl
  refine h.2.2.1 v w (dp (par w) + 1) hv0 hv hw0 hw ⟨by rw [hp]; omega, by omega⟩ ⟨by omega, by omega⟩ (tr_eq_su (tr_eq_tr (tr_eq_sy p5) q5) hl)
/-- the edge, on the way up from v, that holds the depth k -/
theorem tr_anc (h : tr_I T n nd j par ps dp) (k : Nat) (hk : 0 < k) : ∀ (d v : Nat), dp v ≤ d → 0 < v → v < nd → k ≤ dp v → ∃ w, 0 < w ∧ w < nd ∧ tr_on par dp w k ∧ tr_eq T (ps w) (ps v) k ∧ (w = v ∨ dp w ≤ dp (par v)) := by
  intro d
  induction d with
  | zero => intro v h1 h2 h3 h4; omega
  | succ d ih =>
    intro v h1 hv0 hv hkv
    obtain ⟨p1, p2, p3, p4, p5⟩ := h.2.1 v hv0 hv
    by_cases hc : dp (par v) < k
    · exact ⟨v, hv0, hv, ⟨hc, hkv⟩, tr_eq_rf, Or.inl rfl⟩
    · have hp : 0 < par v := by
        rcases Nat.eq_zero_or_pos (par v) with e | e
        · rw [e, h.1.1] at hc
          omega
        · exact e
      obtain ⟨w, w1, w2, w3, w4, w5⟩ := ih (par v) (by omega) hp p1 (by omega)
      refine ⟨w, w1, w2, w3, tr_eq_tr w4 (tr_eq_le p5 (by omega)), Or.inr ?_⟩
      rcases w5 with e | e
      · rw [e]
        exact Nat.le_refl _
      · have := (h.2.1 (par v) hp p1).2.1
        omega
/-- what stands before suffix j goes on below a -/
theorem tr_down (h : tr_I T n nd j par ps dp) {a i x D : Nat} (ha : a < nd) (hax : tr_eq T (ps a) x (dp a)) (hi : i < j) (hix : tr_eq T i x D) (hD : dp a < D) (hin : i + D ≤ n) : ∃ w, 0 < w ∧ w < nd ∧ par w = a ∧ dp a < dp w ∧ tr_eq T (ps w) x (dp a + 1) := by
  obtain ⟨w, w1, w2, w3, w4⟩ := h.2.2.2.1 i (dp a + 1) hi (by omega) (by omega)
  have e : tr_eq T (ps w) x (dp a + 1) := tr_eq_tr w4 (tr_eq_le hix (by omega))
  have hp := tr_child h ha hax w1 w2 w3 e
  refine ⟨w, w1, w2, hp, ?_, e⟩
  have := w3.2
  omega
/-- .. and along the whole edge -/
theorem tr_edge (h : tr_I T n nd j par ps dp) {a w i x D : Nat} (hw0 : 0 < w) (hw : w < nd) (hp : par w = a) (hwx : tr_eq T (ps w) x (dp a + 1)) (hi : i < j) (hix : tr_eq T i x D) (hD : dp a < D) (hDw : D ≤ dp w) (hin : i + D ≤ n) : tr_eq T (ps w) x D := by
  obtain ⟨v, v1, v2, v3, v4⟩ := h.2.2.2.1 i D hi (by omega) hin
  have v5 := v3.1
  have v6 := v3.2
  obtain ⟨u, u1, u2, u3, u4, u5⟩ := tr_anc h (dp a + 1) (by omega) (dp v) v (Nat.le_refl _) v1 v2 (by omega)
  have e : u = w := h.2.2.1 u w (dp a + 1) u1 u2 hw0 hw u3 ⟨by rw [hp]; omega, by omega⟩ (tr_eq_tr u4 (tr_eq_tr (tr_eq_le v4 (by omega)) (tr_eq_tr (tr_eq_le hix (by omega)) (tr_eq_sy hwx))))
  rcases u5 with e2 | e2
  · rw [← e, e2]
    exact tr_eq_tr v4 hix
  · exfalso
    rw [e] at e2
    omega
/-- a leaf for suffix j below b -/
theorem tr_leaf (h : tr_I T n nd j par ps dp) {b : Nat} (hb : b < nd) (hbx : tr_eq T (ps b) j (dp b)) (hj : j + dp b < n) (hno : ∀ w, 0 < w → w < nd → par w = b → T (ps w + dp b) ≠ T (j + dp b)) :
    tr_I T n (nd + 1) (j + 1) (va_up par nd b) (va_up ps nd j) (va_up dp nd (n - j)) ∧ ∀ i, i < j → ¬ tr_eq T i j (dp b + 1) := by
  have h' := h
  obtain ⟨⟨h0, hn0⟩, h2, h3, h4, h5⟩ := h
  have e1 : ∀ v, v < nd → va_up par nd b v = par v := fun v hv => va_up_ne _ _ (by omega)
  have e2 : ∀ v, v < nd → va_up ps nd j v = ps v := fun v hv => va_up_ne _ _ (by omega)
  have e3 : ∀ v, v < nd → va_up dp nd (n - j) v = dp v := fun v hv => va_up_ne _ _ (by omega)
  have f1 : va_up par nd b nd = b := va_up_self _ _ _
  have f2 : va_up ps nd j nd = j := va_up_self _ _ _
  have f3 : va_up dp nd (n - j) nd = n - j := va_up_self _ _ _
  have hnt : ∀ i, i < j → ¬ tr_eq T i j (dp b + 1) := by
    intro i hi hc
    obtain ⟨w, w1, w2, w3, w4⟩ := h4 i (dp b + 1) hi (by omega) (by omega)
    have e : tr_eq T (ps w) j (dp b + 1) := tr_eq_tr w4 hc
    exact hno w w1 w2 (tr_child h' hb hbx w1 w2 w3 e) (e (dp b) (by omega))
  have hon : ∀ v k, 0 < v → v < nd → tr_on (va_up par nd b) (va_up dp nd (n - j)) v k → tr_on par dp v k := by
    intro v k hv0 hv q
    unfold tr_on at q ⊢
    rw [e1 v hv, e3 v hv, e3 _ (h2 v hv0 hv).1] at q
    exact q
  have hno' : ∀ v k, 0 < v → v < nd → tr_on par dp v k → tr_on (va_up par nd b) (va_up dp nd (n - j)) v k := by
    intro v k hv0 hv q
    unfold tr_on at q ⊢
    rw [e1 v hv, e3 v hv, e3 _ (h2 v hv0 hv).1]
    exact q
  have hnd : ∀ k, tr_on (va_up par nd b) (va_up dp nd (n - j)) nd k ↔ dp b < k ∧ k ≤ n - j := by
    intro k
    unfold tr_on
    rw [f1, f3, e3 b hb]
  refine ⟨⟨⟨by rw [e3 0 hn0]; exact h0, by omega⟩, ?_, ?_, ?_, ?_⟩, hnt⟩
  · intro v hv0 hv
    by_cases hc : v = nd
    · subst hc
      rw [f1, f2, f3, e2 b hb, e3 b hb]
      exact ⟨by omega, by omega, by omega, by omega, hbx⟩
    · have hv' : v < nd := by omega
      obtain ⟨p1, p2, p3, p4, p5⟩ := h2 v hv0 hv'
      rw [e1 v hv', e2 v hv', e3 v hv', e2 _ p1, e3 _ p1]
      exact ⟨by omega, p2, p3, by omega, p5⟩
  · intro v w k hv0 hv hw0 hw ov ow q
    by_cases hc : v = nd
    · by_cases hd : w = nd
      · rw [hc, hd]
      · exfalso
        have hw' : w < nd := by omega
        rw [hc] at ov q
        have ov := (hnd k).mp ov
        rw [f2, e2 w hw'] at q
        exact hnt (ps w) (h2 w hw0 hw').2.2.2.1 (tr_eq_le (tr_eq_sy q) (by omega))
    · have hv' : v < nd := by omega
      by_cases hd : w = nd
      · exfalso
        rw [hd] at ow q
        have ow := (hnd k).mp ow
        rw [f2, e2 v hv'] at q
        exact hnt (ps v) (h2 v hv0 hv').2.2.2.1 (tr_eq_le q (by omega))
      · have hw' : w < nd := by omega
        rw [e2 v hv', e2 w hw'] at q
        exact h3 v w k hv0 hv' hw0 hw' (hon v k hv0 hv' ov) (hon w k hw0 hw' ow) q
  · intro i k hi hk hik
    by_cases hc : i = j
    · by_cases hkb : k ≤ dp b
      · have hb0 : 0 < b := by
          rcases Nat.eq_zero_or_pos b with e | e
          · rw [e, h0] at hkb
            omega
          · exact e
        obtain ⟨p1, p2, p3, p4, p5⟩ := h2 b hb0 hb
        obtain ⟨v, v1, v2, v3, v4⟩ := h4 (ps b) k p4 hk (by omega)
        refine ⟨v, v1, by omega, hno' v k v1 v2 v3, ?_⟩
        rw [e2 v v2, hc]
        exact tr_eq_tr v4 (tr_eq_le hbx hkb)
      · refine ⟨nd, hn0, by omega, (hnd k).mpr ⟨by omega, by omega⟩, ?_⟩
        rw [f2, hc]
        exact tr_eq_rf
    · obtain ⟨v, v1, v2, v3, v4⟩ := h4 i k (by omega) hk hik
      refine ⟨v, v1, by omega, hno' v k v1 v2 v3, ?_⟩
      rw [e2 v v2]
      exact v4
  · intro v i hv0 hv hi
    by_cases hc : v = nd
    · subst hc
      rw [f2] at hi ⊢
      rw [f1, e3 b hb]
      exact hnt i hi
    · have hv' : v < nd := by omega
      rw [e2 v hv'] at hi ⊢
      rw [e1 v hv', e3 _ (h2 v hv0 hv').1]
      exact h5 v i hv0 hv' hi
/-- the edge above w is split at the depth D -/
theorem tr_split (h : tr_I T n nd j par ps dp) {a w D : Nat} (hw0 : 0 < w) (hw : w < nd) (hp : par w = a) (h1 : dp a < D) (h2 : D < dp w) :
    tr_I T n (nd + 1) j (va_up (va_up par nd a) w nd) (va_up ps nd (ps w)) (va_up dp nd D) := by
  obtain ⟨⟨h0, hn0⟩, g2, g3, g4, g5⟩ := h
  obtain ⟨p1, p2, p3, p4, p5⟩ := g2 w hw0 hw
  have ha : a < nd := by rw [← hp]; exact p1
  have e1 : ∀ v, v < nd → v ≠ w → va_up (va_up par nd a) w nd v = par v := fun v hv hne => by rw [va_up_ne _ _ hne, va_up_ne _ _ (by omega)]
  have e2 : ∀ v, v < nd → va_up ps nd (ps w) v = ps v := fun v hv => va_up_ne _ _ (by omega)
  have e3 : ∀ v, v < nd → va_up dp nd D v = dp v := fun v hv => va_up_ne _ _ (by omega)
  have f1 : va_up (va_up par nd a) w nd nd = a := by rw [va_up_ne _ _ (by omega), va_up_self]
  have f1w : va_up (va_up par nd a) w nd w = nd := va_up_self _ _ _
  have f2 : va_up ps nd (ps w) nd = ps w := va_up_self _ _ _
  have f3 : va_up dp nd D nd = D := va_up_self _ _ _
  have ond : ∀ k, tr_on (va_up (va_up par nd a) w nd) (va_up dp nd D) nd k ↔ dp a < k ∧ k ≤ D := by
    intro k
    unfold tr_on
    rw [f1, f3, e3 a ha]
  have onw : ∀ k, tr_on (va_up (va_up par nd a) w nd) (va_up dp nd D) w k ↔ D < k ∧ k ≤ dp w := by
    intro k
    unfold tr_on
    rw [f1w, f3, e3 w hw]
  have ono : ∀ v k, 0 < v → v < nd → v ≠ w → (tr_on (va_up (va_up par nd a) w nd) (va_up dp nd D) v k ↔ tr_on par dp v k) := by
    intro v k hv0 hv hne
    unfold tr_on
    rw [e1 v hv hne, e3 v hv, e3 _ (g2 v hv0 hv).1]
  have oldw : ∀ k, dp a < k → k ≤ dp w → tr_on par dp w k := fun k q1 q2 => ⟨by rw [hp]; exact q1, q2⟩
  -- each new edge lies on an old one, with the same letters
  have back : ∀ v k, 0 < v → v < nd + 1 → tr_on (va_up (va_up par nd a) w nd) (va_up dp nd D) v k → ∃ v', 0 < v' ∧ v' < nd ∧ tr_on par dp v' k ∧ va_up ps nd (ps w) v = ps v' ∧ ((v' = w ∧ v = nd ∧ k ≤ D) ∨ (v' = w ∧ v = w ∧ D < k) ∨ (v' ≠ w ∧ v = v')) := by
    intro v k hv0 hv o
    by_cases hc : v = nd
    · rw [hc] at o ⊢
      have o := (ond k).mp o
      exact ⟨w, hw0, hw, oldw k o.1 (by omega), f2, Or.inl ⟨rfl, rfl, o.2⟩⟩
    · have hv' : v < nd := by omega
      by_cases hd : v = w
      · rw [hd] at o ⊢
        have o := (onw k).mp o
        exact ⟨w, hw0, hw, oldw k (by omega) o.2, e2 w hw, Or.inr (Or.inl ⟨rfl, rfl, o.1⟩)⟩
      · exact ⟨v, hv0, hv', (ono v k hv0 hv' hd).mp o, e2 v hv', Or.inr (Or.inr ⟨hd, rfl⟩)⟩
  refine ⟨⟨by rw [e3 0 hn0]; exact h0, by omega⟩, ?_, ?_, ?_, ?_⟩
  · intro v hv0 hv
    by_cases hc : v = nd
    · rw [hc, f1, f2, f3, e2 a ha, e3 a ha]
      refine ⟨by omega, h1, by omega, p4, ?_⟩
      rw [← hp]
      exact p5
    · have hv' : v < nd := by omega
      by_cases hd : v = w
      · rw [hd, f1w, f2, f3, e2 w hw, e3 w hw]
        exact ⟨by omega, h2, p3, p4, tr_eq_rf⟩
      · obtain ⟨q1, q2, q3, q4, q5⟩ := g2 v hv0 hv'
        rw [e1 v hv' hd, e2 v hv', e3 v hv', e2 _ q1, e3 _ q1]
        exact ⟨by omega, q2, q3, q4, q5⟩
  · intro v u k hv0 hv hu0 hu ov ou q
    obtain ⟨v', a1, a2, a3, a4, a5⟩ := back v k hv0 hv ov
    obtain ⟨u', b1, b2, b3, b4, b5⟩ := back u k hu0 hu ou
    rw [a4, b4] at q
    have e : v' = u' := g3 v' u' k a1 a2 b1 b2 a3 b3 q
    rcases a5 with ⟨c1, c2, c3⟩ | ⟨c1, c2, c3⟩ | ⟨c1, c2⟩ <;> rcases b5 with ⟨d1, d2, d3⟩ | ⟨d1, d2, d3⟩ | ⟨d1, d2⟩ <;> omega
  · intro i k hi hk hik
    obtain ⟨v, v1, v2, v3, v4⟩ := g4 i k hi hk hik
    by_cases hd : v = w
    · rw [hd] at v3 v4
      have o1 := v3.1
      have o2 := v3.2
      rw [hp] at o1
      by_cases hk2 : k ≤ D
      · exact ⟨nd, hn0, by omega, (ond k).mpr ⟨o1, hk2⟩, by rw [f2]; exact v4⟩
      · exact ⟨w, hw0, by omega, (onw k).mpr ⟨by omega, o2⟩, by rw [e2 w hw]; exact v4⟩
    · exact ⟨v, v1, by omega, (ono v k v1 v2 hd).mpr v3, by rw [e2 v v2]; exact v4⟩
  · intro v i hv0 hv hi
    by_cases hc : v = nd
    · rw [hc, f2] at hi ⊢
      rw [f1, e3 a ha, ← hp]
      exact g5 w i hw0 hw hi
    · have hv' : v < nd := by omega
      rw [e2 v hv'] at hi ⊢
      by_cases hd : v = w
      · rw [hd] at hi ⊢
        rw [f1w, f3]
        intro q
        exact g5 w i hw0 hw hi (tr_eq_le q (by rw [hp]; omega))
      · rw [e1 v hv' hd, e3 _ (g2 v hv0 hv').1]
        exact g5 v i hv0 hv' hi
/-- suffix links; wl and wb have none yet (0: none such) -/
def tr_L (T : Nat → Int32) (n nd wl wb : Nat) (ps dp lk : Nat → Nat) : Prop := ∀ v, 0 < v → v < nd → ps v + dp v < n → v ≠ wl → v ≠ wb → lk v < nd ∧ dp (lk v) + 1 = dp v ∧ tr_eq T (ps (lk v)) (ps v + 1) (dp (lk v))
/-- where suffix j ends before place: L letters below a; what stands so far stands before as well -/
def tr_A (T : Nat → Int32) (nd j place a L : Nat) (ps dp : Nat → Nat) : Prop := a < nd ∧ j + dp a + L = place ∧ tr_eq T (ps a) j (dp a) ∧ (j < place → ∃ i, i < j ∧ tr_eq T i j (place - j))
/-- the node made a letter earlier: its own letters, and that another letter than that at place goes on below it -/
def tr_B (T : Nat → Int32) (n nd j place wl : Nat) (ps dp : Nat → Nat) : Prop := wl = 0 ∨ (wl < nd ∧ 0 < j ∧ j - 1 + dp wl = place ∧ ps wl + 1 < j ∧ tr_eq T (ps wl) (j - 1) (dp wl) ∧ T (ps wl + dp wl) ≠ T place ∧ ps wl + dp wl < n)
/-- the active node is no leaf -/
theorem tr_act_in (h : tr_I T n nd j par ps dp) {a L place : Nat} (hA : tr_A T nd j place a L ps dp) (hpl : place < n) (ha0 : 0 < a) : ps a + dp a < n := by
  have := (h.2.1 a ha0 hA.1).2.2.2.1
  have := hA.2.1
  omega
/-- one step down: the child, and the active point below it -/
theorem tr_go (h : tr_I T n nd j par ps dp) {a L place : Nat} (hA : tr_A T nd j place a L ps dp) (hpl : place < n) (hL : 0 < L) :
    ∃ w, 0 < w ∧ w < nd ∧ par w = a ∧ dp a < dp w ∧ T (ps w + dp a) = T (place - L) ∧ (dp w - dp a ≤ L → tr_A T nd j place w (L - (dp w - dp a)) ps dp) ∧ (L < dp w - dp a → tr_eq T (ps w) j (place - j)) := by
  obtain ⟨a1, a2, a3, a4⟩ := hA
  obtain ⟨i, i1, i2⟩ := a4 (by omega)
  obtain ⟨w, w1, w2, w3, w4, w5⟩ := tr_down h a1 a3 i1 i2 (by omega) (by omega)
  have e : place - L = j + dp a := by omega
  refine ⟨w, w1, w2, w3, w4, by rw [e]; exact w5 (dp a) (by omega), fun hle => ⟨w2, by omega, ?_, a4⟩, fun hlt => ?_⟩
  · exact tr_edge h w1 w2 w3 w5 i1 (tr_eq_le i2 (by omega)) w4 (Nat.le_refl _) (by omega)
  · exact tr_edge h w1 w2 w3 w5 i1 i2 (by omega) (by omega) (by omega)
/-- where suffix j goes on as it stands: the next letter -/
theorem tr_stands (h : tr_I T n nd j par ps dp) {a L place w : Nat} (hA : tr_A T nd j place a L ps dp) (hpl : place < n) (hw0 : 0 < w) (hw : w < nd) (hwx : tr_eq T (ps w) j (place - j)) (hc : T (ps w + (place - j)) = T place) : tr_A T nd j (place + 1) a (L + 1) ps dp := by
  obtain ⟨a1, a2, a3, a4⟩ := hA
  refine ⟨a1, by omega, a3, fun _ => ⟨ps w, (h.2.1 w hw0 hw).2.2.2.1, ?_⟩⟩
  have e : place + 1 - j = (place - j) + 1 := by omega
  rw [e]
  refine tr_eq_su hwx ?_
  rw [hc]
  congr 1
  omega
/-- a child of a with the letter at place: suffix j goes on as it stands -/
theorem tr_below (h : tr_I T n nd j par ps dp) {a place w : Nat} (hA : tr_A T nd j place a 0 ps dp) (hw0 : 0 < w) (hw : w < nd) (hp : par w = a) : tr_eq T (ps w) j (place - j) := by
  obtain ⟨a1, a2, a3, a4⟩ := hA
  have e : place - j = dp a := by omega
  have q := (h.2.1 w hw0 hw).2.2.2.2
  rw [hp] at q
  rw [e]
  exact tr_eq_tr (tr_eq_sy q) a3
/-- with a node without link, what goes on as it stands does so at a node -/
theorem tr_mid (h : tr_I T n nd j par ps dp) {a L place w wl : Nat} (hA : tr_A T nd j place a L ps dp) (hB : tr_B T n nd j place wl ps dp) (hwl : wl ≠ 0) (hpl : place < n) (hw0 : 0 < w) (hw : w < nd) (hp : par w = a) (hlt : L < dp w - dp a) (hwx : tr_eq T (ps w) j (place - j)) (hc : T (ps w + (place - j)) = T place) : L = 0 := by
  obtain ⟨a1, a2, a3, a4⟩ := hA
  rcases hB with e | ⟨b1, b2, b3, b4, b5, b6, b7⟩
  · exact absurd e hwl
  · rcases Nat.eq_zero_or_pos L with e | e
    · exact e
    · exfalso
      have hD : dp wl = place - j + 1 := by omega
      have x1 : tr_eq T (ps wl + 1) j (place - j) := by
        have q := tr_eq_sh 1 (a := ps wl) (b := j - 1) (k := place - j) (by rw [Nat.add_comm, ← hD]; exact b5)
        have e2 : j - 1 + 1 = j := by omega
        rw [e2] at q
        exact q
      have x2 : T (ps wl + 1 + (place - j)) ≠ T place := by
        have e2 : ps wl + 1 + (place - j) = ps wl + dp wl := by omega
        rw [e2]
        exact b6
      obtain ⟨v, v1, v2, v3, v4⟩ := h.2.2.2.1 (ps wl + 1) (place - j + 1) b4 (by omega) (by omega)
      have v5 := v3.1
      have v6 := v3.2
      have on_w : tr_on par dp w (place - j) := ⟨by rw [hp]; omega, by omega⟩
      by_cases hv : dp (par v) < place - j
      · have e2 : v = w := h.2.2.1 v w (place - j) v1 v2 hw0 hw ⟨hv, by omega⟩ on_w (tr_eq_tr (tr_eq_le v4 (by omega)) (tr_eq_tr x1 (tr_eq_sy hwx)))
        rw [e2] at v4
        exact x2 ((v4 (place - j) (by omega)).symm.trans hc)
      · obtain ⟨p1, p2, p3, p4, p5⟩ := h.2.1 v v1 v2
        have hp0 : 0 < par v := by
          rcases Nat.eq_zero_or_pos (par v) with e2 | e2
          · rw [e2, h.1.1] at hv
            omega
          · exact e2
        have ed : dp (par v) = place - j := by omega
        have q := h.2.1 (par v) hp0 p1
        have e2 : par v = w := h.2.2.1 (par v) w (place - j) hp0 p1 hw0 hw ⟨by have := q.2.1; omega, by omega⟩ on_w (by
          rw [ed] at p5
          exact tr_eq_tr p5 (tr_eq_tr (tr_eq_le v4 (by omega)) (tr_eq_tr x1 (tr_eq_sy hwx))))
        rw [e2] at ed
        omega
/-- the link of the node made a letter earlier -/
theorem tr_link {wl wb : Nat} (hL : tr_L T n nd wl wb ps dp lk) {b place : Nat} (hB : tr_B T n nd j place wl ps dp) (hwl : wl ≠ 0) (hb : b < nd) (hbd : j + dp b = place) (hbx : tr_eq T (ps b) j (dp b)) : tr_L T n nd 0 wb ps dp (va_up lk wl b) := by
  intro v hv0 hv hin hne hne2
  by_cases hc : v = wl
  · subst hc
    rw [va_up_self]
    rcases hB with e | ⟨b1, b2, b3, b4, b5, b6, b7⟩
    · exact absurd e hwl
    · refine ⟨hb, by omega, tr_eq_tr hbx (tr_eq_sy ?_)⟩
      have e2 : j - 1 + 1 = j := by omega
      have q := tr_eq_sh 1 (T := T) (a := ps v) (b := j - 1) (k := dp b) (by
        have e3 : 1 + dp b = dp v := by omega
        rw [e3]
        exact b5)
      rw [e2] at q
      exact q
  · rw [va_up_ne _ _ hc]
    exact hL v hv0 hv hin hc hne2
theorem tr_L_sw {wl wb : Nat} (hL : tr_L T n nd wl wb ps dp lk) : tr_L T n nd wb wl ps dp lk := fun v h1 h2 h3 h4 h5 => hL v h1 h2 h3 h5 h4
/-- a new node: a leaf, or one that has no link yet -/
theorem tr_L_new {wl wb x y : Nat} (hL : tr_L T n nd wl wb ps dp lk) (hx : n ≤ x + y ∨ wb = nd) : tr_L T n (nd + 1) wl wb (va_up ps nd x) (va_up dp nd y) (va_up lk nd 0) := by
  intro v hv0 hv hin hne hne2
  by_cases hc : v = nd
  · exfalso
    rcases hx with e | e
    · rw [hc, va_up_self, va_up_self] at hin
      omega
    · omega
  · have hv' : v < nd := by omega
    rw [va_up_ne _ _ hc, va_up_ne _ _ hc] at hin
    obtain ⟨q1, q2, q3⟩ := hL v hv0 hv' hin hne hne2
    rw [va_up_ne _ _ hc, va_up_ne _ _ hc, va_up_ne _ _ hc, va_up_ne (k := nd) dp y (by omega : lk v ≠ nd), va_up_ne (k := nd) ps x (by omega : lk v ≠ nd)]
    exact ⟨by omega, q2, q3⟩
theorem tr_A_new {a L place x y : Nat} (hA : tr_A T nd j place a L ps dp) : tr_A T (nd + 1) j place a L (va_up ps nd x) (va_up dp nd y) := by
  obtain ⟨a1, a2, a3, a4⟩ := hA
  have hc : a ≠ nd := by omega
  refine ⟨by omega, ?_, ?_, a4⟩
  · rw [va_up_ne _ _ hc]
    exact a2
  · rw [va_up_ne _ _ hc, va_up_ne _ _ hc]
    exact a3
theorem tr_B_new {wl place x y : Nat} (hB : tr_B T n nd j place wl ps dp) : tr_B T n (nd + 1) j place wl (va_up ps nd x) (va_up dp nd y) := by
  rcases hB with e | ⟨b1, b2⟩
  · exact Or.inl e
  · have hc : wl ≠ nd := by omega
    refine Or.inr ⟨by omega, ?_⟩
    rw [va_up_ne _ _ hc, va_up_ne _ _ hc]
    exact b2
/-- the next suffix, behind the leaf of suffix j -/
theorem tr_next (h : tr_I T n nd j par ps dp) {a L place wl wb : Nat} (hA : tr_A T nd j place a L ps dp) (hL : tr_L T n nd wl wb ps dp lk) (hpl : place < n) (ha0 : 0 < a) (hne : a ≠ wl) (hne2 : a ≠ wb) : tr_A T nd (j + 1) place (lk a) L ps dp := by
  have hin := tr_act_in h hA hpl ha0
  obtain ⟨a1, a2, a3, a4⟩ := hA
  obtain ⟨l1, l2, l3⟩ := hL a ha0 a1 hin hne hne2
  refine ⟨l1, by omega, ?_, fun hlt => ?_⟩
  · refine tr_eq_tr l3 ?_
    exact tr_eq_sh 1 (by rw [Nat.add_comm, l2]; exact a3)
  · obtain ⟨i, i1, i2⟩ := a4 (by omega)
    refine ⟨i + 1, by omega, tr_eq_sh 1 (tr_eq_le i2 (by omega))⟩
theorem tr_next0 {L place : Nat} (hd : dp 0 = 0) (hA : tr_A T nd j place 0 (L + 1) ps dp) : tr_A T nd (j + 1) place 0 L ps dp := by
  obtain ⟨a1, a2, a3, a4⟩ := hA
  refine ⟨a1, by omega, by rw [hd]; exact tr_eq_0, fun hlt => ?_⟩
  obtain ⟨i, i1, i2⟩ := a4 (by omega)
  exact ⟨i + 1, by omega, tr_eq_sh 1 (tr_eq_le i2 (by omega))⟩
/-- the last suffix of a place: nothing is left -/
theorem tr_next1 {place : Nat} (hd : dp 0 = 0) (hA : tr_A T nd j place 0 0 ps dp) : j = place ∧ tr_A T nd (j + 1) (place + 1) 0 0 ps dp := by
  obtain ⟨a1, a2, a3, a4⟩ := hA
  refine ⟨by omega, a1, by omega, by rw [hd]; exact tr_eq_0, fun hlt => absurd hlt (by omega)⟩
end TR
/-! What is found in a whole tree -/
section TF
variable {T : Nat → Int32} {n nd j : Nat} {par ps dp : Nat → Nat}
/-- all of it stands before suffix j -/
def tr_W (T : Nat → Int32) (n j : Nat) : Prop := j < n → ∃ i, i < j ∧ tr_eq T i j (n - j)
/-- the row R from f on has as many letters as T from p on -/
def tr_m (T R : Nat → Int32) (p f k : Nat) : Prop := ∀ i, i < k → T (p + i) = R (f + i)
theorem tr_m_le {R : Nat → Int32} {p f k k' : Nat} (h : tr_m T R p f k) (hk : k' ≤ k) : tr_m T R p f k' := fun i hi => h i (Nat.lt_of_lt_of_le hi hk)
theorem tr_m_tr {R : Nat → Int32} {p q f k : Nat} (h : tr_eq T p q k) (h2 : tr_m T R q f k) : tr_m T R p f k := fun i hi => (h i hi).trans (h2 i hi)
theorem tr_m_eq {R : Nat → Int32} {p q f k : Nat} (h : tr_m T R p f k) (h2 : tr_m T R q f k) : tr_eq T p q k := fun i hi => (h i hi).trans (h2 i hi).symm
theorem tr_m_su {R : Nat → Int32} {p f k : Nat} (h : tr_m T R p f k) (hk : T (p + k) = R (f + k)) : tr_m T R p f (k + 1) := by
  intro i hi
  by_cases h2 : i < k
  · exact h i h2
  · have e : i = k := by omega
    rw [e]
    exact hk
/-- what stands in T stands before suffix j -/
theorem tr_early (hW : tr_W T n j) {R : Nat → Int32} {f k : Nat} (hk : 0 < k) : ∀ p, p + k ≤ n → tr_m T R p f k → ∃ i, i < j ∧ i + k ≤ n ∧ tr_m T R i f k := by
  intro p
  induction p using Nat.strongRecOn with
  | ind p ih =>
    intro hp hm
    by_cases hc : p < j
    · exact ⟨p, hc, hp, hm⟩
    · obtain ⟨i, i1, i2⟩ := hW (by omega)
      refine ih (i + (p - j)) (by omega) (by omega) ?_
      have e : j + (p - j) = p := by omega
      have q : tr_eq T (i + (p - j)) (j + (p - j)) k := tr_eq_sh (p - j) (tr_eq_le i2 (by omega))
      rw [e] at q
      exact tr_m_tr q hm
/-- below u the next letter goes on, if it stands anywhere -/
theorem tr_find (h : tr_I T n nd j par ps dp) (hW : tr_W T n j) {R : Nat → Int32} {u f p : Nat} (hu : u < nd) (hm : tr_m T R (ps u) f (dp u)) (hp : p + (dp u + 1) ≤ n) (hpm : tr_m T R p f (dp u + 1)) : ∃ w, 0 < w ∧ w < nd ∧ par w = u ∧ T (ps w + dp u) = R (f + dp u) := by
  obtain ⟨i, i1, i2, i3⟩ := tr_early hW (Nat.succ_pos _) p hp hpm
  obtain ⟨w, w1, w2, w3, w4, w5⟩ := tr_down h (x := i) (D := dp u + 1) hu (tr_m_eq hm (tr_m_le i3 (by omega))) i1 tr_eq_rf (by omega) i2
  exact ⟨w, w1, w2, w3, (w5 (dp u) (by omega)).trans (i3 (dp u) (by omega))⟩
/-- a place inside an edge: what goes on there is the edge's own letter -/
theorem tr_inside (h : tr_I T n nd j par ps dp) (hW : tr_W T n j) {R : Nat → Int32} {w f p k : Nat} (hw0 : 0 < w) (hw : w < nd) (hk : dp (par w) < k) (hk2 : k < dp w) (hm : tr_m T R (ps w) f k) (hp : p + (k + 1) ≤ n) (hpm : tr_m T R p f (k + 1)) : T (ps w + k) = R (f + k) := by
  obtain ⟨i, i1, i2, i3⟩ := tr_early hW (Nat.succ_pos _) p hp hpm
  have e : tr_eq T (ps w) i k := tr_m_eq hm (tr_m_le i3 (by omega))
  have q := tr_edge h (x := i) (D := k + 1) hw0 hw rfl (tr_eq_le e (by omega)) i1 tr_eq_rf (by omega) (by omega) i2
  exact (q k (by omega)).trans (i3 k (by omega))
/-- nothing stands before it -/
theorem tr_first (h : tr_I T n nd j par ps dp) {R : Nat → Int32} {w f p k : Nat} (hw0 : 0 < w) (hw : w < nd) (hk : dp (par w) < k) (hm : tr_m T R (ps w) f k) (hp : p < ps w) : ¬ tr_m T R p f k := by
  intro q
  exact h.2.2.2.2 w p hw0 hw hp (tr_m_eq (tr_m_le q (by omega)) (tr_m_le hm (by omega)))
/-- a COPY's length and place: L letters at P, no more anywhere, none before -/
def lg_is (T : Nat → Int32) (n : Nat) (R : Nat → Int32) (f lim L P : Nat) : Prop := L ≤ lim ∧ (0 < L → P + L ≤ n ∧ tr_m T R P f L ∧ ∀ p, p < P → ¬ tr_m T R p f L) ∧ (L < lim → ∀ p, p + (L + 1) ≤ n → ¬ tr_m T R p f (L + 1))
theorem lg_un {R : Nat → Int32} {f lim L P L' P' : Nat} (h : lg_is T n R f lim L P) (h' : lg_is T n R f lim L' P') : L = L' ∧ (0 < L → P = P') := by
  obtain ⟨a1, a2, a3⟩ := h
  obtain ⟨b1, b2, b3⟩ := h'
  have e : L = L' := by
    rcases Nat.lt_trichotomy L L' with q | q | q
    · exfalso
      obtain ⟨c1, c2, c3⟩ := b2 (by omega)
      exact a3 (by omega) P' (by omega) (tr_m_le c2 (by omega))
    · exact q
    · exfalso
      obtain ⟨c1, c2, c3⟩ := a2 (by omega)
      exact b3 (by omega) P (by omega) (tr_m_le c2 (by omega))
  subst e
  refine ⟨rfl, fun hL => ?_⟩
  obtain ⟨c1, c2, c3⟩ := a2 hL
  obtain ⟨d1, d2, d3⟩ := b2 hL
  rcases Nat.lt_trichotomy P P' with q | q | q
  · exact absurd c2 (d3 P q)
  · exact q
  · exact absurd d2 (c3 P' q)
end TF
end
section
/-! The slots of the tree's children: linear probing, as mathematics.  sl: what each of M slots holds (0: empty); h: where a key's way begins. -/
def hs_n (sl : Nat → Nat) : Nat → Nat
  | 0 => 0
  | k + 1 => hs_n sl k + (if sl k = 0 then 0 else 1)
theorem hs_n_out {sl : Nat → Nat} {r x : Nat} : ∀ {k : Nat}, k ≤ r → hs_n (va_up sl r x) k = hs_n sl k := by
  intro k
  induction k with
  | zero => intro _; rfl
  | succ k ih =>
    intro h
    show hs_n (va_up sl r x) k + _ = hs_n sl k + _
    rw [ih (by omega), va_up_ne _ _ (by omega : k ≠ r)]
theorem hs_n_new {sl : Nat → Nat} {r x : Nat} (hr : sl r = 0) (hx : x ≠ 0) : ∀ {k : Nat}, r < k → hs_n (va_up sl r x) k = hs_n sl k + 1 := by
  intro k
  induction k with
  | zero => intro h; omega
  | succ k ih =>
    intro h
    show hs_n (va_up sl r x) k + _ = hs_n sl k + _ + 1
    by_cases hc : r = k
    · subst hc
      rw [hs_n_out (Nat.le_refl _), va_up_self, if_neg hx, if_pos hr]
    · rw [ih (by omega), va_up_ne _ _ (by omega : k ≠ r)]
      omega
theorem hs_n_old {sl : Nat → Nat} {r x : Nat} (hr : sl r ≠ 0) (hx : x ≠ 0) : ∀ {k : Nat}, hs_n (va_up sl r x) k = hs_n sl k := by
  intro k
  induction k with
  | zero => rfl
  | succ k ih =>
    show hs_n (va_up sl r x) k + _ = hs_n sl k + _
    rw [ih]
    by_cases hc : k = r
    · subst hc
      rw [va_up_self, if_neg hx, if_neg hr]
    · rw [va_up_ne _ _ hc]
theorem hs_n_0 {sl : Nat → Nat} : ∀ {k : Nat}, (∀ r, r < k → sl r = 0) → hs_n sl k = 0 := by
  intro k
  induction k with
  | zero => intro _; rfl
  | succ k ih =>
    intro h
    show hs_n sl k + _ = 0
    rw [ih (fun r hr => h r (by omega)), if_pos (h k (by omega))]
theorem hs_n_free {sl : Nat → Nat} : ∀ {k : Nat}, hs_n sl k < k → ∃ r, r < k ∧ sl r = 0 := by
  intro k
  induction k with
  | zero => intro h; exact absurd h (Nat.not_lt_zero _)
  | succ k ih =>
    intro h
    have h : hs_n sl k + (if sl k = 0 then 0 else 1) < k + 1 := h
    by_cases hc : sl k = 0
    · exact ⟨k, by omega, hc⟩
    · rw [if_neg hc] at h
      obtain ⟨r, r1, r2⟩ := ih (by omega)
      exact ⟨r, by omega, r2⟩
/-- every slot lies on every way -/
theorem hs_way {M h r : Nat} (hh : h < M) (hr : r < M) : ∃ d, d < M ∧ (h + d) % M = r := by
  by_cases hc : h ≤ r
  · refine ⟨r - h, by omega, ?_⟩
    have e : h + (r - h) = r := by omega
    rw [e, Nat.mod_eq_of_lt hr]
  · refine ⟨M - h + r, by omega, ?_⟩
    have e : h + (M - h + r) = r + M := by omega
    rw [e, Nat.add_mod_right, Nat.mod_eq_of_lt hr]
/-- the nodes of which pr holds lie on their ways; hv: where each one's way begins -/
def hs_H (M nd : Nat) (sl hv : Nat → Nat) (pr : Nat → Prop) : Prop := (∀ s, s < M → sl s < nd) ∧ ∀ v, pr v → ∃ d, d < M ∧ sl ((hv v + d) % M) = v ∧ ∀ d', d' < d → sl ((hv v + d') % M) ≠ 0
/-- what a look along the way of a key k gives: slot r; ok v: v has the key -/
def hs_r (M : Nat) (sl : Nat → Nat) (ok : Nat → Prop) (h r : Nat) : Prop := ∃ d, d < M ∧ r = (h + d) % M ∧ (sl r = 0 ∨ ok (sl r)) ∧ ∀ d', d' < d → sl ((h + d') % M) ≠ 0 ∧ ¬ ok (sl ((h + d') % M))
theorem hs_r_lt {M : Nat} {sl : Nat → Nat} {ok : Nat → Prop} {h r : Nat} (q : hs_r M sl ok h r) : r < M := by
  obtain ⟨d, d1, d2, -⟩ := q
  rw [d2]
  exact Nat.mod_lt _ (by omega)
/-- who is there is found -/
theorem hs_hit {M nd : Nat} {sl hv : Nat → Nat} {pr ok : Nat → Prop} {h r w : Nat} (hH : hs_H M nd sl hv pr) (q : hs_r M sl ok h r) (hw : pr w) (hw0 : w ≠ 0) (hok : ok w) (hh : hv w = h) (hun : ∀ v, v < nd → v ≠ 0 → ok v → v = w) : sl r = w := by
  obtain ⟨d, d1, d2, d3, d4⟩ := q
  obtain ⟨c, c1, c2, c3⟩ := hH.2 w hw
  rw [hh] at c2 c3
  have hle : d ≤ c := by
    rcases Nat.lt_or_ge c d with g | g
    · exfalso
      have := (d4 c g).2
      rw [c2] at this
      exact this hok
    · exact g
  have hr : r < M := by rw [d2]; exact Nat.mod_lt _ (by omega)
  rcases Nat.eq_or_lt_of_le hle with g | g
  · rw [d2, g]
    exact c2
  · have hne := c3 d g
    rw [← d2] at hne
    rcases d3 with e | e
    · exact absurd e hne
    · exact hun (sl r) (hH.1 r hr) hne e
/-- who isn't there isn't found -/
theorem hs_miss {M nd : Nat} {sl hv : Nat → Nat} {pr ok : Nat → Prop} {h r : Nat} (hH : hs_H M nd sl hv pr) (q : hs_r M sl ok h r) (hno : ∀ v, v < nd → v ≠ 0 → ¬ ok v) : sl r = 0 := by
  have hr := hs_r_lt q
  obtain ⟨d, d1, d2, d3, d4⟩ := q
  by_cases hc : sl r = 0
  · exact hc
  · rcases d3 with e | e
    · exact e
    · exact absurd e (hno _ (hH.1 r hr) hc)
/-- x comes into the empty slot at the end of its way -/
theorem hs_put {M nd : Nat} {sl hv hv' : Nat → Nat} {pr ok : Nat → Prop} {h r x nd' : Nat} (hH : hs_H M nd sl hv pr) (q : hs_r M sl ok h r) (hr0 : sl r = 0) (hx0 : x ≠ 0) (hx : x < nd') (hnd : nd ≤ nd') (hh : hv' x = h) (hvv : ∀ v, pr v → v ≠ x → hv' v = hv v) (hpr : ∀ v, pr v → v ≠ 0) : hs_H M nd' (va_up sl r x) hv' (fun v => pr v ∨ v = x) := by
  have hkeep : ∀ s, sl s ≠ 0 → va_up sl r x s ≠ 0 := by
    intro s hs
    by_cases hc : s = r
    · rw [hc, va_up_self]; exact hx0
    · rw [va_up_ne _ _ hc]; exact hs
  refine ⟨fun s hs => ?_, fun v hp => ?_⟩
  · by_cases hc : s = r
    · rw [hc, va_up_self]; exact hx
    · rw [va_up_ne _ _ hc]
      exact Nat.lt_of_lt_of_le (hH.1 s hs) hnd
  · by_cases hvx : v = x
    · obtain ⟨d, d1, d2, d3, d4⟩ := q
      refine ⟨d, d1, ?_, fun d' hd' => ?_⟩
      · rw [hvx, hh, ← d2, va_up_self]
      · rw [hvx, hh]
        exact hkeep _ (d4 d' hd').1
    · have hp : pr v := hp.resolve_right hvx
      obtain ⟨c, c1, c2, c3⟩ := hH.2 v hp
      rw [← hvv v hp hvx] at c2 c3
      refine ⟨c, c1, ?_, fun d' hd' => hkeep _ (c3 d' hd')⟩
      have hne2 : (hv' v + c) % M ≠ r := by
        intro e
        rw [e, hr0] at c2
        exact hpr v hp c2.symm
      rw [va_up_ne _ _ hne2]
      exact c2
theorem hs_pr {M nd : Nat} {sl hv : Nat → Nat} {pr pr' : Nat → Prop} (hH : hs_H M nd sl hv pr) (h : ∀ v, pr' v → pr v) : hs_H M nd sl hv pr' := ⟨hH.1, fun v hv => hH.2 v (h v hv)⟩
/-- x takes the slot of w, whose key it has -/
theorem hs_swap {M nd : Nat} {sl hv hv' : Nat → Nat} {pr ok : Nat → Prop} {h r w x nd' : Nat} (hH : hs_H M nd sl hv pr) (q : hs_r M sl ok h r) (hrw : sl r = w) (hx0 : x ≠ 0) (hx : x < nd') (hnd : nd ≤ nd') (hh : hv' x = h) (hvv : ∀ v, pr v → v ≠ w → v ≠ x → hv' v = hv v) : hs_H M nd' (va_up sl r x) hv' (fun v => (pr v ∧ v ≠ w) ∨ v = x) := by
  have hkeep : ∀ s, sl s ≠ 0 → va_up sl r x s ≠ 0 := by
    intro s hs
    by_cases hc : s = r
    · rw [hc, va_up_self]; exact hx0
    · rw [va_up_ne _ _ hc]; exact hs
  refine ⟨fun s hs => ?_, fun v hp => ?_⟩
  · by_cases hc : s = r
    · rw [hc, va_up_self]; exact hx
    · rw [va_up_ne _ _ hc]
      exact Nat.lt_of_lt_of_le (hH.1 s hs) hnd
  · by_cases hvx : v = x
    · obtain ⟨d, d1, d2, d3, d4⟩ := q
      refine ⟨d, d1, ?_, fun d' hd' => ?_⟩
      · rw [hvx, hh, ← d2, va_up_self]
      · rw [hvx, hh]
        exact hkeep _ (d4 d' hd').1
    · obtain ⟨p1, p2⟩ := hp.resolve_right hvx
      obtain ⟨c, c1, c2, c3⟩ := hH.2 v p1
      rw [← hvv v p1 p2 hvx] at c2 c3
      refine ⟨c, c1, ?_, fun d' hd' => hkeep _ (c3 d' hd')⟩
      have hne2 : (hv' v + c) % M ≠ r := by
        intro e
        rw [e, hrw] at c2
        exact p2 c2.symm
      rw [va_up_ne _ _ hne2]
      exact c2
/-- no node lies in two slots -/
def hs_i (M : Nat) (sl : Nat → Nat) : Prop := ∀ s s', s < M → s' < M → sl s ≠ 0 → sl s = sl s' → s = s'
theorem hs_i_put {M : Nat} {sl : Nat → Nat} {r x : Nat} (h : hs_i M sl) (hx : ∀ s, s < M → sl s ≠ x) : hs_i M (va_up sl r x) := by
  intro s s' h1 h2 h3 h4
  by_cases hc : s = r
  · by_cases hd : s' = r
    · rw [hc, hd]
    · exfalso
      rw [hc, va_up_self, va_up_ne _ _ hd] at h4
      exact hx s' h2 h4.symm
  · by_cases hd : s' = r
    · exfalso
      rw [hd, va_up_self, va_up_ne _ _ hc] at h4
      exact hx s h1 h4
    · rw [va_up_ne _ _ hc] at h3 h4
      rw [va_up_ne _ _ hd] at h4
      exact h s s' h1 h2 h3 h4
theorem hs_i_gone {M : Nat} {sl : Nat → Nat} {r x w : Nat} (h : hs_i M sl) (hr : r < M) (hw : sl r = w) (hw0 : w ≠ 0) (hx : x ≠ w) : ∀ s, s < M → va_up sl r x s ≠ w := by
  intro s hs
  by_cases hc : s = r
  · rw [hc, va_up_self]; exact hx
  · rw [va_up_ne _ _ hc]
    intro e
    exact hc (h s r hs hr (by rw [e]; exact hw0) (e.trans hw.symm))
end
section
/-! Tree and slots together. hN a c: where the way of the key (a, c) begins -/
section GR
variable {T : Nat → Int32} {n M nd j : Nat} {par ps dp lk sl : Nat → Nat} {hN : Nat → Int32 → Nat}
def gw_v (T : Nat → Int32) (hN : Nat → Int32 → Nat) (par ps dp : Nat → Nat) : Nat → Nat := fun v => hN (par v) (T (ps v + dp (par v)))
def gw_ok (T : Nat → Int32) (par ps dp : Nat → Nat) (a : Nat) (c : Int32) : Nat → Prop := fun v => par v = a ∧ T (ps v + dp (par v)) = c
def gw_T (T : Nat → Int32) (hN : Nat → Int32 → Nat) (n M nd j : Nat) (par ps dp sl : Nat → Nat) : Prop := tr_I T n nd j par ps dp ∧ hs_H M nd sl (gw_v T hN par ps dp) (fun v => 0 < v ∧ v < nd) ∧ hs_n sl M + 1 = nd ∧ hs_i M sl
/-- a child that is there is found -/
theorem gw_hit (h : gw_T T hN n M nd j par ps dp sl) {a r w : Nat} {c : Int32} (q : hs_r M sl (gw_ok T par ps dp a c) (hN a c) r) (hw0 : 0 < w) (hw : w < nd) (hp : par w = a) (hc : T (ps w + dp a) = c) : sl r = w := by
  refine hs_hit h.2.1 q ⟨hw0, hw⟩ (by omega) ⟨hp, by rw [hp]; exact hc⟩ (by unfold gw_v; rw [hp, hc]) (fun v hv hv0 hok => ?_)
  obtain ⟨o1, o2⟩ := hok
  exact tr_key h.1 (by omega) hv hw0 hw (o1.trans hp.symm) (o2.trans (by rw [hp]; exact hc.symm))
/-- what is found is a child, or there is none -/
theorem gw_look (h : gw_T T hN n M nd j par ps dp sl) {a r : Nat} {c : Int32} (q : hs_r M sl (gw_ok T par ps dp a c) (hN a c) r) : (sl r = 0 ∧ ∀ w, 0 < w → w < nd → par w = a → T (ps w + dp a) ≠ c) ∨ (0 < sl r ∧ sl r < nd ∧ par (sl r) = a ∧ T (ps (sl r) + dp a) = c) := by
  have hr := hs_r_lt q
  by_cases hc : sl r = 0
  · refine Or.inl ⟨hc, fun w w0 w1 w2 w3 => ?_⟩
    have e := gw_hit h q w0 w1 w2 w3
    omega
  · obtain ⟨d, d1, d2, d3, d4⟩ := q
    rcases d3 with e | ⟨e1, e2⟩
    · exact absurd e hc
    · exact Or.inr ⟨by omega, h.2.1.1 r hr, e1, by rw [e1] at e2; exact e2⟩
theorem gw_free (h : gw_T T hN n M nd j par ps dp sl) (hM : nd ≤ M) : ∃ r, r < M ∧ sl r = 0 := hs_n_free (by have := h.2.2.1; omega)
/-- a leaf comes in -/
theorem gw_leaf (h : gw_T T hN n M nd j par ps dp sl) {b r : Nat} (hb : b < nd) (hbx : tr_eq T (ps b) j (dp b)) (hj : j + dp b < n) (hno : ∀ w, 0 < w → w < nd → par w = b → T (ps w + dp b) ≠ T (j + dp b)) (q : hs_r M sl (gw_ok T par ps dp b (T (j + dp b))) (hN b (T (j + dp b))) r) :
    sl r = 0 ∧ gw_T T hN n M (nd + 1) (j + 1) (va_up par nd b) (va_up ps nd j) (va_up dp nd (n - j)) (va_up sl r nd) := by
  obtain ⟨hI, hH, hn, hi⟩ := h
  have hn0 := hI.1.2
  have hr0 : sl r = 0 := by
    rcases gw_look ⟨hI, hH, hn, hi⟩ q with e | ⟨e1, e2, e3, e4⟩
    · exact e.1
    · exact absurd e4 (hno _ e1 e2 e3)
  refine ⟨hr0, (tr_leaf hI hb hbx hj hno).1, ?_, ?_, hs_i_put hi (fun s hs => by have := hH.1 s hs; omega)⟩
  · refine hs_pr (hs_put (hv' := gw_v T hN (va_up par nd b) (va_up ps nd j) (va_up dp nd (n - j))) hH q hr0 (by omega) (Nat.lt_succ_self nd) (Nat.le_succ nd) ?_ (fun v hv _ => ?_) (fun v hv => by omega)) (fun v hv => by
      by_cases hc : v = nd
      · exact Or.inr hc
      · exact Or.inl ⟨hv.1, by omega⟩)
    · unfold gw_v
      rw [va_up_self, va_up_self, va_up_ne _ _ (by omega : b ≠ nd)]
    · have hp := (hI.2.1 v hv.1 hv.2).1
      unfold gw_v
      rw [va_up_ne _ _ (by omega : v ≠ nd), va_up_ne _ _ (by omega : v ≠ nd), va_up_ne _ _ (by omega : par v ≠ nd)]
  · rw [hs_n_new hr0 (by omega) (hs_r_lt q)]
    omega
/-- an edge is split: the new node takes the child's slot, the child the slot at the end of its new way -/
theorem gw_split (h : gw_T T hN n M nd j par ps dp sl) {a w D r r1 : Nat} (hw0 : 0 < w) (hw : w < nd) (hp : par w = a) (h1 : dp a < D) (h2 : D < dp w) (q : hs_r M sl (gw_ok T par ps dp a (T (ps w + dp a))) (hN a (T (ps w + dp a))) r)
    (q1 : hs_r M (va_up sl r nd) (gw_ok T (va_up (va_up par nd a) w nd) (va_up ps nd (ps w)) (va_up dp nd D) nd (T (ps w + D))) (hN nd (T (ps w + D))) r1) :
    va_up sl r nd r1 = 0 ∧ gw_T T hN n M (nd + 1) j (va_up (va_up par nd a) w nd) (va_up ps nd (ps w)) (va_up dp nd D) (va_up (va_up sl r nd) r1 w) := by
  have hrw := gw_hit h q hw0 hw hp rfl
  obtain ⟨hI, hH, hn, hi⟩ := h
  have hn0 := hI.1.2
  have hI' := tr_split hI hw0 hw hp h1 h2
  have ha : a < nd := by rw [← hp]; exact (hI.2.1 w hw0 hw).1
  have hH1 := hs_swap (hv' := gw_v T hN (va_up (va_up par nd a) w nd) (va_up ps nd (ps w)) (va_up dp nd D)) (x := nd) hH q hrw (by omega) (Nat.lt_succ_self nd) (Nat.le_succ nd) (by
      unfold gw_v
      rw [va_up_ne _ _ (by omega : nd ≠ w), va_up_self, va_up_self, va_up_ne _ _ (by omega : a ≠ nd)]) (fun v hv hne hne2 => by
      have hpv := (hI.2.1 v hv.1 hv.2).1
      unfold gw_v
      rw [va_up_ne _ _ hne, va_up_ne _ _ hne2, va_up_ne _ _ hne2, va_up_ne _ _ (by omega : par v ≠ nd)])
  have hr1 := hs_r_lt q1
  have hgone : ∀ s, s < M → va_up sl r nd s ≠ w := hs_i_gone hi (hs_r_lt q) hrw (by omega) (by omega)
  -- nobody but w is a child of the new node
  have hz : va_up sl r nd r1 = 0 := by
    by_cases hc : va_up sl r nd r1 = 0
    · exact hc
    · exfalso
      have q1' := q1
      obtain ⟨d, d1, d2, d3, d4⟩ := q1
      rcases d3 with e | ⟨e1, e2⟩
      · exact hc e
      · -- v := what the slot holds; its parent is nd
        have hv := hH1.1 r1 hr1
        by_cases hvw : va_up sl r nd r1 = w
        · exact hgone r1 hr1 hvw
        · by_cases hvn : va_up sl r nd r1 = nd
          · rw [hvn, va_up_ne _ _ (by omega : nd ≠ w), va_up_self] at e1
            omega
          · rw [va_up_ne _ _ hvw, va_up_ne _ _ hvn] at e1
            have := (hI.2.1 _ (by omega) (by omega : va_up sl r nd r1 < nd)).1
            omega
  refine ⟨hz, hI', ?_, ?_, hs_i_put (hs_i_put hi (fun s hs => by have := hH.1 s hs; omega)) hgone⟩
  · refine hs_pr (hs_put (hv' := gw_v T hN (va_up (va_up par nd a) w nd) (va_up ps nd (ps w)) (va_up dp nd D)) hH1 q1 hz (by omega) (by omega : w < nd + 1) (Nat.le_refl _) ?_ (fun v hv _ => rfl) (fun v hv => by rcases hv with e | e <;> omega)) (fun v hv => by
      by_cases hc : v = w
      · exact Or.inr hc
      · by_cases hd : v = nd
        · exact Or.inl (Or.inr hd)
        · exact Or.inl (Or.inl ⟨⟨hv.1, by omega⟩, hc⟩))
    unfold gw_v
    rw [va_up_self, va_up_self, va_up_ne _ _ (by omega : w ≠ nd)]
  · rw [hs_n_new hz (by omega) hr1, hs_n_old (by omega) (by omega)]
    omega
end GR
end
section
/-! Rows of bytes as lists.  tx f n: the first n places of the array f -/
def tx (f : Nat → Int32) (n : Nat) : List Int32 := (List.range n).map f
theorem tx_len (f : Nat → Int32) (n : Nat) : (tx f n).length = n := by simp [tx]
theorem tx_get (f : Nat → Int32) {n i : Nat} (h : i < n) : (tx f n)[i]? = some (f i) := by simp [tx, h]
theorem tx_getD (f : Nat → Int32) {n i : Nat} (h : i < n) : (tx f n).getD i 0 = f i := by rw [List.getD_eq_getElem?_getD, tx_get f h]; rfl
theorem tx_0 (f : Nat → Int32) : tx f 0 = [] := rfl
theorem tx_su (f : Nat → Int32) (n : Nat) : tx f (n + 1) = tx f n ++ [f n] := by simp [tx, List.range_succ]
theorem tx_ext {f g : Nat → Int32} {n : Nat} (h : ∀ i, i < n → f i = g i) : tx f n = tx g n := by
  unfold tx
  exact List.map_congr_left (fun i hi => h i (List.mem_range.mp hi))
theorem tx_at {f g : Nat → Int32} {n i : Nat} (h : tx f n = tx g n) (hi : i < n) : f i = g i := by
  have q := congrArg (fun l : List Int32 => l[i]?) h
  simp only [tx_get _ hi] at q
  exact Option.some.inj q
theorem tx_push (f : Nat → Int32) (n : Nat) (x : Int32) : tx (upd f n x) (n + 1) = tx f n ++ [x] := by
  rw [tx_su, pk_us, tx_ext (f := upd f n x) (g := f) (fun i hi => pk_un (by omega))]
theorem tx_cut (f : Nat → Int32) {n k : Nat} (h : k ≤ n) : (tx f n).take k = tx f k := by
  apply List.ext_getElem?
  intro i
  rw [List.getElem?_take]
  by_cases hi : i < k
  · rw [if_pos hi, tx_get f (by omega), tx_get f hi]
  · rw [if_neg hi]
    rw [List.getElem?_eq_none (by rw [tx_len]; omega)]
theorem tx_set (f : Nat → Int32) {n i : Nat} (h : i < n) (x : Int32) : tx (upd f i x) n = (tx f n).set i x := by
  apply List.ext_getElem?
  intro k
  rw [List.getElem?_set]
  by_cases hk : k < n
  · rw [tx_get _ hk]
    by_cases hc : i = k
    · subst hc
      rw [if_pos rfl, if_pos (by rw [tx_len]; exact hk), pk_us]
    · rw [if_neg hc, tx_get _ hk, pk_un (by omega)]
  · rw [List.getElem?_eq_none (by rw [tx_len]; omega)]
    by_cases hc : i = k
    · omega
    · rw [if_neg hc, List.getElem?_eq_none (by rw [tx_len]; omega)]
/-- k places of g from sp on, behind the n of f -/
theorem tx_cpy (f g : Nat → Int32) (n sp k : Nat) : tx (va_cpy g f sp n k) (n + k) = tx f n ++ tx (fun i => g (sp + i)) k := by
  induction k with
  | zero =>
    rw [tx_0, List.append_nil]
    exact tx_ext (fun i hi => pk_cpy_out (Or.inl hi))
  | succ k ih =>
    rw [← Nat.add_assoc, tx_su, tx_su, ← List.append_assoc, ← ih, pk_cpy_in (by omega) (by omega)]
    congr 1
    · refine tx_ext (fun i hi => ?_)
      by_cases hc : i < n
      · rw [pk_cpy_out (Or.inl hc), pk_cpy_out (Or.inl hc)]
      · rw [pk_cpy_in (by omega) (by omega), pk_cpy_in (by omega) (by omega)]
    · have e : sp + (n + k - n) = sp + k := by omega
      rw [e]
theorem tx_part (g : Nat → Int32) {m sp k : Nat} (h : sp + k ≤ m) : tx (fun i => g (sp + i)) k = ((tx g m).drop sp).take k := by
  apply List.ext_getElem?
  intro i
  rw [List.getElem?_take]
  by_cases hi : i < k
  · rw [if_pos hi, List.getElem?_drop, tx_get _ hi, tx_get _ (by omega)]
  · rw [if_neg hi, List.getElem?_eq_none (by rw [tx_len]; omega)]
/-- a list as an array -/
def tf (l : List Int32) : Nat → Int32 := fun i => l.getD i 0
theorem tf_tx {f : Nat → Int32} {n i : Nat} (h : i < n) : tf (tx f n) i = f i := tx_getD f h
/-! what each call makes of INPUT, BASE, OUTPUT -/
def b8 (x : Int32) : Int32 := x.toInt8.toInt32
def ush (x : Int32) (k : Nat) : Int32 := nI (x.toBitVec.toNat / 2 ^ k)
def fourB (x : Int32) : List Int32 := [b8 (ush x 24), b8 (ush x 16), b8 (ush x 8), b8 x]
def numB : Nat → Nat → List Int32
  | 0, v => [b8 (nI v)]
  | k + 1, v => if v < 128 then [b8 (nI v)] else b8 (nI (v % 128 + 128)) :: numB k (v / 128)
def nzB (v : Nat) : List Int32 := if v = 0 then [] else [b8 (nI v)]
def nzb (v b : Nat) : Nat := if v = 0 then 0 else b
def copyB (P L : Nat) : List Int32 := b8 (nI (128 + nzb (P % 256) 1 + nzb (P / 256 % 256) 2 + nzb (L % 256) 16 + nzb (L / 256 % 256) 32)) :: (nzB (P % 256) ++ nzB (P / 256 % 256) ++ nzB (L % 256) ++ nzB (L / 256 % 256))
/-- k BYTES of l from i on as NEW ones -/
def newB (l : List Int32) : Nat → Nat → Nat → List Int32
  | 0, _, _ => []
  | q + 1, i, k => if k = 0 then [] else if k ≤ 127 then nI k :: (l.drop i).take k else nI 127 :: ((l.drop i).take 127 ++ newB l q (i + 127) (k - 127))
noncomputable def lgf (T R : List Int32) (i : Nat) : Nat × Nat := Classical.epsilon (fun q : Nat × Nat => lg_is (tf T) T.length (tf R) i (min (R.length - i) 65535) q.1 q.2)
theorem lgf_eq {T R : List Int32} {i L P : Nat} (h : lg_is (tf T) T.length (tf R) i (min (R.length - i) 65535) L P) : (lgf T R i).1 = L ∧ (0 < L → (lgf T R i).2 = P) := by
  have q : lg_is (tf T) T.length (tf R) i (min (R.length - i) 65535) (lgf T R i).1 (lgf T R i).2 := Classical.epsilon_spec (p := fun q : Nat × Nat => lg_is (tf T) T.length (tf R) i (min (R.length - i) 65535) q.1 q.2) ⟨(L, P), h⟩
  obtain ⟨e1, e2⟩ := lg_un h q
  exact ⟨e1.symm, fun hL => (e2 hL).symm⟩
/-- the DELTA from place i on; NEW ones wait since fr; acc: what is written so far -/
noncomputable def mkB (T R : List Int32) : Nat → Nat → Nat → List Int32 → Nat → Nat → List Int32 × Nat × Nat
  | 0, _, _, acc, c, f => (acc, c, f)
  | q + 1, i, fr, acc, c, f =>
    if i < R.length then
      (if 8 ≤ (lgf T R i).1 then mkB T R q (i + (lgf T R i).1) (i + (lgf T R i).1) (acc ++ newB R (i - fr) fr (i - fr) ++ copyB (lgf T R i).2 (lgf T R i).1) (c + 1) (f + (i - fr))
       else mkB T R q (i + 1) fr acc c f)
    else (acc ++ newB R (R.length - fr) fr (R.length - fr), c, f + (R.length - fr))
end
section
/-! The reference's own search, as mathematics.  -/
section LK
variable {T R : Nat → Int32} {n f lim p L P : Nat}
/-- before place p: the longest so far, its first place -/
def lk_I (T : Nat → Int32) (n : Nat) (R : Nat → Int32) (f lim p L P : Nat) : Prop := L ≤ lim ∧ (0 < L → P < p ∧ P + L ≤ n ∧ tr_m T R P f L ∧ ∀ q, q < P → ¬ tr_m T R q f L) ∧ ∀ q, q < p → q + (L + 1) ≤ n → L + 1 ≤ lim → ¬ tr_m T R q f (L + 1)
theorem lk_0 : lk_I T n R f lim 0 0 P := ⟨Nat.zero_le _, fun h => absurd h (by omega), fun q h => absurd h (by omega)⟩
/-- at p no more than before -/
theorem lk_no (h : lk_I T n R f lim p L P) (hno : p + (L + 1) ≤ n → L + 1 ≤ lim → ¬ tr_m T R p f (L + 1)) : lk_I T n R f lim (p + 1) L P := by
  obtain ⟨a1, a2, a3⟩ := h
  refine ⟨a1, fun hL => ?_, fun q hq h1 h2 => ?_⟩
  · obtain ⟨b1, b2, b3, b4⟩ := a2 hL
    exact ⟨by omega, b2, b3, b4⟩
  · by_cases hc : q = p
    · subst hc
      exact hno h1 h2
    · exact a3 q (by omega) h1 h2
/-- at p more than before: k, and no more than k -/
theorem lk_yes {k : Nat} (h : lk_I T n R f lim p L P) (hk : L < k) (hlim : k ≤ lim) (hn : p + k ≤ n) (hm : tr_m T R p f k) (hmax : p + (k + 1) ≤ n → k + 1 ≤ lim → T (p + k) ≠ R (f + k)) : lk_I T n R f lim (p + 1) k p := by
  obtain ⟨a1, a2, a3⟩ := h
  refine ⟨hlim, fun _ => ⟨by omega, hn, hm, fun q hq hc => a3 q hq (by omega) (by omega) (tr_m_le hc (by omega))⟩, fun q hq h1 h2 hc => ?_⟩
  by_cases he : q = p
  · subst he
    exact hmax h1 h2 (hc k (by omega))
  · exact a3 q (by omega) (by omega) (by omega) (tr_m_le hc (by omega))
theorem lk_end (h : lk_I T n R f lim p L P) (hx : n ≤ p + L ∨ lim ≤ L) : lg_is T n R f lim L P := by
  obtain ⟨a1, a2, a3⟩ := h
  refine ⟨a1, fun hL => ?_, fun hlt q hq => ?_⟩
  · obtain ⟨b1, b2, b3, b4⟩ := a2 hL
    exact ⟨b2, b3, b4⟩
  · exact a3 q (by omega) hq (by omega)
/-- what is asked of an array is asked of its list -/
theorem lg_tx {m : Nat} (hf : f + lim ≤ m) (h : lg_is T n R f lim L P) : lg_is (tf (tx T n)) n (tf (tx R m)) f lim L P := by
  have e : ∀ p k, p + k ≤ n → k ≤ lim → (tr_m T R p f k ↔ tr_m (tf (tx T n)) (tf (tx R m)) p f k) := by
    intro p k hp hk
    refine ⟨fun q i hi => ?_, fun q i hi => ?_⟩
    · rw [tf_tx (by omega), tf_tx (by omega)]
      exact q i hi
    · have := q i hi
      rw [tf_tx (by omega), tf_tx (by omega)] at this
      exact this
  obtain ⟨a1, a2, a3⟩ := h
  refine ⟨a1, fun hL => ?_, fun hlt p hp hc => a3 hlt p hp ((e p (L + 1) hp (by omega)).mpr hc)⟩
  obtain ⟨b1, b2, b3⟩ := a2 hL
  exact ⟨b1, (e P L b1 a1).mp b2, fun p hp hc => b3 p hp ((e p L (by omega) a1).mpr hc)⟩
end LK
/-! how long a DELTA may be -/
theorem nw_len (l : List Int32) : ∀ (q i k : Nat), k ≤ q → i + k ≤ l.length → (newB l q i k).length = k + (k + 126) / 127 := by
  intro q
  induction q with
  | zero => intro i k h1 h2; have e : k = 0 := by omega
            subst e; rfl
  | succ q ih =>
    intro i k h1 h2
    unfold newB
    by_cases h0 : k = 0
    · rw [if_pos h0, h0]; rfl
    · rw [if_neg h0]
      by_cases hc : k ≤ 127
      · rw [if_pos hc]
        simp only [List.length_cons, List.length_take, List.length_drop]
        have e : min k (l.length - i) = k := by omega
        rw [e]
        omega
      · rw [if_neg hc]
        simp only [List.length_cons, List.length_append, List.length_take, List.length_drop]
        rw [ih (i + 127) (k - 127) (by omega) (by omega)]
        have e : min 127 (l.length - i) = 127 := by omega
        rw [e]
        omega
theorem nz_len (v : Nat) : (nzB v).length ≤ 1 := by unfold nzB; split <;> simp
theorem cp_len (P L : Nat) : (copyB P L).length ≤ 5 := by
  unfold copyB
  have h1 := nz_len (P % 256)
  have h2 := nz_len (P / 256 % 256)
  have h3 := nz_len (L % 256)
  have h4 := nz_len (L / 256 % 256)
  simp only [List.length_cons, List.length_append]
  omega
theorem dl_step {a fr i L : Nat} (h : a ≤ 6 + fr + fr / 127) (h1 : fr ≤ i) (h2 : 8 ≤ L) : a + (i - fr + (i - fr + 126) / 127) + 5 ≤ 6 + (i + L) + (i + L) / 127 := by omega
theorem dl_end {a fr m : Nat} (h : a ≤ 6 + fr + fr / 127) (h1 : fr ≤ m) (h2 : m ≤ 65536) : a + (m - fr + (m - fr + 126) / 127) ≤ 66059 := by omega
end
section
/-! READING, as mathematics.  d: the DELTA, T: BASE -/
def ub (x : Int32) : Nat := x.toBitVec.toNat % 256
/-- a number of 7 bits a BYTE: at place pl, k BYTES read so far that make v; q more may come -/
def rdN (d : List Int32) : Nat → Nat → Nat → Nat → Option (Nat × Nat)
  | 0, _, _, _ => none
  | q + 1, k, pl, v => if pl < d.length then (if ub (tf d pl) < 128 then some (v + ub (tf d pl) * 128 ^ k, pl + 1) else rdN d q (k + 1) (pl + 1) (v + (ub (tf d pl) - 128) * 128 ^ k)) else none
/-- the BYTES that the bits choose: q more bits, the next one is bit k -/
def rdC (d : List Int32) (bits : Nat) : Nat → Nat → Nat → Nat → Option (Nat × Nat)
  | 0, _, pl, v => some (v, pl)
  | q + 1, k, pl, v => if bits / 2 ^ k % 2 = 1 then (if pl < d.length then rdC d bits q (k + 1) (pl + 1) (v + ub (tf d pl) * 256 ^ k) else none) else rdC d bits q (k + 1) pl v
/-- COPIES and NEW ones from place pl on -/
def rdB (d T : List Int32) (due : Nat) : Nat → Nat → List Int32 → Option (List Int32)
  | 0, _, _ => none
  | q + 1, pl, made =>
    if pl < d.length then
      (if 128 ≤ ub (tf d pl) then
        (match rdC d (ub (tf d pl)) 4 0 (pl + 1) 0 with
         | none => none
         | some (fr, pl1) =>
           match rdC d (ub (tf d pl) / 16) 3 0 pl1 0 with
           | none => none
           | some (mn, pl2) =>
             let many := if mn = 0 then 65536 else mn
             if fr + many ≤ T.length ∧ made.length + many ≤ due then rdB d T due q pl2 (made ++ (T.drop fr).take many) else none)
       else if ub (tf d pl) = 0 ∨ d.length < pl + 1 + ub (tf d pl) ∨ due < made.length + ub (tf d pl) then none
       else rdB d T due q (pl + 1 + ub (tf d pl)) (made ++ (d.drop (pl + 1)).take (ub (tf d pl))))
    else if made.length = due then some made else none
def rdA (d T : List Int32) : Option (List Int32) :=
  match rdN d 4 0 0 0 with
  | none => none
  | some (v, pl) => if v = T.length then (match rdN d 4 0 pl 0 with
      | none => none
      | some (due, pl2) => if due ≤ 65536 then rdB d T due (d.length + 1) pl2 [] else none) else none
/-! the whole state: INPUT, BASE, OUTPUT, COPIES, NEW BYTES, DAMAGED; a call's answer: none is a refusal -/
end
section
/-! the rows of the walk in one form: X what stays (code, words, classes), h what the heap holds now -/
def zX (p : Program) (m : MethodId) (c : Code) (cc : ByteArray) (nL : Nat) (s : State) (args : Array Value) (own : String) (D : va_G) (tys : List (ClassId × FieldType)) (A : Nat → Prop) : Prop := CallFix p m c cc nL s args wz own ∧ va_K D zC tys s ∧ ∀ q, s.heap.size ≤ q → A q
def zH (D : va_G) (A : Nat → Prop) (s : State) (ws : va_W) (H : Heap) (locs : List Loc) : Prop := va_P D zC ws H ∧ va_D A ws ∧ va_S A s.heap H locs
theorem zH.pick {D : va_G} {A : Nat → Prop} {s : State} {ws ws' : va_W} {H : Heap} {locs : List Loc} (h : zH D A s ws H locs) (is : List Nat) (hs : is.map (fun i => ws[i]?) = ws'.map some) (hn : va_nd is = true) : zH D A s ws' H locs := ⟨h.1.sub is (zfm hs), h.2.1.sub is hn hs, h.2.2⟩
/-- the contract of a method that answers an array or object: its address is in the state behind -/
abbrev zMr (l : Launch) (D : va_G) (y : MethodName) (cc : ByteArray) (nL : Nat) (ret : FieldType) (rm : Room) (as : List Value) (tys : List (ClassId × FieldType)) (ws : va_W) (sz : Nat) (ra : Nat) (ws' : va_W) : Prop :=
  Met l y (.code y cc nL (some ret) :: wz) rm (va_Pc as (zPre D tys ws sz)) (va_Qr (fun _ : Unit => True) (fun _ a t => a = ra ∧ zPost D tys ws' (va_A ws sz) t) (va_A ws sz)) rm.cells rm.slots (va_A ws sz)
section ZR
variable {l : Launch} {D : va_G} {y : MethodName} {cc : ByteArray} {nL : Nat} {rm : Room} {as : List Value} {tys : List (ClassId × FieldType)} {ws : va_W} {sz : Nat} {S : Type}
theorem zEv {post : S → Prop} {ws' : S → va_W} (hy : plainName y.cls = true) (hlen : (lg_sl as).length ≤ nL)
    (body : ∀ (p : Program) (e : Env) (s : State) (m : MethodId) (args : Array Value) (below : List Frame) (meth : Method) (c : Code) (ls : Array Slot) (A : Nat → Prop) (Q : State → Prop), zX p m c cc nL s args y.cls D tys A → meth.name = y.name → lv_has ls nL (lv_args 0 as) → zH D A s ws s.heap [] → s.heap.size = sz →
      (∀ (u : S) (H : Heap) (locs : List Loc) (ls : Array Slot) (pc : Nat), post u → zH D A s (ws' u) H locs → decode cc pc = .ok (.return_, 1) → W p l e rm s m args below meth c H locs rm.cells rm.slots Q (F0 m pc ls [])) →
      W p l e rm s m args below meth c s.heap [] 0 0 Q (F0 m 0 ls [])) : zMv l D y cc nL rm as tys ws sz post ws' :=
  zInv hy hlen (fun p e s m below meth c ls A X hr hlk hnm hl hP hK hD hS hA hsz => body p e s m as.toArray below meth c ls A _ ⟨X, hK, hA⟩ hnm hl ⟨hP, hD, hS⟩ hsz (fun u H locs ls pc hu h hd => zRetv (u := u) X hr hlk hu h.1 hK h.2.1 h.2.2 hd))
theorem zEi {post : Int32 → S → Prop} {ws' : S → va_W} (hy : plainName y.cls = true) (hlen : (lg_sl as).length ≤ nL)
    (body : ∀ (p : Program) (e : Env) (s : State) (m : MethodId) (args : Array Value) (below : List Frame) (meth : Method) (c : Code) (ls : Array Slot) (A : Nat → Prop) (Q : State → Prop), zX p m c cc nL s args y.cls D tys A → lv_has ls nL (lv_args 0 as) → zH D A s ws s.heap [] → s.heap.size = sz →
      (∀ (v : Int32) (u : S) (H : Heap) (locs : List Loc) (ls : Array Slot) (pc : Nat), post v u → zH D A s (ws' u) H locs → decode cc pc = .ok (.ireturn, 1) → W p l e rm s m args below meth c H locs rm.cells rm.slots Q (F0 m pc ls [.int v])) →
      W p l e rm s m args below meth c s.heap [] 0 0 Q (F0 m 0 ls [])) : zMi l D y cc nL .int rm as tys ws sz post ws' :=
  zIni hy hlen (fun p e s m below meth c ls A X hr hlk hl hP hK hD hS hA hsz => body p e s m as.toArray below meth c ls A _ ⟨X, hK, hA⟩ hl ⟨hP, hD, hS⟩ hsz (fun v u H locs ls pc hu h hd => zReti (u := u) X hr hlk hu h.1 hK h.2.1 h.2.2 hd))
theorem zEz {post : Int32 → S → Prop} {ws' : S → va_W} (hy : plainName y.cls = true) (hlen : (lg_sl as).length ≤ nL)
    (body : ∀ (p : Program) (e : Env) (s : State) (m : MethodId) (args : Array Value) (below : List Frame) (meth : Method) (c : Code) (ls : Array Slot) (A : Nat → Prop) (Q : State → Prop), zX p m c cc nL s args y.cls D tys A → lv_has ls nL (lv_args 0 as) → zH D A s ws s.heap [] → s.heap.size = sz →
      (∀ (v : Int32) (u : S) (H : Heap) (locs : List Loc) (ls : Array Slot) (pc : Nat), narrow .boolean (.int v) = .int v → post v u → zH D A s (ws' u) H locs → decode cc pc = .ok (.ireturn, 1) → W p l e rm s m args below meth c H locs rm.cells rm.slots Q (F0 m pc ls [.int v])) →
      W p l e rm s m args below meth c s.heap [] 0 0 Q (F0 m 0 ls [])) : zMi l D y cc nL .boolean rm as tys ws sz post ws' :=
  zIni hy hlen (fun p e s m below meth c ls A X hr hlk hl hP hK hD hS hA hsz => body p e s m as.toArray below meth c ls A _ ⟨X, hK, hA⟩ hl ⟨hP, hD, hS⟩ hsz (fun v u H locs ls pc hn hu h hd => zRetz (u := u) X hr hlk hn hu h.1 hK h.2.1 h.2.2 hd))
theorem zEr {ret : FieldType} {ra : Nat} {ws' : va_W} (hy : plainName y.cls = true) (hlen : (lg_sl as).length ≤ nL) (hret : (∃ n, ret = .object n) ∨ ∃ t, ret = .array t)
    (body : ∀ (p : Program) (e : Env) (s : State) (m : MethodId) (args : Array Value) (below : List Frame) (meth : Method) (c : Code) (ls : Array Slot) (A : Nat → Prop) (Q : State → Prop), zX p m c cc nL s args y.cls D tys A → lv_has ls nL (lv_args 0 as) → zH D A s ws s.heap [] → s.heap.size = sz →
      (∀ (H : Heap) (locs : List Loc) (ls : Array Slot) (pc : Nat), zH D A s ws' H locs → decode cc pc = .ok (.areturn, 1) → W p l e rm s m args below meth c H locs rm.cells rm.slots Q (F0 m pc ls [.ref ra])) →
      W p l e rm s m args below meth c s.heap [] 0 0 Q (F0 m 0 ls [])) : zMr l D y cc nL ret rm as tys ws sz ra ws' := by
  refine Met.ofW (cc := cc) (maxL := nL) (ret := some ret) hy rfl ?_
  intro p e s m args below meth c s₁ B hml hv
  obtain ⟨rfl, hsz, hP, hK, hD0⟩ := hv
  have hts := atoms_spec (ws := .code y cc nL (some ret) :: wz) B.pre
  have hl := lv_entry as (n := nL) hlen
  rw [lg_entry_eq]
  generalize (lg_sl as ++ List.replicate (nL - (lg_sl as).length) Slot.unset).toArray = ls at hl ⊢
  have X : CallFix p m c cc nL s as.toArray wz y.cls := ⟨B.exec, B.bytes, hml, findClass_of_methodNamed B.named, fun w h => hts w (List.mem_cons_of_mem _ h)⟩
  have hr := B.returns
  have hlk := B.notSynchronized
  exact body p e s m as.toArray below meth c ls (va_A ws sz) _ ⟨X, hK, fun q h => Or.inr (by rw [← hsz]; exact h)⟩ hl ⟨hP, hD0.self (sz := sz), va_S.rf⟩ hsz (fun H locs ls pc h hd => W.aret X.1 X.2.1 hr hret (Or.inr ⟨ra, rfl⟩) (fun t ht hW => ⟨⟨(), ra, rfl, trivial, rfl, by rw [ht]; exact h.1, va_K.moved hW.alike hK, h.2.1⟩, h.2.2.F ht⟩) h.2.2.2.2 hd hlk)
end ZR
section ZS
variable {p : Program} {l : Launch} {e : Env} {R : Room} {s : State} {m : MethodId} {args : Array Value} {below : List Frame} {meth : Method} {c : Code} {H : Heap} {locs : List Loc} {cells slots : Nat} {Q : State → Prop}
variable {cc : ByteArray} {pc nL : Nat} {ls : Array Slot} {rest st : List Value} {own : String} {D : va_G} {A : Nat → Prop} {tys : List (ClassId × FieldType)} {ws : va_W}
theorem rG {a : Nat} (X : zX p m c cc nL s args own D tys A) (h : zH D A s ws H locs) (q0 : Nat) {ci : Nat} {fs : List Value} (he : ws[q0]? = some (a, .inr (ci, fs))) {C : String} {T : u_T} {N : Nat} (hc : zC[ci]? = some (C, T, N)) (hin : ∀ w ∈ u_ws C T N, w ∈ wz) (k : Nat) (hk : k < N) {index : Nat} (hlink : Cond.fieldLink own index (T k).1 (T k).2.1 (T k).2.2.1 ∈ wz) {v : Value} (hv : fs[k]? = some v) (hdg : decode cc pc = .ok (.getfield index, 3))
    (kk : W p l e R s m args below meth c H locs cells slots Q (F0 m (pc + 3) ls (v :: rest))) : W p l e R s m args below meth c H locs cells slots Q (F0 m pc ls (.ref a :: rest)) :=
  zGet X.1 X.2.1 h.1 q0 he hc hin k hk hlink hv hdg kk
theorem rP {a : Nat} (X : zX p m c cc nL s args own D tys A) (h : zH D A s ws H locs) (q0 : Nat) {ci : Nat} {fs : List Value} (he : ws[q0]? = some (a, .inr (ci, fs))) {C : String} {T : u_T} {N : Nat} (hc : zC[ci]? = some (C, T, N)) (hin : ∀ w ∈ u_ws C T N, w ∈ wz) {ty0 : Nat → FieldType} (hty : ∀ k, k < N → parseFieldDescriptor (T k).2.2.1 = some (ty0 k)) (hnm : ∀ a, a < N → ∀ b, b < N → a ≠ b → (T a).2.1 ≠ (T b).2.1) (k : Nat) (hk : k < N) {index : Nat} (hlink : Cond.fieldLink own index (T k).1 (T k).2.1 (T k).2.2.1 ∈ wz) (hfin : (T k).2.2.2 = false) {v : Value} (hn : narrow (ty0 k) v = v) (hfit : fits (ty0 k) v = true) (hl : k < fs.length) (hdg : decode cc pc = .ok (.putfield index, 3))
    (kk : ∀ (H1 : Heap) (locs1 : List Loc), zH D A s (ws.set q0 (a, .inr (ci, fs.set k v))) H1 locs1 → W p l e R s m args below meth c H1 locs1 cells slots Q (F0 m (pc + 3) ls rest)) : W p l e R s m args below meth c H locs cells slots Q (F0 m pc ls (v :: .ref a :: rest)) :=
  zPut X.1 X.2.1 h.1 h.2.1 h.2.2 q0 he hc hin hty hnm k hk hlink hfin hn hfit hl hdg (fun H1 locs1 a b c => kk H1 locs1 ⟨a, b, c⟩)
theorem rPF {a : Nat} (X : zX p m c cc nL s args own D tys A) (h : zH D A s ws H locs) (q0 : Nat) {ci : Nat} {fs : List Value} (he : ws[q0]? = some (a, .inr (ci, fs))) {C : String} {T : u_T} {N : Nat} (hc : zC[ci]? = some (C, T, N)) (hin : ∀ w ∈ u_ws C T N, w ∈ wz) {ty0 : Nat → FieldType} (hty : ∀ k, k < N → parseFieldDescriptor (T k).2.2.1 = some (ty0 k)) (hnm : ∀ a, a < N → ∀ b, b < N → a ≠ b → (T a).2.1 ≠ (T b).2.1) (k : Nat) (hk : k < N) {index : Nat} (hlink : Cond.fieldLink own index (T k).1 (T k).2.1 (T k).2.2.1 ∈ wz) (hfin : (T k).2.2.2 = true) (hinit : meth.name = "<init>") (hdecl : (T k).1 = own) {v : Value} (hn : narrow (ty0 k) v = v) (hfit : fits (ty0 k) v = true) (hl : k < fs.length) (hdg : decode cc pc = .ok (.putfield index, 3))
    (kk : ∀ (H1 : Heap) (locs1 : List Loc), zH D A s (ws.set q0 (a, .inr (ci, fs.set k v))) H1 locs1 → W p l e R s m args below meth c H1 locs1 cells slots Q (F0 m (pc + 3) ls rest)) : W p l e R s m args below meth c H locs cells slots Q (F0 m pc ls (v :: .ref a :: rest)) :=
  zPutF X.1 X.2.1 h.1 h.2.1 h.2.2 q0 he hc hin hty hnm k hk hlink hfin hinit hdecl hn hfit hl hdg (fun H1 locs1 a b c => kk H1 locs1 ⟨a, b, c⟩)
theorem rLi {a n k : Nat} {f : Nat → Int32} {cA : ClassId} (X : zX p m c cc nL s args own D tys A) (h : zH D A s ws H locs) (q0 t0 : Nat) (ha : ws[q0]? = some (a, .inl (cA, n, .inl f))) (ht : tys[t0]? = some (cA, .int)) (hk : k < n) (hn : n < 2 ^ 31) (hdg : decode cc pc = .ok (.iaload, 1))
    (kk : W p l e R s m args below meth c H locs cells slots Q (F0 m (pc + 1) ls (.int (f k) :: rest))) : W p l e R s m args below meth c H locs cells slots Q (F0 m pc ls (.int (nI k) :: .ref a :: rest)) := zLdi (t0 := t0) X.1 X.2.1 h.1 q0 ha ht hk hn hdg kk
theorem rLb {a n k : Nat} {f : Nat → Int32} {cA : ClassId} (X : zX p m c cc nL s args own D tys A) (h : zH D A s ws H locs) (q0 t0 : Nat) (ha : ws[q0]? = some (a, .inl (cA, n, .inl f))) (ht : tys[t0]? = some (cA, .byte)) (hk : k < n) (hn : n < 2 ^ 31) (hdg : decode cc pc = .ok (.baload, 1))
    (kk : W p l e R s m args below meth c H locs cells slots Q (F0 m (pc + 1) ls (.int (f k) :: rest))) : W p l e R s m args below meth c H locs cells slots Q (F0 m pc ls (.int (nI k) :: .ref a :: rest)) := zLdb (t0 := t0) X.1 X.2.1 h.1 q0 ha ht hk hn hdg kk
theorem rSi {a n k : Nat} {x : Int32} {f : Nat → Int32} {cA : ClassId} (X : zX p m c cc nL s args own D tys A) (h : zH D A s ws H locs) (q0 t0 : Nat) (ha : ws[q0]? = some (a, .inl (cA, n, .inl f))) (ht : tys[t0]? = some (cA, .int)) (hk : k < n) (hn : n < 2 ^ 31) (hdg : decode cc pc = .ok (.iastore, 1))
    (kk : ∀ (H1 : Heap) (locs1 : List Loc), zH D A s (ws.set q0 (a, .inl (cA, n, .inl (upd f k x)))) H1 locs1 → W p l e R s m args below meth c H1 locs1 cells slots Q (F0 m (pc + 1) ls rest)) : W p l e R s m args below meth c H locs cells slots Q (F0 m pc ls (.int x :: .int (nI k) :: .ref a :: rest)) := zSti (t0 := t0) X.1 X.2.1 h.1 h.2.1 h.2.2 q0 ha ht hk hn hdg (fun H1 locs1 a b c => kk H1 locs1 ⟨a, b, c⟩)
theorem rSb {a n k : Nat} {x x' : Int32} {f : Nat → Int32} {cA : ClassId} (X : zX p m c cc nL s args own D tys A) (h : zH D A s ws H locs) (q0 t0 : Nat) (ha : ws[q0]? = some (a, .inl (cA, n, .inl f))) (ht : tys[t0]? = some (cA, .byte)) (hk : k < n) (hn : n < 2 ^ 31) (hx : vp_nar .byte x = x') (hdg : decode cc pc = .ok (.bastore, 1))
    (kk : ∀ (H1 : Heap) (locs1 : List Loc), zH D A s (ws.set q0 (a, .inl (cA, n, .inl (upd f k x')))) H1 locs1 → W p l e R s m args below meth c H1 locs1 cells slots Q (F0 m (pc + 1) ls rest)) : W p l e R s m args below meth c H locs cells slots Q (F0 m pc ls (.int x :: .int (nI k) :: .ref a :: rest)) := zStb (t0 := t0) X.1 X.2.1 h.1 h.2.1 h.2.2 q0 ha ht hk hn hx hdg (fun H1 locs1 a b c => kk H1 locs1 ⟨a, b, c⟩)
/-- a call on an object, no answer; the cells come back in the order of wf -/
theorem rCv {C : String} {index ci : Nat} {fs : List Value} {T : u_T} {N : Nat} {y : MethodName} {cc' : ByteArray} {nL' b : Nat} {rm : Room} {As : List Value} {tysC : List (ClassId × FieldType)} {wc wr : va_W} {S : Type} {post : S → Prop} {ws' wf : S → va_W}
    (X : zX p m c cc nL s args own D tys A) (h : zH D A s ws H locs) (hl : ls.size = nL) (hM : zMv l D y cc' nL' rm (.ref b :: As) tysC wc H.size post ws') (h1 : Cond.methodLink own index y ∈ wz) (h2 : Cond.instanceMethod y ∈ wz) (h3 : Cond.selects C y y ∈ wz) (h4 : Cond.initialized C ∈ wz) (h5 : Cond.code y cc' nL' none ∈ wz)
    (hd : y.cls = C ∧ y.cls ≠ "java/lang/invoke/MethodHandle" ∧ y.cls ≠ "java/lang/invoke/VarHandle" ∧ (parseMethodDescriptor y.desc).map (fun d => d.parameters.length) = some As.length) (hR : rm.frames + 1 ≤ R.frames ∧ 8 + (nL' + 11) + rm.locals ≤ R.locals) (hcs : cells + rm.cells ≤ R.cells ∧ slots + rm.slots ≤ R.slots)
    (ts : List Nat) (hts : ts.filterMap (fun i => tys[i]?) = tysC) (isC isR isB : List Nat) (hC : isC.map (fun i => ws[i]?) = wc.map some) (hnC : va_nd isC = true) (hRr : isR.map (fun i => ws[i]?) = wr.map some) (hnR : va_nd isR = true) (hdis : ∀ i ∈ isR, i ∉ isC) (hB : ∀ u, isB.map (fun i => (wr ++ ws' u)[i]?) = (wf u).map some) (hnB : va_nd isB = true)
    (q0 : Nat) (hb0 : wc[q0]? = some (b, .inr (ci, fs))) (hci : zC[ci]? = some (C, T, N)) (hst : st = As.reverse ++ .ref b :: rest) (hrest : (rest.map fun v => v.category).sum ≤ 8) (hdg : decode cc pc = .ok (.invokevirtual index, 3))
    (kk : ∀ (u : S) (H1 : Heap) (locs1 : List Loc), post u → zH D A s (wf u) H1 locs1 → W p l e R s m args below meth c H1 locs1 (cells + rm.cells) (slots + rm.slots) Q (F0 m (pc + 3) ls rest)) : W p l e R s m args below meth c H locs cells slots Q (F0 m pc ls st) :=
  zCallVv X.1 hl hM h1 h2 h3 h4 h5 hd hR hcs X.2.1 ts hts h.1 h.2.1 h.2.2 X.2.2 isC isR hC hnC hRr hnR hdis q0 hb0 hci hst hrest hdg (fun u H1 locs1 hp a b c => kk u H1 locs1 hp (zH.pick ⟨a, b, c⟩ isB (hB u) hnB))
theorem rCi {C : String} {index ci : Nat} {fs : List Value} {T : u_T} {N : Nat} {y : MethodName} {cc' : ByteArray} {nL' b : Nat} {ret : FieldType} {rm : Room} {As : List Value} {tysC : List (ClassId × FieldType)} {wc wr : va_W} {S : Type} {post : Int32 → S → Prop} {ws' wf : S → va_W}
    (X : zX p m c cc nL s args own D tys A) (h : zH D A s ws H locs) (hl : ls.size = nL) (hM : zMi l D y cc' nL' ret rm (.ref b :: As) tysC wc H.size post ws') (h1 : Cond.methodLink own index y ∈ wz) (h2 : Cond.instanceMethod y ∈ wz) (h3 : Cond.selects C y y ∈ wz) (h4 : Cond.initialized C ∈ wz) (h5 : Cond.code y cc' nL' (some ret) ∈ wz)
    (hd : y.cls = C ∧ y.cls ≠ "java/lang/invoke/MethodHandle" ∧ y.cls ≠ "java/lang/invoke/VarHandle" ∧ (parseMethodDescriptor y.desc).map (fun d => d.parameters.length) = some As.length) (hR : rm.frames + 1 ≤ R.frames ∧ 8 + (nL' + 11) + rm.locals ≤ R.locals) (hcs : cells + rm.cells ≤ R.cells ∧ slots + rm.slots ≤ R.slots)
    (ts : List Nat) (hts : ts.filterMap (fun i => tys[i]?) = tysC) (isC isR isB : List Nat) (hC : isC.map (fun i => ws[i]?) = wc.map some) (hnC : va_nd isC = true) (hRr : isR.map (fun i => ws[i]?) = wr.map some) (hnR : va_nd isR = true) (hdis : ∀ i ∈ isR, i ∉ isC) (hB : ∀ u, isB.map (fun i => (wr ++ ws' u)[i]?) = (wf u).map some) (hnB : va_nd isB = true)
    (q0 : Nat) (hb0 : wc[q0]? = some (b, .inr (ci, fs))) (hci : zC[ci]? = some (C, T, N)) (hst : st = As.reverse ++ .ref b :: rest) (hrest : (rest.map fun v => v.category).sum ≤ 8) (hdg : decode cc pc = .ok (.invokevirtual index, 3))
    (kk : ∀ (r : Int32) (u : S) (H1 : Heap) (locs1 : List Loc), post r u → zH D A s (wf u) H1 locs1 → W p l e R s m args below meth c H1 locs1 (cells + rm.cells) (slots + rm.slots) Q (F0 m (pc + 3) ls (.int r :: rest))) : W p l e R s m args below meth c H locs cells slots Q (F0 m pc ls st) :=
  zCallVi X.1 hl hM h1 h2 h3 h4 h5 hd hR hcs X.2.1 ts hts h.1 h.2.1 h.2.2 X.2.2 isC isR hC hnC hRr hnR hdis q0 hb0 hci hst hrest hdg (fun r u H1 locs1 hp a b c => kk r u H1 locs1 hp (zH.pick ⟨a, b, c⟩ isB (hB u) hnB))
theorem rCs {index : Nat} {y : MethodName} {cc' : ByteArray} {nL' : Nat} {ret : FieldType} {rm : Room} {As : List Value} {tysC : List (ClassId × FieldType)} {wc wr : va_W} {S : Type} {post : Int32 → S → Prop} {ws' wf : S → va_W}
    (X : zX p m c cc nL s args own D tys A) (h : zH D A s ws H locs) (hl : ls.size = nL) (hM : zMi l D y cc' nL' ret rm As tysC wc H.size post ws') (h1 : Cond.methodLink own index y ∈ wz) (h2 : Cond.static y ∈ wz) (h4 : Cond.initialized y.cls ∈ wz) (h5 : Cond.code y cc' nL' (some ret) ∈ wz)
    (hd : y.cls ≠ "java/lang/invoke/MethodHandle" ∧ y.cls ≠ "java/lang/invoke/VarHandle" ∧ (parseMethodDescriptor y.desc).map (fun d => d.parameters.length) = some As.length) (hR : rm.frames + 1 ≤ R.frames ∧ 8 + (nL' + 11) + rm.locals ≤ R.locals) (hcs : cells + rm.cells ≤ R.cells ∧ slots + rm.slots ≤ R.slots)
    (ts : List Nat) (hts : ts.filterMap (fun i => tys[i]?) = tysC) (isC isR isB : List Nat) (hC : isC.map (fun i => ws[i]?) = wc.map some) (hnC : va_nd isC = true) (hRr : isR.map (fun i => ws[i]?) = wr.map some) (hnR : va_nd isR = true) (hdis : ∀ i ∈ isR, i ∉ isC) (hB : ∀ u, isB.map (fun i => (wr ++ ws' u)[i]?) = (wf u).map some) (hnB : va_nd isB = true)
    (hst : st = As.reverse ++ rest) (hrest : (rest.map fun v => v.category).sum ≤ 8) (hdg : decode cc pc = .ok (.invokestatic index, 3))
    (kk : ∀ (r : Int32) (u : S) (H1 : Heap) (locs1 : List Loc), post r u → zH D A s (wf u) H1 locs1 → W p l e R s m args below meth c H1 locs1 (cells + rm.cells) (slots + rm.slots) Q (F0 m (pc + 3) ls (.int r :: rest))) : W p l e R s m args below meth c H locs cells slots Q (F0 m pc ls st) :=
  zCallSi X.1 hl hM h1 h2 h4 h5 hd hR hcs X.2.1 ts hts h.1 h.2.1 h.2.2 X.2.2 isC isR hC hnC hRr hnR hdis hst hrest hdg (fun r u H1 locs1 hp a b c => kk r u H1 locs1 hp (zH.pick ⟨a, b, c⟩ isB (hB u) hnB))
/-- .. a reference as answer -/
theorem rCr {C : String} {index ci : Nat} {fs : List Value} {T : u_T} {N : Nat} {y : MethodName} {cc' : ByteArray} {nL' b ra : Nat} {ret : FieldType} {rm : Room} {As : List Value} {tysC : List (ClassId × FieldType)} {wc wr ws' wf : va_W}
    (X : zX p m c cc nL s args own D tys A) (h : zH D A s ws H locs) (hl : ls.size = nL) (hM : zMr l D y cc' nL' ret rm (.ref b :: As) tysC wc H.size ra ws') (h1 : Cond.methodLink own index y ∈ wz) (h2 : Cond.instanceMethod y ∈ wz) (h3 : Cond.selects C y y ∈ wz) (h4 : Cond.initialized C ∈ wz) (h5 : Cond.code y cc' nL' (some ret) ∈ wz)
    (hd : y.cls = C ∧ y.cls ≠ "java/lang/invoke/MethodHandle" ∧ y.cls ≠ "java/lang/invoke/VarHandle" ∧ (parseMethodDescriptor y.desc).map (fun d => d.parameters.length) = some As.length) (hR : rm.frames + 1 ≤ R.frames ∧ 8 + (nL' + 11) + rm.locals ≤ R.locals) (hcs : cells + rm.cells ≤ R.cells ∧ slots + rm.slots ≤ R.slots)
    (ts : List Nat) (hts : ts.filterMap (fun i => tys[i]?) = tysC) (isC isR isB : List Nat) (hC : isC.map (fun i => ws[i]?) = wc.map some) (hnC : va_nd isC = true) (hRr : isR.map (fun i => ws[i]?) = wr.map some) (hnR : va_nd isR = true) (hdis : ∀ i ∈ isR, i ∉ isC) (hB : isB.map (fun i => (wr ++ ws')[i]?) = wf.map some) (hnB : va_nd isB = true)
    (q0 : Nat) (hb0 : wc[q0]? = some (b, .inr (ci, fs))) (hci : zC[ci]? = some (C, T, N)) (hst : st = As.reverse ++ .ref b :: rest) (hrest : (rest.map fun v => v.category).sum ≤ 8) (hdg : decode cc pc = .ok (.invokevirtual index, 3))
    (kk : ∀ (H1 : Heap) (locs1 : List Loc), zH D A s wf H1 locs1 → W p l e R s m args below meth c H1 locs1 (cells + rm.cells) (slots + rm.slots) Q (F0 m (pc + 3) ls (.ref ra :: rest))) : W p l e R s m args below meth c H locs cells slots Q (F0 m pc ls st) := by
  subst hst
  obtain ⟨hP, hD, hS⟩ := h
  have hPc : va_P D zC wc H := hP.sub isC (zfm hC)
  have hDc : va_D A wc := hD.sub isC hnC hC
  have hKc : va_K D zC tysC s := X.2.1.sub ts hts
  have hFc := va_free hD hS X.2.2 isC hC
  refine va_callr (va_runV (As := As) (rest := rest) X.1 hM (cwV As.length X.1.2.2.2.2 (wz_V h1 h2 h3 h4 h5) rfl rfl rfl hd hR) ⟨zBlind, va_recv hKc hPc hci hb0, fun U hU hW => ⟨rfl, by rw [hU], by rw [hU]; exact hPc, va_K.moved hW.alike hKc, hDc.weaken (fun _ _ _ _ => trivial)⟩⟩ rfl rfl hl rfl (lv_room hrest) hdg hcs) hS (fun q _ h => hFc q h) hFc (fun u ra' t H1 locs1 ht hvm hp hB' hz hk hS1 => ?_)
  obtain ⟨rfl, hP1, hK1, hD1⟩ := hB'
  rw [ht] at hP1
  obtain ⟨hP2, hD2⟩ := va_join hP hD isC isR hC hRr hnR hdis hk hFc hP1 hD1
  exact kk H1 locs1 (zH.pick ⟨hP2, hD2, hS1⟩ isB hB hnB)
/-- Math.min, Math.max of small numbers -/
theorem rMin {x y : Nat} {index : Nat} (X : zX p m c cc nL s args own D tys A) (hl : ls.size = nL) (h1 : Cond.methodLink own index Lib.Math.min.name ∈ wz) (h2 : Cond.static Lib.Math.min.name ∈ wz) (h3 : Cond.initialized "java/lang/Math" ∈ wz) (h4 : Cond.code Lib.Math.min.name Lib.Math.min.code 2 (some .int) ∈ wz) (hx : x < 2 ^ 31) (hy : y < 2 ^ 31) (hf : 1 ≤ R.frames) (hlo : (rest.map fun v => v.category).sum + 13 ≤ R.locals) (hc : cells ≤ R.cells) (hs : slots ≤ R.slots) (hdg : decode cc pc = .ok (.invokestatic index, 3))
    (kk : W p l e R s m args below meth c H locs cells slots Q (F0 m (pc + 3) ls (.int (nI (min x y)) :: rest))) : W p l e R s m args below meth c H locs cells slots Q (F0 m pc ls (.int (nI y) :: .int (nI x) :: rest)) := by
  refine va_mmin X.1.1 X.1.2.1 (by rw [X.1.2.2.1, hl]) X.1.2.2.2.1 (X.1.2.2.2.2 _ h1) (X.1.2.2.2.2 _ h2) (X.1.2.2.2.2 _ h3) (X.1.2.2.2.2 _ h4) hf hlo hc hs hdg ?_
  have e : (if nI y < nI x then nI y else nI x) = nI (min x y) := by
    by_cases q : y < x
    · rw [if_pos ((nI_ltI hy hx).mpr q), Nat.min_eq_right (by omega)]
    · rw [if_neg (fun z => q ((nI_ltI hy hx).mp z)), Nat.min_eq_left (by omega)]
  rw [e]
  exact kk
theorem rMax {x y : Nat} {index : Nat} (X : zX p m c cc nL s args own D tys A) (hl : ls.size = nL) (h1 : Cond.methodLink own index Lib.Math.max.name ∈ wz) (h2 : Cond.static Lib.Math.max.name ∈ wz) (h3 : Cond.initialized "java/lang/Math" ∈ wz) (h4 : Cond.code Lib.Math.max.name Lib.Math.max.code 2 (some .int) ∈ wz) (hx : x < 2 ^ 31) (hy : y < 2 ^ 31) (hf : 1 ≤ R.frames) (hlo : (rest.map fun v => v.category).sum + 13 ≤ R.locals) (hc : cells ≤ R.cells) (hs : slots ≤ R.slots) (hdg : decode cc pc = .ok (.invokestatic index, 3))
    (kk : W p l e R s m args below meth c H locs cells slots Q (F0 m (pc + 3) ls (.int (nI (max x y)) :: rest))) : W p l e R s m args below meth c H locs cells slots Q (F0 m pc ls (.int (nI y) :: .int (nI x) :: rest)) := by
  refine va_mmax X.1.1 X.1.2.1 (by rw [X.1.2.2.1, hl]) X.1.2.2.2.1 (X.1.2.2.2.2 _ h1) (X.1.2.2.2.2 _ h2) (X.1.2.2.2.2 _ h3) (X.1.2.2.2.2 _ h4) hf hlo hc hs hdg ?_
  have e : (if nI x < nI y then nI y else nI x) = nI (max x y) := by
    by_cases q : x < y
    · rw [if_pos ((nI_ltI hx hy).mpr q), Nat.max_eq_right (by omega)]
    · rw [if_neg (fun z => q ((nI_ltI hx hy).mp z)), Nat.max_eq_left (by omega)]
  rw [e]
  exact kk
/-- System.arraycopy of bytes -/
theorem rCopy {a0 a1 : Nat} {c0 c1 : ClassId} {n0 n1 sp dp n : Nat} {f g : Nat → Int32} {index : Nat} (X : zX p m c cc nL s args own D tys A) (h : zH D A s ws H locs) (hl : ls.size = nL) (h1 : Cond.methodLink own index arraycopyName ∈ wz) (h2 : Cond.native arraycopyName ∈ wz) (h3 : Cond.static arraycopyName ∈ wz) (h4 : Cond.initialized "java/lang/System" ∈ wz) (q0 q1 t0 t1 : Nat) (ha0 : ws[q0]? = some (a0, .inl (c0, n0, .inl f))) (ha1 : ws[q1]? = some (a1, .inl (c1, n1, .inl g))) (ht0 : tys[t0]? = some (c0, .byte)) (ht1 : tys[t1]? = some (c1, .byte)) (hn0 : n0 < 2 ^ 31) (hn1 : n1 < 2 ^ 31)
    (h5 : sp + n ≤ n0) (h6 : dp + n ≤ n1) (hfit : ∀ i, fits .byte (.int (f i)) = true) (hf : 1 ≤ R.frames) (hlo : (rest.map fun v => v.category).sum + (nativeFrameWords "java/lang/System" "arraycopy" 5 + 11) ≤ R.locals) (hdg : decode cc pc = .ok (.invokestatic index, 3))
    (kk : ∀ (H1 : Heap) (locs1 : List Loc), zH D A s (ws.set q1 (a1, .inl (c1, n1, .inl (va_cpy f g sp dp n)))) H1 locs1 → W p l e R s m args below meth c H1 locs1 cells slots Q (F0 m (pc + 3) ls rest)) : W p l e R s m args below meth c H locs cells slots Q (F0 m pc ls (.int (nI n) :: .int (nI dp) :: .ref a1 :: .int (nI sp) :: .ref a0 :: rest)) := by
  have e1 := nI_clamp (n := sp) (by omega)
  have e2 := nI_clamp (n := dp) (by omega)
  have e3 := nI_clamp (n := n) (by omega)
  refine va_copyi X.1.1 X.1.2.1 (by rw [X.1.2.2.1, hl]) X.1.2.2.2.1 (X.1.2.2.2.2 _ h1) (X.1.2.2.2.2 _ h2) (X.1.2.2.2.2 _ h3) (X.1.2.2.2.2 _ h4) X.2.1 h.1 h.2.1 h.2.2 q0 q1 t0 t1 ha0 ha1 ht0 ht1 rfl (nI_pos (by omega)) (nI_pos (by omega)) (nI_pos (by omega)) (by rw [e1, e3]; exact h5) (by rw [e2, e3]; exact h6) (fun i _ => hfit _) hf hlo hdg (fun H1 locs1 a b c => ?_)
  rw [e1, e2, e3] at a b
  exact kk H1 locs1 ⟨a, b, c⟩
end ZS
end
section
/-! numbers, bytes, bits; arrays of small numbers -/
theorem upd_nI (g : Nat → Nat) (k v : Nat) : upd (fun i => nI (g i)) k (nI v) = fun i => nI (va_up g k v i) := by
  funext i
  unfold upd va_up
  split <;> rfl
section ZT
variable {p : Program} {l : Launch} {e : Env} {R : Room} {s : State} {m : MethodId} {args : Array Value} {below : List Frame} {meth : Method} {c : Code} {H : Heap} {locs : List Loc} {cells slots : Nat} {Q : State → Prop}
variable {cc : ByteArray} {pc nL : Nat} {ls : Array Slot} {rest st : List Value} {own : String} {D : va_G} {A : Nat → Prop} {tys : List (ClassId × FieldType)} {ws : va_W}
theorem rLn {a n k : Nat} {g : Nat → Nat} {cA : ClassId} (X : zX p m c cc nL s args own D tys A) (h : zH D A s ws H locs) (q0 t0 : Nat) (ha : ws[q0]? = some (a, .inl (cA, n, .inl (fun i => nI (g i))))) (ht : tys[t0]? = some (cA, .int)) (hk : k < n) (hn : n < 2 ^ 31) (hdg : decode cc pc = .ok (.iaload, 1))
    (kk : W p l e R s m args below meth c H locs cells slots Q (F0 m (pc + 1) ls (.int (nI (g k)) :: rest))) : W p l e R s m args below meth c H locs cells slots Q (F0 m pc ls (.int (nI k) :: .ref a :: rest)) := rLi X h q0 t0 ha ht hk hn hdg kk
theorem rSn {a n k v : Nat} {g : Nat → Nat} {cA : ClassId} (X : zX p m c cc nL s args own D tys A) (h : zH D A s ws H locs) (q0 t0 : Nat) (ha : ws[q0]? = some (a, .inl (cA, n, .inl (fun i => nI (g i))))) (ht : tys[t0]? = some (cA, .int)) (hk : k < n) (hn : n < 2 ^ 31) (hdg : decode cc pc = .ok (.iastore, 1))
    (kk : ∀ (H1 : Heap) (locs1 : List Loc), zH D A s (ws.set q0 (a, .inl (cA, n, .inl (fun i => nI (va_up g k v i))))) H1 locs1 → W p l e R s m args below meth c H1 locs1 cells slots Q (F0 m (pc + 1) ls rest)) : W p l e R s m args below meth c H locs cells slots Q (F0 m pc ls (.int (nI v) :: .int (nI k) :: .ref a :: rest)) :=
  rSi X h q0 t0 ha ht hk hn hdg (fun H1 locs1 q => by
    rw [upd_nI] at q
    exact kk H1 locs1 q)
end ZT
theorem nI_inj32 {x y : Int32} (h : x.toBitVec.toNat = y.toBitVec.toNat) : x = y := Int32.toBitVec_inj.mp (BitVec.eq_of_toNat_eq h)
theorem nI_toNat (x : Int32) : nI x.toBitVec.toNat = x := nI_inj32 (pk_tn x.toBitVec.isLt)
theorem nx_su : ∀ n, n < 32 → (((nI n).toUInt32 &&& Int32.toUInt32 31).toBitVec % 32).toNat = n := by decide +kernel
theorem nx_sl : ∀ n, n < 32 → ((nI n &&& 31).toBitVec.smod 32).toNat = n := by decide +kernel
/-- x >>> k -/
theorem ush_eq (x : Int32) {k : Nat} (hk : k < 32) : (x.toUInt32 >>> ((nI k).toUInt32 &&& Int32.toUInt32 31)).toInt32 = ush x k := by
  refine nI_inj32 ?_
  have h1 := pk_ushr x (nI k) k (nx_su k hk)
  have h2 : x.toBitVec.toNat / 2 ^ k < 2 ^ 32 := Nat.lt_of_le_of_lt (Nat.div_le_self _ _) x.toBitVec.isLt
  unfold ush
  rw [pk_tn h2]
  exact h1
theorem ush_nI {v k : Nat} (hv : v < 2 ^ 32) : ush (nI v) k = nI (v / 2 ^ k) := by unfold ush; rw [pk_tn hv]
theorem fit_b8 (x : Int32) : fits .byte (.int (b8 x)) = true := pk_fb x
theorem fit_upd {f : Nat → Int32} (h : sb_Fit f) (k : Nat) (x : Int32) : sb_Fit (upd f k (b8 x)) := sb_fitU h (fit_b8 x)
theorem and127 {v : Nat} (h : v < 2 ^ 32) : nI v &&& nI 127 = nI (v % 128) := pk_andN h 7 (by decide)
theorem and255 (x : Int32) : x &&& nI 255 = nI (ub x) := pk_and x 8 (by decide)
theorem and1 {v : Nat} (h : v < 2 ^ 32) : nI v &&& nI 1 = nI (v % 2) := pk_andN h 1 (by decide)
theorem nI_or (a b : Nat) : nI a ||| nI b = nI (a ||| b) := by
  refine nI_inj32 ?_
  show (BitVec.ofNat 32 a ||| BitVec.ofNat 32 b).toNat = (BitVec.ofNat 32 (a ||| b)).toNat
  simp [BitVec.toNat_or, Nat.or_mod_two_pow]
theorem or128 {v : Nat} (h : v < 128) : nI v ||| nI 128 = nI (v + 128) := by
  rw [nI_or]
  congr 1
  have e := Nat.two_pow_add_eq_or_of_lt (i := 7) h 1
  have c := Nat.or_comm v 128
  have d : (2 ^ 7 * 1 ||| v) = (128 ||| v) := rfl
  omega
theorem shl_nI {v k : Nat} (hk : k < 32) (h : v * 2 ^ k < 2 ^ 32) : nI v <<< (nI k &&& 31) = nI (v * 2 ^ k) := pk_shlN (nI k &&& 31) k (nx_sl k hk) h
theorem b8_flip (a x : Int32) : b8 (a ^^^ b8 x) = b8 (a ^^^ x) := by
  unfold b8
  congr 1
  refine Int8.toBitVec_inj.mp ?_
  apply BitVec.eq_of_getLsbD_eq
  intro i hi
  simp [BitVec.getLsbD_xor, BitVec.getLsbD_setWidth, BitVec.getLsbD_signExtend, hi]
theorem b8_b8 (x : Int32) : b8 (b8 x) = b8 x := by unfold b8; simp
end
section
theorem zq_Pr_init : zy_Pr_init.cls = "DeltaPress" ∧ zy_Pr_init.cls ≠ "java/lang/invoke/MethodHandle" ∧ zy_Pr_init.cls ≠ "java/lang/invoke/VarHandle" ∧ (parseMethodDescriptor zy_Pr_init.desc).map (fun d => d.parameters.length) = some 0 := by decide +kernel
theorem zq_Tx_init : zy_Tx_init.cls = "DeltaPress$Text" ∧ zy_Tx_init.cls ≠ "java/lang/invoke/MethodHandle" ∧ zy_Tx_init.cls ≠ "java/lang/invoke/VarHandle" ∧ (parseMethodDescriptor zy_Tx_init.desc).map (fun d => d.parameters.length) = some 1 := by decide +kernel
theorem zq_Su_init : zy_Su_init.cls = "DeltaPress$SuffixTree" ∧ zy_Su_init.cls ≠ "java/lang/invoke/MethodHandle" ∧ zy_Su_init.cls ≠ "java/lang/invoke/VarHandle" ∧ (parseMethodDescriptor zy_Su_init.desc).map (fun d => d.parameters.length) = some 0 := by decide +kernel
theorem zq_De_init : zy_De_init.cls = "DeltaPress$DeltaReader" ∧ zy_De_init.cls ≠ "java/lang/invoke/MethodHandle" ∧ zy_De_init.cls ≠ "java/lang/invoke/VarHandle" ∧ (parseMethodDescriptor zy_De_init.desc).map (fun d => d.parameters.length) = some 0 := by decide +kernel
theorem zq_Pr_base : zy_Pr_base.cls = "DeltaPress" ∧ zy_Pr_base.cls ≠ "java/lang/invoke/MethodHandle" ∧ zy_Pr_base.cls ≠ "java/lang/invoke/VarHandle" ∧ (parseMethodDescriptor zy_Pr_base.desc).map (fun d => d.parameters.length) = some 0 := by decide +kernel
theorem zq_Tx_cut : zy_Tx_cut.cls = "DeltaPress$Text" ∧ zy_Tx_cut.cls ≠ "java/lang/invoke/MethodHandle" ∧ zy_Tx_cut.cls ≠ "java/lang/invoke/VarHandle" ∧ (parseMethodDescriptor zy_Tx_cut.desc).map (fun d => d.parameters.length) = some 1 := by decide +kernel
theorem zq_Tx_size : zy_Tx_size.cls = "DeltaPress$Text" ∧ zy_Tx_size.cls ≠ "java/lang/invoke/MethodHandle" ∧ zy_Tx_size.cls ≠ "java/lang/invoke/VarHandle" ∧ (parseMethodDescriptor zy_Tx_size.desc).map (fun d => d.parameters.length) = some 0 := by decide +kernel
theorem zq_Pr_make : zy_Pr_make.cls = "DeltaPress" ∧ zy_Pr_make.cls ≠ "java/lang/invoke/MethodHandle" ∧ zy_Pr_make.cls ≠ "java/lang/invoke/VarHandle" ∧ (parseMethodDescriptor zy_Pr_make.desc).map (fun d => d.parameters.length) = some 0 := by decide +kernel
theorem zq_Tx_addNumber : zy_Tx_addNumber.cls = "DeltaPress$Text" ∧ zy_Tx_addNumber.cls ≠ "java/lang/invoke/MethodHandle" ∧ zy_Tx_addNumber.cls ≠ "java/lang/invoke/VarHandle" ∧ (parseMethodDescriptor zy_Tx_addNumber.desc).map (fun d => d.parameters.length) = some 1 := by decide +kernel
theorem zq_Tx_add : zy_Tx_add.cls = "DeltaPress$Text" ∧ zy_Tx_add.cls ≠ "java/lang/invoke/MethodHandle" ∧ zy_Tx_add.cls ≠ "java/lang/invoke/VarHandle" ∧ (parseMethodDescriptor zy_Tx_add.desc).map (fun d => d.parameters.length) = some 1 := by decide +kernel
theorem zq_Pr_findLongest : zy_Pr_findLongest.cls = "DeltaPress" ∧ zy_Pr_findLongest.cls ≠ "java/lang/invoke/MethodHandle" ∧ zy_Pr_findLongest.cls ≠ "java/lang/invoke/VarHandle" ∧ (parseMethodDescriptor zy_Pr_findLongest.desc).map (fun d => d.parameters.length) = some 1 := by decide +kernel
theorem zq_Su_grow : zy_Su_grow.cls = "DeltaPress$SuffixTree" ∧ zy_Su_grow.cls ≠ "java/lang/invoke/MethodHandle" ∧ zy_Su_grow.cls ≠ "java/lang/invoke/VarHandle" ∧ (parseMethodDescriptor zy_Su_grow.desc).map (fun d => d.parameters.length) = some 1 := by decide +kernel
theorem zq_Tx_row : zy_Tx_row.cls = "DeltaPress$Text" ∧ zy_Tx_row.cls ≠ "java/lang/invoke/MethodHandle" ∧ zy_Tx_row.cls ≠ "java/lang/invoke/VarHandle" ∧ (parseMethodDescriptor zy_Tx_row.desc).map (fun d => d.parameters.length) = some 0 := by decide +kernel
theorem zq_Su_emptySlots : zy_Su_emptySlots.cls = "DeltaPress$SuffixTree" ∧ zy_Su_emptySlots.cls ≠ "java/lang/invoke/MethodHandle" ∧ zy_Su_emptySlots.cls ≠ "java/lang/invoke/VarHandle" ∧ (parseMethodDescriptor zy_Su_emptySlots.desc).map (fun d => d.parameters.length) = some 0 := by decide +kernel
theorem zq_In_highestOneBit : zy_In_highestOneBit.cls = "java/lang/Integer" ∧ zy_In_highestOneBit.cls ≠ "java/lang/invoke/MethodHandle" ∧ zy_In_highestOneBit.cls ≠ "java/lang/invoke/VarHandle" ∧ (parseMethodDescriptor zy_In_highestOneBit.desc).map (fun d => d.parameters.length) = some 1 := by decide +kernel
theorem zq_In_numberOfLeadingZeros : zy_In_numberOfLeadingZeros.cls = "java/lang/Integer" ∧ zy_In_numberOfLeadingZeros.cls ≠ "java/lang/invoke/MethodHandle" ∧ zy_In_numberOfLeadingZeros.cls ≠ "java/lang/invoke/VarHandle" ∧ (parseMethodDescriptor zy_In_numberOfLeadingZeros.desc).map (fun d => d.parameters.length) = some 1 := by decide +kernel
theorem zq_In_bitCount : zy_In_bitCount.cls = "java/lang/Integer" ∧ zy_In_bitCount.cls ≠ "java/lang/invoke/MethodHandle" ∧ zy_In_bitCount.cls ≠ "java/lang/invoke/VarHandle" ∧ (parseMethodDescriptor zy_In_bitCount.desc).map (fun d => d.parameters.length) = some 1 := by decide +kernel
theorem zq_Su_addLetter : zy_Su_addLetter.cls = "DeltaPress$SuffixTree" ∧ zy_Su_addLetter.cls ≠ "java/lang/invoke/MethodHandle" ∧ zy_Su_addLetter.cls ≠ "java/lang/invoke/VarHandle" ∧ (parseMethodDescriptor zy_Su_addLetter.desc).map (fun d => d.parameters.length) = some 1 := by decide +kernel
theorem zq_Su_goDown : zy_Su_goDown.cls = "DeltaPress$SuffixTree" ∧ zy_Su_goDown.cls ≠ "java/lang/invoke/MethodHandle" ∧ zy_Su_goDown.cls ≠ "java/lang/invoke/VarHandle" ∧ (parseMethodDescriptor zy_Su_goDown.desc).map (fun d => d.parameters.length) = some 1 := by decide +kernel
theorem zq_Su_slotOf : zy_Su_slotOf.cls = "DeltaPress$SuffixTree" ∧ zy_Su_slotOf.cls ≠ "java/lang/invoke/MethodHandle" ∧ zy_Su_slotOf.cls ≠ "java/lang/invoke/VarHandle" ∧ (parseMethodDescriptor zy_Su_slotOf.desc).map (fun d => d.parameters.length) = some 2 := by decide +kernel
theorem zq_Su_split : zy_Su_split.cls = "DeltaPress$SuffixTree" ∧ zy_Su_split.cls ≠ "java/lang/invoke/MethodHandle" ∧ zy_Su_split.cls ≠ "java/lang/invoke/VarHandle" ∧ (parseMethodDescriptor zy_Su_split.desc).map (fun d => d.parameters.length) = some 2 := by decide +kernel
theorem zq_Su_addNode : zy_Su_addNode.cls = "DeltaPress$SuffixTree" ∧ zy_Su_addNode.cls ≠ "java/lang/invoke/MethodHandle" ∧ zy_Su_addNode.cls ≠ "java/lang/invoke/VarHandle" ∧ (parseMethodDescriptor zy_Su_addNode.desc).map (fun d => d.parameters.length) = some 3 := by decide +kernel
theorem zq_Su_addLeaf : zy_Su_addLeaf.cls = "DeltaPress$SuffixTree" ∧ zy_Su_addLeaf.cls ≠ "java/lang/invoke/MethodHandle" ∧ zy_Su_addLeaf.cls ≠ "java/lang/invoke/VarHandle" ∧ (parseMethodDescriptor zy_Su_addLeaf.desc).map (fun d => d.parameters.length) = some 2 := by decide +kernel
theorem zq_Su_goToNextSuffix : zy_Su_goToNextSuffix.cls = "DeltaPress$SuffixTree" ∧ zy_Su_goToNextSuffix.cls ≠ "java/lang/invoke/MethodHandle" ∧ zy_Su_goToNextSuffix.cls ≠ "java/lang/invoke/VarHandle" ∧ (parseMethodDescriptor zy_Su_goToNextSuffix.desc).map (fun d => d.parameters.length) = some 0 := by decide +kernel
theorem zq_Su_find : zy_Su_find.cls = "DeltaPress$SuffixTree" ∧ zy_Su_find.cls ≠ "java/lang/invoke/MethodHandle" ∧ zy_Su_find.cls ≠ "java/lang/invoke/VarHandle" ∧ (parseMethodDescriptor zy_Su_find.desc).map (fun d => d.parameters.length) = some 3 := by decide +kernel
theorem zq_Su_sameLetters : zy_Su_sameLetters.cls = "DeltaPress$SuffixTree" ∧ zy_Su_sameLetters.cls ≠ "java/lang/invoke/MethodHandle" ∧ zy_Su_sameLetters.cls ≠ "java/lang/invoke/VarHandle" ∧ (parseMethodDescriptor zy_Su_sameLetters.desc).map (fun d => d.parameters.length) = some 4 := by decide +kernel
theorem zq_Su_foundLength : zy_Su_foundLength.cls = "DeltaPress$SuffixTree" ∧ zy_Su_foundLength.cls ≠ "java/lang/invoke/MethodHandle" ∧ zy_Su_foundLength.cls ≠ "java/lang/invoke/VarHandle" ∧ (parseMethodDescriptor zy_Su_foundLength.desc).map (fun d => d.parameters.length) = some 0 := by decide +kernel
theorem zq_Pr_writeNew : zy_Pr_writeNew.cls = "DeltaPress" ∧ zy_Pr_writeNew.cls ≠ "java/lang/invoke/MethodHandle" ∧ zy_Pr_writeNew.cls ≠ "java/lang/invoke/VarHandle" ∧ (parseMethodDescriptor zy_Pr_writeNew.desc).map (fun d => d.parameters.length) = some 2 := by decide +kernel
theorem zq_Tx_addPart : zy_Tx_addPart.cls = "DeltaPress$Text" ∧ zy_Tx_addPart.cls ≠ "java/lang/invoke/MethodHandle" ∧ zy_Tx_addPart.cls ≠ "java/lang/invoke/VarHandle" ∧ (parseMethodDescriptor zy_Tx_addPart.desc).map (fun d => d.parameters.length) = some 3 := by decide +kernel
theorem zq_Su_foundPlace : zy_Su_foundPlace.cls = "DeltaPress$SuffixTree" ∧ zy_Su_foundPlace.cls ≠ "java/lang/invoke/MethodHandle" ∧ zy_Su_foundPlace.cls ≠ "java/lang/invoke/VarHandle" ∧ (parseMethodDescriptor zy_Su_foundPlace.desc).map (fun d => d.parameters.length) = some 0 := by decide +kernel
theorem zq_Pr_writeCopy : zy_Pr_writeCopy.cls = "DeltaPress" ∧ zy_Pr_writeCopy.cls ≠ "java/lang/invoke/MethodHandle" ∧ zy_Pr_writeCopy.cls ≠ "java/lang/invoke/VarHandle" ∧ (parseMethodDescriptor zy_Pr_writeCopy.desc).map (fun d => d.parameters.length) = some 2 := by decide +kernel
theorem zq_Pr_bitsOfBytes : zy_Pr_bitsOfBytes.cls = "DeltaPress" ∧ zy_Pr_bitsOfBytes.cls ≠ "java/lang/invoke/MethodHandle" ∧ zy_Pr_bitsOfBytes.cls ≠ "java/lang/invoke/VarHandle" ∧ (parseMethodDescriptor zy_Pr_bitsOfBytes.desc).map (fun d => d.parameters.length) = some 2 := by decide +kernel
theorem zq_Tx_addBytesNotZero : zy_Tx_addBytesNotZero.cls = "DeltaPress$Text" ∧ zy_Tx_addBytesNotZero.cls ≠ "java/lang/invoke/MethodHandle" ∧ zy_Tx_addBytesNotZero.cls ≠ "java/lang/invoke/VarHandle" ∧ (parseMethodDescriptor zy_Tx_addBytesNotZero.desc).map (fun d => d.parameters.length) = some 2 := by decide +kernel
theorem zq_Pr_count : zy_Pr_count.cls = "DeltaPress" ∧ zy_Pr_count.cls ≠ "java/lang/invoke/MethodHandle" ∧ zy_Pr_count.cls ≠ "java/lang/invoke/VarHandle" ∧ (parseMethodDescriptor zy_Pr_count.desc).map (fun d => d.parameters.length) = some 1 := by decide +kernel
theorem zq_La_feed : zy_La_feed.cls = "DeltaPressLaw" ∧ zy_La_feed.cls ≠ "java/lang/invoke/MethodHandle" ∧ zy_La_feed.cls ≠ "java/lang/invoke/VarHandle" ∧ (parseMethodDescriptor zy_La_feed.desc).map (fun d => d.parameters.length) = some 7 := by decide +kernel
theorem zq_Pr_feed : zy_Pr_feed.cls = "DeltaPress" ∧ zy_Pr_feed.cls ≠ "java/lang/invoke/MethodHandle" ∧ zy_Pr_feed.cls ≠ "java/lang/invoke/VarHandle" ∧ (parseMethodDescriptor zy_Pr_feed.desc).map (fun d => d.parameters.length) = some 5 := by decide +kernel
theorem zq_Tx_addFour : zy_Tx_addFour.cls = "DeltaPress$Text" ∧ zy_Tx_addFour.cls ≠ "java/lang/invoke/MethodHandle" ∧ zy_Tx_addFour.cls ≠ "java/lang/invoke/VarHandle" ∧ (parseMethodDescriptor zy_Tx_addFour.desc).map (fun d => d.parameters.length) = some 1 := by decide +kernel
theorem zq_La_end : zy_La_end.cls = "DeltaPressLaw" ∧ zy_La_end.cls ≠ "java/lang/invoke/MethodHandle" ∧ zy_La_end.cls ≠ "java/lang/invoke/VarHandle" ∧ (parseMethodDescriptor zy_La_end.desc).map (fun d => d.parameters.length) = some 3 := by decide +kernel
theorem zq_Pr_end : zy_Pr_end.cls = "DeltaPress" ∧ zy_Pr_end.cls ≠ "java/lang/invoke/MethodHandle" ∧ zy_Pr_end.cls ≠ "java/lang/invoke/VarHandle" ∧ (parseMethodDescriptor zy_Pr_end.desc).map (fun d => d.parameters.length) = some 1 := by decide +kernel
theorem zq_La_change : zy_La_change.cls = "DeltaPressLaw" ∧ zy_La_change.cls ≠ "java/lang/invoke/MethodHandle" ∧ zy_La_change.cls ≠ "java/lang/invoke/VarHandle" ∧ (parseMethodDescriptor zy_La_change.desc).map (fun d => d.parameters.length) = some 3 := by decide +kernel
theorem zq_Pr_change : zy_Pr_change.cls = "DeltaPress" ∧ zy_Pr_change.cls ≠ "java/lang/invoke/MethodHandle" ∧ zy_Pr_change.cls ≠ "java/lang/invoke/VarHandle" ∧ (parseMethodDescriptor zy_Pr_change.desc).map (fun d => d.parameters.length) = some 2 := by decide +kernel
theorem zq_Tx_has : zy_Tx_has.cls = "DeltaPress$Text" ∧ zy_Tx_has.cls ≠ "java/lang/invoke/MethodHandle" ∧ zy_Tx_has.cls ≠ "java/lang/invoke/VarHandle" ∧ (parseMethodDescriptor zy_Tx_has.desc).map (fun d => d.parameters.length) = some 1 := by decide +kernel
theorem zq_Tx_flip : zy_Tx_flip.cls = "DeltaPress$Text" ∧ zy_Tx_flip.cls ≠ "java/lang/invoke/MethodHandle" ∧ zy_Tx_flip.cls ≠ "java/lang/invoke/VarHandle" ∧ (parseMethodDescriptor zy_Tx_flip.desc).map (fun d => d.parameters.length) = some 2 := by decide +kernel
theorem zq_La_use : zy_La_use.cls = "DeltaPressLaw" ∧ zy_La_use.cls ≠ "java/lang/invoke/MethodHandle" ∧ zy_La_use.cls ≠ "java/lang/invoke/VarHandle" ∧ (parseMethodDescriptor zy_La_use.desc).map (fun d => d.parameters.length) = some 2 := by decide +kernel
theorem zq_Pr_use : zy_Pr_use.cls = "DeltaPress" ∧ zy_Pr_use.cls ≠ "java/lang/invoke/MethodHandle" ∧ zy_Pr_use.cls ≠ "java/lang/invoke/VarHandle" ∧ (parseMethodDescriptor zy_Pr_use.desc).map (fun d => d.parameters.length) = some 0 := by decide +kernel
theorem zq_De_isRead : zy_De_isRead.cls = "DeltaPress$DeltaReader" ∧ zy_De_isRead.cls ≠ "java/lang/invoke/MethodHandle" ∧ zy_De_isRead.cls ≠ "java/lang/invoke/VarHandle" ∧ (parseMethodDescriptor zy_De_isRead.desc).map (fun d => d.parameters.length) = some 3 := by decide +kernel
theorem zq_De_readNumber : zy_De_readNumber.cls = "DeltaPress$DeltaReader" ∧ zy_De_readNumber.cls ≠ "java/lang/invoke/MethodHandle" ∧ zy_De_readNumber.cls ≠ "java/lang/invoke/VarHandle" ∧ (parseMethodDescriptor zy_De_readNumber.desc).map (fun d => d.parameters.length) = some 1 := by decide +kernel
theorem zq_Tx_at : zy_Tx_at.cls = "DeltaPress$Text" ∧ zy_Tx_at.cls ≠ "java/lang/invoke/MethodHandle" ∧ zy_Tx_at.cls ≠ "java/lang/invoke/VarHandle" ∧ (parseMethodDescriptor zy_Tx_at.desc).map (fun d => d.parameters.length) = some 1 := by decide +kernel
theorem zq_De_isCopyRead : zy_De_isCopyRead.cls = "DeltaPress$DeltaReader" ∧ zy_De_isCopyRead.cls ≠ "java/lang/invoke/MethodHandle" ∧ zy_De_isCopyRead.cls ≠ "java/lang/invoke/VarHandle" ∧ (parseMethodDescriptor zy_De_isCopyRead.desc).map (fun d => d.parameters.length) = some 5 := by decide +kernel
theorem zq_De_readChosenBytes : zy_De_readChosenBytes.cls = "DeltaPress$DeltaReader" ∧ zy_De_readChosenBytes.cls ≠ "java/lang/invoke/MethodHandle" ∧ zy_De_readChosenBytes.cls ≠ "java/lang/invoke/VarHandle" ∧ (parseMethodDescriptor zy_De_readChosenBytes.desc).map (fun d => d.parameters.length) = some 3 := by decide +kernel
theorem zq_De_isNewRead : zy_De_isNewRead.cls = "DeltaPress$DeltaReader" ∧ zy_De_isNewRead.cls ≠ "java/lang/invoke/MethodHandle" ∧ zy_De_isNewRead.cls ≠ "java/lang/invoke/VarHandle" ∧ (parseMethodDescriptor zy_De_isNewRead.desc).map (fun d => d.parameters.length) = some 4 := by decide +kernel
theorem zq_La_turn : zy_La_turn.cls = "DeltaPressLaw" ∧ zy_La_turn.cls ≠ "java/lang/invoke/MethodHandle" ∧ zy_La_turn.cls ≠ "java/lang/invoke/VarHandle" ∧ (parseMethodDescriptor zy_La_turn.desc).map (fun d => d.parameters.length) = some 2 := by decide +kernel
theorem zq_Pr_turn : zy_Pr_turn.cls = "DeltaPress" ∧ zy_Pr_turn.cls ≠ "java/lang/invoke/MethodHandle" ∧ zy_Pr_turn.cls ≠ "java/lang/invoke/VarHandle" ∧ (parseMethodDescriptor zy_Pr_turn.desc).map (fun d => d.parameters.length) = some 0 := by decide +kernel
theorem zq_La_longest : zy_La_longest.cls = "DeltaPressLaw" ∧ zy_La_longest.cls ≠ "java/lang/invoke/MethodHandle" ∧ zy_La_longest.cls ≠ "java/lang/invoke/VarHandle" ∧ (parseMethodDescriptor zy_La_longest.desc).map (fun d => d.parameters.length) = some 4 := by decide +kernel
theorem zq_Pr_longest : zy_Pr_longest.cls = "DeltaPress" ∧ zy_Pr_longest.cls ≠ "java/lang/invoke/MethodHandle" ∧ zy_Pr_longest.cls ≠ "java/lang/invoke/VarHandle" ∧ (parseMethodDescriptor zy_Pr_longest.desc).map (fun d => d.parameters.length) = some 2 := by decide +kernel
theorem zq_La_letter : zy_La_letter.cls = "DeltaPressLaw" ∧ zy_La_letter.cls ≠ "java/lang/invoke/MethodHandle" ∧ zy_La_letter.cls ≠ "java/lang/invoke/VarHandle" ∧ (parseMethodDescriptor zy_La_letter.desc).map (fun d => d.parameters.length) = some 3 := by decide +kernel
theorem zq_Pr_letter : zy_Pr_letter.cls = "DeltaPress" ∧ zy_Pr_letter.cls ≠ "java/lang/invoke/MethodHandle" ∧ zy_Pr_letter.cls ≠ "java/lang/invoke/VarHandle" ∧ (parseMethodDescriptor zy_Pr_letter.desc).map (fun d => d.parameters.length) = some 1 := by decide +kernel
theorem zq_Mo_init : zy_Mo_init.cls = "DeltaPressModel" ∧ zy_Mo_init.cls ≠ "java/lang/invoke/MethodHandle" ∧ zy_Mo_init.cls ≠ "java/lang/invoke/VarHandle" ∧ (parseMethodDescriptor zy_Mo_init.desc).map (fun d => d.parameters.length) = some 0 := by decide +kernel
theorem zq_Mo_thrown : zy_Mo_thrown.cls = "DeltaPressModel" ∧ zy_Mo_thrown.cls ≠ "java/lang/invoke/MethodHandle" ∧ zy_Mo_thrown.cls ≠ "java/lang/invoke/VarHandle" ∧ (parseMethodDescriptor zy_Mo_thrown.desc).map (fun d => d.parameters.length) = some 0 := by decide +kernel
theorem zq_Mo_feed : zy_Mo_feed.cls = "DeltaPressModel" ∧ zy_Mo_feed.cls ≠ "java/lang/invoke/MethodHandle" ∧ zy_Mo_feed.cls ≠ "java/lang/invoke/VarHandle" ∧ (parseMethodDescriptor zy_Mo_feed.desc).map (fun d => d.parameters.length) = some 5 := by decide +kernel
theorem zq_Mo_refuse : zy_Mo_refuse.cls = "DeltaPressModel" ∧ zy_Mo_refuse.cls ≠ "java/lang/invoke/MethodHandle" ∧ zy_Mo_refuse.cls ≠ "java/lang/invoke/VarHandle" ∧ (parseMethodDescriptor zy_Mo_refuse.desc).map (fun d => d.parameters.length) = some 1 := by decide +kernel
theorem zq_Mo_end : zy_Mo_end.cls = "DeltaPressModel" ∧ zy_Mo_end.cls ≠ "java/lang/invoke/MethodHandle" ∧ zy_Mo_end.cls ≠ "java/lang/invoke/VarHandle" ∧ (parseMethodDescriptor zy_Mo_end.desc).map (fun d => d.parameters.length) = some 1 := by decide +kernel
theorem zq_Mo_change : zy_Mo_change.cls = "DeltaPressModel" ∧ zy_Mo_change.cls ≠ "java/lang/invoke/MethodHandle" ∧ zy_Mo_change.cls ≠ "java/lang/invoke/VarHandle" ∧ (parseMethodDescriptor zy_Mo_change.desc).map (fun d => d.parameters.length) = some 2 := by decide +kernel
theorem zq_Mo_base : zy_Mo_base.cls = "DeltaPressModel" ∧ zy_Mo_base.cls ≠ "java/lang/invoke/MethodHandle" ∧ zy_Mo_base.cls ≠ "java/lang/invoke/VarHandle" ∧ (parseMethodDescriptor zy_Mo_base.desc).map (fun d => d.parameters.length) = some 0 := by decide +kernel
theorem zq_Mo_make : zy_Mo_make.cls = "DeltaPressModel" ∧ zy_Mo_make.cls ≠ "java/lang/invoke/MethodHandle" ∧ zy_Mo_make.cls ≠ "java/lang/invoke/VarHandle" ∧ (parseMethodDescriptor zy_Mo_make.desc).map (fun d => d.parameters.length) = some 0 := by decide +kernel
theorem zq_Mo_putNumber : zy_Mo_putNumber.cls = "DeltaPressModel" ∧ zy_Mo_putNumber.cls ≠ "java/lang/invoke/MethodHandle" ∧ zy_Mo_putNumber.cls ≠ "java/lang/invoke/VarHandle" ∧ (parseMethodDescriptor zy_Mo_putNumber.desc).map (fun d => d.parameters.length) = some 1 := by decide +kernel
theorem zq_Mo_put : zy_Mo_put.cls = "DeltaPressModel" ∧ zy_Mo_put.cls ≠ "java/lang/invoke/MethodHandle" ∧ zy_Mo_put.cls ≠ "java/lang/invoke/VarHandle" ∧ (parseMethodDescriptor zy_Mo_put.desc).map (fun d => d.parameters.length) = some 1 := by decide +kernel
theorem zq_Mo_look : zy_Mo_look.cls = "DeltaPressModel" ∧ zy_Mo_look.cls ≠ "java/lang/invoke/MethodHandle" ∧ zy_Mo_look.cls ≠ "java/lang/invoke/VarHandle" ∧ (parseMethodDescriptor zy_Mo_look.desc).map (fun d => d.parameters.length) = some 1 := by decide +kernel
theorem zq_Mo_putFresh : zy_Mo_putFresh.cls = "DeltaPressModel" ∧ zy_Mo_putFresh.cls ≠ "java/lang/invoke/MethodHandle" ∧ zy_Mo_putFresh.cls ≠ "java/lang/invoke/VarHandle" ∧ (parseMethodDescriptor zy_Mo_putFresh.desc).map (fun d => d.parameters.length) = some 2 := by decide +kernel
theorem zq_Mo_putCopy : zy_Mo_putCopy.cls = "DeltaPressModel" ∧ zy_Mo_putCopy.cls ≠ "java/lang/invoke/MethodHandle" ∧ zy_Mo_putCopy.cls ≠ "java/lang/invoke/VarHandle" ∧ (parseMethodDescriptor zy_Mo_putCopy.desc).map (fun d => d.parameters.length) = some 0 := by decide +kernel
theorem zq_Mo_use : zy_Mo_use.cls = "DeltaPressModel" ∧ zy_Mo_use.cls ≠ "java/lang/invoke/MethodHandle" ∧ zy_Mo_use.cls ≠ "java/lang/invoke/VarHandle" ∧ (parseMethodDescriptor zy_Mo_use.desc).map (fun d => d.parameters.length) = some 0 := by decide +kernel
theorem zq_Mo_number : zy_Mo_number.cls = "DeltaPressModel" ∧ zy_Mo_number.cls ≠ "java/lang/invoke/MethodHandle" ∧ zy_Mo_number.cls ≠ "java/lang/invoke/VarHandle" ∧ (parseMethodDescriptor zy_Mo_number.desc).map (fun d => d.parameters.length) = some 0 := by decide +kernel
theorem zq_Mo_next : zy_Mo_next.cls = "DeltaPressModel" ∧ zy_Mo_next.cls ≠ "java/lang/invoke/MethodHandle" ∧ zy_Mo_next.cls ≠ "java/lang/invoke/VarHandle" ∧ (parseMethodDescriptor zy_Mo_next.desc).map (fun d => d.parameters.length) = some 0 := by decide +kernel
theorem zq_Mo_part : zy_Mo_part.cls = "DeltaPressModel" ∧ zy_Mo_part.cls ≠ "java/lang/invoke/MethodHandle" ∧ zy_Mo_part.cls ≠ "java/lang/invoke/VarHandle" ∧ (parseMethodDescriptor zy_Mo_part.desc).map (fun d => d.parameters.length) = some 1 := by decide +kernel
theorem zq_Mo_give : zy_Mo_give.cls = "DeltaPressModel" ∧ zy_Mo_give.cls ≠ "java/lang/invoke/MethodHandle" ∧ zy_Mo_give.cls ≠ "java/lang/invoke/VarHandle" ∧ (parseMethodDescriptor zy_Mo_give.desc).map (fun d => d.parameters.length) = some 2 := by decide +kernel
theorem zq_Mo_turn : zy_Mo_turn.cls = "DeltaPressModel" ∧ zy_Mo_turn.cls ≠ "java/lang/invoke/MethodHandle" ∧ zy_Mo_turn.cls ≠ "java/lang/invoke/VarHandle" ∧ (parseMethodDescriptor zy_Mo_turn.desc).map (fun d => d.parameters.length) = some 0 := by decide +kernel
theorem zq_Mo_longest : zy_Mo_longest.cls = "DeltaPressModel" ∧ zy_Mo_longest.cls ≠ "java/lang/invoke/MethodHandle" ∧ zy_Mo_longest.cls ≠ "java/lang/invoke/VarHandle" ∧ (parseMethodDescriptor zy_Mo_longest.desc).map (fun d => d.parameters.length) = some 2 := by decide +kernel
theorem zq_Mo_letter : zy_Mo_letter.cls = "DeltaPressModel" ∧ zy_Mo_letter.cls ≠ "java/lang/invoke/MethodHandle" ∧ zy_Mo_letter.cls ≠ "java/lang/invoke/VarHandle" ∧ (parseMethodDescriptor zy_Mo_letter.desc).map (fun d => d.parameters.length) = some 1 := by decide +kernel
theorem zq_Mo_count : zy_Mo_count.cls = "DeltaPressModel" ∧ zy_Mo_count.cls ≠ "java/lang/invoke/MethodHandle" ∧ zy_Mo_count.cls ≠ "java/lang/invoke/VarHandle" ∧ (parseMethodDescriptor zy_Mo_count.desc).map (fun d => d.parameters.length) = some 1 := by decide +kernel
end
section
/-! DeltaPress$Text -/
/-- BYTE k of v -/
def byt (v k : Nat) : Nat := v / 2 ^ (8 * k) % 256
theorem byt_lt (v k : Nat) : byt v k < 256 := Nat.mod_lt _ (by decide)
/-- the BYTES of v that are not 0: q more, the next one is BYTE k -/
def nzS (v : Nat) : Nat → Nat → List Int32
  | _, 0 => []
  | k, q + 1 => nzB (byt v k) ++ nzS v (k + 1) q
theorem nzS_le (v : Nat) : ∀ (q k : Nat), (nzS v k q).length ≤ q := by
  intro q
  induction q with
  | zero => intro k; exact Nat.le_refl _
  | succ q ih =>
    intro k
    have h1 := nz_len (byt v k)
    have h2 := ih (k + 1)
    unfold nzS
    rw [List.length_append]
    omega
theorem nI_255 {v : Nat} (h : v < 2 ^ 32) : nI v &&& nI 255 = nI (v % 256) := pk_andN h 8 (by decide)
theorem b8_small {v : Nat} (h : v < 128) : b8 (nI v) = nI v := by
  have e : ∀ v, v < 128 → b8 (nI v) = nI v := by decide +kernel
  exact e v h
theorem byt_sh {v k : Nat} (h : v < 2 ^ 31) (hk : k < 4) : ((nI v).toUInt32 >>> ((nI (8 * k)).toUInt32 &&& Int32.toUInt32 31)).toInt32 &&& nI 255 = nI (byt v k) := by
  rw [ush_eq _ (by omega), ush_nI (by omega)]
  exact nI_255 (Nat.lt_of_le_of_lt (Nat.div_le_self _ _) (by omega))

set_option maxHeartbeats 4000000 in
set_option maxRecDepth 100000 in
theorem zc_Tx_size (l : Launch) (D : va_G) {o a n N : Nat} {f : Nat → Int32} {cB : ClassId}  (sz : Nat) : zMi l D zy_Tx_size zb_Tx_size 1 .int ({ frames := 0, cells := 0, slots := 0, locals := 0 } : Room) [.ref o] [(cB, .byte)] [(o, .inr (1, [.ref a, .int (nI n)])), (a, .inl (cB, N, .inl (f)))] sz (fun (r : Int32) (u : Unit) => r = nI n ∧ True) (fun _ => [(o, .inr (1, [.ref a, .int (nI n)])), (a, .inl (cB, N, .inl (f)))]) := by
  refine zEi (by decide) (Nat.le_of_ble_eq_true rfl) (fun p e s m args below meth c ls A Q X hl h hsz ret => ?_)
  have hl : lv_has ls 1 [(0, .ref o)] := hl
  generalize hH0 : s.heap = H at h ⊢
  have h : zH D A s [(o, .inr (1, [.ref a, .int (nI n)])), (a, .inl (cB, N, .inl (f)))] H [] := h
  generalize hL0 : ([] : List Loc) = locs at h ⊢
  refine lv_aload_n X.1.1 X.1.2.1 zd_Tx_size_0 rfl (lv_at hl 0 rfl) ?_
  refine rG X h 0 rfl rfl zW_Tx 1 (by decide) zw_32 rfl zd_Tx_size_1 ?_
  exact ret _ () H locs ls _ (⟨rfl, trivial⟩) h zd_Tx_size_4

set_option maxHeartbeats 4000000 in
set_option maxRecDepth 100000 in
theorem zc_Tx_row (l : Launch) (D : va_G) {o a n N : Nat} {f : Nat → Int32} {cB : ClassId}  (sz : Nat) : zMr l D zy_Tx_row zb_Tx_row 1 (.array .byte) ({ frames := 0, cells := 0, slots := 0, locals := 0 } : Room) [.ref o] [(cB, .byte)] [(o, .inr (1, [.ref a, .int (nI n)])), (a, .inl (cB, N, .inl (f)))] sz a [(o, .inr (1, [.ref a, .int (nI n)])), (a, .inl (cB, N, .inl (f)))] := by
  refine zEr (by decide) (Nat.le_of_ble_eq_true rfl) (by first | exact Or.inl ⟨_, rfl⟩ | exact Or.inr ⟨_, rfl⟩) (fun p e s m args below meth c ls A Q X hl h hsz ret => ?_)
  have hl : lv_has ls 1 [(0, .ref o)] := hl
  generalize hH0 : s.heap = H at h ⊢
  have h : zH D A s [(o, .inr (1, [.ref a, .int (nI n)])), (a, .inl (cB, N, .inl (f)))] H [] := h
  generalize hL0 : ([] : List Loc) = locs at h ⊢
  refine lv_aload_n X.1.1 X.1.2.1 zd_Tx_row_0 rfl (lv_at hl 0 rfl) ?_
  refine rG X h 0 rfl rfl zW_Tx 0 (by decide) zw_31 rfl zd_Tx_row_1 ?_
  exact ret H locs ls _ h zd_Tx_row_4

set_option maxHeartbeats 4000000 in
set_option maxRecDepth 100000 in
theorem zc_Tx_cut (l : Launch) (D : va_G) {o a n N : Nat} {f : Nat → Int32} {cB : ClassId} {k : Nat}  (sz : Nat) : zMv l D zy_Tx_cut zb_Tx_cut 2 ({ frames := 0, cells := 0, slots := 0, locals := 0 } : Room) [.ref o, .int (nI k)] [(cB, .byte)] [(o, .inr (1, [.ref a, .int (nI n)])), (a, .inl (cB, N, .inl (f)))] sz (fun (u : Unit) => True) (fun _ => [(o, .inr (1, [.ref a, .int (nI k)])), (a, .inl (cB, N, .inl (f)))]) := by
  refine zEv (by decide) (Nat.le_of_ble_eq_true rfl) (fun p e s m args below meth c ls A Q X hin hl h hsz ret => ?_)
  have hl : lv_has ls 2 [(0, .ref o), (1, .int (nI k))] := hl
  generalize hH0 : s.heap = H at h ⊢
  have h : zH D A s [(o, .inr (1, [.ref a, .int (nI n)])), (a, .inl (cB, N, .inl (f)))] H [] := h
  generalize hL0 : ([] : List Loc) = locs at h ⊢
  refine lv_aload_n X.1.1 X.1.2.1 zd_Tx_cut_0 rfl (lv_at hl 0 rfl) ?_
  refine lv_iload_n X.1.1 X.1.2.1 zd_Tx_cut_1 rfl (lv_at hl 1 rfl) ?_
  refine rP X h 0 rfl rfl zW_Tx zO_Tx zN_Tx 1 (by decide) zw_32 rfl (rfl) (rfl) (Nat.le_of_ble_eq_true rfl) zd_Tx_cut_2 (fun H locs h => ?_)
  have h : zH D A s [(o, .inr (1, [.ref a, .int (nI k)])), (a, .inl (cB, N, .inl (f)))] H locs := h
  exact ret () H locs ls _ (trivial) h zd_Tx_cut_5

set_option maxHeartbeats 4000000 in
set_option maxRecDepth 100000 in
theorem zc_Tx_at (l : Launch) (D : va_G) {o a n N : Nat} {f : Nat → Int32} {cB : ClassId} {j : Nat} (hj : j < N) (hN : N < 2 ^ 31) (sz : Nat) : zMi l D zy_Tx_at zb_Tx_at 2 .int ({ frames := 0, cells := 0, slots := 0, locals := 0 } : Room) [.ref o, .int (nI j)] [(cB, .byte)] [(o, .inr (1, [.ref a, .int (nI n)])), (a, .inl (cB, N, .inl (f)))] sz (fun (r : Int32) (u : Unit) => r = nI (ub (f j)) ∧ True) (fun _ => [(o, .inr (1, [.ref a, .int (nI n)])), (a, .inl (cB, N, .inl (f)))]) := by
  refine zEi (by decide) (Nat.le_of_ble_eq_true rfl) (fun p e s m args below meth c ls A Q X hl h hsz ret => ?_)
  have hl : lv_has ls 2 [(0, .ref o), (1, .int (nI j))] := hl
  generalize hH0 : s.heap = H at h ⊢
  have h : zH D A s [(o, .inr (1, [.ref a, .int (nI n)])), (a, .inl (cB, N, .inl (f)))] H [] := h
  generalize hL0 : ([] : List Loc) = locs at h ⊢
  refine lv_aload_n X.1.1 X.1.2.1 zd_Tx_at_0 rfl (lv_at hl 0 rfl) ?_
  refine rG X h 0 rfl rfl zW_Tx 0 (by decide) zw_31 rfl zd_Tx_at_1 ?_
  refine lv_iload_n X.1.1 X.1.2.1 zd_Tx_at_4 rfl (lv_at hl 1 rfl) ?_
  refine rLb X h 1 0 rfl rfl (by omega) (by omega) zd_Tx_at_5 ?_
  refine lv_sipush (v := nI 255) X.1.1 X.1.2.1 zd_Tx_at_6 (by decide) ?_
  refine lv_iand X.1.1 X.1.2.1 zd_Tx_at_9 ?_
  refine zTop (y := nI (ub (f j))) (and255 _) ?_
  exact ret _ () H locs ls _ (⟨rfl, trivial⟩) h zd_Tx_at_10

set_option maxHeartbeats 4000000 in
set_option maxRecDepth 100000 in
theorem zc_Tx_has (l : Launch) (D : va_G) {o a n N : Nat} {f : Nat → Int32} {cB : ClassId} {x : Int32} (hn : n < 2 ^ 31) (sz : Nat) : zMi l D zy_Tx_has zb_Tx_has 2 .boolean ({ frames := 0, cells := 0, slots := 0, locals := 0 } : Room) [.ref o, .int x] [(cB, .byte)] [(o, .inr (1, [.ref a, .int (nI n)])), (a, .inl (cB, N, .inl (f)))] sz (fun (r : Int32) (u : Unit) => (r = 1 ∧ ∃ j, j < n ∧ x = nI j) ∨ (r = 0 ∧ ∀ j, j < n → x ≠ nI j)) (fun _ => [(o, .inr (1, [.ref a, .int (nI n)])), (a, .inl (cB, N, .inl (f)))]) := by
  refine zEz (by decide) (Nat.le_of_ble_eq_true rfl) (fun p e s m args below meth c ls A Q X hl h hsz ret => ?_)
  have hl : lv_has ls 2 [(0, .ref o), (1, .int x)] := hl
  generalize hH0 : s.heap = H at h ⊢
  have h : zH D A s [(o, .inr (1, [.ref a, .int (nI n)])), (a, .inl (cB, N, .inl (f)))] H [] := h
  generalize hL0 : ([] : List Loc) = locs at h ⊢
  refine lv_iload_n X.1.1 X.1.2.1 zd_Tx_has_0 rfl (lv_at hl 1 rfl) ?_
  refine lv_if_lt (tgt := 16) X.1.1 X.1.2.1 zd_Tx_has_1 rfl (fun h0 => ?_) (fun h0 => ?_)
  · refine lv_iconst (v := nI 0) X.1.1 X.1.2.1 zd_Tx_has_16 (by decide) ?_
    have e : ∀ j, j < n → x ≠ nI j := fun j hj e => nI_pos (by omega) (e ▸ h0)
    exact ret _ () H locs ls _ (rfl) (Or.inr ⟨rfl, e⟩) h zd_Tx_has_17
  · refine lv_iload_n X.1.1 X.1.2.1 zd_Tx_has_4 rfl (lv_at hl 1 rfl) ?_
    refine lv_aload_n X.1.1 X.1.2.1 zd_Tx_has_5 rfl (lv_at hl 0 rfl) ?_
    refine rG X h 0 rfl rfl zW_Tx 1 (by decide) zw_32 rfl zd_Tx_has_6 ?_
    refine lv_icmp_ge (tgt := 16) X.1.1 X.1.2.1 zd_Tx_has_9 rfl (fun h1 => ?_) (fun h1 => ?_)
    · refine lv_iconst (v := nI 0) X.1.1 X.1.2.1 zd_Tx_has_16 (by decide) ?_
      have e : ∀ j, j < n → x ≠ nI j := fun j hj e => nI_ge hj hn (e ▸ h1)
      exact ret _ () H locs ls _ (rfl) (Or.inr ⟨rfl, e⟩) h zd_Tx_has_17
    · refine lv_iconst (v := nI 1) X.1.1 X.1.2.1 zd_Tx_has_12 (by decide) ?_
      refine lv_goto (tgt := 17) X.1.1 X.1.2.1 zd_Tx_has_13 rfl ?_
      have e : ∃ j, j < n ∧ x = nI j := by
        rcases pk_ix x hn with q | q | q
        · exact absurd q h0
        · exact absurd q h1
        · exact q
      exact ret _ () H locs ls _ (rfl) (Or.inl ⟨rfl, e⟩) h zd_Tx_has_17

set_option maxHeartbeats 4000000 in
set_option maxRecDepth 100000 in
theorem zc_Tx_flip (l : Launch) (D : va_G) {o a n N : Nat} {f : Nat → Int32} {cB : ClassId} {j : Nat} {x : Int32} (hj : j < N) (hN : N < 2 ^ 31) (sz : Nat) : zMv l D zy_Tx_flip zb_Tx_flip 3 ({ frames := 0, cells := 0, slots := 0, locals := 0 } : Room) [.ref o, .int (nI j), .int x] [(cB, .byte)] [(o, .inr (1, [.ref a, .int (nI n)])), (a, .inl (cB, N, .inl (f)))] sz (fun (u : Unit) => True) (fun _ => [(o, .inr (1, [.ref a, .int (nI n)])), (a, .inl (cB, N, .inl (upd f j (b8 ((f j) ^^^ (b8 x))))))]) := by
  refine zEv (by decide) (Nat.le_of_ble_eq_true rfl) (fun p e s m args below meth c ls A Q X hin hl h hsz ret => ?_)
  have hl : lv_has ls 3 [(0, .ref o), (1, .int (nI j)), (2, .int x)] := hl
  generalize hH0 : s.heap = H at h ⊢
  have h : zH D A s [(o, .inr (1, [.ref a, .int (nI n)])), (a, .inl (cB, N, .inl (f)))] H [] := h
  generalize hL0 : ([] : List Loc) = locs at h ⊢
  refine lv_aload_n X.1.1 X.1.2.1 zd_Tx_flip_0 rfl (lv_at hl 0 rfl) ?_
  refine rG X h 0 rfl rfl zW_Tx 0 (by decide) zw_31 rfl zd_Tx_flip_1 ?_
  refine lv_iload_n X.1.1 X.1.2.1 zd_Tx_flip_4 rfl (lv_at hl 1 rfl) ?_
  refine lv_dup2_11 X.1.1 X.1.2.1 zd_Tx_flip_5 rfl rfl ?_
  refine rLb X h 1 0 rfl rfl (by omega) (by omega) zd_Tx_flip_6 ?_
  refine lv_iload_n X.1.1 X.1.2.1 zd_Tx_flip_7 rfl (lv_at hl 2 rfl) ?_
  refine lv_i2b (v := b8 x) X.1.1 X.1.2.1 zd_Tx_flip_8 (rfl) ?_
  refine lv_ixor X.1.1 X.1.2.1 zd_Tx_flip_9 ?_
  refine lv_i2b (v := b8 ((f j) ^^^ (b8 x))) X.1.1 X.1.2.1 zd_Tx_flip_10 (rfl) ?_
  refine rSb X h 1 0 rfl rfl (by omega) (by omega) (pk_vb _) zd_Tx_flip_11 (fun H locs h => ?_)
  have h : zH D A s [(o, .inr (1, [.ref a, .int (nI n)])), (a, .inl (cB, N, .inl (upd f j (b8 ((f j) ^^^ (b8 x))))))] H locs := h
  exact ret () H locs ls _ (trivial) h zd_Tx_flip_12

set_option maxHeartbeats 4000000 in
set_option maxRecDepth 100000 in
theorem zc_Tx_add (l : Launch) (D : va_G) {o a n N : Nat} {f : Nat → Int32} {cB : ClassId} {x : Int32} (hn : n < N) (hN : N < 2 ^ 31) (sz : Nat) : zMv l D zy_Tx_add zb_Tx_add 2 ({ frames := 0, cells := 0, slots := 0, locals := 0 } : Room) [.ref o, .int x] [(cB, .byte)] [(o, .inr (1, [.ref a, .int (nI n)])), (a, .inl (cB, N, .inl (f)))] sz (fun (u : Unit) => True) (fun _ => [(o, .inr (1, [.ref a, .int (nI (n + 1))])), (a, .inl (cB, N, .inl (upd f n (b8 x))))]) := by
  refine zEv (by decide) (Nat.le_of_ble_eq_true rfl) (fun p e s m args below meth c ls A Q X hin hl h hsz ret => ?_)
  have hl : lv_has ls 2 [(0, .ref o), (1, .int x)] := hl
  generalize hH0 : s.heap = H at h ⊢
  have h : zH D A s [(o, .inr (1, [.ref a, .int (nI n)])), (a, .inl (cB, N, .inl (f)))] H [] := h
  generalize hL0 : ([] : List Loc) = locs at h ⊢
  refine lv_aload_n X.1.1 X.1.2.1 zd_Tx_add_0 rfl (lv_at hl 0 rfl) ?_
  refine rG X h 0 rfl rfl zW_Tx 0 (by decide) zw_31 rfl zd_Tx_add_1 ?_
  refine lv_aload_n X.1.1 X.1.2.1 zd_Tx_add_4 rfl (lv_at hl 0 rfl) ?_
  refine rG X h 0 rfl rfl zW_Tx 1 (by decide) zw_32 rfl zd_Tx_add_5 ?_
  refine lv_iload_n X.1.1 X.1.2.1 zd_Tx_add_8 rfl (lv_at hl 1 rfl) ?_
  refine lv_i2b (v := b8 x) X.1.1 X.1.2.1 zd_Tx_add_9 (rfl) ?_
  refine rSb X h 1 0 rfl rfl (by omega) (by omega) (pk_vb _) zd_Tx_add_10 (fun H locs h => ?_)
  have h : zH D A s [(o, .inr (1, [.ref a, .int (nI n)])), (a, .inl (cB, N, .inl (upd f n (b8 x))))] H locs := h
  refine lv_aload_n X.1.1 X.1.2.1 zd_Tx_add_11 rfl (lv_at hl 0 rfl) ?_
  refine lv_dup X.1.1 X.1.2.1 zd_Tx_add_12 rfl ?_
  refine rG X h 0 rfl rfl zW_Tx 1 (by decide) zw_32 rfl zd_Tx_add_13 ?_
  refine lv_iconst (v := nI 1) X.1.1 X.1.2.1 zd_Tx_add_16 (by decide) ?_
  refine lv_iadd X.1.1 X.1.2.1 zd_Tx_add_17 ?_
  refine zTop (y := nI (n + 1)) (nI_add _ _) ?_
  refine rP X h 0 rfl rfl zW_Tx zO_Tx zN_Tx 1 (by decide) zw_32 rfl (rfl) (rfl) (Nat.le_of_ble_eq_true rfl) zd_Tx_add_18 (fun H locs h => ?_)
  have h : zH D A s [(o, .inr (1, [.ref a, .int (nI (n + 1))])), (a, .inl (cB, N, .inl (upd f n (b8 x))))] H locs := h
  exact ret () H locs ls _ (trivial) h zd_Tx_add_21

set_option maxHeartbeats 4000000 in
set_option maxRecDepth 100000 in
theorem zc_Tx_addFour (l : Launch) (D : va_G) {o a n N : Nat} {f : Nat → Int32} {cB : ClassId} {x : Int32} (hf : sb_Fit f) (hn : n + 4 ≤ N) (hN : N < 2 ^ 31) (sz : Nat) : zMv l D zy_Tx_addFour zb_Tx_addFour 2 ({ frames := 1, cells := 0, slots := 0, locals := 21 } : Room) [.ref o, .int x] [(cB, .byte)] [(o, .inr (1, [.ref a, .int (nI n)])), (a, .inl (cB, N, .inl (f)))] sz (fun (u : Nat → Int32) => tx u (n + 4) = tx f n ++ fourB x ∧ sb_Fit u) (fun u => [(o, .inr (1, [.ref a, .int (nI (n + 4))])), (a, .inl (cB, N, .inl (u)))]) := by
  refine zEv (by decide) (Nat.le_of_ble_eq_true rfl) (fun p e s m args below meth c ls A Q X hin hl h hsz ret => ?_)
  have hl : lv_has ls 2 [(0, .ref o), (1, .int x)] := hl
  generalize hH0 : s.heap = H at h ⊢
  have h : zH D A s [(o, .inr (1, [.ref a, .int (nI n)])), (a, .inl (cB, N, .inl (f)))] H [] := h
  generalize hL0 : ([] : List Loc) = locs at h ⊢
  refine lv_aload_n X.1.1 X.1.2.1 zd_Tx_addFour_0 rfl (lv_at hl 0 rfl) ?_
  refine lv_iload_n X.1.1 X.1.2.1 zd_Tx_addFour_1 rfl (lv_at hl 1 rfl) ?_
  refine lv_bipush (v := nI 24) X.1.1 X.1.2.1 zd_Tx_addFour_2 (by decide) ?_
  refine lv_iushr (v := ush x 24) X.1.1 X.1.2.1 zd_Tx_addFour_4 (ush_eq x (by decide)) ?_
  refine rCv (wr := []) (wf := fun _ => [(o, .inr (1, [.ref a, .int (nI (n + 1))])), (a, .inl (cB, N, .inl (upd f n (b8 (ush x 24)))))]) (rest := []) X h hl.1 (zc_Tx_add l D (o := o) (a := a) (n := n) (N := N) (f := f) (cB := cB) (x := ush x 24) (by omega) (hN) H.size) zw_156 zw_157 zw_158 zw_2 zm_Tx_add zq_Tx_add ⟨Nat.le_of_ble_eq_true rfl, Nat.le_of_ble_eq_true rfl⟩ ⟨Nat.le_of_ble_eq_true rfl, Nat.le_of_ble_eq_true rfl⟩ [0] rfl [0, 1] [] [0, 1] rfl (by decide) rfl (by decide) (by decide) (fun _ => rfl) (by decide) 0 rfl rfl rfl (Nat.le_of_ble_eq_true rfl) zd_Tx_addFour_5 (fun _ H locs hp h => ?_)
  have h : zH D A s [(o, .inr (1, [.ref a, .int (nI (n + 1))])), (a, .inl (cB, N, .inl (upd f n (b8 (ush x 24)))))] H locs := h
  refine lv_aload_n X.1.1 X.1.2.1 zd_Tx_addFour_8 rfl (lv_at hl 0 rfl) ?_
  refine lv_iload_n X.1.1 X.1.2.1 zd_Tx_addFour_9 rfl (lv_at hl 1 rfl) ?_
  refine lv_bipush (v := nI 16) X.1.1 X.1.2.1 zd_Tx_addFour_10 (by decide) ?_
  refine lv_iushr (v := ush x 16) X.1.1 X.1.2.1 zd_Tx_addFour_12 (ush_eq x (by decide)) ?_
  refine rCv (wr := []) (wf := fun _ => [(o, .inr (1, [.ref a, .int (nI (n + 1 + 1))])), (a, .inl (cB, N, .inl (upd (upd f n (b8 (ush x 24))) (n + 1) (b8 (ush x 16)))))]) (rest := []) X h hl.1 (zc_Tx_add l D (o := o) (a := a) (n := n + 1) (N := N) (f := upd f n (b8 (ush x 24))) (cB := cB) (x := ush x 16) (by omega) (hN) H.size) zw_156 zw_157 zw_158 zw_2 zm_Tx_add zq_Tx_add ⟨Nat.le_of_ble_eq_true rfl, Nat.le_of_ble_eq_true rfl⟩ ⟨Nat.le_of_ble_eq_true rfl, Nat.le_of_ble_eq_true rfl⟩ [0] rfl [0, 1] [] [0, 1] rfl (by decide) rfl (by decide) (by decide) (fun _ => rfl) (by decide) 0 rfl rfl rfl (Nat.le_of_ble_eq_true rfl) zd_Tx_addFour_13 (fun _ H locs hp h => ?_)
  have h : zH D A s [(o, .inr (1, [.ref a, .int (nI (n + 1 + 1))])), (a, .inl (cB, N, .inl (upd (upd f n (b8 (ush x 24))) (n + 1) (b8 (ush x 16)))))] H locs := h
  refine lv_aload_n X.1.1 X.1.2.1 zd_Tx_addFour_16 rfl (lv_at hl 0 rfl) ?_
  refine lv_iload_n X.1.1 X.1.2.1 zd_Tx_addFour_17 rfl (lv_at hl 1 rfl) ?_
  refine lv_bipush (v := nI 8) X.1.1 X.1.2.1 zd_Tx_addFour_18 (by decide) ?_
  refine lv_iushr (v := ush x 8) X.1.1 X.1.2.1 zd_Tx_addFour_20 (ush_eq x (by decide)) ?_
  refine rCv (wr := []) (wf := fun _ => [(o, .inr (1, [.ref a, .int (nI (n + 1 + 1 + 1))])), (a, .inl (cB, N, .inl (upd (upd (upd f n (b8 (ush x 24))) (n + 1) (b8 (ush x 16))) (n + 1 + 1) (b8 (ush x 8)))))]) (rest := []) X h hl.1 (zc_Tx_add l D (o := o) (a := a) (n := n + 1 + 1) (N := N) (f := upd (upd f n (b8 (ush x 24))) (n + 1) (b8 (ush x 16))) (cB := cB) (x := ush x 8) (by omega) (hN) H.size) zw_156 zw_157 zw_158 zw_2 zm_Tx_add zq_Tx_add ⟨Nat.le_of_ble_eq_true rfl, Nat.le_of_ble_eq_true rfl⟩ ⟨Nat.le_of_ble_eq_true rfl, Nat.le_of_ble_eq_true rfl⟩ [0] rfl [0, 1] [] [0, 1] rfl (by decide) rfl (by decide) (by decide) (fun _ => rfl) (by decide) 0 rfl rfl rfl (Nat.le_of_ble_eq_true rfl) zd_Tx_addFour_21 (fun _ H locs hp h => ?_)
  have h : zH D A s [(o, .inr (1, [.ref a, .int (nI (n + 1 + 1 + 1))])), (a, .inl (cB, N, .inl (upd (upd (upd f n (b8 (ush x 24))) (n + 1) (b8 (ush x 16))) (n + 1 + 1) (b8 (ush x 8)))))] H locs := h
  refine lv_aload_n X.1.1 X.1.2.1 zd_Tx_addFour_24 rfl (lv_at hl 0 rfl) ?_
  refine lv_iload_n X.1.1 X.1.2.1 zd_Tx_addFour_25 rfl (lv_at hl 1 rfl) ?_
  refine rCv (wr := []) (wf := fun _ => [(o, .inr (1, [.ref a, .int (nI (n + 1 + 1 + 1 + 1))])), (a, .inl (cB, N, .inl (upd (upd (upd (upd f n (b8 (ush x 24))) (n + 1) (b8 (ush x 16))) (n + 1 + 1) (b8 (ush x 8))) (n + 1 + 1 + 1) (b8 x))))]) (rest := []) X h hl.1 (zc_Tx_add l D (o := o) (a := a) (n := n + 1 + 1 + 1) (N := N) (f := upd (upd (upd f n (b8 (ush x 24))) (n + 1) (b8 (ush x 16))) (n + 1 + 1) (b8 (ush x 8))) (cB := cB) (x := x) (by omega) (hN) H.size) zw_156 zw_157 zw_158 zw_2 zm_Tx_add zq_Tx_add ⟨Nat.le_of_ble_eq_true rfl, Nat.le_of_ble_eq_true rfl⟩ ⟨Nat.le_of_ble_eq_true rfl, Nat.le_of_ble_eq_true rfl⟩ [0] rfl [0, 1] [] [0, 1] rfl (by decide) rfl (by decide) (by decide) (fun _ => rfl) (by decide) 0 rfl rfl rfl (Nat.le_of_ble_eq_true rfl) zd_Tx_addFour_26 (fun _ H locs hp h => ?_)
  have h : zH D A s [(o, .inr (1, [.ref a, .int (nI (n + 1 + 1 + 1 + 1))])), (a, .inl (cB, N, .inl (upd (upd (upd (upd f n (b8 (ush x 24))) (n + 1) (b8 (ush x 16))) (n + 1 + 1) (b8 (ush x 8))) (n + 1 + 1 + 1) (b8 x))))] H locs := h
  exact ret _ H locs ls _ (⟨by rw [tx_push, tx_push, tx_push, tx_push]; simp only [List.append_assoc]; rfl, fit_upd (fit_upd (fit_upd (fit_upd hf _ _) _ _) _ _) _ _⟩) h zd_Tx_addFour_29

set_option maxHeartbeats 4000000 in
set_option maxRecDepth 100000 in
theorem zc_Tx_addPart (l : Launch) (D : va_G) {o a n N : Nat} {f : Nat → Int32} {cB : ClassId} {o2 a2 n2 N2 : Nat} {f2 : Nat → Int32} {cB2 : ClassId} {q k : Nat} (hf : sb_Fit f2) (h1 : q + k ≤ N2) (h2 : n + k ≤ N) (hN : N < 2 ^ 31) (hN2 : N2 < 2 ^ 31) (sz : Nat) : zMv l D zy_Tx_addPart zb_Tx_addPart 4 ({ frames := 1, cells := 0, slots := 0, locals := 24 } : Room) [.ref o, .ref o2, .int (nI q), .int (nI k)] [(cB, .byte), (cB2, .byte)] [(o, .inr (1, [.ref a, .int (nI n)])), (a, .inl (cB, N, .inl (f))), (o2, .inr (1, [.ref a2, .int (nI n2)])), (a2, .inl (cB2, N2, .inl (f2)))] sz (fun (u : Unit) => True) (fun _ => [(o, .inr (1, [.ref a, .int (nI (n + k))])), (a, .inl (cB, N, .inl (va_cpy f2 f q n k))), (o2, .inr (1, [.ref a2, .int (nI n2)])), (a2, .inl (cB2, N2, .inl (f2)))]) := by
  refine zEv (by decide) (Nat.le_of_ble_eq_true rfl) (fun p e s m args below meth c ls A Q X hin hl h hsz ret => ?_)
  have hl : lv_has ls 4 [(0, .ref o), (1, .ref o2), (2, .int (nI q)), (3, .int (nI k))] := hl
  generalize hH0 : s.heap = H at h ⊢
  have h : zH D A s [(o, .inr (1, [.ref a, .int (nI n)])), (a, .inl (cB, N, .inl (f))), (o2, .inr (1, [.ref a2, .int (nI n2)])), (a2, .inl (cB2, N2, .inl (f2)))] H [] := h
  generalize hL0 : ([] : List Loc) = locs at h ⊢
  refine lv_aload_n X.1.1 X.1.2.1 zd_Tx_addPart_0 rfl (lv_at hl 1 rfl) ?_
  refine rG X h 2 rfl rfl zW_Tx 0 (by decide) zw_31 rfl zd_Tx_addPart_1 ?_
  refine lv_iload_n X.1.1 X.1.2.1 zd_Tx_addPart_4 rfl (lv_at hl 2 rfl) ?_
  refine lv_aload_n X.1.1 X.1.2.1 zd_Tx_addPart_5 rfl (lv_at hl 0 rfl) ?_
  refine rG X h 0 rfl rfl zW_Tx 0 (by decide) zw_31 rfl zd_Tx_addPart_6 ?_
  refine lv_aload_n X.1.1 X.1.2.1 zd_Tx_addPart_9 rfl (lv_at hl 0 rfl) ?_
  refine rG X h 0 rfl rfl zW_Tx 1 (by decide) zw_32 rfl zd_Tx_addPart_10 ?_
  refine lv_iload_n X.1.1 X.1.2.1 zd_Tx_addPart_13 rfl (lv_at hl 3 rfl) ?_
  refine rCopy X h hl.1 zw_249 zw_251 zw_250 zw_13 3 1 1 0 rfl rfl rfl rfl (by omega) (by omega) (by omega) (by omega) (hf) (Nat.le_of_ble_eq_true rfl) (Nat.le_of_ble_eq_true rfl) zd_Tx_addPart_14 (fun H locs h => ?_)
  have h : zH D A s [(o, .inr (1, [.ref a, .int (nI n)])), (a, .inl (cB, N, .inl (va_cpy f2 f q n k))), (o2, .inr (1, [.ref a2, .int (nI n2)])), (a2, .inl (cB2, N2, .inl (f2)))] H locs := h
  refine lv_aload_n X.1.1 X.1.2.1 zd_Tx_addPart_17 rfl (lv_at hl 0 rfl) ?_
  refine lv_dup X.1.1 X.1.2.1 zd_Tx_addPart_18 rfl ?_
  refine rG X h 0 rfl rfl zW_Tx 1 (by decide) zw_32 rfl zd_Tx_addPart_19 ?_
  refine lv_iload_n X.1.1 X.1.2.1 zd_Tx_addPart_22 rfl (lv_at hl 3 rfl) ?_
  refine lv_iadd X.1.1 X.1.2.1 zd_Tx_addPart_23 ?_
  refine zTop (y := nI (n + k)) (nI_add _ _) ?_
  refine rP X h 0 rfl rfl zW_Tx zO_Tx zN_Tx 1 (by decide) zw_32 rfl (rfl) (rfl) (Nat.le_of_ble_eq_true rfl) zd_Tx_addPart_24 (fun H locs h => ?_)
  have h : zH D A s [(o, .inr (1, [.ref a, .int (nI (n + k))])), (a, .inl (cB, N, .inl (va_cpy f2 f q n k))), (o2, .inr (1, [.ref a2, .int (nI n2)])), (a2, .inl (cB2, N2, .inl (f2)))] H locs := h
  exact ret () H locs ls _ (trivial) h zd_Tx_addPart_27

set_option maxHeartbeats 4000000 in
set_option maxRecDepth 100000 in
theorem zc_Tx_addNumber (l : Launch) (D : va_G) {o a n N : Nat} {f : Nat → Int32} {cB : ClassId} {v : Nat} (hf : sb_Fit f) (hv : v < 2 ^ 31) (hn : n + (numB 4 v).length ≤ N) (hN : N < 2 ^ 31) (sz : Nat) : zMv l D zy_Tx_addNumber zb_Tx_addNumber 4 ({ frames := 1, cells := 0, slots := 0, locals := 21 } : Room) [.ref o, .int (nI v)] [(cB, .byte)] [(o, .inr (1, [.ref a, .int (nI n)])), (a, .inl (cB, N, .inl (f)))] sz (fun (u : Nat → Int32) => tx u (n + (numB 4 v).length) = tx f n ++ numB 4 v ∧ sb_Fit u) (fun u => [(o, .inr (1, [.ref a, .int (nI (n + (numB 4 v).length))])), (a, .inl (cB, N, .inl (u)))]) := by
  refine zEv (by decide) (Nat.le_of_ble_eq_true rfl) (fun p e s m args below meth c ls A Q X hin hl h hsz ret => ?_)
  have hl : lv_has ls 4 [(0, .ref o), (1, .int (nI v))] := hl
  generalize hH0 : s.heap = H at h ⊢
  have h : zH D A s [(o, .inr (1, [.ref a, .int (nI n)])), (a, .inl (cB, N, .inl (f)))] H [] := h
  generalize hL0 : ([] : List Loc) = locs at h ⊢
  refine lv_iload_n X.1.1 X.1.2.1 zd_Tx_addNumber_0 rfl (lv_at hl 1 rfl) ?_
  refine lv_istore_n X.1.1 X.1.2.1 zd_Tx_addNumber_1 rfl hl (by decide) rfl (fun ls hl => ?_)
  have hl : lv_has ls 4 [(2, .int (nI v)), (0, .ref o), (1, .int (nI v))] := hl
  refine lv_iconst (v := nI 0) X.1.1 X.1.2.1 zd_Tx_addNumber_2 (by decide) ?_
  refine lv_istore_n X.1.1 X.1.2.1 zd_Tx_addNumber_3 rfl hl (by decide) rfl (fun ls hl => ?_)
  have hl : lv_has ls 4 [(3, .int (nI 0)), (2, .int (nI v)), (0, .ref o), (1, .int (nI v))] := hl
  have loop : ∀ (fu : Nat) (i : Nat) (w : Nat) (n1 : Nat) (g : Nat → Int32) (ls : Array Slot) (H : Heap) (locs : List Loc), 4 - i < fu → i ≤ 4 → w < 2 ^ 31 → tx g n1 ++ numB (4 - i) w = tx f n ++ numB 4 v → sb_Fit g → n1 + (numB (4 - i) w).length = n + (numB 4 v).length → lv_has ls 4 [(0, .ref o), (1, .int (nI v)), (2, .int (nI w)), (3, .int (nI i))] → zH D A s [(o, .inr (1, [.ref a, .int (nI n1)])), (a, .inl (cB, N, .inl (g)))] H locs → W p l e ({ frames := 1, cells := 0, slots := 0, locals := 21 } : Room) s m args below meth c H locs 0 0 Q (F0 m 4 ls []) := by
    intro fu
    induction fu with
    | zero => intro i w n1 g ls H locs hfu; exact absurd hfu (Nat.not_lt_zero _)
    | succ fu ih =>
      intro i w n1 g ls H locs hfu hi hw he hg hz hl h
      refine lv_iload_n X.1.1 X.1.2.1 zd_Tx_addNumber_4 rfl (lv_at hl 3 rfl) ?_
      refine lv_iconst (v := nI 4) X.1.1 X.1.2.1 zd_Tx_addNumber_5 (by decide) ?_
      refine lv_icmp_ge (tgt := 38) X.1.1 X.1.2.1 zd_Tx_addNumber_6 rfl (fun c1 => ?_) (fun c1 => ?_)
      · have c1 : 4 ≤ i := zc_ge_t (by omega) (by omega) c1
        have e1 : numB (4 - i) w = [b8 (nI w)] := by rw [show 4 - i = 0 by omega]; rfl
        rw [e1] at he hz
        have hz : n1 + 1 = n + (numB 4 v).length := hz
        refine lv_aload_n X.1.1 X.1.2.1 zd_Tx_addNumber_38 rfl (lv_at hl 0 rfl) ?_
        refine lv_iload_n X.1.1 X.1.2.1 zd_Tx_addNumber_39 rfl (lv_at hl 2 rfl) ?_
        refine rCv (wr := []) (wf := fun _ => [(o, .inr (1, [.ref a, .int (nI (n1 + 1))])), (a, .inl (cB, N, .inl (upd g n1 (b8 (nI w)))))]) (rest := []) X h hl.1 (zc_Tx_add l D (o := o) (a := a) (n := n1) (N := N) (f := g) (cB := cB) (x := nI w) (by omega) (hN) H.size) zw_156 zw_157 zw_158 zw_2 zm_Tx_add zq_Tx_add ⟨Nat.le_of_ble_eq_true rfl, Nat.le_of_ble_eq_true rfl⟩ ⟨Nat.le_of_ble_eq_true rfl, Nat.le_of_ble_eq_true rfl⟩ [0] rfl [0, 1] [] [0, 1] rfl (by decide) rfl (by decide) (by decide) (fun _ => rfl) (by decide) 0 rfl rfl rfl (Nat.le_of_ble_eq_true rfl) zd_Tx_addNumber_40 (fun _ H locs hp h => ?_)
        have h : zH D A s [(o, .inr (1, [.ref a, .int (nI (n1 + 1))])), (a, .inl (cB, N, .inl (upd g n1 (b8 (nI w)))))] H locs := h
        rw [hz] at h
        exact ret _ H locs ls _ (⟨by rw [← hz, tx_push]; exact he, fit_upd hg _ _⟩) h zd_Tx_addNumber_43
      · have c1 : i < 4 := zc_ge_f (by omega) (by omega) c1
        refine lv_iload_n X.1.1 X.1.2.1 zd_Tx_addNumber_9 rfl (lv_at hl 2 rfl) ?_
        refine lv_bipush (v := nI 127) X.1.1 X.1.2.1 zd_Tx_addNumber_10 (by decide) ?_
        refine lv_icmp_le (tgt := 38) X.1.1 X.1.2.1 zd_Tx_addNumber_12 rfl (fun c2 => ?_) (fun c2 => ?_)
        · have c2 : w ≤ 127 := zc_le_t (by omega) (by omega) c2
          have e1 : numB (4 - i) w = [b8 (nI w)] := by rw [show 4 - i = (3 - i) + 1 by omega]; show (if w < 128 then _ else _) = _; rw [if_pos (by omega)]
          rw [e1] at he hz
          have hz : n1 + 1 = n + (numB 4 v).length := hz
          refine lv_aload_n X.1.1 X.1.2.1 zd_Tx_addNumber_38 rfl (lv_at hl 0 rfl) ?_
          refine lv_iload_n X.1.1 X.1.2.1 zd_Tx_addNumber_39 rfl (lv_at hl 2 rfl) ?_
          refine rCv (wr := []) (wf := fun _ => [(o, .inr (1, [.ref a, .int (nI (n1 + 1))])), (a, .inl (cB, N, .inl (upd g n1 (b8 (nI w)))))]) (rest := []) X h hl.1 (zc_Tx_add l D (o := o) (a := a) (n := n1) (N := N) (f := g) (cB := cB) (x := nI w) (by omega) (hN) H.size) zw_156 zw_157 zw_158 zw_2 zm_Tx_add zq_Tx_add ⟨Nat.le_of_ble_eq_true rfl, Nat.le_of_ble_eq_true rfl⟩ ⟨Nat.le_of_ble_eq_true rfl, Nat.le_of_ble_eq_true rfl⟩ [0] rfl [0, 1] [] [0, 1] rfl (by decide) rfl (by decide) (by decide) (fun _ => rfl) (by decide) 0 rfl rfl rfl (Nat.le_of_ble_eq_true rfl) zd_Tx_addNumber_40 (fun _ H locs hp h => ?_)
          have h : zH D A s [(o, .inr (1, [.ref a, .int (nI (n1 + 1))])), (a, .inl (cB, N, .inl (upd g n1 (b8 (nI w)))))] H locs := h
          rw [hz] at h
          exact ret _ H locs ls _ (⟨by rw [← hz, tx_push]; exact he, fit_upd hg _ _⟩) h zd_Tx_addNumber_43
        · have c2 : 127 < w := zc_le_f (by omega) (by omega) c2
          have e1 : numB (4 - i) w = b8 (nI (w % 128 + 128)) :: numB (4 - (i + 1)) (w / 128) := by rw [show 4 - i = (4 - (i + 1)) + 1 by omega]; show (if w < 128 then _ else _) = _; rw [if_neg (by omega)]
          rw [e1] at he hz
          rw [List.length_cons] at hz
          refine lv_aload_n X.1.1 X.1.2.1 zd_Tx_addNumber_15 rfl (lv_at hl 0 rfl) ?_
          refine lv_iload_n X.1.1 X.1.2.1 zd_Tx_addNumber_16 rfl (lv_at hl 2 rfl) ?_
          refine lv_bipush (v := nI 127) X.1.1 X.1.2.1 zd_Tx_addNumber_17 (by decide) ?_
          refine lv_iand X.1.1 X.1.2.1 zd_Tx_addNumber_19 ?_
          refine zTop (y := nI (w % 128)) (and127 (by omega)) ?_
          refine lv_sipush (v := nI 128) X.1.1 X.1.2.1 zd_Tx_addNumber_20 (by decide) ?_
          refine lv_ior X.1.1 X.1.2.1 zd_Tx_addNumber_23 ?_
          refine zTop (y := nI (w % 128 + 128)) (or128 (Nat.mod_lt _ (by decide))) ?_
          refine rCv (wr := []) (wf := fun _ => [(o, .inr (1, [.ref a, .int (nI (n1 + 1))])), (a, .inl (cB, N, .inl (upd g n1 (b8 (nI (w % 128 + 128))))))]) (rest := []) X h hl.1 (zc_Tx_add l D (o := o) (a := a) (n := n1) (N := N) (f := g) (cB := cB) (x := nI (w % 128 + 128)) (by omega) (hN) H.size) zw_156 zw_157 zw_158 zw_2 zm_Tx_add zq_Tx_add ⟨Nat.le_of_ble_eq_true rfl, Nat.le_of_ble_eq_true rfl⟩ ⟨Nat.le_of_ble_eq_true rfl, Nat.le_of_ble_eq_true rfl⟩ [0] rfl [0, 1] [] [0, 1] rfl (by decide) rfl (by decide) (by decide) (fun _ => rfl) (by decide) 0 rfl rfl rfl (Nat.le_of_ble_eq_true rfl) zd_Tx_addNumber_24 (fun _ H locs hp h => ?_)
          have h : zH D A s [(o, .inr (1, [.ref a, .int (nI (n1 + 1))])), (a, .inl (cB, N, .inl (upd g n1 (b8 (nI (w % 128 + 128))))))] H locs := h
          refine lv_iload_n X.1.1 X.1.2.1 zd_Tx_addNumber_27 rfl (lv_at hl 2 rfl) ?_
          refine lv_bipush (v := nI 7) X.1.1 X.1.2.1 zd_Tx_addNumber_28 (by decide) ?_
          refine lv_iushr (v := nI (w / 128)) X.1.1 X.1.2.1 zd_Tx_addNumber_30 ((ush_eq _ (by decide)).trans (ush_nI (by omega))) ?_
          refine lv_istore_n X.1.1 X.1.2.1 zd_Tx_addNumber_31 rfl hl (by decide) rfl (fun ls hl => ?_)
          have hl : lv_has ls 4 [(2, .int (nI (w / 128))), (0, .ref o), (1, .int (nI v)), (3, .int (nI i))] := hl
          refine lv_iinc X.1.1 X.1.2.1 zd_Tx_addNumber_32 hl (k := 3) rfl (v := nI (i + 1)) (nI_add _ _) (by decide) rfl (fun ls hl => ?_)
          have hl : lv_has ls 4 [(3, .int (nI (i + 1))), (2, .int (nI (w / 128))), (0, .ref o), (1, .int (nI v))] := hl
          refine lv_goto (tgt := 4) X.1.1 X.1.2.1 zd_Tx_addNumber_35 rfl ?_
          exact ih (i + 1) (w / 128) (n1 + 1) (upd g n1 (b8 (nI (w % 128 + 128)))) ls H locs (by omega) (by omega) (by omega) (by rw [tx_push, List.append_assoc]; exact he) (fit_upd hg _ _) (by omega) (lv_sub hl [2, 3, 1, 0] rfl) h
  exact loop _ 0 v n f ls H locs (Nat.lt_succ_self _) (by omega) (hv) (rfl) (hf) (rfl) (lv_sub hl [2, 3, 1, 0] rfl) h

set_option maxHeartbeats 4000000 in
set_option maxRecDepth 100000 in
theorem zc_Tx_addBytesNotZero (l : Launch) (D : va_G) {o a n N : Nat} {f : Nat → Int32} {cB : ClassId} {v k : Nat} (hf : sb_Fit f) (hv : v < 2 ^ 31) (hk : k ≤ 4) (hn : n + (nzS v 0 k).length ≤ N) (hN : N < 2 ^ 31) (sz : Nat) : zMv l D zy_Tx_addBytesNotZero zb_Tx_addBytesNotZero 5 ({ frames := 1, cells := 0, slots := 0, locals := 21 } : Room) [.ref o, .int (nI v), .int (nI k)] [(cB, .byte)] [(o, .inr (1, [.ref a, .int (nI n)])), (a, .inl (cB, N, .inl (f)))] sz (fun (u : Nat → Int32) => tx u (n + (nzS v 0 k).length) = tx f n ++ nzS v 0 k ∧ sb_Fit u) (fun u => [(o, .inr (1, [.ref a, .int (nI (n + (nzS v 0 k).length))])), (a, .inl (cB, N, .inl (u)))]) := by
  refine zEv (by decide) (Nat.le_of_ble_eq_true rfl) (fun p e s m args below meth c ls A Q X hin hl h hsz ret => ?_)
  have hl : lv_has ls 5 [(0, .ref o), (1, .int (nI v)), (2, .int (nI k))] := hl
  generalize hH0 : s.heap = H at h ⊢
  have h : zH D A s [(o, .inr (1, [.ref a, .int (nI n)])), (a, .inl (cB, N, .inl (f)))] H [] := h
  generalize hL0 : ([] : List Loc) = locs at h ⊢
  refine lv_iconst (v := nI 0) X.1.1 X.1.2.1 zd_Tx_addBytesNotZero_0 (by decide) ?_
  refine lv_istore_n X.1.1 X.1.2.1 zd_Tx_addBytesNotZero_1 rfl hl (by decide) rfl (fun ls hl => ?_)
  have hl : lv_has ls 5 [(3, .int (nI 0)), (0, .ref o), (1, .int (nI v)), (2, .int (nI k))] := hl
  have loop : ∀ (fu : Nat) (i : Nat) (n1 : Nat) (g : Nat → Int32) (ls : Array Slot) (H : Heap) (locs : List Loc), k - i < fu → i ≤ k → tx g n1 ++ nzS v i (k - i) = tx f n ++ nzS v 0 k → sb_Fit g → n1 + (nzS v i (k - i)).length = n + (nzS v 0 k).length → lv_has ls 5 [(0, .ref o), (1, .int (nI v)), (2, .int (nI k)), (3, .int (nI i))] → zH D A s [(o, .inr (1, [.ref a, .int (nI n1)])), (a, .inl (cB, N, .inl (g)))] H locs → W p l e ({ frames := 1, cells := 0, slots := 0, locals := 21 } : Room) s m args below meth c H locs 0 0 Q (F0 m 2 ls []) := by
    intro fu
    induction fu with
    | zero => intro i n1 g ls H locs hfu; exact absurd hfu (Nat.not_lt_zero _)
    | succ fu ih =>
      intro i n1 g ls H locs hfu hi he hg hz hl h
      refine lv_iload_n X.1.1 X.1.2.1 zd_Tx_addBytesNotZero_2 rfl (lv_at hl 3 rfl) ?_
      refine lv_iload_n X.1.1 X.1.2.1 zd_Tx_addBytesNotZero_3 rfl (lv_at hl 2 rfl) ?_
      refine lv_icmp_ge (tgt := 36) X.1.1 X.1.2.1 zd_Tx_addBytesNotZero_4 rfl (fun c1 => ?_) (fun c1 => ?_)
      · have c1 : k ≤ i := zc_ge_t (by omega) (by omega) c1
        have e1 : nzS v i (k - i) = [] := by rw [show k - i = 0 by omega]; rfl
        rw [e1, List.append_nil] at he
        rw [e1] at hz
        have hz : n1 = n + (nzS v 0 k).length := hz
        rw [hz] at h
        exact ret _ H locs ls _ (⟨by rw [← hz]; exact he, hg⟩) h zd_Tx_addBytesNotZero_36
      · have c1 : i < k := zc_ge_f (by omega) (by omega) c1
        have e1 : nzS v i (k - i) = nzB (byt v i) ++ nzS v (i + 1) (k - (i + 1)) := by rw [show k - i = (k - (i + 1)) + 1 by omega]; rfl
        rw [e1] at he hz
        rw [List.length_append] at hz
        have hby := byt_lt v i
        refine lv_iload_n X.1.1 X.1.2.1 zd_Tx_addBytesNotZero_7 rfl (lv_at hl 1 rfl) ?_
        refine lv_bipush (v := nI 8) X.1.1 X.1.2.1 zd_Tx_addBytesNotZero_8 (by decide) ?_
        refine lv_iload_n X.1.1 X.1.2.1 zd_Tx_addBytesNotZero_10 rfl (lv_at hl 3 rfl) ?_
        refine lv_imul X.1.1 X.1.2.1 zd_Tx_addBytesNotZero_11 ?_
        refine zTop (y := nI (8 * i)) (pk_mul _ _) ?_
        refine lv_iushr (v := ((nI v).toUInt32 >>> ((nI (8 * i)).toUInt32 &&& Int32.toUInt32 31)).toInt32) X.1.1 X.1.2.1 zd_Tx_addBytesNotZero_12 (rfl) ?_
        refine lv_sipush (v := nI 255) X.1.1 X.1.2.1 zd_Tx_addBytesNotZero_13 (by decide) ?_
        refine lv_iand X.1.1 X.1.2.1 zd_Tx_addBytesNotZero_16 ?_
        refine zTop (y := nI (byt v i)) (byt_sh hv (by omega)) ?_
        refine lv_istore X.1.1 X.1.2.1 zd_Tx_addBytesNotZero_17 hl (by decide) rfl (fun ls hl => ?_)
        have hl : lv_has ls 5 [(4, .int (nI (byt v i))), (0, .ref o), (1, .int (nI v)), (2, .int (nI k)), (3, .int (nI i))] := hl
        refine lv_iload X.1.1 X.1.2.1 zd_Tx_addBytesNotZero_19 (lv_at hl 0 rfl) ?_
        refine lv_if_eq (tgt := 30) X.1.1 X.1.2.1 zd_Tx_addBytesNotZero_21 rfl (fun c2 => ?_) (fun c2 => ?_)
        · have c2 : byt v i = 0 := zc_eq0_t (by omega) (by omega) c2
          have e2 : nzB (byt v i) = [] := by unfold nzB; rw [if_pos c2]
          rw [e2] at he hz
          have hz : n1 + (0 + (nzS v (i + 1) (k - (i + 1))).length) = n + (nzS v 0 k).length := by simpa using hz
          refine lv_iinc X.1.1 X.1.2.1 zd_Tx_addBytesNotZero_30 hl (k := 4) rfl (v := nI (i + 1)) (nI_add _ _) (by decide) rfl (fun ls hl => ?_)
          have hl : lv_has ls 5 [(3, .int (nI (i + 1))), (4, .int (nI (byt v i))), (0, .ref o), (1, .int (nI v)), (2, .int (nI k))] := hl
          refine lv_goto (tgt := 2) X.1.1 X.1.2.1 zd_Tx_addBytesNotZero_33 rfl ?_
          exact ih (i + 1) n1 g ls H locs (by omega) (by omega) (he) (hg) (by omega) (lv_sub hl [2, 3, 4, 0] rfl) h
        · have c2 : byt v i ≠ 0 := zc_eq0_f (by omega) (by omega) c2
          have e2 : nzB (byt v i) = [b8 (nI (byt v i))] := by unfold nzB; rw [if_neg c2]
          rw [e2] at he hz
          have hz : n1 + (1 + (nzS v (i + 1) (k - (i + 1))).length) = n + (nzS v 0 k).length := hz
          refine lv_aload_n X.1.1 X.1.2.1 zd_Tx_addBytesNotZero_24 rfl (lv_at hl 1 rfl) ?_
          refine lv_iload X.1.1 X.1.2.1 zd_Tx_addBytesNotZero_25 (lv_at hl 0 rfl) ?_
          refine rCv (wr := []) (wf := fun _ => [(o, .inr (1, [.ref a, .int (nI (n1 + 1))])), (a, .inl (cB, N, .inl (upd g n1 (b8 (nI (byt v i))))))]) (rest := []) X h hl.1 (zc_Tx_add l D (o := o) (a := a) (n := n1) (N := N) (f := g) (cB := cB) (x := nI (byt v i)) (by omega) (hN) H.size) zw_156 zw_157 zw_158 zw_2 zm_Tx_add zq_Tx_add ⟨Nat.le_of_ble_eq_true rfl, Nat.le_of_ble_eq_true rfl⟩ ⟨Nat.le_of_ble_eq_true rfl, Nat.le_of_ble_eq_true rfl⟩ [0] rfl [0, 1] [] [0, 1] rfl (by decide) rfl (by decide) (by decide) (fun _ => rfl) (by decide) 0 rfl rfl rfl (Nat.le_of_ble_eq_true rfl) zd_Tx_addBytesNotZero_27 (fun _ H locs hp h => ?_)
          have h : zH D A s [(o, .inr (1, [.ref a, .int (nI (n1 + 1))])), (a, .inl (cB, N, .inl (upd g n1 (b8 (nI (byt v i))))))] H locs := h
          refine lv_iinc X.1.1 X.1.2.1 zd_Tx_addBytesNotZero_30 hl (k := 4) rfl (v := nI (i + 1)) (nI_add _ _) (by decide) rfl (fun ls hl => ?_)
          have hl : lv_has ls 5 [(3, .int (nI (i + 1))), (4, .int (nI (byt v i))), (0, .ref o), (1, .int (nI v)), (2, .int (nI k))] := hl
          refine lv_goto (tgt := 2) X.1.1 X.1.2.1 zd_Tx_addBytesNotZero_33 rfl ?_
          exact ih (i + 1) (n1 + 1) (upd g n1 (b8 (nI (byt v i)))) ls H locs (by omega) (by omega) (by rw [tx_push, List.append_assoc]; exact he) (fit_upd hg _ _) (by omega) (lv_sub hl [2, 3, 4, 0] rfl) h
  exact loop _ 0 n f ls H locs (Nat.lt_succ_self _) (by omega) (rfl) (hf) (rfl) (lv_sub hl [1, 2, 3, 0] rfl) h
end
section
/-! DeltaPress$DeltaReader -/
theorem ub_lt (x : Int32) : ub x < 256 := Nat.mod_lt _ (by decide)
theorem rn_or {v x k : Nat} (hk : k < 4) (hv : v < 128 ^ k) (hx : x < 128) : nI v ||| (nI x <<< (nI (7 * k) &&& 31)) = nI (v + x * 128 ^ k) ∧ v + x * 128 ^ k < 128 ^ (k + 1) := by
  have e : (128 : Nat) ^ k = 2 ^ (7 * k) := by rw [Nat.pow_mul]
  have hp : (0 : Nat) < 2 ^ (7 * k) := Nat.pow_pos (by decide)
  have h1 : x * 2 ^ (7 * k) < 128 * 2 ^ (7 * k) := Nat.mul_lt_mul_of_pos_right hx hp
  have h2 : 128 * 2 ^ (7 * k) = 2 ^ (7 * k + 7) := by rw [Nat.pow_add, Nat.mul_comm]
  have h3 : (2 : Nat) ^ (7 * k + 7) ≤ 2 ^ 28 := Nat.pow_le_pow_right (by decide) (by omega)
  refine ⟨?_, ?_⟩
  · rw [shl_nI (by omega) (by omega), nI_or, e]
    congr 1
    have q := Nat.two_pow_add_eq_or_of_lt (i := 7 * k) (by rw [← e]; exact hv) x
    rw [Nat.or_comm, Nat.mul_comm x, ← q, Nat.add_comm]
  · rw [Nat.pow_succ, Nat.mul_comm (128 ^ k)]
    rw [e] at hv ⊢
    have : (x + 1) * 2 ^ (7 * k) ≤ 128 * 2 ^ (7 * k) := Nat.mul_le_mul_right _ hx
    rw [Nat.add_mul] at this
    omega
theorem rc_or {v x k : Nat} (hk : k < 4) (hv : v < 256 ^ k) (hx : x < 256) : nI v ||| (nI x <<< (nI (8 * k) &&& 31)) = nI (v + x * 256 ^ k) ∧ v + x * 256 ^ k < 256 ^ (k + 1) := by
  have e : (256 : Nat) ^ k = 2 ^ (8 * k) := by rw [Nat.pow_mul]
  have hp : (0 : Nat) < 2 ^ (8 * k) := Nat.pow_pos (by decide)
  have h1 : x * 2 ^ (8 * k) < 256 * 2 ^ (8 * k) := Nat.mul_lt_mul_of_pos_right hx hp
  have h2 : 256 * 2 ^ (8 * k) = 2 ^ (8 * k + 8) := by rw [Nat.pow_add, Nat.mul_comm]
  have h3 : (2 : Nat) ^ (8 * k + 8) ≤ 2 ^ 32 := Nat.pow_le_pow_right (by decide) (by omega)
  refine ⟨?_, ?_⟩
  · rw [shl_nI (by omega) (by omega), nI_or, e]
    congr 1
    have q := Nat.two_pow_add_eq_or_of_lt (i := 8 * k) (by rw [← e]; exact hv) x
    rw [Nat.or_comm, Nat.mul_comm x, ← q, Nat.add_comm]
  · rw [Nat.pow_succ, Nat.mul_comm (256 ^ k)]
    rw [e] at hv ⊢
    have : (x + 1) * 2 ^ (8 * k) ≤ 256 * 2 ^ (8 * k) := Nat.mul_le_mul_right _ hx
    rw [Nat.add_mul] at this
    omega
theorem p128 {k : Nat} (hk : k ≤ 4) : 128 ^ k ≤ 2 ^ 28 := by
  have e : (128 : Nat) ^ k = 2 ^ (7 * k) := by rw [Nat.pow_mul]
  rw [e]
  exact Nat.pow_le_pow_right (by decide) (by omega)
theorem p256 {k : Nat} (hk : k ≤ 4) : 256 ^ k ≤ 2 ^ 32 := by
  have e : (256 : Nat) ^ k = 2 ^ (8 * k) := by rw [Nat.pow_mul]
  rw [e]
  exact Nat.pow_le_pow_right (by decide) (by omega)
theorem rdN_go {f : Nat → Int32} {n q k pl v : Nat} (h : pl < n) : rdN (tx f n) (q + 1) k pl v = if ub (f pl) < 128 then some (v + ub (f pl) * 128 ^ k, pl + 1) else rdN (tx f n) q (k + 1) (pl + 1) (v + (ub (f pl) - 128) * 128 ^ k) := by
  show (if pl < (tx f n).length then _ else _) = _
  rw [tx_len, if_pos h, tf_tx h]
theorem rdN_no {f : Nat → Int32} {n q k pl v : Nat} (h : n ≤ pl) : rdN (tx f n) q k pl v = none := by
  cases q with
  | zero => rfl
  | succ q =>
    show (if pl < (tx f n).length then _ else _) = _
    rw [tx_len, if_neg (by omega)]
theorem rdC_0 {f : Nat → Int32} {n b q k pl v : Nat} (h : ¬ b / 2 ^ k % 2 = 1) : rdC (tx f n) b (q + 1) k pl v = rdC (tx f n) b q (k + 1) pl v := by
  show (if b / 2 ^ k % 2 = 1 then _ else _) = _
  rw [if_neg h]
theorem rdC_1 {f : Nat → Int32} {n b q k pl v : Nat} (h : b / 2 ^ k % 2 = 1) : rdC (tx f n) b (q + 1) k pl v = if pl < n then rdC (tx f n) b q (k + 1) (pl + 1) (v + ub (f pl) * 256 ^ k) else none := by
  show (if b / 2 ^ k % 2 = 1 then _ else _) = _
  rw [if_pos h, tx_len]
  by_cases hp : pl < n
  · rw [if_pos hp, if_pos hp, tf_tx hp]
  · rw [if_neg hp, if_neg hp]
def mny (mn : Nat) : Nat := if mn = 0 then 65536 else mn
/-- a COPY at place pl (behind its head): where it goes on, from where, how many -/
def rdK (d T : List Int32) (due head pl ml : Nat) : Option (Nat × Nat × Nat) :=
  match rdC d head 4 0 pl 0 with
  | none => none
  | some (fr, pl1) =>
    match rdC d (head / 16) 3 0 pl1 0 with
    | none => none
    | some (mn, pl2) => if fr + mny mn ≤ T.length ∧ ml + mny mn ≤ due then some (pl2, fr, mny mn) else none
theorem rdB_K {d T made : List Int32} {due q pl : Nat} (h : pl < d.length) (hh : 128 ≤ ub (tf d pl)) : rdB d T due (q + 1) pl made = (match rdK d T due (ub (tf d pl)) (pl + 1) made.length with | none => none | some (pl2, fr, mn) => rdB d T due q pl2 (made ++ (T.drop fr).take mn)) := by
  unfold rdK
  rw [rdB, if_pos h, if_pos hh]
  cases h1 : rdC d (ub (tf d pl)) 4 0 (pl + 1) 0 with
  | none => rfl
  | some x =>
    obtain ⟨fr, pl1⟩ := x
    dsimp only
    cases h2 : rdC d (ub (tf d pl) / 16) 3 0 pl1 0 with
    | none => rfl
    | some y =>
      obtain ⟨mn, pl2⟩ := y
      dsimp only
      show (if fr + mny mn ≤ T.length ∧ made.length + mny mn ≤ due then _ else _) = _
      by_cases hc : fr + mny mn ≤ T.length ∧ made.length + mny mn ≤ due
      · rw [if_pos hc, if_pos hc]; rfl
      · rw [if_neg hc, if_neg hc]
theorem rdC_le {d : List Int32} {b : Nat} : ∀ {q k pl v v' pl' : Nat}, rdC d b q k pl v = some (v', pl') → pl ≤ pl' := by
  intro q
  induction q with
  | zero => intro k pl v v' pl' h; cases h; exact Nat.le_refl _
  | succ q ih =>
    intro k pl v v' pl' h
    rw [rdC] at h
    split at h
    · split at h
      · have := ih h
        omega
      · cases h
    · exact ih h
theorem rdK_le {d T : List Int32} {due head pl ml pl2 fr mn : Nat} (h : rdK d T due head pl ml = some (pl2, fr, mn)) : pl ≤ pl2 := by
  unfold rdK at h
  split at h
  · cases h
  · rename_i h1
    split at h
    · cases h
    · rename_i h2
      split at h
      · cases h
        have a := rdC_le h1
        have b := rdC_le h2
        omega
      · cases h
/-- NEW BYTES: not fine -/
def rdW (dl due head pl ml : Nat) : Prop := head = 0 ∨ dl < pl + head ∨ due < ml + head
theorem rdB_W {d T made : List Int32} {due q pl : Nat} (h : pl < d.length) (hh : ¬ 128 ≤ ub (tf d pl)) : (rdW d.length due (ub (tf d pl)) (pl + 1) made.length → rdB d T due (q + 1) pl made = none) ∧ (¬ rdW d.length due (ub (tf d pl)) (pl + 1) made.length → rdB d T due (q + 1) pl made = rdB d T due q (pl + 1 + ub (tf d pl)) (made ++ (d.drop (pl + 1)).take (ub (tf d pl)))) := by
  unfold rdW
  rw [rdB, if_pos h, if_neg hh]
  exact ⟨fun hc => if_pos hc, fun hc => if_neg hc⟩
theorem m1_ne {k : Nat} (h : k < 2 ^ 31) : ¬ (-1 : Int32) = nI k := fun e => nI_pos h (e ▸ (by decide))
theorem rdB_end {d T made : List Int32} {due q pl : Nat} (h : d.length ≤ pl) : rdB d T due (q + 1) pl made = if made.length = due then some made else none := by
  rw [rdB, if_neg (by omega)]
theorem sub_le {a b c : Nat} (ha : a < 2 ^ 31) (hb : b < 2 ^ 30) (hc : c < 2 ^ 30) : nI a ≤ nI b - nI c ↔ a + c ≤ b := by
  rw [Int32.le_iff_toInt_le, pk_sub_toInt hb hc, nI_toInt ha]
  omega
theorem nI_neg {v : Nat} (h : 2 ^ 31 ≤ v) (h2 : v < 2 ^ 32) : nI v < 0 := by
  rw [Int32.lt_iff_toInt_lt]
  show (BitVec.ofNat 32 v).toInt < 0
  rw [BitVec.toInt_eq_toNat_cond, BitVec.toNat_ofNat, Nat.mod_eq_of_lt h2]
  split <;> omega

set_option maxHeartbeats 4000000 in
set_option maxRecDepth 100000 in
theorem zc_De_readNumber (l : Launch) (D : va_G) {r0 pl : Nat} {o a n N : Nat} {f : Nat → Int32} {cB : ClassId} (hp : pl ≤ n) (hnN : n ≤ N) (hN : N < 2 ^ 30) (sz : Nat) : zMi l D zy_De_readNumber zb_De_readNumber 5 .int ({ frames := 1, cells := 0, slots := 0, locals := 21 } : Room) [.ref r0, .ref o] [(cB, .byte)] [(r0, .inr (3, [.int (nI pl)])), (o, .inr (1, [.ref a, .int (nI n)])), (a, .inl (cB, N, .inl (f)))] sz (fun (r : Int32) (u : Nat) => ((rdN (tx f n) 4 0 pl 0 = none ∧ r = (-1)) ∨ ∃ v, rdN (tx f n) 4 0 pl 0 = some (v, u) ∧ r = nI v ∧ v < 2 ^ 28) ∧ u ≤ n) (fun u => [(r0, .inr (3, [.int (nI u)])), (o, .inr (1, [.ref a, .int (nI n)])), (a, .inl (cB, N, .inl (f)))]) := by
  refine zEi (by decide) (Nat.le_of_ble_eq_true rfl) (fun p e s m args below meth c ls A Q X hl h hsz ret => ?_)
  have hl : lv_has ls 5 [(0, .ref r0), (1, .ref o)] := hl
  generalize hH0 : s.heap = H at h ⊢
  have h : zH D A s [(r0, .inr (3, [.int (nI pl)])), (o, .inr (1, [.ref a, .int (nI n)])), (a, .inl (cB, N, .inl (f)))] H [] := h
  generalize hL0 : ([] : List Loc) = locs at h ⊢
  refine lv_iconst (v := nI 0) X.1.1 X.1.2.1 zd_De_readNumber_0 (by decide) ?_
  refine lv_istore_n X.1.1 X.1.2.1 zd_De_readNumber_1 rfl hl (by decide) rfl (fun ls hl => ?_)
  have hl : lv_has ls 5 [(2, .int (nI 0)), (0, .ref r0), (1, .ref o)] := hl
  refine lv_iconst (v := nI 0) X.1.1 X.1.2.1 zd_De_readNumber_2 (by decide) ?_
  refine lv_istore_n X.1.1 X.1.2.1 zd_De_readNumber_3 rfl hl (by decide) rfl (fun ls hl => ?_)
  have hl : lv_has ls 5 [(3, .int (nI 0)), (2, .int (nI 0)), (0, .ref r0), (1, .ref o)] := hl
  have loop : ∀ (fu : Nat) (k : Nat) (v : Nat) (p1 : Nat) (ls : Array Slot) (H : Heap) (locs : List Loc), 4 - k < fu → k ≤ 4 → v < 128 ^ k → p1 ≤ n → rdN (tx f n) 4 0 pl 0 = rdN (tx f n) (4 - k) k p1 v → lv_has ls 5 [(0, .ref r0), (1, .ref o), (2, .int (nI v)), (3, .int (nI k))] → zH D A s [(r0, .inr (3, [.int (nI p1)])), (o, .inr (1, [.ref a, .int (nI n)])), (a, .inl (cB, N, .inl (f)))] H locs → W p l e ({ frames := 1, cells := 0, slots := 0, locals := 21 } : Room) s m args below meth c H locs 0 0 Q (F0 m 4 ls []) := by
    intro fu
    induction fu with
    | zero => intro k v p1 ls H locs hfu; exact absurd hfu (Nat.not_lt_zero _)
    | succ fu ih =>
      intro k v p1 ls H locs hfu hk hv hp1 he hl h
      refine lv_iload_n X.1.1 X.1.2.1 zd_De_readNumber_4 rfl (lv_at hl 3 rfl) ?_
      refine lv_iconst (v := nI 4) X.1.1 X.1.2.1 zd_De_readNumber_5 (by decide) ?_
      refine lv_icmp_ge (tgt := 69) X.1.1 X.1.2.1 zd_De_readNumber_6 rfl (fun c1 => ?_) (fun c1 => ?_)
      · have c1 : 4 ≤ k := zc_ge_t (by omega) (by omega) c1
        rw [show 4 - k = 0 by omega] at he
        refine lv_iconst (v := (-1)) X.1.1 X.1.2.1 zd_De_readNumber_69 (by decide) ?_
        exact ret _ _ H locs ls _ (⟨Or.inl ⟨he, rfl⟩, hp1⟩) h zd_De_readNumber_70
      · have c1 : k < 4 := zc_ge_f (by omega) (by omega) c1
        refine lv_aload_n X.1.1 X.1.2.1 zd_De_readNumber_9 rfl (lv_at hl 0 rfl) ?_
        refine rG X h 0 rfl rfl zW_De 0 (by decide) zw_101 rfl zd_De_readNumber_10 ?_
        refine lv_aload_n X.1.1 X.1.2.1 zd_De_readNumber_13 rfl (lv_at hl 1 rfl) ?_
        refine rCi (wr := [(r0, .inr (3, [.int (nI p1)]))]) (wf := fun _ => [(r0, .inr (3, [.int (nI p1)])), (o, .inr (1, [.ref a, .int (nI n)])), (a, .inl (cB, N, .inl (f)))]) (rest := [.int (nI p1)]) X h hl.1 (zc_Tx_size l D (o := o) (a := a) (n := n) (N := N) (f := f) (cB := cB)  H.size) zw_410 zw_145 zw_146 zw_2 zm_Tx_size zq_Tx_size ⟨Nat.le_of_ble_eq_true rfl, Nat.le_of_ble_eq_true rfl⟩ ⟨Nat.le_of_ble_eq_true rfl, Nat.le_of_ble_eq_true rfl⟩ [0] rfl [1, 2] [0] [0, 1, 2] rfl (by decide) rfl (by decide) (by decide) (fun _ => rfl) (by decide) 0 rfl rfl rfl (Nat.le_of_ble_eq_true rfl) zd_De_readNumber_14 (fun r _ H locs hp h => ?_)
        obtain ⟨rfl, -⟩ := hp
        have h : zH D A s [(r0, .inr (3, [.int (nI p1)])), (o, .inr (1, [.ref a, .int (nI n)])), (a, .inl (cB, N, .inl (f)))] H locs := h
        refine lv_icmp_ge (tgt := 69) X.1.1 X.1.2.1 zd_De_readNumber_17 rfl (fun c2 => ?_) (fun c2 => ?_)
        · have c2 : n ≤ p1 := zc_ge_t (by omega) (by omega) c2
          rw [rdN_no c2] at he
          refine lv_iconst (v := (-1)) X.1.1 X.1.2.1 zd_De_readNumber_69 (by decide) ?_
          exact ret _ _ H locs ls _ (⟨Or.inl ⟨he, rfl⟩, hp1⟩) h zd_De_readNumber_70
        · have c2 : p1 < n := zc_ge_f (by omega) (by omega) c2
          rw [show 4 - k = (3 - k) + 1 by omega, rdN_go c2] at he
          have hub := ub_lt (f p1)
          refine lv_aload_n X.1.1 X.1.2.1 zd_De_readNumber_20 rfl (lv_at hl 1 rfl) ?_
          refine lv_aload_n X.1.1 X.1.2.1 zd_De_readNumber_21 rfl (lv_at hl 0 rfl) ?_
          refine rG X h 0 rfl rfl zW_De 0 (by decide) zw_101 rfl zd_De_readNumber_22 ?_
          refine rCi (wr := [(r0, .inr (3, [.int (nI p1)]))]) (wf := fun _ => [(r0, .inr (3, [.int (nI p1)])), (o, .inr (1, [.ref a, .int (nI n)])), (a, .inl (cB, N, .inl (f)))]) (rest := []) X h hl.1 (zc_Tx_at l D (o := o) (a := a) (n := n) (N := N) (f := f) (cB := cB) (j := p1) (by omega) (by omega) H.size) zw_411 zw_412 zw_413 zw_2 zm_Tx_at zq_Tx_at ⟨Nat.le_of_ble_eq_true rfl, Nat.le_of_ble_eq_true rfl⟩ ⟨Nat.le_of_ble_eq_true rfl, Nat.le_of_ble_eq_true rfl⟩ [0] rfl [1, 2] [0] [0, 1, 2] rfl (by decide) rfl (by decide) (by decide) (fun _ => rfl) (by decide) 0 rfl rfl rfl (Nat.le_of_ble_eq_true rfl) zd_De_readNumber_25 (fun r _ H locs hp h => ?_)
          obtain ⟨rfl, -⟩ := hp
          have h : zH D A s [(r0, .inr (3, [.int (nI p1)])), (o, .inr (1, [.ref a, .int (nI n)])), (a, .inl (cB, N, .inl (f)))] H locs := h
          have hor := rn_or (k := k) (x := ub (f p1) % 128) (by omega) hv (Nat.mod_lt _ (by decide))
          refine lv_istore X.1.1 X.1.2.1 zd_De_readNumber_28 hl (by decide) rfl (fun ls hl => ?_)
          have hl : lv_has ls 5 [(4, .int (nI (ub (f p1)))), (0, .ref r0), (1, .ref o), (2, .int (nI v)), (3, .int (nI k))] := hl
          refine lv_aload_n X.1.1 X.1.2.1 zd_De_readNumber_30 rfl (lv_at hl 1 rfl) ?_
          refine lv_dup X.1.1 X.1.2.1 zd_De_readNumber_31 rfl ?_
          refine rG X h 0 rfl rfl zW_De 0 (by decide) zw_101 rfl zd_De_readNumber_32 ?_
          refine lv_iconst (v := nI 1) X.1.1 X.1.2.1 zd_De_readNumber_35 (by decide) ?_
          refine lv_iadd X.1.1 X.1.2.1 zd_De_readNumber_36 ?_
          refine zTop (y := nI (p1 + 1)) (nI_add _ _) ?_
          refine rP X h 0 rfl rfl zW_De zO_De zN_De 0 (by decide) zw_101 rfl (rfl) (rfl) (Nat.le_of_ble_eq_true rfl) zd_De_readNumber_37 (fun H locs h => ?_)
          have h : zH D A s [(r0, .inr (3, [.int (nI (p1 + 1))])), (o, .inr (1, [.ref a, .int (nI n)])), (a, .inl (cB, N, .inl (f)))] H locs := h
          refine lv_iload_n X.1.1 X.1.2.1 zd_De_readNumber_40 rfl (lv_at hl 3 rfl) ?_
          refine lv_iload X.1.1 X.1.2.1 zd_De_readNumber_41 (lv_at hl 0 rfl) ?_
          refine lv_bipush (v := nI 127) X.1.1 X.1.2.1 zd_De_readNumber_43 (by decide) ?_
          refine lv_iand X.1.1 X.1.2.1 zd_De_readNumber_45 ?_
          refine zTop (y := nI (ub (f p1) % 128)) (and127 (by omega)) ?_
          refine lv_bipush (v := nI 7) X.1.1 X.1.2.1 zd_De_readNumber_46 (by decide) ?_
          refine lv_iload_n X.1.1 X.1.2.1 zd_De_readNumber_48 rfl (lv_at hl 4 rfl) ?_
          refine lv_imul X.1.1 X.1.2.1 zd_De_readNumber_49 ?_
          refine zTop (y := nI (7 * k)) (pk_mul _ _) ?_
          refine lv_ishl X.1.1 X.1.2.1 zd_De_readNumber_50 ?_
          refine lv_ior X.1.1 X.1.2.1 zd_De_readNumber_51 ?_
          refine zTop (y := nI (v + ub (f p1) % 128 * 128 ^ k)) (hor.1) ?_
          refine lv_istore_n X.1.1 X.1.2.1 zd_De_readNumber_52 rfl hl (by decide) rfl (fun ls hl => ?_)
          have hl : lv_has ls 5 [(2, .int (nI (v + ub (f p1) % 128 * 128 ^ k))), (4, .int (nI (ub (f p1)))), (0, .ref r0), (1, .ref o), (3, .int (nI k))] := hl
          refine lv_iload X.1.1 X.1.2.1 zd_De_readNumber_53 (lv_at hl 1 rfl) ?_
          refine lv_sipush (v := nI 128) X.1.1 X.1.2.1 zd_De_readNumber_55 (by decide) ?_
          refine lv_icmp_ge (tgt := 63) X.1.1 X.1.2.1 zd_De_readNumber_58 rfl (fun c3 => ?_) (fun c3 => ?_)
          · have c3 : 128 ≤ ub (f p1) := zc_ge_t (by omega) (by omega) c3
            rw [if_neg (by omega), show ub (f p1) - 128 = ub (f p1) % 128 by omega, show 3 - k = 4 - (k + 1) by omega] at he
            refine lv_iinc X.1.1 X.1.2.1 zd_De_readNumber_63 hl (k := 4) rfl (v := nI (k + 1)) (nI_add _ _) (by decide) rfl (fun ls hl => ?_)
            have hl : lv_has ls 5 [(3, .int (nI (k + 1))), (2, .int (nI (v + ub (f p1) % 128 * 128 ^ k))), (4, .int (nI (ub (f p1)))), (0, .ref r0), (1, .ref o)] := hl
            refine lv_goto (tgt := 4) X.1.1 X.1.2.1 zd_De_readNumber_66 rfl ?_
            exact ih (k + 1) (v + ub (f p1) % 128 * 128 ^ k) (p1 + 1) ls H locs (by omega) (by omega) (hor.2) (by omega) (he) (lv_sub hl [3, 4, 1, 0] rfl) h
          · have c3 : ub (f p1) < 128 := zc_ge_f (by omega) (by omega) c3
            rw [if_pos (by omega), show ub (f p1) * 128 ^ k = ub (f p1) % 128 * 128 ^ k by rw [Nat.mod_eq_of_lt (by omega)]] at he
            have hbig := p128 (k := k + 1) (by omega)
            refine lv_iload_n X.1.1 X.1.2.1 zd_De_readNumber_61 rfl (lv_at hl 0 rfl) ?_
            exact ret _ _ H locs ls _ (⟨Or.inr ⟨_, he, rfl, Nat.lt_of_lt_of_le hor.2 hbig⟩, by omega⟩) h zd_De_readNumber_62
  exact loop _ 0 0 pl ls H locs (Nat.lt_succ_self _) (by omega) (by decide) (hp) (rfl) (lv_sub hl [2, 3, 1, 0] rfl) h

set_option maxHeartbeats 4000000 in
set_option maxRecDepth 100000 in
theorem zc_De_readChosenBytes (l : Launch) (D : va_G) {r0 pl : Nat} {o a n N : Nat} {f : Nat → Int32} {cB : ClassId} {b q : Nat} (hp : pl ≤ n) (hnN : n ≤ N) (hN : N < 2 ^ 30) (hb : b < 256) (hq : q ≤ 4) (sz : Nat) : zMi l D zy_De_readChosenBytes zb_De_readChosenBytes 6 .int ({ frames := 1, cells := 0, slots := 0, locals := 21 } : Room) [.ref r0, .ref o, .int (nI b), .int (nI q)] [(cB, .byte)] [(r0, .inr (3, [.int (nI pl)])), (o, .inr (1, [.ref a, .int (nI n)])), (a, .inl (cB, N, .inl (f)))] sz (fun (r : Int32) (u : Nat) => ((rdC (tx f n) b q 0 pl 0 = none ∧ r = (-1)) ∨ ∃ v, rdC (tx f n) b q 0 pl 0 = some (v, u) ∧ r = nI v ∧ v < 256 ^ q) ∧ u ≤ n) (fun u => [(r0, .inr (3, [.int (nI u)])), (o, .inr (1, [.ref a, .int (nI n)])), (a, .inl (cB, N, .inl (f)))]) := by
  refine zEi (by decide) (Nat.le_of_ble_eq_true rfl) (fun p e s m args below meth c ls A Q X hl h hsz ret => ?_)
  have hl : lv_has ls 6 [(0, .ref r0), (1, .ref o), (2, .int (nI b)), (3, .int (nI q))] := hl
  generalize hH0 : s.heap = H at h ⊢
  have h : zH D A s [(r0, .inr (3, [.int (nI pl)])), (o, .inr (1, [.ref a, .int (nI n)])), (a, .inl (cB, N, .inl (f)))] H [] := h
  generalize hL0 : ([] : List Loc) = locs at h ⊢
  refine lv_iconst (v := nI 0) X.1.1 X.1.2.1 zd_De_readChosenBytes_0 (by decide) ?_
  refine lv_istore X.1.1 X.1.2.1 zd_De_readChosenBytes_1 hl (by decide) rfl (fun ls hl => ?_)
  have hl : lv_has ls 6 [(4, .int (nI 0)), (0, .ref r0), (1, .ref o), (2, .int (nI b)), (3, .int (nI q))] := hl
  refine lv_iconst (v := nI 0) X.1.1 X.1.2.1 zd_De_readChosenBytes_3 (by decide) ?_
  refine lv_istore X.1.1 X.1.2.1 zd_De_readChosenBytes_4 hl (by decide) rfl (fun ls hl => ?_)
  have hl : lv_has ls 6 [(5, .int (nI 0)), (4, .int (nI 0)), (0, .ref r0), (1, .ref o), (2, .int (nI b)), (3, .int (nI q))] := hl
  have loop : ∀ (fu : Nat) (k : Nat) (v : Nat) (p1 : Nat) (ls : Array Slot) (H : Heap) (locs : List Loc), q - k < fu → k ≤ q → v < 256 ^ k → p1 ≤ n → rdC (tx f n) b q 0 pl 0 = rdC (tx f n) b (q - k) k p1 v → lv_has ls 6 [(0, .ref r0), (1, .ref o), (2, .int (nI b)), (3, .int (nI q)), (4, .int (nI v)), (5, .int (nI k))] → zH D A s [(r0, .inr (3, [.int (nI p1)])), (o, .inr (1, [.ref a, .int (nI n)])), (a, .inl (cB, N, .inl (f)))] H locs → W p l e ({ frames := 1, cells := 0, slots := 0, locals := 21 } : Room) s m args below meth c H locs 0 0 Q (F0 m 6 ls []) := by
    intro fu
    induction fu with
    | zero => intro k v p1 ls H locs hfu; exact absurd hfu (Nat.not_lt_zero _)
    | succ fu ih =>
      intro k v p1 ls H locs hfu hk hv hp1 he hl h
      have hbig := p256 (k := k) (by omega)
      refine lv_iload X.1.1 X.1.2.1 zd_De_readChosenBytes_6 (lv_at hl 5 rfl) ?_
      refine lv_iload_n X.1.1 X.1.2.1 zd_De_readChosenBytes_8 rfl (lv_at hl 3 rfl) ?_
      refine lv_icmp_ge (tgt := 70) X.1.1 X.1.2.1 zd_De_readChosenBytes_9 rfl (fun c1 => ?_) (fun c1 => ?_)
      · have c1 : q ≤ k := zc_ge_t (by omega) (by omega) c1
        have ek : k = q := by omega
        rw [show q - k = 0 by omega] at he
        rw [ek] at hv
        refine lv_iload X.1.1 X.1.2.1 zd_De_readChosenBytes_70 (lv_at hl 4 rfl) ?_
        exact ret _ p1 H locs ls _ (⟨Or.inr ⟨v, he, rfl, hv⟩, hp1⟩) h zd_De_readChosenBytes_72
      · have c1 : k < q := zc_ge_f (by omega) (by omega) c1
        rw [show q - k = (q - (k + 1)) + 1 by omega] at he
        have hdb : b / 2 ^ k < 2 ^ 32 := Nat.lt_of_le_of_lt (Nat.div_le_self _ _) (by omega)
        refine lv_iload_n X.1.1 X.1.2.1 zd_De_readChosenBytes_12 rfl (lv_at hl 2 rfl) ?_
        refine lv_iload X.1.1 X.1.2.1 zd_De_readChosenBytes_13 (lv_at hl 5 rfl) ?_
        refine lv_iushr (v := nI (b / 2 ^ k)) X.1.1 X.1.2.1 zd_De_readChosenBytes_15 ((ush_eq _ (by omega)).trans (ush_nI (by omega))) ?_
        refine lv_iconst (v := nI 1) X.1.1 X.1.2.1 zd_De_readChosenBytes_16 (by decide) ?_
        refine lv_iand X.1.1 X.1.2.1 zd_De_readChosenBytes_17 ?_
        refine zTop (y := nI (b / 2 ^ k % 2)) (and1 hdb) ?_
        refine lv_iconst (v := nI 1) X.1.1 X.1.2.1 zd_De_readChosenBytes_18 (by decide) ?_
        refine lv_icmp_ne (tgt := 64) X.1.1 X.1.2.1 zd_De_readChosenBytes_19 rfl (fun c2 => ?_) (fun c2 => ?_)
        · have c2 : b / 2 ^ k % 2 ≠ 1 := zc_ne_t (by omega) (by omega) c2
          rw [rdC_0 c2] at he
          have hv : v < 256 ^ (k + 1) := Nat.lt_of_lt_of_le hv (Nat.pow_le_pow_right (by decide) (Nat.le_succ k))
          refine lv_iinc X.1.1 X.1.2.1 zd_De_readChosenBytes_64 hl (k := 5) rfl (v := nI (k + 1)) (nI_add _ _) (by decide) rfl (fun ls hl => ?_)
          have hl : lv_has ls 6 [(5, .int (nI (k + 1))), (0, .ref r0), (1, .ref o), (2, .int (nI b)), (3, .int (nI q)), (4, .int (nI v))] := hl
          refine lv_goto (tgt := 6) X.1.1 X.1.2.1 zd_De_readChosenBytes_67 rfl ?_
          exact ih (k + 1) v p1 ls H locs (by omega) (by omega) (hv) (hp1) (he) (lv_sub hl [1, 2, 3, 4, 5, 0] rfl) h
        · have c2 : b / 2 ^ k % 2 = 1 := zc_ne_f (by omega) (by omega) c2
          rw [rdC_1 c2] at he
          refine lv_aload_n X.1.1 X.1.2.1 zd_De_readChosenBytes_22 rfl (lv_at hl 0 rfl) ?_
          refine rG X h 0 rfl rfl zW_De 0 (by decide) zw_101 rfl zd_De_readChosenBytes_23 ?_
          refine lv_aload_n X.1.1 X.1.2.1 zd_De_readChosenBytes_26 rfl (lv_at hl 1 rfl) ?_
          refine rCi (wr := [(r0, .inr (3, [.int (nI p1)]))]) (wf := fun _ => [(r0, .inr (3, [.int (nI p1)])), (o, .inr (1, [.ref a, .int (nI n)])), (a, .inl (cB, N, .inl (f)))]) (rest := [.int (nI p1)]) X h hl.1 (zc_Tx_size l D (o := o) (a := a) (n := n) (N := N) (f := f) (cB := cB)  H.size) zw_410 zw_145 zw_146 zw_2 zm_Tx_size zq_Tx_size ⟨Nat.le_of_ble_eq_true rfl, Nat.le_of_ble_eq_true rfl⟩ ⟨Nat.le_of_ble_eq_true rfl, Nat.le_of_ble_eq_true rfl⟩ [0] rfl [1, 2] [0] [0, 1, 2] rfl (by decide) rfl (by decide) (by decide) (fun _ => rfl) (by decide) 0 rfl rfl rfl (Nat.le_of_ble_eq_true rfl) zd_De_readChosenBytes_27 (fun r _ H locs hp h => ?_)
          obtain ⟨rfl, -⟩ := hp
          have h : zH D A s [(r0, .inr (3, [.int (nI p1)])), (o, .inr (1, [.ref a, .int (nI n)])), (a, .inl (cB, N, .inl (f)))] H locs := h
          refine lv_icmp_lt (tgt := 35) X.1.1 X.1.2.1 zd_De_readChosenBytes_30 rfl (fun c3 => ?_) (fun c3 => ?_)
          · have c3 : p1 < n := zc_lt_t (by omega) (by omega) c3
            rw [if_pos c3] at he
            have hor := rc_or (k := k) (x := ub (f p1)) (by omega) hv (ub_lt _)
            refine lv_iload X.1.1 X.1.2.1 zd_De_readChosenBytes_35 (lv_at hl 4 rfl) ?_
            refine lv_aload_n X.1.1 X.1.2.1 zd_De_readChosenBytes_37 rfl (lv_at hl 1 rfl) ?_
            refine lv_aload_n X.1.1 X.1.2.1 zd_De_readChosenBytes_38 rfl (lv_at hl 0 rfl) ?_
            refine rG X h 0 rfl rfl zW_De 0 (by decide) zw_101 rfl zd_De_readChosenBytes_39 ?_
            refine rCi (wr := [(r0, .inr (3, [.int (nI p1)]))]) (wf := fun _ => [(r0, .inr (3, [.int (nI p1)])), (o, .inr (1, [.ref a, .int (nI n)])), (a, .inl (cB, N, .inl (f)))]) (rest := [.int (nI v)]) X h hl.1 (zc_Tx_at l D (o := o) (a := a) (n := n) (N := N) (f := f) (cB := cB) (j := p1) (by omega) (by omega) H.size) zw_411 zw_412 zw_413 zw_2 zm_Tx_at zq_Tx_at ⟨Nat.le_of_ble_eq_true rfl, Nat.le_of_ble_eq_true rfl⟩ ⟨Nat.le_of_ble_eq_true rfl, Nat.le_of_ble_eq_true rfl⟩ [0] rfl [1, 2] [0] [0, 1, 2] rfl (by decide) rfl (by decide) (by decide) (fun _ => rfl) (by decide) 0 rfl rfl rfl (Nat.le_of_ble_eq_true rfl) zd_De_readChosenBytes_42 (fun r _ H locs hp h => ?_)
            obtain ⟨rfl, -⟩ := hp
            have h : zH D A s [(r0, .inr (3, [.int (nI p1)])), (o, .inr (1, [.ref a, .int (nI n)])), (a, .inl (cB, N, .inl (f)))] H locs := h
            refine lv_bipush (v := nI 8) X.1.1 X.1.2.1 zd_De_readChosenBytes_45 (by decide) ?_
            refine lv_iload X.1.1 X.1.2.1 zd_De_readChosenBytes_47 (lv_at hl 5 rfl) ?_
            refine lv_imul X.1.1 X.1.2.1 zd_De_readChosenBytes_49 ?_
            refine zTop (y := nI (8 * k)) (pk_mul _ _) ?_
            refine lv_ishl X.1.1 X.1.2.1 zd_De_readChosenBytes_50 ?_
            refine lv_ior X.1.1 X.1.2.1 zd_De_readChosenBytes_51 ?_
            refine zTop (y := nI (v + ub (f p1) * 256 ^ k)) (hor.1) ?_
            refine lv_istore X.1.1 X.1.2.1 zd_De_readChosenBytes_52 hl (by decide) rfl (fun ls hl => ?_)
            have hl : lv_has ls 6 [(4, .int (nI (v + ub (f p1) * 256 ^ k))), (0, .ref r0), (1, .ref o), (2, .int (nI b)), (3, .int (nI q)), (5, .int (nI k))] := hl
            refine lv_aload_n X.1.1 X.1.2.1 zd_De_readChosenBytes_54 rfl (lv_at hl 1 rfl) ?_
            refine lv_dup X.1.1 X.1.2.1 zd_De_readChosenBytes_55 rfl ?_
            refine rG X h 0 rfl rfl zW_De 0 (by decide) zw_101 rfl zd_De_readChosenBytes_56 ?_
            refine lv_iconst (v := nI 1) X.1.1 X.1.2.1 zd_De_readChosenBytes_59 (by decide) ?_
            refine lv_iadd X.1.1 X.1.2.1 zd_De_readChosenBytes_60 ?_
            refine zTop (y := nI (p1 + 1)) (nI_add _ _) ?_
            refine rP X h 0 rfl rfl zW_De zO_De zN_De 0 (by decide) zw_101 rfl (rfl) (rfl) (Nat.le_of_ble_eq_true rfl) zd_De_readChosenBytes_61 (fun H locs h => ?_)
            have h : zH D A s [(r0, .inr (3, [.int (nI (p1 + 1))])), (o, .inr (1, [.ref a, .int (nI n)])), (a, .inl (cB, N, .inl (f)))] H locs := h
            refine lv_iinc X.1.1 X.1.2.1 zd_De_readChosenBytes_64 hl (k := 5) rfl (v := nI (k + 1)) (nI_add _ _) (by decide) rfl (fun ls hl => ?_)
            have hl : lv_has ls 6 [(5, .int (nI (k + 1))), (4, .int (nI (v + ub (f p1) * 256 ^ k))), (0, .ref r0), (1, .ref o), (2, .int (nI b)), (3, .int (nI q))] := hl
            refine lv_goto (tgt := 6) X.1.1 X.1.2.1 zd_De_readChosenBytes_67 rfl ?_
            exact ih (k + 1) (v + ub (f p1) * 256 ^ k) (p1 + 1) ls H locs (by omega) (by omega) (hor.2) (by omega) (he) (lv_sub hl [2, 3, 4, 5, 1, 0] rfl) h
          · have c3 : n ≤ p1 := zc_lt_f (by omega) (by omega) c3
            rw [if_neg (by omega)] at he
            refine lv_iconst (v := (-1)) X.1.1 X.1.2.1 zd_De_readChosenBytes_33 (by decide) ?_
            exact ret _ p1 H locs ls _ (⟨Or.inl ⟨he, rfl⟩, hp1⟩) h zd_De_readChosenBytes_34
  exact loop _ 0 0 pl ls H locs (Nat.lt_succ_self _) (by omega) (by decide) (hp) (rfl) (lv_sub hl [2, 3, 4, 5, 1, 0] rfl) h

set_option maxHeartbeats 4000000 in
set_option maxRecDepth 100000 in
theorem zc_De_isNewRead (l : Launch) (D : va_G) {r0 pl : Nat} {o a n N : Nat} {f : Nat → Int32} {cB : ClassId} {o3 a3 n3 N3 : Nat} {f3 : Nat → Int32} {cB3 : ClassId} {b due : Nat} (hp : pl ≤ n) (hnN : n ≤ N) (hN : N < 2 ^ 30) (hf : sb_Fit f) (h3 : n3 ≤ due) (hdue : due ≤ N3) (hN3 : N3 < 2 ^ 30) (hf3 : sb_Fit f3) (hb : b < 256) (sz : Nat) : zMi l D zy_De_isNewRead zb_De_isNewRead 5 .boolean ({ frames := 2, cells := 0, slots := 0, locals := 47 } : Room) [.ref r0, .ref o, .int (nI b), .ref o3, .int (nI due)] [(cB, .byte), (cB3, .byte)] [(r0, .inr (3, [.int (nI pl)])), (o, .inr (1, [.ref a, .int (nI n)])), (a, .inl (cB, N, .inl (f))), (o3, .inr (1, [.ref a3, .int (nI n3)])), (a3, .inl (cB3, N3, .inl (f3)))] sz (fun (r : Int32) (u : Nat × Nat × (Nat → Int32)) => ((r = 0 ∧ rdW n due b pl n3) ∨ (r = 1 ∧ ¬ rdW n due b pl n3 ∧ u.1 = pl + b ∧ tx u.2.2 u.2.1 = tx f3 n3 ++ (((tx f n)).drop pl).take b)) ∧ u.1 ≤ n ∧ u.2.1 ≤ due ∧ sb_Fit u.2.2) (fun u => [(r0, .inr (3, [.int (nI u.1)])), (o, .inr (1, [.ref a, .int (nI n)])), (a, .inl (cB, N, .inl (f))), (o3, .inr (1, [.ref a3, .int (nI u.2.1)])), (a3, .inl (cB3, N3, .inl (u.2.2)))]) := by
  refine zEz (by decide) (Nat.le_of_ble_eq_true rfl) (fun p e s m args below meth c ls A Q X hl h hsz ret => ?_)
  have hl : lv_has ls 5 [(0, .ref r0), (1, .ref o), (2, .int (nI b)), (3, .ref o3), (4, .int (nI due))] := hl
  generalize hH0 : s.heap = H at h ⊢
  have h : zH D A s [(r0, .inr (3, [.int (nI pl)])), (o, .inr (1, [.ref a, .int (nI n)])), (a, .inl (cB, N, .inl (f))), (o3, .inr (1, [.ref a3, .int (nI n3)])), (a3, .inl (cB3, N3, .inl (f3)))] H [] := h
  generalize hL0 : ([] : List Loc) = locs at h ⊢
  refine lv_iload_n X.1.1 X.1.2.1 zd_De_isNewRead_0 rfl (lv_at hl 2 rfl) ?_
  refine lv_if_eq (tgt := 28) X.1.1 X.1.2.1 zd_De_isNewRead_1 rfl (fun c1 => ?_) (fun c1 => ?_)
  · have c1 : b = 0 := zc_eq0_t (by omega) (by omega) c1
    refine lv_iconst (v := nI 0) X.1.1 X.1.2.1 zd_De_isNewRead_28 (by decide) ?_
    exact ret _ (pl, n3, f3) H locs ls _ (rfl) (⟨Or.inl ⟨rfl, Or.inl c1⟩, hp, h3, hf3⟩) h zd_De_isNewRead_29
  · have c1 : b ≠ 0 := zc_eq0_f (by omega) (by omega) c1
    refine lv_iload_n X.1.1 X.1.2.1 zd_De_isNewRead_4 rfl (lv_at hl 2 rfl) ?_
    refine lv_aload_n X.1.1 X.1.2.1 zd_De_isNewRead_5 rfl (lv_at hl 1 rfl) ?_
    refine rCi (wr := [(r0, .inr (3, [.int (nI pl)])), (o3, .inr (1, [.ref a3, .int (nI n3)])), (a3, .inl (cB3, N3, .inl (f3)))]) (wf := fun _ => [(r0, .inr (3, [.int (nI pl)])), (o, .inr (1, [.ref a, .int (nI n)])), (a, .inl (cB, N, .inl (f))), (o3, .inr (1, [.ref a3, .int (nI n3)])), (a3, .inl (cB3, N3, .inl (f3)))]) (rest := [.int (nI b)]) X h hl.1 (zc_Tx_size l D (o := o) (a := a) (n := n) (N := N) (f := f) (cB := cB)  H.size) zw_410 zw_145 zw_146 zw_2 zm_Tx_size zq_Tx_size ⟨Nat.le_of_ble_eq_true rfl, Nat.le_of_ble_eq_true rfl⟩ ⟨Nat.le_of_ble_eq_true rfl, Nat.le_of_ble_eq_true rfl⟩ [0] rfl [1, 2] [0, 3, 4] [0, 3, 4, 1, 2] rfl (by decide) rfl (by decide) (by decide) (fun _ => rfl) (by decide) 0 rfl rfl rfl (Nat.le_of_ble_eq_true rfl) zd_De_isNewRead_6 (fun r _ H locs hp h => ?_)
    obtain ⟨rfl, -⟩ := hp
    have h : zH D A s [(r0, .inr (3, [.int (nI pl)])), (o, .inr (1, [.ref a, .int (nI n)])), (a, .inl (cB, N, .inl (f))), (o3, .inr (1, [.ref a3, .int (nI n3)])), (a3, .inl (cB3, N3, .inl (f3)))] H locs := h
    refine lv_aload_n X.1.1 X.1.2.1 zd_De_isNewRead_9 rfl (lv_at hl 0 rfl) ?_
    refine rG X h 0 rfl rfl zW_De 0 (by decide) zw_101 rfl zd_De_isNewRead_10 ?_
    refine lv_isub X.1.1 X.1.2.1 zd_De_isNewRead_13 ?_
    refine zTop (y := nI (n - pl)) (pk_sub (by omega)) ?_
    refine lv_icmp_gt (tgt := 28) X.1.1 X.1.2.1 zd_De_isNewRead_14 rfl (fun c2 => ?_) (fun c2 => ?_)
    · have c2 : n - pl < b := zc_gt_t (by omega) (by omega) c2
      refine lv_iconst (v := nI 0) X.1.1 X.1.2.1 zd_De_isNewRead_28 (by decide) ?_
      exact ret _ (pl, n3, f3) H locs ls _ (rfl) (⟨Or.inl ⟨rfl, Or.inr (Or.inl (by omega))⟩, hp, h3, hf3⟩) h zd_De_isNewRead_29
    · have c2 : b ≤ n - pl := zc_gt_f (by omega) (by omega) c2
      refine lv_iload_n X.1.1 X.1.2.1 zd_De_isNewRead_17 rfl (lv_at hl 2 rfl) ?_
      refine lv_iload X.1.1 X.1.2.1 zd_De_isNewRead_18 (lv_at hl 4 rfl) ?_
      refine lv_aload_n X.1.1 X.1.2.1 zd_De_isNewRead_20 rfl (lv_at hl 3 rfl) ?_
      refine rCi (wr := [(r0, .inr (3, [.int (nI pl)])), (o, .inr (1, [.ref a, .int (nI n)])), (a, .inl (cB, N, .inl (f)))]) (wf := fun _ => [(r0, .inr (3, [.int (nI pl)])), (o, .inr (1, [.ref a, .int (nI n)])), (a, .inl (cB, N, .inl (f))), (o3, .inr (1, [.ref a3, .int (nI n3)])), (a3, .inl (cB3, N3, .inl (f3)))]) (rest := [.int (nI due), .int (nI b)]) X h hl.1 (zc_Tx_size l D (o := o3) (a := a3) (n := n3) (N := N3) (f := f3) (cB := cB3)  H.size) zw_410 zw_145 zw_146 zw_2 zm_Tx_size zq_Tx_size ⟨Nat.le_of_ble_eq_true rfl, Nat.le_of_ble_eq_true rfl⟩ ⟨Nat.le_of_ble_eq_true rfl, Nat.le_of_ble_eq_true rfl⟩ [1] rfl [3, 4] [0, 1, 2] [0, 1, 2, 3, 4] rfl (by decide) rfl (by decide) (by decide) (fun _ => rfl) (by decide) 0 rfl rfl rfl (Nat.le_of_ble_eq_true rfl) zd_De_isNewRead_21 (fun r _ H locs hp h => ?_)
      obtain ⟨rfl, -⟩ := hp
      have h : zH D A s [(r0, .inr (3, [.int (nI pl)])), (o, .inr (1, [.ref a, .int (nI n)])), (a, .inl (cB, N, .inl (f))), (o3, .inr (1, [.ref a3, .int (nI n3)])), (a3, .inl (cB3, N3, .inl (f3)))] H locs := h
      refine lv_isub X.1.1 X.1.2.1 zd_De_isNewRead_24 ?_
      refine zTop (y := nI (due - n3)) (pk_sub (by omega)) ?_
      refine lv_icmp_le (tgt := 30) X.1.1 X.1.2.1 zd_De_isNewRead_25 rfl (fun c3 => ?_) (fun c3 => ?_)
      · have c3 : b ≤ due - n3 := zc_le_t (by omega) (by omega) c3
        refine lv_aload_n X.1.1 X.1.2.1 zd_De_isNewRead_30 rfl (lv_at hl 3 rfl) ?_
        refine lv_aload_n X.1.1 X.1.2.1 zd_De_isNewRead_31 rfl (lv_at hl 1 rfl) ?_
        refine lv_aload_n X.1.1 X.1.2.1 zd_De_isNewRead_32 rfl (lv_at hl 0 rfl) ?_
        refine rG X h 0 rfl rfl zW_De 0 (by decide) zw_101 rfl zd_De_isNewRead_33 ?_
        refine lv_iload_n X.1.1 X.1.2.1 zd_De_isNewRead_36 rfl (lv_at hl 2 rfl) ?_
        refine rCv (wr := [(r0, .inr (3, [.int (nI pl)]))]) (wf := fun _ => [(r0, .inr (3, [.int (nI pl)])), (o, .inr (1, [.ref a, .int (nI n)])), (a, .inl (cB, N, .inl (f))), (o3, .inr (1, [.ref a3, .int (nI (n3 + b))])), (a3, .inl (cB3, N3, .inl (va_cpy f f3 pl n3 b)))]) (rest := []) X h hl.1 (zc_Tx_addPart l D (o := o3) (a := a3) (n := n3) (N := N3) (f := f3) (cB := cB3) (o2 := o) (a2 := a) (n2 := n) (N2 := N) (f2 := f) (cB2 := cB) (q := pl) (k := b) (hf) (by omega) (by omega) (by omega) (by omega) H.size) zw_424 zw_246 zw_247 zw_2 zm_Tx_addPart zq_Tx_addPart ⟨Nat.le_of_ble_eq_true rfl, Nat.le_of_ble_eq_true rfl⟩ ⟨Nat.le_of_ble_eq_true rfl, Nat.le_of_ble_eq_true rfl⟩ [1, 0] rfl [3, 4, 1, 2] [0] [0, 3, 4, 1, 2] rfl (by decide) rfl (by decide) (by decide) (fun _ => rfl) (by decide) 0 rfl rfl rfl (Nat.le_of_ble_eq_true rfl) zd_De_isNewRead_37 (fun _ H locs hp h => ?_)
        have h : zH D A s [(r0, .inr (3, [.int (nI pl)])), (o, .inr (1, [.ref a, .int (nI n)])), (a, .inl (cB, N, .inl (f))), (o3, .inr (1, [.ref a3, .int (nI (n3 + b))])), (a3, .inl (cB3, N3, .inl (va_cpy f f3 pl n3 b)))] H locs := h
        refine lv_aload_n X.1.1 X.1.2.1 zd_De_isNewRead_40 rfl (lv_at hl 0 rfl) ?_
        refine lv_dup X.1.1 X.1.2.1 zd_De_isNewRead_41 rfl ?_
        refine rG X h 0 rfl rfl zW_De 0 (by decide) zw_101 rfl zd_De_isNewRead_42 ?_
        refine lv_iload_n X.1.1 X.1.2.1 zd_De_isNewRead_45 rfl (lv_at hl 2 rfl) ?_
        refine lv_iadd X.1.1 X.1.2.1 zd_De_isNewRead_46 ?_
        refine zTop (y := nI (pl + b)) (nI_add _ _) ?_
        refine rP X h 0 rfl rfl zW_De zO_De zN_De 0 (by decide) zw_101 rfl (rfl) (rfl) (Nat.le_of_ble_eq_true rfl) zd_De_isNewRead_47 (fun H locs h => ?_)
        have h : zH D A s [(r0, .inr (3, [.int (nI (pl + b))])), (o, .inr (1, [.ref a, .int (nI n)])), (a, .inl (cB, N, .inl (f))), (o3, .inr (1, [.ref a3, .int (nI (n3 + b))])), (a3, .inl (cB3, N3, .inl (va_cpy f f3 pl n3 b)))] H locs := h
        refine lv_iconst (v := nI 1) X.1.1 X.1.2.1 zd_De_isNewRead_50 (by decide) ?_
        exact ret _ (pl + b, n3 + b, va_cpy f f3 pl n3 b) H locs ls _ (rfl) (⟨Or.inr ⟨rfl, by unfold rdW; omega, rfl, by rw [tx_cpy, tx_part f (m := n) (by omega)]⟩, by show pl + b ≤ n; omega, by show n3 + b ≤ due; omega, sb_fitC hf hf3⟩) h zd_De_isNewRead_51
      · have c3 : due - n3 < b := zc_le_f (by omega) (by omega) c3
        refine lv_iconst (v := nI 0) X.1.1 X.1.2.1 zd_De_isNewRead_28 (by decide) ?_
        exact ret _ (pl, n3, f3) H locs ls _ (rfl) (⟨Or.inl ⟨rfl, Or.inr (Or.inr (by omega))⟩, hp, h3, hf3⟩) h zd_De_isNewRead_29

set_option maxHeartbeats 4000000 in
set_option maxRecDepth 100000 in
theorem zc_De_isCopyRead (l : Launch) (D : va_G) {r0 pl : Nat} {o a n N : Nat} {f : Nat → Int32} {cB : ClassId} {o2 a2 n2 N2 : Nat} {f2 : Nat → Int32} {cB2 : ClassId} {o3 a3 n3 N3 : Nat} {f3 : Nat → Int32} {cB3 : ClassId} {b due : Nat} (hp : pl ≤ n) (hnN : n ≤ N) (hN : N < 2 ^ 30) (h2 : n2 ≤ N2) (hN2 : N2 < 2 ^ 30) (hf2 : sb_Fit f2) (h3 : n3 ≤ due) (hdue : due ≤ N3) (hN3 : N3 < 2 ^ 30) (hf3 : sb_Fit f3) (hb : b < 256) (sz : Nat) : zMi l D zy_De_isCopyRead zb_De_isCopyRead 8 .boolean ({ frames := 2, cells := 0, slots := 0, locals := 47 } : Room) [.ref r0, .ref o, .int (nI b), .ref o2, .ref o3, .int (nI due)] [(cB, .byte), (cB2, .byte), (cB3, .byte)] [(r0, .inr (3, [.int (nI pl)])), (o, .inr (1, [.ref a, .int (nI n)])), (a, .inl (cB, N, .inl (f))), (o2, .inr (1, [.ref a2, .int (nI n2)])), (a2, .inl (cB2, N2, .inl (f2))), (o3, .inr (1, [.ref a3, .int (nI n3)])), (a3, .inl (cB3, N3, .inl (f3)))] sz (fun (r : Int32) (u : Nat × Nat × (Nat → Int32)) => ((r = 0 ∧ rdK (tx f n) (tx f2 n2) due b pl n3 = none) ∨ (r = 1 ∧ ∃ fr mn, rdK (tx f n) (tx f2 n2) due b pl n3 = some (u.1, fr, mn) ∧ tx u.2.2 u.2.1 = tx f3 n3 ++ (((tx f2 n2)).drop fr).take mn)) ∧ u.1 ≤ n ∧ u.2.1 ≤ due ∧ sb_Fit u.2.2) (fun u => [(r0, .inr (3, [.int (nI u.1)])), (o, .inr (1, [.ref a, .int (nI n)])), (a, .inl (cB, N, .inl (f))), (o2, .inr (1, [.ref a2, .int (nI n2)])), (a2, .inl (cB2, N2, .inl (f2))), (o3, .inr (1, [.ref a3, .int (nI u.2.1)])), (a3, .inl (cB3, N3, .inl (u.2.2)))]) := by
  refine zEz (by decide) (Nat.le_of_ble_eq_true rfl) (fun p e s m args below meth c ls A Q X hl h hsz ret => ?_)
  have hl : lv_has ls 8 [(0, .ref r0), (1, .ref o), (2, .int (nI b)), (3, .ref o2), (4, .ref o3), (5, .int (nI due))] := hl
  generalize hH0 : s.heap = H at h ⊢
  have h : zH D A s [(r0, .inr (3, [.int (nI pl)])), (o, .inr (1, [.ref a, .int (nI n)])), (a, .inl (cB, N, .inl (f))), (o2, .inr (1, [.ref a2, .int (nI n2)])), (a2, .inl (cB2, N2, .inl (f2))), (o3, .inr (1, [.ref a3, .int (nI n3)])), (a3, .inl (cB3, N3, .inl (f3)))] H [] := h
  generalize hL0 : ([] : List Loc) = locs at h ⊢
  refine lv_aload_n X.1.1 X.1.2.1 zd_De_isCopyRead_0 rfl (lv_at hl 0 rfl) ?_
  refine lv_aload_n X.1.1 X.1.2.1 zd_De_isCopyRead_1 rfl (lv_at hl 1 rfl) ?_
  refine lv_iload_n X.1.1 X.1.2.1 zd_De_isCopyRead_2 rfl (lv_at hl 2 rfl) ?_
  refine lv_iconst (v := nI 4) X.1.1 X.1.2.1 zd_De_isCopyRead_3 (by decide) ?_
  refine rCi (wr := [(o2, .inr (1, [.ref a2, .int (nI n2)])), (a2, .inl (cB2, N2, .inl (f2))), (o3, .inr (1, [.ref a3, .int (nI n3)])), (a3, .inl (cB3, N3, .inl (f3)))]) (wf := fun u1 => [(r0, .inr (3, [.int (nI u1)])), (o, .inr (1, [.ref a, .int (nI n)])), (a, .inl (cB, N, .inl (f))), (o2, .inr (1, [.ref a2, .int (nI n2)])), (a2, .inl (cB2, N2, .inl (f2))), (o3, .inr (1, [.ref a3, .int (nI n3)])), (a3, .inl (cB3, N3, .inl (f3)))]) (rest := []) X h hl.1 (zc_De_readChosenBytes l D (r0 := r0) (pl := pl) (o := o) (a := a) (n := n) (N := N) (f := f) (cB := cB) (b := b) (q := 4) (hp) (hnN) (hN) (hb) (by decide) H.size) zw_420 zw_422 zs_15 zw_4 zm_De_readChosenBytes zq_De_readChosenBytes ⟨Nat.le_of_ble_eq_true rfl, Nat.le_of_ble_eq_true rfl⟩ ⟨Nat.le_of_ble_eq_true rfl, Nat.le_of_ble_eq_true rfl⟩ [0] rfl [0, 1, 2] [3, 4, 5, 6] [4, 5, 6, 0, 1, 2, 3] rfl (by decide) rfl (by decide) (by decide) (fun _ => rfl) (by decide) 0 rfl rfl rfl (Nat.le_of_ble_eq_true rfl) zd_De_isCopyRead_4 (fun r u1 H locs hp h => ?_)
  have q1 : ((rdC (tx f n) b 4 0 pl 0 = none ∧ r = (-1)) ∨ ∃ v, rdC (tx f n) b 4 0 pl 0 = some (v, u1) ∧ r = nI v ∧ v < 256 ^ 4) ∧ u1 ≤ n := hp
  have h : zH D A s [(r0, .inr (3, [.int (nI u1)])), (o, .inr (1, [.ref a, .int (nI n)])), (a, .inl (cB, N, .inl (f))), (o2, .inr (1, [.ref a2, .int (nI n2)])), (a2, .inl (cB2, N2, .inl (f2))), (o3, .inr (1, [.ref a3, .int (nI n3)])), (a3, .inl (cB3, N3, .inl (f3)))] H locs := h
  obtain ⟨q1, hu1⟩ := q1
  generalize er1 : r = r1 at q1 ⊢
  refine lv_istore X.1.1 X.1.2.1 zd_De_isCopyRead_7 hl (by decide) rfl (fun ls hl => ?_)
  have hl : lv_has ls 8 [(6, .int r1), (0, .ref r0), (1, .ref o), (2, .int (nI b)), (3, .ref o2), (4, .ref o3), (5, .int (nI due))] := hl
  refine lv_aload_n X.1.1 X.1.2.1 zd_De_isCopyRead_9 rfl (lv_at hl 1 rfl) ?_
  refine lv_aload_n X.1.1 X.1.2.1 zd_De_isCopyRead_10 rfl (lv_at hl 2 rfl) ?_
  refine lv_iload_n X.1.1 X.1.2.1 zd_De_isCopyRead_11 rfl (lv_at hl 3 rfl) ?_
  refine lv_iconst (v := nI 4) X.1.1 X.1.2.1 zd_De_isCopyRead_12 (by decide) ?_
  refine lv_iushr (v := nI (b / 16)) X.1.1 X.1.2.1 zd_De_isCopyRead_13 ((ush_eq _ (by decide)).trans (ush_nI (by omega))) ?_
  refine lv_iconst (v := nI 3) X.1.1 X.1.2.1 zd_De_isCopyRead_14 (by decide) ?_
  refine rCi (wr := [(o2, .inr (1, [.ref a2, .int (nI n2)])), (a2, .inl (cB2, N2, .inl (f2))), (o3, .inr (1, [.ref a3, .int (nI n3)])), (a3, .inl (cB3, N3, .inl (f3)))]) (wf := fun u2 => [(r0, .inr (3, [.int (nI u2)])), (o, .inr (1, [.ref a, .int (nI n)])), (a, .inl (cB, N, .inl (f))), (o2, .inr (1, [.ref a2, .int (nI n2)])), (a2, .inl (cB2, N2, .inl (f2))), (o3, .inr (1, [.ref a3, .int (nI n3)])), (a3, .inl (cB3, N3, .inl (f3)))]) (rest := []) X h hl.1 (zc_De_readChosenBytes l D (r0 := r0) (pl := u1) (o := o) (a := a) (n := n) (N := N) (f := f) (cB := cB) (b := b / 16) (q := 3) (hu1) (hnN) (hN) (by omega) (by decide) H.size) zw_420 zw_422 zs_15 zw_4 zm_De_readChosenBytes zq_De_readChosenBytes ⟨Nat.le_of_ble_eq_true rfl, Nat.le_of_ble_eq_true rfl⟩ ⟨Nat.le_of_ble_eq_true rfl, Nat.le_of_ble_eq_true rfl⟩ [0] rfl [0, 1, 2] [3, 4, 5, 6] [4, 5, 6, 0, 1, 2, 3] rfl (by decide) rfl (by decide) (by decide) (fun _ => rfl) (by decide) 0 rfl rfl rfl (Nat.le_of_ble_eq_true rfl) zd_De_isCopyRead_15 (fun r u2 H locs hp h => ?_)
  have q2 : ((rdC (tx f n) (b / 16) 3 0 u1 0 = none ∧ r = (-1)) ∨ ∃ v, rdC (tx f n) (b / 16) 3 0 u1 0 = some (v, u2) ∧ r = nI v ∧ v < 256 ^ 3) ∧ u2 ≤ n := hp
  have h : zH D A s [(r0, .inr (3, [.int (nI u2)])), (o, .inr (1, [.ref a, .int (nI n)])), (a, .inl (cB, N, .inl (f))), (o2, .inr (1, [.ref a2, .int (nI n2)])), (a2, .inl (cB2, N2, .inl (f2))), (o3, .inr (1, [.ref a3, .int (nI n3)])), (a3, .inl (cB3, N3, .inl (f3)))] H locs := h
  obtain ⟨q2, hu2⟩ := q2
  generalize er2 : r = r2 at q2 ⊢
  refine lv_istore X.1.1 X.1.2.1 zd_De_isCopyRead_18 hl (by decide) rfl (fun ls hl => ?_)
  have hl : lv_has ls 8 [(7, .int r2), (6, .int r1), (0, .ref r0), (1, .ref o), (2, .int (nI b)), (3, .ref o2), (4, .ref o3), (5, .int (nI due))] := hl
  rcases q1 with ⟨e1, rfl⟩ | ⟨v1, e1, rfl, b1⟩
  · rcases q2 with ⟨e2, rfl⟩ | ⟨v2, e2, rfl, b2⟩
    · have hl : lv_has ls 8 [(7, .int ((-1))), (6, .int ((-1))), (0, .ref r0), (1, .ref o), (2, .int (nI b)), (3, .ref o2), (4, .ref o3), (5, .int (nI due))] := hl
      refine lv_iload X.1.1 X.1.2.1 zd_De_isCopyRead_20 (lv_at hl 0 rfl) ?_
      refine lv_if_ne (tgt := 29) X.1.1 X.1.2.1 zd_De_isCopyRead_22 rfl (fun c1 => ?_) (fun c1 => ?_)
      · refine lv_iload X.1.1 X.1.2.1 zd_De_isCopyRead_29 (lv_at hl 1 rfl) ?_
        refine lv_if_lt (tgt := 51) X.1.1 X.1.2.1 zd_De_isCopyRead_31 rfl (fun c2 => ?_) (fun c2 => ?_)
        · have hno : rdK (tx f n) (tx f2 n2) due b pl n3 = none := by
            unfold rdK; rw [e1]
          refine lv_iconst (v := nI 0) X.1.1 X.1.2.1 zd_De_isCopyRead_51 (by decide) ?_
          exact ret _ (u2, n3, f3) H locs ls _ (rfl) (⟨Or.inl ⟨rfl, hno⟩, hu2, h3, hf3⟩) h zd_De_isCopyRead_52
        · exact absurd (by decide) c2
      · exact absurd c1 (by decide)
    · have hl : lv_has ls 8 [(7, .int (nI v2)), (6, .int ((-1))), (0, .ref r0), (1, .ref o), (2, .int (nI b)), (3, .ref o2), (4, .ref o3), (5, .int (nI due))] := hl
      have b2 : v2 < 2 ^ 24 := b2
      have hmy : mny v2 = if v2 = 0 then 65536 else v2 := rfl
      refine lv_iload X.1.1 X.1.2.1 zd_De_isCopyRead_20 (lv_at hl 0 rfl) ?_
      refine lv_if_ne (tgt := 29) X.1.1 X.1.2.1 zd_De_isCopyRead_22 rfl (fun c1 => ?_) (fun c1 => ?_)
      · have c1 : v2 ≠ 0 := zc_ne0_t (by omega) (by omega) c1
        rw [if_neg c1] at hmy
        refine lv_iload X.1.1 X.1.2.1 zd_De_isCopyRead_29 (lv_at hl 1 rfl) ?_
        refine lv_if_lt (tgt := 51) X.1.1 X.1.2.1 zd_De_isCopyRead_31 rfl (fun c2 => ?_) (fun c2 => ?_)
        · have hno : rdK (tx f n) (tx f2 n2) due b pl n3 = none := by
            unfold rdK; rw [e1]
          refine lv_iconst (v := nI 0) X.1.1 X.1.2.1 zd_De_isCopyRead_51 (by decide) ?_
          exact ret _ (u2, n3, f3) H locs ls _ (rfl) (⟨Or.inl ⟨rfl, hno⟩, hu2, h3, hf3⟩) h zd_De_isCopyRead_52
        · exact absurd (by decide) c2
      · have c1 : v2 = 0 := zc_ne0_f (by omega) (by omega) c1
        rw [if_pos c1] at hmy
        refine lv_ldc X.1.1 X.1.2.1 X.1.2.2.2.1 (X.1.2.2.2.2 _ zw_415) zd_De_isCopyRead_25 ?_
        refine zTop (y := nI 65536) (by decide) ?_
        refine lv_istore X.1.1 X.1.2.1 zd_De_isCopyRead_27 hl (by decide) rfl (fun ls hl => ?_)
        have hl : lv_has ls 8 [(7, .int (nI 65536)), (6, .int ((-1))), (0, .ref r0), (1, .ref o), (2, .int (nI b)), (3, .ref o2), (4, .ref o3), (5, .int (nI due))] := hl
        refine lv_iload X.1.1 X.1.2.1 zd_De_isCopyRead_29 (lv_at hl 1 rfl) ?_
        refine lv_if_lt (tgt := 51) X.1.1 X.1.2.1 zd_De_isCopyRead_31 rfl (fun c2 => ?_) (fun c2 => ?_)
        · have hno : rdK (tx f n) (tx f2 n2) due b pl n3 = none := by
            unfold rdK; rw [e1]
          refine lv_iconst (v := nI 0) X.1.1 X.1.2.1 zd_De_isCopyRead_51 (by decide) ?_
          exact ret _ (u2, n3, f3) H locs ls _ (rfl) (⟨Or.inl ⟨rfl, hno⟩, hu2, h3, hf3⟩) h zd_De_isCopyRead_52
        · exact absurd (by decide) c2
  · rcases q2 with ⟨e2, rfl⟩ | ⟨v2, e2, rfl, b2⟩
    · have hl : lv_has ls 8 [(7, .int ((-1))), (6, .int (nI v1)), (0, .ref r0), (1, .ref o), (2, .int (nI b)), (3, .ref o2), (4, .ref o3), (5, .int (nI due))] := hl
      have b1 : v1 < 2 ^ 32 := b1
      refine lv_iload X.1.1 X.1.2.1 zd_De_isCopyRead_20 (lv_at hl 0 rfl) ?_
      refine lv_if_ne (tgt := 29) X.1.1 X.1.2.1 zd_De_isCopyRead_22 rfl (fun c1 => ?_) (fun c1 => ?_)
      · refine lv_iload X.1.1 X.1.2.1 zd_De_isCopyRead_29 (lv_at hl 1 rfl) ?_
        refine lv_if_lt (tgt := 51) X.1.1 X.1.2.1 zd_De_isCopyRead_31 rfl (fun c2 => ?_) (fun c2 => ?_)
        · have hbg : ¬ v1 < 2 ^ 31 := fun hq => nI_pos hq c2
          have hno : rdK (tx f n) (tx f2 n2) due b pl n3 = none := by
            unfold rdK; rw [e1]; dsimp only; rw [e2]
          refine lv_iconst (v := nI 0) X.1.1 X.1.2.1 zd_De_isCopyRead_51 (by decide) ?_
          exact ret _ (u2, n3, f3) H locs ls _ (rfl) (⟨Or.inl ⟨rfl, hno⟩, hu2, h3, hf3⟩) h zd_De_isCopyRead_52
        · have hbg : v1 < 2 ^ 31 := by
            by_cases hq : v1 < 2 ^ 31
            · exact hq
            · exact absurd (nI_neg (by omega) b1) c2
          refine lv_iload X.1.1 X.1.2.1 zd_De_isCopyRead_34 (lv_at hl 0 rfl) ?_
          refine lv_if_lt (tgt := 51) X.1.1 X.1.2.1 zd_De_isCopyRead_36 rfl (fun c3 => ?_) (fun c3 => ?_)
          · have hno : rdK (tx f n) (tx f2 n2) due b pl n3 = none := by
              unfold rdK; rw [e1]; dsimp only; rw [e2]
            refine lv_iconst (v := nI 0) X.1.1 X.1.2.1 zd_De_isCopyRead_51 (by decide) ?_
            exact ret _ (u2, n3, f3) H locs ls _ (rfl) (⟨Or.inl ⟨rfl, hno⟩, hu2, h3, hf3⟩) h zd_De_isCopyRead_52
          · exact absurd (by decide) c3
      · exact absurd c1 (by decide)
    · have hl : lv_has ls 8 [(7, .int (nI v2)), (6, .int (nI v1)), (0, .ref r0), (1, .ref o), (2, .int (nI b)), (3, .ref o2), (4, .ref o3), (5, .int (nI due))] := hl
      have b2 : v2 < 2 ^ 24 := b2
      have hmy : mny v2 = if v2 = 0 then 65536 else v2 := rfl
      have b1 : v1 < 2 ^ 32 := b1
      refine lv_iload X.1.1 X.1.2.1 zd_De_isCopyRead_20 (lv_at hl 0 rfl) ?_
      refine lv_if_ne (tgt := 29) X.1.1 X.1.2.1 zd_De_isCopyRead_22 rfl (fun c1 => ?_) (fun c1 => ?_)
      · have c1 : v2 ≠ 0 := zc_ne0_t (by omega) (by omega) c1
        rw [if_neg c1] at hmy
        refine lv_iload X.1.1 X.1.2.1 zd_De_isCopyRead_29 (lv_at hl 1 rfl) ?_
        refine lv_if_lt (tgt := 51) X.1.1 X.1.2.1 zd_De_isCopyRead_31 rfl (fun c2 => ?_) (fun c2 => ?_)
        · have hbg : ¬ v1 < 2 ^ 31 := fun hq => nI_pos hq c2
          have hno : rdK (tx f n) (tx f2 n2) due b pl n3 = none := by
            unfold rdK; rw [e1]; dsimp only; rw [e2]; dsimp only; rw [tx_len, if_neg (by omega)]
          refine lv_iconst (v := nI 0) X.1.1 X.1.2.1 zd_De_isCopyRead_51 (by decide) ?_
          exact ret _ (u2, n3, f3) H locs ls _ (rfl) (⟨Or.inl ⟨rfl, hno⟩, hu2, h3, hf3⟩) h zd_De_isCopyRead_52
        · have hbg : v1 < 2 ^ 31 := by
            by_cases hq : v1 < 2 ^ 31
            · exact hq
            · exact absurd (nI_neg (by omega) b1) c2
          refine lv_iload X.1.1 X.1.2.1 zd_De_isCopyRead_34 (lv_at hl 0 rfl) ?_
          refine lv_if_lt (tgt := 51) X.1.1 X.1.2.1 zd_De_isCopyRead_36 rfl (fun c3 => ?_) (fun c3 => ?_)
          · exact absurd c3 (nI_pos (by omega))
          · refine lv_iload X.1.1 X.1.2.1 zd_De_isCopyRead_39 (lv_at hl 1 rfl) ?_
            refine lv_aload_n X.1.1 X.1.2.1 zd_De_isCopyRead_41 rfl (lv_at hl 5 rfl) ?_
            refine rCi (wr := [(r0, .inr (3, [.int (nI u2)])), (o, .inr (1, [.ref a, .int (nI n)])), (a, .inl (cB, N, .inl (f))), (o3, .inr (1, [.ref a3, .int (nI n3)])), (a3, .inl (cB3, N3, .inl (f3)))]) (wf := fun _ => [(r0, .inr (3, [.int (nI u2)])), (o, .inr (1, [.ref a, .int (nI n)])), (a, .inl (cB, N, .inl (f))), (o2, .inr (1, [.ref a2, .int (nI n2)])), (a2, .inl (cB2, N2, .inl (f2))), (o3, .inr (1, [.ref a3, .int (nI n3)])), (a3, .inl (cB3, N3, .inl (f3)))]) (rest := [.int (nI v1)]) X h hl.1 (zc_Tx_size l D (o := o2) (a := a2) (n := n2) (N := N2) (f := f2) (cB := cB2)  H.size) zw_410 zw_145 zw_146 zw_2 zm_Tx_size zq_Tx_size ⟨Nat.le_of_ble_eq_true rfl, Nat.le_of_ble_eq_true rfl⟩ ⟨Nat.le_of_ble_eq_true rfl, Nat.le_of_ble_eq_true rfl⟩ [1] rfl [3, 4] [0, 1, 2, 5, 6] [0, 1, 2, 5, 6, 3, 4] rfl (by decide) rfl (by decide) (by decide) (fun _ => rfl) (by decide) 0 rfl rfl rfl (Nat.le_of_ble_eq_true rfl) zd_De_isCopyRead_42 (fun r _ H locs hp h => ?_)
            obtain ⟨rfl, -⟩ := hp
            have h : zH D A s [(r0, .inr (3, [.int (nI u2)])), (o, .inr (1, [.ref a, .int (nI n)])), (a, .inl (cB, N, .inl (f))), (o2, .inr (1, [.ref a2, .int (nI n2)])), (a2, .inl (cB2, N2, .inl (f2))), (o3, .inr (1, [.ref a3, .int (nI n3)])), (a3, .inl (cB3, N3, .inl (f3)))] H locs := h
            refine lv_iload X.1.1 X.1.2.1 zd_De_isCopyRead_45 (lv_at hl 0 rfl) ?_
            refine lv_isub X.1.1 X.1.2.1 zd_De_isCopyRead_47 ?_
            refine lv_icmp_le (tgt := 53) X.1.1 X.1.2.1 zd_De_isCopyRead_48 rfl (fun c4 => ?_) (fun c4 => ?_)
            · rw [sub_le (by omega) (by omega) (by omega)] at c4
              refine lv_iload X.1.1 X.1.2.1 zd_De_isCopyRead_53 (lv_at hl 0 rfl) ?_
              refine lv_iload X.1.1 X.1.2.1 zd_De_isCopyRead_55 (lv_at hl 7 rfl) ?_
              refine lv_aload X.1.1 X.1.2.1 zd_De_isCopyRead_57 (lv_at hl 6 rfl) ?_
              refine rCi (wr := [(r0, .inr (3, [.int (nI u2)])), (o, .inr (1, [.ref a, .int (nI n)])), (a, .inl (cB, N, .inl (f))), (o2, .inr (1, [.ref a2, .int (nI n2)])), (a2, .inl (cB2, N2, .inl (f2)))]) (wf := fun _ => [(r0, .inr (3, [.int (nI u2)])), (o, .inr (1, [.ref a, .int (nI n)])), (a, .inl (cB, N, .inl (f))), (o2, .inr (1, [.ref a2, .int (nI n2)])), (a2, .inl (cB2, N2, .inl (f2))), (o3, .inr (1, [.ref a3, .int (nI n3)])), (a3, .inl (cB3, N3, .inl (f3)))]) (rest := [.int (nI due), .int (nI v2)]) X h hl.1 (zc_Tx_size l D (o := o3) (a := a3) (n := n3) (N := N3) (f := f3) (cB := cB3)  H.size) zw_410 zw_145 zw_146 zw_2 zm_Tx_size zq_Tx_size ⟨Nat.le_of_ble_eq_true rfl, Nat.le_of_ble_eq_true rfl⟩ ⟨Nat.le_of_ble_eq_true rfl, Nat.le_of_ble_eq_true rfl⟩ [2] rfl [5, 6] [0, 1, 2, 3, 4] [0, 1, 2, 3, 4, 5, 6] rfl (by decide) rfl (by decide) (by decide) (fun _ => rfl) (by decide) 0 rfl rfl rfl (Nat.le_of_ble_eq_true rfl) zd_De_isCopyRead_59 (fun r _ H locs hp h => ?_)
              obtain ⟨rfl, -⟩ := hp
              have h : zH D A s [(r0, .inr (3, [.int (nI u2)])), (o, .inr (1, [.ref a, .int (nI n)])), (a, .inl (cB, N, .inl (f))), (o2, .inr (1, [.ref a2, .int (nI n2)])), (a2, .inl (cB2, N2, .inl (f2))), (o3, .inr (1, [.ref a3, .int (nI n3)])), (a3, .inl (cB3, N3, .inl (f3)))] H locs := h
              refine lv_isub X.1.1 X.1.2.1 zd_De_isCopyRead_62 ?_
              refine zTop (y := nI (due - n3)) (pk_sub (by omega)) ?_
              refine lv_icmp_le (tgt := 68) X.1.1 X.1.2.1 zd_De_isCopyRead_63 rfl (fun c5 => ?_) (fun c5 => ?_)
              · have c5 : v2 ≤ due - n3 := zc_le_t (by omega) (by omega) c5
                refine lv_aload X.1.1 X.1.2.1 zd_De_isCopyRead_68 (lv_at hl 6 rfl) ?_
                refine lv_aload_n X.1.1 X.1.2.1 zd_De_isCopyRead_70 rfl (lv_at hl 5 rfl) ?_
                refine lv_iload X.1.1 X.1.2.1 zd_De_isCopyRead_71 (lv_at hl 1 rfl) ?_
                refine lv_iload X.1.1 X.1.2.1 zd_De_isCopyRead_73 (lv_at hl 0 rfl) ?_
                refine rCv (wr := [(r0, .inr (3, [.int (nI u2)])), (o, .inr (1, [.ref a, .int (nI n)])), (a, .inl (cB, N, .inl (f)))]) (wf := fun _ => [(r0, .inr (3, [.int (nI u2)])), (o, .inr (1, [.ref a, .int (nI n)])), (a, .inl (cB, N, .inl (f))), (o2, .inr (1, [.ref a2, .int (nI n2)])), (a2, .inl (cB2, N2, .inl (f2))), (o3, .inr (1, [.ref a3, .int (nI (n3 + v2))])), (a3, .inl (cB3, N3, .inl (va_cpy f2 f3 v1 n3 v2)))]) (rest := []) X h hl.1 (zc_Tx_addPart l D (o := o3) (a := a3) (n := n3) (N := N3) (f := f3) (cB := cB3) (o2 := o2) (a2 := a2) (n2 := n2) (N2 := N2) (f2 := f2) (cB2 := cB2) (q := v1) (k := v2) (hf2) (by omega) (by omega) (by omega) (by omega) H.size) zw_424 zw_246 zw_247 zw_2 zm_Tx_addPart zq_Tx_addPart ⟨Nat.le_of_ble_eq_true rfl, Nat.le_of_ble_eq_true rfl⟩ ⟨Nat.le_of_ble_eq_true rfl, Nat.le_of_ble_eq_true rfl⟩ [2, 1] rfl [5, 6, 3, 4] [0, 1, 2] [0, 1, 2, 5, 6, 3, 4] rfl (by decide) rfl (by decide) (by decide) (fun _ => rfl) (by decide) 0 rfl rfl rfl (Nat.le_of_ble_eq_true rfl) zd_De_isCopyRead_75 (fun _ H locs hp h => ?_)
                have h : zH D A s [(r0, .inr (3, [.int (nI u2)])), (o, .inr (1, [.ref a, .int (nI n)])), (a, .inl (cB, N, .inl (f))), (o2, .inr (1, [.ref a2, .int (nI n2)])), (a2, .inl (cB2, N2, .inl (f2))), (o3, .inr (1, [.ref a3, .int (nI (n3 + v2))])), (a3, .inl (cB3, N3, .inl (va_cpy f2 f3 v1 n3 v2)))] H locs := h
                have hyes : rdK (tx f n) (tx f2 n2) due b pl n3 = some (u2, v1, v2) := by
                  unfold rdK; rw [e1]; dsimp only; rw [e2]; dsimp only; rw [tx_len, hmy, if_pos (by omega)]
                refine lv_iconst (v := nI 1) X.1.1 X.1.2.1 zd_De_isCopyRead_78 (by decide) ?_
                exact ret _ (u2, n3 + v2, va_cpy f2 f3 v1 n3 v2) H locs ls _ (rfl) (⟨Or.inr ⟨rfl, v1, v2, hyes, by rw [tx_cpy, tx_part f2 (m := n2) (by omega)]⟩, hu2, by show n3 + v2 ≤ due; omega, sb_fitC hf2 hf3⟩) h zd_De_isCopyRead_79
              · have c5 : due - n3 < v2 := zc_le_f (by omega) (by omega) c5
                have hno : rdK (tx f n) (tx f2 n2) due b pl n3 = none := by
                  unfold rdK; rw [e1]; dsimp only; rw [e2]; dsimp only; rw [tx_len, if_neg (by omega)]
                refine lv_iconst (v := nI 0) X.1.1 X.1.2.1 zd_De_isCopyRead_66 (by decide) ?_
                exact ret _ (u2, n3, f3) H locs ls _ (rfl) (⟨Or.inl ⟨rfl, hno⟩, hu2, h3, hf3⟩) h zd_De_isCopyRead_67
            · rw [sub_le (by omega) (by omega) (by omega)] at c4
              have hno : rdK (tx f n) (tx f2 n2) due b pl n3 = none := by
                unfold rdK; rw [e1]; dsimp only; rw [e2]; dsimp only; rw [tx_len, if_neg (by omega)]
              refine lv_iconst (v := nI 0) X.1.1 X.1.2.1 zd_De_isCopyRead_51 (by decide) ?_
              exact ret _ (u2, n3, f3) H locs ls _ (rfl) (⟨Or.inl ⟨rfl, hno⟩, hu2, h3, hf3⟩) h zd_De_isCopyRead_52
      · have c1 : v2 = 0 := zc_ne0_f (by omega) (by omega) c1
        rw [if_pos c1] at hmy
        refine lv_ldc X.1.1 X.1.2.1 X.1.2.2.2.1 (X.1.2.2.2.2 _ zw_415) zd_De_isCopyRead_25 ?_
        refine zTop (y := nI 65536) (by decide) ?_
        refine lv_istore X.1.1 X.1.2.1 zd_De_isCopyRead_27 hl (by decide) rfl (fun ls hl => ?_)
        have hl : lv_has ls 8 [(7, .int (nI 65536)), (6, .int (nI v1)), (0, .ref r0), (1, .ref o), (2, .int (nI b)), (3, .ref o2), (4, .ref o3), (5, .int (nI due))] := hl
        refine lv_iload X.1.1 X.1.2.1 zd_De_isCopyRead_29 (lv_at hl 1 rfl) ?_
        refine lv_if_lt (tgt := 51) X.1.1 X.1.2.1 zd_De_isCopyRead_31 rfl (fun c2 => ?_) (fun c2 => ?_)
        · have hbg : ¬ v1 < 2 ^ 31 := fun hq => nI_pos hq c2
          have hno : rdK (tx f n) (tx f2 n2) due b pl n3 = none := by
            unfold rdK; rw [e1]; dsimp only; rw [e2]; dsimp only; rw [tx_len, if_neg (by omega)]
          refine lv_iconst (v := nI 0) X.1.1 X.1.2.1 zd_De_isCopyRead_51 (by decide) ?_
          exact ret _ (u2, n3, f3) H locs ls _ (rfl) (⟨Or.inl ⟨rfl, hno⟩, hu2, h3, hf3⟩) h zd_De_isCopyRead_52
        · have hbg : v1 < 2 ^ 31 := by
            by_cases hq : v1 < 2 ^ 31
            · exact hq
            · exact absurd (nI_neg (by omega) b1) c2
          refine lv_iload X.1.1 X.1.2.1 zd_De_isCopyRead_34 (lv_at hl 0 rfl) ?_
          refine lv_if_lt (tgt := 51) X.1.1 X.1.2.1 zd_De_isCopyRead_36 rfl (fun c3 => ?_) (fun c3 => ?_)
          · exact absurd c3 (nI_pos (by omega))
          · refine lv_iload X.1.1 X.1.2.1 zd_De_isCopyRead_39 (lv_at hl 1 rfl) ?_
            refine lv_aload_n X.1.1 X.1.2.1 zd_De_isCopyRead_41 rfl (lv_at hl 5 rfl) ?_
            refine rCi (wr := [(r0, .inr (3, [.int (nI u2)])), (o, .inr (1, [.ref a, .int (nI n)])), (a, .inl (cB, N, .inl (f))), (o3, .inr (1, [.ref a3, .int (nI n3)])), (a3, .inl (cB3, N3, .inl (f3)))]) (wf := fun _ => [(r0, .inr (3, [.int (nI u2)])), (o, .inr (1, [.ref a, .int (nI n)])), (a, .inl (cB, N, .inl (f))), (o2, .inr (1, [.ref a2, .int (nI n2)])), (a2, .inl (cB2, N2, .inl (f2))), (o3, .inr (1, [.ref a3, .int (nI n3)])), (a3, .inl (cB3, N3, .inl (f3)))]) (rest := [.int (nI v1)]) X h hl.1 (zc_Tx_size l D (o := o2) (a := a2) (n := n2) (N := N2) (f := f2) (cB := cB2)  H.size) zw_410 zw_145 zw_146 zw_2 zm_Tx_size zq_Tx_size ⟨Nat.le_of_ble_eq_true rfl, Nat.le_of_ble_eq_true rfl⟩ ⟨Nat.le_of_ble_eq_true rfl, Nat.le_of_ble_eq_true rfl⟩ [1] rfl [3, 4] [0, 1, 2, 5, 6] [0, 1, 2, 5, 6, 3, 4] rfl (by decide) rfl (by decide) (by decide) (fun _ => rfl) (by decide) 0 rfl rfl rfl (Nat.le_of_ble_eq_true rfl) zd_De_isCopyRead_42 (fun r _ H locs hp h => ?_)
            obtain ⟨rfl, -⟩ := hp
            have h : zH D A s [(r0, .inr (3, [.int (nI u2)])), (o, .inr (1, [.ref a, .int (nI n)])), (a, .inl (cB, N, .inl (f))), (o2, .inr (1, [.ref a2, .int (nI n2)])), (a2, .inl (cB2, N2, .inl (f2))), (o3, .inr (1, [.ref a3, .int (nI n3)])), (a3, .inl (cB3, N3, .inl (f3)))] H locs := h
            refine lv_iload X.1.1 X.1.2.1 zd_De_isCopyRead_45 (lv_at hl 0 rfl) ?_
            refine lv_isub X.1.1 X.1.2.1 zd_De_isCopyRead_47 ?_
            refine lv_icmp_le (tgt := 53) X.1.1 X.1.2.1 zd_De_isCopyRead_48 rfl (fun c4 => ?_) (fun c4 => ?_)
            · rw [sub_le (by omega) (by omega) (by omega)] at c4
              refine lv_iload X.1.1 X.1.2.1 zd_De_isCopyRead_53 (lv_at hl 0 rfl) ?_
              refine lv_iload X.1.1 X.1.2.1 zd_De_isCopyRead_55 (lv_at hl 7 rfl) ?_
              refine lv_aload X.1.1 X.1.2.1 zd_De_isCopyRead_57 (lv_at hl 6 rfl) ?_
              refine rCi (wr := [(r0, .inr (3, [.int (nI u2)])), (o, .inr (1, [.ref a, .int (nI n)])), (a, .inl (cB, N, .inl (f))), (o2, .inr (1, [.ref a2, .int (nI n2)])), (a2, .inl (cB2, N2, .inl (f2)))]) (wf := fun _ => [(r0, .inr (3, [.int (nI u2)])), (o, .inr (1, [.ref a, .int (nI n)])), (a, .inl (cB, N, .inl (f))), (o2, .inr (1, [.ref a2, .int (nI n2)])), (a2, .inl (cB2, N2, .inl (f2))), (o3, .inr (1, [.ref a3, .int (nI n3)])), (a3, .inl (cB3, N3, .inl (f3)))]) (rest := [.int (nI due), .int (nI 65536)]) X h hl.1 (zc_Tx_size l D (o := o3) (a := a3) (n := n3) (N := N3) (f := f3) (cB := cB3)  H.size) zw_410 zw_145 zw_146 zw_2 zm_Tx_size zq_Tx_size ⟨Nat.le_of_ble_eq_true rfl, Nat.le_of_ble_eq_true rfl⟩ ⟨Nat.le_of_ble_eq_true rfl, Nat.le_of_ble_eq_true rfl⟩ [2] rfl [5, 6] [0, 1, 2, 3, 4] [0, 1, 2, 3, 4, 5, 6] rfl (by decide) rfl (by decide) (by decide) (fun _ => rfl) (by decide) 0 rfl rfl rfl (Nat.le_of_ble_eq_true rfl) zd_De_isCopyRead_59 (fun r _ H locs hp h => ?_)
              obtain ⟨rfl, -⟩ := hp
              have h : zH D A s [(r0, .inr (3, [.int (nI u2)])), (o, .inr (1, [.ref a, .int (nI n)])), (a, .inl (cB, N, .inl (f))), (o2, .inr (1, [.ref a2, .int (nI n2)])), (a2, .inl (cB2, N2, .inl (f2))), (o3, .inr (1, [.ref a3, .int (nI n3)])), (a3, .inl (cB3, N3, .inl (f3)))] H locs := h
              refine lv_isub X.1.1 X.1.2.1 zd_De_isCopyRead_62 ?_
              refine zTop (y := nI (due - n3)) (pk_sub (by omega)) ?_
              refine lv_icmp_le (tgt := 68) X.1.1 X.1.2.1 zd_De_isCopyRead_63 rfl (fun c5 => ?_) (fun c5 => ?_)
              · have c5 : 65536 ≤ due - n3 := zc_le_t (by omega) (by omega) c5
                refine lv_aload X.1.1 X.1.2.1 zd_De_isCopyRead_68 (lv_at hl 6 rfl) ?_
                refine lv_aload_n X.1.1 X.1.2.1 zd_De_isCopyRead_70 rfl (lv_at hl 5 rfl) ?_
                refine lv_iload X.1.1 X.1.2.1 zd_De_isCopyRead_71 (lv_at hl 1 rfl) ?_
                refine lv_iload X.1.1 X.1.2.1 zd_De_isCopyRead_73 (lv_at hl 0 rfl) ?_
                refine rCv (wr := [(r0, .inr (3, [.int (nI u2)])), (o, .inr (1, [.ref a, .int (nI n)])), (a, .inl (cB, N, .inl (f)))]) (wf := fun _ => [(r0, .inr (3, [.int (nI u2)])), (o, .inr (1, [.ref a, .int (nI n)])), (a, .inl (cB, N, .inl (f))), (o2, .inr (1, [.ref a2, .int (nI n2)])), (a2, .inl (cB2, N2, .inl (f2))), (o3, .inr (1, [.ref a3, .int (nI (n3 + 65536))])), (a3, .inl (cB3, N3, .inl (va_cpy f2 f3 v1 n3 65536)))]) (rest := []) X h hl.1 (zc_Tx_addPart l D (o := o3) (a := a3) (n := n3) (N := N3) (f := f3) (cB := cB3) (o2 := o2) (a2 := a2) (n2 := n2) (N2 := N2) (f2 := f2) (cB2 := cB2) (q := v1) (k := 65536) (hf2) (by omega) (by omega) (by omega) (by omega) H.size) zw_424 zw_246 zw_247 zw_2 zm_Tx_addPart zq_Tx_addPart ⟨Nat.le_of_ble_eq_true rfl, Nat.le_of_ble_eq_true rfl⟩ ⟨Nat.le_of_ble_eq_true rfl, Nat.le_of_ble_eq_true rfl⟩ [2, 1] rfl [5, 6, 3, 4] [0, 1, 2] [0, 1, 2, 5, 6, 3, 4] rfl (by decide) rfl (by decide) (by decide) (fun _ => rfl) (by decide) 0 rfl rfl rfl (Nat.le_of_ble_eq_true rfl) zd_De_isCopyRead_75 (fun _ H locs hp h => ?_)
                have h : zH D A s [(r0, .inr (3, [.int (nI u2)])), (o, .inr (1, [.ref a, .int (nI n)])), (a, .inl (cB, N, .inl (f))), (o2, .inr (1, [.ref a2, .int (nI n2)])), (a2, .inl (cB2, N2, .inl (f2))), (o3, .inr (1, [.ref a3, .int (nI (n3 + 65536))])), (a3, .inl (cB3, N3, .inl (va_cpy f2 f3 v1 n3 65536)))] H locs := h
                have hyes : rdK (tx f n) (tx f2 n2) due b pl n3 = some (u2, v1, 65536) := by
                  unfold rdK; rw [e1]; dsimp only; rw [e2]; dsimp only; rw [tx_len, hmy, if_pos (by omega)]
                refine lv_iconst (v := nI 1) X.1.1 X.1.2.1 zd_De_isCopyRead_78 (by decide) ?_
                exact ret _ (u2, n3 + 65536, va_cpy f2 f3 v1 n3 65536) H locs ls _ (rfl) (⟨Or.inr ⟨rfl, v1, 65536, hyes, by rw [tx_cpy, tx_part f2 (m := n2) (by omega)]⟩, hu2, by show n3 + 65536 ≤ due; omega, sb_fitC hf2 hf3⟩) h zd_De_isCopyRead_79
              · have c5 : due - n3 < 65536 := zc_le_f (by omega) (by omega) c5
                have hno : rdK (tx f n) (tx f2 n2) due b pl n3 = none := by
                  unfold rdK; rw [e1]; dsimp only; rw [e2]; dsimp only; rw [tx_len, if_neg (by omega)]
                refine lv_iconst (v := nI 0) X.1.1 X.1.2.1 zd_De_isCopyRead_66 (by decide) ?_
                exact ret _ (u2, n3, f3) H locs ls _ (rfl) (⟨Or.inl ⟨rfl, hno⟩, hu2, h3, hf3⟩) h zd_De_isCopyRead_67
            · rw [sub_le (by omega) (by omega) (by omega)] at c4
              have hno : rdK (tx f n) (tx f2 n2) due b pl n3 = none := by
                unfold rdK; rw [e1]; dsimp only; rw [e2]; dsimp only; rw [tx_len, if_neg (by omega)]
              refine lv_iconst (v := nI 0) X.1.1 X.1.2.1 zd_De_isCopyRead_51 (by decide) ?_
              exact ret _ (u2, n3, f3) H locs ls _ (rfl) (⟨Or.inl ⟨rfl, hno⟩, hu2, h3, hf3⟩) h zd_De_isCopyRead_52

set_option maxHeartbeats 4000000 in
set_option maxRecDepth 100000 in
theorem zc_De_isRead (l : Launch) (D : va_G) {r0 pl : Nat} {o a n N : Nat} {f : Nat → Int32} {cB : ClassId} {o2 a2 n2 N2 : Nat} {f2 : Nat → Int32} {cB2 : ClassId} {o3 a3 n3 N3 : Nat} {f3 : Nat → Int32} {cB3 : ClassId} (hnN : n ≤ N) (hN : N < 2 ^ 30) (hf : sb_Fit f) (h2 : n2 ≤ N2) (hN2 : N2 < 2 ^ 30) (hf2 : sb_Fit f2) (h3 : 65536 ≤ N3) (hN3 : N3 < 2 ^ 30) (hf3 : sb_Fit f3) (sz : Nat) : zMi l D zy_De_isRead zb_De_isRead 7 .boolean ({ frames := 3, cells := 0, slots := 0, locals := 74 } : Room) [.ref r0, .ref o, .ref o2, .ref o3] [(cB, .byte), (cB2, .byte), (cB3, .byte)] [(r0, .inr (3, [.int (nI pl)])), (o, .inr (1, [.ref a, .int (nI n)])), (a, .inl (cB, N, .inl (f))), (o2, .inr (1, [.ref a2, .int (nI n2)])), (a2, .inl (cB2, N2, .inl (f2))), (o3, .inr (1, [.ref a3, .int (nI n3)])), (a3, .inl (cB3, N3, .inl (f3)))] sz (fun (r : Int32) (u : Nat × Nat × (Nat → Int32)) => ((r = 0 ∧ rdA (tx f n) (tx f2 n2) = none) ∨ (r = 1 ∧ rdA (tx f n) (tx f2 n2) = some (tx u.2.2 u.2.1))) ∧ u.2.1 ≤ 65536 ∧ sb_Fit u.2.2) (fun u => [(r0, .inr (3, [.int (nI u.1)])), (o, .inr (1, [.ref a, .int (nI n)])), (a, .inl (cB, N, .inl (f))), (o2, .inr (1, [.ref a2, .int (nI n2)])), (a2, .inl (cB2, N2, .inl (f2))), (o3, .inr (1, [.ref a3, .int (nI u.2.1)])), (a3, .inl (cB3, N3, .inl (u.2.2)))]) := by
  refine zEz (by decide) (Nat.le_of_ble_eq_true rfl) (fun p e s m args below meth c ls A Q X hl h hsz ret => ?_)
  have hl : lv_has ls 7 [(0, .ref r0), (1, .ref o), (2, .ref o2), (3, .ref o3)] := hl
  generalize hH0 : s.heap = H at h ⊢
  have h : zH D A s [(r0, .inr (3, [.int (nI pl)])), (o, .inr (1, [.ref a, .int (nI n)])), (a, .inl (cB, N, .inl (f))), (o2, .inr (1, [.ref a2, .int (nI n2)])), (a2, .inl (cB2, N2, .inl (f2))), (o3, .inr (1, [.ref a3, .int (nI n3)])), (a3, .inl (cB3, N3, .inl (f3)))] H [] := h
  generalize hL0 : ([] : List Loc) = locs at h ⊢
  refine lv_aload_n X.1.1 X.1.2.1 zd_De_isRead_0 rfl (lv_at hl 3 rfl) ?_
  refine lv_iconst (v := nI 0) X.1.1 X.1.2.1 zd_De_isRead_1 (by decide) ?_
  refine rCv (wr := [(r0, .inr (3, [.int (nI pl)])), (o, .inr (1, [.ref a, .int (nI n)])), (a, .inl (cB, N, .inl (f))), (o2, .inr (1, [.ref a2, .int (nI n2)])), (a2, .inl (cB2, N2, .inl (f2)))]) (wf := fun _ => [(r0, .inr (3, [.int (nI pl)])), (o, .inr (1, [.ref a, .int (nI n)])), (a, .inl (cB, N, .inl (f))), (o2, .inr (1, [.ref a2, .int (nI n2)])), (a2, .inl (cB2, N2, .inl (f2))), (o3, .inr (1, [.ref a3, .int (nI 0)])), (a3, .inl (cB3, N3, .inl (f3)))]) (rest := []) X h hl.1 (zc_Tx_cut l D (o := o3) (a := a3) (n := n3) (N := N3) (f := f3) (cB := cB3) (k := 0)  H.size) zw_405 zw_141 zw_142 zw_2 zm_Tx_cut zq_Tx_cut ⟨Nat.le_of_ble_eq_true rfl, Nat.le_of_ble_eq_true rfl⟩ ⟨Nat.le_of_ble_eq_true rfl, Nat.le_of_ble_eq_true rfl⟩ [2] rfl [5, 6] [0, 1, 2, 3, 4] [0, 1, 2, 3, 4, 5, 6] rfl (by decide) rfl (by decide) (by decide) (fun _ => rfl) (by decide) 0 rfl rfl rfl (Nat.le_of_ble_eq_true rfl) zd_De_isRead_2 (fun _ H locs hp h => ?_)
  have h : zH D A s [(r0, .inr (3, [.int (nI pl)])), (o, .inr (1, [.ref a, .int (nI n)])), (a, .inl (cB, N, .inl (f))), (o2, .inr (1, [.ref a2, .int (nI n2)])), (a2, .inl (cB2, N2, .inl (f2))), (o3, .inr (1, [.ref a3, .int (nI 0)])), (a3, .inl (cB3, N3, .inl (f3)))] H locs := h
  refine lv_aload_n X.1.1 X.1.2.1 zd_De_isRead_5 rfl (lv_at hl 0 rfl) ?_
  refine lv_iconst (v := nI 0) X.1.1 X.1.2.1 zd_De_isRead_6 (by decide) ?_
  refine rP X h 0 rfl rfl zW_De zO_De zN_De 0 (by decide) zw_101 rfl (rfl) (rfl) (Nat.le_of_ble_eq_true rfl) zd_De_isRead_7 (fun H locs h => ?_)
  have h : zH D A s [(r0, .inr (3, [.int (nI 0)])), (o, .inr (1, [.ref a, .int (nI n)])), (a, .inl (cB, N, .inl (f))), (o2, .inr (1, [.ref a2, .int (nI n2)])), (a2, .inl (cB2, N2, .inl (f2))), (o3, .inr (1, [.ref a3, .int (nI 0)])), (a3, .inl (cB3, N3, .inl (f3)))] H locs := h
  refine lv_aload_n X.1.1 X.1.2.1 zd_De_isRead_10 rfl (lv_at hl 0 rfl) ?_
  refine lv_aload_n X.1.1 X.1.2.1 zd_De_isRead_11 rfl (lv_at hl 1 rfl) ?_
  refine rCi (wr := [(o2, .inr (1, [.ref a2, .int (nI n2)])), (a2, .inl (cB2, N2, .inl (f2))), (o3, .inr (1, [.ref a3, .int (nI 0)])), (a3, .inl (cB3, N3, .inl (f3)))]) (wf := fun u1 => [(r0, .inr (3, [.int (nI u1)])), (o, .inr (1, [.ref a, .int (nI n)])), (a, .inl (cB, N, .inl (f))), (o2, .inr (1, [.ref a2, .int (nI n2)])), (a2, .inl (cB2, N2, .inl (f2))), (o3, .inr (1, [.ref a3, .int (nI 0)])), (a3, .inl (cB3, N3, .inl (f3)))]) (rest := []) X h hl.1 (zc_De_readNumber l D (r0 := r0) (pl := 0) (o := o) (a := a) (n := n) (N := N) (f := f) (cB := cB) (by omega) (hnN) (hN) H.size) zw_406 zw_408 zs_13 zw_4 zm_De_readNumber zq_De_readNumber ⟨Nat.le_of_ble_eq_true rfl, Nat.le_of_ble_eq_true rfl⟩ ⟨Nat.le_of_ble_eq_true rfl, Nat.le_of_ble_eq_true rfl⟩ [0] rfl [0, 1, 2] [3, 4, 5, 6] [4, 5, 6, 0, 1, 2, 3] rfl (by decide) rfl (by decide) (by decide) (fun _ => rfl) (by decide) 0 rfl rfl rfl (Nat.le_of_ble_eq_true rfl) zd_De_isRead_12 (fun r u1 H locs hp h => ?_)
  have q1 : ((rdN (tx f n) 4 0 0 0 = none ∧ r = (-1)) ∨ ∃ v, rdN (tx f n) 4 0 0 0 = some (v, u1) ∧ r = nI v ∧ v < 2 ^ 28) ∧ u1 ≤ n := hp
  have h : zH D A s [(r0, .inr (3, [.int (nI u1)])), (o, .inr (1, [.ref a, .int (nI n)])), (a, .inl (cB, N, .inl (f))), (o2, .inr (1, [.ref a2, .int (nI n2)])), (a2, .inl (cB2, N2, .inl (f2))), (o3, .inr (1, [.ref a3, .int (nI 0)])), (a3, .inl (cB3, N3, .inl (f3)))] H locs := h
  obtain ⟨q1, hu1⟩ := q1
  rcases q1 with ⟨e1, rfl⟩ | ⟨v1, e1, rfl, b1⟩
  · refine lv_aload_n X.1.1 X.1.2.1 zd_De_isRead_15 rfl (lv_at hl 2 rfl) ?_
    refine rCi (wr := [(r0, .inr (3, [.int (nI u1)])), (o, .inr (1, [.ref a, .int (nI n)])), (a, .inl (cB, N, .inl (f))), (o3, .inr (1, [.ref a3, .int (nI 0)])), (a3, .inl (cB3, N3, .inl (f3)))]) (wf := fun _ => [(r0, .inr (3, [.int (nI u1)])), (o, .inr (1, [.ref a, .int (nI n)])), (a, .inl (cB, N, .inl (f))), (o2, .inr (1, [.ref a2, .int (nI n2)])), (a2, .inl (cB2, N2, .inl (f2))), (o3, .inr (1, [.ref a3, .int (nI 0)])), (a3, .inl (cB3, N3, .inl (f3)))]) (rest := [.int ((-1))]) X h hl.1 (zc_Tx_size l D (o := o2) (a := a2) (n := n2) (N := N2) (f := f2) (cB := cB2)  H.size) zw_410 zw_145 zw_146 zw_2 zm_Tx_size zq_Tx_size ⟨Nat.le_of_ble_eq_true rfl, Nat.le_of_ble_eq_true rfl⟩ ⟨Nat.le_of_ble_eq_true rfl, Nat.le_of_ble_eq_true rfl⟩ [1] rfl [3, 4] [0, 1, 2, 5, 6] [0, 1, 2, 5, 6, 3, 4] rfl (by decide) rfl (by decide) (by decide) (fun _ => rfl) (by decide) 0 rfl rfl rfl (Nat.le_of_ble_eq_true rfl) zd_De_isRead_16 (fun r _ H locs hp h => ?_)
    obtain ⟨rfl, -⟩ := hp
    have h : zH D A s [(r0, .inr (3, [.int (nI u1)])), (o, .inr (1, [.ref a, .int (nI n)])), (a, .inl (cB, N, .inl (f))), (o2, .inr (1, [.ref a2, .int (nI n2)])), (a2, .inl (cB2, N2, .inl (f2))), (o3, .inr (1, [.ref a3, .int (nI 0)])), (a3, .inl (cB3, N3, .inl (f3)))] H locs := h
    refine lv_icmp_eq (tgt := 24) X.1.1 X.1.2.1 zd_De_isRead_19 rfl (fun c1 => ?_) (fun c1 => ?_)
    · exact absurd c1 (m1_ne (by omega))
    · have hno : rdA (tx f n) (tx f2 n2) = none := by
        unfold rdA; rw [e1]
      refine lv_iconst (v := nI 0) X.1.1 X.1.2.1 zd_De_isRead_22 (by decide) ?_
      exact ret _ (u1, 0, f3) H locs ls _ (rfl) (⟨Or.inl ⟨rfl, hno⟩, by dsimp only; omega, hf3⟩) h zd_De_isRead_23
  · refine lv_aload_n X.1.1 X.1.2.1 zd_De_isRead_15 rfl (lv_at hl 2 rfl) ?_
    refine rCi (wr := [(r0, .inr (3, [.int (nI u1)])), (o, .inr (1, [.ref a, .int (nI n)])), (a, .inl (cB, N, .inl (f))), (o3, .inr (1, [.ref a3, .int (nI 0)])), (a3, .inl (cB3, N3, .inl (f3)))]) (wf := fun _ => [(r0, .inr (3, [.int (nI u1)])), (o, .inr (1, [.ref a, .int (nI n)])), (a, .inl (cB, N, .inl (f))), (o2, .inr (1, [.ref a2, .int (nI n2)])), (a2, .inl (cB2, N2, .inl (f2))), (o3, .inr (1, [.ref a3, .int (nI 0)])), (a3, .inl (cB3, N3, .inl (f3)))]) (rest := [.int (nI v1)]) X h hl.1 (zc_Tx_size l D (o := o2) (a := a2) (n := n2) (N := N2) (f := f2) (cB := cB2)  H.size) zw_410 zw_145 zw_146 zw_2 zm_Tx_size zq_Tx_size ⟨Nat.le_of_ble_eq_true rfl, Nat.le_of_ble_eq_true rfl⟩ ⟨Nat.le_of_ble_eq_true rfl, Nat.le_of_ble_eq_true rfl⟩ [1] rfl [3, 4] [0, 1, 2, 5, 6] [0, 1, 2, 5, 6, 3, 4] rfl (by decide) rfl (by decide) (by decide) (fun _ => rfl) (by decide) 0 rfl rfl rfl (Nat.le_of_ble_eq_true rfl) zd_De_isRead_16 (fun r _ H locs hp h => ?_)
    obtain ⟨rfl, -⟩ := hp
    have h : zH D A s [(r0, .inr (3, [.int (nI u1)])), (o, .inr (1, [.ref a, .int (nI n)])), (a, .inl (cB, N, .inl (f))), (o2, .inr (1, [.ref a2, .int (nI n2)])), (a2, .inl (cB2, N2, .inl (f2))), (o3, .inr (1, [.ref a3, .int (nI 0)])), (a3, .inl (cB3, N3, .inl (f3)))] H locs := h
    refine lv_icmp_eq (tgt := 24) X.1.1 X.1.2.1 zd_De_isRead_19 rfl (fun c1 => ?_) (fun c1 => ?_)
    · have c1 : v1 = n2 := zc_eq_t (by omega) (by omega) c1
      refine lv_aload_n X.1.1 X.1.2.1 zd_De_isRead_24 rfl (lv_at hl 0 rfl) ?_
      refine lv_aload_n X.1.1 X.1.2.1 zd_De_isRead_25 rfl (lv_at hl 1 rfl) ?_
      refine rCi (wr := [(o2, .inr (1, [.ref a2, .int (nI n2)])), (a2, .inl (cB2, N2, .inl (f2))), (o3, .inr (1, [.ref a3, .int (nI 0)])), (a3, .inl (cB3, N3, .inl (f3)))]) (wf := fun u2 => [(r0, .inr (3, [.int (nI u2)])), (o, .inr (1, [.ref a, .int (nI n)])), (a, .inl (cB, N, .inl (f))), (o2, .inr (1, [.ref a2, .int (nI n2)])), (a2, .inl (cB2, N2, .inl (f2))), (o3, .inr (1, [.ref a3, .int (nI 0)])), (a3, .inl (cB3, N3, .inl (f3)))]) (rest := []) X h hl.1 (zc_De_readNumber l D (r0 := r0) (pl := u1) (o := o) (a := a) (n := n) (N := N) (f := f) (cB := cB) (hu1) (hnN) (hN) H.size) zw_406 zw_408 zs_13 zw_4 zm_De_readNumber zq_De_readNumber ⟨Nat.le_of_ble_eq_true rfl, Nat.le_of_ble_eq_true rfl⟩ ⟨Nat.le_of_ble_eq_true rfl, Nat.le_of_ble_eq_true rfl⟩ [0] rfl [0, 1, 2] [3, 4, 5, 6] [4, 5, 6, 0, 1, 2, 3] rfl (by decide) rfl (by decide) (by decide) (fun _ => rfl) (by decide) 0 rfl rfl rfl (Nat.le_of_ble_eq_true rfl) zd_De_isRead_26 (fun r u2 H locs hp h => ?_)
      have q2 : ((rdN (tx f n) 4 0 u1 0 = none ∧ r = (-1)) ∨ ∃ v, rdN (tx f n) 4 0 u1 0 = some (v, u2) ∧ r = nI v ∧ v < 2 ^ 28) ∧ u2 ≤ n := hp
      have h : zH D A s [(r0, .inr (3, [.int (nI u2)])), (o, .inr (1, [.ref a, .int (nI n)])), (a, .inl (cB, N, .inl (f))), (o2, .inr (1, [.ref a2, .int (nI n2)])), (a2, .inl (cB2, N2, .inl (f2))), (o3, .inr (1, [.ref a3, .int (nI 0)])), (a3, .inl (cB3, N3, .inl (f3)))] H locs := h
      obtain ⟨q2, hu2⟩ := q2
      rcases q2 with ⟨e2, rfl⟩ | ⟨due, e2, rfl, b2⟩
      · refine lv_istore X.1.1 X.1.2.1 zd_De_isRead_29 hl (by decide) rfl (fun ls hl => ?_)
        have hl : lv_has ls 7 [(4, .int ((-1))), (0, .ref r0), (1, .ref o), (2, .ref o2), (3, .ref o3)] := hl
        refine lv_iload X.1.1 X.1.2.1 zd_De_isRead_31 (lv_at hl 0 rfl) ?_
        refine lv_iconst (v := (-1)) X.1.1 X.1.2.1 zd_De_isRead_33 (by decide) ?_
        refine lv_icmp_eq (tgt := 44) X.1.1 X.1.2.1 zd_De_isRead_34 rfl (fun c2 => ?_) (fun c2 => ?_)
        · have hno : rdA (tx f n) (tx f2 n2) = none := by
            unfold rdA; rw [e1]; dsimp only; rw [tx_len, if_pos c1, e2]
          refine lv_iconst (v := nI 0) X.1.1 X.1.2.1 zd_De_isRead_44 (by decide) ?_
          exact ret _ (u2, 0, f3) H locs ls _ (rfl) (⟨Or.inl ⟨rfl, hno⟩, by dsimp only; omega, hf3⟩) h zd_De_isRead_45
        · exact absurd rfl c2
      · refine lv_istore X.1.1 X.1.2.1 zd_De_isRead_29 hl (by decide) rfl (fun ls hl => ?_)
        have hl : lv_has ls 7 [(4, .int (nI due)), (0, .ref r0), (1, .ref o), (2, .ref o2), (3, .ref o3)] := hl
        refine lv_iload X.1.1 X.1.2.1 zd_De_isRead_31 (lv_at hl 0 rfl) ?_
        refine lv_iconst (v := (-1)) X.1.1 X.1.2.1 zd_De_isRead_33 (by decide) ?_
        refine lv_icmp_eq (tgt := 44) X.1.1 X.1.2.1 zd_De_isRead_34 rfl (fun c2 => ?_) (fun c2 => ?_)
        · exact absurd c2.symm (m1_ne (by omega))
        · refine lv_iload X.1.1 X.1.2.1 zd_De_isRead_37 (lv_at hl 0 rfl) ?_
          refine lv_ldc X.1.1 X.1.2.1 X.1.2.2.2.1 (X.1.2.2.2.2 _ zw_415) zd_De_isRead_39 ?_
          refine zTop (y := nI 65536) (by decide) ?_
          refine lv_icmp_le (tgt := 46) X.1.1 X.1.2.1 zd_De_isRead_41 rfl (fun c3 => ?_) (fun c3 => ?_)
          · have c3 : due ≤ 65536 := zc_le_t (by omega) (by omega) c3
            have hA : rdA (tx f n) (tx f2 n2) = rdB (tx f n) (tx f2 n2) due (n + 1) u2 (tx f3 0) := by
              unfold rdA; rw [e1]; dsimp only; rw [tx_len, tx_len, if_pos c1, e2]; dsimp only; rw [if_pos c3]; rfl
            have loop : ∀ (fu : Nat) (q : Nat) (p1 : Nat) (n4 : Nat) (g : Nat → Int32) (ls : Array Slot) (H : Heap) (locs : List Loc), n - p1 < fu → n < p1 + q → p1 ≤ n → n4 ≤ due → sb_Fit g → rdA (tx f n) (tx f2 n2) = rdB (tx f n) (tx f2 n2) due q p1 (tx g n4) → lv_has ls 7 [(0, .ref r0), (1, .ref o), (2, .ref o2), (3, .ref o3), (4, .int (nI due))] → zH D A s [(r0, .inr (3, [.int (nI p1)])), (o, .inr (1, [.ref a, .int (nI n)])), (a, .inl (cB, N, .inl (f))), (o2, .inr (1, [.ref a2, .int (nI n2)])), (a2, .inl (cB2, N2, .inl (f2))), (o3, .inr (1, [.ref a3, .int (nI n4)])), (a3, .inl (cB3, N3, .inl (g)))] H locs → W p l e ({ frames := 3, cells := 0, slots := 0, locals := 74 } : Room) s m args below meth c H locs 0 0 Q (F0 m 46 ls []) := by
              intro fu
              induction fu with
              | zero => intro q p1 n4 g ls H locs hfu; exact absurd hfu (Nat.not_lt_zero _)
              | succ fu ih =>
                intro q p1 n4 g ls H locs hfu hq hp1 hn4 hg he hl h
                obtain ⟨q, rfl⟩ : ∃ q1, q = q1 + 1 := ⟨q - 1, by omega⟩
                refine lv_aload_n X.1.1 X.1.2.1 zd_De_isRead_46 rfl (lv_at hl 0 rfl) ?_
                refine rG X h 0 rfl rfl zW_De 0 (by decide) zw_101 rfl zd_De_isRead_47 ?_
                refine lv_aload_n X.1.1 X.1.2.1 zd_De_isRead_50 rfl (lv_at hl 1 rfl) ?_
                refine rCi (wr := [(r0, .inr (3, [.int (nI p1)])), (o2, .inr (1, [.ref a2, .int (nI n2)])), (a2, .inl (cB2, N2, .inl (f2))), (o3, .inr (1, [.ref a3, .int (nI n4)])), (a3, .inl (cB3, N3, .inl (g)))]) (wf := fun _ => [(r0, .inr (3, [.int (nI p1)])), (o, .inr (1, [.ref a, .int (nI n)])), (a, .inl (cB, N, .inl (f))), (o2, .inr (1, [.ref a2, .int (nI n2)])), (a2, .inl (cB2, N2, .inl (f2))), (o3, .inr (1, [.ref a3, .int (nI n4)])), (a3, .inl (cB3, N3, .inl (g)))]) (rest := [.int (nI p1)]) X h hl.1 (zc_Tx_size l D (o := o) (a := a) (n := n) (N := N) (f := f) (cB := cB)  H.size) zw_410 zw_145 zw_146 zw_2 zm_Tx_size zq_Tx_size ⟨Nat.le_of_ble_eq_true rfl, Nat.le_of_ble_eq_true rfl⟩ ⟨Nat.le_of_ble_eq_true rfl, Nat.le_of_ble_eq_true rfl⟩ [0] rfl [1, 2] [0, 3, 4, 5, 6] [0, 5, 6, 1, 2, 3, 4] rfl (by decide) rfl (by decide) (by decide) (fun _ => rfl) (by decide) 0 rfl rfl rfl (Nat.le_of_ble_eq_true rfl) zd_De_isRead_51 (fun r _ H locs hp h => ?_)
                obtain ⟨rfl, -⟩ := hp
                have h : zH D A s [(r0, .inr (3, [.int (nI p1)])), (o, .inr (1, [.ref a, .int (nI n)])), (a, .inl (cB, N, .inl (f))), (o2, .inr (1, [.ref a2, .int (nI n2)])), (a2, .inl (cB2, N2, .inl (f2))), (o3, .inr (1, [.ref a3, .int (nI n4)])), (a3, .inl (cB3, N3, .inl (g)))] H locs := h
                refine lv_icmp_ge (tgt := 121) X.1.1 X.1.2.1 zd_De_isRead_54 rfl (fun c4 => ?_) (fun c4 => ?_)
                · have c4 : n ≤ p1 := zc_ge_t (by omega) (by omega) c4
                  rw [rdB_end (by rw [tx_len]; exact c4), tx_len] at he
                  refine lv_aload_n X.1.1 X.1.2.1 zd_De_isRead_121 rfl (lv_at hl 3 rfl) ?_
                  refine rCi (wr := [(r0, .inr (3, [.int (nI p1)])), (o, .inr (1, [.ref a, .int (nI n)])), (a, .inl (cB, N, .inl (f))), (o2, .inr (1, [.ref a2, .int (nI n2)])), (a2, .inl (cB2, N2, .inl (f2)))]) (wf := fun _ => [(r0, .inr (3, [.int (nI p1)])), (o, .inr (1, [.ref a, .int (nI n)])), (a, .inl (cB, N, .inl (f))), (o2, .inr (1, [.ref a2, .int (nI n2)])), (a2, .inl (cB2, N2, .inl (f2))), (o3, .inr (1, [.ref a3, .int (nI n4)])), (a3, .inl (cB3, N3, .inl (g)))]) (rest := []) X h hl.1 (zc_Tx_size l D (o := o3) (a := a3) (n := n4) (N := N3) (f := g) (cB := cB3)  H.size) zw_410 zw_145 zw_146 zw_2 zm_Tx_size zq_Tx_size ⟨Nat.le_of_ble_eq_true rfl, Nat.le_of_ble_eq_true rfl⟩ ⟨Nat.le_of_ble_eq_true rfl, Nat.le_of_ble_eq_true rfl⟩ [2] rfl [5, 6] [0, 1, 2, 3, 4] [0, 1, 2, 3, 4, 5, 6] rfl (by decide) rfl (by decide) (by decide) (fun _ => rfl) (by decide) 0 rfl rfl rfl (Nat.le_of_ble_eq_true rfl) zd_De_isRead_122 (fun r _ H locs hp h => ?_)
                  obtain ⟨rfl, -⟩ := hp
                  have h : zH D A s [(r0, .inr (3, [.int (nI p1)])), (o, .inr (1, [.ref a, .int (nI n)])), (a, .inl (cB, N, .inl (f))), (o2, .inr (1, [.ref a2, .int (nI n2)])), (a2, .inl (cB2, N2, .inl (f2))), (o3, .inr (1, [.ref a3, .int (nI n4)])), (a3, .inl (cB3, N3, .inl (g)))] H locs := h
                  refine lv_iload X.1.1 X.1.2.1 zd_De_isRead_125 (lv_at hl 4 rfl) ?_
                  refine lv_icmp_ne (tgt := 134) X.1.1 X.1.2.1 zd_De_isRead_127 rfl (fun c5 => ?_) (fun c5 => ?_)
                  · have c5 : n4 ≠ due := zc_ne_t (by omega) (by omega) c5
                    have hno : rdA (tx f n) (tx f2 n2) = none := by
                      rw [he, if_neg c5]
                    refine lv_iconst (v := nI 0) X.1.1 X.1.2.1 zd_De_isRead_134 (by decide) ?_
                    exact ret _ (p1, n4, g) H locs ls _ (rfl) (⟨Or.inl ⟨rfl, hno⟩, by dsimp only; omega, hg⟩) h zd_De_isRead_135
                  · have c5 : n4 = due := zc_ne_f (by omega) (by omega) c5
                    rw [if_pos c5] at he
                    refine lv_iconst (v := nI 1) X.1.1 X.1.2.1 zd_De_isRead_130 (by decide) ?_
                    refine lv_goto (tgt := 135) X.1.1 X.1.2.1 zd_De_isRead_131 rfl ?_
                    exact ret _ (p1, n4, g) H locs ls _ (rfl) (⟨Or.inr ⟨rfl, he⟩, by show n4 ≤ 65536; omega, hg⟩) h zd_De_isRead_135
                · have c4 : p1 < n := zc_ge_f (by omega) (by omega) c4
                  have c6 : p1 < (tx f n).length := by rw [tx_len]; exact c4
                  have hub := ub_lt (f p1)
                  refine lv_aload_n X.1.1 X.1.2.1 zd_De_isRead_57 rfl (lv_at hl 1 rfl) ?_
                  refine lv_aload_n X.1.1 X.1.2.1 zd_De_isRead_58 rfl (lv_at hl 0 rfl) ?_
                  refine rG X h 0 rfl rfl zW_De 0 (by decide) zw_101 rfl zd_De_isRead_59 ?_
                  refine rCi (wr := [(r0, .inr (3, [.int (nI p1)])), (o2, .inr (1, [.ref a2, .int (nI n2)])), (a2, .inl (cB2, N2, .inl (f2))), (o3, .inr (1, [.ref a3, .int (nI n4)])), (a3, .inl (cB3, N3, .inl (g)))]) (wf := fun _ => [(r0, .inr (3, [.int (nI p1)])), (o, .inr (1, [.ref a, .int (nI n)])), (a, .inl (cB, N, .inl (f))), (o2, .inr (1, [.ref a2, .int (nI n2)])), (a2, .inl (cB2, N2, .inl (f2))), (o3, .inr (1, [.ref a3, .int (nI n4)])), (a3, .inl (cB3, N3, .inl (g)))]) (rest := []) X h hl.1 (zc_Tx_at l D (o := o) (a := a) (n := n) (N := N) (f := f) (cB := cB) (j := p1) (by omega) (by omega) H.size) zw_411 zw_412 zw_413 zw_2 zm_Tx_at zq_Tx_at ⟨Nat.le_of_ble_eq_true rfl, Nat.le_of_ble_eq_true rfl⟩ ⟨Nat.le_of_ble_eq_true rfl, Nat.le_of_ble_eq_true rfl⟩ [0] rfl [1, 2] [0, 3, 4, 5, 6] [0, 5, 6, 1, 2, 3, 4] rfl (by decide) rfl (by decide) (by decide) (fun _ => rfl) (by decide) 0 rfl rfl rfl (Nat.le_of_ble_eq_true rfl) zd_De_isRead_62 (fun r _ H locs hp h => ?_)
                  obtain ⟨rfl, -⟩ := hp
                  have h : zH D A s [(r0, .inr (3, [.int (nI p1)])), (o, .inr (1, [.ref a, .int (nI n)])), (a, .inl (cB, N, .inl (f))), (o2, .inr (1, [.ref a2, .int (nI n2)])), (a2, .inl (cB2, N2, .inl (f2))), (o3, .inr (1, [.ref a3, .int (nI n4)])), (a3, .inl (cB3, N3, .inl (g)))] H locs := h
                  refine lv_istore X.1.1 X.1.2.1 zd_De_isRead_65 hl (by decide) rfl (fun ls hl => ?_)
                  have hl : lv_has ls 7 [(5, .int (nI (ub (f p1)))), (0, .ref r0), (1, .ref o), (2, .ref o2), (3, .ref o3), (4, .int (nI due))] := hl
                  refine lv_aload_n X.1.1 X.1.2.1 zd_De_isRead_67 rfl (lv_at hl 1 rfl) ?_
                  refine lv_dup X.1.1 X.1.2.1 zd_De_isRead_68 rfl ?_
                  refine rG X h 0 rfl rfl zW_De 0 (by decide) zw_101 rfl zd_De_isRead_69 ?_
                  refine lv_iconst (v := nI 1) X.1.1 X.1.2.1 zd_De_isRead_72 (by decide) ?_
                  refine lv_iadd X.1.1 X.1.2.1 zd_De_isRead_73 ?_
                  refine zTop (y := nI (p1 + 1)) (nI_add _ _) ?_
                  refine rP X h 0 rfl rfl zW_De zO_De zN_De 0 (by decide) zw_101 rfl (rfl) (rfl) (Nat.le_of_ble_eq_true rfl) zd_De_isRead_74 (fun H locs h => ?_)
                  have h : zH D A s [(r0, .inr (3, [.int (nI (p1 + 1))])), (o, .inr (1, [.ref a, .int (nI n)])), (a, .inl (cB, N, .inl (f))), (o2, .inr (1, [.ref a2, .int (nI n2)])), (a2, .inl (cB2, N2, .inl (f2))), (o3, .inr (1, [.ref a3, .int (nI n4)])), (a3, .inl (cB3, N3, .inl (g)))] H locs := h
                  refine lv_iload X.1.1 X.1.2.1 zd_De_isRead_77 (lv_at hl 0 rfl) ?_
                  refine lv_sipush (v := nI 128) X.1.1 X.1.2.1 zd_De_isRead_79 (by decide) ?_
                  refine lv_icmp_lt (tgt := 99) X.1.1 X.1.2.1 zd_De_isRead_82 rfl (fun c7 => ?_) (fun c7 => ?_)
                  · have c7 : ub (f p1) < 128 := zc_lt_t (by omega) (by omega) c7
                    have hW := rdB_W (T := tx f2 n2) (made := tx g n4) (due := due) (q := q) c6 (by rw [tf_tx c4]; omega)
                    rw [tf_tx c4, tx_len, tx_len] at hW
                    refine lv_aload_n X.1.1 X.1.2.1 zd_De_isRead_99 rfl (lv_at hl 1 rfl) ?_
                    refine lv_aload_n X.1.1 X.1.2.1 zd_De_isRead_100 rfl (lv_at hl 2 rfl) ?_
                    refine lv_iload X.1.1 X.1.2.1 zd_De_isRead_101 (lv_at hl 0 rfl) ?_
                    refine lv_aload_n X.1.1 X.1.2.1 zd_De_isRead_103 rfl (lv_at hl 4 rfl) ?_
                    refine lv_iload X.1.1 X.1.2.1 zd_De_isRead_104 (lv_at hl 5 rfl) ?_
                    refine rCi (wr := [(o2, .inr (1, [.ref a2, .int (nI n2)])), (a2, .inl (cB2, N2, .inl (f2)))]) (wf := fun u => [(r0, .inr (3, [.int (nI u.1)])), (o, .inr (1, [.ref a, .int (nI n)])), (a, .inl (cB, N, .inl (f))), (o2, .inr (1, [.ref a2, .int (nI n2)])), (a2, .inl (cB2, N2, .inl (f2))), (o3, .inr (1, [.ref a3, .int (nI u.2.1)])), (a3, .inl (cB3, N3, .inl (u.2.2)))]) (rest := []) X h hl.1 (zc_De_isNewRead l D (r0 := r0) (pl := p1 + 1) (o := o) (a := a) (n := n) (N := N) (f := f) (cB := cB) (o3 := o3) (a3 := a3) (n3 := n4) (N3 := N3) (f3 := g) (cB3 := cB3) (b := ub (f p1)) (due := due) (by omega) (hnN) (hN) (hf) (hn4) (by omega) (hN3) (hg) (by omega) H.size) zw_425 zw_427 zs_16 zw_4 zm_De_isNewRead zq_De_isNewRead ⟨Nat.le_of_ble_eq_true rfl, Nat.le_of_ble_eq_true rfl⟩ ⟨Nat.le_of_ble_eq_true rfl, Nat.le_of_ble_eq_true rfl⟩ [0, 2] rfl [0, 1, 2, 5, 6] [3, 4] [2, 3, 4, 0, 1, 5, 6] rfl (by decide) rfl (by decide) (by decide) (fun _ => rfl) (by decide) 0 rfl rfl rfl (Nat.le_of_ble_eq_true rfl) zd_De_isRead_106 (fun r u H locs hp h => ?_)
                    have q3 : ((r = 0 ∧ rdW n due (ub (f p1)) (p1 + 1) n4) ∨ (r = 1 ∧ ¬ rdW n due (ub (f p1)) (p1 + 1) n4 ∧ u.1 = p1 + 1 + (ub (f p1)) ∧ tx u.2.2 u.2.1 = tx g n4 ++ (((tx f n)).drop (p1 + 1)).take (ub (f p1)))) ∧ u.1 ≤ n ∧ u.2.1 ≤ due ∧ sb_Fit u.2.2 := hp
                    have h : zH D A s [(r0, .inr (3, [.int (nI u.1)])), (o, .inr (1, [.ref a, .int (nI n)])), (a, .inl (cB, N, .inl (f))), (o2, .inr (1, [.ref a2, .int (nI n2)])), (a2, .inl (cB2, N2, .inl (f2))), (o3, .inr (1, [.ref a3, .int (nI u.2.1)])), (a3, .inl (cB3, N3, .inl (u.2.2)))] H locs := h
                    obtain ⟨p2, n5, g2⟩ := u
                    have h : zH D A s [(r0, .inr (3, [.int (nI p2)])), (o, .inr (1, [.ref a, .int (nI n)])), (a, .inl (cB, N, .inl (f))), (o2, .inr (1, [.ref a2, .int (nI n2)])), (a2, .inl (cB2, N2, .inl (f2))), (o3, .inr (1, [.ref a3, .int (nI n5)])), (a3, .inl (cB3, N3, .inl (g2)))] H locs := h
                    obtain ⟨q3, hp2, hn5, hg2⟩ := q3
                    dsimp only at q3 hp2 hn5 hg2
                    rcases q3 with ⟨rfl, e3⟩ | ⟨rfl, e3, e4, e5⟩
                    · refine lv_istore X.1.1 X.1.2.1 zd_De_isRead_109 hl (by decide) rfl (fun ls hl => ?_)
                      have hl : lv_has ls 7 [(6, .int 0), (5, .int (nI (ub (f p1)))), (0, .ref r0), (1, .ref o), (2, .ref o2), (3, .ref o3), (4, .int (nI due))] := hl
                      refine lv_iload X.1.1 X.1.2.1 zd_De_isRead_111 (lv_at hl 0 rfl) ?_
                      refine lv_if_ne (tgt := 118) X.1.1 X.1.2.1 zd_De_isRead_113 rfl (fun c8 => ?_) (fun c8 => ?_)
                      · exact absurd rfl c8
                      · have hno : rdA (tx f n) (tx f2 n2) = none := by
                          rw [he, hW.1 e3]
                        refine lv_iconst (v := nI 0) X.1.1 X.1.2.1 zd_De_isRead_116 (by decide) ?_
                        exact ret _ (p2, n5, g2) H locs ls _ (rfl) (⟨Or.inl ⟨rfl, hno⟩, by dsimp only; omega, hg2⟩) h zd_De_isRead_117
                    · rw [hW.2 e3, ← e4, ← e5] at he
                      refine lv_istore X.1.1 X.1.2.1 zd_De_isRead_109 hl (by decide) rfl (fun ls hl => ?_)
                      have hl : lv_has ls 7 [(6, .int 1), (5, .int (nI (ub (f p1)))), (0, .ref r0), (1, .ref o), (2, .ref o2), (3, .ref o3), (4, .int (nI due))] := hl
                      refine lv_iload X.1.1 X.1.2.1 zd_De_isRead_111 (lv_at hl 0 rfl) ?_
                      refine lv_if_ne (tgt := 118) X.1.1 X.1.2.1 zd_De_isRead_113 rfl (fun c8 => ?_) (fun c8 => ?_)
                      · have hpos : ub (f p1) ≠ 0 := fun z => e3 (Or.inl z)
                        refine lv_goto (tgt := 46) X.1.1 X.1.2.1 zd_De_isRead_118 rfl ?_
                        exact ih q p2 n5 g2 ls H locs (by omega) (by omega) (hp2) (hn5) (hg2) (he) (lv_sub hl [2, 3, 4, 5, 6] rfl) h
                      · exact absurd c8 (by decide)
                  · have c7 : 128 ≤ ub (f p1) := zc_lt_f (by omega) (by omega) c7
                    rw [rdB_K c6 (by rw [tf_tx c4]; exact c7), tf_tx c4, tx_len] at he
                    refine lv_aload_n X.1.1 X.1.2.1 zd_De_isRead_85 rfl (lv_at hl 1 rfl) ?_
                    refine lv_aload_n X.1.1 X.1.2.1 zd_De_isRead_86 rfl (lv_at hl 2 rfl) ?_
                    refine lv_iload X.1.1 X.1.2.1 zd_De_isRead_87 (lv_at hl 0 rfl) ?_
                    refine lv_aload_n X.1.1 X.1.2.1 zd_De_isRead_89 rfl (lv_at hl 3 rfl) ?_
                    refine lv_aload_n X.1.1 X.1.2.1 zd_De_isRead_90 rfl (lv_at hl 4 rfl) ?_
                    refine lv_iload X.1.1 X.1.2.1 zd_De_isRead_91 (lv_at hl 5 rfl) ?_
                    refine rCi (wr := []) (wf := fun u => [(r0, .inr (3, [.int (nI u.1)])), (o, .inr (1, [.ref a, .int (nI n)])), (a, .inl (cB, N, .inl (f))), (o2, .inr (1, [.ref a2, .int (nI n2)])), (a2, .inl (cB2, N2, .inl (f2))), (o3, .inr (1, [.ref a3, .int (nI u.2.1)])), (a3, .inl (cB3, N3, .inl (u.2.2)))]) (rest := []) X h hl.1 (zc_De_isCopyRead l D (r0 := r0) (pl := p1 + 1) (o := o) (a := a) (n := n) (N := N) (f := f) (cB := cB) (o2 := o2) (a2 := a2) (n2 := n2) (N2 := N2) (f2 := f2) (cB2 := cB2) (o3 := o3) (a3 := a3) (n3 := n4) (N3 := N3) (f3 := g) (cB3 := cB3) (b := ub (f p1)) (due := due) (by omega) (hnN) (hN) (h2) (hN2) (hf2) (hn4) (by omega) (hN3) (hg) (by omega) H.size) zw_416 zw_418 zs_14 zw_4 zm_De_isCopyRead zq_De_isCopyRead ⟨Nat.le_of_ble_eq_true rfl, Nat.le_of_ble_eq_true rfl⟩ ⟨Nat.le_of_ble_eq_true rfl, Nat.le_of_ble_eq_true rfl⟩ [0, 1, 2] rfl [0, 1, 2, 3, 4, 5, 6] [] [0, 1, 2, 3, 4, 5, 6] rfl (by decide) rfl (by decide) (by decide) (fun _ => rfl) (by decide) 0 rfl rfl rfl (Nat.le_of_ble_eq_true rfl) zd_De_isRead_93 (fun r u H locs hp h => ?_)
                    have q3 : ((r = 0 ∧ rdK (tx f n) (tx f2 n2) due (ub (f p1)) (p1 + 1) n4 = none) ∨ (r = 1 ∧ ∃ fr mn, rdK (tx f n) (tx f2 n2) due (ub (f p1)) (p1 + 1) n4 = some (u.1, fr, mn) ∧ tx u.2.2 u.2.1 = tx g n4 ++ (((tx f2 n2)).drop fr).take mn)) ∧ u.1 ≤ n ∧ u.2.1 ≤ due ∧ sb_Fit u.2.2 := hp
                    have h : zH D A s [(r0, .inr (3, [.int (nI u.1)])), (o, .inr (1, [.ref a, .int (nI n)])), (a, .inl (cB, N, .inl (f))), (o2, .inr (1, [.ref a2, .int (nI n2)])), (a2, .inl (cB2, N2, .inl (f2))), (o3, .inr (1, [.ref a3, .int (nI u.2.1)])), (a3, .inl (cB3, N3, .inl (u.2.2)))] H locs := h
                    obtain ⟨p2, n5, g2⟩ := u
                    have h : zH D A s [(r0, .inr (3, [.int (nI p2)])), (o, .inr (1, [.ref a, .int (nI n)])), (a, .inl (cB, N, .inl (f))), (o2, .inr (1, [.ref a2, .int (nI n2)])), (a2, .inl (cB2, N2, .inl (f2))), (o3, .inr (1, [.ref a3, .int (nI n5)])), (a3, .inl (cB3, N3, .inl (g2)))] H locs := h
                    obtain ⟨q3, hp2, hn5, hg2⟩ := q3
                    dsimp only at q3 hp2 hn5 hg2
                    rcases q3 with ⟨rfl, e3⟩ | ⟨rfl, fr, mn, e3, e5⟩
                    · refine lv_goto (tgt := 109) X.1.1 X.1.2.1 zd_De_isRead_96 rfl ?_
                      refine lv_istore X.1.1 X.1.2.1 zd_De_isRead_109 hl (by decide) rfl (fun ls hl => ?_)
                      have hl : lv_has ls 7 [(6, .int 0), (5, .int (nI (ub (f p1)))), (0, .ref r0), (1, .ref o), (2, .ref o2), (3, .ref o3), (4, .int (nI due))] := hl
                      refine lv_iload X.1.1 X.1.2.1 zd_De_isRead_111 (lv_at hl 0 rfl) ?_
                      refine lv_if_ne (tgt := 118) X.1.1 X.1.2.1 zd_De_isRead_113 rfl (fun c8 => ?_) (fun c8 => ?_)
                      · exact absurd rfl c8
                      · have hno : rdA (tx f n) (tx f2 n2) = none := by
                          rw [he, e3]
                        refine lv_iconst (v := nI 0) X.1.1 X.1.2.1 zd_De_isRead_116 (by decide) ?_
                        exact ret _ (p2, n5, g2) H locs ls _ (rfl) (⟨Or.inl ⟨rfl, hno⟩, by dsimp only; omega, hg2⟩) h zd_De_isRead_117
                    · rw [e3] at he
                      dsimp only at he
                      rw [← e5] at he
                      have hadv := rdK_le e3
                      refine lv_goto (tgt := 109) X.1.1 X.1.2.1 zd_De_isRead_96 rfl ?_
                      refine lv_istore X.1.1 X.1.2.1 zd_De_isRead_109 hl (by decide) rfl (fun ls hl => ?_)
                      have hl : lv_has ls 7 [(6, .int 1), (5, .int (nI (ub (f p1)))), (0, .ref r0), (1, .ref o), (2, .ref o2), (3, .ref o3), (4, .int (nI due))] := hl
                      refine lv_iload X.1.1 X.1.2.1 zd_De_isRead_111 (lv_at hl 0 rfl) ?_
                      refine lv_if_ne (tgt := 118) X.1.1 X.1.2.1 zd_De_isRead_113 rfl (fun c8 => ?_) (fun c8 => ?_)
                      · refine lv_goto (tgt := 46) X.1.1 X.1.2.1 zd_De_isRead_118 rfl ?_
                        exact ih q p2 n5 g2 ls H locs (by omega) (by omega) (hp2) (hn5) (hg2) (he) (lv_sub hl [2, 3, 4, 5, 6] rfl) h
                      · exact absurd c8 (by decide)
            exact loop _ (n + 1) u2 0 f3 ls H locs (Nat.lt_succ_self _) (by omega) (hu2) (by omega) (hf3) (hA) (lv_sub hl [1, 2, 3, 4, 0] rfl) h
          · have c3 : 65536 < due := zc_le_f (by omega) (by omega) c3
            have hno : rdA (tx f n) (tx f2 n2) = none := by
              unfold rdA; rw [e1]; dsimp only; rw [tx_len, if_pos c1, e2]; dsimp only; rw [if_neg (by omega)]
            refine lv_iconst (v := nI 0) X.1.1 X.1.2.1 zd_De_isRead_44 (by decide) ?_
            exact ret _ (u2, 0, f3) H locs ls _ (rfl) (⟨Or.inl ⟨rfl, hno⟩, by dsimp only; omega, hf3⟩) h zd_De_isRead_45
    · have c1 : v1 ≠ n2 := zc_eq_f (by omega) (by omega) c1
      have hno : rdA (tx f n) (tx f2 n2) = none := by
        unfold rdA; rw [e1]; dsimp only; rw [tx_len, if_neg c1]
      refine lv_iconst (v := nI 0) X.1.1 X.1.2.1 zd_De_isRead_22 (by decide) ?_
      exact ret _ (u1, 0, f3) H locs ls _ (rfl) (⟨Or.inl ⟨rfl, hno⟩, by dsimp only; omega, hf3⟩) h zd_De_isRead_23
end
section
/-! DeltaPress$SuffixTree: slots and nodes -/
/-- where the way of the key (a, c) begins -/
def hN (sh a : Nat) (c : Int32) : Nat := (((nI a <<< (nI 8 &&& 31)) ||| (c &&& nI 255)) * (-1640531535)).toBitVec.toNat / 2 ^ sh
/-- who has the key (a, c) -/
def hok (pa st : Nat → Nat) (T : Nat → Int32) (a : Nat) (c : Int32) : Nat → Prop := fun v => pa v = a ∧ T (st v) = c
/-- what the slots must be for a look at them to end well -/
def tO (NB M sh nd : Nat) (st pa sl : Nat → Nat) : Prop := NB < 2 ^ 30 ∧ (∃ b, 3 ≤ b ∧ b ≤ 18 ∧ M = 2 ^ b ∧ sh = 32 - b) ∧ nd ≤ 131072 ∧ (∀ s, s < M → sl s < nd) ∧ (∀ s, s < M → sl s ≠ 0 → st (sl s) < NB ∧ pa (sl s) < 131072) ∧ ∃ r, r < M ∧ sl r = 0
theorem hN_lt {sh a b : Nat} {c : Int32} (h1 : b ≤ 32) (h2 : sh = 32 - b) : hN sh a c < 2 ^ b := by
  unfold hN
  generalize (((nI a <<< (nI 8 &&& 31)) ||| (c &&& nI 255)) * (-1640531535)) = x
  have hx := x.toBitVec.isLt
  refine Nat.div_lt_of_lt_mul ?_
  rw [← Nat.pow_add, show sh + b = 32 by omega]
  exact hx
theorem andM {x M b : Nat} (hM : M = 2 ^ b) (hb : b ≤ 18) (hx : x < 2 ^ 31) : nI x &&& nI (M - 1) = nI (x % M) := by
  have h1 : (2 : Nat) ^ b ≤ 2 ^ 18 := Nat.pow_le_pow_right (by decide) hb
  rw [hM]
  exact pk_andN (by omega) b (pk_tn (by omega))
theorem tO_M {NB M sh nd : Nat} {st pa sl : Nat → Nat} (h : tO NB M sh nd st pa sl) : 8 ≤ M ∧ M ≤ 262144 := by
  obtain ⟨-, ⟨b, h1, h2, rfl, -⟩, -⟩ := h
  have a1 : (2 : Nat) ^ 3 ≤ 2 ^ b := Nat.pow_le_pow_right (by decide) h1
  have a2 : (2 : Nat) ^ b ≤ 2 ^ 18 := Nat.pow_le_pow_right (by decide) h2
  exact ⟨a1, a2⟩

set_option maxHeartbeats 4000000 in
set_option maxRecDepth 100000 in
theorem zc_Su_slotOf (l : Launch) (D : va_G) {t0 ta n aS aE aP aL nd aQ M sh an L wt fl NB : Nat} {fp : Int32} {st en pa li sl : Nat → Nat} {T : Nat → Int32} {cS cE cP cL cQ cB : ClassId} {a : Nat} {ch : Int32} (hO : tO NB M sh nd st pa sl) (ha : a < 131072) (sz : Nat) : zMi l D zy_Su_slotOf zb_Su_slotOf 6 .int ({ frames := 0, cells := 0, slots := 0, locals := 0 } : Room) [.ref t0, .int (nI a), .int ch] [(cS, .int), (cE, .int), (cP, .int), (cL, .int), (cQ, .int), (cB, .byte)] [(t0, .inr (2, [.ref ta, .int (nI n), .ref aS, .ref aE, .ref aP, .ref aL, .int (nI nd), .ref aQ, .int (nI M), .int (nI sh), .int (nI an), .int (nI L), .int (nI wt), .int (nI fl), .int fp])), (aS, .inl (cS, 131072, .inl (fun zz => nI (st zz)))), (aE, .inl (cE, 131072, .inl (fun zz => nI (en zz)))), (aP, .inl (cP, 131072, .inl (fun zz => nI (pa zz)))), (aL, .inl (cL, 131072, .inl (fun zz => nI (li zz)))), (aQ, .inl (cQ, 262144, .inl (fun zz => nI (sl zz)))), (ta, .inl (cB, NB, .inl (T)))] sz (fun (r : Int32) (u : Nat) => r = nI u ∧ hs_r M sl (hok pa st T a ch) (hN sh a ch) u) (fun u => [(t0, .inr (2, [.ref ta, .int (nI n), .ref aS, .ref aE, .ref aP, .ref aL, .int (nI nd), .ref aQ, .int (nI M), .int (nI sh), .int (nI an), .int (nI L), .int (nI wt), .int (nI fl), .int fp])), (aS, .inl (cS, 131072, .inl (fun zz => nI (st zz)))), (aE, .inl (cE, 131072, .inl (fun zz => nI (en zz)))), (aP, .inl (cP, 131072, .inl (fun zz => nI (pa zz)))), (aL, .inl (cL, 131072, .inl (fun zz => nI (li zz)))), (aQ, .inl (cQ, 262144, .inl (fun zz => nI (sl zz)))), (ta, .inl (cB, NB, .inl (T)))]) := by
  refine zEi (by decide) (Nat.le_of_ble_eq_true rfl) (fun p e s m args below meth c ls A Q X hl h hsz ret => ?_)
  have hl : lv_has ls 6 [(0, .ref t0), (1, .int (nI a)), (2, .int ch)] := hl
  generalize hH0 : s.heap = H at h ⊢
  have h : zH D A s [(t0, .inr (2, [.ref ta, .int (nI n), .ref aS, .ref aE, .ref aP, .ref aL, .int (nI nd), .ref aQ, .int (nI M), .int (nI sh), .int (nI an), .int (nI L), .int (nI wt), .int (nI fl), .int fp])), (aS, .inl (cS, 131072, .inl (fun zz => nI (st zz)))), (aE, .inl (cE, 131072, .inl (fun zz => nI (en zz)))), (aP, .inl (cP, 131072, .inl (fun zz => nI (pa zz)))), (aL, .inl (cL, 131072, .inl (fun zz => nI (li zz)))), (aQ, .inl (cQ, 262144, .inl (fun zz => nI (sl zz)))), (ta, .inl (cB, NB, .inl (T)))] H [] := h
  generalize hL0 : ([] : List Loc) = locs at h ⊢
  obtain ⟨hM8, hMm⟩ := tO_M hO
  obtain ⟨hNB, ⟨b, hb1, hb2, hMb, hsh⟩, hnd, hs1, hs2, r0, hr0, hz⟩ := hO
  have hh : hN sh a ch < M := by rw [hMb]; exact hN_lt (by omega) hsh
  refine lv_iload_n X.1.1 X.1.2.1 zd_Su_slotOf_0 rfl (lv_at hl 1 rfl) ?_
  refine lv_bipush (v := nI 8) X.1.1 X.1.2.1 zd_Su_slotOf_1 (by decide) ?_
  refine lv_ishl X.1.1 X.1.2.1 zd_Su_slotOf_3 ?_
  refine lv_iload_n X.1.1 X.1.2.1 zd_Su_slotOf_4 rfl (lv_at hl 2 rfl) ?_
  refine lv_sipush (v := nI 255) X.1.1 X.1.2.1 zd_Su_slotOf_5 (by decide) ?_
  refine lv_iand X.1.1 X.1.2.1 zd_Su_slotOf_8 ?_
  refine lv_ior X.1.1 X.1.2.1 zd_Su_slotOf_9 ?_
  refine lv_ldc X.1.1 X.1.2.1 X.1.2.2.2.1 (X.1.2.2.2.2 _ zw_206) zd_Su_slotOf_10 ?_
  refine lv_imul X.1.1 X.1.2.1 zd_Su_slotOf_12 ?_
  refine lv_aload_n X.1.1 X.1.2.1 zd_Su_slotOf_13 rfl (lv_at hl 0 rfl) ?_
  refine rG X h 0 rfl rfl zW_Su 9 (by decide) zw_57 rfl zd_Su_slotOf_14 ?_
  refine lv_iushr (v := nI (hN sh a ch)) X.1.1 X.1.2.1 zd_Su_slotOf_17 (ush_eq _ (by omega)) ?_
  refine lv_istore_n X.1.1 X.1.2.1 zd_Su_slotOf_18 rfl hl (by decide) rfl (fun ls hl => ?_)
  have hl : lv_has ls 6 [(3, .int (nI (hN sh a ch))), (0, .ref t0), (1, .int (nI a)), (2, .int ch)] := hl
  refine lv_iconst (v := nI 0) X.1.1 X.1.2.1 zd_Su_slotOf_19 (by decide) ?_
  refine lv_istore X.1.1 X.1.2.1 zd_Su_slotOf_20 hl (by decide) rfl (fun ls hl => ?_)
  have hl : lv_has ls 6 [(4, .int (nI 0)), (3, .int (nI (hN sh a ch))), (0, .ref t0), (1, .int (nI a)), (2, .int ch)] := hl
  have loop : ∀ (fu : Nat) (d : Nat) (x : Nat) (ls : Array Slot) (H : Heap) (locs : List Loc), M - d < fu → d ≤ M → x = (hN sh a ch + d) % M → (∀ d1, d1 < d → sl ((hN sh a ch + d1) % M) ≠ 0 ∧ ¬ hok pa st T a ch (sl ((hN sh a ch + d1) % M))) → lv_has ls 6 [(0, .ref t0), (1, .int (nI a)), (2, .int ch), (3, .int (nI x)), (4, .int (nI d))] → zH D A s [(t0, .inr (2, [.ref ta, .int (nI n), .ref aS, .ref aE, .ref aP, .ref aL, .int (nI nd), .ref aQ, .int (nI M), .int (nI sh), .int (nI an), .int (nI L), .int (nI wt), .int (nI fl), .int fp])), (aS, .inl (cS, 131072, .inl (fun zz => nI (st zz)))), (aE, .inl (cE, 131072, .inl (fun zz => nI (en zz)))), (aP, .inl (cP, 131072, .inl (fun zz => nI (pa zz)))), (aL, .inl (cL, 131072, .inl (fun zz => nI (li zz)))), (aQ, .inl (cQ, 262144, .inl (fun zz => nI (sl zz)))), (ta, .inl (cB, NB, .inl (T)))] H locs → W p l e ({ frames := 0, cells := 0, slots := 0, locals := 0 } : Room) s m args below meth c H locs 0 0 Q (F0 m 22 ls []) := by
    intro fu
    induction fu with
    | zero => intro d x ls H locs hfu; exact absurd hfu (Nat.not_lt_zero _)
    | succ fu ih =>
      intro d x ls H locs hfu hd hx hall hl h
      have hxM : x < M := by rw [hx]; exact Nat.mod_lt _ (by omega)
      have hq1 := hs1 x hxM
      refine lv_iload X.1.1 X.1.2.1 zd_Su_slotOf_22 (lv_at hl 4 rfl) ?_
      refine lv_aload_n X.1.1 X.1.2.1 zd_Su_slotOf_24 rfl (lv_at hl 0 rfl) ?_
      refine rG X h 0 rfl rfl zW_Su 8 (by decide) zw_56 rfl zd_Su_slotOf_25 ?_
      refine lv_icmp_ge (tgt := 91) X.1.1 X.1.2.1 zd_Su_slotOf_28 rfl (fun c1 => ?_) (fun c1 => ?_)
      · have c1 : M ≤ d := zc_ge_t (by omega) (by omega) c1
        exfalso
        obtain ⟨d0, e1, e2⟩ := hs_way hh hr0
        exact (hall d0 (by omega)).1 (by rw [e2]; exact hz)
      · have c1 : d < M := zc_ge_f (by omega) (by omega) c1
        refine lv_aload_n X.1.1 X.1.2.1 zd_Su_slotOf_31 rfl (lv_at hl 0 rfl) ?_
        refine rG X h 0 rfl rfl zW_Su 7 (by decide) zw_55 rfl zd_Su_slotOf_32 ?_
        refine lv_iload_n X.1.1 X.1.2.1 zd_Su_slotOf_35 rfl (lv_at hl 3 rfl) ?_
        refine rLn X h 5 4 rfl rfl (by omega) (by omega) zd_Su_slotOf_36 ?_
        refine lv_istore X.1.1 X.1.2.1 zd_Su_slotOf_37 hl (by decide) rfl (fun ls hl => ?_)
        have hl : lv_has ls 6 [(5, .int (nI (sl x))), (0, .ref t0), (1, .int (nI a)), (2, .int ch), (3, .int (nI x)), (4, .int (nI d))] := hl
        refine lv_iload X.1.1 X.1.2.1 zd_Su_slotOf_39 (lv_at hl 0 rfl) ?_
        refine lv_if_eq (tgt := 91) X.1.1 X.1.2.1 zd_Su_slotOf_41 rfl (fun c2 => ?_) (fun c2 => ?_)
        · have c2 : sl x = 0 := zc_eq0_t (by omega) (by omega) c2
          refine lv_iload_n X.1.1 X.1.2.1 zd_Su_slotOf_91 rfl (lv_at hl 4 rfl) ?_
          exact ret _ x H locs ls _ (⟨rfl, d, c1, hx, Or.inl c2, hall⟩) h zd_Su_slotOf_92
        · have c2 : sl x ≠ 0 := zc_eq0_f (by omega) (by omega) c2
          have hq2 := hs2 x hxM c2
          refine lv_aload_n X.1.1 X.1.2.1 zd_Su_slotOf_44 rfl (lv_at hl 1 rfl) ?_
          refine rG X h 0 rfl rfl zW_Su 4 (by decide) zw_52 rfl zd_Su_slotOf_45 ?_
          refine lv_iload X.1.1 X.1.2.1 zd_Su_slotOf_48 (lv_at hl 0 rfl) ?_
          refine rLn X h 3 2 rfl rfl (by omega) (by omega) zd_Su_slotOf_50 ?_
          refine lv_iload_n X.1.1 X.1.2.1 zd_Su_slotOf_51 rfl (lv_at hl 2 rfl) ?_
          refine lv_icmp_ne (tgt := 74) X.1.1 X.1.2.1 zd_Su_slotOf_52 rfl (fun c3 => ?_) (fun c3 => ?_)
          · have c3 : pa (sl x) ≠ a := zc_ne_t (by omega) (by omega) c3
            refine lv_iload_n X.1.1 X.1.2.1 zd_Su_slotOf_74 rfl (lv_at hl 4 rfl) ?_
            refine lv_iconst (v := nI 1) X.1.1 X.1.2.1 zd_Su_slotOf_75 (by decide) ?_
            refine lv_iadd X.1.1 X.1.2.1 zd_Su_slotOf_76 ?_
            refine zTop (y := nI (x + 1)) (nI_add _ _) ?_
            refine lv_aload_n X.1.1 X.1.2.1 zd_Su_slotOf_77 rfl (lv_at hl 1 rfl) ?_
            refine rG X h 0 rfl rfl zW_Su 8 (by decide) zw_56 rfl zd_Su_slotOf_78 ?_
            refine lv_iconst (v := nI 1) X.1.1 X.1.2.1 zd_Su_slotOf_81 (by decide) ?_
            refine lv_isub X.1.1 X.1.2.1 zd_Su_slotOf_82 ?_
            refine zTop (y := nI (M - 1)) (pk_sub (by omega)) ?_
            refine lv_iand X.1.1 X.1.2.1 zd_Su_slotOf_83 ?_
            refine zTop (y := nI ((x + 1) % M)) (andM hMb hb2 (by omega)) ?_
            refine lv_istore_n X.1.1 X.1.2.1 zd_Su_slotOf_84 rfl hl (by decide) rfl (fun ls hl => ?_)
            have hl : lv_has ls 6 [(3, .int (nI ((x + 1) % M))), (5, .int (nI (sl x))), (0, .ref t0), (1, .int (nI a)), (2, .int ch), (4, .int (nI d))] := hl
            refine lv_iinc X.1.1 X.1.2.1 zd_Su_slotOf_85 hl (k := 5) rfl (v := nI (d + 1)) (nI_add _ _) (by decide) rfl (fun ls hl => ?_)
            have hl : lv_has ls 6 [(4, .int (nI (d + 1))), (3, .int (nI ((x + 1) % M))), (5, .int (nI (sl x))), (0, .ref t0), (1, .int (nI a)), (2, .int ch)] := hl
            refine lv_goto (tgt := 22) X.1.1 X.1.2.1 zd_Su_slotOf_88 rfl ?_
            exact ih (d + 1) ((x + 1) % M) ls H locs (by omega) (by omega) (by rw [hx, Nat.mod_add_mod, Nat.add_assoc]) (fun d1 hd1 => by
                  by_cases hc : d1 = d
                  · rw [hc, ← hx]; exact ⟨c2, fun q => c3 q.1⟩
                  · exact hall d1 (by omega)) (lv_sub hl [3, 4, 5, 1, 0] rfl) h
          · have c3 : pa (sl x) = a := zc_ne_f (by omega) (by omega) c3
            refine lv_aload_n X.1.1 X.1.2.1 zd_Su_slotOf_55 rfl (lv_at hl 1 rfl) ?_
            refine rG X h 0 rfl rfl zW_Su 0 (by decide) zw_48 rfl zd_Su_slotOf_56 ?_
            refine lv_aload_n X.1.1 X.1.2.1 zd_Su_slotOf_59 rfl (lv_at hl 1 rfl) ?_
            refine rG X h 0 rfl rfl zW_Su 2 (by decide) zw_50 rfl zd_Su_slotOf_60 ?_
            refine lv_iload X.1.1 X.1.2.1 zd_Su_slotOf_63 (lv_at hl 0 rfl) ?_
            refine rLn X h 1 0 rfl rfl (by omega) (by omega) zd_Su_slotOf_65 ?_
            refine rLb X h 6 5 rfl rfl (by omega) (by omega) zd_Su_slotOf_66 ?_
            refine lv_iload_n X.1.1 X.1.2.1 zd_Su_slotOf_67 rfl (lv_at hl 3 rfl) ?_
            refine lv_icmp_ne (tgt := 74) X.1.1 X.1.2.1 zd_Su_slotOf_68 rfl (fun c4 => ?_) (fun c4 => ?_)
            · refine lv_iload_n X.1.1 X.1.2.1 zd_Su_slotOf_74 rfl (lv_at hl 4 rfl) ?_
              refine lv_iconst (v := nI 1) X.1.1 X.1.2.1 zd_Su_slotOf_75 (by decide) ?_
              refine lv_iadd X.1.1 X.1.2.1 zd_Su_slotOf_76 ?_
              refine zTop (y := nI (x + 1)) (nI_add _ _) ?_
              refine lv_aload_n X.1.1 X.1.2.1 zd_Su_slotOf_77 rfl (lv_at hl 1 rfl) ?_
              refine rG X h 0 rfl rfl zW_Su 8 (by decide) zw_56 rfl zd_Su_slotOf_78 ?_
              refine lv_iconst (v := nI 1) X.1.1 X.1.2.1 zd_Su_slotOf_81 (by decide) ?_
              refine lv_isub X.1.1 X.1.2.1 zd_Su_slotOf_82 ?_
              refine zTop (y := nI (M - 1)) (pk_sub (by omega)) ?_
              refine lv_iand X.1.1 X.1.2.1 zd_Su_slotOf_83 ?_
              refine zTop (y := nI ((x + 1) % M)) (andM hMb hb2 (by omega)) ?_
              refine lv_istore_n X.1.1 X.1.2.1 zd_Su_slotOf_84 rfl hl (by decide) rfl (fun ls hl => ?_)
              have hl : lv_has ls 6 [(3, .int (nI ((x + 1) % M))), (5, .int (nI (sl x))), (0, .ref t0), (1, .int (nI a)), (2, .int ch), (4, .int (nI d))] := hl
              refine lv_iinc X.1.1 X.1.2.1 zd_Su_slotOf_85 hl (k := 5) rfl (v := nI (d + 1)) (nI_add _ _) (by decide) rfl (fun ls hl => ?_)
              have hl : lv_has ls 6 [(4, .int (nI (d + 1))), (3, .int (nI ((x + 1) % M))), (5, .int (nI (sl x))), (0, .ref t0), (1, .int (nI a)), (2, .int ch)] := hl
              refine lv_goto (tgt := 22) X.1.1 X.1.2.1 zd_Su_slotOf_88 rfl ?_
              exact ih (d + 1) ((x + 1) % M) ls H locs (by omega) (by omega) (by rw [hx, Nat.mod_add_mod, Nat.add_assoc]) (fun d1 hd1 => by
                    by_cases hc : d1 = d
                    · rw [hc, ← hx]; exact ⟨c2, fun q => c4 q.2⟩
                    · exact hall d1 (by omega)) (lv_sub hl [3, 4, 5, 1, 0] rfl) h
            · refine lv_goto (tgt := 91) X.1.1 X.1.2.1 zd_Su_slotOf_71 rfl ?_
              refine lv_iload_n X.1.1 X.1.2.1 zd_Su_slotOf_91 rfl (lv_at hl 4 rfl) ?_
              exact ret _ x H locs ls _ (⟨rfl, d, c1, hx, Or.inr ⟨c3, c4⟩, hall⟩) h zd_Su_slotOf_92
  exact loop _ 0 (hN sh a ch) ls H locs (Nat.lt_succ_self _) (by omega) (by rw [Nat.add_zero, Nat.mod_eq_of_lt hh]) (fun d1 q => absurd q (Nat.not_lt_zero _)) (lv_sub hl [2, 3, 4, 1, 0] rfl) h

set_option maxHeartbeats 4000000 in
set_option maxRecDepth 100000 in
theorem zc_Su_addNode (l : Launch) (D : va_G) {t0 ta n aS aE aP aL nd aQ M sh an L wt fl NB : Nat} {fp : Int32} {st en pa li sl : Nat → Nat} {T : Nat → Int32} {cS cE cP cL cQ cB : ClassId} {b x y : Nat} (hnd : nd < 131072) (sz : Nat) : zMi l D zy_Su_addNode zb_Su_addNode 5 .int ({ frames := 0, cells := 0, slots := 0, locals := 0 } : Room) [.ref t0, .int (nI b), .int (nI x), .int (nI y)] [(cS, .int), (cE, .int), (cP, .int), (cL, .int), (cQ, .int), (cB, .byte)] [(t0, .inr (2, [.ref ta, .int (nI n), .ref aS, .ref aE, .ref aP, .ref aL, .int (nI nd), .ref aQ, .int (nI M), .int (nI sh), .int (nI an), .int (nI L), .int (nI wt), .int (nI fl), .int fp])), (aS, .inl (cS, 131072, .inl (fun zz => nI (st zz)))), (aE, .inl (cE, 131072, .inl (fun zz => nI (en zz)))), (aP, .inl (cP, 131072, .inl (fun zz => nI (pa zz)))), (aL, .inl (cL, 131072, .inl (fun zz => nI (li zz)))), (aQ, .inl (cQ, 262144, .inl (fun zz => nI (sl zz)))), (ta, .inl (cB, NB, .inl (T)))] sz (fun (r : Int32) (u : Unit) => r = nI nd ∧ True) (fun _ => [(t0, .inr (2, [.ref ta, .int (nI n), .ref aS, .ref aE, .ref aP, .ref aL, .int (nI (nd + 1)), .ref aQ, .int (nI M), .int (nI sh), .int (nI an), .int (nI L), .int (nI wt), .int (nI fl), .int fp])), (aS, .inl (cS, 131072, .inl (fun zz => nI ((va_up st nd x) zz)))), (aE, .inl (cE, 131072, .inl (fun zz => nI ((va_up en nd y) zz)))), (aP, .inl (cP, 131072, .inl (fun zz => nI ((va_up pa nd b) zz)))), (aL, .inl (cL, 131072, .inl (fun zz => nI ((va_up li nd 0) zz)))), (aQ, .inl (cQ, 262144, .inl (fun zz => nI (sl zz)))), (ta, .inl (cB, NB, .inl (T)))]) := by
  refine zEi (by decide) (Nat.le_of_ble_eq_true rfl) (fun p e s m args below meth c ls A Q X hl h hsz ret => ?_)
  have hl : lv_has ls 5 [(0, .ref t0), (1, .int (nI b)), (2, .int (nI x)), (3, .int (nI y))] := hl
  generalize hH0 : s.heap = H at h ⊢
  have h : zH D A s [(t0, .inr (2, [.ref ta, .int (nI n), .ref aS, .ref aE, .ref aP, .ref aL, .int (nI nd), .ref aQ, .int (nI M), .int (nI sh), .int (nI an), .int (nI L), .int (nI wt), .int (nI fl), .int fp])), (aS, .inl (cS, 131072, .inl (fun zz => nI (st zz)))), (aE, .inl (cE, 131072, .inl (fun zz => nI (en zz)))), (aP, .inl (cP, 131072, .inl (fun zz => nI (pa zz)))), (aL, .inl (cL, 131072, .inl (fun zz => nI (li zz)))), (aQ, .inl (cQ, 262144, .inl (fun zz => nI (sl zz)))), (ta, .inl (cB, NB, .inl (T)))] H [] := h
  generalize hL0 : ([] : List Loc) = locs at h ⊢
  refine lv_aload_n X.1.1 X.1.2.1 zd_Su_addNode_0 rfl (lv_at hl 0 rfl) ?_
  refine rG X h 0 rfl rfl zW_Su 6 (by decide) zw_54 rfl zd_Su_addNode_1 ?_
  refine lv_istore X.1.1 X.1.2.1 zd_Su_addNode_4 hl (by decide) rfl (fun ls hl => ?_)
  have hl : lv_has ls 5 [(4, .int (nI nd)), (0, .ref t0), (1, .int (nI b)), (2, .int (nI x)), (3, .int (nI y))] := hl
  refine lv_aload_n X.1.1 X.1.2.1 zd_Su_addNode_6 rfl (lv_at hl 1 rfl) ?_
  refine lv_dup X.1.1 X.1.2.1 zd_Su_addNode_7 rfl ?_
  refine rG X h 0 rfl rfl zW_Su 6 (by decide) zw_54 rfl zd_Su_addNode_8 ?_
  refine lv_iconst (v := nI 1) X.1.1 X.1.2.1 zd_Su_addNode_11 (by decide) ?_
  refine lv_iadd X.1.1 X.1.2.1 zd_Su_addNode_12 ?_
  refine zTop (y := nI (nd + 1)) (nI_add _ _) ?_
  refine rP X h 0 rfl rfl zW_Su zO_Su zN_Su 6 (by decide) zw_54 rfl (rfl) (rfl) (Nat.le_of_ble_eq_true rfl) zd_Su_addNode_13 (fun H locs h => ?_)
  have h : zH D A s [(t0, .inr (2, [.ref ta, .int (nI n), .ref aS, .ref aE, .ref aP, .ref aL, .int (nI (nd + 1)), .ref aQ, .int (nI M), .int (nI sh), .int (nI an), .int (nI L), .int (nI wt), .int (nI fl), .int fp])), (aS, .inl (cS, 131072, .inl (fun zz => nI (st zz)))), (aE, .inl (cE, 131072, .inl (fun zz => nI (en zz)))), (aP, .inl (cP, 131072, .inl (fun zz => nI (pa zz)))), (aL, .inl (cL, 131072, .inl (fun zz => nI (li zz)))), (aQ, .inl (cQ, 262144, .inl (fun zz => nI (sl zz)))), (ta, .inl (cB, NB, .inl (T)))] H locs := h
  refine lv_aload_n X.1.1 X.1.2.1 zd_Su_addNode_16 rfl (lv_at hl 1 rfl) ?_
  refine rG X h 0 rfl rfl zW_Su 4 (by decide) zw_52 rfl zd_Su_addNode_17 ?_
  refine lv_iload X.1.1 X.1.2.1 zd_Su_addNode_20 (lv_at hl 0 rfl) ?_
  refine lv_iload_n X.1.1 X.1.2.1 zd_Su_addNode_22 rfl (lv_at hl 2 rfl) ?_
  refine rSn X h 3 2 rfl rfl (by omega) (by omega) zd_Su_addNode_23 (fun H locs h => ?_)
  have h : zH D A s [(t0, .inr (2, [.ref ta, .int (nI n), .ref aS, .ref aE, .ref aP, .ref aL, .int (nI (nd + 1)), .ref aQ, .int (nI M), .int (nI sh), .int (nI an), .int (nI L), .int (nI wt), .int (nI fl), .int fp])), (aS, .inl (cS, 131072, .inl (fun zz => nI (st zz)))), (aE, .inl (cE, 131072, .inl (fun zz => nI (en zz)))), (aP, .inl (cP, 131072, .inl (fun zz => nI ((va_up pa nd b) zz)))), (aL, .inl (cL, 131072, .inl (fun zz => nI (li zz)))), (aQ, .inl (cQ, 262144, .inl (fun zz => nI (sl zz)))), (ta, .inl (cB, NB, .inl (T)))] H locs := h
  refine lv_aload_n X.1.1 X.1.2.1 zd_Su_addNode_24 rfl (lv_at hl 1 rfl) ?_
  refine rG X h 0 rfl rfl zW_Su 2 (by decide) zw_50 rfl zd_Su_addNode_25 ?_
  refine lv_iload X.1.1 X.1.2.1 zd_Su_addNode_28 (lv_at hl 0 rfl) ?_
  refine lv_iload_n X.1.1 X.1.2.1 zd_Su_addNode_30 rfl (lv_at hl 3 rfl) ?_
  refine rSn X h 1 0 rfl rfl (by omega) (by omega) zd_Su_addNode_31 (fun H locs h => ?_)
  have h : zH D A s [(t0, .inr (2, [.ref ta, .int (nI n), .ref aS, .ref aE, .ref aP, .ref aL, .int (nI (nd + 1)), .ref aQ, .int (nI M), .int (nI sh), .int (nI an), .int (nI L), .int (nI wt), .int (nI fl), .int fp])), (aS, .inl (cS, 131072, .inl (fun zz => nI ((va_up st nd x) zz)))), (aE, .inl (cE, 131072, .inl (fun zz => nI (en zz)))), (aP, .inl (cP, 131072, .inl (fun zz => nI ((va_up pa nd b) zz)))), (aL, .inl (cL, 131072, .inl (fun zz => nI (li zz)))), (aQ, .inl (cQ, 262144, .inl (fun zz => nI (sl zz)))), (ta, .inl (cB, NB, .inl (T)))] H locs := h
  refine lv_aload_n X.1.1 X.1.2.1 zd_Su_addNode_32 rfl (lv_at hl 1 rfl) ?_
  refine rG X h 0 rfl rfl zW_Su 3 (by decide) zw_51 rfl zd_Su_addNode_33 ?_
  refine lv_iload X.1.1 X.1.2.1 zd_Su_addNode_36 (lv_at hl 0 rfl) ?_
  refine lv_iload_n X.1.1 X.1.2.1 zd_Su_addNode_38 rfl (lv_at hl 4 rfl) ?_
  refine rSn X h 2 1 rfl rfl (by omega) (by omega) zd_Su_addNode_39 (fun H locs h => ?_)
  have h : zH D A s [(t0, .inr (2, [.ref ta, .int (nI n), .ref aS, .ref aE, .ref aP, .ref aL, .int (nI (nd + 1)), .ref aQ, .int (nI M), .int (nI sh), .int (nI an), .int (nI L), .int (nI wt), .int (nI fl), .int fp])), (aS, .inl (cS, 131072, .inl (fun zz => nI ((va_up st nd x) zz)))), (aE, .inl (cE, 131072, .inl (fun zz => nI ((va_up en nd y) zz)))), (aP, .inl (cP, 131072, .inl (fun zz => nI ((va_up pa nd b) zz)))), (aL, .inl (cL, 131072, .inl (fun zz => nI (li zz)))), (aQ, .inl (cQ, 262144, .inl (fun zz => nI (sl zz)))), (ta, .inl (cB, NB, .inl (T)))] H locs := h
  refine lv_aload_n X.1.1 X.1.2.1 zd_Su_addNode_40 rfl (lv_at hl 1 rfl) ?_
  refine rG X h 0 rfl rfl zW_Su 5 (by decide) zw_53 rfl zd_Su_addNode_41 ?_
  refine lv_iload X.1.1 X.1.2.1 zd_Su_addNode_44 (lv_at hl 0 rfl) ?_
  refine lv_iconst (v := nI 0) X.1.1 X.1.2.1 zd_Su_addNode_46 (by decide) ?_
  refine rSn X h 4 3 rfl rfl (by omega) (by omega) zd_Su_addNode_47 (fun H locs h => ?_)
  have h : zH D A s [(t0, .inr (2, [.ref ta, .int (nI n), .ref aS, .ref aE, .ref aP, .ref aL, .int (nI (nd + 1)), .ref aQ, .int (nI M), .int (nI sh), .int (nI an), .int (nI L), .int (nI wt), .int (nI fl), .int fp])), (aS, .inl (cS, 131072, .inl (fun zz => nI ((va_up st nd x) zz)))), (aE, .inl (cE, 131072, .inl (fun zz => nI ((va_up en nd y) zz)))), (aP, .inl (cP, 131072, .inl (fun zz => nI ((va_up pa nd b) zz)))), (aL, .inl (cL, 131072, .inl (fun zz => nI ((va_up li nd 0) zz)))), (aQ, .inl (cQ, 262144, .inl (fun zz => nI (sl zz)))), (ta, .inl (cB, NB, .inl (T)))] H locs := h
  refine lv_iload X.1.1 X.1.2.1 zd_Su_addNode_48 (lv_at hl 0 rfl) ?_
  exact ret _ () H locs ls _ (⟨rfl, trivial⟩) h zd_Su_addNode_50

set_option maxHeartbeats 4000000 in
set_option maxRecDepth 100000 in
theorem zc_Su_goToNextSuffix (l : Launch) (D : va_G) {t0 ta n aS aE aP aL nd aQ M sh an L wt fl NB : Nat} {fp : Int32} {st en pa li sl : Nat → Nat} {T : Nat → Int32} {cS cE cP cL cQ cB : ClassId} (ha : an < 131072) (hL : L < 2 ^ 30) (sz : Nat) : zMv l D zy_Su_goToNextSuffix zb_Su_goToNextSuffix 1 ({ frames := 0, cells := 0, slots := 0, locals := 0 } : Room) [.ref t0] [(cS, .int), (cE, .int), (cP, .int), (cL, .int), (cQ, .int), (cB, .byte)] [(t0, .inr (2, [.ref ta, .int (nI n), .ref aS, .ref aE, .ref aP, .ref aL, .int (nI nd), .ref aQ, .int (nI M), .int (nI sh), .int (nI an), .int (nI L), .int (nI wt), .int (nI fl), .int fp])), (aS, .inl (cS, 131072, .inl (fun zz => nI (st zz)))), (aE, .inl (cE, 131072, .inl (fun zz => nI (en zz)))), (aP, .inl (cP, 131072, .inl (fun zz => nI (pa zz)))), (aL, .inl (cL, 131072, .inl (fun zz => nI (li zz)))), (aQ, .inl (cQ, 262144, .inl (fun zz => nI (sl zz)))), (ta, .inl (cB, NB, .inl (T)))] sz (fun (u : Unit) => True) (fun _ => [(t0, .inr (2, [.ref ta, .int (nI n), .ref aS, .ref aE, .ref aP, .ref aL, .int (nI nd), .ref aQ, .int (nI M), .int (nI sh), .int (nI (if an = 0 then 0 else li an)), .int (nI (if an = 0 then L - 1 else L)), .int (nI wt), .int (nI fl), .int fp])), (aS, .inl (cS, 131072, .inl (fun zz => nI (st zz)))), (aE, .inl (cE, 131072, .inl (fun zz => nI (en zz)))), (aP, .inl (cP, 131072, .inl (fun zz => nI (pa zz)))), (aL, .inl (cL, 131072, .inl (fun zz => nI (li zz)))), (aQ, .inl (cQ, 262144, .inl (fun zz => nI (sl zz)))), (ta, .inl (cB, NB, .inl (T)))]) := by
  refine zEv (by decide) (Nat.le_of_ble_eq_true rfl) (fun p e s m args below meth c ls A Q X hin hl h hsz ret => ?_)
  have hl : lv_has ls 1 [(0, .ref t0)] := hl
  generalize hH0 : s.heap = H at h ⊢
  have h : zH D A s [(t0, .inr (2, [.ref ta, .int (nI n), .ref aS, .ref aE, .ref aP, .ref aL, .int (nI nd), .ref aQ, .int (nI M), .int (nI sh), .int (nI an), .int (nI L), .int (nI wt), .int (nI fl), .int fp])), (aS, .inl (cS, 131072, .inl (fun zz => nI (st zz)))), (aE, .inl (cE, 131072, .inl (fun zz => nI (en zz)))), (aP, .inl (cP, 131072, .inl (fun zz => nI (pa zz)))), (aL, .inl (cL, 131072, .inl (fun zz => nI (li zz)))), (aQ, .inl (cQ, 262144, .inl (fun zz => nI (sl zz)))), (ta, .inl (cB, NB, .inl (T)))] H [] := h
  generalize hL0 : ([] : List Loc) = locs at h ⊢
  refine lv_aload_n X.1.1 X.1.2.1 zd_Su_goToNextSuffix_0 rfl (lv_at hl 0 rfl) ?_
  refine rG X h 0 rfl rfl zW_Su 10 (by decide) zw_58 rfl zd_Su_goToNextSuffix_1 ?_
  refine lv_if_eq (tgt := 23) X.1.1 X.1.2.1 zd_Su_goToNextSuffix_4 rfl (fun c1 => ?_) (fun c1 => ?_)
  · have c1 : an = 0 := zc_eq0_t (by omega) (by omega) c1
    rw [if_pos c1, if_pos c1] at ret
    refine lv_aload_n X.1.1 X.1.2.1 zd_Su_goToNextSuffix_23 rfl (lv_at hl 0 rfl) ?_
    refine rG X h 0 rfl rfl zW_Su 11 (by decide) zw_59 rfl zd_Su_goToNextSuffix_24 ?_
    refine lv_if_le (tgt := 40) X.1.1 X.1.2.1 zd_Su_goToNextSuffix_27 rfl (fun c2 => ?_) (fun c2 => ?_)
    · have c2 : L ≤ 0 := zc_le0_t (by omega) (by omega) c2
      have e1 : L - 1 = L := by omega
      rw [e1] at ret
      subst c1
      exact ret () H locs ls _ (trivial) h zd_Su_goToNextSuffix_40
    · have c2 : 0 < L := zc_le0_f (by omega) (by omega) c2
      refine lv_aload_n X.1.1 X.1.2.1 zd_Su_goToNextSuffix_30 rfl (lv_at hl 0 rfl) ?_
      refine lv_dup X.1.1 X.1.2.1 zd_Su_goToNextSuffix_31 rfl ?_
      refine rG X h 0 rfl rfl zW_Su 11 (by decide) zw_59 rfl zd_Su_goToNextSuffix_32 ?_
      refine lv_iconst (v := nI 1) X.1.1 X.1.2.1 zd_Su_goToNextSuffix_35 (by decide) ?_
      refine lv_isub X.1.1 X.1.2.1 zd_Su_goToNextSuffix_36 ?_
      refine zTop (y := nI (L - 1)) (pk_sub (by omega)) ?_
      refine rP X h 0 rfl rfl zW_Su zO_Su zN_Su 11 (by decide) zw_59 rfl (rfl) (rfl) (Nat.le_of_ble_eq_true rfl) zd_Su_goToNextSuffix_37 (fun H locs h => ?_)
      have h : zH D A s [(t0, .inr (2, [.ref ta, .int (nI n), .ref aS, .ref aE, .ref aP, .ref aL, .int (nI nd), .ref aQ, .int (nI M), .int (nI sh), .int (nI an), .int (nI (L - 1)), .int (nI wt), .int (nI fl), .int fp])), (aS, .inl (cS, 131072, .inl (fun zz => nI (st zz)))), (aE, .inl (cE, 131072, .inl (fun zz => nI (en zz)))), (aP, .inl (cP, 131072, .inl (fun zz => nI (pa zz)))), (aL, .inl (cL, 131072, .inl (fun zz => nI (li zz)))), (aQ, .inl (cQ, 262144, .inl (fun zz => nI (sl zz)))), (ta, .inl (cB, NB, .inl (T)))] H locs := h
      subst c1
      exact ret () H locs ls _ (trivial) h zd_Su_goToNextSuffix_40
  · have c1 : an ≠ 0 := zc_eq0_f (by omega) (by omega) c1
    rw [if_neg c1, if_neg c1] at ret
    refine lv_aload_n X.1.1 X.1.2.1 zd_Su_goToNextSuffix_7 rfl (lv_at hl 0 rfl) ?_
    refine lv_aload_n X.1.1 X.1.2.1 zd_Su_goToNextSuffix_8 rfl (lv_at hl 0 rfl) ?_
    refine rG X h 0 rfl rfl zW_Su 5 (by decide) zw_53 rfl zd_Su_goToNextSuffix_9 ?_
    refine lv_aload_n X.1.1 X.1.2.1 zd_Su_goToNextSuffix_12 rfl (lv_at hl 0 rfl) ?_
    refine rG X h 0 rfl rfl zW_Su 10 (by decide) zw_58 rfl zd_Su_goToNextSuffix_13 ?_
    refine rLn X h 4 3 rfl rfl (by omega) (by omega) zd_Su_goToNextSuffix_16 ?_
    refine rP X h 0 rfl rfl zW_Su zO_Su zN_Su 10 (by decide) zw_58 rfl (rfl) (rfl) (Nat.le_of_ble_eq_true rfl) zd_Su_goToNextSuffix_17 (fun H locs h => ?_)
    have h : zH D A s [(t0, .inr (2, [.ref ta, .int (nI n), .ref aS, .ref aE, .ref aP, .ref aL, .int (nI nd), .ref aQ, .int (nI M), .int (nI sh), .int (nI (li an)), .int (nI L), .int (nI wt), .int (nI fl), .int fp])), (aS, .inl (cS, 131072, .inl (fun zz => nI (st zz)))), (aE, .inl (cE, 131072, .inl (fun zz => nI (en zz)))), (aP, .inl (cP, 131072, .inl (fun zz => nI (pa zz)))), (aL, .inl (cL, 131072, .inl (fun zz => nI (li zz)))), (aQ, .inl (cQ, 262144, .inl (fun zz => nI (sl zz)))), (ta, .inl (cB, NB, .inl (T)))] H locs := h
    refine lv_goto (tgt := 40) X.1.1 X.1.2.1 zd_Su_goToNextSuffix_20 rfl ?_
    exact ret () H locs ls _ (trivial) h zd_Su_goToNextSuffix_40

set_option maxHeartbeats 4000000 in
set_option maxRecDepth 100000 in
theorem zc_Su_addLeaf (l : Launch) (D : va_G) {t0 ta n aS aE aP aL nd aQ M sh an L wt fl NB : Nat} {fp : Int32} {st en pa li sl : Nat → Nat} {T : Nat → Int32} {cS cE cP cL cQ cB : ClassId} {b x : Nat} (hO : tO NB M sh nd st pa sl) (hb : b < 131072) (hx : x < NB) (hnd : nd < 131072) (sz : Nat) : zMv l D zy_Su_addLeaf zb_Su_addLeaf 4 ({ frames := 1, cells := 0, slots := 0, locals := 25 } : Room) [.ref t0, .int (nI b), .int (nI x)] [(cS, .int), (cE, .int), (cP, .int), (cL, .int), (cQ, .int), (cB, .byte)] [(t0, .inr (2, [.ref ta, .int (nI n), .ref aS, .ref aE, .ref aP, .ref aL, .int (nI nd), .ref aQ, .int (nI M), .int (nI sh), .int (nI an), .int (nI L), .int (nI wt), .int (nI fl), .int fp])), (aS, .inl (cS, 131072, .inl (fun zz => nI (st zz)))), (aE, .inl (cE, 131072, .inl (fun zz => nI (en zz)))), (aP, .inl (cP, 131072, .inl (fun zz => nI (pa zz)))), (aL, .inl (cL, 131072, .inl (fun zz => nI (li zz)))), (aQ, .inl (cQ, 262144, .inl (fun zz => nI (sl zz)))), (ta, .inl (cB, NB, .inl (T)))] sz (fun (u : Nat) => hs_r M sl (hok pa st T b (T x)) (hN sh b (T x)) u) (fun u => [(t0, .inr (2, [.ref ta, .int (nI n), .ref aS, .ref aE, .ref aP, .ref aL, .int (nI (nd + 1)), .ref aQ, .int (nI M), .int (nI sh), .int (nI an), .int (nI L), .int (nI wt), .int (nI fl), .int fp])), (aS, .inl (cS, 131072, .inl (fun zz => nI ((va_up st nd x) zz)))), (aE, .inl (cE, 131072, .inl (fun zz => nI ((va_up en nd n) zz)))), (aP, .inl (cP, 131072, .inl (fun zz => nI ((va_up pa nd b) zz)))), (aL, .inl (cL, 131072, .inl (fun zz => nI ((va_up li nd 0) zz)))), (aQ, .inl (cQ, 262144, .inl (fun zz => nI ((va_up sl u nd) zz)))), (ta, .inl (cB, NB, .inl (T)))]) := by
  refine zEv (by decide) (Nat.le_of_ble_eq_true rfl) (fun p e s m args below meth c ls A Q X hin hl h hsz ret => ?_)
  have hl : lv_has ls 4 [(0, .ref t0), (1, .int (nI b)), (2, .int (nI x))] := hl
  generalize hH0 : s.heap = H at h ⊢
  have h : zH D A s [(t0, .inr (2, [.ref ta, .int (nI n), .ref aS, .ref aE, .ref aP, .ref aL, .int (nI nd), .ref aQ, .int (nI M), .int (nI sh), .int (nI an), .int (nI L), .int (nI wt), .int (nI fl), .int fp])), (aS, .inl (cS, 131072, .inl (fun zz => nI (st zz)))), (aE, .inl (cE, 131072, .inl (fun zz => nI (en zz)))), (aP, .inl (cP, 131072, .inl (fun zz => nI (pa zz)))), (aL, .inl (cL, 131072, .inl (fun zz => nI (li zz)))), (aQ, .inl (cQ, 262144, .inl (fun zz => nI (sl zz)))), (ta, .inl (cB, NB, .inl (T)))] H [] := h
  generalize hL0 : ([] : List Loc) = locs at h ⊢
  have hNB := hO.1
  have hM := tO_M hO
  refine lv_aload_n X.1.1 X.1.2.1 zd_Su_addLeaf_0 rfl (lv_at hl 0 rfl) ?_
  refine lv_iload_n X.1.1 X.1.2.1 zd_Su_addLeaf_1 rfl (lv_at hl 1 rfl) ?_
  refine lv_aload_n X.1.1 X.1.2.1 zd_Su_addLeaf_2 rfl (lv_at hl 0 rfl) ?_
  refine rG X h 0 rfl rfl zW_Su 0 (by decide) zw_48 rfl zd_Su_addLeaf_3 ?_
  refine lv_iload_n X.1.1 X.1.2.1 zd_Su_addLeaf_6 rfl (lv_at hl 2 rfl) ?_
  refine rLb X h 6 5 rfl rfl (by omega) (by omega) zd_Su_addLeaf_7 ?_
  refine rCi (wr := []) (wf := fun u => [(t0, .inr (2, [.ref ta, .int (nI n), .ref aS, .ref aE, .ref aP, .ref aL, .int (nI nd), .ref aQ, .int (nI M), .int (nI sh), .int (nI an), .int (nI L), .int (nI wt), .int (nI fl), .int fp])), (aS, .inl (cS, 131072, .inl (fun zz => nI (st zz)))), (aE, .inl (cE, 131072, .inl (fun zz => nI (en zz)))), (aP, .inl (cP, 131072, .inl (fun zz => nI (pa zz)))), (aL, .inl (cL, 131072, .inl (fun zz => nI (li zz)))), (aQ, .inl (cQ, 262144, .inl (fun zz => nI (sl zz)))), (ta, .inl (cB, NB, .inl (T)))]) (rest := []) X h hl.1 (zc_Su_slotOf l D (t0 := t0) (ta := ta) (n := n) (aS := aS) (aE := aE) (aP := aP) (aL := aL) (nd := nd) (aQ := aQ) (M := M) (sh := sh) (an := an) (L := L) (wt := wt) (fl := fl) (fp := fp) (st := st) (cS := cS) (en := en) (cE := cE) (pa := pa) (cP := cP) (li := li) (cL := cL) (sl := sl) (cQ := cQ) (T := T) (cB := cB) (NB := NB) (a := b) (ch := T x) (hO) (hb) H.size) zw_202 zw_204 zs_4 zw_3 zm_Su_slotOf zq_Su_slotOf ⟨Nat.le_of_ble_eq_true rfl, Nat.le_of_ble_eq_true rfl⟩ ⟨Nat.le_of_ble_eq_true rfl, Nat.le_of_ble_eq_true rfl⟩ [0, 1, 2, 3, 4, 5] rfl [0, 1, 2, 3, 4, 5, 6] [] [0, 1, 2, 3, 4, 5, 6] rfl (by decide) rfl (by decide) (by decide) (fun _ => rfl) (by decide) 0 rfl rfl rfl (Nat.le_of_ble_eq_true rfl) zd_Su_addLeaf_8 (fun r u H locs hp h => ?_)
  obtain ⟨rfl, q1⟩ := hp
  have h : zH D A s [(t0, .inr (2, [.ref ta, .int (nI n), .ref aS, .ref aE, .ref aP, .ref aL, .int (nI nd), .ref aQ, .int (nI M), .int (nI sh), .int (nI an), .int (nI L), .int (nI wt), .int (nI fl), .int fp])), (aS, .inl (cS, 131072, .inl (fun zz => nI (st zz)))), (aE, .inl (cE, 131072, .inl (fun zz => nI (en zz)))), (aP, .inl (cP, 131072, .inl (fun zz => nI (pa zz)))), (aL, .inl (cL, 131072, .inl (fun zz => nI (li zz)))), (aQ, .inl (cQ, 262144, .inl (fun zz => nI (sl zz)))), (ta, .inl (cB, NB, .inl (T)))] H locs := h
  have hu := hs_r_lt q1
  refine lv_istore_n X.1.1 X.1.2.1 zd_Su_addLeaf_11 rfl hl (by decide) rfl (fun ls hl => ?_)
  have hl : lv_has ls 4 [(3, .int (nI u)), (0, .ref t0), (1, .int (nI b)), (2, .int (nI x))] := hl
  refine lv_aload_n X.1.1 X.1.2.1 zd_Su_addLeaf_12 rfl (lv_at hl 1 rfl) ?_
  refine rG X h 0 rfl rfl zW_Su 7 (by decide) zw_55 rfl zd_Su_addLeaf_13 ?_
  refine lv_iload_n X.1.1 X.1.2.1 zd_Su_addLeaf_16 rfl (lv_at hl 0 rfl) ?_
  refine lv_aload_n X.1.1 X.1.2.1 zd_Su_addLeaf_17 rfl (lv_at hl 1 rfl) ?_
  refine lv_iload_n X.1.1 X.1.2.1 zd_Su_addLeaf_18 rfl (lv_at hl 2 rfl) ?_
  refine lv_iload_n X.1.1 X.1.2.1 zd_Su_addLeaf_19 rfl (lv_at hl 3 rfl) ?_
  refine lv_aload_n X.1.1 X.1.2.1 zd_Su_addLeaf_20 rfl (lv_at hl 1 rfl) ?_
  refine rG X h 0 rfl rfl zW_Su 1 (by decide) zw_49 rfl zd_Su_addLeaf_21 ?_
  refine rCi (wr := []) (wf := fun _ => [(t0, .inr (2, [.ref ta, .int (nI n), .ref aS, .ref aE, .ref aP, .ref aL, .int (nI (nd + 1)), .ref aQ, .int (nI M), .int (nI sh), .int (nI an), .int (nI L), .int (nI wt), .int (nI fl), .int fp])), (aS, .inl (cS, 131072, .inl (fun zz => nI ((va_up st nd x) zz)))), (aE, .inl (cE, 131072, .inl (fun zz => nI ((va_up en nd n) zz)))), (aP, .inl (cP, 131072, .inl (fun zz => nI ((va_up pa nd b) zz)))), (aL, .inl (cL, 131072, .inl (fun zz => nI ((va_up li nd 0) zz)))), (aQ, .inl (cQ, 262144, .inl (fun zz => nI (sl zz)))), (ta, .inl (cB, NB, .inl (T)))]) (rest := [.int (nI u), .ref aQ]) X h hl.1 (zc_Su_addNode l D (t0 := t0) (ta := ta) (n := n) (aS := aS) (aE := aE) (aP := aP) (aL := aL) (nd := nd) (aQ := aQ) (M := M) (sh := sh) (an := an) (L := L) (wt := wt) (fl := fl) (fp := fp) (st := st) (cS := cS) (en := en) (cE := cE) (pa := pa) (cP := cP) (li := li) (cL := cL) (sl := sl) (cQ := cQ) (T := T) (cB := cB) (NB := NB) (b := b) (x := x) (y := n) (hnd) H.size) zw_211 zw_213 zs_6 zw_3 zm_Su_addNode zq_Su_addNode ⟨Nat.le_of_ble_eq_true rfl, Nat.le_of_ble_eq_true rfl⟩ ⟨Nat.le_of_ble_eq_true rfl, Nat.le_of_ble_eq_true rfl⟩ [0, 1, 2, 3, 4, 5] rfl [0, 1, 2, 3, 4, 5, 6] [] [0, 1, 2, 3, 4, 5, 6] rfl (by decide) rfl (by decide) (by decide) (fun _ => rfl) (by decide) 0 rfl rfl rfl (Nat.le_of_ble_eq_true rfl) zd_Su_addLeaf_24 (fun r _ H locs hp h => ?_)
  obtain ⟨rfl, -⟩ := hp
  have h : zH D A s [(t0, .inr (2, [.ref ta, .int (nI n), .ref aS, .ref aE, .ref aP, .ref aL, .int (nI (nd + 1)), .ref aQ, .int (nI M), .int (nI sh), .int (nI an), .int (nI L), .int (nI wt), .int (nI fl), .int fp])), (aS, .inl (cS, 131072, .inl (fun zz => nI ((va_up st nd x) zz)))), (aE, .inl (cE, 131072, .inl (fun zz => nI ((va_up en nd n) zz)))), (aP, .inl (cP, 131072, .inl (fun zz => nI ((va_up pa nd b) zz)))), (aL, .inl (cL, 131072, .inl (fun zz => nI ((va_up li nd 0) zz)))), (aQ, .inl (cQ, 262144, .inl (fun zz => nI (sl zz)))), (ta, .inl (cB, NB, .inl (T)))] H locs := h
  refine rSn X h 5 4 rfl rfl (by omega) (by omega) zd_Su_addLeaf_27 (fun H locs h => ?_)
  have h : zH D A s [(t0, .inr (2, [.ref ta, .int (nI n), .ref aS, .ref aE, .ref aP, .ref aL, .int (nI (nd + 1)), .ref aQ, .int (nI M), .int (nI sh), .int (nI an), .int (nI L), .int (nI wt), .int (nI fl), .int fp])), (aS, .inl (cS, 131072, .inl (fun zz => nI ((va_up st nd x) zz)))), (aE, .inl (cE, 131072, .inl (fun zz => nI ((va_up en nd n) zz)))), (aP, .inl (cP, 131072, .inl (fun zz => nI ((va_up pa nd b) zz)))), (aL, .inl (cL, 131072, .inl (fun zz => nI ((va_up li nd 0) zz)))), (aQ, .inl (cQ, 262144, .inl (fun zz => nI ((va_up sl u nd) zz)))), (ta, .inl (cB, NB, .inl (T)))] H locs := h
  exact ret u H locs ls _ (q1) h zd_Su_addLeaf_28

set_option maxHeartbeats 4000000 in
set_option maxRecDepth 100000 in
theorem zc_Su_split (l : Launch) (D : va_G) {t0 ta n aS aE aP aL nd aQ M sh an L wt fl NB : Nat} {fp : Int32} {st en pa li sl : Nat → Nat} {T : Nat → Int32} {cS cE cP cL cQ cB : ClassId} {rr w : Nat} (hO : tO NB M sh (nd + 1) (va_up (va_up st nd (st w)) w (st w + L)) (va_up (va_up pa nd an) w nd) (va_up sl rr nd)) (hr : rr < 262144) (hw : w < nd) (hnd : nd < 131072) (hm : st w + L < NB) (sz : Nat) : zMi l D zy_Su_split zb_Su_split 5 .int ({ frames := 1, cells := 0, slots := 0, locals := 25 } : Room) [.ref t0, .int (nI rr), .int (nI w)] [(cS, .int), (cE, .int), (cP, .int), (cL, .int), (cQ, .int), (cB, .byte)] [(t0, .inr (2, [.ref ta, .int (nI n), .ref aS, .ref aE, .ref aP, .ref aL, .int (nI nd), .ref aQ, .int (nI M), .int (nI sh), .int (nI an), .int (nI L), .int (nI wt), .int (nI fl), .int fp])), (aS, .inl (cS, 131072, .inl (fun zz => nI (st zz)))), (aE, .inl (cE, 131072, .inl (fun zz => nI (en zz)))), (aP, .inl (cP, 131072, .inl (fun zz => nI (pa zz)))), (aL, .inl (cL, 131072, .inl (fun zz => nI (li zz)))), (aQ, .inl (cQ, 262144, .inl (fun zz => nI (sl zz)))), (ta, .inl (cB, NB, .inl (T)))] sz (fun (r : Int32) (u : Nat) => r = nI nd ∧ hs_r M (va_up sl rr nd) (hok (va_up (va_up pa nd an) w nd) (va_up (va_up st nd (st w)) w (st w + L)) T nd (T (st w + L))) (hN sh nd (T (st w + L))) u) (fun u => [(t0, .inr (2, [.ref ta, .int (nI n), .ref aS, .ref aE, .ref aP, .ref aL, .int (nI (nd + 1)), .ref aQ, .int (nI M), .int (nI sh), .int (nI an), .int (nI L), .int (nI wt), .int (nI fl), .int fp])), (aS, .inl (cS, 131072, .inl (fun zz => nI ((va_up (va_up st nd (st w)) w (st w + L)) zz)))), (aE, .inl (cE, 131072, .inl (fun zz => nI ((va_up en nd (st w + L)) zz)))), (aP, .inl (cP, 131072, .inl (fun zz => nI ((va_up (va_up pa nd an) w nd) zz)))), (aL, .inl (cL, 131072, .inl (fun zz => nI ((va_up li nd 0) zz)))), (aQ, .inl (cQ, 262144, .inl (fun zz => nI ((va_up (va_up sl rr nd) u w) zz)))), (ta, .inl (cB, NB, .inl (T)))]) := by
  refine zEi (by decide) (Nat.le_of_ble_eq_true rfl) (fun p e s m args below meth c ls A Q X hl h hsz ret => ?_)
  have hl : lv_has ls 5 [(0, .ref t0), (1, .int (nI rr)), (2, .int (nI w))] := hl
  generalize hH0 : s.heap = H at h ⊢
  have h : zH D A s [(t0, .inr (2, [.ref ta, .int (nI n), .ref aS, .ref aE, .ref aP, .ref aL, .int (nI nd), .ref aQ, .int (nI M), .int (nI sh), .int (nI an), .int (nI L), .int (nI wt), .int (nI fl), .int fp])), (aS, .inl (cS, 131072, .inl (fun zz => nI (st zz)))), (aE, .inl (cE, 131072, .inl (fun zz => nI (en zz)))), (aP, .inl (cP, 131072, .inl (fun zz => nI (pa zz)))), (aL, .inl (cL, 131072, .inl (fun zz => nI (li zz)))), (aQ, .inl (cQ, 262144, .inl (fun zz => nI (sl zz)))), (ta, .inl (cB, NB, .inl (T)))] H [] := h
  generalize hL0 : ([] : List Loc) = locs at h ⊢
  have hNB := hO.1
  have hM := tO_M hO
  refine lv_aload_n X.1.1 X.1.2.1 zd_Su_split_0 rfl (lv_at hl 0 rfl) ?_
  refine rG X h 0 rfl rfl zW_Su 2 (by decide) zw_50 rfl zd_Su_split_1 ?_
  refine lv_iload_n X.1.1 X.1.2.1 zd_Su_split_4 rfl (lv_at hl 2 rfl) ?_
  refine rLn X h 1 0 rfl rfl (by omega) (by omega) zd_Su_split_5 ?_
  refine lv_aload_n X.1.1 X.1.2.1 zd_Su_split_6 rfl (lv_at hl 0 rfl) ?_
  refine rG X h 0 rfl rfl zW_Su 11 (by decide) zw_59 rfl zd_Su_split_7 ?_
  refine lv_iadd X.1.1 X.1.2.1 zd_Su_split_10 ?_
  refine zTop (y := nI (st w + L)) (nI_add _ _) ?_
  refine lv_istore_n X.1.1 X.1.2.1 zd_Su_split_11 rfl hl (by decide) rfl (fun ls hl => ?_)
  have hl : lv_has ls 5 [(3, .int (nI (st w + L))), (0, .ref t0), (1, .int (nI rr)), (2, .int (nI w))] := hl
  refine lv_aload_n X.1.1 X.1.2.1 zd_Su_split_12 rfl (lv_at hl 1 rfl) ?_
  refine lv_aload_n X.1.1 X.1.2.1 zd_Su_split_13 rfl (lv_at hl 1 rfl) ?_
  refine rG X h 0 rfl rfl zW_Su 10 (by decide) zw_58 rfl zd_Su_split_14 ?_
  refine lv_aload_n X.1.1 X.1.2.1 zd_Su_split_17 rfl (lv_at hl 1 rfl) ?_
  refine rG X h 0 rfl rfl zW_Su 2 (by decide) zw_50 rfl zd_Su_split_18 ?_
  refine lv_iload_n X.1.1 X.1.2.1 zd_Su_split_21 rfl (lv_at hl 3 rfl) ?_
  refine rLn X h 1 0 rfl rfl (by omega) (by omega) zd_Su_split_22 ?_
  refine lv_iload_n X.1.1 X.1.2.1 zd_Su_split_23 rfl (lv_at hl 0 rfl) ?_
  refine rCi (wr := []) (wf := fun _ => [(t0, .inr (2, [.ref ta, .int (nI n), .ref aS, .ref aE, .ref aP, .ref aL, .int (nI (nd + 1)), .ref aQ, .int (nI M), .int (nI sh), .int (nI an), .int (nI L), .int (nI wt), .int (nI fl), .int fp])), (aS, .inl (cS, 131072, .inl (fun zz => nI ((va_up st nd (st w)) zz)))), (aE, .inl (cE, 131072, .inl (fun zz => nI ((va_up en nd (st w + L)) zz)))), (aP, .inl (cP, 131072, .inl (fun zz => nI ((va_up pa nd an) zz)))), (aL, .inl (cL, 131072, .inl (fun zz => nI ((va_up li nd 0) zz)))), (aQ, .inl (cQ, 262144, .inl (fun zz => nI (sl zz)))), (ta, .inl (cB, NB, .inl (T)))]) (rest := []) X h hl.1 (zc_Su_addNode l D (t0 := t0) (ta := ta) (n := n) (aS := aS) (aE := aE) (aP := aP) (aL := aL) (nd := nd) (aQ := aQ) (M := M) (sh := sh) (an := an) (L := L) (wt := wt) (fl := fl) (fp := fp) (st := st) (cS := cS) (en := en) (cE := cE) (pa := pa) (cP := cP) (li := li) (cL := cL) (sl := sl) (cQ := cQ) (T := T) (cB := cB) (NB := NB) (b := an) (x := st w) (y := st w + L) (hnd) H.size) zw_211 zw_213 zs_6 zw_3 zm_Su_addNode zq_Su_addNode ⟨Nat.le_of_ble_eq_true rfl, Nat.le_of_ble_eq_true rfl⟩ ⟨Nat.le_of_ble_eq_true rfl, Nat.le_of_ble_eq_true rfl⟩ [0, 1, 2, 3, 4, 5] rfl [0, 1, 2, 3, 4, 5, 6] [] [0, 1, 2, 3, 4, 5, 6] rfl (by decide) rfl (by decide) (by decide) (fun _ => rfl) (by decide) 0 rfl rfl rfl (Nat.le_of_ble_eq_true rfl) zd_Su_split_24 (fun r _ H locs hp h => ?_)
  obtain ⟨rfl, -⟩ := hp
  have h : zH D A s [(t0, .inr (2, [.ref ta, .int (nI n), .ref aS, .ref aE, .ref aP, .ref aL, .int (nI (nd + 1)), .ref aQ, .int (nI M), .int (nI sh), .int (nI an), .int (nI L), .int (nI wt), .int (nI fl), .int fp])), (aS, .inl (cS, 131072, .inl (fun zz => nI ((va_up st nd (st w)) zz)))), (aE, .inl (cE, 131072, .inl (fun zz => nI ((va_up en nd (st w + L)) zz)))), (aP, .inl (cP, 131072, .inl (fun zz => nI ((va_up pa nd an) zz)))), (aL, .inl (cL, 131072, .inl (fun zz => nI ((va_up li nd 0) zz)))), (aQ, .inl (cQ, 262144, .inl (fun zz => nI (sl zz)))), (ta, .inl (cB, NB, .inl (T)))] H locs := h
  refine lv_istore X.1.1 X.1.2.1 zd_Su_split_27 hl (by decide) rfl (fun ls hl => ?_)
  have hl : lv_has ls 5 [(4, .int (nI nd)), (3, .int (nI (st w + L))), (0, .ref t0), (1, .int (nI rr)), (2, .int (nI w))] := hl
  refine lv_aload_n X.1.1 X.1.2.1 zd_Su_split_29 rfl (lv_at hl 2 rfl) ?_
  refine rG X h 0 rfl rfl zW_Su 7 (by decide) zw_55 rfl zd_Su_split_30 ?_
  refine lv_iload_n X.1.1 X.1.2.1 zd_Su_split_33 rfl (lv_at hl 3 rfl) ?_
  refine lv_iload X.1.1 X.1.2.1 zd_Su_split_34 (lv_at hl 0 rfl) ?_
  refine rSn X h 5 4 rfl rfl (by omega) (by omega) zd_Su_split_36 (fun H locs h => ?_)
  have h : zH D A s [(t0, .inr (2, [.ref ta, .int (nI n), .ref aS, .ref aE, .ref aP, .ref aL, .int (nI (nd + 1)), .ref aQ, .int (nI M), .int (nI sh), .int (nI an), .int (nI L), .int (nI wt), .int (nI fl), .int fp])), (aS, .inl (cS, 131072, .inl (fun zz => nI ((va_up st nd (st w)) zz)))), (aE, .inl (cE, 131072, .inl (fun zz => nI ((va_up en nd (st w + L)) zz)))), (aP, .inl (cP, 131072, .inl (fun zz => nI ((va_up pa nd an) zz)))), (aL, .inl (cL, 131072, .inl (fun zz => nI ((va_up li nd 0) zz)))), (aQ, .inl (cQ, 262144, .inl (fun zz => nI ((va_up sl rr nd) zz)))), (ta, .inl (cB, NB, .inl (T)))] H locs := h
  refine lv_aload_n X.1.1 X.1.2.1 zd_Su_split_37 rfl (lv_at hl 2 rfl) ?_
  refine rG X h 0 rfl rfl zW_Su 2 (by decide) zw_50 rfl zd_Su_split_38 ?_
  refine lv_iload_n X.1.1 X.1.2.1 zd_Su_split_41 rfl (lv_at hl 4 rfl) ?_
  refine lv_iload_n X.1.1 X.1.2.1 zd_Su_split_42 rfl (lv_at hl 1 rfl) ?_
  refine rSn X h 1 0 rfl rfl (by omega) (by omega) zd_Su_split_43 (fun H locs h => ?_)
  have h : zH D A s [(t0, .inr (2, [.ref ta, .int (nI n), .ref aS, .ref aE, .ref aP, .ref aL, .int (nI (nd + 1)), .ref aQ, .int (nI M), .int (nI sh), .int (nI an), .int (nI L), .int (nI wt), .int (nI fl), .int fp])), (aS, .inl (cS, 131072, .inl (fun zz => nI ((va_up (va_up st nd (st w)) w (st w + L)) zz)))), (aE, .inl (cE, 131072, .inl (fun zz => nI ((va_up en nd (st w + L)) zz)))), (aP, .inl (cP, 131072, .inl (fun zz => nI ((va_up pa nd an) zz)))), (aL, .inl (cL, 131072, .inl (fun zz => nI ((va_up li nd 0) zz)))), (aQ, .inl (cQ, 262144, .inl (fun zz => nI ((va_up sl rr nd) zz)))), (ta, .inl (cB, NB, .inl (T)))] H locs := h
  refine lv_aload_n X.1.1 X.1.2.1 zd_Su_split_44 rfl (lv_at hl 2 rfl) ?_
  refine rG X h 0 rfl rfl zW_Su 4 (by decide) zw_52 rfl zd_Su_split_45 ?_
  refine lv_iload_n X.1.1 X.1.2.1 zd_Su_split_48 rfl (lv_at hl 4 rfl) ?_
  refine lv_iload X.1.1 X.1.2.1 zd_Su_split_49 (lv_at hl 0 rfl) ?_
  refine rSn X h 3 2 rfl rfl (by omega) (by omega) zd_Su_split_51 (fun H locs h => ?_)
  have h : zH D A s [(t0, .inr (2, [.ref ta, .int (nI n), .ref aS, .ref aE, .ref aP, .ref aL, .int (nI (nd + 1)), .ref aQ, .int (nI M), .int (nI sh), .int (nI an), .int (nI L), .int (nI wt), .int (nI fl), .int fp])), (aS, .inl (cS, 131072, .inl (fun zz => nI ((va_up (va_up st nd (st w)) w (st w + L)) zz)))), (aE, .inl (cE, 131072, .inl (fun zz => nI ((va_up en nd (st w + L)) zz)))), (aP, .inl (cP, 131072, .inl (fun zz => nI ((va_up (va_up pa nd an) w nd) zz)))), (aL, .inl (cL, 131072, .inl (fun zz => nI ((va_up li nd 0) zz)))), (aQ, .inl (cQ, 262144, .inl (fun zz => nI ((va_up sl rr nd) zz)))), (ta, .inl (cB, NB, .inl (T)))] H locs := h
  refine lv_aload_n X.1.1 X.1.2.1 zd_Su_split_52 rfl (lv_at hl 2 rfl) ?_
  refine rG X h 0 rfl rfl zW_Su 7 (by decide) zw_55 rfl zd_Su_split_53 ?_
  refine lv_aload_n X.1.1 X.1.2.1 zd_Su_split_56 rfl (lv_at hl 2 rfl) ?_
  refine lv_iload X.1.1 X.1.2.1 zd_Su_split_57 (lv_at hl 0 rfl) ?_
  refine lv_aload_n X.1.1 X.1.2.1 zd_Su_split_59 rfl (lv_at hl 2 rfl) ?_
  refine rG X h 0 rfl rfl zW_Su 0 (by decide) zw_48 rfl zd_Su_split_60 ?_
  refine lv_iload_n X.1.1 X.1.2.1 zd_Su_split_63 rfl (lv_at hl 1 rfl) ?_
  refine rLb X h 6 5 rfl rfl (by omega) (by omega) zd_Su_split_64 ?_
  refine rCi (wr := []) (wf := fun u => [(t0, .inr (2, [.ref ta, .int (nI n), .ref aS, .ref aE, .ref aP, .ref aL, .int (nI (nd + 1)), .ref aQ, .int (nI M), .int (nI sh), .int (nI an), .int (nI L), .int (nI wt), .int (nI fl), .int fp])), (aS, .inl (cS, 131072, .inl (fun zz => nI ((va_up (va_up st nd (st w)) w (st w + L)) zz)))), (aE, .inl (cE, 131072, .inl (fun zz => nI ((va_up en nd (st w + L)) zz)))), (aP, .inl (cP, 131072, .inl (fun zz => nI ((va_up (va_up pa nd an) w nd) zz)))), (aL, .inl (cL, 131072, .inl (fun zz => nI ((va_up li nd 0) zz)))), (aQ, .inl (cQ, 262144, .inl (fun zz => nI ((va_up sl rr nd) zz)))), (ta, .inl (cB, NB, .inl (T)))]) (rest := [.ref aQ]) X h hl.1 (zc_Su_slotOf l D (t0 := t0) (ta := ta) (n := n) (aS := aS) (aE := aE) (aP := aP) (aL := aL) (nd := nd + 1) (aQ := aQ) (M := M) (sh := sh) (an := an) (L := L) (wt := wt) (fl := fl) (fp := fp) (st := va_up (va_up st nd (st w)) w (st w + L)) (cS := cS) (en := va_up en nd (st w + L)) (cE := cE) (pa := va_up (va_up pa nd an) w nd) (cP := cP) (li := va_up li nd 0) (cL := cL) (sl := va_up sl rr nd) (cQ := cQ) (T := T) (cB := cB) (NB := NB) (a := nd) (ch := T (st w + L)) (hO) (hnd) H.size) zw_202 zw_204 zs_4 zw_3 zm_Su_slotOf zq_Su_slotOf ⟨Nat.le_of_ble_eq_true rfl, Nat.le_of_ble_eq_true rfl⟩ ⟨Nat.le_of_ble_eq_true rfl, Nat.le_of_ble_eq_true rfl⟩ [0, 1, 2, 3, 4, 5] rfl [0, 1, 2, 3, 4, 5, 6] [] [0, 1, 2, 3, 4, 5, 6] rfl (by decide) rfl (by decide) (by decide) (fun _ => rfl) (by decide) 0 rfl rfl rfl (Nat.le_of_ble_eq_true rfl) zd_Su_split_65 (fun r u H locs hp h => ?_)
  obtain ⟨rfl, q1⟩ := hp
  have h : zH D A s [(t0, .inr (2, [.ref ta, .int (nI n), .ref aS, .ref aE, .ref aP, .ref aL, .int (nI (nd + 1)), .ref aQ, .int (nI M), .int (nI sh), .int (nI an), .int (nI L), .int (nI wt), .int (nI fl), .int fp])), (aS, .inl (cS, 131072, .inl (fun zz => nI ((va_up (va_up st nd (st w)) w (st w + L)) zz)))), (aE, .inl (cE, 131072, .inl (fun zz => nI ((va_up en nd (st w + L)) zz)))), (aP, .inl (cP, 131072, .inl (fun zz => nI ((va_up (va_up pa nd an) w nd) zz)))), (aL, .inl (cL, 131072, .inl (fun zz => nI ((va_up li nd 0) zz)))), (aQ, .inl (cQ, 262144, .inl (fun zz => nI ((va_up sl rr nd) zz)))), (ta, .inl (cB, NB, .inl (T)))] H locs := h
  have hu := hs_r_lt q1
  refine lv_iload_n X.1.1 X.1.2.1 zd_Su_split_68 rfl (lv_at hl 4 rfl) ?_
  refine rSn X h 5 4 rfl rfl (by omega) (by omega) zd_Su_split_69 (fun H locs h => ?_)
  have h : zH D A s [(t0, .inr (2, [.ref ta, .int (nI n), .ref aS, .ref aE, .ref aP, .ref aL, .int (nI (nd + 1)), .ref aQ, .int (nI M), .int (nI sh), .int (nI an), .int (nI L), .int (nI wt), .int (nI fl), .int fp])), (aS, .inl (cS, 131072, .inl (fun zz => nI ((va_up (va_up st nd (st w)) w (st w + L)) zz)))), (aE, .inl (cE, 131072, .inl (fun zz => nI ((va_up en nd (st w + L)) zz)))), (aP, .inl (cP, 131072, .inl (fun zz => nI ((va_up (va_up pa nd an) w nd) zz)))), (aL, .inl (cL, 131072, .inl (fun zz => nI ((va_up li nd 0) zz)))), (aQ, .inl (cQ, 262144, .inl (fun zz => nI ((va_up (va_up sl rr nd) u w) zz)))), (ta, .inl (cB, NB, .inl (T)))] H locs := h
  refine lv_iload X.1.1 X.1.2.1 zd_Su_split_70 (lv_at hl 0 rfl) ?_
  exact ret _ u H locs ls _ (⟨rfl, q1⟩) h zd_Su_split_72

set_option maxHeartbeats 4000000 in
set_option maxRecDepth 100000 in
theorem zc_Su_foundLength (l : Launch) (D : va_G) {t0 ta n aS aE aP aL nd aQ M sh an L wt fl NB : Nat} {fp : Int32} {st en pa li sl : Nat → Nat} {T : Nat → Int32} {cS cE cP cL cQ cB : ClassId}  (sz : Nat) : zMi l D zy_Su_foundLength zb_Su_foundLength 1 .int ({ frames := 0, cells := 0, slots := 0, locals := 0 } : Room) [.ref t0] [] [(t0, .inr (2, [.ref ta, .int (nI n), .ref aS, .ref aE, .ref aP, .ref aL, .int (nI nd), .ref aQ, .int (nI M), .int (nI sh), .int (nI an), .int (nI L), .int (nI wt), .int (nI fl), .int fp]))] sz (fun (r : Int32) (u : Unit) => r = nI fl ∧ True) (fun _ => [(t0, .inr (2, [.ref ta, .int (nI n), .ref aS, .ref aE, .ref aP, .ref aL, .int (nI nd), .ref aQ, .int (nI M), .int (nI sh), .int (nI an), .int (nI L), .int (nI wt), .int (nI fl), .int fp]))]) := by
  refine zEi (by decide) (Nat.le_of_ble_eq_true rfl) (fun p e s m args below meth c ls A Q X hl h hsz ret => ?_)
  have hl : lv_has ls 1 [(0, .ref t0)] := hl
  generalize hH0 : s.heap = H at h ⊢
  have h : zH D A s [(t0, .inr (2, [.ref ta, .int (nI n), .ref aS, .ref aE, .ref aP, .ref aL, .int (nI nd), .ref aQ, .int (nI M), .int (nI sh), .int (nI an), .int (nI L), .int (nI wt), .int (nI fl), .int fp]))] H [] := h
  generalize hL0 : ([] : List Loc) = locs at h ⊢
  refine lv_aload_n X.1.1 X.1.2.1 zd_Su_foundLength_0 rfl (lv_at hl 0 rfl) ?_
  refine rG X h 0 rfl rfl zW_Su 13 (by decide) zw_61 rfl zd_Su_foundLength_1 ?_
  exact ret _ () H locs ls _ (⟨rfl, trivial⟩) h zd_Su_foundLength_4

set_option maxHeartbeats 4000000 in
set_option maxRecDepth 100000 in
theorem zc_Su_foundPlace (l : Launch) (D : va_G) {t0 ta n aS aE aP aL nd aQ M sh an L wt fl NB : Nat} {fp : Int32} {st en pa li sl : Nat → Nat} {T : Nat → Int32} {cS cE cP cL cQ cB : ClassId}  (sz : Nat) : zMi l D zy_Su_foundPlace zb_Su_foundPlace 1 .int ({ frames := 0, cells := 0, slots := 0, locals := 0 } : Room) [.ref t0] [] [(t0, .inr (2, [.ref ta, .int (nI n), .ref aS, .ref aE, .ref aP, .ref aL, .int (nI nd), .ref aQ, .int (nI M), .int (nI sh), .int (nI an), .int (nI L), .int (nI wt), .int (nI fl), .int fp]))] sz (fun (r : Int32) (u : Unit) => r = fp ∧ True) (fun _ => [(t0, .inr (2, [.ref ta, .int (nI n), .ref aS, .ref aE, .ref aP, .ref aL, .int (nI nd), .ref aQ, .int (nI M), .int (nI sh), .int (nI an), .int (nI L), .int (nI wt), .int (nI fl), .int fp]))]) := by
  refine zEi (by decide) (Nat.le_of_ble_eq_true rfl) (fun p e s m args below meth c ls A Q X hl h hsz ret => ?_)
  have hl : lv_has ls 1 [(0, .ref t0)] := hl
  generalize hH0 : s.heap = H at h ⊢
  have h : zH D A s [(t0, .inr (2, [.ref ta, .int (nI n), .ref aS, .ref aE, .ref aP, .ref aL, .int (nI nd), .ref aQ, .int (nI M), .int (nI sh), .int (nI an), .int (nI L), .int (nI wt), .int (nI fl), .int fp]))] H [] := h
  generalize hL0 : ([] : List Loc) = locs at h ⊢
  refine lv_aload_n X.1.1 X.1.2.1 zd_Su_foundPlace_0 rfl (lv_at hl 0 rfl) ?_
  refine rG X h 0 rfl rfl zW_Su 14 (by decide) zw_62 rfl zd_Su_foundPlace_1 ?_
  exact ret _ () H locs ls _ (⟨rfl, trivial⟩) h zd_Su_foundPlace_4
end
section
/-! Integer.highestOneBit, numberOfLeadingZeros, bitCount; emptySlots -/
theorem nI_and (a b : Nat) : nI a &&& nI b = nI (a &&& b) := by
  refine nI_inj32 ?_
  show (BitVec.ofNat 32 a &&& BitVec.ofNat 32 b).toNat = (BitVec.ofNat 32 (a &&& b)).toNat
  simp [BitVec.toNat_and, Nat.and_mod_two_pow]
theorem hob_sh : ∀ k, k < 16 → ((-2147483648 : Int32).toUInt32 >>> ((nI (31 - k)).toUInt32 &&& Int32.toUInt32 31)).toInt32 = nI (2 ^ k) := by decide +kernel
theorem hob_and {x k : Nat} (h1 : 2 ^ k ≤ x) (h2 : x < 2 ^ (k + 1)) : nI x &&& nI (2 ^ k) = nI (2 ^ k) := by
  rw [nI_and]
  congr 1
  apply Nat.eq_of_testBit_eq
  intro i
  rw [Nat.testBit_and, Nat.testBit_two_pow]
  by_cases hc : k = i
  · subst hc
    rw [Nat.testBit_of_two_pow_le_and_two_pow_add_one_gt h1 h2]
    simp
  · simp [hc]

set_option maxHeartbeats 4000000 in
set_option maxRecDepth 100000 in
theorem zc_In_numberOfLeadingZeros (l : Launch) (D : va_G) {x : Nat} (h0 : 0 < x) (hx : x < 65536) (sz : Nat) : zMi l D zy_In_numberOfLeadingZeros zb_In_numberOfLeadingZeros 2 .int ({ frames := 0, cells := 0, slots := 0, locals := 0 } : Room) [.int (nI x)] [] [] sz (fun (r : Int32) (u : Nat) => r = nI (31 - u) ∧ u < 16 ∧ 2 ^ u ≤ x ∧ x < 2 ^ (u + 1)) (fun u => []) := by
  refine zEi (by decide) (Nat.le_of_ble_eq_true rfl) (fun p e s m args below meth c ls A Q X hl h hsz ret => ?_)
  have hl : lv_has ls 2 [(0, .int (nI x))] := hl
  generalize hH0 : s.heap = H at h ⊢
  have h : zH D A s [] H [] := h
  generalize hL0 : ([] : List Loc) = locs at h ⊢
  refine lv_iload_n X.1.1 X.1.2.1 zd_In_numberOfLeadingZeros_0 rfl (lv_at hl 0 rfl) ?_
  refine lv_if_gt (tgt := 15) X.1.1 X.1.2.1 zd_In_numberOfLeadingZeros_1 rfl (fun c0 => ?_) (fun c0 => ?_)
  · have c0 : 0 < x := zc_gt0_t (by omega) (by omega) c0
    refine lv_bipush (v := nI 31) X.1.1 X.1.2.1 zd_In_numberOfLeadingZeros_15 (by decide) ?_
    refine lv_istore_n X.1.1 X.1.2.1 zd_In_numberOfLeadingZeros_17 rfl hl (by decide) rfl (fun ls hl => ?_)
    have hl : lv_has ls 2 [(1, .int (nI 31)), (0, .int (nI x))] := hl
    refine lv_iload_n X.1.1 X.1.2.1 zd_In_numberOfLeadingZeros_18 rfl (lv_at hl 1 rfl) ?_
    refine lv_ldcw X.1.1 X.1.2.1 X.1.2.2.2.1 (X.1.2.2.2.2 _ zw_187) zd_In_numberOfLeadingZeros_19 ?_
    refine zTop (y := nI 65536) (by decide) ?_
    refine lv_icmp_lt (tgt := 33) X.1.1 X.1.2.1 zd_In_numberOfLeadingZeros_22 rfl (fun c1 => ?_) (fun c1 => ?_)
    · have c1 : x < 65536 := zc_lt_t (by omega) (by omega) c1
      refine lv_iload_n X.1.1 X.1.2.1 zd_In_numberOfLeadingZeros_33 rfl (lv_at hl 1 rfl) ?_
      refine lv_sipush (v := nI 256) X.1.1 X.1.2.1 zd_In_numberOfLeadingZeros_34 (by decide) ?_
      refine lv_icmp_lt (tgt := 48) X.1.1 X.1.2.1 zd_In_numberOfLeadingZeros_37 rfl (fun d0 => ?_) (fun d0 => ?_)
      · have d0 : x < 256 := zc_lt_t (by omega) (by omega) d0
        refine lv_iload_n X.1.1 X.1.2.1 zd_In_numberOfLeadingZeros_48 rfl (lv_at hl 1 rfl) ?_
        refine lv_bipush (v := nI 16) X.1.1 X.1.2.1 zd_In_numberOfLeadingZeros_49 (by decide) ?_
        refine lv_icmp_lt (tgt := 61) X.1.1 X.1.2.1 zd_In_numberOfLeadingZeros_51 rfl (fun d1 => ?_) (fun d1 => ?_)
        · have d1 : x < 16 := zc_lt_t (by omega) (by omega) d1
          refine lv_iload_n X.1.1 X.1.2.1 zd_In_numberOfLeadingZeros_61 rfl (lv_at hl 1 rfl) ?_
          refine lv_iconst (v := nI 4) X.1.1 X.1.2.1 zd_In_numberOfLeadingZeros_62 (by decide) ?_
          refine lv_icmp_lt (tgt := 73) X.1.1 X.1.2.1 zd_In_numberOfLeadingZeros_63 rfl (fun d2 => ?_) (fun d2 => ?_)
          · have d2 : x < 4 := zc_lt_t (by omega) (by omega) d2
            refine lv_iload_n X.1.1 X.1.2.1 zd_In_numberOfLeadingZeros_73 rfl (lv_at hl 0 rfl) ?_
            refine lv_iload_n X.1.1 X.1.2.1 zd_In_numberOfLeadingZeros_74 rfl (lv_at hl 1 rfl) ?_
            refine lv_iconst (v := nI 1) X.1.1 X.1.2.1 zd_In_numberOfLeadingZeros_75 (by decide) ?_
            refine lv_iushr (v := nI (x / 2)) X.1.1 X.1.2.1 zd_In_numberOfLeadingZeros_76 ((ush_eq _ (by decide)).trans (ush_nI (by omega))) ?_
            refine lv_isub X.1.1 X.1.2.1 zd_In_numberOfLeadingZeros_77 ?_
            refine zTop (y := nI (31 - (0 + x / 2))) ((pk_sub (by omega)).trans (congrArg nI (by omega))) ?_
            exact ret _ (0 + x / 2) H locs ls _ (⟨rfl, by omega, by rcases (show x / 2 = 0 ∨ x / 2 = 1 by omega) with q | q <;> rw [q] <;> omega, by rcases (show x / 2 = 0 ∨ x / 2 = 1 by omega) with q | q <;> rw [q] <;> omega⟩) h zd_In_numberOfLeadingZeros_78
          · have d2 : 4 ≤ x := zc_lt_f (by omega) (by omega) d2
            refine lv_iinc X.1.1 X.1.2.1 zd_In_numberOfLeadingZeros_66 hl (k := 0) rfl (v := nI 29) (by decide) (by decide) rfl (fun ls hl => ?_)
            have hl : lv_has ls 2 [(1, .int (nI 29)), (0, .int (nI x))] := hl
            refine lv_iload_n X.1.1 X.1.2.1 zd_In_numberOfLeadingZeros_69 rfl (lv_at hl 1 rfl) ?_
            refine lv_iconst (v := nI 2) X.1.1 X.1.2.1 zd_In_numberOfLeadingZeros_70 (by decide) ?_
            refine lv_iushr (v := nI (x / 4)) X.1.1 X.1.2.1 zd_In_numberOfLeadingZeros_71 ((ush_eq _ (by decide)).trans (ush_nI (by omega))) ?_
            refine lv_istore_n X.1.1 X.1.2.1 zd_In_numberOfLeadingZeros_72 rfl hl (by decide) rfl (fun ls hl => ?_)
            have hl : lv_has ls 2 [(0, .int (nI (x / 4))), (1, .int (nI 29))] := hl
            refine lv_iload_n X.1.1 X.1.2.1 zd_In_numberOfLeadingZeros_73 rfl (lv_at hl 1 rfl) ?_
            refine lv_iload_n X.1.1 X.1.2.1 zd_In_numberOfLeadingZeros_74 rfl (lv_at hl 0 rfl) ?_
            refine lv_iconst (v := nI 1) X.1.1 X.1.2.1 zd_In_numberOfLeadingZeros_75 (by decide) ?_
            refine lv_iushr (v := nI ((x / 4) / 2)) X.1.1 X.1.2.1 zd_In_numberOfLeadingZeros_76 ((ush_eq _ (by decide)).trans (ush_nI (by omega))) ?_
            refine lv_isub X.1.1 X.1.2.1 zd_In_numberOfLeadingZeros_77 ?_
            refine zTop (y := nI (31 - (2 + (x / 4) / 2))) ((pk_sub (by omega)).trans (congrArg nI (by omega))) ?_
            exact ret _ (2 + (x / 4) / 2) H locs ls _ (⟨rfl, by omega, by rcases (show (x / 4) / 2 = 0 ∨ (x / 4) / 2 = 1 by omega) with q | q <;> rw [q] <;> omega, by rcases (show (x / 4) / 2 = 0 ∨ (x / 4) / 2 = 1 by omega) with q | q <;> rw [q] <;> omega⟩) h zd_In_numberOfLeadingZeros_78
        · have d1 : 16 ≤ x := zc_lt_f (by omega) (by omega) d1
          refine lv_iinc X.1.1 X.1.2.1 zd_In_numberOfLeadingZeros_54 hl (k := 0) rfl (v := nI 27) (by decide) (by decide) rfl (fun ls hl => ?_)
          have hl : lv_has ls 2 [(1, .int (nI 27)), (0, .int (nI x))] := hl
          refine lv_iload_n X.1.1 X.1.2.1 zd_In_numberOfLeadingZeros_57 rfl (lv_at hl 1 rfl) ?_
          refine lv_iconst (v := nI 4) X.1.1 X.1.2.1 zd_In_numberOfLeadingZeros_58 (by decide) ?_
          refine lv_iushr (v := nI (x / 16)) X.1.1 X.1.2.1 zd_In_numberOfLeadingZeros_59 ((ush_eq _ (by decide)).trans (ush_nI (by omega))) ?_
          refine lv_istore_n X.1.1 X.1.2.1 zd_In_numberOfLeadingZeros_60 rfl hl (by decide) rfl (fun ls hl => ?_)
          have hl : lv_has ls 2 [(0, .int (nI (x / 16))), (1, .int (nI 27))] := hl
          refine lv_iload_n X.1.1 X.1.2.1 zd_In_numberOfLeadingZeros_61 rfl (lv_at hl 0 rfl) ?_
          refine lv_iconst (v := nI 4) X.1.1 X.1.2.1 zd_In_numberOfLeadingZeros_62 (by decide) ?_
          refine lv_icmp_lt (tgt := 73) X.1.1 X.1.2.1 zd_In_numberOfLeadingZeros_63 rfl (fun d2 => ?_) (fun d2 => ?_)
          · have d2 : x / 16 < 4 := zc_lt_t (by omega) (by omega) d2
            refine lv_iload_n X.1.1 X.1.2.1 zd_In_numberOfLeadingZeros_73 rfl (lv_at hl 1 rfl) ?_
            refine lv_iload_n X.1.1 X.1.2.1 zd_In_numberOfLeadingZeros_74 rfl (lv_at hl 0 rfl) ?_
            refine lv_iconst (v := nI 1) X.1.1 X.1.2.1 zd_In_numberOfLeadingZeros_75 (by decide) ?_
            refine lv_iushr (v := nI ((x / 16) / 2)) X.1.1 X.1.2.1 zd_In_numberOfLeadingZeros_76 ((ush_eq _ (by decide)).trans (ush_nI (by omega))) ?_
            refine lv_isub X.1.1 X.1.2.1 zd_In_numberOfLeadingZeros_77 ?_
            refine zTop (y := nI (31 - (4 + (x / 16) / 2))) ((pk_sub (by omega)).trans (congrArg nI (by omega))) ?_
            exact ret _ (4 + (x / 16) / 2) H locs ls _ (⟨rfl, by omega, by rcases (show (x / 16) / 2 = 0 ∨ (x / 16) / 2 = 1 by omega) with q | q <;> rw [q] <;> omega, by rcases (show (x / 16) / 2 = 0 ∨ (x / 16) / 2 = 1 by omega) with q | q <;> rw [q] <;> omega⟩) h zd_In_numberOfLeadingZeros_78
          · have d2 : 4 ≤ x / 16 := zc_lt_f (by omega) (by omega) d2
            refine lv_iinc X.1.1 X.1.2.1 zd_In_numberOfLeadingZeros_66 hl (k := 1) rfl (v := nI 25) (by decide) (by decide) rfl (fun ls hl => ?_)
            have hl : lv_has ls 2 [(1, .int (nI 25)), (0, .int (nI (x / 16)))] := hl
            refine lv_iload_n X.1.1 X.1.2.1 zd_In_numberOfLeadingZeros_69 rfl (lv_at hl 1 rfl) ?_
            refine lv_iconst (v := nI 2) X.1.1 X.1.2.1 zd_In_numberOfLeadingZeros_70 (by decide) ?_
            refine lv_iushr (v := nI ((x / 16) / 4)) X.1.1 X.1.2.1 zd_In_numberOfLeadingZeros_71 ((ush_eq _ (by decide)).trans (ush_nI (by omega))) ?_
            refine lv_istore_n X.1.1 X.1.2.1 zd_In_numberOfLeadingZeros_72 rfl hl (by decide) rfl (fun ls hl => ?_)
            have hl : lv_has ls 2 [(0, .int (nI ((x / 16) / 4))), (1, .int (nI 25))] := hl
            refine lv_iload_n X.1.1 X.1.2.1 zd_In_numberOfLeadingZeros_73 rfl (lv_at hl 1 rfl) ?_
            refine lv_iload_n X.1.1 X.1.2.1 zd_In_numberOfLeadingZeros_74 rfl (lv_at hl 0 rfl) ?_
            refine lv_iconst (v := nI 1) X.1.1 X.1.2.1 zd_In_numberOfLeadingZeros_75 (by decide) ?_
            refine lv_iushr (v := nI (((x / 16) / 4) / 2)) X.1.1 X.1.2.1 zd_In_numberOfLeadingZeros_76 ((ush_eq _ (by decide)).trans (ush_nI (by omega))) ?_
            refine lv_isub X.1.1 X.1.2.1 zd_In_numberOfLeadingZeros_77 ?_
            refine zTop (y := nI (31 - (6 + ((x / 16) / 4) / 2))) ((pk_sub (by omega)).trans (congrArg nI (by omega))) ?_
            exact ret _ (6 + ((x / 16) / 4) / 2) H locs ls _ (⟨rfl, by omega, by rcases (show ((x / 16) / 4) / 2 = 0 ∨ ((x / 16) / 4) / 2 = 1 by omega) with q | q <;> rw [q] <;> omega, by rcases (show ((x / 16) / 4) / 2 = 0 ∨ ((x / 16) / 4) / 2 = 1 by omega) with q | q <;> rw [q] <;> omega⟩) h zd_In_numberOfLeadingZeros_78
      · have d0 : 256 ≤ x := zc_lt_f (by omega) (by omega) d0
        refine lv_iinc X.1.1 X.1.2.1 zd_In_numberOfLeadingZeros_40 hl (k := 0) rfl (v := nI 23) (by decide) (by decide) rfl (fun ls hl => ?_)
        have hl : lv_has ls 2 [(1, .int (nI 23)), (0, .int (nI x))] := hl
        refine lv_iload_n X.1.1 X.1.2.1 zd_In_numberOfLeadingZeros_43 rfl (lv_at hl 1 rfl) ?_
        refine lv_bipush (v := nI 8) X.1.1 X.1.2.1 zd_In_numberOfLeadingZeros_44 (by decide) ?_
        refine lv_iushr (v := nI (x / 256)) X.1.1 X.1.2.1 zd_In_numberOfLeadingZeros_46 ((ush_eq _ (by decide)).trans (ush_nI (by omega))) ?_
        refine lv_istore_n X.1.1 X.1.2.1 zd_In_numberOfLeadingZeros_47 rfl hl (by decide) rfl (fun ls hl => ?_)
        have hl : lv_has ls 2 [(0, .int (nI (x / 256))), (1, .int (nI 23))] := hl
        refine lv_iload_n X.1.1 X.1.2.1 zd_In_numberOfLeadingZeros_48 rfl (lv_at hl 0 rfl) ?_
        refine lv_bipush (v := nI 16) X.1.1 X.1.2.1 zd_In_numberOfLeadingZeros_49 (by decide) ?_
        refine lv_icmp_lt (tgt := 61) X.1.1 X.1.2.1 zd_In_numberOfLeadingZeros_51 rfl (fun d1 => ?_) (fun d1 => ?_)
        · have d1 : x / 256 < 16 := zc_lt_t (by omega) (by omega) d1
          refine lv_iload_n X.1.1 X.1.2.1 zd_In_numberOfLeadingZeros_61 rfl (lv_at hl 0 rfl) ?_
          refine lv_iconst (v := nI 4) X.1.1 X.1.2.1 zd_In_numberOfLeadingZeros_62 (by decide) ?_
          refine lv_icmp_lt (tgt := 73) X.1.1 X.1.2.1 zd_In_numberOfLeadingZeros_63 rfl (fun d2 => ?_) (fun d2 => ?_)
          · have d2 : x / 256 < 4 := zc_lt_t (by omega) (by omega) d2
            refine lv_iload_n X.1.1 X.1.2.1 zd_In_numberOfLeadingZeros_73 rfl (lv_at hl 1 rfl) ?_
            refine lv_iload_n X.1.1 X.1.2.1 zd_In_numberOfLeadingZeros_74 rfl (lv_at hl 0 rfl) ?_
            refine lv_iconst (v := nI 1) X.1.1 X.1.2.1 zd_In_numberOfLeadingZeros_75 (by decide) ?_
            refine lv_iushr (v := nI ((x / 256) / 2)) X.1.1 X.1.2.1 zd_In_numberOfLeadingZeros_76 ((ush_eq _ (by decide)).trans (ush_nI (by omega))) ?_
            refine lv_isub X.1.1 X.1.2.1 zd_In_numberOfLeadingZeros_77 ?_
            refine zTop (y := nI (31 - (8 + (x / 256) / 2))) ((pk_sub (by omega)).trans (congrArg nI (by omega))) ?_
            exact ret _ (8 + (x / 256) / 2) H locs ls _ (⟨rfl, by omega, by rcases (show (x / 256) / 2 = 0 ∨ (x / 256) / 2 = 1 by omega) with q | q <;> rw [q] <;> omega, by rcases (show (x / 256) / 2 = 0 ∨ (x / 256) / 2 = 1 by omega) with q | q <;> rw [q] <;> omega⟩) h zd_In_numberOfLeadingZeros_78
          · have d2 : 4 ≤ x / 256 := zc_lt_f (by omega) (by omega) d2
            refine lv_iinc X.1.1 X.1.2.1 zd_In_numberOfLeadingZeros_66 hl (k := 1) rfl (v := nI 21) (by decide) (by decide) rfl (fun ls hl => ?_)
            have hl : lv_has ls 2 [(1, .int (nI 21)), (0, .int (nI (x / 256)))] := hl
            refine lv_iload_n X.1.1 X.1.2.1 zd_In_numberOfLeadingZeros_69 rfl (lv_at hl 1 rfl) ?_
            refine lv_iconst (v := nI 2) X.1.1 X.1.2.1 zd_In_numberOfLeadingZeros_70 (by decide) ?_
            refine lv_iushr (v := nI ((x / 256) / 4)) X.1.1 X.1.2.1 zd_In_numberOfLeadingZeros_71 ((ush_eq _ (by decide)).trans (ush_nI (by omega))) ?_
            refine lv_istore_n X.1.1 X.1.2.1 zd_In_numberOfLeadingZeros_72 rfl hl (by decide) rfl (fun ls hl => ?_)
            have hl : lv_has ls 2 [(0, .int (nI ((x / 256) / 4))), (1, .int (nI 21))] := hl
            refine lv_iload_n X.1.1 X.1.2.1 zd_In_numberOfLeadingZeros_73 rfl (lv_at hl 1 rfl) ?_
            refine lv_iload_n X.1.1 X.1.2.1 zd_In_numberOfLeadingZeros_74 rfl (lv_at hl 0 rfl) ?_
            refine lv_iconst (v := nI 1) X.1.1 X.1.2.1 zd_In_numberOfLeadingZeros_75 (by decide) ?_
            refine lv_iushr (v := nI (((x / 256) / 4) / 2)) X.1.1 X.1.2.1 zd_In_numberOfLeadingZeros_76 ((ush_eq _ (by decide)).trans (ush_nI (by omega))) ?_
            refine lv_isub X.1.1 X.1.2.1 zd_In_numberOfLeadingZeros_77 ?_
            refine zTop (y := nI (31 - (10 + ((x / 256) / 4) / 2))) ((pk_sub (by omega)).trans (congrArg nI (by omega))) ?_
            exact ret _ (10 + ((x / 256) / 4) / 2) H locs ls _ (⟨rfl, by omega, by rcases (show ((x / 256) / 4) / 2 = 0 ∨ ((x / 256) / 4) / 2 = 1 by omega) with q | q <;> rw [q] <;> omega, by rcases (show ((x / 256) / 4) / 2 = 0 ∨ ((x / 256) / 4) / 2 = 1 by omega) with q | q <;> rw [q] <;> omega⟩) h zd_In_numberOfLeadingZeros_78
        · have d1 : 16 ≤ x / 256 := zc_lt_f (by omega) (by omega) d1
          refine lv_iinc X.1.1 X.1.2.1 zd_In_numberOfLeadingZeros_54 hl (k := 1) rfl (v := nI 19) (by decide) (by decide) rfl (fun ls hl => ?_)
          have hl : lv_has ls 2 [(1, .int (nI 19)), (0, .int (nI (x / 256)))] := hl
          refine lv_iload_n X.1.1 X.1.2.1 zd_In_numberOfLeadingZeros_57 rfl (lv_at hl 1 rfl) ?_
          refine lv_iconst (v := nI 4) X.1.1 X.1.2.1 zd_In_numberOfLeadingZeros_58 (by decide) ?_
          refine lv_iushr (v := nI ((x / 256) / 16)) X.1.1 X.1.2.1 zd_In_numberOfLeadingZeros_59 ((ush_eq _ (by decide)).trans (ush_nI (by omega))) ?_
          refine lv_istore_n X.1.1 X.1.2.1 zd_In_numberOfLeadingZeros_60 rfl hl (by decide) rfl (fun ls hl => ?_)
          have hl : lv_has ls 2 [(0, .int (nI ((x / 256) / 16))), (1, .int (nI 19))] := hl
          refine lv_iload_n X.1.1 X.1.2.1 zd_In_numberOfLeadingZeros_61 rfl (lv_at hl 0 rfl) ?_
          refine lv_iconst (v := nI 4) X.1.1 X.1.2.1 zd_In_numberOfLeadingZeros_62 (by decide) ?_
          refine lv_icmp_lt (tgt := 73) X.1.1 X.1.2.1 zd_In_numberOfLeadingZeros_63 rfl (fun d2 => ?_) (fun d2 => ?_)
          · have d2 : (x / 256) / 16 < 4 := zc_lt_t (by omega) (by omega) d2
            refine lv_iload_n X.1.1 X.1.2.1 zd_In_numberOfLeadingZeros_73 rfl (lv_at hl 1 rfl) ?_
            refine lv_iload_n X.1.1 X.1.2.1 zd_In_numberOfLeadingZeros_74 rfl (lv_at hl 0 rfl) ?_
            refine lv_iconst (v := nI 1) X.1.1 X.1.2.1 zd_In_numberOfLeadingZeros_75 (by decide) ?_
            refine lv_iushr (v := nI (((x / 256) / 16) / 2)) X.1.1 X.1.2.1 zd_In_numberOfLeadingZeros_76 ((ush_eq _ (by decide)).trans (ush_nI (by omega))) ?_
            refine lv_isub X.1.1 X.1.2.1 zd_In_numberOfLeadingZeros_77 ?_
            refine zTop (y := nI (31 - (12 + ((x / 256) / 16) / 2))) ((pk_sub (by omega)).trans (congrArg nI (by omega))) ?_
            exact ret _ (12 + ((x / 256) / 16) / 2) H locs ls _ (⟨rfl, by omega, by rcases (show ((x / 256) / 16) / 2 = 0 ∨ ((x / 256) / 16) / 2 = 1 by omega) with q | q <;> rw [q] <;> omega, by rcases (show ((x / 256) / 16) / 2 = 0 ∨ ((x / 256) / 16) / 2 = 1 by omega) with q | q <;> rw [q] <;> omega⟩) h zd_In_numberOfLeadingZeros_78
          · have d2 : 4 ≤ (x / 256) / 16 := zc_lt_f (by omega) (by omega) d2
            refine lv_iinc X.1.1 X.1.2.1 zd_In_numberOfLeadingZeros_66 hl (k := 1) rfl (v := nI 17) (by decide) (by decide) rfl (fun ls hl => ?_)
            have hl : lv_has ls 2 [(1, .int (nI 17)), (0, .int (nI ((x / 256) / 16)))] := hl
            refine lv_iload_n X.1.1 X.1.2.1 zd_In_numberOfLeadingZeros_69 rfl (lv_at hl 1 rfl) ?_
            refine lv_iconst (v := nI 2) X.1.1 X.1.2.1 zd_In_numberOfLeadingZeros_70 (by decide) ?_
            refine lv_iushr (v := nI (((x / 256) / 16) / 4)) X.1.1 X.1.2.1 zd_In_numberOfLeadingZeros_71 ((ush_eq _ (by decide)).trans (ush_nI (by omega))) ?_
            refine lv_istore_n X.1.1 X.1.2.1 zd_In_numberOfLeadingZeros_72 rfl hl (by decide) rfl (fun ls hl => ?_)
            have hl : lv_has ls 2 [(0, .int (nI (((x / 256) / 16) / 4))), (1, .int (nI 17))] := hl
            refine lv_iload_n X.1.1 X.1.2.1 zd_In_numberOfLeadingZeros_73 rfl (lv_at hl 1 rfl) ?_
            refine lv_iload_n X.1.1 X.1.2.1 zd_In_numberOfLeadingZeros_74 rfl (lv_at hl 0 rfl) ?_
            refine lv_iconst (v := nI 1) X.1.1 X.1.2.1 zd_In_numberOfLeadingZeros_75 (by decide) ?_
            refine lv_iushr (v := nI ((((x / 256) / 16) / 4) / 2)) X.1.1 X.1.2.1 zd_In_numberOfLeadingZeros_76 ((ush_eq _ (by decide)).trans (ush_nI (by omega))) ?_
            refine lv_isub X.1.1 X.1.2.1 zd_In_numberOfLeadingZeros_77 ?_
            refine zTop (y := nI (31 - (14 + (((x / 256) / 16) / 4) / 2))) ((pk_sub (by omega)).trans (congrArg nI (by omega))) ?_
            exact ret _ (14 + (((x / 256) / 16) / 4) / 2) H locs ls _ (⟨rfl, by omega, by rcases (show (((x / 256) / 16) / 4) / 2 = 0 ∨ (((x / 256) / 16) / 4) / 2 = 1 by omega) with q | q <;> rw [q] <;> omega, by rcases (show (((x / 256) / 16) / 4) / 2 = 0 ∨ (((x / 256) / 16) / 4) / 2 = 1 by omega) with q | q <;> rw [q] <;> omega⟩) h zd_In_numberOfLeadingZeros_78
    · have c1 : 65536 ≤ x := zc_lt_f (by omega) (by omega) c1
      exact absurd hx (by omega)
  · exact absurd h0 (by have := zc_gt0_f (by omega) (by omega) c0; omega)

set_option maxHeartbeats 4000000 in
set_option maxRecDepth 100000 in
theorem zc_In_highestOneBit (l : Launch) (D : va_G) {x : Nat} (h0 : 0 < x) (hx : x < 65536) (sz : Nat) : zMi l D zy_In_highestOneBit zb_In_highestOneBit 1 .int ({ frames := 1, cells := 0, slots := 0, locals := 21 } : Room) [.int (nI x)] [] [] sz (fun (r : Int32) (u : Nat) => r = nI (2 ^ u) ∧ u < 16 ∧ 2 ^ u ≤ x ∧ x < 2 ^ (u + 1)) (fun u => []) := by
  refine zEi (by decide) (Nat.le_of_ble_eq_true rfl) (fun p e s m args below meth c ls A Q X hl h hsz ret => ?_)
  have hl : lv_has ls 1 [(0, .int (nI x))] := hl
  generalize hH0 : s.heap = H at h ⊢
  have h : zH D A s [] H [] := h
  generalize hL0 : ([] : List Loc) = locs at h ⊢
  refine lv_iload_n X.1.1 X.1.2.1 zd_In_highestOneBit_0 rfl (lv_at hl 0 rfl) ?_
  refine lv_ldc X.1.1 X.1.2.1 X.1.2.2.2.1 (X.1.2.2.2.2 _ zw_183) zd_In_highestOneBit_1 ?_
  refine lv_iload_n X.1.1 X.1.2.1 zd_In_highestOneBit_3 rfl (lv_at hl 0 rfl) ?_
  refine rCs (wr := []) (wf := fun u => []) (rest := [.int ((-2147483648)), .int (nI x)]) X h hl.1 (zc_In_numberOfLeadingZeros l D (x := x) (h0) (hx) H.size) zw_184 zw_185 zw_12 zm_In_numberOfLeadingZeros zq_In_numberOfLeadingZeros.2 ⟨Nat.le_of_ble_eq_true rfl, Nat.le_of_ble_eq_true rfl⟩ ⟨Nat.le_of_ble_eq_true rfl, Nat.le_of_ble_eq_true rfl⟩ [] rfl [] [] [] rfl (by decide) rfl (by decide) (by decide) (fun _ => rfl) (by decide) rfl (Nat.le_of_ble_eq_true rfl) zd_In_highestOneBit_4 (fun r u H locs hp h => ?_)
  obtain ⟨rfl, q1⟩ := hp
  have h : zH D A s [] H locs := h
  obtain ⟨q1, q2, q3⟩ := q1
  refine lv_iushr (v := nI (2 ^ u)) X.1.1 X.1.2.1 zd_In_highestOneBit_7 (hob_sh u q1) ?_
  refine lv_iand X.1.1 X.1.2.1 zd_In_highestOneBit_8 ?_
  refine zTop (y := nI (2 ^ u)) (hob_and q2 q3) ?_
  exact ret _ u H locs ls _ (⟨rfl, q1, q2, q3⟩) h zd_In_highestOneBit_9

theorem bct : ∀ b, b < 19 → ((((((((nI (2 ^ b - 1)) - ((((nI (2 ^ b - 1)).toUInt32 >>> ((nI 1).toUInt32 &&& Int32.toUInt32 31)).toInt32) &&& (nI 1431655765))) &&& (nI 858993459)) + (((((nI (2 ^ b - 1)) - ((((nI (2 ^ b - 1)).toUInt32 >>> ((nI 1).toUInt32 &&& Int32.toUInt32 31)).toInt32) &&& (nI 1431655765))).toUInt32 >>> ((nI 2).toUInt32 &&& Int32.toUInt32 31)).toInt32) &&& (nI 858993459))) + ((((((nI (2 ^ b - 1)) - ((((nI (2 ^ b - 1)).toUInt32 >>> ((nI 1).toUInt32 &&& Int32.toUInt32 31)).toInt32) &&& (nI 1431655765))) &&& (nI 858993459)) + (((((nI (2 ^ b - 1)) - ((((nI (2 ^ b - 1)).toUInt32 >>> ((nI 1).toUInt32 &&& Int32.toUInt32 31)).toInt32) &&& (nI 1431655765))).toUInt32 >>> ((nI 2).toUInt32 &&& Int32.toUInt32 31)).toInt32) &&& (nI 858993459))).toUInt32 >>> ((nI 4).toUInt32 &&& Int32.toUInt32 31)).toInt32)) &&& (nI 252645135)) + ((((((((nI (2 ^ b - 1)) - ((((nI (2 ^ b - 1)).toUInt32 >>> ((nI 1).toUInt32 &&& Int32.toUInt32 31)).toInt32) &&& (nI 1431655765))) &&& (nI 858993459)) + (((((nI (2 ^ b - 1)) - ((((nI (2 ^ b - 1)).toUInt32 >>> ((nI 1).toUInt32 &&& Int32.toUInt32 31)).toInt32) &&& (nI 1431655765))).toUInt32 >>> ((nI 2).toUInt32 &&& Int32.toUInt32 31)).toInt32) &&& (nI 858993459))) + ((((((nI (2 ^ b - 1)) - ((((nI (2 ^ b - 1)).toUInt32 >>> ((nI 1).toUInt32 &&& Int32.toUInt32 31)).toInt32) &&& (nI 1431655765))) &&& (nI 858993459)) + (((((nI (2 ^ b - 1)) - ((((nI (2 ^ b - 1)).toUInt32 >>> ((nI 1).toUInt32 &&& Int32.toUInt32 31)).toInt32) &&& (nI 1431655765))).toUInt32 >>> ((nI 2).toUInt32 &&& Int32.toUInt32 31)).toInt32) &&& (nI 858993459))).toUInt32 >>> ((nI 4).toUInt32 &&& Int32.toUInt32 31)).toInt32)) &&& (nI 252645135)).toUInt32 >>> ((nI 8).toUInt32 &&& Int32.toUInt32 31)).toInt32)) + (((((((((nI (2 ^ b - 1)) - ((((nI (2 ^ b - 1)).toUInt32 >>> ((nI 1).toUInt32 &&& Int32.toUInt32 31)).toInt32) &&& (nI 1431655765))) &&& (nI 858993459)) + (((((nI (2 ^ b - 1)) - ((((nI (2 ^ b - 1)).toUInt32 >>> ((nI 1).toUInt32 &&& Int32.toUInt32 31)).toInt32) &&& (nI 1431655765))).toUInt32 >>> ((nI 2).toUInt32 &&& Int32.toUInt32 31)).toInt32) &&& (nI 858993459))) + ((((((nI (2 ^ b - 1)) - ((((nI (2 ^ b - 1)).toUInt32 >>> ((nI 1).toUInt32 &&& Int32.toUInt32 31)).toInt32) &&& (nI 1431655765))) &&& (nI 858993459)) + (((((nI (2 ^ b - 1)) - ((((nI (2 ^ b - 1)).toUInt32 >>> ((nI 1).toUInt32 &&& Int32.toUInt32 31)).toInt32) &&& (nI 1431655765))).toUInt32 >>> ((nI 2).toUInt32 &&& Int32.toUInt32 31)).toInt32) &&& (nI 858993459))).toUInt32 >>> ((nI 4).toUInt32 &&& Int32.toUInt32 31)).toInt32)) &&& (nI 252645135)) + ((((((((nI (2 ^ b - 1)) - ((((nI (2 ^ b - 1)).toUInt32 >>> ((nI 1).toUInt32 &&& Int32.toUInt32 31)).toInt32) &&& (nI 1431655765))) &&& (nI 858993459)) + (((((nI (2 ^ b - 1)) - ((((nI (2 ^ b - 1)).toUInt32 >>> ((nI 1).toUInt32 &&& Int32.toUInt32 31)).toInt32) &&& (nI 1431655765))).toUInt32 >>> ((nI 2).toUInt32 &&& Int32.toUInt32 31)).toInt32) &&& (nI 858993459))) + ((((((nI (2 ^ b - 1)) - ((((nI (2 ^ b - 1)).toUInt32 >>> ((nI 1).toUInt32 &&& Int32.toUInt32 31)).toInt32) &&& (nI 1431655765))) &&& (nI 858993459)) + (((((nI (2 ^ b - 1)) - ((((nI (2 ^ b - 1)).toUInt32 >>> ((nI 1).toUInt32 &&& Int32.toUInt32 31)).toInt32) &&& (nI 1431655765))).toUInt32 >>> ((nI 2).toUInt32 &&& Int32.toUInt32 31)).toInt32) &&& (nI 858993459))).toUInt32 >>> ((nI 4).toUInt32 &&& Int32.toUInt32 31)).toInt32)) &&& (nI 252645135)).toUInt32 >>> ((nI 8).toUInt32 &&& Int32.toUInt32 31)).toInt32)).toUInt32 >>> ((nI 16).toUInt32 &&& Int32.toUInt32 31)).toInt32)) &&& (nI 63) = nI b := by decide +kernel

set_option maxHeartbeats 4000000 in
set_option maxRecDepth 100000 in
theorem zc_In_bitCount (l : Launch) (D : va_G) {b : Nat} (hb : b < 19) (sz : Nat) : zMi l D zy_In_bitCount zb_In_bitCount 1 .int ({ frames := 0, cells := 0, slots := 0, locals := 0 } : Room) [.int (nI (2 ^ b - 1))] [] [] sz (fun (r : Int32) (u : Unit) => r = nI b ∧ True) (fun _ => []) := by
  refine zEi (by decide) (Nat.le_of_ble_eq_true rfl) (fun p e s m args below meth c ls A Q X hl h hsz ret => ?_)
  have hl : lv_has ls 1 [(0, .int (nI (2 ^ b - 1)))] := hl
  generalize hH0 : s.heap = H at h ⊢
  have h : zH D A s [] H [] := h
  generalize hL0 : ([] : List Loc) = locs at h ⊢
  refine lv_iload_n X.1.1 X.1.2.1 zd_In_bitCount_0 rfl (lv_at hl 0 rfl) ?_
  refine lv_iload_n X.1.1 X.1.2.1 zd_In_bitCount_1 rfl (lv_at hl 0 rfl) ?_
  refine lv_iconst (v := nI 1) X.1.1 X.1.2.1 zd_In_bitCount_2 (by decide) ?_
  refine lv_iushr (v := ((nI (2 ^ b - 1)).toUInt32 >>> ((nI 1).toUInt32 &&& Int32.toUInt32 31)).toInt32) X.1.1 X.1.2.1 zd_In_bitCount_3 (rfl) ?_
  refine lv_ldcw X.1.1 X.1.2.1 X.1.2.2.2.1 (X.1.2.2.2.2 _ zw_191) zd_In_bitCount_4 ?_
  refine zTop (y := nI 1431655765) (by decide) ?_
  refine lv_iand X.1.1 X.1.2.1 zd_In_bitCount_7 ?_
  refine lv_isub X.1.1 X.1.2.1 zd_In_bitCount_8 ?_
  refine lv_istore_n X.1.1 X.1.2.1 zd_In_bitCount_9 rfl hl (by decide) rfl (fun ls hl => ?_)
  have hl : lv_has ls 1 [(0, .int ((nI (2 ^ b - 1)) - ((((nI (2 ^ b - 1)).toUInt32 >>> ((nI 1).toUInt32 &&& Int32.toUInt32 31)).toInt32) &&& (nI 1431655765))))] := hl
  refine lv_iload_n X.1.1 X.1.2.1 zd_In_bitCount_10 rfl (lv_at hl 0 rfl) ?_
  refine lv_ldcw X.1.1 X.1.2.1 X.1.2.2.2.1 (X.1.2.2.2.2 _ zw_192) zd_In_bitCount_11 ?_
  refine zTop (y := nI 858993459) (by decide) ?_
  refine lv_iand X.1.1 X.1.2.1 zd_In_bitCount_14 ?_
  refine lv_iload_n X.1.1 X.1.2.1 zd_In_bitCount_15 rfl (lv_at hl 0 rfl) ?_
  refine lv_iconst (v := nI 2) X.1.1 X.1.2.1 zd_In_bitCount_16 (by decide) ?_
  refine lv_iushr (v := (((nI (2 ^ b - 1)) - ((((nI (2 ^ b - 1)).toUInt32 >>> ((nI 1).toUInt32 &&& Int32.toUInt32 31)).toInt32) &&& (nI 1431655765))).toUInt32 >>> ((nI 2).toUInt32 &&& Int32.toUInt32 31)).toInt32) X.1.1 X.1.2.1 zd_In_bitCount_17 (rfl) ?_
  refine lv_ldcw X.1.1 X.1.2.1 X.1.2.2.2.1 (X.1.2.2.2.2 _ zw_192) zd_In_bitCount_18 ?_
  refine zTop (y := nI 858993459) (by decide) ?_
  refine lv_iand X.1.1 X.1.2.1 zd_In_bitCount_21 ?_
  refine lv_iadd X.1.1 X.1.2.1 zd_In_bitCount_22 ?_
  refine lv_istore_n X.1.1 X.1.2.1 zd_In_bitCount_23 rfl hl (by decide) rfl (fun ls hl => ?_)
  have hl : lv_has ls 1 [(0, .int ((((nI (2 ^ b - 1)) - ((((nI (2 ^ b - 1)).toUInt32 >>> ((nI 1).toUInt32 &&& Int32.toUInt32 31)).toInt32) &&& (nI 1431655765))) &&& (nI 858993459)) + (((((nI (2 ^ b - 1)) - ((((nI (2 ^ b - 1)).toUInt32 >>> ((nI 1).toUInt32 &&& Int32.toUInt32 31)).toInt32) &&& (nI 1431655765))).toUInt32 >>> ((nI 2).toUInt32 &&& Int32.toUInt32 31)).toInt32) &&& (nI 858993459))))] := hl
  refine lv_iload_n X.1.1 X.1.2.1 zd_In_bitCount_24 rfl (lv_at hl 0 rfl) ?_
  refine lv_iload_n X.1.1 X.1.2.1 zd_In_bitCount_25 rfl (lv_at hl 0 rfl) ?_
  refine lv_iconst (v := nI 4) X.1.1 X.1.2.1 zd_In_bitCount_26 (by decide) ?_
  refine lv_iushr (v := (((((nI (2 ^ b - 1)) - ((((nI (2 ^ b - 1)).toUInt32 >>> ((nI 1).toUInt32 &&& Int32.toUInt32 31)).toInt32) &&& (nI 1431655765))) &&& (nI 858993459)) + (((((nI (2 ^ b - 1)) - ((((nI (2 ^ b - 1)).toUInt32 >>> ((nI 1).toUInt32 &&& Int32.toUInt32 31)).toInt32) &&& (nI 1431655765))).toUInt32 >>> ((nI 2).toUInt32 &&& Int32.toUInt32 31)).toInt32) &&& (nI 858993459))).toUInt32 >>> ((nI 4).toUInt32 &&& Int32.toUInt32 31)).toInt32) X.1.1 X.1.2.1 zd_In_bitCount_27 (rfl) ?_
  refine lv_iadd X.1.1 X.1.2.1 zd_In_bitCount_28 ?_
  refine lv_ldcw X.1.1 X.1.2.1 X.1.2.2.2.1 (X.1.2.2.2.2 _ zw_193) zd_In_bitCount_29 ?_
  refine zTop (y := nI 252645135) (by decide) ?_
  refine lv_iand X.1.1 X.1.2.1 zd_In_bitCount_32 ?_
  refine lv_istore_n X.1.1 X.1.2.1 zd_In_bitCount_33 rfl hl (by decide) rfl (fun ls hl => ?_)
  have hl : lv_has ls 1 [(0, .int ((((((nI (2 ^ b - 1)) - ((((nI (2 ^ b - 1)).toUInt32 >>> ((nI 1).toUInt32 &&& Int32.toUInt32 31)).toInt32) &&& (nI 1431655765))) &&& (nI 858993459)) + (((((nI (2 ^ b - 1)) - ((((nI (2 ^ b - 1)).toUInt32 >>> ((nI 1).toUInt32 &&& Int32.toUInt32 31)).toInt32) &&& (nI 1431655765))).toUInt32 >>> ((nI 2).toUInt32 &&& Int32.toUInt32 31)).toInt32) &&& (nI 858993459))) + ((((((nI (2 ^ b - 1)) - ((((nI (2 ^ b - 1)).toUInt32 >>> ((nI 1).toUInt32 &&& Int32.toUInt32 31)).toInt32) &&& (nI 1431655765))) &&& (nI 858993459)) + (((((nI (2 ^ b - 1)) - ((((nI (2 ^ b - 1)).toUInt32 >>> ((nI 1).toUInt32 &&& Int32.toUInt32 31)).toInt32) &&& (nI 1431655765))).toUInt32 >>> ((nI 2).toUInt32 &&& Int32.toUInt32 31)).toInt32) &&& (nI 858993459))).toUInt32 >>> ((nI 4).toUInt32 &&& Int32.toUInt32 31)).toInt32)) &&& (nI 252645135)))] := hl
  refine lv_iload_n X.1.1 X.1.2.1 zd_In_bitCount_34 rfl (lv_at hl 0 rfl) ?_
  refine lv_iload_n X.1.1 X.1.2.1 zd_In_bitCount_35 rfl (lv_at hl 0 rfl) ?_
  refine lv_bipush (v := nI 8) X.1.1 X.1.2.1 zd_In_bitCount_36 (by decide) ?_
  refine lv_iushr (v := (((((((nI (2 ^ b - 1)) - ((((nI (2 ^ b - 1)).toUInt32 >>> ((nI 1).toUInt32 &&& Int32.toUInt32 31)).toInt32) &&& (nI 1431655765))) &&& (nI 858993459)) + (((((nI (2 ^ b - 1)) - ((((nI (2 ^ b - 1)).toUInt32 >>> ((nI 1).toUInt32 &&& Int32.toUInt32 31)).toInt32) &&& (nI 1431655765))).toUInt32 >>> ((nI 2).toUInt32 &&& Int32.toUInt32 31)).toInt32) &&& (nI 858993459))) + ((((((nI (2 ^ b - 1)) - ((((nI (2 ^ b - 1)).toUInt32 >>> ((nI 1).toUInt32 &&& Int32.toUInt32 31)).toInt32) &&& (nI 1431655765))) &&& (nI 858993459)) + (((((nI (2 ^ b - 1)) - ((((nI (2 ^ b - 1)).toUInt32 >>> ((nI 1).toUInt32 &&& Int32.toUInt32 31)).toInt32) &&& (nI 1431655765))).toUInt32 >>> ((nI 2).toUInt32 &&& Int32.toUInt32 31)).toInt32) &&& (nI 858993459))).toUInt32 >>> ((nI 4).toUInt32 &&& Int32.toUInt32 31)).toInt32)) &&& (nI 252645135)).toUInt32 >>> ((nI 8).toUInt32 &&& Int32.toUInt32 31)).toInt32) X.1.1 X.1.2.1 zd_In_bitCount_38 (rfl) ?_
  refine lv_iadd X.1.1 X.1.2.1 zd_In_bitCount_39 ?_
  refine lv_istore_n X.1.1 X.1.2.1 zd_In_bitCount_40 rfl hl (by decide) rfl (fun ls hl => ?_)
  have hl : lv_has ls 1 [(0, .int (((((((nI (2 ^ b - 1)) - ((((nI (2 ^ b - 1)).toUInt32 >>> ((nI 1).toUInt32 &&& Int32.toUInt32 31)).toInt32) &&& (nI 1431655765))) &&& (nI 858993459)) + (((((nI (2 ^ b - 1)) - ((((nI (2 ^ b - 1)).toUInt32 >>> ((nI 1).toUInt32 &&& Int32.toUInt32 31)).toInt32) &&& (nI 1431655765))).toUInt32 >>> ((nI 2).toUInt32 &&& Int32.toUInt32 31)).toInt32) &&& (nI 858993459))) + ((((((nI (2 ^ b - 1)) - ((((nI (2 ^ b - 1)).toUInt32 >>> ((nI 1).toUInt32 &&& Int32.toUInt32 31)).toInt32) &&& (nI 1431655765))) &&& (nI 858993459)) + (((((nI (2 ^ b - 1)) - ((((nI (2 ^ b - 1)).toUInt32 >>> ((nI 1).toUInt32 &&& Int32.toUInt32 31)).toInt32) &&& (nI 1431655765))).toUInt32 >>> ((nI 2).toUInt32 &&& Int32.toUInt32 31)).toInt32) &&& (nI 858993459))).toUInt32 >>> ((nI 4).toUInt32 &&& Int32.toUInt32 31)).toInt32)) &&& (nI 252645135)) + ((((((((nI (2 ^ b - 1)) - ((((nI (2 ^ b - 1)).toUInt32 >>> ((nI 1).toUInt32 &&& Int32.toUInt32 31)).toInt32) &&& (nI 1431655765))) &&& (nI 858993459)) + (((((nI (2 ^ b - 1)) - ((((nI (2 ^ b - 1)).toUInt32 >>> ((nI 1).toUInt32 &&& Int32.toUInt32 31)).toInt32) &&& (nI 1431655765))).toUInt32 >>> ((nI 2).toUInt32 &&& Int32.toUInt32 31)).toInt32) &&& (nI 858993459))) + ((((((nI (2 ^ b - 1)) - ((((nI (2 ^ b - 1)).toUInt32 >>> ((nI 1).toUInt32 &&& Int32.toUInt32 31)).toInt32) &&& (nI 1431655765))) &&& (nI 858993459)) + (((((nI (2 ^ b - 1)) - ((((nI (2 ^ b - 1)).toUInt32 >>> ((nI 1).toUInt32 &&& Int32.toUInt32 31)).toInt32) &&& (nI 1431655765))).toUInt32 >>> ((nI 2).toUInt32 &&& Int32.toUInt32 31)).toInt32) &&& (nI 858993459))).toUInt32 >>> ((nI 4).toUInt32 &&& Int32.toUInt32 31)).toInt32)) &&& (nI 252645135)).toUInt32 >>> ((nI 8).toUInt32 &&& Int32.toUInt32 31)).toInt32)))] := hl
  refine lv_iload_n X.1.1 X.1.2.1 zd_In_bitCount_41 rfl (lv_at hl 0 rfl) ?_
  refine lv_iload_n X.1.1 X.1.2.1 zd_In_bitCount_42 rfl (lv_at hl 0 rfl) ?_
  refine lv_bipush (v := nI 16) X.1.1 X.1.2.1 zd_In_bitCount_43 (by decide) ?_
  refine lv_iushr (v := ((((((((nI (2 ^ b - 1)) - ((((nI (2 ^ b - 1)).toUInt32 >>> ((nI 1).toUInt32 &&& Int32.toUInt32 31)).toInt32) &&& (nI 1431655765))) &&& (nI 858993459)) + (((((nI (2 ^ b - 1)) - ((((nI (2 ^ b - 1)).toUInt32 >>> ((nI 1).toUInt32 &&& Int32.toUInt32 31)).toInt32) &&& (nI 1431655765))).toUInt32 >>> ((nI 2).toUInt32 &&& Int32.toUInt32 31)).toInt32) &&& (nI 858993459))) + ((((((nI (2 ^ b - 1)) - ((((nI (2 ^ b - 1)).toUInt32 >>> ((nI 1).toUInt32 &&& Int32.toUInt32 31)).toInt32) &&& (nI 1431655765))) &&& (nI 858993459)) + (((((nI (2 ^ b - 1)) - ((((nI (2 ^ b - 1)).toUInt32 >>> ((nI 1).toUInt32 &&& Int32.toUInt32 31)).toInt32) &&& (nI 1431655765))).toUInt32 >>> ((nI 2).toUInt32 &&& Int32.toUInt32 31)).toInt32) &&& (nI 858993459))).toUInt32 >>> ((nI 4).toUInt32 &&& Int32.toUInt32 31)).toInt32)) &&& (nI 252645135)) + ((((((((nI (2 ^ b - 1)) - ((((nI (2 ^ b - 1)).toUInt32 >>> ((nI 1).toUInt32 &&& Int32.toUInt32 31)).toInt32) &&& (nI 1431655765))) &&& (nI 858993459)) + (((((nI (2 ^ b - 1)) - ((((nI (2 ^ b - 1)).toUInt32 >>> ((nI 1).toUInt32 &&& Int32.toUInt32 31)).toInt32) &&& (nI 1431655765))).toUInt32 >>> ((nI 2).toUInt32 &&& Int32.toUInt32 31)).toInt32) &&& (nI 858993459))) + ((((((nI (2 ^ b - 1)) - ((((nI (2 ^ b - 1)).toUInt32 >>> ((nI 1).toUInt32 &&& Int32.toUInt32 31)).toInt32) &&& (nI 1431655765))) &&& (nI 858993459)) + (((((nI (2 ^ b - 1)) - ((((nI (2 ^ b - 1)).toUInt32 >>> ((nI 1).toUInt32 &&& Int32.toUInt32 31)).toInt32) &&& (nI 1431655765))).toUInt32 >>> ((nI 2).toUInt32 &&& Int32.toUInt32 31)).toInt32) &&& (nI 858993459))).toUInt32 >>> ((nI 4).toUInt32 &&& Int32.toUInt32 31)).toInt32)) &&& (nI 252645135)).toUInt32 >>> ((nI 8).toUInt32 &&& Int32.toUInt32 31)).toInt32)).toUInt32 >>> ((nI 16).toUInt32 &&& Int32.toUInt32 31)).toInt32) X.1.1 X.1.2.1 zd_In_bitCount_45 (rfl) ?_
  refine lv_iadd X.1.1 X.1.2.1 zd_In_bitCount_46 ?_
  refine lv_istore_n X.1.1 X.1.2.1 zd_In_bitCount_47 rfl hl (by decide) rfl (fun ls hl => ?_)
  have hl : lv_has ls 1 [(0, .int ((((((((nI (2 ^ b - 1)) - ((((nI (2 ^ b - 1)).toUInt32 >>> ((nI 1).toUInt32 &&& Int32.toUInt32 31)).toInt32) &&& (nI 1431655765))) &&& (nI 858993459)) + (((((nI (2 ^ b - 1)) - ((((nI (2 ^ b - 1)).toUInt32 >>> ((nI 1).toUInt32 &&& Int32.toUInt32 31)).toInt32) &&& (nI 1431655765))).toUInt32 >>> ((nI 2).toUInt32 &&& Int32.toUInt32 31)).toInt32) &&& (nI 858993459))) + ((((((nI (2 ^ b - 1)) - ((((nI (2 ^ b - 1)).toUInt32 >>> ((nI 1).toUInt32 &&& Int32.toUInt32 31)).toInt32) &&& (nI 1431655765))) &&& (nI 858993459)) + (((((nI (2 ^ b - 1)) - ((((nI (2 ^ b - 1)).toUInt32 >>> ((nI 1).toUInt32 &&& Int32.toUInt32 31)).toInt32) &&& (nI 1431655765))).toUInt32 >>> ((nI 2).toUInt32 &&& Int32.toUInt32 31)).toInt32) &&& (nI 858993459))).toUInt32 >>> ((nI 4).toUInt32 &&& Int32.toUInt32 31)).toInt32)) &&& (nI 252645135)) + ((((((((nI (2 ^ b - 1)) - ((((nI (2 ^ b - 1)).toUInt32 >>> ((nI 1).toUInt32 &&& Int32.toUInt32 31)).toInt32) &&& (nI 1431655765))) &&& (nI 858993459)) + (((((nI (2 ^ b - 1)) - ((((nI (2 ^ b - 1)).toUInt32 >>> ((nI 1).toUInt32 &&& Int32.toUInt32 31)).toInt32) &&& (nI 1431655765))).toUInt32 >>> ((nI 2).toUInt32 &&& Int32.toUInt32 31)).toInt32) &&& (nI 858993459))) + ((((((nI (2 ^ b - 1)) - ((((nI (2 ^ b - 1)).toUInt32 >>> ((nI 1).toUInt32 &&& Int32.toUInt32 31)).toInt32) &&& (nI 1431655765))) &&& (nI 858993459)) + (((((nI (2 ^ b - 1)) - ((((nI (2 ^ b - 1)).toUInt32 >>> ((nI 1).toUInt32 &&& Int32.toUInt32 31)).toInt32) &&& (nI 1431655765))).toUInt32 >>> ((nI 2).toUInt32 &&& Int32.toUInt32 31)).toInt32) &&& (nI 858993459))).toUInt32 >>> ((nI 4).toUInt32 &&& Int32.toUInt32 31)).toInt32)) &&& (nI 252645135)).toUInt32 >>> ((nI 8).toUInt32 &&& Int32.toUInt32 31)).toInt32)) + (((((((((nI (2 ^ b - 1)) - ((((nI (2 ^ b - 1)).toUInt32 >>> ((nI 1).toUInt32 &&& Int32.toUInt32 31)).toInt32) &&& (nI 1431655765))) &&& (nI 858993459)) + (((((nI (2 ^ b - 1)) - ((((nI (2 ^ b - 1)).toUInt32 >>> ((nI 1).toUInt32 &&& Int32.toUInt32 31)).toInt32) &&& (nI 1431655765))).toUInt32 >>> ((nI 2).toUInt32 &&& Int32.toUInt32 31)).toInt32) &&& (nI 858993459))) + ((((((nI (2 ^ b - 1)) - ((((nI (2 ^ b - 1)).toUInt32 >>> ((nI 1).toUInt32 &&& Int32.toUInt32 31)).toInt32) &&& (nI 1431655765))) &&& (nI 858993459)) + (((((nI (2 ^ b - 1)) - ((((nI (2 ^ b - 1)).toUInt32 >>> ((nI 1).toUInt32 &&& Int32.toUInt32 31)).toInt32) &&& (nI 1431655765))).toUInt32 >>> ((nI 2).toUInt32 &&& Int32.toUInt32 31)).toInt32) &&& (nI 858993459))).toUInt32 >>> ((nI 4).toUInt32 &&& Int32.toUInt32 31)).toInt32)) &&& (nI 252645135)) + ((((((((nI (2 ^ b - 1)) - ((((nI (2 ^ b - 1)).toUInt32 >>> ((nI 1).toUInt32 &&& Int32.toUInt32 31)).toInt32) &&& (nI 1431655765))) &&& (nI 858993459)) + (((((nI (2 ^ b - 1)) - ((((nI (2 ^ b - 1)).toUInt32 >>> ((nI 1).toUInt32 &&& Int32.toUInt32 31)).toInt32) &&& (nI 1431655765))).toUInt32 >>> ((nI 2).toUInt32 &&& Int32.toUInt32 31)).toInt32) &&& (nI 858993459))) + ((((((nI (2 ^ b - 1)) - ((((nI (2 ^ b - 1)).toUInt32 >>> ((nI 1).toUInt32 &&& Int32.toUInt32 31)).toInt32) &&& (nI 1431655765))) &&& (nI 858993459)) + (((((nI (2 ^ b - 1)) - ((((nI (2 ^ b - 1)).toUInt32 >>> ((nI 1).toUInt32 &&& Int32.toUInt32 31)).toInt32) &&& (nI 1431655765))).toUInt32 >>> ((nI 2).toUInt32 &&& Int32.toUInt32 31)).toInt32) &&& (nI 858993459))).toUInt32 >>> ((nI 4).toUInt32 &&& Int32.toUInt32 31)).toInt32)) &&& (nI 252645135)).toUInt32 >>> ((nI 8).toUInt32 &&& Int32.toUInt32 31)).toInt32)).toUInt32 >>> ((nI 16).toUInt32 &&& Int32.toUInt32 31)).toInt32)))] := hl
  refine lv_iload_n X.1.1 X.1.2.1 zd_In_bitCount_48 rfl (lv_at hl 0 rfl) ?_
  refine lv_bipush (v := nI 63) X.1.1 X.1.2.1 zd_In_bitCount_49 (by decide) ?_
  refine lv_iand X.1.1 X.1.2.1 zd_In_bitCount_51 ?_
  refine zTop (y := nI b) (bct b hb) ?_
  exact ret _ () H locs ls _ (⟨rfl, trivial⟩) h zd_In_bitCount_52

set_option maxHeartbeats 4000000 in
set_option maxRecDepth 100000 in
theorem zc_Su_emptySlots (l : Launch) (D : va_G) {t0 ta n aS aE aP aL nd aQ M sh an L wt fl NB : Nat} {fp : Int32} {st en pa li sl : Nat → Nat} {T : Nat → Int32} {cS cE cP cL cQ cB : ClassId} (hn : n ≤ 65536) (sz : Nat) : zMv l D zy_Su_emptySlots zb_Su_emptySlots 2 ({ frames := 2, cells := 0, slots := 0, locals := 41 } : Room) [.ref t0] [(cS, .int), (cE, .int), (cP, .int), (cL, .int), (cQ, .int), (cB, .byte)] [(t0, .inr (2, [.ref ta, .int (nI n), .ref aS, .ref aE, .ref aP, .ref aL, .int (nI nd), .ref aQ, .int (nI M), .int (nI sh), .int (nI an), .int (nI L), .int (nI wt), .int (nI fl), .int fp])), (aS, .inl (cS, 131072, .inl (fun zz => nI (st zz)))), (aE, .inl (cE, 131072, .inl (fun zz => nI (en zz)))), (aP, .inl (cP, 131072, .inl (fun zz => nI (pa zz)))), (aL, .inl (cL, 131072, .inl (fun zz => nI (li zz)))), (aQ, .inl (cQ, 262144, .inl (fun zz => nI (sl zz)))), (ta, .inl (cB, NB, .inl (T)))] sz (fun (u : Nat × (Nat → Nat)) => 3 ≤ u.1 ∧ u.1 ≤ 18 ∧ 4 * n ≤ 2 ^ u.1 ∧ ∀ i, i < 2 ^ u.1 → u.2 i = 0) (fun u => [(t0, .inr (2, [.ref ta, .int (nI n), .ref aS, .ref aE, .ref aP, .ref aL, .int (nI nd), .ref aQ, .int (nI (2 ^ u.1)), .int (nI (32 - u.1)), .int (nI an), .int (nI L), .int (nI wt), .int (nI fl), .int fp])), (aS, .inl (cS, 131072, .inl (fun zz => nI (st zz)))), (aE, .inl (cE, 131072, .inl (fun zz => nI (en zz)))), (aP, .inl (cP, 131072, .inl (fun zz => nI (pa zz)))), (aL, .inl (cL, 131072, .inl (fun zz => nI (li zz)))), (aQ, .inl (cQ, 262144, .inl (fun zz => nI (u.2 zz)))), (ta, .inl (cB, NB, .inl (T)))]) := by
  refine zEv (by decide) (Nat.le_of_ble_eq_true rfl) (fun p e s m args below meth c ls A Q X hin hl h hsz ret => ?_)
  have hl : lv_has ls 2 [(0, .ref t0)] := hl
  generalize hH0 : s.heap = H at h ⊢
  have h : zH D A s [(t0, .inr (2, [.ref ta, .int (nI n), .ref aS, .ref aE, .ref aP, .ref aL, .int (nI nd), .ref aQ, .int (nI M), .int (nI sh), .int (nI an), .int (nI L), .int (nI wt), .int (nI fl), .int fp])), (aS, .inl (cS, 131072, .inl (fun zz => nI (st zz)))), (aE, .inl (cE, 131072, .inl (fun zz => nI (en zz)))), (aP, .inl (cP, 131072, .inl (fun zz => nI (pa zz)))), (aL, .inl (cL, 131072, .inl (fun zz => nI (li zz)))), (aQ, .inl (cQ, 262144, .inl (fun zz => nI (sl zz)))), (ta, .inl (cB, NB, .inl (T)))] H [] := h
  generalize hL0 : ([] : List Loc) = locs at h ⊢
  refine lv_aload_n X.1.1 X.1.2.1 zd_Su_emptySlots_0 rfl (lv_at hl 0 rfl) ?_
  refine lv_bipush (v := nI 8) X.1.1 X.1.2.1 zd_Su_emptySlots_1 (by decide) ?_
  refine lv_aload_n X.1.1 X.1.2.1 zd_Su_emptySlots_3 rfl (lv_at hl 0 rfl) ?_
  refine rG X h 0 rfl rfl zW_Su 1 (by decide) zw_49 rfl zd_Su_emptySlots_4 ?_
  refine lv_iconst (v := nI 2) X.1.1 X.1.2.1 zd_Su_emptySlots_7 (by decide) ?_
  refine rMax X hl.1 zw_177 zw_178 zw_11 zw_179 (by omega) (by omega) (Nat.le_of_ble_eq_true rfl) (Nat.le_of_ble_eq_true rfl) (Nat.le_of_ble_eq_true rfl) (Nat.le_of_ble_eq_true rfl) zd_Su_emptySlots_8 ?_
  refine lv_iconst (v := nI 1) X.1.1 X.1.2.1 zd_Su_emptySlots_11 (by decide) ?_
  refine lv_isub X.1.1 X.1.2.1 zd_Su_emptySlots_12 ?_
  refine zTop (y := nI (max n 2 - 1)) (pk_sub (by omega)) ?_
  refine rCs (wr := [(t0, .inr (2, [.ref ta, .int (nI n), .ref aS, .ref aE, .ref aP, .ref aL, .int (nI nd), .ref aQ, .int (nI M), .int (nI sh), .int (nI an), .int (nI L), .int (nI wt), .int (nI fl), .int fp])), (aS, .inl (cS, 131072, .inl (fun zz => nI (st zz)))), (aE, .inl (cE, 131072, .inl (fun zz => nI (en zz)))), (aP, .inl (cP, 131072, .inl (fun zz => nI (pa zz)))), (aL, .inl (cL, 131072, .inl (fun zz => nI (li zz)))), (aQ, .inl (cQ, 262144, .inl (fun zz => nI (sl zz)))), (ta, .inl (cB, NB, .inl (T)))]) (wf := fun k => [(t0, .inr (2, [.ref ta, .int (nI n), .ref aS, .ref aE, .ref aP, .ref aL, .int (nI nd), .ref aQ, .int (nI M), .int (nI sh), .int (nI an), .int (nI L), .int (nI wt), .int (nI fl), .int fp])), (aS, .inl (cS, 131072, .inl (fun zz => nI (st zz)))), (aE, .inl (cE, 131072, .inl (fun zz => nI (en zz)))), (aP, .inl (cP, 131072, .inl (fun zz => nI (pa zz)))), (aL, .inl (cL, 131072, .inl (fun zz => nI (li zz)))), (aQ, .inl (cQ, 262144, .inl (fun zz => nI (sl zz)))), (ta, .inl (cB, NB, .inl (T)))]) (rest := [.int (nI 8), .ref t0]) X h hl.1 (zc_In_highestOneBit l D (x := max n 2 - 1) (by omega) (by omega) H.size) zw_180 zw_181 zw_12 zm_In_highestOneBit zq_In_highestOneBit.2 ⟨Nat.le_of_ble_eq_true rfl, Nat.le_of_ble_eq_true rfl⟩ ⟨Nat.le_of_ble_eq_true rfl, Nat.le_of_ble_eq_true rfl⟩ [] rfl [] [0, 1, 2, 3, 4, 5, 6] [0, 1, 2, 3, 4, 5, 6] rfl (by decide) rfl (by decide) (by decide) (fun _ => rfl) (by decide) rfl (Nat.le_of_ble_eq_true rfl) zd_Su_emptySlots_13 (fun r k H locs hp h => ?_)
  obtain ⟨rfl, q1⟩ := hp
  have h : zH D A s [(t0, .inr (2, [.ref ta, .int (nI n), .ref aS, .ref aE, .ref aP, .ref aL, .int (nI nd), .ref aQ, .int (nI M), .int (nI sh), .int (nI an), .int (nI L), .int (nI wt), .int (nI fl), .int fp])), (aS, .inl (cS, 131072, .inl (fun zz => nI (st zz)))), (aE, .inl (cE, 131072, .inl (fun zz => nI (en zz)))), (aP, .inl (cP, 131072, .inl (fun zz => nI (pa zz)))), (aL, .inl (cL, 131072, .inl (fun zz => nI (li zz)))), (aQ, .inl (cQ, 262144, .inl (fun zz => nI (sl zz)))), (ta, .inl (cB, NB, .inl (T)))] H locs := h
  obtain ⟨q1, q2, q3⟩ := q1
  have e8 : 8 * 2 ^ k = 2 ^ (k + 3) := by rw [Nat.pow_add, Nat.mul_comm]
  have hk2 : (2 : Nat) ^ (k + 3) ≤ 2 ^ 18 := Nat.pow_le_pow_right (by decide) (by omega)
  have hk1 : (2 : Nat) ^ 3 ≤ 2 ^ (k + 3) := Nat.pow_le_pow_right (by decide) (by omega)
  have h4 : 4 * n ≤ 2 ^ (k + 3) := by rw [Nat.pow_succ] at q3; omega
  refine lv_imul X.1.1 X.1.2.1 zd_Su_emptySlots_16 ?_
  refine zTop (y := nI (2 ^ (k + 3))) ((pk_mul _ _).trans (congrArg nI e8)) ?_
  refine rP X h 0 rfl rfl zW_Su zO_Su zN_Su 8 (by decide) zw_56 rfl (rfl) (rfl) (Nat.le_of_ble_eq_true rfl) zd_Su_emptySlots_17 (fun H locs h => ?_)
  have h : zH D A s [(t0, .inr (2, [.ref ta, .int (nI n), .ref aS, .ref aE, .ref aP, .ref aL, .int (nI nd), .ref aQ, .int (nI (2 ^ (k + 3))), .int (nI sh), .int (nI an), .int (nI L), .int (nI wt), .int (nI fl), .int fp])), (aS, .inl (cS, 131072, .inl (fun zz => nI (st zz)))), (aE, .inl (cE, 131072, .inl (fun zz => nI (en zz)))), (aP, .inl (cP, 131072, .inl (fun zz => nI (pa zz)))), (aL, .inl (cL, 131072, .inl (fun zz => nI (li zz)))), (aQ, .inl (cQ, 262144, .inl (fun zz => nI (sl zz)))), (ta, .inl (cB, NB, .inl (T)))] H locs := h
  refine lv_aload_n X.1.1 X.1.2.1 zd_Su_emptySlots_20 rfl (lv_at hl 0 rfl) ?_
  refine lv_bipush (v := nI 32) X.1.1 X.1.2.1 zd_Su_emptySlots_21 (by decide) ?_
  refine lv_aload_n X.1.1 X.1.2.1 zd_Su_emptySlots_23 rfl (lv_at hl 0 rfl) ?_
  refine rG X h 0 rfl rfl zW_Su 8 (by decide) zw_56 rfl zd_Su_emptySlots_24 ?_
  refine lv_iconst (v := nI 1) X.1.1 X.1.2.1 zd_Su_emptySlots_27 (by decide) ?_
  refine lv_isub X.1.1 X.1.2.1 zd_Su_emptySlots_28 ?_
  refine zTop (y := nI (2 ^ (k + 3) - 1)) (pk_sub (by omega)) ?_
  refine rCs (wr := [(t0, .inr (2, [.ref ta, .int (nI n), .ref aS, .ref aE, .ref aP, .ref aL, .int (nI nd), .ref aQ, .int (nI (2 ^ (k + 3))), .int (nI sh), .int (nI an), .int (nI L), .int (nI wt), .int (nI fl), .int fp])), (aS, .inl (cS, 131072, .inl (fun zz => nI (st zz)))), (aE, .inl (cE, 131072, .inl (fun zz => nI (en zz)))), (aP, .inl (cP, 131072, .inl (fun zz => nI (pa zz)))), (aL, .inl (cL, 131072, .inl (fun zz => nI (li zz)))), (aQ, .inl (cQ, 262144, .inl (fun zz => nI (sl zz)))), (ta, .inl (cB, NB, .inl (T)))]) (wf := fun _ => [(t0, .inr (2, [.ref ta, .int (nI n), .ref aS, .ref aE, .ref aP, .ref aL, .int (nI nd), .ref aQ, .int (nI (2 ^ (k + 3))), .int (nI sh), .int (nI an), .int (nI L), .int (nI wt), .int (nI fl), .int fp])), (aS, .inl (cS, 131072, .inl (fun zz => nI (st zz)))), (aE, .inl (cE, 131072, .inl (fun zz => nI (en zz)))), (aP, .inl (cP, 131072, .inl (fun zz => nI (pa zz)))), (aL, .inl (cL, 131072, .inl (fun zz => nI (li zz)))), (aQ, .inl (cQ, 262144, .inl (fun zz => nI (sl zz)))), (ta, .inl (cB, NB, .inl (T)))]) (rest := [.int (nI 32), .ref t0]) X h hl.1 (zc_In_bitCount l D (b := (k + 3)) (by omega) H.size) zw_188 zw_189 zw_12 zm_In_bitCount zq_In_bitCount.2 ⟨Nat.le_of_ble_eq_true rfl, Nat.le_of_ble_eq_true rfl⟩ ⟨Nat.le_of_ble_eq_true rfl, Nat.le_of_ble_eq_true rfl⟩ [] rfl [] [0, 1, 2, 3, 4, 5, 6] [0, 1, 2, 3, 4, 5, 6] rfl (by decide) rfl (by decide) (by decide) (fun _ => rfl) (by decide) rfl (Nat.le_of_ble_eq_true rfl) zd_Su_emptySlots_29 (fun r _ H locs hp h => ?_)
  obtain ⟨rfl, -⟩ := hp
  have h : zH D A s [(t0, .inr (2, [.ref ta, .int (nI n), .ref aS, .ref aE, .ref aP, .ref aL, .int (nI nd), .ref aQ, .int (nI (2 ^ (k + 3))), .int (nI sh), .int (nI an), .int (nI L), .int (nI wt), .int (nI fl), .int fp])), (aS, .inl (cS, 131072, .inl (fun zz => nI (st zz)))), (aE, .inl (cE, 131072, .inl (fun zz => nI (en zz)))), (aP, .inl (cP, 131072, .inl (fun zz => nI (pa zz)))), (aL, .inl (cL, 131072, .inl (fun zz => nI (li zz)))), (aQ, .inl (cQ, 262144, .inl (fun zz => nI (sl zz)))), (ta, .inl (cB, NB, .inl (T)))] H locs := h
  refine lv_isub X.1.1 X.1.2.1 zd_Su_emptySlots_32 ?_
  refine zTop (y := nI (32 - (((k + 3))))) (pk_sub (by omega)) ?_
  refine rP X h 0 rfl rfl zW_Su zO_Su zN_Su 9 (by decide) zw_57 rfl (rfl) (rfl) (Nat.le_of_ble_eq_true rfl) zd_Su_emptySlots_33 (fun H locs h => ?_)
  have h : zH D A s [(t0, .inr (2, [.ref ta, .int (nI n), .ref aS, .ref aE, .ref aP, .ref aL, .int (nI nd), .ref aQ, .int (nI (2 ^ (k + 3))), .int (nI (32 - (((k + 3))))), .int (nI an), .int (nI L), .int (nI wt), .int (nI fl), .int fp])), (aS, .inl (cS, 131072, .inl (fun zz => nI (st zz)))), (aE, .inl (cE, 131072, .inl (fun zz => nI (en zz)))), (aP, .inl (cP, 131072, .inl (fun zz => nI (pa zz)))), (aL, .inl (cL, 131072, .inl (fun zz => nI (li zz)))), (aQ, .inl (cQ, 262144, .inl (fun zz => nI (sl zz)))), (ta, .inl (cB, NB, .inl (T)))] H locs := h
  refine lv_iconst (v := nI 0) X.1.1 X.1.2.1 zd_Su_emptySlots_36 (by decide) ?_
  refine lv_istore_n X.1.1 X.1.2.1 zd_Su_emptySlots_37 rfl hl (by decide) rfl (fun ls hl => ?_)
  have hl : lv_has ls 2 [(1, .int (nI 0)), (0, .ref t0)] := hl
  have loop : ∀ (fu : Nat) (i : Nat) (g : Nat → Nat) (ls : Array Slot) (H : Heap) (locs : List Loc), 2 ^ (k + 3) - i < fu → i ≤ 2 ^ (k + 3) → (∀ j, j < i → g j = 0) → lv_has ls 2 [(0, .ref t0), (1, .int (nI i))] → zH D A s [(t0, .inr (2, [.ref ta, .int (nI n), .ref aS, .ref aE, .ref aP, .ref aL, .int (nI nd), .ref aQ, .int (nI (2 ^ (k + 3))), .int (nI (32 - (k + 3))), .int (nI an), .int (nI L), .int (nI wt), .int (nI fl), .int fp])), (aS, .inl (cS, 131072, .inl (fun zz => nI (st zz)))), (aE, .inl (cE, 131072, .inl (fun zz => nI (en zz)))), (aP, .inl (cP, 131072, .inl (fun zz => nI (pa zz)))), (aL, .inl (cL, 131072, .inl (fun zz => nI (li zz)))), (aQ, .inl (cQ, 262144, .inl (fun zz => nI (g zz)))), (ta, .inl (cB, NB, .inl (T)))] H locs → W p l e ({ frames := 2, cells := 0, slots := 0, locals := 41 } : Room) s m args below meth c H locs 0 0 Q (F0 m 38 ls []) := by
    intro fu
    induction fu with
    | zero => intro i g ls H locs hfu; exact absurd hfu (Nat.not_lt_zero _)
    | succ fu ih =>
      intro i g ls H locs hfu hi hg hl h
      refine lv_iload_n X.1.1 X.1.2.1 zd_Su_emptySlots_38 rfl (lv_at hl 1 rfl) ?_
      refine lv_aload_n X.1.1 X.1.2.1 zd_Su_emptySlots_39 rfl (lv_at hl 0 rfl) ?_
      refine rG X h 0 rfl rfl zW_Su 8 (by decide) zw_56 rfl zd_Su_emptySlots_40 ?_
      refine lv_icmp_ge (tgt := 59) X.1.1 X.1.2.1 zd_Su_emptySlots_43 rfl (fun c1 => ?_) (fun c1 => ?_)
      · have c1 : 2 ^ (k + 3) ≤ i := zc_ge_t (by omega) (by omega) c1
        have ei : i = 2 ^ (k + 3) := by omega
        exact ret (k + 3, g) H locs ls _ (⟨by show 3 ≤ k + 3; omega, by show k + 3 ≤ 18; omega, h4, fun j hj => hg j (by rw [ei]; exact hj)⟩) h zd_Su_emptySlots_59
      · have c1 : i < 2 ^ (k + 3) := zc_ge_f (by omega) (by omega) c1
        refine lv_aload_n X.1.1 X.1.2.1 zd_Su_emptySlots_46 rfl (lv_at hl 0 rfl) ?_
        refine rG X h 0 rfl rfl zW_Su 7 (by decide) zw_55 rfl zd_Su_emptySlots_47 ?_
        refine lv_iload_n X.1.1 X.1.2.1 zd_Su_emptySlots_50 rfl (lv_at hl 1 rfl) ?_
        refine lv_iconst (v := nI 0) X.1.1 X.1.2.1 zd_Su_emptySlots_51 (by decide) ?_
        refine rSn X h 5 4 rfl rfl (by omega) (by omega) zd_Su_emptySlots_52 (fun H locs h => ?_)
        have h : zH D A s [(t0, .inr (2, [.ref ta, .int (nI n), .ref aS, .ref aE, .ref aP, .ref aL, .int (nI nd), .ref aQ, .int (nI (2 ^ (k + 3))), .int (nI (32 - (k + 3))), .int (nI an), .int (nI L), .int (nI wt), .int (nI fl), .int fp])), (aS, .inl (cS, 131072, .inl (fun zz => nI (st zz)))), (aE, .inl (cE, 131072, .inl (fun zz => nI (en zz)))), (aP, .inl (cP, 131072, .inl (fun zz => nI (pa zz)))), (aL, .inl (cL, 131072, .inl (fun zz => nI (li zz)))), (aQ, .inl (cQ, 262144, .inl (fun zz => nI ((va_up g i 0) zz)))), (ta, .inl (cB, NB, .inl (T)))] H locs := h
        refine lv_iinc X.1.1 X.1.2.1 zd_Su_emptySlots_53 hl (k := 1) rfl (v := nI (i + 1)) (nI_add _ _) (by decide) rfl (fun ls hl => ?_)
        have hl : lv_has ls 2 [(1, .int (nI (i + 1))), (0, .ref t0)] := hl
        refine lv_goto (tgt := 38) X.1.1 X.1.2.1 zd_Su_emptySlots_56 rfl ?_
        exact ih (i + 1) (va_up g i 0) ls H locs (by omega) (by omega) (fun j hj => by
              by_cases hc : j = i
              · rw [hc, va_up_self]
              · rw [va_up_ne _ _ hc]; exact hg j (by omega)) (lv_sub hl [1, 0] rfl) h
  exact loop _ 0 sl ls H locs (Nat.lt_succ_self _) (by omega) (fun j hj => absurd hj (Nat.not_lt_zero _)) (lv_sub hl [1, 0] rfl) h
end
section
/-! A letter comes in: what the machine's rows of numbers say, and the three ends of a round -/
/-- the tree as the rows hold it: start st, end en, parent pa, slots sl; ps, dp: each node's letters -/
def tG (T : Nat → Int32) (n NB M sh nd j : Nat) (st en pa sl ps dp : Nat → Nat) : Prop :=
  (NB < 2 ^ 30 ∧ n ≤ NB ∧ n ≤ 65536 ∧ 4 * n ≤ M ∧ ∃ b, 3 ≤ b ∧ b ≤ 18 ∧ M = 2 ^ b ∧ sh = 32 - b) ∧ gw_T T (hN sh) n M nd j pa ps dp sl ∧
  (∀ v, 0 < v → v < nd → st v = ps v + dp (pa v) ∧ en v = ps v + dp v) ∧ (j ≤ n ∧ (j = 0 → nd = 1) ∧ (0 < j → nd ≤ 2 * j))
section SG
variable {T : Nat → Int32} {n NB M sh nd j : Nat} {st en pa sl ps dp li : Nat → Nat}
theorem tG_nd (h : tG T n NB M sh nd j st en pa sl ps dp) : nd ≤ 131072 ∧ nd ≤ M ∧ 8 ≤ M ∧ 0 < nd := by
  obtain ⟨⟨-, -, h1, h2, b, b1, b2, rfl, -⟩, hT, -, h3, h4, h5⟩ := h
  have a1 : (2 : Nat) ^ 3 ≤ 2 ^ b := Nat.pow_le_pow_right (by decide) b1
  have := hT.1.1.2
  by_cases hj : j = 0
  · have := h4 hj
    omega
  · have := h5 (by omega)
    omega
theorem tG_O (h : tG T n NB M sh nd j st en pa sl ps dp) : tO NB M sh nd st pa sl := by
  have hd := tG_nd h
  have h0 := h
  obtain ⟨⟨c1, c2, c3, c4, cb⟩, hT, hR, -⟩ := h
  refine ⟨c1, cb, hd.1, hT.2.1.1, fun s hs hne => ?_, gw_free hT hd.2.1⟩
  have hv := hT.2.1.1 s hs
  obtain ⟨p1, p2, p3, p4, p5⟩ := hT.1.2.1 (sl s) (by omega) hv
  have := (hR (sl s) (by omega) hv).1
  exact ⟨by omega, by omega⟩
theorem tG_q (h : tG T n NB M sh nd j st en pa sl ps dp) {a hh r : Nat} {ch : Int32} (q : hs_r M sl (hok pa st T a ch) hh r) : hs_r M sl (gw_ok T pa ps dp a ch) hh r := by
  obtain ⟨-, hT, hR, -⟩ := h
  have hr := hs_r_lt q
  have hM : 0 < M := by omega
  have e : ∀ s, s < M → sl s ≠ 0 → (hok pa st T a ch (sl s) ↔ gw_ok T pa ps dp a ch (sl s)) := fun s hs hne => by
    have := (hR (sl s) (by omega) (hT.2.1.1 s hs)).1
    unfold hok gw_ok
    rw [this]
  obtain ⟨d, d1, d2, d3, d4⟩ := q
  refine ⟨d, d1, d2, ?_, fun d' hd' => ?_⟩
  · by_cases hz : sl r = 0
    · exact Or.inl hz
    · rcases d3 with z | z
      · exact absurd z hz
      · exact Or.inr ((e r hr hz).mp z)
  · obtain ⟨z1, z2⟩ := d4 d' hd'
    exact ⟨z1, fun z => z2 ((e _ (Nat.mod_lt _ hM) z1).mpr z)⟩
/-- what the slot at the active point holds -/
theorem tG_child (hG : tG T n NB M sh nd j st en pa sl ps dp) {a L pl r : Nat} (hA : tr_A T nd j pl a L ps dp) (hpl : pl < n) (q0 : hs_r M sl (hok pa st T a (T (pl - L))) (hN sh a (T (pl - L))) r) (hlab : 0 < L → L < en (sl r) - st (sl r)) :
    (sl r = 0 ∧ L = 0 ∧ ∀ w, 0 < w → w < nd → pa w = a → T (ps w + dp a) ≠ T pl) ∨ (0 < sl r ∧ sl r < nd ∧ pa (sl r) = a ∧ st (sl r) = ps (sl r) + dp a ∧ en (sl r) = ps (sl r) + dp (sl r) ∧ L < dp (sl r) - dp a ∧ tr_eq T (ps (sl r)) j (pl - j) ∧ (L = 0 → T (ps (sl r) + dp a) = T pl) ∧ ps (sl r) + dp (sl r) ≤ n) := by
  have q := tG_q hG q0
  obtain ⟨-, hT, hR, -⟩ := hG
  by_cases hL : L = 0
  · subst hL
    rcases gw_look hT q with ⟨z1, z2⟩ | ⟨z1, z2, z3, z4⟩
    · exact Or.inl ⟨z1, rfl, z2⟩
    · obtain ⟨p1, p2, p3, p4, p5⟩ := hT.1.2.1 (sl r) z1 z2
      obtain ⟨s1, s2⟩ := hR (sl r) z1 z2
      rw [z3] at s1 p2
      exact Or.inr ⟨z1, z2, z3, s1, s2, by omega, tr_below hT.1 hA z1 z2 z3, fun _ => z4, p3⟩
  · obtain ⟨w, w1, w2, w3, w4, w5, w6, w7⟩ := tr_go hT.1 hA hpl (by omega)
    have ew := gw_hit hT q w1 w2 w3 w5
    subst ew
    obtain ⟨p1, p2, p3, p4, p5⟩ := hT.1.2.1 (sl r) w1 w2
    obtain ⟨s1, s2⟩ := hR (sl r) w1 w2
    rw [w3] at s1
    have hlt := hlab (by omega)
    rw [s1, s2] at hlt
    have hlt2 : L < dp (sl r) - dp a := by omega
    exact Or.inr ⟨w1, w2, w3, s1, s2, hlt2, w7 hlt2, fun z => absurd z hL, p3⟩
/-- the letter stands there -/
theorem tG_stands (hG : tG T n NB M sh nd j st en pa sl ps dp) {a L pl wl v : Nat} (hA : tr_A T nd j pl a L ps dp) (hpl : pl < n) (hB : tr_B T n nd j pl wl ps dp) (hL : tr_L T n nd wl 0 ps dp li)
    (h1 : 0 < v) (h2 : v < nd) (h3 : pa v = a) (h5 : L < dp v - dp a) (h6 : tr_eq T (ps v) j (pl - j)) (hc : T (ps v + dp a + L) = T pl) :
    tr_A T nd j (pl + 1) a (L + 1) ps dp ∧ tr_L T n nd 0 0 ps dp (if wl = 0 then li else va_up li wl a) := by
  obtain ⟨-, hT, -⟩ := hG
  obtain ⟨A1, A2, A3, A4⟩ := hA
  have hc2 : T (ps v + (pl - j)) = T pl := by rw [show ps v + (pl - j) = ps v + dp a + L by omega]; exact hc
  refine ⟨tr_stands hT.1 ⟨A1, A2, A3, A4⟩ hpl h1 h2 h6 hc2, ?_⟩
  by_cases hw : wl = 0
  · rw [if_pos hw, ← hw]
    rw [hw] at hL ⊢
    exact hL
  · rw [if_neg hw]
    have e := tr_mid hT.1 ⟨A1, A2, A3, A4⟩ hB hw hpl h1 h2 h3 h5 h6 hc2
    exact tr_link hL hB hw A1 (by omega) A3
/-- a leaf below b, where nothing goes on with the letter; r: its slot -/
theorem tG_leaf (hG : tG T n NB M sh nd j st en pa sl ps dp) {b pl r : Nat} (hb : b < nd) (hbx : tr_eq T (ps b) j (dp b)) (hj : j + dp b = pl) (hpl : pl < n) (hno : ∀ w, 0 < w → w < nd → pa w = b → T (ps w + dp b) ≠ T pl) (hc : (j = 0 → nd + 1 = 2) ∧ (0 < j → nd + 1 ≤ 2 * j + 2)) (q0 : hs_r M sl (hok pa st T b (T pl)) (hN sh b (T pl)) r) :
    tG T n NB M sh (nd + 1) (j + 1) (va_up st nd pl) (va_up en nd n) (va_up pa nd b) (va_up sl r nd) (va_up ps nd j) (va_up dp nd (n - j)) := by
  have q := tG_q hG q0
  obtain ⟨c, hT, hR, hn⟩ := hG
  subst hj
  obtain ⟨-, hl⟩ := gw_leaf hT hb hbx hpl hno q
  refine ⟨c, hl, fun v v0 v1 => ?_, by omega, fun z => by omega, fun _ => ?_⟩
  · by_cases hv : v = nd
    · subst hv
      rw [va_up_self, va_up_self, va_up_self, va_up_self, va_up_self, va_up_ne _ _ (by omega : b ≠ v)]
      exact ⟨rfl, by omega⟩
    · have hv2 : v < nd := by omega
      have hp := (hT.1.2.1 v v0 hv2).1
      rw [va_up_ne _ _ hv, va_up_ne _ _ hv, va_up_ne _ _ hv, va_up_ne _ _ hv, va_up_ne _ _ hv, va_up_ne _ _ (by omega : pa v ≠ nd)]
      exact hR v v0 hv2
  · by_cases hj : j = 0
    · have := hc.1 hj
      omega
    · have := hc.2 (by omega)
      omega
/-- an edge is split -/
theorem tG_split (hG : tG T n NB M sh nd j st en pa sl ps dp) {a L w pl r : Nat} (hA : tr_A T nd j pl a L ps dp) (hw0 : 0 < w) (hw : w < nd) (hp : pa w = a) (hL0 : 0 < L) (hL : L < dp w - dp a) (hpl : pl < n) (hs : st w = ps w + dp a) (hrw : sl r = w) (hT0 : T (ps w + dp a) = T (pl - L)) (q0 : hs_r M sl (hok pa st T a (T (pl - L))) (hN sh a (T (pl - L))) r) :
    tO NB M sh (nd + 1) (va_up (va_up st nd (st w)) w (st w + L)) (va_up (va_up pa nd a) w nd) (va_up sl r nd) ∧
    ∀ r1, hs_r M (va_up sl r nd) (hok (va_up (va_up pa nd a) w nd) (va_up (va_up st nd (st w)) w (st w + L)) T nd (T (st w + L))) (hN sh nd (T (st w + L))) r1 →
      gw_T T (hN sh) n M (nd + 1) j (va_up (va_up pa nd a) w nd) (va_up ps nd (ps w)) (va_up dp nd (dp a + L)) (va_up (va_up sl r nd) r1 w) ∧ ∀ v, 0 < v → v < nd + 1 → (va_up (va_up st nd (st w)) w (st w + L)) v = (va_up ps nd (ps w)) v + (va_up dp nd (dp a + L)) ((va_up (va_up pa nd a) w nd) v) ∧ (va_up en nd (st w + L)) v = (va_up ps nd (ps w)) v + (va_up dp nd (dp a + L)) v := by
  have hd := tG_nd hG
  have q := tG_q hG q0
  have hG0 := hG
  obtain ⟨⟨c1, c2, c3, c4, cb⟩, hT, hR, n1, n2, n3⟩ := hG
  have hr := hs_r_lt q
  have ha : a < nd := by rw [← hp]; exact (hT.1.2.1 w hw0 hw).1
  have hw3 := (hT.1.2.1 w hw0 hw).2.2.1
  have hjj : ps w < j := (hT.1.2.1 w hw0 hw).2.2.2.1
  have hnn := n3 (by omega)
  have hgone : ∀ s, s < M → va_up sl r nd s ≠ w := hs_i_gone hT.2.2.2 hr hrw (by omega) (by omega)
  have hjn : j + dp a + L = pl := hA.2.1
  -- the new rows say what they should
  have hR' : ∀ v, 0 < v → v < nd + 1 → (va_up (va_up st nd (st w)) w (st w + L)) v = (va_up ps nd (ps w)) v + (va_up dp nd (dp a + L)) ((va_up (va_up pa nd a) w nd) v) ∧ (va_up en nd (st w + L)) v = (va_up ps nd (ps w)) v + (va_up dp nd (dp a + L)) v := by
    intro v v0 v1
    by_cases e1 : v = w
    · subst e1
      have := hR v v0 hw
      rw [va_up_self, va_up_self, va_up_self, va_up_ne _ _ (by omega : v ≠ nd), va_up_ne _ _ (by omega : v ≠ nd), va_up_ne _ _ (by omega : v ≠ nd)]
      exact ⟨by omega, this.2⟩
    · by_cases e2 : v = nd
      · subst e2
        rw [va_up_ne _ _ e1, va_up_ne _ _ e1, va_up_self, va_up_self, va_up_self, va_up_self, va_up_self, va_up_ne _ _ (by omega : a ≠ v)]
        exact ⟨hs, by omega⟩
      · have hv2 : v < nd := by omega
        have := hR v v0 hv2
        have hpv := (hT.1.2.1 v v0 hv2).1
        rw [va_up_ne _ _ e1, va_up_ne _ _ e1, va_up_ne _ _ e2, va_up_ne _ _ e2, va_up_ne _ _ e2, va_up_ne _ _ e2, va_up_ne _ _ e2, va_up_ne _ _ (by omega : pa v ≠ nd)]
        exact this
  have hsl : ∀ s, s < M → va_up sl r nd s < nd + 1 := fun s hs => by
    by_cases e : s = r
    · rw [e, va_up_self]; omega
    · rw [va_up_ne _ _ e]; have := hT.2.1.1 s hs; omega
  refine ⟨⟨c1, cb, by omega, hsl, fun s hs1 hne => ?_, ?_⟩, fun r1 q1 => ⟨?_, hR'⟩⟩
  · have hv := hsl s hs1
    have hv0 : 0 < va_up sl r nd s := by omega
    have hvw := hgone s hs1
    by_cases e : va_up sl r nd s = nd
    · rw [e, va_up_ne _ _ (by omega : nd ≠ w), va_up_ne _ _ (by omega : nd ≠ w), va_up_self, va_up_self]
      exact ⟨by omega, by omega⟩
    · rw [va_up_ne _ _ hvw, va_up_ne _ _ hvw, va_up_ne _ _ e, va_up_ne _ _ e]
      obtain ⟨z1, z2, z3, z4, z5⟩ := hT.1.2.1 _ hv0 (by omega : va_up sl r nd s < nd)
      have := (hR _ hv0 (by omega : va_up sl r nd s < nd)).1
      exact ⟨by omega, by omega⟩
  · have := hT.2.2.1
    refine hs_n_free ?_
    rw [hs_n_old (by omega) (by omega)]
    omega
  · rw [hT0.symm] at q
    have hM : 0 < M := by omega
    refine (gw_split (D := dp a + L) (r := r) (r1 := r1) hT hw0 hw hp (by omega) (by omega) q ?_).2
    have hpsD : ps w + (dp a + L) = st w + L := by omega
    rw [hpsD]
    have e : ∀ s, s < M → va_up sl r nd s ≠ 0 → (hok (va_up (va_up pa nd a) w nd) (va_up (va_up st nd (st w)) w (st w + L)) T nd (T (st w + L)) (va_up sl r nd s) ↔ gw_ok T (va_up (va_up pa nd a) w nd) (va_up ps nd (ps w)) (va_up dp nd (dp a + L)) nd (T (st w + L)) (va_up sl r nd s)) := fun s hs1 hne => by
      have := (hR' _ (by omega) (hsl s hs1)).1
      unfold hok gw_ok
      rw [this]
    have hr1 := hs_r_lt q1
    obtain ⟨d, d1, d2, d3, d4⟩ := q1
    refine ⟨d, d1, d2, ?_, fun d' hd' => ?_⟩
    · by_cases hz : va_up sl r nd r1 = 0
      · exact Or.inl hz
      · rcases d3 with z | z
        · exact absurd z hz
        · exact Or.inr ((e r1 hr1 hz).mp z)
    · obtain ⟨z1, z2⟩ := d4 d' hd'
      exact ⟨z1, fun z => z2 ((e _ (Nat.mod_lt _ hM) z1).mpr z)⟩
/-- .. the same of a tree that has a node more than it should -/
theorem tF_O (c : NB < 2 ^ 30 ∧ n ≤ NB ∧ n ≤ 65536 ∧ 4 * n ≤ M ∧ ∃ b, 3 ≤ b ∧ b ≤ 18 ∧ M = 2 ^ b ∧ sh = 32 - b) (hT : gw_T T (hN sh) n M nd j pa ps dp sl) (hR : ∀ v, 0 < v → v < nd → st v = ps v + dp (pa v) ∧ en v = ps v + dp v) (h1 : nd ≤ 131072) (h2 : nd ≤ M) : tO NB M sh nd st pa sl := by
  obtain ⟨c1, c2, c3, c4, cb⟩ := c
  refine ⟨c1, cb, h1, hT.2.1.1, fun s hs hne => ?_, gw_free hT h2⟩
  have hv := hT.2.1.1 s hs
  obtain ⟨p1, p2, p3, p4, p5⟩ := hT.1.2.1 (sl s) (by omega) hv
  have := (hR (sl s) (by omega) hv).1
  exact ⟨by omega, by omega⟩
theorem tF_q (hT : gw_T T (hN sh) n M nd j pa ps dp sl) (hR : ∀ v, 0 < v → v < nd → st v = ps v + dp (pa v) ∧ en v = ps v + dp v) {a hh r : Nat} {ch : Int32} (q : hs_r M sl (hok pa st T a ch) hh r) : hs_r M sl (gw_ok T pa ps dp a ch) hh r := by
  have hr := hs_r_lt q
  have hM : 0 < M := by omega
  have e : ∀ s, s < M → sl s ≠ 0 → (hok pa st T a ch (sl s) ↔ gw_ok T pa ps dp a ch (sl s)) := fun s hs hne => by
    have := (hR (sl s) (by omega) (hT.2.1.1 s hs)).1
    unfold hok gw_ok
    rw [this]
  obtain ⟨d, d1, d2, d3, d4⟩ := q
  refine ⟨d, d1, d2, ?_, fun d' hd' => ?_⟩
  · by_cases hz : sl r = 0
    · exact Or.inl hz
    · rcases d3 with z | z
      · exact absurd z hz
      · exact Or.inr ((e r hr hz).mp z)
  · obtain ⟨z1, z2⟩ := d4 d' hd'
    exact ⟨z1, fun z => z2 ((e _ (Nat.mod_lt _ hM) z1).mpr z)⟩
theorem tF_leaf (c : NB < 2 ^ 30 ∧ n ≤ NB ∧ n ≤ 65536 ∧ 4 * n ≤ M ∧ ∃ b, 3 ≤ b ∧ b ≤ 18 ∧ M = 2 ^ b ∧ sh = 32 - b) (hT : gw_T T (hN sh) n M nd j pa ps dp sl) (hR : ∀ v, 0 < v → v < nd → st v = ps v + dp (pa v) ∧ en v = ps v + dp v) {b pl r : Nat} (hb : b < nd) (hbx : tr_eq T (ps b) j (dp b)) (hj : j + dp b = pl) (hpl : pl < n) (hno : ∀ w, 0 < w → w < nd → pa w = b → T (ps w + dp b) ≠ T pl) (hc : nd + 1 ≤ 2 * (j + 1)) (q0 : hs_r M sl (hok pa st T b (T pl)) (hN sh b (T pl)) r) :
    tG T n NB M sh (nd + 1) (j + 1) (va_up st nd pl) (va_up en nd n) (va_up pa nd b) (va_up sl r nd) (va_up ps nd j) (va_up dp nd (n - j)) := by
  have q := tF_q hT hR q0
  subst hj
  obtain ⟨-, hl⟩ := gw_leaf hT hb hbx hpl hno q
  refine ⟨c, hl, fun v v0 v1 => ?_, by omega, fun z => by omega, fun _ => hc⟩
  by_cases hv : v = nd
  · subst hv
    rw [va_up_self, va_up_self, va_up_self, va_up_self, va_up_self, va_up_ne _ _ (by omega : b ≠ v)]
    exact ⟨rfl, by omega⟩
  · have hv2 : v < nd := by omega
    have hp := (hT.1.2.1 v v0 hv2).1
    rw [va_up_ne _ _ hv, va_up_ne _ _ hv, va_up_ne _ _ hv, va_up_ne _ _ hv, va_up_ne _ _ hv, va_up_ne _ _ (by omega : pa v ≠ nd)]
    exact hR v v0 hv2
/-- between two rounds: wl waits for its link, the active point is L letters below an -/
def tV (T : Nat → Int32) (n NB M sh nd j pl wl an L : Nat) (st en pa li sl ps dp : Nat → Nat) : Prop := tG T n NB M sh nd j st en pa sl ps dp ∧ tr_L T n nd wl 0 ps dp li ∧ tr_B T n nd j pl wl ps dp ∧ ((j ≤ pl ∧ tr_A T nd j pl an L ps dp) ∨ (j = pl + 1 ∧ wl = 0 ∧ tr_A T nd j (pl + 1) an L ps dp))
/-- behind a leaf below the active node -/
theorem tV_none (hG : tG T n NB M sh nd j st en pa sl ps dp) {a pl r : Nat} (hA : tr_A T nd j pl a 0 ps dp) (hpl : pl < n) (hno : ∀ w, 0 < w → w < nd → pa w = a → T (ps w + dp a) ≠ T pl) (hL : tr_L T n nd 0 0 ps dp li) (q0 : hs_r M sl (hok pa st T a (T pl)) (hN sh a (T pl)) r) :
    tV T n NB M sh (nd + 1) (j + 1) pl 0 (if a = 0 then 0 else (va_up li nd 0) a) (if a = 0 then 0 - 1 else 0) (va_up st nd pl) (va_up en nd n) (va_up pa nd a) (va_up li nd 0) (va_up sl r nd) (va_up ps nd j) (va_up dp nd (n - j)) := by
  have hG0 := hG
  obtain ⟨c, hT, hR, n1, n2, n3⟩ := hG
  obtain ⟨A1, A2, A3, A4⟩ := hA
  refine ⟨tG_leaf hG0 A1 A3 (by omega) hpl hno ⟨fun z => by have := n2 z; omega, fun z => by have := n3 z; omega⟩ q0, tr_L_new hL (Or.inl (by omega)), Or.inl rfl, ?_⟩
  by_cases ha : a = 0
  · subst ha
    rw [if_pos rfl, if_pos rfl]
    obtain ⟨e, hN⟩ := tr_next1 hT.1.1.1 ⟨A1, A2, A3, A4⟩
    exact Or.inr ⟨by omega, rfl, tr_A_new (by rw [← e]; rw [← e] at hN; exact hN)⟩
  · rw [if_neg ha, if_neg ha, va_up_ne _ _ (by omega : a ≠ nd)]
    have hd : dp a ≠ 0 := fun z => ha (tr_d0 hT.1 A1 z)
    exact Or.inl ⟨by omega, tr_A_new (tr_next hT.1 ⟨A1, A2, A3, A4⟩ hL hpl (by omega) ha ha)⟩
/-- behind a split and the new node's leaf -/
theorem tV_split (hG : tG T n NB M sh nd j st en pa sl ps dp) {a L w pl r r1 : Nat} {pa1 st1 en1 sl1 ps1 dp1 : Nat → Nat} (hA : tr_A T nd j pl a L ps dp) (hw0 : 0 < w) (hw : w < nd) (hp : pa w = a) (hL0 : 0 < L) (hLw : L < dp w - dp a) (hpl : pl < n) (hs : st w = ps w + dp a) (heq : tr_eq T (ps w) j (pl - j)) (hne : T (st w + L) ≠ T pl)
    (hpa : pa1 = va_up (va_up pa nd a) w nd) (hps : ps1 = va_up ps nd (ps w)) (hdp : dp1 = va_up dp nd (dp a + L))
    (hT1 : gw_T T (hN sh) n M (nd + 1) j pa1 ps1 dp1 sl1) (hR1 : ∀ v, 0 < v → v < nd + 1 → st1 v = ps1 v + dp1 (pa1 v) ∧ en1 v = ps1 v + dp1 v) (hL : tr_L T n (nd + 1) 0 nd ps1 dp1 li) (q0 : hs_r M sl1 (hok pa1 st1 T nd (T pl)) (hN sh nd (T pl)) r1) :
    tV T n NB M sh (nd + 1 + 1) (j + 1) pl nd (if a = 0 then 0 else (va_up li (nd + 1) 0) a) (if a = 0 then L - 1 else L) (va_up st1 (nd + 1) pl) (va_up en1 (nd + 1) n) (va_up pa1 (nd + 1) nd) (va_up li (nd + 1) 0) (va_up sl1 r1 (nd + 1)) (va_up ps1 (nd + 1) j) (va_up dp1 (nd + 1) (n - j)) := by
  have hG0 := hG
  obtain ⟨c, hT, hR, n1, n2, n3⟩ := hG
  have hA0 := hA
  obtain ⟨A1, A2, A3, A4⟩ := hA
  obtain ⟨z1, z2, z3, z4, z5⟩ := hT.1.2.1 w hw0 hw
  have hn3 := n3 (by omega)
  have e1 : ps1 nd = ps w := by rw [hps, va_up_self]
  have e2 : dp1 nd = dp a + L := by rw [hdp, va_up_self]
  have hd0 := hT.1.1.1
  have hA1 : tr_A T (nd + 1) j pl a L ps1 dp1 := by rw [hps, hdp]; exact tr_A_new hA0
  refine ⟨tF_leaf c hT1 hR1 (Nat.lt_succ_self nd) (by rw [e1, e2, show dp a + L = pl - j by omega]; exact heq) (by omega) hpl ?_ (by omega) q0, tr_L_new (tr_L_sw hL) (Or.inl (by omega)), Or.inr ?_, Or.inl ⟨by omega, ?_⟩⟩
  · intro v v0 v1 v2
    rw [e2]
    by_cases e : v = w
    · rw [e, hps, va_up_ne _ _ (by omega : w ≠ nd), show ps w + (dp a + L) = st w + L by omega]
      exact hne
    · exfalso
      rw [hpa, va_up_ne _ _ e] at v2
      by_cases e' : v = nd
      · rw [e', va_up_self] at v2; omega
      · rw [va_up_ne _ _ e'] at v2
        have := (hT.1.2.1 v v0 (by omega)).1
        omega
  · rw [va_up_ne _ _ (by omega : nd ≠ nd + 1), va_up_ne _ _ (by omega : nd ≠ nd + 1), e1, e2]
    refine ⟨by omega, by omega, by omega, by omega, ?_, ?_, by omega⟩
    · rw [show j + 1 - 1 = j by omega, show dp a + L = pl - j by omega]; exact heq
    · rw [show ps w + (dp a + L) = st w + L by omega]; exact hne
  · by_cases ha : a = 0
    · subst ha
      rw [if_pos rfl, if_pos rfl]
      obtain ⟨L', rfl⟩ : ∃ L', L = L' + 1 := ⟨L - 1, by omega⟩
      have hd1 : dp1 0 = 0 := by rw [hdp, va_up_ne _ _ (by omega : (0 : Nat) ≠ nd)]; exact hd0
      exact tr_A_new (tr_next0 hd1 hA1)
    · rw [if_neg ha, if_neg ha, va_up_ne _ _ (by omega : a ≠ nd + 1)]
      exact tr_A_new (tr_next hT1.1 hA1 hL hpl (by omega) ha (by omega))
/-- a link where it is due -/
theorem tV_lk {wl wb b pl : Nat} (hL : tr_L T n nd wl wb ps dp li) (hB : tr_B T n nd j pl wl ps dp) (hb : b < nd) (hbd : j + dp b = pl) (hbx : tr_eq T (ps b) j (dp b)) : (wl = 0 → tr_L T n nd 0 wb ps dp li) ∧ (wl ≠ 0 → tr_L T n nd 0 wb ps dp (va_up li wl b)) := ⟨fun z => by rw [z] at hL; exact hL, fun z => tr_link hL hB z hb hbd hbx⟩
theorem tV_new {wl : Nat} (hL : tr_L T n nd wl 0 ps dp li) (x y : Nat) : tr_L T n (nd + 1) wl nd (va_up ps nd x) (va_up dp nd y) (va_up li nd 0) := tr_L_new (wb := nd) (fun v a b c d e => hL v a b c d (by omega)) (Or.inr rfl)
end SG
end
section
/-! SuffixTree: goDown, addLetter, grow -/
theorem tG_room {T : Nat → Int32} {n NB M sh nd j : Nat} {st en pa sl ps dp : Nat → Nat} (h : tG T n NB M sh nd j st en pa sl ps dp) (hj : j < n) : nd + 2 ≤ 131072 ∧ nd + 2 ≤ M ∧ M ≤ 262144 := by
  have hM := tO_M (tG_O h)
  have hd := tG_nd h
  obtain ⟨⟨-, -, h1, h2, -⟩, -, -, h3, h4, h5⟩ := h
  by_cases hz : j = 0
  · have := h4 hz
    omega
  · have := h5 (by omega)
    omega

set_option maxHeartbeats 4000000 in
set_option maxRecDepth 100000 in
theorem zc_Su_goDown (l : Launch) (D : va_G) {t0 ta n aS aE aP aL nd aQ M sh an L wt fl NB : Nat} {fp : Int32} {st en pa li sl : Nat → Nat} {T : Nat → Int32} {cS cE cP cL cQ cB : ClassId} {pl j : Nat} {ps dp : Nat → Nat} (hG : tG T n NB M sh nd j st en pa sl ps dp) (hA : tr_A T nd j pl an L ps dp) (hpl : pl < n) (sz : Nat) : zMi l D zy_Su_goDown zb_Su_goDown 6 .int ({ frames := 1, cells := 0, slots := 0, locals := 25 } : Room) [.ref t0, .int (nI pl)] [(cS, .int), (cE, .int), (cP, .int), (cL, .int), (cQ, .int), (cB, .byte)] [(t0, .inr (2, [.ref ta, .int (nI n), .ref aS, .ref aE, .ref aP, .ref aL, .int (nI nd), .ref aQ, .int (nI M), .int (nI sh), .int (nI an), .int (nI L), .int (nI wt), .int (nI fl), .int fp])), (aS, .inl (cS, 131072, .inl (fun zz => nI (st zz)))), (aE, .inl (cE, 131072, .inl (fun zz => nI (en zz)))), (aP, .inl (cP, 131072, .inl (fun zz => nI (pa zz)))), (aL, .inl (cL, 131072, .inl (fun zz => nI (li zz)))), (aQ, .inl (cQ, 262144, .inl (fun zz => nI (sl zz)))), (ta, .inl (cB, NB, .inl (T)))] sz (fun (r : Int32) (u : Nat × Nat × Nat) => r = nI u.2.2 ∧ tr_A T nd j pl u.1 u.2.1 ps dp ∧ hs_r M sl (hok pa st T u.1 (T (pl - u.2.1))) (hN sh u.1 (T (pl - u.2.1))) u.2.2 ∧ (0 < u.2.1 → u.2.1 < en (sl u.2.2) - st (sl u.2.2))) (fun u => [(t0, .inr (2, [.ref ta, .int (nI n), .ref aS, .ref aE, .ref aP, .ref aL, .int (nI nd), .ref aQ, .int (nI M), .int (nI sh), .int (nI u.1), .int (nI u.2.1), .int (nI wt), .int (nI fl), .int fp])), (aS, .inl (cS, 131072, .inl (fun zz => nI (st zz)))), (aE, .inl (cE, 131072, .inl (fun zz => nI (en zz)))), (aP, .inl (cP, 131072, .inl (fun zz => nI (pa zz)))), (aL, .inl (cL, 131072, .inl (fun zz => nI (li zz)))), (aQ, .inl (cQ, 262144, .inl (fun zz => nI (sl zz)))), (ta, .inl (cB, NB, .inl (T)))]) := by
  refine zEi (by decide) (Nat.le_of_ble_eq_true rfl) (fun p e s m args below meth c ls A Q X hl h hsz ret => ?_)
  have hl : lv_has ls 6 [(0, .ref t0), (1, .int (nI pl))] := hl
  generalize hH0 : s.heap = H at h ⊢
  have h : zH D A s [(t0, .inr (2, [.ref ta, .int (nI n), .ref aS, .ref aE, .ref aP, .ref aL, .int (nI nd), .ref aQ, .int (nI M), .int (nI sh), .int (nI an), .int (nI L), .int (nI wt), .int (nI fl), .int fp])), (aS, .inl (cS, 131072, .inl (fun zz => nI (st zz)))), (aE, .inl (cE, 131072, .inl (fun zz => nI (en zz)))), (aP, .inl (cP, 131072, .inl (fun zz => nI (pa zz)))), (aL, .inl (cL, 131072, .inl (fun zz => nI (li zz)))), (aQ, .inl (cQ, 262144, .inl (fun zz => nI (sl zz)))), (ta, .inl (cB, NB, .inl (T)))] H [] := h
  generalize hL0 : ([] : List Loc) = locs at h ⊢
  have hO := tG_O hG
  have hnd := tG_nd hG
  have hMm := tO_M hO
  obtain ⟨k1, k2, k3, k4, -⟩ := hG.1
  have hA2 := hA.2.1
  have hA1 := hA.1
  refine lv_aload_n X.1.1 X.1.2.1 zd_Su_goDown_0 rfl (lv_at hl 0 rfl) ?_
  refine lv_aload_n X.1.1 X.1.2.1 zd_Su_goDown_1 rfl (lv_at hl 0 rfl) ?_
  refine rG X h 0 rfl rfl zW_Su 10 (by decide) zw_58 rfl zd_Su_goDown_2 ?_
  refine lv_aload_n X.1.1 X.1.2.1 zd_Su_goDown_5 rfl (lv_at hl 0 rfl) ?_
  refine rG X h 0 rfl rfl zW_Su 0 (by decide) zw_48 rfl zd_Su_goDown_6 ?_
  refine lv_iload_n X.1.1 X.1.2.1 zd_Su_goDown_9 rfl (lv_at hl 1 rfl) ?_
  refine lv_aload_n X.1.1 X.1.2.1 zd_Su_goDown_10 rfl (lv_at hl 0 rfl) ?_
  refine rG X h 0 rfl rfl zW_Su 11 (by decide) zw_59 rfl zd_Su_goDown_11 ?_
  refine lv_isub X.1.1 X.1.2.1 zd_Su_goDown_14 ?_
  refine zTop (y := nI (pl - L)) (pk_sub (by omega)) ?_
  refine rLb X h 6 5 rfl rfl (by omega) (by omega) zd_Su_goDown_15 ?_
  refine rCi (wr := []) (wf := fun u => [(t0, .inr (2, [.ref ta, .int (nI n), .ref aS, .ref aE, .ref aP, .ref aL, .int (nI nd), .ref aQ, .int (nI M), .int (nI sh), .int (nI an), .int (nI L), .int (nI wt), .int (nI fl), .int fp])), (aS, .inl (cS, 131072, .inl (fun zz => nI (st zz)))), (aE, .inl (cE, 131072, .inl (fun zz => nI (en zz)))), (aP, .inl (cP, 131072, .inl (fun zz => nI (pa zz)))), (aL, .inl (cL, 131072, .inl (fun zz => nI (li zz)))), (aQ, .inl (cQ, 262144, .inl (fun zz => nI (sl zz)))), (ta, .inl (cB, NB, .inl (T)))]) (rest := []) X h hl.1 (zc_Su_slotOf l D (t0 := t0) (ta := ta) (n := n) (aS := aS) (aE := aE) (aP := aP) (aL := aL) (nd := nd) (aQ := aQ) (M := M) (sh := sh) (an := an) (L := L) (wt := wt) (fl := fl) (fp := fp) (st := st) (cS := cS) (en := en) (cE := cE) (pa := pa) (cP := cP) (li := li) (cL := cL) (sl := sl) (cQ := cQ) (T := T) (cB := cB) (NB := NB) (a := an) (ch := T (pl - L)) (hO) (by omega) H.size) zw_202 zw_204 zs_4 zw_3 zm_Su_slotOf zq_Su_slotOf ⟨Nat.le_of_ble_eq_true rfl, Nat.le_of_ble_eq_true rfl⟩ ⟨Nat.le_of_ble_eq_true rfl, Nat.le_of_ble_eq_true rfl⟩ [0, 1, 2, 3, 4, 5] rfl [0, 1, 2, 3, 4, 5, 6] [] [0, 1, 2, 3, 4, 5, 6] rfl (by decide) rfl (by decide) (by decide) (fun _ => rfl) (by decide) 0 rfl rfl rfl (Nat.le_of_ble_eq_true rfl) zd_Su_goDown_16 (fun r u H locs hp h => ?_)
  obtain ⟨rfl, q1⟩ := hp
  have h : zH D A s [(t0, .inr (2, [.ref ta, .int (nI n), .ref aS, .ref aE, .ref aP, .ref aL, .int (nI nd), .ref aQ, .int (nI M), .int (nI sh), .int (nI an), .int (nI L), .int (nI wt), .int (nI fl), .int fp])), (aS, .inl (cS, 131072, .inl (fun zz => nI (st zz)))), (aE, .inl (cE, 131072, .inl (fun zz => nI (en zz)))), (aP, .inl (cP, 131072, .inl (fun zz => nI (pa zz)))), (aL, .inl (cL, 131072, .inl (fun zz => nI (li zz)))), (aQ, .inl (cQ, 262144, .inl (fun zz => nI (sl zz)))), (ta, .inl (cB, NB, .inl (T)))] H locs := h
  refine lv_istore_n X.1.1 X.1.2.1 zd_Su_goDown_19 rfl hl (by decide) rfl (fun ls hl => ?_)
  have hl : lv_has ls 6 [(2, .int (nI u)), (0, .ref t0), (1, .int (nI pl))] := hl
  refine lv_iconst (v := nI 0) X.1.1 X.1.2.1 zd_Su_goDown_20 (by decide) ?_
  refine lv_istore_n X.1.1 X.1.2.1 zd_Su_goDown_21 rfl hl (by decide) rfl (fun ls hl => ?_)
  have hl : lv_has ls 6 [(3, .int (nI 0)), (2, .int (nI u)), (0, .ref t0), (1, .int (nI pl))] := hl
  have loop : ∀ (fu : Nat) (k : Nat) (a1 : Nat) (L1 : Nat) (r1 : Nat) (ls : Array Slot) (H : Heap) (locs : List Loc), L1 < fu → k + L1 ≤ pl → tr_A T nd j pl a1 L1 ps dp → hs_r M sl (hok pa st T a1 (T (pl - L1))) (hN sh a1 (T (pl - L1))) r1 → lv_has ls 6 [(0, .ref t0), (1, .int (nI pl)), (2, .int (nI r1)), (3, .int (nI k))] → zH D A s [(t0, .inr (2, [.ref ta, .int (nI n), .ref aS, .ref aE, .ref aP, .ref aL, .int (nI nd), .ref aQ, .int (nI M), .int (nI sh), .int (nI a1), .int (nI L1), .int (nI wt), .int (nI fl), .int fp])), (aS, .inl (cS, 131072, .inl (fun zz => nI (st zz)))), (aE, .inl (cE, 131072, .inl (fun zz => nI (en zz)))), (aP, .inl (cP, 131072, .inl (fun zz => nI (pa zz)))), (aL, .inl (cL, 131072, .inl (fun zz => nI (li zz)))), (aQ, .inl (cQ, 262144, .inl (fun zz => nI (sl zz)))), (ta, .inl (cB, NB, .inl (T)))] H locs → W p l e ({ frames := 1, cells := 0, slots := 0, locals := 25 } : Room) s m args below meth c H locs 0 0 Q (F0 m 22 ls []) := by
    intro fu
    induction fu with
    | zero => intro k a1 L1 r1 ls H locs hfu; exact absurd hfu (Nat.not_lt_zero _)
    | succ fu ih =>
      intro k a1 L1 r1 ls H locs hfu hk hB hq hl h
      have hB2 := hB.2.1
      have hr1 := hs_r_lt hq
      refine lv_iload_n X.1.1 X.1.2.1 zd_Su_goDown_22 rfl (lv_at hl 3 rfl) ?_
      refine lv_aload_n X.1.1 X.1.2.1 zd_Su_goDown_23 rfl (lv_at hl 0 rfl) ?_
      refine rG X h 0 rfl rfl zW_Su 1 (by decide) zw_49 rfl zd_Su_goDown_24 ?_
      refine lv_icmp_ge (tgt := 117) X.1.1 X.1.2.1 zd_Su_goDown_27 rfl (fun c1 => ?_) (fun c1 => ?_)
      · have c1 : n ≤ k := zc_ge_t (by omega) (by omega) c1
        exact absurd c1 (by omega)
      · have c1 : k < n := zc_ge_f (by omega) (by omega) c1
        refine lv_aload_n X.1.1 X.1.2.1 zd_Su_goDown_30 rfl (lv_at hl 0 rfl) ?_
        refine rG X h 0 rfl rfl zW_Su 11 (by decide) zw_59 rfl zd_Su_goDown_31 ?_
        refine lv_if_le (tgt := 117) X.1.1 X.1.2.1 zd_Su_goDown_34 rfl (fun c2 => ?_) (fun c2 => ?_)
        · have c2 : L1 ≤ 0 := zc_le0_t (by omega) (by omega) c2
          refine lv_iload_n X.1.1 X.1.2.1 zd_Su_goDown_117 rfl (lv_at hl 2 rfl) ?_
          exact ret _ (a1, L1, r1) H locs ls _ (⟨rfl, hB, hq, fun z => absurd z (by dsimp only; omega)⟩) h zd_Su_goDown_118
        · have c2 : 0 < L1 := zc_le0_f (by omega) (by omega) c2
          obtain ⟨w, w1, w2, w3, w4, w5, w6, w7⟩ := tr_go hG.2.1.1 hB hpl c2
          have ew := gw_hit hG.2.1 (tG_q hG hq) w1 w2 w3 w5
          subst ew
          obtain ⟨s1, s2⟩ := hG.2.2.1 (sl r1) w1 w2
          rw [w3] at s1
          have hpn := (hG.2.1.1.2.1 (sl r1) w1 w2).2.2.1
          refine lv_aload_n X.1.1 X.1.2.1 zd_Su_goDown_37 rfl (lv_at hl 0 rfl) ?_
          refine rG X h 0 rfl rfl zW_Su 7 (by decide) zw_55 rfl zd_Su_goDown_38 ?_
          refine lv_iload_n X.1.1 X.1.2.1 zd_Su_goDown_41 rfl (lv_at hl 2 rfl) ?_
          refine rLn X h 5 4 rfl rfl (by omega) (by omega) zd_Su_goDown_42 ?_
          refine lv_istore X.1.1 X.1.2.1 zd_Su_goDown_43 hl (by decide) rfl (fun ls hl => ?_)
          have hl : lv_has ls 6 [(4, .int (nI (sl r1))), (0, .ref t0), (1, .int (nI pl)), (2, .int (nI r1)), (3, .int (nI k))] := hl
          refine lv_aload_n X.1.1 X.1.2.1 zd_Su_goDown_45 rfl (lv_at hl 1 rfl) ?_
          refine rG X h 0 rfl rfl zW_Su 3 (by decide) zw_51 rfl zd_Su_goDown_46 ?_
          refine lv_iload X.1.1 X.1.2.1 zd_Su_goDown_49 (lv_at hl 0 rfl) ?_
          refine rLn X h 2 1 rfl rfl (by omega) (by omega) zd_Su_goDown_51 ?_
          refine lv_aload_n X.1.1 X.1.2.1 zd_Su_goDown_52 rfl (lv_at hl 1 rfl) ?_
          refine rG X h 0 rfl rfl zW_Su 2 (by decide) zw_50 rfl zd_Su_goDown_53 ?_
          refine lv_iload X.1.1 X.1.2.1 zd_Su_goDown_56 (lv_at hl 0 rfl) ?_
          refine rLn X h 1 0 rfl rfl (by omega) (by omega) zd_Su_goDown_58 ?_
          refine lv_isub X.1.1 X.1.2.1 zd_Su_goDown_59 ?_
          refine zTop (y := nI (en (sl r1) - (st (sl r1)))) (pk_sub (by omega)) ?_
          refine lv_istore X.1.1 X.1.2.1 zd_Su_goDown_60 hl (by decide) rfl (fun ls hl => ?_)
          have hl : lv_has ls 6 [(5, .int (nI (en (sl r1) - (st (sl r1))))), (4, .int (nI (sl r1))), (0, .ref t0), (1, .int (nI pl)), (2, .int (nI r1)), (3, .int (nI k))] := hl
          refine lv_aload_n X.1.1 X.1.2.1 zd_Su_goDown_62 rfl (lv_at hl 2 rfl) ?_
          refine rG X h 0 rfl rfl zW_Su 11 (by decide) zw_59 rfl zd_Su_goDown_63 ?_
          refine lv_iload X.1.1 X.1.2.1 zd_Su_goDown_66 (lv_at hl 0 rfl) ?_
          refine lv_icmp_ge (tgt := 74) X.1.1 X.1.2.1 zd_Su_goDown_68 rfl (fun c3 => ?_) (fun c3 => ?_)
          · have c3 : en (sl r1) - (st (sl r1)) ≤ L1 := zc_ge_t (by omega) (by omega) c3
            refine lv_aload_n X.1.1 X.1.2.1 zd_Su_goDown_74 rfl (lv_at hl 2 rfl) ?_
            refine lv_iload X.1.1 X.1.2.1 zd_Su_goDown_75 (lv_at hl 1 rfl) ?_
            refine rP X h 0 rfl rfl zW_Su zO_Su zN_Su 10 (by decide) zw_58 rfl (rfl) (rfl) (Nat.le_of_ble_eq_true rfl) zd_Su_goDown_77 (fun H locs h => ?_)
            have h : zH D A s [(t0, .inr (2, [.ref ta, .int (nI n), .ref aS, .ref aE, .ref aP, .ref aL, .int (nI nd), .ref aQ, .int (nI M), .int (nI sh), .int (nI (sl r1)), .int (nI L1), .int (nI wt), .int (nI fl), .int fp])), (aS, .inl (cS, 131072, .inl (fun zz => nI (st zz)))), (aE, .inl (cE, 131072, .inl (fun zz => nI (en zz)))), (aP, .inl (cP, 131072, .inl (fun zz => nI (pa zz)))), (aL, .inl (cL, 131072, .inl (fun zz => nI (li zz)))), (aQ, .inl (cQ, 262144, .inl (fun zz => nI (sl zz)))), (ta, .inl (cB, NB, .inl (T)))] H locs := h
            refine lv_aload_n X.1.1 X.1.2.1 zd_Su_goDown_80 rfl (lv_at hl 2 rfl) ?_
            refine lv_dup X.1.1 X.1.2.1 zd_Su_goDown_81 rfl ?_
            refine rG X h 0 rfl rfl zW_Su 11 (by decide) zw_59 rfl zd_Su_goDown_82 ?_
            refine lv_iload X.1.1 X.1.2.1 zd_Su_goDown_85 (lv_at hl 0 rfl) ?_
            refine lv_isub X.1.1 X.1.2.1 zd_Su_goDown_87 ?_
            refine zTop (y := nI (L1 - (en (sl r1) - (st (sl r1))))) (pk_sub (by omega)) ?_
            refine rP X h 0 rfl rfl zW_Su zO_Su zN_Su 11 (by decide) zw_59 rfl (rfl) (rfl) (Nat.le_of_ble_eq_true rfl) zd_Su_goDown_88 (fun H locs h => ?_)
            have h : zH D A s [(t0, .inr (2, [.ref ta, .int (nI n), .ref aS, .ref aE, .ref aP, .ref aL, .int (nI nd), .ref aQ, .int (nI M), .int (nI sh), .int (nI (sl r1)), .int (nI (L1 - (en (sl r1) - (st (sl r1))))), .int (nI wt), .int (nI fl), .int fp])), (aS, .inl (cS, 131072, .inl (fun zz => nI (st zz)))), (aE, .inl (cE, 131072, .inl (fun zz => nI (en zz)))), (aP, .inl (cP, 131072, .inl (fun zz => nI (pa zz)))), (aL, .inl (cL, 131072, .inl (fun zz => nI (li zz)))), (aQ, .inl (cQ, 262144, .inl (fun zz => nI (sl zz)))), (ta, .inl (cB, NB, .inl (T)))] H locs := h
            refine lv_aload_n X.1.1 X.1.2.1 zd_Su_goDown_91 rfl (lv_at hl 2 rfl) ?_
            refine lv_aload_n X.1.1 X.1.2.1 zd_Su_goDown_92 rfl (lv_at hl 2 rfl) ?_
            refine rG X h 0 rfl rfl zW_Su 10 (by decide) zw_58 rfl zd_Su_goDown_93 ?_
            refine lv_aload_n X.1.1 X.1.2.1 zd_Su_goDown_96 rfl (lv_at hl 2 rfl) ?_
            refine rG X h 0 rfl rfl zW_Su 0 (by decide) zw_48 rfl zd_Su_goDown_97 ?_
            refine lv_iload_n X.1.1 X.1.2.1 zd_Su_goDown_100 rfl (lv_at hl 3 rfl) ?_
            refine lv_aload_n X.1.1 X.1.2.1 zd_Su_goDown_101 rfl (lv_at hl 2 rfl) ?_
            refine rG X h 0 rfl rfl zW_Su 11 (by decide) zw_59 rfl zd_Su_goDown_102 ?_
            refine lv_isub X.1.1 X.1.2.1 zd_Su_goDown_105 ?_
            refine zTop (y := nI (pl - (L1 - (en (sl r1) - (st (sl r1)))))) (pk_sub (by omega)) ?_
            refine rLb X h 6 5 rfl rfl (by omega) (by omega) zd_Su_goDown_106 ?_
            refine rCi (wr := []) (wf := fun u => [(t0, .inr (2, [.ref ta, .int (nI n), .ref aS, .ref aE, .ref aP, .ref aL, .int (nI nd), .ref aQ, .int (nI M), .int (nI sh), .int (nI (sl r1)), .int (nI (L1 - (en (sl r1) - (st (sl r1))))), .int (nI wt), .int (nI fl), .int fp])), (aS, .inl (cS, 131072, .inl (fun zz => nI (st zz)))), (aE, .inl (cE, 131072, .inl (fun zz => nI (en zz)))), (aP, .inl (cP, 131072, .inl (fun zz => nI (pa zz)))), (aL, .inl (cL, 131072, .inl (fun zz => nI (li zz)))), (aQ, .inl (cQ, 262144, .inl (fun zz => nI (sl zz)))), (ta, .inl (cB, NB, .inl (T)))]) (rest := []) X h hl.1 (zc_Su_slotOf l D (t0 := t0) (ta := ta) (n := n) (aS := aS) (aE := aE) (aP := aP) (aL := aL) (nd := nd) (aQ := aQ) (M := M) (sh := sh) (an := sl r1) (L := L1 - (en (sl r1) - (st (sl r1)))) (wt := wt) (fl := fl) (fp := fp) (st := st) (cS := cS) (en := en) (cE := cE) (pa := pa) (cP := cP) (li := li) (cL := cL) (sl := sl) (cQ := cQ) (T := T) (cB := cB) (NB := NB) (a := sl r1) (ch := T (pl - (L1 - (en (sl r1) - (st (sl r1)))))) (hO) (by omega) H.size) zw_202 zw_204 zs_4 zw_3 zm_Su_slotOf zq_Su_slotOf ⟨Nat.le_of_ble_eq_true rfl, Nat.le_of_ble_eq_true rfl⟩ ⟨Nat.le_of_ble_eq_true rfl, Nat.le_of_ble_eq_true rfl⟩ [0, 1, 2, 3, 4, 5] rfl [0, 1, 2, 3, 4, 5, 6] [] [0, 1, 2, 3, 4, 5, 6] rfl (by decide) rfl (by decide) (by decide) (fun _ => rfl) (by decide) 0 rfl rfl rfl (Nat.le_of_ble_eq_true rfl) zd_Su_goDown_107 (fun r u H locs hp h => ?_)
            obtain ⟨rfl, q2⟩ := hp
            have h : zH D A s [(t0, .inr (2, [.ref ta, .int (nI n), .ref aS, .ref aE, .ref aP, .ref aL, .int (nI nd), .ref aQ, .int (nI M), .int (nI sh), .int (nI (sl r1)), .int (nI (L1 - (en (sl r1) - (st (sl r1))))), .int (nI wt), .int (nI fl), .int fp])), (aS, .inl (cS, 131072, .inl (fun zz => nI (st zz)))), (aE, .inl (cE, 131072, .inl (fun zz => nI (en zz)))), (aP, .inl (cP, 131072, .inl (fun zz => nI (pa zz)))), (aL, .inl (cL, 131072, .inl (fun zz => nI (li zz)))), (aQ, .inl (cQ, 262144, .inl (fun zz => nI (sl zz)))), (ta, .inl (cB, NB, .inl (T)))] H locs := h
            refine lv_istore_n X.1.1 X.1.2.1 zd_Su_goDown_110 rfl hl (by decide) rfl (fun ls hl => ?_)
            have hl : lv_has ls 6 [(2, .int (nI u)), (5, .int (nI (en (sl r1) - (st (sl r1))))), (4, .int (nI (sl r1))), (0, .ref t0), (1, .int (nI pl)), (3, .int (nI k))] := hl
            refine lv_iinc X.1.1 X.1.2.1 zd_Su_goDown_111 hl (k := 5) rfl (v := nI (k + 1)) (nI_add _ _) (by decide) rfl (fun ls hl => ?_)
            have hl : lv_has ls 6 [(3, .int (nI (k + 1))), (2, .int (nI u)), (5, .int (nI (en (sl r1) - (st (sl r1))))), (4, .int (nI (sl r1))), (0, .ref t0), (1, .int (nI pl))] := hl
            refine lv_goto (tgt := 22) X.1.1 X.1.2.1 zd_Su_goDown_114 rfl ?_
            exact ih (k + 1) (sl r1) (L1 - (en (sl r1) - st (sl r1))) u ls H locs (by omega) (by omega) (by rw [show L1 - (en (sl r1) - st (sl r1)) = L1 - (dp (sl r1) - dp a1) by omega]; exact w6 (by omega)) (q2) (lv_sub hl [4, 5, 1, 0] rfl) h
          · have c3 : L1 < en (sl r1) - (st (sl r1)) := zc_ge_f (by omega) (by omega) c3
            refine lv_goto (tgt := 117) X.1.1 X.1.2.1 zd_Su_goDown_71 rfl ?_
            refine lv_iload_n X.1.1 X.1.2.1 zd_Su_goDown_117 rfl (lv_at hl 4 rfl) ?_
            exact ret _ (a1, L1, r1) H locs ls _ (⟨rfl, hB, hq, fun _ => c3⟩) h zd_Su_goDown_118
  exact loop _ 0 an L u ls H locs (Nat.lt_succ_self _) (by omega) (hA) (q1) (lv_sub hl [2, 3, 1, 0] rfl) h

set_option maxHeartbeats 4000000 in
set_option maxRecDepth 100000 in
theorem zc_Su_addLetter (l : Launch) (D : va_G) {t0 ta n aS aE aP aL nd aQ M sh an L wt fl NB : Nat} {fp : Int32} {st en pa li sl : Nat → Nat} {T : Nat → Int32} {cS cE cP cL cQ cB : ClassId} {pl j : Nat} {ps dp : Nat → Nat} (hG : tG T n NB M sh nd j st en pa sl ps dp) (hL : tr_L T n nd 0 0 ps dp li) (hA : tr_A T nd j pl an L ps dp) (hwt : wt = pl - j) (hj : j ≤ pl) (hpl : pl < n) (sz : Nat) : zMv l D zy_Su_addLetter zb_Su_addLetter 7 ({ frames := 2, cells := 0, slots := 0, locals := 50 } : Room) [.ref t0, .int (nI pl)] [(cS, .int), (cE, .int), (cP, .int), (cL, .int), (cQ, .int), (cB, .byte)] [(t0, .inr (2, [.ref ta, .int (nI n), .ref aS, .ref aE, .ref aP, .ref aL, .int (nI nd), .ref aQ, .int (nI M), .int (nI sh), .int (nI an), .int (nI L), .int (nI wt), .int (nI fl), .int fp])), (aS, .inl (cS, 131072, .inl (fun zz => nI (st zz)))), (aE, .inl (cE, 131072, .inl (fun zz => nI (en zz)))), (aP, .inl (cP, 131072, .inl (fun zz => nI (pa zz)))), (aL, .inl (cL, 131072, .inl (fun zz => nI (li zz)))), (aQ, .inl (cQ, 262144, .inl (fun zz => nI (sl zz)))), (ta, .inl (cB, NB, .inl (T)))] sz (fun (u : Nat × Nat × Nat × Nat × Nat × (Nat → Nat) × (Nat → Nat) × (Nat → Nat) × (Nat → Nat) × (Nat → Nat) × (Nat → Nat) × (Nat → Nat)) => tG T n NB M sh u.1 u.2.2.2.2.1 u.2.2.2.2.2.1 u.2.2.2.2.2.2.1 u.2.2.2.2.2.2.2.1 u.2.2.2.2.2.2.2.2.2.1 u.2.2.2.2.2.2.2.2.2.2.1 u.2.2.2.2.2.2.2.2.2.2.2 ∧ tr_L T n u.1 0 0 u.2.2.2.2.2.2.2.2.2.2.1 u.2.2.2.2.2.2.2.2.2.2.2 u.2.2.2.2.2.2.2.2.1 ∧ tr_A T u.1 u.2.2.2.2.1 (pl + 1) u.2.1 u.2.2.1 u.2.2.2.2.2.2.2.2.2.2.1 u.2.2.2.2.2.2.2.2.2.2.2 ∧ u.2.2.2.1 = pl + 1 - u.2.2.2.2.1 ∧ u.2.2.2.2.1 ≤ pl + 1) (fun u => [(t0, .inr (2, [.ref ta, .int (nI n), .ref aS, .ref aE, .ref aP, .ref aL, .int (nI u.1), .ref aQ, .int (nI M), .int (nI sh), .int (nI u.2.1), .int (nI u.2.2.1), .int (nI u.2.2.2.1), .int (nI fl), .int fp])), (aS, .inl (cS, 131072, .inl (fun zz => nI (u.2.2.2.2.2.1 zz)))), (aE, .inl (cE, 131072, .inl (fun zz => nI (u.2.2.2.2.2.2.1 zz)))), (aP, .inl (cP, 131072, .inl (fun zz => nI (u.2.2.2.2.2.2.2.1 zz)))), (aL, .inl (cL, 131072, .inl (fun zz => nI (u.2.2.2.2.2.2.2.2.1 zz)))), (aQ, .inl (cQ, 262144, .inl (fun zz => nI (u.2.2.2.2.2.2.2.2.2.1 zz)))), (ta, .inl (cB, NB, .inl (T)))]) := by
  refine zEv (by decide) (Nat.le_of_ble_eq_true rfl) (fun p e s m args below meth c ls A Q X hin hl h hsz ret => ?_)
  have hl : lv_has ls 7 [(0, .ref t0), (1, .int (nI pl))] := hl
  generalize hH0 : s.heap = H at h ⊢
  have h : zH D A s [(t0, .inr (2, [.ref ta, .int (nI n), .ref aS, .ref aE, .ref aP, .ref aL, .int (nI nd), .ref aQ, .int (nI M), .int (nI sh), .int (nI an), .int (nI L), .int (nI wt), .int (nI fl), .int fp])), (aS, .inl (cS, 131072, .inl (fun zz => nI (st zz)))), (aE, .inl (cE, 131072, .inl (fun zz => nI (en zz)))), (aP, .inl (cP, 131072, .inl (fun zz => nI (pa zz)))), (aL, .inl (cL, 131072, .inl (fun zz => nI (li zz)))), (aQ, .inl (cQ, 262144, .inl (fun zz => nI (sl zz)))), (ta, .inl (cB, NB, .inl (T)))] H [] := h
  generalize hL0 : ([] : List Loc) = locs at h ⊢
  obtain ⟨k1, k2, k3, k4, -⟩ := hG.1
  have hV0 : tV T n NB M sh nd j pl 0 an L st en pa li sl ps dp := ⟨hG, hL, Or.inl rfl, Or.inl ⟨hj, hA⟩⟩
  have hwt1 : wt + 1 = pl + 1 - j := by omega
  have hwb : wt < 65536 := by omega
  refine lv_iconst (v := nI 0) X.1.1 X.1.2.1 zd_Su_addLetter_0 (by decide) ?_
  refine lv_istore_n X.1.1 X.1.2.1 zd_Su_addLetter_1 rfl hl (by decide) rfl (fun ls hl => ?_)
  have hl : lv_has ls 7 [(2, .int (nI 0)), (0, .ref t0), (1, .int (nI pl))] := hl
  refine lv_aload_n X.1.1 X.1.2.1 zd_Su_addLetter_2 rfl (lv_at hl 1 rfl) ?_
  refine lv_dup X.1.1 X.1.2.1 zd_Su_addLetter_3 rfl ?_
  refine rG X h 0 rfl rfl zW_Su 12 (by decide) zw_60 rfl zd_Su_addLetter_4 ?_
  refine lv_iconst (v := nI 1) X.1.1 X.1.2.1 zd_Su_addLetter_7 (by decide) ?_
  refine lv_iadd X.1.1 X.1.2.1 zd_Su_addLetter_8 ?_
  refine zTop (y := nI (wt + 1)) (nI_add _ _) ?_
  refine rP X h 0 rfl rfl zW_Su zO_Su zN_Su 12 (by decide) zw_60 rfl (rfl) (rfl) (Nat.le_of_ble_eq_true rfl) zd_Su_addLetter_9 (fun H locs h => ?_)
  have h : zH D A s [(t0, .inr (2, [.ref ta, .int (nI n), .ref aS, .ref aE, .ref aP, .ref aL, .int (nI nd), .ref aQ, .int (nI M), .int (nI sh), .int (nI an), .int (nI L), .int (nI (wt + 1)), .int (nI fl), .int fp])), (aS, .inl (cS, 131072, .inl (fun zz => nI (st zz)))), (aE, .inl (cE, 131072, .inl (fun zz => nI (en zz)))), (aP, .inl (cP, 131072, .inl (fun zz => nI (pa zz)))), (aL, .inl (cL, 131072, .inl (fun zz => nI (li zz)))), (aQ, .inl (cQ, 262144, .inl (fun zz => nI (sl zz)))), (ta, .inl (cB, NB, .inl (T)))] H locs := h
  have loop : ∀ (fu : Nat) (wl : Nat) (wt1 : Nat) (j1 : Nat) (nd1 : Nat) (an1 : Nat) (L1 : Nat) (st1 : Nat → Nat) (en1 : Nat → Nat) (pa1 : Nat → Nat) (li1 : Nat → Nat) (sl1 : Nat → Nat) (ps1 : Nat → Nat) (dp1 : Nat → Nat) (ls : Array Slot) (H : Heap) (locs : List Loc), wt1 < fu → wt1 = pl + 1 - j1 → tV T n NB M sh nd1 j1 pl wl an1 L1 st1 en1 pa1 li1 sl1 ps1 dp1 → lv_has ls 7 [(0, .ref t0), (1, .int (nI pl)), (2, .int (nI wl))] → zH D A s [(t0, .inr (2, [.ref ta, .int (nI n), .ref aS, .ref aE, .ref aP, .ref aL, .int (nI nd1), .ref aQ, .int (nI M), .int (nI sh), .int (nI an1), .int (nI L1), .int (nI wt1), .int (nI fl), .int fp])), (aS, .inl (cS, 131072, .inl (fun zz => nI (st1 zz)))), (aE, .inl (cE, 131072, .inl (fun zz => nI (en1 zz)))), (aP, .inl (cP, 131072, .inl (fun zz => nI (pa1 zz)))), (aL, .inl (cL, 131072, .inl (fun zz => nI (li1 zz)))), (aQ, .inl (cQ, 262144, .inl (fun zz => nI (sl1 zz)))), (ta, .inl (cB, NB, .inl (T)))] H locs → W p l e ({ frames := 2, cells := 0, slots := 0, locals := 50 } : Room) s m args below meth c H locs 0 0 Q (F0 m 12 ls []) := by
    intro fu
    induction fu with
    | zero => intro wl wt1 j1 nd1 an1 L1 st1 en1 pa1 li1 sl1 ps1 dp1 ls H locs hfu; exact absurd hfu (Nat.not_lt_zero _)
    | succ fu ih =>
      intro wl wt1 j1 nd1 an1 L1 st1 en1 pa1 li1 sl1 ps1 dp1 ls H locs hfu hw1 hV hl h
      obtain ⟨hG, hL, hB, hA⟩ := hV
      have hj1 := hG.2.2.2.1
      refine lv_aload_n X.1.1 X.1.2.1 zd_Su_addLetter_12 rfl (lv_at hl 0 rfl) ?_
      refine rG X h 0 rfl rfl zW_Su 12 (by decide) zw_60 rfl zd_Su_addLetter_13 ?_
      refine lv_if_le (tgt := 165) X.1.1 X.1.2.1 zd_Su_addLetter_16 rfl (fun c1 => ?_) (fun c1 => ?_)
      · have c1 : wt1 ≤ 0 := zc_le0_t (by omega) (by omega) c1
        rcases hA with ⟨z1, z2⟩ | ⟨z1, z2, z3⟩
        · exact absurd c1 (by omega)
        · rw [z2] at hL
          exact ret (nd1, an1, L1, wt1, j1, st1, en1, pa1, li1, sl1, ps1, dp1) H locs ls _ (⟨hG, hL, z3, by show wt1 = pl + 1 - j1; omega, by show j1 ≤ pl + 1; omega⟩) h zd_Su_addLetter_165
      · have c1 : 0 < wt1 := zc_le0_f (by omega) (by omega) c1
        have hjl : j1 ≤ pl := by rcases hA with z | z <;> omega
        have hA := (hA.resolve_right (fun z => by omega)).2
        have hnd := tG_nd hG
        have hrm := tG_room hG (by omega)
        have hwl : wl < nd1 := by rcases hB with z | z <;> omega
        refine lv_aload_n X.1.1 X.1.2.1 zd_Su_addLetter_19 rfl (lv_at hl 0 rfl) ?_
        refine lv_iload_n X.1.1 X.1.2.1 zd_Su_addLetter_20 rfl (lv_at hl 1 rfl) ?_
        refine rCi (wr := []) (wf := fun u => [(t0, .inr (2, [.ref ta, .int (nI n), .ref aS, .ref aE, .ref aP, .ref aL, .int (nI nd1), .ref aQ, .int (nI M), .int (nI sh), .int (nI u.1), .int (nI u.2.1), .int (nI wt1), .int (nI fl), .int fp])), (aS, .inl (cS, 131072, .inl (fun zz => nI (st1 zz)))), (aE, .inl (cE, 131072, .inl (fun zz => nI (en1 zz)))), (aP, .inl (cP, 131072, .inl (fun zz => nI (pa1 zz)))), (aL, .inl (cL, 131072, .inl (fun zz => nI (li1 zz)))), (aQ, .inl (cQ, 262144, .inl (fun zz => nI (sl1 zz)))), (ta, .inl (cB, NB, .inl (T)))]) (rest := []) X h hl.1 (zc_Su_goDown l D (t0 := t0) (ta := ta) (n := n) (aS := aS) (aE := aE) (aP := aP) (aL := aL) (nd := nd1) (aQ := aQ) (M := M) (sh := sh) (an := an1) (L := L1) (wt := wt1) (fl := fl) (fp := fp) (st := st1) (cS := cS) (en := en1) (cE := cE) (pa := pa1) (cP := cP) (li := li1) (cL := cL) (sl := sl1) (cQ := cQ) (T := T) (cB := cB) (NB := NB) (pl := pl) (j := j1) (ps := ps1) (dp := dp1) (hG) (hA) (hpl) H.size) zw_198 zw_200 zs_3 zw_3 zm_Su_goDown zq_Su_goDown ⟨Nat.le_of_ble_eq_true rfl, Nat.le_of_ble_eq_true rfl⟩ ⟨Nat.le_of_ble_eq_true rfl, Nat.le_of_ble_eq_true rfl⟩ [0, 1, 2, 3, 4, 5] rfl [0, 1, 2, 3, 4, 5, 6] [] [0, 1, 2, 3, 4, 5, 6] rfl (by decide) rfl (by decide) (by decide) (fun _ => rfl) (by decide) 0 rfl rfl rfl (Nat.le_of_ble_eq_true rfl) zd_Su_addLetter_21 (fun r u H locs hp h => ?_)
        obtain ⟨rfl, q1⟩ := hp
        have h : zH D A s [(t0, .inr (2, [.ref ta, .int (nI n), .ref aS, .ref aE, .ref aP, .ref aL, .int (nI nd1), .ref aQ, .int (nI M), .int (nI sh), .int (nI u.1), .int (nI u.2.1), .int (nI wt1), .int (nI fl), .int fp])), (aS, .inl (cS, 131072, .inl (fun zz => nI (st1 zz)))), (aE, .inl (cE, 131072, .inl (fun zz => nI (en1 zz)))), (aP, .inl (cP, 131072, .inl (fun zz => nI (pa1 zz)))), (aL, .inl (cL, 131072, .inl (fun zz => nI (li1 zz)))), (aQ, .inl (cQ, 262144, .inl (fun zz => nI (sl1 zz)))), (ta, .inl (cB, NB, .inl (T)))] H locs := h
        obtain ⟨a2, L2, r2⟩ := u
        have h : zH D A s [(t0, .inr (2, [.ref ta, .int (nI n), .ref aS, .ref aE, .ref aP, .ref aL, .int (nI nd1), .ref aQ, .int (nI M), .int (nI sh), .int (nI a2), .int (nI L2), .int (nI wt1), .int (nI fl), .int fp])), (aS, .inl (cS, 131072, .inl (fun zz => nI (st1 zz)))), (aE, .inl (cE, 131072, .inl (fun zz => nI (en1 zz)))), (aP, .inl (cP, 131072, .inl (fun zz => nI (pa1 zz)))), (aL, .inl (cL, 131072, .inl (fun zz => nI (li1 zz)))), (aQ, .inl (cQ, 262144, .inl (fun zz => nI (sl1 zz)))), (ta, .inl (cB, NB, .inl (T)))] H locs := h
        refine zTop (y := nI r2) rfl ?_
        have q1 : tr_A T nd1 j1 pl a2 L2 ps1 dp1 ∧ hs_r M sl1 (hok pa1 st1 T a2 (T (pl - L2))) (hN sh a2 (T (pl - L2))) r2 ∧ (0 < L2 → L2 < en1 (sl1 r2) - st1 (sl1 r2)) := q1
        obtain ⟨hA2, hq, hlab⟩ := q1
        have hr2 := hs_r_lt hq
        have hjA := hA2.2.1
        have ha2 := hA2.1
        have hsr := hG.2.1.2.1.1 r2 hr2
        refine lv_istore_n X.1.1 X.1.2.1 zd_Su_addLetter_24 rfl hl (by decide) rfl (fun ls hl => ?_)
        have hl : lv_has ls 7 [(3, .int (nI r2)), (0, .ref t0), (1, .int (nI pl)), (2, .int (nI wl))] := hl
        refine lv_aload_n X.1.1 X.1.2.1 zd_Su_addLetter_25 rfl (lv_at hl 1 rfl) ?_
        refine rG X h 0 rfl rfl zW_Su 7 (by decide) zw_55 rfl zd_Su_addLetter_26 ?_
        refine lv_iload_n X.1.1 X.1.2.1 zd_Su_addLetter_29 rfl (lv_at hl 0 rfl) ?_
        refine rLn X h 5 4 rfl rfl (by omega) (by omega) zd_Su_addLetter_30 ?_
        refine lv_istore X.1.1 X.1.2.1 zd_Su_addLetter_31 hl (by decide) rfl (fun ls hl => ?_)
        have hl : lv_has ls 7 [(4, .int (nI (sl1 r2))), (3, .int (nI r2)), (0, .ref t0), (1, .int (nI pl)), (2, .int (nI wl))] := hl
        refine lv_iload X.1.1 X.1.2.1 zd_Su_addLetter_33 (lv_at hl 0 rfl) ?_
        rcases tG_child hG hA2 hpl hq hlab with ⟨z1, z2, z3⟩ | ⟨z1, z2, z3, z4, z5, z6, z7, z8, z9⟩
        · subst z2
          have h : zH D A s [(t0, .inr (2, [.ref ta, .int (nI n), .ref aS, .ref aE, .ref aP, .ref aL, .int (nI nd1), .ref aQ, .int (nI M), .int (nI sh), .int (nI a2), .int (nI 0), .int (nI wt1), .int (nI fl), .int fp])), (aS, .inl (cS, 131072, .inl (fun zz => nI (st1 zz)))), (aE, .inl (cE, 131072, .inl (fun zz => nI (en1 zz)))), (aP, .inl (cP, 131072, .inl (fun zz => nI (pa1 zz)))), (aL, .inl (cL, 131072, .inl (fun zz => nI (li1 zz)))), (aQ, .inl (cQ, 262144, .inl (fun zz => nI (sl1 zz)))), (ta, .inl (cB, NB, .inl (T)))] H locs := h
          refine lv_if_eq (tgt := 68) X.1.1 X.1.2.1 zd_Su_addLetter_35 rfl (fun e1 => ?_) (fun e1 => ?_)
          · have e1 : sl1 r2 = 0 := zc_eq0_t (by omega) (by omega) e1
            refine lv_iconst (v := nI 0) X.1.1 X.1.2.1 zd_Su_addLetter_68 (by decide) ?_
            refine lv_istore X.1.1 X.1.2.1 zd_Su_addLetter_69 hl (by decide) rfl (fun ls hl => ?_)
            have hl : lv_has ls 7 [(5, .int (nI 0)), (4, .int (nI (sl1 r2))), (3, .int (nI r2)), (0, .ref t0), (1, .int (nI pl)), (2, .int (nI wl))] := hl
            refine lv_iload X.1.1 X.1.2.1 zd_Su_addLetter_71 (lv_at hl 0 rfl) ?_
            refine lv_if_ne (tgt := 81) X.1.1 X.1.2.1 zd_Su_addLetter_73 rfl (fun e2 => ?_) (fun e2 => ?_)
            · have e2 : 0 ≠ 0 := zc_ne0_t (by omega) (by omega) e2
              exact absurd rfl e2
            · have e2 : 0 = 0 := zc_ne0_f (by omega) (by omega) e2
              refine lv_iload X.1.1 X.1.2.1 zd_Su_addLetter_76 (lv_at hl 1 rfl) ?_
              refine lv_if_ne (tgt := 88) X.1.1 X.1.2.1 zd_Su_addLetter_78 rfl (fun e3 => ?_) (fun e3 => ?_)
              · have e3 : sl1 r2 ≠ 0 := zc_ne0_t (by omega) (by omega) e3
                exact absurd z1 e3
              · have e3 : sl1 r2 = 0 := zc_ne0_f (by omega) (by omega) e3
                have hlk := tV_lk hL hB ha2 (by omega) hA2.2.2.1
                refine lv_aload_n X.1.1 X.1.2.1 zd_Su_addLetter_81 rfl (lv_at hl 3 rfl) ?_
                refine rG X h 0 rfl rfl zW_Su 10 (by decide) zw_58 rfl zd_Su_addLetter_82 ?_
                refine lv_goto (tgt := 95) X.1.1 X.1.2.1 zd_Su_addLetter_85 rfl ?_
                refine lv_istore X.1.1 X.1.2.1 zd_Su_addLetter_95 hl (by decide) rfl (fun ls hl => ?_)
                have hl : lv_has ls 7 [(6, .int (nI a2)), (5, .int (nI 0)), (4, .int (nI (sl1 r2))), (3, .int (nI r2)), (0, .ref t0), (1, .int (nI pl)), (2, .int (nI wl))] := hl
                refine lv_iload_n X.1.1 X.1.2.1 zd_Su_addLetter_97 rfl (lv_at hl 6 rfl) ?_
                refine lv_if_eq (tgt := 109) X.1.1 X.1.2.1 zd_Su_addLetter_98 rfl (fun e4 => ?_) (fun e4 => ?_)
                · have e4 : wl = 0 := zc_eq0_t (by omega) (by omega) e4
                  refine lv_iload X.1.1 X.1.2.1 zd_Su_addLetter_109 (lv_at hl 1 rfl) ?_
                  refine lv_if_eq (tgt := 125) X.1.1 X.1.2.1 zd_Su_addLetter_111 rfl (fun e5 => ?_) (fun e5 => ?_)
                  · have e5 : 0 = 0 := zc_eq0_t (by omega) (by omega) e5
                    refine lv_iload X.1.1 X.1.2.1 zd_Su_addLetter_125 (lv_at hl 0 rfl) ?_
                    refine lv_aload_n X.1.1 X.1.2.1 zd_Su_addLetter_127 rfl (lv_at hl 4 rfl) ?_
                    refine rG X h 0 rfl rfl zW_Su 10 (by decide) zw_58 rfl zd_Su_addLetter_128 ?_
                    refine lv_icmp_ne (tgt := 138) X.1.1 X.1.2.1 zd_Su_addLetter_131 rfl (fun e6 => ?_) (fun e6 => ?_)
                    · have e6 : a2 ≠ a2 := zc_ne_t (by omega) (by omega) e6
                      exact absurd rfl e6
                    · have e6 : a2 = a2 := zc_ne_f (by omega) (by omega) e6
                      refine lv_iconst (v := nI 0) X.1.1 X.1.2.1 zd_Su_addLetter_134 (by decide) ?_
                      refine lv_goto (tgt := 140) X.1.1 X.1.2.1 zd_Su_addLetter_135 rfl ?_
                      refine lv_istore_n X.1.1 X.1.2.1 zd_Su_addLetter_140 rfl hl (by decide) rfl (fun ls hl => ?_)
                      have hl : lv_has ls 7 [(2, .int (nI 0)), (6, .int (nI a2)), (5, .int (nI 0)), (4, .int (nI (sl1 r2))), (3, .int (nI r2)), (0, .ref t0), (1, .int (nI pl))] := hl
                      refine lv_aload_n X.1.1 X.1.2.1 zd_Su_addLetter_141 rfl (lv_at hl 5 rfl) ?_
                      refine lv_iload X.1.1 X.1.2.1 zd_Su_addLetter_142 (lv_at hl 1 rfl) ?_
                      refine lv_iload_n X.1.1 X.1.2.1 zd_Su_addLetter_144 rfl (lv_at hl 6 rfl) ?_
                      refine rCv (wr := []) (wf := fun u3 => [(t0, .inr (2, [.ref ta, .int (nI n), .ref aS, .ref aE, .ref aP, .ref aL, .int (nI (nd1 + 1)), .ref aQ, .int (nI M), .int (nI sh), .int (nI a2), .int (nI 0), .int (nI wt1), .int (nI fl), .int fp])), (aS, .inl (cS, 131072, .inl (fun zz => nI ((va_up st1 nd1 pl) zz)))), (aE, .inl (cE, 131072, .inl (fun zz => nI ((va_up en1 nd1 n) zz)))), (aP, .inl (cP, 131072, .inl (fun zz => nI ((va_up pa1 nd1 a2) zz)))), (aL, .inl (cL, 131072, .inl (fun zz => nI ((va_up li1 nd1 0) zz)))), (aQ, .inl (cQ, 262144, .inl (fun zz => nI ((va_up sl1 u3 nd1) zz)))), (ta, .inl (cB, NB, .inl (T)))]) (rest := []) X h hl.1 (zc_Su_addLeaf l D (t0 := t0) (ta := ta) (n := n) (aS := aS) (aE := aE) (aP := aP) (aL := aL) (nd := nd1) (aQ := aQ) (M := M) (sh := sh) (an := a2) (L := 0) (wt := wt1) (fl := fl) (fp := fp) (st := st1) (cS := cS) (en := en1) (cE := cE) (pa := pa1) (cP := cP) (li := li1) (cL := cL) (sl := sl1) (cQ := cQ) (T := T) (cB := cB) (NB := NB) (b := a2) (x := pl) (tG_O hG) (by omega) (by omega) (by omega) H.size) zw_215 zw_217 zs_7 zw_3 zm_Su_addLeaf zq_Su_addLeaf ⟨Nat.le_of_ble_eq_true rfl, Nat.le_of_ble_eq_true rfl⟩ ⟨Nat.le_of_ble_eq_true rfl, Nat.le_of_ble_eq_true rfl⟩ [0, 1, 2, 3, 4, 5] rfl [0, 1, 2, 3, 4, 5, 6] [] [0, 1, 2, 3, 4, 5, 6] rfl (by decide) rfl (by decide) (by decide) (fun _ => rfl) (by decide) 0 rfl rfl rfl (Nat.le_of_ble_eq_true rfl) zd_Su_addLetter_145 (fun u3 H locs hp h => ?_)
                      have q3 : hs_r M sl1 (hok pa1 st1 T a2 (T pl)) (hN sh a2 (T pl)) u3 := hp
                      have h : zH D A s [(t0, .inr (2, [.ref ta, .int (nI n), .ref aS, .ref aE, .ref aP, .ref aL, .int (nI (nd1 + 1)), .ref aQ, .int (nI M), .int (nI sh), .int (nI a2), .int (nI 0), .int (nI wt1), .int (nI fl), .int fp])), (aS, .inl (cS, 131072, .inl (fun zz => nI ((va_up st1 nd1 pl) zz)))), (aE, .inl (cE, 131072, .inl (fun zz => nI ((va_up en1 nd1 n) zz)))), (aP, .inl (cP, 131072, .inl (fun zz => nI ((va_up pa1 nd1 a2) zz)))), (aL, .inl (cL, 131072, .inl (fun zz => nI ((va_up li1 nd1 0) zz)))), (aQ, .inl (cQ, 262144, .inl (fun zz => nI ((va_up sl1 u3 nd1) zz)))), (ta, .inl (cB, NB, .inl (T)))] H locs := h
                      refine lv_aload_n X.1.1 X.1.2.1 zd_Su_addLetter_148 rfl (lv_at hl 5 rfl) ?_
                      refine rCv (wr := []) (wf := fun _ => [(t0, .inr (2, [.ref ta, .int (nI n), .ref aS, .ref aE, .ref aP, .ref aL, .int (nI (nd1 + 1)), .ref aQ, .int (nI M), .int (nI sh), .int (nI (if a2 = 0 then 0 else (va_up li1 nd1 0) a2)), .int (nI (if a2 = 0 then 0 - 1 else 0)), .int (nI wt1), .int (nI fl), .int fp])), (aS, .inl (cS, 131072, .inl (fun zz => nI ((va_up st1 nd1 pl) zz)))), (aE, .inl (cE, 131072, .inl (fun zz => nI ((va_up en1 nd1 n) zz)))), (aP, .inl (cP, 131072, .inl (fun zz => nI ((va_up pa1 nd1 a2) zz)))), (aL, .inl (cL, 131072, .inl (fun zz => nI ((va_up li1 nd1 0) zz)))), (aQ, .inl (cQ, 262144, .inl (fun zz => nI ((va_up sl1 u3 nd1) zz)))), (ta, .inl (cB, NB, .inl (T)))]) (rest := []) X h hl.1 (zc_Su_goToNextSuffix l D (t0 := t0) (ta := ta) (n := n) (aS := aS) (aE := aE) (aP := aP) (aL := aL) (nd := nd1 + 1) (aQ := aQ) (M := M) (sh := sh) (an := a2) (L := 0) (wt := wt1) (fl := fl) (fp := fp) (st := va_up st1 nd1 pl) (cS := cS) (en := va_up en1 nd1 n) (cE := cE) (pa := va_up pa1 nd1 a2) (cP := cP) (li := va_up li1 nd1 0) (cL := cL) (sl := va_up sl1 u3 nd1) (cQ := cQ) (T := T) (cB := cB) (NB := NB) (by omega) (by omega) H.size) zw_219 zw_221 zs_8 zw_3 zm_Su_goToNextSuffix zq_Su_goToNextSuffix ⟨Nat.le_of_ble_eq_true rfl, Nat.le_of_ble_eq_true rfl⟩ ⟨Nat.le_of_ble_eq_true rfl, Nat.le_of_ble_eq_true rfl⟩ [0, 1, 2, 3, 4, 5] rfl [0, 1, 2, 3, 4, 5, 6] [] [0, 1, 2, 3, 4, 5, 6] rfl (by decide) rfl (by decide) (by decide) (fun _ => rfl) (by decide) 0 rfl rfl rfl (Nat.le_of_ble_eq_true rfl) zd_Su_addLetter_149 (fun _ H locs hp h => ?_)
                      have h : zH D A s [(t0, .inr (2, [.ref ta, .int (nI n), .ref aS, .ref aE, .ref aP, .ref aL, .int (nI (nd1 + 1)), .ref aQ, .int (nI M), .int (nI sh), .int (nI (if a2 = 0 then 0 else (va_up li1 nd1 0) a2)), .int (nI (if a2 = 0 then 0 - 1 else 0)), .int (nI wt1), .int (nI fl), .int fp])), (aS, .inl (cS, 131072, .inl (fun zz => nI ((va_up st1 nd1 pl) zz)))), (aE, .inl (cE, 131072, .inl (fun zz => nI ((va_up en1 nd1 n) zz)))), (aP, .inl (cP, 131072, .inl (fun zz => nI ((va_up pa1 nd1 a2) zz)))), (aL, .inl (cL, 131072, .inl (fun zz => nI ((va_up li1 nd1 0) zz)))), (aQ, .inl (cQ, 262144, .inl (fun zz => nI ((va_up sl1 u3 nd1) zz)))), (ta, .inl (cB, NB, .inl (T)))] H locs := h
                      refine lv_aload_n X.1.1 X.1.2.1 zd_Su_addLetter_152 rfl (lv_at hl 5 rfl) ?_
                      refine lv_dup X.1.1 X.1.2.1 zd_Su_addLetter_153 rfl ?_
                      refine rG X h 0 rfl rfl zW_Su 12 (by decide) zw_60 rfl zd_Su_addLetter_154 ?_
                      refine lv_iconst (v := nI 1) X.1.1 X.1.2.1 zd_Su_addLetter_157 (by decide) ?_
                      refine lv_isub X.1.1 X.1.2.1 zd_Su_addLetter_158 ?_
                      refine zTop (y := nI (wt1 - 1)) (pk_sub (by omega)) ?_
                      refine rP X h 0 rfl rfl zW_Su zO_Su zN_Su 12 (by decide) zw_60 rfl (rfl) (rfl) (Nat.le_of_ble_eq_true rfl) zd_Su_addLetter_159 (fun H locs h => ?_)
                      have h : zH D A s [(t0, .inr (2, [.ref ta, .int (nI n), .ref aS, .ref aE, .ref aP, .ref aL, .int (nI (nd1 + 1)), .ref aQ, .int (nI M), .int (nI sh), .int (nI (if a2 = 0 then 0 else (va_up li1 nd1 0) a2)), .int (nI (if a2 = 0 then 0 - 1 else 0)), .int (nI (wt1 - 1)), .int (nI fl), .int fp])), (aS, .inl (cS, 131072, .inl (fun zz => nI ((va_up st1 nd1 pl) zz)))), (aE, .inl (cE, 131072, .inl (fun zz => nI ((va_up en1 nd1 n) zz)))), (aP, .inl (cP, 131072, .inl (fun zz => nI ((va_up pa1 nd1 a2) zz)))), (aL, .inl (cL, 131072, .inl (fun zz => nI ((va_up li1 nd1 0) zz)))), (aQ, .inl (cQ, 262144, .inl (fun zz => nI ((va_up sl1 u3 nd1) zz)))), (ta, .inl (cB, NB, .inl (T)))] H locs := h
                      refine lv_goto (tgt := 12) X.1.1 X.1.2.1 zd_Su_addLetter_162 rfl ?_
                      exact ih 0 (wt1 - 1) (j1 + 1) (nd1 + 1) (if a2 = 0 then 0 else (va_up li1 nd1 0) a2) (if a2 = 0 then 0 - 1 else 0) (va_up st1 nd1 pl) (va_up en1 nd1 n) (va_up pa1 nd1 a2) (va_up li1 nd1 0) (va_up sl1 u3 nd1) (va_up ps1 nd1 j1) (va_up dp1 nd1 (n - j1)) ls H locs (by omega) (by omega) (tV_none hG hA2 hpl z3 (hlk.1 e4) q3) (lv_sub hl [5, 6, 0] rfl) h
                  · have e5 : 0 ≠ 0 := zc_eq0_f (by omega) (by omega) e5
                    exact absurd rfl e5
                · have e4 : wl ≠ 0 := zc_eq0_f (by omega) (by omega) e4
                  refine lv_aload_n X.1.1 X.1.2.1 zd_Su_addLetter_101 rfl (lv_at hl 4 rfl) ?_
                  refine rG X h 0 rfl rfl zW_Su 5 (by decide) zw_53 rfl zd_Su_addLetter_102 ?_
                  refine lv_iload_n X.1.1 X.1.2.1 zd_Su_addLetter_105 rfl (lv_at hl 6 rfl) ?_
                  refine lv_iload X.1.1 X.1.2.1 zd_Su_addLetter_106 (lv_at hl 0 rfl) ?_
                  refine rSn X h 4 3 rfl rfl (by omega) (by omega) zd_Su_addLetter_108 (fun H locs h => ?_)
                  have h : zH D A s [(t0, .inr (2, [.ref ta, .int (nI n), .ref aS, .ref aE, .ref aP, .ref aL, .int (nI nd1), .ref aQ, .int (nI M), .int (nI sh), .int (nI a2), .int (nI 0), .int (nI wt1), .int (nI fl), .int fp])), (aS, .inl (cS, 131072, .inl (fun zz => nI (st1 zz)))), (aE, .inl (cE, 131072, .inl (fun zz => nI (en1 zz)))), (aP, .inl (cP, 131072, .inl (fun zz => nI (pa1 zz)))), (aL, .inl (cL, 131072, .inl (fun zz => nI ((va_up li1 wl a2) zz)))), (aQ, .inl (cQ, 262144, .inl (fun zz => nI (sl1 zz)))), (ta, .inl (cB, NB, .inl (T)))] H locs := h
                  refine lv_iload X.1.1 X.1.2.1 zd_Su_addLetter_109 (lv_at hl 1 rfl) ?_
                  refine lv_if_eq (tgt := 125) X.1.1 X.1.2.1 zd_Su_addLetter_111 rfl (fun e5 => ?_) (fun e5 => ?_)
                  · have e5 : 0 = 0 := zc_eq0_t (by omega) (by omega) e5
                    refine lv_iload X.1.1 X.1.2.1 zd_Su_addLetter_125 (lv_at hl 0 rfl) ?_
                    refine lv_aload_n X.1.1 X.1.2.1 zd_Su_addLetter_127 rfl (lv_at hl 4 rfl) ?_
                    refine rG X h 0 rfl rfl zW_Su 10 (by decide) zw_58 rfl zd_Su_addLetter_128 ?_
                    refine lv_icmp_ne (tgt := 138) X.1.1 X.1.2.1 zd_Su_addLetter_131 rfl (fun e6 => ?_) (fun e6 => ?_)
                    · have e6 : a2 ≠ a2 := zc_ne_t (by omega) (by omega) e6
                      exact absurd rfl e6
                    · have e6 : a2 = a2 := zc_ne_f (by omega) (by omega) e6
                      refine lv_iconst (v := nI 0) X.1.1 X.1.2.1 zd_Su_addLetter_134 (by decide) ?_
                      refine lv_goto (tgt := 140) X.1.1 X.1.2.1 zd_Su_addLetter_135 rfl ?_
                      refine lv_istore_n X.1.1 X.1.2.1 zd_Su_addLetter_140 rfl hl (by decide) rfl (fun ls hl => ?_)
                      have hl : lv_has ls 7 [(2, .int (nI 0)), (6, .int (nI a2)), (5, .int (nI 0)), (4, .int (nI (sl1 r2))), (3, .int (nI r2)), (0, .ref t0), (1, .int (nI pl))] := hl
                      refine lv_aload_n X.1.1 X.1.2.1 zd_Su_addLetter_141 rfl (lv_at hl 5 rfl) ?_
                      refine lv_iload X.1.1 X.1.2.1 zd_Su_addLetter_142 (lv_at hl 1 rfl) ?_
                      refine lv_iload_n X.1.1 X.1.2.1 zd_Su_addLetter_144 rfl (lv_at hl 6 rfl) ?_
                      refine rCv (wr := []) (wf := fun u3 => [(t0, .inr (2, [.ref ta, .int (nI n), .ref aS, .ref aE, .ref aP, .ref aL, .int (nI (nd1 + 1)), .ref aQ, .int (nI M), .int (nI sh), .int (nI a2), .int (nI 0), .int (nI wt1), .int (nI fl), .int fp])), (aS, .inl (cS, 131072, .inl (fun zz => nI ((va_up st1 nd1 pl) zz)))), (aE, .inl (cE, 131072, .inl (fun zz => nI ((va_up en1 nd1 n) zz)))), (aP, .inl (cP, 131072, .inl (fun zz => nI ((va_up pa1 nd1 a2) zz)))), (aL, .inl (cL, 131072, .inl (fun zz => nI ((va_up (va_up li1 wl a2) nd1 0) zz)))), (aQ, .inl (cQ, 262144, .inl (fun zz => nI ((va_up sl1 u3 nd1) zz)))), (ta, .inl (cB, NB, .inl (T)))]) (rest := []) X h hl.1 (zc_Su_addLeaf l D (t0 := t0) (ta := ta) (n := n) (aS := aS) (aE := aE) (aP := aP) (aL := aL) (nd := nd1) (aQ := aQ) (M := M) (sh := sh) (an := a2) (L := 0) (wt := wt1) (fl := fl) (fp := fp) (st := st1) (cS := cS) (en := en1) (cE := cE) (pa := pa1) (cP := cP) (li := va_up li1 wl a2) (cL := cL) (sl := sl1) (cQ := cQ) (T := T) (cB := cB) (NB := NB) (b := a2) (x := pl) (tG_O hG) (by omega) (by omega) (by omega) H.size) zw_215 zw_217 zs_7 zw_3 zm_Su_addLeaf zq_Su_addLeaf ⟨Nat.le_of_ble_eq_true rfl, Nat.le_of_ble_eq_true rfl⟩ ⟨Nat.le_of_ble_eq_true rfl, Nat.le_of_ble_eq_true rfl⟩ [0, 1, 2, 3, 4, 5] rfl [0, 1, 2, 3, 4, 5, 6] [] [0, 1, 2, 3, 4, 5, 6] rfl (by decide) rfl (by decide) (by decide) (fun _ => rfl) (by decide) 0 rfl rfl rfl (Nat.le_of_ble_eq_true rfl) zd_Su_addLetter_145 (fun u3 H locs hp h => ?_)
                      have q3 : hs_r M sl1 (hok pa1 st1 T a2 (T pl)) (hN sh a2 (T pl)) u3 := hp
                      have h : zH D A s [(t0, .inr (2, [.ref ta, .int (nI n), .ref aS, .ref aE, .ref aP, .ref aL, .int (nI (nd1 + 1)), .ref aQ, .int (nI M), .int (nI sh), .int (nI a2), .int (nI 0), .int (nI wt1), .int (nI fl), .int fp])), (aS, .inl (cS, 131072, .inl (fun zz => nI ((va_up st1 nd1 pl) zz)))), (aE, .inl (cE, 131072, .inl (fun zz => nI ((va_up en1 nd1 n) zz)))), (aP, .inl (cP, 131072, .inl (fun zz => nI ((va_up pa1 nd1 a2) zz)))), (aL, .inl (cL, 131072, .inl (fun zz => nI ((va_up (va_up li1 wl a2) nd1 0) zz)))), (aQ, .inl (cQ, 262144, .inl (fun zz => nI ((va_up sl1 u3 nd1) zz)))), (ta, .inl (cB, NB, .inl (T)))] H locs := h
                      refine lv_aload_n X.1.1 X.1.2.1 zd_Su_addLetter_148 rfl (lv_at hl 5 rfl) ?_
                      refine rCv (wr := []) (wf := fun _ => [(t0, .inr (2, [.ref ta, .int (nI n), .ref aS, .ref aE, .ref aP, .ref aL, .int (nI (nd1 + 1)), .ref aQ, .int (nI M), .int (nI sh), .int (nI (if a2 = 0 then 0 else (va_up (va_up li1 wl a2) nd1 0) a2)), .int (nI (if a2 = 0 then 0 - 1 else 0)), .int (nI wt1), .int (nI fl), .int fp])), (aS, .inl (cS, 131072, .inl (fun zz => nI ((va_up st1 nd1 pl) zz)))), (aE, .inl (cE, 131072, .inl (fun zz => nI ((va_up en1 nd1 n) zz)))), (aP, .inl (cP, 131072, .inl (fun zz => nI ((va_up pa1 nd1 a2) zz)))), (aL, .inl (cL, 131072, .inl (fun zz => nI ((va_up (va_up li1 wl a2) nd1 0) zz)))), (aQ, .inl (cQ, 262144, .inl (fun zz => nI ((va_up sl1 u3 nd1) zz)))), (ta, .inl (cB, NB, .inl (T)))]) (rest := []) X h hl.1 (zc_Su_goToNextSuffix l D (t0 := t0) (ta := ta) (n := n) (aS := aS) (aE := aE) (aP := aP) (aL := aL) (nd := nd1 + 1) (aQ := aQ) (M := M) (sh := sh) (an := a2) (L := 0) (wt := wt1) (fl := fl) (fp := fp) (st := va_up st1 nd1 pl) (cS := cS) (en := va_up en1 nd1 n) (cE := cE) (pa := va_up pa1 nd1 a2) (cP := cP) (li := va_up (va_up li1 wl a2) nd1 0) (cL := cL) (sl := va_up sl1 u3 nd1) (cQ := cQ) (T := T) (cB := cB) (NB := NB) (by omega) (by omega) H.size) zw_219 zw_221 zs_8 zw_3 zm_Su_goToNextSuffix zq_Su_goToNextSuffix ⟨Nat.le_of_ble_eq_true rfl, Nat.le_of_ble_eq_true rfl⟩ ⟨Nat.le_of_ble_eq_true rfl, Nat.le_of_ble_eq_true rfl⟩ [0, 1, 2, 3, 4, 5] rfl [0, 1, 2, 3, 4, 5, 6] [] [0, 1, 2, 3, 4, 5, 6] rfl (by decide) rfl (by decide) (by decide) (fun _ => rfl) (by decide) 0 rfl rfl rfl (Nat.le_of_ble_eq_true rfl) zd_Su_addLetter_149 (fun _ H locs hp h => ?_)
                      have h : zH D A s [(t0, .inr (2, [.ref ta, .int (nI n), .ref aS, .ref aE, .ref aP, .ref aL, .int (nI (nd1 + 1)), .ref aQ, .int (nI M), .int (nI sh), .int (nI (if a2 = 0 then 0 else (va_up (va_up li1 wl a2) nd1 0) a2)), .int (nI (if a2 = 0 then 0 - 1 else 0)), .int (nI wt1), .int (nI fl), .int fp])), (aS, .inl (cS, 131072, .inl (fun zz => nI ((va_up st1 nd1 pl) zz)))), (aE, .inl (cE, 131072, .inl (fun zz => nI ((va_up en1 nd1 n) zz)))), (aP, .inl (cP, 131072, .inl (fun zz => nI ((va_up pa1 nd1 a2) zz)))), (aL, .inl (cL, 131072, .inl (fun zz => nI ((va_up (va_up li1 wl a2) nd1 0) zz)))), (aQ, .inl (cQ, 262144, .inl (fun zz => nI ((va_up sl1 u3 nd1) zz)))), (ta, .inl (cB, NB, .inl (T)))] H locs := h
                      refine lv_aload_n X.1.1 X.1.2.1 zd_Su_addLetter_152 rfl (lv_at hl 5 rfl) ?_
                      refine lv_dup X.1.1 X.1.2.1 zd_Su_addLetter_153 rfl ?_
                      refine rG X h 0 rfl rfl zW_Su 12 (by decide) zw_60 rfl zd_Su_addLetter_154 ?_
                      refine lv_iconst (v := nI 1) X.1.1 X.1.2.1 zd_Su_addLetter_157 (by decide) ?_
                      refine lv_isub X.1.1 X.1.2.1 zd_Su_addLetter_158 ?_
                      refine zTop (y := nI (wt1 - 1)) (pk_sub (by omega)) ?_
                      refine rP X h 0 rfl rfl zW_Su zO_Su zN_Su 12 (by decide) zw_60 rfl (rfl) (rfl) (Nat.le_of_ble_eq_true rfl) zd_Su_addLetter_159 (fun H locs h => ?_)
                      have h : zH D A s [(t0, .inr (2, [.ref ta, .int (nI n), .ref aS, .ref aE, .ref aP, .ref aL, .int (nI (nd1 + 1)), .ref aQ, .int (nI M), .int (nI sh), .int (nI (if a2 = 0 then 0 else (va_up (va_up li1 wl a2) nd1 0) a2)), .int (nI (if a2 = 0 then 0 - 1 else 0)), .int (nI (wt1 - 1)), .int (nI fl), .int fp])), (aS, .inl (cS, 131072, .inl (fun zz => nI ((va_up st1 nd1 pl) zz)))), (aE, .inl (cE, 131072, .inl (fun zz => nI ((va_up en1 nd1 n) zz)))), (aP, .inl (cP, 131072, .inl (fun zz => nI ((va_up pa1 nd1 a2) zz)))), (aL, .inl (cL, 131072, .inl (fun zz => nI ((va_up (va_up li1 wl a2) nd1 0) zz)))), (aQ, .inl (cQ, 262144, .inl (fun zz => nI ((va_up sl1 u3 nd1) zz)))), (ta, .inl (cB, NB, .inl (T)))] H locs := h
                      refine lv_goto (tgt := 12) X.1.1 X.1.2.1 zd_Su_addLetter_162 rfl ?_
                      exact ih 0 (wt1 - 1) (j1 + 1) (nd1 + 1) (if a2 = 0 then 0 else (va_up (va_up li1 wl a2) nd1 0) a2) (if a2 = 0 then 0 - 1 else 0) (va_up st1 nd1 pl) (va_up en1 nd1 n) (va_up pa1 nd1 a2) (va_up (va_up li1 wl a2) nd1 0) (va_up sl1 u3 nd1) (va_up ps1 nd1 j1) (va_up dp1 nd1 (n - j1)) ls H locs (by omega) (by omega) (tV_none hG hA2 hpl z3 (hlk.2 e4) q3) (lv_sub hl [5, 6, 0] rfl) h
                  · have e5 : 0 ≠ 0 := zc_eq0_f (by omega) (by omega) e5
                    exact absurd rfl e5
          · have e1 : sl1 r2 ≠ 0 := zc_eq0_f (by omega) (by omega) e1
            exact absurd z1 e1
        · have hst : st1 (sl1 r2) + L2 < n := by omega
          refine lv_if_eq (tgt := 68) X.1.1 X.1.2.1 zd_Su_addLetter_35 rfl (fun e1 => ?_) (fun e1 => ?_)
          · have e1 : sl1 r2 = 0 := zc_eq0_t (by omega) (by omega) e1
            exact absurd e1 (by omega)
          · have e1 : sl1 r2 ≠ 0 := zc_eq0_f (by omega) (by omega) e1
            refine lv_aload_n X.1.1 X.1.2.1 zd_Su_addLetter_38 rfl (lv_at hl 2 rfl) ?_
            refine rG X h 0 rfl rfl zW_Su 0 (by decide) zw_48 rfl zd_Su_addLetter_39 ?_
            refine lv_aload_n X.1.1 X.1.2.1 zd_Su_addLetter_42 rfl (lv_at hl 2 rfl) ?_
            refine rG X h 0 rfl rfl zW_Su 2 (by decide) zw_50 rfl zd_Su_addLetter_43 ?_
            refine lv_iload X.1.1 X.1.2.1 zd_Su_addLetter_46 (lv_at hl 0 rfl) ?_
            refine rLn X h 1 0 rfl rfl (by omega) (by omega) zd_Su_addLetter_48 ?_
            refine lv_aload_n X.1.1 X.1.2.1 zd_Su_addLetter_49 rfl (lv_at hl 2 rfl) ?_
            refine rG X h 0 rfl rfl zW_Su 11 (by decide) zw_59 rfl zd_Su_addLetter_50 ?_
            refine lv_iadd X.1.1 X.1.2.1 zd_Su_addLetter_53 ?_
            refine zTop (y := nI (st1 (sl1 r2) + L2)) (nI_add _ _) ?_
            refine rLb X h 6 5 rfl rfl (by omega) (by omega) zd_Su_addLetter_54 ?_
            refine lv_aload_n X.1.1 X.1.2.1 zd_Su_addLetter_55 rfl (lv_at hl 2 rfl) ?_
            refine rG X h 0 rfl rfl zW_Su 0 (by decide) zw_48 rfl zd_Su_addLetter_56 ?_
            refine lv_iload_n X.1.1 X.1.2.1 zd_Su_addLetter_59 rfl (lv_at hl 3 rfl) ?_
            refine rLb X h 6 5 rfl rfl (by omega) (by omega) zd_Su_addLetter_60 ?_
            refine lv_icmp_ne (tgt := 68) X.1.1 X.1.2.1 zd_Su_addLetter_61 rfl (fun e2 => ?_) (fun e2 => ?_)
            · have hL0 : 0 < L2 := by
                by_cases hc : L2 = 0
                · exact absurd (by rw [z4, hc]; exact z8 hc) e2
                · omega
              have hT0 : T (ps1 (sl1 r2) + dp1 a2) = T (pl - L2) := by
                obtain ⟨w, w1, w2, w3, w4, w5, w6, w7⟩ := tr_go hG.2.1.1 hA2 hpl hL0
                have ew := gw_hit hG.2.1 (tG_q hG hq) w1 w2 w3 w5
                rw [ew]; exact w5
              have hsp := tG_split hG hA2 z1 z2 z3 hL0 z6 hpl z4 rfl hT0 hq
              refine lv_iconst (v := nI 0) X.1.1 X.1.2.1 zd_Su_addLetter_68 (by decide) ?_
              refine lv_istore X.1.1 X.1.2.1 zd_Su_addLetter_69 hl (by decide) rfl (fun ls hl => ?_)
              have hl : lv_has ls 7 [(5, .int (nI 0)), (4, .int (nI (sl1 r2))), (3, .int (nI r2)), (0, .ref t0), (1, .int (nI pl)), (2, .int (nI wl))] := hl
              refine lv_iload X.1.1 X.1.2.1 zd_Su_addLetter_71 (lv_at hl 0 rfl) ?_
              refine lv_if_ne (tgt := 81) X.1.1 X.1.2.1 zd_Su_addLetter_73 rfl (fun e3 => ?_) (fun e3 => ?_)
              · have e3 : 0 ≠ 0 := zc_ne0_t (by omega) (by omega) e3
                exact absurd rfl e3
              · have e3 : 0 = 0 := zc_ne0_f (by omega) (by omega) e3
                refine lv_iload X.1.1 X.1.2.1 zd_Su_addLetter_76 (lv_at hl 1 rfl) ?_
                refine lv_if_ne (tgt := 88) X.1.1 X.1.2.1 zd_Su_addLetter_78 rfl (fun e4 => ?_) (fun e4 => ?_)
                · have e4 : sl1 r2 ≠ 0 := zc_ne0_t (by omega) (by omega) e4
                  refine lv_aload_n X.1.1 X.1.2.1 zd_Su_addLetter_88 rfl (lv_at hl 3 rfl) ?_
                  refine lv_iload_n X.1.1 X.1.2.1 zd_Su_addLetter_89 rfl (lv_at hl 2 rfl) ?_
                  refine lv_iload X.1.1 X.1.2.1 zd_Su_addLetter_90 (lv_at hl 1 rfl) ?_
                  refine rCi (wr := []) (wf := fun r3 => [(t0, .inr (2, [.ref ta, .int (nI n), .ref aS, .ref aE, .ref aP, .ref aL, .int (nI (nd1 + 1)), .ref aQ, .int (nI M), .int (nI sh), .int (nI a2), .int (nI L2), .int (nI wt1), .int (nI fl), .int fp])), (aS, .inl (cS, 131072, .inl (fun zz => nI ((va_up (va_up st1 nd1 (st1 (sl1 r2))) (sl1 r2) (st1 (sl1 r2) + L2)) zz)))), (aE, .inl (cE, 131072, .inl (fun zz => nI ((va_up en1 nd1 (st1 (sl1 r2) + L2)) zz)))), (aP, .inl (cP, 131072, .inl (fun zz => nI ((va_up (va_up pa1 nd1 a2) (sl1 r2) nd1) zz)))), (aL, .inl (cL, 131072, .inl (fun zz => nI ((va_up li1 nd1 0) zz)))), (aQ, .inl (cQ, 262144, .inl (fun zz => nI ((va_up (va_up sl1 r2 nd1) r3 (sl1 r2)) zz)))), (ta, .inl (cB, NB, .inl (T)))]) (rest := []) X h hl.1 (zc_Su_split l D (t0 := t0) (ta := ta) (n := n) (aS := aS) (aE := aE) (aP := aP) (aL := aL) (nd := nd1) (aQ := aQ) (M := M) (sh := sh) (an := a2) (L := L2) (wt := wt1) (fl := fl) (fp := fp) (st := st1) (cS := cS) (en := en1) (cE := cE) (pa := pa1) (cP := cP) (li := li1) (cL := cL) (sl := sl1) (cQ := cQ) (T := T) (cB := cB) (NB := NB) (rr := r2) (w := sl1 r2) (hsp.1) (by omega) (z2) (by omega) (by omega) H.size) zw_207 zw_209 zs_5 zw_3 zm_Su_split zq_Su_split ⟨Nat.le_of_ble_eq_true rfl, Nat.le_of_ble_eq_true rfl⟩ ⟨Nat.le_of_ble_eq_true rfl, Nat.le_of_ble_eq_true rfl⟩ [0, 1, 2, 3, 4, 5] rfl [0, 1, 2, 3, 4, 5, 6] [] [0, 1, 2, 3, 4, 5, 6] rfl (by decide) rfl (by decide) (by decide) (fun _ => rfl) (by decide) 0 rfl rfl rfl (Nat.le_of_ble_eq_true rfl) zd_Su_addLetter_92 (fun r r3 H locs hp h => ?_)
                  obtain ⟨rfl, q3⟩ := hp
                  have h : zH D A s [(t0, .inr (2, [.ref ta, .int (nI n), .ref aS, .ref aE, .ref aP, .ref aL, .int (nI (nd1 + 1)), .ref aQ, .int (nI M), .int (nI sh), .int (nI a2), .int (nI L2), .int (nI wt1), .int (nI fl), .int fp])), (aS, .inl (cS, 131072, .inl (fun zz => nI ((va_up (va_up st1 nd1 (st1 (sl1 r2))) (sl1 r2) (st1 (sl1 r2) + L2)) zz)))), (aE, .inl (cE, 131072, .inl (fun zz => nI ((va_up en1 nd1 (st1 (sl1 r2) + L2)) zz)))), (aP, .inl (cP, 131072, .inl (fun zz => nI ((va_up (va_up pa1 nd1 a2) (sl1 r2) nd1) zz)))), (aL, .inl (cL, 131072, .inl (fun zz => nI ((va_up li1 nd1 0) zz)))), (aQ, .inl (cQ, 262144, .inl (fun zz => nI ((va_up (va_up sl1 r2 nd1) r3 (sl1 r2)) zz)))), (ta, .inl (cB, NB, .inl (T)))] H locs := h
                  obtain ⟨hT1, hR1⟩ := hsp.2 r3 q3
                  have hlk := tV_lk (tV_new hL (ps1 (sl1 r2)) (dp1 a2 + L2)) (tr_B_new hB) (Nat.lt_succ_self nd1) (by rw [va_up_self]; omega) (by rw [va_up_self, va_up_self, show dp1 a2 + L2 = pl - j1 by omega]; exact z7)
                  refine lv_istore X.1.1 X.1.2.1 zd_Su_addLetter_95 hl (by decide) rfl (fun ls hl => ?_)
                  have hl : lv_has ls 7 [(6, .int (nI nd1)), (5, .int (nI 0)), (4, .int (nI (sl1 r2))), (3, .int (nI r2)), (0, .ref t0), (1, .int (nI pl)), (2, .int (nI wl))] := hl
                  refine lv_iload_n X.1.1 X.1.2.1 zd_Su_addLetter_97 rfl (lv_at hl 6 rfl) ?_
                  refine lv_if_eq (tgt := 109) X.1.1 X.1.2.1 zd_Su_addLetter_98 rfl (fun e5 => ?_) (fun e5 => ?_)
                  · have e5 : wl = 0 := zc_eq0_t (by omega) (by omega) e5
                    refine lv_iload X.1.1 X.1.2.1 zd_Su_addLetter_109 (lv_at hl 1 rfl) ?_
                    refine lv_if_eq (tgt := 125) X.1.1 X.1.2.1 zd_Su_addLetter_111 rfl (fun e6 => ?_) (fun e6 => ?_)
                    · have e6 : 0 = 0 := zc_eq0_t (by omega) (by omega) e6
                      refine lv_iload X.1.1 X.1.2.1 zd_Su_addLetter_125 (lv_at hl 0 rfl) ?_
                      refine lv_aload_n X.1.1 X.1.2.1 zd_Su_addLetter_127 rfl (lv_at hl 4 rfl) ?_
                      refine rG X h 0 rfl rfl zW_Su 10 (by decide) zw_58 rfl zd_Su_addLetter_128 ?_
                      refine lv_icmp_ne (tgt := 138) X.1.1 X.1.2.1 zd_Su_addLetter_131 rfl (fun e7 => ?_) (fun e7 => ?_)
                      · have e7 : nd1 ≠ a2 := zc_ne_t (by omega) (by omega) e7
                        refine lv_iload X.1.1 X.1.2.1 zd_Su_addLetter_138 (lv_at hl 0 rfl) ?_
                        refine lv_istore_n X.1.1 X.1.2.1 zd_Su_addLetter_140 rfl hl (by decide) rfl (fun ls hl => ?_)
                        have hl : lv_has ls 7 [(2, .int (nI nd1)), (6, .int (nI nd1)), (5, .int (nI 0)), (4, .int (nI (sl1 r2))), (3, .int (nI r2)), (0, .ref t0), (1, .int (nI pl))] := hl
                        refine lv_aload_n X.1.1 X.1.2.1 zd_Su_addLetter_141 rfl (lv_at hl 5 rfl) ?_
                        refine lv_iload X.1.1 X.1.2.1 zd_Su_addLetter_142 (lv_at hl 1 rfl) ?_
                        refine lv_iload_n X.1.1 X.1.2.1 zd_Su_addLetter_144 rfl (lv_at hl 6 rfl) ?_
                        refine rCv (wr := []) (wf := fun r4 => [(t0, .inr (2, [.ref ta, .int (nI n), .ref aS, .ref aE, .ref aP, .ref aL, .int (nI (nd1 + 1 + 1)), .ref aQ, .int (nI M), .int (nI sh), .int (nI a2), .int (nI L2), .int (nI wt1), .int (nI fl), .int fp])), (aS, .inl (cS, 131072, .inl (fun zz => nI ((va_up (va_up (va_up st1 nd1 (st1 (sl1 r2))) (sl1 r2) (st1 (sl1 r2) + L2)) (nd1 + 1) pl) zz)))), (aE, .inl (cE, 131072, .inl (fun zz => nI ((va_up (va_up en1 nd1 (st1 (sl1 r2) + L2)) (nd1 + 1) n) zz)))), (aP, .inl (cP, 131072, .inl (fun zz => nI ((va_up (va_up (va_up pa1 nd1 a2) (sl1 r2) nd1) (nd1 + 1) nd1) zz)))), (aL, .inl (cL, 131072, .inl (fun zz => nI ((va_up (va_up li1 nd1 0) (nd1 + 1) 0) zz)))), (aQ, .inl (cQ, 262144, .inl (fun zz => nI ((va_up (va_up (va_up sl1 r2 nd1) r3 (sl1 r2)) r4 (nd1 + 1)) zz)))), (ta, .inl (cB, NB, .inl (T)))]) (rest := []) X h hl.1 (zc_Su_addLeaf l D (t0 := t0) (ta := ta) (n := n) (aS := aS) (aE := aE) (aP := aP) (aL := aL) (nd := nd1 + 1) (aQ := aQ) (M := M) (sh := sh) (an := a2) (L := L2) (wt := wt1) (fl := fl) (fp := fp) (st := va_up (va_up st1 nd1 (st1 (sl1 r2))) (sl1 r2) (st1 (sl1 r2) + L2)) (cS := cS) (en := va_up en1 nd1 (st1 (sl1 r2) + L2)) (cE := cE) (pa := va_up (va_up pa1 nd1 a2) (sl1 r2) nd1) (cP := cP) (li := va_up li1 nd1 0) (cL := cL) (sl := va_up (va_up sl1 r2 nd1) r3 (sl1 r2)) (cQ := cQ) (T := T) (cB := cB) (NB := NB) (b := nd1) (x := pl) (tF_O hG.1 hT1 hR1 (by omega) (by omega)) (by omega) (by omega) (by omega) H.size) zw_215 zw_217 zs_7 zw_3 zm_Su_addLeaf zq_Su_addLeaf ⟨Nat.le_of_ble_eq_true rfl, Nat.le_of_ble_eq_true rfl⟩ ⟨Nat.le_of_ble_eq_true rfl, Nat.le_of_ble_eq_true rfl⟩ [0, 1, 2, 3, 4, 5] rfl [0, 1, 2, 3, 4, 5, 6] [] [0, 1, 2, 3, 4, 5, 6] rfl (by decide) rfl (by decide) (by decide) (fun _ => rfl) (by decide) 0 rfl rfl rfl (Nat.le_of_ble_eq_true rfl) zd_Su_addLetter_145 (fun r4 H locs hp h => ?_)
                        have q4 : hs_r M (va_up (va_up sl1 r2 nd1) r3 (sl1 r2)) (hok (va_up (va_up pa1 nd1 a2) (sl1 r2) nd1) (va_up (va_up st1 nd1 (st1 (sl1 r2))) (sl1 r2) (st1 (sl1 r2) + L2)) T nd1 (T pl)) (hN sh nd1 (T pl)) r4 := hp
                        have h : zH D A s [(t0, .inr (2, [.ref ta, .int (nI n), .ref aS, .ref aE, .ref aP, .ref aL, .int (nI (nd1 + 1 + 1)), .ref aQ, .int (nI M), .int (nI sh), .int (nI a2), .int (nI L2), .int (nI wt1), .int (nI fl), .int fp])), (aS, .inl (cS, 131072, .inl (fun zz => nI ((va_up (va_up (va_up st1 nd1 (st1 (sl1 r2))) (sl1 r2) (st1 (sl1 r2) + L2)) (nd1 + 1) pl) zz)))), (aE, .inl (cE, 131072, .inl (fun zz => nI ((va_up (va_up en1 nd1 (st1 (sl1 r2) + L2)) (nd1 + 1) n) zz)))), (aP, .inl (cP, 131072, .inl (fun zz => nI ((va_up (va_up (va_up pa1 nd1 a2) (sl1 r2) nd1) (nd1 + 1) nd1) zz)))), (aL, .inl (cL, 131072, .inl (fun zz => nI ((va_up (va_up li1 nd1 0) (nd1 + 1) 0) zz)))), (aQ, .inl (cQ, 262144, .inl (fun zz => nI ((va_up (va_up (va_up sl1 r2 nd1) r3 (sl1 r2)) r4 (nd1 + 1)) zz)))), (ta, .inl (cB, NB, .inl (T)))] H locs := h
                        refine lv_aload_n X.1.1 X.1.2.1 zd_Su_addLetter_148 rfl (lv_at hl 5 rfl) ?_
                        refine rCv (wr := []) (wf := fun _ => [(t0, .inr (2, [.ref ta, .int (nI n), .ref aS, .ref aE, .ref aP, .ref aL, .int (nI (nd1 + 1 + 1)), .ref aQ, .int (nI M), .int (nI sh), .int (nI (if a2 = 0 then 0 else (va_up (va_up li1 nd1 0) (nd1 + 1) 0) a2)), .int (nI (if a2 = 0 then L2 - 1 else L2)), .int (nI wt1), .int (nI fl), .int fp])), (aS, .inl (cS, 131072, .inl (fun zz => nI ((va_up (va_up (va_up st1 nd1 (st1 (sl1 r2))) (sl1 r2) (st1 (sl1 r2) + L2)) (nd1 + 1) pl) zz)))), (aE, .inl (cE, 131072, .inl (fun zz => nI ((va_up (va_up en1 nd1 (st1 (sl1 r2) + L2)) (nd1 + 1) n) zz)))), (aP, .inl (cP, 131072, .inl (fun zz => nI ((va_up (va_up (va_up pa1 nd1 a2) (sl1 r2) nd1) (nd1 + 1) nd1) zz)))), (aL, .inl (cL, 131072, .inl (fun zz => nI ((va_up (va_up li1 nd1 0) (nd1 + 1) 0) zz)))), (aQ, .inl (cQ, 262144, .inl (fun zz => nI ((va_up (va_up (va_up sl1 r2 nd1) r3 (sl1 r2)) r4 (nd1 + 1)) zz)))), (ta, .inl (cB, NB, .inl (T)))]) (rest := []) X h hl.1 (zc_Su_goToNextSuffix l D (t0 := t0) (ta := ta) (n := n) (aS := aS) (aE := aE) (aP := aP) (aL := aL) (nd := nd1 + 1 + 1) (aQ := aQ) (M := M) (sh := sh) (an := a2) (L := L2) (wt := wt1) (fl := fl) (fp := fp) (st := va_up (va_up (va_up st1 nd1 (st1 (sl1 r2))) (sl1 r2) (st1 (sl1 r2) + L2)) (nd1 + 1) pl) (cS := cS) (en := va_up (va_up en1 nd1 (st1 (sl1 r2) + L2)) (nd1 + 1) n) (cE := cE) (pa := va_up (va_up (va_up pa1 nd1 a2) (sl1 r2) nd1) (nd1 + 1) nd1) (cP := cP) (li := va_up (va_up li1 nd1 0) (nd1 + 1) 0) (cL := cL) (sl := va_up (va_up (va_up sl1 r2 nd1) r3 (sl1 r2)) r4 (nd1 + 1)) (cQ := cQ) (T := T) (cB := cB) (NB := NB) (by omega) (by omega) H.size) zw_219 zw_221 zs_8 zw_3 zm_Su_goToNextSuffix zq_Su_goToNextSuffix ⟨Nat.le_of_ble_eq_true rfl, Nat.le_of_ble_eq_true rfl⟩ ⟨Nat.le_of_ble_eq_true rfl, Nat.le_of_ble_eq_true rfl⟩ [0, 1, 2, 3, 4, 5] rfl [0, 1, 2, 3, 4, 5, 6] [] [0, 1, 2, 3, 4, 5, 6] rfl (by decide) rfl (by decide) (by decide) (fun _ => rfl) (by decide) 0 rfl rfl rfl (Nat.le_of_ble_eq_true rfl) zd_Su_addLetter_149 (fun _ H locs hp h => ?_)
                        have h : zH D A s [(t0, .inr (2, [.ref ta, .int (nI n), .ref aS, .ref aE, .ref aP, .ref aL, .int (nI (nd1 + 1 + 1)), .ref aQ, .int (nI M), .int (nI sh), .int (nI (if a2 = 0 then 0 else (va_up (va_up li1 nd1 0) (nd1 + 1) 0) a2)), .int (nI (if a2 = 0 then L2 - 1 else L2)), .int (nI wt1), .int (nI fl), .int fp])), (aS, .inl (cS, 131072, .inl (fun zz => nI ((va_up (va_up (va_up st1 nd1 (st1 (sl1 r2))) (sl1 r2) (st1 (sl1 r2) + L2)) (nd1 + 1) pl) zz)))), (aE, .inl (cE, 131072, .inl (fun zz => nI ((va_up (va_up en1 nd1 (st1 (sl1 r2) + L2)) (nd1 + 1) n) zz)))), (aP, .inl (cP, 131072, .inl (fun zz => nI ((va_up (va_up (va_up pa1 nd1 a2) (sl1 r2) nd1) (nd1 + 1) nd1) zz)))), (aL, .inl (cL, 131072, .inl (fun zz => nI ((va_up (va_up li1 nd1 0) (nd1 + 1) 0) zz)))), (aQ, .inl (cQ, 262144, .inl (fun zz => nI ((va_up (va_up (va_up sl1 r2 nd1) r3 (sl1 r2)) r4 (nd1 + 1)) zz)))), (ta, .inl (cB, NB, .inl (T)))] H locs := h
                        refine lv_aload_n X.1.1 X.1.2.1 zd_Su_addLetter_152 rfl (lv_at hl 5 rfl) ?_
                        refine lv_dup X.1.1 X.1.2.1 zd_Su_addLetter_153 rfl ?_
                        refine rG X h 0 rfl rfl zW_Su 12 (by decide) zw_60 rfl zd_Su_addLetter_154 ?_
                        refine lv_iconst (v := nI 1) X.1.1 X.1.2.1 zd_Su_addLetter_157 (by decide) ?_
                        refine lv_isub X.1.1 X.1.2.1 zd_Su_addLetter_158 ?_
                        refine zTop (y := nI (wt1 - 1)) (pk_sub (by omega)) ?_
                        refine rP X h 0 rfl rfl zW_Su zO_Su zN_Su 12 (by decide) zw_60 rfl (rfl) (rfl) (Nat.le_of_ble_eq_true rfl) zd_Su_addLetter_159 (fun H locs h => ?_)
                        have h : zH D A s [(t0, .inr (2, [.ref ta, .int (nI n), .ref aS, .ref aE, .ref aP, .ref aL, .int (nI (nd1 + 1 + 1)), .ref aQ, .int (nI M), .int (nI sh), .int (nI (if a2 = 0 then 0 else (va_up (va_up li1 nd1 0) (nd1 + 1) 0) a2)), .int (nI (if a2 = 0 then L2 - 1 else L2)), .int (nI (wt1 - 1)), .int (nI fl), .int fp])), (aS, .inl (cS, 131072, .inl (fun zz => nI ((va_up (va_up (va_up st1 nd1 (st1 (sl1 r2))) (sl1 r2) (st1 (sl1 r2) + L2)) (nd1 + 1) pl) zz)))), (aE, .inl (cE, 131072, .inl (fun zz => nI ((va_up (va_up en1 nd1 (st1 (sl1 r2) + L2)) (nd1 + 1) n) zz)))), (aP, .inl (cP, 131072, .inl (fun zz => nI ((va_up (va_up (va_up pa1 nd1 a2) (sl1 r2) nd1) (nd1 + 1) nd1) zz)))), (aL, .inl (cL, 131072, .inl (fun zz => nI ((va_up (va_up li1 nd1 0) (nd1 + 1) 0) zz)))), (aQ, .inl (cQ, 262144, .inl (fun zz => nI ((va_up (va_up (va_up sl1 r2 nd1) r3 (sl1 r2)) r4 (nd1 + 1)) zz)))), (ta, .inl (cB, NB, .inl (T)))] H locs := h
                        refine lv_goto (tgt := 12) X.1.1 X.1.2.1 zd_Su_addLetter_162 rfl ?_
                        exact ih nd1 (wt1 - 1) (j1 + 1) (nd1 + 1 + 1) (if a2 = 0 then 0 else (va_up (va_up li1 nd1 0) (nd1 + 1) 0) a2) (if a2 = 0 then L2 - 1 else L2) (va_up (va_up (va_up st1 nd1 (st1 (sl1 r2))) (sl1 r2) (st1 (sl1 r2) + L2)) (nd1 + 1) pl) (va_up (va_up en1 nd1 (st1 (sl1 r2) + L2)) (nd1 + 1) n) (va_up (va_up (va_up pa1 nd1 a2) (sl1 r2) nd1) (nd1 + 1) nd1) (va_up (va_up li1 nd1 0) (nd1 + 1) 0) (va_up (va_up (va_up sl1 r2 nd1) r3 (sl1 r2)) r4 (nd1 + 1)) (va_up (va_up ps1 nd1 (ps1 (sl1 r2))) (nd1 + 1) j1) (va_up (va_up dp1 nd1 (dp1 a2 + L2)) (nd1 + 1) (n - j1)) ls H locs (by omega) (by omega) (tV_split (r := 0) hG hA2 z1 z2 z3 hL0 z6 hpl z4 z7 e2 rfl rfl rfl hT1 hR1 (hlk.1 e5) q4) (lv_sub hl [5, 6, 0] rfl) h
                      · have e7 : nd1 = a2 := zc_ne_f (by omega) (by omega) e7
                        exact absurd e7 (by omega)
                    · have e6 : 0 ≠ 0 := zc_eq0_f (by omega) (by omega) e6
                      exact absurd rfl e6
                  · have e5 : wl ≠ 0 := zc_eq0_f (by omega) (by omega) e5
                    refine lv_aload_n X.1.1 X.1.2.1 zd_Su_addLetter_101 rfl (lv_at hl 4 rfl) ?_
                    refine rG X h 0 rfl rfl zW_Su 5 (by decide) zw_53 rfl zd_Su_addLetter_102 ?_
                    refine lv_iload_n X.1.1 X.1.2.1 zd_Su_addLetter_105 rfl (lv_at hl 6 rfl) ?_
                    refine lv_iload X.1.1 X.1.2.1 zd_Su_addLetter_106 (lv_at hl 0 rfl) ?_
                    refine rSn X h 4 3 rfl rfl (by omega) (by omega) zd_Su_addLetter_108 (fun H locs h => ?_)
                    have h : zH D A s [(t0, .inr (2, [.ref ta, .int (nI n), .ref aS, .ref aE, .ref aP, .ref aL, .int (nI (nd1 + 1)), .ref aQ, .int (nI M), .int (nI sh), .int (nI a2), .int (nI L2), .int (nI wt1), .int (nI fl), .int fp])), (aS, .inl (cS, 131072, .inl (fun zz => nI ((va_up (va_up st1 nd1 (st1 (sl1 r2))) (sl1 r2) (st1 (sl1 r2) + L2)) zz)))), (aE, .inl (cE, 131072, .inl (fun zz => nI ((va_up en1 nd1 (st1 (sl1 r2) + L2)) zz)))), (aP, .inl (cP, 131072, .inl (fun zz => nI ((va_up (va_up pa1 nd1 a2) (sl1 r2) nd1) zz)))), (aL, .inl (cL, 131072, .inl (fun zz => nI ((va_up (va_up li1 nd1 0) wl nd1) zz)))), (aQ, .inl (cQ, 262144, .inl (fun zz => nI ((va_up (va_up sl1 r2 nd1) r3 (sl1 r2)) zz)))), (ta, .inl (cB, NB, .inl (T)))] H locs := h
                    refine lv_iload X.1.1 X.1.2.1 zd_Su_addLetter_109 (lv_at hl 1 rfl) ?_
                    refine lv_if_eq (tgt := 125) X.1.1 X.1.2.1 zd_Su_addLetter_111 rfl (fun e6 => ?_) (fun e6 => ?_)
                    · have e6 : 0 = 0 := zc_eq0_t (by omega) (by omega) e6
                      refine lv_iload X.1.1 X.1.2.1 zd_Su_addLetter_125 (lv_at hl 0 rfl) ?_
                      refine lv_aload_n X.1.1 X.1.2.1 zd_Su_addLetter_127 rfl (lv_at hl 4 rfl) ?_
                      refine rG X h 0 rfl rfl zW_Su 10 (by decide) zw_58 rfl zd_Su_addLetter_128 ?_
                      refine lv_icmp_ne (tgt := 138) X.1.1 X.1.2.1 zd_Su_addLetter_131 rfl (fun e7 => ?_) (fun e7 => ?_)
                      · have e7 : nd1 ≠ a2 := zc_ne_t (by omega) (by omega) e7
                        refine lv_iload X.1.1 X.1.2.1 zd_Su_addLetter_138 (lv_at hl 0 rfl) ?_
                        refine lv_istore_n X.1.1 X.1.2.1 zd_Su_addLetter_140 rfl hl (by decide) rfl (fun ls hl => ?_)
                        have hl : lv_has ls 7 [(2, .int (nI nd1)), (6, .int (nI nd1)), (5, .int (nI 0)), (4, .int (nI (sl1 r2))), (3, .int (nI r2)), (0, .ref t0), (1, .int (nI pl))] := hl
                        refine lv_aload_n X.1.1 X.1.2.1 zd_Su_addLetter_141 rfl (lv_at hl 5 rfl) ?_
                        refine lv_iload X.1.1 X.1.2.1 zd_Su_addLetter_142 (lv_at hl 1 rfl) ?_
                        refine lv_iload_n X.1.1 X.1.2.1 zd_Su_addLetter_144 rfl (lv_at hl 6 rfl) ?_
                        refine rCv (wr := []) (wf := fun r4 => [(t0, .inr (2, [.ref ta, .int (nI n), .ref aS, .ref aE, .ref aP, .ref aL, .int (nI (nd1 + 1 + 1)), .ref aQ, .int (nI M), .int (nI sh), .int (nI a2), .int (nI L2), .int (nI wt1), .int (nI fl), .int fp])), (aS, .inl (cS, 131072, .inl (fun zz => nI ((va_up (va_up (va_up st1 nd1 (st1 (sl1 r2))) (sl1 r2) (st1 (sl1 r2) + L2)) (nd1 + 1) pl) zz)))), (aE, .inl (cE, 131072, .inl (fun zz => nI ((va_up (va_up en1 nd1 (st1 (sl1 r2) + L2)) (nd1 + 1) n) zz)))), (aP, .inl (cP, 131072, .inl (fun zz => nI ((va_up (va_up (va_up pa1 nd1 a2) (sl1 r2) nd1) (nd1 + 1) nd1) zz)))), (aL, .inl (cL, 131072, .inl (fun zz => nI ((va_up (va_up (va_up li1 nd1 0) wl nd1) (nd1 + 1) 0) zz)))), (aQ, .inl (cQ, 262144, .inl (fun zz => nI ((va_up (va_up (va_up sl1 r2 nd1) r3 (sl1 r2)) r4 (nd1 + 1)) zz)))), (ta, .inl (cB, NB, .inl (T)))]) (rest := []) X h hl.1 (zc_Su_addLeaf l D (t0 := t0) (ta := ta) (n := n) (aS := aS) (aE := aE) (aP := aP) (aL := aL) (nd := nd1 + 1) (aQ := aQ) (M := M) (sh := sh) (an := a2) (L := L2) (wt := wt1) (fl := fl) (fp := fp) (st := va_up (va_up st1 nd1 (st1 (sl1 r2))) (sl1 r2) (st1 (sl1 r2) + L2)) (cS := cS) (en := va_up en1 nd1 (st1 (sl1 r2) + L2)) (cE := cE) (pa := va_up (va_up pa1 nd1 a2) (sl1 r2) nd1) (cP := cP) (li := va_up (va_up li1 nd1 0) wl nd1) (cL := cL) (sl := va_up (va_up sl1 r2 nd1) r3 (sl1 r2)) (cQ := cQ) (T := T) (cB := cB) (NB := NB) (b := nd1) (x := pl) (tF_O hG.1 hT1 hR1 (by omega) (by omega)) (by omega) (by omega) (by omega) H.size) zw_215 zw_217 zs_7 zw_3 zm_Su_addLeaf zq_Su_addLeaf ⟨Nat.le_of_ble_eq_true rfl, Nat.le_of_ble_eq_true rfl⟩ ⟨Nat.le_of_ble_eq_true rfl, Nat.le_of_ble_eq_true rfl⟩ [0, 1, 2, 3, 4, 5] rfl [0, 1, 2, 3, 4, 5, 6] [] [0, 1, 2, 3, 4, 5, 6] rfl (by decide) rfl (by decide) (by decide) (fun _ => rfl) (by decide) 0 rfl rfl rfl (Nat.le_of_ble_eq_true rfl) zd_Su_addLetter_145 (fun r4 H locs hp h => ?_)
                        have q4 : hs_r M (va_up (va_up sl1 r2 nd1) r3 (sl1 r2)) (hok (va_up (va_up pa1 nd1 a2) (sl1 r2) nd1) (va_up (va_up st1 nd1 (st1 (sl1 r2))) (sl1 r2) (st1 (sl1 r2) + L2)) T nd1 (T pl)) (hN sh nd1 (T pl)) r4 := hp
                        have h : zH D A s [(t0, .inr (2, [.ref ta, .int (nI n), .ref aS, .ref aE, .ref aP, .ref aL, .int (nI (nd1 + 1 + 1)), .ref aQ, .int (nI M), .int (nI sh), .int (nI a2), .int (nI L2), .int (nI wt1), .int (nI fl), .int fp])), (aS, .inl (cS, 131072, .inl (fun zz => nI ((va_up (va_up (va_up st1 nd1 (st1 (sl1 r2))) (sl1 r2) (st1 (sl1 r2) + L2)) (nd1 + 1) pl) zz)))), (aE, .inl (cE, 131072, .inl (fun zz => nI ((va_up (va_up en1 nd1 (st1 (sl1 r2) + L2)) (nd1 + 1) n) zz)))), (aP, .inl (cP, 131072, .inl (fun zz => nI ((va_up (va_up (va_up pa1 nd1 a2) (sl1 r2) nd1) (nd1 + 1) nd1) zz)))), (aL, .inl (cL, 131072, .inl (fun zz => nI ((va_up (va_up (va_up li1 nd1 0) wl nd1) (nd1 + 1) 0) zz)))), (aQ, .inl (cQ, 262144, .inl (fun zz => nI ((va_up (va_up (va_up sl1 r2 nd1) r3 (sl1 r2)) r4 (nd1 + 1)) zz)))), (ta, .inl (cB, NB, .inl (T)))] H locs := h
                        refine lv_aload_n X.1.1 X.1.2.1 zd_Su_addLetter_148 rfl (lv_at hl 5 rfl) ?_
                        refine rCv (wr := []) (wf := fun _ => [(t0, .inr (2, [.ref ta, .int (nI n), .ref aS, .ref aE, .ref aP, .ref aL, .int (nI (nd1 + 1 + 1)), .ref aQ, .int (nI M), .int (nI sh), .int (nI (if a2 = 0 then 0 else (va_up (va_up (va_up li1 nd1 0) wl nd1) (nd1 + 1) 0) a2)), .int (nI (if a2 = 0 then L2 - 1 else L2)), .int (nI wt1), .int (nI fl), .int fp])), (aS, .inl (cS, 131072, .inl (fun zz => nI ((va_up (va_up (va_up st1 nd1 (st1 (sl1 r2))) (sl1 r2) (st1 (sl1 r2) + L2)) (nd1 + 1) pl) zz)))), (aE, .inl (cE, 131072, .inl (fun zz => nI ((va_up (va_up en1 nd1 (st1 (sl1 r2) + L2)) (nd1 + 1) n) zz)))), (aP, .inl (cP, 131072, .inl (fun zz => nI ((va_up (va_up (va_up pa1 nd1 a2) (sl1 r2) nd1) (nd1 + 1) nd1) zz)))), (aL, .inl (cL, 131072, .inl (fun zz => nI ((va_up (va_up (va_up li1 nd1 0) wl nd1) (nd1 + 1) 0) zz)))), (aQ, .inl (cQ, 262144, .inl (fun zz => nI ((va_up (va_up (va_up sl1 r2 nd1) r3 (sl1 r2)) r4 (nd1 + 1)) zz)))), (ta, .inl (cB, NB, .inl (T)))]) (rest := []) X h hl.1 (zc_Su_goToNextSuffix l D (t0 := t0) (ta := ta) (n := n) (aS := aS) (aE := aE) (aP := aP) (aL := aL) (nd := nd1 + 1 + 1) (aQ := aQ) (M := M) (sh := sh) (an := a2) (L := L2) (wt := wt1) (fl := fl) (fp := fp) (st := va_up (va_up (va_up st1 nd1 (st1 (sl1 r2))) (sl1 r2) (st1 (sl1 r2) + L2)) (nd1 + 1) pl) (cS := cS) (en := va_up (va_up en1 nd1 (st1 (sl1 r2) + L2)) (nd1 + 1) n) (cE := cE) (pa := va_up (va_up (va_up pa1 nd1 a2) (sl1 r2) nd1) (nd1 + 1) nd1) (cP := cP) (li := va_up (va_up (va_up li1 nd1 0) wl nd1) (nd1 + 1) 0) (cL := cL) (sl := va_up (va_up (va_up sl1 r2 nd1) r3 (sl1 r2)) r4 (nd1 + 1)) (cQ := cQ) (T := T) (cB := cB) (NB := NB) (by omega) (by omega) H.size) zw_219 zw_221 zs_8 zw_3 zm_Su_goToNextSuffix zq_Su_goToNextSuffix ⟨Nat.le_of_ble_eq_true rfl, Nat.le_of_ble_eq_true rfl⟩ ⟨Nat.le_of_ble_eq_true rfl, Nat.le_of_ble_eq_true rfl⟩ [0, 1, 2, 3, 4, 5] rfl [0, 1, 2, 3, 4, 5, 6] [] [0, 1, 2, 3, 4, 5, 6] rfl (by decide) rfl (by decide) (by decide) (fun _ => rfl) (by decide) 0 rfl rfl rfl (Nat.le_of_ble_eq_true rfl) zd_Su_addLetter_149 (fun _ H locs hp h => ?_)
                        have h : zH D A s [(t0, .inr (2, [.ref ta, .int (nI n), .ref aS, .ref aE, .ref aP, .ref aL, .int (nI (nd1 + 1 + 1)), .ref aQ, .int (nI M), .int (nI sh), .int (nI (if a2 = 0 then 0 else (va_up (va_up (va_up li1 nd1 0) wl nd1) (nd1 + 1) 0) a2)), .int (nI (if a2 = 0 then L2 - 1 else L2)), .int (nI wt1), .int (nI fl), .int fp])), (aS, .inl (cS, 131072, .inl (fun zz => nI ((va_up (va_up (va_up st1 nd1 (st1 (sl1 r2))) (sl1 r2) (st1 (sl1 r2) + L2)) (nd1 + 1) pl) zz)))), (aE, .inl (cE, 131072, .inl (fun zz => nI ((va_up (va_up en1 nd1 (st1 (sl1 r2) + L2)) (nd1 + 1) n) zz)))), (aP, .inl (cP, 131072, .inl (fun zz => nI ((va_up (va_up (va_up pa1 nd1 a2) (sl1 r2) nd1) (nd1 + 1) nd1) zz)))), (aL, .inl (cL, 131072, .inl (fun zz => nI ((va_up (va_up (va_up li1 nd1 0) wl nd1) (nd1 + 1) 0) zz)))), (aQ, .inl (cQ, 262144, .inl (fun zz => nI ((va_up (va_up (va_up sl1 r2 nd1) r3 (sl1 r2)) r4 (nd1 + 1)) zz)))), (ta, .inl (cB, NB, .inl (T)))] H locs := h
                        refine lv_aload_n X.1.1 X.1.2.1 zd_Su_addLetter_152 rfl (lv_at hl 5 rfl) ?_
                        refine lv_dup X.1.1 X.1.2.1 zd_Su_addLetter_153 rfl ?_
                        refine rG X h 0 rfl rfl zW_Su 12 (by decide) zw_60 rfl zd_Su_addLetter_154 ?_
                        refine lv_iconst (v := nI 1) X.1.1 X.1.2.1 zd_Su_addLetter_157 (by decide) ?_
                        refine lv_isub X.1.1 X.1.2.1 zd_Su_addLetter_158 ?_
                        refine zTop (y := nI (wt1 - 1)) (pk_sub (by omega)) ?_
                        refine rP X h 0 rfl rfl zW_Su zO_Su zN_Su 12 (by decide) zw_60 rfl (rfl) (rfl) (Nat.le_of_ble_eq_true rfl) zd_Su_addLetter_159 (fun H locs h => ?_)
                        have h : zH D A s [(t0, .inr (2, [.ref ta, .int (nI n), .ref aS, .ref aE, .ref aP, .ref aL, .int (nI (nd1 + 1 + 1)), .ref aQ, .int (nI M), .int (nI sh), .int (nI (if a2 = 0 then 0 else (va_up (va_up (va_up li1 nd1 0) wl nd1) (nd1 + 1) 0) a2)), .int (nI (if a2 = 0 then L2 - 1 else L2)), .int (nI (wt1 - 1)), .int (nI fl), .int fp])), (aS, .inl (cS, 131072, .inl (fun zz => nI ((va_up (va_up (va_up st1 nd1 (st1 (sl1 r2))) (sl1 r2) (st1 (sl1 r2) + L2)) (nd1 + 1) pl) zz)))), (aE, .inl (cE, 131072, .inl (fun zz => nI ((va_up (va_up en1 nd1 (st1 (sl1 r2) + L2)) (nd1 + 1) n) zz)))), (aP, .inl (cP, 131072, .inl (fun zz => nI ((va_up (va_up (va_up pa1 nd1 a2) (sl1 r2) nd1) (nd1 + 1) nd1) zz)))), (aL, .inl (cL, 131072, .inl (fun zz => nI ((va_up (va_up (va_up li1 nd1 0) wl nd1) (nd1 + 1) 0) zz)))), (aQ, .inl (cQ, 262144, .inl (fun zz => nI ((va_up (va_up (va_up sl1 r2 nd1) r3 (sl1 r2)) r4 (nd1 + 1)) zz)))), (ta, .inl (cB, NB, .inl (T)))] H locs := h
                        refine lv_goto (tgt := 12) X.1.1 X.1.2.1 zd_Su_addLetter_162 rfl ?_
                        exact ih nd1 (wt1 - 1) (j1 + 1) (nd1 + 1 + 1) (if a2 = 0 then 0 else (va_up (va_up (va_up li1 nd1 0) wl nd1) (nd1 + 1) 0) a2) (if a2 = 0 then L2 - 1 else L2) (va_up (va_up (va_up st1 nd1 (st1 (sl1 r2))) (sl1 r2) (st1 (sl1 r2) + L2)) (nd1 + 1) pl) (va_up (va_up en1 nd1 (st1 (sl1 r2) + L2)) (nd1 + 1) n) (va_up (va_up (va_up pa1 nd1 a2) (sl1 r2) nd1) (nd1 + 1) nd1) (va_up (va_up (va_up li1 nd1 0) wl nd1) (nd1 + 1) 0) (va_up (va_up (va_up sl1 r2 nd1) r3 (sl1 r2)) r4 (nd1 + 1)) (va_up (va_up ps1 nd1 (ps1 (sl1 r2))) (nd1 + 1) j1) (va_up (va_up dp1 nd1 (dp1 a2 + L2)) (nd1 + 1) (n - j1)) ls H locs (by omega) (by omega) (tV_split (r := 0) hG hA2 z1 z2 z3 hL0 z6 hpl z4 z7 e2 rfl rfl rfl hT1 hR1 (hlk.2 e5) q4) (lv_sub hl [5, 6, 0] rfl) h
                      · have e7 : nd1 = a2 := zc_ne_f (by omega) (by omega) e7
                        exact absurd e7 (by omega)
                    · have e6 : 0 ≠ 0 := zc_eq0_f (by omega) (by omega) e6
                      exact absurd rfl e6
                · have e4 : sl1 r2 = 0 := zc_ne0_f (by omega) (by omega) e4
                  exact absurd e4 (by omega)
            · refine lv_iconst (v := nI 1) X.1.1 X.1.2.1 zd_Su_addLetter_64 (by decide) ?_
              refine lv_goto (tgt := 69) X.1.1 X.1.2.1 zd_Su_addLetter_65 rfl ?_
              refine lv_istore X.1.1 X.1.2.1 zd_Su_addLetter_69 hl (by decide) rfl (fun ls hl => ?_)
              have hl : lv_has ls 7 [(5, .int (nI 1)), (4, .int (nI (sl1 r2))), (3, .int (nI r2)), (0, .ref t0), (1, .int (nI pl)), (2, .int (nI wl))] := hl
              refine lv_iload X.1.1 X.1.2.1 zd_Su_addLetter_71 (lv_at hl 0 rfl) ?_
              refine lv_if_ne (tgt := 81) X.1.1 X.1.2.1 zd_Su_addLetter_73 rfl (fun e3 => ?_) (fun e3 => ?_)
              · have e3 : 1 ≠ 0 := zc_ne0_t (by omega) (by omega) e3
                have hst2 := tG_stands hG hA2 hpl hB hL z1 z2 z3 z6 z7 (by rw [← z4]; exact e2)
                refine lv_aload_n X.1.1 X.1.2.1 zd_Su_addLetter_81 rfl (lv_at hl 3 rfl) ?_
                refine rG X h 0 rfl rfl zW_Su 10 (by decide) zw_58 rfl zd_Su_addLetter_82 ?_
                refine lv_goto (tgt := 95) X.1.1 X.1.2.1 zd_Su_addLetter_85 rfl ?_
                refine lv_istore X.1.1 X.1.2.1 zd_Su_addLetter_95 hl (by decide) rfl (fun ls hl => ?_)
                have hl : lv_has ls 7 [(6, .int (nI a2)), (5, .int (nI 1)), (4, .int (nI (sl1 r2))), (3, .int (nI r2)), (0, .ref t0), (1, .int (nI pl)), (2, .int (nI wl))] := hl
                refine lv_iload_n X.1.1 X.1.2.1 zd_Su_addLetter_97 rfl (lv_at hl 6 rfl) ?_
                refine lv_if_eq (tgt := 109) X.1.1 X.1.2.1 zd_Su_addLetter_98 rfl (fun e4 => ?_) (fun e4 => ?_)
                · have e4 : wl = 0 := zc_eq0_t (by omega) (by omega) e4
                  rw [if_pos e4] at hst2
                  refine lv_iload X.1.1 X.1.2.1 zd_Su_addLetter_109 (lv_at hl 1 rfl) ?_
                  refine lv_if_eq (tgt := 125) X.1.1 X.1.2.1 zd_Su_addLetter_111 rfl (fun e5 => ?_) (fun e5 => ?_)
                  · have e5 : 1 = 0 := zc_eq0_t (by omega) (by omega) e5
                    exact absurd e5 (by decide)
                  · have e5 : 1 ≠ 0 := zc_eq0_f (by omega) (by omega) e5
                    refine lv_aload_n X.1.1 X.1.2.1 zd_Su_addLetter_114 rfl (lv_at hl 4 rfl) ?_
                    refine lv_dup X.1.1 X.1.2.1 zd_Su_addLetter_115 rfl ?_
                    refine rG X h 0 rfl rfl zW_Su 11 (by decide) zw_59 rfl zd_Su_addLetter_116 ?_
                    refine lv_iconst (v := nI 1) X.1.1 X.1.2.1 zd_Su_addLetter_119 (by decide) ?_
                    refine lv_iadd X.1.1 X.1.2.1 zd_Su_addLetter_120 ?_
                    refine zTop (y := nI (L2 + 1)) (nI_add _ _) ?_
                    refine rP X h 0 rfl rfl zW_Su zO_Su zN_Su 11 (by decide) zw_59 rfl (rfl) (rfl) (Nat.le_of_ble_eq_true rfl) zd_Su_addLetter_121 (fun H locs h => ?_)
                    have h : zH D A s [(t0, .inr (2, [.ref ta, .int (nI n), .ref aS, .ref aE, .ref aP, .ref aL, .int (nI nd1), .ref aQ, .int (nI M), .int (nI sh), .int (nI a2), .int (nI (L2 + 1)), .int (nI wt1), .int (nI fl), .int fp])), (aS, .inl (cS, 131072, .inl (fun zz => nI (st1 zz)))), (aE, .inl (cE, 131072, .inl (fun zz => nI (en1 zz)))), (aP, .inl (cP, 131072, .inl (fun zz => nI (pa1 zz)))), (aL, .inl (cL, 131072, .inl (fun zz => nI (li1 zz)))), (aQ, .inl (cQ, 262144, .inl (fun zz => nI (sl1 zz)))), (ta, .inl (cB, NB, .inl (T)))] H locs := h
                    exact ret (nd1, a2, L2 + 1, wt1, j1, st1, en1, pa1, li1, sl1, ps1, dp1) H locs ls _ (⟨hG, hst2.2, hst2.1, by show wt1 = pl + 1 - j1; omega, by show j1 ≤ pl + 1; omega⟩) h zd_Su_addLetter_124
                · have e4 : wl ≠ 0 := zc_eq0_f (by omega) (by omega) e4
                  rw [if_neg e4] at hst2
                  refine lv_aload_n X.1.1 X.1.2.1 zd_Su_addLetter_101 rfl (lv_at hl 4 rfl) ?_
                  refine rG X h 0 rfl rfl zW_Su 5 (by decide) zw_53 rfl zd_Su_addLetter_102 ?_
                  refine lv_iload_n X.1.1 X.1.2.1 zd_Su_addLetter_105 rfl (lv_at hl 6 rfl) ?_
                  refine lv_iload X.1.1 X.1.2.1 zd_Su_addLetter_106 (lv_at hl 0 rfl) ?_
                  refine rSn X h 4 3 rfl rfl (by omega) (by omega) zd_Su_addLetter_108 (fun H locs h => ?_)
                  have h : zH D A s [(t0, .inr (2, [.ref ta, .int (nI n), .ref aS, .ref aE, .ref aP, .ref aL, .int (nI nd1), .ref aQ, .int (nI M), .int (nI sh), .int (nI a2), .int (nI L2), .int (nI wt1), .int (nI fl), .int fp])), (aS, .inl (cS, 131072, .inl (fun zz => nI (st1 zz)))), (aE, .inl (cE, 131072, .inl (fun zz => nI (en1 zz)))), (aP, .inl (cP, 131072, .inl (fun zz => nI (pa1 zz)))), (aL, .inl (cL, 131072, .inl (fun zz => nI ((va_up li1 wl a2) zz)))), (aQ, .inl (cQ, 262144, .inl (fun zz => nI (sl1 zz)))), (ta, .inl (cB, NB, .inl (T)))] H locs := h
                  refine lv_iload X.1.1 X.1.2.1 zd_Su_addLetter_109 (lv_at hl 1 rfl) ?_
                  refine lv_if_eq (tgt := 125) X.1.1 X.1.2.1 zd_Su_addLetter_111 rfl (fun e5 => ?_) (fun e5 => ?_)
                  · have e5 : 1 = 0 := zc_eq0_t (by omega) (by omega) e5
                    exact absurd e5 (by decide)
                  · have e5 : 1 ≠ 0 := zc_eq0_f (by omega) (by omega) e5
                    refine lv_aload_n X.1.1 X.1.2.1 zd_Su_addLetter_114 rfl (lv_at hl 4 rfl) ?_
                    refine lv_dup X.1.1 X.1.2.1 zd_Su_addLetter_115 rfl ?_
                    refine rG X h 0 rfl rfl zW_Su 11 (by decide) zw_59 rfl zd_Su_addLetter_116 ?_
                    refine lv_iconst (v := nI 1) X.1.1 X.1.2.1 zd_Su_addLetter_119 (by decide) ?_
                    refine lv_iadd X.1.1 X.1.2.1 zd_Su_addLetter_120 ?_
                    refine zTop (y := nI (L2 + 1)) (nI_add _ _) ?_
                    refine rP X h 0 rfl rfl zW_Su zO_Su zN_Su 11 (by decide) zw_59 rfl (rfl) (rfl) (Nat.le_of_ble_eq_true rfl) zd_Su_addLetter_121 (fun H locs h => ?_)
                    have h : zH D A s [(t0, .inr (2, [.ref ta, .int (nI n), .ref aS, .ref aE, .ref aP, .ref aL, .int (nI nd1), .ref aQ, .int (nI M), .int (nI sh), .int (nI a2), .int (nI (L2 + 1)), .int (nI wt1), .int (nI fl), .int fp])), (aS, .inl (cS, 131072, .inl (fun zz => nI (st1 zz)))), (aE, .inl (cE, 131072, .inl (fun zz => nI (en1 zz)))), (aP, .inl (cP, 131072, .inl (fun zz => nI (pa1 zz)))), (aL, .inl (cL, 131072, .inl (fun zz => nI ((va_up li1 wl a2) zz)))), (aQ, .inl (cQ, 262144, .inl (fun zz => nI (sl1 zz)))), (ta, .inl (cB, NB, .inl (T)))] H locs := h
                    exact ret (nd1, a2, L2 + 1, wt1, j1, st1, en1, pa1, va_up li1 wl a2, sl1, ps1, dp1) H locs ls _ (⟨hG, hst2.2, hst2.1, by show wt1 = pl + 1 - j1; omega, by show j1 ≤ pl + 1; omega⟩) h zd_Su_addLetter_124
              · have e3 : 1 = 0 := zc_ne0_f (by omega) (by omega) e3
                exact absurd e3 (by decide)
  exact loop _ 0 (wt + 1) j nd an L st en pa li sl ps dp ls H locs (Nat.lt_succ_self _) (hwt1) (hV0) (lv_sub hl [1, 2, 0] rfl) h
end
section
/-! The tree begins; what is found in it -/
section FD
variable {T R : Nat → Int32} {n NB M sh nd j fr lim : Nat} {st en pa sl ps dp : Nat → Nat}
theorem tG_0 {b : Nat} (h1 : NB < 2 ^ 30) (h2 : n ≤ NB) (h3 : n ≤ 65536) (hb1 : 3 ≤ b) (hb2 : b ≤ 18) (h4 : 4 * n ≤ 2 ^ b) (hz : ∀ i, i < 2 ^ b → sl i = 0) : tG T n NB (2 ^ b) (32 - b) 1 0 st en pa sl (fun _ => 0) (fun _ => 0) := by
  refine ⟨⟨h1, h2, h3, h4, b, hb1, hb2, rfl, rfl⟩, ⟨tr_I0 rfl, ⟨fun s hs => by rw [hz s hs]; decide, fun v hv => absurd hv.1 (by omega)⟩, by rw [hs_n_0 hz], fun s s' hs _ hne => absurd (hz s hs) hne⟩, fun v v0 v1 => absurd v0 (by omega), Nat.zero_le _, fun _ => rfl, fun z => absurd z (by omega)⟩
theorem tr_A0 : tr_A T 1 0 0 0 0 (fun _ => 0) (fun _ => 0) := ⟨Nat.one_pos, rfl, tr_eq_0, fun z => absurd z (by omega)⟩
theorem tr_L0 {lk : Nat → Nat} : tr_L T n 1 0 0 ps dp lk := fun v v0 v1 => absurd v0 (by omega)
/-- on the way down: node u, all its letters are found -/
def fd_I (T R : Nat → Int32) (fr lim nd u k : Nat) (ps dp : Nat → Nat) : Prop := u < nd ∧ k = dp u ∧ k ≤ lim ∧ tr_m T R (ps u) fr (dp u)
theorem fd_0 (h : tG T n NB M sh nd j st en pa sl ps dp) : fd_I T R fr lim nd 0 0 ps dp := by
  have e := h.2.1.1.1.1
  exact ⟨h.2.1.1.1.2, e.symm, Nat.zero_le _, fun i hi => absurd hi (by omega)⟩
theorem fd_P (h : tG T n NB M sh nd j st en pa sl ps dp) {u k : Nat} (hI : fd_I T R fr lim nd u k ps dp) : 0 < k → ps u + k ≤ n ∧ tr_m T R (ps u) fr k ∧ ∀ p, p < ps u → ¬ tr_m T R p fr k := by
  obtain ⟨i1, rfl, i3, i4⟩ := hI
  intro hk
  have hT := h.2.1.1
  have hu : 0 < u := by
    rcases Nat.eq_zero_or_pos u with z | z
    · rw [z, hT.1.1] at hk; omega
    · exact z
  obtain ⟨p1, p2, p3, p4, p5⟩ := hT.2.1 u hu i1
  exact ⟨p3, i4, fun p hp => tr_first hT hu i1 p2 i4 hp⟩
theorem fd_full (h : tG T n NB M sh nd j st en pa sl ps dp) {u k : Nat} (hI : fd_I T R fr lim nd u k ps dp) (hk : lim ≤ k) : lg_is T n R fr lim k (ps u) := ⟨hI.2.2.1, fd_P h hI, fun z => absurd z (by omega)⟩
theorem fd_none (h : tG T n NB M sh nd j st en pa sl ps dp) (hW : tr_W T n j) {u k r : Nat} (hI : fd_I T R fr lim nd u k ps dp) (hq : hs_r M sl (hok pa st T u (R (fr + k))) (hN sh u (R (fr + k))) r) (hz : sl r = 0) : lg_is T n R fr lim k (ps u) := by
  refine ⟨hI.2.2.1, fd_P h hI, fun _ p hp hm => ?_⟩
  obtain ⟨i1, rfl, i3, i4⟩ := hI
  obtain ⟨w, w1, w2, w3, w4⟩ := tr_find h.2.1.1 hW i1 i4 hp hm
  have := gw_hit h.2.1 (tG_q h hq) w1 w2 w3 w4
  omega
/-- the child where it goes on -/
theorem fd_kid (h : tG T n NB M sh nd j st en pa sl ps dp) {u k r : Nat} (hI : fd_I T R fr lim nd u k ps dp) (hq : hs_r M sl (hok pa st T u (R (fr + k))) (hN sh u (R (fr + k))) r) (hz : sl r ≠ 0) : 0 < sl r ∧ sl r < nd ∧ pa (sl r) = u ∧ T (ps (sl r) + dp u) = R (fr + k) ∧ st (sl r) = ps (sl r) + k ∧ en (sl r) = ps (sl r) + dp (sl r) ∧ k < dp (sl r) ∧ ps (sl r) + dp (sl r) ≤ n := by
  rcases gw_look h.2.1 (tG_q h hq) with ⟨z, -⟩ | ⟨z1, z2, z3, z4⟩
  · exact absurd z hz
  · obtain ⟨s1, s2⟩ := h.2.2.1 (sl r) z1 z2
    obtain ⟨p1, p2, p3, p4, p5⟩ := h.2.1.1.2.1 (sl r) z1 z2
    rw [z3] at s1 p2
    have := hI.2.1
    exact ⟨z1, z2, z3, z4, by omega, s2, by omega, p3⟩
theorem fd_m (h : tG T n NB M sh nd j st en pa sl ps dp) {u k w sm : Nat} (hI : fd_I T R fr lim nd u k ps dp) (w1 : 0 < w) (w2 : w < nd) (w3 : pa w = u) (hs : ∀ i, i < sm → T (ps w + k + i) = R (fr + k + i)) : tr_m T R (ps w) fr (k + sm) := by
  obtain ⟨i1, rfl, i3, i4⟩ := hI
  have p5 := (h.2.1.1.2.1 w w1 w2).2.2.2.2
  rw [w3] at p5
  intro i hi
  by_cases hc : i < dp u
  · exact ((p5 i hc).symm).trans (i4 i hc)
  · have := hs (i - dp u) (by omega)
    rw [show ps w + dp u + (i - dp u) = ps w + i by omega, show fr + dp u + (i - dp u) = fr + i by omega] at this
    exact this
/-- it ends inside the edge -/
theorem fd_part (h : tG T n NB M sh nd j st en pa sl ps dp) (hW : tr_W T n j) {u k w sm : Nat} (hI : fd_I T R fr lim nd u k ps dp) (w1 : 0 < w) (w2 : w < nd) (w3 : pa w = u) (hs0 : 0 < sm) (hs : ∀ i, i < sm → T (ps w + k + i) = R (fr + k + i)) (h1 : k + sm < dp w) (h2 : k + sm ≤ lim) (hx : k + sm < lim → T (ps w + k + sm) ≠ R (fr + k + sm)) : lg_is T n R fr lim (k + sm) (ps w) := by
  have hm := fd_m h hI w1 w2 w3 hs
  have hT := h.2.1.1
  obtain ⟨p1, p2, p3, p4, p5⟩ := hT.2.1 w w1 w2
  have hk := hI.2.1
  have hpk : dp (pa w) < k + sm := by rw [w3]; omega
  refine ⟨h2, fun _ => ⟨by omega, hm, fun p hp => tr_first hT w1 w2 hpk hm hp⟩, fun hlt p hp hpm => ?_⟩
  have := tr_inside hT hW w1 w2 hpk h1 hm hp hpm
  rw [← Nat.add_assoc, ← Nat.add_assoc] at this
  exact hx hlt this
/-- .. the whole edge -/
theorem fd_go (h : tG T n NB M sh nd j st en pa sl ps dp) {u k w sm : Nat} (hI : fd_I T R fr lim nd u k ps dp) (w1 : 0 < w) (w2 : w < nd) (w3 : pa w = u) (hs : ∀ i, i < sm → T (ps w + k + i) = R (fr + k + i)) (h1 : k + sm = dp w) (h2 : k + sm ≤ lim) : fd_I T R fr lim nd w (k + sm) ps dp := ⟨w2, h1, h2, by rw [← h1]; exact fd_m h hI w1 w2 w3 hs⟩
end FD
end
