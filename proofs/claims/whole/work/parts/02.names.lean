abbrev zR_Pr : String := "DeltaPress"
def zF_Pr : u_T := fun k => match k with
  | 0 => ("DeltaPress", "input", "LDeltaPress$Text;", false)
  | 1 => ("DeltaPress", "base", "LDeltaPress$Text;", false)
  | 2 => ("DeltaPress", "output", "LDeltaPress$Text;", false)
  | 3 => ("DeltaPress", "spare", "LDeltaPress$Text;", false)
  | 4 => ("DeltaPress", "tree", "LDeltaPress$SuffixTree;", true)
  | 5 => ("DeltaPress", "treeIsOfBase", "Z", false)
  | 6 => ("DeltaPress", "reader", "LDeltaPress$DeltaReader;", true)
  | 7 => ("DeltaPress", "copiesMade", "I", false)
  | 8 => ("DeltaPress", "newBytesMade", "I", false)
  | _ => ("DeltaPress", "damagedReadings", "I", false)
def zT_Pr : Nat → FieldType := fun k => match k with
  | 0 => .object "DeltaPress$Text"
  | 1 => .object "DeltaPress$Text"
  | 2 => .object "DeltaPress$Text"
  | 3 => .object "DeltaPress$Text"
  | 4 => .object "DeltaPress$SuffixTree"
  | 5 => .boolean
  | 6 => .object "DeltaPress$DeltaReader"
  | 7 => .int
  | 8 => .int
  | _ => .int
theorem zN_Pr : ∀ a, a < 10 → ∀ b, b < 10 → a ≠ b → (zF_Pr a).2.1 ≠ (zF_Pr b).2.1 := by decide +kernel
theorem zO_Pr : ∀ k, k < 10 → parseFieldDescriptor (zF_Pr k).2.2.1 = some (zT_Pr k) := by decide +kernel
theorem zW_Pr : ∀ w ∈ u_ws zR_Pr zF_Pr 10, w ∈ wz := by
  intro w h
  have h : w ∈ ([.lays "DeltaPress" "DeltaPress" "input" "LDeltaPress$Text;", .lays "DeltaPress" "DeltaPress" "base" "LDeltaPress$Text;", .lays "DeltaPress" "DeltaPress" "output" "LDeltaPress$Text;", .lays "DeltaPress" "DeltaPress" "spare" "LDeltaPress$Text;", .laysFinal "DeltaPress" "DeltaPress" "tree" "LDeltaPress$SuffixTree;", .lays "DeltaPress" "DeltaPress" "treeIsOfBase" "Z", .laysFinal "DeltaPress" "DeltaPress" "reader" "LDeltaPress$DeltaReader;", .lays "DeltaPress" "DeltaPress" "copiesMade" "I", .lays "DeltaPress" "DeltaPress" "newBytesMade" "I", .lays "DeltaPress" "DeltaPress" "damagedReadings" "I"] : List Cond) := h
  simp only [List.mem_cons, List.not_mem_nil, or_false] at h
  rcases h with rfl | rfl | rfl | rfl | rfl | rfl | rfl | rfl | rfl | rfl
  · exact zw_115
  · exact zw_117
  · exact zw_119
  · exact zw_121
  · exact zw_123
  · exact zw_125
  · exact zw_127
  · exact zw_129
  · exact zw_131
  · exact zw_133
abbrev zR_Tx : String := "DeltaPress$Text"
def zF_Tx : u_T := fun k => match k with
  | 0 => ("DeltaPress$Text", "bytes", "[B", true)
  | _ => ("DeltaPress$Text", "length", "I", false)
def zT_Tx : Nat → FieldType := fun k => match k with
  | 0 => .array .byte
  | _ => .int
theorem zN_Tx : ∀ a, a < 2 → ∀ b, b < 2 → a ≠ b → (zF_Tx a).2.1 ≠ (zF_Tx b).2.1 := by decide +kernel
theorem zO_Tx : ∀ k, k < 2 → parseFieldDescriptor (zF_Tx k).2.2.1 = some (zT_Tx k) := by decide +kernel
theorem zW_Tx : ∀ w ∈ u_ws zR_Tx zF_Tx 2, w ∈ wz := by
  intro w h
  have h : w ∈ ([.laysFinal "DeltaPress$Text" "DeltaPress$Text" "bytes" "[B", .lays "DeltaPress$Text" "DeltaPress$Text" "length" "I"] : List Cond) := h
  simp only [List.mem_cons, List.not_mem_nil, or_false] at h
  rcases h with rfl | rfl
  · exact zw_33
  · exact zw_35
abbrev zR_Su : String := "DeltaPress$SuffixTree"
def zF_Su : u_T := fun k => match k with
  | 0 => ("DeltaPress$SuffixTree", "text", "[B", false)
  | 1 => ("DeltaPress$SuffixTree", "length", "I", false)
  | 2 => ("DeltaPress$SuffixTree", "start", "[I", true)
  | 3 => ("DeltaPress$SuffixTree", "end", "[I", true)
  | 4 => ("DeltaPress$SuffixTree", "parent", "[I", true)
  | 5 => ("DeltaPress$SuffixTree", "link", "[I", true)
  | 6 => ("DeltaPress$SuffixTree", "nodes", "I", false)
  | 7 => ("DeltaPress$SuffixTree", "slots", "[I", true)
  | 8 => ("DeltaPress$SuffixTree", "slotsUsed", "I", false)
  | 9 => ("DeltaPress$SuffixTree", "slotShift", "I", false)
  | 10 => ("DeltaPress$SuffixTree", "activeNode", "I", false)
  | 11 => ("DeltaPress$SuffixTree", "activeLength", "I", false)
  | 12 => ("DeltaPress$SuffixTree", "waiting", "I", false)
  | 13 => ("DeltaPress$SuffixTree", "foundLength", "I", false)
  | _ => ("DeltaPress$SuffixTree", "foundPlace", "I", false)
def zT_Su : Nat → FieldType := fun k => match k with
  | 0 => .array .byte
  | 1 => .int
  | 2 => .array .int
  | 3 => .array .int
  | 4 => .array .int
  | 5 => .array .int
  | 6 => .int
  | 7 => .array .int
  | 8 => .int
  | 9 => .int
  | 10 => .int
  | 11 => .int
  | 12 => .int
  | 13 => .int
  | _ => .int
theorem zN_Su : ∀ a, a < 15 → ∀ b, b < 15 → a ≠ b → (zF_Su a).2.1 ≠ (zF_Su b).2.1 := by decide +kernel
theorem zO_Su : ∀ k, k < 15 → parseFieldDescriptor (zF_Su k).2.2.1 = some (zT_Su k) := by decide +kernel
theorem zW_Su : ∀ w ∈ u_ws zR_Su zF_Su 15, w ∈ wz := by
  intro w h
  have h : w ∈ ([.lays "DeltaPress$SuffixTree" "DeltaPress$SuffixTree" "text" "[B", .lays "DeltaPress$SuffixTree" "DeltaPress$SuffixTree" "length" "I", .laysFinal "DeltaPress$SuffixTree" "DeltaPress$SuffixTree" "start" "[I", .laysFinal "DeltaPress$SuffixTree" "DeltaPress$SuffixTree" "end" "[I", .laysFinal "DeltaPress$SuffixTree" "DeltaPress$SuffixTree" "parent" "[I", .laysFinal "DeltaPress$SuffixTree" "DeltaPress$SuffixTree" "link" "[I", .lays "DeltaPress$SuffixTree" "DeltaPress$SuffixTree" "nodes" "I", .laysFinal "DeltaPress$SuffixTree" "DeltaPress$SuffixTree" "slots" "[I", .lays "DeltaPress$SuffixTree" "DeltaPress$SuffixTree" "slotsUsed" "I", .lays "DeltaPress$SuffixTree" "DeltaPress$SuffixTree" "slotShift" "I", .lays "DeltaPress$SuffixTree" "DeltaPress$SuffixTree" "activeNode" "I", .lays "DeltaPress$SuffixTree" "DeltaPress$SuffixTree" "activeLength" "I", .lays "DeltaPress$SuffixTree" "DeltaPress$SuffixTree" "waiting" "I", .lays "DeltaPress$SuffixTree" "DeltaPress$SuffixTree" "foundLength" "I", .lays "DeltaPress$SuffixTree" "DeltaPress$SuffixTree" "foundPlace" "I"] : List Cond) := h
  simp only [List.mem_cons, List.not_mem_nil, or_false] at h
  rcases h with rfl | rfl | rfl | rfl | rfl | rfl | rfl | rfl | rfl | rfl | rfl | rfl | rfl | rfl | rfl
  · exact zw_63
  · exact zw_65
  · exact zw_67
  · exact zw_69
  · exact zw_71
  · exact zw_73
  · exact zw_75
  · exact zw_77
  · exact zw_79
  · exact zw_81
  · exact zw_83
  · exact zw_85
  · exact zw_87
  · exact zw_89
  · exact zw_91
abbrev zR_De : String := "DeltaPress$DeltaReader"
def zF_De : u_T := fun k => match k with
  | _ => ("DeltaPress$DeltaReader", "place", "I", false)
def zT_De : Nat → FieldType := fun k => match k with
  | _ => .int
theorem zN_De : ∀ a, a < 1 → ∀ b, b < 1 → a ≠ b → (zF_De a).2.1 ≠ (zF_De b).2.1 := by decide +kernel
theorem zO_De : ∀ k, k < 1 → parseFieldDescriptor (zF_De k).2.2.1 = some (zT_De k) := by decide +kernel
theorem zW_De : ∀ w ∈ u_ws zR_De zF_De 1, w ∈ wz := by
  intro w h
  have h : w ∈ ([.lays "DeltaPress$DeltaReader" "DeltaPress$DeltaReader" "place" "I"] : List Cond) := h
  simp only [List.mem_cons, List.not_mem_nil, or_false] at h
  rcases h with rfl
  · exact zw_102
abbrev zR_Mo : String := "DeltaPressModel"
def zF_Mo : u_T := fun k => match k with
  | 0 => ("DeltaPressModel", "input", "[B", true)
  | 1 => ("DeltaPressModel", "base", "[B", true)
  | 2 => ("DeltaPressModel", "output", "[B", true)
  | 3 => ("DeltaPressModel", "room", "[B", true)
  | 4 => ("DeltaPressModel", "size", "I", false)
  | 5 => ("DeltaPressModel", "baseSize", "I", false)
  | 6 => ("DeltaPressModel", "made", "I", false)
  | 7 => ("DeltaPressModel", "copies", "I", false)
  | 8 => ("DeltaPressModel", "fresh", "I", false)
  | 9 => ("DeltaPressModel", "damaged", "I", false)
  | 10 => ("DeltaPressModel", "thrown", "I", false)
  | 11 => ("DeltaPressModel", "best", "I", false)
  | 12 => ("DeltaPressModel", "where", "I", false)
  | 13 => ("DeltaPressModel", "at", "I", false)
  | 14 => ("DeltaPressModel", "wrong", "Z", false)
  | _ => ("DeltaPressModel", "filled", "I", false)
def zT_Mo : Nat → FieldType := fun k => match k with
  | 0 => .array .byte
  | 1 => .array .byte
  | 2 => .array .byte
  | 3 => .array .byte
  | 4 => .int
  | 5 => .int
  | 6 => .int
  | 7 => .int
  | 8 => .int
  | 9 => .int
  | 10 => .int
  | 11 => .int
  | 12 => .int
  | 13 => .int
  | 14 => .boolean
  | _ => .int
theorem zN_Mo : ∀ a, a < 16 → ∀ b, b < 16 → a ≠ b → (zF_Mo a).2.1 ≠ (zF_Mo b).2.1 := by decide +kernel
theorem zO_Mo : ∀ k, k < 16 → parseFieldDescriptor (zF_Mo k).2.2.1 = some (zT_Mo k) := by decide +kernel
theorem zW_Mo : ∀ w ∈ u_ws zR_Mo zF_Mo 16, w ∈ wz := by
  intro w h
  have h : w ∈ ([.laysFinal "DeltaPressModel" "DeltaPressModel" "input" "[B", .laysFinal "DeltaPressModel" "DeltaPressModel" "base" "[B", .laysFinal "DeltaPressModel" "DeltaPressModel" "output" "[B", .laysFinal "DeltaPressModel" "DeltaPressModel" "room" "[B", .lays "DeltaPressModel" "DeltaPressModel" "size" "I", .lays "DeltaPressModel" "DeltaPressModel" "baseSize" "I", .lays "DeltaPressModel" "DeltaPressModel" "made" "I", .lays "DeltaPressModel" "DeltaPressModel" "copies" "I", .lays "DeltaPressModel" "DeltaPressModel" "fresh" "I", .lays "DeltaPressModel" "DeltaPressModel" "damaged" "I", .lays "DeltaPressModel" "DeltaPressModel" "thrown" "I", .lays "DeltaPressModel" "DeltaPressModel" "best" "I", .lays "DeltaPressModel" "DeltaPressModel" "where" "I", .lays "DeltaPressModel" "DeltaPressModel" "at" "I", .lays "DeltaPressModel" "DeltaPressModel" "wrong" "Z", .lays "DeltaPressModel" "DeltaPressModel" "filled" "I"] : List Cond) := h
  simp only [List.mem_cons, List.not_mem_nil, or_false] at h
  rcases h with rfl | rfl | rfl | rfl | rfl | rfl | rfl | rfl | rfl | rfl | rfl | rfl | rfl | rfl | rfl | rfl
  · exact zw_509
  · exact zw_511
  · exact zw_513
  · exact zw_515
  · exact zw_517
  · exact zw_519
  · exact zw_521
  · exact zw_523
  · exact zw_525
  · exact zw_527
  · exact zw_529
  · exact zw_531
  · exact zw_533
  · exact zw_535
  · exact zw_537
  · exact zw_539
abbrev zR_La : String := "DeltaPressLaw"
abbrev zR_In : String := "java/lang/Integer"
/-- the classes whose objects the worlds hold -/
abbrev zC : List vw_C := [(zR_Pr, zF_Pr, 10), (zR_Tx, zF_Tx, 2), (zR_Su, zF_Su, 15), (zR_De, zF_De, 1), (zR_Mo, zF_Mo, 16)]
abbrev zb_Pr_init : ByteArray := prog_1_method_1_code
abbrev zy_Pr_init : MethodName := ⟨"DeltaPress", "<init>", "()V"⟩
theorem zm_Pr_init : Cond.code zy_Pr_init zb_Pr_init 1 (none) ∈ wz := zw_20
abbrev zb_Tx_init : ByteArray := prog_4_method_1_code
abbrev zy_Tx_init : MethodName := ⟨"DeltaPress$Text", "<init>", "(I)V"⟩
theorem zm_Tx_init : Cond.code zy_Tx_init zb_Tx_init 2 (none) ∈ wz := zw_29
abbrev zb_Su_init : ByteArray := prog_3_method_1_code
abbrev zy_Su_init : MethodName := ⟨"DeltaPress$SuffixTree", "<init>", "()V"⟩
theorem zm_Su_init : Cond.code zy_Su_init zb_Su_init 1 (none) ∈ wz := zw_44
abbrev zb_De_init : ByteArray := prog_2_method_1_code
abbrev zy_De_init : MethodName := ⟨"DeltaPress$DeltaReader", "<init>", "()V"⟩
theorem zm_De_init : Cond.code zy_De_init zb_De_init 1 (none) ∈ wz := zw_99
abbrev zb_Pr_base : ByteArray := prog_1_method_5_code
abbrev zy_Pr_base : MethodName := ⟨"DeltaPress", "base", "()I"⟩
theorem zm_Pr_base : Cond.code zy_Pr_base zb_Pr_base 2 (some .int) ∈ wz := zw_139
abbrev zb_Tx_cut : ByteArray := prog_4_method_6_code
abbrev zy_Tx_cut : MethodName := ⟨"DeltaPress$Text", "cut", "(I)V"⟩
theorem zm_Tx_cut : Cond.code zy_Tx_cut zb_Tx_cut 2 (none) ∈ wz := zw_143
abbrev zb_Tx_size : ByteArray := prog_4_method_2_code
abbrev zy_Tx_size : MethodName := ⟨"DeltaPress$Text", "size", "()I"⟩
theorem zm_Tx_size : Cond.code zy_Tx_size zb_Tx_size 1 (some .int) ∈ wz := zw_147
abbrev zb_Pr_make : ByteArray := prog_1_method_6_code
abbrev zy_Pr_make : MethodName := ⟨"DeltaPress", "make", "()I"⟩
theorem zm_Pr_make : Cond.code zy_Pr_make zb_Pr_make 4 (some .int) ∈ wz := zw_151
abbrev zb_Tx_addNumber : ByteArray := prog_4_method_10_code
abbrev zy_Tx_addNumber : MethodName := ⟨"DeltaPress$Text", "addNumber", "(I)V"⟩
theorem zm_Tx_addNumber : Cond.code zy_Tx_addNumber zb_Tx_addNumber 4 (none) ∈ wz := zw_155
abbrev zb_Tx_add : ByteArray := prog_4_method_8_code
abbrev zy_Tx_add : MethodName := ⟨"DeltaPress$Text", "add", "(I)V"⟩
theorem zm_Tx_add : Cond.code zy_Tx_add zb_Tx_add 2 (none) ∈ wz := zw_159
abbrev zb_Pr_findLongest : ByteArray := prog_1_method_12_code
abbrev zy_Pr_findLongest : MethodName := ⟨"DeltaPress", "findLongest", "(I)V"⟩
theorem zm_Pr_findLongest : Cond.code zy_Pr_findLongest zb_Pr_findLongest 2 (none) ∈ wz := zw_163
abbrev zb_Su_grow : ByteArray := prog_3_method_4_code
abbrev zy_Su_grow : MethodName := ⟨"DeltaPress$SuffixTree", "grow", "(LDeltaPress$Text;)V"⟩
theorem zm_Su_grow : Cond.code zy_Su_grow zb_Su_grow 3 (none) ∈ wz := zw_167
abbrev zb_Tx_row : ByteArray := prog_4_method_5_code
abbrev zy_Tx_row : MethodName := ⟨"DeltaPress$Text", "row", "()[B"⟩
theorem zm_Tx_row : Cond.code zy_Tx_row zb_Tx_row 1 (some (.array .byte)) ∈ wz := zw_171
abbrev zb_Su_emptySlots : ByteArray := prog_3_method_5_code
abbrev zy_Su_emptySlots : MethodName := ⟨"DeltaPress$SuffixTree", "emptySlots", "()V"⟩
theorem zm_Su_emptySlots : Cond.code zy_Su_emptySlots zb_Su_emptySlots 2 (none) ∈ wz := zw_176
abbrev zb_In_highestOneBit : ByteArray := prog_12_method_45_code
abbrev zy_In_highestOneBit : MethodName := ⟨"java/lang/Integer", "highestOneBit", "(I)I"⟩
theorem zm_In_highestOneBit : Cond.code zy_In_highestOneBit zb_In_highestOneBit 1 (some .int) ∈ wz := zw_182
abbrev zb_In_numberOfLeadingZeros : ByteArray := prog_12_method_47_code
abbrev zy_In_numberOfLeadingZeros : MethodName := ⟨"java/lang/Integer", "numberOfLeadingZeros", "(I)I"⟩
theorem zm_In_numberOfLeadingZeros : Cond.code zy_In_numberOfLeadingZeros zb_In_numberOfLeadingZeros 2 (some .int) ∈ wz := zw_186
abbrev zb_In_bitCount : ByteArray := prog_12_method_49_code
abbrev zy_In_bitCount : MethodName := ⟨"java/lang/Integer", "bitCount", "(I)I"⟩
theorem zm_In_bitCount : Cond.code zy_In_bitCount zb_In_bitCount 1 (some .int) ∈ wz := zw_190
abbrev zb_Su_addLetter : ByteArray := prog_3_method_6_code
abbrev zy_Su_addLetter : MethodName := ⟨"DeltaPress$SuffixTree", "addLetter", "(I)V"⟩
theorem zm_Su_addLetter : Cond.code zy_Su_addLetter zb_Su_addLetter 7 (none) ∈ wz := zw_197
abbrev zb_Su_goDown : ByteArray := prog_3_method_7_code
abbrev zy_Su_goDown : MethodName := ⟨"DeltaPress$SuffixTree", "goDown", "(I)I"⟩
theorem zm_Su_goDown : Cond.code zy_Su_goDown zb_Su_goDown 6 (some .int) ∈ wz := zw_201
abbrev zb_Su_slotOf : ByteArray := prog_3_method_12_code
abbrev zy_Su_slotOf : MethodName := ⟨"DeltaPress$SuffixTree", "slotOf", "(IB)I"⟩
theorem zm_Su_slotOf : Cond.code zy_Su_slotOf zb_Su_slotOf 6 (some .int) ∈ wz := zw_205
abbrev zb_Su_split : ByteArray := prog_3_method_8_code
abbrev zy_Su_split : MethodName := ⟨"DeltaPress$SuffixTree", "split", "(II)I"⟩
theorem zm_Su_split : Cond.code zy_Su_split zb_Su_split 5 (some .int) ∈ wz := zw_210
abbrev zb_Su_addNode : ByteArray := prog_3_method_10_code
abbrev zy_Su_addNode : MethodName := ⟨"DeltaPress$SuffixTree", "addNode", "(III)I"⟩
theorem zm_Su_addNode : Cond.code zy_Su_addNode zb_Su_addNode 5 (some .int) ∈ wz := zw_214
abbrev zb_Su_addLeaf : ByteArray := prog_3_method_9_code
abbrev zy_Su_addLeaf : MethodName := ⟨"DeltaPress$SuffixTree", "addLeaf", "(II)V"⟩
theorem zm_Su_addLeaf : Cond.code zy_Su_addLeaf zb_Su_addLeaf 4 (none) ∈ wz := zw_218
abbrev zb_Su_goToNextSuffix : ByteArray := prog_3_method_11_code
abbrev zy_Su_goToNextSuffix : MethodName := ⟨"DeltaPress$SuffixTree", "goToNextSuffix", "()V"⟩
theorem zm_Su_goToNextSuffix : Cond.code zy_Su_goToNextSuffix zb_Su_goToNextSuffix 1 (none) ∈ wz := zw_222
abbrev zb_Su_find : ByteArray := prog_3_method_13_code
abbrev zy_Su_find : MethodName := ⟨"DeltaPress$SuffixTree", "find", "(LDeltaPress$Text;II)V"⟩
theorem zm_Su_find : Cond.code zy_Su_find zb_Su_find 10 (none) ∈ wz := zw_227
abbrev zb_Su_sameLetters : ByteArray := prog_3_method_14_code
abbrev zy_Su_sameLetters : MethodName := ⟨"DeltaPress$SuffixTree", "sameLetters", "(I[BII)I"⟩
theorem zm_Su_sameLetters : Cond.code zy_Su_sameLetters zb_Su_sameLetters 6 (some .int) ∈ wz := zw_234
abbrev zb_Su_foundLength : ByteArray := prog_3_method_2_code
abbrev zy_Su_foundLength : MethodName := ⟨"DeltaPress$SuffixTree", "foundLength", "()I"⟩
theorem zm_Su_foundLength : Cond.code zy_Su_foundLength zb_Su_foundLength 1 (some .int) ∈ wz := zw_238
abbrev zb_Pr_writeNew : ByteArray := prog_1_method_13_code
abbrev zy_Pr_writeNew : MethodName := ⟨"DeltaPress", "writeNew", "(II)V"⟩
theorem zm_Pr_writeNew : Cond.code zy_Pr_writeNew zb_Pr_writeNew 5 (none) ∈ wz := zw_242
abbrev zb_Tx_addPart : ByteArray := prog_4_method_12_code
abbrev zy_Tx_addPart : MethodName := ⟨"DeltaPress$Text", "addPart", "(LDeltaPress$Text;II)V"⟩
theorem zm_Tx_addPart : Cond.code zy_Tx_addPart zb_Tx_addPart 4 (none) ∈ wz := zw_248
abbrev zb_Su_foundPlace : ByteArray := prog_3_method_3_code
abbrev zy_Su_foundPlace : MethodName := ⟨"DeltaPress$SuffixTree", "foundPlace", "()I"⟩
theorem zm_Su_foundPlace : Cond.code zy_Su_foundPlace zb_Su_foundPlace 1 (some .int) ∈ wz := zw_255
abbrev zb_Pr_writeCopy : ByteArray := prog_1_method_14_code
abbrev zy_Pr_writeCopy : MethodName := ⟨"DeltaPress", "writeCopy", "(II)V"⟩
theorem zm_Pr_writeCopy : Cond.code zy_Pr_writeCopy zb_Pr_writeCopy 4 (none) ∈ wz := zw_259
abbrev zb_Pr_bitsOfBytes : ByteArray := prog_1_method_15_code
abbrev zy_Pr_bitsOfBytes : MethodName := ⟨"DeltaPress", "bitsOfBytes", "(II)I"⟩
theorem zm_Pr_bitsOfBytes : Cond.code zy_Pr_bitsOfBytes zb_Pr_bitsOfBytes 4 (some .int) ∈ wz := zw_262
abbrev zb_Tx_addBytesNotZero : ByteArray := prog_4_method_11_code
abbrev zy_Tx_addBytesNotZero : MethodName := ⟨"DeltaPress$Text", "addBytesNotZero", "(II)V"⟩
theorem zm_Tx_addBytesNotZero : Cond.code zy_Tx_addBytesNotZero zb_Tx_addBytesNotZero 5 (none) ∈ wz := zw_266
abbrev zb_Pr_count : ByteArray := prog_1_method_11_code
abbrev zy_Pr_count : MethodName := ⟨"DeltaPress", "count", "(I)I"⟩
theorem zm_Pr_count : Cond.code zy_Pr_count zb_Pr_count 2 (some .int) ∈ wz := zw_270
abbrev zb_La_feed : ByteArray := method_3_code
abbrev zy_La_feed : MethodName := ⟨"DeltaPressLaw", "feed", "(LDeltaPress;IIIII[J)I"⟩
abbrev zb_Pr_feed : ByteArray := prog_1_method_2_code
abbrev zy_Pr_feed : MethodName := ⟨"DeltaPress", "feed", "(IIIII)I"⟩
theorem zm_Pr_feed : Cond.code zy_Pr_feed zb_Pr_feed 6 (some .int) ∈ wz := zw_278
abbrev zb_Tx_addFour : ByteArray := prog_4_method_9_code
abbrev zy_Tx_addFour : MethodName := ⟨"DeltaPress$Text", "addFour", "(I)V"⟩
theorem zm_Tx_addFour : Cond.code zy_Tx_addFour zb_Tx_addFour 2 (none) ∈ wz := zw_351
abbrev zb_La_end : ByteArray := method_4_code
abbrev zy_La_end : MethodName := ⟨"DeltaPressLaw", "end", "(LDeltaPress;I[J)I"⟩
abbrev zb_Pr_end : ByteArray := prog_1_method_3_code
abbrev zy_Pr_end : MethodName := ⟨"DeltaPress", "end", "(I)I"⟩
theorem zm_Pr_end : Cond.code zy_Pr_end zb_Pr_end 2 (some .int) ∈ wz := zw_359
abbrev zb_La_change : ByteArray := method_5_code
abbrev zy_La_change : MethodName := ⟨"DeltaPressLaw", "change", "(LDeltaPress;II)I"⟩
abbrev zb_Pr_change : ByteArray := prog_1_method_4_code
abbrev zy_Pr_change : MethodName := ⟨"DeltaPress", "change", "(II)V"⟩
theorem zm_Pr_change : Cond.code zy_Pr_change zb_Pr_change 3 (none) ∈ wz := zw_382
abbrev zb_Tx_has : ByteArray := prog_4_method_3_code
abbrev zy_Tx_has : MethodName := ⟨"DeltaPress$Text", "has", "(I)Z"⟩
theorem zm_Tx_has : Cond.code zy_Tx_has zb_Tx_has 2 (some .boolean) ∈ wz := zw_386
abbrev zb_Tx_flip : ByteArray := prog_4_method_7_code
abbrev zy_Tx_flip : MethodName := ⟨"DeltaPress$Text", "flip", "(II)V"⟩
theorem zm_Tx_flip : Cond.code zy_Tx_flip zb_Tx_flip 3 (none) ∈ wz := zw_392
abbrev zb_La_use : ByteArray := method_6_code
abbrev zy_La_use : MethodName := ⟨"DeltaPressLaw", "use", "(LDeltaPress;[J)I"⟩
abbrev zb_Pr_use : ByteArray := prog_1_method_7_code
abbrev zy_Pr_use : MethodName := ⟨"DeltaPress", "use", "()I"⟩
theorem zm_Pr_use : Cond.code zy_Pr_use zb_Pr_use 2 (some .int) ∈ wz := zw_400
abbrev zb_De_isRead : ByteArray := prog_2_method_2_code
abbrev zy_De_isRead : MethodName := ⟨"DeltaPress$DeltaReader", "isRead", "(LDeltaPress$Text;LDeltaPress$Text;LDeltaPress$Text;)Z"⟩
theorem zm_De_isRead : Cond.code zy_De_isRead zb_De_isRead 7 (some .boolean) ∈ wz := zw_404
abbrev zb_De_readNumber : ByteArray := prog_2_method_3_code
abbrev zy_De_readNumber : MethodName := ⟨"DeltaPress$DeltaReader", "readNumber", "(LDeltaPress$Text;)I"⟩
theorem zm_De_readNumber : Cond.code zy_De_readNumber zb_De_readNumber 5 (some .int) ∈ wz := zw_409
abbrev zb_Tx_at : ByteArray := prog_4_method_4_code
abbrev zy_Tx_at : MethodName := ⟨"DeltaPress$Text", "at", "(I)I"⟩
theorem zm_Tx_at : Cond.code zy_Tx_at zb_Tx_at 2 (some .int) ∈ wz := zw_414
abbrev zb_De_isCopyRead : ByteArray := prog_2_method_4_code
abbrev zy_De_isCopyRead : MethodName := ⟨"DeltaPress$DeltaReader", "isCopyRead", "(LDeltaPress$Text;ILDeltaPress$Text;LDeltaPress$Text;I)Z"⟩
theorem zm_De_isCopyRead : Cond.code zy_De_isCopyRead zb_De_isCopyRead 8 (some .boolean) ∈ wz := zw_419
abbrev zb_De_readChosenBytes : ByteArray := prog_2_method_5_code
abbrev zy_De_readChosenBytes : MethodName := ⟨"DeltaPress$DeltaReader", "readChosenBytes", "(LDeltaPress$Text;II)I"⟩
theorem zm_De_readChosenBytes : Cond.code zy_De_readChosenBytes zb_De_readChosenBytes 6 (some .int) ∈ wz := zw_423
abbrev zb_De_isNewRead : ByteArray := prog_2_method_6_code
abbrev zy_De_isNewRead : MethodName := ⟨"DeltaPress$DeltaReader", "isNewRead", "(LDeltaPress$Text;ILDeltaPress$Text;I)Z"⟩
theorem zm_De_isNewRead : Cond.code zy_De_isNewRead zb_De_isNewRead 5 (some .boolean) ∈ wz := zw_428
abbrev zb_La_turn : ByteArray := method_7_code
abbrev zy_La_turn : MethodName := ⟨"DeltaPressLaw", "turn", "(LDeltaPress;[J)I"⟩
abbrev zb_Pr_turn : ByteArray := prog_1_method_8_code
abbrev zy_Pr_turn : MethodName := ⟨"DeltaPress", "turn", "()I"⟩
theorem zm_Pr_turn : Cond.code zy_Pr_turn zb_Pr_turn 1 (some .int) ∈ wz := zw_451
abbrev zb_La_longest : ByteArray := method_8_code
abbrev zy_La_longest : MethodName := ⟨"DeltaPressLaw", "longest", "(LDeltaPress;II[J)I"⟩
abbrev zb_Pr_longest : ByteArray := prog_1_method_9_code
abbrev zy_Pr_longest : MethodName := ⟨"DeltaPress", "longest", "(II)I"⟩
theorem zm_Pr_longest : Cond.code zy_Pr_longest zb_Pr_longest 4 (some .int) ∈ wz := zw_458
abbrev zb_La_letter : ByteArray := method_9_code
abbrev zy_La_letter : MethodName := ⟨"DeltaPressLaw", "letter", "(LDeltaPress;I[J)I"⟩
abbrev zb_Pr_letter : ByteArray := prog_1_method_10_code
abbrev zy_Pr_letter : MethodName := ⟨"DeltaPress", "letter", "(I)I"⟩
theorem zm_Pr_letter : Cond.code zy_Pr_letter zb_Pr_letter 2 (some .int) ∈ wz := zw_467
abbrev zb_Mo_init : ByteArray := prog_6_method_1_code
abbrev zy_Mo_init : MethodName := ⟨"DeltaPressModel", "<init>", "()V"⟩
theorem zm_Mo_init : Cond.code zy_Mo_init zb_Mo_init 1 (none) ∈ wz := zw_489
abbrev zb_Mo_thrown : ByteArray := prog_6_method_2_code
abbrev zy_Mo_thrown : MethodName := ⟨"DeltaPressModel", "thrown", "()I"⟩
theorem zm_Mo_thrown : Cond.code zy_Mo_thrown zb_Mo_thrown 1 (some .int) ∈ wz := zw_545
abbrev zb_Mo_feed : ByteArray := prog_6_method_4_code
abbrev zy_Mo_feed : MethodName := ⟨"DeltaPressModel", "feed", "(IIIII)I"⟩
theorem zm_Mo_feed : Cond.code zy_Mo_feed zb_Mo_feed 8 (some .int) ∈ wz := zw_549
abbrev zb_Mo_refuse : ByteArray := prog_6_method_3_code
abbrev zy_Mo_refuse : MethodName := ⟨"DeltaPressModel", "refuse", "(I)I"⟩
theorem zm_Mo_refuse : Cond.code zy_Mo_refuse zb_Mo_refuse 2 (some .int) ∈ wz := zw_553
abbrev zb_Mo_end : ByteArray := prog_6_method_5_code
abbrev zy_Mo_end : MethodName := ⟨"DeltaPressModel", "end", "(I)I"⟩
theorem zm_Mo_end : Cond.code zy_Mo_end zb_Mo_end 2 (some .int) ∈ wz := zw_557
abbrev zb_Mo_change : ByteArray := prog_6_method_6_code
abbrev zy_Mo_change : MethodName := ⟨"DeltaPressModel", "change", "(II)V"⟩
theorem zm_Mo_change : Cond.code zy_Mo_change zb_Mo_change 3 (none) ∈ wz := zw_561
abbrev zb_Mo_base : ByteArray := prog_6_method_7_code
abbrev zy_Mo_base : MethodName := ⟨"DeltaPressModel", "base", "()I"⟩
theorem zm_Mo_base : Cond.code zy_Mo_base zb_Mo_base 2 (some .int) ∈ wz := zw_565
abbrev zb_Mo_make : ByteArray := prog_6_method_13_code
abbrev zy_Mo_make : MethodName := ⟨"DeltaPressModel", "make", "()I"⟩
theorem zm_Mo_make : Cond.code zy_Mo_make zb_Mo_make 3 (some .int) ∈ wz := zw_569
abbrev zb_Mo_putNumber : ByteArray := prog_6_method_10_code
abbrev zy_Mo_putNumber : MethodName := ⟨"DeltaPressModel", "putNumber", "(I)V"⟩
theorem zm_Mo_putNumber : Cond.code zy_Mo_putNumber zb_Mo_putNumber 3 (none) ∈ wz := zw_573
abbrev zb_Mo_put : ByteArray := prog_6_method_9_code
abbrev zy_Mo_put : MethodName := ⟨"DeltaPressModel", "put", "(I)V"⟩
theorem zm_Mo_put : Cond.code zy_Mo_put zb_Mo_put 2 (none) ∈ wz := zw_577
abbrev zb_Mo_look : ByteArray := prog_6_method_8_code
abbrev zy_Mo_look : MethodName := ⟨"DeltaPressModel", "look", "(I)V"⟩
theorem zm_Mo_look : Cond.code zy_Mo_look zb_Mo_look 4 (none) ∈ wz := zw_581
abbrev zb_Mo_putFresh : ByteArray := prog_6_method_12_code
abbrev zy_Mo_putFresh : MethodName := ⟨"DeltaPressModel", "putFresh", "(II)V"⟩
theorem zm_Mo_putFresh : Cond.code zy_Mo_putFresh zb_Mo_putFresh 6 (none) ∈ wz := zw_586
abbrev zb_Mo_putCopy : ByteArray := prog_6_method_11_code
abbrev zy_Mo_putCopy : MethodName := ⟨"DeltaPressModel", "putCopy", "()V"⟩
theorem zm_Mo_putCopy : Cond.code zy_Mo_putCopy zb_Mo_putCopy 3 (none) ∈ wz := zw_590
abbrev zb_Mo_use : ByteArray := prog_6_method_18_code
abbrev zy_Mo_use : MethodName := ⟨"DeltaPressModel", "use", "()I"⟩
theorem zm_Mo_use : Cond.code zy_Mo_use zb_Mo_use 4 (some .int) ∈ wz := zw_594
abbrev zb_Mo_number : ByteArray := prog_6_method_15_code
abbrev zy_Mo_number : MethodName := ⟨"DeltaPressModel", "number", "()I"⟩
theorem zm_Mo_number : Cond.code zy_Mo_number zb_Mo_number 4 (some .int) ∈ wz := zw_598
abbrev zb_Mo_next : ByteArray := prog_6_method_14_code
abbrev zy_Mo_next : MethodName := ⟨"DeltaPressModel", "next", "()I"⟩
theorem zm_Mo_next : Cond.code zy_Mo_next zb_Mo_next 1 (some .int) ∈ wz := zw_602
abbrev zb_Mo_part : ByteArray := prog_6_method_17_code
abbrev zy_Mo_part : MethodName := ⟨"DeltaPressModel", "part", "(I)V"⟩
theorem zm_Mo_part : Cond.code zy_Mo_part zb_Mo_part 7 (none) ∈ wz := zw_606
abbrev zb_Mo_give : ByteArray := prog_6_method_16_code
abbrev zy_Mo_give : MethodName := ⟨"DeltaPressModel", "give", "(BI)V"⟩
theorem zm_Mo_give : Cond.code zy_Mo_give zb_Mo_give 3 (none) ∈ wz := zw_610
abbrev zb_Mo_turn : ByteArray := prog_6_method_19_code
abbrev zy_Mo_turn : MethodName := ⟨"DeltaPressModel", "turn", "()I"⟩
theorem zm_Mo_turn : Cond.code zy_Mo_turn zb_Mo_turn 2 (some .int) ∈ wz := zw_614
abbrev zb_Mo_longest : ByteArray := prog_6_method_20_code
abbrev zy_Mo_longest : MethodName := ⟨"DeltaPressModel", "longest", "(II)I"⟩
theorem zm_Mo_longest : Cond.code zy_Mo_longest zb_Mo_longest 3 (some .int) ∈ wz := zw_618
abbrev zb_Mo_letter : ByteArray := prog_6_method_21_code
abbrev zy_Mo_letter : MethodName := ⟨"DeltaPressModel", "letter", "(I)I"⟩
theorem zm_Mo_letter : Cond.code zy_Mo_letter zb_Mo_letter 2 (some .int) ∈ wz := zw_622
abbrev zb_Mo_count : ByteArray := prog_6_method_22_code
abbrev zy_Mo_count : MethodName := ⟨"DeltaPressModel", "count", "(I)I"⟩
theorem zm_Mo_count : Cond.code zy_Mo_count zb_Mo_count 2 (some .int) ∈ wz := zw_626
abbrev zb_La_law : ByteArray := code
