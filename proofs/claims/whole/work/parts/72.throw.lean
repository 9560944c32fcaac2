/-! Refusals: what is thrown -/
abbrev isU : Cond := .isRef (.static "java/lang/Throwable" "UNASSIGNED_STACK" "[Ljava/lang/StackTraceElement;")
abbrev isS : Cond := .isRef (.static "java/lang/Throwable" "SUPPRESSED_SENTINEL" "Ljava/util/List;")
abbrev nm2 : List String := ["java/lang/RuntimeException", "java/lang/Exception"]
/-- what a refusal of DeltaPress needs of the tables and of the start -/
def xL (ic : Nat) (cls : String) (ss : List (Nat × String)) : List Cond := Bundle.ownAtoms "DeltaPress" ic cls nm2 ++ ss.map (fun q => .stringRef "DeltaPress" q.1 q.2)
/-- words that go on holding: tables alone; a string's; a static's -/
def xG : Cond → Bool
  | .stringRef .. => true
  | .laysStatic .. => true
  | c => (c.onTables && c.keepsFace) || decide (c = isU) || decide (c = isS)
def xOK (L : List Cond) : Prop := ∀ w ∈ L, xG w = true
def xE (L : List Cond) (U : State) : Prop := ∀ w ∈ L, w.before #[] U = true
/-- the cells of statics are as they were -/
def xK (U V : Heap) : Prop := ∀ (q : Nat) (cell : Cell), U[q]? = some cell → cell.vm.isStatics = true → V[q]? = some cell
theorem stat_move {C f d : String} {a a' : Array Value} {U V : State} (hv : U.vm = V.vm) (hS : xK U.heap V.heap) (h : (Cond.isRef (.static C f d)).before a U = true) : (Cond.isRef (.static C f d)).before a' V = true := by
  have e1 : V.fieldNamed? C f d true = U.fieldNamed? C f d true := by
    unfold State.fieldNamed? State.fieldFound?
    rw [hv]
  simp only [Cond.before, Cond.holds, Cond.value, Term.eval] at h ⊢
  rw [e1]
  cases hf : U.fieldNamed? C f d true with
  | none => simp [hf] at h
  | some r =>
    obtain ⟨c, k, sl⟩ := r
    cases hk : k.statics with
    | none => simp [hf, hk] at h
    | some q =>
      cases hc : U.heap[q]? with
      | none => simp [hf, hk, hc] at h
      | some cell =>
        by_cases hi : cell.vm.isStatics = true
        · have := hS q cell hc hi
          simp [hf, hk, hc, hi] at h
          simp [hk, this, hi]
          exact h
        · simp [hf, hk, hc, hi] at h
theorem lays_move {C f d : String} {a a' : Array Value} {U V : State} (hv : U.vm = V.vm) (hS : xK U.heap V.heap) (h : (Cond.laysStatic C f d).before a U = true) : (Cond.laysStatic C f d).before a' V = true := by
  obtain ⟨c, k, i, fl, q, cell, h1, h2, h3, h4, h5, h6, h7, h8, h9⟩ := Cond.laysStatic_spec h
  have e1 : V.fieldFound? C f d = some (c, k, i, fl) := by
    rw [← h2]
    unfold State.fieldFound?
    rw [hv]
  have e2 := hS q cell h5 h6
  simp only [Cond.before, Cond.holds, Cond.value]
  rw [← hv, h1, e1]
  simp [h3, h4, e2, h6, h7, h8, h9]
theorem xSame {w : Cond} (hw : xG w = true) {a a' : Array Value} {U V : State} (hv : U.vm = V.vm) (hS : xK U.heap V.heap) (h : w.before a U = true) : w.before a' V = true := by
  have key : ((w.onTables && w.keepsFace) || decide (w = isU) || decide (w = isS)) = true → w.before a' V = true := fun z => by
    simp only [Bool.or_eq_true, Bool.and_eq_true, decide_eq_true_eq] at z
    rcases z with (z | z) | z
    · exact va_tabs z.1 hv h
    · subst z; exact stat_move hv hS h
    · subst z; exact stat_move hv hS h
  cases w with
  | stringRef cls index text =>
    have e : (Cond.stringRef cls index text).before a (U.setVm V.vm) = (Cond.stringRef cls index text).before a' (V.setVm V.vm) := rfl
    have h1 : U.setVm V.vm = U := by rw [← hv]; rfl
    rw [h1] at e
    rw [h] at e
    exact e.symm
  | laysStatic owner name desc => exact lays_move hv hS h
  | _ => exact key hw
theorem xMove {w : Cond} (hw : xG w = true) {a a' : Array Value} {U V : State} (hW : U.WarmedH V.vm) (hS : xK U.heap V.heap) (h : w.before a U = true) : w.before a' V = true := by
  refine xSame hw (a := a) (U := U.setVm V.vm) rfl hS ?_
  have key : ((w.onTables && w.keepsFace) || decide (w = isU) || decide (w = isS)) = true → w.before a (U.setVm V.vm) = true := fun z => by
    simp only [Bool.or_eq_true, Bool.and_eq_true, decide_eq_true_eq] at z
    rcases z with (z | z) | z
    · exact Cond.before_shiftedFace (State.Shifted.of_warmed hW) w z.2 h
    · subst z; exact Cond.before_shiftedFace (State.Shifted.of_warmed hW) _ rfl h
    · subst z; exact Cond.before_shiftedFace (State.Shifted.of_warmed hW) _ rfl h
  cases w with
  | stringRef cls index text => exact Cond.stringRef_warmed hW h
  | laysStatic owner name desc => exact Cond.before_shiftedFace (State.Shifted.of_warmed hW) _ rfl h
  | _ => exact key hw
theorem xK_rf {U : Heap} : xK U U := fun _ _ h _ => h
theorem xE_move {L : List Cond} (hL : xOK L) {U V : State} (hW : U.WarmedH V.vm) (hS : xK U.heap V.heap) (h : xE L U) : xE L V := fun w hw => xMove (hL w hw) hW hS (h w hw)
theorem xE_call {L : List Cond} (hL : xOK L) {U : State} {g : JFrame} {mk : MethodId} {a : Array Value} (h : xE L U) : xE L (U.calling g mk a) := fun w hw => xSame (hL w hw) (U := U) rfl xK_rf (h w hw)
theorem xOK_of {L : List Cond} (h : L.all xG = true) : xOK L := fun w hw => List.all_eq_true.mp h w hw
abbrev xISE : List Cond := xL 66 "java/lang/IllegalStateException" [(64, "INPUT would be too long")]
abbrev xIAE : List Cond := xL 76 "java/lang/IllegalArgumentException" [(74, "INPUT has not as many BYTES"), (84, "INPUT has no such place"), (86, "no BYTE"), (123, "neither the length nor the place")]
abbrev xAE : List Cond := xL 118 "java/lang/ArithmeticException" [(116, "INPUT is DAMAGED")]
abbrev xIOE : List Cond := xL 129 "java/lang/IndexOutOfBoundsException" [(127, "OUTPUT has no such place")]
theorem xISE_ok : xOK xISE := xOK_of (by decide +kernel)
theorem xIAE_ok : xOK xIAE := xOK_of (by decide +kernel)
theorem xAE_ok : xOK xAE := xOK_of (by decide +kernel)
theorem xIOE_ok : xOK xIOE := xOK_of (by decide +kernel)
set_option maxRecDepth 100000 in
theorem xISE_t : xISE.all (fun w => decide (w = isU) || decide (w = isS) || lw_tbl.contains w) = true := by decide +kernel
set_option maxRecDepth 100000 in
theorem xIAE_t : xIAE.all (fun w => decide (w = isU) || decide (w = isS) || lw_tbl.contains w) = true := by decide +kernel
set_option maxRecDepth 100000 in
theorem xAE_t : xAE.all (fun w => decide (w = isU) || decide (w = isS) || lw_tbl.contains w) = true := by decide +kernel
set_option maxRecDepth 100000 in
theorem xIOE_t : xIOE.all (fun w => decide (w = isU) || decide (w = isS) || lw_tbl.contains w) = true := by decide +kernel
/-- a walk that stands at T stands there as one begun with T's own heap -/
theorem rebase {p : Program} {l : Launch} {e : Env} {R : Room} {s : State} {m : MethodId} {args : Array Value} {below : List Frame} {meth : Method} {c : Code} {T : State} {locs : List Loc} {cells slots : Nat} (X : Stand p l e R s m args below meth c T locs cells slots) (hc : cells ≤ R.cells) (hs : slots ≤ R.slots) :
    Stand p l e { R with cells := R.cells - cells, slots := R.slots - slots } ({ s with heap := T.heap, slotsUsed := T.slotsUsed } : State) m args below meth c T [] 0 0 := by
  have hroom : ({ s with heap := T.heap, slotsUsed := T.slotsUsed } : State).hasRoom e.platform { R with cells := R.cells - cells, slots := R.slots - slots } = true := by
    have h1 := X.room
    have h2 := X.heapSize
    have h3 := X.used
    have h4 := X.book
    simp only [State.hasRoom, Bool.and_eq_true, decide_eq_true_eq] at h1 ⊢
    obtain ⟨⟨⟨⟨a1, a2⟩, a3⟩, a4⟩, a5⟩ := h1
    refine ⟨⟨⟨⟨a1, a2⟩, ?_⟩, ?_⟩, h4⟩
    · show T.heap.size + (R.cells - cells) ≤ _
      omega
    · show T.slotsUsed + (R.slots - slots) ≤ _
      omega
  refine ⟨X.admits, X.cas, X.clock, X.frames, hroom, X.hears, X.method, X.code, X.here, X.tail, X.warmed, X.limits, X.bytes, ?_⟩
  have e0 : T.setVm s.vm = { s.setFrames T.frames with heap := T.heap, slotsUsed := T.slotsUsed } := X.same.1
  refine ⟨e0, Nat.le_refl _, Nat.le_refl _, ?_, ?_, fun a c hc => ⟨c, hc, rfl, rfl, fun _ _ => rfl⟩⟩
  · show T.slotsUsed = T.slotsUsed + ((T.heap.toList.drop T.heap.size).map (·.slots.size)).sum
    rw [List.drop_of_length_le (by simp)]
    rfl
  · show ((T.heap.toList.drop T.heap.size).map (·.slots.size)).sum ≤ 0
    rw [List.drop_of_length_le (by simp)]
    exact Nat.le_refl _
