/-! Refusals: the row of a throw, contracts that end with one -/
/-- what is known of what was thrown -/
def xC (cls : String) (s : State) (H : Heap) (x : Nat) : Prop := ∃ ce : Cell, H[x]? = some ce ∧ ce.vm = .none ∧ s.vm.findClass cls = some ce.cls ∧ s.vm.assignable ce.cls ce.cls = true
theorem na_P {D : va_G} {ws : va_W} {H : Heap} (hP : va_P D zC ws H) {k q : Nat} {e : va_E} (hk : ws[k]? = some (q, e)) {cell : Cell} (hc : H[q]? = some cell) : cell.vm.isStatics = false := by
  have h := hP k _ hk
  cases e with
  | inl a =>
    have h : H[q]? = some (vp_cell a.1 a.2) := h
    rw [hc] at h
    cases h
    obtain ⟨a1, n, f⟩ := a
    rcases f with f | f | f | f | f <;> rfl
  | inr o =>
    obtain ⟨r, h1, cell', g1, g2, g3, -⟩ := h
    have g1 : H[q]? = some cell' := g1
    rw [hc] at g1
    cases g1
    rw [g3]
    rfl
theorem na_A {D : va_G} {ws : va_W} {s : State} {sz : Nat} (hP : va_P D zC ws s.heap) (hsz : s.heap.size = sz) : ∀ (q : Nat) (cell : Cell), s.heap[q]? = some cell → cell.vm.isStatics = true → ¬ va_A ws sz q := by
  intro q cell hc hi hA
  rcases hA with ⟨k, e, h⟩ | h
  · rw [na_P hP h hc] at hi
    cases hi
  · have := (Array.getElem?_eq_some_iff.mp hc).1
    omega
theorem kept_heap {s' V : State} {k n : Nat} (h : s'.sameButNew V [] k n) {q : Nat} {cell : Cell} (hc : s'.heap[q]? = some cell) : V.heap[q]? = some cell := by
  obtain ⟨c', h1, h2, h3, h4⟩ := h.2.2.2.2.2 q cell hc
  rw [h1, h2]
  have : c'.slots = cell.slots := Array.ext_getElem? (fun i => h4 i (List.not_mem_nil))
  rw [this]
section ZV
variable {p : Program} {l : Launch} {e : Env} {R : Room} {s : State} {m : MethodId} {args : Array Value} {below : List Frame} {meth : Method} {c : Code} {H : Heap} {locs : List Loc} {cells slots : Nat} {Q : State → Prop}
variable {cc : ByteArray} {pc nL : Nat} {ls : Array Slot} {rest st : List Value} {own : String} {D : va_G} {A : Nat → Prop} {tys : List (ClassId × FieldType)} {ws : va_W}
set_option maxHeartbeats 4000000 in
/-- new X("..") is thrown -/
theorem rThrow {L : List Cond} {cls text : String} {idx ic si : Nat} (hl0 : l.stackTraces = false) (X : zX p m c cc nL s args "DeltaPress" D tys A) (h : zH D A s ws H locs) (hsz : ls.size = nL) (hlk : meth.locks = false) (hex : c.exceptionTable.isEmpty = true) (hLo : xOK L) (hE : xE L s) (hAs : ∀ (q : Nat) (cell : Cell), s.heap[q]? = some cell → cell.vm.isStatics = true → ¬ A q)
    (hL1 : ∀ w ∈ Bundle.ownAtoms "DeltaPress" ic cls nm2, w ∈ L) (hL2 : Cond.stringRef "DeltaPress" si text ∈ L) (h1 : Cond.classLink "DeltaPress" idx cls ∈ wz) (h2 : Cond.instantiable cls 6 ∈ wz) (h3 : Cond.initialized cls ∈ wz) (hcls : Bundle.fit cls = true)
    (d0 : decode cc pc = .ok (.new idx, 3)) (d3 : decode cc (pc + 3) = .ok (.dup, 1)) (d4 : decode cc (pc + 4) = .ok (.ldc si, 2)) (d6 : decode cc (pc + 6) = .ok (.invokespecial ic, 3)) (d9 : decode cc (pc + 6 + 3) = .ok (.athrow, 1))
    (hc : cells + 1 ≤ R.cells) (hs : slots + 6 ≤ R.slots) (hf : 5 < R.frames) (hlo : 82 ≤ R.locals)
    (kk : ∀ (x : Nat) (U : State), U.status = .running → Ended U below (.threw x) → va_P D zC ws U.heap → va_S A s.heap U.heap locs → xC cls s U.heap x → s.WarmedH U.vm → s.sameButNew ({ U with vm := s.vm } : State) locs (cells + 1) (slots + 6) → Q U) : W p l e R s m args below meth c H locs cells slots Q (F0 m pc ls []) := by
  intro T hT St
  obtain ⟨hP, hD, hS⟩ := h
  have hexec := X.1.1
  have hb := X.1.2.1
  have hml := X.1.2.2.1
  have htr : e.platform.stackTraces = false := by rw [Jvm.Example.NoTraceControls.admits_follows St.admits]; exact hl0
  have St2 := rebase St (by omega) (by omega)
  have hKs : xK s.heap T.heap := fun q cell hq hi => by
    rw [hT, hS.2.1 q (Array.getElem?_eq_some_iff.mp hq).1 (hAs q cell hq hi)]
    exact hq
  have hat : ∀ w, w ∈ L → w.before args ({ s with heap := T.heap, slotsUsed := T.slotsUsed } : State) = true := fun w hw => xSame (hLo w hw) (U := s) rfl hKs (hE w hw)
  have hwz : ∀ w, w ∈ wz → w.onTables = true → w.before args ({ s with heap := T.heap, slotsUsed := T.slotsUsed } : State) = true := fun w hw ht => va_tabs ht (u := s) rfl (X.1.2.2.2.2 w hw)
  have hown : ({ s with heap := T.heap, slotsUsed := T.slotsUsed } : State).vm.findClass "DeltaPress" = some m.cls := X.1.2.2.2.1
  obtain ⟨vm₁, cX, kX, hfX, hkX, -, -, X₁, st1⟩ := St2.newCold hexec (own := "DeltaPress") (C := cls) (index := idx) (n := 6) hown (hwz _ h1 rfl) (hwz _ h2 rfl) (hwz _ h3 rfl) (g := F0 m pc ls []) rfl (by rw [hb]; exact d0) (by show 0 + 1 ≤ R.cells - cells; omega) (by show 0 + 6 ≤ R.slots - slots; omega)
  generalize hTT : (T.setVm vm₁).pushCell { cls := cX, slots := kX.instanceTypes.map defaultValue, vm := .none } = T1 at X₁ st1
  have hcellA : T1.heap[T.heap.size]? = some (freshCell cX kX) := by rw [← hTT]; exact State.heap_pushCell_size _ _
  have hconst := hat _ hL2
  obtain ⟨-, -, -, sa, -, -, -, -, -, hev⟩ := Cond.stringRef_spec hown hconst
  obtain ⟨U, hsteps, hrun, hend, hWU, hsame, ce, hce, K⟩ := X₁.ctorThrowS hexec htr (own := "DeltaPress") (cls := cls) (names := nm2) (ic := ic) hown hcls (by decide) (fun w hw => hat w (hL1 w hw)) (fun y hy => by cases hy) hfX hkX hcellA (Nat.le_refl _) (msg := .ref sa) rfl
    (g := F0 m (pc + 6) ls [.ref sa, .ref T.heap.size, .ref T.heap.size]) rfl (by rw [hml]; exact hsz) rfl rfl (rest := []) rfl (by rw [hb]; exact d6) (by rw [hb]; exact d9) (covers_of_empty hex _) (by show 2 + 3 < R.frames; omega) (by show 2 * 0 + (1 + 0) + (13 * (2 + 1) + 42) ≤ R.locals; omega) hlk
  have hsame2 : (T.setVm s.vm).sameButNew ({ U with vm := s.vm } : State) [] (0 + 1) (0 + 6) := by
    obtain ⟨a1, a2, a3, a4, a5, a6⟩ := hsame
    refine ⟨?_, a2, a3, a4, a5, a6⟩
    have e0 : T.setVm s.vm = { s.setFrames T.frames with heap := T.heap, slotsUsed := T.slotsUsed } := St.same.1
    refine Eq.trans a1 ?_
    rw [e0]
    have e1 := State.setFrames_setFrames s T.frames U.frames
    show ({ s.setFrames U.frames with heap := U.heap, slotsUsed := U.slotsUsed } : State) = { (s.setFrames T.frames).setFrames U.frames with heap := U.heap, slotsUsed := U.slotsUsed }
    rw [e1]
  have hkeep : ∀ (q : Nat) (cell : Cell), T.heap[q]? = some cell → U.heap[q]? = some cell := fun q cell hq => kept_heap hsame hq
  refine ⟨U, ?_, kk T.heap.size U hrun hend ?_ ?_ ⟨ce, hce, K.vm, K.cls, K.self⟩ hWU ?_⟩
  · refine st1 _ ?_
    show Steps p.tables e below (T1.setTop (F0 m (pc + 3) ls [.ref T.heap.size])) _
    jvm_step X₁.here [X₁.here.top, hexec, hb, d3, Value.category]
    exact X₁.ldcString hexec (own := "DeltaPress") (text := text) (index := si) (a := sa) hown hconst hev (g := F0 m (pc + 4) ls [.ref T.heap.size, .ref T.heap.size]) rfl (by rw [hb]; exact d4) _ hsteps
  · refine va_P.kept (H := H) hP (fun k q hk => ?_)
    cases hq : H[q.1]? with
    | none =>
      exfalso
      have := (hP k q hk).lt
      rw [Array.getElem?_eq_none_iff] at hq
      omega
    | some cell =>
      rw [← hT] at hq
      exact hkeep q.1 cell hq
  · refine ⟨Nat.le_trans hS.1 (by rw [← hT]; exact hsame2.2.1), fun q hq hA => ?_, hS.2.2⟩
    rw [← hS.2.1 q hq hA]
    cases hq2 : H[q]? with
    | none =>
      exfalso
      have := hS.1
      rw [Array.getElem?_eq_none_iff] at hq2
      omega
    | some cell =>
      rw [← hT] at hq2
      exact hkeep q cell hq2
  · have := St.same.trans hsame2
    rw [List.append_nil] at this
    exact this
end ZV
/-- the contract of a call that is refused: X is thrown -/
abbrev zMt (l : Launch) (D : va_G) (y : MethodName) (cc : ByteArray) (nL : Nat) (ret : Option FieldType) (rm : Room) (as : List Value) (tys : List (ClassId × FieldType)) (ws : va_W) (sz : Nat) (L : List Cond) (cls : String) {S : Type} (post : S → Prop) (ws' : S → va_W) : Prop :=
  MetFree l y (headSpec (.code y cc nL ret :: wz) rm) (va_Pc as (fun U => zPre D tys ws sz U ∧ xE L U)) (fun _ _ _ _ _ => True)
    (fun _ st o t => ∃ (x : Nat) (u : S) (Lc : List Loc), o = .threw x ∧ post u ∧ zPost D tys (ws' u) (va_A ws sz) t ∧ va_F (va_A ws sz) st t ∧ xC cls st t.heap x ∧ st.WarmedH t.vm ∧ st.sameButNew ({ t with vm := st.vm } : State) Lc rm.cells rm.slots ∧ ∀ q ∈ Lc, va_A ws sz q.base)
theorem zEt {l : Launch} {D : va_G} {y : MethodName} {cc : ByteArray} {nL : Nat} {ret : Option FieldType} {rm : Room} {as : List Value} {tys : List (ClassId × FieldType)} {ws : va_W} {sz : Nat} {L : List Cond} {cls : String} {S : Type} {post : S → Prop} {ws' : S → va_W} (hy : plainName y.cls = true) (hlen : (lg_sl as).length ≤ nL)
    (body : ∀ (p : Program) (e : Env) (s : State) (m : MethodId) (args : Array Value) (below : List Frame) (meth : Method) (c : Code) (ls : Array Slot) (A : Nat → Prop) (Q : State → Prop), zX p m c cc nL s args y.cls D tys A → xE L s → meth.locks = false → c.exceptionTable.isEmpty = true → (∀ (q : Nat) (cell : Cell), s.heap[q]? = some cell → cell.vm.isStatics = true → ¬ A q) → lv_has ls nL (lv_args 0 as) → zH D A s ws s.heap [] → s.heap.size = sz →
      (∀ (u : S) (locs : List Loc), post u → va_D A (ws' u) → ∀ (x : Nat) (U : State), U.status = .running → Ended U below (.threw x) → va_P D zC (ws' u) U.heap → va_S A s.heap U.heap locs → xC cls s U.heap x → s.WarmedH U.vm → s.sameButNew ({ U with vm := s.vm } : State) locs rm.cells rm.slots → Q U) →
      W p l e rm s m args below meth c s.heap [] 0 0 Q (F0 m 0 ls [])) : zMt l D y cc nL ret rm as tys ws sz L cls post ws' := by
  refine MetFree.of_bodyS (code := cc) (maxLocals := nL) (ret := ret) hy ?_ ?_
  · intro args s m h hn
    obtain ⟨meth, c, h1, h2, h3, h4, h5, h6, -, -⟩ := Cond.code_spec hn (atoms_spec (ws := .code y cc nL ret :: wz) h _ List.mem_cons_self)
    exact ⟨meth, c, h1, h2, h3, h4, h5, h6⟩
  · intro p e s m args below meth c s₁ B hml hv _
    obtain ⟨rfl, ⟨hsz, hP, hK, hD0⟩, hE⟩ := hv
    have hts := atoms_spec (ws := .code y cc nL ret :: wz) B.pre
    have hl := lv_entry as (n := nL) hlen
    have X : CallFix p m c cc nL s as.toArray wz y.cls := ⟨B.exec, B.bytes, hml, findClass_of_methodNamed B.named, fun w h => hts w (List.mem_cons_of_mem _ h)⟩
    have hh0 : s₁.heap = s.heap := by rw [B.state]; rfl
    rw [lg_entry_eq]
    generalize (lg_sl as ++ List.replicate (nL - (lg_sl as).length) Slot.unset).toArray = ls at hl ⊢
    obtain ⟨t, a1, o, b1, b2, b3⟩ := body p e s m as.toArray below meth c ls (va_A ws sz) (fun t => ∃ o, t.status = .running ∧ Ended t below o ∧ ∃ (x : Nat) (u : S) (Lc : List Loc), o = .threw x ∧ post u ∧ zPost D tys (ws' u) (va_A ws sz) t ∧ va_F (va_A ws sz) s t ∧ xC cls s t.heap x ∧ s.WarmedH t.vm ∧ s.sameButNew ({ t with vm := s.vm } : State) Lc rm.cells rm.slots ∧ ∀ q ∈ Lc, va_A ws sz q.base)
      ⟨X, hK, fun q h => Or.inr (by rw [← hsz]; exact h)⟩ hE B.notSynchronized (B.noHandlers (hts _ List.mem_cons_self)) (na_A hP hsz) hl ⟨hP, hD0.self (sz := sz), va_S.rf⟩ hsz
      (fun u locs hu hD x U r1 r2 r3 r4 r5 r6 r7 => ⟨_, r1, r2, x, u, locs, rfl, hu, ⟨r3, va_K.moved r6.alike hK, hD⟩, r4.F rfl, r5, r6, r7, r4.2.2⟩) s₁ hh0 (Stand.of_body B)
    exact ⟨t, o, a1, b1, b2, b3⟩
