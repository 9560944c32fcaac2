/-! The law's helpers: static methods with one handler -/
abbrev zMh (l : Launch) (D : va_G) (y : MethodName) (cc : ByteArray) (nL : Nat) (rm : Room) (as : List Value) (tys : List (ClassId × FieldType)) (ws : va_W) (sz : Nat) (hs : List (Nat × Nat × Nat × Nat)) (L : List Cond) {S : Type} (post : Int32 → S → Prop) (ws' : S → va_W) : Prop :=
  Met l y (.codeWith y cc nL (some .int) hs :: wz) rm (va_Pc as (fun U => zPre D tys ws sz U ∧ xE L U)) (va_Qi post (fun u => zPost D tys (ws' u) (va_A ws sz)) (va_A ws sz)) rm.cells rm.slots (va_A ws sz)
theorem zEh {l : Launch} {D : va_G} {y : MethodName} {cc : ByteArray} {nL : Nat} {rm : Room} {as : List Value} {tys : List (ClassId × FieldType)} {ws : va_W} {sz : Nat} {hs : List (Nat × Nat × Nat × Nat)} {L : List Cond} {S : Type} {post : Int32 → S → Prop} {ws' : S → va_W} (hy : plainName y.cls = true) (hlen : (lg_sl as).length ≤ nL)
    (body : ∀ (p : Program) (e : Env) (s : State) (m : MethodId) (args : Array Value) (below : List Frame) (meth : Method) (c : Code) (ls : Array Slot) (A : Nat → Prop) (Q : State → Prop), zX p m c cc nL s args y.cls D tys A → xE L s → c.exceptionTable.toList.map (fun h => (h.startPc, h.endPc, h.handlerPc, h.catchType)) = hs → (∀ (q : Nat) (cell : Cell), s.heap[q]? = some cell → cell.vm.isStatics = true → ¬ A q) → lv_has ls nL (lv_args 0 as) → zH D A s ws s.heap [] → s.heap.size = sz →
      (∀ (v : Int32) (u : S) (H : Heap) (locs : List Loc) (ls : Array Slot) (pc : Nat), post v u → zH D A s (ws' u) H locs → decode cc pc = .ok (.ireturn, 1) → W p l e rm s m args below meth c H locs rm.cells rm.slots Q (F0 m pc ls [.int v])) →
      W p l e rm s m args below meth c s.heap [] 0 0 Q (F0 m 0 ls [])) : zMh l D y cc nL rm as tys ws sz hs L post ws' := by
  refine MetFree.of_bodyS (code := cc) (maxLocals := nL) (ret := some .int) hy ?_ ?_
  · intro args s m h hn
    obtain ⟨m', meth, c, h0, h1, h2, h3, h4, -, h5, h6, -⟩ := Cond.codeWith_spec (atoms_spec (ws := .codeWith y cc nL (some .int) hs :: wz) h _ List.mem_cons_self)
    cases hn.symm.trans h0
    exact ⟨meth, c, h1, h2, h3, h4, h5, h6⟩
  · intro p e s m args below meth c s₁ B hml hv _
    obtain ⟨rfl, ⟨hsz, hP, hK, hD0⟩, hE⟩ := hv
    have hts := atoms_spec (ws := .codeWith y cc nL (some .int) hs :: wz) B.pre
    have X0 : Stand p l e rm s m as.toArray below meth c s₁ [] 0 0 := Stand.of_body B
    obtain ⟨m', meth', c', h0, h1, h2, -, -, htab, -, -, -⟩ := Cond.codeWith_spec (hts _ List.mem_cons_self)
    cases B.named.symm.trans h0
    cases B.method.symm.trans h1
    cases X0.code.symm.trans h2
    have hl := lv_entry as (n := nL) hlen
    have X : CallFix p m c cc nL s as.toArray wz y.cls := ⟨B.exec, B.bytes, hml, findClass_of_methodNamed B.named, fun w h => hts w (List.mem_cons_of_mem _ h)⟩
    have hh0 : s₁.heap = s.heap := by rw [B.state]; rfl
    have hr := B.returns
    have hlk := B.notSynchronized
    rw [lg_entry_eq]
    generalize (lg_sl as ++ List.replicate (nL - (lg_sl as).length) Slot.unset).toArray = ls at hl ⊢
    obtain ⟨t, a1, o, b1, b2, b3⟩ := body p e s m as.toArray below meth c ls (va_A ws sz) (MQ below (va_Qi post (fun u => zPost D tys (ws' u) (va_A ws sz)) (va_A ws sz)) as.toArray s rm.cells rm.slots (va_A ws sz))
      ⟨X, hK, fun q h => Or.inr (by rw [← hsz]; exact h)⟩ hE htab (na_A hP hsz) hl ⟨hP, hD0.self (sz := sz), va_S.rf⟩ hsz
      (fun v u H locs ls pc hu h hd => zReti (u := u) X hr hlk hu h.1 hK h.2.1 h.2.2 hd) s₁ hh0 X0
    exact ⟨t, o, a1, b1, b2, ⟨b3.1, b3.2⟩⟩
section CS
variable {p : Program} {l : Launch} {e : Env} {R : Room} {s : State} {m : MethodId} {args : Array Value} {below : List Frame} {meth : Method} {c : Code} {H : Heap} {locs : List Loc} {cells slots : Nat} {Q : State → Prop}
variable {cc : ByteArray} {pc nL : Nat} {ls : Array Slot} {rest st : List Value} {own : String} {D : va_G} {A : Nat → Prop} {tys : List (ClassId × FieldType)} {ws : va_W}
set_option maxHeartbeats 4000000 in
/-- a helper is called -/
theorem rCh {index : Nat} {y : MethodName} {cc' : ByteArray} {nL' : Nat} {rm : Room} {As : List Value} {tysC : List (ClassId × FieldType)} {wc wr : va_W} {S : Type} {post : Int32 → S → Prop} {ws' wf : S → va_W} {L : List Cond} {hs : List (Nat × Nat × Nat × Nat)}
    (X : zX p m c cc nL s args own D tys A) (h : zH D A s ws H locs) (hl : ls.size = nL) (hM : zMh l D y cc' nL' rm As tysC wc H.size hs L post ws') (hLo : xOK L) (hE : xE L s) (hAs : ∀ (q : Nat) (cell : Cell), s.heap[q]? = some cell → cell.vm.isStatics = true → ¬ A q)
    (h1 : Cond.methodLink own index y ∈ wz) (h2 : Cond.static y ∈ wz) (h4 : Cond.initialized y.cls ∈ wz) (h5 : va_Nw (.codeWith y cc' nL' (some .int) hs) s)
    (hd : y.cls ≠ "java/lang/invoke/MethodHandle" ∧ y.cls ≠ "java/lang/invoke/VarHandle" ∧ (parseMethodDescriptor y.desc).map (fun d => d.parameters.length) = some As.length) (hR : rm.frames + 1 ≤ R.frames ∧ 8 + (nL' + 11) + rm.locals ≤ R.locals) (hcs : cells + rm.cells ≤ R.cells ∧ slots + rm.slots ≤ R.slots)
    (ts : List Nat) (hts : ts.filterMap (fun i => tys[i]?) = tysC) (isC isR isB : List Nat) (hC : isC.map (fun i => ws[i]?) = wc.map some) (hnC : va_nd isC = true) (hRr : isR.map (fun i => ws[i]?) = wr.map some) (hnR : va_nd isR = true) (hdis : ∀ i ∈ isR, i ∉ isC) (hB : ∀ u, isB.map (fun i => (wr ++ ws' u)[i]?) = (wf u).map some) (hnB : va_nd isB = true)
    (hst : st = As.reverse ++ rest) (hrest : (rest.map fun v => v.category).sum ≤ 8) (hdg : decode cc pc = .ok (.invokestatic index, 3))
    (kk : ∀ (r : Int32) (u : S) (H1 : Heap) (locs1 : List Loc), post r u → zH D A s (wf u) H1 locs1 → W p l e R s m args below meth c H1 locs1 (cells + rm.cells) (slots + rm.slots) Q (F0 m (pc + 3) ls (.int r :: rest))) : W p l e R s m args below meth c H locs cells slots Q (F0 m pc ls st) := by
  subst hst
  obtain ⟨hP, hD, hS⟩ := h
  have hPc : va_P D zC wc H := hP.sub isC (zfm hC)
  have hDc : va_D A wc := hD.sub isC hnC hC
  have hKc : va_K D zC tysC s := X.2.1.sub ts hts
  have hFc := va_free hD hS X.2.2 isC hC
  obtain ⟨hexec, hb, hml, hown, htz⟩ := X.1
  have hcw : ∀ (a' : Array Value) (U : State), s.WarmedH U.vm → (Cond.codeWith y cc' nL' (some .int) hs).before a' U = true := fun a' U hW => word_at hW (Or.inl rfl) h5
  have hws : ∀ w ∈ (Cond.codeWith y cc' nL' (some .int) hs :: wz), ∀ (a' : Array Value) (U : State), s.WarmedH U.vm → w.before a' U = true := fun w hw a' U hW => by
    rcases List.mem_cons.mp hw with z | z
    · rw [z]; exact hcw a' U hW
    · exact pay_in htz wz_good w z a' U hW
  have hlen : ∀ sig, parseMethodDescriptor y.desc = some sig → As.length = sig.parameters.length := fun sig z => by
    have := hd.2.2
    rw [z] at this
    exact (Option.some.inj this).symm
  obtain ⟨mk, methM, cM, hnamed, hmethM, -, -, -, -, -, -, hsigM⟩ := Cond.codeWith_spec (hcw args s (State.WarmedH.refl s))
  have hstatic : methM.isStatic = true := Cond.static_spec hnamed hmethM (htz _ h2)
  obtain ⟨kP, hkP, -⟩ := className_of_methodNamed hnamed
  have hinitP : kP.init = .initialized := Cond.initialized_spec (findClass_of_methodNamed hnamed) hkP (htz _ h4)
  have hKs : xK s.heap H := fun q cell hq hi => by
    rw [hS.2.1 q (Array.getElem?_eq_some_iff.mp hq).1 (hAs q cell hq hi)]
    exact hq
  have hrun : va_Run p l e R s m args below meth c H locs cells slots rm.cells rm.slots (F0 m pc ls (As.reverse ++ rest)) rest (va_Qi post (fun u => zPost D tysC (ws' u) (va_A wc H.size)) (va_A wc H.size) As.toArray) (va_A wc H.size) := by
    intro T hT St
    obtain ⟨vm₁, X₁, hstep₁⟩ := St.invokestatic hexec hown (htz _ h1) hnamed hmethM hstatic hkP hinitP ⟨hd.1, hd.2.1⟩ (g := F0 m pc ls (As.reverse ++ rest)) rfl (argsL := As) (rest := rest) (hlen _ hsigM) rfl (by rw [hb]; exact hdg)
    have hn := X₁.named hnamed
    have hAt : At (T.setVm vm₁) m c below := X₁.here
    obtain ⟨mY, methY, cY, hnY, hmY, hcY, -, hlY, -, -, -, -⟩ := Cond.codeWith_spec (hcw As.toArray _ X₁.warmed)
    cases hn.symm.trans hnY
    obtain ⟨kY, hkY, -⟩ := className_of_methodNamed hn
    have hinitY : kY.init = .initialized := Cond.initialized_spec (findClass_of_methodNamed hn) hkY (word_at X₁.warmed (a' := As.toArray) (Or.inl (by simp [Cond.onTables, Cond.keeps, Cond.steady])) (htz _ h4))
    have hBk := Free.Back.of_freeWith (R := R) (p := p) (e := e) (below := below) (s := s) (sargs := args) (len := 3) (W := 8) (handlers := hs) (bytes := cc') (maxL := nL') (ret := some .int) (S := headSpec (.codeWith y cc' nL' (some .int) hs :: wz) rm)
      (Pre := PreOf R rm.cells rm.slots (va_Pc As (fun U => zPre D tysC wc H.size U ∧ xE L U))) (Post := PostOf (va_Qi post (fun u => zPost D tysC (ws' u) (va_A wc H.size)) (va_A wc H.size)) rm.cells rm.slots (va_A wc H.size)) (E := fun a st o t L k n => k = rm.cells ∧ n = rm.slots ∧ ∀ q ∈ L, va_A wc H.size q.base)
      hM hR.1 hR.2
      (fun m' meth' c' A' a XA hp => ⟨atoms_intro fun w hw => hws w hw _ _ XA.warmed, hcw _ _ XA.warmed, word_at XA.warmed (Or.inl (by simp [Cond.onTables, Cond.keeps, Cond.steady])) (htz _ h4), hp.1, hp.2.1⟩)
      (fun m' meth' c' A' a g mk XA hp => by
        obtain ⟨g0, ⟨g1, g2, g3, g4⟩, g5⟩ := hp.2.2
        exact ⟨g0, ⟨g1, g2, va_K.moved (u := A'.U) (U := A'.U.calling g mk a) (Vm.Alike.refl _) g3, g4⟩, xE_call hLo g5⟩)
      (fun _ _ _ _ _ _ _ _ _ => trivial)
      (fun a st o t ⟨hq, L, hF, hL⟩ => ⟨L, rm.cells, rm.slots, hF, rfl, rfl, hL⟩)
      (fun m' meth' c' A' a g mk v t L k n XA hp hq hF ⟨e1, e2, hL⟩ => by
        subst e1; subst e2
        exact ⟨g, mk, t, L, rfl, rfl, hq.1, rfl, hL, rfl, rfl⟩)
    obtain ⟨v, B, X', ⟨g', mk', t, Lq, e1, e2, hq, f1, hL, f2, f3⟩, hsteps⟩ := hBk m meth c ⟨T.setVm vm₁, locs, cells, slots⟩ (F0 m pc ls rest) (.invokestatic index) mk As.toArray X₁ rfl (by rw [hml]; exact hl) (by rw [hb]; exact hdg) (lv_room hrest) hn
      ⟨hcs.1, hcs.2, rfl, ⟨by show T.heap.size = H.size; rw [hT], by show va_P D zC wc T.heap; rw [hT]; exact hPc, va_K.moved X₁.warmed.alike hKc, hDc.weaken (fun _ _ _ _ => trivial)⟩, xE_move hLo X₁.warmed (by show xK s.heap T.heap; rw [hT]; exact hKs) hE⟩
    obtain ⟨U', l2, c2, s2⟩ := B
    dsimp only [Pt.U, Pt.locs, Pt.cells, Pt.slots] at X' e1 e2 f1 f2 f3 hsteps
    subst f1; subst f2; subst f3
    exact ⟨v, (T.setVm vm₁).calling g' mk' As.toArray, t, U', Lq, hT, X', hL, e1, e2, hq, fun target g => hstep₁ _ fun acts => by rw [doInvoke_state]; exact hsteps.trans g⟩
  refine va_calli hrun hS (fun q _ h => hFc q h) hFc (fun r u t H1 locs1 ht hvm hp hB' hz hk hS1 => ?_)
  obtain ⟨hP1, hK1, hD1⟩ := hB'
  rw [ht] at hP1
  obtain ⟨hP2, hD2⟩ := va_join hP hD isC isR hC hRr hnR hdis hk hFc hP1 hD1
  exact kk r u H1 locs1 hp (zH.pick ⟨hP2, hD2, hS1⟩ isB (hB u) hnB)
end CS
