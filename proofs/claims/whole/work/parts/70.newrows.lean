/-! rows for what is made: arrays, objects, constructors -/
/-- a constructor's contract: E what else must hold of the tables; behind it arrays' classes and cells that u names -/
abbrev zMn (l : Launch) (D : va_G) (y : MethodName) (cc : ByteArray) (nL : Nat) (rm : Room) (as : List Value) (tys : List (ClassId × FieldType)) (ws : va_W) (sz : Nat) (E : State → Prop) {S : Type} (tys' : S → List (ClassId × FieldType)) (ws' : S → va_W) : Prop :=
  Met l y (.code y cc nL none :: wz) rm (va_Pc as (fun U => zPre D tys ws sz U ∧ E U)) (va_Qv (fun _ : S => True) (fun u => zPost D (tys' u) (ws' u) (va_A ws sz)) (va_A ws sz)) rm.cells rm.slots (va_A ws sz)
theorem zEn {l : Launch} {D : va_G} {y : MethodName} {cc : ByteArray} {nL : Nat} {rm : Room} {as : List Value} {tys : List (ClassId × FieldType)} {ws : va_W} {sz : Nat} {S : Type} {E : State → Prop} {tys' : S → List (ClassId × FieldType)} {ws' : S → va_W} (hy : plainName y.cls = true) (hlen : (lg_sl as).length ≤ nL)
    (body : ∀ (p : Program) (e : Env) (s : State) (m : MethodId) (args : Array Value) (below : List Frame) (meth : Method) (c : Code) (ls : Array Slot) (A : Nat → Prop) (Q : State → Prop), zX p m c cc nL s args y.cls D tys A → E s → meth.name = y.name → lv_has ls nL (lv_args 0 as) → zH D A s ws s.heap [] → s.heap.size = sz →
      (∀ (u : S) (H : Heap) (locs : List Loc) (ls : Array Slot) (pc : Nat), va_K D zC (tys' u) s → zH D A s (ws' u) H locs → decode cc pc = .ok (.return_, 1) → W p l e rm s m args below meth c H locs rm.cells rm.slots Q (F0 m pc ls [])) →
      W p l e rm s m args below meth c s.heap [] 0 0 Q (F0 m 0 ls [])) : zMn l D y cc nL rm as tys ws sz E tys' ws' := by
  refine Met.ofW (cc := cc) (maxL := nL) (ret := none) hy rfl ?_
  intro p e s m args below meth c s₁ B hml hv
  obtain ⟨rfl, ⟨hsz, hP, hK, hD0⟩, hE⟩ := hv
  have hts := atoms_spec (ws := .code y cc nL none :: wz) B.pre
  have hl := lv_entry as (n := nL) hlen
  rw [lg_entry_eq]
  generalize (lg_sl as ++ List.replicate (nL - (lg_sl as).length) Slot.unset).toArray = ls at hl ⊢
  have X : CallFix p m c cc nL s as.toArray wz y.cls := ⟨B.exec, B.bytes, hml, findClass_of_methodNamed B.named, fun w h => hts w (List.mem_cons_of_mem _ h)⟩
  have hr := B.returns
  have hlk := B.notSynchronized
  exact body p e s m as.toArray below meth c ls (va_A ws sz) _ ⟨X, hK, fun q h => Or.inr (by rw [← hsz]; exact h)⟩ hE (name_of_methodNamed B.named B.method).1 hl ⟨hP, hD0.self (sz := sz), va_S.rf⟩ hsz (fun u H locs ls pc hK' h hd => W.vret X.1 X.2.1 hr (fun t ht hW => ⟨⟨u, rfl, trivial, by rw [ht]; exact h.1, va_K.moved hW.alike hK', h.2.1⟩, h.2.2.F ht⟩) h.2.2.2.2 hd hlk)
section ZN
variable {p : Program} {l : Launch} {e : Env} {R : Room} {s : State} {m : MethodId} {args : Array Value} {below : List Frame} {meth : Method} {c : Code} {H : Heap} {locs : List Loc} {cells slots : Nat} {Q : State → Prop}
variable {cc : ByteArray} {pc nL : Nat} {ls : Array Slot} {rest st : List Value} {own : String} {D : va_G} {A : Nat → Prop} {tys : List (ClassId × FieldType)} {ws : va_W}
theorem rObj {idx a : Nat} (X : zX p m c cc nL s args own D tys A) (hl : ls.size = nL) (h1 : Cond.methodLink own idx Lib.objectInit ∈ wz) (h2 : Cond.instanceMethod Lib.objectInit ∈ wz) (h3 : Cond.code Lib.objectInit ⟨#[0xb1]⟩ 1 none ∈ wz) (hd : decode cc pc = .ok (.invokespecial idx, 3)) (hf : 1 ≤ R.frames) (hlo : (rest.map fun v => v.category).sum + 12 ≤ R.locals)
    (kk : W p l e R s m args below meth c H locs cells slots Q (F0 m (pc + 3) ls rest)) : W p l e R s m args below meth c H locs cells slots Q (F0 m pc ls (.ref a :: rest)) :=
  W.objInit X.1.1 X.1.2.1 X.1.2.2.2.1 (X.1.2.2.2.2 _ h1) (X.1.2.2.2.2 _ h2) (X.1.2.2.2.2 _ h3) rfl (by rw [X.1.2.2.1]; exact hl) rfl hd hf (by show 2 * 0 + _ + 12 ≤ _; omega) kk
/-- new byte[N], new int[N], new long[N] -/
theorem rNb {N : Nat} (X : zX p m c cc nL s args own D tys A) (h : zH D A s ws H locs) (h1 : Cond.arrayClass .byte ∈ wz) (hN : N ≤ 70000) (hc : cells + 1 ≤ R.cells) (hs : slots + N ≤ R.slots) (hd : decode cc pc = .ok (.newarray .byte, 2))
    (kk : ∀ (q : Nat) (cA : ClassId) (H1 : Heap), zX p m c cc nL s args own D (tys ++ [(cA, .byte)]) A → zH D A s (ws ++ [(q, .inl (cA, N, .inl (fun _ => 0)))]) H1 locs → W p l e R s m args below meth c H1 locs (cells + 1) (slots + N) Q (F0 m (pc + 2) ls (.ref q :: rest))) : W p l e R s m args below meth c H locs cells slots Q (F0 m pc ls (.int (nI N) :: rest)) :=
  va_newa (atype := .byte) (a0 := (N, .inl (fun _ => 0))) X.1.1 X.1.2.1 (X.1.2.2.2.2 _ h1) rfl X.2.1 h.1 h.2.1 h.2.2 X.2.2 (fun cA => rfl) (nI_pos (by omega)) (nI_clamp (by omega)) (by show N * 1 ≤ _; omega) hc hs hd (fun q cA H1 a b c d => kk q cA H1 ⟨X.1, a, X.2.2⟩ ⟨b, c, d⟩)
theorem rNi {N : Nat} (X : zX p m c cc nL s args own D tys A) (h : zH D A s ws H locs) (h1 : Cond.arrayClass .int ∈ wz) (hN : N ≤ 300000) (hc : cells + 1 ≤ R.cells) (hs : slots + N ≤ R.slots) (hd : decode cc pc = .ok (.newarray .int, 2))
    (kk : ∀ (q : Nat) (cA : ClassId) (H1 : Heap), zX p m c cc nL s args own D (tys ++ [(cA, .int)]) A → zH D A s (ws ++ [(q, .inl (cA, N, .inl (fun zz => nI ((fun _ => 0) zz))))]) H1 locs → W p l e R s m args below meth c H1 locs (cells + 1) (slots + N) Q (F0 m (pc + 2) ls (.ref q :: rest))) : W p l e R s m args below meth c H locs cells slots Q (F0 m pc ls (.int (nI N) :: rest)) :=
  va_newa (atype := .int) (a0 := (N, .inl (fun zz => nI ((fun _ => 0) zz)))) X.1.1 X.1.2.1 (X.1.2.2.2.2 _ h1) rfl X.2.1 h.1 h.2.1 h.2.2 X.2.2 (fun cA => rfl) (nI_pos (by omega)) (nI_clamp (by omega)) (by show N * 4 ≤ _; omega) hc hs hd (fun q cA H1 a b c d => kk q cA H1 ⟨X.1, a, X.2.2⟩ ⟨b, c, d⟩)
theorem rNl {N : Nat} (X : zX p m c cc nL s args own D tys A) (h : zH D A s ws H locs) (h1 : Cond.arrayClass .long ∈ wz) (hN : N ≤ 300000) (hc : cells + 1 ≤ R.cells) (hs : slots + N ≤ R.slots) (hd : decode cc pc = .ok (.newarray .long, 2))
    (kk : ∀ (q : Nat) (cA : ClassId) (H1 : Heap), zX p m c cc nL s args own D (tys ++ [(cA, .long)]) A → zH D A s (ws ++ [(q, .inl (cA, N, .inr (.inl (fun _ => 0))))]) H1 locs → W p l e R s m args below meth c H1 locs (cells + 1) (slots + N) Q (F0 m (pc + 2) ls (.ref q :: rest))) : W p l e R s m args below meth c H locs cells slots Q (F0 m pc ls (.int (nI N) :: rest)) :=
  va_newa (atype := .long) (a0 := (N, .inr (.inl (fun _ => 0)))) X.1.1 X.1.2.1 (X.1.2.2.2.2 _ h1) rfl X.2.1 h.1 h.2.1 h.2.2 X.2.2 (fun cA => rfl) (nI_pos (by omega)) (nI_clamp (by omega)) (by show N * 8 ≤ _; omega) hc hs hd (fun q cA H1 a b c d => kk q cA H1 ⟨X.1, a, X.2.2⟩ ⟨b, c, d⟩)
/-- new C -/
theorem rNew {C : String} {T : u_T} {N ci index : Nat} {ty0 : Nat → FieldType} {fs : List Value} (X : zX p m c cc nL s args own D tys A) (h : zH D A s ws H locs) (hin : ∀ w ∈ u_ws C T N, w ∈ wz) (hty : ∀ k, k < N → parseFieldDescriptor (T k).2.2.1 = some (ty0 k)) (h1 : Cond.classLink own index C ∈ wz) (h2 : Cond.instantiable C N ∈ wz) (h3 : Cond.initialized C ∈ wz) (hc : zC[ci]? = some (C, T, N)) (hfs : ∀ j, j < N → defaultValue (ty0 j) = vp_V fs j) (hcl : cells + 1 ≤ R.cells) (hs : slots + N ≤ R.slots) (hd : decode cc pc = .ok (.new index, 3))
    (kk : ∀ (q : Nat) (H1 : Heap), zH D A s (ws ++ [(q, .inr (ci, fs))]) H1 locs → W p l e R s m args below meth c H1 locs (cells + 1) (slots + N) Q (F0 m (pc + 3) ls (.ref q :: rest))) : W p l e R s m args below meth c H locs cells slots Q (F0 m pc ls rest) :=
  va_new X.1.1 X.1.2.1 X.1.2.2.2.2 hin ty0 hty X.1.2.2.2.1 (X.1.2.2.2.2 _ h1) (X.1.2.2.2.2 _ h2) (X.1.2.2.2.2 _ h3) X.2.1 h.1 h.2.1 h.2.2 X.2.2 hc hfs hcl hs hd (fun q H1 a b c => kk q H1 ⟨a, b, c⟩)
/-- a constructor is called -/
theorem rCn {index b : Nat} {y : MethodName} {cc' : ByteArray} {nL' : Nat} {rm : Room} {As : List Value} {tysC : List (ClassId × FieldType)} {wc wr : va_W} {S : Type} {E : State → Prop} {tys' : S → List (ClassId × FieldType)} {ws' wf : S → va_W}
    (X : zX p m c cc nL s args own D tys A) (h : zH D A s ws H locs) (hl : ls.size = nL) (hM : zMn l D y cc' nL' rm (.ref b :: As) tysC wc H.size E tys' ws') (hEb : ∀ (U : State) (g : JFrame) (mk : MethodId) (a : Array Value), E U → E (U.calling g mk a)) (hEs : ∀ U : State, s.WarmedH U.vm → E U) (h1 : Cond.methodLink own index y ∈ wz) (h2 : Cond.instanceMethod y ∈ wz) (h4 : Cond.initialized y.cls ∈ wz) (h5 : Cond.code y cc' nL' none ∈ wz) (hn : y.name = "<init>")
    (hd : y.cls ≠ "java/lang/invoke/MethodHandle" ∧ y.cls ≠ "java/lang/invoke/VarHandle" ∧ (parseMethodDescriptor y.desc).map (fun d => d.parameters.length) = some As.length) (hR : rm.frames + 1 ≤ R.frames ∧ 8 + (nL' + 11) + rm.locals ≤ R.locals) (hcs : cells + rm.cells ≤ R.cells ∧ slots + rm.slots ≤ R.slots)
    (ts : List Nat) (hts : ts.filterMap (fun i => tys[i]?) = tysC) (isC isR isB : List Nat) (hC : isC.map (fun i => ws[i]?) = wc.map some) (hnC : va_nd isC = true) (hRr : isR.map (fun i => ws[i]?) = wr.map some) (hnR : va_nd isR = true) (hdis : ∀ i ∈ isR, i ∉ isC) (hB : ∀ u, isB.map (fun i => (wr ++ ws' u)[i]?) = (wf u).map some) (hnB : va_nd isB = true)
    (hst : st = As.reverse ++ .ref b :: rest) (hrest : (rest.map fun v => v.category).sum ≤ 8) (hdg : decode cc pc = .ok (.invokespecial index, 3))
    (kk : ∀ (u : S) (H1 : Heap) (locs1 : List Loc), zX p m c cc nL s args own D (tys ++ tys' u) A → zH D A s (wf u) H1 locs1 → W p l e R s m args below meth c H1 locs1 (cells + rm.cells) (slots + rm.slots) Q (F0 m (pc + 3) ls rest)) : W p l e R s m args below meth c H locs cells slots Q (F0 m pc ls st) := by
  subst hst
  obtain ⟨hP, hD, hS⟩ := h
  have hPc : va_P D zC wc H := hP.sub isC (zfm hC)
  have hDc : va_D A wc := hD.sub isC hnC hC
  have hKc : va_K D zC tysC s := X.2.1.sub ts hts
  have hFc := va_free hD hS X.2.2 isC hC
  refine va_callv (va_runI (As := As) (rest := rest) X.1 hM (cwI As.length X.1.2.2.2.2 (wz_cons h5) rfl rfl rfl (X.1.2.2.2.2 _ h4) (X.1.2.2.2.2 _ h1) (X.1.2.2.2.2 _ h2) hn hd hR) ⟨fun a U g mk q => ?_, fun U hU hW => ⟨rfl, ⟨by rw [hU], by rw [hU]; exact hPc, va_K.moved hW.alike hKc, hDc.weaken (fun _ _ _ _ => trivial)⟩, hEs U hW⟩⟩ rfl rfl hl rfl (lv_room hrest) hdg hcs) hS (fun q _ h => hFc q h) hFc (fun u t H1 locs1 ht hvm hp hB' hz hk hS1 => ?_)
  · obtain ⟨q0, ⟨q1, qP, qK, qD⟩, qE⟩ := q
    exact ⟨q0, ⟨q1, qP, va_K.moved (u := U) (U := U.calling g mk a) (Vm.Alike.refl U.vm) qK, qD⟩, hEb U g mk a qE⟩
  · obtain ⟨hP1, hK1, hD1⟩ := hB'
    rw [ht] at hP1
    obtain ⟨hP2, hD2⟩ := va_join hP hD isC isR hC hRr hnR hdis hk hFc hP1 hD1
    exact kk u H1 locs1 ⟨X.1, X.2.1.app (va_K.moved hvm.symm hK1), X.2.2⟩ (zH.pick ⟨hP2, hD2, hS1⟩ isB (hB u) hnB)
/-- .. a nest mate's private one -/
theorem rCnN {index b : Nat} {host : String} {y : MethodName} {cc' : ByteArray} {nL' : Nat} {rm : Room} {As : List Value} {tysC : List (ClassId × FieldType)} {wc wr : va_W} {S : Type} {E : State → Prop} {tys' : S → List (ClassId × FieldType)} {ws' wf : S → va_W}
    (X : zX p m c cc nL s args own D tys A) (h : zH D A s ws H locs) (hl : ls.size = nL) (hM : zMn l D y cc' nL' rm (.ref b :: As) tysC wc H.size E tys' ws') (hEb : ∀ (U : State) (g : JFrame) (mk : MethodId) (a : Array Value), E U → E (U.calling g mk a)) (hEs : ∀ U : State, s.WarmedH U.vm → E U) (h1 : va_Nw (.methodLinkNest own index y host) s) (h2 : Cond.instanceMethod y ∈ wz) (h4 : Cond.initialized y.cls ∈ wz) (h5 : Cond.code y cc' nL' none ∈ wz) (hn : y.name = "<init>")
    (hd : y.cls ≠ "java/lang/invoke/MethodHandle" ∧ y.cls ≠ "java/lang/invoke/VarHandle" ∧ (parseMethodDescriptor y.desc).map (fun d => d.parameters.length) = some As.length) (hR : rm.frames + 1 ≤ R.frames ∧ 8 + (nL' + 11) + rm.locals ≤ R.locals) (hcs : cells + rm.cells ≤ R.cells ∧ slots + rm.slots ≤ R.slots)
    (ts : List Nat) (hts : ts.filterMap (fun i => tys[i]?) = tysC) (isC isR isB : List Nat) (hC : isC.map (fun i => ws[i]?) = wc.map some) (hnC : va_nd isC = true) (hRr : isR.map (fun i => ws[i]?) = wr.map some) (hnR : va_nd isR = true) (hdis : ∀ i ∈ isR, i ∉ isC) (hB : ∀ u, isB.map (fun i => (wr ++ ws' u)[i]?) = (wf u).map some) (hnB : va_nd isB = true)
    (hst : st = As.reverse ++ .ref b :: rest) (hrest : (rest.map fun v => v.category).sum ≤ 8) (hdg : decode cc pc = .ok (.invokespecial index, 3))
    (kk : ∀ (u : S) (H1 : Heap) (locs1 : List Loc), zX p m c cc nL s args own D (tys ++ tys' u) A → zH D A s (wf u) H1 locs1 → W p l e R s m args below meth c H1 locs1 (cells + rm.cells) (slots + rm.slots) Q (F0 m (pc + 3) ls rest)) : W p l e R s m args below meth c H locs cells slots Q (F0 m pc ls st) := by
  subst hst
  obtain ⟨hP, hD, hS⟩ := h
  have hPc : va_P D zC wc H := hP.sub isC (zfm hC)
  have hDc : va_D A wc := hD.sub isC hnC hC
  have hKc : va_K D zC tysC s := X.2.1.sub ts hts
  have hFc := va_free hD hS X.2.2 isC hC
  refine va_callv (va_runIN (As := As) (rest := rest) X.1 hM ⟨va_cnB As.length X.1.2.2.2.2 (wz_cons h5) rfl rfl rfl h1 (X.1.2.2.2.2 _ h4) hd hR, hn, X.1.2.2.2.2 _ h2⟩ ⟨fun a U g mk q => ?_, fun U hU hW => ⟨rfl, ⟨by rw [hU], by rw [hU]; exact hPc, va_K.moved hW.alike hKc, hDc.weaken (fun _ _ _ _ => trivial)⟩, hEs U hW⟩⟩ rfl rfl hl rfl (lv_room hrest) hdg hcs) hS (fun q _ h => hFc q h) hFc (fun u t H1 locs1 ht hvm hp hB' hz hk hS1 => ?_)
  · obtain ⟨q0, ⟨q1, qP, qK, qD⟩, qE⟩ := q
    exact ⟨q0, ⟨q1, qP, va_K.moved (u := U) (U := U.calling g mk a) (Vm.Alike.refl U.vm) qK, qD⟩, hEb U g mk a qE⟩
  · obtain ⟨hP1, hK1, hD1⟩ := hB'
    rw [ht] at hP1
    obtain ⟨hP2, hD2⟩ := va_join hP hD isC isR hC hRr hnR hdis hk hFc hP1 hD1
    exact kk u H1 locs1 ⟨X.1, X.2.1.app (va_K.moved hvm.symm hK1), X.2.2⟩ (zH.pick ⟨hP2, hD2, hS1⟩ isB (hB u) hnB)
end ZN
