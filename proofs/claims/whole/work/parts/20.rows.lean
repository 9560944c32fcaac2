/-! the rows of the walk in one form: X what stays (code, words, classes), h what the heap holds now -/
def zX (p : Program) (m : MethodId) (c : Code) (cc : ByteArray) (nL : Nat) (s : State) (args : Array Value) (own : String) (D : va_G) (tys : List (ClassId × FieldType)) (A : Nat → Prop) : Prop := CallFix p m c cc nL s args wz own ∧ va_K D zC tys s ∧ ∀ q, s.heap.size ≤ q → A q
def zH (D : va_G) (A : Nat → Prop) (s : State) (ws : va_W) (H : Heap) (locs : List Loc) : Prop := va_P D zC ws H ∧ va_D A ws ∧ va_S A s.heap H locs
theorem zH.pick {D : va_G} {A : Nat → Prop} {s : State} {ws ws' : va_W} {H : Heap} {locs : List Loc} (h : zH D A s ws H locs) (is : List Nat) (hs : is.map (fun i => ws[i]?) = ws'.map some) (hn : va_nd is = true) : zH D A s ws' H locs := ⟨h.1.sub is (zfm hs), h.2.1.sub is hn hs, h.2.2⟩
/-- the contract of a method that answers an array or object: its address is in the state behind -/
abbrev zMr (l : Launch) (D : va_G) (y : MethodName) (cc : ByteArray) (nL : Nat) (ret : FieldType) (rm : Room) (as : List Value) (tys : List (ClassId × FieldType)) (ws : va_W) (sz : Nat) (ra : Nat) (ws' : va_W) : Prop :=
  Met l y (.code y cc nL (some ret) :: wz) rm (va_Pc as (zPre D tys ws sz)) (va_Qr (fun _ : Unit => True) (fun _ a t => a = ra ∧ zPost D tys ws' (va_A ws sz) t) (va_A ws sz)) rm.cells rm.slots (va_A ws sz)
section ZR
variable {l : Launch} {D : va_G} {y : MethodName} {cc : ByteArray} {nL : Nat} {rm : Room} {as : List Value} {tys : List (ClassId × FieldType)} {ws : va_W} {sz : Nat} {S : Type}
theorem zEv {post : S → Prop} {ws' : S → va_W} (hy : plainName y.cls = true) (hlen : (lg_sl as).length ≤ nL)
    (body : ∀ (p : Program) (e : Env) (s : State) (m : MethodId) (args : Array Value) (below : List Frame) (meth : Method) (c : Code) (ls : Array Slot) (A : Nat → Prop) (Q : State → Prop), zX p m c cc nL s args y.cls D tys A → meth.name = y.name → lv_has ls nL (lv_args 0 as) → zH D A s ws s.heap [] → s.heap.size = sz →
      (∀ (u : S) (H : Heap) (locs : List Loc) (ls : Array Slot) (pc : Nat), post u → zH D A s (ws' u) H locs → decode cc pc = .ok (.return_, 1) → W p l e rm s m args below meth c H locs rm.cells rm.slots Q (F0 m pc ls [])) →
      W p l e rm s m args below meth c s.heap [] 0 0 Q (F0 m 0 ls [])) : zMv l D y cc nL rm as tys ws sz post ws' :=
  zInv hy hlen (fun p e s m below meth c ls A X hr hlk hnm hl hP hK hD hS hA hsz => body p e s m as.toArray below meth c ls A _ ⟨X, hK, hA⟩ hnm hl ⟨hP, hD, hS⟩ hsz (fun u H locs ls pc hu h hd => zRetv (u := u) X hr hlk hu h.1 hK h.2.1 h.2.2 hd))
theorem zEi {post : Int32 → S → Prop} {ws' : S → va_W} (hy : plainName y.cls = true) (hlen : (lg_sl as).length ≤ nL)
    (body : ∀ (p : Program) (e : Env) (s : State) (m : MethodId) (args : Array Value) (below : List Frame) (meth : Method) (c : Code) (ls : Array Slot) (A : Nat → Prop) (Q : State → Prop), zX p m c cc nL s args y.cls D tys A → lv_has ls nL (lv_args 0 as) → zH D A s ws s.heap [] → s.heap.size = sz →
      (∀ (v : Int32) (u : S) (H : Heap) (locs : List Loc) (ls : Array Slot) (pc : Nat), post v u → zH D A s (ws' u) H locs → decode cc pc = .ok (.ireturn, 1) → W p l e rm s m args below meth c H locs rm.cells rm.slots Q (F0 m pc ls [.int v])) →
      W p l e rm s m args below meth c s.heap [] 0 0 Q (F0 m 0 ls [])) : zMi l D y cc nL .int rm as tys ws sz post ws' :=
  zIni hy hlen (fun p e s m below meth c ls A X hr hlk hl hP hK hD hS hA hsz => body p e s m as.toArray below meth c ls A _ ⟨X, hK, hA⟩ hl ⟨hP, hD, hS⟩ hsz (fun v u H locs ls pc hu h hd => zReti (u := u) X hr hlk hu h.1 hK h.2.1 h.2.2 hd))
theorem zEz {post : Int32 → S → Prop} {ws' : S → va_W} (hy : plainName y.cls = true) (hlen : (lg_sl as).length ≤ nL)
    (body : ∀ (p : Program) (e : Env) (s : State) (m : MethodId) (args : Array Value) (below : List Frame) (meth : Method) (c : Code) (ls : Array Slot) (A : Nat → Prop) (Q : State → Prop), zX p m c cc nL s args y.cls D tys A → lv_has ls nL (lv_args 0 as) → zH D A s ws s.heap [] → s.heap.size = sz →
      (∀ (v : Int32) (u : S) (H : Heap) (locs : List Loc) (ls : Array Slot) (pc : Nat), narrow .boolean (.int v) = .int v → post v u → zH D A s (ws' u) H locs → decode cc pc = .ok (.ireturn, 1) → W p l e rm s m args below meth c H locs rm.cells rm.slots Q (F0 m pc ls [.int v])) →
      W p l e rm s m args below meth c s.heap [] 0 0 Q (F0 m 0 ls [])) : zMi l D y cc nL .boolean rm as tys ws sz post ws' :=
  zIni hy hlen (fun p e s m below meth c ls A X hr hlk hl hP hK hD hS hA hsz => body p e s m as.toArray below meth c ls A _ ⟨X, hK, hA⟩ hl ⟨hP, hD, hS⟩ hsz (fun v u H locs ls pc hn hu h hd => zRetz (u := u) X hr hlk hn hu h.1 hK h.2.1 h.2.2 hd))
theorem zEr {ret : FieldType} {ra : Nat} {ws' : va_W} (hy : plainName y.cls = true) (hlen : (lg_sl as).length ≤ nL) (hret : (∃ n, ret = .object n) ∨ ∃ t, ret = .array t)
    (body : ∀ (p : Program) (e : Env) (s : State) (m : MethodId) (args : Array Value) (below : List Frame) (meth : Method) (c : Code) (ls : Array Slot) (A : Nat → Prop) (Q : State → Prop), zX p m c cc nL s args y.cls D tys A → lv_has ls nL (lv_args 0 as) → zH D A s ws s.heap [] → s.heap.size = sz →
      (∀ (H : Heap) (locs : List Loc) (ls : Array Slot) (pc : Nat), zH D A s ws' H locs → decode cc pc = .ok (.areturn, 1) → W p l e rm s m args below meth c H locs rm.cells rm.slots Q (F0 m pc ls [.ref ra])) →
      W p l e rm s m args below meth c s.heap [] 0 0 Q (F0 m 0 ls [])) : zMr l D y cc nL ret rm as tys ws sz ra ws' := by
  refine Met.ofW (cc := cc) (maxL := nL) (ret := some ret) hy rfl ?_
  intro p e s m args below meth c s₁ B hml hv
  obtain ⟨rfl, hsz, hP, hK, hD0⟩ := hv
  have hts := atoms_spec (ws := .code y cc nL (some ret) :: wz) B.pre
  have hl := lv_entry as (n := nL) hlen
  rw [lg_entry_eq]
  generalize (lg_sl as ++ List.replicate (nL - (lg_sl as).length) Slot.unset).toArray = ls at hl ⊢
  have X : CallFix p m c cc nL s as.toArray wz y.cls := ⟨B.exec, B.bytes, hml, findClass_of_methodNamed B.named, fun w h => hts w (List.mem_cons_of_mem _ h)⟩
  have hr := B.returns
  have hlk := B.notSynchronized
  exact body p e s m as.toArray below meth c ls (va_A ws sz) _ ⟨X, hK, fun q h => Or.inr (by rw [← hsz]; exact h)⟩ hl ⟨hP, hD0.self (sz := sz), va_S.rf⟩ hsz (fun H locs ls pc h hd => W.aret X.1 X.2.1 hr hret (Or.inr ⟨ra, rfl⟩) (fun t ht hW => ⟨⟨(), ra, rfl, trivial, rfl, by rw [ht]; exact h.1, va_K.moved hW.alike hK, h.2.1⟩, h.2.2.F ht⟩) h.2.2.2.2 hd hlk)
end ZR
section ZS
variable {p : Program} {l : Launch} {e : Env} {R : Room} {s : State} {m : MethodId} {args : Array Value} {below : List Frame} {meth : Method} {c : Code} {H : Heap} {locs : List Loc} {cells slots : Nat} {Q : State → Prop}
variable {cc : ByteArray} {pc nL : Nat} {ls : Array Slot} {rest st : List Value} {own : String} {D : va_G} {A : Nat → Prop} {tys : List (ClassId × FieldType)} {ws : va_W}
theorem rG {a : Nat} (X : zX p m c cc nL s args own D tys A) (h : zH D A s ws H locs) (q0 : Nat) {ci : Nat} {fs : List Value} (he : ws[q0]? = some (a, .inr (ci, fs))) {C : String} {T : u_T} {N : Nat} (hc : zC[ci]? = some (C, T, N)) (hin : ∀ w ∈ u_ws C T N, w ∈ wz) (k : Nat) (hk : k < N) {index : Nat} (hlink : Cond.fieldLink own index (T k).1 (T k).2.1 (T k).2.2.1 ∈ wz) {v : Value} (hv : fs[k]? = some v) (hdg : decode cc pc = .ok (.getfield index, 3))
    (kk : W p l e R s m args below meth c H locs cells slots Q (F0 m (pc + 3) ls (v :: rest))) : W p l e R s m args below meth c H locs cells slots Q (F0 m pc ls (.ref a :: rest)) :=
  zGet X.1 X.2.1 h.1 q0 he hc hin k hk hlink hv hdg kk
theorem rP {a : Nat} (X : zX p m c cc nL s args own D tys A) (h : zH D A s ws H locs) (q0 : Nat) {ci : Nat} {fs : List Value} (he : ws[q0]? = some (a, .inr (ci, fs))) {C : String} {T : u_T} {N : Nat} (hc : zC[ci]? = some (C, T, N)) (hin : ∀ w ∈ u_ws C T N, w ∈ wz) {ty0 : Nat → FieldType} (hty : ∀ k, k < N → parseFieldDescriptor (T k).2.2.1 = some (ty0 k)) (hnm : ∀ a, a < N → ∀ b, b < N → a ≠ b → (T a).2.1 ≠ (T b).2.1) (k : Nat) (hk : k < N) {index : Nat} (hlink : Cond.fieldLink own index (T k).1 (T k).2.1 (T k).2.2.1 ∈ wz) (hfin : (T k).2.2.2 = false) {v : Value} (hn : narrow (ty0 k) v = v) (hfit : fits (ty0 k) v = true) (hl : k < fs.length) (hdg : decode cc pc = .ok (.putfield index, 3))
    (kk : ∀ (H1 : Heap) (locs1 : List Loc), zH D A s (ws.set q0 (a, .inr (ci, fs.set k v))) H1 locs1 → W p l e R s m args below meth c H1 locs1 cells slots Q (F0 m (pc + 3) ls rest)) : W p l e R s m args below meth c H locs cells slots Q (F0 m pc ls (v :: .ref a :: rest)) :=
  zPut X.1 X.2.1 h.1 h.2.1 h.2.2 q0 he hc hin hty hnm k hk hlink hfin hn hfit hl hdg (fun H1 locs1 a b c => kk H1 locs1 ⟨a, b, c⟩)
theorem rPF {a : Nat} (X : zX p m c cc nL s args own D tys A) (h : zH D A s ws H locs) (q0 : Nat) {ci : Nat} {fs : List Value} (he : ws[q0]? = some (a, .inr (ci, fs))) {C : String} {T : u_T} {N : Nat} (hc : zC[ci]? = some (C, T, N)) (hin : ∀ w ∈ u_ws C T N, w ∈ wz) {ty0 : Nat → FieldType} (hty : ∀ k, k < N → parseFieldDescriptor (T k).2.2.1 = some (ty0 k)) (hnm : ∀ a, a < N → ∀ b, b < N → a ≠ b → (T a).2.1 ≠ (T b).2.1) (k : Nat) (hk : k < N) {index : Nat} (hlink : Cond.fieldLink own index (T k).1 (T k).2.1 (T k).2.2.1 ∈ wz) (hfin : (T k).2.2.2 = true) (hinit : meth.name = "<init>") (hdecl : (T k).1 = own) {v : Value} (hn : narrow (ty0 k) v = v) (hfit : fits (ty0 k) v = true) (hl : k < fs.length) (hdg : decode cc pc = .ok (.putfield index, 3))
    (kk : ∀ (H1 : Heap) (locs1 : List Loc), zH D A s (ws.set q0 (a, .inr (ci, fs.set k v))) H1 locs1 → W p l e R s m args below meth c H1 locs1 cells slots Q (F0 m (pc + 3) ls rest)) : W p l e R s m args below meth c H locs cells slots Q (F0 m pc ls (v :: .ref a :: rest)) :=
  zPutF X.1 X.2.1 h.1 h.2.1 h.2.2 q0 he hc hin hty hnm k hk hlink hfin hinit hdecl hn hfit hl hdg (fun H1 locs1 a b c => kk H1 locs1 ⟨a, b, c⟩)
theorem rLi {a n k : Nat} {f : Nat → Int32} {cA : ClassId} (X : zX p m c cc nL s args own D tys A) (h : zH D A s ws H locs) (q0 t0 : Nat) (ha : ws[q0]? = some (a, .inl (cA, n, .inl f))) (ht : tys[t0]? = some (cA, .int)) (hk : k < n) (hn : n < 2 ^ 31) (hdg : decode cc pc = .ok (.iaload, 1))
    (kk : W p l e R s m args below meth c H locs cells slots Q (F0 m (pc + 1) ls (.int (f k) :: rest))) : W p l e R s m args below meth c H locs cells slots Q (F0 m pc ls (.int (nI k) :: .ref a :: rest)) := zLdi (t0 := t0) X.1 X.2.1 h.1 q0 ha ht hk hn hdg kk
theorem rLb {a n k : Nat} {f : Nat → Int32} {cA : ClassId} (X : zX p m c cc nL s args own D tys A) (h : zH D A s ws H locs) (q0 t0 : Nat) (ha : ws[q0]? = some (a, .inl (cA, n, .inl f))) (ht : tys[t0]? = some (cA, .byte)) (hk : k < n) (hn : n < 2 ^ 31) (hdg : decode cc pc = .ok (.baload, 1))
    (kk : W p l e R s m args below meth c H locs cells slots Q (F0 m (pc + 1) ls (.int (f k) :: rest))) : W p l e R s m args below meth c H locs cells slots Q (F0 m pc ls (.int (nI k) :: .ref a :: rest)) := zLdb (t0 := t0) X.1 X.2.1 h.1 q0 ha ht hk hn hdg kk
theorem rSi {a n k : Nat} {x : Int32} {f : Nat → Int32} {cA : ClassId} (X : zX p m c cc nL s args own D tys A) (h : zH D A s ws H locs) (q0 t0 : Nat) (ha : ws[q0]? = some (a, .inl (cA, n, .inl f))) (ht : tys[t0]? = some (cA, .int)) (hk : k < n) (hn : n < 2 ^ 31) (hdg : decode cc pc = .ok (.iastore, 1))
    (kk : ∀ (H1 : Heap) (locs1 : List Loc), zH D A s (ws.set q0 (a, .inl (cA, n, .inl (upd f k x)))) H1 locs1 → W p l e R s m args below meth c H1 locs1 cells slots Q (F0 m (pc + 1) ls rest)) : W p l e R s m args below meth c H locs cells slots Q (F0 m pc ls (.int x :: .int (nI k) :: .ref a :: rest)) := zSti (t0 := t0) X.1 X.2.1 h.1 h.2.1 h.2.2 q0 ha ht hk hn hdg (fun H1 locs1 a b c => kk H1 locs1 ⟨a, b, c⟩)
theorem rSb {a n k : Nat} {x x' : Int32} {f : Nat → Int32} {cA : ClassId} (X : zX p m c cc nL s args own D tys A) (h : zH D A s ws H locs) (q0 t0 : Nat) (ha : ws[q0]? = some (a, .inl (cA, n, .inl f))) (ht : tys[t0]? = some (cA, .byte)) (hk : k < n) (hn : n < 2 ^ 31) (hx : vp_nar .byte x = x') (hdg : decode cc pc = .ok (.bastore, 1))
    (kk : ∀ (H1 : Heap) (locs1 : List Loc), zH D A s (ws.set q0 (a, .inl (cA, n, .inl (upd f k x')))) H1 locs1 → W p l e R s m args below meth c H1 locs1 cells slots Q (F0 m (pc + 1) ls rest)) : W p l e R s m args below meth c H locs cells slots Q (F0 m pc ls (.int x :: .int (nI k) :: .ref a :: rest)) := zStb (t0 := t0) X.1 X.2.1 h.1 h.2.1 h.2.2 q0 ha ht hk hn hx hdg (fun H1 locs1 a b c => kk H1 locs1 ⟨a, b, c⟩)
/-- a call on an object, no answer; the cells come back in the order of wf -/
theorem rCv {C : String} {index ci : Nat} {fs : List Value} {T : u_T} {N : Nat} {y : MethodName} {cc' : ByteArray} {nL' b : Nat} {rm : Room} {As : List Value} {tysC : List (ClassId × FieldType)} {wc wr : va_W} {S : Type} {post : S → Prop} {ws' wf : S → va_W}
    (X : zX p m c cc nL s args own D tys A) (h : zH D A s ws H locs) (hl : ls.size = nL) (hM : zMv l D y cc' nL' rm (.ref b :: As) tysC wc H.size post ws') (h1 : Cond.methodLink own index y ∈ wz) (h2 : Cond.instanceMethod y ∈ wz) (h3 : Cond.selects C y y ∈ wz) (h4 : Cond.initialized C ∈ wz) (h5 : Cond.code y cc' nL' none ∈ wz)
    (hd : y.cls = C ∧ y.cls ≠ "java/lang/invoke/MethodHandle" ∧ y.cls ≠ "java/lang/invoke/VarHandle" ∧ (parseMethodDescriptor y.desc).map (fun d => d.parameters.length) = some As.length) (hR : rm.frames + 1 ≤ R.frames ∧ 8 + (nL' + 11) + rm.locals ≤ R.locals) (hcs : cells + rm.cells ≤ R.cells ∧ slots + rm.slots ≤ R.slots)
    (ts : List Nat) (hts : ts.filterMap (fun i => tys[i]?) = tysC) (isC isR isB : List Nat) (hC : isC.map (fun i => ws[i]?) = wc.map some) (hnC : va_nd isC = true) (hRr : isR.map (fun i => ws[i]?) = wr.map some) (hnR : va_nd isR = true) (hdis : ∀ i ∈ isR, i ∉ isC) (hB : ∀ u, isB.map (fun i => (wr ++ ws' u)[i]?) = (wf u).map some) (hnB : va_nd isB = true)
    (q0 : Nat) (hb0 : wc[q0]? = some (b, .inr (ci, fs))) (hci : zC[ci]? = some (C, T, N)) (hst : st = As.reverse ++ .ref b :: rest) (hrest : (rest.map fun v => v.category).sum ≤ 8) (hdg : decode cc pc = .ok (.invokevirtual index, 3))
    (kk : ∀ (u : S) (H1 : Heap) (locs1 : List Loc), post u → zH D A s (wf u) H1 locs1 → W p l e R s m args below meth c H1 locs1 (cells + rm.cells) (slots + rm.slots) Q (F0 m (pc + 3) ls rest)) : W p l e R s m args below meth c H locs cells slots Q (F0 m pc ls st) :=
  zCallVv X.1 hl hM h1 h2 h3 h4 h5 hd hR hcs X.2.1 ts hts h.1 h.2.1 h.2.2 X.2.2 isC isR hC hnC hRr hnR hdis q0 hb0 hci hst hrest hdg (fun u H1 locs1 hp a b c => kk u H1 locs1 hp (zH.pick ⟨a, b, c⟩ isB (hB u) hnB))
theorem rCi {C : String} {index ci : Nat} {fs : List Value} {T : u_T} {N : Nat} {y : MethodName} {cc' : ByteArray} {nL' b : Nat} {ret : FieldType} {rm : Room} {As : List Value} {tysC : List (ClassId × FieldType)} {wc wr : va_W} {S : Type} {post : Int32 → S → Prop} {ws' wf : S → va_W}
    (X : zX p m c cc nL s args own D tys A) (h : zH D A s ws H locs) (hl : ls.size = nL) (hM : zMi l D y cc' nL' ret rm (.ref b :: As) tysC wc H.size post ws') (h1 : Cond.methodLink own index y ∈ wz) (h2 : Cond.instanceMethod y ∈ wz) (h3 : Cond.selects C y y ∈ wz) (h4 : Cond.initialized C ∈ wz) (h5 : Cond.code y cc' nL' (some ret) ∈ wz)
    (hd : y.cls = C ∧ y.cls ≠ "java/lang/invoke/MethodHandle" ∧ y.cls ≠ "java/lang/invoke/VarHandle" ∧ (parseMethodDescriptor y.desc).map (fun d => d.parameters.length) = some As.length) (hR : rm.frames + 1 ≤ R.frames ∧ 8 + (nL' + 11) + rm.locals ≤ R.locals) (hcs : cells + rm.cells ≤ R.cells ∧ slots + rm.slots ≤ R.slots)
    (ts : List Nat) (hts : ts.filterMap (fun i => tys[i]?) = tysC) (isC isR isB : List Nat) (hC : isC.map (fun i => ws[i]?) = wc.map some) (hnC : va_nd isC = true) (hRr : isR.map (fun i => ws[i]?) = wr.map some) (hnR : va_nd isR = true) (hdis : ∀ i ∈ isR, i ∉ isC) (hB : ∀ u, isB.map (fun i => (wr ++ ws' u)[i]?) = (wf u).map some) (hnB : va_nd isB = true)
    (q0 : Nat) (hb0 : wc[q0]? = some (b, .inr (ci, fs))) (hci : zC[ci]? = some (C, T, N)) (hst : st = As.reverse ++ .ref b :: rest) (hrest : (rest.map fun v => v.category).sum ≤ 8) (hdg : decode cc pc = .ok (.invokevirtual index, 3))
    (kk : ∀ (r : Int32) (u : S) (H1 : Heap) (locs1 : List Loc), post r u → zH D A s (wf u) H1 locs1 → W p l e R s m args below meth c H1 locs1 (cells + rm.cells) (slots + rm.slots) Q (F0 m (pc + 3) ls (.int r :: rest))) : W p l e R s m args below meth c H locs cells slots Q (F0 m pc ls st) :=
  zCallVi X.1 hl hM h1 h2 h3 h4 h5 hd hR hcs X.2.1 ts hts h.1 h.2.1 h.2.2 X.2.2 isC isR hC hnC hRr hnR hdis q0 hb0 hci hst hrest hdg (fun r u H1 locs1 hp a b c => kk r u H1 locs1 hp (zH.pick ⟨a, b, c⟩ isB (hB u) hnB))
theorem rCs {index : Nat} {y : MethodName} {cc' : ByteArray} {nL' : Nat} {ret : FieldType} {rm : Room} {As : List Value} {tysC : List (ClassId × FieldType)} {wc wr : va_W} {S : Type} {post : Int32 → S → Prop} {ws' wf : S → va_W}
    (X : zX p m c cc nL s args own D tys A) (h : zH D A s ws H locs) (hl : ls.size = nL) (hM : zMi l D y cc' nL' ret rm As tysC wc H.size post ws') (h1 : Cond.methodLink own index y ∈ wz) (h2 : Cond.static y ∈ wz) (h4 : Cond.initialized y.cls ∈ wz) (h5 : Cond.code y cc' nL' (some ret) ∈ wz)
    (hd : y.cls ≠ "java/lang/invoke/MethodHandle" ∧ y.cls ≠ "java/lang/invoke/VarHandle" ∧ (parseMethodDescriptor y.desc).map (fun d => d.parameters.length) = some As.length) (hR : rm.frames + 1 ≤ R.frames ∧ 8 + (nL' + 11) + rm.locals ≤ R.locals) (hcs : cells + rm.cells ≤ R.cells ∧ slots + rm.slots ≤ R.slots)
    (ts : List Nat) (hts : ts.filterMap (fun i => tys[i]?) = tysC) (isC isR isB : List Nat) (hC : isC.map (fun i => ws[i]?) = wc.map some) (hnC : va_nd isC = true) (hRr : isR.map (fun i => ws[i]?) = wr.map some) (hnR : va_nd isR = true) (hdis : ∀ i ∈ isR, i ∉ isC) (hB : ∀ u, isB.map (fun i => (wr ++ ws' u)[i]?) = (wf u).map some) (hnB : va_nd isB = true)
    (hst : st = As.reverse ++ rest) (hrest : (rest.map fun v => v.category).sum ≤ 8) (hdg : decode cc pc = .ok (.invokestatic index, 3))
    (kk : ∀ (r : Int32) (u : S) (H1 : Heap) (locs1 : List Loc), post r u → zH D A s (wf u) H1 locs1 → W p l e R s m args below meth c H1 locs1 (cells + rm.cells) (slots + rm.slots) Q (F0 m (pc + 3) ls (.int r :: rest))) : W p l e R s m args below meth c H locs cells slots Q (F0 m pc ls st) :=
  zCallSi X.1 hl hM h1 h2 h4 h5 hd hR hcs X.2.1 ts hts h.1 h.2.1 h.2.2 X.2.2 isC isR hC hnC hRr hnR hdis hst hrest hdg (fun r u H1 locs1 hp a b c => kk r u H1 locs1 hp (zH.pick ⟨a, b, c⟩ isB (hB u) hnB))
/-- .. a reference as answer -/
theorem rCr {C : String} {index ci : Nat} {fs : List Value} {T : u_T} {N : Nat} {y : MethodName} {cc' : ByteArray} {nL' b ra : Nat} {ret : FieldType} {rm : Room} {As : List Value} {tysC : List (ClassId × FieldType)} {wc wr ws' wf : va_W}
    (X : zX p m c cc nL s args own D tys A) (h : zH D A s ws H locs) (hl : ls.size = nL) (hM : zMr l D y cc' nL' ret rm (.ref b :: As) tysC wc H.size ra ws') (h1 : Cond.methodLink own index y ∈ wz) (h2 : Cond.instanceMethod y ∈ wz) (h3 : Cond.selects C y y ∈ wz) (h4 : Cond.initialized C ∈ wz) (h5 : Cond.code y cc' nL' (some ret) ∈ wz)
    (hd : y.cls = C ∧ y.cls ≠ "java/lang/invoke/MethodHandle" ∧ y.cls ≠ "java/lang/invoke/VarHandle" ∧ (parseMethodDescriptor y.desc).map (fun d => d.parameters.length) = some As.length) (hR : rm.frames + 1 ≤ R.frames ∧ 8 + (nL' + 11) + rm.locals ≤ R.locals) (hcs : cells + rm.cells ≤ R.cells ∧ slots + rm.slots ≤ R.slots)
    (ts : List Nat) (hts : ts.filterMap (fun i => tys[i]?) = tysC) (isC isR isB : List Nat) (hC : isC.map (fun i => ws[i]?) = wc.map some) (hnC : va_nd isC = true) (hRr : isR.map (fun i => ws[i]?) = wr.map some) (hnR : va_nd isR = true) (hdis : ∀ i ∈ isR, i ∉ isC) (hB : isB.map (fun i => (wr ++ ws')[i]?) = wf.map some) (hnB : va_nd isB = true)
    (q0 : Nat) (hb0 : wc[q0]? = some (b, .inr (ci, fs))) (hci : zC[ci]? = some (C, T, N)) (hst : st = As.reverse ++ .ref b :: rest) (hrest : (rest.map fun v => v.category).sum ≤ 8) (hdg : decode cc pc = .ok (.invokevirtual index, 3))
    (kk : ∀ (H1 : Heap) (locs1 : List Loc), zH D A s wf H1 locs1 → W p l e R s m args below meth c H1 locs1 (cells + rm.cells) (slots + rm.slots) Q (F0 m (pc + 3) ls (.ref ra :: rest))) : W p l e R s m args below meth c H locs cells slots Q (F0 m pc ls st) := by
  subst hst
  obtain ⟨hP, hD, hS⟩ := h
  have hPc : va_P D zC wc H := hP.sub isC (zfm hC)
  have hDc : va_D A wc := hD.sub isC hnC hC
  have hKc : va_K D zC tysC s := X.2.1.sub ts hts
  have hFc := va_free hD hS X.2.2 isC hC
  refine va_callr (va_runV (As := As) (rest := rest) X.1 hM (cwV As.length X.1.2.2.2.2 (wz_V h1 h2 h3 h4 h5) rfl rfl rfl hd hR) ⟨zBlind, va_recv hKc hPc hci hb0, fun U hU hW => ⟨rfl, by rw [hU], by rw [hU]; exact hPc, va_K.moved hW.alike hKc, hDc.weaken (fun _ _ _ _ => trivial)⟩⟩ rfl rfl hl rfl (lv_room hrest) hdg hcs) hS (fun q _ h => hFc q h) hFc (fun u ra' t H1 locs1 ht hvm hp hB' hz hk hS1 => ?_)
  obtain ⟨rfl, hP1, hK1, hD1⟩ := hB'
  rw [ht] at hP1
  obtain ⟨hP2, hD2⟩ := va_join hP hD isC isR hC hRr hnR hdis hk hFc hP1 hD1
  exact kk H1 locs1 (zH.pick ⟨hP2, hD2, hS1⟩ isB hB hnB)
/-- Math.min, Math.max of small numbers -/
theorem rMin {x y : Nat} {index : Nat} (X : zX p m c cc nL s args own D tys A) (hl : ls.size = nL) (h1 : Cond.methodLink own index Lib.Math.min.name ∈ wz) (h2 : Cond.static Lib.Math.min.name ∈ wz) (h3 : Cond.initialized "java/lang/Math" ∈ wz) (h4 : Cond.code Lib.Math.min.name Lib.Math.min.code 2 (some .int) ∈ wz) (hx : x < 2 ^ 31) (hy : y < 2 ^ 31) (hf : 1 ≤ R.frames) (hlo : (rest.map fun v => v.category).sum + 13 ≤ R.locals) (hc : cells ≤ R.cells) (hs : slots ≤ R.slots) (hdg : decode cc pc = .ok (.invokestatic index, 3))
    (kk : W p l e R s m args below meth c H locs cells slots Q (F0 m (pc + 3) ls (.int (nI (min x y)) :: rest))) : W p l e R s m args below meth c H locs cells slots Q (F0 m pc ls (.int (nI y) :: .int (nI x) :: rest)) := by
  refine va_mmin X.1.1 X.1.2.1 (by rw [X.1.2.2.1, hl]) X.1.2.2.2.1 (X.1.2.2.2.2 _ h1) (X.1.2.2.2.2 _ h2) (X.1.2.2.2.2 _ h3) (X.1.2.2.2.2 _ h4) hf hlo hc hs hdg ?_
  have e : (if nI y < nI x then nI y else nI x) = nI (min x y) := by
    by_cases q : y < x
    · rw [if_pos ((nI_ltI hy hx).mpr q), Nat.min_eq_right (by omega)]
    · rw [if_neg (fun z => q ((nI_ltI hy hx).mp z)), Nat.min_eq_left (by omega)]
  rw [e]
  exact kk
theorem rMax {x y : Nat} {index : Nat} (X : zX p m c cc nL s args own D tys A) (hl : ls.size = nL) (h1 : Cond.methodLink own index Lib.Math.max.name ∈ wz) (h2 : Cond.static Lib.Math.max.name ∈ wz) (h3 : Cond.initialized "java/lang/Math" ∈ wz) (h4 : Cond.code Lib.Math.max.name Lib.Math.max.code 2 (some .int) ∈ wz) (hx : x < 2 ^ 31) (hy : y < 2 ^ 31) (hf : 1 ≤ R.frames) (hlo : (rest.map fun v => v.category).sum + 13 ≤ R.locals) (hc : cells ≤ R.cells) (hs : slots ≤ R.slots) (hdg : decode cc pc = .ok (.invokestatic index, 3))
    (kk : W p l e R s m args below meth c H locs cells slots Q (F0 m (pc + 3) ls (.int (nI (max x y)) :: rest))) : W p l e R s m args below meth c H locs cells slots Q (F0 m pc ls (.int (nI y) :: .int (nI x) :: rest)) := by
  refine va_mmax X.1.1 X.1.2.1 (by rw [X.1.2.2.1, hl]) X.1.2.2.2.1 (X.1.2.2.2.2 _ h1) (X.1.2.2.2.2 _ h2) (X.1.2.2.2.2 _ h3) (X.1.2.2.2.2 _ h4) hf hlo hc hs hdg ?_
  have e : (if nI x < nI y then nI y else nI x) = nI (max x y) := by
    by_cases q : x < y
    · rw [if_pos ((nI_ltI hx hy).mpr q), Nat.max_eq_right (by omega)]
    · rw [if_neg (fun z => q ((nI_ltI hx hy).mp z)), Nat.max_eq_left (by omega)]
  rw [e]
  exact kk
/-- System.arraycopy of bytes -/
theorem rCopy {a0 a1 : Nat} {c0 c1 : ClassId} {n0 n1 sp dp n : Nat} {f g : Nat → Int32} {index : Nat} (X : zX p m c cc nL s args own D tys A) (h : zH D A s ws H locs) (hl : ls.size = nL) (h1 : Cond.methodLink own index arraycopyName ∈ wz) (h2 : Cond.native arraycopyName ∈ wz) (h3 : Cond.static arraycopyName ∈ wz) (h4 : Cond.initialized "java/lang/System" ∈ wz) (q0 q1 t0 t1 : Nat) (ha0 : ws[q0]? = some (a0, .inl (c0, n0, .inl f))) (ha1 : ws[q1]? = some (a1, .inl (c1, n1, .inl g))) (ht0 : tys[t0]? = some (c0, .byte)) (ht1 : tys[t1]? = some (c1, .byte)) (hn0 : n0 < 2 ^ 31) (hn1 : n1 < 2 ^ 31)
    (h5 : sp + n ≤ n0) (h6 : dp + n ≤ n1) (hfit : ∀ i, fits .byte (.int (f i)) = true) (hf : 1 ≤ R.frames) (hlo : (rest.map fun v => v.category).sum + (nativeFrameWords "java/lang/System" "arraycopy" 5 + 11) ≤ R.locals) (hdg : decode cc pc = .ok (.invokestatic index, 3))
    (kk : ∀ (H1 : Heap) (locs1 : List Loc), zH D A s (ws.set q1 (a1, .inl (c1, n1, .inl (va_cpy f g sp dp n)))) H1 locs1 → W p l e R s m args below meth c H1 locs1 cells slots Q (F0 m (pc + 3) ls rest)) : W p l e R s m args below meth c H locs cells slots Q (F0 m pc ls (.int (nI n) :: .int (nI dp) :: .ref a1 :: .int (nI sp) :: .ref a0 :: rest)) := by
  have e1 := nI_clamp (n := sp) (by omega)
  have e2 := nI_clamp (n := dp) (by omega)
  have e3 := nI_clamp (n := n) (by omega)
  refine va_copyi X.1.1 X.1.2.1 (by rw [X.1.2.2.1, hl]) X.1.2.2.2.1 (X.1.2.2.2.2 _ h1) (X.1.2.2.2.2 _ h2) (X.1.2.2.2.2 _ h3) (X.1.2.2.2.2 _ h4) X.2.1 h.1 h.2.1 h.2.2 q0 q1 t0 t1 ha0 ha1 ht0 ht1 rfl (nI_pos (by omega)) (nI_pos (by omega)) (nI_pos (by omega)) (by rw [e1, e3]; exact h5) (by rw [e2, e3]; exact h6) (fun i _ => hfit _) hf hlo hdg (fun H1 locs1 a b c => ?_)
  rw [e1, e2, e3] at a b
  exact kk H1 locs1 ⟨a, b, c⟩
end ZS
