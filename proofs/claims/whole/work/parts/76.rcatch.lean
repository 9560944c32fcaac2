/-! Refusals: a call that throws, and the handler behind it -/
section CR
variable {p : Program} {l : Launch} {e : Env} {R : Room} {s : State} {m : MethodId} {args : Array Value} {below : List Frame} {meth : Method} {c : Code} {H : Heap} {locs : List Loc} {cells slots : Nat} {Q : State → Prop}
variable {cc : ByteArray} {pc nL : Nat} {ls : Array Slot} {rest st : List Value} {own : String} {D : va_G} {A : Nat → Prop} {tys : List (ClassId × FieldType)} {ws : va_W}
set_option maxHeartbeats 4000000 in
theorem rCt {C : String} {index ci : Nat} {fs : List Value} {T0 : u_T} {N : Nat} {y : MethodName} {cc' : ByteArray} {nL' b : Nat} {ret : Option FieldType} {rm : Room} {As : List Value} {tysC : List (ClassId × FieldType)} {wc wr : va_W} {S : Type} {post : S → Prop} {ws' wf : S → va_W} {L : List Cond} {cls : String} {f0 t0 hp ct : Nat}
    (X : zX p m c cc nL s args own D tys A) (h : zH D A s ws H locs) (hl : ls.size = nL) (hM : zMt l D y cc' nL' ret rm (.ref b :: As) tysC wc H.size L cls post ws') (hLo : xOK L) (hE : xE L s) (hAs : ∀ (q : Nat) (cell : Cell), s.heap[q]? = some cell → cell.vm.isStatics = true → ¬ A q)
    (h1 : Cond.methodLink own index y ∈ wz) (h2 : Cond.instanceMethod y ∈ wz) (h3 : Cond.selects C y y ∈ wz) (h4 : Cond.initialized C ∈ wz) (h5 : Cond.code y cc' nL' ret ∈ wz)
    (hd : y.cls = C ∧ y.cls ≠ "java/lang/invoke/MethodHandle" ∧ y.cls ≠ "java/lang/invoke/VarHandle" ∧ (parseMethodDescriptor y.desc).map (fun d => d.parameters.length) = some As.length) (hR : rm.frames + 1 ≤ R.frames ∧ 8 + (nL' + 11) + rm.locals ≤ R.locals) (hcs : cells + rm.cells ≤ R.cells ∧ slots + rm.slots ≤ R.slots)
    (ts : List Nat) (hts : ts.filterMap (fun i => tys[i]?) = tysC) (isC isR isB : List Nat) (hC : isC.map (fun i => ws[i]?) = wc.map some) (hnC : va_nd isC = true) (hRr : isR.map (fun i => ws[i]?) = wr.map some) (hnR : va_nd isR = true) (hdis : ∀ i ∈ isR, i ∉ isC) (hB : ∀ u, isB.map (fun i => (wr ++ ws' u)[i]?) = (wf u).map some) (hnB : va_nd isB = true)
    (q0 : Nat) (hb0 : wc[q0]? = some (b, .inr (ci, fs))) (hci : zC[ci]? = some (C, T0, N)) (hst : st = As.reverse ++ .ref b :: rest) (hrest : (rest.map fun v => v.category).sum ≤ 8) (hdg : decode cc pc = .ok (.invokevirtual index, 3))
    (htab : c.exceptionTable.toList.map (fun h => (h.startPc, h.endPc, h.handlerPc, h.catchType)) = [(f0, t0, hp, ct)]) (hcov : f0 ≤ pc ∧ pc < t0) (hct : ct ≠ 0) (hlink : Cond.classLink own ct cls ∈ wz)
    (kk : ∀ (u : S) (x : Nat) (H1 : Heap) (locs1 : List Loc), post u → zH D A s (wf u) H1 locs1 → W p l e R s m args below meth c H1 locs1 (cells + rm.cells) (slots + rm.slots) Q (F0 m hp ls [.ref x])) : W p l e R s m args below meth c H locs cells slots Q (F0 m pc ls st) := by
  subst hst
  obtain ⟨hP, hD, hS⟩ := h
  have hPc : va_P D zC wc H := hP.sub isC (zfm hC)
  have hDc : va_D A wc := hD.sub isC hnC hC
  have hKc : va_K D zC tysC s := X.2.1.sub ts hts
  have hFc := va_free hD hS X.2.2 isC hC
  obtain ⟨hexec, hb, hml, hown, htz⟩ := X.1
  have hws : ∀ w ∈ (Cond.code y cc' nL' ret :: wz), ∀ (a' : Array Value) (U : State), s.WarmedH U.vm → w.before a' U = true := pay_in htz (wz_cons h5)
  obtain ⟨mk, methM, hnamed, hmethM, hstM, habM⟩ := Cond.instanceMethod_spec (htz _ h2)
  obtain ⟨methM', cM, hmethM', -, -, -, -, -, -, hsigM⟩ := Cond.code_spec hnamed (htz _ h5)
  cases hmethM.symm.trans hmethM'
  obtain ⟨c2, r2, m2, q1, q2, q3, q4, kP, hkP, hkPi⟩ := Cond.selects_spec (htz _ h3)
  obtain ⟨cellB, hcB, hoB, hclB⟩ := va_recv hKc hPc hci hb0
  have hclB : s.vm.findClass C = some cellB.cls := hclB
  cases hclB.symm.trans q1
  cases (State.methodFound?_of_named hnamed ⟨hd.2.1, hd.2.2.1⟩).symm.trans q2
  cases hnamed.symm.trans q3
  have hlen : ∀ sig, parseMethodDescriptor y.desc = some sig → As.length = sig.parameters.length := fun sig z => by
    have := hd.2.2.2
    rw [z] at this
    exact (Option.some.inj this).symm
  intro T hT St
  have hselP : selectMethod e.platform s.vm cellB.cls mk = .method mk := by rw [Launch.admits_selectMethod St.admits]; exact q4
  obtain ⟨vm₁, X₁, hstep₁⟩ := St.invokevirtual hexec hown (htz _ h1) hnamed hmethM hstM hkP hkPi ⟨hd.2.1, hd.2.2.1⟩ (a := b) (cell := cellB) (by rw [hT]; exact hcB) (fun z w => by rw [w] at hoB; cases hoB) hselP hmethM habM hkP hkPi (g := F0 m pc ls (As.reverse ++ .ref b :: rest)) rfl (argsL := As) (rest := rest) (hlen _ hsigM) rfl (by rw [hb]; exact hdg)
  have hn := X₁.named hnamed
  obtain ⟨methY, cY, hmY, hcY, -, hlY, -, -, -, -⟩ := Cond.code_spec hn (hws _ List.mem_cons_self (Value.ref b :: As).toArray _ X₁.warmed)
  obtain ⟨kY, hkY, -⟩ := className_of_methodNamed hn
  have hini : (Cond.initialized y.cls).before (Value.ref b :: As).toArray (T.setVm vm₁) = true := by
    rw [hd.1]
    exact word_at X₁.warmed (Or.inl (by simp [Cond.onTables, Cond.keeps, Cond.steady])) (htz _ h4)
  have hinitY : kY.init = .initialized := Cond.initialized_spec (findClass_of_methodNamed hn) hkY hini
  have hAt : At (T.setVm vm₁) m c below := X₁.here
  have happ : (headSpec (.code y cc' nL' ret :: wz) rm).appliesLoose y e.platform ((T.setVm vm₁).calling (F0 m pc ls rest) mk (Value.ref b :: As).toArray) = true :=
    Spec.appliesLoose_calling (g := F0 m pc ls rest) hAt (by rw [hb]; exact hdg) hn hkY hinitY
      (X₁.room_calling (g := F0 m pc ls rest) (R' := rm) (by rw [hml]; exact hl) hmY hcY hR.1 (by rw [hlY]; have := hR.2; show 2 * 0 + (rest.map fun v => v.category).sum + _ + _ ≤ _; omega) hcs.1 hcs.2) (atoms_intro fun w hw => hws w hw _ _ X₁.warmed)
  obtain ⟨mid, hmid⟩ := hAt.above
  have hfr : ((T.setVm vm₁).setTop (F0 m pc ls rest)).frames = (.java (F0 m pc ls rest) :: mid) ++ below := by rw [State.frames_setTop' _ hAt.top, hmid]; rfl
  have hKs : xK s.heap T.heap := fun q cell hq hi => by
    rw [hT, hS.2.1 q (Array.getElem?_eq_some_iff.mp hq).1 (hAs q cell hq hi)]
    exact hq
  obtain ⟨o, s₂, hsteps, -, hend, x, u, Lc, rfl, hu, ⟨hP1, hK1, hD1⟩, hF, ⟨ce, hce, hcv, hcc, hca⟩, hW2, hsm, hLc⟩ := Steps.callFree hM p X₁.admits X₁.cas X₁.clock (acts := []) hfr happ
    ⟨rfl, ⟨by show T.heap.size = H.size; rw [hT], by show va_P D zC wc T.heap; rw [hT]; exact hPc, va_K.moved (u := s) (U := (T.setVm vm₁).calling (F0 m pc ls rest) mk (Value.ref b :: As).toArray) X₁.warmed.alike hKc, hDc.weaken (fun _ _ _ _ => trivial)⟩, xE_call hLo (xE_move hLo X₁.warmed hKs hE)⟩ trivial
  rw [State.frames_setTop' _ hAt.top, X₁.tail] at hend
  obtain ⟨T', X', hWT, hsame', hs₂⟩ := X₁.outOfThrown (g := F0 m pc ls rest) rfl hend hW2 hsm
  have hheap : T'.heap = s₂.heap := by rw [hs₂]; exact (Stand.throwing_heap T' (F0 m pc ls rest) x).symm
  obtain ⟨x0, htx, hx0⟩ : ∃ x0, c.exceptionTable.toList = [x0] ∧ (x0.startPc, x0.endPc, x0.handlerPc, x0.catchType) = (f0, t0, hp, ct) := by
    cases hq : c.exceptionTable.toList with
    | nil => rw [hq] at htab; cases htab
    | cons x0 t =>
      rw [hq] at htab
      cases t with
      | nil => exact ⟨x0, rfl, by simpa using htab⟩
      | cons z t => cases htab
  obtain ⟨z1, z2, z3, z4⟩ : x0.startPc = f0 ∧ x0.endPc = t0 ∧ x0.handlerPc = hp ∧ x0.catchType = ct := by simpa using hx0
  have hfc : s.vm.findClass cls = some ce.cls := by
    have hcc : vm₁.findClass cls = some ce.cls := hcc
    rw [← hcc]
    exact (X₁.warmed.alike.findClass _ _).symm
  have hfa : s.vm.assignable ce.cls ce.cls = true := by
    have hca : vm₁.assignable ce.cls ce.cls = true := hca
    rw [← hca]
    exact (X₁.warmed.alike.assignable _ _).symm
  obtain ⟨vm2, X'', st3⟩ := zCatch X' (a := x) (g := F0 m pc ls rest) rfl hown htx (by unfold covers; rw [z1, z2]; simp [hcov.1, hcov.2]) (by rw [z4]; exact hct) (by rw [z4]; exact htz _ hlink) (cell := ce) (by rw [hheap]; exact hce) hcv hfc hfa
  have hkk : ∀ q : Nat, q < H.size → ¬ va_A wc H.size q → T'.heap[q]? = H[q]? := fun q g1 g2 => by
    rw [hheap]
    have := hF.2 q (by show q < T.heap.size; rw [hT]; exact g1) g2
    rw [this]
    show T.heap[q]? = _
    rw [hT]
  rw [← hheap] at hP1
  obtain ⟨hP2, hD2⟩ := va_join hP hD isC isR hC hRr hnR hdis hkk hFc hP1 hD1
  have hsz : H.size ≤ T'.heap.size := by
    have : T.heap.size ≤ s₂.heap.size := hF.1
    rw [hheap, ← hT]
    exact this
  have hS2 : va_S A s.heap T'.heap (locs ++ Lc) := ⟨Nat.le_trans hS.1 hsz, fun q g1 g2 => by
    rw [hkk q (Nat.lt_of_lt_of_le g1 hS.1) (fun z => g2 (hFc q z))]
    exact hS.2.1 q g1 g2, fun q hq => by
    rcases List.mem_append.mp hq with z | z
    · exact hS.2.2 q z
    · exact hFc _ (hLc q z)⟩
  obtain ⟨t, a1, b1⟩ := kk u x T'.heap (locs ++ Lc) hu (zH.pick ⟨hP2, hD2, hS2⟩ isB (hB u) hnB) (T'.setVm vm2) rfl X''
  refine ⟨t, hstep₁ _ (fun acts => ?_), b1⟩
  rw [doInvoke_state]
  refine hsteps.trans ?_
  rw [hs₂]
  refine st3 _ ?_
  rw [z3]
  exact a1
end CR
