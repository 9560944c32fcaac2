/-! numbers, bytes, bits; arrays of small numbers -/
theorem upd_nI (g : Nat → Nat) (k v : Nat) : upd (fun i => nI (g i)) k (nI v) = fun i => nI (va_up g k v i) := by
  funext i
  unfold upd va_up
  split <;> rfl
section ZT
variable {p : Program} {l : Launch} {e : Env} {R : Room} {s : State} {m : MethodId} {args : Array Value} {below : List Frame} {meth : Method} {c : Code} {H : Heap} {locs : List Loc} {cells slots : Nat} {Q : State → Prop}
variable {cc : ByteArray} {pc nL : Nat} {ls : Array Slot} {rest st : List Value} {own : String} {D : va_G} {A : Nat → Prop} {tys : List (ClassId × FieldType)} {ws : va_W}
theorem rLn {a n k : Nat} {g : Nat → Nat} {cA : ClassId} (X : zX p m c cc nL s args own D tys A) (h : zH D A s ws H locs) (q0 t0 : Nat) (ha : ws[q0]? = some (a, .inl (cA, n, .inl (fun i => nI (g i))))) (ht : tys[t0]? = some (cA, .int)) (hk : k < n) (hn : n < 2 ^ 31) (hdg : decode cc pc = .ok (.iaload, 1))
    (kk : W p l e R s m args below meth c H locs cells slots Q (F0 m (pc + 1) ls (.int (nI (g k)) :: rest))) : W p l e R s m args below meth c H locs cells slots Q (F0 m pc ls (.int (nI k) :: .ref a :: rest)) := rLi X h q0 t0 ha ht hk hn hdg kk
theorem rSn {a n k v : Nat} {g : Nat → Nat} {cA : ClassId} (X : zX p m c cc nL s args own D tys A) (h : zH D A s ws H locs) (q0 t0 : Nat) (ha : ws[q0]? = some (a, .inl (cA, n, .inl (fun i => nI (g i))))) (ht : tys[t0]? = some (cA, .int)) (hk : k < n) (hn : n < 2 ^ 31) (hdg : decode cc pc = .ok (.iastore, 1))
    (kk : ∀ (H1 : Heap) (locs1 : List Loc), zH D A s (ws.set q0 (a, .inl (cA, n, .inl (fun i => nI (va_up g k v i))))) H1 locs1 → W p l e R s m args below meth c H1 locs1 cells slots Q (F0 m (pc + 1) ls rest)) : W p l e R s m args below meth c H locs cells slots Q (F0 m pc ls (.int (nI v) :: .int (nI k) :: .ref a :: rest)) :=
  rSi X h q0 t0 ha ht hk hn hdg (fun H1 locs1 q => by
    rw [upd_nI] at q
    exact kk H1 locs1 q)
end ZT
theorem nI_inj32 {x y : Int32} (h : x.toBitVec.toNat = y.toBitVec.toNat) : x = y := Int32.toBitVec_inj.mp (BitVec.eq_of_toNat_eq h)
theorem nI_toNat (x : Int32) : nI x.toBitVec.toNat = x := nI_inj32 (pk_tn x.toBitVec.isLt)
theorem nx_su : ∀ n, n < 32 → (((nI n).toUInt32 &&& Int32.toUInt32 31).toBitVec % 32).toNat = n := by decide +kernel
theorem nx_sl : ∀ n, n < 32 → ((nI n &&& 31).toBitVec.smod 32).toNat = n := by decide +kernel
/-- x >>> k -/
theorem ush_eq (x : Int32) {k : Nat} (hk : k < 32) : (x.toUInt32 >>> ((nI k).toUInt32 &&& Int32.toUInt32 31)).toInt32 = ush x k := by
  refine nI_inj32 ?_
  have h1 := pk_ushr x (nI k) k (nx_su k hk)
  have h2 : x.toBitVec.toNat / 2 ^ k < 2 ^ 32 := Nat.lt_of_le_of_lt (Nat.div_le_self _ _) x.toBitVec.isLt
  unfold ush
  rw [pk_tn h2]
  exact h1
theorem ush_nI {v k : Nat} (hv : v < 2 ^ 32) : ush (nI v) k = nI (v / 2 ^ k) := by unfold ush; rw [pk_tn hv]
theorem fit_b8 (x : Int32) : fits .byte (.int (b8 x)) = true := pk_fb x
theorem fit_upd {f : Nat → Int32} (h : sb_Fit f) (k : Nat) (x : Int32) : sb_Fit (upd f k (b8 x)) := sb_fitU h (fit_b8 x)
theorem and127 {v : Nat} (h : v < 2 ^ 32) : nI v &&& nI 127 = nI (v % 128) := pk_andN h 7 (by decide)
theorem and255 (x : Int32) : x &&& nI 255 = nI (ub x) := pk_and x 8 (by decide)
theorem and1 {v : Nat} (h : v < 2 ^ 32) : nI v &&& nI 1 = nI (v % 2) := pk_andN h 1 (by decide)
theorem nI_or (a b : Nat) : nI a ||| nI b = nI (a ||| b) := by
  refine nI_inj32 ?_
  show (BitVec.ofNat 32 a ||| BitVec.ofNat 32 b).toNat = (BitVec.ofNat 32 (a ||| b)).toNat
  simp [BitVec.toNat_or, Nat.or_mod_two_pow]
theorem or128 {v : Nat} (h : v < 128) : nI v ||| nI 128 = nI (v + 128) := by
  rw [nI_or]
  congr 1
  have e := Nat.two_pow_add_eq_or_of_lt (i := 7) h 1
  have c := Nat.or_comm v 128
  have d : (2 ^ 7 * 1 ||| v) = (128 ||| v) := rfl
  omega
theorem shl_nI {v k : Nat} (hk : k < 32) (h : v * 2 ^ k < 2 ^ 32) : nI v <<< (nI k &&& 31) = nI (v * 2 ^ k) := pk_shlN (nI k &&& 31) k (nx_sl k hk) h
theorem b8_flip (a x : Int32) : b8 (a ^^^ b8 x) = b8 (a ^^^ x) := by
  unfold b8
  congr 1
  refine Int8.toBitVec_inj.mp ?_
  apply BitVec.eq_of_getLsbD_eq
  intro i hi
  simp [BitVec.getLsbD_xor, BitVec.getLsbD_setWidth, BitVec.getLsbD_signExtend, hi]
theorem b8_b8 (x : Int32) : b8 (b8 x) = b8 x := by unfold b8; simp
