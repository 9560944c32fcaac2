/-! Rows of bytes as lists.  tx f n: the first n places of the array f -/
def tx (f : Nat → Int32) (n : Nat) : List Int32 := (List.range n).map f
theorem tx_len (f : Nat → Int32) (n : Nat) : (tx f n).length = n := by simp [tx]
theorem tx_get (f : Nat → Int32) {n i : Nat} (h : i < n) : (tx f n)[i]? = some (f i) := by simp [tx, h]
theorem tx_getD (f : Nat → Int32) {n i : Nat} (h : i < n) : (tx f n).getD i 0 = f i := by rw [List.getD_eq_getElem?_getD, tx_get f h]; rfl
theorem tx_0 (f : Nat → Int32) : tx f 0 = [] := rfl
theorem tx_su (f : Nat → Int32) (n : Nat) : tx f (n + 1) = tx f n ++ [f n] := by simp [tx, List.range_succ]
theorem tx_ext {f g : Nat → Int32} {n : Nat} (h : ∀ i, i < n → f i = g i) : tx f n = tx g n := by
  unfold tx
  exact List.map_congr_left (fun i hi => h i (List.mem_range.mp hi))
theorem tx_at {f g : Nat → Int32} {n i : Nat} (h : tx f n = tx g n) (hi : i < n) : f i = g i := by
  have q := congrArg (fun l : List Int32 => l[i]?) h
  simp only [tx_get _ hi] at q
  exact Option.some.inj q
theorem tx_push (f : Nat → Int32) (n : Nat) (x : Int32) : tx (upd f n x) (n + 1) = tx f n ++ [x] := by
  rw [tx_su, pk_us, tx_ext (f := upd f n x) (g := f) (fun i hi => pk_un (by omega))]
theorem tx_cut (f : Nat → Int32) {n k : Nat} (h : k ≤ n) : (tx f n).take k = tx f k := by
  apply List.ext_getElem?
  intro i
  rw [List.getElem?_take]
  by_cases hi : i < k
  · rw [if_pos hi, tx_get f (by omega), tx_get f hi]
  · rw [if_neg hi]
    rw [List.getElem?_eq_none (by rw [tx_len]; omega)]
theorem tx_set (f : Nat → Int32) {n i : Nat} (h : i < n) (x : Int32) : tx (upd f i x) n = (tx f n).set i x := by
  apply List.ext_getElem?
  intro k
  rw [List.getElem?_set]
  by_cases hk : k < n
  · rw [tx_get _ hk]
    by_cases hc : i = k
    · subst hc
      rw [if_pos rfl, if_pos (by rw [tx_len]; exact hk), pk_us]
    · rw [if_neg hc, tx_get _ hk, pk_un (by omega)]
  · rw [List.getElem?_eq_none (by rw [tx_len]; omega)]
    by_cases hc : i = k
    · omega
    · rw [if_neg hc, List.getElem?_eq_none (by rw [tx_len]; omega)]
/-- k places of g from sp on, behind the n of f -/
theorem tx_cpy (f g : Nat → Int32) (n sp k : Nat) : tx (va_cpy g f sp n k) (n + k) = tx f n ++ tx (fun i => g (sp + i)) k := by
  induction k with
  | zero =>
    rw [tx_0, List.append_nil]
    exact tx_ext (fun i hi => pk_cpy_out (Or.inl hi))
  | succ k ih =>
    rw [← Nat.add_assoc, tx_su, tx_su, ← List.append_assoc, ← ih, pk_cpy_in (by omega) (by omega)]
    congr 1
    · refine tx_ext (fun i hi => ?_)
      by_cases hc : i < n
      · rw [pk_cpy_out (Or.inl hc), pk_cpy_out (Or.inl hc)]
      · rw [pk_cpy_in (by omega) (by omega), pk_cpy_in (by omega) (by omega)]
    · have e : sp + (n + k - n) = sp + k := by omega
      rw [e]
theorem tx_part (g : Nat → Int32) {m sp k : Nat} (h : sp + k ≤ m) : tx (fun i => g (sp + i)) k = ((tx g m).drop sp).take k := by
  apply List.ext_getElem?
  intro i
  rw [List.getElem?_take]
  by_cases hi : i < k
  · rw [if_pos hi, List.getElem?_drop, tx_get _ hi, tx_get _ (by omega)]
  · rw [if_neg hi, List.getElem?_eq_none (by rw [tx_len]; omega)]
/-- a list as an array -/
def tf (l : List Int32) : Nat → Int32 := fun i => l.getD i 0
theorem tf_tx {f : Nat → Int32} {n i : Nat} (h : i < n) : tf (tx f n) i = f i := tx_getD f h
/-! what each call makes of INPUT, BASE, OUTPUT -/
def b8 (x : Int32) : Int32 := x.toInt8.toInt32
def ush (x : Int32) (k : Nat) : Int32 := nI (x.toBitVec.toNat / 2 ^ k)
def fourB (x : Int32) : List Int32 := [b8 (ush x 24), b8 (ush x 16), b8 (ush x 8), b8 x]
def numB : Nat → Nat → List Int32
  | 0, v => [b8 (nI v)]
  | k + 1, v => if v < 128 then [b8 (nI v)] else b8 (nI (v % 128 + 128)) :: numB k (v / 128)
def nzB (v : Nat) : List Int32 := if v = 0 then [] else [b8 (nI v)]
def nzb (v b : Nat) : Nat := if v = 0 then 0 else b
def copyB (P L : Nat) : List Int32 := b8 (nI (128 + nzb (P % 256) 1 + nzb (P / 256 % 256) 2 + nzb (L % 256) 16 + nzb (L / 256 % 256) 32)) :: (nzB (P % 256) ++ nzB (P / 256 % 256) ++ nzB (L % 256) ++ nzB (L / 256 % 256))
/-- k BYTES of l from i on as NEW ones -/
def newB (l : List Int32) : Nat → Nat → Nat → List Int32
  | 0, _, _ => []
  | q + 1, i, k => if k = 0 then [] else if k ≤ 127 then nI k :: (l.drop i).take k else nI 127 :: ((l.drop i).take 127 ++ newB l q (i + 127) (k - 127))
noncomputable def lgf (T R : List Int32) (i : Nat) : Nat × Nat := Classical.epsilon (fun q : Nat × Nat => lg_is (tf T) T.length (tf R) i (min (R.length - i) 65535) q.1 q.2)
theorem lgf_eq {T R : List Int32} {i L P : Nat} (h : lg_is (tf T) T.length (tf R) i (min (R.length - i) 65535) L P) : (lgf T R i).1 = L ∧ (0 < L → (lgf T R i).2 = P) := by
  have q : lg_is (tf T) T.length (tf R) i (min (R.length - i) 65535) (lgf T R i).1 (lgf T R i).2 := Classical.epsilon_spec (p := fun q : Nat × Nat => lg_is (tf T) T.length (tf R) i (min (R.length - i) 65535) q.1 q.2) ⟨(L, P), h⟩
  obtain ⟨e1, e2⟩ := lg_un h q
  exact ⟨e1.symm, fun hL => (e2 hL).symm⟩
/-- the DELTA from place i on; NEW ones wait since fr; acc: what is written so far -/
noncomputable def mkB (T R : List Int32) : Nat → Nat → Nat → List Int32 → Nat → Nat → List Int32 × Nat × Nat
  | 0, _, _, acc, c, f => (acc, c, f)
  | q + 1, i, fr, acc, c, f =>
    if i < R.length then
      (if 8 ≤ (lgf T R i).1 then mkB T R q (i + (lgf T R i).1) (i + (lgf T R i).1) (acc ++ newB R (i - fr) fr (i - fr) ++ copyB (lgf T R i).2 (lgf T R i).1) (c + 1) (f + (i - fr))
       else mkB T R q (i + 1) fr acc c f)
    else (acc ++ newB R (R.length - fr) fr (R.length - fr), c, f + (R.length - fr))
