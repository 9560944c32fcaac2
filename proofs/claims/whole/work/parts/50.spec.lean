/-! What make writes -/
/-- bits that say which of the first k BYTES of v are not 0 -/
def bsm (v : Nat) : Nat → Nat
  | 0 => 0
  | k + 1 => bsm v k + (if byt v k = 0 then 0 else 2 ^ k)
theorem bsm_lt (v : Nat) : ∀ k, bsm v k < 2 ^ k := by
  intro k
  induction k with
  | zero => exact Nat.one_pos
  | succ k ih =>
    have e : bsm v (k + 1) = bsm v k + (if byt v k = 0 then 0 else 2 ^ k) := rfl
    rw [e, Nat.pow_succ]
    split <;> omega
def cpB (P L : Nat) : List Int32 := b8 (nI (128 + bsm P 4 + 16 * bsm L 2)) :: (nzS P 0 4 ++ nzS L 0 2)
theorem byt_0 {v k : Nat} (h : v < 2 ^ (8 * k)) : byt v k = 0 := by unfold byt; rw [Nat.div_eq_of_lt h]
theorem nzB_0 : nzB 0 = [] := rfl
theorem cpB_len {P L : Nat} (hP : P < 65536) : (cpB P L).length ≤ 5 := by
  have h1 := nz_len (byt P 0)
  have h2 := nz_len (byt P 1)
  have h3 := nzS_le L 2 0
  have e : nzS P 0 4 = nzB (byt P 0) ++ (nzB (byt P 1) ++ (nzB (byt P 2) ++ (nzB (byt P 3) ++ []))) := rfl
  rw [byt_0 (k := 2) (by omega), byt_0 (k := 3) (by omega), nzB_0] at e
  unfold cpB
  rw [List.length_cons, List.length_append, e]
  simp only [List.length_append, List.length_nil]
  omega
theorem bsm_bit (P L : Nat) (k : Nat) (hk : k < 4) : (128 + bsm P 4 + 16 * bsm L 2) / 2 ^ k % 2 = if byt P k = 0 then 0 else 1 := by
  have e4 : bsm P 4 = 0 + (if byt P 0 = 0 then 0 else 2 ^ 0) + (if byt P 1 = 0 then 0 else 2 ^ 1) + (if byt P 2 = 0 then 0 else 2 ^ 2) + (if byt P 3 = 0 then 0 else 2 ^ 3) := rfl
  rw [e4]
  have h : k = 0 ∨ k = 1 ∨ k = 2 ∨ k = 3 := by omega
  rcases h with rfl | rfl | rfl | rfl <;> by_cases a0 : byt P 0 = 0 <;> by_cases a1 : byt P 1 = 0 <;> by_cases a2 : byt P 2 = 0 <;> by_cases a3 : byt P 3 = 0 <;> simp only [a0, a1, a2, a3, if_true, if_false] <;> omega
theorem bsm_bit2 (P L : Nat) (k : Nat) (hk : k < 2) : (128 + bsm P 4 + 16 * bsm L 2) / 2 ^ (4 + k) % 2 = if byt L k = 0 then 0 else 1 := by
  have e2 : bsm L 2 = 0 + (if byt L 0 = 0 then 0 else 2 ^ 0) + (if byt L 1 = 0 then 0 else 2 ^ 1) := rfl
  have h4 := bsm_lt P 4
  rw [e2]
  have h : k = 0 ∨ k = 1 := by omega
  rcases h with rfl | rfl <;> by_cases a0 : byt L 0 = 0 <;> by_cases a1 : byt L 1 = 0 <;> simp only [a0, a1, if_true, if_false] <;> omega
theorem b8_mod (x : Nat) : b8 (nI (x % 256)) = b8 (nI x) := by
  rw [show (256 : Nat) = 2 ^ 8 from rfl]
  have key : ((nI (x % 2 ^ 8)).toBitVec.signExtend 8) = ((nI x).toBitVec.signExtend 8) := by
    have e : ∀ y : Nat, (nI y).toBitVec = BitVec.ofNat 32 y := fun y => rfl
    rw [e, e]
    apply BitVec.eq_of_getLsbD_eq
    intro i hi
    rw [BitVec.getLsbD_signExtend, BitVec.getLsbD_signExtend, BitVec.getLsbD_ofNat, BitVec.getLsbD_ofNat, Nat.testBit_mod_two_pow, if_pos (by omega : i < 32), if_pos (by omega : i < 32)]
    simp [hi]
  unfold b8
  congr 1
  exact Int8.toBitVec_inj.mp key
theorem b8_fit {x : Int32} (h : fits .byte (.int x) = true) : b8 x = x := by
  simp only [fits, Bool.and_eq_true, decide_eq_true_eq] at h
  have h1 := Int32.le_iff_toInt_le.mp h.1
  have h2 := Int32.le_iff_toInt_le.mp h.2
  have e1 : (-128 : Int32).toInt = -128 := by decide
  have e2 : (127 : Int32).toInt = 127 := by decide
  rw [e1] at h1
  rw [e2] at h2
  refine Int32.toInt_inj.mp ?_
  unfold b8
  rw [Int8.toInt_toInt32, Int32.toInt_toInt8]
  exact Int.bmod_eq_of_le (by omega) (by omega)
theorem nb_len {v : Nat} (h : v ≤ 65536) : (numB 4 v).length ≤ 3 := by
  unfold numB
  split
  · simp
  · unfold numB
    split
    · simp
    · unfold numB
      split
      · simp
      · omega
/-- the DELTA from place i on; NEW ones wait since fr; acc: what is written so far -/
noncomputable def mkC (T R : List Int32) : Nat → Nat → Nat → List Int32 → Nat → Nat → List Int32 × Nat × Nat
  | 0, _, _, acc, c, f => (acc, c, f)
  | q + 1, i, fr, acc, c, f =>
    if i < R.length then
      (if 8 ≤ (lgf T R i).1 then mkC T R q (i + (lgf T R i).1) (i + (lgf T R i).1) (acc ++ newB R (i - fr) fr (i - fr) ++ cpB (lgf T R i).2 (lgf T R i).1) (c + 1) (f + (i - fr))
       else mkC T R q (i + 1) fr acc c f)
    else (acc ++ newB R (R.length - fr) fr (R.length - fr), c, f + (R.length - fr))
noncomputable def mkA (T R : List Int32) : List Int32 × Nat × Nat := mkC T R (R.length + 1) 0 0 (numB 4 T.length ++ numB 4 R.length) 0 0
theorem mkC_go {T R acc : List Int32} {q i fr c f L P : Nat} (h : i < R.length) (hl : lg_is (tf T) T.length (tf R) i (min (R.length - i) 65535) L P) : mkC T R (q + 1) i fr acc c f = if 8 ≤ L then mkC T R q (i + L) (i + L) (acc ++ newB R (i - fr) fr (i - fr) ++ cpB P L) (c + 1) (f + (i - fr)) else mkC T R q (i + 1) fr acc c f := by
  obtain ⟨e1, e2⟩ := lgf_eq hl
  rw [mkC, if_pos h, e1]
  by_cases h8 : 8 ≤ L
  · rw [if_pos h8, if_pos h8, e2 (by omega)]
  · rw [if_neg h8, if_neg h8]
theorem mkC_end {T R acc : List Int32} {q i fr c f : Nat} (h : R.length ≤ i) : mkC T R (q + 1) i fr acc c f = (acc ++ newB R (R.length - fr) fr (R.length - fr), c, f + (R.length - fr)) := by
  rw [mkC, if_neg (by omega)]
/-- one row of NEW ones -/
theorem nw_0 (l : List Int32) (q i : Nat) : newB l q i 0 = [] := by cases q <;> rfl
theorem nw_fuel (l : List Int32) : ∀ (q q' i k : Nat), k ≤ q → k ≤ q' → newB l q i k = newB l q' i k := by
  intro q
  induction q with
  | zero => intro q' i k h1 h2; rw [show k = 0 by omega, nw_0, nw_0]
  | succ q ih =>
    intro q' i k h1 h2
    cases q' with
    | zero => rw [show k = 0 by omega, nw_0, nw_0]
    | succ q' =>
      unfold newB
      by_cases h0 : k = 0
      · rw [if_pos h0, if_pos h0]
      · rw [if_neg h0, if_neg h0]
        by_cases h7 : k ≤ 127
        · rw [if_pos h7, if_pos h7]
        · rw [if_neg h7, if_neg h7, ih q' (i + 127) (k - 127) (by omega) (by omega)]
theorem nw_step (l : List Int32) {q i k : Nat} (h0 : 0 < k) (hq : k ≤ q) : newB l q i k = nI (min 127 k) :: ((l.drop i).take (min 127 k) ++ newB l q (i + min 127 k) (k - min 127 k)) := by
  obtain ⟨q, rfl⟩ : ∃ q1, q = q1 + 1 := ⟨q - 1, by omega⟩
  by_cases h7 : k ≤ 127
  · rw [Nat.min_eq_right h7, Nat.sub_self, nw_0, List.append_nil]
    rw [newB, if_neg (by omega), if_pos h7]
  · rw [Nat.min_eq_left (by omega), nw_fuel l (q + 1) q (i + 127) (k - 127) (by omega) (by omega)]
    rw [newB, if_neg (by omega), if_neg h7]
