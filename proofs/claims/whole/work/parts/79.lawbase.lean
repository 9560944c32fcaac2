/-! The law: reads of the script, what two arrays of the same text share, the facts that go along -/
theorem sw_lt (x : Int32) (n : Nat) : (∃ j, j < n ∧ x = nI j) ∨ ∀ j, j < n → x ≠ nI j := by
  by_cases h : ∃ j, j < n ∧ x = nI j
  · exact Or.inl h
  · exact Or.inr (fun j hj e => h ⟨j, hj, e⟩)
theorem tx_less {f g : Nat → Int32} {n k : Nat} (h : tx f n = tx g n) (hk : k ≤ n) : tx f k = tx g k := tx_ext (fun i hi => tx_at h (by omega))
theorem tx_flip {f g : Nat → Int32} {n k : Nat} (h : tx f n = tx g n) (hk : k < n) (v : Int32) : tx (upd f k (b8 (f k ^^^ b8 v))) n = tx (upd g k (b8 (g k ^^^ v))) n := by
  rw [b8_flip, tx_at h hk, tx_set f hk, tx_set g hk, h]
theorem lg_cong {T T' R R' : Nat → Int32} {n m f lim L P : Nat} (hT : tx T n = tx T' n) (hR : tx R m = tx R' m) (hf : f + lim ≤ m) (h : lg_is T n R f lim L P) : lg_is T' n R' f lim L P := by
  have e : ∀ p k, p + k ≤ n → k ≤ lim → (tr_m T R p f k ↔ tr_m T' R' p f k) := by
    intro p k hp hk
    refine ⟨fun q i hi => ?_, fun q i hi => ?_⟩
    · rw [← tx_at hT (by omega), ← tx_at hR (by omega)]
      exact q i hi
    · rw [tx_at hT (by omega), tx_at hR (by omega)]
      exact q i hi
  obtain ⟨a1, a2, a3⟩ := h
  refine ⟨a1, fun hL => ?_, fun hlt p hp hc => a3 hlt p hp ((e p (L + 1) hp (by omega)).mpr hc)⟩
  obtain ⟨b1, b2, b3⟩ := a2 hL
  exact ⟨b1, (e P L b1 a1).mp b2, fun p hp hc => b3 p hp ((e p L (by omega) a1).mpr hc)⟩
/-- how far two stretches are the same -/
theorem lk_far (T R : Nat → Int32) (n p f lim : Nat) (hp : p ≤ n) : ∃ k, k ≤ lim ∧ p + k ≤ n ∧ tr_m T R p f k ∧ (p + (k + 1) ≤ n → k + 1 ≤ lim → T (p + k) ≠ R (f + k)) := by
  induction lim with
  | zero => exact ⟨0, Nat.le_refl _, by omega, fun i hi => absurd hi (by omega), fun _ h => absurd h (by omega)⟩
  | succ lim ih =>
    obtain ⟨k, k1, k2, k3, k4⟩ := ih
    by_cases hk : k = lim ∧ p + (k + 1) ≤ n ∧ T (p + k) = R (f + k)
    · obtain ⟨e1, e2, e3⟩ := hk
      refine ⟨k + 1, by omega, e2, fun i hi => ?_, fun _ h => absurd h (by omega)⟩
      by_cases hi2 : i = k
      · rw [hi2]; exact e3
      · exact k3 i (by omega)
    · refine ⟨k, by omega, k2, k3, fun h1 h2 e => ?_⟩
      by_cases e1 : k = lim
      · exact hk ⟨e1, h1, e⟩
      · exact k4 h1 (by omega) e
theorem lg_ex (T : Nat → Int32) (n : Nat) (R : Nat → Int32) (f lim : Nat) : ∃ L P, lg_is T n R f lim L P := by
  have key : ∀ p, p ≤ n → ∃ L P, lk_I T n R f lim p L P := by
    intro p
    induction p with
    | zero => exact fun _ => ⟨0, 0, lk_0⟩
    | succ p ih =>
      intro hp
      obtain ⟨L, P, h⟩ := ih (by omega)
      obtain ⟨k, k1, k2, k3, k4⟩ := lk_far T R n p f lim (by omega)
      by_cases hk : L < k
      · exact ⟨k, p, lk_yes h hk k1 k2 k3 k4⟩
      · refine ⟨L, P, lk_no h (fun h1 h2 hc => ?_)⟩
        have := k4 (by omega) (by omega)
        exact this (hc k (by omega))
  obtain ⟨L, P, h⟩ := key n (Nat.le_refl _)
  exact ⟨L, P, lk_end h (Or.inl (by omega))⟩
theorem lg_same (fL : Nat → Int64) (v : Int64) : lg_cmp ((vp_updL fL 0 v) 0) v = 0 := (lg_cmp_eq _ _).mpr pk_uLs
section LW
variable {p : Program} {l : Launch} {e : Env} {R : Room} {s : State} {m : MethodId} {args : Array Value} {below : List Frame} {meth : Method} {c : Code} {H : Heap} {locs : List Loc} {cells slots : Nat} {Q : State → Prop}
variable {cc : ByteArray} {pc nL : Nat} {ls : Array Slot} {rest st : List Value} {own : String} {D : va_G} {A : Nat → Prop} {tys : List (ClassId × FieldType)} {ws : va_W}
theorem rSld {bs Ls k : Nat} {xs : Nat → Int32} (X : zX p m c cc nL s args own D tys A) (h : zH D A s ws H locs) (hX : va_X bs Ls xs s s.heap) (hbl : bs < s.heap.size) (hbA : ¬ A bs) (hk : k < Ls) (hL : Ls ≤ 3072) (hdg : decode cc pc = .ok (.iaload, 1))
    (kk : W p l e R s m args below meth c H locs cells slots Q (F0 m (pc + 1) ls (.int (xs k) :: rest))) : W p l e R s m args below meth c H locs cells slots Q (F0 m pc ls (.int (nI k) :: .ref bs :: rest)) := by
  refine va_sld X.1.1 X.1.2.1 hX hbl hbA h.2.2 (vp_in_nI hk (by omega)) hdg ?_
  rw [nI_clamp (by omega)]
  exact kk
theorem rSlen {bs Ls : Nat} {xs : Nat → Int32} (X : zX p m c cc nL s args own D tys A) (h : zH D A s ws H locs) (hX : va_X bs Ls xs s s.heap) (hbl : bs < s.heap.size) (hbA : ¬ A bs) (hdg : decode cc pc = .ok (.arraylength, 1))
    (kk : W p l e R s m args below meth c H locs cells slots Q (F0 m (pc + 1) ls (.int (nI Ls) :: rest))) : W p l e R s m args below meth c H locs cells slots Q (F0 m pc ls (.ref bs :: rest)) :=
  va_slen X.1.1 X.1.2.1 hX hbl hbA h.2.2 hdg kk
end LW
/-- what goes along through the law's loop -/
def zCtx (l : Launch) (s : State) (A : Nat → Prop) (bs Ls : Nat) (xs : Nat → Int32) : Prop :=
  l.stackTraces = false ∧ va_X bs Ls xs s s.heap ∧ bs < s.heap.size ∧ ¬ A bs ∧ Ls ≤ 3072 ∧ (∀ (q : Nat) (cell : Cell), s.heap[q]? = some cell → cell.vm.isStatics = true → ¬ A q) ∧ xE xISE s ∧ xE xIAE s ∧ xE xAE s ∧ xE xIOE s
  ∧ va_Nw (.codeWith zy_La_feed zb_La_feed 8 (some .int) [(0, 16, 19, 13)]) s ∧ va_Nw (.codeWith zy_La_end zb_La_end 4 (some .int) [(0, 9, 12, 19)]) s ∧ va_Nw (.codeWith zy_La_change zb_La_change 4 (some .int) [(0, 6, 9, 19)]) s ∧ va_Nw (.codeWith zy_La_use zb_La_use 3 (some .int) [(0, 8, 11, 29)]) s ∧ va_Nw (.codeWith zy_La_turn zb_La_turn 3 (some .int) [(0, 8, 11, 13)]) s ∧ va_Nw (.codeWith zy_La_longest zb_La_longest 5 (some .int) [(0, 10, 13, 19)]) s ∧ va_Nw (.codeWith zy_La_letter zb_La_letter 4 (some .int) [(0, 9, 12, 41)]) s
