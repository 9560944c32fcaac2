/-! The reference's own search, as mathematics.  -/
section LK
variable {T R : Nat → Int32} {n f lim p L P : Nat}
/-- before place p: the longest so far, its first place -/
def lk_I (T : Nat → Int32) (n : Nat) (R : Nat → Int32) (f lim p L P : Nat) : Prop := L ≤ lim ∧ (0 < L → P < p ∧ P + L ≤ n ∧ tr_m T R P f L ∧ ∀ q, q < P → ¬ tr_m T R q f L) ∧ ∀ q, q < p → q + (L + 1) ≤ n → L + 1 ≤ lim → ¬ tr_m T R q f (L + 1)
theorem lk_0 : lk_I T n R f lim 0 0 P := ⟨Nat.zero_le _, fun h => absurd h (by omega), fun q h => absurd h (by omega)⟩
/-- at p no more than before -/
theorem lk_no (h : lk_I T n R f lim p L P) (hno : p + (L + 1) ≤ n → L + 1 ≤ lim → ¬ tr_m T R p f (L + 1)) : lk_I T n R f lim (p + 1) L P := by
  obtain ⟨a1, a2, a3⟩ := h
  refine ⟨a1, fun hL => ?_, fun q hq h1 h2 => ?_⟩
  · obtain ⟨b1, b2, b3, b4⟩ := a2 hL
    exact ⟨by omega, b2, b3, b4⟩
  · by_cases hc : q = p
    · subst hc
      exact hno h1 h2
    · exact a3 q (by omega) h1 h2
/-- at p more than before: k, and no more than k -/
theorem lk_yes {k : Nat} (h : lk_I T n R f lim p L P) (hk : L < k) (hlim : k ≤ lim) (hn : p + k ≤ n) (hm : tr_m T R p f k) (hmax : p + (k + 1) ≤ n → k + 1 ≤ lim → T (p + k) ≠ R (f + k)) : lk_I T n R f lim (p + 1) k p := by
  obtain ⟨a1, a2, a3⟩ := h
  refine ⟨hlim, fun _ => ⟨by omega, hn, hm, fun q hq hc => a3 q hq (by omega) (by omega) (tr_m_le hc (by omega))⟩, fun q hq h1 h2 hc => ?_⟩
  by_cases he : q = p
  · subst he
    exact hmax h1 h2 (hc k (by omega))
  · exact a3 q (by omega) (by omega) (by omega) (tr_m_le hc (by omega))
theorem lk_end (h : lk_I T n R f lim p L P) (hx : n ≤ p + L ∨ lim ≤ L) : lg_is T n R f lim L P := by
  obtain ⟨a1, a2, a3⟩ := h
  refine ⟨a1, fun hL => ?_, fun hlt q hq => ?_⟩
  · obtain ⟨b1, b2, b3, b4⟩ := a2 hL
    exact ⟨b2, b3, b4⟩
  · exact a3 q (by omega) hq (by omega)
/-- what is asked of an array is asked of its list -/
theorem lg_tx {m : Nat} (hf : f + lim ≤ m) (h : lg_is T n R f lim L P) : lg_is (tf (tx T n)) n (tf (tx R m)) f lim L P := by
  have e : ∀ p k, p + k ≤ n → k ≤ lim → (tr_m T R p f k ↔ tr_m (tf (tx T n)) (tf (tx R m)) p f k) := by
    intro p k hp hk
    refine ⟨fun q i hi => ?_, fun q i hi => ?_⟩
    · rw [tf_tx (by omega), tf_tx (by omega)]
      exact q i hi
    · have := q i hi
      rw [tf_tx (by omega), tf_tx (by omega)] at this
      exact this
  obtain ⟨a1, a2, a3⟩ := h
  refine ⟨a1, fun hL => ?_, fun hlt p hp hc => a3 hlt p hp ((e p (L + 1) hp (by omega)).mpr hc)⟩
  obtain ⟨b1, b2, b3⟩ := a2 hL
  exact ⟨b1, (e P L b1 a1).mp b2, fun p hp hc => b3 p hp ((e p L (by omega) a1).mpr hc)⟩
end LK
/-! how long a DELTA may be -/
theorem nw_len (l : List Int32) : ∀ (q i k : Nat), k ≤ q → i + k ≤ l.length → (newB l q i k).length = k + (k + 126) / 127 := by
  intro q
  induction q with
  | zero => intro i k h1 h2; have e : k = 0 := by omega
            subst e; rfl
  | succ q ih =>
    intro i k h1 h2
    unfold newB
    by_cases h0 : k = 0
    · rw [if_pos h0, h0]; rfl
    · rw [if_neg h0]
      by_cases hc : k ≤ 127
      · rw [if_pos hc]
        simp only [List.length_cons, List.length_take, List.length_drop]
        have e : min k (l.length - i) = k := by omega
        rw [e]
        omega
      · rw [if_neg hc]
        simp only [List.length_cons, List.length_append, List.length_take, List.length_drop]
        rw [ih (i + 127) (k - 127) (by omega) (by omega)]
        have e : min 127 (l.length - i) = 127 := by omega
        rw [e]
        omega
theorem nz_len (v : Nat) : (nzB v).length ≤ 1 := by unfold nzB; split <;> simp
theorem cp_len (P L : Nat) : (copyB P L).length ≤ 5 := by
  unfold copyB
  have h1 := nz_len (P % 256)
  have h2 := nz_len (P / 256 % 256)
  have h3 := nz_len (L % 256)
  have h4 := nz_len (L / 256 % 256)
  simp only [List.length_cons, List.length_append]
  omega
theorem dl_step {a fr i L : Nat} (h : a ≤ 6 + fr + fr / 127) (h1 : fr ≤ i) (h2 : 8 ≤ L) : a + (i - fr + (i - fr + 126) / 127) + 5 ≤ 6 + (i + L) + (i + L) / 127 := by omega
theorem dl_end {a fr m : Nat} (h : a ≤ 6 + fr + fr / 127) (h1 : fr ≤ m) (h2 : m ≤ 65536) : a + (m - fr + (m - fr + 126) / 127) ≤ 66059 := by omega
