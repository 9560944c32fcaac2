/-! The slots of the tree's children: linear probing, as mathematics.  sl: what each of M slots holds (0: empty); h: where a key's way begins. -/
def hs_n (sl : Nat → Nat) : Nat → Nat
  | 0 => 0
  | k + 1 => hs_n sl k + (if sl k = 0 then 0 else 1)
theorem hs_n_out {sl : Nat → Nat} {r x : Nat} : ∀ {k : Nat}, k ≤ r → hs_n (va_up sl r x) k = hs_n sl k := by
  intro k
  induction k with
  | zero => intro _; rfl
  | succ k ih =>
    intro h
    show hs_n (va_up sl r x) k + _ = hs_n sl k + _
    rw [ih (by omega), va_up_ne _ _ (by omega : k ≠ r)]
theorem hs_n_new {sl : Nat → Nat} {r x : Nat} (hr : sl r = 0) (hx : x ≠ 0) : ∀ {k : Nat}, r < k → hs_n (va_up sl r x) k = hs_n sl k + 1 := by
  intro k
  induction k with
  | zero => intro h; omega
  | succ k ih =>
    intro h
    show hs_n (va_up sl r x) k + _ = hs_n sl k + _ + 1
    by_cases hc : r = k
    · subst hc
      rw [hs_n_out (Nat.le_refl _), va_up_self, if_neg hx, if_pos hr]
    · rw [ih (by omega), va_up_ne _ _ (by omega : k ≠ r)]
      omega
theorem hs_n_old {sl : Nat → Nat} {r x : Nat} (hr : sl r ≠ 0) (hx : x ≠ 0) : ∀ {k : Nat}, hs_n (va_up sl r x) k = hs_n sl k := by
  intro k
  induction k with
  | zero => rfl
  | succ k ih =>
    show hs_n (va_up sl r x) k + _ = hs_n sl k + _
    rw [ih]
    by_cases hc : k = r
    · subst hc
      rw [va_up_self, if_neg hx, if_neg hr]
    · rw [va_up_ne _ _ hc]
theorem hs_n_0 {sl : Nat → Nat} : ∀ {k : Nat}, (∀ r, r < k → sl r = 0) → hs_n sl k = 0 := by
  intro k
  induction k with
  | zero => intro _; rfl
  | succ k ih =>
    intro h
    show hs_n sl k + _ = 0
    rw [ih (fun r hr => h r (by omega)), if_pos (h k (by omega))]
theorem hs_n_free {sl : Nat → Nat} : ∀ {k : Nat}, hs_n sl k < k → ∃ r, r < k ∧ sl r = 0 := by
  intro k
  induction k with
  | zero => intro h; exact absurd h (Nat.not_lt_zero _)
  | succ k ih =>
    intro h
    have h : hs_n sl k + (if sl k = 0 then 0 else 1) < k + 1 := h
    by_cases hc : sl k = 0
    · exact ⟨k, by omega, hc⟩
    · rw [if_neg hc] at h
      obtain ⟨r, r1, r2⟩ := ih (by omega)
      exact ⟨r, by omega, r2⟩
/-- every slot lies on every way -/
theorem hs_way {M h r : Nat} (hh : h < M) (hr : r < M) : ∃ d, d < M ∧ (h + d) % M = r := by
  by_cases hc : h ≤ r
  · refine ⟨r - h, by omega, ?_⟩
    have e : h + (r - h) = r := by omega
    rw [e, Nat.mod_eq_of_lt hr]
  · refine ⟨M - h + r, by omega, ?_⟩
    have e : h + (M - h + r) = r + M := by omega
    rw [e, Nat.add_mod_right, Nat.mod_eq_of_lt hr]
/-- the nodes of which pr holds lie on their ways; hv: where each one's way begins -/
def hs_H (M nd : Nat) (sl hv : Nat → Nat) (pr : Nat → Prop) : Prop := (∀ s, s < M → sl s < nd) ∧ ∀ v, pr v → ∃ d, d < M ∧ sl ((hv v + d) % M) = v ∧ ∀ d', d' < d → sl ((hv v + d') % M) ≠ 0
/-- what a look along the way of a key k gives: slot r; ok v: v has the key -/
def hs_r (M : Nat) (sl : Nat → Nat) (ok : Nat → Prop) (h r : Nat) : Prop := ∃ d, d < M ∧ r = (h + d) % M ∧ (sl r = 0 ∨ ok (sl r)) ∧ ∀ d', d' < d → sl ((h + d') % M) ≠ 0 ∧ ¬ ok (sl ((h + d') % M))
theorem hs_r_lt {M : Nat} {sl : Nat → Nat} {ok : Nat → Prop} {h r : Nat} (q : hs_r M sl ok h r) : r < M := by
  obtain ⟨d, d1, d2, -⟩ := q
  rw [d2]
  exact Nat.mod_lt _ (by omega)
/-- who is there is found -/
theorem hs_hit {M nd : Nat} {sl hv : Nat → Nat} {pr ok : Nat → Prop} {h r w : Nat} (hH : hs_H M nd sl hv pr) (q : hs_r M sl ok h r) (hw : pr w) (hw0 : w ≠ 0) (hok : ok w) (hh : hv w = h) (hun : ∀ v, v < nd → v ≠ 0 → ok v → v = w) : sl r = w := by
  obtain ⟨d, d1, d2, d3, d4⟩ := q
  obtain ⟨c, c1, c2, c3⟩ := hH.2 w hw
  rw [hh] at c2 c3
  have hle : d ≤ c := by
    rcases Nat.lt_or_ge c d with g | g
    · exfalso
      have := (d4 c g).2
      rw [c2] at this
      exact this hok
    · exact g
  have hr : r < M := by rw [d2]; exact Nat.mod_lt _ (by omega)
  rcases Nat.eq_or_lt_of_le hle with g | g
  · rw [d2, g]
    exact c2
  · have hne := c3 d g
    rw [← d2] at hne
    rcases d3 with e | e
    · exact absurd e hne
    · exact hun (sl r) (hH.1 r hr) hne e
/-- who isn't there isn't found -/
theorem hs_miss {M nd : Nat} {sl hv : Nat → Nat} {pr ok : Nat → Prop} {h r : Nat} (hH : hs_H M nd sl hv pr) (q : hs_r M sl ok h r) (hno : ∀ v, v < nd → v ≠ 0 → ¬ ok v) : sl r = 0 := by
  have hr := hs_r_lt q
  obtain ⟨d, d1, d2, d3, d4⟩ := q
  by_cases hc : sl r = 0
  · exact hc
  · rcases d3 with e | e
    · exact e
    · exact absurd e (hno _ (hH.1 r hr) hc)
/-- x comes into the empty slot at the end of its way -/
theorem hs_put {M nd : Nat} {sl hv hv' : Nat → Nat} {pr ok : Nat → Prop} {h r x nd' : Nat} (hH : hs_H M nd sl hv pr) (q : hs_r M sl ok h r) (hr0 : sl r = 0) (hx0 : x ≠ 0) (hx : x < nd') (hnd : nd ≤ nd') (hh : hv' x = h) (hvv : ∀ v, pr v → v ≠ x → hv' v = hv v) (hpr : ∀ v, pr v → v ≠ 0) : hs_H M nd' (va_up sl r x) hv' (fun v => pr v ∨ v = x) := by
  have hkeep : ∀ s, sl s ≠ 0 → va_up sl r x s ≠ 0 := by
    intro s hs
    by_cases hc : s = r
    · rw [hc, va_up_self]; exact hx0
    · rw [va_up_ne _ _ hc]; exact hs
  refine ⟨fun s hs => ?_, fun v hp => ?_⟩
  · by_cases hc : s = r
    · rw [hc, va_up_self]; exact hx
    · rw [va_up_ne _ _ hc]
      exact Nat.lt_of_lt_of_le (hH.1 s hs) hnd
  · by_cases hvx : v = x
    · obtain ⟨d, d1, d2, d3, d4⟩ := q
      refine ⟨d, d1, ?_, fun d' hd' => ?_⟩
      · rw [hvx, hh, ← d2, va_up_self]
      · rw [hvx, hh]
        exact hkeep _ (d4 d' hd').1
    · have hp : pr v := hp.resolve_right hvx
      obtain ⟨c, c1, c2, c3⟩ := hH.2 v hp
      rw [← hvv v hp hvx] at c2 c3
      refine ⟨c, c1, ?_, fun d' hd' => hkeep _ (c3 d' hd')⟩
      have hne2 : (hv' v + c) % M ≠ r := by
        intro e
        rw [e, hr0] at c2
        exact hpr v hp c2.symm
      rw [va_up_ne _ _ hne2]
      exact c2
theorem hs_pr {M nd : Nat} {sl hv : Nat → Nat} {pr pr' : Nat → Prop} (hH : hs_H M nd sl hv pr) (h : ∀ v, pr' v → pr v) : hs_H M nd sl hv pr' := ⟨hH.1, fun v hv => hH.2 v (h v hv)⟩
/-- x takes the slot of w, whose key it has -/
theorem hs_swap {M nd : Nat} {sl hv hv' : Nat → Nat} {pr ok : Nat → Prop} {h r w x nd' : Nat} (hH : hs_H M nd sl hv pr) (q : hs_r M sl ok h r) (hrw : sl r = w) (hx0 : x ≠ 0) (hx : x < nd') (hnd : nd ≤ nd') (hh : hv' x = h) (hvv : ∀ v, pr v → v ≠ w → v ≠ x → hv' v = hv v) : hs_H M nd' (va_up sl r x) hv' (fun v => (pr v ∧ v ≠ w) ∨ v = x) := by
  have hkeep : ∀ s, sl s ≠ 0 → va_up sl r x s ≠ 0 := by
    intro s hs
    by_cases hc : s = r
    · rw [hc, va_up_self]; exact hx0
    · rw [va_up_ne _ _ hc]; exact hs
  refine ⟨fun s hs => ?_, fun v hp => ?_⟩
  · by_cases hc : s = r
    · rw [hc, va_up_self]; exact hx
    · rw [va_up_ne _ _ hc]
      exact Nat.lt_of_lt_of_le (hH.1 s hs) hnd
  · by_cases hvx : v = x
    · obtain ⟨d, d1, d2, d3, d4⟩ := q
      refine ⟨d, d1, ?_, fun d' hd' => ?_⟩
      · rw [hvx, hh, ← d2, va_up_self]
      · rw [hvx, hh]
        exact hkeep _ (d4 d' hd').1
    · obtain ⟨p1, p2⟩ := hp.resolve_right hvx
      obtain ⟨c, c1, c2, c3⟩ := hH.2 v p1
      rw [← hvv v p1 p2 hvx] at c2 c3
      refine ⟨c, c1, ?_, fun d' hd' => hkeep _ (c3 d' hd')⟩
      have hne2 : (hv' v + c) % M ≠ r := by
        intro e
        rw [e, hrw] at c2
        exact p2 c2.symm
      rw [va_up_ne _ _ hne2]
      exact c2
/-- no node lies in two slots -/
def hs_i (M : Nat) (sl : Nat → Nat) : Prop := ∀ s s', s < M → s' < M → sl s ≠ 0 → sl s = sl s' → s = s'
theorem hs_i_put {M : Nat} {sl : Nat → Nat} {r x : Nat} (h : hs_i M sl) (hx : ∀ s, s < M → sl s ≠ x) : hs_i M (va_up sl r x) := by
  intro s s' h1 h2 h3 h4
  by_cases hc : s = r
  · by_cases hd : s' = r
    · rw [hc, hd]
    · exfalso
      rw [hc, va_up_self, va_up_ne _ _ hd] at h4
      exact hx s' h2 h4.symm
  · by_cases hd : s' = r
    · exfalso
      rw [hd, va_up_self, va_up_ne _ _ hc] at h4
      exact hx s h1 h4
    · rw [va_up_ne _ _ hc] at h3 h4
      rw [va_up_ne _ _ hd] at h4
      exact h s s' h1 h2 h3 h4
theorem hs_i_gone {M : Nat} {sl : Nat → Nat} {r x w : Nat} (h : hs_i M sl) (hr : r < M) (hw : sl r = w) (hw0 : w ≠ 0) (hx : x ≠ w) : ∀ s, s < M → va_up sl r x s ≠ w := by
  intro s hs
  by_cases hc : s = r
  · rw [hc, va_up_self]; exact hx
  · rw [va_up_ne _ _ hc]
    intro e
    exact hc (h s r hs hr (by rw [e]; exact hw0) (e.trans hw.symm))
