/-! The tree of a text, as mathematics. T: the letters, n of them; nodes 0 (the root) .. nd - 1; node v stands for the dp v letters from T (ps v) on; the edge above v starts at ps v + dp (par v), ends at ps v + dp v; suffixes 0 .. j - 1 are leaves.  -/
def tr_eq (T : Nat → Int32) (a b k : Nat) : Prop := ∀ i, i < k → T (a + i) = T (b + i)
theorem tr_eq_rf {T : Nat → Int32} {a k : Nat} : tr_eq T a a k := fun _ _ => rfl
theorem tr_eq_sy {T : Nat → Int32} {a b k : Nat} (h : tr_eq T a b k) : tr_eq T b a k := fun i hi => (h i hi).symm
theorem tr_eq_tr {T : Nat → Int32} {a b c k : Nat} (h : tr_eq T a b k) (h2 : tr_eq T b c k) : tr_eq T a c k := fun i hi => (h i hi).trans (h2 i hi)
theorem tr_eq_le {T : Nat → Int32} {a b k k' : Nat} (h : tr_eq T a b k) (hk : k' ≤ k) : tr_eq T a b k' := fun i hi => h i (Nat.lt_of_lt_of_le hi hk)
theorem tr_eq_0 {T : Nat → Int32} {a b : Nat} : tr_eq T a b 0 := fun i hi => absurd hi (Nat.not_lt_zero i)
theorem tr_eq_su {T : Nat → Int32} {a b k : Nat} (h : tr_eq T a b k) (hk : T (a + k) = T (b + k)) : tr_eq T a b (k + 1) := by
  intro i hi
  by_cases h2 : i < k
  · exact h i h2
  · have e : i = k := by omega
    rw [e]
    exact hk
theorem tr_eq_sh {T : Nat → Int32} {a b k : Nat} (d : Nat) (h : tr_eq T a b (d + k)) : tr_eq T (a + d) (b + d) k := by
  intro i hi
  have q := h (d + i) (by omega)
  rw [Nat.add_assoc, Nat.add_assoc]
  exact q
/-- the edge above v holds the depth k -/
def tr_on (par dp : Nat → Nat) (v k : Nat) : Prop := dp (par v) < k ∧ k ≤ dp v
def tr_I (T : Nat → Int32) (n nd j : Nat) (par ps dp : Nat → Nat) : Prop :=
  (dp 0 = 0 ∧ 0 < nd) ∧
  (∀ v, 0 < v → v < nd → par v < nd ∧ dp (par v) < dp v ∧ ps v + dp v ≤ n ∧ ps v < j ∧ tr_eq T (ps (par v)) (ps v) (dp (par v))) ∧
  (∀ v w k, 0 < v → v < nd → 0 < w → w < nd → tr_on par dp v k → tr_on par dp w k → tr_eq T (ps v) (ps w) k → v = w) ∧
  (∀ i k, i < j → 0 < k → i + k ≤ n → ∃ v, 0 < v ∧ v < nd ∧ tr_on par dp v k ∧ tr_eq T (ps v) i k) ∧
  (∀ v i, 0 < v → v < nd → i < ps v → ¬ tr_eq T i (ps v) (dp (par v) + 1))
section TR
variable {T : Nat → Int32} {n nd j : Nat} {par ps dp lk : Nat → Nat}
/-- the empty tree -/
theorem tr_I0 (hd : dp 0 = 0) : tr_I T n 1 0 par ps dp :=
  ⟨⟨hd, Nat.one_pos⟩, fun v h1 h2 => absurd h1 (by omega), fun v w k h1 h2 => absurd h1 (by omega), fun i k h1 => absurd h1 (Nat.not_lt_zero i), fun v i h1 h2 => absurd h1 (by omega)⟩
theorem tr_d0 (h : tr_I T n nd j par ps dp) {v : Nat} (hv : v < nd) (hd : dp v = 0) : v = 0 := by
  rcases Nat.eq_zero_or_pos v with e | e
  · exact e
  · have := (h.2.1 v e hv).2.1
    omega
/-- whose edge holds the first letter below a is a's child -/
theorem tr_child (h : tr_I T n nd j par ps dp) {a w x : Nat} (ha : a < nd) (hax : tr_eq T (ps a) x (dp a)) (hw0 : 0 < w) (hw : w < nd) (hon : tr_on par dp w (dp a + 1)) (hwx : tr_eq T (ps w) x (dp a + 1)) : par w = a := by
  have h' := h
  obtain ⟨⟨h0, hn0⟩, h2, h3, h4, h5⟩ := h
  obtain ⟨p1, p2, p3, p4, p5⟩ := h2 w hw0 hw
  obtain ⟨o1, o2⟩ := hon
  have e1 : tr_eq T (ps w) (ps a) (dp a) := tr_eq_tr (tr_eq_le hwx (by omega)) (tr_eq_sy hax)
  by_cases hc : dp (par w) = dp a
  · by_cases ha0 : a = 0
    · have hz : dp (par w) = 0 := by rw [hc, ha0, h0]
      rw [ha0]
      exact tr_d0 h' p1 hz
    · have q := h2 a (by omega) ha
      have hpw : par w ≠ 0 := by
        intro hp
        have hz : dp (par w) = 0 := by rw [hp, h0]
        have := q.2.1
        omega
      have q2 := h2 (par w) (by omega) p1
      refine h3 (par w) a (dp a) (by omega) p1 (by omega) ha ⟨?_, ?_⟩ ⟨q.2.1, Nat.le_refl _⟩ ?_
      · have := q2.2.1
        omega
      · omega
      · refine tr_eq_tr ?_ e1
        rw [← hc]
        exact p5
  · have hlt : dp (par w) < dp a := by omega
    have ha0 : 0 < a := by
      rcases Nat.eq_zero_or_pos a with e | e
      · rw [e, h0] at hlt
        exact absurd hlt (Nat.not_lt_zero _)
      · exact e
    have q := h2 a ha0 ha
    have e2 : w = a := h3 w a (dp a) hw0 hw ha0 ha ⟨hlt, by omega⟩ ⟨q.2.1, Nat.le_refl _⟩ e1
    exfalso
    rw [e2] at o2
    omega
/-- two children of one node with one first letter are one -/
theorem tr_key (h : tr_I T n nd j par ps dp) {v w : Nat} (hv0 : 0 < v) (hv : v < nd) (hw0 : 0 < w) (hw : w < nd) (hp : par v = par w) (hl : T (ps v + dp (par v)) = T (ps w + dp (par w))) : v = w := by
  obtain ⟨p1, p2, p3, p4, p5⟩ := h.2.1 v hv0 hv
  obtain ⟨q1, q2, q3, q4, q5⟩ := h.2.1 w hw0 hw
  rw [hp] at p2 p5 hl
  refine h.2.2.1 v w (dp (par w) + 1) hv0 hv hw0 hw ⟨by rw [hp]; omega, by omega⟩ ⟨by omega, by omega⟩ (tr_eq_su (tr_eq_tr (tr_eq_sy p5) q5) hl)
/-- the edge, on the way up from v, that holds the depth k -/
theorem tr_anc (h : tr_I T n nd j par ps dp) (k : Nat) (hk : 0 < k) : ∀ (d v : Nat), dp v ≤ d → 0 < v → v < nd → k ≤ dp v → ∃ w, 0 < w ∧ w < nd ∧ tr_on par dp w k ∧ tr_eq T (ps w) (ps v) k ∧ (w = v ∨ dp w ≤ dp (par v)) := by
  intro d
  induction d with
  | zero => intro v h1 h2 h3 h4; omega
  | succ d ih =>
    intro v h1 hv0 hv hkv
    obtain ⟨p1, p2, p3, p4, p5⟩ := h.2.1 v hv0 hv
    by_cases hc : dp (par v) < k
    · exact ⟨v, hv0, hv, ⟨hc, hkv⟩, tr_eq_rf, Or.inl rfl⟩
    · have hp : 0 < par v := by
        rcases Nat.eq_zero_or_pos (par v) with e | e
        · rw [e, h.1.1] at hc
          omega
        · exact e
      obtain ⟨w, w1, w2, w3, w4, w5⟩ := ih (par v) (by omega) hp p1 (by omega)
      refine ⟨w, w1, w2, w3, tr_eq_tr w4 (tr_eq_le p5 (by omega)), Or.inr ?_⟩
      rcases w5 with e | e
      · rw [e]
        exact Nat.le_refl _
      · have := (h.2.1 (par v) hp p1).2.1
        omega
/-- what stands before suffix j goes on below a -/
theorem tr_down (h : tr_I T n nd j par ps dp) {a i x D : Nat} (ha : a < nd) (hax : tr_eq T (ps a) x (dp a)) (hi : i < j) (hix : tr_eq T i x D) (hD : dp a < D) (hin : i + D ≤ n) : ∃ w, 0 < w ∧ w < nd ∧ par w = a ∧ dp a < dp w ∧ tr_eq T (ps w) x (dp a + 1) := by
  obtain ⟨w, w1, w2, w3, w4⟩ := h.2.2.2.1 i (dp a + 1) hi (by omega) (by omega)
  have e : tr_eq T (ps w) x (dp a + 1) := tr_eq_tr w4 (tr_eq_le hix (by omega))
  have hp := tr_child h ha hax w1 w2 w3 e
  refine ⟨w, w1, w2, hp, ?_, e⟩
  have := w3.2
  omega
/-- .. and along the whole edge -/
theorem tr_edge (h : tr_I T n nd j par ps dp) {a w i x D : Nat} (hw0 : 0 < w) (hw : w < nd) (hp : par w = a) (hwx : tr_eq T (ps w) x (dp a + 1)) (hi : i < j) (hix : tr_eq T i x D) (hD : dp a < D) (hDw : D ≤ dp w) (hin : i + D ≤ n) : tr_eq T (ps w) x D := by
  obtain ⟨v, v1, v2, v3, v4⟩ := h.2.2.2.1 i D hi (by omega) hin
  have v5 := v3.1
  have v6 := v3.2
  obtain ⟨u, u1, u2, u3, u4, u5⟩ := tr_anc h (dp a + 1) (by omega) (dp v) v (Nat.le_refl _) v1 v2 (by omega)
  have e : u = w := h.2.2.1 u w (dp a + 1) u1 u2 hw0 hw u3 ⟨by rw [hp]; omega, by omega⟩ (tr_eq_tr u4 (tr_eq_tr (tr_eq_le v4 (by omega)) (tr_eq_tr (tr_eq_le hix (by omega)) (tr_eq_sy hwx))))
  rcases u5 with e2 | e2
  · rw [← e, e2]
    exact tr_eq_tr v4 hix
  · exfalso
    rw [e] at e2
    omega
/-- a leaf for suffix j below b -/
theorem tr_leaf (h : tr_I T n nd j par ps dp) {b : Nat} (hb : b < nd) (hbx : tr_eq T (ps b) j (dp b)) (hj : j + dp b < n) (hno : ∀ w, 0 < w → w < nd → par w = b → T (ps w + dp b) ≠ T (j + dp b)) :
    tr_I T n (nd + 1) (j + 1) (va_up par nd b) (va_up ps nd j) (va_up dp nd (n - j)) ∧ ∀ i, i < j → ¬ tr_eq T i j (dp b + 1) := by
  have h' := h
  obtain ⟨⟨h0, hn0⟩, h2, h3, h4, h5⟩ := h
  have e1 : ∀ v, v < nd → va_up par nd b v = par v := fun v hv => va_up_ne _ _ (by omega)
  have e2 : ∀ v, v < nd → va_up ps nd j v = ps v := fun v hv => va_up_ne _ _ (by omega)
  have e3 : ∀ v, v < nd → va_up dp nd (n - j) v = dp v := fun v hv => va_up_ne _ _ (by omega)
  have f1 : va_up par nd b nd = b := va_up_self _ _ _
  have f2 : va_up ps nd j nd = j := va_up_self _ _ _
  have f3 : va_up dp nd (n - j) nd = n - j := va_up_self _ _ _
  have hnt : ∀ i, i < j → ¬ tr_eq T i j (dp b + 1) := by
    intro i hi hc
    obtain ⟨w, w1, w2, w3, w4⟩ := h4 i (dp b + 1) hi (by omega) (by omega)
    have e : tr_eq T (ps w) j (dp b + 1) := tr_eq_tr w4 hc
    exact hno w w1 w2 (tr_child h' hb hbx w1 w2 w3 e) (e (dp b) (by omega))
  have hon : ∀ v k, 0 < v → v < nd → tr_on (va_up par nd b) (va_up dp nd (n - j)) v k → tr_on par dp v k := by
    intro v k hv0 hv q
    unfold tr_on at q ⊢
    rw [e1 v hv, e3 v hv, e3 _ (h2 v hv0 hv).1] at q
    exact q
  have hno' : ∀ v k, 0 < v → v < nd → tr_on par dp v k → tr_on (va_up par nd b) (va_up dp nd (n - j)) v k := by
    intro v k hv0 hv q
    unfold tr_on at q ⊢
    rw [e1 v hv, e3 v hv, e3 _ (h2 v hv0 hv).1]
    exact q
  have hnd : ∀ k, tr_on (va_up par nd b) (va_up dp nd (n - j)) nd k ↔ dp b < k ∧ k ≤ n - j := by
    intro k
    unfold tr_on
    rw [f1, f3, e3 b hb]
  refine ⟨⟨⟨by rw [e3 0 hn0]; exact h0, by omega⟩, ?_, ?_, ?_, ?_⟩, hnt⟩
  · intro v hv0 hv
    by_cases hc : v = nd
    · subst hc
      rw [f1, f2, f3, e2 b hb, e3 b hb]
      exact ⟨by omega, by omega, by omega, by omega, hbx⟩
    · have hv' : v < nd := by omega
      obtain ⟨p1, p2, p3, p4, p5⟩ := h2 v hv0 hv'
      rw [e1 v hv', e2 v hv', e3 v hv', e2 _ p1, e3 _ p1]
      exact ⟨by omega, p2, p3, by omega, p5⟩
  · intro v w k hv0 hv hw0 hw ov ow q
    by_cases hc : v = nd
    · by_cases hd : w = nd
      · rw [hc, hd]
      · exfalso
        have hw' : w < nd := by omega
        rw [hc] at ov q
        have ov := (hnd k).mp ov
        rw [f2, e2 w hw'] at q
        exact hnt (ps w) (h2 w hw0 hw').2.2.2.1 (tr_eq_le (tr_eq_sy q) (by omega))
    · have hv' : v < nd := by omega
      by_cases hd : w = nd
      · exfalso
        rw [hd] at ow q
        have ow := (hnd k).mp ow
        rw [f2, e2 v hv'] at q
        exact hnt (ps v) (h2 v hv0 hv').2.2.2.1 (tr_eq_le q (by omega))
      · have hw' : w < nd := by omega
        rw [e2 v hv', e2 w hw'] at q
        exact h3 v w k hv0 hv' hw0 hw' (hon v k hv0 hv' ov) (hon w k hw0 hw' ow) q
  · intro i k hi hk hik
    by_cases hc : i = j
    · by_cases hkb : k ≤ dp b
      · have hb0 : 0 < b := by
          rcases Nat.eq_zero_or_pos b with e | e
          · rw [e, h0] at hkb
            omega
          · exact e
        obtain ⟨p1, p2, p3, p4, p5⟩ := h2 b hb0 hb
        obtain ⟨v, v1, v2, v3, v4⟩ := h4 (ps b) k p4 hk (by omega)
        refine ⟨v, v1, by omega, hno' v k v1 v2 v3, ?_⟩
        rw [e2 v v2, hc]
        exact tr_eq_tr v4 (tr_eq_le hbx hkb)
      · refine ⟨nd, hn0, by omega, (hnd k).mpr ⟨by omega, by omega⟩, ?_⟩
        rw [f2, hc]
        exact tr_eq_rf
    · obtain ⟨v, v1, v2, v3, v4⟩ := h4 i k (by omega) hk hik
      refine ⟨v, v1, by omega, hno' v k v1 v2 v3, ?_⟩
      rw [e2 v v2]
      exact v4
  · intro v i hv0 hv hi
    by_cases hc : v = nd
    · subst hc
      rw [f2] at hi ⊢
      rw [f1, e3 b hb]
      exact hnt i hi
    · have hv' : v < nd := by omega
      rw [e2 v hv'] at hi ⊢
      rw [e1 v hv', e3 _ (h2 v hv0 hv').1]
      exact h5 v i hv0 hv' hi
/-- the edge above w is split at the depth D -/
theorem tr_split (h : tr_I T n nd j par ps dp) {a w D : Nat} (hw0 : 0 < w) (hw : w < nd) (hp : par w = a) (h1 : dp a < D) (h2 : D < dp w) :
    tr_I T n (nd + 1) j (va_up (va_up par nd a) w nd) (va_up ps nd (ps w)) (va_up dp nd D) := by
  obtain ⟨⟨h0, hn0⟩, g2, g3, g4, g5⟩ := h
  obtain ⟨p1, p2, p3, p4, p5⟩ := g2 w hw0 hw
  have ha : a < nd := by rw [← hp]; exact p1
  have e1 : ∀ v, v < nd → v ≠ w → va_up (va_up par nd a) w nd v = par v := fun v hv hne => by rw [va_up_ne _ _ hne, va_up_ne _ _ (by omega)]
  have e2 : ∀ v, v < nd → va_up ps nd (ps w) v = ps v := fun v hv => va_up_ne _ _ (by omega)
  have e3 : ∀ v, v < nd → va_up dp nd D v = dp v := fun v hv => va_up_ne _ _ (by omega)
  have f1 : va_up (va_up par nd a) w nd nd = a := by rw [va_up_ne _ _ (by omega), va_up_self]
  have f1w : va_up (va_up par nd a) w nd w = nd := va_up_self _ _ _
  have f2 : va_up ps nd (ps w) nd = ps w := va_up_self _ _ _
  have f3 : va_up dp nd D nd = D := va_up_self _ _ _
  have ond : ∀ k, tr_on (va_up (va_up par nd a) w nd) (va_up dp nd D) nd k ↔ dp a < k ∧ k ≤ D := by
    intro k
    unfold tr_on
    rw [f1, f3, e3 a ha]
  have onw : ∀ k, tr_on (va_up (va_up par nd a) w nd) (va_up dp nd D) w k ↔ D < k ∧ k ≤ dp w := by
    intro k
    unfold tr_on
    rw [f1w, f3, e3 w hw]
  have ono : ∀ v k, 0 < v → v < nd → v ≠ w → (tr_on (va_up (va_up par nd a) w nd) (va_up dp nd D) v k ↔ tr_on par dp v k) := by
    intro v k hv0 hv hne
    unfold tr_on
    rw [e1 v hv hne, e3 v hv, e3 _ (g2 v hv0 hv).1]
  have oldw : ∀ k, dp a < k → k ≤ dp w → tr_on par dp w k := fun k q1 q2 => ⟨by rw [hp]; exact q1, q2⟩
  -- each new edge lies on an old one, with the same letters
  have back : ∀ v k, 0 < v → v < nd + 1 → tr_on (va_up (va_up par nd a) w nd) (va_up dp nd D) v k → ∃ v', 0 < v' ∧ v' < nd ∧ tr_on par dp v' k ∧ va_up ps nd (ps w) v = ps v' ∧ ((v' = w ∧ v = nd ∧ k ≤ D) ∨ (v' = w ∧ v = w ∧ D < k) ∨ (v' ≠ w ∧ v = v')) := by
    intro v k hv0 hv o
    by_cases hc : v = nd
    · rw [hc] at o ⊢
      have o := (ond k).mp o
      exact ⟨w, hw0, hw, oldw k o.1 (by omega), f2, Or.inl ⟨rfl, rfl, o.2⟩⟩
    · have hv' : v < nd := by omega
      by_cases hd : v = w
      · rw [hd] at o ⊢
        have o := (onw k).mp o
        exact ⟨w, hw0, hw, oldw k (by omega) o.2, e2 w hw, Or.inr (Or.inl ⟨rfl, rfl, o.1⟩)⟩
      · exact ⟨v, hv0, hv', (ono v k hv0 hv' hd).mp o, e2 v hv', Or.inr (Or.inr ⟨hd, rfl⟩)⟩
  refine ⟨⟨by rw [e3 0 hn0]; exact h0, by omega⟩, ?_, ?_, ?_, ?_⟩
  · intro v hv0 hv
    by_cases hc : v = nd
    · rw [hc, f1, f2, f3, e2 a ha, e3 a ha]
      refine ⟨by omega, h1, by omega, p4, ?_⟩
      rw [← hp]
      exact p5
    · have hv' : v < nd := by omega
      by_cases hd : v = w
      · rw [hd, f1w, f2, f3, e2 w hw, e3 w hw]
        exact ⟨by omega, h2, p3, p4, tr_eq_rf⟩
      · obtain ⟨q1, q2, q3, q4, q5⟩ := g2 v hv0 hv'
        rw [e1 v hv' hd, e2 v hv', e3 v hv', e2 _ q1, e3 _ q1]
        exact ⟨by omega, q2, q3, q4, q5⟩
  · intro v u k hv0 hv hu0 hu ov ou q
    obtain ⟨v', a1, a2, a3, a4, a5⟩ := back v k hv0 hv ov
    obtain ⟨u', b1, b2, b3, b4, b5⟩ := back u k hu0 hu ou
    rw [a4, b4] at q
    have e : v' = u' := g3 v' u' k a1 a2 b1 b2 a3 b3 q
    rcases a5 with ⟨c1, c2, c3⟩ | ⟨c1, c2, c3⟩ | ⟨c1, c2⟩ <;> rcases b5 with ⟨d1, d2, d3⟩ | ⟨d1, d2, d3⟩ | ⟨d1, d2⟩ <;> omega
  · intro i k hi hk hik
    obtain ⟨v, v1, v2, v3, v4⟩ := g4 i k hi hk hik
    by_cases hd : v = w
    · rw [hd] at v3 v4
      have o1 := v3.1
      have o2 := v3.2
      rw [hp] at o1
      by_cases hk2 : k ≤ D
      · exact ⟨nd, hn0, by omega, (ond k).mpr ⟨o1, hk2⟩, by rw [f2]; exact v4⟩
      · exact ⟨w, hw0, by omega, (onw k).mpr ⟨by omega, o2⟩, by rw [e2 w hw]; exact v4⟩
    · exact ⟨v, v1, by omega, (ono v k v1 v2 hd).mpr v3, by rw [e2 v v2]; exact v4⟩
  · intro v i hv0 hv hi
    by_cases hc : v = nd
    · rw [hc, f2] at hi ⊢
      rw [f1, e3 a ha, ← hp]
      exact g5 w i hw0 hw hi
    · have hv' : v < nd := by omega
      rw [e2 v hv'] at hi ⊢
      by_cases hd : v = w
      · rw [hd] at hi ⊢
        rw [f1w, f3]
        intro q
        exact g5 w i hw0 hw hi (tr_eq_le q (by rw [hp]; omega))
      · rw [e1 v hv' hd, e3 _ (g2 v hv0 hv').1]
        exact g5 v i hv0 hv' hi
/-- suffix links; wl and wb have none yet (0: none such) -/
def tr_L (T : Nat → Int32) (n nd wl wb : Nat) (ps dp lk : Nat → Nat) : Prop := ∀ v, 0 < v → v < nd → ps v + dp v < n → v ≠ wl → v ≠ wb → lk v < nd ∧ dp (lk v) + 1 = dp v ∧ tr_eq T (ps (lk v)) (ps v + 1) (dp (lk v))
/-- where suffix j ends before place: L letters below a; what stands so far stands before as well -/
def tr_A (T : Nat → Int32) (nd j place a L : Nat) (ps dp : Nat → Nat) : Prop := a < nd ∧ j + dp a + L = place ∧ tr_eq T (ps a) j (dp a) ∧ (j < place → ∃ i, i < j ∧ tr_eq T i j (place - j))
/-- the node made a letter earlier: its own letters, and that another letter than that at place goes on below it -/
def tr_B (T : Nat → Int32) (n nd j place wl : Nat) (ps dp : Nat → Nat) : Prop := wl = 0 ∨ (wl < nd ∧ 0 < j ∧ j - 1 + dp wl = place ∧ ps wl + 1 < j ∧ tr_eq T (ps wl) (j - 1) (dp wl) ∧ T (ps wl + dp wl) ≠ T place ∧ ps wl + dp wl < n)
/-- the active node is no leaf -/
theorem tr_act_in (h : tr_I T n nd j par ps dp) {a L place : Nat} (hA : tr_A T nd j place a L ps dp) (hpl : place < n) (ha0 : 0 < a) : ps a + dp a < n := by
  have := (h.2.1 a ha0 hA.1).2.2.2.1
  have := hA.2.1
  omega
/-- one step down: the child, and the active point below it -/
theorem tr_go (h : tr_I T n nd j par ps dp) {a L place : Nat} (hA : tr_A T nd j place a L ps dp) (hpl : place < n) (hL : 0 < L) :
    ∃ w, 0 < w ∧ w < nd ∧ par w = a ∧ dp a < dp w ∧ T (ps w + dp a) = T (place - L) ∧ (dp w - dp a ≤ L → tr_A T nd j place w (L - (dp w - dp a)) ps dp) ∧ (L < dp w - dp a → tr_eq T (ps w) j (place - j)) := by
  obtain ⟨a1, a2, a3, a4⟩ := hA
  obtain ⟨i, i1, i2⟩ := a4 (by omega)
  obtain ⟨w, w1, w2, w3, w4, w5⟩ := tr_down h a1 a3 i1 i2 (by omega) (by omega)
  have e : place - L = j + dp a := by omega
  refine ⟨w, w1, w2, w3, w4, by rw [e]; exact w5 (dp a) (by omega), fun hle => ⟨w2, by omega, ?_, a4⟩, fun hlt => ?_⟩
  · exact tr_edge h w1 w2 w3 w5 i1 (tr_eq_le i2 (by omega)) w4 (Nat.le_refl _) (by omega)
  · exact tr_edge h w1 w2 w3 w5 i1 i2 (by omega) (by omega) (by omega)
/-- where suffix j goes on as it stands: the next letter -/
theorem tr_stands (h : tr_I T n nd j par ps dp) {a L place w : Nat} (hA : tr_A T nd j place a L ps dp) (hpl : place < n) (hw0 : 0 < w) (hw : w < nd) (hwx : tr_eq T (ps w) j (place - j)) (hc : T (ps w + (place - j)) = T place) : tr_A T nd j (place + 1) a (L + 1) ps dp := by
  obtain ⟨a1, a2, a3, a4⟩ := hA
  refine ⟨a1, by omega, a3, fun _ => ⟨ps w, (h.2.1 w hw0 hw).2.2.2.1, ?_⟩⟩
  have e : place + 1 - j = (place - j) + 1 := by omega
  rw [e]
  refine tr_eq_su hwx ?_
  rw [hc]
  congr 1
  omega
/-- a child of a with the letter at place: suffix j goes on as it stands -/
theorem tr_below (h : tr_I T n nd j par ps dp) {a place w : Nat} (hA : tr_A T nd j place a 0 ps dp) (hw0 : 0 < w) (hw : w < nd) (hp : par w = a) : tr_eq T (ps w) j (place - j) := by
  obtain ⟨a1, a2, a3, a4⟩ := hA
  have e : place - j = dp a := by omega
  have q := (h.2.1 w hw0 hw).2.2.2.2
  rw [hp] at q
  rw [e]
  exact tr_eq_tr (tr_eq_sy q) a3
/-- with a node without link, what goes on as it stands does so at a node -/
theorem tr_mid (h : tr_I T n nd j par ps dp) {a L place w wl : Nat} (hA : tr_A T nd j place a L ps dp) (hB : tr_B T n nd j place wl ps dp) (hwl : wl ≠ 0) (hpl : place < n) (hw0 : 0 < w) (hw : w < nd) (hp : par w = a) (hlt : L < dp w - dp a) (hwx : tr_eq T (ps w) j (place - j)) (hc : T (ps w + (place - j)) = T place) : L = 0 := by
  obtain ⟨a1, a2, a3, a4⟩ := hA
  rcases hB with e | ⟨b1, b2, b3, b4, b5, b6, b7⟩
  · exact absurd e hwl
  · rcases Nat.eq_zero_or_pos L with e | e
    · exact e
    · exfalso
      have hD : dp wl = place - j + 1 := by omega
      have x1 : tr_eq T (ps wl + 1) j (place - j) := by
        have q := tr_eq_sh 1 (a := ps wl) (b := j - 1) (k := place - j) (by rw [Nat.add_comm, ← hD]; exact b5)
        have e2 : j - 1 + 1 = j := by omega
        rw [e2] at q
        exact q
      have x2 : T (ps wl + 1 + (place - j)) ≠ T place := by
        have e2 : ps wl + 1 + (place - j) = ps wl + dp wl := by omega
        rw [e2]
        exact b6
      obtain ⟨v, v1, v2, v3, v4⟩ := h.2.2.2.1 (ps wl + 1) (place - j + 1) b4 (by omega) (by omega)
      have v5 := v3.1
      have v6 := v3.2
      have on_w : tr_on par dp w (place - j) := ⟨by rw [hp]; omega, by omega⟩
      by_cases hv : dp (par v) < place - j
      · have e2 : v = w := h.2.2.1 v w (place - j) v1 v2 hw0 hw ⟨hv, by omega⟩ on_w (tr_eq_tr (tr_eq_le v4 (by omega)) (tr_eq_tr x1 (tr_eq_sy hwx)))
        rw [e2] at v4
        exact x2 ((v4 (place - j) (by omega)).symm.trans hc)
      · obtain ⟨p1, p2, p3, p4, p5⟩ := h.2.1 v v1 v2
        have hp0 : 0 < par v := by
          rcases Nat.eq_zero_or_pos (par v) with e2 | e2
          · rw [e2, h.1.1] at hv
            omega
          · exact e2
        have ed : dp (par v) = place - j := by omega
        have q := h.2.1 (par v) hp0 p1
        have e2 : par v = w := h.2.2.1 (par v) w (place - j) hp0 p1 hw0 hw ⟨by have := q.2.1; omega, by omega⟩ on_w (by
          rw [ed] at p5
          exact tr_eq_tr p5 (tr_eq_tr (tr_eq_le v4 (by omega)) (tr_eq_tr x1 (tr_eq_sy hwx))))
        rw [e2] at ed
        omega
/-- the link of the node made a letter earlier -/
theorem tr_link {wl wb : Nat} (hL : tr_L T n nd wl wb ps dp lk) {b place : Nat} (hB : tr_B T n nd j place wl ps dp) (hwl : wl ≠ 0) (hb : b < nd) (hbd : j + dp b = place) (hbx : tr_eq T (ps b) j (dp b)) : tr_L T n nd 0 wb ps dp (va_up lk wl b) := by
  intro v hv0 hv hin hne hne2
  by_cases hc : v = wl
  · subst hc
    rw [va_up_self]
    rcases hB with e | ⟨b1, b2, b3, b4, b5, b6, b7⟩
    · exact absurd e hwl
    · refine ⟨hb, by omega, tr_eq_tr hbx (tr_eq_sy ?_)⟩
      have e2 : j - 1 + 1 = j := by omega
      have q := tr_eq_sh 1 (T := T) (a := ps v) (b := j - 1) (k := dp b) (by
        have e3 : 1 + dp b = dp v := by omega
        rw [e3]
        exact b5)
      rw [e2] at q
      exact q
  · rw [va_up_ne _ _ hc]
    exact hL v hv0 hv hin hc hne2
theorem tr_L_sw {wl wb : Nat} (hL : tr_L T n nd wl wb ps dp lk) : tr_L T n nd wb wl ps dp lk := fun v h1 h2 h3 h4 h5 => hL v h1 h2 h3 h5 h4
/-- a new node: a leaf, or one that has no link yet -/
theorem tr_L_new {wl wb x y : Nat} (hL : tr_L T n nd wl wb ps dp lk) (hx : n ≤ x + y ∨ wb = nd) : tr_L T n (nd + 1) wl wb (va_up ps nd x) (va_up dp nd y) (va_up lk nd 0) := by
  intro v hv0 hv hin hne hne2
  by_cases hc : v = nd
  · exfalso
    rcases hx with e | e
    · rw [hc, va_up_self, va_up_self] at hin
      omega
    · omega
  · have hv' : v < nd := by omega
    rw [va_up_ne _ _ hc, va_up_ne _ _ hc] at hin
    obtain ⟨q1, q2, q3⟩ := hL v hv0 hv' hin hne hne2
    rw [va_up_ne _ _ hc, va_up_ne _ _ hc, va_up_ne _ _ hc, va_up_ne (k := nd) dp y (by omega : lk v ≠ nd), va_up_ne (k := nd) ps x (by omega : lk v ≠ nd)]
    exact ⟨by omega, q2, q3⟩
theorem tr_A_new {a L place x y : Nat} (hA : tr_A T nd j place a L ps dp) : tr_A T (nd + 1) j place a L (va_up ps nd x) (va_up dp nd y) := by
  obtain ⟨a1, a2, a3, a4⟩ := hA
  have hc : a ≠ nd := by omega
  refine ⟨by omega, ?_, ?_, a4⟩
  · rw [va_up_ne _ _ hc]
    exact a2
  · rw [va_up_ne _ _ hc, va_up_ne _ _ hc]
    exact a3
theorem tr_B_new {wl place x y : Nat} (hB : tr_B T n nd j place wl ps dp) : tr_B T n (nd + 1) j place wl (va_up ps nd x) (va_up dp nd y) := by
  rcases hB with e | ⟨b1, b2⟩
  · exact Or.inl e
  · have hc : wl ≠ nd := by omega
    refine Or.inr ⟨by omega, ?_⟩
    rw [va_up_ne _ _ hc, va_up_ne _ _ hc]
    exact b2
/-- the next suffix, behind the leaf of suffix j -/
theorem tr_next (h : tr_I T n nd j par ps dp) {a L place wl wb : Nat} (hA : tr_A T nd j place a L ps dp) (hL : tr_L T n nd wl wb ps dp lk) (hpl : place < n) (ha0 : 0 < a) (hne : a ≠ wl) (hne2 : a ≠ wb) : tr_A T nd (j + 1) place (lk a) L ps dp := by
  have hin := tr_act_in h hA hpl ha0
  obtain ⟨a1, a2, a3, a4⟩ := hA
  obtain ⟨l1, l2, l3⟩ := hL a ha0 a1 hin hne hne2
  refine ⟨l1, by omega, ?_, fun hlt => ?_⟩
  · refine tr_eq_tr l3 ?_
    exact tr_eq_sh 1 (by rw [Nat.add_comm, l2]; exact a3)
  · obtain ⟨i, i1, i2⟩ := a4 (by omega)
    refine ⟨i + 1, by omega, tr_eq_sh 1 (tr_eq_le i2 (by omega))⟩
theorem tr_next0 {L place : Nat} (hd : dp 0 = 0) (hA : tr_A T nd j place 0 (L + 1) ps dp) : tr_A T nd (j + 1) place 0 L ps dp := by
  obtain ⟨a1, a2, a3, a4⟩ := hA
  refine ⟨a1, by omega, by rw [hd]; exact tr_eq_0, fun hlt => ?_⟩
  obtain ⟨i, i1, i2⟩ := a4 (by omega)
  exact ⟨i + 1, by omega, tr_eq_sh 1 (tr_eq_le i2 (by omega))⟩
/-- the last suffix of a place: nothing is left -/
theorem tr_next1 {place : Nat} (hd : dp 0 = 0) (hA : tr_A T nd j place 0 0 ps dp) : j = place ∧ tr_A T nd (j + 1) (place + 1) 0 0 ps dp := by
  obtain ⟨a1, a2, a3, a4⟩ := hA
  refine ⟨by omega, a1, by omega, by rw [hd]; exact tr_eq_0, fun hlt => absurd hlt (by omega)⟩
end TR
/-! What is found in a whole tree -/
section TF
variable {T : Nat → Int32} {n nd j : Nat} {par ps dp : Nat → Nat}
/-- all of it stands before suffix j -/
def tr_W (T : Nat → Int32) (n j : Nat) : Prop := j < n → ∃ i, i < j ∧ tr_eq T i j (n - j)
/-- the row R from f on has as many letters as T from p on -/
def tr_m (T R : Nat → Int32) (p f k : Nat) : Prop := ∀ i, i < k → T (p + i) = R (f + i)
theorem tr_m_le {R : Nat → Int32} {p f k k' : Nat} (h : tr_m T R p f k) (hk : k' ≤ k) : tr_m T R p f k' := fun i hi => h i (Nat.lt_of_lt_of_le hi hk)
theorem tr_m_tr {R : Nat → Int32} {p q f k : Nat} (h : tr_eq T p q k) (h2 : tr_m T R q f k) : tr_m T R p f k := fun i hi => (h i hi).trans (h2 i hi)
theorem tr_m_eq {R : Nat → Int32} {p q f k : Nat} (h : tr_m T R p f k) (h2 : tr_m T R q f k) : tr_eq T p q k := fun i hi => (h i hi).trans (h2 i hi).symm
theorem tr_m_su {R : Nat → Int32} {p f k : Nat} (h : tr_m T R p f k) (hk : T (p + k) = R (f + k)) : tr_m T R p f (k + 1) := by
  intro i hi
  by_cases h2 : i < k
  · exact h i h2
  · have e : i = k := by omega
    rw [e]
    exact hk
/-- what stands in T stands before suffix j -/
theorem tr_early (hW : tr_W T n j) {R : Nat → Int32} {f k : Nat} (hk : 0 < k) : ∀ p, p + k ≤ n → tr_m T R p f k → ∃ i, i < j ∧ i + k ≤ n ∧ tr_m T R i f k := by
  intro p
  induction p using Nat.strongRecOn with
  | ind p ih =>
    intro hp hm
    by_cases hc : p < j
    · exact ⟨p, hc, hp, hm⟩
    · obtain ⟨i, i1, i2⟩ := hW (by omega)
      refine ih (i + (p - j)) (by omega) (by omega) ?_
      have e : j + (p - j) = p := by omega
      have q : tr_eq T (i + (p - j)) (j + (p - j)) k := tr_eq_sh (p - j) (tr_eq_le i2 (by omega))
      rw [e] at q
      exact tr_m_tr q hm
/-- below u the next letter goes on, if it stands anywhere -/
theorem tr_find (h : tr_I T n nd j par ps dp) (hW : tr_W T n j) {R : Nat → Int32} {u f p : Nat} (hu : u < nd) (hm : tr_m T R (ps u) f (dp u)) (hp : p + (dp u + 1) ≤ n) (hpm : tr_m T R p f (dp u + 1)) : ∃ w, 0 < w ∧ w < nd ∧ par w = u ∧ T (ps w + dp u) = R (f + dp u) := by
  obtain ⟨i, i1, i2, i3⟩ := tr_early hW (Nat.succ_pos _) p hp hpm
  obtain ⟨w, w1, w2, w3, w4, w5⟩ := tr_down h (x := i) (D := dp u + 1) hu (tr_m_eq hm (tr_m_le i3 (by omega))) i1 tr_eq_rf (by omega) i2
  exact ⟨w, w1, w2, w3, (w5 (dp u) (by omega)).trans (i3 (dp u) (by omega))⟩
/-- a place inside an edge: what goes on there is the edge's own letter -/
theorem tr_inside (h : tr_I T n nd j par ps dp) (hW : tr_W T n j) {R : Nat → Int32} {w f p k : Nat} (hw0 : 0 < w) (hw : w < nd) (hk : dp (par w) < k) (hk2 : k < dp w) (hm : tr_m T R (ps w) f k) (hp : p + (k + 1) ≤ n) (hpm : tr_m T R p f (k + 1)) : T (ps w + k) = R (f + k) := by
  obtain ⟨i, i1, i2, i3⟩ := tr_early hW (Nat.succ_pos _) p hp hpm
  have e : tr_eq T (ps w) i k := tr_m_eq hm (tr_m_le i3 (by omega))
  have q := tr_edge h (x := i) (D := k + 1) hw0 hw rfl (tr_eq_le e (by omega)) i1 tr_eq_rf (by omega) (by omega) i2
  exact (q k (by omega)).trans (i3 k (by omega))
/-- nothing stands before it -/
theorem tr_first (h : tr_I T n nd j par ps dp) {R : Nat → Int32} {w f p k : Nat} (hw0 : 0 < w) (hw : w < nd) (hk : dp (par w) < k) (hm : tr_m T R (ps w) f k) (hp : p < ps w) : ¬ tr_m T R p f k := by
  intro q
  exact h.2.2.2.2 w p hw0 hw hp (tr_m_eq (tr_m_le q (by omega)) (tr_m_le hm (by omega)))
/-- a COPY's length and place: L letters at P, no more anywhere, none before -/
def lg_is (T : Nat → Int32) (n : Nat) (R : Nat → Int32) (f lim L P : Nat) : Prop := L ≤ lim ∧ (0 < L → P + L ≤ n ∧ tr_m T R P f L ∧ ∀ p, p < P → ¬ tr_m T R p f L) ∧ (L < lim → ∀ p, p + (L + 1) ≤ n → ¬ tr_m T R p f (L + 1))
theorem lg_un {R : Nat → Int32} {f lim L P L' P' : Nat} (h : lg_is T n R f lim L P) (h' : lg_is T n R f lim L' P') : L = L' ∧ (0 < L → P = P') := by
  obtain ⟨a1, a2, a3⟩ := h
  obtain ⟨b1, b2, b3⟩ := h'
  have e : L = L' := by
    rcases Nat.lt_trichotomy L L' with q | q | q
    · exfalso
      obtain ⟨c1, c2, c3⟩ := b2 (by omega)
      exact a3 (by omega) P' (by omega) (tr_m_le c2 (by omega))
    · exact q
    · exfalso
      obtain ⟨c1, c2, c3⟩ := a2 (by omega)
      exact b3 (by omega) P (by omega) (tr_m_le c2 (by omega))
  subst e
  refine ⟨rfl, fun hL => ?_⟩
  obtain ⟨c1, c2, c3⟩ := a2 hL
  obtain ⟨d1, d2, d3⟩ := b2 hL
  rcases Nat.lt_trichotomy P P' with q | q | q
  · exact absurd c2 (d3 P q)
  · exact q
  · exact absurd d2 (c3 P' q)
end TF
