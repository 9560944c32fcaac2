/-! Tree and slots together. hN a c: where the way of the key (a, c) begins -/
section GR
variable {T : Nat → Int32} {n M nd j : Nat} {par ps dp lk sl : Nat → Nat} {hN : Nat → Int32 → Nat}
def gw_v (T : Nat → Int32) (hN : Nat → Int32 → Nat) (par ps dp : Nat → Nat) : Nat → Nat := fun v => hN (par v) (T (ps v + dp (par v)))
def gw_ok (T : Nat → Int32) (par ps dp : Nat → Nat) (a : Nat) (c : Int32) : Nat → Prop := fun v => par v = a ∧ T (ps v + dp (par v)) = c
def gw_T (T : Nat → Int32) (hN : Nat → Int32 → Nat) (n M nd j : Nat) (par ps dp sl : Nat → Nat) : Prop := tr_I T n nd j par ps dp ∧ hs_H M nd sl (gw_v T hN par ps dp) (fun v => 0 < v ∧ v < nd) ∧ hs_n sl M + 1 = nd ∧ hs_i M sl
/-- a child that is there is found -/
theorem gw_hit (h : gw_T T hN n M nd j par ps dp sl) {a r w : Nat} {c : Int32} (q : hs_r M sl (gw_ok T par ps dp a c) (hN a c) r) (hw0 : 0 < w) (hw : w < nd) (hp : par w = a) (hc : T (ps w + dp a) = c) : sl r = w := by
  refine hs_hit h.2.1 q ⟨hw0, hw⟩ (by omega) ⟨hp, by rw [hp]; exact hc⟩ (by unfold gw_v; rw [hp, hc]) (fun v hv hv0 hok => ?_)
  obtain ⟨o1, o2⟩ := hok
  exact tr_key h.1 (by omega) hv hw0 hw (o1.trans hp.symm) (o2.trans (by rw [hp]; exact hc.symm))
/-- what is found is a child, or there is none -/
theorem gw_look (h : gw_T T hN n M nd j par ps dp sl) {a r : Nat} {c : Int32} (q : hs_r M sl (gw_ok T par ps dp a c) (hN a c) r) : (sl r = 0 ∧ ∀ w, 0 < w → w < nd → par w = a → T (ps w + dp a) ≠ c) ∨ (0 < sl r ∧ sl r < nd ∧ par (sl r) = a ∧ T (ps (sl r) + dp a) = c) := by
  have hr := hs_r_lt q
  by_cases hc : sl r = 0
  · refine Or.inl ⟨hc, fun w w0 w1 w2 w3 => ?_⟩
    have e := gw_hit h q w0 w1 w2 w3
    omega
  · obtain ⟨d, d1, d2, d3, d4⟩ := q
    rcases d3 with e | ⟨e1, e2⟩
    · exact absurd e hc
    · exact Or.inr ⟨by omega, h.2.1.1 r hr, e1, by rw [e1] at e2; exact e2⟩
theorem gw_free (h : gw_T T hN n M nd j par ps dp sl) (hM : nd ≤ M) : ∃ r, r < M ∧ sl r = 0 := hs_n_free (by have := h.2.2.1; omega)
/-- a leaf comes in -/
theorem gw_leaf (h : gw_T T hN n M nd j par ps dp sl) {b r : Nat} (hb : b < nd) (hbx : tr_eq T (ps b) j (dp b)) (hj : j + dp b < n) (hno : ∀ w, 0 < w → w < nd → par w = b → T (ps w + dp b) ≠ T (j + dp b)) (q : hs_r M sl (gw_ok T par ps dp b (T (j + dp b))) (hN b (T (j + dp b))) r) :
    sl r = 0 ∧ gw_T T hN n M (nd + 1) (j + 1) (va_up par nd b) (va_up ps nd j) (va_up dp nd (n - j)) (va_up sl r nd) := by
  obtain ⟨hI, hH, hn, hi⟩ := h
  have hn0 := hI.1.2
  have hr0 : sl r = 0 := by
    rcases gw_look ⟨hI, hH, hn, hi⟩ q with e | ⟨e1, e2, e3, e4⟩
    · exact e.1
    · exact absurd e4 (hno _ e1 e2 e3)
  refine ⟨hr0, (tr_leaf hI hb hbx hj hno).1, ?_, ?_, hs_i_put hi (fun s hs => by have := hH.1 s hs; omega)⟩
  · refine hs_pr (hs_put (hv' := gw_v T hN (va_up par nd b) (va_up ps nd j) (va_up dp nd (n - j))) hH q hr0 (by omega) (Nat.lt_succ_self nd) (Nat.le_succ nd) ?_ (fun v hv _ => ?_) (fun v hv => by omega)) (fun v hv => by
      by_cases hc : v = nd
      · exact Or.inr hc
      · exact Or.inl ⟨hv.1, by omega⟩)
    · unfold gw_v
      rw [va_up_self, va_up_self, va_up_ne _ _ (by omega : b ≠ nd)]
    · have hp := (hI.2.1 v hv.1 hv.2).1
      unfold gw_v
      rw [va_up_ne _ _ (by omega : v ≠ nd), va_up_ne _ _ (by omega : v ≠ nd), va_up_ne _ _ (by omega : par v ≠ nd)]
  · rw [hs_n_new hr0 (by omega) (hs_r_lt q)]
    omega
/-- an edge is split: the new node takes the child's slot, the child the slot at the end of its new way -/
theorem gw_split (h : gw_T T hN n M nd j par ps dp sl) {a w D r r1 : Nat} (hw0 : 0 < w) (hw : w < nd) (hp : par w = a) (h1 : dp a < D) (h2 : D < dp w) (q : hs_r M sl (gw_ok T par ps dp a (T (ps w + dp a))) (hN a (T (ps w + dp a))) r)
    (q1 : hs_r M (va_up sl r nd) (gw_ok T (va_up (va_up par nd a) w nd) (va_up ps nd (ps w)) (va_up dp nd D) nd (T (ps w + D))) (hN nd (T (ps w + D))) r1) :
    va_up sl r nd r1 = 0 ∧ gw_T T hN n M (nd + 1) j (va_up (va_up par nd a) w nd) (va_up ps nd (ps w)) (va_up dp nd D) (va_up (va_up sl r nd) r1 w) := by
  have hrw := gw_hit h q hw0 hw hp rfl
  obtain ⟨hI, hH, hn, hi⟩ := h
  have hn0 := hI.1.2
  have hI' := tr_split hI hw0 hw hp h1 h2
  have ha : a < nd := by rw [← hp]; exact (hI.2.1 w hw0 hw).1
  have hH1 := hs_swap (hv' := gw_v T hN (va_up (va_up par nd a) w nd) (va_up ps nd (ps w)) (va_up dp nd D)) (x := nd) hH q hrw (by omega) (Nat.lt_succ_self nd) (Nat.le_succ nd) (by
      unfold gw_v
      rw [va_up_ne _ _ (by omega : nd ≠ w), va_up_self, va_up_self, va_up_ne _ _ (by omega : a ≠ nd)]) (fun v hv hne hne2 => by
      have hpv := (hI.2.1 v hv.1 hv.2).1
      unfold gw_v
      rw [va_up_ne _ _ hne, va_up_ne _ _ hne2, va_up_ne _ _ hne2, va_up_ne _ _ (by omega : par v ≠ nd)])
  have hr1 := hs_r_lt q1
  have hgone : ∀ s, s < M → va_up sl r nd s ≠ w := hs_i_gone hi (hs_r_lt q) hrw (by omega) (by omega)
  -- nobody but w is a child of the new node
  have hz : va_up sl r nd r1 = 0 := by
    by_cases hc : va_up sl r nd r1 = 0
    · exact hc
    · exfalso
      have q1' := q1
      obtain ⟨d, d1, d2, d3, d4⟩ := q1
      rcases d3 with e | ⟨e1, e2⟩
      · exact hc e
      · -- v := what the slot holds; its parent is nd
        have hv := hH1.1 r1 hr1
        by_cases hvw : va_up sl r nd r1 = w
        · exact hgone r1 hr1 hvw
        · by_cases hvn : va_up sl r nd r1 = nd
          · rw [hvn, va_up_ne _ _ (by omega : nd ≠ w), va_up_self] at e1
            omega
          · rw [va_up_ne _ _ hvw, va_up_ne _ _ hvn] at e1
            have := (hI.2.1 _ (by omega) (by omega : va_up sl r nd r1 < nd)).1
            omega
  refine ⟨hz, hI', ?_, ?_, hs_i_put (hs_i_put hi (fun s hs => by have := hH.1 s hs; omega)) hgone⟩
  · refine hs_pr (hs_put (hv' := gw_v T hN (va_up (va_up par nd a) w nd) (va_up ps nd (ps w)) (va_up dp nd D)) hH1 q1 hz (by omega) (by omega : w < nd + 1) (Nat.le_refl _) ?_ (fun v hv _ => rfl) (fun v hv => by rcases hv with e | e <;> omega)) (fun v hv => by
      by_cases hc : v = w
      · exact Or.inr hc
      · by_cases hd : v = nd
        · exact Or.inl (Or.inr hd)
        · exact Or.inl (Or.inl ⟨⟨hv.1, by omega⟩, hc⟩))
    unfold gw_v
    rw [va_up_self, va_up_self, va_up_ne _ _ (by omega : w ≠ nd)]
  · rw [hs_n_new hz (by omega) hr1, hs_n_old (by omega) (by omega)]
    omega
end GR
