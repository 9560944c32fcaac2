/-! The tree begins; what is found in it -/
section FD
variable {T R : Nat → Int32} {n NB M sh nd j fr lim : Nat} {st en pa sl ps dp : Nat → Nat}
theorem tG_0 {b : Nat} (h1 : NB < 2 ^ 30) (h2 : n ≤ NB) (h3 : n ≤ 65536) (hb1 : 3 ≤ b) (hb2 : b ≤ 18) (h4 : 4 * n ≤ 2 ^ b) (hz : ∀ i, i < 2 ^ b → sl i = 0) : tG T n NB (2 ^ b) (32 - b) 1 0 st en pa sl (fun _ => 0) (fun _ => 0) := by
  refine ⟨⟨h1, h2, h3, h4, b, hb1, hb2, rfl, rfl⟩, ⟨tr_I0 rfl, ⟨fun s hs => by rw [hz s hs]; decide, fun v hv => absurd hv.1 (by omega)⟩, by rw [hs_n_0 hz], fun s s' hs _ hne => absurd (hz s hs) hne⟩, fun v v0 v1 => absurd v0 (by omega), Nat.zero_le _, fun _ => rfl, fun z => absurd z (by omega)⟩
theorem tr_A0 : tr_A T 1 0 0 0 0 (fun _ => 0) (fun _ => 0) := ⟨Nat.one_pos, rfl, tr_eq_0, fun z => absurd z (by omega)⟩
theorem tr_L0 {lk : Nat → Nat} : tr_L T n 1 0 0 ps dp lk := fun v v0 v1 => absurd v0 (by omega)
/-- on the way down: node u, all its letters are found -/
def fd_I (T R : Nat → Int32) (fr lim nd u k : Nat) (ps dp : Nat → Nat) : Prop := u < nd ∧ k = dp u ∧ k ≤ lim ∧ tr_m T R (ps u) fr (dp u)
theorem fd_0 (h : tG T n NB M sh nd j st en pa sl ps dp) : fd_I T R fr lim nd 0 0 ps dp := by
  have e := h.2.1.1.1.1
  exact ⟨h.2.1.1.1.2, e.symm, Nat.zero_le _, fun i hi => absurd hi (by omega)⟩
theorem fd_P (h : tG T n NB M sh nd j st en pa sl ps dp) {u k : Nat} (hI : fd_I T R fr lim nd u k ps dp) : 0 < k → ps u + k ≤ n ∧ tr_m T R (ps u) fr k ∧ ∀ p, p < ps u → ¬ tr_m T R p fr k := by
  obtain ⟨i1, rfl, i3, i4⟩ := hI
  intro hk
  have hT := h.2.1.1
  have hu : 0 < u := by
    rcases Nat.eq_zero_or_pos u with z | z
    · rw [z, hT.1.1] at hk; omega
    · exact z
  obtain ⟨p1, p2, p3, p4, p5⟩ := hT.2.1 u hu i1
  exact ⟨p3, i4, fun p hp => tr_first hT hu i1 p2 i4 hp⟩
theorem fd_full (h : tG T n NB M sh nd j st en pa sl ps dp) {u k : Nat} (hI : fd_I T R fr lim nd u k ps dp) (hk : lim ≤ k) : lg_is T n R fr lim k (ps u) := ⟨hI.2.2.1, fd_P h hI, fun z => absurd z (by omega)⟩
theorem fd_none (h : tG T n NB M sh nd j st en pa sl ps dp) (hW : tr_W T n j) {u k r : Nat} (hI : fd_I T R fr lim nd u k ps dp) (hq : hs_r M sl (hok pa st T u (R (fr + k))) (hN sh u (R (fr + k))) r) (hz : sl r = 0) : lg_is T n R fr lim k (ps u) := by
  refine ⟨hI.2.2.1, fd_P h hI, fun _ p hp hm => ?_⟩
  obtain ⟨i1, rfl, i3, i4⟩ := hI
  obtain ⟨w, w1, w2, w3, w4⟩ := tr_find h.2.1.1 hW i1 i4 hp hm
  have := gw_hit h.2.1 (tG_q h hq) w1 w2 w3 w4
  omega
/-- the child where it goes on -/
theorem fd_kid (h : tG T n NB M sh nd j st en pa sl ps dp) {u k r : Nat} (hI : fd_I T R fr lim nd u k ps dp) (hq : hs_r M sl (hok pa st T u (R (fr + k))) (hN sh u (R (fr + k))) r) (hz : sl r ≠ 0) : 0 < sl r ∧ sl r < nd ∧ pa (sl r) = u ∧ T (ps (sl r) + dp u) = R (fr + k) ∧ st (sl r) = ps (sl r) + k ∧ en (sl r) = ps (sl r) + dp (sl r) ∧ k < dp (sl r) ∧ ps (sl r) + dp (sl r) ≤ n := by
  rcases gw_look h.2.1 (tG_q h hq) with ⟨z, -⟩ | ⟨z1, z2, z3, z4⟩
  · exact absurd z hz
  · obtain ⟨s1, s2⟩ := h.2.2.1 (sl r) z1 z2
    obtain ⟨p1, p2, p3, p4, p5⟩ := h.2.1.1.2.1 (sl r) z1 z2
    rw [z3] at s1 p2
    have := hI.2.1
    exact ⟨z1, z2, z3, z4, by omega, s2, by omega, p3⟩
theorem fd_m (h : tG T n NB M sh nd j st en pa sl ps dp) {u k w sm : Nat} (hI : fd_I T R fr lim nd u k ps dp) (w1 : 0 < w) (w2 : w < nd) (w3 : pa w = u) (hs : ∀ i, i < sm → T (ps w + k + i) = R (fr + k + i)) : tr_m T R (ps w) fr (k + sm) := by
  obtain ⟨i1, rfl, i3, i4⟩ := hI
  have p5 := (h.2.1.1.2.1 w w1 w2).2.2.2.2
  rw [w3] at p5
  intro i hi
  by_cases hc : i < dp u
  · exact ((p5 i hc).symm).trans (i4 i hc)
  · have := hs (i - dp u) (by omega)
    rw [show ps w + dp u + (i - dp u) = ps w + i by omega, show fr + dp u + (i - dp u) = fr + i by omega] at this
    exact this
/-- it ends inside the edge -/
theorem fd_part (h : tG T n NB M sh nd j st en pa sl ps dp) (hW : tr_W T n j) {u k w sm : Nat} (hI : fd_I T R fr lim nd u k ps dp) (w1 : 0 < w) (w2 : w < nd) (w3 : pa w = u) (hs0 : 0 < sm) (hs : ∀ i, i < sm → T (ps w + k + i) = R (fr + k + i)) (h1 : k + sm < dp w) (h2 : k + sm ≤ lim) (hx : k + sm < lim → T (ps w + k + sm) ≠ R (fr + k + sm)) : lg_is T n R fr lim (k + sm) (ps w) := by
  have hm := fd_m h hI w1 w2 w3 hs
  have hT := h.2.1.1
  obtain ⟨p1, p2, p3, p4, p5⟩ := hT.2.1 w w1 w2
  have hk := hI.2.1
  have hpk : dp (pa w) < k + sm := by rw [w3]; omega
  refine ⟨h2, fun _ => ⟨by omega, hm, fun p hp => tr_first hT w1 w2 hpk hm hp⟩, fun hlt p hp hpm => ?_⟩
  have := tr_inside hT hW w1 w2 hpk h1 hm hp hpm
  rw [← Nat.add_assoc, ← Nat.add_assoc] at this
  exact hx hlt this
/-- .. the whole edge -/
theorem fd_go (h : tG T n NB M sh nd j st en pa sl ps dp) {u k w sm : Nat} (hI : fd_I T R fr lim nd u k ps dp) (w1 : 0 < w) (w2 : w < nd) (w3 : pa w = u) (hs : ∀ i, i < sm → T (ps w + k + i) = R (fr + k + i)) (h1 : k + sm = dp w) (h2 : k + sm ≤ lim) : fd_I T R fr lim nd w (k + sm) ps dp := ⟨w2, h1, h2, by rw [← h1]; exact fd_m h hI w1 w2 w3 hs⟩
end FD
