/-! A letter comes in: what the machine's rows of numbers say, and the three ends of a round -/
/-- the tree as the rows hold it: start st, end en, parent pa, slots sl; ps, dp: each node's letters -/
def tG (T : Nat → Int32) (n NB M sh nd j : Nat) (st en pa sl ps dp : Nat → Nat) : Prop :=
  (NB < 2 ^ 30 ∧ n ≤ NB ∧ n ≤ 65536 ∧ 4 * n ≤ M ∧ ∃ b, 3 ≤ b ∧ b ≤ 18 ∧ M = 2 ^ b ∧ sh = 32 - b) ∧ gw_T T (hN sh) n M nd j pa ps dp sl ∧
  (∀ v, 0 < v → v < nd → st v = ps v + dp (pa v) ∧ en v = ps v + dp v) ∧ (j ≤ n ∧ (j = 0 → nd = 1) ∧ (0 < j → nd ≤ 2 * j))
section SG
variable {T : Nat → Int32} {n NB M sh nd j : Nat} {st en pa sl ps dp li : Nat → Nat}
theorem tG_nd (h : tG T n NB M sh nd j st en pa sl ps dp) : nd ≤ 131072 ∧ nd ≤ M ∧ 8 ≤ M ∧ 0 < nd := by
  obtain ⟨⟨-, -, h1, h2, b, b1, b2, rfl, -⟩, hT, -, h3, h4, h5⟩ := h
  have a1 : (2 : Nat) ^ 3 ≤ 2 ^ b := Nat.pow_le_pow_right (by decide) b1
  have := hT.1.1.2
  by_cases hj : j = 0
  · have := h4 hj
    omega
  · have := h5 (by omega)
    omega
theorem tG_O (h : tG T n NB M sh nd j st en pa sl ps dp) : tO NB M sh nd st pa sl := by
  have hd := tG_nd h
  have h0 := h
  obtain ⟨⟨c1, c2, c3, c4, cb⟩, hT, hR, -⟩ := h
  refine ⟨c1, cb, hd.1, hT.2.1.1, fun s hs hne => ?_, gw_free hT hd.2.1⟩
  have hv := hT.2.1.1 s hs
  obtain ⟨p1, p2, p3, p4, p5⟩ := hT.1.2.1 (sl s) (by omega) hv
  have := (hR (sl s) (by omega) hv).1
  exact ⟨by omega, by omega⟩
theorem tG_q (h : tG T n NB M sh nd j st en pa sl ps dp) {a hh r : Nat} {ch : Int32} (q : hs_r M sl (hok pa st T a ch) hh r) : hs_r M sl (gw_ok T pa ps dp a ch) hh r := by
  obtain ⟨-, hT, hR, -⟩ := h
  have hr := hs_r_lt q
  have hM : 0 < M := by omega
  have e : ∀ s, s < M → sl s ≠ 0 → (hok pa st T a ch (sl s) ↔ gw_ok T pa ps dp a ch (sl s)) := fun s hs hne => by
    have := (hR (sl s) (by omega) (hT.2.1.1 s hs)).1
    unfold hok gw_ok
    rw [this]
  obtain ⟨d, d1, d2, d3, d4⟩ := q
  refine ⟨d, d1, d2, ?_, fun d' hd' => ?_⟩
  · by_cases hz : sl r = 0
    · exact Or.inl hz
    · rcases d3 with z | z
      · exact absurd z hz
      · exact Or.inr ((e r hr hz).mp z)
  · obtain ⟨z1, z2⟩ := d4 d' hd'
    exact ⟨z1, fun z => z2 ((e _ (Nat.mod_lt _ hM) z1).mpr z)⟩
/-- what the slot at the active point holds -/
theorem tG_child (hG : tG T n NB M sh nd j st en pa sl ps dp) {a L pl r : Nat} (hA : tr_A T nd j pl a L ps dp) (hpl : pl < n) (q0 : hs_r M sl (hok pa st T a (T (pl - L))) (hN sh a (T (pl - L))) r) (hlab : 0 < L → L < en (sl r) - st (sl r)) :
    (sl r = 0 ∧ L = 0 ∧ ∀ w, 0 < w → w < nd → pa w = a → T (ps w + dp a) ≠ T pl) ∨ (0 < sl r ∧ sl r < nd ∧ pa (sl r) = a ∧ st (sl r) = ps (sl r) + dp a ∧ en (sl r) = ps (sl r) + dp (sl r) ∧ L < dp (sl r) - dp a ∧ tr_eq T (ps (sl r)) j (pl - j) ∧ (L = 0 → T (ps (sl r) + dp a) = T pl) ∧ ps (sl r) + dp (sl r) ≤ n) := by
  have q := tG_q hG q0
  obtain ⟨-, hT, hR, -⟩ := hG
  by_cases hL : L = 0
  · subst hL
    rcases gw_look hT q with ⟨z1, z2⟩ | ⟨z1, z2, z3, z4⟩
    · exact Or.inl ⟨z1, rfl, z2⟩
    · obtain ⟨p1, p2, p3, p4, p5⟩ := hT.1.2.1 (sl r) z1 z2
      obtain ⟨s1, s2⟩ := hR (sl r) z1 z2
      rw [z3] at s1 p2
      exact Or.inr ⟨z1, z2, z3, s1, s2, by omega, tr_below hT.1 hA z1 z2 z3, fun _ => z4, p3⟩
  · obtain ⟨w, w1, w2, w3, w4, w5, w6, w7⟩ := tr_go hT.1 hA hpl (by omega)
    have ew := gw_hit hT q w1 w2 w3 w5
    subst ew
    obtain ⟨p1, p2, p3, p4, p5⟩ := hT.1.2.1 (sl r) w1 w2
    obtain ⟨s1, s2⟩ := hR (sl r) w1 w2
    rw [w3] at s1
    have hlt := hlab (by omega)
    rw [s1, s2] at hlt
    have hlt2 : L < dp (sl r) - dp a := by omega
    exact Or.inr ⟨w1, w2, w3, s1, s2, hlt2, w7 hlt2, fun z => absurd z hL, p3⟩
/-- the letter stands there -/
theorem tG_stands (hG : tG T n NB M sh nd j st en pa sl ps dp) {a L pl wl v : Nat} (hA : tr_A T nd j pl a L ps dp) (hpl : pl < n) (hB : tr_B T n nd j pl wl ps dp) (hL : tr_L T n nd wl 0 ps dp li)
    (h1 : 0 < v) (h2 : v < nd) (h3 : pa v = a) (h5 : L < dp v - dp a) (h6 : tr_eq T (ps v) j (pl - j)) (hc : T (ps v + dp a + L) = T pl) :
    tr_A T nd j (pl + 1) a (L + 1) ps dp ∧ tr_L T n nd 0 0 ps dp (if wl = 0 then li else va_up li wl a) := by
  obtain ⟨-, hT, -⟩ := hG
  obtain ⟨A1, A2, A3, A4⟩ := hA
  have hc2 : T (ps v + (pl - j)) = T pl := by rw [show ps v + (pl - j) = ps v + dp a + L by omega]; exact hc
  refine ⟨tr_stands hT.1 ⟨A1, A2, A3, A4⟩ hpl h1 h2 h6 hc2, ?_⟩
  by_cases hw : wl = 0
  · rw [if_pos hw, ← hw]
    rw [hw] at hL ⊢
    exact hL
  · rw [if_neg hw]
    have e := tr_mid hT.1 ⟨A1, A2, A3, A4⟩ hB hw hpl h1 h2 h3 h5 h6 hc2
    exact tr_link hL hB hw A1 (by omega) A3
/-- a leaf below b, where nothing goes on with the letter; r: its slot -/
theorem tG_leaf (hG : tG T n NB M sh nd j st en pa sl ps dp) {b pl r : Nat} (hb : b < nd) (hbx : tr_eq T (ps b) j (dp b)) (hj : j + dp b = pl) (hpl : pl < n) (hno : ∀ w, 0 < w → w < nd → pa w = b → T (ps w + dp b) ≠ T pl) (hc : (j = 0 → nd + 1 = 2) ∧ (0 < j → nd + 1 ≤ 2 * j + 2)) (q0 : hs_r M sl (hok pa st T b (T pl)) (hN sh b (T pl)) r) :
    tG T n NB M sh (nd + 1) (j + 1) (va_up st nd pl) (va_up en nd n) (va_up pa nd b) (va_up sl r nd) (va_up ps nd j) (va_up dp nd (n - j)) := by
  have q := tG_q hG q0
  obtain ⟨c, hT, hR, hn⟩ := hG
  subst hj
  obtain ⟨-, hl⟩ := gw_leaf hT hb hbx hpl hno q
  refine ⟨c, hl, fun v v0 v1 => ?_, by omega, fun z => by omega, fun _ => ?_⟩
  · by_cases hv : v = nd
    · subst hv
      rw [va_up_self, va_up_self, va_up_self, va_up_self, va_up_self, va_up_ne _ _ (by omega : b ≠ v)]
      exact ⟨rfl, by omega⟩
    · have hv2 : v < nd := by omega
      have hp := (hT.1.2.1 v v0 hv2).1
      rw [va_up_ne _ _ hv, va_up_ne _ _ hv, va_up_ne _ _ hv, va_up_ne _ _ hv, va_up_ne _ _ hv, va_up_ne _ _ (by omega : pa v ≠ nd)]
      exact hR v v0 hv2
  · by_cases hj : j = 0
    · have := hc.1 hj
      omega
    · have := hc.2 (by omega)
      omega
/-- an edge is split -/
theorem tG_split (hG : tG T n NB M sh nd j st en pa sl ps dp) {a L w pl r : Nat} (hA : tr_A T nd j pl a L ps dp) (hw0 : 0 < w) (hw : w < nd) (hp : pa w = a) (hL0 : 0 < L) (hL : L < dp w - dp a) (hpl : pl < n) (hs : st w = ps w + dp a) (hrw : sl r = w) (hT0 : T (ps w + dp a) = T (pl - L)) (q0 : hs_r M sl (hok pa st T a (T (pl - L))) (hN sh a (T (pl - L))) r) :
    tO NB M sh (nd + 1) (va_up (va_up st nd (st w)) w (st w + L)) (va_up (va_up pa nd a) w nd) (va_up sl r nd) ∧
    ∀ r1, hs_r M (va_up sl r nd) (hok (va_up (va_up pa nd a) w nd) (va_up (va_up st nd (st w)) w (st w + L)) T nd (T (st w + L))) (hN sh nd (T (st w + L))) r1 →
      gw_T T (hN sh) n M (nd + 1) j (va_up (va_up pa nd a) w nd) (va_up ps nd (ps w)) (va_up dp nd (dp a + L)) (va_up (va_up sl r nd) r1 w) ∧ ∀ v, 0 < v → v < nd + 1 → (va_up (va_up st nd (st w)) w (st w + L)) v = (va_up ps nd (ps w)) v + (va_up dp nd (dp a + L)) ((va_up (va_up pa nd a) w nd) v) ∧ (va_up en nd (st w + L)) v = (va_up ps nd (ps w)) v + (va_up dp nd (dp a + L)) v := by
  have hd := tG_nd hG
  have q := tG_q hG q0
  have hG0 := hG
  obtain ⟨⟨c1, c2, c3, c4, cb⟩, hT, hR, n1, n2, n3⟩ := hG
  have hr := hs_r_lt q
  have ha : a < nd := by rw [← hp]; exact (hT.1.2.1 w hw0 hw).1
  have hw3 := (hT.1.2.1 w hw0 hw).2.2.1
  have hjj : ps w < j := (hT.1.2.1 w hw0 hw).2.2.2.1
  have hnn := n3 (by omega)
  have hgone : ∀ s, s < M → va_up sl r nd s ≠ w := hs_i_gone hT.2.2.2 hr hrw (by omega) (by omega)
  have hjn : j + dp a + L = pl := hA.2.1
  -- the new rows say what they should
  have hR' : ∀ v, 0 < v → v < nd + 1 → (va_up (va_up st nd (st w)) w (st w + L)) v = (va_up ps nd (ps w)) v + (va_up dp nd (dp a + L)) ((va_up (va_up pa nd a) w nd) v) ∧ (va_up en nd (st w + L)) v = (va_up ps nd (ps w)) v + (va_up dp nd (dp a + L)) v := by
    intro v v0 v1
    by_cases e1 : v = w
    · subst e1
      have := hR v v0 hw
      rw [va_up_self, va_up_self, va_up_self, va_up_ne _ _ (by omega : v ≠ nd), va_up_ne _ _ (by omega : v ≠ nd), va_up_ne _ _ (by omega : v ≠ nd)]
      exact ⟨by omega, this.2⟩
    · by_cases e2 : v = nd
      · subst e2
        rw [va_up_ne _ _ e1, va_up_ne _ _ e1, va_up_self, va_up_self, va_up_self, va_up_self, va_up_self, va_up_ne _ _ (by omega : a ≠ v)]
        exact ⟨hs, by omega⟩
      · have hv2 : v < nd := by omega
        have := hR v v0 hv2
        have hpv := (hT.1.2.1 v v0 hv2).1
        rw [va_up_ne _ _ e1, va_up_ne _ _ e1, va_up_ne _ _ e2, va_up_ne _ _ e2, va_up_ne _ _ e2, va_up_ne _ _ e2, va_up_ne _ _ e2, va_up_ne _ _ (by omega : pa v ≠ nd)]
        exact this
  have hsl : ∀ s, s < M → va_up sl r nd s < nd + 1 := fun s hs => by
    by_cases e : s = r
    · rw [e, va_up_self]; omega
    · rw [va_up_ne _ _ e]; have := hT.2.1.1 s hs; omega
  refine ⟨⟨c1, cb, by omega, hsl, fun s hs1 hne => ?_, ?_⟩, fun r1 q1 => ⟨?_, hR'⟩⟩
  · have hv := hsl s hs1
    have hv0 : 0 < va_up sl r nd s := by omega
    have hvw := hgone s hs1
    by_cases e : va_up sl r nd s = nd
    · rw [e, va_up_ne _ _ (by omega : nd ≠ w), va_up_ne _ _ (by omega : nd ≠ w), va_up_self, va_up_self]
      exact ⟨by omega, by omega⟩
    · rw [va_up_ne _ _ hvw, va_up_ne _ _ hvw, va_up_ne _ _ e, va_up_ne _ _ e]
      obtain ⟨z1, z2, z3, z4, z5⟩ := hT.1.2.1 _ hv0 (by omega : va_up sl r nd s < nd)
      have := (hR _ hv0 (by omega : va_up sl r nd s < nd)).1
      exact ⟨by omega, by omega⟩
  · have := hT.2.2.1
    refine hs_n_free ?_
    rw [hs_n_old (by omega) (by omega)]
    omega
  · rw [hT0.symm] at q
    have hM : 0 < M := by omega
    refine (gw_split (D := dp a + L) (r := r) (r1 := r1) hT hw0 hw hp (by omega) (by omega) q ?_).2
    have hpsD : ps w + (dp a + L) = st w + L := by omega
    rw [hpsD]
    have e : ∀ s, s < M → va_up sl r nd s ≠ 0 → (hok (va_up (va_up pa nd a) w nd) (va_up (va_up st nd (st w)) w (st w + L)) T nd (T (st w + L)) (va_up sl r nd s) ↔ gw_ok T (va_up (va_up pa nd a) w nd) (va_up ps nd (ps w)) (va_up dp nd (dp a + L)) nd (T (st w + L)) (va_up sl r nd s)) := fun s hs1 hne => by
      have := (hR' _ (by omega) (hsl s hs1)).1
      unfold hok gw_ok
      rw [this]
    have hr1 := hs_r_lt q1
    obtain ⟨d, d1, d2, d3, d4⟩ := q1
    refine ⟨d, d1, d2, ?_, fun d' hd' => ?_⟩
    · by_cases hz : va_up sl r nd r1 = 0
      · exact Or.inl hz
      · rcases d3 with z | z
        · exact absurd z hz
        · exact Or.inr ((e r1 hr1 hz).mp z)
    · obtain ⟨z1, z2⟩ := d4 d' hd'
      exact ⟨z1, fun z => z2 ((e _ (Nat.mod_lt _ hM) z1).mpr z)⟩
/-- .. the same of a tree that has a node more than it should -/
theorem tF_O (c : NB < 2 ^ 30 ∧ n ≤ NB ∧ n ≤ 65536 ∧ 4 * n ≤ M ∧ ∃ b, 3 ≤ b ∧ b ≤ 18 ∧ M = 2 ^ b ∧ sh = 32 - b) (hT : gw_T T (hN sh) n M nd j pa ps dp sl) (hR : ∀ v, 0 < v → v < nd → st v = ps v + dp (pa v) ∧ en v = ps v + dp v) (h1 : nd ≤ 131072) (h2 : nd ≤ M) : tO NB M sh nd st pa sl := by
  obtain ⟨c1, c2, c3, c4, cb⟩ := c
  refine ⟨c1, cb, h1, hT.2.1.1, fun s hs hne => ?_, gw_free hT h2⟩
  have hv := hT.2.1.1 s hs
  obtain ⟨p1, p2, p3, p4, p5⟩ := hT.1.2.1 (sl s) (by omega) hv
  have := (hR (sl s) (by omega) hv).1
  exact ⟨by omega, by omega⟩
theorem tF_q (hT : gw_T T (hN sh) n M nd j pa ps dp sl) (hR : ∀ v, 0 < v → v < nd → st v = ps v + dp (pa v) ∧ en v = ps v + dp v) {a hh r : Nat} {ch : Int32} (q : hs_r M sl (hok pa st T a ch) hh r) : hs_r M sl (gw_ok T pa ps dp a ch) hh r := by
  have hr := hs_r_lt q
  have hM : 0 < M := by omega
  have e : ∀ s, s < M → sl s ≠ 0 → (hok pa st T a ch (sl s) ↔ gw_ok T pa ps dp a ch (sl s)) := fun s hs hne => by
    have := (hR (sl s) (by omega) (hT.2.1.1 s hs)).1
    unfold hok gw_ok
    rw [this]
  obtain ⟨d, d1, d2, d3, d4⟩ := q
  refine ⟨d, d1, d2, ?_, fun d' hd' => ?_⟩
  · by_cases hz : sl r = 0
    · exact Or.inl hz
    · rcases d3 with z | z
      · exact absurd z hz
      · exact Or.inr ((e r hr hz).mp z)
  · obtain ⟨z1, z2⟩ := d4 d' hd'
    exact ⟨z1, fun z => z2 ((e _ (Nat.mod_lt _ hM) z1).mpr z)⟩
theorem tF_leaf (c : NB < 2 ^ 30 ∧ n ≤ NB ∧ n ≤ 65536 ∧ 4 * n ≤ M ∧ ∃ b, 3 ≤ b ∧ b ≤ 18 ∧ M = 2 ^ b ∧ sh = 32 - b) (hT : gw_T T (hN sh) n M nd j pa ps dp sl) (hR : ∀ v, 0 < v → v < nd → st v = ps v + dp (pa v) ∧ en v = ps v + dp v) {b pl r : Nat} (hb : b < nd) (hbx : tr_eq T (ps b) j (dp b)) (hj : j + dp b = pl) (hpl : pl < n) (hno : ∀ w, 0 < w → w < nd → pa w = b → T (ps w + dp b) ≠ T pl) (hc : nd + 1 ≤ 2 * (j + 1)) (q0 : hs_r M sl (hok pa st T b (T pl)) (hN sh b (T pl)) r) :
    tG T n NB M sh (nd + 1) (j + 1) (va_up st nd pl) (va_up en nd n) (va_up pa nd b) (va_up sl r nd) (va_up ps nd j) (va_up dp nd (n - j)) := by
  have q := tF_q hT hR q0
  subst hj
  obtain ⟨-, hl⟩ := gw_leaf hT hb hbx hpl hno q
  refine ⟨c, hl, fun v v0 v1 => ?_, by omega, fun z => by omega, fun _ => hc⟩
  by_cases hv : v = nd
  · subst hv
    rw [va_up_self, va_up_self, va_up_self, va_up_self, va_up_self, va_up_ne _ _ (by omega : b ≠ v)]
    exact ⟨rfl, by omega⟩
  · have hv2 : v < nd := by omega
    have hp := (hT.1.2.1 v v0 hv2).1
    rw [va_up_ne _ _ hv, va_up_ne _ _ hv, va_up_ne _ _ hv, va_up_ne _ _ hv, va_up_ne _ _ hv, va_up_ne _ _ (by omega : pa v ≠ nd)]
    exact hR v v0 hv2
/-- between two rounds: wl waits for its link, the active point is L letters below an -/
def tV (T : Nat → Int32) (n NB M sh nd j pl wl an L : Nat) (st en pa li sl ps dp : Nat → Nat) : Prop := tG T n NB M sh nd j st en pa sl ps dp ∧ tr_L T n nd wl 0 ps dp li ∧ tr_B T n nd j pl wl ps dp ∧ ((j ≤ pl ∧ tr_A T nd j pl an L ps dp) ∨ (j = pl + 1 ∧ wl = 0 ∧ tr_A T nd j (pl + 1) an L ps dp))
/-- behind a leaf below the active node -/
theorem tV_none (hG : tG T n NB M sh nd j st en pa sl ps dp) {a pl r : Nat} (hA : tr_A T nd j pl a 0 ps dp) (hpl : pl < n) (hno : ∀ w, 0 < w → w < nd → pa w = a → T (ps w + dp a) ≠ T pl) (hL : tr_L T n nd 0 0 ps dp li) (q0 : hs_r M sl (hok pa st T a (T pl)) (hN sh a (T pl)) r) :
    tV T n NB M sh (nd + 1) (j + 1) pl 0 (if a = 0 then 0 else (va_up li nd 0) a) (if a = 0 then 0 - 1 else 0) (va_up st nd pl) (va_up en nd n) (va_up pa nd a) (va_up li nd 0) (va_up sl r nd) (va_up ps nd j) (va_up dp nd (n - j)) := by
  have hG0 := hG
  obtain ⟨c, hT, hR, n1, n2, n3⟩ := hG
  obtain ⟨A1, A2, A3, A4⟩ := hA
  refine ⟨tG_leaf hG0 A1 A3 (by omega) hpl hno ⟨fun z => by have := n2 z; omega, fun z => by have := n3 z; omega⟩ q0, tr_L_new hL (Or.inl (by omega)), Or.inl rfl, ?_⟩
  by_cases ha : a = 0
  · subst ha
    rw [if_pos rfl, if_pos rfl]
    obtain ⟨e, hN⟩ := tr_next1 hT.1.1.1 ⟨A1, A2, A3, A4⟩
    exact Or.inr ⟨by omega, rfl, tr_A_new (by rw [← e]; rw [← e] at hN; exact hN)⟩
  · rw [if_neg ha, if_neg ha, va_up_ne _ _ (by omega : a ≠ nd)]
    have hd : dp a ≠ 0 := fun z => ha (tr_d0 hT.1 A1 z)
    exact Or.inl ⟨by omega, tr_A_new (tr_next hT.1 ⟨A1, A2, A3, A4⟩ hL hpl (by omega) ha ha)⟩
/-- behind a split and the new node's leaf -/
theorem tV_split (hG : tG T n NB M sh nd j st en pa sl ps dp) {a L w pl r r1 : Nat} {pa1 st1 en1 sl1 ps1 dp1 : Nat → Nat} (hA : tr_A T nd j pl a L ps dp) (hw0 : 0 < w) (hw : w < nd) (hp : pa w = a) (hL0 : 0 < L) (hLw : L < dp w - dp a) (hpl : pl < n) (hs : st w = ps w + dp a) (heq : tr_eq T (ps w) j (pl - j)) (hne : T (st w + L) ≠ T pl)
    (hpa : pa1 = va_up (va_up pa nd a) w nd) (hps : ps1 = va_up ps nd (ps w)) (hdp : dp1 = va_up dp nd (dp a + L))
    (hT1 : gw_T T (hN sh) n M (nd + 1) j pa1 ps1 dp1 sl1) (hR1 : ∀ v, 0 < v → v < nd + 1 → st1 v = ps1 v + dp1 (pa1 v) ∧ en1 v = ps1 v + dp1 v) (hL : tr_L T n (nd + 1) 0 nd ps1 dp1 li) (q0 : hs_r M sl1 (hok pa1 st1 T nd (T pl)) (hN sh nd (T pl)) r1) :
    tV T n NB M sh (nd + 1 + 1) (j + 1) pl nd (if a = 0 then 0 else (va_up li (nd + 1) 0) a) (if a = 0 then L - 1 else L) (va_up st1 (nd + 1) pl) (va_up en1 (nd + 1) n) (va_up pa1 (nd + 1) nd) (va_up li (nd + 1) 0) (va_up sl1 r1 (nd + 1)) (va_up ps1 (nd + 1) j) (va_up dp1 (nd + 1) (n - j)) := by
  have hG0 := hG
  obtain ⟨c, hT, hR, n1, n2, n3⟩ := hG
  have hA0 := hA
  obtain ⟨A1, A2, A3, A4⟩ := hA
  obtain ⟨z1, z2, z3, z4, z5⟩ := hT.1.2.1 w hw0 hw
  have hn3 := n3 (by omega)
  have e1 : ps1 nd = ps w := by rw [hps, va_up_self]
  have e2 : dp1 nd = dp a + L := by rw [hdp, va_up_self]
  have hd0 := hT.1.1.1
  have hA1 : tr_A T (nd + 1) j pl a L ps1 dp1 := by rw [hps, hdp]; exact tr_A_new hA0
  refine ⟨tF_leaf c hT1 hR1 (Nat.lt_succ_self nd) (by rw [e1, e2, show dp a + L = pl - j by omega]; exact heq) (by omega) hpl ?_ (by omega) q0, tr_L_new (tr_L_sw hL) (Or.inl (by omega)), Or.inr ?_, Or.inl ⟨by omega, ?_⟩⟩
  · intro v v0 v1 v2
    rw [e2]
    by_cases e : v = w
    · rw [e, hps, va_up_ne _ _ (by omega : w ≠ nd), show ps w + (dp a + L) = st w + L by omega]
      exact hne
    · exfalso
      rw [hpa, va_up_ne _ _ e] at v2
      by_cases e' : v = nd
      · rw [e', va_up_self] at v2; omega
      · rw [va_up_ne _ _ e'] at v2
        have := (hT.1.2.1 v v0 (by omega)).1
        omega
  · rw [va_up_ne _ _ (by omega : nd ≠ nd + 1), va_up_ne _ _ (by omega : nd ≠ nd + 1), e1, e2]
    refine ⟨by omega, by omega, by omega, by omega, ?_, ?_, by omega⟩
    · rw [show j + 1 - 1 = j by omega, show dp a + L = pl - j by omega]; exact heq
    · rw [show ps w + (dp a + L) = st w + L by omega]; exact hne
  · by_cases ha : a = 0
    · subst ha
      rw [if_pos rfl, if_pos rfl]
      obtain ⟨L', rfl⟩ : ∃ L', L = L' + 1 := ⟨L - 1, by omega⟩
      have hd1 : dp1 0 = 0 := by rw [hdp, va_up_ne _ _ (by omega : (0 : Nat) ≠ nd)]; exact hd0
      exact tr_A_new (tr_next0 hd1 hA1)
    · rw [if_neg ha, if_neg ha, va_up_ne _ _ (by omega : a ≠ nd + 1)]
      exact tr_A_new (tr_next hT1.1 hA1 hL hpl (by omega) ha (by omega))
/-- a link where it is due -/
theorem tV_lk {wl wb b pl : Nat} (hL : tr_L T n nd wl wb ps dp li) (hB : tr_B T n nd j pl wl ps dp) (hb : b < nd) (hbd : j + dp b = pl) (hbx : tr_eq T (ps b) j (dp b)) : (wl = 0 → tr_L T n nd 0 wb ps dp li) ∧ (wl ≠ 0 → tr_L T n nd 0 wb ps dp (va_up li wl b)) := ⟨fun z => by rw [z] at hL; exact hL, fun z => tr_link hL hB z hb hbd hbx⟩
theorem tV_new {wl : Nat} (hL : tr_L T n nd wl 0 ps dp li) (x y : Nat) : tr_L T n (nd + 1) wl nd (va_up ps nd x) (va_up dp nd y) (va_up li nd 0) := tr_L_new (wb := nd) (fun v a b c d e => hL v a b c d (by omega)) (Or.inr rfl)
end SG
