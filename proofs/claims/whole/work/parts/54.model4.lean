/-! DeltaPressModel: longest, make, count -/
theorem sw_out {x : Int32} {m : Nat} (hm : m < 2 ^ 31) (h : ∀ j, j ≤ m → x ≠ nI j) : x.toInt < 0 ∨ (m : Int) < x.toInt := by
  by_cases h0 : x < 0
  · exact Or.inl (by simpa using Int32.lt_iff_toInt_lt.mp h0)
  · obtain ⟨j, j1, j2⟩ := nI_of h0
    refine Or.inr ?_
    rw [j2, nI_toInt j1]
    have : ¬ j ≤ m := fun z => h j z j2
    omega
theorem sw_in {x : Int32} {m : Nat} (hm : m < 2 ^ 31) : (∃ j, j ≤ m ∧ x = nI j) ∨ ∀ j, j ≤ m → x ≠ nI j := by
  by_cases h : ∃ j, j ≤ m ∧ x = nI j
  · exact Or.inl h
  · exact Or.inr (fun j hj e => h ⟨j, hj, e⟩)

set_option maxHeartbeats 4000000 in
set_option maxRecDepth 100000 in
theorem zc_Mo_longest (l : Launch) (D : va_G) {m0 aI aB aO aR n nb nm cp frs dm th be at_ wr fi : Nat} {wh : Int32} {fI fB fO fR : Nat → Int32} {cI cB cO cR : ClassId} {x y L pp : Nat} (hx : x < n) (hy : y ≤ 1) (hn : n ≤ 65536) (hnb : nb ≤ 65536) (hL : lg_is fB nb fI x (min (n - x) 65535) L pp) (sz : Nat) : zMi l D zy_Mo_longest zb_Mo_longest 3 .int ({ frames := 1, cells := 0, slots := 0, locals := 23 } : Room) [.ref m0, .int (nI x), .int (nI y)] [(cI, .byte), (cB, .byte), (cO, .byte), (cR, .byte)] [(m0, .inr (4, [.ref aI, .ref aB, .ref aO, .ref aR, .int (nI n), .int (nI nb), .int (nI nm), .int (nI cp), .int (nI frs), .int (nI dm), .int (nI th), .int (nI be), .int wh, .int (nI at_), .int (nI wr), .int (nI fi)])), (aI, .inl (cI, 65536, .inl (fI))), (aB, .inl (cB, 65536, .inl (fB))), (aO, .inl (cO, 67000, .inl (fO))), (aR, .inl (cR, 65536, .inl (fR)))] sz (fun (r : Int32) (u : Nat × Int32) => r = (if L < 8 then (if y = 0 then nI 0 else -1) else (if y = 0 then nI L else nI pp)) ∧ True) (fun u => [(m0, .inr (4, [.ref aI, .ref aB, .ref aO, .ref aR, .int (nI n), .int (nI nb), .int (nI nm), .int (nI cp), .int (nI frs), .int (nI dm), .int (nI 0), .int (nI u.1), .int (u.2), .int (nI at_), .int (nI wr), .int (nI fi)])), (aI, .inl (cI, 65536, .inl (fI))), (aB, .inl (cB, 65536, .inl (fB))), (aO, .inl (cO, 67000, .inl (fO))), (aR, .inl (cR, 65536, .inl (fR)))]) := by
  refine zEi (by decide) (Nat.le_of_ble_eq_true rfl) (fun p e s m args below meth c ls A Q X hl h hsz ret => ?_)
  have hl : lv_has ls 3 [(0, .ref m0), (1, .int (nI x)), (2, .int (nI y))] := hl
  generalize hH0 : s.heap = H at h ⊢
  have h : zH D A s [(m0, .inr (4, [.ref aI, .ref aB, .ref aO, .ref aR, .int (nI n), .int (nI nb), .int (nI nm), .int (nI cp), .int (nI frs), .int (nI dm), .int (nI th), .int (nI be), .int wh, .int (nI at_), .int (nI wr), .int (nI fi)])), (aI, .inl (cI, 65536, .inl (fI))), (aB, .inl (cB, 65536, .inl (fB))), (aO, .inl (cO, 67000, .inl (fO))), (aR, .inl (cR, 65536, .inl (fR)))] H [] := h
  generalize hL0 : ([] : List Loc) = locs at h ⊢
  refine lv_aload_n X.1.1 X.1.2.1 zd_Mo_longest_0 rfl (lv_at hl 0 rfl) ?_
  refine lv_iconst (v := nI 0) X.1.1 X.1.2.1 zd_Mo_longest_1 (by decide) ?_
  refine rP X h 0 rfl rfl zW_Mo zO_Mo zN_Mo 10 (by decide) zw_503 rfl (rfl) (rfl) (Nat.le_of_ble_eq_true rfl) zd_Mo_longest_2 (fun H locs h => ?_)
  have h : zH D A s [(m0, .inr (4, [.ref aI, .ref aB, .ref aO, .ref aR, .int (nI n), .int (nI nb), .int (nI nm), .int (nI cp), .int (nI frs), .int (nI dm), .int (nI 0), .int (nI be), .int wh, .int (nI at_), .int (nI wr), .int (nI fi)])), (aI, .inl (cI, 65536, .inl (fI))), (aB, .inl (cB, 65536, .inl (fB))), (aO, .inl (cO, 67000, .inl (fO))), (aR, .inl (cR, 65536, .inl (fR)))] H locs := h
  refine lv_iload_n X.1.1 X.1.2.1 zd_Mo_longest_5 rfl (lv_at hl 1 rfl) ?_
  refine lv_if_lt (tgt := 26) X.1.1 X.1.2.1 zd_Mo_longest_6 rfl (fun c1 => ?_) (fun c1 => ?_)
  · have c1 : x < 0 := zc_lt0_t (by omega) (by omega) c1
    exact absurd c1 (by omega)
  · have c1 : 0 ≤ x := zc_lt0_f (by omega) (by omega) c1
    refine lv_iload_n X.1.1 X.1.2.1 zd_Mo_longest_9 rfl (lv_at hl 1 rfl) ?_
    refine lv_aload_n X.1.1 X.1.2.1 zd_Mo_longest_10 rfl (lv_at hl 0 rfl) ?_
    refine rG X h 0 rfl rfl zW_Mo 4 (by decide) zw_497 rfl zd_Mo_longest_11 ?_
    refine lv_icmp_ge (tgt := 26) X.1.1 X.1.2.1 zd_Mo_longest_14 rfl (fun c2 => ?_) (fun c2 => ?_)
    · have c2 : n ≤ x := zc_ge_t (by omega) (by omega) c2
      exact absurd c2 (by omega)
    · have c2 : x < n := zc_ge_f (by omega) (by omega) c2
      refine lv_iload_n X.1.1 X.1.2.1 zd_Mo_longest_17 rfl (lv_at hl 2 rfl) ?_
      refine lv_if_lt (tgt := 26) X.1.1 X.1.2.1 zd_Mo_longest_18 rfl (fun c3 => ?_) (fun c3 => ?_)
      · have c3 : y < 0 := zc_lt0_t (by omega) (by omega) c3
        exact absurd c3 (by omega)
      · have c3 : 0 ≤ y := zc_lt0_f (by omega) (by omega) c3
        refine lv_iload_n X.1.1 X.1.2.1 zd_Mo_longest_21 rfl (lv_at hl 2 rfl) ?_
        refine lv_iconst (v := nI 1) X.1.1 X.1.2.1 zd_Mo_longest_22 (by decide) ?_
        refine lv_icmp_le (tgt := 32) X.1.1 X.1.2.1 zd_Mo_longest_23 rfl (fun c4 => ?_) (fun c4 => ?_)
        · have c4 : y ≤ 1 := zc_le_t (by omega) (by omega) c4
          refine lv_aload_n X.1.1 X.1.2.1 zd_Mo_longest_32 rfl (lv_at hl 0 rfl) ?_
          refine lv_iload_n X.1.1 X.1.2.1 zd_Mo_longest_33 rfl (lv_at hl 1 rfl) ?_
          refine rCv (wr := []) (wf := fun u => [(m0, .inr (4, [.ref aI, .ref aB, .ref aO, .ref aR, .int (nI n), .int (nI nb), .int (nI nm), .int (nI cp), .int (nI frs), .int (nI dm), .int (nI 0), .int (nI u.1), .int (u.2), .int (nI at_), .int (nI wr), .int (nI fi)])), (aI, .inl (cI, 65536, .inl (fI))), (aB, .inl (cB, 65536, .inl (fB))), (aO, .inl (cO, 67000, .inl (fO))), (aR, .inl (cR, 65536, .inl (fR)))]) (rest := []) X h hl.1 (zc_Mo_look l D (m0 := m0) (aI := aI) (aB := aB) (aO := aO) (aR := aR) (wh := wh) (n := n) (nb := nb) (nm := nm) (cp := cp) (frs := frs) (dm := dm) (th := 0) (be := be) (at_ := at_) (wr := wr) (fi := fi) (fI := fI) (cI := cI) (fB := fB) (cB := cB) (fO := fO) (cO := cO) (fR := fR) (cR := cR) (x := x) (by omega) (hn) (hnb) H.size) zw_578 zw_580 zs_20 zw_5 zm_Mo_look zq_Mo_look ⟨Nat.le_of_ble_eq_true rfl, Nat.le_of_ble_eq_true rfl⟩ ⟨Nat.le_of_ble_eq_true rfl, Nat.le_of_ble_eq_true rfl⟩ [0, 1, 2, 3] rfl [0, 1, 2, 3, 4] [] [0, 1, 2, 3, 4] rfl (by decide) rfl (by decide) (by decide) (fun _ => rfl) (by decide) 0 rfl rfl rfl (Nat.le_of_ble_eq_true rfl) zd_Mo_longest_34 (fun u H locs hp h => ?_)
          have q1 : ∃ P, lg_is fB nb fI x (min (n - x) 65535) u.1 P ∧ (0 < u.1 → u.2 = nI P) := hp
          have h : zH D A s [(m0, .inr (4, [.ref aI, .ref aB, .ref aO, .ref aR, .int (nI n), .int (nI nb), .int (nI nm), .int (nI cp), .int (nI frs), .int (nI dm), .int (nI 0), .int (nI u.1), .int (u.2), .int (nI at_), .int (nI wr), .int (nI fi)])), (aI, .inl (cI, 65536, .inl (fI))), (aB, .inl (cB, 65536, .inl (fB))), (aO, .inl (cO, 67000, .inl (fO))), (aR, .inl (cR, 65536, .inl (fR)))] H locs := h
          obtain ⟨L2, g2⟩ := u
          have h : zH D A s [(m0, .inr (4, [.ref aI, .ref aB, .ref aO, .ref aR, .int (nI n), .int (nI nb), .int (nI nm), .int (nI cp), .int (nI frs), .int (nI dm), .int (nI 0), .int (nI L2), .int g2, .int (nI at_), .int (nI wr), .int (nI fi)])), (aI, .inl (cI, 65536, .inl (fI))), (aB, .inl (cB, 65536, .inl (fB))), (aO, .inl (cO, 67000, .inl (fO))), (aR, .inl (cR, 65536, .inl (fR)))] H locs := h
          obtain ⟨P2, e1, e2⟩ := q1
          obtain ⟨e3, e4⟩ := lg_un hL e1
          have e3 : L = L2 := e3
          subst e3
          have h : zH D A s [(m0, .inr (4, [.ref aI, .ref aB, .ref aO, .ref aR, .int (nI n), .int (nI nb), .int (nI nm), .int (nI cp), .int (nI frs), .int (nI dm), .int (nI 0), .int (nI L), .int g2, .int (nI at_), .int (nI wr), .int (nI fi)])), (aI, .inl (cI, 65536, .inl (fI))), (aB, .inl (cB, 65536, .inl (fB))), (aO, .inl (cO, 67000, .inl (fO))), (aR, .inl (cR, 65536, .inl (fR)))] H locs := h
          have e2 : 0 < L → g2 = nI P2 := e2
          have hLm : L ≤ 65535 := Nat.le_trans e1.1 (Nat.min_le_right _ _)
          refine lv_aload_n X.1.1 X.1.2.1 zd_Mo_longest_37 rfl (lv_at hl 0 rfl) ?_
          refine rG X h 0 rfl rfl zW_Mo 11 (by decide) zw_504 rfl zd_Mo_longest_38 ?_
          refine lv_bipush (v := nI 8) X.1.1 X.1.2.1 zd_Mo_longest_41 (by decide) ?_
          refine lv_icmp_ge (tgt := 56) X.1.1 X.1.2.1 zd_Mo_longest_43 rfl (fun c5 => ?_) (fun c5 => ?_)
          · have c5 : 8 ≤ L := zc_ge_t (by omega) (by omega) c5
            have c7 : ¬ L < 8 := by omega
            refine lv_iload_n X.1.1 X.1.2.1 zd_Mo_longest_56 rfl (lv_at hl 2 rfl) ?_
            refine lv_if_ne (tgt := 67) X.1.1 X.1.2.1 zd_Mo_longest_57 rfl (fun c6 => ?_) (fun c6 => ?_)
            · have c6 : y ≠ 0 := zc_ne0_t (by omega) (by omega) c6
              refine lv_aload_n X.1.1 X.1.2.1 zd_Mo_longest_67 rfl (lv_at hl 0 rfl) ?_
              refine rG X h 0 rfl rfl zW_Mo 12 (by decide) zw_505 rfl zd_Mo_longest_68 ?_
              exact ret _ (L, g2) H locs ls _ (⟨by rw [if_neg c7, if_neg c6, e2 (by omega), e4 (by omega)], trivial⟩) h zd_Mo_longest_71
            · have c6 : y = 0 := zc_ne0_f (by omega) (by omega) c6
              refine lv_aload_n X.1.1 X.1.2.1 zd_Mo_longest_60 rfl (lv_at hl 0 rfl) ?_
              refine rG X h 0 rfl rfl zW_Mo 11 (by decide) zw_504 rfl zd_Mo_longest_61 ?_
              refine lv_goto (tgt := 71) X.1.1 X.1.2.1 zd_Mo_longest_64 rfl ?_
              exact ret _ (L, g2) H locs ls _ (⟨by rw [if_neg c7, if_pos c6], trivial⟩) h zd_Mo_longest_71
          · have c5 : L < 8 := zc_ge_f (by omega) (by omega) c5
            refine lv_iload_n X.1.1 X.1.2.1 zd_Mo_longest_46 rfl (lv_at hl 2 rfl) ?_
            refine lv_if_ne (tgt := 54) X.1.1 X.1.2.1 zd_Mo_longest_47 rfl (fun c6 => ?_) (fun c6 => ?_)
            · have c6 : y ≠ 0 := zc_ne0_t (by omega) (by omega) c6
              refine lv_iconst (v := (-1)) X.1.1 X.1.2.1 zd_Mo_longest_54 (by decide) ?_
              exact ret _ (L, g2) H locs ls _ (⟨by rw [if_pos c5, if_neg c6], trivial⟩) h zd_Mo_longest_55
            · have c6 : y = 0 := zc_ne0_f (by omega) (by omega) c6
              refine lv_iconst (v := nI 0) X.1.1 X.1.2.1 zd_Mo_longest_50 (by decide) ?_
              refine lv_goto (tgt := 55) X.1.1 X.1.2.1 zd_Mo_longest_51 rfl ?_
              exact ret _ (L, g2) H locs ls _ (⟨by rw [if_pos c5, if_pos c6], trivial⟩) h zd_Mo_longest_55
        · have c4 : 1 < y := zc_le_f (by omega) (by omega) c4
          exact absurd c4 (by omega)

set_option maxHeartbeats 4000000 in
set_option maxRecDepth 100000 in
theorem zc_Mo_longestN (l : Launch) (D : va_G) {m0 aI aB aO aR n nb nm cp frs dm th be at_ wr fi : Nat} {wh : Int32} {fI fB fO fR : Nat → Int32} {cI cB cO cR : ClassId} {x y : Int32} (hx : (∀ j, j < n → x ≠ nI j) ∨ (∀ j, j ≤ 1 → y ≠ nI j)) (hn : n ≤ 65536) (sz : Nat) : zMi l D zy_Mo_longest zb_Mo_longest 3 .int ({ frames := 1, cells := 0, slots := 0, locals := 23 } : Room) [.ref m0, .int x, .int y] [(cI, .byte), (cB, .byte), (cO, .byte), (cR, .byte)] [(m0, .inr (4, [.ref aI, .ref aB, .ref aO, .ref aR, .int (nI n), .int (nI nb), .int (nI nm), .int (nI cp), .int (nI frs), .int (nI dm), .int (nI th), .int (nI be), .int wh, .int (nI at_), .int (nI wr), .int (nI fi)])), (aI, .inl (cI, 65536, .inl (fI))), (aB, .inl (cB, 65536, .inl (fB))), (aO, .inl (cO, 67000, .inl (fO))), (aR, .inl (cR, 65536, .inl (fR)))] sz (fun (r : Int32) (u : Unit) => r = nI 0 ∧ True) (fun _ => [(m0, .inr (4, [.ref aI, .ref aB, .ref aO, .ref aR, .int (nI n), .int (nI nb), .int (nI nm), .int (nI cp), .int (nI frs), .int (nI dm), .int (nI 1), .int (nI be), .int wh, .int (nI at_), .int (nI wr), .int (nI fi)])), (aI, .inl (cI, 65536, .inl (fI))), (aB, .inl (cB, 65536, .inl (fB))), (aO, .inl (cO, 67000, .inl (fO))), (aR, .inl (cR, 65536, .inl (fR)))]) := by
  refine zEi (by decide) (Nat.le_of_ble_eq_true rfl) (fun p e s m args below meth c ls A Q X hl h hsz ret => ?_)
  have hl : lv_has ls 3 [(0, .ref m0), (1, .int x), (2, .int y)] := hl
  generalize hH0 : s.heap = H at h ⊢
  have h : zH D A s [(m0, .inr (4, [.ref aI, .ref aB, .ref aO, .ref aR, .int (nI n), .int (nI nb), .int (nI nm), .int (nI cp), .int (nI frs), .int (nI dm), .int (nI th), .int (nI be), .int wh, .int (nI at_), .int (nI wr), .int (nI fi)])), (aI, .inl (cI, 65536, .inl (fI))), (aB, .inl (cB, 65536, .inl (fB))), (aO, .inl (cO, 67000, .inl (fO))), (aR, .inl (cR, 65536, .inl (fR)))] H [] := h
  generalize hL0 : ([] : List Loc) = locs at h ⊢
  refine lv_aload_n X.1.1 X.1.2.1 zd_Mo_longest_0 rfl (lv_at hl 0 rfl) ?_
  refine lv_iconst (v := nI 0) X.1.1 X.1.2.1 zd_Mo_longest_1 (by decide) ?_
  refine rP X h 0 rfl rfl zW_Mo zO_Mo zN_Mo 10 (by decide) zw_503 rfl (rfl) (rfl) (Nat.le_of_ble_eq_true rfl) zd_Mo_longest_2 (fun H locs h => ?_)
  have h : zH D A s [(m0, .inr (4, [.ref aI, .ref aB, .ref aO, .ref aR, .int (nI n), .int (nI nb), .int (nI nm), .int (nI cp), .int (nI frs), .int (nI dm), .int (nI 0), .int (nI be), .int wh, .int (nI at_), .int (nI wr), .int (nI fi)])), (aI, .inl (cI, 65536, .inl (fI))), (aB, .inl (cB, 65536, .inl (fB))), (aO, .inl (cO, 67000, .inl (fO))), (aR, .inl (cR, 65536, .inl (fR)))] H locs := h
  refine lv_iload_n X.1.1 X.1.2.1 zd_Mo_longest_5 rfl (lv_at hl 1 rfl) ?_
  refine lv_if_lt (tgt := 26) X.1.1 X.1.2.1 zd_Mo_longest_6 rfl (fun c1 => ?_) (fun c1 => ?_)
  · refine lv_aload_n X.1.1 X.1.2.1 zd_Mo_longest_26 rfl (lv_at hl 0 rfl) ?_
    refine lv_iconst (v := nI 1) X.1.1 X.1.2.1 zd_Mo_longest_27 (by decide) ?_
    refine rCi (wr := []) (wf := fun _ => [(m0, .inr (4, [.ref aI, .ref aB, .ref aO, .ref aR, .int (nI n), .int (nI nb), .int (nI nm), .int (nI cp), .int (nI frs), .int (nI dm), .int (nI 1), .int (nI be), .int wh, .int (nI at_), .int (nI wr), .int (nI fi)])), (aI, .inl (cI, 65536, .inl (fI))), (aB, .inl (cB, 65536, .inl (fB))), (aO, .inl (cO, 67000, .inl (fO))), (aR, .inl (cR, 65536, .inl (fR)))]) (rest := []) X h hl.1 (zc_Mo_refuse l D (m0 := m0) (aI := aI) (aB := aB) (aO := aO) (aR := aR) (wh := wh) (n := n) (nb := nb) (nm := nm) (cp := cp) (frs := frs) (dm := dm) (th := 0) (be := be) (at_ := at_) (wr := wr) (fi := fi) (fI := fI) (cI := cI) (fB := fB) (cB := cB) (fO := fO) (cO := cO) (fR := fR) (cR := cR) (x := 1)  H.size) zw_550 zw_552 zs_17 zw_5 zm_Mo_refuse zq_Mo_refuse ⟨Nat.le_of_ble_eq_true rfl, Nat.le_of_ble_eq_true rfl⟩ ⟨Nat.le_of_ble_eq_true rfl, Nat.le_of_ble_eq_true rfl⟩ [0, 1, 2, 3] rfl [0, 1, 2, 3, 4] [] [0, 1, 2, 3, 4] rfl (by decide) rfl (by decide) (by decide) (fun _ => rfl) (by decide) 0 rfl rfl rfl (Nat.le_of_ble_eq_true rfl) zd_Mo_longest_28 (fun r _ H locs hp h => ?_)
    obtain ⟨rfl, -⟩ := hp
    have h : zH D A s [(m0, .inr (4, [.ref aI, .ref aB, .ref aO, .ref aR, .int (nI n), .int (nI nb), .int (nI nm), .int (nI cp), .int (nI frs), .int (nI dm), .int (nI 1), .int (nI be), .int wh, .int (nI at_), .int (nI wr), .int (nI fi)])), (aI, .inl (cI, 65536, .inl (fI))), (aB, .inl (cB, 65536, .inl (fB))), (aO, .inl (cO, 67000, .inl (fO))), (aR, .inl (cR, 65536, .inl (fR)))] H locs := h
    exact ret _ () H locs ls _ (⟨rfl, trivial⟩) h zd_Mo_longest_31
  · refine lv_iload_n X.1.1 X.1.2.1 zd_Mo_longest_9 rfl (lv_at hl 1 rfl) ?_
    refine lv_aload_n X.1.1 X.1.2.1 zd_Mo_longest_10 rfl (lv_at hl 0 rfl) ?_
    refine rG X h 0 rfl rfl zW_Mo 4 (by decide) zw_497 rfl zd_Mo_longest_11 ?_
    refine lv_icmp_ge (tgt := 26) X.1.1 X.1.2.1 zd_Mo_longest_14 rfl (fun c2 => ?_) (fun c2 => ?_)
    · refine lv_aload_n X.1.1 X.1.2.1 zd_Mo_longest_26 rfl (lv_at hl 0 rfl) ?_
      refine lv_iconst (v := nI 1) X.1.1 X.1.2.1 zd_Mo_longest_27 (by decide) ?_
      refine rCi (wr := []) (wf := fun _ => [(m0, .inr (4, [.ref aI, .ref aB, .ref aO, .ref aR, .int (nI n), .int (nI nb), .int (nI nm), .int (nI cp), .int (nI frs), .int (nI dm), .int (nI 1), .int (nI be), .int wh, .int (nI at_), .int (nI wr), .int (nI fi)])), (aI, .inl (cI, 65536, .inl (fI))), (aB, .inl (cB, 65536, .inl (fB))), (aO, .inl (cO, 67000, .inl (fO))), (aR, .inl (cR, 65536, .inl (fR)))]) (rest := []) X h hl.1 (zc_Mo_refuse l D (m0 := m0) (aI := aI) (aB := aB) (aO := aO) (aR := aR) (wh := wh) (n := n) (nb := nb) (nm := nm) (cp := cp) (frs := frs) (dm := dm) (th := 0) (be := be) (at_ := at_) (wr := wr) (fi := fi) (fI := fI) (cI := cI) (fB := fB) (cB := cB) (fO := fO) (cO := cO) (fR := fR) (cR := cR) (x := 1)  H.size) zw_550 zw_552 zs_17 zw_5 zm_Mo_refuse zq_Mo_refuse ⟨Nat.le_of_ble_eq_true rfl, Nat.le_of_ble_eq_true rfl⟩ ⟨Nat.le_of_ble_eq_true rfl, Nat.le_of_ble_eq_true rfl⟩ [0, 1, 2, 3] rfl [0, 1, 2, 3, 4] [] [0, 1, 2, 3, 4] rfl (by decide) rfl (by decide) (by decide) (fun _ => rfl) (by decide) 0 rfl rfl rfl (Nat.le_of_ble_eq_true rfl) zd_Mo_longest_28 (fun r _ H locs hp h => ?_)
      obtain ⟨rfl, -⟩ := hp
      have h : zH D A s [(m0, .inr (4, [.ref aI, .ref aB, .ref aO, .ref aR, .int (nI n), .int (nI nb), .int (nI nm), .int (nI cp), .int (nI frs), .int (nI dm), .int (nI 1), .int (nI be), .int wh, .int (nI at_), .int (nI wr), .int (nI fi)])), (aI, .inl (cI, 65536, .inl (fI))), (aB, .inl (cB, 65536, .inl (fB))), (aO, .inl (cO, 67000, .inl (fO))), (aR, .inl (cR, 65536, .inl (fR)))] H locs := h
      exact ret _ () H locs ls _ (⟨rfl, trivial⟩) h zd_Mo_longest_31
    · refine lv_iload_n X.1.1 X.1.2.1 zd_Mo_longest_17 rfl (lv_at hl 2 rfl) ?_
      refine lv_if_lt (tgt := 26) X.1.1 X.1.2.1 zd_Mo_longest_18 rfl (fun c3 => ?_) (fun c3 => ?_)
      · refine lv_aload_n X.1.1 X.1.2.1 zd_Mo_longest_26 rfl (lv_at hl 0 rfl) ?_
        refine lv_iconst (v := nI 1) X.1.1 X.1.2.1 zd_Mo_longest_27 (by decide) ?_
        refine rCi (wr := []) (wf := fun _ => [(m0, .inr (4, [.ref aI, .ref aB, .ref aO, .ref aR, .int (nI n), .int (nI nb), .int (nI nm), .int (nI cp), .int (nI frs), .int (nI dm), .int (nI 1), .int (nI be), .int wh, .int (nI at_), .int (nI wr), .int (nI fi)])), (aI, .inl (cI, 65536, .inl (fI))), (aB, .inl (cB, 65536, .inl (fB))), (aO, .inl (cO, 67000, .inl (fO))), (aR, .inl (cR, 65536, .inl (fR)))]) (rest := []) X h hl.1 (zc_Mo_refuse l D (m0 := m0) (aI := aI) (aB := aB) (aO := aO) (aR := aR) (wh := wh) (n := n) (nb := nb) (nm := nm) (cp := cp) (frs := frs) (dm := dm) (th := 0) (be := be) (at_ := at_) (wr := wr) (fi := fi) (fI := fI) (cI := cI) (fB := fB) (cB := cB) (fO := fO) (cO := cO) (fR := fR) (cR := cR) (x := 1)  H.size) zw_550 zw_552 zs_17 zw_5 zm_Mo_refuse zq_Mo_refuse ⟨Nat.le_of_ble_eq_true rfl, Nat.le_of_ble_eq_true rfl⟩ ⟨Nat.le_of_ble_eq_true rfl, Nat.le_of_ble_eq_true rfl⟩ [0, 1, 2, 3] rfl [0, 1, 2, 3, 4] [] [0, 1, 2, 3, 4] rfl (by decide) rfl (by decide) (by decide) (fun _ => rfl) (by decide) 0 rfl rfl rfl (Nat.le_of_ble_eq_true rfl) zd_Mo_longest_28 (fun r _ H locs hp h => ?_)
        obtain ⟨rfl, -⟩ := hp
        have h : zH D A s [(m0, .inr (4, [.ref aI, .ref aB, .ref aO, .ref aR, .int (nI n), .int (nI nb), .int (nI nm), .int (nI cp), .int (nI frs), .int (nI dm), .int (nI 1), .int (nI be), .int wh, .int (nI at_), .int (nI wr), .int (nI fi)])), (aI, .inl (cI, 65536, .inl (fI))), (aB, .inl (cB, 65536, .inl (fB))), (aO, .inl (cO, 67000, .inl (fO))), (aR, .inl (cR, 65536, .inl (fR)))] H locs := h
        exact ret _ () H locs ls _ (⟨rfl, trivial⟩) h zd_Mo_longest_31
      · refine lv_iload_n X.1.1 X.1.2.1 zd_Mo_longest_21 rfl (lv_at hl 2 rfl) ?_
        refine lv_iconst (v := nI 1) X.1.1 X.1.2.1 zd_Mo_longest_22 (by decide) ?_
        refine lv_icmp_le (tgt := 32) X.1.1 X.1.2.1 zd_Mo_longest_23 rfl (fun c4 => ?_) (fun c4 => ?_)
        · exfalso
          rcases hx with hx | hx
          · rcases pk_ix x (n := n) (by omega) with q | q | ⟨j, e1, e2⟩
            · exact c1 q
            · exact c2 q
            · exact hx j e1 e2
          · obtain ⟨j, e1, e2⟩ := nI_of2 (M := nI 1) (n := 1) (by decide) c3 c4
            exact hx j e1 e2
        · refine lv_aload_n X.1.1 X.1.2.1 zd_Mo_longest_26 rfl (lv_at hl 0 rfl) ?_
          refine lv_iconst (v := nI 1) X.1.1 X.1.2.1 zd_Mo_longest_27 (by decide) ?_
          refine rCi (wr := []) (wf := fun _ => [(m0, .inr (4, [.ref aI, .ref aB, .ref aO, .ref aR, .int (nI n), .int (nI nb), .int (nI nm), .int (nI cp), .int (nI frs), .int (nI dm), .int (nI 1), .int (nI be), .int wh, .int (nI at_), .int (nI wr), .int (nI fi)])), (aI, .inl (cI, 65536, .inl (fI))), (aB, .inl (cB, 65536, .inl (fB))), (aO, .inl (cO, 67000, .inl (fO))), (aR, .inl (cR, 65536, .inl (fR)))]) (rest := []) X h hl.1 (zc_Mo_refuse l D (m0 := m0) (aI := aI) (aB := aB) (aO := aO) (aR := aR) (wh := wh) (n := n) (nb := nb) (nm := nm) (cp := cp) (frs := frs) (dm := dm) (th := 0) (be := be) (at_ := at_) (wr := wr) (fi := fi) (fI := fI) (cI := cI) (fB := fB) (cB := cB) (fO := fO) (cO := cO) (fR := fR) (cR := cR) (x := 1)  H.size) zw_550 zw_552 zs_17 zw_5 zm_Mo_refuse zq_Mo_refuse ⟨Nat.le_of_ble_eq_true rfl, Nat.le_of_ble_eq_true rfl⟩ ⟨Nat.le_of_ble_eq_true rfl, Nat.le_of_ble_eq_true rfl⟩ [0, 1, 2, 3] rfl [0, 1, 2, 3, 4] [] [0, 1, 2, 3, 4] rfl (by decide) rfl (by decide) (by decide) (fun _ => rfl) (by decide) 0 rfl rfl rfl (Nat.le_of_ble_eq_true rfl) zd_Mo_longest_28 (fun r _ H locs hp h => ?_)
          obtain ⟨rfl, -⟩ := hp
          have h : zH D A s [(m0, .inr (4, [.ref aI, .ref aB, .ref aO, .ref aR, .int (nI n), .int (nI nb), .int (nI nm), .int (nI cp), .int (nI frs), .int (nI dm), .int (nI 1), .int (nI be), .int wh, .int (nI at_), .int (nI wr), .int (nI fi)])), (aI, .inl (cI, 65536, .inl (fI))), (aB, .inl (cB, 65536, .inl (fB))), (aO, .inl (cO, 67000, .inl (fO))), (aR, .inl (cR, 65536, .inl (fR)))] H locs := h
          exact ret _ () H locs ls _ (⟨rfl, trivial⟩) h zd_Mo_longest_31

set_option maxHeartbeats 4000000 in
set_option maxRecDepth 100000 in
theorem zc_Mo_count (l : Launch) (D : va_G) {m0 aI aB aO aR n nb nm cp frs dm th be at_ wr fi : Nat} {wh : Int32} {fI fB fO fR : Nat → Int32} {cI cB cO cR : ClassId} {x : Int32}  (sz : Nat) : zMi l D zy_Mo_count zb_Mo_count 2 .int ({ frames := 0, cells := 0, slots := 0, locals := 0 } : Room) [.ref m0, .int x] [(cI, .byte), (cB, .byte), (cO, .byte), (cR, .byte)] [(m0, .inr (4, [.ref aI, .ref aB, .ref aO, .ref aR, .int (nI n), .int (nI nb), .int (nI nm), .int (nI cp), .int (nI frs), .int (nI dm), .int (nI th), .int (nI be), .int wh, .int (nI at_), .int (nI wr), .int (nI fi)])), (aI, .inl (cI, 65536, .inl (fI))), (aB, .inl (cB, 65536, .inl (fB))), (aO, .inl (cO, 67000, .inl (fO))), (aR, .inl (cR, 65536, .inl (fR)))] sz (fun (r : Int32) (u : Unit) => r = ctV x n nb nm cp frs dm ∧ True) (fun _ => [(m0, .inr (4, [.ref aI, .ref aB, .ref aO, .ref aR, .int (nI n), .int (nI nb), .int (nI nm), .int (nI cp), .int (nI frs), .int (nI dm), .int (nI 0), .int (nI be), .int wh, .int (nI at_), .int (nI wr), .int (nI fi)])), (aI, .inl (cI, 65536, .inl (fI))), (aB, .inl (cB, 65536, .inl (fB))), (aO, .inl (cO, 67000, .inl (fO))), (aR, .inl (cR, 65536, .inl (fR)))]) := by
  refine zEi (by decide) (Nat.le_of_ble_eq_true rfl) (fun p e s m args below meth c ls A Q X hl h hsz ret => ?_)
  have hl : lv_has ls 2 [(0, .ref m0), (1, .int x)] := hl
  generalize hH0 : s.heap = H at h ⊢
  have h : zH D A s [(m0, .inr (4, [.ref aI, .ref aB, .ref aO, .ref aR, .int (nI n), .int (nI nb), .int (nI nm), .int (nI cp), .int (nI frs), .int (nI dm), .int (nI th), .int (nI be), .int wh, .int (nI at_), .int (nI wr), .int (nI fi)])), (aI, .inl (cI, 65536, .inl (fI))), (aB, .inl (cB, 65536, .inl (fB))), (aO, .inl (cO, 67000, .inl (fO))), (aR, .inl (cR, 65536, .inl (fR)))] H [] := h
  generalize hL0 : ([] : List Loc) = locs at h ⊢
  refine lv_aload_n X.1.1 X.1.2.1 zd_Mo_count_0 rfl (lv_at hl 0 rfl) ?_
  refine lv_iconst (v := nI 0) X.1.1 X.1.2.1 zd_Mo_count_1 (by decide) ?_
  refine rP X h 0 rfl rfl zW_Mo zO_Mo zN_Mo 10 (by decide) zw_503 rfl (rfl) (rfl) (Nat.le_of_ble_eq_true rfl) zd_Mo_count_2 (fun H locs h => ?_)
  have h : zH D A s [(m0, .inr (4, [.ref aI, .ref aB, .ref aO, .ref aR, .int (nI n), .int (nI nb), .int (nI nm), .int (nI cp), .int (nI frs), .int (nI dm), .int (nI 0), .int (nI be), .int wh, .int (nI at_), .int (nI wr), .int (nI fi)])), (aI, .inl (cI, 65536, .inl (fI))), (aB, .inl (cB, 65536, .inl (fB))), (aO, .inl (cO, 67000, .inl (fO))), (aR, .inl (cR, 65536, .inl (fR)))] H locs := h
  refine lv_iload_n X.1.1 X.1.2.1 zd_Mo_count_5 rfl (lv_at hl 1 rfl) ?_
  rcases sw_in (x := x) (m := 5) (by decide) with ⟨j, hj, hx⟩ | hx
  · rcases (show j = 0 ∨ j = 1 ∨ j = 2 ∨ j = 3 ∨ j = 4 ∨ j = 5 by omega) with rfl | rfl | rfl | rfl | rfl | rfl
    · subst hx
      refine lv_tableIn (tgt := 44) (off := 38) X.1.1 X.1.2.1 zd_Mo_count_6 (by decide) (by decide) (by decide) rfl ?_
      refine lv_aload_n X.1.1 X.1.2.1 zd_Mo_count_44 rfl (lv_at hl 0 rfl) ?_
      refine rG X h 0 rfl rfl zW_Mo 4 (by decide) zw_497 rfl zd_Mo_count_45 ?_
      exact ret _ () H locs ls _ (⟨by unfold ctV; rw [if_pos (by decide)], trivial⟩) h zd_Mo_count_48
    · subst hx
      refine lv_tableIn (tgt := 49) (off := 43) X.1.1 X.1.2.1 zd_Mo_count_6 (by decide) (by decide) (by decide) rfl ?_
      refine lv_aload_n X.1.1 X.1.2.1 zd_Mo_count_49 rfl (lv_at hl 0 rfl) ?_
      refine rG X h 0 rfl rfl zW_Mo 5 (by decide) zw_498 rfl zd_Mo_count_50 ?_
      exact ret _ () H locs ls _ (⟨by unfold ctV; rw [if_neg (by decide), if_pos (by decide)], trivial⟩) h zd_Mo_count_53
    · subst hx
      refine lv_tableIn (tgt := 54) (off := 48) X.1.1 X.1.2.1 zd_Mo_count_6 (by decide) (by decide) (by decide) rfl ?_
      refine lv_aload_n X.1.1 X.1.2.1 zd_Mo_count_54 rfl (lv_at hl 0 rfl) ?_
      refine rG X h 0 rfl rfl zW_Mo 6 (by decide) zw_499 rfl zd_Mo_count_55 ?_
      exact ret _ () H locs ls _ (⟨by unfold ctV; rw [if_neg (by decide), if_neg (by decide), if_pos (by decide)], trivial⟩) h zd_Mo_count_58
    · subst hx
      refine lv_tableIn (tgt := 59) (off := 53) X.1.1 X.1.2.1 zd_Mo_count_6 (by decide) (by decide) (by decide) rfl ?_
      refine lv_aload_n X.1.1 X.1.2.1 zd_Mo_count_59 rfl (lv_at hl 0 rfl) ?_
      refine rG X h 0 rfl rfl zW_Mo 7 (by decide) zw_500 rfl zd_Mo_count_60 ?_
      exact ret _ () H locs ls _ (⟨by unfold ctV; rw [if_neg (by decide), if_neg (by decide), if_neg (by decide), if_pos (by decide)], trivial⟩) h zd_Mo_count_63
    · subst hx
      refine lv_tableIn (tgt := 64) (off := 58) X.1.1 X.1.2.1 zd_Mo_count_6 (by decide) (by decide) (by decide) rfl ?_
      refine lv_aload_n X.1.1 X.1.2.1 zd_Mo_count_64 rfl (lv_at hl 0 rfl) ?_
      refine rG X h 0 rfl rfl zW_Mo 8 (by decide) zw_501 rfl zd_Mo_count_65 ?_
      exact ret _ () H locs ls _ (⟨by unfold ctV; rw [if_neg (by decide), if_neg (by decide), if_neg (by decide), if_neg (by decide), if_pos (by decide)], trivial⟩) h zd_Mo_count_68
    · subst hx
      refine lv_tableIn (tgt := 69) (off := 63) X.1.1 X.1.2.1 zd_Mo_count_6 (by decide) (by decide) (by decide) rfl ?_
      refine lv_aload_n X.1.1 X.1.2.1 zd_Mo_count_69 rfl (lv_at hl 0 rfl) ?_
      refine rG X h 0 rfl rfl zW_Mo 9 (by decide) zw_502 rfl zd_Mo_count_70 ?_
      exact ret _ () H locs ls _ (⟨by unfold ctV; rw [if_neg (by decide), if_neg (by decide), if_neg (by decide), if_neg (by decide), if_neg (by decide), if_pos (by decide)], trivial⟩) h zd_Mo_count_73
  · refine lv_tableOut (tgt := 74) X.1.1 X.1.2.1 zd_Mo_count_6 (sw_out (by decide) hx) rfl ?_
    have hx2 : ∀ j, j ≤ 5 → x ≠ nI j := hx
    refine lv_iconst (v := (-1)) X.1.1 X.1.2.1 zd_Mo_count_74 (by decide) ?_
    exact ret _ () H locs ls _ (⟨by unfold ctV; rw [if_neg (show ¬ x = 0 from hx2 0 (by decide)), if_neg (show ¬ x = 1 from hx2 1 (by decide)), if_neg (show ¬ x = 2 from hx2 2 (by decide)), if_neg (show ¬ x = 3 from hx2 3 (by decide)), if_neg (show ¬ x = 4 from hx2 4 (by decide)), if_neg (show ¬ x = 5 from hx2 5 (by decide))], trivial⟩) h zd_Mo_count_75

set_option maxHeartbeats 4000000 in
set_option maxRecDepth 100000 in
theorem zc_Mo_make (l : Launch) (D : va_G) {m0 aI aB aO aR n nb nm cp frs dm th be at_ wr fi : Nat} {wh : Int32} {fI fB fO fR : Nat → Int32} {cI cB cO cR : ClassId} (hf : sb_Fit fO) (hfI : sb_Fit fI) (hn : n ≤ 65536) (hnb : nb ≤ 65536) (sz : Nat) : zMi l D zy_Mo_make zb_Mo_make 3 .int ({ frames := 2, cells := 0, slots := 0, locals := 46 } : Room) [.ref m0] [(cI, .byte), (cB, .byte), (cO, .byte), (cR, .byte)] [(m0, .inr (4, [.ref aI, .ref aB, .ref aO, .ref aR, .int (nI n), .int (nI nb), .int (nI nm), .int (nI cp), .int (nI frs), .int (nI dm), .int (nI th), .int (nI be), .int wh, .int (nI at_), .int (nI wr), .int (nI fi)])), (aI, .inl (cI, 65536, .inl (fI))), (aB, .inl (cB, 65536, .inl (fB))), (aO, .inl (cO, 67000, .inl (fO))), (aR, .inl (cR, 65536, .inl (fR)))] sz (fun (r : Int32) (u : Nat × Int32 × (Nat → Int32)) => r = nI ((mkA (tx fB nb) (tx fI n)).1.length) ∧ tx u.2.2 (mkA (tx fB nb) (tx fI n)).1.length = (mkA (tx fB nb) (tx fI n)).1 ∧ sb_Fit u.2.2 ∧ (mkA (tx fB nb) (tx fI n)).1.length ≤ 66059) (fun u => [(m0, .inr (4, [.ref aI, .ref aB, .ref aO, .ref aR, .int (nI n), .int (nI nb), .int (nI ((mkA (tx fB nb) (tx fI n)).1.length)), .int (nI ((mkA (tx fB nb) (tx fI n)).2.1)), .int (nI ((mkA (tx fB nb) (tx fI n)).2.2)), .int (nI dm), .int (nI 0), .int (nI u.1), .int (u.2.1), .int (nI at_), .int (nI wr), .int (nI fi)])), (aI, .inl (cI, 65536, .inl (fI))), (aB, .inl (cB, 65536, .inl (fB))), (aO, .inl (cO, 67000, .inl (u.2.2))), (aR, .inl (cR, 65536, .inl (fR)))]) := by
  refine zEi (by decide) (Nat.le_of_ble_eq_true rfl) (fun p e s m args below meth c ls A Q X hl h hsz ret => ?_)
  have hl : lv_has ls 3 [(0, .ref m0)] := hl
  generalize hH0 : s.heap = H at h ⊢
  have h : zH D A s [(m0, .inr (4, [.ref aI, .ref aB, .ref aO, .ref aR, .int (nI n), .int (nI nb), .int (nI nm), .int (nI cp), .int (nI frs), .int (nI dm), .int (nI th), .int (nI be), .int wh, .int (nI at_), .int (nI wr), .int (nI fi)])), (aI, .inl (cI, 65536, .inl (fI))), (aB, .inl (cB, 65536, .inl (fB))), (aO, .inl (cO, 67000, .inl (fO))), (aR, .inl (cR, 65536, .inl (fR)))] H [] := h
  generalize hL0 : ([] : List Loc) = locs at h ⊢
  have hb1 := nb_len hnb
  have hb2 := nb_len hn
  refine lv_aload_n X.1.1 X.1.2.1 zd_Mo_make_0 rfl (lv_at hl 0 rfl) ?_
  refine lv_iconst (v := nI 0) X.1.1 X.1.2.1 zd_Mo_make_1 (by decide) ?_
  refine rP X h 0 rfl rfl zW_Mo zO_Mo zN_Mo 10 (by decide) zw_503 rfl (rfl) (rfl) (Nat.le_of_ble_eq_true rfl) zd_Mo_make_2 (fun H locs h => ?_)
  have h : zH D A s [(m0, .inr (4, [.ref aI, .ref aB, .ref aO, .ref aR, .int (nI n), .int (nI nb), .int (nI nm), .int (nI cp), .int (nI frs), .int (nI dm), .int (nI 0), .int (nI be), .int wh, .int (nI at_), .int (nI wr), .int (nI fi)])), (aI, .inl (cI, 65536, .inl (fI))), (aB, .inl (cB, 65536, .inl (fB))), (aO, .inl (cO, 67000, .inl (fO))), (aR, .inl (cR, 65536, .inl (fR)))] H locs := h
  refine lv_aload_n X.1.1 X.1.2.1 zd_Mo_make_5 rfl (lv_at hl 0 rfl) ?_
  refine lv_iconst (v := nI 0) X.1.1 X.1.2.1 zd_Mo_make_6 (by decide) ?_
  refine rP X h 0 rfl rfl zW_Mo zO_Mo zN_Mo 6 (by decide) zw_499 rfl (rfl) (rfl) (Nat.le_of_ble_eq_true rfl) zd_Mo_make_7 (fun H locs h => ?_)
  have h : zH D A s [(m0, .inr (4, [.ref aI, .ref aB, .ref aO, .ref aR, .int (nI n), .int (nI nb), .int (nI 0), .int (nI cp), .int (nI frs), .int (nI dm), .int (nI 0), .int (nI be), .int wh, .int (nI at_), .int (nI wr), .int (nI fi)])), (aI, .inl (cI, 65536, .inl (fI))), (aB, .inl (cB, 65536, .inl (fB))), (aO, .inl (cO, 67000, .inl (fO))), (aR, .inl (cR, 65536, .inl (fR)))] H locs := h
  refine lv_aload_n X.1.1 X.1.2.1 zd_Mo_make_10 rfl (lv_at hl 0 rfl) ?_
  refine lv_iconst (v := nI 0) X.1.1 X.1.2.1 zd_Mo_make_11 (by decide) ?_
  refine rP X h 0 rfl rfl zW_Mo zO_Mo zN_Mo 7 (by decide) zw_500 rfl (rfl) (rfl) (Nat.le_of_ble_eq_true rfl) zd_Mo_make_12 (fun H locs h => ?_)
  have h : zH D A s [(m0, .inr (4, [.ref aI, .ref aB, .ref aO, .ref aR, .int (nI n), .int (nI nb), .int (nI 0), .int (nI 0), .int (nI frs), .int (nI dm), .int (nI 0), .int (nI be), .int wh, .int (nI at_), .int (nI wr), .int (nI fi)])), (aI, .inl (cI, 65536, .inl (fI))), (aB, .inl (cB, 65536, .inl (fB))), (aO, .inl (cO, 67000, .inl (fO))), (aR, .inl (cR, 65536, .inl (fR)))] H locs := h
  refine lv_aload_n X.1.1 X.1.2.1 zd_Mo_make_15 rfl (lv_at hl 0 rfl) ?_
  refine lv_iconst (v := nI 0) X.1.1 X.1.2.1 zd_Mo_make_16 (by decide) ?_
  refine rP X h 0 rfl rfl zW_Mo zO_Mo zN_Mo 8 (by decide) zw_501 rfl (rfl) (rfl) (Nat.le_of_ble_eq_true rfl) zd_Mo_make_17 (fun H locs h => ?_)
  have h : zH D A s [(m0, .inr (4, [.ref aI, .ref aB, .ref aO, .ref aR, .int (nI n), .int (nI nb), .int (nI 0), .int (nI 0), .int (nI 0), .int (nI dm), .int (nI 0), .int (nI be), .int wh, .int (nI at_), .int (nI wr), .int (nI fi)])), (aI, .inl (cI, 65536, .inl (fI))), (aB, .inl (cB, 65536, .inl (fB))), (aO, .inl (cO, 67000, .inl (fO))), (aR, .inl (cR, 65536, .inl (fR)))] H locs := h
  refine lv_aload_n X.1.1 X.1.2.1 zd_Mo_make_20 rfl (lv_at hl 0 rfl) ?_
  refine lv_aload_n X.1.1 X.1.2.1 zd_Mo_make_21 rfl (lv_at hl 0 rfl) ?_
  refine rG X h 0 rfl rfl zW_Mo 5 (by decide) zw_498 rfl zd_Mo_make_22 ?_
  refine rCv (wr := []) (wf := fun g1 => [(m0, .inr (4, [.ref aI, .ref aB, .ref aO, .ref aR, .int (nI n), .int (nI nb), .int (nI (0 + (numB 4 nb).length)), .int (nI 0), .int (nI 0), .int (nI dm), .int (nI 0), .int (nI be), .int wh, .int (nI at_), .int (nI wr), .int (nI fi)])), (aI, .inl (cI, 65536, .inl (fI))), (aB, .inl (cB, 65536, .inl (fB))), (aO, .inl (cO, 67000, .inl (g1))), (aR, .inl (cR, 65536, .inl (fR)))]) (rest := []) X h hl.1 (zc_Mo_putNumber l D (m0 := m0) (aI := aI) (aB := aB) (aO := aO) (aR := aR) (wh := wh) (n := n) (nb := nb) (nm := 0) (cp := 0) (frs := 0) (dm := dm) (th := 0) (be := be) (at_ := at_) (wr := wr) (fi := fi) (fI := fI) (cI := cI) (fB := fB) (cB := cB) (fO := fO) (cO := cO) (fR := fR) (cR := cR) (v := nb) (hf) (by omega) (by omega) H.size) zw_570 zw_572 zs_18 zw_5 zm_Mo_putNumber zq_Mo_putNumber ⟨Nat.le_of_ble_eq_true rfl, Nat.le_of_ble_eq_true rfl⟩ ⟨Nat.le_of_ble_eq_true rfl, Nat.le_of_ble_eq_true rfl⟩ [0, 1, 2, 3] rfl [0, 1, 2, 3, 4] [] [0, 1, 2, 3, 4] rfl (by decide) rfl (by decide) (by decide) (fun _ => rfl) (by decide) 0 rfl rfl rfl (Nat.le_of_ble_eq_true rfl) zd_Mo_make_25 (fun g1 H locs hp h => ?_)
  have q1 : tx g1 (0 + (numB 4 nb).length) = tx fO 0 ++ numB 4 nb ∧ sb_Fit g1 := hp
  have h : zH D A s [(m0, .inr (4, [.ref aI, .ref aB, .ref aO, .ref aR, .int (nI n), .int (nI nb), .int (nI (0 + (numB 4 nb).length)), .int (nI 0), .int (nI 0), .int (nI dm), .int (nI 0), .int (nI be), .int wh, .int (nI at_), .int (nI wr), .int (nI fi)])), (aI, .inl (cI, 65536, .inl (fI))), (aB, .inl (cB, 65536, .inl (fB))), (aO, .inl (cO, 67000, .inl (g1))), (aR, .inl (cR, 65536, .inl (fR)))] H locs := h
  refine lv_aload_n X.1.1 X.1.2.1 zd_Mo_make_28 rfl (lv_at hl 0 rfl) ?_
  refine lv_aload_n X.1.1 X.1.2.1 zd_Mo_make_29 rfl (lv_at hl 0 rfl) ?_
  refine rG X h 0 rfl rfl zW_Mo 4 (by decide) zw_497 rfl zd_Mo_make_30 ?_
  refine rCv (wr := []) (wf := fun g2 => [(m0, .inr (4, [.ref aI, .ref aB, .ref aO, .ref aR, .int (nI n), .int (nI nb), .int (nI (0 + (numB 4 nb).length + (numB 4 n).length)), .int (nI 0), .int (nI 0), .int (nI dm), .int (nI 0), .int (nI be), .int wh, .int (nI at_), .int (nI wr), .int (nI fi)])), (aI, .inl (cI, 65536, .inl (fI))), (aB, .inl (cB, 65536, .inl (fB))), (aO, .inl (cO, 67000, .inl (g2))), (aR, .inl (cR, 65536, .inl (fR)))]) (rest := []) X h hl.1 (zc_Mo_putNumber l D (m0 := m0) (aI := aI) (aB := aB) (aO := aO) (aR := aR) (wh := wh) (n := n) (nb := nb) (nm := 0 + (numB 4 nb).length) (cp := 0) (frs := 0) (dm := dm) (th := 0) (be := be) (at_ := at_) (wr := wr) (fi := fi) (fI := fI) (cI := cI) (fB := fB) (cB := cB) (fO := g1) (cO := cO) (fR := fR) (cR := cR) (v := n) (q1.2) (by omega) (by omega) H.size) zw_570 zw_572 zs_18 zw_5 zm_Mo_putNumber zq_Mo_putNumber ⟨Nat.le_of_ble_eq_true rfl, Nat.le_of_ble_eq_true rfl⟩ ⟨Nat.le_of_ble_eq_true rfl, Nat.le_of_ble_eq_true rfl⟩ [0, 1, 2, 3] rfl [0, 1, 2, 3, 4] [] [0, 1, 2, 3, 4] rfl (by decide) rfl (by decide) (by decide) (fun _ => rfl) (by decide) 0 rfl rfl rfl (Nat.le_of_ble_eq_true rfl) zd_Mo_make_33 (fun g2 H locs hp h => ?_)
  have q2 : tx g2 (0 + (numB 4 nb).length + (numB 4 n).length) = tx g1 (0 + (numB 4 nb).length) ++ numB 4 n ∧ sb_Fit g2 := hp
  have h : zH D A s [(m0, .inr (4, [.ref aI, .ref aB, .ref aO, .ref aR, .int (nI n), .int (nI nb), .int (nI (0 + (numB 4 nb).length + (numB 4 n).length)), .int (nI 0), .int (nI 0), .int (nI dm), .int (nI 0), .int (nI be), .int wh, .int (nI at_), .int (nI wr), .int (nI fi)])), (aI, .inl (cI, 65536, .inl (fI))), (aB, .inl (cB, 65536, .inl (fB))), (aO, .inl (cO, 67000, .inl (g2))), (aR, .inl (cR, 65536, .inl (fR)))] H locs := h
  have hA : mkA (tx fB nb) (tx fI n) = mkC (tx fB nb) (tx fI n) (n + 1) 0 0 (tx g2 (0 + (numB 4 nb).length + (numB 4 n).length)) 0 0 := by
    unfold mkA
    rw [tx_len, tx_len, q2.1, q1.1, tx_0, List.nil_append]
  refine lv_iconst (v := nI 0) X.1.1 X.1.2.1 zd_Mo_make_36 (by decide) ?_
  refine lv_istore_n X.1.1 X.1.2.1 zd_Mo_make_37 rfl hl (by decide) rfl (fun ls hl => ?_)
  have hl : lv_has ls 3 [(1, .int (nI 0)), (0, .ref m0)] := hl
  refine lv_iconst (v := nI 0) X.1.1 X.1.2.1 zd_Mo_make_38 (by decide) ?_
  refine lv_istore_n X.1.1 X.1.2.1 zd_Mo_make_39 rfl hl (by decide) rfl (fun ls hl => ?_)
  have hl : lv_has ls 3 [(2, .int (nI 0)), (1, .int (nI 0)), (0, .ref m0)] := hl
  have loop : ∀ (fu : Nat) (q : Nat) (i : Nat) (fr : Nat) (nm1 : Nat) (c1 : Nat) (f1 : Nat) (be1 : Nat) (wh1 : Int32) (g : Nat → Int32) (ls : Array Slot) (H : Heap) (locs : List Loc), n - i < fu → i ≤ n → fr ≤ i → n < i + q → mkA (tx fB nb) (tx fI n) = mkC (tx fB nb) (tx fI n) q i fr (tx g nm1) c1 f1 → nm1 ≤ 6 + fr + fr / 127 → sb_Fit g → lv_has ls 3 [(0, .ref m0), (1, .int (nI i)), (2, .int (nI fr))] → zH D A s [(m0, .inr (4, [.ref aI, .ref aB, .ref aO, .ref aR, .int (nI n), .int (nI nb), .int (nI nm1), .int (nI c1), .int (nI f1), .int (nI dm), .int (nI 0), .int (nI be1), .int wh1, .int (nI at_), .int (nI wr), .int (nI fi)])), (aI, .inl (cI, 65536, .inl (fI))), (aB, .inl (cB, 65536, .inl (fB))), (aO, .inl (cO, 67000, .inl (g))), (aR, .inl (cR, 65536, .inl (fR)))] H locs → W p l e ({ frames := 2, cells := 0, slots := 0, locals := 46 } : Room) s m args below meth c H locs 0 0 Q (F0 m 40 ls []) := by
    intro fu
    induction fu with
    | zero => intro q i fr nm1 c1 f1 be1 wh1 g ls H locs hfu; exact absurd hfu (Nat.not_lt_zero _)
    | succ fu ih =>
      intro q i fr nm1 c1 f1 be1 wh1 g ls H locs hfu hi hfr hq he hz hg hl h
      obtain ⟨q, rfl⟩ : ∃ q1, q = q1 + 1 := ⟨q - 1, by omega⟩
      refine lv_iload_n X.1.1 X.1.2.1 zd_Mo_make_40 rfl (lv_at hl 1 rfl) ?_
      refine lv_aload_n X.1.1 X.1.2.1 zd_Mo_make_41 rfl (lv_at hl 0 rfl) ?_
      refine rG X h 0 rfl rfl zW_Mo 4 (by decide) zw_497 rfl zd_Mo_make_42 ?_
      refine lv_icmp_ge (tgt := 90) X.1.1 X.1.2.1 zd_Mo_make_45 rfl (fun d1 => ?_) (fun d1 => ?_)
      · have d1 : n ≤ i := zc_ge_t (by omega) (by omega) d1
        rw [mkC_end (by rw [tx_len]; exact d1), tx_len] at he
        have hln := nw_len (tx fI n) (n - fr) fr (n - fr) (Nat.le_refl _) (by rw [tx_len]; omega)
        have hde := dl_end (m := n) hz (by omega) hn
        refine lv_aload_n X.1.1 X.1.2.1 zd_Mo_make_90 rfl (lv_at hl 0 rfl) ?_
        refine lv_iload_n X.1.1 X.1.2.1 zd_Mo_make_91 rfl (lv_at hl 2 rfl) ?_
        refine lv_aload_n X.1.1 X.1.2.1 zd_Mo_make_92 rfl (lv_at hl 0 rfl) ?_
        refine rG X h 0 rfl rfl zW_Mo 4 (by decide) zw_497 rfl zd_Mo_make_93 ?_
        refine rCv (wr := []) (wf := fun g3 => [(m0, .inr (4, [.ref aI, .ref aB, .ref aO, .ref aR, .int (nI n), .int (nI nb), .int (nI (nm1 + (newB (tx fI n) (n - fr) fr (n - fr)).length)), .int (nI c1), .int (nI (f1 + (n - fr))), .int (nI dm), .int (nI 0), .int (nI be1), .int wh1, .int (nI at_), .int (nI wr), .int (nI fi)])), (aI, .inl (cI, 65536, .inl (fI))), (aB, .inl (cB, 65536, .inl (fB))), (aO, .inl (cO, 67000, .inl (g3))), (aR, .inl (cR, 65536, .inl (fR)))]) (rest := []) X h hl.1 (zc_Mo_putFresh l D (m0 := m0) (aI := aI) (aB := aB) (aO := aO) (aR := aR) (wh := wh1) (n := n) (nb := nb) (nm := nm1) (cp := c1) (frs := f1) (dm := dm) (th := 0) (be := be1) (at_ := at_) (wr := wr) (fi := fi) (fI := fI) (cI := cI) (fB := fB) (cB := cB) (fO := g) (cO := cO) (fR := fR) (cR := cR) (x := fr) (y := n) (hg) (hfI) (by omega) (Nat.le_refl _) (hn) (by omega) H.size) zw_583 zw_585 zs_21 zw_5 zm_Mo_putFresh zq_Mo_putFresh ⟨Nat.le_of_ble_eq_true rfl, Nat.le_of_ble_eq_true rfl⟩ ⟨Nat.le_of_ble_eq_true rfl, Nat.le_of_ble_eq_true rfl⟩ [0, 1, 2, 3] rfl [0, 1, 2, 3, 4] [] [0, 1, 2, 3, 4] rfl (by decide) rfl (by decide) (by decide) (fun _ => rfl) (by decide) 0 rfl rfl rfl (Nat.le_of_ble_eq_true rfl) zd_Mo_make_96 (fun g3 H locs hp h => ?_)
        have q3 : tx g3 (nm1 + (newB (tx fI n) (n - fr) fr (n - fr)).length) = tx g nm1 ++ newB (tx fI n) (n - fr) fr (n - fr) ∧ sb_Fit g3 := hp
        have h : zH D A s [(m0, .inr (4, [.ref aI, .ref aB, .ref aO, .ref aR, .int (nI n), .int (nI nb), .int (nI (nm1 + (newB (tx fI n) (n - fr) fr (n - fr)).length)), .int (nI c1), .int (nI (f1 + (n - fr))), .int (nI dm), .int (nI 0), .int (nI be1), .int wh1, .int (nI at_), .int (nI wr), .int (nI fi)])), (aI, .inl (cI, 65536, .inl (fI))), (aB, .inl (cB, 65536, .inl (fB))), (aO, .inl (cO, 67000, .inl (g3))), (aR, .inl (cR, 65536, .inl (fR)))] H locs := h
        have e1 : nm1 + (newB (tx fI n) (n - fr) fr (n - fr)).length = (mkA (tx fB nb) (tx fI n)).1.length := by rw [he]; simp only [List.length_append, tx_len]
        have e2 : c1 = (mkA (tx fB nb) (tx fI n)).2.1 := by rw [he]
        have e3 : f1 + (n - fr) = (mkA (tx fB nb) (tx fI n)).2.2 := by rw [he]
        rw [e1] at h q3
        rw [e2, e3] at h
        have h : zH D A s [(m0, .inr (4, [.ref aI, .ref aB, .ref aO, .ref aR, .int (nI n), .int (nI nb), .int (nI ((mkA (tx fB nb) (tx fI n)).1.length)), .int (nI ((mkA (tx fB nb) (tx fI n)).2.1)), .int (nI ((mkA (tx fB nb) (tx fI n)).2.2)), .int (nI dm), .int (nI 0), .int (nI be1), .int wh1, .int (nI at_), .int (nI wr), .int (nI fi)])), (aI, .inl (cI, 65536, .inl (fI))), (aB, .inl (cB, 65536, .inl (fB))), (aO, .inl (cO, 67000, .inl (g3))), (aR, .inl (cR, 65536, .inl (fR)))] H locs := h
        refine lv_aload_n X.1.1 X.1.2.1 zd_Mo_make_99 rfl (lv_at hl 0 rfl) ?_
        refine rG X h 0 rfl rfl zW_Mo 6 (by decide) zw_499 rfl zd_Mo_make_100 ?_
        exact ret _ (be1, wh1, g3) H locs ls _ (⟨rfl, by rw [q3.1, he], q3.2, by rw [← e1]; omega⟩) h zd_Mo_make_103
      · have d1 : i < n := zc_ge_f (by omega) (by omega) d1
        refine lv_aload_n X.1.1 X.1.2.1 zd_Mo_make_48 rfl (lv_at hl 0 rfl) ?_
        refine lv_iload_n X.1.1 X.1.2.1 zd_Mo_make_49 rfl (lv_at hl 1 rfl) ?_
        refine rCv (wr := []) (wf := fun u => [(m0, .inr (4, [.ref aI, .ref aB, .ref aO, .ref aR, .int (nI n), .int (nI nb), .int (nI nm1), .int (nI c1), .int (nI f1), .int (nI dm), .int (nI 0), .int (nI u.1), .int (u.2), .int (nI at_), .int (nI wr), .int (nI fi)])), (aI, .inl (cI, 65536, .inl (fI))), (aB, .inl (cB, 65536, .inl (fB))), (aO, .inl (cO, 67000, .inl (g))), (aR, .inl (cR, 65536, .inl (fR)))]) (rest := []) X h hl.1 (zc_Mo_look l D (m0 := m0) (aI := aI) (aB := aB) (aO := aO) (aR := aR) (wh := wh1) (n := n) (nb := nb) (nm := nm1) (cp := c1) (frs := f1) (dm := dm) (th := 0) (be := be1) (at_ := at_) (wr := wr) (fi := fi) (fI := fI) (cI := cI) (fB := fB) (cB := cB) (fO := g) (cO := cO) (fR := fR) (cR := cR) (x := i) (by omega) (hn) (hnb) H.size) zw_578 zw_580 zs_20 zw_5 zm_Mo_look zq_Mo_look ⟨Nat.le_of_ble_eq_true rfl, Nat.le_of_ble_eq_true rfl⟩ ⟨Nat.le_of_ble_eq_true rfl, Nat.le_of_ble_eq_true rfl⟩ [0, 1, 2, 3] rfl [0, 1, 2, 3, 4] [] [0, 1, 2, 3, 4] rfl (by decide) rfl (by decide) (by decide) (fun _ => rfl) (by decide) 0 rfl rfl rfl (Nat.le_of_ble_eq_true rfl) zd_Mo_make_50 (fun u H locs hp h => ?_)
        have q1 : ∃ P, lg_is fB nb fI i (min (n - i) 65535) u.1 P ∧ (0 < u.1 → u.2 = nI P) := hp
        have h : zH D A s [(m0, .inr (4, [.ref aI, .ref aB, .ref aO, .ref aR, .int (nI n), .int (nI nb), .int (nI nm1), .int (nI c1), .int (nI f1), .int (nI dm), .int (nI 0), .int (nI u.1), .int (u.2), .int (nI at_), .int (nI wr), .int (nI fi)])), (aI, .inl (cI, 65536, .inl (fI))), (aB, .inl (cB, 65536, .inl (fB))), (aO, .inl (cO, 67000, .inl (g))), (aR, .inl (cR, 65536, .inl (fR)))] H locs := h
        obtain ⟨L, wv⟩ := u
        have h : zH D A s [(m0, .inr (4, [.ref aI, .ref aB, .ref aO, .ref aR, .int (nI n), .int (nI nb), .int (nI nm1), .int (nI c1), .int (nI f1), .int (nI dm), .int (nI 0), .int (nI L), .int wv, .int (nI at_), .int (nI wr), .int (nI fi)])), (aI, .inl (cI, 65536, .inl (fI))), (aB, .inl (cB, 65536, .inl (fB))), (aO, .inl (cO, 67000, .inl (g))), (aR, .inl (cR, 65536, .inl (fR)))] H locs := h
        have q1 : ∃ P, lg_is fB nb fI i (min (n - i) 65535) L P ∧ (0 < L → wv = nI P) := q1
        obtain ⟨pp, k1, k2⟩ := q1
        have hLm : L ≤ min (n - i) 65535 := k1.1
        have hLn : i + L ≤ n := by omega
        rw [mkC_go (L := L) (P := pp) (by rw [tx_len]; exact d1) (by rw [tx_len, tx_len]; exact lg_tx (by omega) k1)] at he
        refine lv_aload_n X.1.1 X.1.2.1 zd_Mo_make_53 rfl (lv_at hl 0 rfl) ?_
        refine rG X h 0 rfl rfl zW_Mo 11 (by decide) zw_504 rfl zd_Mo_make_54 ?_
        refine lv_bipush (v := nI 8) X.1.1 X.1.2.1 zd_Mo_make_57 (by decide) ?_
        refine lv_icmp_ge (tgt := 68) X.1.1 X.1.2.1 zd_Mo_make_59 rfl (fun d2 => ?_) (fun d2 => ?_)
        · have d2 : 8 ≤ L := zc_ge_t (by omega) (by omega) d2
          rw [if_pos d2] at he
          have k3 := k2 (by omega)
          subst k3
          have h : zH D A s [(m0, .inr (4, [.ref aI, .ref aB, .ref aO, .ref aR, .int (nI n), .int (nI nb), .int (nI nm1), .int (nI c1), .int (nI f1), .int (nI dm), .int (nI 0), .int (nI L), .int ((nI pp)), .int (nI at_), .int (nI wr), .int (nI fi)])), (aI, .inl (cI, 65536, .inl (fI))), (aB, .inl (cB, 65536, .inl (fB))), (aO, .inl (cO, 67000, .inl (g))), (aR, .inl (cR, 65536, .inl (fR)))] H locs := h
          obtain ⟨k4, k5, k6⟩ := k1.2.1 (by omega)
          have hln := nw_len (tx fI n) (i - fr) fr (i - fr) (Nat.le_refl _) (by rw [tx_len]; omega)
          have hcl := cpB_len (P := pp) (L := L) (by omega)
          have hde := dl_step (i := i) (L := L) hz hfr d2
          refine lv_aload_n X.1.1 X.1.2.1 zd_Mo_make_68 rfl (lv_at hl 0 rfl) ?_
          refine lv_iload_n X.1.1 X.1.2.1 zd_Mo_make_69 rfl (lv_at hl 2 rfl) ?_
          refine lv_iload_n X.1.1 X.1.2.1 zd_Mo_make_70 rfl (lv_at hl 1 rfl) ?_
          refine rCv (wr := []) (wf := fun g3 => [(m0, .inr (4, [.ref aI, .ref aB, .ref aO, .ref aR, .int (nI n), .int (nI nb), .int (nI (nm1 + (newB (tx fI n) (i - fr) fr (i - fr)).length)), .int (nI c1), .int (nI (f1 + (i - fr))), .int (nI dm), .int (nI 0), .int (nI L), .int ((nI pp)), .int (nI at_), .int (nI wr), .int (nI fi)])), (aI, .inl (cI, 65536, .inl (fI))), (aB, .inl (cB, 65536, .inl (fB))), (aO, .inl (cO, 67000, .inl (g3))), (aR, .inl (cR, 65536, .inl (fR)))]) (rest := []) X h hl.1 (zc_Mo_putFresh l D (m0 := m0) (aI := aI) (aB := aB) (aO := aO) (aR := aR) (wh := (nI pp)) (n := n) (nb := nb) (nm := nm1) (cp := c1) (frs := f1) (dm := dm) (th := 0) (be := L) (at_ := at_) (wr := wr) (fi := fi) (fI := fI) (cI := cI) (fB := fB) (cB := cB) (fO := g) (cO := cO) (fR := fR) (cR := cR) (x := fr) (y := i) (hg) (hfI) (hfr) (by omega) (hn) (by omega) H.size) zw_583 zw_585 zs_21 zw_5 zm_Mo_putFresh zq_Mo_putFresh ⟨Nat.le_of_ble_eq_true rfl, Nat.le_of_ble_eq_true rfl⟩ ⟨Nat.le_of_ble_eq_true rfl, Nat.le_of_ble_eq_true rfl⟩ [0, 1, 2, 3] rfl [0, 1, 2, 3, 4] [] [0, 1, 2, 3, 4] rfl (by decide) rfl (by decide) (by decide) (fun _ => rfl) (by decide) 0 rfl rfl rfl (Nat.le_of_ble_eq_true rfl) zd_Mo_make_71 (fun g3 H locs hp h => ?_)
          have q3 : tx g3 (nm1 + (newB (tx fI n) (i - fr) fr (i - fr)).length) = tx g nm1 ++ newB (tx fI n) (i - fr) fr (i - fr) ∧ sb_Fit g3 := hp
          have h : zH D A s [(m0, .inr (4, [.ref aI, .ref aB, .ref aO, .ref aR, .int (nI n), .int (nI nb), .int (nI (nm1 + (newB (tx fI n) (i - fr) fr (i - fr)).length)), .int (nI c1), .int (nI (f1 + (i - fr))), .int (nI dm), .int (nI 0), .int (nI L), .int ((nI pp)), .int (nI at_), .int (nI wr), .int (nI fi)])), (aI, .inl (cI, 65536, .inl (fI))), (aB, .inl (cB, 65536, .inl (fB))), (aO, .inl (cO, 67000, .inl (g3))), (aR, .inl (cR, 65536, .inl (fR)))] H locs := h
          refine lv_aload_n X.1.1 X.1.2.1 zd_Mo_make_74 rfl (lv_at hl 0 rfl) ?_
          refine rCv (wr := []) (wf := fun g4 => [(m0, .inr (4, [.ref aI, .ref aB, .ref aO, .ref aR, .int (nI n), .int (nI nb), .int (nI (nm1 + (newB (tx fI n) (i - fr) fr (i - fr)).length + (cpB pp L).length)), .int (nI (c1 + 1)), .int (nI (f1 + (i - fr))), .int (nI dm), .int (nI 0), .int (nI L), .int (nI pp), .int (nI at_), .int (nI wr), .int (nI fi)])), (aI, .inl (cI, 65536, .inl (fI))), (aB, .inl (cB, 65536, .inl (fB))), (aO, .inl (cO, 67000, .inl (g4))), (aR, .inl (cR, 65536, .inl (fR)))]) (rest := []) X h hl.1 (zc_Mo_putCopy l D (m0 := m0) (aI := aI) (aB := aB) (aO := aO) (aR := aR) (n := n) (nb := nb) (nm := nm1 + (newB (tx fI n) (i - fr) fr (i - fr)).length) (cp := c1) (frs := f1 + (i - fr)) (dm := dm) (th := 0) (be := L) (at_ := at_) (wr := wr) (fi := fi) (fI := fI) (cI := cI) (fB := fB) (cB := cB) (fO := g3) (cO := cO) (fR := fR) (cR := cR) (pp := pp) (q3.2) (by omega) (by omega) (by omega) H.size) zw_587 zw_589 zs_22 zw_5 zm_Mo_putCopy zq_Mo_putCopy ⟨Nat.le_of_ble_eq_true rfl, Nat.le_of_ble_eq_true rfl⟩ ⟨Nat.le_of_ble_eq_true rfl, Nat.le_of_ble_eq_true rfl⟩ [0, 1, 2, 3] rfl [0, 1, 2, 3, 4] [] [0, 1, 2, 3, 4] rfl (by decide) rfl (by decide) (by decide) (fun _ => rfl) (by decide) 0 rfl rfl rfl (Nat.le_of_ble_eq_true rfl) zd_Mo_make_75 (fun g4 H locs hp h => ?_)
          have q4 : tx g4 (nm1 + (newB (tx fI n) (i - fr) fr (i - fr)).length + (cpB pp L).length) = tx g3 (nm1 + (newB (tx fI n) (i - fr) fr (i - fr)).length) ++ cpB pp L ∧ sb_Fit g4 := hp
          have h : zH D A s [(m0, .inr (4, [.ref aI, .ref aB, .ref aO, .ref aR, .int (nI n), .int (nI nb), .int (nI (nm1 + (newB (tx fI n) (i - fr) fr (i - fr)).length + (cpB pp L).length)), .int (nI (c1 + 1)), .int (nI (f1 + (i - fr))), .int (nI dm), .int (nI 0), .int (nI L), .int (nI pp), .int (nI at_), .int (nI wr), .int (nI fi)])), (aI, .inl (cI, 65536, .inl (fI))), (aB, .inl (cB, 65536, .inl (fB))), (aO, .inl (cO, 67000, .inl (g4))), (aR, .inl (cR, 65536, .inl (fR)))] H locs := h
          refine lv_iload_n X.1.1 X.1.2.1 zd_Mo_make_78 rfl (lv_at hl 1 rfl) ?_
          refine lv_aload_n X.1.1 X.1.2.1 zd_Mo_make_79 rfl (lv_at hl 0 rfl) ?_
          refine rG X h 0 rfl rfl zW_Mo 11 (by decide) zw_504 rfl zd_Mo_make_80 ?_
          refine lv_iadd X.1.1 X.1.2.1 zd_Mo_make_83 ?_
          refine zTop (y := nI (i + L)) (nI_add _ _) ?_
          refine lv_istore_n X.1.1 X.1.2.1 zd_Mo_make_84 rfl hl (by decide) rfl (fun ls hl => ?_)
          have hl : lv_has ls 3 [(1, .int (nI (i + L))), (0, .ref m0), (2, .int (nI fr))] := hl
          refine lv_iload_n X.1.1 X.1.2.1 zd_Mo_make_85 rfl (lv_at hl 0 rfl) ?_
          refine lv_istore_n X.1.1 X.1.2.1 zd_Mo_make_86 rfl hl (by decide) rfl (fun ls hl => ?_)
          have hl : lv_has ls 3 [(2, .int (nI (i + L))), (1, .int (nI (i + L))), (0, .ref m0)] := hl
          refine lv_goto (tgt := 40) X.1.1 X.1.2.1 zd_Mo_make_87 rfl ?_
          exact ih q (i + L) (i + L) (nm1 + (newB (tx fI n) (i - fr) fr (i - fr)).length + (cpB pp L).length) (c1 + 1) (f1 + (i - fr)) L (nI pp) g4 ls H locs (by omega) (by omega) (by omega) (by omega) (by
                rw [he, q4.1, q3.1]) (by omega) (q4.2) (lv_sub hl [2, 1, 0] rfl) h
        · have d2 : L < 8 := zc_ge_f (by omega) (by omega) d2
          rw [if_neg (by omega)] at he
          refine lv_iinc X.1.1 X.1.2.1 zd_Mo_make_62 hl (k := 1) rfl (v := nI (i + 1)) (nI_add _ _) (by decide) rfl (fun ls hl => ?_)
          have hl : lv_has ls 3 [(1, .int (nI (i + 1))), (0, .ref m0), (2, .int (nI fr))] := hl
          refine lv_goto (tgt := 40) X.1.1 X.1.2.1 zd_Mo_make_65 rfl ?_
          exact ih q (i + 1) fr nm1 c1 f1 L wv g ls H locs (by omega) (by omega) (by omega) (by omega) (he) (hz) (hg) (lv_sub hl [1, 0, 2] rfl) h
  exact loop _ (n + 1) 0 0 (0 + (numB 4 nb).length + (numB 4 n).length) 0 0 be wh g2 ls H locs (Nat.lt_succ_self _) (by omega) (by omega) (by omega) (hA) (by omega) (q2.2) (lv_sub hl [2, 1, 0] rfl) h
