/-! DeltaPressModel: use -/
set_option maxHeartbeats 4000000 in
set_option maxRecDepth 100000 in
theorem zc_Mo_use (l : Launch) (D : va_G) {m0 aI aB aO aR n nb nm cp frs dm th be at_ wr fi : Nat} {wh : Int32} {fI fB fO fR : Nat → Int32} {cI cB cO cR : ClassId} (hn : n ≤ 65536) (hnb : nb ≤ 65536) (hfI : sb_Fit fI) (hfB : sb_Fit fB) (hfO : sb_Fit fO) (hfR : sb_Fit fR) (sz : Nat) : zMi l D zy_Mo_use zb_Mo_use 4 .int ({ frames := 2, cells := 0, slots := 0, locals := 48 } : Room) [.ref m0] [(cI, .byte), (cB, .byte), (cO, .byte), (cR, .byte)] [(m0, .inr (4, [.ref aI, .ref aB, .ref aO, .ref aR, .int (nI n), .int (nI nb), .int (nI nm), .int (nI cp), .int (nI frs), .int (nI dm), .int (nI th), .int (nI be), .int wh, .int (nI at_), .int (nI wr), .int (nI fi)])), (aI, .inl (cI, 65536, .inl (fI))), (aB, .inl (cB, 65536, .inl (fB))), (aO, .inl (cO, 67000, .inl (fO))), (aR, .inl (cR, 65536, .inl (fR)))] sz (fun (r : Int32) (u : Nat × Nat × Nat × (Nat → Int32) × (Nat → Int32) × Nat × Nat × Nat) => ((rdA (tx fI n) (tx fB nb) = some (tx u.2.2.2.2.1 u.2.2.2.2.2.1) ∧ u.2.2.2.2.2.2.1 = dm ∧ u.2.2.2.2.2.2.2 = 0 ∧ r = nI u.2.2.2.2.2.1 ∧ u.2.2.2.2.2.1 ≤ 65536) ∨ (rdA (tx fI n) (tx fB nb) = none ∧ u.2.2.2.2.1 = fO ∧ u.2.2.2.2.2.1 = nm ∧ u.2.2.2.2.2.2.1 = dm + 1 ∧ u.2.2.2.2.2.2.2 = 1)) ∧ sb_Fit u.2.2.2.2.1 ∧ sb_Fit u.2.2.2.1) (fun u => [(m0, .inr (4, [.ref aI, .ref aB, .ref aO, .ref aR, .int (nI n), .int (nI nb), .int (nI u.2.2.2.2.2.1), .int (nI cp), .int (nI frs), .int (nI u.2.2.2.2.2.2.1), .int (nI u.2.2.2.2.2.2.2), .int (nI be), .int wh, .int (nI u.1), .int (nI u.2.1), .int (nI u.2.2.1)])), (aI, .inl (cI, 65536, .inl (fI))), (aB, .inl (cB, 65536, .inl (fB))), (aO, .inl (cO, 67000, .inl (u.2.2.2.2.1))), (aR, .inl (cR, 65536, .inl (u.2.2.2.1)))]) := by
  refine zEi (by decide) (Nat.le_of_ble_eq_true rfl) (fun p e s m args below meth c ls A Q X hl h hsz ret => ?_)
  have hl : lv_has ls 4 [(0, .ref m0)] := hl
  generalize hH0 : s.heap = H at h ⊢
  have h : zH D A s [(m0, .inr (4, [.ref aI, .ref aB, .ref aO, .ref aR, .int (nI n), .int (nI nb), .int (nI nm), .int (nI cp), .int (nI frs), .int (nI dm), .int (nI th), .int (nI be), .int wh, .int (nI at_), .int (nI wr), .int (nI fi)])), (aI, .inl (cI, 65536, .inl (fI))), (aB, .inl (cB, 65536, .inl (fB))), (aO, .inl (cO, 67000, .inl (fO))), (aR, .inl (cR, 65536, .inl (fR)))] H [] := h
  generalize hL0 : ([] : List Loc) = locs at h ⊢
  refine lv_aload_n X.1.1 X.1.2.1 zd_Mo_use_0 rfl (lv_at hl 0 rfl) ?_
  refine lv_iconst (v := nI 0) X.1.1 X.1.2.1 zd_Mo_use_1 (by decide) ?_
  refine rP X h 0 rfl rfl zW_Mo zO_Mo zN_Mo 10 (by decide) zw_503 rfl (rfl) (rfl) (Nat.le_of_ble_eq_true rfl) zd_Mo_use_2 (fun H locs h => ?_)
  have h : zH D A s [(m0, .inr (4, [.ref aI, .ref aB, .ref aO, .ref aR, .int (nI n), .int (nI nb), .int (nI nm), .int (nI cp), .int (nI frs), .int (nI dm), .int (nI 0), .int (nI be), .int wh, .int (nI at_), .int (nI wr), .int (nI fi)])), (aI, .inl (cI, 65536, .inl (fI))), (aB, .inl (cB, 65536, .inl (fB))), (aO, .inl (cO, 67000, .inl (fO))), (aR, .inl (cR, 65536, .inl (fR)))] H locs := h
  refine lv_aload_n X.1.1 X.1.2.1 zd_Mo_use_5 rfl (lv_at hl 0 rfl) ?_
  refine lv_iconst (v := nI 0) X.1.1 X.1.2.1 zd_Mo_use_6 (by decide) ?_
  refine rP X h 0 rfl rfl zW_Mo zO_Mo zN_Mo 13 (by decide) zw_506 rfl (rfl) (rfl) (Nat.le_of_ble_eq_true rfl) zd_Mo_use_7 (fun H locs h => ?_)
  have h : zH D A s [(m0, .inr (4, [.ref aI, .ref aB, .ref aO, .ref aR, .int (nI n), .int (nI nb), .int (nI nm), .int (nI cp), .int (nI frs), .int (nI dm), .int (nI 0), .int (nI be), .int wh, .int (nI 0), .int (nI wr), .int (nI fi)])), (aI, .inl (cI, 65536, .inl (fI))), (aB, .inl (cB, 65536, .inl (fB))), (aO, .inl (cO, 67000, .inl (fO))), (aR, .inl (cR, 65536, .inl (fR)))] H locs := h
  refine lv_aload_n X.1.1 X.1.2.1 zd_Mo_use_10 rfl (lv_at hl 0 rfl) ?_
  refine lv_iconst (v := nI 0) X.1.1 X.1.2.1 zd_Mo_use_11 (by decide) ?_
  refine rP X h 0 rfl rfl zW_Mo zO_Mo zN_Mo 14 (by decide) zw_507 rfl (rfl) (rfl) (Nat.le_of_ble_eq_true rfl) zd_Mo_use_12 (fun H locs h => ?_)
  have h : zH D A s [(m0, .inr (4, [.ref aI, .ref aB, .ref aO, .ref aR, .int (nI n), .int (nI nb), .int (nI nm), .int (nI cp), .int (nI frs), .int (nI dm), .int (nI 0), .int (nI be), .int wh, .int (nI 0), .int (nI 0), .int (nI fi)])), (aI, .inl (cI, 65536, .inl (fI))), (aB, .inl (cB, 65536, .inl (fB))), (aO, .inl (cO, 67000, .inl (fO))), (aR, .inl (cR, 65536, .inl (fR)))] H locs := h
  refine lv_aload_n X.1.1 X.1.2.1 zd_Mo_use_15 rfl (lv_at hl 0 rfl) ?_
  refine lv_iconst (v := nI 0) X.1.1 X.1.2.1 zd_Mo_use_16 (by decide) ?_
  refine rP X h 0 rfl rfl zW_Mo zO_Mo zN_Mo 15 (by decide) zw_508 rfl (rfl) (rfl) (Nat.le_of_ble_eq_true rfl) zd_Mo_use_17 (fun H locs h => ?_)
  have h : zH D A s [(m0, .inr (4, [.ref aI, .ref aB, .ref aO, .ref aR, .int (nI n), .int (nI nb), .int (nI nm), .int (nI cp), .int (nI frs), .int (nI dm), .int (nI 0), .int (nI be), .int wh, .int (nI 0), .int (nI 0), .int (nI 0)])), (aI, .inl (cI, 65536, .inl (fI))), (aB, .inl (cB, 65536, .inl (fB))), (aO, .inl (cO, 67000, .inl (fO))), (aR, .inl (cR, 65536, .inl (fR)))] H locs := h
  refine lv_aload_n X.1.1 X.1.2.1 zd_Mo_use_20 rfl (lv_at hl 0 rfl) ?_
  refine rCi (wr := []) (wf := fun u1 => [(m0, .inr (4, [.ref aI, .ref aB, .ref aO, .ref aR, .int (nI n), .int (nI nb), .int (nI nm), .int (nI cp), .int (nI frs), .int (nI dm), .int (nI 0), .int (nI be), .int wh, .int (nI u1.1), .int (nI u1.2), .int (nI 0)])), (aI, .inl (cI, 65536, .inl (fI))), (aB, .inl (cB, 65536, .inl (fB))), (aO, .inl (cO, 67000, .inl (fO))), (aR, .inl (cR, 65536, .inl (fR)))]) (rest := []) X h hl.1 (zc_Mo_number l D (m0 := m0) (aI := aI) (aB := aB) (aO := aO) (aR := aR) (wh := wh) (n := n) (nb := nb) (nm := nm) (cp := cp) (frs := frs) (dm := dm) (th := 0) (be := be) (at_ := 0) (wr := 0) (fi := 0) (fI := fI) (cI := cI) (fB := fB) (cB := cB) (fO := fO) (cO := cO) (fR := fR) (cR := cR) (rfl) (by omega) (hn) H.size) zw_595 zw_597 zs_23 zw_5 zm_Mo_number zq_Mo_number ⟨Nat.le_of_ble_eq_true rfl, Nat.le_of_ble_eq_true rfl⟩ ⟨Nat.le_of_ble_eq_true rfl, Nat.le_of_ble_eq_true rfl⟩ [0, 1, 2, 3] rfl [0, 1, 2, 3, 4] [] [0, 1, 2, 3, 4] rfl (by decide) rfl (by decide) (by decide) (fun _ => rfl) (by decide) 0 rfl rfl rfl (Nat.le_of_ble_eq_true rfl) zd_Mo_use_21 (fun r u1 H locs hp h => ?_)
  have q1 : ((∃ v, rdN (tx fI n) 4 0 0 0 = some (v, u1.1) ∧ u1.2 = 0 ∧ r = nI v ∧ v < 2 ^ 28) ∨ (u1.2 = 1 ∧ rdN (tx fI n) 4 0 0 0 = none)) ∧ u1.1 ≤ n := hp
  have h : zH D A s [(m0, .inr (4, [.ref aI, .ref aB, .ref aO, .ref aR, .int (nI n), .int (nI nb), .int (nI nm), .int (nI cp), .int (nI frs), .int (nI dm), .int (nI 0), .int (nI be), .int wh, .int (nI u1.1), .int (nI u1.2), .int (nI 0)])), (aI, .inl (cI, 65536, .inl (fI))), (aB, .inl (cB, 65536, .inl (fB))), (aO, .inl (cO, 67000, .inl (fO))), (aR, .inl (cR, 65536, .inl (fR)))] H locs := h
  obtain ⟨a1, w1⟩ := u1
  have h : zH D A s [(m0, .inr (4, [.ref aI, .ref aB, .ref aO, .ref aR, .int (nI n), .int (nI nb), .int (nI nm), .int (nI cp), .int (nI frs), .int (nI dm), .int (nI 0), .int (nI be), .int wh, .int (nI a1), .int (nI w1), .int (nI 0)])), (aI, .inl (cI, 65536, .inl (fI))), (aB, .inl (cB, 65536, .inl (fB))), (aO, .inl (cO, 67000, .inl (fO))), (aR, .inl (cR, 65536, .inl (fR)))] H locs := h
  obtain ⟨q1, ha1⟩ := q1
  have ha1 : a1 ≤ n := ha1
  generalize er1 : r = r1 at q1 ⊢
  rcases q1 with ⟨v1, e1, e1w, e1r, b1⟩ | ⟨e1w, e1⟩
  · have e1w : w1 = 0 := e1w
    subst e1w
    subst e1r
    have h : zH D A s [(m0, .inr (4, [.ref aI, .ref aB, .ref aO, .ref aR, .int (nI n), .int (nI nb), .int (nI nm), .int (nI cp), .int (nI frs), .int (nI dm), .int (nI 0), .int (nI be), .int wh, .int (nI a1), .int (nI 0), .int (nI 0)])), (aI, .inl (cI, 65536, .inl (fI))), (aB, .inl (cB, 65536, .inl (fB))), (aO, .inl (cO, 67000, .inl (fO))), (aR, .inl (cR, 65536, .inl (fR)))] H locs := h
    have e1 : rdN (tx fI n) 4 0 0 0 = some (v1, a1) := e1
    refine lv_istore_n X.1.1 X.1.2.1 zd_Mo_use_24 rfl hl (by decide) rfl (fun ls hl => ?_)
    have hl : lv_has ls 4 [(1, .int (nI v1)), (0, .ref m0)] := hl
    refine lv_aload_n X.1.1 X.1.2.1 zd_Mo_use_25 rfl (lv_at hl 1 rfl) ?_
    refine rCi (wr := []) (wf := fun u2 => [(m0, .inr (4, [.ref aI, .ref aB, .ref aO, .ref aR, .int (nI n), .int (nI nb), .int (nI nm), .int (nI cp), .int (nI frs), .int (nI dm), .int (nI 0), .int (nI be), .int wh, .int (nI u2.1), .int (nI u2.2), .int (nI 0)])), (aI, .inl (cI, 65536, .inl (fI))), (aB, .inl (cB, 65536, .inl (fB))), (aO, .inl (cO, 67000, .inl (fO))), (aR, .inl (cR, 65536, .inl (fR)))]) (rest := []) X h hl.1 (zc_Mo_number l D (m0 := m0) (aI := aI) (aB := aB) (aO := aO) (aR := aR) (wh := wh) (n := n) (nb := nb) (nm := nm) (cp := cp) (frs := frs) (dm := dm) (th := 0) (be := be) (at_ := a1) (wr := 0) (fi := 0) (fI := fI) (cI := cI) (fB := fB) (cB := cB) (fO := fO) (cO := cO) (fR := fR) (cR := cR) (rfl) (ha1) (hn) H.size) zw_595 zw_597 zs_23 zw_5 zm_Mo_number zq_Mo_number ⟨Nat.le_of_ble_eq_true rfl, Nat.le_of_ble_eq_true rfl⟩ ⟨Nat.le_of_ble_eq_true rfl, Nat.le_of_ble_eq_true rfl⟩ [0, 1, 2, 3] rfl [0, 1, 2, 3, 4] [] [0, 1, 2, 3, 4] rfl (by decide) rfl (by decide) (by decide) (fun _ => rfl) (by decide) 0 rfl rfl rfl (Nat.le_of_ble_eq_true rfl) zd_Mo_use_26 (fun r u2 H locs hp h => ?_)
    have q2 : ((∃ v, rdN (tx fI n) 4 0 a1 0 = some (v, u2.1) ∧ u2.2 = 0 ∧ r = nI v ∧ v < 2 ^ 28) ∨ (u2.2 = 1 ∧ rdN (tx fI n) 4 0 a1 0 = none)) ∧ u2.1 ≤ n := hp
    have h : zH D A s [(m0, .inr (4, [.ref aI, .ref aB, .ref aO, .ref aR, .int (nI n), .int (nI nb), .int (nI nm), .int (nI cp), .int (nI frs), .int (nI dm), .int (nI 0), .int (nI be), .int wh, .int (nI u2.1), .int (nI u2.2), .int (nI 0)])), (aI, .inl (cI, 65536, .inl (fI))), (aB, .inl (cB, 65536, .inl (fB))), (aO, .inl (cO, 67000, .inl (fO))), (aR, .inl (cR, 65536, .inl (fR)))] H locs := h
    obtain ⟨a2, w2⟩ := u2
    have h : zH D A s [(m0, .inr (4, [.ref aI, .ref aB, .ref aO, .ref aR, .int (nI n), .int (nI nb), .int (nI nm), .int (nI cp), .int (nI frs), .int (nI dm), .int (nI 0), .int (nI be), .int wh, .int (nI a2), .int (nI w2), .int (nI 0)])), (aI, .inl (cI, 65536, .inl (fI))), (aB, .inl (cB, 65536, .inl (fB))), (aO, .inl (cO, 67000, .inl (fO))), (aR, .inl (cR, 65536, .inl (fR)))] H locs := h
    obtain ⟨q2, ha2⟩ := q2
    have ha2 : a2 ≤ n := ha2
    generalize er2 : r = r2 at q2 ⊢
    rcases q2 with ⟨v2, e2, e2w, e2r, b2⟩ | ⟨e2w, e2⟩
    · have e2w : w2 = 0 := e2w
      subst e2w
      subst e2r
      have h : zH D A s [(m0, .inr (4, [.ref aI, .ref aB, .ref aO, .ref aR, .int (nI n), .int (nI nb), .int (nI nm), .int (nI cp), .int (nI frs), .int (nI dm), .int (nI 0), .int (nI be), .int wh, .int (nI a2), .int (nI 0), .int (nI 0)])), (aI, .inl (cI, 65536, .inl (fI))), (aB, .inl (cB, 65536, .inl (fB))), (aO, .inl (cO, 67000, .inl (fO))), (aR, .inl (cR, 65536, .inl (fR)))] H locs := h
      have e2 : rdN (tx fI n) 4 0 a1 0 = some (v2, a2) := e2
      refine lv_istore_n X.1.1 X.1.2.1 zd_Mo_use_29 rfl hl (by decide) rfl (fun ls hl => ?_)
      have hl : lv_has ls 4 [(2, .int (nI v2)), (1, .int (nI v1)), (0, .ref m0)] := hl
      refine lv_iload_n X.1.1 X.1.2.1 zd_Mo_use_30 rfl (lv_at hl 1 rfl) ?_
      refine lv_aload_n X.1.1 X.1.2.1 zd_Mo_use_31 rfl (lv_at hl 2 rfl) ?_
      refine rG X h 0 rfl rfl zW_Mo 5 (by decide) zw_498 rfl zd_Mo_use_32 ?_
      refine lv_icmp_ne (tgt := 44) X.1.1 X.1.2.1 zd_Mo_use_35 rfl (fun c1 => ?_) (fun c1 => ?_)
      · have c1 : v1 ≠ nb := zc_ne_t (by omega) (by omega) c1
        refine lv_aload_n X.1.1 X.1.2.1 zd_Mo_use_44 rfl (lv_at hl 2 rfl) ?_
        refine lv_iconst (v := nI 1) X.1.1 X.1.2.1 zd_Mo_use_45 (by decide) ?_
        refine rP X h 0 rfl rfl zW_Mo zO_Mo zN_Mo 14 (by decide) zw_507 rfl (rfl) (rfl) (Nat.le_of_ble_eq_true rfl) zd_Mo_use_46 (fun H locs h => ?_)
        have h : zH D A s [(m0, .inr (4, [.ref aI, .ref aB, .ref aO, .ref aR, .int (nI n), .int (nI nb), .int (nI nm), .int (nI cp), .int (nI frs), .int (nI dm), .int (nI 0), .int (nI be), .int wh, .int (nI a2), .int (nI 1), .int (nI 0)])), (aI, .inl (cI, 65536, .inl (fI))), (aB, .inl (cB, 65536, .inl (fB))), (aO, .inl (cO, 67000, .inl (fO))), (aR, .inl (cR, 65536, .inl (fR)))] H locs := h
        refine lv_aload_n X.1.1 X.1.2.1 zd_Mo_use_49 rfl (lv_at hl 2 rfl) ?_
        refine rG X h 0 rfl rfl zW_Mo 14 (by decide) zw_507 rfl zd_Mo_use_50 ?_
        refine lv_if_ne (tgt := 75) X.1.1 X.1.2.1 zd_Mo_use_53 rfl (fun w0 => ?_) (fun w0 => ?_)
        · have w0 : 1 ≠ 0 := zc_ne0_t (by omega) (by omega) w0
          have hno : rdA (tx fI n) (tx fB nb) = none := by unfold rdA; rw [e1]; dsimp only; rw [tx_len, if_neg c1]
          refine lv_aload_n X.1.1 X.1.2.1 zd_Mo_use_75 rfl (lv_at hl 2 rfl) ?_
          refine rG X h 0 rfl rfl zW_Mo 14 (by decide) zw_507 rfl zd_Mo_use_76 ?_
          refine lv_if_ne (tgt := 90) X.1.1 X.1.2.1 zd_Mo_use_79 rfl (fun w1 => ?_) (fun w1 => ?_)
          · have w1 : 1 ≠ 0 := zc_ne0_t (by omega) (by omega) w1
            refine lv_aload_n X.1.1 X.1.2.1 zd_Mo_use_90 rfl (lv_at hl 2 rfl) ?_
            refine lv_dup X.1.1 X.1.2.1 zd_Mo_use_91 rfl ?_
            refine rG X h 0 rfl rfl zW_Mo 9 (by decide) zw_502 rfl zd_Mo_use_92 ?_
            refine lv_iconst (v := nI 1) X.1.1 X.1.2.1 zd_Mo_use_95 (by decide) ?_
            refine lv_iadd X.1.1 X.1.2.1 zd_Mo_use_96 ?_
            refine zTop (y := nI (dm + 1)) (nI_add _ _) ?_
            refine rP X h 0 rfl rfl zW_Mo zO_Mo zN_Mo 9 (by decide) zw_502 rfl (rfl) (rfl) (Nat.le_of_ble_eq_true rfl) zd_Mo_use_97 (fun H locs h => ?_)
            have h : zH D A s [(m0, .inr (4, [.ref aI, .ref aB, .ref aO, .ref aR, .int (nI n), .int (nI nb), .int (nI nm), .int (nI cp), .int (nI frs), .int (nI (dm + 1)), .int (nI 0), .int (nI be), .int wh, .int (nI a2), .int (nI 1), .int (nI 0)])), (aI, .inl (cI, 65536, .inl (fI))), (aB, .inl (cB, 65536, .inl (fB))), (aO, .inl (cO, 67000, .inl (fO))), (aR, .inl (cR, 65536, .inl (fR)))] H locs := h
            refine lv_aload_n X.1.1 X.1.2.1 zd_Mo_use_100 rfl (lv_at hl 2 rfl) ?_
            refine lv_iconst (v := nI 1) X.1.1 X.1.2.1 zd_Mo_use_101 (by decide) ?_
            refine rCi (wr := []) (wf := fun _ => [(m0, .inr (4, [.ref aI, .ref aB, .ref aO, .ref aR, .int (nI n), .int (nI nb), .int (nI nm), .int (nI cp), .int (nI frs), .int (nI (dm + 1)), .int (nI 1), .int (nI be), .int wh, .int (nI a2), .int (nI 1), .int (nI 0)])), (aI, .inl (cI, 65536, .inl (fI))), (aB, .inl (cB, 65536, .inl (fB))), (aO, .inl (cO, 67000, .inl (fO))), (aR, .inl (cR, 65536, .inl (fR)))]) (rest := []) X h hl.1 (zc_Mo_refuse l D (m0 := m0) (aI := aI) (aB := aB) (aO := aO) (aR := aR) (wh := wh) (n := n) (nb := nb) (nm := nm) (cp := cp) (frs := frs) (dm := dm + 1) (th := 0) (be := be) (at_ := a2) (wr := 1) (fi := 0) (fI := fI) (cI := cI) (fB := fB) (cB := cB) (fO := fO) (cO := cO) (fR := fR) (cR := cR) (x := 1)  H.size) zw_550 zw_552 zs_17 zw_5 zm_Mo_refuse zq_Mo_refuse ⟨Nat.le_of_ble_eq_true rfl, Nat.le_of_ble_eq_true rfl⟩ ⟨Nat.le_of_ble_eq_true rfl, Nat.le_of_ble_eq_true rfl⟩ [0, 1, 2, 3] rfl [0, 1, 2, 3, 4] [] [0, 1, 2, 3, 4] rfl (by decide) rfl (by decide) (by decide) (fun _ => rfl) (by decide) 0 rfl rfl rfl (Nat.le_of_ble_eq_true rfl) zd_Mo_use_102 (fun r _ H locs hp h => ?_)
            obtain ⟨rfl, -⟩ := hp
            have h : zH D A s [(m0, .inr (4, [.ref aI, .ref aB, .ref aO, .ref aR, .int (nI n), .int (nI nb), .int (nI nm), .int (nI cp), .int (nI frs), .int (nI (dm + 1)), .int (nI 1), .int (nI be), .int wh, .int (nI a2), .int (nI 1), .int (nI 0)])), (aI, .inl (cI, 65536, .inl (fI))), (aB, .inl (cB, 65536, .inl (fB))), (aO, .inl (cO, 67000, .inl (fO))), (aR, .inl (cR, 65536, .inl (fR)))] H locs := h
            exact ret _ (a2, 1, 0, fR, fO, nm, dm + 1, 1) H locs ls _ (⟨Or.inr ⟨hno, rfl, rfl, rfl, rfl⟩, hfO, hfR⟩) h zd_Mo_use_105
          · have w1 : 1 = 0 := zc_ne0_f (by omega) (by omega) w1
            exact absurd w1 (by decide)
        · have w0 : 1 = 0 := zc_ne0_f (by omega) (by omega) w0
          exact absurd w0 (by decide)
      · have c1 : v1 = nb := zc_ne_f (by omega) (by omega) c1
        refine lv_iload_n X.1.1 X.1.2.1 zd_Mo_use_38 rfl (lv_at hl 0 rfl) ?_
        refine lv_ldc X.1.1 X.1.2.1 X.1.2.2.2.1 (X.1.2.2.2.2 _ zw_491) zd_Mo_use_39 ?_
        refine zTop (y := nI 65536) (by decide) ?_
        refine lv_icmp_le (tgt := 49) X.1.1 X.1.2.1 zd_Mo_use_41 rfl (fun c2 => ?_) (fun c2 => ?_)
        · have c2 : v2 ≤ 65536 := zc_le_t (by omega) (by omega) c2
          have hA : rdA (tx fI n) (tx fB nb) = rdB (tx fI n) (tx fB nb) v2 (n + 1) a2 (tx fR 0) := by
            unfold rdA; rw [e1]; dsimp only; rw [tx_len, tx_len, if_pos c1, e2]; dsimp only; rw [if_pos c2]; rfl
          have loop : ∀ (fu : Nat) (q : Nat) (p1 : Nat) (f1 : Nat) (g : Nat → Int32) (ls : Array Slot) (H : Heap) (locs : List Loc), n - p1 < fu → n < p1 + q → p1 ≤ n → f1 ≤ v2 → sb_Fit g → rdA (tx fI n) (tx fB nb) = rdB (tx fI n) (tx fB nb) v2 q p1 (tx g f1) → lv_has ls 4 [(0, .ref m0), (1, .int (nI v1)), (2, .int (nI v2))] → zH D A s [(m0, .inr (4, [.ref aI, .ref aB, .ref aO, .ref aR, .int (nI n), .int (nI nb), .int (nI nm), .int (nI cp), .int (nI frs), .int (nI dm), .int (nI 0), .int (nI be), .int wh, .int (nI p1), .int (nI 0), .int (nI f1)])), (aI, .inl (cI, 65536, .inl (fI))), (aB, .inl (cB, 65536, .inl (fB))), (aO, .inl (cO, 67000, .inl (fO))), (aR, .inl (cR, 65536, .inl (g)))] H locs → W p l e ({ frames := 2, cells := 0, slots := 0, locals := 48 } : Room) s m args below meth c H locs 0 0 Q (F0 m 49 ls []) := by
            intro fu
            induction fu with
            | zero => intro q p1 f1 g ls H locs hfu; exact absurd hfu (Nat.not_lt_zero _)
            | succ fu ih =>
              intro q p1 f1 g ls H locs hfu hq hp1 hf1 hg he hl h
              obtain ⟨q, rfl⟩ : ∃ q1, q = q1 + 1 := ⟨q - 1, by omega⟩
              refine lv_aload_n X.1.1 X.1.2.1 zd_Mo_use_49 rfl (lv_at hl 0 rfl) ?_
              refine rG X h 0 rfl rfl zW_Mo 14 (by decide) zw_507 rfl zd_Mo_use_50 ?_
              refine lv_if_ne (tgt := 75) X.1.1 X.1.2.1 zd_Mo_use_53 rfl (fun d1 => ?_) (fun d1 => ?_)
              · have d1 : 0 ≠ 0 := zc_ne0_t (by omega) (by omega) d1
                exact absurd rfl d1
              · have d1 : 0 = 0 := zc_ne0_f (by omega) (by omega) d1
                refine lv_aload_n X.1.1 X.1.2.1 zd_Mo_use_56 rfl (lv_at hl 0 rfl) ?_
                refine rG X h 0 rfl rfl zW_Mo 13 (by decide) zw_506 rfl zd_Mo_use_57 ?_
                refine lv_aload_n X.1.1 X.1.2.1 zd_Mo_use_60 rfl (lv_at hl 0 rfl) ?_
                refine rG X h 0 rfl rfl zW_Mo 4 (by decide) zw_497 rfl zd_Mo_use_61 ?_
                refine lv_icmp_ge (tgt := 75) X.1.1 X.1.2.1 zd_Mo_use_64 rfl (fun d2 => ?_) (fun d2 => ?_)
                · have d2 : n ≤ p1 := zc_ge_t (by omega) (by omega) d2
                  rw [rdB_end (by rw [tx_len]; exact d2), tx_len] at he
                  refine lv_aload_n X.1.1 X.1.2.1 zd_Mo_use_75 rfl (lv_at hl 0 rfl) ?_
                  refine rG X h 0 rfl rfl zW_Mo 14 (by decide) zw_507 rfl zd_Mo_use_76 ?_
                  refine lv_if_ne (tgt := 90) X.1.1 X.1.2.1 zd_Mo_use_79 rfl (fun d3 => ?_) (fun d3 => ?_)
                  · have d3 : 0 ≠ 0 := zc_ne0_t (by omega) (by omega) d3
                    exact absurd rfl d3
                  · have d3 : 0 = 0 := zc_ne0_f (by omega) (by omega) d3
                    refine lv_aload_n X.1.1 X.1.2.1 zd_Mo_use_82 rfl (lv_at hl 0 rfl) ?_
                    refine rG X h 0 rfl rfl zW_Mo 15 (by decide) zw_508 rfl zd_Mo_use_83 ?_
                    refine lv_iload_n X.1.1 X.1.2.1 zd_Mo_use_86 rfl (lv_at hl 2 rfl) ?_
                    refine lv_icmp_eq (tgt := 106) X.1.1 X.1.2.1 zd_Mo_use_87 rfl (fun d4 => ?_) (fun d4 => ?_)
                    · have d4 : f1 = v2 := zc_eq_t (by omega) (by omega) d4
                      rw [if_pos d4] at he
                      refine lv_iconst (v := nI 0) X.1.1 X.1.2.1 zd_Mo_use_106 (by decide) ?_
                      refine lv_istore_n X.1.1 X.1.2.1 zd_Mo_use_107 rfl hl (by decide) rfl (fun ls hl => ?_)
                      have hl : lv_has ls 4 [(3, .int (nI 0)), (0, .ref m0), (1, .int (nI v1)), (2, .int (nI v2))] := hl
                      have copy : ∀ (fu2 : Nat) (i : Nat) (k : Nat → Int32) (ls : Array Slot) (H : Heap) (locs : List Loc), f1 - i < fu2 → i ≤ f1 → tx k i = tx g i → sb_Fit k → lv_has ls 4 [(0, .ref m0), (1, .int (nI v1)), (2, .int (nI v2)), (3, .int (nI i))] → zH D A s [(m0, .inr (4, [.ref aI, .ref aB, .ref aO, .ref aR, .int (nI n), .int (nI nb), .int (nI nm), .int (nI cp), .int (nI frs), .int (nI dm), .int (nI 0), .int (nI be), .int wh, .int (nI p1), .int (nI 0), .int (nI f1)])), (aI, .inl (cI, 65536, .inl (fI))), (aB, .inl (cB, 65536, .inl (fB))), (aO, .inl (cO, 67000, .inl (k))), (aR, .inl (cR, 65536, .inl (g)))] H locs → W p l e ({ frames := 2, cells := 0, slots := 0, locals := 48 } : Room) s m args below meth c H locs 0 0 Q (F0 m 108 ls []) := by
                        intro fu2
                        induction fu2 with
                        | zero => intro i k ls H locs hfu2; exact absurd hfu2 (Nat.not_lt_zero _)
                        | succ fu2 ih2 =>
                          intro i k ls H locs hfu2 hi hk hkf hl h
                          refine lv_iload_n X.1.1 X.1.2.1 zd_Mo_use_108 rfl (lv_at hl 3 rfl) ?_
                          refine lv_aload_n X.1.1 X.1.2.1 zd_Mo_use_109 rfl (lv_at hl 0 rfl) ?_
                          refine rG X h 0 rfl rfl zW_Mo 15 (by decide) zw_508 rfl zd_Mo_use_110 ?_
                          refine lv_icmp_ge (tgt := 134) X.1.1 X.1.2.1 zd_Mo_use_113 rfl (fun d5 => ?_) (fun d5 => ?_)
                          · have d5 : f1 ≤ i := zc_ge_t (by omega) (by omega) d5
                            have ei : i = f1 := by omega
                            rw [ei] at hk
                            refine lv_aload_n X.1.1 X.1.2.1 zd_Mo_use_134 rfl (lv_at hl 0 rfl) ?_
                            refine lv_aload_n X.1.1 X.1.2.1 zd_Mo_use_135 rfl (lv_at hl 0 rfl) ?_
                            refine rG X h 0 rfl rfl zW_Mo 15 (by decide) zw_508 rfl zd_Mo_use_136 ?_
                            refine rP X h 0 rfl rfl zW_Mo zO_Mo zN_Mo 6 (by decide) zw_499 rfl (rfl) (rfl) (Nat.le_of_ble_eq_true rfl) zd_Mo_use_139 (fun H locs h => ?_)
                            have h : zH D A s [(m0, .inr (4, [.ref aI, .ref aB, .ref aO, .ref aR, .int (nI n), .int (nI nb), .int (nI f1), .int (nI cp), .int (nI frs), .int (nI dm), .int (nI 0), .int (nI be), .int wh, .int (nI p1), .int (nI 0), .int (nI f1)])), (aI, .inl (cI, 65536, .inl (fI))), (aB, .inl (cB, 65536, .inl (fB))), (aO, .inl (cO, 67000, .inl (k))), (aR, .inl (cR, 65536, .inl (g)))] H locs := h
                            refine lv_aload_n X.1.1 X.1.2.1 zd_Mo_use_142 rfl (lv_at hl 0 rfl) ?_
                            refine rG X h 0 rfl rfl zW_Mo 6 (by decide) zw_499 rfl zd_Mo_use_143 ?_
                            exact ret _ (p1, 0, f1, g, k, f1, dm, 0) H locs ls _ (⟨Or.inl ⟨by show _ = some (tx k f1); rw [he, hk], rfl, rfl, rfl, by show f1 ≤ 65536; omega⟩, hkf, hg⟩) h zd_Mo_use_146
                          · have d5 : i < f1 := zc_ge_f (by omega) (by omega) d5
                            refine lv_aload_n X.1.1 X.1.2.1 zd_Mo_use_116 rfl (lv_at hl 0 rfl) ?_
                            refine rG X h 0 rfl rfl zW_Mo 2 (by decide) zw_495 rfl zd_Mo_use_117 ?_
                            refine lv_iload_n X.1.1 X.1.2.1 zd_Mo_use_120 rfl (lv_at hl 3 rfl) ?_
                            refine lv_aload_n X.1.1 X.1.2.1 zd_Mo_use_121 rfl (lv_at hl 0 rfl) ?_
                            refine rG X h 0 rfl rfl zW_Mo 3 (by decide) zw_496 rfl zd_Mo_use_122 ?_
                            refine lv_iload_n X.1.1 X.1.2.1 zd_Mo_use_125 rfl (lv_at hl 3 rfl) ?_
                            refine rLb X h 4 3 rfl rfl (by omega) (by omega) zd_Mo_use_126 ?_
                            refine rSb X h 3 2 rfl rfl (by omega) (by omega) ((vp_nar_byte _).trans (b8_fit (hg i))) zd_Mo_use_127 (fun H locs h => ?_)
                            have h : zH D A s [(m0, .inr (4, [.ref aI, .ref aB, .ref aO, .ref aR, .int (nI n), .int (nI nb), .int (nI nm), .int (nI cp), .int (nI frs), .int (nI dm), .int (nI 0), .int (nI be), .int wh, .int (nI p1), .int (nI 0), .int (nI f1)])), (aI, .inl (cI, 65536, .inl (fI))), (aB, .inl (cB, 65536, .inl (fB))), (aO, .inl (cO, 67000, .inl (upd k i (g i)))), (aR, .inl (cR, 65536, .inl (g)))] H locs := h
                            refine lv_iinc X.1.1 X.1.2.1 zd_Mo_use_128 hl (k := 3) rfl (v := nI (i + 1)) (nI_add _ _) (by decide) rfl (fun ls hl => ?_)
                            have hl : lv_has ls 4 [(3, .int (nI (i + 1))), (0, .ref m0), (1, .int (nI v1)), (2, .int (nI v2))] := hl
                            refine lv_goto (tgt := 108) X.1.1 X.1.2.1 zd_Mo_use_131 rfl ?_
                            exact ih2 (i + 1) (upd k i (g i)) ls H locs (by omega) (by omega) (by rw [tx_push, tx_su, hk]) (sb_fitU hkf (hg i)) (lv_sub hl [1, 2, 3, 0] rfl) h
                      exact copy _ 0 fO ls H locs (Nat.lt_succ_self _) (by omega) (rfl) (hfO) (lv_sub hl [1, 2, 3, 0] rfl) h
                    · have d4 : f1 ≠ v2 := zc_eq_f (by omega) (by omega) d4
                      have hno : rdA (tx fI n) (tx fB nb) = none := by rw [he, if_neg d4]
                      refine lv_aload_n X.1.1 X.1.2.1 zd_Mo_use_90 rfl (lv_at hl 0 rfl) ?_
                      refine lv_dup X.1.1 X.1.2.1 zd_Mo_use_91 rfl ?_
                      refine rG X h 0 rfl rfl zW_Mo 9 (by decide) zw_502 rfl zd_Mo_use_92 ?_
                      refine lv_iconst (v := nI 1) X.1.1 X.1.2.1 zd_Mo_use_95 (by decide) ?_
                      refine lv_iadd X.1.1 X.1.2.1 zd_Mo_use_96 ?_
                      refine zTop (y := nI (dm + 1)) (nI_add _ _) ?_
                      refine rP X h 0 rfl rfl zW_Mo zO_Mo zN_Mo 9 (by decide) zw_502 rfl (rfl) (rfl) (Nat.le_of_ble_eq_true rfl) zd_Mo_use_97 (fun H locs h => ?_)
                      have h : zH D A s [(m0, .inr (4, [.ref aI, .ref aB, .ref aO, .ref aR, .int (nI n), .int (nI nb), .int (nI nm), .int (nI cp), .int (nI frs), .int (nI (dm + 1)), .int (nI 0), .int (nI be), .int wh, .int (nI p1), .int (nI 0), .int (nI f1)])), (aI, .inl (cI, 65536, .inl (fI))), (aB, .inl (cB, 65536, .inl (fB))), (aO, .inl (cO, 67000, .inl (fO))), (aR, .inl (cR, 65536, .inl (g)))] H locs := h
                      refine lv_aload_n X.1.1 X.1.2.1 zd_Mo_use_100 rfl (lv_at hl 0 rfl) ?_
                      refine lv_iconst (v := nI 1) X.1.1 X.1.2.1 zd_Mo_use_101 (by decide) ?_
                      refine rCi (wr := []) (wf := fun _ => [(m0, .inr (4, [.ref aI, .ref aB, .ref aO, .ref aR, .int (nI n), .int (nI nb), .int (nI nm), .int (nI cp), .int (nI frs), .int (nI (dm + 1)), .int (nI 1), .int (nI be), .int wh, .int (nI p1), .int (nI 0), .int (nI f1)])), (aI, .inl (cI, 65536, .inl (fI))), (aB, .inl (cB, 65536, .inl (fB))), (aO, .inl (cO, 67000, .inl (fO))), (aR, .inl (cR, 65536, .inl (g)))]) (rest := []) X h hl.1 (zc_Mo_refuse l D (m0 := m0) (aI := aI) (aB := aB) (aO := aO) (aR := aR) (wh := wh) (n := n) (nb := nb) (nm := nm) (cp := cp) (frs := frs) (dm := dm + 1) (th := 0) (be := be) (at_ := p1) (wr := 0) (fi := f1) (fI := fI) (cI := cI) (fB := fB) (cB := cB) (fO := fO) (cO := cO) (fR := g) (cR := cR) (x := 1)  H.size) zw_550 zw_552 zs_17 zw_5 zm_Mo_refuse zq_Mo_refuse ⟨Nat.le_of_ble_eq_true rfl, Nat.le_of_ble_eq_true rfl⟩ ⟨Nat.le_of_ble_eq_true rfl, Nat.le_of_ble_eq_true rfl⟩ [0, 1, 2, 3] rfl [0, 1, 2, 3, 4] [] [0, 1, 2, 3, 4] rfl (by decide) rfl (by decide) (by decide) (fun _ => rfl) (by decide) 0 rfl rfl rfl (Nat.le_of_ble_eq_true rfl) zd_Mo_use_102 (fun r _ H locs hp h => ?_)
                      obtain ⟨rfl, -⟩ := hp
                      have h : zH D A s [(m0, .inr (4, [.ref aI, .ref aB, .ref aO, .ref aR, .int (nI n), .int (nI nb), .int (nI nm), .int (nI cp), .int (nI frs), .int (nI (dm + 1)), .int (nI 1), .int (nI be), .int wh, .int (nI p1), .int (nI 0), .int (nI f1)])), (aI, .inl (cI, 65536, .inl (fI))), (aB, .inl (cB, 65536, .inl (fB))), (aO, .inl (cO, 67000, .inl (fO))), (aR, .inl (cR, 65536, .inl (g)))] H locs := h
                      exact ret _ (p1, 0, f1, g, fO, nm, dm + 1, 1) H locs ls _ (⟨Or.inr ⟨hno, rfl, rfl, rfl, rfl⟩, hfO, hg⟩) h zd_Mo_use_105
                · have d2 : p1 < n := zc_ge_f (by omega) (by omega) d2
                  have d6 : p1 < (tx fI n).length := by rw [tx_len]; exact d2
                  refine lv_aload_n X.1.1 X.1.2.1 zd_Mo_use_67 rfl (lv_at hl 0 rfl) ?_
                  refine lv_iload_n X.1.1 X.1.2.1 zd_Mo_use_68 rfl (lv_at hl 2 rfl) ?_
                  refine rCv (wr := []) (wf := fun u3 => [(m0, .inr (4, [.ref aI, .ref aB, .ref aO, .ref aR, .int (nI n), .int (nI nb), .int (nI nm), .int (nI cp), .int (nI frs), .int (nI dm), .int (nI 0), .int (nI be), .int wh, .int (nI u3.1), .int (nI u3.2.1), .int (nI u3.2.2.1)])), (aI, .inl (cI, 65536, .inl (fI))), (aB, .inl (cB, 65536, .inl (fB))), (aO, .inl (cO, 67000, .inl (fO))), (aR, .inl (cR, 65536, .inl (u3.2.2.2)))]) (rest := []) X h hl.1 (zc_Mo_part l D (m0 := m0) (aI := aI) (aB := aB) (aO := aO) (aR := aR) (wh := wh) (n := n) (nb := nb) (nm := nm) (cp := cp) (frs := frs) (dm := dm) (th := 0) (be := be) (at_ := p1) (wr := 0) (fi := f1) (fI := fI) (cI := cI) (fB := fB) (cB := cB) (fO := fO) (cO := cO) (fR := g) (cR := cR) (y := v2) (rfl) (d2) (hn) (hnb) (by omega) (hf1) (hfI) (hfB) (hg) H.size) zw_603 zw_605 zs_25 zw_5 zm_Mo_part zq_Mo_part ⟨Nat.le_of_ble_eq_true rfl, Nat.le_of_ble_eq_true rfl⟩ ⟨Nat.le_of_ble_eq_true rfl, Nat.le_of_ble_eq_true rfl⟩ [0, 1, 2, 3] rfl [0, 1, 2, 3, 4] [] [0, 1, 2, 3, 4] rfl (by decide) rfl (by decide) (by decide) (fun _ => rfl) (by decide) 0 rfl rfl rfl (Nat.le_of_ble_eq_true rfl) zd_Mo_use_69 (fun u3 H locs hp h => ?_)
                  have q3 : ((128 ≤ (ub (fI p1)) ∧ ((u3.2.1 = 0 ∧ ∃ fr mn, rdK (tx fI n) (tx fB nb) v2 (ub (fI p1)) (p1 + 1) f1 = some (u3.1, fr, mn) ∧ tx u3.2.2.2 u3.2.2.1 = tx g f1 ++ (((tx fB nb)).drop fr).take mn) ∨ (u3.2.1 = 1 ∧ rdK (tx fI n) (tx fB nb) v2 (ub (fI p1)) (p1 + 1) f1 = none))) ∨ (¬ 128 ≤ (ub (fI p1)) ∧ ((u3.2.1 = 0 ∧ ¬ rdW n v2 (ub (fI p1)) (p1 + 1) f1 ∧ u3.1 = p1 + 1 + (ub (fI p1)) ∧ tx u3.2.2.2 u3.2.2.1 = tx g f1 ++ (((tx fI n)).drop (p1 + 1)).take (ub (fI p1))) ∨ (u3.2.1 = 1 ∧ rdW n v2 (ub (fI p1)) (p1 + 1) f1)))) ∧ u3.1 ≤ n ∧ u3.2.2.1 ≤ v2 ∧ sb_Fit u3.2.2.2 := hp
                  have h : zH D A s [(m0, .inr (4, [.ref aI, .ref aB, .ref aO, .ref aR, .int (nI n), .int (nI nb), .int (nI nm), .int (nI cp), .int (nI frs), .int (nI dm), .int (nI 0), .int (nI be), .int wh, .int (nI u3.1), .int (nI u3.2.1), .int (nI u3.2.2.1)])), (aI, .inl (cI, 65536, .inl (fI))), (aB, .inl (cB, 65536, .inl (fB))), (aO, .inl (cO, 67000, .inl (fO))), (aR, .inl (cR, 65536, .inl (u3.2.2.2)))] H locs := h
                  obtain ⟨p2, w2, f2, g2⟩ := u3
                  have h : zH D A s [(m0, .inr (4, [.ref aI, .ref aB, .ref aO, .ref aR, .int (nI n), .int (nI nb), .int (nI nm), .int (nI cp), .int (nI frs), .int (nI dm), .int (nI 0), .int (nI be), .int wh, .int (nI p2), .int (nI w2), .int (nI f2)])), (aI, .inl (cI, 65536, .inl (fI))), (aB, .inl (cB, 65536, .inl (fB))), (aO, .inl (cO, 67000, .inl (fO))), (aR, .inl (cR, 65536, .inl (g2)))] H locs := h
                  obtain ⟨q3, hp2, hf2, hg2⟩ := q3
                  dsimp only at q3 hp2 hf2 hg2
                  refine lv_goto (tgt := 49) X.1.1 X.1.2.1 zd_Mo_use_72 rfl ?_
                  rcases q3 with ⟨k0, ⟨e3w, fr, mn, e3, e4⟩ | ⟨e3w, e3⟩⟩ | ⟨k0, ⟨e3w, e3, e4, e5⟩ | ⟨e3w, e3⟩⟩
                  · subst e3w
                    have h : zH D A s [(m0, .inr (4, [.ref aI, .ref aB, .ref aO, .ref aR, .int (nI n), .int (nI nb), .int (nI nm), .int (nI cp), .int (nI frs), .int (nI dm), .int (nI 0), .int (nI be), .int wh, .int (nI p2), .int (nI 0), .int (nI f2)])), (aI, .inl (cI, 65536, .inl (fI))), (aB, .inl (cB, 65536, .inl (fB))), (aO, .inl (cO, 67000, .inl (fO))), (aR, .inl (cR, 65536, .inl (g2)))] H locs := h
                    rw [rdB_K d6 (by rw [tf_tx d2]; exact k0), tf_tx d2, tx_len, e3] at he
                    dsimp only at he
                    rw [← e4] at he
                    have hadv := rdK_le e3
                    exact ih q p2 f2 g2 ls H locs (by omega) (by omega) (hp2) (hf2) (hg2) (he) (lv_sub hl [0, 1, 2] rfl) h
                  · subst e3w
                    have h : zH D A s [(m0, .inr (4, [.ref aI, .ref aB, .ref aO, .ref aR, .int (nI n), .int (nI nb), .int (nI nm), .int (nI cp), .int (nI frs), .int (nI dm), .int (nI 0), .int (nI be), .int wh, .int (nI p2), .int (nI 1), .int (nI f2)])), (aI, .inl (cI, 65536, .inl (fI))), (aB, .inl (cB, 65536, .inl (fB))), (aO, .inl (cO, 67000, .inl (fO))), (aR, .inl (cR, 65536, .inl (g2)))] H locs := h
                    rw [rdB_K d6 (by rw [tf_tx d2]; exact k0), tf_tx d2, tx_len, e3] at he
                    refine lv_aload_n X.1.1 X.1.2.1 zd_Mo_use_49 rfl (lv_at hl 0 rfl) ?_
                    refine rG X h 0 rfl rfl zW_Mo 14 (by decide) zw_507 rfl zd_Mo_use_50 ?_
                    refine lv_if_ne (tgt := 75) X.1.1 X.1.2.1 zd_Mo_use_53 rfl (fun w0 => ?_) (fun w0 => ?_)
                    · have w0 : 1 ≠ 0 := zc_ne0_t (by omega) (by omega) w0
                      have hno : rdA (tx fI n) (tx fB nb) = none := he
                      refine lv_aload_n X.1.1 X.1.2.1 zd_Mo_use_75 rfl (lv_at hl 0 rfl) ?_
                      refine rG X h 0 rfl rfl zW_Mo 14 (by decide) zw_507 rfl zd_Mo_use_76 ?_
                      refine lv_if_ne (tgt := 90) X.1.1 X.1.2.1 zd_Mo_use_79 rfl (fun w1 => ?_) (fun w1 => ?_)
                      · have w1 : 1 ≠ 0 := zc_ne0_t (by omega) (by omega) w1
                        refine lv_aload_n X.1.1 X.1.2.1 zd_Mo_use_90 rfl (lv_at hl 0 rfl) ?_
                        refine lv_dup X.1.1 X.1.2.1 zd_Mo_use_91 rfl ?_
                        refine rG X h 0 rfl rfl zW_Mo 9 (by decide) zw_502 rfl zd_Mo_use_92 ?_
                        refine lv_iconst (v := nI 1) X.1.1 X.1.2.1 zd_Mo_use_95 (by decide) ?_
                        refine lv_iadd X.1.1 X.1.2.1 zd_Mo_use_96 ?_
                        refine zTop (y := nI (dm + 1)) (nI_add _ _) ?_
                        refine rP X h 0 rfl rfl zW_Mo zO_Mo zN_Mo 9 (by decide) zw_502 rfl (rfl) (rfl) (Nat.le_of_ble_eq_true rfl) zd_Mo_use_97 (fun H locs h => ?_)
                        have h : zH D A s [(m0, .inr (4, [.ref aI, .ref aB, .ref aO, .ref aR, .int (nI n), .int (nI nb), .int (nI nm), .int (nI cp), .int (nI frs), .int (nI (dm + 1)), .int (nI 0), .int (nI be), .int wh, .int (nI p2), .int (nI 1), .int (nI f2)])), (aI, .inl (cI, 65536, .inl (fI))), (aB, .inl (cB, 65536, .inl (fB))), (aO, .inl (cO, 67000, .inl (fO))), (aR, .inl (cR, 65536, .inl (g2)))] H locs := h
                        refine lv_aload_n X.1.1 X.1.2.1 zd_Mo_use_100 rfl (lv_at hl 0 rfl) ?_
                        refine lv_iconst (v := nI 1) X.1.1 X.1.2.1 zd_Mo_use_101 (by decide) ?_
                        refine rCi (wr := []) (wf := fun _ => [(m0, .inr (4, [.ref aI, .ref aB, .ref aO, .ref aR, .int (nI n), .int (nI nb), .int (nI nm), .int (nI cp), .int (nI frs), .int (nI (dm + 1)), .int (nI 1), .int (nI be), .int wh, .int (nI p2), .int (nI 1), .int (nI f2)])), (aI, .inl (cI, 65536, .inl (fI))), (aB, .inl (cB, 65536, .inl (fB))), (aO, .inl (cO, 67000, .inl (fO))), (aR, .inl (cR, 65536, .inl (g2)))]) (rest := []) X h hl.1 (zc_Mo_refuse l D (m0 := m0) (aI := aI) (aB := aB) (aO := aO) (aR := aR) (wh := wh) (n := n) (nb := nb) (nm := nm) (cp := cp) (frs := frs) (dm := dm + 1) (th := 0) (be := be) (at_ := p2) (wr := 1) (fi := f2) (fI := fI) (cI := cI) (fB := fB) (cB := cB) (fO := fO) (cO := cO) (fR := g2) (cR := cR) (x := 1)  H.size) zw_550 zw_552 zs_17 zw_5 zm_Mo_refuse zq_Mo_refuse ⟨Nat.le_of_ble_eq_true rfl, Nat.le_of_ble_eq_true rfl⟩ ⟨Nat.le_of_ble_eq_true rfl, Nat.le_of_ble_eq_true rfl⟩ [0, 1, 2, 3] rfl [0, 1, 2, 3, 4] [] [0, 1, 2, 3, 4] rfl (by decide) rfl (by decide) (by decide) (fun _ => rfl) (by decide) 0 rfl rfl rfl (Nat.le_of_ble_eq_true rfl) zd_Mo_use_102 (fun r _ H locs hp h => ?_)
                        obtain ⟨rfl, -⟩ := hp
                        have h : zH D A s [(m0, .inr (4, [.ref aI, .ref aB, .ref aO, .ref aR, .int (nI n), .int (nI nb), .int (nI nm), .int (nI cp), .int (nI frs), .int (nI (dm + 1)), .int (nI 1), .int (nI be), .int wh, .int (nI p2), .int (nI 1), .int (nI f2)])), (aI, .inl (cI, 65536, .inl (fI))), (aB, .inl (cB, 65536, .inl (fB))), (aO, .inl (cO, 67000, .inl (fO))), (aR, .inl (cR, 65536, .inl (g2)))] H locs := h
                        exact ret _ (p2, 1, f2, g2, fO, nm, dm + 1, 1) H locs ls _ (⟨Or.inr ⟨hno, rfl, rfl, rfl, rfl⟩, hfO, hg2⟩) h zd_Mo_use_105
                      · have w1 : 1 = 0 := zc_ne0_f (by omega) (by omega) w1
                        exact absurd w1 (by decide)
                    · have w0 : 1 = 0 := zc_ne0_f (by omega) (by omega) w0
                      exact absurd w0 (by decide)
                  · subst e3w
                    have h : zH D A s [(m0, .inr (4, [.ref aI, .ref aB, .ref aO, .ref aR, .int (nI n), .int (nI nb), .int (nI nm), .int (nI cp), .int (nI frs), .int (nI dm), .int (nI 0), .int (nI be), .int wh, .int (nI p2), .int (nI 0), .int (nI f2)])), (aI, .inl (cI, 65536, .inl (fI))), (aB, .inl (cB, 65536, .inl (fB))), (aO, .inl (cO, 67000, .inl (fO))), (aR, .inl (cR, 65536, .inl (g2)))] H locs := h
                    have hW := rdB_W (T := tx fB nb) (made := tx g f1) (due := v2) (q := q) d6 (by rw [tf_tx d2]; omega)
                    rw [tf_tx d2, tx_len, tx_len] at hW
                    rw [hW.2 e3, ← e4, ← e5] at he
                    exact ih q p2 f2 g2 ls H locs (by omega) (by omega) (hp2) (hf2) (hg2) (he) (lv_sub hl [0, 1, 2] rfl) h
                  · subst e3w
                    have h : zH D A s [(m0, .inr (4, [.ref aI, .ref aB, .ref aO, .ref aR, .int (nI n), .int (nI nb), .int (nI nm), .int (nI cp), .int (nI frs), .int (nI dm), .int (nI 0), .int (nI be), .int wh, .int (nI p2), .int (nI 1), .int (nI f2)])), (aI, .inl (cI, 65536, .inl (fI))), (aB, .inl (cB, 65536, .inl (fB))), (aO, .inl (cO, 67000, .inl (fO))), (aR, .inl (cR, 65536, .inl (g2)))] H locs := h
                    have hW := rdB_W (T := tx fB nb) (made := tx g f1) (due := v2) (q := q) d6 (by rw [tf_tx d2]; omega)
                    rw [tf_tx d2, tx_len, tx_len] at hW
                    rw [hW.1 e3] at he
                    refine lv_aload_n X.1.1 X.1.2.1 zd_Mo_use_49 rfl (lv_at hl 0 rfl) ?_
                    refine rG X h 0 rfl rfl zW_Mo 14 (by decide) zw_507 rfl zd_Mo_use_50 ?_
                    refine lv_if_ne (tgt := 75) X.1.1 X.1.2.1 zd_Mo_use_53 rfl (fun w0 => ?_) (fun w0 => ?_)
                    · have w0 : 1 ≠ 0 := zc_ne0_t (by omega) (by omega) w0
                      have hno : rdA (tx fI n) (tx fB nb) = none := he
                      refine lv_aload_n X.1.1 X.1.2.1 zd_Mo_use_75 rfl (lv_at hl 0 rfl) ?_
                      refine rG X h 0 rfl rfl zW_Mo 14 (by decide) zw_507 rfl zd_Mo_use_76 ?_
                      refine lv_if_ne (tgt := 90) X.1.1 X.1.2.1 zd_Mo_use_79 rfl (fun w1 => ?_) (fun w1 => ?_)
                      · have w1 : 1 ≠ 0 := zc_ne0_t (by omega) (by omega) w1
                        refine lv_aload_n X.1.1 X.1.2.1 zd_Mo_use_90 rfl (lv_at hl 0 rfl) ?_
                        refine lv_dup X.1.1 X.1.2.1 zd_Mo_use_91 rfl ?_
                        refine rG X h 0 rfl rfl zW_Mo 9 (by decide) zw_502 rfl zd_Mo_use_92 ?_
                        refine lv_iconst (v := nI 1) X.1.1 X.1.2.1 zd_Mo_use_95 (by decide) ?_
                        refine lv_iadd X.1.1 X.1.2.1 zd_Mo_use_96 ?_
                        refine zTop (y := nI (dm + 1)) (nI_add _ _) ?_
                        refine rP X h 0 rfl rfl zW_Mo zO_Mo zN_Mo 9 (by decide) zw_502 rfl (rfl) (rfl) (Nat.le_of_ble_eq_true rfl) zd_Mo_use_97 (fun H locs h => ?_)
                        have h : zH D A s [(m0, .inr (4, [.ref aI, .ref aB, .ref aO, .ref aR, .int (nI n), .int (nI nb), .int (nI nm), .int (nI cp), .int (nI frs), .int (nI (dm + 1)), .int (nI 0), .int (nI be), .int wh, .int (nI p2), .int (nI 1), .int (nI f2)])), (aI, .inl (cI, 65536, .inl (fI))), (aB, .inl (cB, 65536, .inl (fB))), (aO, .inl (cO, 67000, .inl (fO))), (aR, .inl (cR, 65536, .inl (g2)))] H locs := h
                        refine lv_aload_n X.1.1 X.1.2.1 zd_Mo_use_100 rfl (lv_at hl 0 rfl) ?_
                        refine lv_iconst (v := nI 1) X.1.1 X.1.2.1 zd_Mo_use_101 (by decide) ?_
                        refine rCi (wr := []) (wf := fun _ => [(m0, .inr (4, [.ref aI, .ref aB, .ref aO, .ref aR, .int (nI n), .int (nI nb), .int (nI nm), .int (nI cp), .int (nI frs), .int (nI (dm + 1)), .int (nI 1), .int (nI be), .int wh, .int (nI p2), .int (nI 1), .int (nI f2)])), (aI, .inl (cI, 65536, .inl (fI))), (aB, .inl (cB, 65536, .inl (fB))), (aO, .inl (cO, 67000, .inl (fO))), (aR, .inl (cR, 65536, .inl (g2)))]) (rest := []) X h hl.1 (zc_Mo_refuse l D (m0 := m0) (aI := aI) (aB := aB) (aO := aO) (aR := aR) (wh := wh) (n := n) (nb := nb) (nm := nm) (cp := cp) (frs := frs) (dm := dm + 1) (th := 0) (be := be) (at_ := p2) (wr := 1) (fi := f2) (fI := fI) (cI := cI) (fB := fB) (cB := cB) (fO := fO) (cO := cO) (fR := g2) (cR := cR) (x := 1)  H.size) zw_550 zw_552 zs_17 zw_5 zm_Mo_refuse zq_Mo_refuse ⟨Nat.le_of_ble_eq_true rfl, Nat.le_of_ble_eq_true rfl⟩ ⟨Nat.le_of_ble_eq_true rfl, Nat.le_of_ble_eq_true rfl⟩ [0, 1, 2, 3] rfl [0, 1, 2, 3, 4] [] [0, 1, 2, 3, 4] rfl (by decide) rfl (by decide) (by decide) (fun _ => rfl) (by decide) 0 rfl rfl rfl (Nat.le_of_ble_eq_true rfl) zd_Mo_use_102 (fun r _ H locs hp h => ?_)
                        obtain ⟨rfl, -⟩ := hp
                        have h : zH D A s [(m0, .inr (4, [.ref aI, .ref aB, .ref aO, .ref aR, .int (nI n), .int (nI nb), .int (nI nm), .int (nI cp), .int (nI frs), .int (nI (dm + 1)), .int (nI 1), .int (nI be), .int wh, .int (nI p2), .int (nI 1), .int (nI f2)])), (aI, .inl (cI, 65536, .inl (fI))), (aB, .inl (cB, 65536, .inl (fB))), (aO, .inl (cO, 67000, .inl (fO))), (aR, .inl (cR, 65536, .inl (g2)))] H locs := h
                        exact ret _ (p2, 1, f2, g2, fO, nm, dm + 1, 1) H locs ls _ (⟨Or.inr ⟨hno, rfl, rfl, rfl, rfl⟩, hfO, hg2⟩) h zd_Mo_use_105
                      · have w1 : 1 = 0 := zc_ne0_f (by omega) (by omega) w1
                        exact absurd w1 (by decide)
                    · have w0 : 1 = 0 := zc_ne0_f (by omega) (by omega) w0
                      exact absurd w0 (by decide)
          exact loop _ (n + 1) a2 0 fR ls H locs (Nat.lt_succ_self _) (by omega) (ha2) (by omega) (hfR) (hA) (lv_sub hl [2, 1, 0] rfl) h
        · have c2 : 65536 < v2 := zc_le_f (by omega) (by omega) c2
          refine lv_aload_n X.1.1 X.1.2.1 zd_Mo_use_44 rfl (lv_at hl 2 rfl) ?_
          refine lv_iconst (v := nI 1) X.1.1 X.1.2.1 zd_Mo_use_45 (by decide) ?_
          refine rP X h 0 rfl rfl zW_Mo zO_Mo zN_Mo 14 (by decide) zw_507 rfl (rfl) (rfl) (Nat.le_of_ble_eq_true rfl) zd_Mo_use_46 (fun H locs h => ?_)
          have h : zH D A s [(m0, .inr (4, [.ref aI, .ref aB, .ref aO, .ref aR, .int (nI n), .int (nI nb), .int (nI nm), .int (nI cp), .int (nI frs), .int (nI dm), .int (nI 0), .int (nI be), .int wh, .int (nI a2), .int (nI 1), .int (nI 0)])), (aI, .inl (cI, 65536, .inl (fI))), (aB, .inl (cB, 65536, .inl (fB))), (aO, .inl (cO, 67000, .inl (fO))), (aR, .inl (cR, 65536, .inl (fR)))] H locs := h
          refine lv_aload_n X.1.1 X.1.2.1 zd_Mo_use_49 rfl (lv_at hl 2 rfl) ?_
          refine rG X h 0 rfl rfl zW_Mo 14 (by decide) zw_507 rfl zd_Mo_use_50 ?_
          refine lv_if_ne (tgt := 75) X.1.1 X.1.2.1 zd_Mo_use_53 rfl (fun w0 => ?_) (fun w0 => ?_)
          · have w0 : 1 ≠ 0 := zc_ne0_t (by omega) (by omega) w0
            have hno : rdA (tx fI n) (tx fB nb) = none := by unfold rdA; rw [e1]; dsimp only; rw [tx_len, if_pos c1, e2]; dsimp only; rw [if_neg (by omega)]
            refine lv_aload_n X.1.1 X.1.2.1 zd_Mo_use_75 rfl (lv_at hl 2 rfl) ?_
            refine rG X h 0 rfl rfl zW_Mo 14 (by decide) zw_507 rfl zd_Mo_use_76 ?_
            refine lv_if_ne (tgt := 90) X.1.1 X.1.2.1 zd_Mo_use_79 rfl (fun w1 => ?_) (fun w1 => ?_)
            · have w1 : 1 ≠ 0 := zc_ne0_t (by omega) (by omega) w1
              refine lv_aload_n X.1.1 X.1.2.1 zd_Mo_use_90 rfl (lv_at hl 2 rfl) ?_
              refine lv_dup X.1.1 X.1.2.1 zd_Mo_use_91 rfl ?_
              refine rG X h 0 rfl rfl zW_Mo 9 (by decide) zw_502 rfl zd_Mo_use_92 ?_
              refine lv_iconst (v := nI 1) X.1.1 X.1.2.1 zd_Mo_use_95 (by decide) ?_
              refine lv_iadd X.1.1 X.1.2.1 zd_Mo_use_96 ?_
              refine zTop (y := nI (dm + 1)) (nI_add _ _) ?_
              refine rP X h 0 rfl rfl zW_Mo zO_Mo zN_Mo 9 (by decide) zw_502 rfl (rfl) (rfl) (Nat.le_of_ble_eq_true rfl) zd_Mo_use_97 (fun H locs h => ?_)
              have h : zH D A s [(m0, .inr (4, [.ref aI, .ref aB, .ref aO, .ref aR, .int (nI n), .int (nI nb), .int (nI nm), .int (nI cp), .int (nI frs), .int (nI (dm + 1)), .int (nI 0), .int (nI be), .int wh, .int (nI a2), .int (nI 1), .int (nI 0)])), (aI, .inl (cI, 65536, .inl (fI))), (aB, .inl (cB, 65536, .inl (fB))), (aO, .inl (cO, 67000, .inl (fO))), (aR, .inl (cR, 65536, .inl (fR)))] H locs := h
              refine lv_aload_n X.1.1 X.1.2.1 zd_Mo_use_100 rfl (lv_at hl 2 rfl) ?_
              refine lv_iconst (v := nI 1) X.1.1 X.1.2.1 zd_Mo_use_101 (by decide) ?_
              refine rCi (wr := []) (wf := fun _ => [(m0, .inr (4, [.ref aI, .ref aB, .ref aO, .ref aR, .int (nI n), .int (nI nb), .int (nI nm), .int (nI cp), .int (nI frs), .int (nI (dm + 1)), .int (nI 1), .int (nI be), .int wh, .int (nI a2), .int (nI 1), .int (nI 0)])), (aI, .inl (cI, 65536, .inl (fI))), (aB, .inl (cB, 65536, .inl (fB))), (aO, .inl (cO, 67000, .inl (fO))), (aR, .inl (cR, 65536, .inl (fR)))]) (rest := []) X h hl.1 (zc_Mo_refuse l D (m0 := m0) (aI := aI) (aB := aB) (aO := aO) (aR := aR) (wh := wh) (n := n) (nb := nb) (nm := nm) (cp := cp) (frs := frs) (dm := dm + 1) (th := 0) (be := be) (at_ := a2) (wr := 1) (fi := 0) (fI := fI) (cI := cI) (fB := fB) (cB := cB) (fO := fO) (cO := cO) (fR := fR) (cR := cR) (x := 1)  H.size) zw_550 zw_552 zs_17 zw_5 zm_Mo_refuse zq_Mo_refuse ⟨Nat.le_of_ble_eq_true rfl, Nat.le_of_ble_eq_true rfl⟩ ⟨Nat.le_of_ble_eq_true rfl, Nat.le_of_ble_eq_true rfl⟩ [0, 1, 2, 3] rfl [0, 1, 2, 3, 4] [] [0, 1, 2, 3, 4] rfl (by decide) rfl (by decide) (by decide) (fun _ => rfl) (by decide) 0 rfl rfl rfl (Nat.le_of_ble_eq_true rfl) zd_Mo_use_102 (fun r _ H locs hp h => ?_)
              obtain ⟨rfl, -⟩ := hp
              have h : zH D A s [(m0, .inr (4, [.ref aI, .ref aB, .ref aO, .ref aR, .int (nI n), .int (nI nb), .int (nI nm), .int (nI cp), .int (nI frs), .int (nI (dm + 1)), .int (nI 1), .int (nI be), .int wh, .int (nI a2), .int (nI 1), .int (nI 0)])), (aI, .inl (cI, 65536, .inl (fI))), (aB, .inl (cB, 65536, .inl (fB))), (aO, .inl (cO, 67000, .inl (fO))), (aR, .inl (cR, 65536, .inl (fR)))] H locs := h
              exact ret _ (a2, 1, 0, fR, fO, nm, dm + 1, 1) H locs ls _ (⟨Or.inr ⟨hno, rfl, rfl, rfl, rfl⟩, hfO, hfR⟩) h zd_Mo_use_105
            · have w1 : 1 = 0 := zc_ne0_f (by omega) (by omega) w1
              exact absurd w1 (by decide)
          · have w0 : 1 = 0 := zc_ne0_f (by omega) (by omega) w0
            exact absurd w0 (by decide)
    · have e2w : w2 = 1 := e2w
      subst e2w
      have h : zH D A s [(m0, .inr (4, [.ref aI, .ref aB, .ref aO, .ref aR, .int (nI n), .int (nI nb), .int (nI nm), .int (nI cp), .int (nI frs), .int (nI dm), .int (nI 0), .int (nI be), .int wh, .int (nI a2), .int (nI 1), .int (nI 0)])), (aI, .inl (cI, 65536, .inl (fI))), (aB, .inl (cB, 65536, .inl (fB))), (aO, .inl (cO, 67000, .inl (fO))), (aR, .inl (cR, 65536, .inl (fR)))] H locs := h
      have e2 : rdN (tx fI n) 4 0 a1 0 = none := e2
      refine lv_istore_n X.1.1 X.1.2.1 zd_Mo_use_29 rfl hl (by decide) rfl (fun ls hl => ?_)
      have hl : lv_has ls 4 [(2, .int r2), (1, .int (nI v1)), (0, .ref m0)] := hl
      refine lv_iload_n X.1.1 X.1.2.1 zd_Mo_use_30 rfl (lv_at hl 1 rfl) ?_
      refine lv_aload_n X.1.1 X.1.2.1 zd_Mo_use_31 rfl (lv_at hl 2 rfl) ?_
      refine rG X h 0 rfl rfl zW_Mo 5 (by decide) zw_498 rfl zd_Mo_use_32 ?_
      refine lv_icmp_ne (tgt := 44) X.1.1 X.1.2.1 zd_Mo_use_35 rfl (fun c1 => ?_) (fun c1 => ?_)
      · have c1 : v1 ≠ nb := zc_ne_t (by omega) (by omega) c1
        refine lv_aload_n X.1.1 X.1.2.1 zd_Mo_use_44 rfl (lv_at hl 2 rfl) ?_
        refine lv_iconst (v := nI 1) X.1.1 X.1.2.1 zd_Mo_use_45 (by decide) ?_
        refine rP X h 0 rfl rfl zW_Mo zO_Mo zN_Mo 14 (by decide) zw_507 rfl (rfl) (rfl) (Nat.le_of_ble_eq_true rfl) zd_Mo_use_46 (fun H locs h => ?_)
        have h : zH D A s [(m0, .inr (4, [.ref aI, .ref aB, .ref aO, .ref aR, .int (nI n), .int (nI nb), .int (nI nm), .int (nI cp), .int (nI frs), .int (nI dm), .int (nI 0), .int (nI be), .int wh, .int (nI a2), .int (nI 1), .int (nI 0)])), (aI, .inl (cI, 65536, .inl (fI))), (aB, .inl (cB, 65536, .inl (fB))), (aO, .inl (cO, 67000, .inl (fO))), (aR, .inl (cR, 65536, .inl (fR)))] H locs := h
        refine lv_aload_n X.1.1 X.1.2.1 zd_Mo_use_49 rfl (lv_at hl 2 rfl) ?_
        refine rG X h 0 rfl rfl zW_Mo 14 (by decide) zw_507 rfl zd_Mo_use_50 ?_
        refine lv_if_ne (tgt := 75) X.1.1 X.1.2.1 zd_Mo_use_53 rfl (fun w0 => ?_) (fun w0 => ?_)
        · have w0 : 1 ≠ 0 := zc_ne0_t (by omega) (by omega) w0
          have hno : rdA (tx fI n) (tx fB nb) = none := by
              unfold rdA; rw [e1]; dsimp only
              split
              · rw [e2]
              · rfl
          refine lv_aload_n X.1.1 X.1.2.1 zd_Mo_use_75 rfl (lv_at hl 2 rfl) ?_
          refine rG X h 0 rfl rfl zW_Mo 14 (by decide) zw_507 rfl zd_Mo_use_76 ?_
          refine lv_if_ne (tgt := 90) X.1.1 X.1.2.1 zd_Mo_use_79 rfl (fun w1 => ?_) (fun w1 => ?_)
          · have w1 : 1 ≠ 0 := zc_ne0_t (by omega) (by omega) w1
            refine lv_aload_n X.1.1 X.1.2.1 zd_Mo_use_90 rfl (lv_at hl 2 rfl) ?_
            refine lv_dup X.1.1 X.1.2.1 zd_Mo_use_91 rfl ?_
            refine rG X h 0 rfl rfl zW_Mo 9 (by decide) zw_502 rfl zd_Mo_use_92 ?_
            refine lv_iconst (v := nI 1) X.1.1 X.1.2.1 zd_Mo_use_95 (by decide) ?_
            refine lv_iadd X.1.1 X.1.2.1 zd_Mo_use_96 ?_
            refine zTop (y := nI (dm + 1)) (nI_add _ _) ?_
            refine rP X h 0 rfl rfl zW_Mo zO_Mo zN_Mo 9 (by decide) zw_502 rfl (rfl) (rfl) (Nat.le_of_ble_eq_true rfl) zd_Mo_use_97 (fun H locs h => ?_)
            have h : zH D A s [(m0, .inr (4, [.ref aI, .ref aB, .ref aO, .ref aR, .int (nI n), .int (nI nb), .int (nI nm), .int (nI cp), .int (nI frs), .int (nI (dm + 1)), .int (nI 0), .int (nI be), .int wh, .int (nI a2), .int (nI 1), .int (nI 0)])), (aI, .inl (cI, 65536, .inl (fI))), (aB, .inl (cB, 65536, .inl (fB))), (aO, .inl (cO, 67000, .inl (fO))), (aR, .inl (cR, 65536, .inl (fR)))] H locs := h
            refine lv_aload_n X.1.1 X.1.2.1 zd_Mo_use_100 rfl (lv_at hl 2 rfl) ?_
            refine lv_iconst (v := nI 1) X.1.1 X.1.2.1 zd_Mo_use_101 (by decide) ?_
            refine rCi (wr := []) (wf := fun _ => [(m0, .inr (4, [.ref aI, .ref aB, .ref aO, .ref aR, .int (nI n), .int (nI nb), .int (nI nm), .int (nI cp), .int (nI frs), .int (nI (dm + 1)), .int (nI 1), .int (nI be), .int wh, .int (nI a2), .int (nI 1), .int (nI 0)])), (aI, .inl (cI, 65536, .inl (fI))), (aB, .inl (cB, 65536, .inl (fB))), (aO, .inl (cO, 67000, .inl (fO))), (aR, .inl (cR, 65536, .inl (fR)))]) (rest := []) X h hl.1 (zc_Mo_refuse l D (m0 := m0) (aI := aI) (aB := aB) (aO := aO) (aR := aR) (wh := wh) (n := n) (nb := nb) (nm := nm) (cp := cp) (frs := frs) (dm := dm + 1) (th := 0) (be := be) (at_ := a2) (wr := 1) (fi := 0) (fI := fI) (cI := cI) (fB := fB) (cB := cB) (fO := fO) (cO := cO) (fR := fR) (cR := cR) (x := 1)  H.size) zw_550 zw_552 zs_17 zw_5 zm_Mo_refuse zq_Mo_refuse ⟨Nat.le_of_ble_eq_true rfl, Nat.le_of_ble_eq_true rfl⟩ ⟨Nat.le_of_ble_eq_true rfl, Nat.le_of_ble_eq_true rfl⟩ [0, 1, 2, 3] rfl [0, 1, 2, 3, 4] [] [0, 1, 2, 3, 4] rfl (by decide) rfl (by decide) (by decide) (fun _ => rfl) (by decide) 0 rfl rfl rfl (Nat.le_of_ble_eq_true rfl) zd_Mo_use_102 (fun r _ H locs hp h => ?_)
            obtain ⟨rfl, -⟩ := hp
            have h : zH D A s [(m0, .inr (4, [.ref aI, .ref aB, .ref aO, .ref aR, .int (nI n), .int (nI nb), .int (nI nm), .int (nI cp), .int (nI frs), .int (nI (dm + 1)), .int (nI 1), .int (nI be), .int wh, .int (nI a2), .int (nI 1), .int (nI 0)])), (aI, .inl (cI, 65536, .inl (fI))), (aB, .inl (cB, 65536, .inl (fB))), (aO, .inl (cO, 67000, .inl (fO))), (aR, .inl (cR, 65536, .inl (fR)))] H locs := h
            exact ret _ (a2, 1, 0, fR, fO, nm, dm + 1, 1) H locs ls _ (⟨Or.inr ⟨hno, rfl, rfl, rfl, rfl⟩, hfO, hfR⟩) h zd_Mo_use_105
          · have w1 : 1 = 0 := zc_ne0_f (by omega) (by omega) w1
            exact absurd w1 (by decide)
        · have w0 : 1 = 0 := zc_ne0_f (by omega) (by omega) w0
          exact absurd w0 (by decide)
      · have c1 : v1 = nb := zc_ne_f (by omega) (by omega) c1
        refine lv_iload_n X.1.1 X.1.2.1 zd_Mo_use_38 rfl (lv_at hl 0 rfl) ?_
        refine lv_ldc X.1.1 X.1.2.1 X.1.2.2.2.1 (X.1.2.2.2.2 _ zw_491) zd_Mo_use_39 ?_
        refine zTop (y := nI 65536) (by decide) ?_
        refine lv_icmp_le (tgt := 49) X.1.1 X.1.2.1 zd_Mo_use_41 rfl (fun c2 => ?_) (fun c2 => ?_)
        · refine lv_aload_n X.1.1 X.1.2.1 zd_Mo_use_49 rfl (lv_at hl 2 rfl) ?_
          refine rG X h 0 rfl rfl zW_Mo 14 (by decide) zw_507 rfl zd_Mo_use_50 ?_
          refine lv_if_ne (tgt := 75) X.1.1 X.1.2.1 zd_Mo_use_53 rfl (fun w0 => ?_) (fun w0 => ?_)
          · have w0 : 1 ≠ 0 := zc_ne0_t (by omega) (by omega) w0
            have hno : rdA (tx fI n) (tx fB nb) = none := by
                unfold rdA; rw [e1]; dsimp only
                split
                · rw [e2]
                · rfl
            refine lv_aload_n X.1.1 X.1.2.1 zd_Mo_use_75 rfl (lv_at hl 2 rfl) ?_
            refine rG X h 0 rfl rfl zW_Mo 14 (by decide) zw_507 rfl zd_Mo_use_76 ?_
            refine lv_if_ne (tgt := 90) X.1.1 X.1.2.1 zd_Mo_use_79 rfl (fun w1 => ?_) (fun w1 => ?_)
            · have w1 : 1 ≠ 0 := zc_ne0_t (by omega) (by omega) w1
              refine lv_aload_n X.1.1 X.1.2.1 zd_Mo_use_90 rfl (lv_at hl 2 rfl) ?_
              refine lv_dup X.1.1 X.1.2.1 zd_Mo_use_91 rfl ?_
              refine rG X h 0 rfl rfl zW_Mo 9 (by decide) zw_502 rfl zd_Mo_use_92 ?_
              refine lv_iconst (v := nI 1) X.1.1 X.1.2.1 zd_Mo_use_95 (by decide) ?_
              refine lv_iadd X.1.1 X.1.2.1 zd_Mo_use_96 ?_
              refine zTop (y := nI (dm + 1)) (nI_add _ _) ?_
              refine rP X h 0 rfl rfl zW_Mo zO_Mo zN_Mo 9 (by decide) zw_502 rfl (rfl) (rfl) (Nat.le_of_ble_eq_true rfl) zd_Mo_use_97 (fun H locs h => ?_)
              have h : zH D A s [(m0, .inr (4, [.ref aI, .ref aB, .ref aO, .ref aR, .int (nI n), .int (nI nb), .int (nI nm), .int (nI cp), .int (nI frs), .int (nI (dm + 1)), .int (nI 0), .int (nI be), .int wh, .int (nI a2), .int (nI 1), .int (nI 0)])), (aI, .inl (cI, 65536, .inl (fI))), (aB, .inl (cB, 65536, .inl (fB))), (aO, .inl (cO, 67000, .inl (fO))), (aR, .inl (cR, 65536, .inl (fR)))] H locs := h
              refine lv_aload_n X.1.1 X.1.2.1 zd_Mo_use_100 rfl (lv_at hl 2 rfl) ?_
              refine lv_iconst (v := nI 1) X.1.1 X.1.2.1 zd_Mo_use_101 (by decide) ?_
              refine rCi (wr := []) (wf := fun _ => [(m0, .inr (4, [.ref aI, .ref aB, .ref aO, .ref aR, .int (nI n), .int (nI nb), .int (nI nm), .int (nI cp), .int (nI frs), .int (nI (dm + 1)), .int (nI 1), .int (nI be), .int wh, .int (nI a2), .int (nI 1), .int (nI 0)])), (aI, .inl (cI, 65536, .inl (fI))), (aB, .inl (cB, 65536, .inl (fB))), (aO, .inl (cO, 67000, .inl (fO))), (aR, .inl (cR, 65536, .inl (fR)))]) (rest := []) X h hl.1 (zc_Mo_refuse l D (m0 := m0) (aI := aI) (aB := aB) (aO := aO) (aR := aR) (wh := wh) (n := n) (nb := nb) (nm := nm) (cp := cp) (frs := frs) (dm := dm + 1) (th := 0) (be := be) (at_ := a2) (wr := 1) (fi := 0) (fI := fI) (cI := cI) (fB := fB) (cB := cB) (fO := fO) (cO := cO) (fR := fR) (cR := cR) (x := 1)  H.size) zw_550 zw_552 zs_17 zw_5 zm_Mo_refuse zq_Mo_refuse ⟨Nat.le_of_ble_eq_true rfl, Nat.le_of_ble_eq_true rfl⟩ ⟨Nat.le_of_ble_eq_true rfl, Nat.le_of_ble_eq_true rfl⟩ [0, 1, 2, 3] rfl [0, 1, 2, 3, 4] [] [0, 1, 2, 3, 4] rfl (by decide) rfl (by decide) (by decide) (fun _ => rfl) (by decide) 0 rfl rfl rfl (Nat.le_of_ble_eq_true rfl) zd_Mo_use_102 (fun r _ H locs hp h => ?_)
              obtain ⟨rfl, -⟩ := hp
              have h : zH D A s [(m0, .inr (4, [.ref aI, .ref aB, .ref aO, .ref aR, .int (nI n), .int (nI nb), .int (nI nm), .int (nI cp), .int (nI frs), .int (nI (dm + 1)), .int (nI 1), .int (nI be), .int wh, .int (nI a2), .int (nI 1), .int (nI 0)])), (aI, .inl (cI, 65536, .inl (fI))), (aB, .inl (cB, 65536, .inl (fB))), (aO, .inl (cO, 67000, .inl (fO))), (aR, .inl (cR, 65536, .inl (fR)))] H locs := h
              exact ret _ (a2, 1, 0, fR, fO, nm, dm + 1, 1) H locs ls _ (⟨Or.inr ⟨hno, rfl, rfl, rfl, rfl⟩, hfO, hfR⟩) h zd_Mo_use_105
            · have w1 : 1 = 0 := zc_ne0_f (by omega) (by omega) w1
              exact absurd w1 (by decide)
          · have w0 : 1 = 0 := zc_ne0_f (by omega) (by omega) w0
            exact absurd w0 (by decide)
        · refine lv_aload_n X.1.1 X.1.2.1 zd_Mo_use_44 rfl (lv_at hl 2 rfl) ?_
          refine lv_iconst (v := nI 1) X.1.1 X.1.2.1 zd_Mo_use_45 (by decide) ?_
          refine rP X h 0 rfl rfl zW_Mo zO_Mo zN_Mo 14 (by decide) zw_507 rfl (rfl) (rfl) (Nat.le_of_ble_eq_true rfl) zd_Mo_use_46 (fun H locs h => ?_)
          have h : zH D A s [(m0, .inr (4, [.ref aI, .ref aB, .ref aO, .ref aR, .int (nI n), .int (nI nb), .int (nI nm), .int (nI cp), .int (nI frs), .int (nI dm), .int (nI 0), .int (nI be), .int wh, .int (nI a2), .int (nI 1), .int (nI 0)])), (aI, .inl (cI, 65536, .inl (fI))), (aB, .inl (cB, 65536, .inl (fB))), (aO, .inl (cO, 67000, .inl (fO))), (aR, .inl (cR, 65536, .inl (fR)))] H locs := h
          refine lv_aload_n X.1.1 X.1.2.1 zd_Mo_use_49 rfl (lv_at hl 2 rfl) ?_
          refine rG X h 0 rfl rfl zW_Mo 14 (by decide) zw_507 rfl zd_Mo_use_50 ?_
          refine lv_if_ne (tgt := 75) X.1.1 X.1.2.1 zd_Mo_use_53 rfl (fun w0 => ?_) (fun w0 => ?_)
          · have w0 : 1 ≠ 0 := zc_ne0_t (by omega) (by omega) w0
            have hno : rdA (tx fI n) (tx fB nb) = none := by
                unfold rdA; rw [e1]; dsimp only
                split
                · rw [e2]
                · rfl
            refine lv_aload_n X.1.1 X.1.2.1 zd_Mo_use_75 rfl (lv_at hl 2 rfl) ?_
            refine rG X h 0 rfl rfl zW_Mo 14 (by decide) zw_507 rfl zd_Mo_use_76 ?_
            refine lv_if_ne (tgt := 90) X.1.1 X.1.2.1 zd_Mo_use_79 rfl (fun w1 => ?_) (fun w1 => ?_)
            · have w1 : 1 ≠ 0 := zc_ne0_t (by omega) (by omega) w1
              refine lv_aload_n X.1.1 X.1.2.1 zd_Mo_use_90 rfl (lv_at hl 2 rfl) ?_
              refine lv_dup X.1.1 X.1.2.1 zd_Mo_use_91 rfl ?_
              refine rG X h 0 rfl rfl zW_Mo 9 (by decide) zw_502 rfl zd_Mo_use_92 ?_
              refine lv_iconst (v := nI 1) X.1.1 X.1.2.1 zd_Mo_use_95 (by decide) ?_
              refine lv_iadd X.1.1 X.1.2.1 zd_Mo_use_96 ?_
              refine zTop (y := nI (dm + 1)) (nI_add _ _) ?_
              refine rP X h 0 rfl rfl zW_Mo zO_Mo zN_Mo 9 (by decide) zw_502 rfl (rfl) (rfl) (Nat.le_of_ble_eq_true rfl) zd_Mo_use_97 (fun H locs h => ?_)
              have h : zH D A s [(m0, .inr (4, [.ref aI, .ref aB, .ref aO, .ref aR, .int (nI n), .int (nI nb), .int (nI nm), .int (nI cp), .int (nI frs), .int (nI (dm + 1)), .int (nI 0), .int (nI be), .int wh, .int (nI a2), .int (nI 1), .int (nI 0)])), (aI, .inl (cI, 65536, .inl (fI))), (aB, .inl (cB, 65536, .inl (fB))), (aO, .inl (cO, 67000, .inl (fO))), (aR, .inl (cR, 65536, .inl (fR)))] H locs := h
              refine lv_aload_n X.1.1 X.1.2.1 zd_Mo_use_100 rfl (lv_at hl 2 rfl) ?_
              refine lv_iconst (v := nI 1) X.1.1 X.1.2.1 zd_Mo_use_101 (by decide) ?_
              refine rCi (wr := []) (wf := fun _ => [(m0, .inr (4, [.ref aI, .ref aB, .ref aO, .ref aR, .int (nI n), .int (nI nb), .int (nI nm), .int (nI cp), .int (nI frs), .int (nI (dm + 1)), .int (nI 1), .int (nI be), .int wh, .int (nI a2), .int (nI 1), .int (nI 0)])), (aI, .inl (cI, 65536, .inl (fI))), (aB, .inl (cB, 65536, .inl (fB))), (aO, .inl (cO, 67000, .inl (fO))), (aR, .inl (cR, 65536, .inl (fR)))]) (rest := []) X h hl.1 (zc_Mo_refuse l D (m0 := m0) (aI := aI) (aB := aB) (aO := aO) (aR := aR) (wh := wh) (n := n) (nb := nb) (nm := nm) (cp := cp) (frs := frs) (dm := dm + 1) (th := 0) (be := be) (at_ := a2) (wr := 1) (fi := 0) (fI := fI) (cI := cI) (fB := fB) (cB := cB) (fO := fO) (cO := cO) (fR := fR) (cR := cR) (x := 1)  H.size) zw_550 zw_552 zs_17 zw_5 zm_Mo_refuse zq_Mo_refuse ⟨Nat.le_of_ble_eq_true rfl, Nat.le_of_ble_eq_true rfl⟩ ⟨Nat.le_of_ble_eq_true rfl, Nat.le_of_ble_eq_true rfl⟩ [0, 1, 2, 3] rfl [0, 1, 2, 3, 4] [] [0, 1, 2, 3, 4] rfl (by decide) rfl (by decide) (by decide) (fun _ => rfl) (by decide) 0 rfl rfl rfl (Nat.le_of_ble_eq_true rfl) zd_Mo_use_102 (fun r _ H locs hp h => ?_)
              obtain ⟨rfl, -⟩ := hp
              have h : zH D A s [(m0, .inr (4, [.ref aI, .ref aB, .ref aO, .ref aR, .int (nI n), .int (nI nb), .int (nI nm), .int (nI cp), .int (nI frs), .int (nI (dm + 1)), .int (nI 1), .int (nI be), .int wh, .int (nI a2), .int (nI 1), .int (nI 0)])), (aI, .inl (cI, 65536, .inl (fI))), (aB, .inl (cB, 65536, .inl (fB))), (aO, .inl (cO, 67000, .inl (fO))), (aR, .inl (cR, 65536, .inl (fR)))] H locs := h
              exact ret _ (a2, 1, 0, fR, fO, nm, dm + 1, 1) H locs ls _ (⟨Or.inr ⟨hno, rfl, rfl, rfl, rfl⟩, hfO, hfR⟩) h zd_Mo_use_105
            · have w1 : 1 = 0 := zc_ne0_f (by omega) (by omega) w1
              exact absurd w1 (by decide)
          · have w0 : 1 = 0 := zc_ne0_f (by omega) (by omega) w0
            exact absurd w0 (by decide)
  · have e1w : w1 = 1 := e1w
    subst e1w
    have h : zH D A s [(m0, .inr (4, [.ref aI, .ref aB, .ref aO, .ref aR, .int (nI n), .int (nI nb), .int (nI nm), .int (nI cp), .int (nI frs), .int (nI dm), .int (nI 0), .int (nI be), .int wh, .int (nI a1), .int (nI 1), .int (nI 0)])), (aI, .inl (cI, 65536, .inl (fI))), (aB, .inl (cB, 65536, .inl (fB))), (aO, .inl (cO, 67000, .inl (fO))), (aR, .inl (cR, 65536, .inl (fR)))] H locs := h
    refine lv_istore_n X.1.1 X.1.2.1 zd_Mo_use_24 rfl hl (by decide) rfl (fun ls hl => ?_)
    have hl : lv_has ls 4 [(1, .int r1), (0, .ref m0)] := hl
    refine lv_aload_n X.1.1 X.1.2.1 zd_Mo_use_25 rfl (lv_at hl 1 rfl) ?_
    refine rCi (wr := []) (wf := fun _ => [(m0, .inr (4, [.ref aI, .ref aB, .ref aO, .ref aR, .int (nI n), .int (nI nb), .int (nI nm), .int (nI cp), .int (nI frs), .int (nI dm), .int (nI 0), .int (nI be), .int wh, .int (nI a1), .int (nI 1), .int (nI 0)])), (aI, .inl (cI, 65536, .inl (fI))), (aB, .inl (cB, 65536, .inl (fB))), (aO, .inl (cO, 67000, .inl (fO))), (aR, .inl (cR, 65536, .inl (fR)))]) (rest := []) X h hl.1 (zc_Mo_numberN l D (m0 := m0) (aI := aI) (aB := aB) (aO := aO) (aR := aR) (wh := wh) (n := n) (nb := nb) (nm := nm) (cp := cp) (frs := frs) (dm := dm) (th := 0) (be := be) (at_ := a1) (wr := 1) (fi := 0) (fI := fI) (cI := cI) (fB := fB) (cB := cB) (fO := fO) (cO := cO) (fR := fR) (cR := cR) (rfl) (ha1) (hn) H.size) zw_595 zw_597 zs_23 zw_5 zm_Mo_number zq_Mo_number ⟨Nat.le_of_ble_eq_true rfl, Nat.le_of_ble_eq_true rfl⟩ ⟨Nat.le_of_ble_eq_true rfl, Nat.le_of_ble_eq_true rfl⟩ [0, 1, 2, 3] rfl [0, 1, 2, 3, 4] [] [0, 1, 2, 3, 4] rfl (by decide) rfl (by decide) (by decide) (fun _ => rfl) (by decide) 0 rfl rfl rfl (Nat.le_of_ble_eq_true rfl) zd_Mo_use_26 (fun r _ H locs hp h => ?_)
    obtain ⟨rfl, -⟩ := hp
    have h : zH D A s [(m0, .inr (4, [.ref aI, .ref aB, .ref aO, .ref aR, .int (nI n), .int (nI nb), .int (nI nm), .int (nI cp), .int (nI frs), .int (nI dm), .int (nI 0), .int (nI be), .int wh, .int (nI a1), .int (nI 1), .int (nI 0)])), (aI, .inl (cI, 65536, .inl (fI))), (aB, .inl (cB, 65536, .inl (fB))), (aO, .inl (cO, 67000, .inl (fO))), (aR, .inl (cR, 65536, .inl (fR)))] H locs := h
    refine lv_istore_n X.1.1 X.1.2.1 zd_Mo_use_29 rfl hl (by decide) rfl (fun ls hl => ?_)
    have hl : lv_has ls 4 [(2, .int (nI 0)), (1, .int r1), (0, .ref m0)] := hl
    refine lv_iload_n X.1.1 X.1.2.1 zd_Mo_use_30 rfl (lv_at hl 1 rfl) ?_
    refine lv_aload_n X.1.1 X.1.2.1 zd_Mo_use_31 rfl (lv_at hl 2 rfl) ?_
    refine rG X h 0 rfl rfl zW_Mo 5 (by decide) zw_498 rfl zd_Mo_use_32 ?_
    refine lv_icmp_ne (tgt := 44) X.1.1 X.1.2.1 zd_Mo_use_35 rfl (fun c1 => ?_) (fun c1 => ?_)
    · refine lv_aload_n X.1.1 X.1.2.1 zd_Mo_use_44 rfl (lv_at hl 2 rfl) ?_
      refine lv_iconst (v := nI 1) X.1.1 X.1.2.1 zd_Mo_use_45 (by decide) ?_
      refine rP X h 0 rfl rfl zW_Mo zO_Mo zN_Mo 14 (by decide) zw_507 rfl (rfl) (rfl) (Nat.le_of_ble_eq_true rfl) zd_Mo_use_46 (fun H locs h => ?_)
      have h : zH D A s [(m0, .inr (4, [.ref aI, .ref aB, .ref aO, .ref aR, .int (nI n), .int (nI nb), .int (nI nm), .int (nI cp), .int (nI frs), .int (nI dm), .int (nI 0), .int (nI be), .int wh, .int (nI a1), .int (nI 1), .int (nI 0)])), (aI, .inl (cI, 65536, .inl (fI))), (aB, .inl (cB, 65536, .inl (fB))), (aO, .inl (cO, 67000, .inl (fO))), (aR, .inl (cR, 65536, .inl (fR)))] H locs := h
      refine lv_aload_n X.1.1 X.1.2.1 zd_Mo_use_49 rfl (lv_at hl 2 rfl) ?_
      refine rG X h 0 rfl rfl zW_Mo 14 (by decide) zw_507 rfl zd_Mo_use_50 ?_
      refine lv_if_ne (tgt := 75) X.1.1 X.1.2.1 zd_Mo_use_53 rfl (fun w0 => ?_) (fun w0 => ?_)
      · have w0 : 1 ≠ 0 := zc_ne0_t (by omega) (by omega) w0
        have hno : rdA (tx fI n) (tx fB nb) = none := by unfold rdA; rw [e1]
        refine lv_aload_n X.1.1 X.1.2.1 zd_Mo_use_75 rfl (lv_at hl 2 rfl) ?_
        refine rG X h 0 rfl rfl zW_Mo 14 (by decide) zw_507 rfl zd_Mo_use_76 ?_
        refine lv_if_ne (tgt := 90) X.1.1 X.1.2.1 zd_Mo_use_79 rfl (fun w1 => ?_) (fun w1 => ?_)
        · have w1 : 1 ≠ 0 := zc_ne0_t (by omega) (by omega) w1
          refine lv_aload_n X.1.1 X.1.2.1 zd_Mo_use_90 rfl (lv_at hl 2 rfl) ?_
          refine lv_dup X.1.1 X.1.2.1 zd_Mo_use_91 rfl ?_
          refine rG X h 0 rfl rfl zW_Mo 9 (by decide) zw_502 rfl zd_Mo_use_92 ?_
          refine lv_iconst (v := nI 1) X.1.1 X.1.2.1 zd_Mo_use_95 (by decide) ?_
          refine lv_iadd X.1.1 X.1.2.1 zd_Mo_use_96 ?_
          refine zTop (y := nI (dm + 1)) (nI_add _ _) ?_
          refine rP X h 0 rfl rfl zW_Mo zO_Mo zN_Mo 9 (by decide) zw_502 rfl (rfl) (rfl) (Nat.le_of_ble_eq_true rfl) zd_Mo_use_97 (fun H locs h => ?_)
          have h : zH D A s [(m0, .inr (4, [.ref aI, .ref aB, .ref aO, .ref aR, .int (nI n), .int (nI nb), .int (nI nm), .int (nI cp), .int (nI frs), .int (nI (dm + 1)), .int (nI 0), .int (nI be), .int wh, .int (nI a1), .int (nI 1), .int (nI 0)])), (aI, .inl (cI, 65536, .inl (fI))), (aB, .inl (cB, 65536, .inl (fB))), (aO, .inl (cO, 67000, .inl (fO))), (aR, .inl (cR, 65536, .inl (fR)))] H locs := h
          refine lv_aload_n X.1.1 X.1.2.1 zd_Mo_use_100 rfl (lv_at hl 2 rfl) ?_
          refine lv_iconst (v := nI 1) X.1.1 X.1.2.1 zd_Mo_use_101 (by decide) ?_
          refine rCi (wr := []) (wf := fun _ => [(m0, .inr (4, [.ref aI, .ref aB, .ref aO, .ref aR, .int (nI n), .int (nI nb), .int (nI nm), .int (nI cp), .int (nI frs), .int (nI (dm + 1)), .int (nI 1), .int (nI be), .int wh, .int (nI a1), .int (nI 1), .int (nI 0)])), (aI, .inl (cI, 65536, .inl (fI))), (aB, .inl (cB, 65536, .inl (fB))), (aO, .inl (cO, 67000, .inl (fO))), (aR, .inl (cR, 65536, .inl (fR)))]) (rest := []) X h hl.1 (zc_Mo_refuse l D (m0 := m0) (aI := aI) (aB := aB) (aO := aO) (aR := aR) (wh := wh) (n := n) (nb := nb) (nm := nm) (cp := cp) (frs := frs) (dm := dm + 1) (th := 0) (be := be) (at_ := a1) (wr := 1) (fi := 0) (fI := fI) (cI := cI) (fB := fB) (cB := cB) (fO := fO) (cO := cO) (fR := fR) (cR := cR) (x := 1)  H.size) zw_550 zw_552 zs_17 zw_5 zm_Mo_refuse zq_Mo_refuse ⟨Nat.le_of_ble_eq_true rfl, Nat.le_of_ble_eq_true rfl⟩ ⟨Nat.le_of_ble_eq_true rfl, Nat.le_of_ble_eq_true rfl⟩ [0, 1, 2, 3] rfl [0, 1, 2, 3, 4] [] [0, 1, 2, 3, 4] rfl (by decide) rfl (by decide) (by decide) (fun _ => rfl) (by decide) 0 rfl rfl rfl (Nat.le_of_ble_eq_true rfl) zd_Mo_use_102 (fun r _ H locs hp h => ?_)
          obtain ⟨rfl, -⟩ := hp
          have h : zH D A s [(m0, .inr (4, [.ref aI, .ref aB, .ref aO, .ref aR, .int (nI n), .int (nI nb), .int (nI nm), .int (nI cp), .int (nI frs), .int (nI (dm + 1)), .int (nI 1), .int (nI be), .int wh, .int (nI a1), .int (nI 1), .int (nI 0)])), (aI, .inl (cI, 65536, .inl (fI))), (aB, .inl (cB, 65536, .inl (fB))), (aO, .inl (cO, 67000, .inl (fO))), (aR, .inl (cR, 65536, .inl (fR)))] H locs := h
          exact ret _ (a1, 1, 0, fR, fO, nm, dm + 1, 1) H locs ls _ (⟨Or.inr ⟨hno, rfl, rfl, rfl, rfl⟩, hfO, hfR⟩) h zd_Mo_use_105
        · have w1 : 1 = 0 := zc_ne0_f (by omega) (by omega) w1
          exact absurd w1 (by decide)
      · have w0 : 1 = 0 := zc_ne0_f (by omega) (by omega) w0
        exact absurd w0 (by decide)
    · refine lv_iload_n X.1.1 X.1.2.1 zd_Mo_use_38 rfl (lv_at hl 0 rfl) ?_
      refine lv_ldc X.1.1 X.1.2.1 X.1.2.2.2.1 (X.1.2.2.2.2 _ zw_491) zd_Mo_use_39 ?_
      refine zTop (y := nI 65536) (by decide) ?_
      refine lv_icmp_le (tgt := 49) X.1.1 X.1.2.1 zd_Mo_use_41 rfl (fun c2 => ?_) (fun c2 => ?_)
      · have c2 : 0 ≤ 65536 := zc_le_t (by omega) (by omega) c2
        refine lv_aload_n X.1.1 X.1.2.1 zd_Mo_use_49 rfl (lv_at hl 2 rfl) ?_
        refine rG X h 0 rfl rfl zW_Mo 14 (by decide) zw_507 rfl zd_Mo_use_50 ?_
        refine lv_if_ne (tgt := 75) X.1.1 X.1.2.1 zd_Mo_use_53 rfl (fun w0 => ?_) (fun w0 => ?_)
        · have w0 : 1 ≠ 0 := zc_ne0_t (by omega) (by omega) w0
          have hno : rdA (tx fI n) (tx fB nb) = none := by unfold rdA; rw [e1]
          refine lv_aload_n X.1.1 X.1.2.1 zd_Mo_use_75 rfl (lv_at hl 2 rfl) ?_
          refine rG X h 0 rfl rfl zW_Mo 14 (by decide) zw_507 rfl zd_Mo_use_76 ?_
          refine lv_if_ne (tgt := 90) X.1.1 X.1.2.1 zd_Mo_use_79 rfl (fun w1 => ?_) (fun w1 => ?_)
          · have w1 : 1 ≠ 0 := zc_ne0_t (by omega) (by omega) w1
            refine lv_aload_n X.1.1 X.1.2.1 zd_Mo_use_90 rfl (lv_at hl 2 rfl) ?_
            refine lv_dup X.1.1 X.1.2.1 zd_Mo_use_91 rfl ?_
            refine rG X h 0 rfl rfl zW_Mo 9 (by decide) zw_502 rfl zd_Mo_use_92 ?_
            refine lv_iconst (v := nI 1) X.1.1 X.1.2.1 zd_Mo_use_95 (by decide) ?_
            refine lv_iadd X.1.1 X.1.2.1 zd_Mo_use_96 ?_
            refine zTop (y := nI (dm + 1)) (nI_add _ _) ?_
            refine rP X h 0 rfl rfl zW_Mo zO_Mo zN_Mo 9 (by decide) zw_502 rfl (rfl) (rfl) (Nat.le_of_ble_eq_true rfl) zd_Mo_use_97 (fun H locs h => ?_)
            have h : zH D A s [(m0, .inr (4, [.ref aI, .ref aB, .ref aO, .ref aR, .int (nI n), .int (nI nb), .int (nI nm), .int (nI cp), .int (nI frs), .int (nI (dm + 1)), .int (nI 0), .int (nI be), .int wh, .int (nI a1), .int (nI 1), .int (nI 0)])), (aI, .inl (cI, 65536, .inl (fI))), (aB, .inl (cB, 65536, .inl (fB))), (aO, .inl (cO, 67000, .inl (fO))), (aR, .inl (cR, 65536, .inl (fR)))] H locs := h
            refine lv_aload_n X.1.1 X.1.2.1 zd_Mo_use_100 rfl (lv_at hl 2 rfl) ?_
            refine lv_iconst (v := nI 1) X.1.1 X.1.2.1 zd_Mo_use_101 (by decide) ?_
            refine rCi (wr := []) (wf := fun _ => [(m0, .inr (4, [.ref aI, .ref aB, .ref aO, .ref aR, .int (nI n), .int (nI nb), .int (nI nm), .int (nI cp), .int (nI frs), .int (nI (dm + 1)), .int (nI 1), .int (nI be), .int wh, .int (nI a1), .int (nI 1), .int (nI 0)])), (aI, .inl (cI, 65536, .inl (fI))), (aB, .inl (cB, 65536, .inl (fB))), (aO, .inl (cO, 67000, .inl (fO))), (aR, .inl (cR, 65536, .inl (fR)))]) (rest := []) X h hl.1 (zc_Mo_refuse l D (m0 := m0) (aI := aI) (aB := aB) (aO := aO) (aR := aR) (wh := wh) (n := n) (nb := nb) (nm := nm) (cp := cp) (frs := frs) (dm := dm + 1) (th := 0) (be := be) (at_ := a1) (wr := 1) (fi := 0) (fI := fI) (cI := cI) (fB := fB) (cB := cB) (fO := fO) (cO := cO) (fR := fR) (cR := cR) (x := 1)  H.size) zw_550 zw_552 zs_17 zw_5 zm_Mo_refuse zq_Mo_refuse ⟨Nat.le_of_ble_eq_true rfl, Nat.le_of_ble_eq_true rfl⟩ ⟨Nat.le_of_ble_eq_true rfl, Nat.le_of_ble_eq_true rfl⟩ [0, 1, 2, 3] rfl [0, 1, 2, 3, 4] [] [0, 1, 2, 3, 4] rfl (by decide) rfl (by decide) (by decide) (fun _ => rfl) (by decide) 0 rfl rfl rfl (Nat.le_of_ble_eq_true rfl) zd_Mo_use_102 (fun r _ H locs hp h => ?_)
            obtain ⟨rfl, -⟩ := hp
            have h : zH D A s [(m0, .inr (4, [.ref aI, .ref aB, .ref aO, .ref aR, .int (nI n), .int (nI nb), .int (nI nm), .int (nI cp), .int (nI frs), .int (nI (dm + 1)), .int (nI 1), .int (nI be), .int wh, .int (nI a1), .int (nI 1), .int (nI 0)])), (aI, .inl (cI, 65536, .inl (fI))), (aB, .inl (cB, 65536, .inl (fB))), (aO, .inl (cO, 67000, .inl (fO))), (aR, .inl (cR, 65536, .inl (fR)))] H locs := h
            exact ret _ (a1, 1, 0, fR, fO, nm, dm + 1, 1) H locs ls _ (⟨Or.inr ⟨hno, rfl, rfl, rfl, rfl⟩, hfO, hfR⟩) h zd_Mo_use_105
          · have w1 : 1 = 0 := zc_ne0_f (by omega) (by omega) w1
            exact absurd w1 (by decide)
        · have w0 : 1 = 0 := zc_ne0_f (by omega) (by omega) w0
          exact absurd w0 (by decide)
      · have c2 : 65536 < 0 := zc_le_f (by omega) (by omega) c2
        exact absurd c2 (by decide)
