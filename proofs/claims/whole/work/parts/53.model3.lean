/-! DeltaPressModel: putFresh, look, longest, make, count -/
set_option maxHeartbeats 4000000 in
set_option maxRecDepth 100000 in
theorem zc_Mo_putFresh (l : Launch) (D : va_G) {m0 aI aB aO aR n nb nm cp frs dm th be at_ wr fi : Nat} {wh : Int32} {fI fB fO fR : Nat → Int32} {cI cB cO cR : ClassId} {x y : Nat} (hf : sb_Fit fO) (hfI : sb_Fit fI) (hxy : x ≤ y) (hy : y ≤ n) (hn : n ≤ 65536) (hm : nm + (newB (tx fI n) (y - x) x (y - x)).length ≤ 67000) (sz : Nat) : zMv l D zy_Mo_putFresh zb_Mo_putFresh 6 ({ frames := 1, cells := 0, slots := 0, locals := 21 } : Room) [.ref m0, .int (nI x), .int (nI y)] [(cI, .byte), (cB, .byte), (cO, .byte), (cR, .byte)] [(m0, .inr (4, [.ref aI, .ref aB, .ref aO, .ref aR, .int (nI n), .int (nI nb), .int (nI nm), .int (nI cp), .int (nI frs), .int (nI dm), .int (nI th), .int (nI be), .int wh, .int (nI at_), .int (nI wr), .int (nI fi)])), (aI, .inl (cI, 65536, .inl (fI))), (aB, .inl (cB, 65536, .inl (fB))), (aO, .inl (cO, 67000, .inl (fO))), (aR, .inl (cR, 65536, .inl (fR)))] sz (fun (u : Nat → Int32) => tx u (nm + (newB (tx fI n) (y - x) x (y - x)).length) = tx fO nm ++ newB (tx fI n) (y - x) x (y - x) ∧ sb_Fit u) (fun u => [(m0, .inr (4, [.ref aI, .ref aB, .ref aO, .ref aR, .int (nI n), .int (nI nb), .int (nI (nm + (newB (tx fI n) (y - x) x (y - x)).length)), .int (nI cp), .int (nI (frs + (y - x))), .int (nI dm), .int (nI th), .int (nI be), .int wh, .int (nI at_), .int (nI wr), .int (nI fi)])), (aI, .inl (cI, 65536, .inl (fI))), (aB, .inl (cB, 65536, .inl (fB))), (aO, .inl (cO, 67000, .inl (u))), (aR, .inl (cR, 65536, .inl (fR)))]) := by
  refine zEv (by decide) (Nat.le_of_ble_eq_true rfl) (fun p e s m args below meth c ls A Q X hin hl h hsz ret => ?_)
  have hl : lv_has ls 6 [(0, .ref m0), (1, .int (nI x)), (2, .int (nI y))] := hl
  generalize hH0 : s.heap = H at h ⊢
  have h : zH D A s [(m0, .inr (4, [.ref aI, .ref aB, .ref aO, .ref aR, .int (nI n), .int (nI nb), .int (nI nm), .int (nI cp), .int (nI frs), .int (nI dm), .int (nI th), .int (nI be), .int wh, .int (nI at_), .int (nI wr), .int (nI fi)])), (aI, .inl (cI, 65536, .inl (fI))), (aB, .inl (cB, 65536, .inl (fB))), (aO, .inl (cO, 67000, .inl (fO))), (aR, .inl (cR, 65536, .inl (fR)))] H [] := h
  generalize hL0 : ([] : List Loc) = locs at h ⊢
  refine lv_iload_n X.1.1 X.1.2.1 zd_Mo_putFresh_0 rfl (lv_at hl 1 rfl) ?_
  refine lv_istore_n X.1.1 X.1.2.1 zd_Mo_putFresh_1 rfl hl (by decide) rfl (fun ls hl => ?_)
  have hl : lv_has ls 6 [(3, .int (nI x)), (0, .ref m0), (1, .int (nI x)), (2, .int (nI y))] := hl
  have loop : ∀ (fu : Nat) (i : Nat) (n1 : Nat) (g : Nat → Int32) (ls : Array Slot) (H : Heap) (locs : List Loc), y - i < fu → x ≤ i → i ≤ y → tx g n1 ++ newB (tx fI n) (y - x) i (y - i) = tx fO nm ++ newB (tx fI n) (y - x) x (y - x) → sb_Fit g → n1 + (newB (tx fI n) (y - x) i (y - i)).length = nm + (newB (tx fI n) (y - x) x (y - x)).length → lv_has ls 6 [(0, .ref m0), (1, .int (nI x)), (2, .int (nI y)), (3, .int (nI i))] → zH D A s [(m0, .inr (4, [.ref aI, .ref aB, .ref aO, .ref aR, .int (nI n), .int (nI nb), .int (nI n1), .int (nI cp), .int (nI frs), .int (nI dm), .int (nI th), .int (nI be), .int wh, .int (nI at_), .int (nI wr), .int (nI fi)])), (aI, .inl (cI, 65536, .inl (fI))), (aB, .inl (cB, 65536, .inl (fB))), (aO, .inl (cO, 67000, .inl (g))), (aR, .inl (cR, 65536, .inl (fR)))] H locs → W p l e ({ frames := 1, cells := 0, slots := 0, locals := 21 } : Room) s m args below meth c H locs 0 0 Q (F0 m 2 ls []) := by
    intro fu
    induction fu with
    | zero => intro i n1 g ls H locs hfu; exact absurd hfu (Nat.not_lt_zero _)
    | succ fu ih =>
      intro i n1 g ls H locs hfu hi hi2 he hg hz hl h
      refine lv_iload_n X.1.1 X.1.2.1 zd_Mo_putFresh_2 rfl (lv_at hl 3 rfl) ?_
      refine lv_iload_n X.1.1 X.1.2.1 zd_Mo_putFresh_3 rfl (lv_at hl 2 rfl) ?_
      refine lv_icmp_ge (tgt := 68) X.1.1 X.1.2.1 zd_Mo_putFresh_4 rfl (fun c1 => ?_) (fun c1 => ?_)
      · have c1 : y ≤ i := zc_ge_t (by omega) (by omega) c1
        rw [show y - i = 0 by omega, nw_0] at he hz
        rw [List.append_nil] at he
        have hz : n1 = nm + (newB (tx fI n) (y - x) x (y - x)).length := hz
        refine lv_aload_n X.1.1 X.1.2.1 zd_Mo_putFresh_68 rfl (lv_at hl 0 rfl) ?_
        refine lv_dup X.1.1 X.1.2.1 zd_Mo_putFresh_69 rfl ?_
        refine rG X h 0 rfl rfl zW_Mo 8 (by decide) zw_501 rfl zd_Mo_putFresh_70 ?_
        refine lv_iload_n X.1.1 X.1.2.1 zd_Mo_putFresh_73 rfl (lv_at hl 2 rfl) ?_
        refine lv_iload_n X.1.1 X.1.2.1 zd_Mo_putFresh_74 rfl (lv_at hl 1 rfl) ?_
        refine lv_isub X.1.1 X.1.2.1 zd_Mo_putFresh_75 ?_
        refine zTop (y := nI (y - x)) (pk_sub (by omega)) ?_
        refine lv_iadd X.1.1 X.1.2.1 zd_Mo_putFresh_76 ?_
        refine zTop (y := nI (frs + (y - x))) (nI_add _ _) ?_
        refine rP X h 0 rfl rfl zW_Mo zO_Mo zN_Mo 8 (by decide) zw_501 rfl (rfl) (rfl) (Nat.le_of_ble_eq_true rfl) zd_Mo_putFresh_77 (fun H locs h => ?_)
        have h : zH D A s [(m0, .inr (4, [.ref aI, .ref aB, .ref aO, .ref aR, .int (nI n), .int (nI nb), .int (nI n1), .int (nI cp), .int (nI (frs + (y - x))), .int (nI dm), .int (nI th), .int (nI be), .int wh, .int (nI at_), .int (nI wr), .int (nI fi)])), (aI, .inl (cI, 65536, .inl (fI))), (aB, .inl (cB, 65536, .inl (fB))), (aO, .inl (cO, 67000, .inl (g))), (aR, .inl (cR, 65536, .inl (fR)))] H locs := h
        rw [hz] at h
        exact ret _ H locs ls _ (⟨by rw [← hz]; exact he, hg⟩) h zd_Mo_putFresh_80
      · have c1 : i < y := zc_ge_f (by omega) (by omega) c1
        rw [nw_step _ (by omega : 0 < y - i) (by omega)] at he hz
        refine lv_iload_n X.1.1 X.1.2.1 zd_Mo_putFresh_7 rfl (lv_at hl 2 rfl) ?_
        refine lv_iload_n X.1.1 X.1.2.1 zd_Mo_putFresh_8 rfl (lv_at hl 3 rfl) ?_
        refine lv_isub X.1.1 X.1.2.1 zd_Mo_putFresh_9 ?_
        refine zTop (y := nI (y - i)) (pk_sub (by omega)) ?_
        refine lv_bipush (v := nI 127) X.1.1 X.1.2.1 zd_Mo_putFresh_10 (by decide) ?_
        refine lv_icmp_le (tgt := 20) X.1.1 X.1.2.1 zd_Mo_putFresh_12 rfl (fun c2 => ?_) (fun c2 => ?_)
        · have c2 : y - i ≤ 127 := zc_le_t (by omega) (by omega) c2
          have em : min 127 (y - i) = y - i := by omega
          rw [em] at he hz
          refine lv_iload_n X.1.1 X.1.2.1 zd_Mo_putFresh_20 rfl (lv_at hl 2 rfl) ?_
          refine lv_iload_n X.1.1 X.1.2.1 zd_Mo_putFresh_21 rfl (lv_at hl 3 rfl) ?_
          refine lv_isub X.1.1 X.1.2.1 zd_Mo_putFresh_22 ?_
          refine zTop (y := nI (y - i)) (pk_sub (by omega)) ?_
          refine lv_istore X.1.1 X.1.2.1 zd_Mo_putFresh_23 hl (by decide) rfl (fun ls hl => ?_)
          have hl : lv_has ls 6 [(4, .int (nI (y - i))), (0, .ref m0), (1, .int (nI x)), (2, .int (nI y)), (3, .int (nI i))] := hl
          refine lv_aload_n X.1.1 X.1.2.1 zd_Mo_putFresh_25 rfl (lv_at hl 1 rfl) ?_
          refine lv_iload X.1.1 X.1.2.1 zd_Mo_putFresh_26 (lv_at hl 0 rfl) ?_
          refine rCv (wr := []) (wf := fun _ => [(m0, .inr (4, [.ref aI, .ref aB, .ref aO, .ref aR, .int (nI n), .int (nI nb), .int (nI (n1 + 1)), .int (nI cp), .int (nI frs), .int (nI dm), .int (nI th), .int (nI be), .int wh, .int (nI at_), .int (nI wr), .int (nI fi)])), (aI, .inl (cI, 65536, .inl (fI))), (aB, .inl (cB, 65536, .inl (fB))), (aO, .inl (cO, 67000, .inl (upd g n1 (b8 (nI (y - i)))))), (aR, .inl (cR, 65536, .inl (fR)))]) (rest := []) X h hl.1 (zc_Mo_put l D (m0 := m0) (aI := aI) (aB := aB) (aO := aO) (aR := aR) (wh := wh) (n := n) (nb := nb) (nm := n1) (cp := cp) (frs := frs) (dm := dm) (th := th) (be := be) (at_ := at_) (wr := wr) (fi := fi) (fI := fI) (cI := cI) (fB := fB) (cB := cB) (fO := g) (cO := cO) (fR := fR) (cR := cR) (x := nI (y - i)) (by rw [List.length_cons] at hz; omega) H.size) zw_574 zw_576 zs_19 zw_5 zm_Mo_put zq_Mo_put ⟨Nat.le_of_ble_eq_true rfl, Nat.le_of_ble_eq_true rfl⟩ ⟨Nat.le_of_ble_eq_true rfl, Nat.le_of_ble_eq_true rfl⟩ [0, 1, 2, 3] rfl [0, 1, 2, 3, 4] [] [0, 1, 2, 3, 4] rfl (by decide) rfl (by decide) (by decide) (fun _ => rfl) (by decide) 0 rfl rfl rfl (Nat.le_of_ble_eq_true rfl) zd_Mo_putFresh_28 (fun _ H locs hp h => ?_)
          have h : zH D A s [(m0, .inr (4, [.ref aI, .ref aB, .ref aO, .ref aR, .int (nI n), .int (nI nb), .int (nI (n1 + 1)), .int (nI cp), .int (nI frs), .int (nI dm), .int (nI th), .int (nI be), .int wh, .int (nI at_), .int (nI wr), .int (nI fi)])), (aI, .inl (cI, 65536, .inl (fI))), (aB, .inl (cB, 65536, .inl (fB))), (aO, .inl (cO, 67000, .inl (upd g n1 (b8 (nI (y - i)))))), (aR, .inl (cR, 65536, .inl (fR)))] H locs := h
          have eb : b8 (nI (y - i)) = nI (y - i) := b8_small (by omega)
          rw [eb] at h
          have h : zH D A s [(m0, .inr (4, [.ref aI, .ref aB, .ref aO, .ref aR, .int (nI n), .int (nI nb), .int (nI (n1 + 1)), .int (nI cp), .int (nI frs), .int (nI dm), .int (nI th), .int (nI be), .int wh, .int (nI at_), .int (nI wr), .int (nI fi)])), (aI, .inl (cI, 65536, .inl (fI))), (aB, .inl (cB, 65536, .inl (fB))), (aO, .inl (cO, 67000, .inl (upd g n1 (nI (y - i))))), (aR, .inl (cR, 65536, .inl (fR)))] H locs := h
          refine lv_iconst (v := nI 0) X.1.1 X.1.2.1 zd_Mo_putFresh_31 (by decide) ?_
          refine lv_istore X.1.1 X.1.2.1 zd_Mo_putFresh_32 hl (by decide) rfl (fun ls hl => ?_)
          have hl : lv_has ls 6 [(5, .int (nI 0)), (4, .int (nI (y - i))), (0, .ref m0), (1, .int (nI x)), (2, .int (nI y)), (3, .int (nI i))] := hl
          have hz : n1 + ((y - i) + (newB (tx fI n) (y - x) (i + (y - i)) (y - i - (y - i))).length + 1) = nm + (newB (tx fI n) (y - x) x (y - x)).length := by
            rw [← hz]; simp only [List.length_cons, List.length_append, List.length_take, List.length_drop, tx_len]
            have : min (y - i) (n - i) = y - i := by omega
            omega
          have hfitn : fits .byte (.int (nI (y - i))) = true := by rw [← eb]; exact fit_b8 _
          have inner : ∀ (fu2 : Nat) (k : Nat) (g2 : Nat → Int32) (ls : Array Slot) (H : Heap) (locs : List Loc), (y - i) - k < fu2 → k ≤ y - i → tx g2 (n1 + 1 + k) = tx g n1 ++ (nI (y - i) :: ((tx fI n).drop i).take k) → sb_Fit g2 → lv_has ls 6 [(0, .ref m0), (1, .int (nI x)), (2, .int (nI y)), (3, .int (nI i)), (4, .int (nI (y - i))), (5, .int (nI k))] → zH D A s [(m0, .inr (4, [.ref aI, .ref aB, .ref aO, .ref aR, .int (nI n), .int (nI nb), .int (nI (n1 + 1 + k)), .int (nI cp), .int (nI frs), .int (nI dm), .int (nI th), .int (nI be), .int wh, .int (nI at_), .int (nI wr), .int (nI fi)])), (aI, .inl (cI, 65536, .inl (fI))), (aB, .inl (cB, 65536, .inl (fB))), (aO, .inl (cO, 67000, .inl (g2))), (aR, .inl (cR, 65536, .inl (fR)))] H locs → W p l e ({ frames := 1, cells := 0, slots := 0, locals := 21 } : Room) s m args below meth c H locs 0 0 Q (F0 m 34 ls []) := by
            intro fu2
            induction fu2 with
            | zero => intro k g2 ls H locs hfu2; exact absurd hfu2 (Nat.not_lt_zero _)
            | succ fu2 ih2 =>
              intro k g2 ls H locs hfu2 hk h2 hg2 hl h
              refine lv_iload X.1.1 X.1.2.1 zd_Mo_putFresh_34 (lv_at hl 5 rfl) ?_
              refine lv_iload X.1.1 X.1.2.1 zd_Mo_putFresh_36 (lv_at hl 4 rfl) ?_
              refine lv_icmp_ge (tgt := 60) X.1.1 X.1.2.1 zd_Mo_putFresh_38 rfl (fun d1 => ?_) (fun d1 => ?_)
              · have d1 : y - i ≤ k := zc_ge_t (by omega) (by omega) d1
                have ek : k = y - i := by omega
                rw [ek] at h2 h
                rw [ek] at hl
                have h : zH D A s [(m0, .inr (4, [.ref aI, .ref aB, .ref aO, .ref aR, .int (nI n), .int (nI nb), .int (nI (n1 + 1 + (y - i))), .int (nI cp), .int (nI frs), .int (nI dm), .int (nI th), .int (nI be), .int wh, .int (nI at_), .int (nI wr), .int (nI fi)])), (aI, .inl (cI, 65536, .inl (fI))), (aB, .inl (cB, 65536, .inl (fB))), (aO, .inl (cO, 67000, .inl (g2))), (aR, .inl (cR, 65536, .inl (fR)))] H locs := h
                have hl : lv_has ls 6 [(0, .ref m0), (1, .int (nI x)), (2, .int (nI y)), (3, .int (nI i)), (4, .int (nI (y - i))), (5, .int (nI (y - i)))] := hl
                refine lv_iload_n X.1.1 X.1.2.1 zd_Mo_putFresh_60 rfl (lv_at hl 3 rfl) ?_
                refine lv_iload X.1.1 X.1.2.1 zd_Mo_putFresh_61 (lv_at hl 4 rfl) ?_
                refine lv_iadd X.1.1 X.1.2.1 zd_Mo_putFresh_63 ?_
                refine zTop (y := nI (i + (y - i))) (nI_add _ _) ?_
                refine lv_istore_n X.1.1 X.1.2.1 zd_Mo_putFresh_64 rfl hl (by decide) rfl (fun ls hl => ?_)
                have hl : lv_has ls 6 [(3, .int (nI (i + (y - i)))), (0, .ref m0), (1, .int (nI x)), (2, .int (nI y)), (4, .int (nI (y - i))), (5, .int (nI (y - i)))] := hl
                refine lv_goto (tgt := 2) X.1.1 X.1.2.1 zd_Mo_putFresh_65 rfl ?_
                exact ih (i + (y - i)) (n1 + 1 + (y - i)) g2 ls H locs (by omega) (by omega) (by omega) (by
                        rw [h2, show y - (i + (y - i)) = y - i - (y - i) by omega, List.append_assoc]; exact he) (hg2) (by rw [show y - (i + (y - i)) = y - i - (y - i) by omega]; omega) (lv_sub hl [1, 2, 3, 0] rfl) h
              · have d1 : k < y - i := zc_ge_f (by omega) (by omega) d1
                refine lv_aload_n X.1.1 X.1.2.1 zd_Mo_putFresh_41 rfl (lv_at hl 0 rfl) ?_
                refine lv_aload_n X.1.1 X.1.2.1 zd_Mo_putFresh_42 rfl (lv_at hl 0 rfl) ?_
                refine rG X h 0 rfl rfl zW_Mo 0 (by decide) zw_493 rfl zd_Mo_putFresh_43 ?_
                refine lv_iload_n X.1.1 X.1.2.1 zd_Mo_putFresh_46 rfl (lv_at hl 3 rfl) ?_
                refine lv_iload X.1.1 X.1.2.1 zd_Mo_putFresh_47 (lv_at hl 5 rfl) ?_
                refine lv_iadd X.1.1 X.1.2.1 zd_Mo_putFresh_49 ?_
                refine zTop (y := nI (i + k)) (nI_add _ _) ?_
                refine rLb X h 1 0 rfl rfl (by omega) (by omega) zd_Mo_putFresh_50 ?_
                refine rCv (wr := []) (wf := fun _ => [(m0, .inr (4, [.ref aI, .ref aB, .ref aO, .ref aR, .int (nI n), .int (nI nb), .int (nI (n1 + 1 + k + 1)), .int (nI cp), .int (nI frs), .int (nI dm), .int (nI th), .int (nI be), .int wh, .int (nI at_), .int (nI wr), .int (nI fi)])), (aI, .inl (cI, 65536, .inl (fI))), (aB, .inl (cB, 65536, .inl (fB))), (aO, .inl (cO, 67000, .inl (upd g2 (n1 + 1 + k) (b8 (fI (i + k)))))), (aR, .inl (cR, 65536, .inl (fR)))]) (rest := []) X h hl.1 (zc_Mo_put l D (m0 := m0) (aI := aI) (aB := aB) (aO := aO) (aR := aR) (wh := wh) (n := n) (nb := nb) (nm := n1 + 1 + k) (cp := cp) (frs := frs) (dm := dm) (th := th) (be := be) (at_ := at_) (wr := wr) (fi := fi) (fI := fI) (cI := cI) (fB := fB) (cB := cB) (fO := g2) (cO := cO) (fR := fR) (cR := cR) (x := fI (i + k)) (by omega) H.size) zw_574 zw_576 zs_19 zw_5 zm_Mo_put zq_Mo_put ⟨Nat.le_of_ble_eq_true rfl, Nat.le_of_ble_eq_true rfl⟩ ⟨Nat.le_of_ble_eq_true rfl, Nat.le_of_ble_eq_true rfl⟩ [0, 1, 2, 3] rfl [0, 1, 2, 3, 4] [] [0, 1, 2, 3, 4] rfl (by decide) rfl (by decide) (by decide) (fun _ => rfl) (by decide) 0 rfl rfl rfl (Nat.le_of_ble_eq_true rfl) zd_Mo_putFresh_51 (fun _ H locs hp h => ?_)
                have h : zH D A s [(m0, .inr (4, [.ref aI, .ref aB, .ref aO, .ref aR, .int (nI n), .int (nI nb), .int (nI (n1 + 1 + k + 1)), .int (nI cp), .int (nI frs), .int (nI dm), .int (nI th), .int (nI be), .int wh, .int (nI at_), .int (nI wr), .int (nI fi)])), (aI, .inl (cI, 65536, .inl (fI))), (aB, .inl (cB, 65536, .inl (fB))), (aO, .inl (cO, 67000, .inl (upd g2 (n1 + 1 + k) (b8 (fI (i + k)))))), (aR, .inl (cR, 65536, .inl (fR)))] H locs := h
                rw [b8_fit (hfI (i + k))] at h
                have h : zH D A s [(m0, .inr (4, [.ref aI, .ref aB, .ref aO, .ref aR, .int (nI n), .int (nI nb), .int (nI (n1 + 1 + k + 1)), .int (nI cp), .int (nI frs), .int (nI dm), .int (nI th), .int (nI be), .int wh, .int (nI at_), .int (nI wr), .int (nI fi)])), (aI, .inl (cI, 65536, .inl (fI))), (aB, .inl (cB, 65536, .inl (fB))), (aO, .inl (cO, 67000, .inl (upd g2 (n1 + 1 + k) (fI (i + k))))), (aR, .inl (cR, 65536, .inl (fR)))] H locs := h
                refine lv_iinc X.1.1 X.1.2.1 zd_Mo_putFresh_54 hl (k := 5) rfl (v := nI (k + 1)) (nI_add _ _) (by decide) rfl (fun ls hl => ?_)
                have hl : lv_has ls 6 [(5, .int (nI (k + 1))), (0, .ref m0), (1, .int (nI x)), (2, .int (nI y)), (3, .int (nI i)), (4, .int (nI (y - i)))] := hl
                refine lv_goto (tgt := 34) X.1.1 X.1.2.1 zd_Mo_putFresh_57 rfl ?_
                exact ih2 (k + 1) (upd g2 (n1 + 1 + k) (fI (i + k))) ls H locs (by omega) (by omega) (by
                          rw [← Nat.add_assoc, tx_push, h2, tx_part1 fI (by omega), List.append_assoc, List.cons_append]) (sb_fitU hg2 (hfI _)) (lv_sub hl [1, 2, 3, 4, 5, 0] rfl) h
          exact inner _ 0 (upd g n1 (nI (y - i))) ls H locs (Nat.lt_succ_self _) (by omega) (by rw [Nat.add_zero, tx_push]; rfl) (sb_fitU hg hfitn) (lv_sub hl [2, 3, 4, 5, 1, 0] rfl) h
        · have c2 : 127 < y - i := zc_le_f (by omega) (by omega) c2
          have em : min 127 (y - i) = 127 := by omega
          rw [em] at he hz
          refine lv_bipush (v := nI 127) X.1.1 X.1.2.1 zd_Mo_putFresh_15 (by decide) ?_
          refine lv_goto (tgt := 23) X.1.1 X.1.2.1 zd_Mo_putFresh_17 rfl ?_
          refine lv_istore X.1.1 X.1.2.1 zd_Mo_putFresh_23 hl (by decide) rfl (fun ls hl => ?_)
          have hl : lv_has ls 6 [(4, .int (nI 127)), (0, .ref m0), (1, .int (nI x)), (2, .int (nI y)), (3, .int (nI i))] := hl
          refine lv_aload_n X.1.1 X.1.2.1 zd_Mo_putFresh_25 rfl (lv_at hl 1 rfl) ?_
          refine lv_iload X.1.1 X.1.2.1 zd_Mo_putFresh_26 (lv_at hl 0 rfl) ?_
          refine rCv (wr := []) (wf := fun _ => [(m0, .inr (4, [.ref aI, .ref aB, .ref aO, .ref aR, .int (nI n), .int (nI nb), .int (nI (n1 + 1)), .int (nI cp), .int (nI frs), .int (nI dm), .int (nI th), .int (nI be), .int wh, .int (nI at_), .int (nI wr), .int (nI fi)])), (aI, .inl (cI, 65536, .inl (fI))), (aB, .inl (cB, 65536, .inl (fB))), (aO, .inl (cO, 67000, .inl (upd g n1 (b8 (nI 127))))), (aR, .inl (cR, 65536, .inl (fR)))]) (rest := []) X h hl.1 (zc_Mo_put l D (m0 := m0) (aI := aI) (aB := aB) (aO := aO) (aR := aR) (wh := wh) (n := n) (nb := nb) (nm := n1) (cp := cp) (frs := frs) (dm := dm) (th := th) (be := be) (at_ := at_) (wr := wr) (fi := fi) (fI := fI) (cI := cI) (fB := fB) (cB := cB) (fO := g) (cO := cO) (fR := fR) (cR := cR) (x := nI 127) (by rw [List.length_cons] at hz; omega) H.size) zw_574 zw_576 zs_19 zw_5 zm_Mo_put zq_Mo_put ⟨Nat.le_of_ble_eq_true rfl, Nat.le_of_ble_eq_true rfl⟩ ⟨Nat.le_of_ble_eq_true rfl, Nat.le_of_ble_eq_true rfl⟩ [0, 1, 2, 3] rfl [0, 1, 2, 3, 4] [] [0, 1, 2, 3, 4] rfl (by decide) rfl (by decide) (by decide) (fun _ => rfl) (by decide) 0 rfl rfl rfl (Nat.le_of_ble_eq_true rfl) zd_Mo_putFresh_28 (fun _ H locs hp h => ?_)
          have h : zH D A s [(m0, .inr (4, [.ref aI, .ref aB, .ref aO, .ref aR, .int (nI n), .int (nI nb), .int (nI (n1 + 1)), .int (nI cp), .int (nI frs), .int (nI dm), .int (nI th), .int (nI be), .int wh, .int (nI at_), .int (nI wr), .int (nI fi)])), (aI, .inl (cI, 65536, .inl (fI))), (aB, .inl (cB, 65536, .inl (fB))), (aO, .inl (cO, 67000, .inl (upd g n1 (b8 (nI 127))))), (aR, .inl (cR, 65536, .inl (fR)))] H locs := h
          have eb : b8 (nI (127)) = nI (127) := b8_small (by omega)
          rw [eb] at h
          have h : zH D A s [(m0, .inr (4, [.ref aI, .ref aB, .ref aO, .ref aR, .int (nI n), .int (nI nb), .int (nI (n1 + 1)), .int (nI cp), .int (nI frs), .int (nI dm), .int (nI th), .int (nI be), .int wh, .int (nI at_), .int (nI wr), .int (nI fi)])), (aI, .inl (cI, 65536, .inl (fI))), (aB, .inl (cB, 65536, .inl (fB))), (aO, .inl (cO, 67000, .inl (upd g n1 (nI (127))))), (aR, .inl (cR, 65536, .inl (fR)))] H locs := h
          refine lv_iconst (v := nI 0) X.1.1 X.1.2.1 zd_Mo_putFresh_31 (by decide) ?_
          refine lv_istore X.1.1 X.1.2.1 zd_Mo_putFresh_32 hl (by decide) rfl (fun ls hl => ?_)
          have hl : lv_has ls 6 [(5, .int (nI 0)), (4, .int (nI 127)), (0, .ref m0), (1, .int (nI x)), (2, .int (nI y)), (3, .int (nI i))] := hl
          have hz : n1 + ((127) + (newB (tx fI n) (y - x) (i + (127)) (y - i - (127))).length + 1) = nm + (newB (tx fI n) (y - x) x (y - x)).length := by
            rw [← hz]; simp only [List.length_cons, List.length_append, List.length_take, List.length_drop, tx_len]
            have : min (127) (n - i) = 127 := by omega
            omega
          have hfitn : fits .byte (.int (nI (127))) = true := by rw [← eb]; exact fit_b8 _
          have inner : ∀ (fu2 : Nat) (k : Nat) (g2 : Nat → Int32) (ls : Array Slot) (H : Heap) (locs : List Loc), (127) - k < fu2 → k ≤ 127 → tx g2 (n1 + 1 + k) = tx g n1 ++ (nI (127) :: ((tx fI n).drop i).take k) → sb_Fit g2 → lv_has ls 6 [(0, .ref m0), (1, .int (nI x)), (2, .int (nI y)), (3, .int (nI i)), (4, .int (nI 127)), (5, .int (nI k))] → zH D A s [(m0, .inr (4, [.ref aI, .ref aB, .ref aO, .ref aR, .int (nI n), .int (nI nb), .int (nI (n1 + 1 + k)), .int (nI cp), .int (nI frs), .int (nI dm), .int (nI th), .int (nI be), .int wh, .int (nI at_), .int (nI wr), .int (nI fi)])), (aI, .inl (cI, 65536, .inl (fI))), (aB, .inl (cB, 65536, .inl (fB))), (aO, .inl (cO, 67000, .inl (g2))), (aR, .inl (cR, 65536, .inl (fR)))] H locs → W p l e ({ frames := 1, cells := 0, slots := 0, locals := 21 } : Room) s m args below meth c H locs 0 0 Q (F0 m 34 ls []) := by
            intro fu2
            induction fu2 with
            | zero => intro k g2 ls H locs hfu2; exact absurd hfu2 (Nat.not_lt_zero _)
            | succ fu2 ih2 =>
              intro k g2 ls H locs hfu2 hk h2 hg2 hl h
              refine lv_iload X.1.1 X.1.2.1 zd_Mo_putFresh_34 (lv_at hl 5 rfl) ?_
              refine lv_iload X.1.1 X.1.2.1 zd_Mo_putFresh_36 (lv_at hl 4 rfl) ?_
              refine lv_icmp_ge (tgt := 60) X.1.1 X.1.2.1 zd_Mo_putFresh_38 rfl (fun d1 => ?_) (fun d1 => ?_)
              · have d1 : 127 ≤ k := zc_ge_t (by omega) (by omega) d1
                have ek : k = 127 := by omega
                rw [ek] at h2 h
                rw [ek] at hl
                have h : zH D A s [(m0, .inr (4, [.ref aI, .ref aB, .ref aO, .ref aR, .int (nI n), .int (nI nb), .int (nI (n1 + 1 + (127))), .int (nI cp), .int (nI frs), .int (nI dm), .int (nI th), .int (nI be), .int wh, .int (nI at_), .int (nI wr), .int (nI fi)])), (aI, .inl (cI, 65536, .inl (fI))), (aB, .inl (cB, 65536, .inl (fB))), (aO, .inl (cO, 67000, .inl (g2))), (aR, .inl (cR, 65536, .inl (fR)))] H locs := h
                have hl : lv_has ls 6 [(0, .ref m0), (1, .int (nI x)), (2, .int (nI y)), (3, .int (nI i)), (4, .int (nI 127)), (5, .int (nI (127)))] := hl
                refine lv_iload_n X.1.1 X.1.2.1 zd_Mo_putFresh_60 rfl (lv_at hl 3 rfl) ?_
                refine lv_iload X.1.1 X.1.2.1 zd_Mo_putFresh_61 (lv_at hl 4 rfl) ?_
                refine lv_iadd X.1.1 X.1.2.1 zd_Mo_putFresh_63 ?_
                refine zTop (y := nI (i + 127)) (nI_add _ _) ?_
                refine lv_istore_n X.1.1 X.1.2.1 zd_Mo_putFresh_64 rfl hl (by decide) rfl (fun ls hl => ?_)
                have hl : lv_has ls 6 [(3, .int (nI (i + 127))), (0, .ref m0), (1, .int (nI x)), (2, .int (nI y)), (4, .int (nI 127)), (5, .int (nI (127)))] := hl
                refine lv_goto (tgt := 2) X.1.1 X.1.2.1 zd_Mo_putFresh_65 rfl ?_
                exact ih (i + 127) (n1 + 1 + (127)) g2 ls H locs (by omega) (by omega) (by omega) (by
                        rw [h2, show y - (i + 127) = y - i - (127) by omega, List.append_assoc]; exact he) (hg2) (by rw [show y - (i + 127) = y - i - (127) by omega]; omega) (lv_sub hl [1, 2, 3, 0] rfl) h
              · have d1 : k < 127 := zc_ge_f (by omega) (by omega) d1
                refine lv_aload_n X.1.1 X.1.2.1 zd_Mo_putFresh_41 rfl (lv_at hl 0 rfl) ?_
                refine lv_aload_n X.1.1 X.1.2.1 zd_Mo_putFresh_42 rfl (lv_at hl 0 rfl) ?_
                refine rG X h 0 rfl rfl zW_Mo 0 (by decide) zw_493 rfl zd_Mo_putFresh_43 ?_
                refine lv_iload_n X.1.1 X.1.2.1 zd_Mo_putFresh_46 rfl (lv_at hl 3 rfl) ?_
                refine lv_iload X.1.1 X.1.2.1 zd_Mo_putFresh_47 (lv_at hl 5 rfl) ?_
                refine lv_iadd X.1.1 X.1.2.1 zd_Mo_putFresh_49 ?_
                refine zTop (y := nI (i + k)) (nI_add _ _) ?_
                refine rLb X h 1 0 rfl rfl (by omega) (by omega) zd_Mo_putFresh_50 ?_
                refine rCv (wr := []) (wf := fun _ => [(m0, .inr (4, [.ref aI, .ref aB, .ref aO, .ref aR, .int (nI n), .int (nI nb), .int (nI (n1 + 1 + k + 1)), .int (nI cp), .int (nI frs), .int (nI dm), .int (nI th), .int (nI be), .int wh, .int (nI at_), .int (nI wr), .int (nI fi)])), (aI, .inl (cI, 65536, .inl (fI))), (aB, .inl (cB, 65536, .inl (fB))), (aO, .inl (cO, 67000, .inl (upd g2 (n1 + 1 + k) (b8 (fI (i + k)))))), (aR, .inl (cR, 65536, .inl (fR)))]) (rest := []) X h hl.1 (zc_Mo_put l D (m0 := m0) (aI := aI) (aB := aB) (aO := aO) (aR := aR) (wh := wh) (n := n) (nb := nb) (nm := n1 + 1 + k) (cp := cp) (frs := frs) (dm := dm) (th := th) (be := be) (at_ := at_) (wr := wr) (fi := fi) (fI := fI) (cI := cI) (fB := fB) (cB := cB) (fO := g2) (cO := cO) (fR := fR) (cR := cR) (x := fI (i + k)) (by omega) H.size) zw_574 zw_576 zs_19 zw_5 zm_Mo_put zq_Mo_put ⟨Nat.le_of_ble_eq_true rfl, Nat.le_of_ble_eq_true rfl⟩ ⟨Nat.le_of_ble_eq_true rfl, Nat.le_of_ble_eq_true rfl⟩ [0, 1, 2, 3] rfl [0, 1, 2, 3, 4] [] [0, 1, 2, 3, 4] rfl (by decide) rfl (by decide) (by decide) (fun _ => rfl) (by decide) 0 rfl rfl rfl (Nat.le_of_ble_eq_true rfl) zd_Mo_putFresh_51 (fun _ H locs hp h => ?_)
                have h : zH D A s [(m0, .inr (4, [.ref aI, .ref aB, .ref aO, .ref aR, .int (nI n), .int (nI nb), .int (nI (n1 + 1 + k + 1)), .int (nI cp), .int (nI frs), .int (nI dm), .int (nI th), .int (nI be), .int wh, .int (nI at_), .int (nI wr), .int (nI fi)])), (aI, .inl (cI, 65536, .inl (fI))), (aB, .inl (cB, 65536, .inl (fB))), (aO, .inl (cO, 67000, .inl (upd g2 (n1 + 1 + k) (b8 (fI (i + k)))))), (aR, .inl (cR, 65536, .inl (fR)))] H locs := h
                rw [b8_fit (hfI (i + k))] at h
                have h : zH D A s [(m0, .inr (4, [.ref aI, .ref aB, .ref aO, .ref aR, .int (nI n), .int (nI nb), .int (nI (n1 + 1 + k + 1)), .int (nI cp), .int (nI frs), .int (nI dm), .int (nI th), .int (nI be), .int wh, .int (nI at_), .int (nI wr), .int (nI fi)])), (aI, .inl (cI, 65536, .inl (fI))), (aB, .inl (cB, 65536, .inl (fB))), (aO, .inl (cO, 67000, .inl (upd g2 (n1 + 1 + k) (fI (i + k))))), (aR, .inl (cR, 65536, .inl (fR)))] H locs := h
                refine lv_iinc X.1.1 X.1.2.1 zd_Mo_putFresh_54 hl (k := 5) rfl (v := nI (k + 1)) (nI_add _ _) (by decide) rfl (fun ls hl => ?_)
                have hl : lv_has ls 6 [(5, .int (nI (k + 1))), (0, .ref m0), (1, .int (nI x)), (2, .int (nI y)), (3, .int (nI i)), (4, .int (nI 127))] := hl
                refine lv_goto (tgt := 34) X.1.1 X.1.2.1 zd_Mo_putFresh_57 rfl ?_
                exact ih2 (k + 1) (upd g2 (n1 + 1 + k) (fI (i + k))) ls H locs (by omega) (by omega) (by
                          rw [← Nat.add_assoc, tx_push, h2, tx_part1 fI (by omega), List.append_assoc, List.cons_append]) (sb_fitU hg2 (hfI _)) (lv_sub hl [1, 2, 3, 4, 5, 0] rfl) h
          exact inner _ 0 (upd g n1 (nI (127))) ls H locs (Nat.lt_succ_self _) (by omega) (by rw [Nat.add_zero, tx_push]; rfl) (sb_fitU hg hfitn) (lv_sub hl [2, 3, 4, 5, 1, 0] rfl) h
  exact loop _ x nm fO ls H locs (Nat.lt_succ_self _) (by omega) (hxy) (rfl) (hf) (rfl) (lv_sub hl [1, 2, 3, 0] rfl) h

set_option maxHeartbeats 4000000 in
set_option maxRecDepth 100000 in
theorem zc_Mo_look (l : Launch) (D : va_G) {m0 aI aB aO aR n nb nm cp frs dm th be at_ wr fi : Nat} {wh : Int32} {fI fB fO fR : Nat → Int32} {cI cB cO cR : ClassId} {x : Nat} (hx : x ≤ n) (hn : n ≤ 65536) (hnb : nb ≤ 65536) (sz : Nat) : zMv l D zy_Mo_look zb_Mo_look 4 ({ frames := 0, cells := 0, slots := 0, locals := 0 } : Room) [.ref m0, .int (nI x)] [(cI, .byte), (cB, .byte), (cO, .byte), (cR, .byte)] [(m0, .inr (4, [.ref aI, .ref aB, .ref aO, .ref aR, .int (nI n), .int (nI nb), .int (nI nm), .int (nI cp), .int (nI frs), .int (nI dm), .int (nI th), .int (nI be), .int wh, .int (nI at_), .int (nI wr), .int (nI fi)])), (aI, .inl (cI, 65536, .inl (fI))), (aB, .inl (cB, 65536, .inl (fB))), (aO, .inl (cO, 67000, .inl (fO))), (aR, .inl (cR, 65536, .inl (fR)))] sz (fun (u : Nat × Int32) => ∃ P, lg_is fB nb fI x (min (n - x) 65535) u.1 P ∧ (0 < u.1 → u.2 = nI P)) (fun u => [(m0, .inr (4, [.ref aI, .ref aB, .ref aO, .ref aR, .int (nI n), .int (nI nb), .int (nI nm), .int (nI cp), .int (nI frs), .int (nI dm), .int (nI th), .int (nI u.1), .int (u.2), .int (nI at_), .int (nI wr), .int (nI fi)])), (aI, .inl (cI, 65536, .inl (fI))), (aB, .inl (cB, 65536, .inl (fB))), (aO, .inl (cO, 67000, .inl (fO))), (aR, .inl (cR, 65536, .inl (fR)))]) := by
  refine zEv (by decide) (Nat.le_of_ble_eq_true rfl) (fun p e s m args below meth c ls A Q X hin hl h hsz ret => ?_)
  have hl : lv_has ls 4 [(0, .ref m0), (1, .int (nI x))] := hl
  generalize hH0 : s.heap = H at h ⊢
  have h : zH D A s [(m0, .inr (4, [.ref aI, .ref aB, .ref aO, .ref aR, .int (nI n), .int (nI nb), .int (nI nm), .int (nI cp), .int (nI frs), .int (nI dm), .int (nI th), .int (nI be), .int wh, .int (nI at_), .int (nI wr), .int (nI fi)])), (aI, .inl (cI, 65536, .inl (fI))), (aB, .inl (cB, 65536, .inl (fB))), (aO, .inl (cO, 67000, .inl (fO))), (aR, .inl (cR, 65536, .inl (fR)))] H [] := h
  generalize hL0 : ([] : List Loc) = locs at h ⊢
  refine lv_aload_n X.1.1 X.1.2.1 zd_Mo_look_0 rfl (lv_at hl 0 rfl) ?_
  refine lv_iconst (v := nI 0) X.1.1 X.1.2.1 zd_Mo_look_1 (by decide) ?_
  refine rP X h 0 rfl rfl zW_Mo zO_Mo zN_Mo 11 (by decide) zw_504 rfl (rfl) (rfl) (Nat.le_of_ble_eq_true rfl) zd_Mo_look_2 (fun H locs h => ?_)
  have h : zH D A s [(m0, .inr (4, [.ref aI, .ref aB, .ref aO, .ref aR, .int (nI n), .int (nI nb), .int (nI nm), .int (nI cp), .int (nI frs), .int (nI dm), .int (nI th), .int (nI 0), .int wh, .int (nI at_), .int (nI wr), .int (nI fi)])), (aI, .inl (cI, 65536, .inl (fI))), (aB, .inl (cB, 65536, .inl (fB))), (aO, .inl (cO, 67000, .inl (fO))), (aR, .inl (cR, 65536, .inl (fR)))] H locs := h
  refine lv_aload_n X.1.1 X.1.2.1 zd_Mo_look_5 rfl (lv_at hl 0 rfl) ?_
  refine lv_iconst (v := (-1)) X.1.1 X.1.2.1 zd_Mo_look_6 (by decide) ?_
  refine rP X h 0 rfl rfl zW_Mo zO_Mo zN_Mo 12 (by decide) zw_505 rfl (rfl) (rfl) (Nat.le_of_ble_eq_true rfl) zd_Mo_look_7 (fun H locs h => ?_)
  have h : zH D A s [(m0, .inr (4, [.ref aI, .ref aB, .ref aO, .ref aR, .int (nI n), .int (nI nb), .int (nI nm), .int (nI cp), .int (nI frs), .int (nI dm), .int (nI th), .int (nI 0), .int ((-1)), .int (nI at_), .int (nI wr), .int (nI fi)])), (aI, .inl (cI, 65536, .inl (fI))), (aB, .inl (cB, 65536, .inl (fB))), (aO, .inl (cO, 67000, .inl (fO))), (aR, .inl (cR, 65536, .inl (fR)))] H locs := h
  refine lv_iconst (v := nI 0) X.1.1 X.1.2.1 zd_Mo_look_10 (by decide) ?_
  refine lv_istore_n X.1.1 X.1.2.1 zd_Mo_look_11 rfl hl (by decide) rfl (fun ls hl => ?_)
  have hl : lv_has ls 4 [(2, .int (nI 0)), (0, .ref m0), (1, .int (nI x))] := hl
  have hlim1 := Nat.min_le_left (n - x) 65535
  have hlim2 := Nat.min_le_right (n - x) 65535
  have hlim3 : n - x ≤ min (n - x) 65535 ∨ 65535 ≤ min (n - x) 65535 := by omega
  generalize hlim : min (n - x) 65535 = lim at hlim1 hlim2 hlim3 ret
  have loop : ∀ (fu : Nat) (p1 : Nat) (L1 : Nat) (P1 : Nat) (g : Int32) (ls : Array Slot) (H : Heap) (locs : List Loc), nb - p1 < fu → lk_I fB nb fI x lim p1 L1 P1 → (0 < L1 → g = nI P1) → p1 ≤ nb → lv_has ls 4 [(0, .ref m0), (1, .int (nI x)), (2, .int (nI p1))] → zH D A s [(m0, .inr (4, [.ref aI, .ref aB, .ref aO, .ref aR, .int (nI n), .int (nI nb), .int (nI nm), .int (nI cp), .int (nI frs), .int (nI dm), .int (nI th), .int (nI L1), .int g, .int (nI at_), .int (nI wr), .int (nI fi)])), (aI, .inl (cI, 65536, .inl (fI))), (aB, .inl (cB, 65536, .inl (fB))), (aO, .inl (cO, 67000, .inl (fO))), (aR, .inl (cR, 65536, .inl (fR)))] H locs → W p l e ({ frames := 0, cells := 0, slots := 0, locals := 0 } : Room) s m args below meth c H locs 0 0 Q (F0 m 12 ls []) := by
    intro fu
    induction fu with
    | zero => intro p1 L1 P1 g ls H locs hfu; exact absurd hfu (Nat.not_lt_zero _)
    | succ fu ih =>
      intro p1 L1 P1 g ls H locs hfu hI hg hp hl h
      have hL1 := hI.1
      refine lv_iload_n X.1.1 X.1.2.1 zd_Mo_look_12 rfl (lv_at hl 2 rfl) ?_
      refine lv_aload_n X.1.1 X.1.2.1 zd_Mo_look_13 rfl (lv_at hl 0 rfl) ?_
      refine rG X h 0 rfl rfl zW_Mo 11 (by decide) zw_504 rfl zd_Mo_look_14 ?_
      refine lv_iadd X.1.1 X.1.2.1 zd_Mo_look_17 ?_
      refine zTop (y := nI (p1 + L1)) (nI_add _ _) ?_
      refine lv_aload_n X.1.1 X.1.2.1 zd_Mo_look_18 rfl (lv_at hl 0 rfl) ?_
      refine rG X h 0 rfl rfl zW_Mo 5 (by decide) zw_498 rfl zd_Mo_look_19 ?_
      refine lv_icmp_ge (tgt := 155) X.1.1 X.1.2.1 zd_Mo_look_22 rfl (fun c1 => ?_) (fun c1 => ?_)
      · have c1 : nb ≤ p1 + L1 := zc_ge_t (by omega) (by omega) c1
        exact ret (L1, g) H locs ls _ (⟨P1, lk_end hI (Or.inl c1), hg⟩) h zd_Mo_look_155
      · have c1 : p1 + L1 < nb := zc_ge_f (by omega) (by omega) c1
        refine lv_iload_n X.1.1 X.1.2.1 zd_Mo_look_25 rfl (lv_at hl 1 rfl) ?_
        refine lv_aload_n X.1.1 X.1.2.1 zd_Mo_look_26 rfl (lv_at hl 0 rfl) ?_
        refine rG X h 0 rfl rfl zW_Mo 11 (by decide) zw_504 rfl zd_Mo_look_27 ?_
        refine lv_iadd X.1.1 X.1.2.1 zd_Mo_look_30 ?_
        refine zTop (y := nI (x + L1)) (nI_add _ _) ?_
        refine lv_aload_n X.1.1 X.1.2.1 zd_Mo_look_31 rfl (lv_at hl 0 rfl) ?_
        refine rG X h 0 rfl rfl zW_Mo 4 (by decide) zw_497 rfl zd_Mo_look_32 ?_
        refine lv_icmp_ge (tgt := 155) X.1.1 X.1.2.1 zd_Mo_look_35 rfl (fun c2 => ?_) (fun c2 => ?_)
        · have c2 : n ≤ x + L1 := zc_ge_t (by omega) (by omega) c2
          exact ret (L1, g) H locs ls _ (⟨P1, lk_end hI (Or.inr (by omega)), hg⟩) h zd_Mo_look_155
        · have c2 : x + L1 < n := zc_ge_f (by omega) (by omega) c2
          refine lv_aload_n X.1.1 X.1.2.1 zd_Mo_look_38 rfl (lv_at hl 0 rfl) ?_
          refine rG X h 0 rfl rfl zW_Mo 11 (by decide) zw_504 rfl zd_Mo_look_39 ?_
          refine lv_ldc X.1.1 X.1.2.1 X.1.2.2.2.1 (X.1.2.2.2.2 _ zw_582) zd_Mo_look_42 ?_
          refine zTop (y := nI 65535) (by decide) ?_
          refine lv_icmp_ge (tgt := 155) X.1.1 X.1.2.1 zd_Mo_look_44 rfl (fun c3 => ?_) (fun c3 => ?_)
          · have c3 : 65535 ≤ L1 := zc_ge_t (by omega) (by omega) c3
            exact ret (L1, g) H locs ls _ (⟨P1, lk_end hI (Or.inr (by omega)), hg⟩) h zd_Mo_look_155
          · have c3 : L1 < 65535 := zc_ge_f (by omega) (by omega) c3
            refine lv_aload_n X.1.1 X.1.2.1 zd_Mo_look_47 rfl (lv_at hl 0 rfl) ?_
            refine rG X h 0 rfl rfl zW_Mo 1 (by decide) zw_494 rfl zd_Mo_look_48 ?_
            refine lv_iload_n X.1.1 X.1.2.1 zd_Mo_look_51 rfl (lv_at hl 2 rfl) ?_
            refine lv_aload_n X.1.1 X.1.2.1 zd_Mo_look_52 rfl (lv_at hl 0 rfl) ?_
            refine rG X h 0 rfl rfl zW_Mo 11 (by decide) zw_504 rfl zd_Mo_look_53 ?_
            refine lv_iadd X.1.1 X.1.2.1 zd_Mo_look_56 ?_
            refine zTop (y := nI (p1 + L1)) (nI_add _ _) ?_
            refine rLb X h 2 1 rfl rfl (by omega) (by omega) zd_Mo_look_57 ?_
            refine lv_aload_n X.1.1 X.1.2.1 zd_Mo_look_58 rfl (lv_at hl 0 rfl) ?_
            refine rG X h 0 rfl rfl zW_Mo 0 (by decide) zw_493 rfl zd_Mo_look_59 ?_
            refine lv_iload_n X.1.1 X.1.2.1 zd_Mo_look_62 rfl (lv_at hl 1 rfl) ?_
            refine lv_aload_n X.1.1 X.1.2.1 zd_Mo_look_63 rfl (lv_at hl 0 rfl) ?_
            refine rG X h 0 rfl rfl zW_Mo 11 (by decide) zw_504 rfl zd_Mo_look_64 ?_
            refine lv_iadd X.1.1 X.1.2.1 zd_Mo_look_67 ?_
            refine zTop (y := nI (x + L1)) (nI_add _ _) ?_
            refine rLb X h 1 0 rfl rfl (by omega) (by omega) zd_Mo_look_68 ?_
            refine lv_icmp_eq (tgt := 75) X.1.1 X.1.2.1 zd_Mo_look_69 rfl (fun c4 => ?_) (fun c4 => ?_)
            · refine lv_iconst (v := nI 0) X.1.1 X.1.2.1 zd_Mo_look_75 (by decide) ?_
              refine lv_istore_n X.1.1 X.1.2.1 zd_Mo_look_76 rfl hl (by decide) rfl (fun ls hl => ?_)
              have hl : lv_has ls 4 [(3, .int (nI 0)), (0, .ref m0), (1, .int (nI x)), (2, .int (nI p1))] := hl
              have inner : ∀ (fu2 : Nat) (k : Nat) (ls : Array Slot) (H : Heap) (locs : List Loc), lim - k < fu2 → k ≤ lim → p1 + k ≤ nb → tr_m fB fI p1 x k → lv_has ls 4 [(0, .ref m0), (1, .int (nI x)), (2, .int (nI p1)), (3, .int (nI k))] → zH D A s [(m0, .inr (4, [.ref aI, .ref aB, .ref aO, .ref aR, .int (nI n), .int (nI nb), .int (nI nm), .int (nI cp), .int (nI frs), .int (nI dm), .int (nI th), .int (nI L1), .int g, .int (nI at_), .int (nI wr), .int (nI fi)])), (aI, .inl (cI, 65536, .inl (fI))), (aB, .inl (cB, 65536, .inl (fB))), (aO, .inl (cO, 67000, .inl (fO))), (aR, .inl (cR, 65536, .inl (fR)))] H locs → W p l e ({ frames := 0, cells := 0, slots := 0, locals := 0 } : Room) s m args below meth c H locs 0 0 Q (F0 m 77 ls []) := by
                intro fu2
                induction fu2 with
                | zero => intro k ls H locs hfu2; exact absurd hfu2 (Nat.not_lt_zero _)
                | succ fu2 ih2 =>
                  intro k ls H locs hfu2 hk hkn hm hl h
                  refine lv_iload_n X.1.1 X.1.2.1 zd_Mo_look_77 rfl (lv_at hl 3 rfl) ?_
                  refine lv_ldc X.1.1 X.1.2.1 X.1.2.2.2.1 (X.1.2.2.2.2 _ zw_582) zd_Mo_look_78 ?_
                  refine zTop (y := nI 65535) (by decide) ?_
                  refine lv_icmp_ge (tgt := 128) X.1.1 X.1.2.1 zd_Mo_look_80 rfl (fun d1 => ?_) (fun d1 => ?_)
                  · have d1 : 65535 ≤ k := zc_ge_t (by omega) (by omega) d1
                    have hx2 : p1 + (k + 1) ≤ nb → k + 1 ≤ lim → fB (p1 + k) ≠ fI (x + k) := fun z1 z2 => absurd z2 (by omega)
                    refine lv_iload_n X.1.1 X.1.2.1 zd_Mo_look_128 rfl (lv_at hl 3 rfl) ?_
                    refine lv_aload_n X.1.1 X.1.2.1 zd_Mo_look_129 rfl (lv_at hl 0 rfl) ?_
                    refine rG X h 0 rfl rfl zW_Mo 11 (by decide) zw_504 rfl zd_Mo_look_130 ?_
                    refine lv_icmp_gt (tgt := 139) X.1.1 X.1.2.1 zd_Mo_look_133 rfl (fun d9 => ?_) (fun d9 => ?_)
                    · have d9 : L1 < k := zc_gt_t (by omega) (by omega) d9
                      refine lv_aload_n X.1.1 X.1.2.1 zd_Mo_look_139 rfl (lv_at hl 0 rfl) ?_
                      refine lv_iload_n X.1.1 X.1.2.1 zd_Mo_look_140 rfl (lv_at hl 3 rfl) ?_
                      refine rP X h 0 rfl rfl zW_Mo zO_Mo zN_Mo 11 (by decide) zw_504 rfl (rfl) (rfl) (Nat.le_of_ble_eq_true rfl) zd_Mo_look_141 (fun H locs h => ?_)
                      have h : zH D A s [(m0, .inr (4, [.ref aI, .ref aB, .ref aO, .ref aR, .int (nI n), .int (nI nb), .int (nI nm), .int (nI cp), .int (nI frs), .int (nI dm), .int (nI th), .int (nI k), .int g, .int (nI at_), .int (nI wr), .int (nI fi)])), (aI, .inl (cI, 65536, .inl (fI))), (aB, .inl (cB, 65536, .inl (fB))), (aO, .inl (cO, 67000, .inl (fO))), (aR, .inl (cR, 65536, .inl (fR)))] H locs := h
                      refine lv_aload_n X.1.1 X.1.2.1 zd_Mo_look_144 rfl (lv_at hl 0 rfl) ?_
                      refine lv_iload_n X.1.1 X.1.2.1 zd_Mo_look_145 rfl (lv_at hl 2 rfl) ?_
                      refine rP X h 0 rfl rfl zW_Mo zO_Mo zN_Mo 12 (by decide) zw_505 rfl (rfl) (rfl) (Nat.le_of_ble_eq_true rfl) zd_Mo_look_146 (fun H locs h => ?_)
                      have h : zH D A s [(m0, .inr (4, [.ref aI, .ref aB, .ref aO, .ref aR, .int (nI n), .int (nI nb), .int (nI nm), .int (nI cp), .int (nI frs), .int (nI dm), .int (nI th), .int (nI k), .int (nI p1), .int (nI at_), .int (nI wr), .int (nI fi)])), (aI, .inl (cI, 65536, .inl (fI))), (aB, .inl (cB, 65536, .inl (fB))), (aO, .inl (cO, 67000, .inl (fO))), (aR, .inl (cR, 65536, .inl (fR)))] H locs := h
                      refine lv_iinc X.1.1 X.1.2.1 zd_Mo_look_149 hl (k := 2) rfl (v := nI (p1 + 1)) (nI_add _ _) (by decide) rfl (fun ls hl => ?_)
                      have hl : lv_has ls 4 [(2, .int (nI (p1 + 1))), (0, .ref m0), (1, .int (nI x)), (3, .int (nI k))] := hl
                      refine lv_goto (tgt := 12) X.1.1 X.1.2.1 zd_Mo_look_152 rfl ?_
                      exact ih (p1 + 1) k p1 (nI p1) ls H locs (by omega) (lk_yes hI d9 hk hkn hm hx2) (fun _ => rfl) (by omega) (lv_sub hl [1, 2, 0] rfl) h
                    · have d9 : k ≤ L1 := zc_gt_f (by omega) (by omega) d9
                      refine lv_goto (tgt := 149) X.1.1 X.1.2.1 zd_Mo_look_136 rfl ?_
                      refine lv_iinc X.1.1 X.1.2.1 zd_Mo_look_149 hl (k := 2) rfl (v := nI (p1 + 1)) (nI_add _ _) (by decide) rfl (fun ls hl => ?_)
                      have hl : lv_has ls 4 [(2, .int (nI (p1 + 1))), (0, .ref m0), (1, .int (nI x)), (3, .int (nI k))] := hl
                      refine lv_goto (tgt := 12) X.1.1 X.1.2.1 zd_Mo_look_152 rfl ?_
                      exact ih (p1 + 1) L1 P1 g ls H locs (by omega) (lk_no hI (fun z1 z2 z => hx2 (by omega) (by omega) (z k (by omega)))) (hg) (by omega) (lv_sub hl [1, 2, 0] rfl) h
                  · have d1 : k < 65535 := zc_ge_f (by omega) (by omega) d1
                    refine lv_iload_n X.1.1 X.1.2.1 zd_Mo_look_83 rfl (lv_at hl 2 rfl) ?_
                    refine lv_iload_n X.1.1 X.1.2.1 zd_Mo_look_84 rfl (lv_at hl 3 rfl) ?_
                    refine lv_iadd X.1.1 X.1.2.1 zd_Mo_look_85 ?_
                    refine zTop (y := nI (p1 + k)) (nI_add _ _) ?_
                    refine lv_aload_n X.1.1 X.1.2.1 zd_Mo_look_86 rfl (lv_at hl 0 rfl) ?_
                    refine rG X h 0 rfl rfl zW_Mo 5 (by decide) zw_498 rfl zd_Mo_look_87 ?_
                    refine lv_icmp_ge (tgt := 128) X.1.1 X.1.2.1 zd_Mo_look_90 rfl (fun d2 => ?_) (fun d2 => ?_)
                    · have d2 : nb ≤ p1 + k := zc_ge_t (by omega) (by omega) d2
                      have hx2 : p1 + (k + 1) ≤ nb → k + 1 ≤ lim → fB (p1 + k) ≠ fI (x + k) := fun z1 z2 => absurd z1 (by omega)
                      refine lv_iload_n X.1.1 X.1.2.1 zd_Mo_look_128 rfl (lv_at hl 3 rfl) ?_
                      refine lv_aload_n X.1.1 X.1.2.1 zd_Mo_look_129 rfl (lv_at hl 0 rfl) ?_
                      refine rG X h 0 rfl rfl zW_Mo 11 (by decide) zw_504 rfl zd_Mo_look_130 ?_
                      refine lv_icmp_gt (tgt := 139) X.1.1 X.1.2.1 zd_Mo_look_133 rfl (fun d9 => ?_) (fun d9 => ?_)
                      · have d9 : L1 < k := zc_gt_t (by omega) (by omega) d9
                        refine lv_aload_n X.1.1 X.1.2.1 zd_Mo_look_139 rfl (lv_at hl 0 rfl) ?_
                        refine lv_iload_n X.1.1 X.1.2.1 zd_Mo_look_140 rfl (lv_at hl 3 rfl) ?_
                        refine rP X h 0 rfl rfl zW_Mo zO_Mo zN_Mo 11 (by decide) zw_504 rfl (rfl) (rfl) (Nat.le_of_ble_eq_true rfl) zd_Mo_look_141 (fun H locs h => ?_)
                        have h : zH D A s [(m0, .inr (4, [.ref aI, .ref aB, .ref aO, .ref aR, .int (nI n), .int (nI nb), .int (nI nm), .int (nI cp), .int (nI frs), .int (nI dm), .int (nI th), .int (nI k), .int g, .int (nI at_), .int (nI wr), .int (nI fi)])), (aI, .inl (cI, 65536, .inl (fI))), (aB, .inl (cB, 65536, .inl (fB))), (aO, .inl (cO, 67000, .inl (fO))), (aR, .inl (cR, 65536, .inl (fR)))] H locs := h
                        refine lv_aload_n X.1.1 X.1.2.1 zd_Mo_look_144 rfl (lv_at hl 0 rfl) ?_
                        refine lv_iload_n X.1.1 X.1.2.1 zd_Mo_look_145 rfl (lv_at hl 2 rfl) ?_
                        refine rP X h 0 rfl rfl zW_Mo zO_Mo zN_Mo 12 (by decide) zw_505 rfl (rfl) (rfl) (Nat.le_of_ble_eq_true rfl) zd_Mo_look_146 (fun H locs h => ?_)
                        have h : zH D A s [(m0, .inr (4, [.ref aI, .ref aB, .ref aO, .ref aR, .int (nI n), .int (nI nb), .int (nI nm), .int (nI cp), .int (nI frs), .int (nI dm), .int (nI th), .int (nI k), .int (nI p1), .int (nI at_), .int (nI wr), .int (nI fi)])), (aI, .inl (cI, 65536, .inl (fI))), (aB, .inl (cB, 65536, .inl (fB))), (aO, .inl (cO, 67000, .inl (fO))), (aR, .inl (cR, 65536, .inl (fR)))] H locs := h
                        refine lv_iinc X.1.1 X.1.2.1 zd_Mo_look_149 hl (k := 2) rfl (v := nI (p1 + 1)) (nI_add _ _) (by decide) rfl (fun ls hl => ?_)
                        have hl : lv_has ls 4 [(2, .int (nI (p1 + 1))), (0, .ref m0), (1, .int (nI x)), (3, .int (nI k))] := hl
                        refine lv_goto (tgt := 12) X.1.1 X.1.2.1 zd_Mo_look_152 rfl ?_
                        exact ih (p1 + 1) k p1 (nI p1) ls H locs (by omega) (lk_yes hI d9 hk hkn hm hx2) (fun _ => rfl) (by omega) (lv_sub hl [1, 2, 0] rfl) h
                      · have d9 : k ≤ L1 := zc_gt_f (by omega) (by omega) d9
                        refine lv_goto (tgt := 149) X.1.1 X.1.2.1 zd_Mo_look_136 rfl ?_
                        refine lv_iinc X.1.1 X.1.2.1 zd_Mo_look_149 hl (k := 2) rfl (v := nI (p1 + 1)) (nI_add _ _) (by decide) rfl (fun ls hl => ?_)
                        have hl : lv_has ls 4 [(2, .int (nI (p1 + 1))), (0, .ref m0), (1, .int (nI x)), (3, .int (nI k))] := hl
                        refine lv_goto (tgt := 12) X.1.1 X.1.2.1 zd_Mo_look_152 rfl ?_
                        exact ih (p1 + 1) L1 P1 g ls H locs (by omega) (lk_no hI (fun z1 z2 z => hx2 (by omega) (by omega) (z k (by omega)))) (hg) (by omega) (lv_sub hl [1, 2, 0] rfl) h
                    · have d2 : p1 + k < nb := zc_ge_f (by omega) (by omega) d2
                      refine lv_iload_n X.1.1 X.1.2.1 zd_Mo_look_93 rfl (lv_at hl 1 rfl) ?_
                      refine lv_iload_n X.1.1 X.1.2.1 zd_Mo_look_94 rfl (lv_at hl 3 rfl) ?_
                      refine lv_iadd X.1.1 X.1.2.1 zd_Mo_look_95 ?_
                      refine zTop (y := nI (x + k)) (nI_add _ _) ?_
                      refine lv_aload_n X.1.1 X.1.2.1 zd_Mo_look_96 rfl (lv_at hl 0 rfl) ?_
                      refine rG X h 0 rfl rfl zW_Mo 4 (by decide) zw_497 rfl zd_Mo_look_97 ?_
                      refine lv_icmp_ge (tgt := 128) X.1.1 X.1.2.1 zd_Mo_look_100 rfl (fun d3 => ?_) (fun d3 => ?_)
                      · have d3 : n ≤ x + k := zc_ge_t (by omega) (by omega) d3
                        have hx2 : p1 + (k + 1) ≤ nb → k + 1 ≤ lim → fB (p1 + k) ≠ fI (x + k) := fun z1 z2 => absurd z2 (by omega)
                        refine lv_iload_n X.1.1 X.1.2.1 zd_Mo_look_128 rfl (lv_at hl 3 rfl) ?_
                        refine lv_aload_n X.1.1 X.1.2.1 zd_Mo_look_129 rfl (lv_at hl 0 rfl) ?_
                        refine rG X h 0 rfl rfl zW_Mo 11 (by decide) zw_504 rfl zd_Mo_look_130 ?_
                        refine lv_icmp_gt (tgt := 139) X.1.1 X.1.2.1 zd_Mo_look_133 rfl (fun d9 => ?_) (fun d9 => ?_)
                        · have d9 : L1 < k := zc_gt_t (by omega) (by omega) d9
                          refine lv_aload_n X.1.1 X.1.2.1 zd_Mo_look_139 rfl (lv_at hl 0 rfl) ?_
                          refine lv_iload_n X.1.1 X.1.2.1 zd_Mo_look_140 rfl (lv_at hl 3 rfl) ?_
                          refine rP X h 0 rfl rfl zW_Mo zO_Mo zN_Mo 11 (by decide) zw_504 rfl (rfl) (rfl) (Nat.le_of_ble_eq_true rfl) zd_Mo_look_141 (fun H locs h => ?_)
                          have h : zH D A s [(m0, .inr (4, [.ref aI, .ref aB, .ref aO, .ref aR, .int (nI n), .int (nI nb), .int (nI nm), .int (nI cp), .int (nI frs), .int (nI dm), .int (nI th), .int (nI k), .int g, .int (nI at_), .int (nI wr), .int (nI fi)])), (aI, .inl (cI, 65536, .inl (fI))), (aB, .inl (cB, 65536, .inl (fB))), (aO, .inl (cO, 67000, .inl (fO))), (aR, .inl (cR, 65536, .inl (fR)))] H locs := h
                          refine lv_aload_n X.1.1 X.1.2.1 zd_Mo_look_144 rfl (lv_at hl 0 rfl) ?_
                          refine lv_iload_n X.1.1 X.1.2.1 zd_Mo_look_145 rfl (lv_at hl 2 rfl) ?_
                          refine rP X h 0 rfl rfl zW_Mo zO_Mo zN_Mo 12 (by decide) zw_505 rfl (rfl) (rfl) (Nat.le_of_ble_eq_true rfl) zd_Mo_look_146 (fun H locs h => ?_)
                          have h : zH D A s [(m0, .inr (4, [.ref aI, .ref aB, .ref aO, .ref aR, .int (nI n), .int (nI nb), .int (nI nm), .int (nI cp), .int (nI frs), .int (nI dm), .int (nI th), .int (nI k), .int (nI p1), .int (nI at_), .int (nI wr), .int (nI fi)])), (aI, .inl (cI, 65536, .inl (fI))), (aB, .inl (cB, 65536, .inl (fB))), (aO, .inl (cO, 67000, .inl (fO))), (aR, .inl (cR, 65536, .inl (fR)))] H locs := h
                          refine lv_iinc X.1.1 X.1.2.1 zd_Mo_look_149 hl (k := 2) rfl (v := nI (p1 + 1)) (nI_add _ _) (by decide) rfl (fun ls hl => ?_)
                          have hl : lv_has ls 4 [(2, .int (nI (p1 + 1))), (0, .ref m0), (1, .int (nI x)), (3, .int (nI k))] := hl
                          refine lv_goto (tgt := 12) X.1.1 X.1.2.1 zd_Mo_look_152 rfl ?_
                          exact ih (p1 + 1) k p1 (nI p1) ls H locs (by omega) (lk_yes hI d9 hk hkn hm hx2) (fun _ => rfl) (by omega) (lv_sub hl [1, 2, 0] rfl) h
                        · have d9 : k ≤ L1 := zc_gt_f (by omega) (by omega) d9
                          refine lv_goto (tgt := 149) X.1.1 X.1.2.1 zd_Mo_look_136 rfl ?_
                          refine lv_iinc X.1.1 X.1.2.1 zd_Mo_look_149 hl (k := 2) rfl (v := nI (p1 + 1)) (nI_add _ _) (by decide) rfl (fun ls hl => ?_)
                          have hl : lv_has ls 4 [(2, .int (nI (p1 + 1))), (0, .ref m0), (1, .int (nI x)), (3, .int (nI k))] := hl
                          refine lv_goto (tgt := 12) X.1.1 X.1.2.1 zd_Mo_look_152 rfl ?_
                          exact ih (p1 + 1) L1 P1 g ls H locs (by omega) (lk_no hI (fun z1 z2 z => hx2 (by omega) (by omega) (z k (by omega)))) (hg) (by omega) (lv_sub hl [1, 2, 0] rfl) h
                      · have d3 : x + k < n := zc_ge_f (by omega) (by omega) d3
                        refine lv_aload_n X.1.1 X.1.2.1 zd_Mo_look_103 rfl (lv_at hl 0 rfl) ?_
                        refine rG X h 0 rfl rfl zW_Mo 1 (by decide) zw_494 rfl zd_Mo_look_104 ?_
                        refine lv_iload_n X.1.1 X.1.2.1 zd_Mo_look_107 rfl (lv_at hl 2 rfl) ?_
                        refine lv_iload_n X.1.1 X.1.2.1 zd_Mo_look_108 rfl (lv_at hl 3 rfl) ?_
                        refine lv_iadd X.1.1 X.1.2.1 zd_Mo_look_109 ?_
                        refine zTop (y := nI (p1 + k)) (nI_add _ _) ?_
                        refine rLb X h 2 1 rfl rfl (by omega) (by omega) zd_Mo_look_110 ?_
                        refine lv_aload_n X.1.1 X.1.2.1 zd_Mo_look_111 rfl (lv_at hl 0 rfl) ?_
                        refine rG X h 0 rfl rfl zW_Mo 0 (by decide) zw_493 rfl zd_Mo_look_112 ?_
                        refine lv_iload_n X.1.1 X.1.2.1 zd_Mo_look_115 rfl (lv_at hl 1 rfl) ?_
                        refine lv_iload_n X.1.1 X.1.2.1 zd_Mo_look_116 rfl (lv_at hl 3 rfl) ?_
                        refine lv_iadd X.1.1 X.1.2.1 zd_Mo_look_117 ?_
                        refine zTop (y := nI (x + k)) (nI_add _ _) ?_
                        refine rLb X h 1 0 rfl rfl (by omega) (by omega) zd_Mo_look_118 ?_
                        refine lv_icmp_ne (tgt := 128) X.1.1 X.1.2.1 zd_Mo_look_119 rfl (fun d4 => ?_) (fun d4 => ?_)
                        · have hx2 : p1 + (k + 1) ≤ nb → k + 1 ≤ lim → fB (p1 + k) ≠ fI (x + k) := fun _ _ => d4
                          refine lv_iload_n X.1.1 X.1.2.1 zd_Mo_look_128 rfl (lv_at hl 3 rfl) ?_
                          refine lv_aload_n X.1.1 X.1.2.1 zd_Mo_look_129 rfl (lv_at hl 0 rfl) ?_
                          refine rG X h 0 rfl rfl zW_Mo 11 (by decide) zw_504 rfl zd_Mo_look_130 ?_
                          refine lv_icmp_gt (tgt := 139) X.1.1 X.1.2.1 zd_Mo_look_133 rfl (fun d9 => ?_) (fun d9 => ?_)
                          · have d9 : L1 < k := zc_gt_t (by omega) (by omega) d9
                            refine lv_aload_n X.1.1 X.1.2.1 zd_Mo_look_139 rfl (lv_at hl 0 rfl) ?_
                            refine lv_iload_n X.1.1 X.1.2.1 zd_Mo_look_140 rfl (lv_at hl 3 rfl) ?_
                            refine rP X h 0 rfl rfl zW_Mo zO_Mo zN_Mo 11 (by decide) zw_504 rfl (rfl) (rfl) (Nat.le_of_ble_eq_true rfl) zd_Mo_look_141 (fun H locs h => ?_)
                            have h : zH D A s [(m0, .inr (4, [.ref aI, .ref aB, .ref aO, .ref aR, .int (nI n), .int (nI nb), .int (nI nm), .int (nI cp), .int (nI frs), .int (nI dm), .int (nI th), .int (nI k), .int g, .int (nI at_), .int (nI wr), .int (nI fi)])), (aI, .inl (cI, 65536, .inl (fI))), (aB, .inl (cB, 65536, .inl (fB))), (aO, .inl (cO, 67000, .inl (fO))), (aR, .inl (cR, 65536, .inl (fR)))] H locs := h
                            refine lv_aload_n X.1.1 X.1.2.1 zd_Mo_look_144 rfl (lv_at hl 0 rfl) ?_
                            refine lv_iload_n X.1.1 X.1.2.1 zd_Mo_look_145 rfl (lv_at hl 2 rfl) ?_
                            refine rP X h 0 rfl rfl zW_Mo zO_Mo zN_Mo 12 (by decide) zw_505 rfl (rfl) (rfl) (Nat.le_of_ble_eq_true rfl) zd_Mo_look_146 (fun H locs h => ?_)
                            have h : zH D A s [(m0, .inr (4, [.ref aI, .ref aB, .ref aO, .ref aR, .int (nI n), .int (nI nb), .int (nI nm), .int (nI cp), .int (nI frs), .int (nI dm), .int (nI th), .int (nI k), .int (nI p1), .int (nI at_), .int (nI wr), .int (nI fi)])), (aI, .inl (cI, 65536, .inl (fI))), (aB, .inl (cB, 65536, .inl (fB))), (aO, .inl (cO, 67000, .inl (fO))), (aR, .inl (cR, 65536, .inl (fR)))] H locs := h
                            refine lv_iinc X.1.1 X.1.2.1 zd_Mo_look_149 hl (k := 2) rfl (v := nI (p1 + 1)) (nI_add _ _) (by decide) rfl (fun ls hl => ?_)
                            have hl : lv_has ls 4 [(2, .int (nI (p1 + 1))), (0, .ref m0), (1, .int (nI x)), (3, .int (nI k))] := hl
                            refine lv_goto (tgt := 12) X.1.1 X.1.2.1 zd_Mo_look_152 rfl ?_
                            exact ih (p1 + 1) k p1 (nI p1) ls H locs (by omega) (lk_yes hI d9 hk hkn hm hx2) (fun _ => rfl) (by omega) (lv_sub hl [1, 2, 0] rfl) h
                          · have d9 : k ≤ L1 := zc_gt_f (by omega) (by omega) d9
                            refine lv_goto (tgt := 149) X.1.1 X.1.2.1 zd_Mo_look_136 rfl ?_
                            refine lv_iinc X.1.1 X.1.2.1 zd_Mo_look_149 hl (k := 2) rfl (v := nI (p1 + 1)) (nI_add _ _) (by decide) rfl (fun ls hl => ?_)
                            have hl : lv_has ls 4 [(2, .int (nI (p1 + 1))), (0, .ref m0), (1, .int (nI x)), (3, .int (nI k))] := hl
                            refine lv_goto (tgt := 12) X.1.1 X.1.2.1 zd_Mo_look_152 rfl ?_
                            exact ih (p1 + 1) L1 P1 g ls H locs (by omega) (lk_no hI (fun z1 z2 z => hx2 (by omega) (by omega) (z k (by omega)))) (hg) (by omega) (lv_sub hl [1, 2, 0] rfl) h
                        · refine lv_iinc X.1.1 X.1.2.1 zd_Mo_look_122 hl (k := 3) rfl (v := nI (k + 1)) (nI_add _ _) (by decide) rfl (fun ls hl => ?_)
                          have hl : lv_has ls 4 [(3, .int (nI (k + 1))), (0, .ref m0), (1, .int (nI x)), (2, .int (nI p1))] := hl
                          refine lv_goto (tgt := 77) X.1.1 X.1.2.1 zd_Mo_look_125 rfl ?_
                          exact ih2 (k + 1) ls H locs (by omega) (by omega) (by omega) (tr_m_su hm d4) (lv_sub hl [1, 2, 3, 0] rfl) h
              exact inner _ 0 ls H locs (Nat.lt_succ_self _) (by omega) (by omega) (fun i hi => absurd hi (Nat.not_lt_zero _)) (lv_sub hl [1, 2, 3, 0] rfl) h
            · refine lv_goto (tgt := 149) X.1.1 X.1.2.1 zd_Mo_look_72 rfl ?_
              refine lv_iinc X.1.1 X.1.2.1 zd_Mo_look_149 hl (k := 2) rfl (v := nI (p1 + 1)) (nI_add _ _) (by decide) rfl (fun ls hl => ?_)
              have hl : lv_has ls 4 [(2, .int (nI (p1 + 1))), (0, .ref m0), (1, .int (nI x))] := hl
              refine lv_goto (tgt := 12) X.1.1 X.1.2.1 zd_Mo_look_152 rfl ?_
              exact ih (p1 + 1) L1 P1 g ls H locs (by omega) (lk_no hI (fun _ _ z => c4 (z L1 (Nat.lt_succ_self _)))) (hg) (by omega) (lv_sub hl [1, 2, 0] rfl) h
  exact loop _ 0 0 0 (-1) ls H locs (Nat.lt_succ_self _) (lk_0) (fun z => absurd z (Nat.lt_irrefl 0)) (by omega) (lv_sub hl [1, 2, 0] rfl) h
