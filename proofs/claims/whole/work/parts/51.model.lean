/-! DeltaPressModel -/
theorem ush_0 (x : Int32) : ush x 0 = x := by unfold ush; rw [Nat.pow_zero, Nat.div_one, nI_toNat]
def fb5 (p1 p2 p3 p4 p5 : Int32) (k : Nat) : Int32 := b8 (ush (if k < 4 then p1 else if k < 8 then p2 else if k < 12 then p3 else if k < 16 then p4 else p5) (24 - k % 4 * 8))
def feB (p1 p2 p3 p4 p5 : Int32) : List Int32 := fourB p1 ++ fourB p2 ++ fourB p3 ++ fourB p4 ++ fourB p5
theorem fb5_all (p1 p2 p3 p4 p5 : Int32) : (List.range 20).map (fb5 p1 p2 p3 p4 p5) = feB p1 p2 p3 p4 p5 := by
  have e : List.range 20 = [0, 1, 2, 3, 4, 5, 6, 7, 8, 9, 10, 11, 12, 13, 14, 15, 16, 17, 18, 19] := by decide
  rw [e]
  simp [fb5, feB, fourB, ush_0]
theorem rg_su {f : Nat → Int32} (k : Nat) : (List.range (k + 1)).map f = (List.range k).map f ++ [f k] := by simp [List.range_succ]

set_option maxHeartbeats 4000000 in
set_option maxRecDepth 100000 in
theorem zc_Mo_thrown (l : Launch) (D : va_G) {m0 aI aB aO aR n nb nm cp frs dm th be at_ wr fi : Nat} {wh : Int32} {fI fB fO fR : Nat → Int32} {cI cB cO cR : ClassId}  (sz : Nat) : zMi l D zy_Mo_thrown zb_Mo_thrown 1 .int ({ frames := 0, cells := 0, slots := 0, locals := 0 } : Room) [.ref m0] [(cI, .byte), (cB, .byte), (cO, .byte), (cR, .byte)] [(m0, .inr (4, [.ref aI, .ref aB, .ref aO, .ref aR, .int (nI n), .int (nI nb), .int (nI nm), .int (nI cp), .int (nI frs), .int (nI dm), .int (nI th), .int (nI be), .int wh, .int (nI at_), .int (nI wr), .int (nI fi)])), (aI, .inl (cI, 65536, .inl (fI))), (aB, .inl (cB, 65536, .inl (fB))), (aO, .inl (cO, 67000, .inl (fO))), (aR, .inl (cR, 65536, .inl (fR)))] sz (fun (r : Int32) (u : Unit) => r = nI th ∧ True) (fun _ => [(m0, .inr (4, [.ref aI, .ref aB, .ref aO, .ref aR, .int (nI n), .int (nI nb), .int (nI nm), .int (nI cp), .int (nI frs), .int (nI dm), .int (nI th), .int (nI be), .int wh, .int (nI at_), .int (nI wr), .int (nI fi)])), (aI, .inl (cI, 65536, .inl (fI))), (aB, .inl (cB, 65536, .inl (fB))), (aO, .inl (cO, 67000, .inl (fO))), (aR, .inl (cR, 65536, .inl (fR)))]) := by
  refine zEi (by decide) (Nat.le_of_ble_eq_true rfl) (fun p e s m args below meth c ls A Q X hl h hsz ret => ?_)
  have hl : lv_has ls 1 [(0, .ref m0)] := hl
  generalize hH0 : s.heap = H at h ⊢
  have h : zH D A s [(m0, .inr (4, [.ref aI, .ref aB, .ref aO, .ref aR, .int (nI n), .int (nI nb), .int (nI nm), .int (nI cp), .int (nI frs), .int (nI dm), .int (nI th), .int (nI be), .int wh, .int (nI at_), .int (nI wr), .int (nI fi)])), (aI, .inl (cI, 65536, .inl (fI))), (aB, .inl (cB, 65536, .inl (fB))), (aO, .inl (cO, 67000, .inl (fO))), (aR, .inl (cR, 65536, .inl (fR)))] H [] := h
  generalize hL0 : ([] : List Loc) = locs at h ⊢
  refine lv_aload_n X.1.1 X.1.2.1 zd_Mo_thrown_0 rfl (lv_at hl 0 rfl) ?_
  refine rG X h 0 rfl rfl zW_Mo 10 (by decide) zw_503 rfl zd_Mo_thrown_1 ?_
  exact ret _ () H locs ls _ (⟨rfl, trivial⟩) h zd_Mo_thrown_4

set_option maxHeartbeats 4000000 in
set_option maxRecDepth 100000 in
theorem zc_Mo_refuse (l : Launch) (D : va_G) {m0 aI aB aO aR n nb nm cp frs dm th be at_ wr fi : Nat} {wh : Int32} {fI fB fO fR : Nat → Int32} {cI cB cO cR : ClassId} {x : Nat}  (sz : Nat) : zMi l D zy_Mo_refuse zb_Mo_refuse 2 .int ({ frames := 0, cells := 0, slots := 0, locals := 0 } : Room) [.ref m0, .int (nI x)] [(cI, .byte), (cB, .byte), (cO, .byte), (cR, .byte)] [(m0, .inr (4, [.ref aI, .ref aB, .ref aO, .ref aR, .int (nI n), .int (nI nb), .int (nI nm), .int (nI cp), .int (nI frs), .int (nI dm), .int (nI th), .int (nI be), .int wh, .int (nI at_), .int (nI wr), .int (nI fi)])), (aI, .inl (cI, 65536, .inl (fI))), (aB, .inl (cB, 65536, .inl (fB))), (aO, .inl (cO, 67000, .inl (fO))), (aR, .inl (cR, 65536, .inl (fR)))] sz (fun (r : Int32) (u : Unit) => r = nI 0 ∧ True) (fun _ => [(m0, .inr (4, [.ref aI, .ref aB, .ref aO, .ref aR, .int (nI n), .int (nI nb), .int (nI nm), .int (nI cp), .int (nI frs), .int (nI dm), .int (nI x), .int (nI be), .int wh, .int (nI at_), .int (nI wr), .int (nI fi)])), (aI, .inl (cI, 65536, .inl (fI))), (aB, .inl (cB, 65536, .inl (fB))), (aO, .inl (cO, 67000, .inl (fO))), (aR, .inl (cR, 65536, .inl (fR)))]) := by
  refine zEi (by decide) (Nat.le_of_ble_eq_true rfl) (fun p e s m args below meth c ls A Q X hl h hsz ret => ?_)
  have hl : lv_has ls 2 [(0, .ref m0), (1, .int (nI x))] := hl
  generalize hH0 : s.heap = H at h ⊢
  have h : zH D A s [(m0, .inr (4, [.ref aI, .ref aB, .ref aO, .ref aR, .int (nI n), .int (nI nb), .int (nI nm), .int (nI cp), .int (nI frs), .int (nI dm), .int (nI th), .int (nI be), .int wh, .int (nI at_), .int (nI wr), .int (nI fi)])), (aI, .inl (cI, 65536, .inl (fI))), (aB, .inl (cB, 65536, .inl (fB))), (aO, .inl (cO, 67000, .inl (fO))), (aR, .inl (cR, 65536, .inl (fR)))] H [] := h
  generalize hL0 : ([] : List Loc) = locs at h ⊢
  refine lv_aload_n X.1.1 X.1.2.1 zd_Mo_refuse_0 rfl (lv_at hl 0 rfl) ?_
  refine lv_iload_n X.1.1 X.1.2.1 zd_Mo_refuse_1 rfl (lv_at hl 1 rfl) ?_
  refine rP X h 0 rfl rfl zW_Mo zO_Mo zN_Mo 10 (by decide) zw_503 rfl (rfl) (rfl) (Nat.le_of_ble_eq_true rfl) zd_Mo_refuse_2 (fun H locs h => ?_)
  have h : zH D A s [(m0, .inr (4, [.ref aI, .ref aB, .ref aO, .ref aR, .int (nI n), .int (nI nb), .int (nI nm), .int (nI cp), .int (nI frs), .int (nI dm), .int (nI x), .int (nI be), .int wh, .int (nI at_), .int (nI wr), .int (nI fi)])), (aI, .inl (cI, 65536, .inl (fI))), (aB, .inl (cB, 65536, .inl (fB))), (aO, .inl (cO, 67000, .inl (fO))), (aR, .inl (cR, 65536, .inl (fR)))] H locs := h
  refine lv_iconst (v := nI 0) X.1.1 X.1.2.1 zd_Mo_refuse_5 (by decide) ?_
  exact ret _ () H locs ls _ (⟨rfl, trivial⟩) h zd_Mo_refuse_6

set_option maxHeartbeats 4000000 in
set_option maxRecDepth 100000 in
theorem zc_Mo_feed (l : Launch) (D : va_G) {m0 aI aB aO aR n nb nm cp frs dm th be at_ wr fi : Nat} {wh : Int32} {fI fB fO fR : Nat → Int32} {cI cB cO cR : ClassId} {p1 p2 p3 p4 p5 : Int32} (hn : n + 20 ≤ 65536) (hf : sb_Fit fI) (sz : Nat) : zMi l D zy_Mo_feed zb_Mo_feed 8 .int ({ frames := 1, cells := 0, slots := 0, locals := 21 } : Room) [.ref m0, .int p1, .int p2, .int p3, .int p4, .int p5] [(cI, .byte), (cB, .byte), (cO, .byte), (cR, .byte)] [(m0, .inr (4, [.ref aI, .ref aB, .ref aO, .ref aR, .int (nI n), .int (nI nb), .int (nI nm), .int (nI cp), .int (nI frs), .int (nI dm), .int (nI th), .int (nI be), .int wh, .int (nI at_), .int (nI wr), .int (nI fi)])), (aI, .inl (cI, 65536, .inl (fI))), (aB, .inl (cB, 65536, .inl (fB))), (aO, .inl (cO, 67000, .inl (fO))), (aR, .inl (cR, 65536, .inl (fR)))] sz (fun (r : Int32) (u : Nat → Int32) => r = nI (n + 20) ∧ tx u (n + 20) = tx fI n ++ feB p1 p2 p3 p4 p5 ∧ sb_Fit u) (fun u => [(m0, .inr (4, [.ref aI, .ref aB, .ref aO, .ref aR, .int (nI (n + 20)), .int (nI nb), .int (nI nm), .int (nI cp), .int (nI frs), .int (nI dm), .int (nI 0), .int (nI be), .int wh, .int (nI at_), .int (nI wr), .int (nI fi)])), (aI, .inl (cI, 65536, .inl (u))), (aB, .inl (cB, 65536, .inl (fB))), (aO, .inl (cO, 67000, .inl (fO))), (aR, .inl (cR, 65536, .inl (fR)))]) := by
  refine zEi (by decide) (Nat.le_of_ble_eq_true rfl) (fun p e s m args below meth c ls A Q X hl h hsz ret => ?_)
  have hl : lv_has ls 8 [(0, .ref m0), (1, .int p1), (2, .int p2), (3, .int p3), (4, .int p4), (5, .int p5)] := hl
  generalize hH0 : s.heap = H at h ⊢
  have h : zH D A s [(m0, .inr (4, [.ref aI, .ref aB, .ref aO, .ref aR, .int (nI n), .int (nI nb), .int (nI nm), .int (nI cp), .int (nI frs), .int (nI dm), .int (nI th), .int (nI be), .int wh, .int (nI at_), .int (nI wr), .int (nI fi)])), (aI, .inl (cI, 65536, .inl (fI))), (aB, .inl (cB, 65536, .inl (fB))), (aO, .inl (cO, 67000, .inl (fO))), (aR, .inl (cR, 65536, .inl (fR)))] H [] := h
  generalize hL0 : ([] : List Loc) = locs at h ⊢
  refine lv_aload_n X.1.1 X.1.2.1 zd_Mo_feed_0 rfl (lv_at hl 0 rfl) ?_
  refine lv_iconst (v := nI 0) X.1.1 X.1.2.1 zd_Mo_feed_1 (by decide) ?_
  refine rP X h 0 rfl rfl zW_Mo zO_Mo zN_Mo 10 (by decide) zw_503 rfl (rfl) (rfl) (Nat.le_of_ble_eq_true rfl) zd_Mo_feed_2 (fun H locs h => ?_)
  have h : zH D A s [(m0, .inr (4, [.ref aI, .ref aB, .ref aO, .ref aR, .int (nI n), .int (nI nb), .int (nI nm), .int (nI cp), .int (nI frs), .int (nI dm), .int (nI 0), .int (nI be), .int wh, .int (nI at_), .int (nI wr), .int (nI fi)])), (aI, .inl (cI, 65536, .inl (fI))), (aB, .inl (cB, 65536, .inl (fB))), (aO, .inl (cO, 67000, .inl (fO))), (aR, .inl (cR, 65536, .inl (fR)))] H locs := h
  refine lv_aload_n X.1.1 X.1.2.1 zd_Mo_feed_5 rfl (lv_at hl 0 rfl) ?_
  refine rG X h 0 rfl rfl zW_Mo 4 (by decide) zw_497 rfl zd_Mo_feed_6 ?_
  refine lv_bipush (v := nI 20) X.1.1 X.1.2.1 zd_Mo_feed_9 (by decide) ?_
  refine lv_iadd X.1.1 X.1.2.1 zd_Mo_feed_11 ?_
  refine zTop (y := nI (n + 20)) (nI_add _ _) ?_
  refine lv_ldc X.1.1 X.1.2.1 X.1.2.2.2.1 (X.1.2.2.2.2 _ zw_491) zd_Mo_feed_12 ?_
  refine zTop (y := nI 65536) (by decide) ?_
  refine lv_icmp_le (tgt := 23) X.1.1 X.1.2.1 zd_Mo_feed_14 rfl (fun c1 => ?_) (fun c1 => ?_)
  · have c1 : n + 20 ≤ 65536 := zc_le_t (by omega) (by omega) c1
    refine lv_iconst (v := nI 0) X.1.1 X.1.2.1 zd_Mo_feed_23 (by decide) ?_
    refine lv_istore X.1.1 X.1.2.1 zd_Mo_feed_24 hl (by decide) rfl (fun ls hl => ?_)
    have hl : lv_has ls 8 [(6, .int (nI 0)), (0, .ref m0), (1, .int p1), (2, .int p2), (3, .int p3), (4, .int p4), (5, .int p5)] := hl
    have loop : ∀ (fu : Nat) (k : Nat) (g : Nat → Int32) (ls : Array Slot) (H : Heap) (locs : List Loc), 20 - k < fu → k ≤ 20 → tx g (n + k) = tx fI n ++ (List.range k).map (fb5 p1 p2 p3 p4 p5) → sb_Fit g → lv_has ls 8 [(0, .ref m0), (1, .int p1), (2, .int p2), (3, .int p3), (4, .int p4), (5, .int p5), (6, .int (nI k))] → zH D A s [(m0, .inr (4, [.ref aI, .ref aB, .ref aO, .ref aR, .int (nI (n + k)), .int (nI nb), .int (nI nm), .int (nI cp), .int (nI frs), .int (nI dm), .int (nI 0), .int (nI be), .int wh, .int (nI at_), .int (nI wr), .int (nI fi)])), (aI, .inl (cI, 65536, .inl (g))), (aB, .inl (cB, 65536, .inl (fB))), (aO, .inl (cO, 67000, .inl (fO))), (aR, .inl (cR, 65536, .inl (fR)))] H locs → W p l e ({ frames := 1, cells := 0, slots := 0, locals := 21 } : Room) s m args below meth c H locs 0 0 Q (F0 m 26 ls []) := by
      intro fu
      induction fu with
      | zero => intro k g ls H locs hfu; exact absurd hfu (Nat.not_lt_zero _)
      | succ fu ih =>
        intro k g ls H locs hfu hk he hg hl h
        refine lv_iload X.1.1 X.1.2.1 zd_Mo_feed_26 (lv_at hl 6 rfl) ?_
        refine lv_bipush (v := nI 20) X.1.1 X.1.2.1 zd_Mo_feed_28 (by decide) ?_
        refine lv_icmp_ge (tgt := 120) X.1.1 X.1.2.1 zd_Mo_feed_30 rfl (fun d1 => ?_) (fun d1 => ?_)
        · have d1 : 20 ≤ k := zc_ge_t (by omega) (by omega) d1
          have ek : k = 20 := by omega
          subst ek
          refine lv_aload_n X.1.1 X.1.2.1 zd_Mo_feed_120 rfl (lv_at hl 0 rfl) ?_
          refine rG X h 0 rfl rfl zW_Mo 4 (by decide) zw_497 rfl zd_Mo_feed_121 ?_
          exact ret _ g H locs ls _ (⟨rfl, by rw [← fb5_all]; exact he, hg⟩) h zd_Mo_feed_124
        · have d1 : k < 20 := zc_ge_f (by omega) (by omega) d1
          refine lv_iload X.1.1 X.1.2.1 zd_Mo_feed_33 (lv_at hl 6 rfl) ?_
          refine lv_iconst (v := nI 4) X.1.1 X.1.2.1 zd_Mo_feed_35 (by decide) ?_
          refine lv_icmp_ge (tgt := 43) X.1.1 X.1.2.1 zd_Mo_feed_36 rfl (fun f0 => ?_) (fun f0 => ?_)
          · have f0 : 4 ≤ k := zc_ge_t (by omega) (by omega) f0
            refine lv_iload X.1.1 X.1.2.1 zd_Mo_feed_43 (lv_at hl 6 rfl) ?_
            refine lv_bipush (v := nI 8) X.1.1 X.1.2.1 zd_Mo_feed_45 (by decide) ?_
            refine lv_icmp_ge (tgt := 54) X.1.1 X.1.2.1 zd_Mo_feed_47 rfl (fun f1 => ?_) (fun f1 => ?_)
            · have f1 : 8 ≤ k := zc_ge_t (by omega) (by omega) f1
              refine lv_iload X.1.1 X.1.2.1 zd_Mo_feed_54 (lv_at hl 6 rfl) ?_
              refine lv_bipush (v := nI 12) X.1.1 X.1.2.1 zd_Mo_feed_56 (by decide) ?_
              refine lv_icmp_ge (tgt := 65) X.1.1 X.1.2.1 zd_Mo_feed_58 rfl (fun f2 => ?_) (fun f2 => ?_)
              · have f2 : 12 ≤ k := zc_ge_t (by omega) (by omega) f2
                refine lv_iload X.1.1 X.1.2.1 zd_Mo_feed_65 (lv_at hl 6 rfl) ?_
                refine lv_bipush (v := nI 16) X.1.1 X.1.2.1 zd_Mo_feed_67 (by decide) ?_
                refine lv_icmp_ge (tgt := 77) X.1.1 X.1.2.1 zd_Mo_feed_69 rfl (fun f3 => ?_) (fun f3 => ?_)
                · have f3 : 16 ≤ k := zc_ge_t (by omega) (by omega) f3
                  refine lv_iload X.1.1 X.1.2.1 zd_Mo_feed_77 (lv_at hl 5 rfl) ?_
                  refine lv_istore X.1.1 X.1.2.1 zd_Mo_feed_79 hl (by decide) rfl (fun ls hl => ?_)
                  have hl : lv_has ls 8 [(7, .int p5), (0, .ref m0), (1, .int p1), (2, .int p2), (3, .int p3), (4, .int p4), (5, .int p5), (6, .int (nI k))] := hl
                  refine lv_aload_n X.1.1 X.1.2.1 zd_Mo_feed_81 rfl (lv_at hl 1 rfl) ?_
                  refine rG X h 0 rfl rfl zW_Mo 0 (by decide) zw_493 rfl zd_Mo_feed_82 ?_
                  refine lv_aload_n X.1.1 X.1.2.1 zd_Mo_feed_85 rfl (lv_at hl 1 rfl) ?_
                  refine rG X h 0 rfl rfl zW_Mo 4 (by decide) zw_497 rfl zd_Mo_feed_86 ?_
                  refine lv_iload X.1.1 X.1.2.1 zd_Mo_feed_89 (lv_at hl 0 rfl) ?_
                  refine lv_bipush (v := nI 24) X.1.1 X.1.2.1 zd_Mo_feed_91 (by decide) ?_
                  refine lv_iload X.1.1 X.1.2.1 zd_Mo_feed_93 (lv_at hl 7 rfl) ?_
                  refine lv_iconst (v := nI 4) X.1.1 X.1.2.1 zd_Mo_feed_95 (by decide) ?_
                  refine lv_irem X.1.1 X.1.2.1 zd_Mo_feed_96 (by decide) ?_
                  refine zTop (y := nI (k % 4)) (pk_rem (by omega) (by omega) (by omega)) ?_
                  refine lv_bipush (v := nI 8) X.1.1 X.1.2.1 zd_Mo_feed_97 (by decide) ?_
                  refine lv_imul X.1.1 X.1.2.1 zd_Mo_feed_99 ?_
                  refine zTop (y := nI ((k % 4) * 8)) (pk_mul _ _) ?_
                  refine lv_isub X.1.1 X.1.2.1 zd_Mo_feed_100 ?_
                  refine zTop (y := nI (24 - ((k % 4) * 8))) (pk_sub (by omega)) ?_
                  refine lv_iushr (v := ush p5 (24 - k % 4 * 8)) X.1.1 X.1.2.1 zd_Mo_feed_101 (ush_eq _ (by omega)) ?_
                  refine lv_i2b (v := b8 (ush p5 (24 - k % 4 * 8))) X.1.1 X.1.2.1 zd_Mo_feed_102 (rfl) ?_
                  refine rSb X h 1 0 rfl rfl (by omega) (by omega) (pk_vb _) zd_Mo_feed_103 (fun H locs h => ?_)
                  have h : zH D A s [(m0, .inr (4, [.ref aI, .ref aB, .ref aO, .ref aR, .int (nI (n + k)), .int (nI nb), .int (nI nm), .int (nI cp), .int (nI frs), .int (nI dm), .int (nI 0), .int (nI be), .int wh, .int (nI at_), .int (nI wr), .int (nI fi)])), (aI, .inl (cI, 65536, .inl (upd g (n + k) (b8 (ush p5 (24 - k % 4 * 8)))))), (aB, .inl (cB, 65536, .inl (fB))), (aO, .inl (cO, 67000, .inl (fO))), (aR, .inl (cR, 65536, .inl (fR)))] H locs := h
                  refine lv_aload_n X.1.1 X.1.2.1 zd_Mo_feed_104 rfl (lv_at hl 1 rfl) ?_
                  refine lv_dup X.1.1 X.1.2.1 zd_Mo_feed_105 rfl ?_
                  refine rG X h 0 rfl rfl zW_Mo 4 (by decide) zw_497 rfl zd_Mo_feed_106 ?_
                  refine lv_iconst (v := nI 1) X.1.1 X.1.2.1 zd_Mo_feed_109 (by decide) ?_
                  refine lv_iadd X.1.1 X.1.2.1 zd_Mo_feed_110 ?_
                  refine zTop (y := nI (n + k + 1)) (nI_add _ _) ?_
                  refine rP X h 0 rfl rfl zW_Mo zO_Mo zN_Mo 4 (by decide) zw_497 rfl (rfl) (rfl) (Nat.le_of_ble_eq_true rfl) zd_Mo_feed_111 (fun H locs h => ?_)
                  have h : zH D A s [(m0, .inr (4, [.ref aI, .ref aB, .ref aO, .ref aR, .int (nI (n + k + 1)), .int (nI nb), .int (nI nm), .int (nI cp), .int (nI frs), .int (nI dm), .int (nI 0), .int (nI be), .int wh, .int (nI at_), .int (nI wr), .int (nI fi)])), (aI, .inl (cI, 65536, .inl (upd g (n + k) (b8 (ush p5 (24 - k % 4 * 8)))))), (aB, .inl (cB, 65536, .inl (fB))), (aO, .inl (cO, 67000, .inl (fO))), (aR, .inl (cR, 65536, .inl (fR)))] H locs := h
                  refine lv_iinc X.1.1 X.1.2.1 zd_Mo_feed_114 hl (k := 7) rfl (v := nI (k + 1)) (nI_add _ _) (by decide) rfl (fun ls hl => ?_)
                  have hl : lv_has ls 8 [(6, .int (nI (k + 1))), (7, .int p5), (0, .ref m0), (1, .int p1), (2, .int p2), (3, .int p3), (4, .int p4), (5, .int p5)] := hl
                  refine lv_goto (tgt := 26) X.1.1 X.1.2.1 zd_Mo_feed_117 rfl ?_
                  exact ih (k + 1) (upd g (n + k) (b8 (ush p5 (24 - k % 4 * 8)))) ls H locs (by omega) (by omega) (by
                        rw [← Nat.add_assoc, tx_push, rg_su, he, List.append_assoc]
                        have e1 : fb5 p1 p2 p3 p4 p5 k = b8 (ush p5 (24 - k % 4 * 8)) := by unfold fb5; rw [if_neg (by omega), if_neg (by omega), if_neg (by omega), if_neg (by omega)]
                        rw [e1]) (fit_upd hg _ _) (lv_sub hl [2, 3, 4, 5, 6, 7, 0] rfl) h
                · have f3 : k < 16 := zc_ge_f (by omega) (by omega) f3
                  refine lv_iload X.1.1 X.1.2.1 zd_Mo_feed_72 (lv_at hl 4 rfl) ?_
                  refine lv_goto (tgt := 79) X.1.1 X.1.2.1 zd_Mo_feed_74 rfl ?_
                  refine lv_istore X.1.1 X.1.2.1 zd_Mo_feed_79 hl (by decide) rfl (fun ls hl => ?_)
                  have hl : lv_has ls 8 [(7, .int p4), (0, .ref m0), (1, .int p1), (2, .int p2), (3, .int p3), (4, .int p4), (5, .int p5), (6, .int (nI k))] := hl
                  refine lv_aload_n X.1.1 X.1.2.1 zd_Mo_feed_81 rfl (lv_at hl 1 rfl) ?_
                  refine rG X h 0 rfl rfl zW_Mo 0 (by decide) zw_493 rfl zd_Mo_feed_82 ?_
                  refine lv_aload_n X.1.1 X.1.2.1 zd_Mo_feed_85 rfl (lv_at hl 1 rfl) ?_
                  refine rG X h 0 rfl rfl zW_Mo 4 (by decide) zw_497 rfl zd_Mo_feed_86 ?_
                  refine lv_iload X.1.1 X.1.2.1 zd_Mo_feed_89 (lv_at hl 0 rfl) ?_
                  refine lv_bipush (v := nI 24) X.1.1 X.1.2.1 zd_Mo_feed_91 (by decide) ?_
                  refine lv_iload X.1.1 X.1.2.1 zd_Mo_feed_93 (lv_at hl 7 rfl) ?_
                  refine lv_iconst (v := nI 4) X.1.1 X.1.2.1 zd_Mo_feed_95 (by decide) ?_
                  refine lv_irem X.1.1 X.1.2.1 zd_Mo_feed_96 (by decide) ?_
                  refine zTop (y := nI (k % 4)) (pk_rem (by omega) (by omega) (by omega)) ?_
                  refine lv_bipush (v := nI 8) X.1.1 X.1.2.1 zd_Mo_feed_97 (by decide) ?_
                  refine lv_imul X.1.1 X.1.2.1 zd_Mo_feed_99 ?_
                  refine zTop (y := nI ((k % 4) * 8)) (pk_mul _ _) ?_
                  refine lv_isub X.1.1 X.1.2.1 zd_Mo_feed_100 ?_
                  refine zTop (y := nI (24 - ((k % 4) * 8))) (pk_sub (by omega)) ?_
                  refine lv_iushr (v := ush p4 (24 - k % 4 * 8)) X.1.1 X.1.2.1 zd_Mo_feed_101 (ush_eq _ (by omega)) ?_
                  refine lv_i2b (v := b8 (ush p4 (24 - k % 4 * 8))) X.1.1 X.1.2.1 zd_Mo_feed_102 (rfl) ?_
                  refine rSb X h 1 0 rfl rfl (by omega) (by omega) (pk_vb _) zd_Mo_feed_103 (fun H locs h => ?_)
                  have h : zH D A s [(m0, .inr (4, [.ref aI, .ref aB, .ref aO, .ref aR, .int (nI (n + k)), .int (nI nb), .int (nI nm), .int (nI cp), .int (nI frs), .int (nI dm), .int (nI 0), .int (nI be), .int wh, .int (nI at_), .int (nI wr), .int (nI fi)])), (aI, .inl (cI, 65536, .inl (upd g (n + k) (b8 (ush p4 (24 - k % 4 * 8)))))), (aB, .inl (cB, 65536, .inl (fB))), (aO, .inl (cO, 67000, .inl (fO))), (aR, .inl (cR, 65536, .inl (fR)))] H locs := h
                  refine lv_aload_n X.1.1 X.1.2.1 zd_Mo_feed_104 rfl (lv_at hl 1 rfl) ?_
                  refine lv_dup X.1.1 X.1.2.1 zd_Mo_feed_105 rfl ?_
                  refine rG X h 0 rfl rfl zW_Mo 4 (by decide) zw_497 rfl zd_Mo_feed_106 ?_
                  refine lv_iconst (v := nI 1) X.1.1 X.1.2.1 zd_Mo_feed_109 (by decide) ?_
                  refine lv_iadd X.1.1 X.1.2.1 zd_Mo_feed_110 ?_
                  refine zTop (y := nI (n + k + 1)) (nI_add _ _) ?_
                  refine rP X h 0 rfl rfl zW_Mo zO_Mo zN_Mo 4 (by decide) zw_497 rfl (rfl) (rfl) (Nat.le_of_ble_eq_true rfl) zd_Mo_feed_111 (fun H locs h => ?_)
                  have h : zH D A s [(m0, .inr (4, [.ref aI, .ref aB, .ref aO, .ref aR, .int (nI (n + k + 1)), .int (nI nb), .int (nI nm), .int (nI cp), .int (nI frs), .int (nI dm), .int (nI 0), .int (nI be), .int wh, .int (nI at_), .int (nI wr), .int (nI fi)])), (aI, .inl (cI, 65536, .inl (upd g (n + k) (b8 (ush p4 (24 - k % 4 * 8)))))), (aB, .inl (cB, 65536, .inl (fB))), (aO, .inl (cO, 67000, .inl (fO))), (aR, .inl (cR, 65536, .inl (fR)))] H locs := h
                  refine lv_iinc X.1.1 X.1.2.1 zd_Mo_feed_114 hl (k := 7) rfl (v := nI (k + 1)) (nI_add _ _) (by decide) rfl (fun ls hl => ?_)
                  have hl : lv_has ls 8 [(6, .int (nI (k + 1))), (7, .int p4), (0, .ref m0), (1, .int p1), (2, .int p2), (3, .int p3), (4, .int p4), (5, .int p5)] := hl
                  refine lv_goto (tgt := 26) X.1.1 X.1.2.1 zd_Mo_feed_117 rfl ?_
                  exact ih (k + 1) (upd g (n + k) (b8 (ush p4 (24 - k % 4 * 8)))) ls H locs (by omega) (by omega) (by
                        rw [← Nat.add_assoc, tx_push, rg_su, he, List.append_assoc]
                        have e1 : fb5 p1 p2 p3 p4 p5 k = b8 (ush p4 (24 - k % 4 * 8)) := by unfold fb5; rw [if_neg (by omega), if_neg (by omega), if_neg (by omega), if_pos (by omega)]
                        rw [e1]) (fit_upd hg _ _) (lv_sub hl [2, 3, 4, 5, 6, 7, 0] rfl) h
              · have f2 : k < 12 := zc_ge_f (by omega) (by omega) f2
                refine lv_iload_n X.1.1 X.1.2.1 zd_Mo_feed_61 rfl (lv_at hl 3 rfl) ?_
                refine lv_goto (tgt := 79) X.1.1 X.1.2.1 zd_Mo_feed_62 rfl ?_
                refine lv_istore X.1.1 X.1.2.1 zd_Mo_feed_79 hl (by decide) rfl (fun ls hl => ?_)
                have hl : lv_has ls 8 [(7, .int p3), (0, .ref m0), (1, .int p1), (2, .int p2), (3, .int p3), (4, .int p4), (5, .int p5), (6, .int (nI k))] := hl
                refine lv_aload_n X.1.1 X.1.2.1 zd_Mo_feed_81 rfl (lv_at hl 1 rfl) ?_
                refine rG X h 0 rfl rfl zW_Mo 0 (by decide) zw_493 rfl zd_Mo_feed_82 ?_
                refine lv_aload_n X.1.1 X.1.2.1 zd_Mo_feed_85 rfl (lv_at hl 1 rfl) ?_
                refine rG X h 0 rfl rfl zW_Mo 4 (by decide) zw_497 rfl zd_Mo_feed_86 ?_
                refine lv_iload X.1.1 X.1.2.1 zd_Mo_feed_89 (lv_at hl 0 rfl) ?_
                refine lv_bipush (v := nI 24) X.1.1 X.1.2.1 zd_Mo_feed_91 (by decide) ?_
                refine lv_iload X.1.1 X.1.2.1 zd_Mo_feed_93 (lv_at hl 7 rfl) ?_
                refine lv_iconst (v := nI 4) X.1.1 X.1.2.1 zd_Mo_feed_95 (by decide) ?_
                refine lv_irem X.1.1 X.1.2.1 zd_Mo_feed_96 (by decide) ?_
                refine zTop (y := nI (k % 4)) (pk_rem (by omega) (by omega) (by omega)) ?_
                refine lv_bipush (v := nI 8) X.1.1 X.1.2.1 zd_Mo_feed_97 (by decide) ?_
                refine lv_imul X.1.1 X.1.2.1 zd_Mo_feed_99 ?_
                refine zTop (y := nI ((k % 4) * 8)) (pk_mul _ _) ?_
                refine lv_isub X.1.1 X.1.2.1 zd_Mo_feed_100 ?_
                refine zTop (y := nI (24 - ((k % 4) * 8))) (pk_sub (by omega)) ?_
                refine lv_iushr (v := ush p3 (24 - k % 4 * 8)) X.1.1 X.1.2.1 zd_Mo_feed_101 (ush_eq _ (by omega)) ?_
                refine lv_i2b (v := b8 (ush p3 (24 - k % 4 * 8))) X.1.1 X.1.2.1 zd_Mo_feed_102 (rfl) ?_
                refine rSb X h 1 0 rfl rfl (by omega) (by omega) (pk_vb _) zd_Mo_feed_103 (fun H locs h => ?_)
                have h : zH D A s [(m0, .inr (4, [.ref aI, .ref aB, .ref aO, .ref aR, .int (nI (n + k)), .int (nI nb), .int (nI nm), .int (nI cp), .int (nI frs), .int (nI dm), .int (nI 0), .int (nI be), .int wh, .int (nI at_), .int (nI wr), .int (nI fi)])), (aI, .inl (cI, 65536, .inl (upd g (n + k) (b8 (ush p3 (24 - k % 4 * 8)))))), (aB, .inl (cB, 65536, .inl (fB))), (aO, .inl (cO, 67000, .inl (fO))), (aR, .inl (cR, 65536, .inl (fR)))] H locs := h
                refine lv_aload_n X.1.1 X.1.2.1 zd_Mo_feed_104 rfl (lv_at hl 1 rfl) ?_
                refine lv_dup X.1.1 X.1.2.1 zd_Mo_feed_105 rfl ?_
                refine rG X h 0 rfl rfl zW_Mo 4 (by decide) zw_497 rfl zd_Mo_feed_106 ?_
                refine lv_iconst (v := nI 1) X.1.1 X.1.2.1 zd_Mo_feed_109 (by decide) ?_
                refine lv_iadd X.1.1 X.1.2.1 zd_Mo_feed_110 ?_
                refine zTop (y := nI (n + k + 1)) (nI_add _ _) ?_
                refine rP X h 0 rfl rfl zW_Mo zO_Mo zN_Mo 4 (by decide) zw_497 rfl (rfl) (rfl) (Nat.le_of_ble_eq_true rfl) zd_Mo_feed_111 (fun H locs h => ?_)
                have h : zH D A s [(m0, .inr (4, [.ref aI, .ref aB, .ref aO, .ref aR, .int (nI (n + k + 1)), .int (nI nb), .int (nI nm), .int (nI cp), .int (nI frs), .int (nI dm), .int (nI 0), .int (nI be), .int wh, .int (nI at_), .int (nI wr), .int (nI fi)])), (aI, .inl (cI, 65536, .inl (upd g (n + k) (b8 (ush p3 (24 - k % 4 * 8)))))), (aB, .inl (cB, 65536, .inl (fB))), (aO, .inl (cO, 67000, .inl (fO))), (aR, .inl (cR, 65536, .inl (fR)))] H locs := h
                refine lv_iinc X.1.1 X.1.2.1 zd_Mo_feed_114 hl (k := 7) rfl (v := nI (k + 1)) (nI_add _ _) (by decide) rfl (fun ls hl => ?_)
                have hl : lv_has ls 8 [(6, .int (nI (k + 1))), (7, .int p3), (0, .ref m0), (1, .int p1), (2, .int p2), (3, .int p3), (4, .int p4), (5, .int p5)] := hl
                refine lv_goto (tgt := 26) X.1.1 X.1.2.1 zd_Mo_feed_117 rfl ?_
                exact ih (k + 1) (upd g (n + k) (b8 (ush p3 (24 - k % 4 * 8)))) ls H locs (by omega) (by omega) (by
                      rw [← Nat.add_assoc, tx_push, rg_su, he, List.append_assoc]
                      have e1 : fb5 p1 p2 p3 p4 p5 k = b8 (ush p3 (24 - k % 4 * 8)) := by unfold fb5; rw [if_neg (by omega), if_neg (by omega), if_pos (by omega)]
                      rw [e1]) (fit_upd hg _ _) (lv_sub hl [2, 3, 4, 5, 6, 7, 0] rfl) h
            · have f1 : k < 8 := zc_ge_f (by omega) (by omega) f1
              refine lv_iload_n X.1.1 X.1.2.1 zd_Mo_feed_50 rfl (lv_at hl 2 rfl) ?_
              refine lv_goto (tgt := 79) X.1.1 X.1.2.1 zd_Mo_feed_51 rfl ?_
              refine lv_istore X.1.1 X.1.2.1 zd_Mo_feed_79 hl (by decide) rfl (fun ls hl => ?_)
              have hl : lv_has ls 8 [(7, .int p2), (0, .ref m0), (1, .int p1), (2, .int p2), (3, .int p3), (4, .int p4), (5, .int p5), (6, .int (nI k))] := hl
              refine lv_aload_n X.1.1 X.1.2.1 zd_Mo_feed_81 rfl (lv_at hl 1 rfl) ?_
              refine rG X h 0 rfl rfl zW_Mo 0 (by decide) zw_493 rfl zd_Mo_feed_82 ?_
              refine lv_aload_n X.1.1 X.1.2.1 zd_Mo_feed_85 rfl (lv_at hl 1 rfl) ?_
              refine rG X h 0 rfl rfl zW_Mo 4 (by decide) zw_497 rfl zd_Mo_feed_86 ?_
              refine lv_iload X.1.1 X.1.2.1 zd_Mo_feed_89 (lv_at hl 0 rfl) ?_
              refine lv_bipush (v := nI 24) X.1.1 X.1.2.1 zd_Mo_feed_91 (by decide) ?_
              refine lv_iload X.1.1 X.1.2.1 zd_Mo_feed_93 (lv_at hl 7 rfl) ?_
              refine lv_iconst (v := nI 4) X.1.1 X.1.2.1 zd_Mo_feed_95 (by decide) ?_
              refine lv_irem X.1.1 X.1.2.1 zd_Mo_feed_96 (by decide) ?_
              refine zTop (y := nI (k % 4)) (pk_rem (by omega) (by omega) (by omega)) ?_
              refine lv_bipush (v := nI 8) X.1.1 X.1.2.1 zd_Mo_feed_97 (by decide) ?_
              refine lv_imul X.1.1 X.1.2.1 zd_Mo_feed_99 ?_
              refine zTop (y := nI ((k % 4) * 8)) (pk_mul _ _) ?_
              refine lv_isub X.1.1 X.1.2.1 zd_Mo_feed_100 ?_
              refine zTop (y := nI (24 - ((k % 4) * 8))) (pk_sub (by omega)) ?_
              refine lv_iushr (v := ush p2 (24 - k % 4 * 8)) X.1.1 X.1.2.1 zd_Mo_feed_101 (ush_eq _ (by omega)) ?_
              refine lv_i2b (v := b8 (ush p2 (24 - k % 4 * 8))) X.1.1 X.1.2.1 zd_Mo_feed_102 (rfl) ?_
              refine rSb X h 1 0 rfl rfl (by omega) (by omega) (pk_vb _) zd_Mo_feed_103 (fun H locs h => ?_)
              have h : zH D A s [(m0, .inr (4, [.ref aI, .ref aB, .ref aO, .ref aR, .int (nI (n + k)), .int (nI nb), .int (nI nm), .int (nI cp), .int (nI frs), .int (nI dm), .int (nI 0), .int (nI be), .int wh, .int (nI at_), .int (nI wr), .int (nI fi)])), (aI, .inl (cI, 65536, .inl (upd g (n + k) (b8 (ush p2 (24 - k % 4 * 8)))))), (aB, .inl (cB, 65536, .inl (fB))), (aO, .inl (cO, 67000, .inl (fO))), (aR, .inl (cR, 65536, .inl (fR)))] H locs := h
              refine lv_aload_n X.1.1 X.1.2.1 zd_Mo_feed_104 rfl (lv_at hl 1 rfl) ?_
              refine lv_dup X.1.1 X.1.2.1 zd_Mo_feed_105 rfl ?_
              refine rG X h 0 rfl rfl zW_Mo 4 (by decide) zw_497 rfl zd_Mo_feed_106 ?_
              refine lv_iconst (v := nI 1) X.1.1 X.1.2.1 zd_Mo_feed_109 (by decide) ?_
              refine lv_iadd X.1.1 X.1.2.1 zd_Mo_feed_110 ?_
              refine zTop (y := nI (n + k + 1)) (nI_add _ _) ?_
              refine rP X h 0 rfl rfl zW_Mo zO_Mo zN_Mo 4 (by decide) zw_497 rfl (rfl) (rfl) (Nat.le_of_ble_eq_true rfl) zd_Mo_feed_111 (fun H locs h => ?_)
              have h : zH D A s [(m0, .inr (4, [.ref aI, .ref aB, .ref aO, .ref aR, .int (nI (n + k + 1)), .int (nI nb), .int (nI nm), .int (nI cp), .int (nI frs), .int (nI dm), .int (nI 0), .int (nI be), .int wh, .int (nI at_), .int (nI wr), .int (nI fi)])), (aI, .inl (cI, 65536, .inl (upd g (n + k) (b8 (ush p2 (24 - k % 4 * 8)))))), (aB, .inl (cB, 65536, .inl (fB))), (aO, .inl (cO, 67000, .inl (fO))), (aR, .inl (cR, 65536, .inl (fR)))] H locs := h
              refine lv_iinc X.1.1 X.1.2.1 zd_Mo_feed_114 hl (k := 7) rfl (v := nI (k + 1)) (nI_add _ _) (by decide) rfl (fun ls hl => ?_)
              have hl : lv_has ls 8 [(6, .int (nI (k + 1))), (7, .int p2), (0, .ref m0), (1, .int p1), (2, .int p2), (3, .int p3), (4, .int p4), (5, .int p5)] := hl
              refine lv_goto (tgt := 26) X.1.1 X.1.2.1 zd_Mo_feed_117 rfl ?_
              exact ih (k + 1) (upd g (n + k) (b8 (ush p2 (24 - k % 4 * 8)))) ls H locs (by omega) (by omega) (by
                    rw [← Nat.add_assoc, tx_push, rg_su, he, List.append_assoc]
                    have e1 : fb5 p1 p2 p3 p4 p5 k = b8 (ush p2 (24 - k % 4 * 8)) := by unfold fb5; rw [if_neg (by omega), if_pos (by omega)]
                    rw [e1]) (fit_upd hg _ _) (lv_sub hl [2, 3, 4, 5, 6, 7, 0] rfl) h
          · have f0 : k < 4 := zc_ge_f (by omega) (by omega) f0
            refine lv_iload_n X.1.1 X.1.2.1 zd_Mo_feed_39 rfl (lv_at hl 1 rfl) ?_
            refine lv_goto (tgt := 79) X.1.1 X.1.2.1 zd_Mo_feed_40 rfl ?_
            refine lv_istore X.1.1 X.1.2.1 zd_Mo_feed_79 hl (by decide) rfl (fun ls hl => ?_)
            have hl : lv_has ls 8 [(7, .int p1), (0, .ref m0), (1, .int p1), (2, .int p2), (3, .int p3), (4, .int p4), (5, .int p5), (6, .int (nI k))] := hl
            refine lv_aload_n X.1.1 X.1.2.1 zd_Mo_feed_81 rfl (lv_at hl 1 rfl) ?_
            refine rG X h 0 rfl rfl zW_Mo 0 (by decide) zw_493 rfl zd_Mo_feed_82 ?_
            refine lv_aload_n X.1.1 X.1.2.1 zd_Mo_feed_85 rfl (lv_at hl 1 rfl) ?_
            refine rG X h 0 rfl rfl zW_Mo 4 (by decide) zw_497 rfl zd_Mo_feed_86 ?_
            refine lv_iload X.1.1 X.1.2.1 zd_Mo_feed_89 (lv_at hl 0 rfl) ?_
            refine lv_bipush (v := nI 24) X.1.1 X.1.2.1 zd_Mo_feed_91 (by decide) ?_
            refine lv_iload X.1.1 X.1.2.1 zd_Mo_feed_93 (lv_at hl 7 rfl) ?_
            refine lv_iconst (v := nI 4) X.1.1 X.1.2.1 zd_Mo_feed_95 (by decide) ?_
            refine lv_irem X.1.1 X.1.2.1 zd_Mo_feed_96 (by decide) ?_
            refine zTop (y := nI (k % 4)) (pk_rem (by omega) (by omega) (by omega)) ?_
            refine lv_bipush (v := nI 8) X.1.1 X.1.2.1 zd_Mo_feed_97 (by decide) ?_
            refine lv_imul X.1.1 X.1.2.1 zd_Mo_feed_99 ?_
            refine zTop (y := nI ((k % 4) * 8)) (pk_mul _ _) ?_
            refine lv_isub X.1.1 X.1.2.1 zd_Mo_feed_100 ?_
            refine zTop (y := nI (24 - ((k % 4) * 8))) (pk_sub (by omega)) ?_
            refine lv_iushr (v := ush p1 (24 - k % 4 * 8)) X.1.1 X.1.2.1 zd_Mo_feed_101 (ush_eq _ (by omega)) ?_
            refine lv_i2b (v := b8 (ush p1 (24 - k % 4 * 8))) X.1.1 X.1.2.1 zd_Mo_feed_102 (rfl) ?_
            refine rSb X h 1 0 rfl rfl (by omega) (by omega) (pk_vb _) zd_Mo_feed_103 (fun H locs h => ?_)
            have h : zH D A s [(m0, .inr (4, [.ref aI, .ref aB, .ref aO, .ref aR, .int (nI (n + k)), .int (nI nb), .int (nI nm), .int (nI cp), .int (nI frs), .int (nI dm), .int (nI 0), .int (nI be), .int wh, .int (nI at_), .int (nI wr), .int (nI fi)])), (aI, .inl (cI, 65536, .inl (upd g (n + k) (b8 (ush p1 (24 - k % 4 * 8)))))), (aB, .inl (cB, 65536, .inl (fB))), (aO, .inl (cO, 67000, .inl (fO))), (aR, .inl (cR, 65536, .inl (fR)))] H locs := h
            refine lv_aload_n X.1.1 X.1.2.1 zd_Mo_feed_104 rfl (lv_at hl 1 rfl) ?_
            refine lv_dup X.1.1 X.1.2.1 zd_Mo_feed_105 rfl ?_
            refine rG X h 0 rfl rfl zW_Mo 4 (by decide) zw_497 rfl zd_Mo_feed_106 ?_
            refine lv_iconst (v := nI 1) X.1.1 X.1.2.1 zd_Mo_feed_109 (by decide) ?_
            refine lv_iadd X.1.1 X.1.2.1 zd_Mo_feed_110 ?_
            refine zTop (y := nI (n + k + 1)) (nI_add _ _) ?_
            refine rP X h 0 rfl rfl zW_Mo zO_Mo zN_Mo 4 (by decide) zw_497 rfl (rfl) (rfl) (Nat.le_of_ble_eq_true rfl) zd_Mo_feed_111 (fun H locs h => ?_)
            have h : zH D A s [(m0, .inr (4, [.ref aI, .ref aB, .ref aO, .ref aR, .int (nI (n + k + 1)), .int (nI nb), .int (nI nm), .int (nI cp), .int (nI frs), .int (nI dm), .int (nI 0), .int (nI be), .int wh, .int (nI at_), .int (nI wr), .int (nI fi)])), (aI, .inl (cI, 65536, .inl (upd g (n + k) (b8 (ush p1 (24 - k % 4 * 8)))))), (aB, .inl (cB, 65536, .inl (fB))), (aO, .inl (cO, 67000, .inl (fO))), (aR, .inl (cR, 65536, .inl (fR)))] H locs := h
            refine lv_iinc X.1.1 X.1.2.1 zd_Mo_feed_114 hl (k := 7) rfl (v := nI (k + 1)) (nI_add _ _) (by decide) rfl (fun ls hl => ?_)
            have hl : lv_has ls 8 [(6, .int (nI (k + 1))), (7, .int p1), (0, .ref m0), (1, .int p1), (2, .int p2), (3, .int p3), (4, .int p4), (5, .int p5)] := hl
            refine lv_goto (tgt := 26) X.1.1 X.1.2.1 zd_Mo_feed_117 rfl ?_
            exact ih (k + 1) (upd g (n + k) (b8 (ush p1 (24 - k % 4 * 8)))) ls H locs (by omega) (by omega) (by
                  rw [← Nat.add_assoc, tx_push, rg_su, he, List.append_assoc]
                  have e1 : fb5 p1 p2 p3 p4 p5 k = b8 (ush p1 (24 - k % 4 * 8)) := by unfold fb5; rw [if_pos (by omega)]
                  rw [e1]) (fit_upd hg _ _) (lv_sub hl [2, 3, 4, 5, 6, 7, 0] rfl) h
    exact loop _ 0 fI ls H locs (Nat.lt_succ_self _) (by omega) (by simp) (hf) (lv_sub hl [1, 2, 3, 4, 5, 6, 0] rfl) h
  · have c1 : 65536 < n + 20 := zc_le_f (by omega) (by omega) c1
    exact absurd c1 (by omega)

set_option maxHeartbeats 4000000 in
set_option maxRecDepth 100000 in
theorem zc_Mo_feedN (l : Launch) (D : va_G) {m0 aI aB aO aR n nb nm cp frs dm th be at_ wr fi : Nat} {wh : Int32} {fI fB fO fR : Nat → Int32} {cI cB cO cR : ClassId} {p1 p2 p3 p4 p5 : Int32} (hn : 65536 < n + 20) (hn2 : n ≤ 65536) (sz : Nat) : zMi l D zy_Mo_feed zb_Mo_feed 8 .int ({ frames := 1, cells := 0, slots := 0, locals := 21 } : Room) [.ref m0, .int p1, .int p2, .int p3, .int p4, .int p5] [(cI, .byte), (cB, .byte), (cO, .byte), (cR, .byte)] [(m0, .inr (4, [.ref aI, .ref aB, .ref aO, .ref aR, .int (nI n), .int (nI nb), .int (nI nm), .int (nI cp), .int (nI frs), .int (nI dm), .int (nI th), .int (nI be), .int wh, .int (nI at_), .int (nI wr), .int (nI fi)])), (aI, .inl (cI, 65536, .inl (fI))), (aB, .inl (cB, 65536, .inl (fB))), (aO, .inl (cO, 67000, .inl (fO))), (aR, .inl (cR, 65536, .inl (fR)))] sz (fun (r : Int32) (u : Unit) => r = nI 0 ∧ True) (fun _ => [(m0, .inr (4, [.ref aI, .ref aB, .ref aO, .ref aR, .int (nI n), .int (nI nb), .int (nI nm), .int (nI cp), .int (nI frs), .int (nI dm), .int (nI 1), .int (nI be), .int wh, .int (nI at_), .int (nI wr), .int (nI fi)])), (aI, .inl (cI, 65536, .inl (fI))), (aB, .inl (cB, 65536, .inl (fB))), (aO, .inl (cO, 67000, .inl (fO))), (aR, .inl (cR, 65536, .inl (fR)))]) := by
  refine zEi (by decide) (Nat.le_of_ble_eq_true rfl) (fun p e s m args below meth c ls A Q X hl h hsz ret => ?_)
  have hl : lv_has ls 8 [(0, .ref m0), (1, .int p1), (2, .int p2), (3, .int p3), (4, .int p4), (5, .int p5)] := hl
  generalize hH0 : s.heap = H at h ⊢
  have h : zH D A s [(m0, .inr (4, [.ref aI, .ref aB, .ref aO, .ref aR, .int (nI n), .int (nI nb), .int (nI nm), .int (nI cp), .int (nI frs), .int (nI dm), .int (nI th), .int (nI be), .int wh, .int (nI at_), .int (nI wr), .int (nI fi)])), (aI, .inl (cI, 65536, .inl (fI))), (aB, .inl (cB, 65536, .inl (fB))), (aO, .inl (cO, 67000, .inl (fO))), (aR, .inl (cR, 65536, .inl (fR)))] H [] := h
  generalize hL0 : ([] : List Loc) = locs at h ⊢
  refine lv_aload_n X.1.1 X.1.2.1 zd_Mo_feed_0 rfl (lv_at hl 0 rfl) ?_
  refine lv_iconst (v := nI 0) X.1.1 X.1.2.1 zd_Mo_feed_1 (by decide) ?_
  refine rP X h 0 rfl rfl zW_Mo zO_Mo zN_Mo 10 (by decide) zw_503 rfl (rfl) (rfl) (Nat.le_of_ble_eq_true rfl) zd_Mo_feed_2 (fun H locs h => ?_)
  have h : zH D A s [(m0, .inr (4, [.ref aI, .ref aB, .ref aO, .ref aR, .int (nI n), .int (nI nb), .int (nI nm), .int (nI cp), .int (nI frs), .int (nI dm), .int (nI 0), .int (nI be), .int wh, .int (nI at_), .int (nI wr), .int (nI fi)])), (aI, .inl (cI, 65536, .inl (fI))), (aB, .inl (cB, 65536, .inl (fB))), (aO, .inl (cO, 67000, .inl (fO))), (aR, .inl (cR, 65536, .inl (fR)))] H locs := h
  refine lv_aload_n X.1.1 X.1.2.1 zd_Mo_feed_5 rfl (lv_at hl 0 rfl) ?_
  refine rG X h 0 rfl rfl zW_Mo 4 (by decide) zw_497 rfl zd_Mo_feed_6 ?_
  refine lv_bipush (v := nI 20) X.1.1 X.1.2.1 zd_Mo_feed_9 (by decide) ?_
  refine lv_iadd X.1.1 X.1.2.1 zd_Mo_feed_11 ?_
  refine zTop (y := nI (n + 20)) (nI_add _ _) ?_
  refine lv_ldc X.1.1 X.1.2.1 X.1.2.2.2.1 (X.1.2.2.2.2 _ zw_491) zd_Mo_feed_12 ?_
  refine zTop (y := nI 65536) (by decide) ?_
  refine lv_icmp_le (tgt := 23) X.1.1 X.1.2.1 zd_Mo_feed_14 rfl (fun c1 => ?_) (fun c1 => ?_)
  · have c1 : n + 20 ≤ 65536 := zc_le_t (by omega) (by omega) c1
    exact absurd c1 (by omega)
  · have c1 : 65536 < n + 20 := zc_le_f (by omega) (by omega) c1
    refine lv_aload_n X.1.1 X.1.2.1 zd_Mo_feed_17 rfl (lv_at hl 0 rfl) ?_
    refine lv_iconst (v := nI 1) X.1.1 X.1.2.1 zd_Mo_feed_18 (by decide) ?_
    refine rCi (wr := []) (wf := fun _ => [(m0, .inr (4, [.ref aI, .ref aB, .ref aO, .ref aR, .int (nI n), .int (nI nb), .int (nI nm), .int (nI cp), .int (nI frs), .int (nI dm), .int (nI 1), .int (nI be), .int wh, .int (nI at_), .int (nI wr), .int (nI fi)])), (aI, .inl (cI, 65536, .inl (fI))), (aB, .inl (cB, 65536, .inl (fB))), (aO, .inl (cO, 67000, .inl (fO))), (aR, .inl (cR, 65536, .inl (fR)))]) (rest := []) X h hl.1 (zc_Mo_refuse l D (m0 := m0) (aI := aI) (aB := aB) (aO := aO) (aR := aR) (wh := wh) (n := n) (nb := nb) (nm := nm) (cp := cp) (frs := frs) (dm := dm) (th := 0) (be := be) (at_ := at_) (wr := wr) (fi := fi) (fI := fI) (cI := cI) (fB := fB) (cB := cB) (fO := fO) (cO := cO) (fR := fR) (cR := cR) (x := 1)  H.size) zw_550 zw_552 zs_17 zw_5 zm_Mo_refuse zq_Mo_refuse ⟨Nat.le_of_ble_eq_true rfl, Nat.le_of_ble_eq_true rfl⟩ ⟨Nat.le_of_ble_eq_true rfl, Nat.le_of_ble_eq_true rfl⟩ [0, 1, 2, 3] rfl [0, 1, 2, 3, 4] [] [0, 1, 2, 3, 4] rfl (by decide) rfl (by decide) (by decide) (fun _ => rfl) (by decide) 0 rfl rfl rfl (Nat.le_of_ble_eq_true rfl) zd_Mo_feed_19 (fun r _ H locs hp h => ?_)
    obtain ⟨rfl, -⟩ := hp
    have h : zH D A s [(m0, .inr (4, [.ref aI, .ref aB, .ref aO, .ref aR, .int (nI n), .int (nI nb), .int (nI nm), .int (nI cp), .int (nI frs), .int (nI dm), .int (nI 1), .int (nI be), .int wh, .int (nI at_), .int (nI wr), .int (nI fi)])), (aI, .inl (cI, 65536, .inl (fI))), (aB, .inl (cB, 65536, .inl (fB))), (aO, .inl (cO, 67000, .inl (fO))), (aR, .inl (cR, 65536, .inl (fR)))] H locs := h
    exact ret _ () H locs ls _ (⟨rfl, trivial⟩) h zd_Mo_feed_22

set_option maxHeartbeats 4000000 in
set_option maxRecDepth 100000 in
theorem zc_Mo_end (l : Launch) (D : va_G) {m0 aI aB aO aR n nb nm cp frs dm th be at_ wr fi : Nat} {wh : Int32} {fI fB fO fR : Nat → Int32} {cI cB cO cR : ClassId} {k : Nat} (hk : k ≤ n) (hn : n ≤ 65536) (sz : Nat) : zMi l D zy_Mo_end zb_Mo_end 2 .int ({ frames := 1, cells := 0, slots := 0, locals := 21 } : Room) [.ref m0, .int (nI k)] [(cI, .byte), (cB, .byte), (cO, .byte), (cR, .byte)] [(m0, .inr (4, [.ref aI, .ref aB, .ref aO, .ref aR, .int (nI n), .int (nI nb), .int (nI nm), .int (nI cp), .int (nI frs), .int (nI dm), .int (nI th), .int (nI be), .int wh, .int (nI at_), .int (nI wr), .int (nI fi)])), (aI, .inl (cI, 65536, .inl (fI))), (aB, .inl (cB, 65536, .inl (fB))), (aO, .inl (cO, 67000, .inl (fO))), (aR, .inl (cR, 65536, .inl (fR)))] sz (fun (r : Int32) (u : Unit) => r = nI (n - k) ∧ True) (fun _ => [(m0, .inr (4, [.ref aI, .ref aB, .ref aO, .ref aR, .int (nI (n - k)), .int (nI nb), .int (nI nm), .int (nI cp), .int (nI frs), .int (nI dm), .int (nI 0), .int (nI be), .int wh, .int (nI at_), .int (nI wr), .int (nI fi)])), (aI, .inl (cI, 65536, .inl (fI))), (aB, .inl (cB, 65536, .inl (fB))), (aO, .inl (cO, 67000, .inl (fO))), (aR, .inl (cR, 65536, .inl (fR)))]) := by
  refine zEi (by decide) (Nat.le_of_ble_eq_true rfl) (fun p e s m args below meth c ls A Q X hl h hsz ret => ?_)
  have hl : lv_has ls 2 [(0, .ref m0), (1, .int (nI k))] := hl
  generalize hH0 : s.heap = H at h ⊢
  have h : zH D A s [(m0, .inr (4, [.ref aI, .ref aB, .ref aO, .ref aR, .int (nI n), .int (nI nb), .int (nI nm), .int (nI cp), .int (nI frs), .int (nI dm), .int (nI th), .int (nI be), .int wh, .int (nI at_), .int (nI wr), .int (nI fi)])), (aI, .inl (cI, 65536, .inl (fI))), (aB, .inl (cB, 65536, .inl (fB))), (aO, .inl (cO, 67000, .inl (fO))), (aR, .inl (cR, 65536, .inl (fR)))] H [] := h
  generalize hL0 : ([] : List Loc) = locs at h ⊢
  refine lv_aload_n X.1.1 X.1.2.1 zd_Mo_end_0 rfl (lv_at hl 0 rfl) ?_
  refine lv_iconst (v := nI 0) X.1.1 X.1.2.1 zd_Mo_end_1 (by decide) ?_
  refine rP X h 0 rfl rfl zW_Mo zO_Mo zN_Mo 10 (by decide) zw_503 rfl (rfl) (rfl) (Nat.le_of_ble_eq_true rfl) zd_Mo_end_2 (fun H locs h => ?_)
  have h : zH D A s [(m0, .inr (4, [.ref aI, .ref aB, .ref aO, .ref aR, .int (nI n), .int (nI nb), .int (nI nm), .int (nI cp), .int (nI frs), .int (nI dm), .int (nI 0), .int (nI be), .int wh, .int (nI at_), .int (nI wr), .int (nI fi)])), (aI, .inl (cI, 65536, .inl (fI))), (aB, .inl (cB, 65536, .inl (fB))), (aO, .inl (cO, 67000, .inl (fO))), (aR, .inl (cR, 65536, .inl (fR)))] H locs := h
  refine lv_iload_n X.1.1 X.1.2.1 zd_Mo_end_5 rfl (lv_at hl 1 rfl) ?_
  refine lv_if_lt (tgt := 17) X.1.1 X.1.2.1 zd_Mo_end_6 rfl (fun c1 => ?_) (fun c1 => ?_)
  · have c1 : k < 0 := zc_lt0_t (by omega) (by omega) c1
    exact absurd c1 (by omega)
  · have c1 : 0 ≤ k := zc_lt0_f (by omega) (by omega) c1
    refine lv_iload_n X.1.1 X.1.2.1 zd_Mo_end_9 rfl (lv_at hl 1 rfl) ?_
    refine lv_aload_n X.1.1 X.1.2.1 zd_Mo_end_10 rfl (lv_at hl 0 rfl) ?_
    refine rG X h 0 rfl rfl zW_Mo 4 (by decide) zw_497 rfl zd_Mo_end_11 ?_
    refine lv_icmp_le (tgt := 23) X.1.1 X.1.2.1 zd_Mo_end_14 rfl (fun c2 => ?_) (fun c2 => ?_)
    · have c2 : k ≤ n := zc_le_t (by omega) (by omega) c2
      refine lv_aload_n X.1.1 X.1.2.1 zd_Mo_end_23 rfl (lv_at hl 0 rfl) ?_
      refine lv_dup X.1.1 X.1.2.1 zd_Mo_end_24 rfl ?_
      refine rG X h 0 rfl rfl zW_Mo 4 (by decide) zw_497 rfl zd_Mo_end_25 ?_
      refine lv_iload_n X.1.1 X.1.2.1 zd_Mo_end_28 rfl (lv_at hl 1 rfl) ?_
      refine lv_isub X.1.1 X.1.2.1 zd_Mo_end_29 ?_
      refine zTop (y := nI (n - k)) (pk_sub (by omega)) ?_
      refine rP X h 0 rfl rfl zW_Mo zO_Mo zN_Mo 4 (by decide) zw_497 rfl (rfl) (rfl) (Nat.le_of_ble_eq_true rfl) zd_Mo_end_30 (fun H locs h => ?_)
      have h : zH D A s [(m0, .inr (4, [.ref aI, .ref aB, .ref aO, .ref aR, .int (nI (n - k)), .int (nI nb), .int (nI nm), .int (nI cp), .int (nI frs), .int (nI dm), .int (nI 0), .int (nI be), .int wh, .int (nI at_), .int (nI wr), .int (nI fi)])), (aI, .inl (cI, 65536, .inl (fI))), (aB, .inl (cB, 65536, .inl (fB))), (aO, .inl (cO, 67000, .inl (fO))), (aR, .inl (cR, 65536, .inl (fR)))] H locs := h
      refine lv_aload_n X.1.1 X.1.2.1 zd_Mo_end_33 rfl (lv_at hl 0 rfl) ?_
      refine rG X h 0 rfl rfl zW_Mo 4 (by decide) zw_497 rfl zd_Mo_end_34 ?_
      exact ret _ () H locs ls _ (⟨rfl, trivial⟩) h zd_Mo_end_37
    · have c2 : n < k := zc_le_f (by omega) (by omega) c2
      exact absurd c2 (by omega)

set_option maxHeartbeats 4000000 in
set_option maxRecDepth 100000 in
theorem zc_Mo_endN (l : Launch) (D : va_G) {m0 aI aB aO aR n nb nm cp frs dm th be at_ wr fi : Nat} {wh : Int32} {fI fB fO fR : Nat → Int32} {cI cB cO cR : ClassId} {x : Int32} (hx : ∀ j, j ≤ n → x ≠ nI j) (hn : n ≤ 65536) (sz : Nat) : zMi l D zy_Mo_end zb_Mo_end 2 .int ({ frames := 1, cells := 0, slots := 0, locals := 21 } : Room) [.ref m0, .int x] [(cI, .byte), (cB, .byte), (cO, .byte), (cR, .byte)] [(m0, .inr (4, [.ref aI, .ref aB, .ref aO, .ref aR, .int (nI n), .int (nI nb), .int (nI nm), .int (nI cp), .int (nI frs), .int (nI dm), .int (nI th), .int (nI be), .int wh, .int (nI at_), .int (nI wr), .int (nI fi)])), (aI, .inl (cI, 65536, .inl (fI))), (aB, .inl (cB, 65536, .inl (fB))), (aO, .inl (cO, 67000, .inl (fO))), (aR, .inl (cR, 65536, .inl (fR)))] sz (fun (r : Int32) (u : Unit) => r = nI 0 ∧ True) (fun _ => [(m0, .inr (4, [.ref aI, .ref aB, .ref aO, .ref aR, .int (nI n), .int (nI nb), .int (nI nm), .int (nI cp), .int (nI frs), .int (nI dm), .int (nI 1), .int (nI be), .int wh, .int (nI at_), .int (nI wr), .int (nI fi)])), (aI, .inl (cI, 65536, .inl (fI))), (aB, .inl (cB, 65536, .inl (fB))), (aO, .inl (cO, 67000, .inl (fO))), (aR, .inl (cR, 65536, .inl (fR)))]) := by
  refine zEi (by decide) (Nat.le_of_ble_eq_true rfl) (fun p e s m args below meth c ls A Q X hl h hsz ret => ?_)
  have hl : lv_has ls 2 [(0, .ref m0), (1, .int x)] := hl
  generalize hH0 : s.heap = H at h ⊢
  have h : zH D A s [(m0, .inr (4, [.ref aI, .ref aB, .ref aO, .ref aR, .int (nI n), .int (nI nb), .int (nI nm), .int (nI cp), .int (nI frs), .int (nI dm), .int (nI th), .int (nI be), .int wh, .int (nI at_), .int (nI wr), .int (nI fi)])), (aI, .inl (cI, 65536, .inl (fI))), (aB, .inl (cB, 65536, .inl (fB))), (aO, .inl (cO, 67000, .inl (fO))), (aR, .inl (cR, 65536, .inl (fR)))] H [] := h
  generalize hL0 : ([] : List Loc) = locs at h ⊢
  refine lv_aload_n X.1.1 X.1.2.1 zd_Mo_end_0 rfl (lv_at hl 0 rfl) ?_
  refine lv_iconst (v := nI 0) X.1.1 X.1.2.1 zd_Mo_end_1 (by decide) ?_
  refine rP X h 0 rfl rfl zW_Mo zO_Mo zN_Mo 10 (by decide) zw_503 rfl (rfl) (rfl) (Nat.le_of_ble_eq_true rfl) zd_Mo_end_2 (fun H locs h => ?_)
  have h : zH D A s [(m0, .inr (4, [.ref aI, .ref aB, .ref aO, .ref aR, .int (nI n), .int (nI nb), .int (nI nm), .int (nI cp), .int (nI frs), .int (nI dm), .int (nI 0), .int (nI be), .int wh, .int (nI at_), .int (nI wr), .int (nI fi)])), (aI, .inl (cI, 65536, .inl (fI))), (aB, .inl (cB, 65536, .inl (fB))), (aO, .inl (cO, 67000, .inl (fO))), (aR, .inl (cR, 65536, .inl (fR)))] H locs := h
  refine lv_iload_n X.1.1 X.1.2.1 zd_Mo_end_5 rfl (lv_at hl 1 rfl) ?_
  refine lv_if_lt (tgt := 17) X.1.1 X.1.2.1 zd_Mo_end_6 rfl (fun c1 => ?_) (fun c1 => ?_)
  · refine lv_aload_n X.1.1 X.1.2.1 zd_Mo_end_17 rfl (lv_at hl 0 rfl) ?_
    refine lv_iconst (v := nI 1) X.1.1 X.1.2.1 zd_Mo_end_18 (by decide) ?_
    refine rCi (wr := []) (wf := fun _ => [(m0, .inr (4, [.ref aI, .ref aB, .ref aO, .ref aR, .int (nI n), .int (nI nb), .int (nI nm), .int (nI cp), .int (nI frs), .int (nI dm), .int (nI 1), .int (nI be), .int wh, .int (nI at_), .int (nI wr), .int (nI fi)])), (aI, .inl (cI, 65536, .inl (fI))), (aB, .inl (cB, 65536, .inl (fB))), (aO, .inl (cO, 67000, .inl (fO))), (aR, .inl (cR, 65536, .inl (fR)))]) (rest := []) X h hl.1 (zc_Mo_refuse l D (m0 := m0) (aI := aI) (aB := aB) (aO := aO) (aR := aR) (wh := wh) (n := n) (nb := nb) (nm := nm) (cp := cp) (frs := frs) (dm := dm) (th := 0) (be := be) (at_ := at_) (wr := wr) (fi := fi) (fI := fI) (cI := cI) (fB := fB) (cB := cB) (fO := fO) (cO := cO) (fR := fR) (cR := cR) (x := 1)  H.size) zw_550 zw_552 zs_17 zw_5 zm_Mo_refuse zq_Mo_refuse ⟨Nat.le_of_ble_eq_true rfl, Nat.le_of_ble_eq_true rfl⟩ ⟨Nat.le_of_ble_eq_true rfl, Nat.le_of_ble_eq_true rfl⟩ [0, 1, 2, 3] rfl [0, 1, 2, 3, 4] [] [0, 1, 2, 3, 4] rfl (by decide) rfl (by decide) (by decide) (fun _ => rfl) (by decide) 0 rfl rfl rfl (Nat.le_of_ble_eq_true rfl) zd_Mo_end_19 (fun r _ H locs hp h => ?_)
    obtain ⟨rfl, -⟩ := hp
    have h : zH D A s [(m0, .inr (4, [.ref aI, .ref aB, .ref aO, .ref aR, .int (nI n), .int (nI nb), .int (nI nm), .int (nI cp), .int (nI frs), .int (nI dm), .int (nI 1), .int (nI be), .int wh, .int (nI at_), .int (nI wr), .int (nI fi)])), (aI, .inl (cI, 65536, .inl (fI))), (aB, .inl (cB, 65536, .inl (fB))), (aO, .inl (cO, 67000, .inl (fO))), (aR, .inl (cR, 65536, .inl (fR)))] H locs := h
    exact ret _ () H locs ls _ (⟨rfl, trivial⟩) h zd_Mo_end_22
  · refine lv_iload_n X.1.1 X.1.2.1 zd_Mo_end_9 rfl (lv_at hl 1 rfl) ?_
    refine lv_aload_n X.1.1 X.1.2.1 zd_Mo_end_10 rfl (lv_at hl 0 rfl) ?_
    refine rG X h 0 rfl rfl zW_Mo 4 (by decide) zw_497 rfl zd_Mo_end_11 ?_
    refine lv_icmp_le (tgt := 23) X.1.1 X.1.2.1 zd_Mo_end_14 rfl (fun c2 => ?_) (fun c2 => ?_)
    · exfalso
      obtain ⟨j, e1, e2⟩ := nI_of2 (M := nI n) (n := n) (nI_toInt (by omega)) c1 c2
      exact hx j e1 e2
    · refine lv_aload_n X.1.1 X.1.2.1 zd_Mo_end_17 rfl (lv_at hl 0 rfl) ?_
      refine lv_iconst (v := nI 1) X.1.1 X.1.2.1 zd_Mo_end_18 (by decide) ?_
      refine rCi (wr := []) (wf := fun _ => [(m0, .inr (4, [.ref aI, .ref aB, .ref aO, .ref aR, .int (nI n), .int (nI nb), .int (nI nm), .int (nI cp), .int (nI frs), .int (nI dm), .int (nI 1), .int (nI be), .int wh, .int (nI at_), .int (nI wr), .int (nI fi)])), (aI, .inl (cI, 65536, .inl (fI))), (aB, .inl (cB, 65536, .inl (fB))), (aO, .inl (cO, 67000, .inl (fO))), (aR, .inl (cR, 65536, .inl (fR)))]) (rest := []) X h hl.1 (zc_Mo_refuse l D (m0 := m0) (aI := aI) (aB := aB) (aO := aO) (aR := aR) (wh := wh) (n := n) (nb := nb) (nm := nm) (cp := cp) (frs := frs) (dm := dm) (th := 0) (be := be) (at_ := at_) (wr := wr) (fi := fi) (fI := fI) (cI := cI) (fB := fB) (cB := cB) (fO := fO) (cO := cO) (fR := fR) (cR := cR) (x := 1)  H.size) zw_550 zw_552 zs_17 zw_5 zm_Mo_refuse zq_Mo_refuse ⟨Nat.le_of_ble_eq_true rfl, Nat.le_of_ble_eq_true rfl⟩ ⟨Nat.le_of_ble_eq_true rfl, Nat.le_of_ble_eq_true rfl⟩ [0, 1, 2, 3] rfl [0, 1, 2, 3, 4] [] [0, 1, 2, 3, 4] rfl (by decide) rfl (by decide) (by decide) (fun _ => rfl) (by decide) 0 rfl rfl rfl (Nat.le_of_ble_eq_true rfl) zd_Mo_end_19 (fun r _ H locs hp h => ?_)
      obtain ⟨rfl, -⟩ := hp
      have h : zH D A s [(m0, .inr (4, [.ref aI, .ref aB, .ref aO, .ref aR, .int (nI n), .int (nI nb), .int (nI nm), .int (nI cp), .int (nI frs), .int (nI dm), .int (nI 1), .int (nI be), .int wh, .int (nI at_), .int (nI wr), .int (nI fi)])), (aI, .inl (cI, 65536, .inl (fI))), (aB, .inl (cB, 65536, .inl (fB))), (aO, .inl (cO, 67000, .inl (fO))), (aR, .inl (cR, 65536, .inl (fR)))] H locs := h
      exact ret _ () H locs ls _ (⟨rfl, trivial⟩) h zd_Mo_end_22

set_option maxHeartbeats 4000000 in
set_option maxRecDepth 100000 in
theorem zc_Mo_change (l : Launch) (D : va_G) {m0 aI aB aO aR n nb nm cp frs dm th be at_ wr fi : Nat} {wh : Int32} {fI fB fO fR : Nat → Int32} {cI cB cO cR : ClassId} {k v : Nat} (hk : k < n) (hn : n ≤ 65536) (hv : v ≤ 255) (sz : Nat) : zMv l D zy_Mo_change zb_Mo_change 3 ({ frames := 0, cells := 0, slots := 0, locals := 0 } : Room) [.ref m0, .int (nI k), .int (nI v)] [(cI, .byte), (cB, .byte), (cO, .byte), (cR, .byte)] [(m0, .inr (4, [.ref aI, .ref aB, .ref aO, .ref aR, .int (nI n), .int (nI nb), .int (nI nm), .int (nI cp), .int (nI frs), .int (nI dm), .int (nI th), .int (nI be), .int wh, .int (nI at_), .int (nI wr), .int (nI fi)])), (aI, .inl (cI, 65536, .inl (fI))), (aB, .inl (cB, 65536, .inl (fB))), (aO, .inl (cO, 67000, .inl (fO))), (aR, .inl (cR, 65536, .inl (fR)))] sz (fun (u : Unit) => True) (fun _ => [(m0, .inr (4, [.ref aI, .ref aB, .ref aO, .ref aR, .int (nI n), .int (nI nb), .int (nI nm), .int (nI cp), .int (nI frs), .int (nI dm), .int (nI 0), .int (nI be), .int wh, .int (nI at_), .int (nI wr), .int (nI fi)])), (aI, .inl (cI, 65536, .inl (upd fI k (b8 ((fI k) ^^^ (nI v)))))), (aB, .inl (cB, 65536, .inl (fB))), (aO, .inl (cO, 67000, .inl (fO))), (aR, .inl (cR, 65536, .inl (fR)))]) := by
  refine zEv (by decide) (Nat.le_of_ble_eq_true rfl) (fun p e s m args below meth c ls A Q X hin hl h hsz ret => ?_)
  have hl : lv_has ls 3 [(0, .ref m0), (1, .int (nI k)), (2, .int (nI v))] := hl
  generalize hH0 : s.heap = H at h ⊢
  have h : zH D A s [(m0, .inr (4, [.ref aI, .ref aB, .ref aO, .ref aR, .int (nI n), .int (nI nb), .int (nI nm), .int (nI cp), .int (nI frs), .int (nI dm), .int (nI th), .int (nI be), .int wh, .int (nI at_), .int (nI wr), .int (nI fi)])), (aI, .inl (cI, 65536, .inl (fI))), (aB, .inl (cB, 65536, .inl (fB))), (aO, .inl (cO, 67000, .inl (fO))), (aR, .inl (cR, 65536, .inl (fR)))] H [] := h
  generalize hL0 : ([] : List Loc) = locs at h ⊢
  refine lv_aload_n X.1.1 X.1.2.1 zd_Mo_change_0 rfl (lv_at hl 0 rfl) ?_
  refine lv_iconst (v := nI 0) X.1.1 X.1.2.1 zd_Mo_change_1 (by decide) ?_
  refine rP X h 0 rfl rfl zW_Mo zO_Mo zN_Mo 10 (by decide) zw_503 rfl (rfl) (rfl) (Nat.le_of_ble_eq_true rfl) zd_Mo_change_2 (fun H locs h => ?_)
  have h : zH D A s [(m0, .inr (4, [.ref aI, .ref aB, .ref aO, .ref aR, .int (nI n), .int (nI nb), .int (nI nm), .int (nI cp), .int (nI frs), .int (nI dm), .int (nI 0), .int (nI be), .int wh, .int (nI at_), .int (nI wr), .int (nI fi)])), (aI, .inl (cI, 65536, .inl (fI))), (aB, .inl (cB, 65536, .inl (fB))), (aO, .inl (cO, 67000, .inl (fO))), (aR, .inl (cR, 65536, .inl (fR)))] H locs := h
  refine lv_iload_n X.1.1 X.1.2.1 zd_Mo_change_5 rfl (lv_at hl 1 rfl) ?_
  refine lv_if_lt (tgt := 28) X.1.1 X.1.2.1 zd_Mo_change_6 rfl (fun c1 => ?_) (fun c1 => ?_)
  · have c1 : k < 0 := zc_lt0_t (by omega) (by omega) c1
    exact absurd c1 (by omega)
  · have c1 : 0 ≤ k := zc_lt0_f (by omega) (by omega) c1
    refine lv_iload_n X.1.1 X.1.2.1 zd_Mo_change_9 rfl (lv_at hl 1 rfl) ?_
    refine lv_aload_n X.1.1 X.1.2.1 zd_Mo_change_10 rfl (lv_at hl 0 rfl) ?_
    refine rG X h 0 rfl rfl zW_Mo 4 (by decide) zw_497 rfl zd_Mo_change_11 ?_
    refine lv_icmp_ge (tgt := 28) X.1.1 X.1.2.1 zd_Mo_change_14 rfl (fun c2 => ?_) (fun c2 => ?_)
    · have c2 : n ≤ k := zc_ge_t (by omega) (by omega) c2
      exact absurd c2 (by omega)
    · have c2 : k < n := zc_ge_f (by omega) (by omega) c2
      refine lv_iload_n X.1.1 X.1.2.1 zd_Mo_change_17 rfl (lv_at hl 2 rfl) ?_
      refine lv_if_lt (tgt := 28) X.1.1 X.1.2.1 zd_Mo_change_18 rfl (fun c3 => ?_) (fun c3 => ?_)
      · have c3 : v < 0 := zc_lt0_t (by omega) (by omega) c3
        exact absurd c3 (by omega)
      · have c3 : 0 ≤ v := zc_lt0_f (by omega) (by omega) c3
        refine lv_iload_n X.1.1 X.1.2.1 zd_Mo_change_21 rfl (lv_at hl 2 rfl) ?_
        refine lv_sipush (v := nI 255) X.1.1 X.1.2.1 zd_Mo_change_22 (by decide) ?_
        refine lv_icmp_le (tgt := 36) X.1.1 X.1.2.1 zd_Mo_change_25 rfl (fun c4 => ?_) (fun c4 => ?_)
        · have c4 : v ≤ 255 := zc_le_t (by omega) (by omega) c4
          refine lv_aload_n X.1.1 X.1.2.1 zd_Mo_change_36 rfl (lv_at hl 0 rfl) ?_
          refine rG X h 0 rfl rfl zW_Mo 0 (by decide) zw_493 rfl zd_Mo_change_37 ?_
          refine lv_iload_n X.1.1 X.1.2.1 zd_Mo_change_40 rfl (lv_at hl 1 rfl) ?_
          refine lv_aload_n X.1.1 X.1.2.1 zd_Mo_change_41 rfl (lv_at hl 0 rfl) ?_
          refine rG X h 0 rfl rfl zW_Mo 0 (by decide) zw_493 rfl zd_Mo_change_42 ?_
          refine lv_iload_n X.1.1 X.1.2.1 zd_Mo_change_45 rfl (lv_at hl 1 rfl) ?_
          refine rLb X h 1 0 rfl rfl (by omega) (by omega) zd_Mo_change_46 ?_
          refine lv_iload_n X.1.1 X.1.2.1 zd_Mo_change_47 rfl (lv_at hl 2 rfl) ?_
          refine lv_ixor X.1.1 X.1.2.1 zd_Mo_change_48 ?_
          refine lv_i2b (v := b8 ((fI k) ^^^ (nI v))) X.1.1 X.1.2.1 zd_Mo_change_49 (rfl) ?_
          refine rSb X h 1 0 rfl rfl (by omega) (by omega) (pk_vb _) zd_Mo_change_50 (fun H locs h => ?_)
          have h : zH D A s [(m0, .inr (4, [.ref aI, .ref aB, .ref aO, .ref aR, .int (nI n), .int (nI nb), .int (nI nm), .int (nI cp), .int (nI frs), .int (nI dm), .int (nI 0), .int (nI be), .int wh, .int (nI at_), .int (nI wr), .int (nI fi)])), (aI, .inl (cI, 65536, .inl (upd fI k (b8 ((fI k) ^^^ (nI v)))))), (aB, .inl (cB, 65536, .inl (fB))), (aO, .inl (cO, 67000, .inl (fO))), (aR, .inl (cR, 65536, .inl (fR)))] H locs := h
          exact ret () H locs ls _ (trivial) h zd_Mo_change_51
        · have c4 : 255 < v := zc_le_f (by omega) (by omega) c4
          exact absurd c4 (by omega)

set_option maxHeartbeats 4000000 in
set_option maxRecDepth 100000 in
theorem zc_Mo_changeN (l : Launch) (D : va_G) {m0 aI aB aO aR n nb nm cp frs dm th be at_ wr fi : Nat} {wh : Int32} {fI fB fO fR : Nat → Int32} {cI cB cO cR : ClassId} {x y : Int32} (hx : (∀ j, j < n → x ≠ nI j) ∨ (∀ j, j ≤ 255 → y ≠ nI j)) (hn : n ≤ 65536) (sz : Nat) : zMv l D zy_Mo_change zb_Mo_change 3 ({ frames := 0, cells := 0, slots := 0, locals := 0 } : Room) [.ref m0, .int x, .int y] [(cI, .byte), (cB, .byte), (cO, .byte), (cR, .byte)] [(m0, .inr (4, [.ref aI, .ref aB, .ref aO, .ref aR, .int (nI n), .int (nI nb), .int (nI nm), .int (nI cp), .int (nI frs), .int (nI dm), .int (nI th), .int (nI be), .int wh, .int (nI at_), .int (nI wr), .int (nI fi)])), (aI, .inl (cI, 65536, .inl (fI))), (aB, .inl (cB, 65536, .inl (fB))), (aO, .inl (cO, 67000, .inl (fO))), (aR, .inl (cR, 65536, .inl (fR)))] sz (fun (u : Unit) => True) (fun _ => [(m0, .inr (4, [.ref aI, .ref aB, .ref aO, .ref aR, .int (nI n), .int (nI nb), .int (nI nm), .int (nI cp), .int (nI frs), .int (nI dm), .int (nI 1), .int (nI be), .int wh, .int (nI at_), .int (nI wr), .int (nI fi)])), (aI, .inl (cI, 65536, .inl (fI))), (aB, .inl (cB, 65536, .inl (fB))), (aO, .inl (cO, 67000, .inl (fO))), (aR, .inl (cR, 65536, .inl (fR)))]) := by
  refine zEv (by decide) (Nat.le_of_ble_eq_true rfl) (fun p e s m args below meth c ls A Q X hin hl h hsz ret => ?_)
  have hl : lv_has ls 3 [(0, .ref m0), (1, .int x), (2, .int y)] := hl
  generalize hH0 : s.heap = H at h ⊢
  have h : zH D A s [(m0, .inr (4, [.ref aI, .ref aB, .ref aO, .ref aR, .int (nI n), .int (nI nb), .int (nI nm), .int (nI cp), .int (nI frs), .int (nI dm), .int (nI th), .int (nI be), .int wh, .int (nI at_), .int (nI wr), .int (nI fi)])), (aI, .inl (cI, 65536, .inl (fI))), (aB, .inl (cB, 65536, .inl (fB))), (aO, .inl (cO, 67000, .inl (fO))), (aR, .inl (cR, 65536, .inl (fR)))] H [] := h
  generalize hL0 : ([] : List Loc) = locs at h ⊢
  refine lv_aload_n X.1.1 X.1.2.1 zd_Mo_change_0 rfl (lv_at hl 0 rfl) ?_
  refine lv_iconst (v := nI 0) X.1.1 X.1.2.1 zd_Mo_change_1 (by decide) ?_
  refine rP X h 0 rfl rfl zW_Mo zO_Mo zN_Mo 10 (by decide) zw_503 rfl (rfl) (rfl) (Nat.le_of_ble_eq_true rfl) zd_Mo_change_2 (fun H locs h => ?_)
  have h : zH D A s [(m0, .inr (4, [.ref aI, .ref aB, .ref aO, .ref aR, .int (nI n), .int (nI nb), .int (nI nm), .int (nI cp), .int (nI frs), .int (nI dm), .int (nI 0), .int (nI be), .int wh, .int (nI at_), .int (nI wr), .int (nI fi)])), (aI, .inl (cI, 65536, .inl (fI))), (aB, .inl (cB, 65536, .inl (fB))), (aO, .inl (cO, 67000, .inl (fO))), (aR, .inl (cR, 65536, .inl (fR)))] H locs := h
  refine lv_iload_n X.1.1 X.1.2.1 zd_Mo_change_5 rfl (lv_at hl 1 rfl) ?_
  refine lv_if_lt (tgt := 28) X.1.1 X.1.2.1 zd_Mo_change_6 rfl (fun c1 => ?_) (fun c1 => ?_)
  · refine lv_aload_n X.1.1 X.1.2.1 zd_Mo_change_28 rfl (lv_at hl 0 rfl) ?_
    refine lv_iconst (v := nI 1) X.1.1 X.1.2.1 zd_Mo_change_29 (by decide) ?_
    refine rP X h 0 rfl rfl zW_Mo zO_Mo zN_Mo 10 (by decide) zw_503 rfl (rfl) (rfl) (Nat.le_of_ble_eq_true rfl) zd_Mo_change_30 (fun H locs h => ?_)
    have h : zH D A s [(m0, .inr (4, [.ref aI, .ref aB, .ref aO, .ref aR, .int (nI n), .int (nI nb), .int (nI nm), .int (nI cp), .int (nI frs), .int (nI dm), .int (nI 1), .int (nI be), .int wh, .int (nI at_), .int (nI wr), .int (nI fi)])), (aI, .inl (cI, 65536, .inl (fI))), (aB, .inl (cB, 65536, .inl (fB))), (aO, .inl (cO, 67000, .inl (fO))), (aR, .inl (cR, 65536, .inl (fR)))] H locs := h
    refine lv_goto (tgt := 51) X.1.1 X.1.2.1 zd_Mo_change_33 rfl ?_
    exact ret () H locs ls _ (trivial) h zd_Mo_change_51
  · refine lv_iload_n X.1.1 X.1.2.1 zd_Mo_change_9 rfl (lv_at hl 1 rfl) ?_
    refine lv_aload_n X.1.1 X.1.2.1 zd_Mo_change_10 rfl (lv_at hl 0 rfl) ?_
    refine rG X h 0 rfl rfl zW_Mo 4 (by decide) zw_497 rfl zd_Mo_change_11 ?_
    refine lv_icmp_ge (tgt := 28) X.1.1 X.1.2.1 zd_Mo_change_14 rfl (fun c2 => ?_) (fun c2 => ?_)
    · refine lv_aload_n X.1.1 X.1.2.1 zd_Mo_change_28 rfl (lv_at hl 0 rfl) ?_
      refine lv_iconst (v := nI 1) X.1.1 X.1.2.1 zd_Mo_change_29 (by decide) ?_
      refine rP X h 0 rfl rfl zW_Mo zO_Mo zN_Mo 10 (by decide) zw_503 rfl (rfl) (rfl) (Nat.le_of_ble_eq_true rfl) zd_Mo_change_30 (fun H locs h => ?_)
      have h : zH D A s [(m0, .inr (4, [.ref aI, .ref aB, .ref aO, .ref aR, .int (nI n), .int (nI nb), .int (nI nm), .int (nI cp), .int (nI frs), .int (nI dm), .int (nI 1), .int (nI be), .int wh, .int (nI at_), .int (nI wr), .int (nI fi)])), (aI, .inl (cI, 65536, .inl (fI))), (aB, .inl (cB, 65536, .inl (fB))), (aO, .inl (cO, 67000, .inl (fO))), (aR, .inl (cR, 65536, .inl (fR)))] H locs := h
      refine lv_goto (tgt := 51) X.1.1 X.1.2.1 zd_Mo_change_33 rfl ?_
      exact ret () H locs ls _ (trivial) h zd_Mo_change_51
    · refine lv_iload_n X.1.1 X.1.2.1 zd_Mo_change_17 rfl (lv_at hl 2 rfl) ?_
      refine lv_if_lt (tgt := 28) X.1.1 X.1.2.1 zd_Mo_change_18 rfl (fun c3 => ?_) (fun c3 => ?_)
      · refine lv_aload_n X.1.1 X.1.2.1 zd_Mo_change_28 rfl (lv_at hl 0 rfl) ?_
        refine lv_iconst (v := nI 1) X.1.1 X.1.2.1 zd_Mo_change_29 (by decide) ?_
        refine rP X h 0 rfl rfl zW_Mo zO_Mo zN_Mo 10 (by decide) zw_503 rfl (rfl) (rfl) (Nat.le_of_ble_eq_true rfl) zd_Mo_change_30 (fun H locs h => ?_)
        have h : zH D A s [(m0, .inr (4, [.ref aI, .ref aB, .ref aO, .ref aR, .int (nI n), .int (nI nb), .int (nI nm), .int (nI cp), .int (nI frs), .int (nI dm), .int (nI 1), .int (nI be), .int wh, .int (nI at_), .int (nI wr), .int (nI fi)])), (aI, .inl (cI, 65536, .inl (fI))), (aB, .inl (cB, 65536, .inl (fB))), (aO, .inl (cO, 67000, .inl (fO))), (aR, .inl (cR, 65536, .inl (fR)))] H locs := h
        refine lv_goto (tgt := 51) X.1.1 X.1.2.1 zd_Mo_change_33 rfl ?_
        exact ret () H locs ls _ (trivial) h zd_Mo_change_51
      · refine lv_iload_n X.1.1 X.1.2.1 zd_Mo_change_21 rfl (lv_at hl 2 rfl) ?_
        refine lv_sipush (v := nI 255) X.1.1 X.1.2.1 zd_Mo_change_22 (by decide) ?_
        refine lv_icmp_le (tgt := 36) X.1.1 X.1.2.1 zd_Mo_change_25 rfl (fun c4 => ?_) (fun c4 => ?_)
        · exfalso
          rcases hx with hx | hx
          · rcases pk_ix x (n := n) (by omega) with q | q | ⟨j, e1, e2⟩
            · exact c1 q
            · exact c2 q
            · exact hx j e1 e2
          · obtain ⟨j, e1, e2⟩ := nI_of2 (M := nI 255) (n := 255) (by decide) c3 c4
            exact hx j e1 e2
        · refine lv_aload_n X.1.1 X.1.2.1 zd_Mo_change_28 rfl (lv_at hl 0 rfl) ?_
          refine lv_iconst (v := nI 1) X.1.1 X.1.2.1 zd_Mo_change_29 (by decide) ?_
          refine rP X h 0 rfl rfl zW_Mo zO_Mo zN_Mo 10 (by decide) zw_503 rfl (rfl) (rfl) (Nat.le_of_ble_eq_true rfl) zd_Mo_change_30 (fun H locs h => ?_)
          have h : zH D A s [(m0, .inr (4, [.ref aI, .ref aB, .ref aO, .ref aR, .int (nI n), .int (nI nb), .int (nI nm), .int (nI cp), .int (nI frs), .int (nI dm), .int (nI 1), .int (nI be), .int wh, .int (nI at_), .int (nI wr), .int (nI fi)])), (aI, .inl (cI, 65536, .inl (fI))), (aB, .inl (cB, 65536, .inl (fB))), (aO, .inl (cO, 67000, .inl (fO))), (aR, .inl (cR, 65536, .inl (fR)))] H locs := h
          refine lv_goto (tgt := 51) X.1.1 X.1.2.1 zd_Mo_change_33 rfl ?_
          exact ret () H locs ls _ (trivial) h zd_Mo_change_51

set_option maxHeartbeats 4000000 in
set_option maxRecDepth 100000 in
theorem zc_Mo_base (l : Launch) (D : va_G) {m0 aI aB aO aR n nb nm cp frs dm th be at_ wr fi : Nat} {wh : Int32} {fI fB fO fR : Nat → Int32} {cI cB cO cR : ClassId} (hn : n ≤ 65536) (hfI : sb_Fit fI) (hfB : sb_Fit fB) (sz : Nat) : zMi l D zy_Mo_base zb_Mo_base 2 .int ({ frames := 0, cells := 0, slots := 0, locals := 0 } : Room) [.ref m0] [(cI, .byte), (cB, .byte), (cO, .byte), (cR, .byte)] [(m0, .inr (4, [.ref aI, .ref aB, .ref aO, .ref aR, .int (nI n), .int (nI nb), .int (nI nm), .int (nI cp), .int (nI frs), .int (nI dm), .int (nI th), .int (nI be), .int wh, .int (nI at_), .int (nI wr), .int (nI fi)])), (aI, .inl (cI, 65536, .inl (fI))), (aB, .inl (cB, 65536, .inl (fB))), (aO, .inl (cO, 67000, .inl (fO))), (aR, .inl (cR, 65536, .inl (fR)))] sz (fun (r : Int32) (u : Nat → Int32) => r = nI n ∧ tx u n = tx fI n ∧ sb_Fit u) (fun u => [(m0, .inr (4, [.ref aI, .ref aB, .ref aO, .ref aR, .int (nI 0), .int (nI n), .int (nI nm), .int (nI cp), .int (nI frs), .int (nI dm), .int (nI 0), .int (nI be), .int wh, .int (nI at_), .int (nI wr), .int (nI fi)])), (aI, .inl (cI, 65536, .inl (fI))), (aB, .inl (cB, 65536, .inl (u))), (aO, .inl (cO, 67000, .inl (fO))), (aR, .inl (cR, 65536, .inl (fR)))]) := by
  refine zEi (by decide) (Nat.le_of_ble_eq_true rfl) (fun p e s m args below meth c ls A Q X hl h hsz ret => ?_)
  have hl : lv_has ls 2 [(0, .ref m0)] := hl
  generalize hH0 : s.heap = H at h ⊢
  have h : zH D A s [(m0, .inr (4, [.ref aI, .ref aB, .ref aO, .ref aR, .int (nI n), .int (nI nb), .int (nI nm), .int (nI cp), .int (nI frs), .int (nI dm), .int (nI th), .int (nI be), .int wh, .int (nI at_), .int (nI wr), .int (nI fi)])), (aI, .inl (cI, 65536, .inl (fI))), (aB, .inl (cB, 65536, .inl (fB))), (aO, .inl (cO, 67000, .inl (fO))), (aR, .inl (cR, 65536, .inl (fR)))] H [] := h
  generalize hL0 : ([] : List Loc) = locs at h ⊢
  refine lv_aload_n X.1.1 X.1.2.1 zd_Mo_base_0 rfl (lv_at hl 0 rfl) ?_
  refine lv_iconst (v := nI 0) X.1.1 X.1.2.1 zd_Mo_base_1 (by decide) ?_
  refine rP X h 0 rfl rfl zW_Mo zO_Mo zN_Mo 10 (by decide) zw_503 rfl (rfl) (rfl) (Nat.le_of_ble_eq_true rfl) zd_Mo_base_2 (fun H locs h => ?_)
  have h : zH D A s [(m0, .inr (4, [.ref aI, .ref aB, .ref aO, .ref aR, .int (nI n), .int (nI nb), .int (nI nm), .int (nI cp), .int (nI frs), .int (nI dm), .int (nI 0), .int (nI be), .int wh, .int (nI at_), .int (nI wr), .int (nI fi)])), (aI, .inl (cI, 65536, .inl (fI))), (aB, .inl (cB, 65536, .inl (fB))), (aO, .inl (cO, 67000, .inl (fO))), (aR, .inl (cR, 65536, .inl (fR)))] H locs := h
  refine lv_iconst (v := nI 0) X.1.1 X.1.2.1 zd_Mo_base_5 (by decide) ?_
  refine lv_istore_n X.1.1 X.1.2.1 zd_Mo_base_6 rfl hl (by decide) rfl (fun ls hl => ?_)
  have hl : lv_has ls 2 [(1, .int (nI 0)), (0, .ref m0)] := hl
  have loop : ∀ (fu : Nat) (i : Nat) (g : Nat → Int32) (ls : Array Slot) (H : Heap) (locs : List Loc), n - i < fu → i ≤ n → tx g i = tx fI i → sb_Fit g → lv_has ls 2 [(0, .ref m0), (1, .int (nI i))] → zH D A s [(m0, .inr (4, [.ref aI, .ref aB, .ref aO, .ref aR, .int (nI n), .int (nI nb), .int (nI nm), .int (nI cp), .int (nI frs), .int (nI dm), .int (nI 0), .int (nI be), .int wh, .int (nI at_), .int (nI wr), .int (nI fi)])), (aI, .inl (cI, 65536, .inl (fI))), (aB, .inl (cB, 65536, .inl (g))), (aO, .inl (cO, 67000, .inl (fO))), (aR, .inl (cR, 65536, .inl (fR)))] H locs → W p l e ({ frames := 0, cells := 0, slots := 0, locals := 0 } : Room) s m args below meth c H locs 0 0 Q (F0 m 7 ls []) := by
    intro fu
    induction fu with
    | zero => intro i g ls H locs hfu; exact absurd hfu (Nat.not_lt_zero _)
    | succ fu ih =>
      intro i g ls H locs hfu hi he hg hl h
      refine lv_iload_n X.1.1 X.1.2.1 zd_Mo_base_7 rfl (lv_at hl 1 rfl) ?_
      refine lv_aload_n X.1.1 X.1.2.1 zd_Mo_base_8 rfl (lv_at hl 0 rfl) ?_
      refine rG X h 0 rfl rfl zW_Mo 4 (by decide) zw_497 rfl zd_Mo_base_9 ?_
      refine lv_icmp_ge (tgt := 33) X.1.1 X.1.2.1 zd_Mo_base_12 rfl (fun d1 => ?_) (fun d1 => ?_)
      · have d1 : n ≤ i := zc_ge_t (by omega) (by omega) d1
        have ei : i = n := by omega
        rw [ei] at he
        refine lv_aload_n X.1.1 X.1.2.1 zd_Mo_base_33 rfl (lv_at hl 0 rfl) ?_
        refine lv_aload_n X.1.1 X.1.2.1 zd_Mo_base_34 rfl (lv_at hl 0 rfl) ?_
        refine rG X h 0 rfl rfl zW_Mo 4 (by decide) zw_497 rfl zd_Mo_base_35 ?_
        refine rP X h 0 rfl rfl zW_Mo zO_Mo zN_Mo 5 (by decide) zw_498 rfl (rfl) (rfl) (Nat.le_of_ble_eq_true rfl) zd_Mo_base_38 (fun H locs h => ?_)
        have h : zH D A s [(m0, .inr (4, [.ref aI, .ref aB, .ref aO, .ref aR, .int (nI n), .int (nI n), .int (nI nm), .int (nI cp), .int (nI frs), .int (nI dm), .int (nI 0), .int (nI be), .int wh, .int (nI at_), .int (nI wr), .int (nI fi)])), (aI, .inl (cI, 65536, .inl (fI))), (aB, .inl (cB, 65536, .inl (g))), (aO, .inl (cO, 67000, .inl (fO))), (aR, .inl (cR, 65536, .inl (fR)))] H locs := h
        refine lv_aload_n X.1.1 X.1.2.1 zd_Mo_base_41 rfl (lv_at hl 0 rfl) ?_
        refine lv_iconst (v := nI 0) X.1.1 X.1.2.1 zd_Mo_base_42 (by decide) ?_
        refine rP X h 0 rfl rfl zW_Mo zO_Mo zN_Mo 4 (by decide) zw_497 rfl (rfl) (rfl) (Nat.le_of_ble_eq_true rfl) zd_Mo_base_43 (fun H locs h => ?_)
        have h : zH D A s [(m0, .inr (4, [.ref aI, .ref aB, .ref aO, .ref aR, .int (nI 0), .int (nI n), .int (nI nm), .int (nI cp), .int (nI frs), .int (nI dm), .int (nI 0), .int (nI be), .int wh, .int (nI at_), .int (nI wr), .int (nI fi)])), (aI, .inl (cI, 65536, .inl (fI))), (aB, .inl (cB, 65536, .inl (g))), (aO, .inl (cO, 67000, .inl (fO))), (aR, .inl (cR, 65536, .inl (fR)))] H locs := h
        refine lv_aload_n X.1.1 X.1.2.1 zd_Mo_base_46 rfl (lv_at hl 0 rfl) ?_
        refine rG X h 0 rfl rfl zW_Mo 5 (by decide) zw_498 rfl zd_Mo_base_47 ?_
        exact ret _ g H locs ls _ (⟨rfl, he, hg⟩) h zd_Mo_base_50
      · have d1 : i < n := zc_ge_f (by omega) (by omega) d1
        refine lv_aload_n X.1.1 X.1.2.1 zd_Mo_base_15 rfl (lv_at hl 0 rfl) ?_
        refine rG X h 0 rfl rfl zW_Mo 1 (by decide) zw_494 rfl zd_Mo_base_16 ?_
        refine lv_iload_n X.1.1 X.1.2.1 zd_Mo_base_19 rfl (lv_at hl 1 rfl) ?_
        refine lv_aload_n X.1.1 X.1.2.1 zd_Mo_base_20 rfl (lv_at hl 0 rfl) ?_
        refine rG X h 0 rfl rfl zW_Mo 0 (by decide) zw_493 rfl zd_Mo_base_21 ?_
        refine lv_iload_n X.1.1 X.1.2.1 zd_Mo_base_24 rfl (lv_at hl 1 rfl) ?_
        refine rLb X h 1 0 rfl rfl (by omega) (by omega) zd_Mo_base_25 ?_
        refine rSb X h 2 1 rfl rfl (by omega) (by omega) ((vp_nar_byte _).trans (b8_fit (hfI i))) zd_Mo_base_26 (fun H locs h => ?_)
        have h : zH D A s [(m0, .inr (4, [.ref aI, .ref aB, .ref aO, .ref aR, .int (nI n), .int (nI nb), .int (nI nm), .int (nI cp), .int (nI frs), .int (nI dm), .int (nI 0), .int (nI be), .int wh, .int (nI at_), .int (nI wr), .int (nI fi)])), (aI, .inl (cI, 65536, .inl (fI))), (aB, .inl (cB, 65536, .inl (upd g i (fI i)))), (aO, .inl (cO, 67000, .inl (fO))), (aR, .inl (cR, 65536, .inl (fR)))] H locs := h
        refine lv_iinc X.1.1 X.1.2.1 zd_Mo_base_27 hl (k := 1) rfl (v := nI (i + 1)) (nI_add _ _) (by decide) rfl (fun ls hl => ?_)
        have hl : lv_has ls 2 [(1, .int (nI (i + 1))), (0, .ref m0)] := hl
        refine lv_goto (tgt := 7) X.1.1 X.1.2.1 zd_Mo_base_30 rfl ?_
        exact ih (i + 1) (upd g i (fI i)) ls H locs (by omega) (by omega) (by rw [tx_push, tx_su, he]) (sb_fitU hg (hfI i)) (lv_sub hl [1, 0] rfl) h
  exact loop _ 0 fB ls H locs (Nat.lt_succ_self _) (by omega) (rfl) (hfB) (lv_sub hl [1, 0] rfl) h

set_option maxHeartbeats 4000000 in
set_option maxRecDepth 100000 in
theorem zc_Mo_turn (l : Launch) (D : va_G) {m0 aI aB aO aR n nb nm cp frs dm th be at_ wr fi : Nat} {wh : Int32} {fI fB fO fR : Nat → Int32} {cI cB cO cR : ClassId} (hn : nm ≤ 65536) (hfO : sb_Fit fO) (hfI : sb_Fit fI) (sz : Nat) : zMi l D zy_Mo_turn zb_Mo_turn 2 .int ({ frames := 1, cells := 0, slots := 0, locals := 21 } : Room) [.ref m0] [(cI, .byte), (cB, .byte), (cO, .byte), (cR, .byte)] [(m0, .inr (4, [.ref aI, .ref aB, .ref aO, .ref aR, .int (nI n), .int (nI nb), .int (nI nm), .int (nI cp), .int (nI frs), .int (nI dm), .int (nI th), .int (nI be), .int wh, .int (nI at_), .int (nI wr), .int (nI fi)])), (aI, .inl (cI, 65536, .inl (fI))), (aB, .inl (cB, 65536, .inl (fB))), (aO, .inl (cO, 67000, .inl (fO))), (aR, .inl (cR, 65536, .inl (fR)))] sz (fun (r : Int32) (u : Nat → Int32) => r = nI nm ∧ tx u nm = tx fO nm ∧ sb_Fit u) (fun u => [(m0, .inr (4, [.ref aI, .ref aB, .ref aO, .ref aR, .int (nI nm), .int (nI nb), .int (nI nm), .int (nI cp), .int (nI frs), .int (nI dm), .int (nI 0), .int (nI be), .int wh, .int (nI at_), .int (nI wr), .int (nI fi)])), (aI, .inl (cI, 65536, .inl (u))), (aB, .inl (cB, 65536, .inl (fB))), (aO, .inl (cO, 67000, .inl (fO))), (aR, .inl (cR, 65536, .inl (fR)))]) := by
  refine zEi (by decide) (Nat.le_of_ble_eq_true rfl) (fun p e s m args below meth c ls A Q X hl h hsz ret => ?_)
  have hl : lv_has ls 2 [(0, .ref m0)] := hl
  generalize hH0 : s.heap = H at h ⊢
  have h : zH D A s [(m0, .inr (4, [.ref aI, .ref aB, .ref aO, .ref aR, .int (nI n), .int (nI nb), .int (nI nm), .int (nI cp), .int (nI frs), .int (nI dm), .int (nI th), .int (nI be), .int wh, .int (nI at_), .int (nI wr), .int (nI fi)])), (aI, .inl (cI, 65536, .inl (fI))), (aB, .inl (cB, 65536, .inl (fB))), (aO, .inl (cO, 67000, .inl (fO))), (aR, .inl (cR, 65536, .inl (fR)))] H [] := h
  generalize hL0 : ([] : List Loc) = locs at h ⊢
  refine lv_aload_n X.1.1 X.1.2.1 zd_Mo_turn_0 rfl (lv_at hl 0 rfl) ?_
  refine lv_iconst (v := nI 0) X.1.1 X.1.2.1 zd_Mo_turn_1 (by decide) ?_
  refine rP X h 0 rfl rfl zW_Mo zO_Mo zN_Mo 10 (by decide) zw_503 rfl (rfl) (rfl) (Nat.le_of_ble_eq_true rfl) zd_Mo_turn_2 (fun H locs h => ?_)
  have h : zH D A s [(m0, .inr (4, [.ref aI, .ref aB, .ref aO, .ref aR, .int (nI n), .int (nI nb), .int (nI nm), .int (nI cp), .int (nI frs), .int (nI dm), .int (nI 0), .int (nI be), .int wh, .int (nI at_), .int (nI wr), .int (nI fi)])), (aI, .inl (cI, 65536, .inl (fI))), (aB, .inl (cB, 65536, .inl (fB))), (aO, .inl (cO, 67000, .inl (fO))), (aR, .inl (cR, 65536, .inl (fR)))] H locs := h
  refine lv_aload_n X.1.1 X.1.2.1 zd_Mo_turn_5 rfl (lv_at hl 0 rfl) ?_
  refine rG X h 0 rfl rfl zW_Mo 6 (by decide) zw_499 rfl zd_Mo_turn_6 ?_
  refine lv_ldc X.1.1 X.1.2.1 X.1.2.2.2.1 (X.1.2.2.2.2 _ zw_491) zd_Mo_turn_9 ?_
  refine zTop (y := nI 65536) (by decide) ?_
  refine lv_icmp_le (tgt := 20) X.1.1 X.1.2.1 zd_Mo_turn_11 rfl (fun c1 => ?_) (fun c1 => ?_)
  · have c1 : nm ≤ 65536 := zc_le_t (by omega) (by omega) c1
    refine lv_iconst (v := nI 0) X.1.1 X.1.2.1 zd_Mo_turn_20 (by decide) ?_
    refine lv_istore_n X.1.1 X.1.2.1 zd_Mo_turn_21 rfl hl (by decide) rfl (fun ls hl => ?_)
    have hl : lv_has ls 2 [(1, .int (nI 0)), (0, .ref m0)] := hl
    have loop : ∀ (fu : Nat) (i : Nat) (g : Nat → Int32) (ls : Array Slot) (H : Heap) (locs : List Loc), nm - i < fu → i ≤ nm → tx g i = tx fO i → sb_Fit g → lv_has ls 2 [(0, .ref m0), (1, .int (nI i))] → zH D A s [(m0, .inr (4, [.ref aI, .ref aB, .ref aO, .ref aR, .int (nI n), .int (nI nb), .int (nI nm), .int (nI cp), .int (nI frs), .int (nI dm), .int (nI 0), .int (nI be), .int wh, .int (nI at_), .int (nI wr), .int (nI fi)])), (aI, .inl (cI, 65536, .inl (g))), (aB, .inl (cB, 65536, .inl (fB))), (aO, .inl (cO, 67000, .inl (fO))), (aR, .inl (cR, 65536, .inl (fR)))] H locs → W p l e ({ frames := 1, cells := 0, slots := 0, locals := 21 } : Room) s m args below meth c H locs 0 0 Q (F0 m 22 ls []) := by
      intro fu
      induction fu with
      | zero => intro i g ls H locs hfu; exact absurd hfu (Nat.not_lt_zero _)
      | succ fu ih =>
        intro i g ls H locs hfu hi he hg hl h
        refine lv_iload_n X.1.1 X.1.2.1 zd_Mo_turn_22 rfl (lv_at hl 1 rfl) ?_
        refine lv_aload_n X.1.1 X.1.2.1 zd_Mo_turn_23 rfl (lv_at hl 0 rfl) ?_
        refine rG X h 0 rfl rfl zW_Mo 6 (by decide) zw_499 rfl zd_Mo_turn_24 ?_
        refine lv_icmp_ge (tgt := 48) X.1.1 X.1.2.1 zd_Mo_turn_27 rfl (fun d1 => ?_) (fun d1 => ?_)
        · have d1 : nm ≤ i := zc_ge_t (by omega) (by omega) d1
          have ei : i = nm := by omega
          rw [ei] at he
          refine lv_aload_n X.1.1 X.1.2.1 zd_Mo_turn_48 rfl (lv_at hl 0 rfl) ?_
          refine lv_aload_n X.1.1 X.1.2.1 zd_Mo_turn_49 rfl (lv_at hl 0 rfl) ?_
          refine rG X h 0 rfl rfl zW_Mo 6 (by decide) zw_499 rfl zd_Mo_turn_50 ?_
          refine rP X h 0 rfl rfl zW_Mo zO_Mo zN_Mo 4 (by decide) zw_497 rfl (rfl) (rfl) (Nat.le_of_ble_eq_true rfl) zd_Mo_turn_53 (fun H locs h => ?_)
          have h : zH D A s [(m0, .inr (4, [.ref aI, .ref aB, .ref aO, .ref aR, .int (nI nm), .int (nI nb), .int (nI nm), .int (nI cp), .int (nI frs), .int (nI dm), .int (nI 0), .int (nI be), .int wh, .int (nI at_), .int (nI wr), .int (nI fi)])), (aI, .inl (cI, 65536, .inl (g))), (aB, .inl (cB, 65536, .inl (fB))), (aO, .inl (cO, 67000, .inl (fO))), (aR, .inl (cR, 65536, .inl (fR)))] H locs := h
          refine lv_aload_n X.1.1 X.1.2.1 zd_Mo_turn_56 rfl (lv_at hl 0 rfl) ?_
          refine rG X h 0 rfl rfl zW_Mo 4 (by decide) zw_497 rfl zd_Mo_turn_57 ?_
          exact ret _ g H locs ls _ (⟨rfl, he, hg⟩) h zd_Mo_turn_60
        · have d1 : i < nm := zc_ge_f (by omega) (by omega) d1
          refine lv_aload_n X.1.1 X.1.2.1 zd_Mo_turn_30 rfl (lv_at hl 0 rfl) ?_
          refine rG X h 0 rfl rfl zW_Mo 0 (by decide) zw_493 rfl zd_Mo_turn_31 ?_
          refine lv_iload_n X.1.1 X.1.2.1 zd_Mo_turn_34 rfl (lv_at hl 1 rfl) ?_
          refine lv_aload_n X.1.1 X.1.2.1 zd_Mo_turn_35 rfl (lv_at hl 0 rfl) ?_
          refine rG X h 0 rfl rfl zW_Mo 2 (by decide) zw_495 rfl zd_Mo_turn_36 ?_
          refine lv_iload_n X.1.1 X.1.2.1 zd_Mo_turn_39 rfl (lv_at hl 1 rfl) ?_
          refine rLb X h 3 2 rfl rfl (by omega) (by omega) zd_Mo_turn_40 ?_
          refine rSb X h 1 0 rfl rfl (by omega) (by omega) ((vp_nar_byte _).trans (b8_fit (hfO i))) zd_Mo_turn_41 (fun H locs h => ?_)
          have h : zH D A s [(m0, .inr (4, [.ref aI, .ref aB, .ref aO, .ref aR, .int (nI n), .int (nI nb), .int (nI nm), .int (nI cp), .int (nI frs), .int (nI dm), .int (nI 0), .int (nI be), .int wh, .int (nI at_), .int (nI wr), .int (nI fi)])), (aI, .inl (cI, 65536, .inl (upd g i (fO i)))), (aB, .inl (cB, 65536, .inl (fB))), (aO, .inl (cO, 67000, .inl (fO))), (aR, .inl (cR, 65536, .inl (fR)))] H locs := h
          refine lv_iinc X.1.1 X.1.2.1 zd_Mo_turn_42 hl (k := 1) rfl (v := nI (i + 1)) (nI_add _ _) (by decide) rfl (fun ls hl => ?_)
          have hl : lv_has ls 2 [(1, .int (nI (i + 1))), (0, .ref m0)] := hl
          refine lv_goto (tgt := 22) X.1.1 X.1.2.1 zd_Mo_turn_45 rfl ?_
          exact ih (i + 1) (upd g i (fO i)) ls H locs (by omega) (by omega) (by rw [tx_push, tx_su, he]) (sb_fitU hg (hfO i)) (lv_sub hl [1, 0] rfl) h
    exact loop _ 0 fI ls H locs (Nat.lt_succ_self _) (by omega) (rfl) (hfI) (lv_sub hl [1, 0] rfl) h
  · have c1 : 65536 < nm := zc_le_f (by omega) (by omega) c1
    exact absurd c1 (by omega)

set_option maxHeartbeats 4000000 in
set_option maxRecDepth 100000 in
theorem zc_Mo_turnN (l : Launch) (D : va_G) {m0 aI aB aO aR n nb nm cp frs dm th be at_ wr fi : Nat} {wh : Int32} {fI fB fO fR : Nat → Int32} {cI cB cO cR : ClassId} (hn : 65536 < nm) (hn2 : nm ≤ 67000) (sz : Nat) : zMi l D zy_Mo_turn zb_Mo_turn 2 .int ({ frames := 1, cells := 0, slots := 0, locals := 21 } : Room) [.ref m0] [(cI, .byte), (cB, .byte), (cO, .byte), (cR, .byte)] [(m0, .inr (4, [.ref aI, .ref aB, .ref aO, .ref aR, .int (nI n), .int (nI nb), .int (nI nm), .int (nI cp), .int (nI frs), .int (nI dm), .int (nI th), .int (nI be), .int wh, .int (nI at_), .int (nI wr), .int (nI fi)])), (aI, .inl (cI, 65536, .inl (fI))), (aB, .inl (cB, 65536, .inl (fB))), (aO, .inl (cO, 67000, .inl (fO))), (aR, .inl (cR, 65536, .inl (fR)))] sz (fun (r : Int32) (u : Unit) => r = nI 0 ∧ True) (fun _ => [(m0, .inr (4, [.ref aI, .ref aB, .ref aO, .ref aR, .int (nI n), .int (nI nb), .int (nI nm), .int (nI cp), .int (nI frs), .int (nI dm), .int (nI 1), .int (nI be), .int wh, .int (nI at_), .int (nI wr), .int (nI fi)])), (aI, .inl (cI, 65536, .inl (fI))), (aB, .inl (cB, 65536, .inl (fB))), (aO, .inl (cO, 67000, .inl (fO))), (aR, .inl (cR, 65536, .inl (fR)))]) := by
  refine zEi (by decide) (Nat.le_of_ble_eq_true rfl) (fun p e s m args below meth c ls A Q X hl h hsz ret => ?_)
  have hl : lv_has ls 2 [(0, .ref m0)] := hl
  generalize hH0 : s.heap = H at h ⊢
  have h : zH D A s [(m0, .inr (4, [.ref aI, .ref aB, .ref aO, .ref aR, .int (nI n), .int (nI nb), .int (nI nm), .int (nI cp), .int (nI frs), .int (nI dm), .int (nI th), .int (nI be), .int wh, .int (nI at_), .int (nI wr), .int (nI fi)])), (aI, .inl (cI, 65536, .inl (fI))), (aB, .inl (cB, 65536, .inl (fB))), (aO, .inl (cO, 67000, .inl (fO))), (aR, .inl (cR, 65536, .inl (fR)))] H [] := h
  generalize hL0 : ([] : List Loc) = locs at h ⊢
  refine lv_aload_n X.1.1 X.1.2.1 zd_Mo_turn_0 rfl (lv_at hl 0 rfl) ?_
  refine lv_iconst (v := nI 0) X.1.1 X.1.2.1 zd_Mo_turn_1 (by decide) ?_
  refine rP X h 0 rfl rfl zW_Mo zO_Mo zN_Mo 10 (by decide) zw_503 rfl (rfl) (rfl) (Nat.le_of_ble_eq_true rfl) zd_Mo_turn_2 (fun H locs h => ?_)
  have h : zH D A s [(m0, .inr (4, [.ref aI, .ref aB, .ref aO, .ref aR, .int (nI n), .int (nI nb), .int (nI nm), .int (nI cp), .int (nI frs), .int (nI dm), .int (nI 0), .int (nI be), .int wh, .int (nI at_), .int (nI wr), .int (nI fi)])), (aI, .inl (cI, 65536, .inl (fI))), (aB, .inl (cB, 65536, .inl (fB))), (aO, .inl (cO, 67000, .inl (fO))), (aR, .inl (cR, 65536, .inl (fR)))] H locs := h
  refine lv_aload_n X.1.1 X.1.2.1 zd_Mo_turn_5 rfl (lv_at hl 0 rfl) ?_
  refine rG X h 0 rfl rfl zW_Mo 6 (by decide) zw_499 rfl zd_Mo_turn_6 ?_
  refine lv_ldc X.1.1 X.1.2.1 X.1.2.2.2.1 (X.1.2.2.2.2 _ zw_491) zd_Mo_turn_9 ?_
  refine zTop (y := nI 65536) (by decide) ?_
  refine lv_icmp_le (tgt := 20) X.1.1 X.1.2.1 zd_Mo_turn_11 rfl (fun c1 => ?_) (fun c1 => ?_)
  · have c1 : nm ≤ 65536 := zc_le_t (by omega) (by omega) c1
    exact absurd c1 (by omega)
  · have c1 : 65536 < nm := zc_le_f (by omega) (by omega) c1
    refine lv_aload_n X.1.1 X.1.2.1 zd_Mo_turn_14 rfl (lv_at hl 0 rfl) ?_
    refine lv_iconst (v := nI 1) X.1.1 X.1.2.1 zd_Mo_turn_15 (by decide) ?_
    refine rCi (wr := []) (wf := fun _ => [(m0, .inr (4, [.ref aI, .ref aB, .ref aO, .ref aR, .int (nI n), .int (nI nb), .int (nI nm), .int (nI cp), .int (nI frs), .int (nI dm), .int (nI 1), .int (nI be), .int wh, .int (nI at_), .int (nI wr), .int (nI fi)])), (aI, .inl (cI, 65536, .inl (fI))), (aB, .inl (cB, 65536, .inl (fB))), (aO, .inl (cO, 67000, .inl (fO))), (aR, .inl (cR, 65536, .inl (fR)))]) (rest := []) X h hl.1 (zc_Mo_refuse l D (m0 := m0) (aI := aI) (aB := aB) (aO := aO) (aR := aR) (wh := wh) (n := n) (nb := nb) (nm := nm) (cp := cp) (frs := frs) (dm := dm) (th := 0) (be := be) (at_ := at_) (wr := wr) (fi := fi) (fI := fI) (cI := cI) (fB := fB) (cB := cB) (fO := fO) (cO := cO) (fR := fR) (cR := cR) (x := 1)  H.size) zw_550 zw_552 zs_17 zw_5 zm_Mo_refuse zq_Mo_refuse ⟨Nat.le_of_ble_eq_true rfl, Nat.le_of_ble_eq_true rfl⟩ ⟨Nat.le_of_ble_eq_true rfl, Nat.le_of_ble_eq_true rfl⟩ [0, 1, 2, 3] rfl [0, 1, 2, 3, 4] [] [0, 1, 2, 3, 4] rfl (by decide) rfl (by decide) (by decide) (fun _ => rfl) (by decide) 0 rfl rfl rfl (Nat.le_of_ble_eq_true rfl) zd_Mo_turn_16 (fun r _ H locs hp h => ?_)
    obtain ⟨rfl, -⟩ := hp
    have h : zH D A s [(m0, .inr (4, [.ref aI, .ref aB, .ref aO, .ref aR, .int (nI n), .int (nI nb), .int (nI nm), .int (nI cp), .int (nI frs), .int (nI dm), .int (nI 1), .int (nI be), .int wh, .int (nI at_), .int (nI wr), .int (nI fi)])), (aI, .inl (cI, 65536, .inl (fI))), (aB, .inl (cB, 65536, .inl (fB))), (aO, .inl (cO, 67000, .inl (fO))), (aR, .inl (cR, 65536, .inl (fR)))] H locs := h
    exact ret _ () H locs ls _ (⟨rfl, trivial⟩) h zd_Mo_turn_19

set_option maxHeartbeats 4000000 in
set_option maxRecDepth 100000 in
theorem zc_Mo_letter (l : Launch) (D : va_G) {m0 aI aB aO aR n nb nm cp frs dm th be at_ wr fi : Nat} {wh : Int32} {fI fB fO fR : Nat → Int32} {cI cB cO cR : ClassId} {k : Nat} (hk : k < nm) (hn : nm ≤ 67000) (sz : Nat) : zMi l D zy_Mo_letter zb_Mo_letter 2 .int ({ frames := 1, cells := 0, slots := 0, locals := 21 } : Room) [.ref m0, .int (nI k)] [(cI, .byte), (cB, .byte), (cO, .byte), (cR, .byte)] [(m0, .inr (4, [.ref aI, .ref aB, .ref aO, .ref aR, .int (nI n), .int (nI nb), .int (nI nm), .int (nI cp), .int (nI frs), .int (nI dm), .int (nI th), .int (nI be), .int wh, .int (nI at_), .int (nI wr), .int (nI fi)])), (aI, .inl (cI, 65536, .inl (fI))), (aB, .inl (cB, 65536, .inl (fB))), (aO, .inl (cO, 67000, .inl (fO))), (aR, .inl (cR, 65536, .inl (fR)))] sz (fun (r : Int32) (u : Unit) => r = nI (ub (fO k)) ∧ True) (fun _ => [(m0, .inr (4, [.ref aI, .ref aB, .ref aO, .ref aR, .int (nI n), .int (nI nb), .int (nI nm), .int (nI cp), .int (nI frs), .int (nI dm), .int (nI 0), .int (nI be), .int wh, .int (nI at_), .int (nI wr), .int (nI fi)])), (aI, .inl (cI, 65536, .inl (fI))), (aB, .inl (cB, 65536, .inl (fB))), (aO, .inl (cO, 67000, .inl (fO))), (aR, .inl (cR, 65536, .inl (fR)))]) := by
  refine zEi (by decide) (Nat.le_of_ble_eq_true rfl) (fun p e s m args below meth c ls A Q X hl h hsz ret => ?_)
  have hl : lv_has ls 2 [(0, .ref m0), (1, .int (nI k))] := hl
  generalize hH0 : s.heap = H at h ⊢
  have h : zH D A s [(m0, .inr (4, [.ref aI, .ref aB, .ref aO, .ref aR, .int (nI n), .int (nI nb), .int (nI nm), .int (nI cp), .int (nI frs), .int (nI dm), .int (nI th), .int (nI be), .int wh, .int (nI at_), .int (nI wr), .int (nI fi)])), (aI, .inl (cI, 65536, .inl (fI))), (aB, .inl (cB, 65536, .inl (fB))), (aO, .inl (cO, 67000, .inl (fO))), (aR, .inl (cR, 65536, .inl (fR)))] H [] := h
  generalize hL0 : ([] : List Loc) = locs at h ⊢
  refine lv_aload_n X.1.1 X.1.2.1 zd_Mo_letter_0 rfl (lv_at hl 0 rfl) ?_
  refine lv_iconst (v := nI 0) X.1.1 X.1.2.1 zd_Mo_letter_1 (by decide) ?_
  refine rP X h 0 rfl rfl zW_Mo zO_Mo zN_Mo 10 (by decide) zw_503 rfl (rfl) (rfl) (Nat.le_of_ble_eq_true rfl) zd_Mo_letter_2 (fun H locs h => ?_)
  have h : zH D A s [(m0, .inr (4, [.ref aI, .ref aB, .ref aO, .ref aR, .int (nI n), .int (nI nb), .int (nI nm), .int (nI cp), .int (nI frs), .int (nI dm), .int (nI 0), .int (nI be), .int wh, .int (nI at_), .int (nI wr), .int (nI fi)])), (aI, .inl (cI, 65536, .inl (fI))), (aB, .inl (cB, 65536, .inl (fB))), (aO, .inl (cO, 67000, .inl (fO))), (aR, .inl (cR, 65536, .inl (fR)))] H locs := h
  refine lv_iload_n X.1.1 X.1.2.1 zd_Mo_letter_5 rfl (lv_at hl 1 rfl) ?_
  refine lv_if_lt (tgt := 17) X.1.1 X.1.2.1 zd_Mo_letter_6 rfl (fun c1 => ?_) (fun c1 => ?_)
  · have c1 : k < 0 := zc_lt0_t (by omega) (by omega) c1
    exact absurd c1 (by omega)
  · have c1 : 0 ≤ k := zc_lt0_f (by omega) (by omega) c1
    refine lv_iload_n X.1.1 X.1.2.1 zd_Mo_letter_9 rfl (lv_at hl 1 rfl) ?_
    refine lv_aload_n X.1.1 X.1.2.1 zd_Mo_letter_10 rfl (lv_at hl 0 rfl) ?_
    refine rG X h 0 rfl rfl zW_Mo 6 (by decide) zw_499 rfl zd_Mo_letter_11 ?_
    refine lv_icmp_lt (tgt := 23) X.1.1 X.1.2.1 zd_Mo_letter_14 rfl (fun c2 => ?_) (fun c2 => ?_)
    · have c2 : k < nm := zc_lt_t (by omega) (by omega) c2
      refine lv_aload_n X.1.1 X.1.2.1 zd_Mo_letter_23 rfl (lv_at hl 0 rfl) ?_
      refine rG X h 0 rfl rfl zW_Mo 2 (by decide) zw_495 rfl zd_Mo_letter_24 ?_
      refine lv_iload_n X.1.1 X.1.2.1 zd_Mo_letter_27 rfl (lv_at hl 1 rfl) ?_
      refine rLb X h 3 2 rfl rfl (by omega) (by omega) zd_Mo_letter_28 ?_
      refine lv_sipush (v := nI 255) X.1.1 X.1.2.1 zd_Mo_letter_29 (by decide) ?_
      refine lv_iand X.1.1 X.1.2.1 zd_Mo_letter_32 ?_
      refine zTop (y := nI (ub (fO k))) (and255 _) ?_
      exact ret _ () H locs ls _ (⟨rfl, trivial⟩) h zd_Mo_letter_33
    · have c2 : nm ≤ k := zc_lt_f (by omega) (by omega) c2
      exact absurd c2 (by omega)

set_option maxHeartbeats 4000000 in
set_option maxRecDepth 100000 in
theorem zc_Mo_letterN (l : Launch) (D : va_G) {m0 aI aB aO aR n nb nm cp frs dm th be at_ wr fi : Nat} {wh : Int32} {fI fB fO fR : Nat → Int32} {cI cB cO cR : ClassId} {x : Int32} (hx : ∀ j, j < nm → x ≠ nI j) (hn : nm ≤ 67000) (sz : Nat) : zMi l D zy_Mo_letter zb_Mo_letter 2 .int ({ frames := 1, cells := 0, slots := 0, locals := 21 } : Room) [.ref m0, .int x] [(cI, .byte), (cB, .byte), (cO, .byte), (cR, .byte)] [(m0, .inr (4, [.ref aI, .ref aB, .ref aO, .ref aR, .int (nI n), .int (nI nb), .int (nI nm), .int (nI cp), .int (nI frs), .int (nI dm), .int (nI th), .int (nI be), .int wh, .int (nI at_), .int (nI wr), .int (nI fi)])), (aI, .inl (cI, 65536, .inl (fI))), (aB, .inl (cB, 65536, .inl (fB))), (aO, .inl (cO, 67000, .inl (fO))), (aR, .inl (cR, 65536, .inl (fR)))] sz (fun (r : Int32) (u : Unit) => r = nI 0 ∧ True) (fun _ => [(m0, .inr (4, [.ref aI, .ref aB, .ref aO, .ref aR, .int (nI n), .int (nI nb), .int (nI nm), .int (nI cp), .int (nI frs), .int (nI dm), .int (nI 1), .int (nI be), .int wh, .int (nI at_), .int (nI wr), .int (nI fi)])), (aI, .inl (cI, 65536, .inl (fI))), (aB, .inl (cB, 65536, .inl (fB))), (aO, .inl (cO, 67000, .inl (fO))), (aR, .inl (cR, 65536, .inl (fR)))]) := by
  refine zEi (by decide) (Nat.le_of_ble_eq_true rfl) (fun p e s m args below meth c ls A Q X hl h hsz ret => ?_)
  have hl : lv_has ls 2 [(0, .ref m0), (1, .int x)] := hl
  generalize hH0 : s.heap = H at h ⊢
  have h : zH D A s [(m0, .inr (4, [.ref aI, .ref aB, .ref aO, .ref aR, .int (nI n), .int (nI nb), .int (nI nm), .int (nI cp), .int (nI frs), .int (nI dm), .int (nI th), .int (nI be), .int wh, .int (nI at_), .int (nI wr), .int (nI fi)])), (aI, .inl (cI, 65536, .inl (fI))), (aB, .inl (cB, 65536, .inl (fB))), (aO, .inl (cO, 67000, .inl (fO))), (aR, .inl (cR, 65536, .inl (fR)))] H [] := h
  generalize hL0 : ([] : List Loc) = locs at h ⊢
  refine lv_aload_n X.1.1 X.1.2.1 zd_Mo_letter_0 rfl (lv_at hl 0 rfl) ?_
  refine lv_iconst (v := nI 0) X.1.1 X.1.2.1 zd_Mo_letter_1 (by decide) ?_
  refine rP X h 0 rfl rfl zW_Mo zO_Mo zN_Mo 10 (by decide) zw_503 rfl (rfl) (rfl) (Nat.le_of_ble_eq_true rfl) zd_Mo_letter_2 (fun H locs h => ?_)
  have h : zH D A s [(m0, .inr (4, [.ref aI, .ref aB, .ref aO, .ref aR, .int (nI n), .int (nI nb), .int (nI nm), .int (nI cp), .int (nI frs), .int (nI dm), .int (nI 0), .int (nI be), .int wh, .int (nI at_), .int (nI wr), .int (nI fi)])), (aI, .inl (cI, 65536, .inl (fI))), (aB, .inl (cB, 65536, .inl (fB))), (aO, .inl (cO, 67000, .inl (fO))), (aR, .inl (cR, 65536, .inl (fR)))] H locs := h
  refine lv_iload_n X.1.1 X.1.2.1 zd_Mo_letter_5 rfl (lv_at hl 1 rfl) ?_
  refine lv_if_lt (tgt := 17) X.1.1 X.1.2.1 zd_Mo_letter_6 rfl (fun c1 => ?_) (fun c1 => ?_)
  · refine lv_aload_n X.1.1 X.1.2.1 zd_Mo_letter_17 rfl (lv_at hl 0 rfl) ?_
    refine lv_iconst (v := nI 1) X.1.1 X.1.2.1 zd_Mo_letter_18 (by decide) ?_
    refine rCi (wr := []) (wf := fun _ => [(m0, .inr (4, [.ref aI, .ref aB, .ref aO, .ref aR, .int (nI n), .int (nI nb), .int (nI nm), .int (nI cp), .int (nI frs), .int (nI dm), .int (nI 1), .int (nI be), .int wh, .int (nI at_), .int (nI wr), .int (nI fi)])), (aI, .inl (cI, 65536, .inl (fI))), (aB, .inl (cB, 65536, .inl (fB))), (aO, .inl (cO, 67000, .inl (fO))), (aR, .inl (cR, 65536, .inl (fR)))]) (rest := []) X h hl.1 (zc_Mo_refuse l D (m0 := m0) (aI := aI) (aB := aB) (aO := aO) (aR := aR) (wh := wh) (n := n) (nb := nb) (nm := nm) (cp := cp) (frs := frs) (dm := dm) (th := 0) (be := be) (at_ := at_) (wr := wr) (fi := fi) (fI := fI) (cI := cI) (fB := fB) (cB := cB) (fO := fO) (cO := cO) (fR := fR) (cR := cR) (x := 1)  H.size) zw_550 zw_552 zs_17 zw_5 zm_Mo_refuse zq_Mo_refuse ⟨Nat.le_of_ble_eq_true rfl, Nat.le_of_ble_eq_true rfl⟩ ⟨Nat.le_of_ble_eq_true rfl, Nat.le_of_ble_eq_true rfl⟩ [0, 1, 2, 3] rfl [0, 1, 2, 3, 4] [] [0, 1, 2, 3, 4] rfl (by decide) rfl (by decide) (by decide) (fun _ => rfl) (by decide) 0 rfl rfl rfl (Nat.le_of_ble_eq_true rfl) zd_Mo_letter_19 (fun r _ H locs hp h => ?_)
    obtain ⟨rfl, -⟩ := hp
    have h : zH D A s [(m0, .inr (4, [.ref aI, .ref aB, .ref aO, .ref aR, .int (nI n), .int (nI nb), .int (nI nm), .int (nI cp), .int (nI frs), .int (nI dm), .int (nI 1), .int (nI be), .int wh, .int (nI at_), .int (nI wr), .int (nI fi)])), (aI, .inl (cI, 65536, .inl (fI))), (aB, .inl (cB, 65536, .inl (fB))), (aO, .inl (cO, 67000, .inl (fO))), (aR, .inl (cR, 65536, .inl (fR)))] H locs := h
    exact ret _ () H locs ls _ (⟨rfl, trivial⟩) h zd_Mo_letter_22
  · refine lv_iload_n X.1.1 X.1.2.1 zd_Mo_letter_9 rfl (lv_at hl 1 rfl) ?_
    refine lv_aload_n X.1.1 X.1.2.1 zd_Mo_letter_10 rfl (lv_at hl 0 rfl) ?_
    refine rG X h 0 rfl rfl zW_Mo 6 (by decide) zw_499 rfl zd_Mo_letter_11 ?_
    refine lv_icmp_lt (tgt := 23) X.1.1 X.1.2.1 zd_Mo_letter_14 rfl (fun c2 => ?_) (fun c2 => ?_)
    · exfalso
      rcases pk_ix x (n := nm) (by omega) with q | q | ⟨j, e1, e2⟩
      · exact c1 q
      · first | exact c2 q | exact absurd c2 (Int32.not_lt.mpr q)
      · exact hx j e1 e2
    · refine lv_aload_n X.1.1 X.1.2.1 zd_Mo_letter_17 rfl (lv_at hl 0 rfl) ?_
      refine lv_iconst (v := nI 1) X.1.1 X.1.2.1 zd_Mo_letter_18 (by decide) ?_
      refine rCi (wr := []) (wf := fun _ => [(m0, .inr (4, [.ref aI, .ref aB, .ref aO, .ref aR, .int (nI n), .int (nI nb), .int (nI nm), .int (nI cp), .int (nI frs), .int (nI dm), .int (nI 1), .int (nI be), .int wh, .int (nI at_), .int (nI wr), .int (nI fi)])), (aI, .inl (cI, 65536, .inl (fI))), (aB, .inl (cB, 65536, .inl (fB))), (aO, .inl (cO, 67000, .inl (fO))), (aR, .inl (cR, 65536, .inl (fR)))]) (rest := []) X h hl.1 (zc_Mo_refuse l D (m0 := m0) (aI := aI) (aB := aB) (aO := aO) (aR := aR) (wh := wh) (n := n) (nb := nb) (nm := nm) (cp := cp) (frs := frs) (dm := dm) (th := 0) (be := be) (at_ := at_) (wr := wr) (fi := fi) (fI := fI) (cI := cI) (fB := fB) (cB := cB) (fO := fO) (cO := cO) (fR := fR) (cR := cR) (x := 1)  H.size) zw_550 zw_552 zs_17 zw_5 zm_Mo_refuse zq_Mo_refuse ⟨Nat.le_of_ble_eq_true rfl, Nat.le_of_ble_eq_true rfl⟩ ⟨Nat.le_of_ble_eq_true rfl, Nat.le_of_ble_eq_true rfl⟩ [0, 1, 2, 3] rfl [0, 1, 2, 3, 4] [] [0, 1, 2, 3, 4] rfl (by decide) rfl (by decide) (by decide) (fun _ => rfl) (by decide) 0 rfl rfl rfl (Nat.le_of_ble_eq_true rfl) zd_Mo_letter_19 (fun r _ H locs hp h => ?_)
      obtain ⟨rfl, -⟩ := hp
      have h : zH D A s [(m0, .inr (4, [.ref aI, .ref aB, .ref aO, .ref aR, .int (nI n), .int (nI nb), .int (nI nm), .int (nI cp), .int (nI frs), .int (nI dm), .int (nI 1), .int (nI be), .int wh, .int (nI at_), .int (nI wr), .int (nI fi)])), (aI, .inl (cI, 65536, .inl (fI))), (aB, .inl (cB, 65536, .inl (fB))), (aO, .inl (cO, 67000, .inl (fO))), (aR, .inl (cR, 65536, .inl (fR)))] H locs := h
      exact ret _ () H locs ls _ (⟨rfl, trivial⟩) h zd_Mo_letter_22
