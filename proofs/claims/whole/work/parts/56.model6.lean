/-! DeltaPressModel: part, use -/
set_option maxHeartbeats 4000000 in
set_option maxRecDepth 100000 in
theorem zc_Mo_part (l : Launch) (D : va_G) {m0 aI aB aO aR n nb nm cp frs dm th be at_ wr fi : Nat} {wh : Int32} {fI fB fO fR : Nat → Int32} {cI cB cO cR : ClassId} {y : Nat} (hw : wr = 0) (ha : at_ < n) (hn : n ≤ 65536) (hnb : nb ≤ 65536) (hy : y ≤ 65536) (hfi : fi ≤ y) (hfI : sb_Fit fI) (hfB : sb_Fit fB) (hfR : sb_Fit fR) (sz : Nat) : zMv l D zy_Mo_part zb_Mo_part 7 ({ frames := 1, cells := 0, slots := 0, locals := 22 } : Room) [.ref m0, .int (nI y)] [(cI, .byte), (cB, .byte), (cO, .byte), (cR, .byte)] [(m0, .inr (4, [.ref aI, .ref aB, .ref aO, .ref aR, .int (nI n), .int (nI nb), .int (nI nm), .int (nI cp), .int (nI frs), .int (nI dm), .int (nI th), .int (nI be), .int wh, .int (nI at_), .int (nI wr), .int (nI fi)])), (aI, .inl (cI, 65536, .inl (fI))), (aB, .inl (cB, 65536, .inl (fB))), (aO, .inl (cO, 67000, .inl (fO))), (aR, .inl (cR, 65536, .inl (fR)))] sz (fun (u : Nat × Nat × Nat × (Nat → Int32)) => ((128 ≤ (ub (fI at_)) ∧ ((u.2.1 = 0 ∧ ∃ fr mn, rdK (tx fI n) (tx fB nb) y (ub (fI at_)) (at_ + 1) fi = some (u.1, fr, mn) ∧ tx u.2.2.2 u.2.2.1 = tx fR fi ++ (((tx fB nb)).drop fr).take mn) ∨ (u.2.1 = 1 ∧ rdK (tx fI n) (tx fB nb) y (ub (fI at_)) (at_ + 1) fi = none))) ∨ (¬ 128 ≤ (ub (fI at_)) ∧ ((u.2.1 = 0 ∧ ¬ rdW n y (ub (fI at_)) (at_ + 1) fi ∧ u.1 = at_ + 1 + (ub (fI at_)) ∧ tx u.2.2.2 u.2.2.1 = tx fR fi ++ (((tx fI n)).drop (at_ + 1)).take (ub (fI at_))) ∨ (u.2.1 = 1 ∧ rdW n y (ub (fI at_)) (at_ + 1) fi)))) ∧ u.1 ≤ n ∧ u.2.2.1 ≤ y ∧ sb_Fit u.2.2.2) (fun u => [(m0, .inr (4, [.ref aI, .ref aB, .ref aO, .ref aR, .int (nI n), .int (nI nb), .int (nI nm), .int (nI cp), .int (nI frs), .int (nI dm), .int (nI th), .int (nI be), .int wh, .int (nI u.1), .int (nI u.2.1), .int (nI u.2.2.1)])), (aI, .inl (cI, 65536, .inl (fI))), (aB, .inl (cB, 65536, .inl (fB))), (aO, .inl (cO, 67000, .inl (fO))), (aR, .inl (cR, 65536, .inl (u.2.2.2)))]) := by
  refine zEv (by decide) (Nat.le_of_ble_eq_true rfl) (fun p e s m args below meth c ls A Q X hin hl h hsz ret => ?_)
  have hl : lv_has ls 7 [(0, .ref m0), (1, .int (nI y))] := hl
  generalize hH0 : s.heap = H at h ⊢
  have h : zH D A s [(m0, .inr (4, [.ref aI, .ref aB, .ref aO, .ref aR, .int (nI n), .int (nI nb), .int (nI nm), .int (nI cp), .int (nI frs), .int (nI dm), .int (nI th), .int (nI be), .int wh, .int (nI at_), .int (nI wr), .int (nI fi)])), (aI, .inl (cI, 65536, .inl (fI))), (aB, .inl (cB, 65536, .inl (fB))), (aO, .inl (cO, 67000, .inl (fO))), (aR, .inl (cR, 65536, .inl (fR)))] H [] := h
  generalize hL0 : ([] : List Loc) = locs at h ⊢
  subst hw
  have h : zH D A s [(m0, .inr (4, [.ref aI, .ref aB, .ref aO, .ref aR, .int (nI n), .int (nI nb), .int (nI nm), .int (nI cp), .int (nI frs), .int (nI dm), .int (nI th), .int (nI be), .int wh, .int (nI at_), .int (nI 0), .int (nI fi)])), (aI, .inl (cI, 65536, .inl (fI))), (aB, .inl (cB, 65536, .inl (fB))), (aO, .inl (cO, 67000, .inl (fO))), (aR, .inl (cR, 65536, .inl (fR)))] H locs := h
  have hop := ub_lt (fI at_)
  refine lv_aload_n X.1.1 X.1.2.1 zd_Mo_part_0 rfl (lv_at hl 0 rfl) ?_
  refine rCi (wr := []) (wf := fun _ => [(m0, .inr (4, [.ref aI, .ref aB, .ref aO, .ref aR, .int (nI n), .int (nI nb), .int (nI nm), .int (nI cp), .int (nI frs), .int (nI dm), .int (nI th), .int (nI be), .int wh, .int (nI (at_ + 1)), .int (nI 0), .int (nI fi)])), (aI, .inl (cI, 65536, .inl (fI))), (aB, .inl (cB, 65536, .inl (fB))), (aO, .inl (cO, 67000, .inl (fO))), (aR, .inl (cR, 65536, .inl (fR)))]) (rest := []) X h hl.1 (zc_Mo_next l D (m0 := m0) (aI := aI) (aB := aB) (aO := aO) (aR := aR) (wh := wh) (n := n) (nb := nb) (nm := nm) (cp := cp) (frs := frs) (dm := dm) (th := th) (be := be) (at_ := at_) (wr := 0) (fi := fi) (fI := fI) (cI := cI) (fB := fB) (cB := cB) (fO := fO) (cO := cO) (fR := fR) (cR := cR) (rfl) (ha) (hn) H.size) zw_599 zw_601 zs_24 zw_5 zm_Mo_next zq_Mo_next ⟨Nat.le_of_ble_eq_true rfl, Nat.le_of_ble_eq_true rfl⟩ ⟨Nat.le_of_ble_eq_true rfl, Nat.le_of_ble_eq_true rfl⟩ [0, 1, 2, 3] rfl [0, 1, 2, 3, 4] [] [0, 1, 2, 3, 4] rfl (by decide) rfl (by decide) (by decide) (fun _ => rfl) (by decide) 0 rfl rfl rfl (Nat.le_of_ble_eq_true rfl) zd_Mo_part_1 (fun r _ H locs hp h => ?_)
  obtain ⟨rfl, -⟩ := hp
  have h : zH D A s [(m0, .inr (4, [.ref aI, .ref aB, .ref aO, .ref aR, .int (nI n), .int (nI nb), .int (nI nm), .int (nI cp), .int (nI frs), .int (nI dm), .int (nI th), .int (nI be), .int wh, .int (nI (at_ + 1)), .int (nI 0), .int (nI fi)])), (aI, .inl (cI, 65536, .inl (fI))), (aB, .inl (cB, 65536, .inl (fB))), (aO, .inl (cO, 67000, .inl (fO))), (aR, .inl (cR, 65536, .inl (fR)))] H locs := h
  generalize hob : ub (fI at_) = op at hop ret ⊢
  refine lv_istore_n X.1.1 X.1.2.1 zd_Mo_part_4 rfl hl (by decide) rfl (fun ls hl => ?_)
  have hl : lv_has ls 7 [(2, .int (nI op)), (0, .ref m0), (1, .int (nI y))] := hl
  refine lv_iload_n X.1.1 X.1.2.1 zd_Mo_part_5 rfl (lv_at hl 0 rfl) ?_
  refine lv_if_ne (tgt := 14) X.1.1 X.1.2.1 zd_Mo_part_6 rfl (fun c1 => ?_) (fun c1 => ?_)
  · have c1 : op ≠ 0 := zc_ne0_t (by omega) (by omega) c1
    refine lv_iload_n X.1.1 X.1.2.1 zd_Mo_part_14 rfl (lv_at hl 0 rfl) ?_
    refine lv_sipush (v := nI 128) X.1.1 X.1.2.1 zd_Mo_part_15 (by decide) ?_
    refine lv_icmp_ge (tgt := 56) X.1.1 X.1.2.1 zd_Mo_part_18 rfl (fun c2 => ?_) (fun c2 => ?_)
    · have c2 : 128 ≤ op := zc_ge_t (by omega) (by omega) c2
      refine lv_lconst (v := lN 0) X.1.1 X.1.2.1 zd_Mo_part_56 rfl ?_
      refine lv_lstore_n X.1.1 X.1.2.1 zd_Mo_part_57 rfl hl (by decide) rfl (fun ls hl => ?_)
      have hl : lv_has ls 7 [(3, .long (lN 0)), (2, .int (nI op)), (0, .ref m0), (1, .int (nI y))] := hl
      refine lv_iconst (v := nI 0) X.1.1 X.1.2.1 zd_Mo_part_58 (by decide) ?_
      refine lv_istore X.1.1 X.1.2.1 zd_Mo_part_59 hl (by decide) rfl (fun ls hl => ?_)
      have hl : lv_has ls 7 [(5, .int (nI 0)), (3, .long (lN 0)), (2, .int (nI op)), (0, .ref m0), (1, .int (nI y))] := hl
      refine lv_iconst (v := nI 0) X.1.1 X.1.2.1 zd_Mo_part_61 (by decide) ?_
      refine lv_istore X.1.1 X.1.2.1 zd_Mo_part_62 hl (by decide) rfl (fun ls hl => ?_)
      have hl : lv_has ls 7 [(6, .int (nI 0)), (5, .int (nI 0)), (3, .long (lN 0)), (2, .int (nI op)), (0, .ref m0), (1, .int (nI y))] := hl
      have bad2 : ∀ (fu : Nat) (k : Nat) (pv : Int64) (nv : Int32) (a1 : Nat) (ls : Array Slot) (H : Heap) (locs : List Loc), 3 - k < fu → rdK (tx fI n) (tx fB nb) y op (at_ + 1) fi = none → k ≤ 3 → a1 ≤ n → lv_has ls 7 [(0, .ref m0), (1, .int (nI y)), (2, .int (nI op)), (3, .long pv), (5, .int nv), (6, .int (nI k))] → zH D A s [(m0, .inr (4, [.ref aI, .ref aB, .ref aO, .ref aR, .int (nI n), .int (nI nb), .int (nI nm), .int (nI cp), .int (nI frs), .int (nI dm), .int (nI th), .int (nI be), .int wh, .int (nI a1), .int (nI 1), .int (nI fi)])), (aI, .inl (cI, 65536, .inl (fI))), (aB, .inl (cB, 65536, .inl (fB))), (aO, .inl (cO, 67000, .inl (fO))), (aR, .inl (cR, 65536, .inl (fR)))] H locs → W p l e ({ frames := 1, cells := 0, slots := 0, locals := 22 } : Room) s m args below meth c H locs 0 0 Q (F0 m 102 ls []) := by
        intro fu
        induction fu with
        | zero => intro k pv nv a1 ls H locs hfu; exact absurd hfu (Nat.not_lt_zero _)
        | succ fu ih =>
          intro k pv nv a1 ls H locs hfu hno hk ha1 hl h
          refine lv_iload X.1.1 X.1.2.1 zd_Mo_part_102 (lv_at hl 5 rfl) ?_
          refine lv_iconst (v := nI 3) X.1.1 X.1.2.1 zd_Mo_part_104 (by decide) ?_
          refine lv_icmp_ge (tgt := 140) X.1.1 X.1.2.1 zd_Mo_part_105 rfl (fun f1 => ?_) (fun f1 => ?_)
          · have f1 : 3 ≤ k := zc_ge_t (by omega) (by omega) f1
            refine lv_iload X.1.1 X.1.2.1 zd_Mo_part_140 (lv_at hl 4 rfl) ?_
            refine lv_if_ne (tgt := 149) X.1.1 X.1.2.1 zd_Mo_part_142 rfl (fun f2 => ?_) (fun f2 => ?_)
            · refine lv_lload_n X.1.1 X.1.2.1 zd_Mo_part_149 rfl (lv_at hl 3 rfl) ?_
              refine lv_iload X.1.1 X.1.2.1 zd_Mo_part_150 (lv_at hl 4 rfl) ?_
              refine lv_i2l (v := nv.toInt64) X.1.1 X.1.2.1 zd_Mo_part_152 (rfl) ?_
              refine lv_ladd X.1.1 X.1.2.1 zd_Mo_part_153 ?_
              refine lv_aload_n X.1.1 X.1.2.1 zd_Mo_part_154 rfl (lv_at hl 0 rfl) ?_
              refine rG X h 0 rfl rfl zW_Mo 5 (by decide) zw_498 rfl zd_Mo_part_155 ?_
              refine lv_i2l (v := (nI nb).toInt64) X.1.1 X.1.2.1 zd_Mo_part_158 (rfl) ?_
              refine W.lcmp X.1.1 X.1.2.1 zd_Mo_part_159 ?_
              refine lv_if_le (tgt := 168) X.1.1 X.1.2.1 zd_Mo_part_160 rfl (fun f3 => ?_) (fun f3 => ?_)
              · refine lv_iconst (v := nI 0) X.1.1 X.1.2.1 zd_Mo_part_168 (by decide) ?_
                refine lv_istore X.1.1 X.1.2.1 zd_Mo_part_169 hl (by decide) rfl (fun ls hl => ?_)
                have hl : lv_has ls 7 [(6, .int (nI 0)), (0, .ref m0), (1, .int (nI y)), (2, .int (nI op)), (3, .long pv), (5, .int nv)] := hl
                refine lv_iload X.1.1 X.1.2.1 zd_Mo_part_171 (lv_at hl 0 rfl) ?_
                refine lv_iload X.1.1 X.1.2.1 zd_Mo_part_173 (lv_at hl 5 rfl) ?_
                refine lv_icmp_ge (tgt := 206) X.1.1 X.1.2.1 zd_Mo_part_175 rfl (fun e1 => ?_) (fun e1 => ?_)
                · exact ret (a1, 1, fi, fR) H locs ls _ (⟨Or.inl ⟨c2, Or.inr ⟨rfl, hno⟩⟩, ha1, hfi, hfR⟩) h zd_Mo_part_206
                · refine lv_aload_n X.1.1 X.1.2.1 zd_Mo_part_178 rfl (lv_at hl 1 rfl) ?_
                  refine rG X h 0 rfl rfl zW_Mo 14 (by decide) zw_507 rfl zd_Mo_part_179 ?_
                  refine lv_if_ne (tgt := 206) X.1.1 X.1.2.1 zd_Mo_part_182 rfl (fun e2 => ?_) (fun e2 => ?_)
                  · have e2 : 1 ≠ 0 := zc_ne0_t (by omega) (by omega) e2
                    exact ret (a1, 1, fi, fR) H locs ls _ (⟨Or.inl ⟨c2, Or.inr ⟨rfl, hno⟩⟩, ha1, hfi, hfR⟩) h zd_Mo_part_206
                  · have e2 : 1 = 0 := zc_ne0_f (by omega) (by omega) e2
                    exact absurd e2 (by decide)
              · refine lv_aload_n X.1.1 X.1.2.1 zd_Mo_part_163 rfl (lv_at hl 0 rfl) ?_
                refine lv_iconst (v := nI 1) X.1.1 X.1.2.1 zd_Mo_part_164 (by decide) ?_
                refine rP X h 0 rfl rfl zW_Mo zO_Mo zN_Mo 14 (by decide) zw_507 rfl (rfl) (rfl) (Nat.le_of_ble_eq_true rfl) zd_Mo_part_165 (fun H locs h => ?_)
                have h : zH D A s [(m0, .inr (4, [.ref aI, .ref aB, .ref aO, .ref aR, .int (nI n), .int (nI nb), .int (nI nm), .int (nI cp), .int (nI frs), .int (nI dm), .int (nI th), .int (nI be), .int wh, .int (nI a1), .int (nI 1), .int (nI fi)])), (aI, .inl (cI, 65536, .inl (fI))), (aB, .inl (cB, 65536, .inl (fB))), (aO, .inl (cO, 67000, .inl (fO))), (aR, .inl (cR, 65536, .inl (fR)))] H locs := h
                refine lv_iconst (v := nI 0) X.1.1 X.1.2.1 zd_Mo_part_168 (by decide) ?_
                refine lv_istore X.1.1 X.1.2.1 zd_Mo_part_169 hl (by decide) rfl (fun ls hl => ?_)
                have hl : lv_has ls 7 [(6, .int (nI 0)), (0, .ref m0), (1, .int (nI y)), (2, .int (nI op)), (3, .long pv), (5, .int nv)] := hl
                refine lv_iload X.1.1 X.1.2.1 zd_Mo_part_171 (lv_at hl 0 rfl) ?_
                refine lv_iload X.1.1 X.1.2.1 zd_Mo_part_173 (lv_at hl 5 rfl) ?_
                refine lv_icmp_ge (tgt := 206) X.1.1 X.1.2.1 zd_Mo_part_175 rfl (fun e1 => ?_) (fun e1 => ?_)
                · exact ret (a1, 1, fi, fR) H locs ls _ (⟨Or.inl ⟨c2, Or.inr ⟨rfl, hno⟩⟩, ha1, hfi, hfR⟩) h zd_Mo_part_206
                · refine lv_aload_n X.1.1 X.1.2.1 zd_Mo_part_178 rfl (lv_at hl 1 rfl) ?_
                  refine rG X h 0 rfl rfl zW_Mo 14 (by decide) zw_507 rfl zd_Mo_part_179 ?_
                  refine lv_if_ne (tgt := 206) X.1.1 X.1.2.1 zd_Mo_part_182 rfl (fun e2 => ?_) (fun e2 => ?_)
                  · have e2 : 1 ≠ 0 := zc_ne0_t (by omega) (by omega) e2
                    exact ret (a1, 1, fi, fR) H locs ls _ (⟨Or.inl ⟨c2, Or.inr ⟨rfl, hno⟩⟩, ha1, hfi, hfR⟩) h zd_Mo_part_206
                  · have e2 : 1 = 0 := zc_ne0_f (by omega) (by omega) e2
                    exact absurd e2 (by decide)
            · refine lv_ldc X.1.1 X.1.2.1 X.1.2.2.2.1 (X.1.2.2.2.2 _ zw_491) zd_Mo_part_145 ?_
              refine zTop (y := nI 65536) (by decide) ?_
              refine lv_istore X.1.1 X.1.2.1 zd_Mo_part_147 hl (by decide) rfl (fun ls hl => ?_)
              have hl : lv_has ls 7 [(5, .int (nI 65536)), (0, .ref m0), (1, .int (nI y)), (2, .int (nI op)), (3, .long pv), (6, .int (nI k))] := hl
              refine lv_lload_n X.1.1 X.1.2.1 zd_Mo_part_149 rfl (lv_at hl 4 rfl) ?_
              refine lv_iload X.1.1 X.1.2.1 zd_Mo_part_150 (lv_at hl 0 rfl) ?_
              refine lv_i2l (v := (nI 65536).toInt64) X.1.1 X.1.2.1 zd_Mo_part_152 (rfl) ?_
              refine lv_ladd X.1.1 X.1.2.1 zd_Mo_part_153 ?_
              refine lv_aload_n X.1.1 X.1.2.1 zd_Mo_part_154 rfl (lv_at hl 1 rfl) ?_
              refine rG X h 0 rfl rfl zW_Mo 5 (by decide) zw_498 rfl zd_Mo_part_155 ?_
              refine lv_i2l (v := (nI nb).toInt64) X.1.1 X.1.2.1 zd_Mo_part_158 (rfl) ?_
              refine W.lcmp X.1.1 X.1.2.1 zd_Mo_part_159 ?_
              refine lv_if_le (tgt := 168) X.1.1 X.1.2.1 zd_Mo_part_160 rfl (fun f3 => ?_) (fun f3 => ?_)
              · refine lv_iconst (v := nI 0) X.1.1 X.1.2.1 zd_Mo_part_168 (by decide) ?_
                refine lv_istore X.1.1 X.1.2.1 zd_Mo_part_169 hl (by decide) rfl (fun ls hl => ?_)
                have hl : lv_has ls 7 [(6, .int (nI 0)), (5, .int (nI 65536)), (0, .ref m0), (1, .int (nI y)), (2, .int (nI op)), (3, .long pv)] := hl
                refine lv_iload X.1.1 X.1.2.1 zd_Mo_part_171 (lv_at hl 0 rfl) ?_
                refine lv_iload X.1.1 X.1.2.1 zd_Mo_part_173 (lv_at hl 1 rfl) ?_
                refine lv_icmp_ge (tgt := 206) X.1.1 X.1.2.1 zd_Mo_part_175 rfl (fun e1 => ?_) (fun e1 => ?_)
                · have e1 : 65536 ≤ 0 := zc_ge_t (by omega) (by omega) e1
                  exact ret (a1, 1, fi, fR) H locs ls _ (⟨Or.inl ⟨c2, Or.inr ⟨rfl, hno⟩⟩, ha1, hfi, hfR⟩) h zd_Mo_part_206
                · have e1 : 0 < 65536 := zc_ge_f (by omega) (by omega) e1
                  refine lv_aload_n X.1.1 X.1.2.1 zd_Mo_part_178 rfl (lv_at hl 2 rfl) ?_
                  refine rG X h 0 rfl rfl zW_Mo 14 (by decide) zw_507 rfl zd_Mo_part_179 ?_
                  refine lv_if_ne (tgt := 206) X.1.1 X.1.2.1 zd_Mo_part_182 rfl (fun e2 => ?_) (fun e2 => ?_)
                  · have e2 : 1 ≠ 0 := zc_ne0_t (by omega) (by omega) e2
                    exact ret (a1, 1, fi, fR) H locs ls _ (⟨Or.inl ⟨c2, Or.inr ⟨rfl, hno⟩⟩, ha1, hfi, hfR⟩) h zd_Mo_part_206
                  · have e2 : 1 = 0 := zc_ne0_f (by omega) (by omega) e2
                    exact absurd e2 (by decide)
              · refine lv_aload_n X.1.1 X.1.2.1 zd_Mo_part_163 rfl (lv_at hl 1 rfl) ?_
                refine lv_iconst (v := nI 1) X.1.1 X.1.2.1 zd_Mo_part_164 (by decide) ?_
                refine rP X h 0 rfl rfl zW_Mo zO_Mo zN_Mo 14 (by decide) zw_507 rfl (rfl) (rfl) (Nat.le_of_ble_eq_true rfl) zd_Mo_part_165 (fun H locs h => ?_)
                have h : zH D A s [(m0, .inr (4, [.ref aI, .ref aB, .ref aO, .ref aR, .int (nI n), .int (nI nb), .int (nI nm), .int (nI cp), .int (nI frs), .int (nI dm), .int (nI th), .int (nI be), .int wh, .int (nI a1), .int (nI 1), .int (nI fi)])), (aI, .inl (cI, 65536, .inl (fI))), (aB, .inl (cB, 65536, .inl (fB))), (aO, .inl (cO, 67000, .inl (fO))), (aR, .inl (cR, 65536, .inl (fR)))] H locs := h
                refine lv_iconst (v := nI 0) X.1.1 X.1.2.1 zd_Mo_part_168 (by decide) ?_
                refine lv_istore X.1.1 X.1.2.1 zd_Mo_part_169 hl (by decide) rfl (fun ls hl => ?_)
                have hl : lv_has ls 7 [(6, .int (nI 0)), (5, .int (nI 65536)), (0, .ref m0), (1, .int (nI y)), (2, .int (nI op)), (3, .long pv)] := hl
                refine lv_iload X.1.1 X.1.2.1 zd_Mo_part_171 (lv_at hl 0 rfl) ?_
                refine lv_iload X.1.1 X.1.2.1 zd_Mo_part_173 (lv_at hl 1 rfl) ?_
                refine lv_icmp_ge (tgt := 206) X.1.1 X.1.2.1 zd_Mo_part_175 rfl (fun e1 => ?_) (fun e1 => ?_)
                · have e1 : 65536 ≤ 0 := zc_ge_t (by omega) (by omega) e1
                  exact ret (a1, 1, fi, fR) H locs ls _ (⟨Or.inl ⟨c2, Or.inr ⟨rfl, hno⟩⟩, ha1, hfi, hfR⟩) h zd_Mo_part_206
                · have e1 : 0 < 65536 := zc_ge_f (by omega) (by omega) e1
                  refine lv_aload_n X.1.1 X.1.2.1 zd_Mo_part_178 rfl (lv_at hl 2 rfl) ?_
                  refine rG X h 0 rfl rfl zW_Mo 14 (by decide) zw_507 rfl zd_Mo_part_179 ?_
                  refine lv_if_ne (tgt := 206) X.1.1 X.1.2.1 zd_Mo_part_182 rfl (fun e2 => ?_) (fun e2 => ?_)
                  · have e2 : 1 ≠ 0 := zc_ne0_t (by omega) (by omega) e2
                    exact ret (a1, 1, fi, fR) H locs ls _ (⟨Or.inl ⟨c2, Or.inr ⟨rfl, hno⟩⟩, ha1, hfi, hfR⟩) h zd_Mo_part_206
                  · have e2 : 1 = 0 := zc_ne0_f (by omega) (by omega) e2
                    exact absurd e2 (by decide)
          · have f1 : k < 3 := zc_ge_f (by omega) (by omega) f1
            refine lv_iload_n X.1.1 X.1.2.1 zd_Mo_part_108 rfl (lv_at hl 2 rfl) ?_
            refine lv_iconst (v := nI 4) X.1.1 X.1.2.1 zd_Mo_part_109 (by decide) ?_
            refine lv_iload X.1.1 X.1.2.1 zd_Mo_part_110 (lv_at hl 5 rfl) ?_
            refine lv_iadd X.1.1 X.1.2.1 zd_Mo_part_112 ?_
            refine zTop (y := nI (4 + k)) (nI_add _ _) ?_
            refine lv_iushr (v := nI (op / 2 ^ (4 + k))) X.1.1 X.1.2.1 zd_Mo_part_113 ((ush_eq _ (by omega)).trans (ush_nI (by omega))) ?_
            refine lv_iconst (v := nI 1) X.1.1 X.1.2.1 zd_Mo_part_114 (by decide) ?_
            refine lv_iand X.1.1 X.1.2.1 zd_Mo_part_115 ?_
            refine zTop (y := nI (op / 2 ^ (4 + k) % 2)) (and1 (Nat.lt_of_le_of_lt (Nat.div_le_self _ _) (by omega))) ?_
            refine lv_if_eq (tgt := 134) X.1.1 X.1.2.1 zd_Mo_part_116 rfl (fun f4 => ?_) (fun f4 => ?_)
            · have f4 : op / 2 ^ (4 + k) % 2 = 0 := zc_eq0_t (by omega) (by omega) f4
              refine lv_iinc X.1.1 X.1.2.1 zd_Mo_part_134 hl (k := 5) rfl (v := nI (k + 1)) (nI_add _ _) (by decide) rfl (fun ls hl => ?_)
              have hl : lv_has ls 7 [(6, .int (nI (k + 1))), (0, .ref m0), (1, .int (nI y)), (2, .int (nI op)), (3, .long pv), (5, .int nv)] := hl
              refine lv_goto (tgt := 102) X.1.1 X.1.2.1 zd_Mo_part_137 rfl ?_
              exact ih (k + 1) pv nv a1 ls H locs (by omega) (hno) (by omega) (ha1) (lv_sub hl [1, 2, 3, 4, 5, 0] rfl) h
            · have f4 : op / 2 ^ (4 + k) % 2 ≠ 0 := zc_eq0_f (by omega) (by omega) f4
              refine lv_iload X.1.1 X.1.2.1 zd_Mo_part_119 (lv_at hl 4 rfl) ?_
              refine lv_aload_n X.1.1 X.1.2.1 zd_Mo_part_121 rfl (lv_at hl 0 rfl) ?_
              refine rCi (wr := []) (wf := fun _ => [(m0, .inr (4, [.ref aI, .ref aB, .ref aO, .ref aR, .int (nI n), .int (nI nb), .int (nI nm), .int (nI cp), .int (nI frs), .int (nI dm), .int (nI th), .int (nI be), .int wh, .int (nI a1), .int (nI 1), .int (nI fi)])), (aI, .inl (cI, 65536, .inl (fI))), (aB, .inl (cB, 65536, .inl (fB))), (aO, .inl (cO, 67000, .inl (fO))), (aR, .inl (cR, 65536, .inl (fR)))]) (rest := [.int nv]) X h hl.1 (zc_Mo_nextN l D (m0 := m0) (aI := aI) (aB := aB) (aO := aO) (aR := aR) (wh := wh) (n := n) (nb := nb) (nm := nm) (cp := cp) (frs := frs) (dm := dm) (th := th) (be := be) (at_ := a1) (wr := 1) (fi := fi) (fI := fI) (cI := cI) (fB := fB) (cB := cB) (fO := fO) (cO := cO) (fR := fR) (cR := cR) (Or.inl rfl) (by omega) (hn) H.size) zw_599 zw_601 zs_24 zw_5 zm_Mo_next zq_Mo_next ⟨Nat.le_of_ble_eq_true rfl, Nat.le_of_ble_eq_true rfl⟩ ⟨Nat.le_of_ble_eq_true rfl, Nat.le_of_ble_eq_true rfl⟩ [0, 1, 2, 3] rfl [0, 1, 2, 3, 4] [] [0, 1, 2, 3, 4] rfl (by decide) rfl (by decide) (by decide) (fun _ => rfl) (by decide) 0 rfl rfl rfl (Nat.le_of_ble_eq_true rfl) zd_Mo_part_122 (fun r _ H locs hp h => ?_)
              obtain ⟨rfl, -⟩ := hp
              have h : zH D A s [(m0, .inr (4, [.ref aI, .ref aB, .ref aO, .ref aR, .int (nI n), .int (nI nb), .int (nI nm), .int (nI cp), .int (nI frs), .int (nI dm), .int (nI th), .int (nI be), .int wh, .int (nI a1), .int (nI 1), .int (nI fi)])), (aI, .inl (cI, 65536, .inl (fI))), (aB, .inl (cB, 65536, .inl (fB))), (aO, .inl (cO, 67000, .inl (fO))), (aR, .inl (cR, 65536, .inl (fR)))] H locs := h
              refine lv_bipush (v := nI 8) X.1.1 X.1.2.1 zd_Mo_part_125 (by decide) ?_
              refine lv_iload X.1.1 X.1.2.1 zd_Mo_part_127 (lv_at hl 5 rfl) ?_
              refine lv_imul X.1.1 X.1.2.1 zd_Mo_part_129 ?_
              refine zTop (y := nI (8 * k)) (pk_mul _ _) ?_
              refine lv_ishl X.1.1 X.1.2.1 zd_Mo_part_130 ?_
              refine lv_iadd X.1.1 X.1.2.1 zd_Mo_part_131 ?_
              refine lv_istore X.1.1 X.1.2.1 zd_Mo_part_132 hl (by decide) rfl (fun ls hl => ?_)
              have hl : lv_has ls 7 [(5, .int (nv + ((nI 0) <<< ((nI (8 * k)) &&& 31)))), (0, .ref m0), (1, .int (nI y)), (2, .int (nI op)), (3, .long pv), (6, .int (nI k))] := hl
              refine lv_iinc X.1.1 X.1.2.1 zd_Mo_part_134 hl (k := 5) rfl (v := nI (k + 1)) (nI_add _ _) (by decide) rfl (fun ls hl => ?_)
              have hl : lv_has ls 7 [(6, .int (nI (k + 1))), (5, .int (nv + ((nI 0) <<< ((nI (8 * k)) &&& 31)))), (0, .ref m0), (1, .int (nI y)), (2, .int (nI op)), (3, .long pv)] := hl
              refine lv_goto (tgt := 102) X.1.1 X.1.2.1 zd_Mo_part_137 rfl ?_
              exact ih (k + 1) pv (nv + ((nI 0) <<< ((nI (8 * k)) &&& 31))) a1 ls H locs (by omega) (hno) (by omega) (ha1) (lv_sub hl [2, 3, 4, 5, 1, 0] rfl) h
      have bad1 : ∀ (fu : Nat) (k : Nat) (pv : Int64) (nv : Int32) (a1 : Nat) (ls : Array Slot) (H : Heap) (locs : List Loc), 4 - k < fu → rdK (tx fI n) (tx fB nb) y op (at_ + 1) fi = none → k ≤ 4 → a1 ≤ n → lv_has ls 7 [(0, .ref m0), (1, .int (nI y)), (2, .int (nI op)), (3, .long pv), (5, .int nv), (6, .int (nI k))] → zH D A s [(m0, .inr (4, [.ref aI, .ref aB, .ref aO, .ref aR, .int (nI n), .int (nI nb), .int (nI nm), .int (nI cp), .int (nI frs), .int (nI dm), .int (nI th), .int (nI be), .int wh, .int (nI a1), .int (nI 1), .int (nI fi)])), (aI, .inl (cI, 65536, .inl (fI))), (aB, .inl (cB, 65536, .inl (fB))), (aO, .inl (cO, 67000, .inl (fO))), (aR, .inl (cR, 65536, .inl (fR)))] H locs → W p l e ({ frames := 1, cells := 0, slots := 0, locals := 22 } : Room) s m args below meth c H locs 0 0 Q (F0 m 64 ls []) := by
        intro fu
        induction fu with
        | zero => intro k pv nv a1 ls H locs hfu; exact absurd hfu (Nat.not_lt_zero _)
        | succ fu ih =>
          intro k pv nv a1 ls H locs hfu hno hk ha1 hl h
          refine lv_iload X.1.1 X.1.2.1 zd_Mo_part_64 (lv_at hl 5 rfl) ?_
          refine lv_iconst (v := nI 4) X.1.1 X.1.2.1 zd_Mo_part_66 (by decide) ?_
          refine lv_icmp_ge (tgt := 99) X.1.1 X.1.2.1 zd_Mo_part_67 rfl (fun f1 => ?_) (fun f1 => ?_)
          · have f1 : 4 ≤ k := zc_ge_t (by omega) (by omega) f1
            refine lv_iconst (v := nI 0) X.1.1 X.1.2.1 zd_Mo_part_99 (by decide) ?_
            refine lv_istore X.1.1 X.1.2.1 zd_Mo_part_100 hl (by decide) rfl (fun ls hl => ?_)
            have hl : lv_has ls 7 [(6, .int (nI 0)), (0, .ref m0), (1, .int (nI y)), (2, .int (nI op)), (3, .long pv), (5, .int nv)] := hl
            exact bad2 _ 0 pv nv a1 ls H locs (Nat.lt_succ_self _) (hno) (by omega) (ha1) (lv_sub hl [1, 2, 3, 4, 5, 0] rfl) h
          · have f1 : k < 4 := zc_ge_f (by omega) (by omega) f1
            refine lv_iload_n X.1.1 X.1.2.1 zd_Mo_part_70 rfl (lv_at hl 2 rfl) ?_
            refine lv_iload X.1.1 X.1.2.1 zd_Mo_part_71 (lv_at hl 5 rfl) ?_
            refine lv_iushr (v := nI (op / 2 ^ k)) X.1.1 X.1.2.1 zd_Mo_part_73 ((ush_eq _ (by omega)).trans (ush_nI (by omega))) ?_
            refine lv_iconst (v := nI 1) X.1.1 X.1.2.1 zd_Mo_part_74 (by decide) ?_
            refine lv_iand X.1.1 X.1.2.1 zd_Mo_part_75 ?_
            refine zTop (y := nI (op / 2 ^ k % 2)) (and1 (Nat.lt_of_le_of_lt (Nat.div_le_self _ _) (by omega))) ?_
            refine lv_if_eq (tgt := 93) X.1.1 X.1.2.1 zd_Mo_part_76 rfl (fun f4 => ?_) (fun f4 => ?_)
            · have f4 : op / 2 ^ k % 2 = 0 := zc_eq0_t (by omega) (by omega) f4
              refine lv_iinc X.1.1 X.1.2.1 zd_Mo_part_93 hl (k := 5) rfl (v := nI (k + 1)) (nI_add _ _) (by decide) rfl (fun ls hl => ?_)
              have hl : lv_has ls 7 [(6, .int (nI (k + 1))), (0, .ref m0), (1, .int (nI y)), (2, .int (nI op)), (3, .long pv), (5, .int nv)] := hl
              refine lv_goto (tgt := 64) X.1.1 X.1.2.1 zd_Mo_part_96 rfl ?_
              exact ih (k + 1) pv nv a1 ls H locs (by omega) (hno) (by omega) (ha1) (lv_sub hl [1, 2, 3, 4, 5, 0] rfl) h
            · have f4 : op / 2 ^ k % 2 ≠ 0 := zc_eq0_f (by omega) (by omega) f4
              refine lv_lload_n X.1.1 X.1.2.1 zd_Mo_part_79 rfl (lv_at hl 3 rfl) ?_
              refine lv_aload_n X.1.1 X.1.2.1 zd_Mo_part_80 rfl (lv_at hl 0 rfl) ?_
              refine rCi (wr := []) (wf := fun _ => [(m0, .inr (4, [.ref aI, .ref aB, .ref aO, .ref aR, .int (nI n), .int (nI nb), .int (nI nm), .int (nI cp), .int (nI frs), .int (nI dm), .int (nI th), .int (nI be), .int wh, .int (nI a1), .int (nI 1), .int (nI fi)])), (aI, .inl (cI, 65536, .inl (fI))), (aB, .inl (cB, 65536, .inl (fB))), (aO, .inl (cO, 67000, .inl (fO))), (aR, .inl (cR, 65536, .inl (fR)))]) (rest := [.long pv]) X h hl.1 (zc_Mo_nextN l D (m0 := m0) (aI := aI) (aB := aB) (aO := aO) (aR := aR) (wh := wh) (n := n) (nb := nb) (nm := nm) (cp := cp) (frs := frs) (dm := dm) (th := th) (be := be) (at_ := a1) (wr := 1) (fi := fi) (fI := fI) (cI := cI) (fB := fB) (cB := cB) (fO := fO) (cO := cO) (fR := fR) (cR := cR) (Or.inl rfl) (by omega) (hn) H.size) zw_599 zw_601 zs_24 zw_5 zm_Mo_next zq_Mo_next ⟨Nat.le_of_ble_eq_true rfl, Nat.le_of_ble_eq_true rfl⟩ ⟨Nat.le_of_ble_eq_true rfl, Nat.le_of_ble_eq_true rfl⟩ [0, 1, 2, 3] rfl [0, 1, 2, 3, 4] [] [0, 1, 2, 3, 4] rfl (by decide) rfl (by decide) (by decide) (fun _ => rfl) (by decide) 0 rfl rfl rfl (Nat.le_of_ble_eq_true rfl) zd_Mo_part_81 (fun r _ H locs hp h => ?_)
              obtain ⟨rfl, -⟩ := hp
              have h : zH D A s [(m0, .inr (4, [.ref aI, .ref aB, .ref aO, .ref aR, .int (nI n), .int (nI nb), .int (nI nm), .int (nI cp), .int (nI frs), .int (nI dm), .int (nI th), .int (nI be), .int wh, .int (nI a1), .int (nI 1), .int (nI fi)])), (aI, .inl (cI, 65536, .inl (fI))), (aB, .inl (cB, 65536, .inl (fB))), (aO, .inl (cO, 67000, .inl (fO))), (aR, .inl (cR, 65536, .inl (fR)))] H locs := h
              refine lv_i2l (v := (nI 0).toInt64) X.1.1 X.1.2.1 zd_Mo_part_84 (rfl) ?_
              refine lv_bipush (v := nI 8) X.1.1 X.1.2.1 zd_Mo_part_85 (by decide) ?_
              refine lv_iload X.1.1 X.1.2.1 zd_Mo_part_87 (lv_at hl 5 rfl) ?_
              refine lv_imul X.1.1 X.1.2.1 zd_Mo_part_89 ?_
              refine zTop (y := nI (8 * k)) (pk_mul _ _) ?_
              refine lv_lshl (v := ((nI 0).toInt64) <<< ((nI (8 * k)).toInt64 &&& 63)) X.1.1 X.1.2.1 zd_Mo_part_90 (rfl) ?_
              refine lv_ladd X.1.1 X.1.2.1 zd_Mo_part_91 ?_
              refine lv_lstore_n X.1.1 X.1.2.1 zd_Mo_part_92 rfl hl (by decide) rfl (fun ls hl => ?_)
              have hl : lv_has ls 7 [(3, .long (pv + (((nI 0).toInt64) <<< ((nI (8 * k)).toInt64 &&& 63)))), (0, .ref m0), (1, .int (nI y)), (2, .int (nI op)), (5, .int nv), (6, .int (nI k))] := hl
              refine lv_iinc X.1.1 X.1.2.1 zd_Mo_part_93 hl (k := 5) rfl (v := nI (k + 1)) (nI_add _ _) (by decide) rfl (fun ls hl => ?_)
              have hl : lv_has ls 7 [(6, .int (nI (k + 1))), (3, .long (pv + (((nI 0).toInt64) <<< ((nI (8 * k)).toInt64 &&& 63)))), (0, .ref m0), (1, .int (nI y)), (2, .int (nI op)), (5, .int nv)] := hl
              refine lv_goto (tgt := 64) X.1.1 X.1.2.1 zd_Mo_part_96 rfl ?_
              exact ih (k + 1) (pv + (((nI 0).toInt64) <<< ((nI (8 * k)).toInt64 &&& 63))) nv a1 ls H locs (by omega) (hno) (by omega) (ha1) (lv_sub hl [2, 3, 4, 1, 5, 0] rfl) h
      have good1 : ∀ (fu : Nat) (k : Nat) (v : Nat) (a1 : Nat) (ls : Array Slot) (H : Heap) (locs : List Loc), 4 - k < fu → k ≤ 4 → v < 256 ^ k → a1 ≤ n → rdC (tx fI n) op 4 0 (at_ + 1) 0 = rdC (tx fI n) op (4 - k) k a1 v → lv_has ls 7 [(0, .ref m0), (1, .int (nI y)), (2, .int (nI op)), (3, .long (lN v)), (5, .int (nI 0)), (6, .int (nI k))] → zH D A s [(m0, .inr (4, [.ref aI, .ref aB, .ref aO, .ref aR, .int (nI n), .int (nI nb), .int (nI nm), .int (nI cp), .int (nI frs), .int (nI dm), .int (nI th), .int (nI be), .int wh, .int (nI a1), .int (nI 0), .int (nI fi)])), (aI, .inl (cI, 65536, .inl (fI))), (aB, .inl (cB, 65536, .inl (fB))), (aO, .inl (cO, 67000, .inl (fO))), (aR, .inl (cR, 65536, .inl (fR)))] H locs → W p l e ({ frames := 1, cells := 0, slots := 0, locals := 22 } : Room) s m args below meth c H locs 0 0 Q (F0 m 64 ls []) := by
        intro fu
        induction fu with
        | zero => intro k v a1 ls H locs hfu; exact absurd hfu (Nat.not_lt_zero _)
        | succ fu ih =>
          intro k v a1 ls H locs hfu hk hv ha1 he hl h
          have hbig := p256 (k := k) (by omega)
          refine lv_iload X.1.1 X.1.2.1 zd_Mo_part_64 (lv_at hl 5 rfl) ?_
          refine lv_iconst (v := nI 4) X.1.1 X.1.2.1 zd_Mo_part_66 (by decide) ?_
          refine lv_icmp_ge (tgt := 99) X.1.1 X.1.2.1 zd_Mo_part_67 rfl (fun f1 => ?_) (fun f1 => ?_)
          · have f1 : 4 ≤ k := zc_ge_t (by omega) (by omega) f1
            have ek : k = 4 := by omega
            subst ek
            have hl : lv_has ls 7 [(0, .ref m0), (1, .int (nI y)), (2, .int (nI op)), (3, .long (lN v)), (5, .int (nI 0)), (6, .int (nI 4))] := hl
            have he1 : rdC (tx fI n) op 4 0 (at_ + 1) 0 = some (v, a1) := he
            refine lv_iconst (v := nI 0) X.1.1 X.1.2.1 zd_Mo_part_99 (by decide) ?_
            refine lv_istore X.1.1 X.1.2.1 zd_Mo_part_100 hl (by decide) rfl (fun ls hl => ?_)
            have hl : lv_has ls 7 [(6, .int (nI 0)), (0, .ref m0), (1, .int (nI y)), (2, .int (nI op)), (3, .long (lN v)), (5, .int (nI 0))] := hl
            have good2 : ∀ (fu2 : Nat) (k : Nat) (v2 : Nat) (a2 : Nat) (ls : Array Slot) (H : Heap) (locs : List Loc), 3 - k < fu2 → k ≤ 3 → v2 < 256 ^ k → a2 ≤ n → rdC (tx fI n) (op / 16) 3 0 a1 0 = rdC (tx fI n) (op / 16) (3 - k) k a2 v2 → lv_has ls 7 [(0, .ref m0), (1, .int (nI y)), (2, .int (nI op)), (3, .long (lN v)), (5, .int (nI v2)), (6, .int (nI k))] → zH D A s [(m0, .inr (4, [.ref aI, .ref aB, .ref aO, .ref aR, .int (nI n), .int (nI nb), .int (nI nm), .int (nI cp), .int (nI frs), .int (nI dm), .int (nI th), .int (nI be), .int wh, .int (nI a2), .int (nI 0), .int (nI fi)])), (aI, .inl (cI, 65536, .inl (fI))), (aB, .inl (cB, 65536, .inl (fB))), (aO, .inl (cO, 67000, .inl (fO))), (aR, .inl (cR, 65536, .inl (fR)))] H locs → W p l e ({ frames := 1, cells := 0, slots := 0, locals := 22 } : Room) s m args below meth c H locs 0 0 Q (F0 m 102 ls []) := by
              intro fu2
              induction fu2 with
              | zero => intro k v2 a2 ls H locs hfu2; exact absurd hfu2 (Nat.not_lt_zero _)
              | succ fu2 ih2 =>
                intro k v2 a2 ls H locs hfu2 hk hv2 ha2 he hl h
                have hbg2 := p256 (k := k) (by omega)
                refine lv_iload X.1.1 X.1.2.1 zd_Mo_part_102 (lv_at hl 5 rfl) ?_
                refine lv_iconst (v := nI 3) X.1.1 X.1.2.1 zd_Mo_part_104 (by decide) ?_
                refine lv_icmp_ge (tgt := 140) X.1.1 X.1.2.1 zd_Mo_part_105 rfl (fun g1 => ?_) (fun g1 => ?_)
                · have g1 : 3 ≤ k := zc_ge_t (by omega) (by omega) g1
                  have ek : k = 3 := by omega
                  subst ek
                  have hl : lv_has ls 7 [(0, .ref m0), (1, .int (nI y)), (2, .int (nI op)), (3, .long (lN v)), (5, .int (nI v2)), (6, .int (nI 3))] := hl
                  have he2 : rdC (tx fI n) (op / 16) 3 0 a1 0 = some (v2, a2) := he
                  have hv2 : v2 < 2 ^ 24 := hv2
                  have hv1 : v < 2 ^ 32 := hv
                  have hmy : mny v2 = if v2 = 0 then 65536 else v2 := rfl
                  have hK : rdK (tx fI n) (tx fB nb) y op (at_ + 1) fi = if v + mny v2 ≤ nb ∧ fi + mny v2 ≤ y then some (a2, v, mny v2) else none := by
                    unfold rdK; rw [he1]; dsimp only; rw [he2]; dsimp only; rw [tx_len]
                  refine lv_iload X.1.1 X.1.2.1 zd_Mo_part_140 (lv_at hl 4 rfl) ?_
                  refine lv_if_ne (tgt := 149) X.1.1 X.1.2.1 zd_Mo_part_142 rfl (fun g2 => ?_) (fun g2 => ?_)
                  · have g2 : v2 ≠ 0 := zc_ne0_t (by omega) (by omega) g2
                    rw [if_neg g2] at hmy
                    rw [hmy] at hK
                    refine lv_lload_n X.1.1 X.1.2.1 zd_Mo_part_149 rfl (lv_at hl 3 rfl) ?_
                    refine lv_iload X.1.1 X.1.2.1 zd_Mo_part_150 (lv_at hl 4 rfl) ?_
                    refine lv_i2l (v := lN v2) X.1.1 X.1.2.1 zd_Mo_part_152 (nI_l (by omega)) ?_
                    refine lv_ladd X.1.1 X.1.2.1 zd_Mo_part_153 ?_
                    rw [lN_add]
                    refine lv_aload_n X.1.1 X.1.2.1 zd_Mo_part_154 rfl (lv_at hl 0 rfl) ?_
                    refine rG X h 0 rfl rfl zW_Mo 5 (by decide) zw_498 rfl zd_Mo_part_155 ?_
                    refine lv_i2l (v := lN nb) X.1.1 X.1.2.1 zd_Mo_part_158 (nI_l (by omega)) ?_
                    refine W.lcmp X.1.1 X.1.2.1 zd_Mo_part_159 ?_
                    refine lv_if_le (tgt := 168) X.1.1 X.1.2.1 zd_Mo_part_160 rfl (fun g3 => ?_) (fun g3 => ?_)
                    · rw [lc_le, pk_lLT (by omega) (by omega)] at g3
                      refine lv_iconst (v := nI 0) X.1.1 X.1.2.1 zd_Mo_part_168 (by decide) ?_
                      refine lv_istore X.1.1 X.1.2.1 zd_Mo_part_169 hl (by decide) rfl (fun ls hl => ?_)
                      have hl : lv_has ls 7 [(6, .int (nI 0)), (0, .ref m0), (1, .int (nI y)), (2, .int (nI op)), (3, .long (lN v)), (5, .int (nI v2))] := hl
                      have fill : ∀ (fu3 : Nat) (k : Nat) (g : Nat → Int32) (ls : Array Slot) (H : Heap) (locs : List Loc), v2 - k < fu3 → k ≤ v2 → fi + k ≤ y → tx g (fi + k) = tx fR fi ++ (((tx fB nb)).drop v).take k → sb_Fit g → lv_has ls 7 [(0, .ref m0), (1, .int (nI y)), (2, .int (nI op)), (3, .long (lN v)), (5, .int (nI v2)), (6, .int (nI k))] → zH D A s [(m0, .inr (4, [.ref aI, .ref aB, .ref aO, .ref aR, .int (nI n), .int (nI nb), .int (nI nm), .int (nI cp), .int (nI frs), .int (nI dm), .int (nI th), .int (nI be), .int wh, .int (nI a2), .int (nI 0), .int (nI (fi + k))])), (aI, .inl (cI, 65536, .inl (fI))), (aB, .inl (cB, 65536, .inl (fB))), (aO, .inl (cO, 67000, .inl (fO))), (aR, .inl (cR, 65536, .inl (g)))] H locs → W p l e ({ frames := 1, cells := 0, slots := 0, locals := 22 } : Room) s m args below meth c H locs 0 0 Q (F0 m 171 ls []) := by
                        intro fu3
                        induction fu3 with
                        | zero => intro k g ls H locs hfu3; exact absurd hfu3 (Nat.not_lt_zero _)
                        | succ fu3 ih3 =>
                          intro k g ls H locs hfu3 hk h2 he hg hl h
                          refine lv_iload X.1.1 X.1.2.1 zd_Mo_part_171 (lv_at hl 5 rfl) ?_
                          refine lv_iload X.1.1 X.1.2.1 zd_Mo_part_173 (lv_at hl 4 rfl) ?_
                          refine lv_icmp_ge (tgt := 206) X.1.1 X.1.2.1 zd_Mo_part_175 rfl (fun k1 => ?_) (fun k1 => ?_)
                          · have k1 : v2 ≤ k := zc_ge_t (by omega) (by omega) k1
                            have ek : k = v2 := by omega
                            rw [ek] at he h h2
                            exact ret (a2, 0, fi + v2, g) H locs ls _ (⟨Or.inl ⟨c2, Or.inl ⟨rfl, v, v2, by rw [hK, if_pos (by omega)], he⟩⟩, ha2, h2, hg⟩) h zd_Mo_part_206
                          · have k1 : k < v2 := zc_ge_f (by omega) (by omega) k1
                            refine lv_aload_n X.1.1 X.1.2.1 zd_Mo_part_178 rfl (lv_at hl 0 rfl) ?_
                            refine rG X h 0 rfl rfl zW_Mo 14 (by decide) zw_507 rfl zd_Mo_part_179 ?_
                            refine lv_if_ne (tgt := 206) X.1.1 X.1.2.1 zd_Mo_part_182 rfl (fun k2 => ?_) (fun k2 => ?_)
                            · have k2 : 0 ≠ 0 := zc_ne0_t (by omega) (by omega) k2
                              exact absurd rfl k2
                            · have k2 : 0 = 0 := zc_ne0_f (by omega) (by omega) k2
                              refine lv_aload_n X.1.1 X.1.2.1 zd_Mo_part_185 rfl (lv_at hl 0 rfl) ?_
                              refine lv_aload_n X.1.1 X.1.2.1 zd_Mo_part_186 rfl (lv_at hl 0 rfl) ?_
                              refine rG X h 0 rfl rfl zW_Mo 1 (by decide) zw_494 rfl zd_Mo_part_187 ?_
                              refine lv_lload_n X.1.1 X.1.2.1 zd_Mo_part_190 rfl (lv_at hl 3 rfl) ?_
                              refine lv_l2i (v := nI v) X.1.1 X.1.2.1 zd_Mo_part_191 (lN_i _) ?_
                              refine lv_iload X.1.1 X.1.2.1 zd_Mo_part_192 (lv_at hl 5 rfl) ?_
                              refine lv_iadd X.1.1 X.1.2.1 zd_Mo_part_194 ?_
                              refine zTop (y := nI (v + k)) (nI_add _ _) ?_
                              refine rLb X h 2 1 rfl rfl (by omega) (by omega) zd_Mo_part_195 ?_
                              refine lv_iload_n X.1.1 X.1.2.1 zd_Mo_part_196 rfl (lv_at hl 1 rfl) ?_
                              by_cases k3 : fi + k < y
                              · refine rCv (wr := []) (wf := fun _ => [(m0, .inr (4, [.ref aI, .ref aB, .ref aO, .ref aR, .int (nI n), .int (nI nb), .int (nI nm), .int (nI cp), .int (nI frs), .int (nI dm), .int (nI th), .int (nI be), .int wh, .int (nI a2), .int (nI 0), .int (nI (fi + k + 1))])), (aI, .inl (cI, 65536, .inl (fI))), (aB, .inl (cB, 65536, .inl (fB))), (aO, .inl (cO, 67000, .inl (fO))), (aR, .inl (cR, 65536, .inl (upd g (fi + k) (fB (v + k)))))]) (rest := []) X h hl.1 (zc_Mo_give l D (m0 := m0) (aI := aI) (aB := aB) (aO := aO) (aR := aR) (wh := wh) (n := n) (nb := nb) (nm := nm) (cp := cp) (frs := frs) (dm := dm) (th := th) (be := be) (at_ := a2) (wr := 0) (fi := fi + k) (fI := fI) (cI := cI) (fB := fB) (cB := cB) (fO := fO) (cO := cO) (fR := g) (cR := cR) (x := fB (v + k)) (y := y) (rfl) (k3) (hy) (hfB _) H.size) zw_607 zw_609 zs_26 zw_5 zm_Mo_give zq_Mo_give ⟨Nat.le_of_ble_eq_true rfl, Nat.le_of_ble_eq_true rfl⟩ ⟨Nat.le_of_ble_eq_true rfl, Nat.le_of_ble_eq_true rfl⟩ [0, 1, 2, 3] rfl [0, 1, 2, 3, 4] [] [0, 1, 2, 3, 4] rfl (by decide) rfl (by decide) (by decide) (fun _ => rfl) (by decide) 0 rfl rfl rfl (Nat.le_of_ble_eq_true rfl) zd_Mo_part_197 (fun _ H locs hp h => ?_)
                                have h : zH D A s [(m0, .inr (4, [.ref aI, .ref aB, .ref aO, .ref aR, .int (nI n), .int (nI nb), .int (nI nm), .int (nI cp), .int (nI frs), .int (nI dm), .int (nI th), .int (nI be), .int wh, .int (nI a2), .int (nI 0), .int (nI (fi + k + 1))])), (aI, .inl (cI, 65536, .inl (fI))), (aB, .inl (cB, 65536, .inl (fB))), (aO, .inl (cO, 67000, .inl (fO))), (aR, .inl (cR, 65536, .inl (upd g (fi + k) (fB (v + k)))))] H locs := h
                                refine lv_iinc X.1.1 X.1.2.1 zd_Mo_part_200 hl (k := 5) rfl (v := nI (k + 1)) (nI_add _ _) (by decide) rfl (fun ls hl => ?_)
                                have hl : lv_has ls 7 [(6, .int (nI (k + 1))), (0, .ref m0), (1, .int (nI y)), (2, .int (nI op)), (3, .long (lN v)), (5, .int (nI v2))] := hl
                                refine lv_goto (tgt := 171) X.1.1 X.1.2.1 zd_Mo_part_203 rfl ?_
                                exact ih3 (k + 1) (upd g (fi + k) (fB (v + k))) ls H locs (by omega) (by omega) (by omega) (by rw [← Nat.add_assoc, tx_push, he, tx_part1 fB (by omega), List.append_assoc]) (sb_fitU hg (hfB _)) (lv_sub hl [1, 2, 3, 4, 5, 0] rfl) h
                              · refine rCv (wr := []) (wf := fun _ => [(m0, .inr (4, [.ref aI, .ref aB, .ref aO, .ref aR, .int (nI n), .int (nI nb), .int (nI nm), .int (nI cp), .int (nI frs), .int (nI dm), .int (nI th), .int (nI be), .int wh, .int (nI a2), .int (nI 1), .int (nI (fi + k))])), (aI, .inl (cI, 65536, .inl (fI))), (aB, .inl (cB, 65536, .inl (fB))), (aO, .inl (cO, 67000, .inl (fO))), (aR, .inl (cR, 65536, .inl (g)))]) (rest := []) X h hl.1 (zc_Mo_giveN l D (m0 := m0) (aI := aI) (aB := aB) (aO := aO) (aR := aR) (wh := wh) (n := n) (nb := nb) (nm := nm) (cp := cp) (frs := frs) (dm := dm) (th := th) (be := be) (at_ := a2) (wr := 0) (fi := fi + k) (fI := fI) (cI := cI) (fB := fB) (cB := cB) (fO := fO) (cO := cO) (fR := g) (cR := cR) (x := fB (v + k)) (y := y) (Or.inr ⟨rfl, by omega⟩) (hy) (by omega) H.size) zw_607 zw_609 zs_26 zw_5 zm_Mo_give zq_Mo_give ⟨Nat.le_of_ble_eq_true rfl, Nat.le_of_ble_eq_true rfl⟩ ⟨Nat.le_of_ble_eq_true rfl, Nat.le_of_ble_eq_true rfl⟩ [0, 1, 2, 3] rfl [0, 1, 2, 3, 4] [] [0, 1, 2, 3, 4] rfl (by decide) rfl (by decide) (by decide) (fun _ => rfl) (by decide) 0 rfl rfl rfl (Nat.le_of_ble_eq_true rfl) zd_Mo_part_197 (fun _ H locs hp h => ?_)
                                have h : zH D A s [(m0, .inr (4, [.ref aI, .ref aB, .ref aO, .ref aR, .int (nI n), .int (nI nb), .int (nI nm), .int (nI cp), .int (nI frs), .int (nI dm), .int (nI th), .int (nI be), .int wh, .int (nI a2), .int (nI 1), .int (nI (fi + k))])), (aI, .inl (cI, 65536, .inl (fI))), (aB, .inl (cB, 65536, .inl (fB))), (aO, .inl (cO, 67000, .inl (fO))), (aR, .inl (cR, 65536, .inl (g)))] H locs := h
                                have hno : rdK (tx fI n) (tx fB nb) y op (at_ + 1) fi = none := by rw [hK, if_neg (by omega)]
                                refine lv_iinc X.1.1 X.1.2.1 zd_Mo_part_200 hl (k := 5) rfl (v := nI (k + 1)) (nI_add _ _) (by decide) rfl (fun ls hl => ?_)
                                have hl : lv_has ls 7 [(6, .int (nI (k + 1))), (0, .ref m0), (1, .int (nI y)), (2, .int (nI op)), (3, .long (lN v)), (5, .int (nI v2))] := hl
                                refine lv_goto (tgt := 171) X.1.1 X.1.2.1 zd_Mo_part_203 rfl ?_
                                refine lv_iload X.1.1 X.1.2.1 zd_Mo_part_171 (lv_at hl 0 rfl) ?_
                                refine lv_iload X.1.1 X.1.2.1 zd_Mo_part_173 (lv_at hl 5 rfl) ?_
                                refine lv_icmp_ge (tgt := 206) X.1.1 X.1.2.1 zd_Mo_part_175 rfl (fun k4 => ?_) (fun k4 => ?_)
                                · have k4 : v2 ≤ k + 1 := zc_ge_t (by omega) (by omega) k4
                                  exact ret (a2, 1, fi + k, g) H locs ls _ (⟨Or.inl ⟨c2, Or.inr ⟨rfl, hno⟩⟩, ha2, h2, hg⟩) h zd_Mo_part_206
                                · have k4 : k + 1 < v2 := zc_ge_f (by omega) (by omega) k4
                                  refine lv_aload_n X.1.1 X.1.2.1 zd_Mo_part_178 rfl (lv_at hl 1 rfl) ?_
                                  refine rG X h 0 rfl rfl zW_Mo 14 (by decide) zw_507 rfl zd_Mo_part_179 ?_
                                  refine lv_if_ne (tgt := 206) X.1.1 X.1.2.1 zd_Mo_part_182 rfl (fun k5 => ?_) (fun k5 => ?_)
                                  · have k5 : 1 ≠ 0 := zc_ne0_t (by omega) (by omega) k5
                                    exact ret (a2, 1, fi + k, g) H locs ls _ (⟨Or.inl ⟨c2, Or.inr ⟨rfl, hno⟩⟩, ha2, h2, hg⟩) h zd_Mo_part_206
                                  · have k5 : 1 = 0 := zc_ne0_f (by omega) (by omega) k5
                                    exact absurd k5 (by decide)
                      exact fill _ 0 fR ls H locs (Nat.lt_succ_self _) (by omega) (by omega) (by rw [List.take_zero, List.append_nil]; rfl) (hfR) (lv_sub hl [1, 2, 3, 4, 5, 0] rfl) h
                    · rw [lc_le, pk_lLT (by omega) (by omega)] at g3
                      have hno : rdK (tx fI n) (tx fB nb) y op (at_ + 1) fi = none := by rw [hK, if_neg (by omega)]
                      have ha1 := ha2
                      refine lv_aload_n X.1.1 X.1.2.1 zd_Mo_part_163 rfl (lv_at hl 0 rfl) ?_
                      refine lv_iconst (v := nI 1) X.1.1 X.1.2.1 zd_Mo_part_164 (by decide) ?_
                      refine rP X h 0 rfl rfl zW_Mo zO_Mo zN_Mo 14 (by decide) zw_507 rfl (rfl) (rfl) (Nat.le_of_ble_eq_true rfl) zd_Mo_part_165 (fun H locs h => ?_)
                      have h : zH D A s [(m0, .inr (4, [.ref aI, .ref aB, .ref aO, .ref aR, .int (nI n), .int (nI nb), .int (nI nm), .int (nI cp), .int (nI frs), .int (nI dm), .int (nI th), .int (nI be), .int wh, .int (nI a2), .int (nI 1), .int (nI fi)])), (aI, .inl (cI, 65536, .inl (fI))), (aB, .inl (cB, 65536, .inl (fB))), (aO, .inl (cO, 67000, .inl (fO))), (aR, .inl (cR, 65536, .inl (fR)))] H locs := h
                      refine lv_iconst (v := nI 0) X.1.1 X.1.2.1 zd_Mo_part_168 (by decide) ?_
                      refine lv_istore X.1.1 X.1.2.1 zd_Mo_part_169 hl (by decide) rfl (fun ls hl => ?_)
                      have hl : lv_has ls 7 [(6, .int (nI 0)), (0, .ref m0), (1, .int (nI y)), (2, .int (nI op)), (3, .long (lN v)), (5, .int (nI v2))] := hl
                      refine lv_iload X.1.1 X.1.2.1 zd_Mo_part_171 (lv_at hl 0 rfl) ?_
                      refine lv_iload X.1.1 X.1.2.1 zd_Mo_part_173 (lv_at hl 5 rfl) ?_
                      refine lv_icmp_ge (tgt := 206) X.1.1 X.1.2.1 zd_Mo_part_175 rfl (fun e1 => ?_) (fun e1 => ?_)
                      · have e1 : v2 ≤ 0 := zc_ge_t (by omega) (by omega) e1
                        exact ret (a2, 1, fi, fR) H locs ls _ (⟨Or.inl ⟨c2, Or.inr ⟨rfl, hno⟩⟩, ha1, hfi, hfR⟩) h zd_Mo_part_206
                      · have e1 : 0 < v2 := zc_ge_f (by omega) (by omega) e1
                        refine lv_aload_n X.1.1 X.1.2.1 zd_Mo_part_178 rfl (lv_at hl 1 rfl) ?_
                        refine rG X h 0 rfl rfl zW_Mo 14 (by decide) zw_507 rfl zd_Mo_part_179 ?_
                        refine lv_if_ne (tgt := 206) X.1.1 X.1.2.1 zd_Mo_part_182 rfl (fun e2 => ?_) (fun e2 => ?_)
                        · have e2 : 1 ≠ 0 := zc_ne0_t (by omega) (by omega) e2
                          exact ret (a2, 1, fi, fR) H locs ls _ (⟨Or.inl ⟨c2, Or.inr ⟨rfl, hno⟩⟩, ha1, hfi, hfR⟩) h zd_Mo_part_206
                        · have e2 : 1 = 0 := zc_ne0_f (by omega) (by omega) e2
                          exact absurd e2 (by decide)
                  · have g2 : v2 = 0 := zc_ne0_f (by omega) (by omega) g2
                    rw [if_pos g2] at hmy
                    rw [hmy] at hK
                    refine lv_ldc X.1.1 X.1.2.1 X.1.2.2.2.1 (X.1.2.2.2.2 _ zw_491) zd_Mo_part_145 ?_
                    refine zTop (y := nI 65536) (by decide) ?_
                    refine lv_istore X.1.1 X.1.2.1 zd_Mo_part_147 hl (by decide) rfl (fun ls hl => ?_)
                    have hl : lv_has ls 7 [(5, .int (nI 65536)), (0, .ref m0), (1, .int (nI y)), (2, .int (nI op)), (3, .long (lN v)), (6, .int (nI 3))] := hl
                    refine lv_lload_n X.1.1 X.1.2.1 zd_Mo_part_149 rfl (lv_at hl 4 rfl) ?_
                    refine lv_iload X.1.1 X.1.2.1 zd_Mo_part_150 (lv_at hl 0 rfl) ?_
                    refine lv_i2l (v := lN 65536) X.1.1 X.1.2.1 zd_Mo_part_152 (nI_l (by omega)) ?_
                    refine lv_ladd X.1.1 X.1.2.1 zd_Mo_part_153 ?_
                    rw [lN_add]
                    refine lv_aload_n X.1.1 X.1.2.1 zd_Mo_part_154 rfl (lv_at hl 1 rfl) ?_
                    refine rG X h 0 rfl rfl zW_Mo 5 (by decide) zw_498 rfl zd_Mo_part_155 ?_
                    refine lv_i2l (v := lN nb) X.1.1 X.1.2.1 zd_Mo_part_158 (nI_l (by omega)) ?_
                    refine W.lcmp X.1.1 X.1.2.1 zd_Mo_part_159 ?_
                    refine lv_if_le (tgt := 168) X.1.1 X.1.2.1 zd_Mo_part_160 rfl (fun g3 => ?_) (fun g3 => ?_)
                    · rw [lc_le, pk_lLT (by omega) (by omega)] at g3
                      refine lv_iconst (v := nI 0) X.1.1 X.1.2.1 zd_Mo_part_168 (by decide) ?_
                      refine lv_istore X.1.1 X.1.2.1 zd_Mo_part_169 hl (by decide) rfl (fun ls hl => ?_)
                      have hl : lv_has ls 7 [(6, .int (nI 0)), (5, .int (nI 65536)), (0, .ref m0), (1, .int (nI y)), (2, .int (nI op)), (3, .long (lN v))] := hl
                      have fill : ∀ (fu3 : Nat) (k : Nat) (g : Nat → Int32) (ls : Array Slot) (H : Heap) (locs : List Loc), 65536 - k < fu3 → k ≤ 65536 → fi + k ≤ y → tx g (fi + k) = tx fR fi ++ (((tx fB nb)).drop v).take k → sb_Fit g → lv_has ls 7 [(0, .ref m0), (1, .int (nI y)), (2, .int (nI op)), (3, .long (lN v)), (5, .int (nI 65536)), (6, .int (nI k))] → zH D A s [(m0, .inr (4, [.ref aI, .ref aB, .ref aO, .ref aR, .int (nI n), .int (nI nb), .int (nI nm), .int (nI cp), .int (nI frs), .int (nI dm), .int (nI th), .int (nI be), .int wh, .int (nI a2), .int (nI 0), .int (nI (fi + k))])), (aI, .inl (cI, 65536, .inl (fI))), (aB, .inl (cB, 65536, .inl (fB))), (aO, .inl (cO, 67000, .inl (fO))), (aR, .inl (cR, 65536, .inl (g)))] H locs → W p l e ({ frames := 1, cells := 0, slots := 0, locals := 22 } : Room) s m args below meth c H locs 0 0 Q (F0 m 171 ls []) := by
                        intro fu3
                        induction fu3 with
                        | zero => intro k g ls H locs hfu3; exact absurd hfu3 (Nat.not_lt_zero _)
                        | succ fu3 ih3 =>
                          intro k g ls H locs hfu3 hk h2 he hg hl h
                          refine lv_iload X.1.1 X.1.2.1 zd_Mo_part_171 (lv_at hl 5 rfl) ?_
                          refine lv_iload X.1.1 X.1.2.1 zd_Mo_part_173 (lv_at hl 4 rfl) ?_
                          refine lv_icmp_ge (tgt := 206) X.1.1 X.1.2.1 zd_Mo_part_175 rfl (fun k1 => ?_) (fun k1 => ?_)
                          · have k1 : 65536 ≤ k := zc_ge_t (by omega) (by omega) k1
                            have ek : k = 65536 := by omega
                            rw [ek] at he h h2
                            exact ret (a2, 0, fi + 65536, g) H locs ls _ (⟨Or.inl ⟨c2, Or.inl ⟨rfl, v, 65536, by rw [hK, if_pos (by omega)], he⟩⟩, ha2, h2, hg⟩) h zd_Mo_part_206
                          · have k1 : k < 65536 := zc_ge_f (by omega) (by omega) k1
                            refine lv_aload_n X.1.1 X.1.2.1 zd_Mo_part_178 rfl (lv_at hl 0 rfl) ?_
                            refine rG X h 0 rfl rfl zW_Mo 14 (by decide) zw_507 rfl zd_Mo_part_179 ?_
                            refine lv_if_ne (tgt := 206) X.1.1 X.1.2.1 zd_Mo_part_182 rfl (fun k2 => ?_) (fun k2 => ?_)
                            · have k2 : 0 ≠ 0 := zc_ne0_t (by omega) (by omega) k2
                              exact absurd rfl k2
                            · have k2 : 0 = 0 := zc_ne0_f (by omega) (by omega) k2
                              refine lv_aload_n X.1.1 X.1.2.1 zd_Mo_part_185 rfl (lv_at hl 0 rfl) ?_
                              refine lv_aload_n X.1.1 X.1.2.1 zd_Mo_part_186 rfl (lv_at hl 0 rfl) ?_
                              refine rG X h 0 rfl rfl zW_Mo 1 (by decide) zw_494 rfl zd_Mo_part_187 ?_
                              refine lv_lload_n X.1.1 X.1.2.1 zd_Mo_part_190 rfl (lv_at hl 3 rfl) ?_
                              refine lv_l2i (v := nI v) X.1.1 X.1.2.1 zd_Mo_part_191 (lN_i _) ?_
                              refine lv_iload X.1.1 X.1.2.1 zd_Mo_part_192 (lv_at hl 5 rfl) ?_
                              refine lv_iadd X.1.1 X.1.2.1 zd_Mo_part_194 ?_
                              refine zTop (y := nI (v + k)) (nI_add _ _) ?_
                              refine rLb X h 2 1 rfl rfl (by omega) (by omega) zd_Mo_part_195 ?_
                              refine lv_iload_n X.1.1 X.1.2.1 zd_Mo_part_196 rfl (lv_at hl 1 rfl) ?_
                              by_cases k3 : fi + k < y
                              · refine rCv (wr := []) (wf := fun _ => [(m0, .inr (4, [.ref aI, .ref aB, .ref aO, .ref aR, .int (nI n), .int (nI nb), .int (nI nm), .int (nI cp), .int (nI frs), .int (nI dm), .int (nI th), .int (nI be), .int wh, .int (nI a2), .int (nI 0), .int (nI (fi + k + 1))])), (aI, .inl (cI, 65536, .inl (fI))), (aB, .inl (cB, 65536, .inl (fB))), (aO, .inl (cO, 67000, .inl (fO))), (aR, .inl (cR, 65536, .inl (upd g (fi + k) (fB (v + k)))))]) (rest := []) X h hl.1 (zc_Mo_give l D (m0 := m0) (aI := aI) (aB := aB) (aO := aO) (aR := aR) (wh := wh) (n := n) (nb := nb) (nm := nm) (cp := cp) (frs := frs) (dm := dm) (th := th) (be := be) (at_ := a2) (wr := 0) (fi := fi + k) (fI := fI) (cI := cI) (fB := fB) (cB := cB) (fO := fO) (cO := cO) (fR := g) (cR := cR) (x := fB (v + k)) (y := y) (rfl) (k3) (hy) (hfB _) H.size) zw_607 zw_609 zs_26 zw_5 zm_Mo_give zq_Mo_give ⟨Nat.le_of_ble_eq_true rfl, Nat.le_of_ble_eq_true rfl⟩ ⟨Nat.le_of_ble_eq_true rfl, Nat.le_of_ble_eq_true rfl⟩ [0, 1, 2, 3] rfl [0, 1, 2, 3, 4] [] [0, 1, 2, 3, 4] rfl (by decide) rfl (by decide) (by decide) (fun _ => rfl) (by decide) 0 rfl rfl rfl (Nat.le_of_ble_eq_true rfl) zd_Mo_part_197 (fun _ H locs hp h => ?_)
                                have h : zH D A s [(m0, .inr (4, [.ref aI, .ref aB, .ref aO, .ref aR, .int (nI n), .int (nI nb), .int (nI nm), .int (nI cp), .int (nI frs), .int (nI dm), .int (nI th), .int (nI be), .int wh, .int (nI a2), .int (nI 0), .int (nI (fi + k + 1))])), (aI, .inl (cI, 65536, .inl (fI))), (aB, .inl (cB, 65536, .inl (fB))), (aO, .inl (cO, 67000, .inl (fO))), (aR, .inl (cR, 65536, .inl (upd g (fi + k) (fB (v + k)))))] H locs := h
                                refine lv_iinc X.1.1 X.1.2.1 zd_Mo_part_200 hl (k := 5) rfl (v := nI (k + 1)) (nI_add _ _) (by decide) rfl (fun ls hl => ?_)
                                have hl : lv_has ls 7 [(6, .int (nI (k + 1))), (0, .ref m0), (1, .int (nI y)), (2, .int (nI op)), (3, .long (lN v)), (5, .int (nI 65536))] := hl
                                refine lv_goto (tgt := 171) X.1.1 X.1.2.1 zd_Mo_part_203 rfl ?_
                                exact ih3 (k + 1) (upd g (fi + k) (fB (v + k))) ls H locs (by omega) (by omega) (by omega) (by rw [← Nat.add_assoc, tx_push, he, tx_part1 fB (by omega), List.append_assoc]) (sb_fitU hg (hfB _)) (lv_sub hl [1, 2, 3, 4, 5, 0] rfl) h
                              · refine rCv (wr := []) (wf := fun _ => [(m0, .inr (4, [.ref aI, .ref aB, .ref aO, .ref aR, .int (nI n), .int (nI nb), .int (nI nm), .int (nI cp), .int (nI frs), .int (nI dm), .int (nI th), .int (nI be), .int wh, .int (nI a2), .int (nI 1), .int (nI (fi + k))])), (aI, .inl (cI, 65536, .inl (fI))), (aB, .inl (cB, 65536, .inl (fB))), (aO, .inl (cO, 67000, .inl (fO))), (aR, .inl (cR, 65536, .inl (g)))]) (rest := []) X h hl.1 (zc_Mo_giveN l D (m0 := m0) (aI := aI) (aB := aB) (aO := aO) (aR := aR) (wh := wh) (n := n) (nb := nb) (nm := nm) (cp := cp) (frs := frs) (dm := dm) (th := th) (be := be) (at_ := a2) (wr := 0) (fi := fi + k) (fI := fI) (cI := cI) (fB := fB) (cB := cB) (fO := fO) (cO := cO) (fR := g) (cR := cR) (x := fB (v + k)) (y := y) (Or.inr ⟨rfl, by omega⟩) (hy) (by omega) H.size) zw_607 zw_609 zs_26 zw_5 zm_Mo_give zq_Mo_give ⟨Nat.le_of_ble_eq_true rfl, Nat.le_of_ble_eq_true rfl⟩ ⟨Nat.le_of_ble_eq_true rfl, Nat.le_of_ble_eq_true rfl⟩ [0, 1, 2, 3] rfl [0, 1, 2, 3, 4] [] [0, 1, 2, 3, 4] rfl (by decide) rfl (by decide) (by decide) (fun _ => rfl) (by decide) 0 rfl rfl rfl (Nat.le_of_ble_eq_true rfl) zd_Mo_part_197 (fun _ H locs hp h => ?_)
                                have h : zH D A s [(m0, .inr (4, [.ref aI, .ref aB, .ref aO, .ref aR, .int (nI n), .int (nI nb), .int (nI nm), .int (nI cp), .int (nI frs), .int (nI dm), .int (nI th), .int (nI be), .int wh, .int (nI a2), .int (nI 1), .int (nI (fi + k))])), (aI, .inl (cI, 65536, .inl (fI))), (aB, .inl (cB, 65536, .inl (fB))), (aO, .inl (cO, 67000, .inl (fO))), (aR, .inl (cR, 65536, .inl (g)))] H locs := h
                                have hno : rdK (tx fI n) (tx fB nb) y op (at_ + 1) fi = none := by rw [hK, if_neg (by omega)]
                                refine lv_iinc X.1.1 X.1.2.1 zd_Mo_part_200 hl (k := 5) rfl (v := nI (k + 1)) (nI_add _ _) (by decide) rfl (fun ls hl => ?_)
                                have hl : lv_has ls 7 [(6, .int (nI (k + 1))), (0, .ref m0), (1, .int (nI y)), (2, .int (nI op)), (3, .long (lN v)), (5, .int (nI 65536))] := hl
                                refine lv_goto (tgt := 171) X.1.1 X.1.2.1 zd_Mo_part_203 rfl ?_
                                refine lv_iload X.1.1 X.1.2.1 zd_Mo_part_171 (lv_at hl 0 rfl) ?_
                                refine lv_iload X.1.1 X.1.2.1 zd_Mo_part_173 (lv_at hl 5 rfl) ?_
                                refine lv_icmp_ge (tgt := 206) X.1.1 X.1.2.1 zd_Mo_part_175 rfl (fun k4 => ?_) (fun k4 => ?_)
                                · have k4 : 65536 ≤ k + 1 := zc_ge_t (by omega) (by omega) k4
                                  exact ret (a2, 1, fi + k, g) H locs ls _ (⟨Or.inl ⟨c2, Or.inr ⟨rfl, hno⟩⟩, ha2, h2, hg⟩) h zd_Mo_part_206
                                · have k4 : k + 1 < 65536 := zc_ge_f (by omega) (by omega) k4
                                  refine lv_aload_n X.1.1 X.1.2.1 zd_Mo_part_178 rfl (lv_at hl 1 rfl) ?_
                                  refine rG X h 0 rfl rfl zW_Mo 14 (by decide) zw_507 rfl zd_Mo_part_179 ?_
                                  refine lv_if_ne (tgt := 206) X.1.1 X.1.2.1 zd_Mo_part_182 rfl (fun k5 => ?_) (fun k5 => ?_)
                                  · have k5 : 1 ≠ 0 := zc_ne0_t (by omega) (by omega) k5
                                    exact ret (a2, 1, fi + k, g) H locs ls _ (⟨Or.inl ⟨c2, Or.inr ⟨rfl, hno⟩⟩, ha2, h2, hg⟩) h zd_Mo_part_206
                                  · have k5 : 1 = 0 := zc_ne0_f (by omega) (by omega) k5
                                    exact absurd k5 (by decide)
                      exact fill _ 0 fR ls H locs (Nat.lt_succ_self _) (by omega) (by omega) (by rw [List.take_zero, List.append_nil]; rfl) (hfR) (lv_sub hl [2, 3, 4, 5, 1, 0] rfl) h
                    · rw [lc_le, pk_lLT (by omega) (by omega)] at g3
                      have hno : rdK (tx fI n) (tx fB nb) y op (at_ + 1) fi = none := by rw [hK, if_neg (by omega)]
                      have ha1 := ha2
                      refine lv_aload_n X.1.1 X.1.2.1 zd_Mo_part_163 rfl (lv_at hl 1 rfl) ?_
                      refine lv_iconst (v := nI 1) X.1.1 X.1.2.1 zd_Mo_part_164 (by decide) ?_
                      refine rP X h 0 rfl rfl zW_Mo zO_Mo zN_Mo 14 (by decide) zw_507 rfl (rfl) (rfl) (Nat.le_of_ble_eq_true rfl) zd_Mo_part_165 (fun H locs h => ?_)
                      have h : zH D A s [(m0, .inr (4, [.ref aI, .ref aB, .ref aO, .ref aR, .int (nI n), .int (nI nb), .int (nI nm), .int (nI cp), .int (nI frs), .int (nI dm), .int (nI th), .int (nI be), .int wh, .int (nI a2), .int (nI 1), .int (nI fi)])), (aI, .inl (cI, 65536, .inl (fI))), (aB, .inl (cB, 65536, .inl (fB))), (aO, .inl (cO, 67000, .inl (fO))), (aR, .inl (cR, 65536, .inl (fR)))] H locs := h
                      refine lv_iconst (v := nI 0) X.1.1 X.1.2.1 zd_Mo_part_168 (by decide) ?_
                      refine lv_istore X.1.1 X.1.2.1 zd_Mo_part_169 hl (by decide) rfl (fun ls hl => ?_)
                      have hl : lv_has ls 7 [(6, .int (nI 0)), (5, .int (nI 65536)), (0, .ref m0), (1, .int (nI y)), (2, .int (nI op)), (3, .long (lN v))] := hl
                      refine lv_iload X.1.1 X.1.2.1 zd_Mo_part_171 (lv_at hl 0 rfl) ?_
                      refine lv_iload X.1.1 X.1.2.1 zd_Mo_part_173 (lv_at hl 1 rfl) ?_
                      refine lv_icmp_ge (tgt := 206) X.1.1 X.1.2.1 zd_Mo_part_175 rfl (fun e1 => ?_) (fun e1 => ?_)
                      · have e1 : 65536 ≤ 0 := zc_ge_t (by omega) (by omega) e1
                        exact ret (a2, 1, fi, fR) H locs ls _ (⟨Or.inl ⟨c2, Or.inr ⟨rfl, hno⟩⟩, ha1, hfi, hfR⟩) h zd_Mo_part_206
                      · have e1 : 0 < 65536 := zc_ge_f (by omega) (by omega) e1
                        refine lv_aload_n X.1.1 X.1.2.1 zd_Mo_part_178 rfl (lv_at hl 2 rfl) ?_
                        refine rG X h 0 rfl rfl zW_Mo 14 (by decide) zw_507 rfl zd_Mo_part_179 ?_
                        refine lv_if_ne (tgt := 206) X.1.1 X.1.2.1 zd_Mo_part_182 rfl (fun e2 => ?_) (fun e2 => ?_)
                        · have e2 : 1 ≠ 0 := zc_ne0_t (by omega) (by omega) e2
                          exact ret (a2, 1, fi, fR) H locs ls _ (⟨Or.inl ⟨c2, Or.inr ⟨rfl, hno⟩⟩, ha1, hfi, hfR⟩) h zd_Mo_part_206
                        · have e2 : 1 = 0 := zc_ne0_f (by omega) (by omega) e2
                          exact absurd e2 (by decide)
                · have g1 : k < 3 := zc_ge_f (by omega) (by omega) g1
                  rw [show 3 - k = (3 - (k + 1)) + 1 by omega] at he
                  refine lv_iload_n X.1.1 X.1.2.1 zd_Mo_part_108 rfl (lv_at hl 2 rfl) ?_
                  refine lv_iconst (v := nI 4) X.1.1 X.1.2.1 zd_Mo_part_109 (by decide) ?_
                  refine lv_iload X.1.1 X.1.2.1 zd_Mo_part_110 (lv_at hl 5 rfl) ?_
                  refine lv_iadd X.1.1 X.1.2.1 zd_Mo_part_112 ?_
                  refine zTop (y := nI (4 + k)) (nI_add _ _) ?_
                  refine lv_iushr (v := nI (op / 2 ^ (4 + k))) X.1.1 X.1.2.1 zd_Mo_part_113 ((ush_eq _ (by omega)).trans (ush_nI (by omega))) ?_
                  refine lv_iconst (v := nI 1) X.1.1 X.1.2.1 zd_Mo_part_114 (by decide) ?_
                  refine lv_iand X.1.1 X.1.2.1 zd_Mo_part_115 ?_
                  refine zTop (y := nI (op / 2 ^ (4 + k) % 2)) (and1 (Nat.lt_of_le_of_lt (Nat.div_le_self _ _) (by omega))) ?_
                  refine lv_if_eq (tgt := 134) X.1.1 X.1.2.1 zd_Mo_part_116 rfl (fun g4 => ?_) (fun g4 => ?_)
                  · have g4 : op / 2 ^ (4 + k) % 2 = 0 := zc_eq0_t (by omega) (by omega) g4
                    rw [rdC_0 (k := k) (pl := a2) (v := v2) (by rw [bit_sh]; omega)] at he
                    have hv2 : v2 < 256 ^ (k + 1) := Nat.lt_of_lt_of_le hv2 (Nat.pow_le_pow_right (by decide) (Nat.le_succ k))
                    refine lv_iinc X.1.1 X.1.2.1 zd_Mo_part_134 hl (k := 5) rfl (v := nI (k + 1)) (nI_add _ _) (by decide) rfl (fun ls hl => ?_)
                    have hl : lv_has ls 7 [(6, .int (nI (k + 1))), (0, .ref m0), (1, .int (nI y)), (2, .int (nI op)), (3, .long (lN v)), (5, .int (nI v2))] := hl
                    refine lv_goto (tgt := 102) X.1.1 X.1.2.1 zd_Mo_part_137 rfl ?_
                    exact ih2 (k + 1) v2 a2 ls H locs (by omega) (by omega) (hv2) (ha2) (he) (lv_sub hl [1, 2, 3, 4, 5, 0] rfl) h
                  · have g4 : op / 2 ^ (4 + k) % 2 ≠ 0 := zc_eq0_f (by omega) (by omega) g4
                    rw [rdC_1 (k := k) (pl := a2) (v := v2) (by rw [bit_sh]; omega)] at he
                    refine lv_iload X.1.1 X.1.2.1 zd_Mo_part_119 (lv_at hl 4 rfl) ?_
                    refine lv_aload_n X.1.1 X.1.2.1 zd_Mo_part_121 rfl (lv_at hl 0 rfl) ?_
                    by_cases g5 : a2 < n
                    · rw [if_pos g5] at he
                      have hub2 := ub_lt (fI a2)
                      have hor := cv_step (k := k) (x := ub (fI a2)) (by omega) hv2 hub2
                      refine rCi (wr := []) (wf := fun _ => [(m0, .inr (4, [.ref aI, .ref aB, .ref aO, .ref aR, .int (nI n), .int (nI nb), .int (nI nm), .int (nI cp), .int (nI frs), .int (nI dm), .int (nI th), .int (nI be), .int wh, .int (nI (a2 + 1)), .int (nI 0), .int (nI fi)])), (aI, .inl (cI, 65536, .inl (fI))), (aB, .inl (cB, 65536, .inl (fB))), (aO, .inl (cO, 67000, .inl (fO))), (aR, .inl (cR, 65536, .inl (fR)))]) (rest := [.int (nI v2)]) X h hl.1 (zc_Mo_next l D (m0 := m0) (aI := aI) (aB := aB) (aO := aO) (aR := aR) (wh := wh) (n := n) (nb := nb) (nm := nm) (cp := cp) (frs := frs) (dm := dm) (th := th) (be := be) (at_ := a2) (wr := 0) (fi := fi) (fI := fI) (cI := cI) (fB := fB) (cB := cB) (fO := fO) (cO := cO) (fR := fR) (cR := cR) (rfl) (g5) (hn) H.size) zw_599 zw_601 zs_24 zw_5 zm_Mo_next zq_Mo_next ⟨Nat.le_of_ble_eq_true rfl, Nat.le_of_ble_eq_true rfl⟩ ⟨Nat.le_of_ble_eq_true rfl, Nat.le_of_ble_eq_true rfl⟩ [0, 1, 2, 3] rfl [0, 1, 2, 3, 4] [] [0, 1, 2, 3, 4] rfl (by decide) rfl (by decide) (by decide) (fun _ => rfl) (by decide) 0 rfl rfl rfl (Nat.le_of_ble_eq_true rfl) zd_Mo_part_122 (fun r _ H locs hp h => ?_)
                      obtain ⟨rfl, -⟩ := hp
                      have h : zH D A s [(m0, .inr (4, [.ref aI, .ref aB, .ref aO, .ref aR, .int (nI n), .int (nI nb), .int (nI nm), .int (nI cp), .int (nI frs), .int (nI dm), .int (nI th), .int (nI be), .int wh, .int (nI (a2 + 1)), .int (nI 0), .int (nI fi)])), (aI, .inl (cI, 65536, .inl (fI))), (aB, .inl (cB, 65536, .inl (fB))), (aO, .inl (cO, 67000, .inl (fO))), (aR, .inl (cR, 65536, .inl (fR)))] H locs := h
                      refine lv_bipush (v := nI 8) X.1.1 X.1.2.1 zd_Mo_part_125 (by decide) ?_
                      refine lv_iload X.1.1 X.1.2.1 zd_Mo_part_127 (lv_at hl 5 rfl) ?_
                      refine lv_imul X.1.1 X.1.2.1 zd_Mo_part_129 ?_
                      refine zTop (y := nI (8 * k)) (pk_mul _ _) ?_
                      refine lv_ishl X.1.1 X.1.2.1 zd_Mo_part_130 ?_
                      refine lv_iadd X.1.1 X.1.2.1 zd_Mo_part_131 ?_
                      refine zTop (y := nI (v2 + ub (fI a2) * 256 ^ k)) (hor.1) ?_
                      refine lv_istore X.1.1 X.1.2.1 zd_Mo_part_132 hl (by decide) rfl (fun ls hl => ?_)
                      have hl : lv_has ls 7 [(5, .int (nI (v2 + ub (fI a2) * 256 ^ k))), (0, .ref m0), (1, .int (nI y)), (2, .int (nI op)), (3, .long (lN v)), (6, .int (nI k))] := hl
                      refine lv_iinc X.1.1 X.1.2.1 zd_Mo_part_134 hl (k := 5) rfl (v := nI (k + 1)) (nI_add _ _) (by decide) rfl (fun ls hl => ?_)
                      have hl : lv_has ls 7 [(6, .int (nI (k + 1))), (5, .int (nI (v2 + ub (fI a2) * 256 ^ k))), (0, .ref m0), (1, .int (nI y)), (2, .int (nI op)), (3, .long (lN v))] := hl
                      refine lv_goto (tgt := 102) X.1.1 X.1.2.1 zd_Mo_part_137 rfl ?_
                      exact ih2 (k + 1) (v2 + ub (fI a2) * 256 ^ k) (a2 + 1) ls H locs (by omega) (by omega) (hor.2) (by omega) (he) (lv_sub hl [2, 3, 4, 5, 1, 0] rfl) h
                    · rw [if_neg g5] at he
                      have hno : rdK (tx fI n) (tx fB nb) y op (at_ + 1) fi = none := by
                        unfold rdK; rw [he1]; dsimp only; rw [he]
                      refine rCi (wr := []) (wf := fun _ => [(m0, .inr (4, [.ref aI, .ref aB, .ref aO, .ref aR, .int (nI n), .int (nI nb), .int (nI nm), .int (nI cp), .int (nI frs), .int (nI dm), .int (nI th), .int (nI be), .int wh, .int (nI a2), .int (nI 1), .int (nI fi)])), (aI, .inl (cI, 65536, .inl (fI))), (aB, .inl (cB, 65536, .inl (fB))), (aO, .inl (cO, 67000, .inl (fO))), (aR, .inl (cR, 65536, .inl (fR)))]) (rest := [.int (nI v2)]) X h hl.1 (zc_Mo_nextN l D (m0 := m0) (aI := aI) (aB := aB) (aO := aO) (aR := aR) (wh := wh) (n := n) (nb := nb) (nm := nm) (cp := cp) (frs := frs) (dm := dm) (th := th) (be := be) (at_ := a2) (wr := 0) (fi := fi) (fI := fI) (cI := cI) (fB := fB) (cB := cB) (fO := fO) (cO := cO) (fR := fR) (cR := cR) (Or.inr ⟨rfl, by omega⟩) (by omega) (hn) H.size) zw_599 zw_601 zs_24 zw_5 zm_Mo_next zq_Mo_next ⟨Nat.le_of_ble_eq_true rfl, Nat.le_of_ble_eq_true rfl⟩ ⟨Nat.le_of_ble_eq_true rfl, Nat.le_of_ble_eq_true rfl⟩ [0, 1, 2, 3] rfl [0, 1, 2, 3, 4] [] [0, 1, 2, 3, 4] rfl (by decide) rfl (by decide) (by decide) (fun _ => rfl) (by decide) 0 rfl rfl rfl (Nat.le_of_ble_eq_true rfl) zd_Mo_part_122 (fun r _ H locs hp h => ?_)
                      obtain ⟨rfl, -⟩ := hp
                      have h : zH D A s [(m0, .inr (4, [.ref aI, .ref aB, .ref aO, .ref aR, .int (nI n), .int (nI nb), .int (nI nm), .int (nI cp), .int (nI frs), .int (nI dm), .int (nI th), .int (nI be), .int wh, .int (nI a2), .int (nI 1), .int (nI fi)])), (aI, .inl (cI, 65536, .inl (fI))), (aB, .inl (cB, 65536, .inl (fB))), (aO, .inl (cO, 67000, .inl (fO))), (aR, .inl (cR, 65536, .inl (fR)))] H locs := h
                      refine lv_bipush (v := nI 8) X.1.1 X.1.2.1 zd_Mo_part_125 (by decide) ?_
                      refine lv_iload X.1.1 X.1.2.1 zd_Mo_part_127 (lv_at hl 5 rfl) ?_
                      refine lv_imul X.1.1 X.1.2.1 zd_Mo_part_129 ?_
                      refine zTop (y := nI (8 * k)) (pk_mul _ _) ?_
                      refine lv_ishl X.1.1 X.1.2.1 zd_Mo_part_130 ?_
                      refine lv_iadd X.1.1 X.1.2.1 zd_Mo_part_131 ?_
                      refine lv_istore X.1.1 X.1.2.1 zd_Mo_part_132 hl (by decide) rfl (fun ls hl => ?_)
                      have hl : lv_has ls 7 [(5, .int ((nI v2) + ((nI 0) <<< ((nI (8 * k)) &&& 31)))), (0, .ref m0), (1, .int (nI y)), (2, .int (nI op)), (3, .long (lN v)), (6, .int (nI k))] := hl
                      refine lv_iinc X.1.1 X.1.2.1 zd_Mo_part_134 hl (k := 5) rfl (v := nI (k + 1)) (nI_add _ _) (by decide) rfl (fun ls hl => ?_)
                      have hl : lv_has ls 7 [(6, .int (nI (k + 1))), (5, .int ((nI v2) + ((nI 0) <<< ((nI (8 * k)) &&& 31)))), (0, .ref m0), (1, .int (nI y)), (2, .int (nI op)), (3, .long (lN v))] := hl
                      refine lv_goto (tgt := 102) X.1.1 X.1.2.1 zd_Mo_part_137 rfl ?_
                      exact bad2 _ (k + 1) (lN v) ((nI v2) + ((nI 0) <<< ((nI (8 * k)) &&& 31))) a2 ls H locs (Nat.lt_succ_self _) (hno) (by omega) (ha2) (lv_sub hl [2, 3, 4, 5, 1, 0] rfl) h
            exact good2 _ 0 0 a1 ls H locs (Nat.lt_succ_self _) (by omega) (by decide) (ha1) (rfl) (lv_sub hl [1, 2, 3, 4, 5, 0] rfl) h
          · have f1 : k < 4 := zc_ge_f (by omega) (by omega) f1
            rw [show 4 - k = (4 - (k + 1)) + 1 by omega] at he
            refine lv_iload_n X.1.1 X.1.2.1 zd_Mo_part_70 rfl (lv_at hl 2 rfl) ?_
            refine lv_iload X.1.1 X.1.2.1 zd_Mo_part_71 (lv_at hl 5 rfl) ?_
            refine lv_iushr (v := nI (op / 2 ^ k)) X.1.1 X.1.2.1 zd_Mo_part_73 ((ush_eq _ (by omega)).trans (ush_nI (by omega))) ?_
            refine lv_iconst (v := nI 1) X.1.1 X.1.2.1 zd_Mo_part_74 (by decide) ?_
            refine lv_iand X.1.1 X.1.2.1 zd_Mo_part_75 ?_
            refine zTop (y := nI (op / 2 ^ k % 2)) (and1 (Nat.lt_of_le_of_lt (Nat.div_le_self _ _) (by omega))) ?_
            refine lv_if_eq (tgt := 93) X.1.1 X.1.2.1 zd_Mo_part_76 rfl (fun f4 => ?_) (fun f4 => ?_)
            · have f4 : op / 2 ^ k % 2 = 0 := zc_eq0_t (by omega) (by omega) f4
              rw [rdC_0 (k := k) (pl := a1) (v := v) (by omega)] at he
              have hv : v < 256 ^ (k + 1) := Nat.lt_of_lt_of_le hv (Nat.pow_le_pow_right (by decide) (Nat.le_succ k))
              refine lv_iinc X.1.1 X.1.2.1 zd_Mo_part_93 hl (k := 5) rfl (v := nI (k + 1)) (nI_add _ _) (by decide) rfl (fun ls hl => ?_)
              have hl : lv_has ls 7 [(6, .int (nI (k + 1))), (0, .ref m0), (1, .int (nI y)), (2, .int (nI op)), (3, .long (lN v)), (5, .int (nI 0))] := hl
              refine lv_goto (tgt := 64) X.1.1 X.1.2.1 zd_Mo_part_96 rfl ?_
              exact ih (k + 1) v a1 ls H locs (by omega) (by omega) (hv) (ha1) (he) (lv_sub hl [1, 2, 3, 4, 5, 0] rfl) h
            · have f4 : op / 2 ^ k % 2 ≠ 0 := zc_eq0_f (by omega) (by omega) f4
              rw [rdC_1 (k := k) (pl := a1) (v := v) (by omega)] at he
              refine lv_lload_n X.1.1 X.1.2.1 zd_Mo_part_79 rfl (lv_at hl 3 rfl) ?_
              refine lv_aload_n X.1.1 X.1.2.1 zd_Mo_part_80 rfl (lv_at hl 0 rfl) ?_
              by_cases f5 : a1 < n
              · rw [if_pos f5] at he
                have hub2 := ub_lt (fI a1)
                have hor := rc_or (k := k) (x := ub (fI a1)) (by omega) hv hub2
                refine rCi (wr := []) (wf := fun _ => [(m0, .inr (4, [.ref aI, .ref aB, .ref aO, .ref aR, .int (nI n), .int (nI nb), .int (nI nm), .int (nI cp), .int (nI frs), .int (nI dm), .int (nI th), .int (nI be), .int wh, .int (nI (a1 + 1)), .int (nI 0), .int (nI fi)])), (aI, .inl (cI, 65536, .inl (fI))), (aB, .inl (cB, 65536, .inl (fB))), (aO, .inl (cO, 67000, .inl (fO))), (aR, .inl (cR, 65536, .inl (fR)))]) (rest := [.long (lN v)]) X h hl.1 (zc_Mo_next l D (m0 := m0) (aI := aI) (aB := aB) (aO := aO) (aR := aR) (wh := wh) (n := n) (nb := nb) (nm := nm) (cp := cp) (frs := frs) (dm := dm) (th := th) (be := be) (at_ := a1) (wr := 0) (fi := fi) (fI := fI) (cI := cI) (fB := fB) (cB := cB) (fO := fO) (cO := cO) (fR := fR) (cR := cR) (rfl) (f5) (hn) H.size) zw_599 zw_601 zs_24 zw_5 zm_Mo_next zq_Mo_next ⟨Nat.le_of_ble_eq_true rfl, Nat.le_of_ble_eq_true rfl⟩ ⟨Nat.le_of_ble_eq_true rfl, Nat.le_of_ble_eq_true rfl⟩ [0, 1, 2, 3] rfl [0, 1, 2, 3, 4] [] [0, 1, 2, 3, 4] rfl (by decide) rfl (by decide) (by decide) (fun _ => rfl) (by decide) 0 rfl rfl rfl (Nat.le_of_ble_eq_true rfl) zd_Mo_part_81 (fun r _ H locs hp h => ?_)
                obtain ⟨rfl, -⟩ := hp
                have h : zH D A s [(m0, .inr (4, [.ref aI, .ref aB, .ref aO, .ref aR, .int (nI n), .int (nI nb), .int (nI nm), .int (nI cp), .int (nI frs), .int (nI dm), .int (nI th), .int (nI be), .int wh, .int (nI (a1 + 1)), .int (nI 0), .int (nI fi)])), (aI, .inl (cI, 65536, .inl (fI))), (aB, .inl (cB, 65536, .inl (fB))), (aO, .inl (cO, 67000, .inl (fO))), (aR, .inl (cR, 65536, .inl (fR)))] H locs := h
                refine lv_i2l (v := (nI (ub (fI a1))).toInt64) X.1.1 X.1.2.1 zd_Mo_part_84 (rfl) ?_
                refine lv_bipush (v := nI 8) X.1.1 X.1.2.1 zd_Mo_part_85 (by decide) ?_
                refine lv_iload X.1.1 X.1.2.1 zd_Mo_part_87 (lv_at hl 5 rfl) ?_
                refine lv_imul X.1.1 X.1.2.1 zd_Mo_part_89 ?_
                refine zTop (y := nI (8 * k)) (pk_mul _ _) ?_
                refine lv_lshl (v := ((nI (ub (fI a1))).toInt64) <<< ((nI (8 * k)).toInt64 &&& 63)) X.1.1 X.1.2.1 zd_Mo_part_90 (rfl) ?_
                refine lv_ladd X.1.1 X.1.2.1 zd_Mo_part_91 ?_
                rw [pl_step (by omega) hub2]
                refine lv_lstore_n X.1.1 X.1.2.1 zd_Mo_part_92 rfl hl (by decide) rfl (fun ls hl => ?_)
                have hl : lv_has ls 7 [(3, .long (lN (v + ub (fI a1) * 256 ^ k))), (0, .ref m0), (1, .int (nI y)), (2, .int (nI op)), (5, .int (nI 0)), (6, .int (nI k))] := hl
                refine lv_iinc X.1.1 X.1.2.1 zd_Mo_part_93 hl (k := 5) rfl (v := nI (k + 1)) (nI_add _ _) (by decide) rfl (fun ls hl => ?_)
                have hl : lv_has ls 7 [(6, .int (nI (k + 1))), (3, .long (lN (v + ub (fI a1) * 256 ^ k))), (0, .ref m0), (1, .int (nI y)), (2, .int (nI op)), (5, .int (nI 0))] := hl
                refine lv_goto (tgt := 64) X.1.1 X.1.2.1 zd_Mo_part_96 rfl ?_
                exact ih (k + 1) (v + ub (fI a1) * 256 ^ k) (a1 + 1) ls H locs (by omega) (by omega) (hor.2) (by omega) (he) (lv_sub hl [2, 3, 4, 1, 5, 0] rfl) h
              · rw [if_neg f5] at he
                have hno : rdK (tx fI n) (tx fB nb) y op (at_ + 1) fi = none := by
                  unfold rdK; rw [he]
                refine rCi (wr := []) (wf := fun _ => [(m0, .inr (4, [.ref aI, .ref aB, .ref aO, .ref aR, .int (nI n), .int (nI nb), .int (nI nm), .int (nI cp), .int (nI frs), .int (nI dm), .int (nI th), .int (nI be), .int wh, .int (nI a1), .int (nI 1), .int (nI fi)])), (aI, .inl (cI, 65536, .inl (fI))), (aB, .inl (cB, 65536, .inl (fB))), (aO, .inl (cO, 67000, .inl (fO))), (aR, .inl (cR, 65536, .inl (fR)))]) (rest := [.long (lN v)]) X h hl.1 (zc_Mo_nextN l D (m0 := m0) (aI := aI) (aB := aB) (aO := aO) (aR := aR) (wh := wh) (n := n) (nb := nb) (nm := nm) (cp := cp) (frs := frs) (dm := dm) (th := th) (be := be) (at_ := a1) (wr := 0) (fi := fi) (fI := fI) (cI := cI) (fB := fB) (cB := cB) (fO := fO) (cO := cO) (fR := fR) (cR := cR) (Or.inr ⟨rfl, by omega⟩) (by omega) (hn) H.size) zw_599 zw_601 zs_24 zw_5 zm_Mo_next zq_Mo_next ⟨Nat.le_of_ble_eq_true rfl, Nat.le_of_ble_eq_true rfl⟩ ⟨Nat.le_of_ble_eq_true rfl, Nat.le_of_ble_eq_true rfl⟩ [0, 1, 2, 3] rfl [0, 1, 2, 3, 4] [] [0, 1, 2, 3, 4] rfl (by decide) rfl (by decide) (by decide) (fun _ => rfl) (by decide) 0 rfl rfl rfl (Nat.le_of_ble_eq_true rfl) zd_Mo_part_81 (fun r _ H locs hp h => ?_)
                obtain ⟨rfl, -⟩ := hp
                have h : zH D A s [(m0, .inr (4, [.ref aI, .ref aB, .ref aO, .ref aR, .int (nI n), .int (nI nb), .int (nI nm), .int (nI cp), .int (nI frs), .int (nI dm), .int (nI th), .int (nI be), .int wh, .int (nI a1), .int (nI 1), .int (nI fi)])), (aI, .inl (cI, 65536, .inl (fI))), (aB, .inl (cB, 65536, .inl (fB))), (aO, .inl (cO, 67000, .inl (fO))), (aR, .inl (cR, 65536, .inl (fR)))] H locs := h
                refine lv_i2l (v := (nI 0).toInt64) X.1.1 X.1.2.1 zd_Mo_part_84 (rfl) ?_
                refine lv_bipush (v := nI 8) X.1.1 X.1.2.1 zd_Mo_part_85 (by decide) ?_
                refine lv_iload X.1.1 X.1.2.1 zd_Mo_part_87 (lv_at hl 5 rfl) ?_
                refine lv_imul X.1.1 X.1.2.1 zd_Mo_part_89 ?_
                refine zTop (y := nI (8 * k)) (pk_mul _ _) ?_
                refine lv_lshl (v := ((nI 0).toInt64) <<< ((nI (8 * k)).toInt64 &&& 63)) X.1.1 X.1.2.1 zd_Mo_part_90 (rfl) ?_
                refine lv_ladd X.1.1 X.1.2.1 zd_Mo_part_91 ?_
                refine lv_lstore_n X.1.1 X.1.2.1 zd_Mo_part_92 rfl hl (by decide) rfl (fun ls hl => ?_)
                have hl : lv_has ls 7 [(3, .long ((lN v) + (((nI 0).toInt64) <<< ((nI (8 * k)).toInt64 &&& 63)))), (0, .ref m0), (1, .int (nI y)), (2, .int (nI op)), (5, .int (nI 0)), (6, .int (nI k))] := hl
                refine lv_iinc X.1.1 X.1.2.1 zd_Mo_part_93 hl (k := 5) rfl (v := nI (k + 1)) (nI_add _ _) (by decide) rfl (fun ls hl => ?_)
                have hl : lv_has ls 7 [(6, .int (nI (k + 1))), (3, .long ((lN v) + (((nI 0).toInt64) <<< ((nI (8 * k)).toInt64 &&& 63)))), (0, .ref m0), (1, .int (nI y)), (2, .int (nI op)), (5, .int (nI 0))] := hl
                refine lv_goto (tgt := 64) X.1.1 X.1.2.1 zd_Mo_part_96 rfl ?_
                exact bad1 _ (k + 1) ((lN v) + (((nI 0).toInt64) <<< ((nI (8 * k)).toInt64 &&& 63))) (nI 0) a1 ls H locs (Nat.lt_succ_self _) (hno) (by omega) (ha1) (lv_sub hl [2, 3, 4, 1, 5, 0] rfl) h
      exact good1 _ 0 0 (at_ + 1) ls H locs (Nat.lt_succ_self _) (by omega) (by decide) (by omega) (rfl) (lv_sub hl [4, 5, 3, 2, 1, 0] rfl) h
    · have c2 : op < 128 := zc_ge_f (by omega) (by omega) c2
      refine lv_iconst (v := nI 0) X.1.1 X.1.2.1 zd_Mo_part_21 (by decide) ?_
      refine lv_istore_n X.1.1 X.1.2.1 zd_Mo_part_22 rfl hl (by decide) rfl (fun ls hl => ?_)
      have hl : lv_has ls 7 [(3, .int (nI 0)), (2, .int (nI op)), (0, .ref m0), (1, .int (nI y))] := hl
      have loop : ∀ (fu : Nat) (k : Nat) (g : Nat → Int32) (ls : Array Slot) (H : Heap) (locs : List Loc), op - k < fu → k ≤ op → at_ + 1 + k ≤ n → fi + k ≤ y → tx g (fi + k) = tx fR fi ++ (((tx fI n)).drop (at_ + 1)).take k → sb_Fit g → lv_has ls 7 [(0, .ref m0), (1, .int (nI y)), (2, .int (nI op)), (3, .int (nI k))] → zH D A s [(m0, .inr (4, [.ref aI, .ref aB, .ref aO, .ref aR, .int (nI n), .int (nI nb), .int (nI nm), .int (nI cp), .int (nI frs), .int (nI dm), .int (nI th), .int (nI be), .int wh, .int (nI (at_ + 1 + k)), .int (nI 0), .int (nI (fi + k))])), (aI, .inl (cI, 65536, .inl (fI))), (aB, .inl (cB, 65536, .inl (fB))), (aO, .inl (cO, 67000, .inl (fO))), (aR, .inl (cR, 65536, .inl (g)))] H locs → W p l e ({ frames := 1, cells := 0, slots := 0, locals := 22 } : Room) s m args below meth c H locs 0 0 Q (F0 m 23 ls []) := by
        intro fu
        induction fu with
        | zero => intro k g ls H locs hfu; exact absurd hfu (Nat.not_lt_zero _)
        | succ fu ih =>
          intro k g ls H locs hfu hk h1 h2 he hg hl h
          refine lv_iload_n X.1.1 X.1.2.1 zd_Mo_part_23 rfl (lv_at hl 3 rfl) ?_
          refine lv_iload_n X.1.1 X.1.2.1 zd_Mo_part_24 rfl (lv_at hl 2 rfl) ?_
          refine lv_icmp_ge (tgt := 55) X.1.1 X.1.2.1 zd_Mo_part_25 rfl (fun d1 => ?_) (fun d1 => ?_)
          · have d1 : op ≤ k := zc_ge_t (by omega) (by omega) d1
            have ek : k = op := by omega
            subst ek
            exact ret (at_ + 1 + k, 0, fi + k, g) H locs ls _ (⟨Or.inr ⟨by omega, Or.inl ⟨rfl, by unfold rdW; omega, rfl, he⟩⟩, h1, h2, hg⟩) h zd_Mo_part_55
          · have d1 : k < op := zc_ge_f (by omega) (by omega) d1
            refine lv_aload_n X.1.1 X.1.2.1 zd_Mo_part_28 rfl (lv_at hl 0 rfl) ?_
            refine rG X h 0 rfl rfl zW_Mo 14 (by decide) zw_507 rfl zd_Mo_part_29 ?_
            refine lv_if_ne (tgt := 55) X.1.1 X.1.2.1 zd_Mo_part_32 rfl (fun d2 => ?_) (fun d2 => ?_)
            · have d2 : 0 ≠ 0 := zc_ne0_t (by omega) (by omega) d2
              exact absurd rfl d2
            · have d2 : 0 = 0 := zc_ne0_f (by omega) (by omega) d2
              refine lv_aload_n X.1.1 X.1.2.1 zd_Mo_part_35 rfl (lv_at hl 0 rfl) ?_
              by_cases d3 : at_ + 1 + k < n
              · refine rCi (wr := []) (wf := fun _ => [(m0, .inr (4, [.ref aI, .ref aB, .ref aO, .ref aR, .int (nI n), .int (nI nb), .int (nI nm), .int (nI cp), .int (nI frs), .int (nI dm), .int (nI th), .int (nI be), .int wh, .int (nI (at_ + 1 + k + 1)), .int (nI 0), .int (nI (fi + k))])), (aI, .inl (cI, 65536, .inl (fI))), (aB, .inl (cB, 65536, .inl (fB))), (aO, .inl (cO, 67000, .inl (fO))), (aR, .inl (cR, 65536, .inl (g)))]) (rest := []) X h hl.1 (zc_Mo_next l D (m0 := m0) (aI := aI) (aB := aB) (aO := aO) (aR := aR) (wh := wh) (n := n) (nb := nb) (nm := nm) (cp := cp) (frs := frs) (dm := dm) (th := th) (be := be) (at_ := at_ + 1 + k) (wr := 0) (fi := fi + k) (fI := fI) (cI := cI) (fB := fB) (cB := cB) (fO := fO) (cO := cO) (fR := g) (cR := cR) (rfl) (d3) (hn) H.size) zw_599 zw_601 zs_24 zw_5 zm_Mo_next zq_Mo_next ⟨Nat.le_of_ble_eq_true rfl, Nat.le_of_ble_eq_true rfl⟩ ⟨Nat.le_of_ble_eq_true rfl, Nat.le_of_ble_eq_true rfl⟩ [0, 1, 2, 3] rfl [0, 1, 2, 3, 4] [] [0, 1, 2, 3, 4] rfl (by decide) rfl (by decide) (by decide) (fun _ => rfl) (by decide) 0 rfl rfl rfl (Nat.le_of_ble_eq_true rfl) zd_Mo_part_36 (fun r _ H locs hp h => ?_)
                obtain ⟨rfl, -⟩ := hp
                have h : zH D A s [(m0, .inr (4, [.ref aI, .ref aB, .ref aO, .ref aR, .int (nI n), .int (nI nb), .int (nI nm), .int (nI cp), .int (nI frs), .int (nI dm), .int (nI th), .int (nI be), .int wh, .int (nI (at_ + 1 + k + 1)), .int (nI 0), .int (nI (fi + k))])), (aI, .inl (cI, 65536, .inl (fI))), (aB, .inl (cB, 65536, .inl (fB))), (aO, .inl (cO, 67000, .inl (fO))), (aR, .inl (cR, 65536, .inl (g)))] H locs := h
                refine lv_istore X.1.1 X.1.2.1 zd_Mo_part_39 hl (by decide) rfl (fun ls hl => ?_)
                have hl : lv_has ls 7 [(4, .int (nI (ub (fI (at_ + 1 + k))))), (0, .ref m0), (1, .int (nI y)), (2, .int (nI op)), (3, .int (nI k))] := hl
                refine lv_aload_n X.1.1 X.1.2.1 zd_Mo_part_41 rfl (lv_at hl 1 rfl) ?_
                refine lv_iload X.1.1 X.1.2.1 zd_Mo_part_42 (lv_at hl 0 rfl) ?_
                refine lv_i2b (v := fI (at_ + 1 + k)) X.1.1 X.1.2.1 zd_Mo_part_44 (ub_b8 (hfI _)) ?_
                refine lv_iload_n X.1.1 X.1.2.1 zd_Mo_part_45 rfl (lv_at hl 2 rfl) ?_
                by_cases d4 : fi + k < y
                · refine rCv (wr := []) (wf := fun _ => [(m0, .inr (4, [.ref aI, .ref aB, .ref aO, .ref aR, .int (nI n), .int (nI nb), .int (nI nm), .int (nI cp), .int (nI frs), .int (nI dm), .int (nI th), .int (nI be), .int wh, .int (nI (at_ + 1 + k + 1)), .int (nI 0), .int (nI (fi + k + 1))])), (aI, .inl (cI, 65536, .inl (fI))), (aB, .inl (cB, 65536, .inl (fB))), (aO, .inl (cO, 67000, .inl (fO))), (aR, .inl (cR, 65536, .inl (upd g (fi + k) (fI (at_ + 1 + k)))))]) (rest := []) X h hl.1 (zc_Mo_give l D (m0 := m0) (aI := aI) (aB := aB) (aO := aO) (aR := aR) (wh := wh) (n := n) (nb := nb) (nm := nm) (cp := cp) (frs := frs) (dm := dm) (th := th) (be := be) (at_ := at_ + 1 + k + 1) (wr := 0) (fi := fi + k) (fI := fI) (cI := cI) (fB := fB) (cB := cB) (fO := fO) (cO := cO) (fR := g) (cR := cR) (x := fI (at_ + 1 + k)) (y := y) (rfl) (d4) (hy) (hfI _) H.size) zw_607 zw_609 zs_26 zw_5 zm_Mo_give zq_Mo_give ⟨Nat.le_of_ble_eq_true rfl, Nat.le_of_ble_eq_true rfl⟩ ⟨Nat.le_of_ble_eq_true rfl, Nat.le_of_ble_eq_true rfl⟩ [0, 1, 2, 3] rfl [0, 1, 2, 3, 4] [] [0, 1, 2, 3, 4] rfl (by decide) rfl (by decide) (by decide) (fun _ => rfl) (by decide) 0 rfl rfl rfl (Nat.le_of_ble_eq_true rfl) zd_Mo_part_46 (fun _ H locs hp h => ?_)
                  have h : zH D A s [(m0, .inr (4, [.ref aI, .ref aB, .ref aO, .ref aR, .int (nI n), .int (nI nb), .int (nI nm), .int (nI cp), .int (nI frs), .int (nI dm), .int (nI th), .int (nI be), .int wh, .int (nI (at_ + 1 + k + 1)), .int (nI 0), .int (nI (fi + k + 1))])), (aI, .inl (cI, 65536, .inl (fI))), (aB, .inl (cB, 65536, .inl (fB))), (aO, .inl (cO, 67000, .inl (fO))), (aR, .inl (cR, 65536, .inl (upd g (fi + k) (fI (at_ + 1 + k)))))] H locs := h
                  refine lv_iinc X.1.1 X.1.2.1 zd_Mo_part_49 hl (k := 4) rfl (v := nI (k + 1)) (nI_add _ _) (by decide) rfl (fun ls hl => ?_)
                  have hl : lv_has ls 7 [(3, .int (nI (k + 1))), (4, .int (nI (ub (fI (at_ + 1 + k))))), (0, .ref m0), (1, .int (nI y)), (2, .int (nI op))] := hl
                  refine lv_goto (tgt := 23) X.1.1 X.1.2.1 zd_Mo_part_52 rfl ?_
                  exact ih (k + 1) (upd g (fi + k) (fI (at_ + 1 + k))) ls H locs (by omega) (by omega) (by omega) (by omega) (by rw [← Nat.add_assoc, tx_push, he, tx_part1 fI (by omega), List.append_assoc]) (sb_fitU hg (hfI _)) (lv_sub hl [2, 3, 4, 0] rfl) h
                · refine rCv (wr := []) (wf := fun _ => [(m0, .inr (4, [.ref aI, .ref aB, .ref aO, .ref aR, .int (nI n), .int (nI nb), .int (nI nm), .int (nI cp), .int (nI frs), .int (nI dm), .int (nI th), .int (nI be), .int wh, .int (nI (at_ + 1 + k + 1)), .int (nI 1), .int (nI (fi + k))])), (aI, .inl (cI, 65536, .inl (fI))), (aB, .inl (cB, 65536, .inl (fB))), (aO, .inl (cO, 67000, .inl (fO))), (aR, .inl (cR, 65536, .inl (g)))]) (rest := []) X h hl.1 (zc_Mo_giveN l D (m0 := m0) (aI := aI) (aB := aB) (aO := aO) (aR := aR) (wh := wh) (n := n) (nb := nb) (nm := nm) (cp := cp) (frs := frs) (dm := dm) (th := th) (be := be) (at_ := at_ + 1 + k + 1) (wr := 0) (fi := fi + k) (fI := fI) (cI := cI) (fB := fB) (cB := cB) (fO := fO) (cO := cO) (fR := g) (cR := cR) (x := fI (at_ + 1 + k)) (y := y) (Or.inr ⟨rfl, by omega⟩) (hy) (by omega) H.size) zw_607 zw_609 zs_26 zw_5 zm_Mo_give zq_Mo_give ⟨Nat.le_of_ble_eq_true rfl, Nat.le_of_ble_eq_true rfl⟩ ⟨Nat.le_of_ble_eq_true rfl, Nat.le_of_ble_eq_true rfl⟩ [0, 1, 2, 3] rfl [0, 1, 2, 3, 4] [] [0, 1, 2, 3, 4] rfl (by decide) rfl (by decide) (by decide) (fun _ => rfl) (by decide) 0 rfl rfl rfl (Nat.le_of_ble_eq_true rfl) zd_Mo_part_46 (fun _ H locs hp h => ?_)
                  have h : zH D A s [(m0, .inr (4, [.ref aI, .ref aB, .ref aO, .ref aR, .int (nI n), .int (nI nb), .int (nI nm), .int (nI cp), .int (nI frs), .int (nI dm), .int (nI th), .int (nI be), .int wh, .int (nI (at_ + 1 + k + 1)), .int (nI 1), .int (nI (fi + k))])), (aI, .inl (cI, 65536, .inl (fI))), (aB, .inl (cB, 65536, .inl (fB))), (aO, .inl (cO, 67000, .inl (fO))), (aR, .inl (cR, 65536, .inl (g)))] H locs := h
                  have hW : rdW n y op (at_ + 1) fi := Or.inr (Or.inr (by omega))
                  refine lv_iinc X.1.1 X.1.2.1 zd_Mo_part_49 hl (k := 4) rfl (v := nI (k + 1)) (nI_add _ _) (by decide) rfl (fun ls hl => ?_)
                  have hl : lv_has ls 7 [(3, .int (nI (k + 1))), (4, .int (nI (ub (fI (at_ + 1 + k))))), (0, .ref m0), (1, .int (nI y)), (2, .int (nI op))] := hl
                  refine lv_goto (tgt := 23) X.1.1 X.1.2.1 zd_Mo_part_52 rfl ?_
                  refine lv_iload_n X.1.1 X.1.2.1 zd_Mo_part_23 rfl (lv_at hl 0 rfl) ?_
                  refine lv_iload_n X.1.1 X.1.2.1 zd_Mo_part_24 rfl (lv_at hl 4 rfl) ?_
                  refine lv_icmp_ge (tgt := 55) X.1.1 X.1.2.1 zd_Mo_part_25 rfl (fun d7 => ?_) (fun d7 => ?_)
                  · have d7 : op ≤ k + 1 := zc_ge_t (by omega) (by omega) d7
                    exact ret (at_ + 1 + k + 1, 1, fi + k, g) H locs ls _ (⟨Or.inr ⟨by omega, Or.inr ⟨rfl, hW⟩⟩, by show at_ + 1 + k + 1 ≤ n; omega, h2, hg⟩) h zd_Mo_part_55
                  · have d7 : k + 1 < op := zc_ge_f (by omega) (by omega) d7
                    refine lv_aload_n X.1.1 X.1.2.1 zd_Mo_part_28 rfl (lv_at hl 2 rfl) ?_
                    refine rG X h 0 rfl rfl zW_Mo 14 (by decide) zw_507 rfl zd_Mo_part_29 ?_
                    refine lv_if_ne (tgt := 55) X.1.1 X.1.2.1 zd_Mo_part_32 rfl (fun d8 => ?_) (fun d8 => ?_)
                    · have d8 : 1 ≠ 0 := zc_ne0_t (by omega) (by omega) d8
                      exact ret (at_ + 1 + k + 1, 1, fi + k, g) H locs ls _ (⟨Or.inr ⟨by omega, Or.inr ⟨rfl, hW⟩⟩, by show at_ + 1 + k + 1 ≤ n; omega, h2, hg⟩) h zd_Mo_part_55
                    · have d8 : 1 = 0 := zc_ne0_f (by omega) (by omega) d8
                      exact absurd d8 (by decide)
              · refine rCi (wr := []) (wf := fun _ => [(m0, .inr (4, [.ref aI, .ref aB, .ref aO, .ref aR, .int (nI n), .int (nI nb), .int (nI nm), .int (nI cp), .int (nI frs), .int (nI dm), .int (nI th), .int (nI be), .int wh, .int (nI (at_ + 1 + k)), .int (nI 1), .int (nI (fi + k))])), (aI, .inl (cI, 65536, .inl (fI))), (aB, .inl (cB, 65536, .inl (fB))), (aO, .inl (cO, 67000, .inl (fO))), (aR, .inl (cR, 65536, .inl (g)))]) (rest := []) X h hl.1 (zc_Mo_nextN l D (m0 := m0) (aI := aI) (aB := aB) (aO := aO) (aR := aR) (wh := wh) (n := n) (nb := nb) (nm := nm) (cp := cp) (frs := frs) (dm := dm) (th := th) (be := be) (at_ := at_ + 1 + k) (wr := 0) (fi := fi + k) (fI := fI) (cI := cI) (fB := fB) (cB := cB) (fO := fO) (cO := cO) (fR := g) (cR := cR) (Or.inr ⟨rfl, by omega⟩) (by omega) (hn) H.size) zw_599 zw_601 zs_24 zw_5 zm_Mo_next zq_Mo_next ⟨Nat.le_of_ble_eq_true rfl, Nat.le_of_ble_eq_true rfl⟩ ⟨Nat.le_of_ble_eq_true rfl, Nat.le_of_ble_eq_true rfl⟩ [0, 1, 2, 3] rfl [0, 1, 2, 3, 4] [] [0, 1, 2, 3, 4] rfl (by decide) rfl (by decide) (by decide) (fun _ => rfl) (by decide) 0 rfl rfl rfl (Nat.le_of_ble_eq_true rfl) zd_Mo_part_36 (fun r _ H locs hp h => ?_)
                obtain ⟨rfl, -⟩ := hp
                have h : zH D A s [(m0, .inr (4, [.ref aI, .ref aB, .ref aO, .ref aR, .int (nI n), .int (nI nb), .int (nI nm), .int (nI cp), .int (nI frs), .int (nI dm), .int (nI th), .int (nI be), .int wh, .int (nI (at_ + 1 + k)), .int (nI 1), .int (nI (fi + k))])), (aI, .inl (cI, 65536, .inl (fI))), (aB, .inl (cB, 65536, .inl (fB))), (aO, .inl (cO, 67000, .inl (fO))), (aR, .inl (cR, 65536, .inl (g)))] H locs := h
                refine lv_istore X.1.1 X.1.2.1 zd_Mo_part_39 hl (by decide) rfl (fun ls hl => ?_)
                have hl : lv_has ls 7 [(4, .int (nI 0)), (0, .ref m0), (1, .int (nI y)), (2, .int (nI op)), (3, .int (nI k))] := hl
                refine lv_aload_n X.1.1 X.1.2.1 zd_Mo_part_41 rfl (lv_at hl 1 rfl) ?_
                refine lv_iload X.1.1 X.1.2.1 zd_Mo_part_42 (lv_at hl 0 rfl) ?_
                refine lv_i2b (v := b8 (nI 0)) X.1.1 X.1.2.1 zd_Mo_part_44 (rfl) ?_
                refine lv_iload_n X.1.1 X.1.2.1 zd_Mo_part_45 rfl (lv_at hl 2 rfl) ?_
                refine rCv (wr := []) (wf := fun _ => [(m0, .inr (4, [.ref aI, .ref aB, .ref aO, .ref aR, .int (nI n), .int (nI nb), .int (nI nm), .int (nI cp), .int (nI frs), .int (nI dm), .int (nI th), .int (nI be), .int wh, .int (nI (at_ + 1 + k)), .int (nI 1), .int (nI (fi + k))])), (aI, .inl (cI, 65536, .inl (fI))), (aB, .inl (cB, 65536, .inl (fB))), (aO, .inl (cO, 67000, .inl (fO))), (aR, .inl (cR, 65536, .inl (g)))]) (rest := []) X h hl.1 (zc_Mo_giveN l D (m0 := m0) (aI := aI) (aB := aB) (aO := aO) (aR := aR) (wh := wh) (n := n) (nb := nb) (nm := nm) (cp := cp) (frs := frs) (dm := dm) (th := th) (be := be) (at_ := at_ + 1 + k) (wr := 1) (fi := fi + k) (fI := fI) (cI := cI) (fB := fB) (cB := cB) (fO := fO) (cO := cO) (fR := g) (cR := cR) (x := b8 (nI 0)) (y := y) (Or.inl rfl) (hy) (by omega) H.size) zw_607 zw_609 zs_26 zw_5 zm_Mo_give zq_Mo_give ⟨Nat.le_of_ble_eq_true rfl, Nat.le_of_ble_eq_true rfl⟩ ⟨Nat.le_of_ble_eq_true rfl, Nat.le_of_ble_eq_true rfl⟩ [0, 1, 2, 3] rfl [0, 1, 2, 3, 4] [] [0, 1, 2, 3, 4] rfl (by decide) rfl (by decide) (by decide) (fun _ => rfl) (by decide) 0 rfl rfl rfl (Nat.le_of_ble_eq_true rfl) zd_Mo_part_46 (fun _ H locs hp h => ?_)
                have h : zH D A s [(m0, .inr (4, [.ref aI, .ref aB, .ref aO, .ref aR, .int (nI n), .int (nI nb), .int (nI nm), .int (nI cp), .int (nI frs), .int (nI dm), .int (nI th), .int (nI be), .int wh, .int (nI (at_ + 1 + k)), .int (nI 1), .int (nI (fi + k))])), (aI, .inl (cI, 65536, .inl (fI))), (aB, .inl (cB, 65536, .inl (fB))), (aO, .inl (cO, 67000, .inl (fO))), (aR, .inl (cR, 65536, .inl (g)))] H locs := h
                have hW : rdW n y op (at_ + 1) fi := Or.inr (Or.inl (by omega))
                refine lv_iinc X.1.1 X.1.2.1 zd_Mo_part_49 hl (k := 4) rfl (v := nI (k + 1)) (nI_add _ _) (by decide) rfl (fun ls hl => ?_)
                have hl : lv_has ls 7 [(3, .int (nI (k + 1))), (4, .int (nI 0)), (0, .ref m0), (1, .int (nI y)), (2, .int (nI op))] := hl
                refine lv_goto (tgt := 23) X.1.1 X.1.2.1 zd_Mo_part_52 rfl ?_
                refine lv_iload_n X.1.1 X.1.2.1 zd_Mo_part_23 rfl (lv_at hl 0 rfl) ?_
                refine lv_iload_n X.1.1 X.1.2.1 zd_Mo_part_24 rfl (lv_at hl 4 rfl) ?_
                refine lv_icmp_ge (tgt := 55) X.1.1 X.1.2.1 zd_Mo_part_25 rfl (fun d7 => ?_) (fun d7 => ?_)
                · have d7 : op ≤ k + 1 := zc_ge_t (by omega) (by omega) d7
                  exact ret (at_ + 1 + k, 1, fi + k, g) H locs ls _ (⟨Or.inr ⟨by omega, Or.inr ⟨rfl, hW⟩⟩, by show at_ + 1 + k ≤ n; omega, h2, hg⟩) h zd_Mo_part_55
                · have d7 : k + 1 < op := zc_ge_f (by omega) (by omega) d7
                  refine lv_aload_n X.1.1 X.1.2.1 zd_Mo_part_28 rfl (lv_at hl 2 rfl) ?_
                  refine rG X h 0 rfl rfl zW_Mo 14 (by decide) zw_507 rfl zd_Mo_part_29 ?_
                  refine lv_if_ne (tgt := 55) X.1.1 X.1.2.1 zd_Mo_part_32 rfl (fun d8 => ?_) (fun d8 => ?_)
                  · have d8 : 1 ≠ 0 := zc_ne0_t (by omega) (by omega) d8
                    exact ret (at_ + 1 + k, 1, fi + k, g) H locs ls _ (⟨Or.inr ⟨by omega, Or.inr ⟨rfl, hW⟩⟩, by show at_ + 1 + k ≤ n; omega, h2, hg⟩) h zd_Mo_part_55
                  · have d8 : 1 = 0 := zc_ne0_f (by omega) (by omega) d8
                    exact absurd d8 (by decide)
      exact loop _ 0 fR ls H locs (Nat.lt_succ_self _) (by omega) (by omega) (by omega) (by rw [List.take_zero, List.append_nil]; rfl) (hfR) (lv_sub hl [2, 3, 1, 0] rfl) h
  · have c1 : op = 0 := zc_ne0_f (by omega) (by omega) c1
    subst c1
    have h : zH D A s [(m0, .inr (4, [.ref aI, .ref aB, .ref aO, .ref aR, .int (nI n), .int (nI nb), .int (nI nm), .int (nI cp), .int (nI frs), .int (nI dm), .int (nI th), .int (nI be), .int wh, .int (nI (at_ + 1)), .int (nI 0), .int (nI fi)])), (aI, .inl (cI, 65536, .inl (fI))), (aB, .inl (cB, 65536, .inl (fB))), (aO, .inl (cO, 67000, .inl (fO))), (aR, .inl (cR, 65536, .inl (fR)))] H locs := h
    have hl : lv_has ls 7 [(2, .int (nI 0)), (0, .ref m0), (1, .int (nI y))] := hl
    refine lv_aload_n X.1.1 X.1.2.1 zd_Mo_part_9 rfl (lv_at hl 1 rfl) ?_
    refine lv_iconst (v := nI 1) X.1.1 X.1.2.1 zd_Mo_part_10 (by decide) ?_
    refine rP X h 0 rfl rfl zW_Mo zO_Mo zN_Mo 14 (by decide) zw_507 rfl (rfl) (rfl) (Nat.le_of_ble_eq_true rfl) zd_Mo_part_11 (fun H locs h => ?_)
    have h : zH D A s [(m0, .inr (4, [.ref aI, .ref aB, .ref aO, .ref aR, .int (nI n), .int (nI nb), .int (nI nm), .int (nI cp), .int (nI frs), .int (nI dm), .int (nI th), .int (nI be), .int wh, .int (nI (at_ + 1)), .int (nI 1), .int (nI fi)])), (aI, .inl (cI, 65536, .inl (fI))), (aB, .inl (cB, 65536, .inl (fB))), (aO, .inl (cO, 67000, .inl (fO))), (aR, .inl (cR, 65536, .inl (fR)))] H locs := h
    refine lv_iload_n X.1.1 X.1.2.1 zd_Mo_part_14 rfl (lv_at hl 0 rfl) ?_
    refine lv_sipush (v := nI 128) X.1.1 X.1.2.1 zd_Mo_part_15 (by decide) ?_
    refine lv_icmp_ge (tgt := 56) X.1.1 X.1.2.1 zd_Mo_part_18 rfl (fun c2 => ?_) (fun c2 => ?_)
    · have c2 : 128 ≤ 0 := zc_ge_t (by omega) (by omega) c2
      exact absurd c2 (by decide)
    · have c2 : 0 < 128 := zc_ge_f (by omega) (by omega) c2
      refine lv_iconst (v := nI 0) X.1.1 X.1.2.1 zd_Mo_part_21 (by decide) ?_
      refine lv_istore_n X.1.1 X.1.2.1 zd_Mo_part_22 rfl hl (by decide) rfl (fun ls hl => ?_)
      have hl : lv_has ls 7 [(3, .int (nI 0)), (2, .int (nI 0)), (0, .ref m0), (1, .int (nI y))] := hl
      refine lv_iload_n X.1.1 X.1.2.1 zd_Mo_part_23 rfl (lv_at hl 0 rfl) ?_
      refine lv_iload_n X.1.1 X.1.2.1 zd_Mo_part_24 rfl (lv_at hl 1 rfl) ?_
      refine lv_icmp_ge (tgt := 55) X.1.1 X.1.2.1 zd_Mo_part_25 rfl (fun c3 => ?_) (fun c3 => ?_)
      · have c3 : 0 ≤ 0 := zc_ge_t (by omega) (by omega) c3
        exact ret (at_ + 1, 1, fi, fR) H locs ls _ (⟨Or.inr ⟨by decide, Or.inr ⟨rfl, Or.inl rfl⟩⟩, by show at_ + 1 ≤ n; omega, hfi, hfR⟩) h zd_Mo_part_55
      · have c3 : 0 < 0 := zc_ge_f (by omega) (by omega) c3
        exact absurd c3 (by decide)
