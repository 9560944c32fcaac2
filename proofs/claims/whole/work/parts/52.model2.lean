/-! DeltaPressModel: make and its helpers -/
def ctV (x : Int32) (n nb nm cp frs dm : Nat) : Int32 := if x = 0 then nI n else if x = 1 then nI nb else if x = 2 then nI nm else if x = 3 then nI cp else if x = 4 then nI frs else if x = 5 then nI dm else -1
theorem numB_end (q : Nat) {w : Nat} (h : w < 128) : numB q w = [b8 (nI w)] := by
  cases q with
  | zero => rfl
  | succ q => show (if w < 128 then _ else _) = _; rw [if_pos h]
theorem numB_go (q : Nat) {w : Nat} (h : ¬ w < 128) : numB (q + 1) w = b8 (nI (w % 128 + 128)) :: numB q (w / 128) := by
  show (if w < 128 then _ else _) = _
  rw [if_neg h]
theorem shl1 {k : Nat} (hk : k < 8) : nI 1 <<< (nI k &&& 31) = nI (2 ^ k) := by
  have h1 : (2 : Nat) ^ k ≤ 2 ^ 7 := Nat.pow_le_pow_right (by decide) (by omega)
  have := shl_nI (v := 1) (k := k) (by omega) (by omega)
  rw [Nat.one_mul] at this
  exact this
theorem shl16 {k : Nat} (hk : k < 8) : nI 16 <<< (nI k &&& 31) = nI (16 * 2 ^ k) := by
  have h1 : (2 : Nat) ^ k ≤ 2 ^ 7 := Nat.pow_le_pow_right (by decide) (by omega)
  exact shl_nI (v := 16) (k := k) (by omega) (by omega)
theorem b8_byt {v k : Nat} (h : v < 2 ^ 31) (hk : k < 4) : b8 (((nI v).toUInt32 >>> ((nI (8 * k)).toUInt32 &&& Int32.toUInt32 31)).toInt32) = b8 (nI (byt v k)) := by
  rw [ush_eq _ (by omega), ush_nI (by omega)]
  unfold byt
  rw [b8_mod]
theorem bsm_su (v k : Nat) : bsm v (k + 1) = bsm v k + (if byt v k = 0 then 0 else 2 ^ k) := rfl
theorem tx_part1 (f : Nat → Int32) {n i k : Nat} (h : i + k < n) : ((tx f n).drop i).take (k + 1) = ((tx f n).drop i).take k ++ [f (i + k)] := by
  rw [← tx_part f (m := n) (by omega), ← tx_part f (m := n) (by omega), tx_su]

set_option maxHeartbeats 4000000 in
set_option maxRecDepth 100000 in
theorem zc_Mo_put (l : Launch) (D : va_G) {m0 aI aB aO aR n nb nm cp frs dm th be at_ wr fi : Nat} {wh : Int32} {fI fB fO fR : Nat → Int32} {cI cB cO cR : ClassId} {x : Int32} (hn : nm < 67000) (sz : Nat) : zMv l D zy_Mo_put zb_Mo_put 2 ({ frames := 0, cells := 0, slots := 0, locals := 0 } : Room) [.ref m0, .int x] [(cI, .byte), (cB, .byte), (cO, .byte), (cR, .byte)] [(m0, .inr (4, [.ref aI, .ref aB, .ref aO, .ref aR, .int (nI n), .int (nI nb), .int (nI nm), .int (nI cp), .int (nI frs), .int (nI dm), .int (nI th), .int (nI be), .int wh, .int (nI at_), .int (nI wr), .int (nI fi)])), (aI, .inl (cI, 65536, .inl (fI))), (aB, .inl (cB, 65536, .inl (fB))), (aO, .inl (cO, 67000, .inl (fO))), (aR, .inl (cR, 65536, .inl (fR)))] sz (fun (u : Unit) => True) (fun _ => [(m0, .inr (4, [.ref aI, .ref aB, .ref aO, .ref aR, .int (nI n), .int (nI nb), .int (nI (nm + 1)), .int (nI cp), .int (nI frs), .int (nI dm), .int (nI th), .int (nI be), .int wh, .int (nI at_), .int (nI wr), .int (nI fi)])), (aI, .inl (cI, 65536, .inl (fI))), (aB, .inl (cB, 65536, .inl (fB))), (aO, .inl (cO, 67000, .inl (upd fO nm (b8 x)))), (aR, .inl (cR, 65536, .inl (fR)))]) := by
  refine zEv (by decide) (Nat.le_of_ble_eq_true rfl) (fun p e s m args below meth c ls A Q X hin hl h hsz ret => ?_)
  have hl : lv_has ls 2 [(0, .ref m0), (1, .int x)] := hl
  generalize hH0 : s.heap = H at h ⊢
  have h : zH D A s [(m0, .inr (4, [.ref aI, .ref aB, .ref aO, .ref aR, .int (nI n), .int (nI nb), .int (nI nm), .int (nI cp), .int (nI frs), .int (nI dm), .int (nI th), .int (nI be), .int wh, .int (nI at_), .int (nI wr), .int (nI fi)])), (aI, .inl (cI, 65536, .inl (fI))), (aB, .inl (cB, 65536, .inl (fB))), (aO, .inl (cO, 67000, .inl (fO))), (aR, .inl (cR, 65536, .inl (fR)))] H [] := h
  generalize hL0 : ([] : List Loc) = locs at h ⊢
  refine lv_aload_n X.1.1 X.1.2.1 zd_Mo_put_0 rfl (lv_at hl 0 rfl) ?_
  refine rG X h 0 rfl rfl zW_Mo 2 (by decide) zw_495 rfl zd_Mo_put_1 ?_
  refine lv_aload_n X.1.1 X.1.2.1 zd_Mo_put_4 rfl (lv_at hl 0 rfl) ?_
  refine rG X h 0 rfl rfl zW_Mo 6 (by decide) zw_499 rfl zd_Mo_put_5 ?_
  refine lv_iload_n X.1.1 X.1.2.1 zd_Mo_put_8 rfl (lv_at hl 1 rfl) ?_
  refine lv_i2b (v := b8 x) X.1.1 X.1.2.1 zd_Mo_put_9 (rfl) ?_
  refine rSb X h 3 2 rfl rfl (by omega) (by omega) (pk_vb _) zd_Mo_put_10 (fun H locs h => ?_)
  have h : zH D A s [(m0, .inr (4, [.ref aI, .ref aB, .ref aO, .ref aR, .int (nI n), .int (nI nb), .int (nI nm), .int (nI cp), .int (nI frs), .int (nI dm), .int (nI th), .int (nI be), .int wh, .int (nI at_), .int (nI wr), .int (nI fi)])), (aI, .inl (cI, 65536, .inl (fI))), (aB, .inl (cB, 65536, .inl (fB))), (aO, .inl (cO, 67000, .inl (upd fO nm (b8 x)))), (aR, .inl (cR, 65536, .inl (fR)))] H locs := h
  refine lv_aload_n X.1.1 X.1.2.1 zd_Mo_put_11 rfl (lv_at hl 0 rfl) ?_
  refine lv_dup X.1.1 X.1.2.1 zd_Mo_put_12 rfl ?_
  refine rG X h 0 rfl rfl zW_Mo 6 (by decide) zw_499 rfl zd_Mo_put_13 ?_
  refine lv_iconst (v := nI 1) X.1.1 X.1.2.1 zd_Mo_put_16 (by decide) ?_
  refine lv_iadd X.1.1 X.1.2.1 zd_Mo_put_17 ?_
  refine zTop (y := nI (nm + 1)) (nI_add _ _) ?_
  refine rP X h 0 rfl rfl zW_Mo zO_Mo zN_Mo 6 (by decide) zw_499 rfl (rfl) (rfl) (Nat.le_of_ble_eq_true rfl) zd_Mo_put_18 (fun H locs h => ?_)
  have h : zH D A s [(m0, .inr (4, [.ref aI, .ref aB, .ref aO, .ref aR, .int (nI n), .int (nI nb), .int (nI (nm + 1)), .int (nI cp), .int (nI frs), .int (nI dm), .int (nI th), .int (nI be), .int wh, .int (nI at_), .int (nI wr), .int (nI fi)])), (aI, .inl (cI, 65536, .inl (fI))), (aB, .inl (cB, 65536, .inl (fB))), (aO, .inl (cO, 67000, .inl (upd fO nm (b8 x)))), (aR, .inl (cR, 65536, .inl (fR)))] H locs := h
  exact ret () H locs ls _ (trivial) h zd_Mo_put_21

set_option maxHeartbeats 4000000 in
set_option maxRecDepth 100000 in
theorem zc_Mo_putNumber (l : Launch) (D : va_G) {m0 aI aB aO aR n nb nm cp frs dm th be at_ wr fi : Nat} {wh : Int32} {fI fB fO fR : Nat → Int32} {cI cB cO cR : ClassId} {v : Nat} (hf : sb_Fit fO) (hv : v < 2 ^ 31) (hn : nm + (numB 4 v).length ≤ 67000) (sz : Nat) : zMv l D zy_Mo_putNumber zb_Mo_putNumber 3 ({ frames := 1, cells := 0, slots := 0, locals := 21 } : Room) [.ref m0, .int (nI v)] [(cI, .byte), (cB, .byte), (cO, .byte), (cR, .byte)] [(m0, .inr (4, [.ref aI, .ref aB, .ref aO, .ref aR, .int (nI n), .int (nI nb), .int (nI nm), .int (nI cp), .int (nI frs), .int (nI dm), .int (nI th), .int (nI be), .int wh, .int (nI at_), .int (nI wr), .int (nI fi)])), (aI, .inl (cI, 65536, .inl (fI))), (aB, .inl (cB, 65536, .inl (fB))), (aO, .inl (cO, 67000, .inl (fO))), (aR, .inl (cR, 65536, .inl (fR)))] sz (fun (u : Nat → Int32) => tx u (nm + (numB 4 v).length) = tx fO nm ++ numB 4 v ∧ sb_Fit u) (fun u => [(m0, .inr (4, [.ref aI, .ref aB, .ref aO, .ref aR, .int (nI n), .int (nI nb), .int (nI (nm + (numB 4 v).length)), .int (nI cp), .int (nI frs), .int (nI dm), .int (nI th), .int (nI be), .int wh, .int (nI at_), .int (nI wr), .int (nI fi)])), (aI, .inl (cI, 65536, .inl (fI))), (aB, .inl (cB, 65536, .inl (fB))), (aO, .inl (cO, 67000, .inl (u))), (aR, .inl (cR, 65536, .inl (fR)))]) := by
  refine zEv (by decide) (Nat.le_of_ble_eq_true rfl) (fun p e s m args below meth c ls A Q X hin hl h hsz ret => ?_)
  have hl : lv_has ls 3 [(0, .ref m0), (1, .int (nI v))] := hl
  generalize hH0 : s.heap = H at h ⊢
  have h : zH D A s [(m0, .inr (4, [.ref aI, .ref aB, .ref aO, .ref aR, .int (nI n), .int (nI nb), .int (nI nm), .int (nI cp), .int (nI frs), .int (nI dm), .int (nI th), .int (nI be), .int wh, .int (nI at_), .int (nI wr), .int (nI fi)])), (aI, .inl (cI, 65536, .inl (fI))), (aB, .inl (cB, 65536, .inl (fB))), (aO, .inl (cO, 67000, .inl (fO))), (aR, .inl (cR, 65536, .inl (fR)))] H [] := h
  generalize hL0 : ([] : List Loc) = locs at h ⊢
  refine lv_iload_n X.1.1 X.1.2.1 zd_Mo_putNumber_0 rfl (lv_at hl 1 rfl) ?_
  refine lv_istore_n X.1.1 X.1.2.1 zd_Mo_putNumber_1 rfl hl (by decide) rfl (fun ls hl => ?_)
  have hl : lv_has ls 3 [(2, .int (nI v)), (0, .ref m0), (1, .int (nI v))] := hl
  have loop : ∀ (fu : Nat) (q : Nat) (w : Nat) (n1 : Nat) (g : Nat → Int32) (ls : Array Slot) (H : Heap) (locs : List Loc), w < fu → w < 2 ^ 31 → w < 128 ^ (q + 1) → tx g n1 ++ numB q w = tx fO nm ++ numB 4 v → sb_Fit g → n1 + (numB q w).length = nm + (numB 4 v).length → lv_has ls 3 [(0, .ref m0), (1, .int (nI v)), (2, .int (nI w))] → zH D A s [(m0, .inr (4, [.ref aI, .ref aB, .ref aO, .ref aR, .int (nI n), .int (nI nb), .int (nI n1), .int (nI cp), .int (nI frs), .int (nI dm), .int (nI th), .int (nI be), .int wh, .int (nI at_), .int (nI wr), .int (nI fi)])), (aI, .inl (cI, 65536, .inl (fI))), (aB, .inl (cB, 65536, .inl (fB))), (aO, .inl (cO, 67000, .inl (g))), (aR, .inl (cR, 65536, .inl (fR)))] H locs → W p l e ({ frames := 1, cells := 0, slots := 0, locals := 21 } : Room) s m args below meth c H locs 0 0 Q (F0 m 2 ls []) := by
    intro fu
    induction fu with
    | zero => intro q w n1 g ls H locs hfu; exact absurd hfu (Nat.not_lt_zero _)
    | succ fu ih =>
      intro q w n1 g ls H locs hfu hw hq he hg hz hl h
      refine lv_iload_n X.1.1 X.1.2.1 zd_Mo_putNumber_2 rfl (lv_at hl 2 rfl) ?_
      refine lv_sipush (v := nI 128) X.1.1 X.1.2.1 zd_Mo_putNumber_3 (by decide) ?_
      refine lv_icmp_lt (tgt := 31) X.1.1 X.1.2.1 zd_Mo_putNumber_6 rfl (fun c1 => ?_) (fun c1 => ?_)
      · have c1 : w < 128 := zc_lt_t (by omega) (by omega) c1
        rw [numB_end q c1] at he hz
        have hz : n1 + 1 = nm + (numB 4 v).length := hz
        refine lv_aload_n X.1.1 X.1.2.1 zd_Mo_putNumber_31 rfl (lv_at hl 0 rfl) ?_
        refine lv_iload_n X.1.1 X.1.2.1 zd_Mo_putNumber_32 rfl (lv_at hl 2 rfl) ?_
        refine rCv (wr := []) (wf := fun _ => [(m0, .inr (4, [.ref aI, .ref aB, .ref aO, .ref aR, .int (nI n), .int (nI nb), .int (nI (n1 + 1)), .int (nI cp), .int (nI frs), .int (nI dm), .int (nI th), .int (nI be), .int wh, .int (nI at_), .int (nI wr), .int (nI fi)])), (aI, .inl (cI, 65536, .inl (fI))), (aB, .inl (cB, 65536, .inl (fB))), (aO, .inl (cO, 67000, .inl (upd g n1 (b8 (nI w))))), (aR, .inl (cR, 65536, .inl (fR)))]) (rest := []) X h hl.1 (zc_Mo_put l D (m0 := m0) (aI := aI) (aB := aB) (aO := aO) (aR := aR) (wh := wh) (n := n) (nb := nb) (nm := n1) (cp := cp) (frs := frs) (dm := dm) (th := th) (be := be) (at_ := at_) (wr := wr) (fi := fi) (fI := fI) (cI := cI) (fB := fB) (cB := cB) (fO := g) (cO := cO) (fR := fR) (cR := cR) (x := nI w) (by omega) H.size) zw_574 zw_576 zs_19 zw_5 zm_Mo_put zq_Mo_put ⟨Nat.le_of_ble_eq_true rfl, Nat.le_of_ble_eq_true rfl⟩ ⟨Nat.le_of_ble_eq_true rfl, Nat.le_of_ble_eq_true rfl⟩ [0, 1, 2, 3] rfl [0, 1, 2, 3, 4] [] [0, 1, 2, 3, 4] rfl (by decide) rfl (by decide) (by decide) (fun _ => rfl) (by decide) 0 rfl rfl rfl (Nat.le_of_ble_eq_true rfl) zd_Mo_putNumber_33 (fun _ H locs hp h => ?_)
        have h : zH D A s [(m0, .inr (4, [.ref aI, .ref aB, .ref aO, .ref aR, .int (nI n), .int (nI nb), .int (nI (n1 + 1)), .int (nI cp), .int (nI frs), .int (nI dm), .int (nI th), .int (nI be), .int wh, .int (nI at_), .int (nI wr), .int (nI fi)])), (aI, .inl (cI, 65536, .inl (fI))), (aB, .inl (cB, 65536, .inl (fB))), (aO, .inl (cO, 67000, .inl (upd g n1 (b8 (nI w))))), (aR, .inl (cR, 65536, .inl (fR)))] H locs := h
        rw [hz] at h
        exact ret _ H locs ls _ (⟨by rw [← hz, tx_push]; exact he, fit_upd hg _ _⟩) h zd_Mo_putNumber_36
      · have c1 : 128 ≤ w := zc_lt_f (by omega) (by omega) c1
        obtain ⟨q, rfl⟩ : ∃ q1, q = q1 + 1 := by
          cases q with
          | zero => exact absurd hq (by simp; omega)
          | succ q => exact ⟨q, rfl⟩
        rw [numB_go q (by omega)] at he hz
        rw [List.length_cons] at hz
        refine lv_aload_n X.1.1 X.1.2.1 zd_Mo_putNumber_9 rfl (lv_at hl 0 rfl) ?_
        refine lv_iload_n X.1.1 X.1.2.1 zd_Mo_putNumber_10 rfl (lv_at hl 2 rfl) ?_
        refine lv_sipush (v := nI 128) X.1.1 X.1.2.1 zd_Mo_putNumber_11 (by decide) ?_
        refine lv_irem X.1.1 X.1.2.1 zd_Mo_putNumber_14 (by decide) ?_
        refine zTop (y := nI (w % 128)) (pk_rem (by omega) (by omega) (by omega)) ?_
        refine lv_sipush (v := nI 128) X.1.1 X.1.2.1 zd_Mo_putNumber_15 (by decide) ?_
        refine lv_iadd X.1.1 X.1.2.1 zd_Mo_putNumber_18 ?_
        refine zTop (y := nI (w % 128 + 128)) (nI_add _ _) ?_
        refine rCv (wr := []) (wf := fun _ => [(m0, .inr (4, [.ref aI, .ref aB, .ref aO, .ref aR, .int (nI n), .int (nI nb), .int (nI (n1 + 1)), .int (nI cp), .int (nI frs), .int (nI dm), .int (nI th), .int (nI be), .int wh, .int (nI at_), .int (nI wr), .int (nI fi)])), (aI, .inl (cI, 65536, .inl (fI))), (aB, .inl (cB, 65536, .inl (fB))), (aO, .inl (cO, 67000, .inl (upd g n1 (b8 (nI (w % 128 + 128)))))), (aR, .inl (cR, 65536, .inl (fR)))]) (rest := []) X h hl.1 (zc_Mo_put l D (m0 := m0) (aI := aI) (aB := aB) (aO := aO) (aR := aR) (wh := wh) (n := n) (nb := nb) (nm := n1) (cp := cp) (frs := frs) (dm := dm) (th := th) (be := be) (at_ := at_) (wr := wr) (fi := fi) (fI := fI) (cI := cI) (fB := fB) (cB := cB) (fO := g) (cO := cO) (fR := fR) (cR := cR) (x := nI (w % 128 + 128)) (by omega) H.size) zw_574 zw_576 zs_19 zw_5 zm_Mo_put zq_Mo_put ⟨Nat.le_of_ble_eq_true rfl, Nat.le_of_ble_eq_true rfl⟩ ⟨Nat.le_of_ble_eq_true rfl, Nat.le_of_ble_eq_true rfl⟩ [0, 1, 2, 3] rfl [0, 1, 2, 3, 4] [] [0, 1, 2, 3, 4] rfl (by decide) rfl (by decide) (by decide) (fun _ => rfl) (by decide) 0 rfl rfl rfl (Nat.le_of_ble_eq_true rfl) zd_Mo_putNumber_19 (fun _ H locs hp h => ?_)
        have h : zH D A s [(m0, .inr (4, [.ref aI, .ref aB, .ref aO, .ref aR, .int (nI n), .int (nI nb), .int (nI (n1 + 1)), .int (nI cp), .int (nI frs), .int (nI dm), .int (nI th), .int (nI be), .int wh, .int (nI at_), .int (nI wr), .int (nI fi)])), (aI, .inl (cI, 65536, .inl (fI))), (aB, .inl (cB, 65536, .inl (fB))), (aO, .inl (cO, 67000, .inl (upd g n1 (b8 (nI (w % 128 + 128)))))), (aR, .inl (cR, 65536, .inl (fR)))] H locs := h
        refine lv_iload_n X.1.1 X.1.2.1 zd_Mo_putNumber_22 rfl (lv_at hl 2 rfl) ?_
        refine lv_sipush (v := nI 128) X.1.1 X.1.2.1 zd_Mo_putNumber_23 (by decide) ?_
        refine lv_idiv X.1.1 X.1.2.1 zd_Mo_putNumber_26 (by decide) ?_
        refine zTop (y := nI (w / 128)) (pk_div (by omega) (by omega) (by omega)) ?_
        refine lv_istore_n X.1.1 X.1.2.1 zd_Mo_putNumber_27 rfl hl (by decide) rfl (fun ls hl => ?_)
        have hl : lv_has ls 3 [(2, .int (nI (w / 128))), (0, .ref m0), (1, .int (nI v))] := hl
        refine lv_goto (tgt := 2) X.1.1 X.1.2.1 zd_Mo_putNumber_28 rfl ?_
        exact ih q (w / 128) (n1 + 1) (upd g n1 (b8 (nI (w % 128 + 128)))) ls H locs (by omega) (by omega) (Nat.div_lt_of_lt_mul (by rw [Nat.pow_succ, Nat.mul_comm] at hq; exact hq)) (by rw [tx_push, List.append_assoc]; exact he) (fit_upd hg _ _) (by omega) (lv_sub hl [1, 2, 0] rfl) h
  exact loop _ 4 v nm fO ls H locs (Nat.lt_succ_self _) (hv) (Nat.lt_trans hv (by decide)) (rfl) (hf) (rfl) (lv_sub hl [1, 2, 0] rfl) h

set_option maxHeartbeats 4000000 in
set_option maxRecDepth 100000 in
theorem zc_Mo_putCopy (l : Launch) (D : va_G) {m0 aI aB aO aR n nb nm cp frs dm th be at_ wr fi : Nat} {fI fB fO fR : Nat → Int32} {cI cB cO cR : ClassId} {pp : Nat} (hf : sb_Fit fO) (hp : pp < 65536) (hb : be < 65536) (hn : nm + (cpB pp be).length ≤ 67000) (sz : Nat) : zMv l D zy_Mo_putCopy zb_Mo_putCopy 3 ({ frames := 1, cells := 0, slots := 0, locals := 21 } : Room) [.ref m0] [(cI, .byte), (cB, .byte), (cO, .byte), (cR, .byte)] [(m0, .inr (4, [.ref aI, .ref aB, .ref aO, .ref aR, .int (nI n), .int (nI nb), .int (nI nm), .int (nI cp), .int (nI frs), .int (nI dm), .int (nI th), .int (nI be), .int (nI pp), .int (nI at_), .int (nI wr), .int (nI fi)])), (aI, .inl (cI, 65536, .inl (fI))), (aB, .inl (cB, 65536, .inl (fB))), (aO, .inl (cO, 67000, .inl (fO))), (aR, .inl (cR, 65536, .inl (fR)))] sz (fun (u : Nat → Int32) => tx u (nm + (cpB pp be).length) = tx fO nm ++ cpB pp be ∧ sb_Fit u) (fun u => [(m0, .inr (4, [.ref aI, .ref aB, .ref aO, .ref aR, .int (nI n), .int (nI nb), .int (nI (nm + (cpB pp be).length)), .int (nI (cp + 1)), .int (nI frs), .int (nI dm), .int (nI th), .int (nI be), .int (nI pp), .int (nI at_), .int (nI wr), .int (nI fi)])), (aI, .inl (cI, 65536, .inl (fI))), (aB, .inl (cB, 65536, .inl (fB))), (aO, .inl (cO, 67000, .inl (u))), (aR, .inl (cR, 65536, .inl (fR)))]) := by
  refine zEv (by decide) (Nat.le_of_ble_eq_true rfl) (fun p e s m args below meth c ls A Q X hin hl h hsz ret => ?_)
  have hl : lv_has ls 3 [(0, .ref m0)] := hl
  generalize hH0 : s.heap = H at h ⊢
  have h : zH D A s [(m0, .inr (4, [.ref aI, .ref aB, .ref aO, .ref aR, .int (nI n), .int (nI nb), .int (nI nm), .int (nI cp), .int (nI frs), .int (nI dm), .int (nI th), .int (nI be), .int (nI pp), .int (nI at_), .int (nI wr), .int (nI fi)])), (aI, .inl (cI, 65536, .inl (fI))), (aB, .inl (cB, 65536, .inl (fB))), (aO, .inl (cO, 67000, .inl (fO))), (aR, .inl (cR, 65536, .inl (fR)))] H [] := h
  generalize hL0 : ([] : List Loc) = locs at h ⊢
  refine lv_sipush (v := nI 128) X.1.1 X.1.2.1 zd_Mo_putCopy_0 (by decide) ?_
  refine lv_istore_n X.1.1 X.1.2.1 zd_Mo_putCopy_3 rfl hl (by decide) rfl (fun ls hl => ?_)
  have hl : lv_has ls 3 [(1, .int (nI 128)), (0, .ref m0)] := hl
  refine lv_iconst (v := nI 0) X.1.1 X.1.2.1 zd_Mo_putCopy_4 (by decide) ?_
  refine lv_istore_n X.1.1 X.1.2.1 zd_Mo_putCopy_5 rfl hl (by decide) rfl (fun ls hl => ?_)
  have hl : lv_has ls 3 [(2, .int (nI 0)), (1, .int (nI 128)), (0, .ref m0)] := hl
  have hb4 := bsm_lt pp 4
  have hb2 := bsm_lt be 2
  have hcl : (cpB pp be).length = (nzS pp 0 4).length + (nzS be 0 2).length + 1 := by unfold cpB; rw [List.length_cons, List.length_append]
  have l1 : ∀ (fu : Nat) (k : Nat) (ls : Array Slot) (H : Heap) (locs : List Loc), 4 - k < fu → k ≤ 4 → lv_has ls 3 [(0, .ref m0), (1, .int (nI (128 + bsm pp k))), (2, .int (nI k))] → zH D A s [(m0, .inr (4, [.ref aI, .ref aB, .ref aO, .ref aR, .int (nI n), .int (nI nb), .int (nI nm), .int (nI cp), .int (nI frs), .int (nI dm), .int (nI th), .int (nI be), .int (nI pp), .int (nI at_), .int (nI wr), .int (nI fi)])), (aI, .inl (cI, 65536, .inl (fI))), (aB, .inl (cB, 65536, .inl (fB))), (aO, .inl (cO, 67000, .inl (fO))), (aR, .inl (cR, 65536, .inl (fR)))] H locs → W p l e ({ frames := 1, cells := 0, slots := 0, locals := 21 } : Room) s m args below meth c H locs 0 0 Q (F0 m 6 ls []) := by
    intro fu
    induction fu with
    | zero => intro k ls H locs hfu; exact absurd hfu (Nat.not_lt_zero _)
    | succ fu ih =>
      intro k ls H locs hfu hk hl h
      have hbk := bsm_lt pp k
      have hpw : (2 : Nat) ^ k ≤ 2 ^ 4 := Nat.pow_le_pow_right (by decide) (by omega)
      have hby := byt_lt pp k
      refine lv_iload_n X.1.1 X.1.2.1 zd_Mo_putCopy_6 rfl (lv_at hl 2 rfl) ?_
      refine lv_iconst (v := nI 4) X.1.1 X.1.2.1 zd_Mo_putCopy_7 (by decide) ?_
      refine lv_icmp_ge (tgt := 39) X.1.1 X.1.2.1 zd_Mo_putCopy_8 rfl (fun c1 => ?_) (fun c1 => ?_)
      · have c1 : 4 ≤ k := zc_ge_t (by omega) (by omega) c1
        have ek : k = 4 := by omega
        subst ek
        have hl : lv_has ls 3 [(0, .ref m0), (1, .int (nI (128 + bsm pp 4))), (2, .int (nI 4))] := hl
        refine lv_iconst (v := nI 0) X.1.1 X.1.2.1 zd_Mo_putCopy_39 (by decide) ?_
        refine lv_istore_n X.1.1 X.1.2.1 zd_Mo_putCopy_40 rfl hl (by decide) rfl (fun ls hl => ?_)
        have hl : lv_has ls 3 [(2, .int (nI 0)), (0, .ref m0), (1, .int (nI (128 + bsm pp 4)))] := hl
        have e0 : 128 + bsm pp 4 = 128 + bsm pp 4 + 16 * bsm be 0 := by rw [show bsm be 0 = 0 from rfl, Nat.mul_zero, Nat.add_zero]
        rw [e0] at hl
        have hl : lv_has ls 3 [(2, .int (nI 0)), (0, .ref m0), (1, .int (nI (128 + bsm pp 4 + 16 * bsm be 0)))] := hl
        have l2 : ∀ (fu : Nat) (k : Nat) (ls : Array Slot) (H : Heap) (locs : List Loc), 2 - k < fu → k ≤ 2 → lv_has ls 3 [(0, .ref m0), (1, .int (nI (128 + bsm pp 4 + 16 * bsm be k))), (2, .int (nI k))] → zH D A s [(m0, .inr (4, [.ref aI, .ref aB, .ref aO, .ref aR, .int (nI n), .int (nI nb), .int (nI nm), .int (nI cp), .int (nI frs), .int (nI dm), .int (nI th), .int (nI be), .int (nI pp), .int (nI at_), .int (nI wr), .int (nI fi)])), (aI, .inl (cI, 65536, .inl (fI))), (aB, .inl (cB, 65536, .inl (fB))), (aO, .inl (cO, 67000, .inl (fO))), (aR, .inl (cR, 65536, .inl (fR)))] H locs → W p l e ({ frames := 1, cells := 0, slots := 0, locals := 21 } : Room) s m args below meth c H locs 0 0 Q (F0 m 41 ls []) := by
          intro fu
          induction fu with
          | zero => intro k ls H locs hfu; exact absurd hfu (Nat.not_lt_zero _)
          | succ fu ih =>
            intro k ls H locs hfu hk hl h
            have hbk := bsm_lt be k
            have hpw : (2 : Nat) ^ k ≤ 2 ^ 4 := Nat.pow_le_pow_right (by decide) (by omega)
            have hby := byt_lt be k
            refine lv_iload_n X.1.1 X.1.2.1 zd_Mo_putCopy_41 rfl (lv_at hl 2 rfl) ?_
            refine lv_iconst (v := nI 2) X.1.1 X.1.2.1 zd_Mo_putCopy_42 (by decide) ?_
            refine lv_icmp_ge (tgt := 75) X.1.1 X.1.2.1 zd_Mo_putCopy_43 rfl (fun c1 => ?_) (fun c1 => ?_)
            · have c1 : 2 ≤ k := zc_ge_t (by omega) (by omega) c1
              have ek : k = 2 := by omega
              subst ek
              have hl : lv_has ls 3 [(0, .ref m0), (1, .int (nI (128 + bsm pp 4 + 16 * bsm be 2))), (2, .int (nI 2))] := hl
              refine lv_aload_n X.1.1 X.1.2.1 zd_Mo_putCopy_75 rfl (lv_at hl 0 rfl) ?_
              refine lv_iload_n X.1.1 X.1.2.1 zd_Mo_putCopy_76 rfl (lv_at hl 1 rfl) ?_
              refine rCv (wr := []) (wf := fun _ => [(m0, .inr (4, [.ref aI, .ref aB, .ref aO, .ref aR, .int (nI n), .int (nI nb), .int (nI (nm + 1)), .int (nI cp), .int (nI frs), .int (nI dm), .int (nI th), .int (nI be), .int (nI pp), .int (nI at_), .int (nI wr), .int (nI fi)])), (aI, .inl (cI, 65536, .inl (fI))), (aB, .inl (cB, 65536, .inl (fB))), (aO, .inl (cO, 67000, .inl (upd fO nm (b8 (nI (128 + bsm pp 4 + 16 * bsm be 2)))))), (aR, .inl (cR, 65536, .inl (fR)))]) (rest := []) X h hl.1 (zc_Mo_put l D (m0 := m0) (aI := aI) (aB := aB) (aO := aO) (aR := aR) (wh := nI pp) (n := n) (nb := nb) (nm := nm) (cp := cp) (frs := frs) (dm := dm) (th := th) (be := be) (at_ := at_) (wr := wr) (fi := fi) (fI := fI) (cI := cI) (fB := fB) (cB := cB) (fO := fO) (cO := cO) (fR := fR) (cR := cR) (x := nI (128 + bsm pp 4 + 16 * bsm be 2)) (by omega) H.size) zw_574 zw_576 zs_19 zw_5 zm_Mo_put zq_Mo_put ⟨Nat.le_of_ble_eq_true rfl, Nat.le_of_ble_eq_true rfl⟩ ⟨Nat.le_of_ble_eq_true rfl, Nat.le_of_ble_eq_true rfl⟩ [0, 1, 2, 3] rfl [0, 1, 2, 3, 4] [] [0, 1, 2, 3, 4] rfl (by decide) rfl (by decide) (by decide) (fun _ => rfl) (by decide) 0 rfl rfl rfl (Nat.le_of_ble_eq_true rfl) zd_Mo_putCopy_77 (fun _ H locs hp h => ?_)
              have h : zH D A s [(m0, .inr (4, [.ref aI, .ref aB, .ref aO, .ref aR, .int (nI n), .int (nI nb), .int (nI (nm + 1)), .int (nI cp), .int (nI frs), .int (nI dm), .int (nI th), .int (nI be), .int (nI pp), .int (nI at_), .int (nI wr), .int (nI fi)])), (aI, .inl (cI, 65536, .inl (fI))), (aB, .inl (cB, 65536, .inl (fB))), (aO, .inl (cO, 67000, .inl (upd fO nm (b8 (nI (128 + bsm pp 4 + 16 * bsm be 2)))))), (aR, .inl (cR, 65536, .inl (fR)))] H locs := h
              have hbt : 128 + bsm pp 4 + 16 * bsm be 2 < 256 := by omega
              refine lv_iconst (v := nI 0) X.1.1 X.1.2.1 zd_Mo_putCopy_80 (by decide) ?_
              refine lv_istore_n X.1.1 X.1.2.1 zd_Mo_putCopy_81 rfl hl (by decide) rfl (fun ls hl => ?_)
              have hl : lv_has ls 3 [(2, .int (nI 0)), (0, .ref m0), (1, .int (nI (128 + bsm pp 4 + 16 * bsm be 2)))] := hl
              have l3 : ∀ (fu : Nat) (k : Nat) (n1 : Nat) (g : Nat → Int32) (ls : Array Slot) (H : Heap) (locs : List Loc), 4 - k < fu → k ≤ 4 → tx g n1 ++ (nzS pp k (4 - k) ++ nzS be 0 2) = tx fO nm ++ cpB pp be → sb_Fit g → n1 + ((nzS pp k (4 - k) ++ nzS be 0 2)).length = nm + (cpB pp be).length → lv_has ls 3 [(0, .ref m0), (1, .int (nI (128 + bsm pp 4 + 16 * bsm be 2))), (2, .int (nI k))] → zH D A s [(m0, .inr (4, [.ref aI, .ref aB, .ref aO, .ref aR, .int (nI n), .int (nI nb), .int (nI n1), .int (nI cp), .int (nI frs), .int (nI dm), .int (nI th), .int (nI be), .int (nI pp), .int (nI at_), .int (nI wr), .int (nI fi)])), (aI, .inl (cI, 65536, .inl (fI))), (aB, .inl (cB, 65536, .inl (fB))), (aO, .inl (cO, 67000, .inl (g))), (aR, .inl (cR, 65536, .inl (fR)))] H locs → W p l e ({ frames := 1, cells := 0, slots := 0, locals := 21 } : Room) s m args below meth c H locs 0 0 Q (F0 m 82 ls []) := by
                intro fu
                induction fu with
                | zero => intro k n1 g ls H locs hfu; exact absurd hfu (Nat.not_lt_zero _)
                | succ fu ih =>
                  intro k n1 g ls H locs hfu hk he hg hz hl h
                  refine lv_iload_n X.1.1 X.1.2.1 zd_Mo_putCopy_82 rfl (lv_at hl 2 rfl) ?_
                  refine lv_iconst (v := nI 4) X.1.1 X.1.2.1 zd_Mo_putCopy_83 (by decide) ?_
                  refine lv_icmp_ge (tgt := 114) X.1.1 X.1.2.1 zd_Mo_putCopy_84 rfl (fun c1 => ?_) (fun c1 => ?_)
                  · have c1 : 4 ≤ k := zc_ge_t (by omega) (by omega) c1
                    have ek : k = 4 := by omega
                    subst ek
                    have hl : lv_has ls 3 [(0, .ref m0), (1, .int (nI (128 + bsm pp 4 + 16 * bsm be 2))), (2, .int (nI 4))] := hl
                    rw [show nzS pp 4 (4 - 4) = [] from rfl, List.nil_append] at he hz
                    refine lv_iconst (v := nI 0) X.1.1 X.1.2.1 zd_Mo_putCopy_114 (by decide) ?_
                    refine lv_istore_n X.1.1 X.1.2.1 zd_Mo_putCopy_115 rfl hl (by decide) rfl (fun ls hl => ?_)
                    have hl : lv_has ls 3 [(2, .int (nI 0)), (0, .ref m0), (1, .int (nI (128 + bsm pp 4 + 16 * bsm be 2)))] := hl
                    have l4 : ∀ (fu : Nat) (k : Nat) (n1 : Nat) (g : Nat → Int32) (ls : Array Slot) (H : Heap) (locs : List Loc), 2 - k < fu → k ≤ 2 → tx g n1 ++ nzS be k (2 - k) = tx fO nm ++ cpB pp be → sb_Fit g → n1 + (nzS be k (2 - k)).length = nm + (cpB pp be).length → lv_has ls 3 [(0, .ref m0), (1, .int (nI (128 + bsm pp 4 + 16 * bsm be 2))), (2, .int (nI k))] → zH D A s [(m0, .inr (4, [.ref aI, .ref aB, .ref aO, .ref aR, .int (nI n), .int (nI nb), .int (nI n1), .int (nI cp), .int (nI frs), .int (nI dm), .int (nI th), .int (nI be), .int (nI pp), .int (nI at_), .int (nI wr), .int (nI fi)])), (aI, .inl (cI, 65536, .inl (fI))), (aB, .inl (cB, 65536, .inl (fB))), (aO, .inl (cO, 67000, .inl (g))), (aR, .inl (cR, 65536, .inl (fR)))] H locs → W p l e ({ frames := 1, cells := 0, slots := 0, locals := 21 } : Room) s m args below meth c H locs 0 0 Q (F0 m 116 ls []) := by
                      intro fu
                      induction fu with
                      | zero => intro k n1 g ls H locs hfu; exact absurd hfu (Nat.not_lt_zero _)
                      | succ fu ih =>
                        intro k n1 g ls H locs hfu hk he hg hz hl h
                        refine lv_iload_n X.1.1 X.1.2.1 zd_Mo_putCopy_116 rfl (lv_at hl 2 rfl) ?_
                        refine lv_iconst (v := nI 2) X.1.1 X.1.2.1 zd_Mo_putCopy_117 (by decide) ?_
                        refine lv_icmp_ge (tgt := 150) X.1.1 X.1.2.1 zd_Mo_putCopy_118 rfl (fun c1 => ?_) (fun c1 => ?_)
                        · have c1 : 2 ≤ k := zc_ge_t (by omega) (by omega) c1
                          have ek : k = 2 := by omega
                          subst ek
                          have hl : lv_has ls 3 [(0, .ref m0), (1, .int (nI (128 + bsm pp 4 + 16 * bsm be 2))), (2, .int (nI 2))] := hl
                          rw [show nzS be 2 (2 - 2) = [] from rfl] at he hz
                          rw [List.append_nil] at he
                          rw [List.length_nil, Nat.add_zero] at hz
                          refine lv_aload_n X.1.1 X.1.2.1 zd_Mo_putCopy_150 rfl (lv_at hl 0 rfl) ?_
                          refine lv_dup X.1.1 X.1.2.1 zd_Mo_putCopy_151 rfl ?_
                          refine rG X h 0 rfl rfl zW_Mo 7 (by decide) zw_500 rfl zd_Mo_putCopy_152 ?_
                          refine lv_iconst (v := nI 1) X.1.1 X.1.2.1 zd_Mo_putCopy_155 (by decide) ?_
                          refine lv_iadd X.1.1 X.1.2.1 zd_Mo_putCopy_156 ?_
                          refine zTop (y := nI (cp + 1)) (nI_add _ _) ?_
                          refine rP X h 0 rfl rfl zW_Mo zO_Mo zN_Mo 7 (by decide) zw_500 rfl (rfl) (rfl) (Nat.le_of_ble_eq_true rfl) zd_Mo_putCopy_157 (fun H locs h => ?_)
                          have h : zH D A s [(m0, .inr (4, [.ref aI, .ref aB, .ref aO, .ref aR, .int (nI n), .int (nI nb), .int (nI n1), .int (nI (cp + 1)), .int (nI frs), .int (nI dm), .int (nI th), .int (nI be), .int (nI pp), .int (nI at_), .int (nI wr), .int (nI fi)])), (aI, .inl (cI, 65536, .inl (fI))), (aB, .inl (cB, 65536, .inl (fB))), (aO, .inl (cO, 67000, .inl (g))), (aR, .inl (cR, 65536, .inl (fR)))] H locs := h
                          rw [hz] at h
                          exact ret _ H locs ls _ (⟨by rw [← hz]; exact he, hg⟩) h zd_Mo_putCopy_160
                        · have c1 : k < 2 := zc_ge_f (by omega) (by omega) c1
                          have e1 : nzS be k (2 - k) = nzB (byt be k) ++ nzS be (k + 1) (2 - (k + 1)) := by rw [show 2 - k = (2 - (k + 1)) + 1 by omega]; rfl
                          rw [e1] at he hz
                          simp only [List.length_append] at hz
                          have hdb : (128 + bsm pp 4 + 16 * bsm be 2) / 2 ^ (4 + k) < 2 ^ 32 := Nat.lt_of_le_of_lt (Nat.div_le_self _ _) (by omega)
                          have hbit := bsm_bit2 pp be k (by omega)
                          refine lv_iload_n X.1.1 X.1.2.1 zd_Mo_putCopy_121 rfl (lv_at hl 1 rfl) ?_
                          refine lv_iconst (v := nI 4) X.1.1 X.1.2.1 zd_Mo_putCopy_122 (by decide) ?_
                          refine lv_iload_n X.1.1 X.1.2.1 zd_Mo_putCopy_123 rfl (lv_at hl 2 rfl) ?_
                          refine lv_iadd X.1.1 X.1.2.1 zd_Mo_putCopy_124 ?_
                          refine zTop (y := nI (4 + k)) (nI_add _ _) ?_
                          refine lv_iushr (v := nI ((128 + bsm pp 4 + 16 * bsm be 2) / 2 ^ (4 + k))) X.1.1 X.1.2.1 zd_Mo_putCopy_125 ((ush_eq _ (by omega)).trans (ush_nI (by omega))) ?_
                          refine lv_iconst (v := nI 1) X.1.1 X.1.2.1 zd_Mo_putCopy_126 (by decide) ?_
                          refine lv_iand X.1.1 X.1.2.1 zd_Mo_putCopy_127 ?_
                          refine zTop (y := nI ((128 + bsm pp 4 + 16 * bsm be 2) / 2 ^ (4 + k) % 2)) (and1 hdb) ?_
                          refine lv_if_eq (tgt := 144) X.1.1 X.1.2.1 zd_Mo_putCopy_128 rfl (fun c2 => ?_) (fun c2 => ?_)
                          · have c2 : (128 + bsm pp 4 + 16 * bsm be 2) / 2 ^ (4 + k) % 2 = 0 := zc_eq0_t (by omega) (by omega) c2
                            rw [hbit] at c2
                            have c3 : byt be k = 0 := by
                              by_cases hc : byt be k = 0
                              · exact hc
                              · rw [if_neg hc] at c2; omega
                            rw [c3, nzB_0, List.nil_append] at he
                            rw [c3, nzB_0, List.length_nil] at hz
                            refine lv_iinc X.1.1 X.1.2.1 zd_Mo_putCopy_144 hl (k := 2) rfl (v := nI (k + 1)) (nI_add _ _) (by decide) rfl (fun ls hl => ?_)
                            have hl : lv_has ls 3 [(2, .int (nI (k + 1))), (0, .ref m0), (1, .int (nI (128 + bsm pp 4 + 16 * bsm be 2)))] := hl
                            refine lv_goto (tgt := 116) X.1.1 X.1.2.1 zd_Mo_putCopy_147 rfl ?_
                            exact ih (k + 1) n1 g ls H locs (by omega) (by omega) (he) (hg) (by first | omega | (simp only [List.length_append]; omega)) (lv_sub hl [1, 2, 0] rfl) h
                          · have c2 : (128 + bsm pp 4 + 16 * bsm be 2) / 2 ^ (4 + k) % 2 ≠ 0 := zc_eq0_f (by omega) (by omega) c2
                            rw [hbit] at c2
                            have c3 : ¬ byt be k = 0 := fun z => by rw [if_pos z] at c2; omega
                            have e2 : nzB (byt be k) = [b8 (nI (byt be k))] := by unfold nzB; rw [if_neg c3]
                            rw [e2] at he hz
                            simp only [List.length_cons, List.length_nil] at hz
                            refine lv_aload_n X.1.1 X.1.2.1 zd_Mo_putCopy_131 rfl (lv_at hl 0 rfl) ?_
                            refine lv_aload_n X.1.1 X.1.2.1 zd_Mo_putCopy_132 rfl (lv_at hl 0 rfl) ?_
                            refine rG X h 0 rfl rfl zW_Mo 11 (by decide) zw_504 rfl zd_Mo_putCopy_133 ?_
                            refine lv_bipush (v := nI 8) X.1.1 X.1.2.1 zd_Mo_putCopy_136 (by decide) ?_
                            refine lv_iload_n X.1.1 X.1.2.1 zd_Mo_putCopy_138 rfl (lv_at hl 2 rfl) ?_
                            refine lv_imul X.1.1 X.1.2.1 zd_Mo_putCopy_139 ?_
                            refine zTop (y := nI (8 * k)) (pk_mul _ _) ?_
                            refine lv_iushr (v := ((nI be).toUInt32 >>> ((nI (8 * k)).toUInt32 &&& Int32.toUInt32 31)).toInt32) X.1.1 X.1.2.1 zd_Mo_putCopy_140 (rfl) ?_
                            refine rCv (wr := []) (wf := fun _ => [(m0, .inr (4, [.ref aI, .ref aB, .ref aO, .ref aR, .int (nI n), .int (nI nb), .int (nI (n1 + 1)), .int (nI cp), .int (nI frs), .int (nI dm), .int (nI th), .int (nI be), .int (nI pp), .int (nI at_), .int (nI wr), .int (nI fi)])), (aI, .inl (cI, 65536, .inl (fI))), (aB, .inl (cB, 65536, .inl (fB))), (aO, .inl (cO, 67000, .inl (upd g n1 (b8 (((nI be).toUInt32 >>> ((nI (8 * k)).toUInt32 &&& Int32.toUInt32 31)).toInt32))))), (aR, .inl (cR, 65536, .inl (fR)))]) (rest := []) X h hl.1 (zc_Mo_put l D (m0 := m0) (aI := aI) (aB := aB) (aO := aO) (aR := aR) (wh := nI pp) (n := n) (nb := nb) (nm := n1) (cp := cp) (frs := frs) (dm := dm) (th := th) (be := be) (at_ := at_) (wr := wr) (fi := fi) (fI := fI) (cI := cI) (fB := fB) (cB := cB) (fO := g) (cO := cO) (fR := fR) (cR := cR) (x := ((nI be).toUInt32 >>> ((nI (8 * k)).toUInt32 &&& Int32.toUInt32 31)).toInt32) (by omega) H.size) zw_574 zw_576 zs_19 zw_5 zm_Mo_put zq_Mo_put ⟨Nat.le_of_ble_eq_true rfl, Nat.le_of_ble_eq_true rfl⟩ ⟨Nat.le_of_ble_eq_true rfl, Nat.le_of_ble_eq_true rfl⟩ [0, 1, 2, 3] rfl [0, 1, 2, 3, 4] [] [0, 1, 2, 3, 4] rfl (by decide) rfl (by decide) (by decide) (fun _ => rfl) (by decide) 0 rfl rfl rfl (Nat.le_of_ble_eq_true rfl) zd_Mo_putCopy_141 (fun _ H locs hp h => ?_)
                            have h : zH D A s [(m0, .inr (4, [.ref aI, .ref aB, .ref aO, .ref aR, .int (nI n), .int (nI nb), .int (nI (n1 + 1)), .int (nI cp), .int (nI frs), .int (nI dm), .int (nI th), .int (nI be), .int (nI pp), .int (nI at_), .int (nI wr), .int (nI fi)])), (aI, .inl (cI, 65536, .inl (fI))), (aB, .inl (cB, 65536, .inl (fB))), (aO, .inl (cO, 67000, .inl (upd g n1 (b8 (((nI be).toUInt32 >>> ((nI (8 * k)).toUInt32 &&& Int32.toUInt32 31)).toInt32))))), (aR, .inl (cR, 65536, .inl (fR)))] H locs := h
                            rw [b8_byt (by omega) (by omega)] at h
                            have h : zH D A s [(m0, .inr (4, [.ref aI, .ref aB, .ref aO, .ref aR, .int (nI n), .int (nI nb), .int (nI (n1 + 1)), .int (nI cp), .int (nI frs), .int (nI dm), .int (nI th), .int (nI be), .int (nI pp), .int (nI at_), .int (nI wr), .int (nI fi)])), (aI, .inl (cI, 65536, .inl (fI))), (aB, .inl (cB, 65536, .inl (fB))), (aO, .inl (cO, 67000, .inl (upd g n1 (b8 (nI (byt be k)))))), (aR, .inl (cR, 65536, .inl (fR)))] H locs := h
                            refine lv_iinc X.1.1 X.1.2.1 zd_Mo_putCopy_144 hl (k := 2) rfl (v := nI (k + 1)) (nI_add _ _) (by decide) rfl (fun ls hl => ?_)
                            have hl : lv_has ls 3 [(2, .int (nI (k + 1))), (0, .ref m0), (1, .int (nI (128 + bsm pp 4 + 16 * bsm be 2)))] := hl
                            refine lv_goto (tgt := 116) X.1.1 X.1.2.1 zd_Mo_putCopy_147 rfl ?_
                            exact ih (k + 1) (n1 + 1) (upd g n1 (b8 (nI (byt be k)))) ls H locs (by omega) (by omega) (by rw [tx_push, List.append_assoc]; exact he) (fit_upd hg _ _) (by first | omega | (simp only [List.length_append]; omega)) (lv_sub hl [1, 2, 0] rfl) h
                    exact l4 _ 0 n1 g ls H locs (Nat.lt_succ_self _) (by omega) (by rw [Nat.sub_zero]; exact he) (hg) (by rw [Nat.sub_zero]; exact hz) (lv_sub hl [1, 2, 0] rfl) h
                  · have c1 : k < 4 := zc_ge_f (by omega) (by omega) c1
                    have e1 : nzS pp k (4 - k) = nzB (byt pp k) ++ nzS pp (k + 1) (4 - (k + 1)) := by rw [show 4 - k = (4 - (k + 1)) + 1 by omega]; rfl
                    rw [e1] at he hz
                    simp only [List.length_append] at hz
                    have hdb : (128 + bsm pp 4 + 16 * bsm be 2) / 2 ^ (k) < 2 ^ 32 := Nat.lt_of_le_of_lt (Nat.div_le_self _ _) (by omega)
                    have hbit := bsm_bit pp be k (by omega)
                    refine lv_iload_n X.1.1 X.1.2.1 zd_Mo_putCopy_87 rfl (lv_at hl 1 rfl) ?_
                    refine lv_iload_n X.1.1 X.1.2.1 zd_Mo_putCopy_88 rfl (lv_at hl 2 rfl) ?_
                    refine lv_iushr (v := nI ((128 + bsm pp 4 + 16 * bsm be 2) / 2 ^ (k))) X.1.1 X.1.2.1 zd_Mo_putCopy_89 ((ush_eq _ (by omega)).trans (ush_nI (by omega))) ?_
                    refine lv_iconst (v := nI 1) X.1.1 X.1.2.1 zd_Mo_putCopy_90 (by decide) ?_
                    refine lv_iand X.1.1 X.1.2.1 zd_Mo_putCopy_91 ?_
                    refine zTop (y := nI ((128 + bsm pp 4 + 16 * bsm be 2) / 2 ^ (k) % 2)) (and1 hdb) ?_
                    refine lv_if_eq (tgt := 108) X.1.1 X.1.2.1 zd_Mo_putCopy_92 rfl (fun c2 => ?_) (fun c2 => ?_)
                    · have c2 : (128 + bsm pp 4 + 16 * bsm be 2) / 2 ^ (k) % 2 = 0 := zc_eq0_t (by omega) (by omega) c2
                      rw [hbit] at c2
                      have c3 : byt pp k = 0 := by
                        by_cases hc : byt pp k = 0
                        · exact hc
                        · rw [if_neg hc] at c2; omega
                      rw [c3, nzB_0, List.nil_append] at he
                      rw [c3, nzB_0, List.length_nil] at hz
                      refine lv_iinc X.1.1 X.1.2.1 zd_Mo_putCopy_108 hl (k := 2) rfl (v := nI (k + 1)) (nI_add _ _) (by decide) rfl (fun ls hl => ?_)
                      have hl : lv_has ls 3 [(2, .int (nI (k + 1))), (0, .ref m0), (1, .int (nI (128 + bsm pp 4 + 16 * bsm be 2)))] := hl
                      refine lv_goto (tgt := 82) X.1.1 X.1.2.1 zd_Mo_putCopy_111 rfl ?_
                      exact ih (k + 1) n1 g ls H locs (by omega) (by omega) (he) (hg) (by first | omega | (simp only [List.length_append]; omega)) (lv_sub hl [1, 2, 0] rfl) h
                    · have c2 : (128 + bsm pp 4 + 16 * bsm be 2) / 2 ^ (k) % 2 ≠ 0 := zc_eq0_f (by omega) (by omega) c2
                      rw [hbit] at c2
                      have c3 : ¬ byt pp k = 0 := fun z => by rw [if_pos z] at c2; omega
                      have e2 : nzB (byt pp k) = [b8 (nI (byt pp k))] := by unfold nzB; rw [if_neg c3]
                      rw [e2] at he hz
                      simp only [List.length_cons, List.length_nil] at hz
                      refine lv_aload_n X.1.1 X.1.2.1 zd_Mo_putCopy_95 rfl (lv_at hl 0 rfl) ?_
                      refine lv_aload_n X.1.1 X.1.2.1 zd_Mo_putCopy_96 rfl (lv_at hl 0 rfl) ?_
                      refine rG X h 0 rfl rfl zW_Mo 12 (by decide) zw_505 rfl zd_Mo_putCopy_97 ?_
                      refine lv_bipush (v := nI 8) X.1.1 X.1.2.1 zd_Mo_putCopy_100 (by decide) ?_
                      refine lv_iload_n X.1.1 X.1.2.1 zd_Mo_putCopy_102 rfl (lv_at hl 2 rfl) ?_
                      refine lv_imul X.1.1 X.1.2.1 zd_Mo_putCopy_103 ?_
                      refine zTop (y := nI (8 * k)) (pk_mul _ _) ?_
                      refine lv_iushr (v := ((nI pp).toUInt32 >>> ((nI (8 * k)).toUInt32 &&& Int32.toUInt32 31)).toInt32) X.1.1 X.1.2.1 zd_Mo_putCopy_104 (rfl) ?_
                      refine rCv (wr := []) (wf := fun _ => [(m0, .inr (4, [.ref aI, .ref aB, .ref aO, .ref aR, .int (nI n), .int (nI nb), .int (nI (n1 + 1)), .int (nI cp), .int (nI frs), .int (nI dm), .int (nI th), .int (nI be), .int (nI pp), .int (nI at_), .int (nI wr), .int (nI fi)])), (aI, .inl (cI, 65536, .inl (fI))), (aB, .inl (cB, 65536, .inl (fB))), (aO, .inl (cO, 67000, .inl (upd g n1 (b8 (((nI pp).toUInt32 >>> ((nI (8 * k)).toUInt32 &&& Int32.toUInt32 31)).toInt32))))), (aR, .inl (cR, 65536, .inl (fR)))]) (rest := []) X h hl.1 (zc_Mo_put l D (m0 := m0) (aI := aI) (aB := aB) (aO := aO) (aR := aR) (wh := nI pp) (n := n) (nb := nb) (nm := n1) (cp := cp) (frs := frs) (dm := dm) (th := th) (be := be) (at_ := at_) (wr := wr) (fi := fi) (fI := fI) (cI := cI) (fB := fB) (cB := cB) (fO := g) (cO := cO) (fR := fR) (cR := cR) (x := ((nI pp).toUInt32 >>> ((nI (8 * k)).toUInt32 &&& Int32.toUInt32 31)).toInt32) (by omega) H.size) zw_574 zw_576 zs_19 zw_5 zm_Mo_put zq_Mo_put ⟨Nat.le_of_ble_eq_true rfl, Nat.le_of_ble_eq_true rfl⟩ ⟨Nat.le_of_ble_eq_true rfl, Nat.le_of_ble_eq_true rfl⟩ [0, 1, 2, 3] rfl [0, 1, 2, 3, 4] [] [0, 1, 2, 3, 4] rfl (by decide) rfl (by decide) (by decide) (fun _ => rfl) (by decide) 0 rfl rfl rfl (Nat.le_of_ble_eq_true rfl) zd_Mo_putCopy_105 (fun _ H locs hp h => ?_)
                      have h : zH D A s [(m0, .inr (4, [.ref aI, .ref aB, .ref aO, .ref aR, .int (nI n), .int (nI nb), .int (nI (n1 + 1)), .int (nI cp), .int (nI frs), .int (nI dm), .int (nI th), .int (nI be), .int (nI pp), .int (nI at_), .int (nI wr), .int (nI fi)])), (aI, .inl (cI, 65536, .inl (fI))), (aB, .inl (cB, 65536, .inl (fB))), (aO, .inl (cO, 67000, .inl (upd g n1 (b8 (((nI pp).toUInt32 >>> ((nI (8 * k)).toUInt32 &&& Int32.toUInt32 31)).toInt32))))), (aR, .inl (cR, 65536, .inl (fR)))] H locs := h
                      rw [b8_byt (by omega) (by omega)] at h
                      have h : zH D A s [(m0, .inr (4, [.ref aI, .ref aB, .ref aO, .ref aR, .int (nI n), .int (nI nb), .int (nI (n1 + 1)), .int (nI cp), .int (nI frs), .int (nI dm), .int (nI th), .int (nI be), .int (nI pp), .int (nI at_), .int (nI wr), .int (nI fi)])), (aI, .inl (cI, 65536, .inl (fI))), (aB, .inl (cB, 65536, .inl (fB))), (aO, .inl (cO, 67000, .inl (upd g n1 (b8 (nI (byt pp k)))))), (aR, .inl (cR, 65536, .inl (fR)))] H locs := h
                      refine lv_iinc X.1.1 X.1.2.1 zd_Mo_putCopy_108 hl (k := 2) rfl (v := nI (k + 1)) (nI_add _ _) (by decide) rfl (fun ls hl => ?_)
                      have hl : lv_has ls 3 [(2, .int (nI (k + 1))), (0, .ref m0), (1, .int (nI (128 + bsm pp 4 + 16 * bsm be 2)))] := hl
                      refine lv_goto (tgt := 82) X.1.1 X.1.2.1 zd_Mo_putCopy_111 rfl ?_
                      exact ih (k + 1) (n1 + 1) (upd g n1 (b8 (nI (byt pp k)))) ls H locs (by omega) (by omega) (by rw [tx_push]; simp only [List.append_assoc] at he ⊢; exact he) (fit_upd hg _ _) (by first | omega | (simp only [List.length_append]; omega)) (lv_sub hl [1, 2, 0] rfl) h
              exact l3 _ 0 (nm + 1) (upd fO nm (b8 (nI (128 + bsm pp 4 + 16 * bsm be 2)))) ls H locs (Nat.lt_succ_self _) (by omega) (by rw [tx_push, List.append_assoc]; unfold cpB; rw [Nat.sub_zero]; rfl) (fit_upd hf _ _) (by rw [hcl, List.length_append]; rw [Nat.sub_zero]; omega) (lv_sub hl [1, 2, 0] rfl) h
            · have c1 : k < 2 := zc_ge_f (by omega) (by omega) c1
              refine lv_aload_n X.1.1 X.1.2.1 zd_Mo_putCopy_46 rfl (lv_at hl 0 rfl) ?_
              refine rG X h 0 rfl rfl zW_Mo 11 (by decide) zw_504 rfl zd_Mo_putCopy_47 ?_
              refine lv_bipush (v := nI 8) X.1.1 X.1.2.1 zd_Mo_putCopy_50 (by decide) ?_
              refine lv_iload_n X.1.1 X.1.2.1 zd_Mo_putCopy_52 rfl (lv_at hl 2 rfl) ?_
              refine lv_imul X.1.1 X.1.2.1 zd_Mo_putCopy_53 ?_
              refine zTop (y := nI (8 * k)) (pk_mul _ _) ?_
              refine lv_iushr (v := ((nI be).toUInt32 >>> ((nI (8 * k)).toUInt32 &&& Int32.toUInt32 31)).toInt32) X.1.1 X.1.2.1 zd_Mo_putCopy_54 (rfl) ?_
              refine lv_sipush (v := nI 255) X.1.1 X.1.2.1 zd_Mo_putCopy_55 (by decide) ?_
              refine lv_iand X.1.1 X.1.2.1 zd_Mo_putCopy_58 ?_
              refine zTop (y := nI (byt be k)) (byt_sh (by omega) (by omega)) ?_
              refine lv_if_eq (tgt := 69) X.1.1 X.1.2.1 zd_Mo_putCopy_59 rfl (fun c2 => ?_) (fun c2 => ?_)
              · have c2 : byt be k = 0 := zc_eq0_t (by omega) (by omega) c2
                have e1 : 128 + bsm pp 4 + 16 * bsm be (k + 1) = 128 + bsm pp 4 + 16 * bsm be k := by rw [bsm_su be k, if_pos c2, Nat.add_zero]
                refine lv_iinc X.1.1 X.1.2.1 zd_Mo_putCopy_69 hl (k := 2) rfl (v := nI (k + 1)) (nI_add _ _) (by decide) rfl (fun ls hl => ?_)
                have hl : lv_has ls 3 [(2, .int (nI (k + 1))), (0, .ref m0), (1, .int (nI (128 + bsm pp 4 + 16 * bsm be k)))] := hl
                refine lv_goto (tgt := 41) X.1.1 X.1.2.1 zd_Mo_putCopy_72 rfl ?_
                rw [← e1] at hl
                exact ih (k + 1) ls H locs (by omega) (by omega) (lv_sub hl [1, 2, 0] rfl) h
              · have c2 : byt be k ≠ 0 := zc_eq0_f (by omega) (by omega) c2
                have e1 : 128 + bsm pp 4 + 16 * bsm be (k + 1) = 128 + bsm pp 4 + 16 * bsm be k + 16 * 2 ^ k := by rw [bsm_su be k, if_neg c2]; omega
                refine lv_iload_n X.1.1 X.1.2.1 zd_Mo_putCopy_62 rfl (lv_at hl 1 rfl) ?_
                refine lv_bipush (v := nI 16) X.1.1 X.1.2.1 zd_Mo_putCopy_63 (by decide) ?_
                refine lv_iload_n X.1.1 X.1.2.1 zd_Mo_putCopy_65 rfl (lv_at hl 2 rfl) ?_
                refine lv_ishl X.1.1 X.1.2.1 zd_Mo_putCopy_66 ?_
                refine zTop (y := nI (16 * 2 ^ k)) (shl16 (by omega)) ?_
                refine lv_iadd X.1.1 X.1.2.1 zd_Mo_putCopy_67 ?_
                refine zTop (y := nI (128 + bsm pp 4 + 16 * bsm be (k + 1))) ((nI_add _ _).trans (congrArg nI e1.symm)) ?_
                refine lv_istore_n X.1.1 X.1.2.1 zd_Mo_putCopy_68 rfl hl (by decide) rfl (fun ls hl => ?_)
                have hl : lv_has ls 3 [(1, .int (nI (128 + bsm pp 4 + 16 * bsm be (k + 1)))), (0, .ref m0), (2, .int (nI k))] := hl
                refine lv_iinc X.1.1 X.1.2.1 zd_Mo_putCopy_69 hl (k := 2) rfl (v := nI (k + 1)) (nI_add _ _) (by decide) rfl (fun ls hl => ?_)
                have hl : lv_has ls 3 [(2, .int (nI (k + 1))), (1, .int (nI (128 + bsm pp 4 + 16 * bsm be (k + 1)))), (0, .ref m0)] := hl
                refine lv_goto (tgt := 41) X.1.1 X.1.2.1 zd_Mo_putCopy_72 rfl ?_
                exact ih (k + 1) ls H locs (by omega) (by omega) (lv_sub hl [2, 1, 0] rfl) h
        exact l2 _ 0 ls H locs (Nat.lt_succ_self _) (by omega) (lv_sub hl [1, 2, 0] rfl) h
      · have c1 : k < 4 := zc_ge_f (by omega) (by omega) c1
        refine lv_aload_n X.1.1 X.1.2.1 zd_Mo_putCopy_11 rfl (lv_at hl 0 rfl) ?_
        refine rG X h 0 rfl rfl zW_Mo 12 (by decide) zw_505 rfl zd_Mo_putCopy_12 ?_
        refine lv_bipush (v := nI 8) X.1.1 X.1.2.1 zd_Mo_putCopy_15 (by decide) ?_
        refine lv_iload_n X.1.1 X.1.2.1 zd_Mo_putCopy_17 rfl (lv_at hl 2 rfl) ?_
        refine lv_imul X.1.1 X.1.2.1 zd_Mo_putCopy_18 ?_
        refine zTop (y := nI (8 * k)) (pk_mul _ _) ?_
        refine lv_iushr (v := ((nI pp).toUInt32 >>> ((nI (8 * k)).toUInt32 &&& Int32.toUInt32 31)).toInt32) X.1.1 X.1.2.1 zd_Mo_putCopy_19 (rfl) ?_
        refine lv_sipush (v := nI 255) X.1.1 X.1.2.1 zd_Mo_putCopy_20 (by decide) ?_
        refine lv_iand X.1.1 X.1.2.1 zd_Mo_putCopy_23 ?_
        refine zTop (y := nI (byt pp k)) (byt_sh (by omega) (by omega)) ?_
        refine lv_if_eq (tgt := 33) X.1.1 X.1.2.1 zd_Mo_putCopy_24 rfl (fun c2 => ?_) (fun c2 => ?_)
        · have c2 : byt pp k = 0 := zc_eq0_t (by omega) (by omega) c2
          have e1 : 128 + bsm pp (k + 1) = 128 + bsm pp k := by rw [bsm_su pp k, if_pos c2, Nat.add_zero]
          refine lv_iinc X.1.1 X.1.2.1 zd_Mo_putCopy_33 hl (k := 2) rfl (v := nI (k + 1)) (nI_add _ _) (by decide) rfl (fun ls hl => ?_)
          have hl : lv_has ls 3 [(2, .int (nI (k + 1))), (0, .ref m0), (1, .int (nI (128 + bsm pp k)))] := hl
          refine lv_goto (tgt := 6) X.1.1 X.1.2.1 zd_Mo_putCopy_36 rfl ?_
          rw [← e1] at hl
          exact ih (k + 1) ls H locs (by omega) (by omega) (lv_sub hl [1, 2, 0] rfl) h
        · have c2 : byt pp k ≠ 0 := zc_eq0_f (by omega) (by omega) c2
          have e1 : 128 + bsm pp (k + 1) = 128 + bsm pp k + 2 ^ k := by rw [bsm_su pp k, if_neg c2]; omega
          refine lv_iload_n X.1.1 X.1.2.1 zd_Mo_putCopy_27 rfl (lv_at hl 1 rfl) ?_
          refine lv_iconst (v := nI 1) X.1.1 X.1.2.1 zd_Mo_putCopy_28 (by decide) ?_
          refine lv_iload_n X.1.1 X.1.2.1 zd_Mo_putCopy_29 rfl (lv_at hl 2 rfl) ?_
          refine lv_ishl X.1.1 X.1.2.1 zd_Mo_putCopy_30 ?_
          refine zTop (y := nI (2 ^ k)) (shl1 (by omega)) ?_
          refine lv_iadd X.1.1 X.1.2.1 zd_Mo_putCopy_31 ?_
          refine zTop (y := nI (128 + bsm pp (k + 1))) ((nI_add _ _).trans (congrArg nI e1.symm)) ?_
          refine lv_istore_n X.1.1 X.1.2.1 zd_Mo_putCopy_32 rfl hl (by decide) rfl (fun ls hl => ?_)
          have hl : lv_has ls 3 [(1, .int (nI (128 + bsm pp (k + 1)))), (0, .ref m0), (2, .int (nI k))] := hl
          refine lv_iinc X.1.1 X.1.2.1 zd_Mo_putCopy_33 hl (k := 2) rfl (v := nI (k + 1)) (nI_add _ _) (by decide) rfl (fun ls hl => ?_)
          have hl : lv_has ls 3 [(2, .int (nI (k + 1))), (1, .int (nI (128 + bsm pp (k + 1)))), (0, .ref m0)] := hl
          refine lv_goto (tgt := 6) X.1.1 X.1.2.1 zd_Mo_putCopy_36 rfl ?_
          exact ih (k + 1) ls H locs (by omega) (by omega) (lv_sub hl [2, 1, 0] rfl) h
  have e00 : (128 : Nat) = 128 + bsm pp 0 := by rw [show bsm pp 0 = 0 from rfl]
  rw [e00] at hl
  have hl : lv_has ls 3 [(2, .int (nI 0)), (1, .int (nI (128 + bsm pp 0))), (0, .ref m0)] := hl
  exact l1 _ 0 ls H locs (Nat.lt_succ_self _) (by omega) (lv_sub hl [2, 1, 0] rfl) h
