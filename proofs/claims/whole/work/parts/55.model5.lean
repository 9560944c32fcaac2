/-! DeltaPressModel: the reading (the wb_ rows began as those of the kit's laws) -/
theorem wb_tb (n : Nat) : (lN n).toBitVec = BitVec.ofNat 64 n := rfl
theorem wb_inj {a b : Int64} (h : a.toBitVec = b.toBitVec) : a = b := Int64.toBitVec_inj.mp h
theorem wb_c : ∀ k, k < 64 → ((nI k).toInt64 &&& 63) = lN k := by decide +kernel
theorem wb_sm : ∀ k, k < 64 → (BitVec.ofNat 64 k).smod 64 = BitVec.ofNat 64 k := by decide +kernel
theorem wb_shl (n : Nat) {k : Nat} (hk : k < 64) : lN n <<< ((nI k).toInt64 &&& 63) = lN (n * 2 ^ k) := by
  rw [wb_c k hk]
  apply wb_inj
  rw [Int64.toBitVec_shiftLeft, wb_tb, wb_tb, wb_tb, wb_sm k hk]
  apply BitVec.eq_of_toNat_eq
  rw [BitVec.shiftLeft_eq', BitVec.toNat_shiftLeft, BitVec.toNat_ofNat, BitVec.toNat_ofNat, BitVec.toNat_ofNat, Nat.mod_eq_of_lt (show k < 2 ^ 64 by omega), Nat.shiftLeft_eq, Nat.mul_mod, Nat.mod_mod, ← Nat.mul_mod]
theorem pl_step {v x k : Nat} (hk : k < 4) (hx : x < 256) : lN v + (nI x).toInt64 <<< ((nI (8 * k)).toInt64 &&& 63) = lN (v + x * 256 ^ k) := by
  rw [nI_l (by omega), wb_shl x (by omega), lN_add]
  rw [show (256 : Nat) ^ k = 2 ^ (8 * k) by rw [Nat.pow_mul]]
theorem lc_le (x y : Int64) : lg_cmp x y ≤ 0 ↔ ¬ y < x := by
  unfold lg_cmp
  by_cases h : x > y
  · rw [if_pos h]
    exact ⟨fun z => absurd z (by decide), fun z => absurd h z⟩
  · rw [if_neg h]
    refine ⟨fun _ => h, fun _ => ?_⟩
    split <;> decide
theorem ub_b8 {x : Int32} (h : fits .byte (.int x) = true) : b8 (nI (ub x)) = x := by
  unfold ub
  rw [b8_mod, nI_toNat, b8_fit h]
theorem nv_step {v x k : Nat} (hk : k < 4) (hv : v < 128 ^ k) (hx : x < 128) : nI v + (nI x <<< (nI (7 * k) &&& 31)) = nI (v + x * 128 ^ k) ∧ v + x * 128 ^ k < 128 ^ (k + 1) := by
  have h := rn_or hk hv hx
  refine ⟨?_, h.2⟩
  have e : (128 : Nat) ^ k = 2 ^ (7 * k) := by rw [Nat.pow_mul]
  have hp : (0 : Nat) < 2 ^ (7 * k) := Nat.pow_pos (by decide)
  have h1 : x * 2 ^ (7 * k) < 128 * 2 ^ (7 * k) := Nat.mul_lt_mul_of_pos_right hx hp
  have h2 : 128 * 2 ^ (7 * k) = 2 ^ (7 * k + 7) := by rw [Nat.pow_add, Nat.mul_comm]
  have h3 : (2 : Nat) ^ (7 * k + 7) ≤ 2 ^ 28 := Nat.pow_le_pow_right (by decide) (by omega)
  rw [shl_nI (by omega) (by omega), nI_add, e]
theorem cv_step {v x k : Nat} (hk : k < 3) (hv : v < 256 ^ k) (hx : x < 256) : nI v + (nI x <<< (nI (8 * k) &&& 31)) = nI (v + x * 256 ^ k) ∧ v + x * 256 ^ k < 256 ^ (k + 1) := by
  have h := rc_or (k := k) (by omega) hv hx
  refine ⟨?_, h.2⟩
  have e : (256 : Nat) ^ k = 2 ^ (8 * k) := by rw [Nat.pow_mul]
  have hp : (0 : Nat) < 2 ^ (8 * k) := Nat.pow_pos (by decide)
  have h1 : x * 2 ^ (8 * k) < 256 * 2 ^ (8 * k) := Nat.mul_lt_mul_of_pos_right hx hp
  have h2 : 256 * 2 ^ (8 * k) = 2 ^ (8 * k + 8) := by rw [Nat.pow_add, Nat.mul_comm]
  have h3 : (2 : Nat) ^ (8 * k + 8) ≤ 2 ^ 32 := Nat.pow_le_pow_right (by decide) (by omega)
  rw [shl_nI (by omega) (by omega), nI_add, e]
theorem bit_sh {b k : Nat} : b / 16 / 2 ^ k = b / 2 ^ (4 + k) := by rw [Nat.div_div_eq_div_mul, Nat.pow_add]

set_option maxHeartbeats 4000000 in
set_option maxRecDepth 100000 in
theorem zc_Mo_next (l : Launch) (D : va_G) {m0 aI aB aO aR n nb nm cp frs dm th be at_ wr fi : Nat} {wh : Int32} {fI fB fO fR : Nat → Int32} {cI cB cO cR : ClassId} (hw : wr = 0) (ha : at_ < n) (hn : n ≤ 65536) (sz : Nat) : zMi l D zy_Mo_next zb_Mo_next 1 .int ({ frames := 0, cells := 0, slots := 0, locals := 0 } : Room) [.ref m0] [(cI, .byte), (cB, .byte), (cO, .byte), (cR, .byte)] [(m0, .inr (4, [.ref aI, .ref aB, .ref aO, .ref aR, .int (nI n), .int (nI nb), .int (nI nm), .int (nI cp), .int (nI frs), .int (nI dm), .int (nI th), .int (nI be), .int wh, .int (nI at_), .int (nI wr), .int (nI fi)])), (aI, .inl (cI, 65536, .inl (fI))), (aB, .inl (cB, 65536, .inl (fB))), (aO, .inl (cO, 67000, .inl (fO))), (aR, .inl (cR, 65536, .inl (fR)))] sz (fun (r : Int32) (u : Unit) => r = nI (ub (fI at_)) ∧ True) (fun _ => [(m0, .inr (4, [.ref aI, .ref aB, .ref aO, .ref aR, .int (nI n), .int (nI nb), .int (nI nm), .int (nI cp), .int (nI frs), .int (nI dm), .int (nI th), .int (nI be), .int wh, .int (nI (at_ + 1)), .int (nI wr), .int (nI fi)])), (aI, .inl (cI, 65536, .inl (fI))), (aB, .inl (cB, 65536, .inl (fB))), (aO, .inl (cO, 67000, .inl (fO))), (aR, .inl (cR, 65536, .inl (fR)))]) := by
  refine zEi (by decide) (Nat.le_of_ble_eq_true rfl) (fun p e s m args below meth c ls A Q X hl h hsz ret => ?_)
  have hl : lv_has ls 1 [(0, .ref m0)] := hl
  generalize hH0 : s.heap = H at h ⊢
  have h : zH D A s [(m0, .inr (4, [.ref aI, .ref aB, .ref aO, .ref aR, .int (nI n), .int (nI nb), .int (nI nm), .int (nI cp), .int (nI frs), .int (nI dm), .int (nI th), .int (nI be), .int wh, .int (nI at_), .int (nI wr), .int (nI fi)])), (aI, .inl (cI, 65536, .inl (fI))), (aB, .inl (cB, 65536, .inl (fB))), (aO, .inl (cO, 67000, .inl (fO))), (aR, .inl (cR, 65536, .inl (fR)))] H [] := h
  generalize hL0 : ([] : List Loc) = locs at h ⊢
  subst hw
  have h : zH D A s [(m0, .inr (4, [.ref aI, .ref aB, .ref aO, .ref aR, .int (nI n), .int (nI nb), .int (nI nm), .int (nI cp), .int (nI frs), .int (nI dm), .int (nI th), .int (nI be), .int wh, .int (nI at_), .int (nI 0), .int (nI fi)])), (aI, .inl (cI, 65536, .inl (fI))), (aB, .inl (cB, 65536, .inl (fB))), (aO, .inl (cO, 67000, .inl (fO))), (aR, .inl (cR, 65536, .inl (fR)))] H locs := h
  refine lv_aload_n X.1.1 X.1.2.1 zd_Mo_next_0 rfl (lv_at hl 0 rfl) ?_
  refine rG X h 0 rfl rfl zW_Mo 13 (by decide) zw_506 rfl zd_Mo_next_1 ?_
  refine lv_aload_n X.1.1 X.1.2.1 zd_Mo_next_4 rfl (lv_at hl 0 rfl) ?_
  refine rG X h 0 rfl rfl zW_Mo 4 (by decide) zw_497 rfl zd_Mo_next_5 ?_
  refine lv_icmp_lt (tgt := 16) X.1.1 X.1.2.1 zd_Mo_next_8 rfl (fun c1 => ?_) (fun c1 => ?_)
  · have c1 : at_ < n := zc_lt_t (by omega) (by omega) c1
    refine lv_aload_n X.1.1 X.1.2.1 zd_Mo_next_16 rfl (lv_at hl 0 rfl) ?_
    refine rG X h 0 rfl rfl zW_Mo 14 (by decide) zw_507 rfl zd_Mo_next_17 ?_
    refine lv_if_eq (tgt := 25) X.1.1 X.1.2.1 zd_Mo_next_20 rfl (fun c2 => ?_) (fun c2 => ?_)
    · have c2 : 0 = 0 := zc_eq0_t (by omega) (by omega) c2
      refine lv_aload_n X.1.1 X.1.2.1 zd_Mo_next_25 rfl (lv_at hl 0 rfl) ?_
      refine lv_dup X.1.1 X.1.2.1 zd_Mo_next_26 rfl ?_
      refine rG X h 0 rfl rfl zW_Mo 13 (by decide) zw_506 rfl zd_Mo_next_27 ?_
      refine lv_iconst (v := nI 1) X.1.1 X.1.2.1 zd_Mo_next_30 (by decide) ?_
      refine lv_iadd X.1.1 X.1.2.1 zd_Mo_next_31 ?_
      refine zTop (y := nI (at_ + 1)) (nI_add _ _) ?_
      refine rP X h 0 rfl rfl zW_Mo zO_Mo zN_Mo 13 (by decide) zw_506 rfl (rfl) (rfl) (Nat.le_of_ble_eq_true rfl) zd_Mo_next_32 (fun H locs h => ?_)
      have h : zH D A s [(m0, .inr (4, [.ref aI, .ref aB, .ref aO, .ref aR, .int (nI n), .int (nI nb), .int (nI nm), .int (nI cp), .int (nI frs), .int (nI dm), .int (nI th), .int (nI be), .int wh, .int (nI (at_ + 1)), .int (nI 0), .int (nI fi)])), (aI, .inl (cI, 65536, .inl (fI))), (aB, .inl (cB, 65536, .inl (fB))), (aO, .inl (cO, 67000, .inl (fO))), (aR, .inl (cR, 65536, .inl (fR)))] H locs := h
      refine lv_aload_n X.1.1 X.1.2.1 zd_Mo_next_35 rfl (lv_at hl 0 rfl) ?_
      refine rG X h 0 rfl rfl zW_Mo 0 (by decide) zw_493 rfl zd_Mo_next_36 ?_
      refine lv_aload_n X.1.1 X.1.2.1 zd_Mo_next_39 rfl (lv_at hl 0 rfl) ?_
      refine rG X h 0 rfl rfl zW_Mo 13 (by decide) zw_506 rfl zd_Mo_next_40 ?_
      refine lv_iconst (v := nI 1) X.1.1 X.1.2.1 zd_Mo_next_43 (by decide) ?_
      refine lv_isub X.1.1 X.1.2.1 zd_Mo_next_44 ?_
      refine zTop (y := nI at_) ((pk_sub (by omega)).trans (congrArg nI (by omega))) ?_
      refine rLb X h 1 0 rfl rfl (by omega) (by omega) zd_Mo_next_45 ?_
      refine lv_sipush (v := nI 255) X.1.1 X.1.2.1 zd_Mo_next_46 (by decide) ?_
      refine lv_iand X.1.1 X.1.2.1 zd_Mo_next_49 ?_
      refine zTop (y := nI (ub (fI at_))) (and255 _) ?_
      exact ret _ () H locs ls _ (⟨rfl, trivial⟩) h zd_Mo_next_50
    · have c2 : 0 ≠ 0 := zc_eq0_f (by omega) (by omega) c2
      exact absurd rfl c2
  · have c1 : n ≤ at_ := zc_lt_f (by omega) (by omega) c1
    exact absurd c1 (by omega)

set_option maxHeartbeats 4000000 in
set_option maxRecDepth 100000 in
theorem zc_Mo_nextN (l : Launch) (D : va_G) {m0 aI aB aO aR n nb nm cp frs dm th be at_ wr fi : Nat} {wh : Int32} {fI fB fO fR : Nat → Int32} {cI cB cO cR : ClassId} (hw : wr = 1 ∨ (wr = 0 ∧ n ≤ at_)) (ha : at_ < 2 ^ 30) (hn : n ≤ 65536) (sz : Nat) : zMi l D zy_Mo_next zb_Mo_next 1 .int ({ frames := 0, cells := 0, slots := 0, locals := 0 } : Room) [.ref m0] [(cI, .byte), (cB, .byte), (cO, .byte), (cR, .byte)] [(m0, .inr (4, [.ref aI, .ref aB, .ref aO, .ref aR, .int (nI n), .int (nI nb), .int (nI nm), .int (nI cp), .int (nI frs), .int (nI dm), .int (nI th), .int (nI be), .int wh, .int (nI at_), .int (nI wr), .int (nI fi)])), (aI, .inl (cI, 65536, .inl (fI))), (aB, .inl (cB, 65536, .inl (fB))), (aO, .inl (cO, 67000, .inl (fO))), (aR, .inl (cR, 65536, .inl (fR)))] sz (fun (r : Int32) (u : Unit) => r = nI 0 ∧ True) (fun _ => [(m0, .inr (4, [.ref aI, .ref aB, .ref aO, .ref aR, .int (nI n), .int (nI nb), .int (nI nm), .int (nI cp), .int (nI frs), .int (nI dm), .int (nI th), .int (nI be), .int wh, .int (nI at_), .int (nI 1), .int (nI fi)])), (aI, .inl (cI, 65536, .inl (fI))), (aB, .inl (cB, 65536, .inl (fB))), (aO, .inl (cO, 67000, .inl (fO))), (aR, .inl (cR, 65536, .inl (fR)))]) := by
  refine zEi (by decide) (Nat.le_of_ble_eq_true rfl) (fun p e s m args below meth c ls A Q X hl h hsz ret => ?_)
  have hl : lv_has ls 1 [(0, .ref m0)] := hl
  generalize hH0 : s.heap = H at h ⊢
  have h : zH D A s [(m0, .inr (4, [.ref aI, .ref aB, .ref aO, .ref aR, .int (nI n), .int (nI nb), .int (nI nm), .int (nI cp), .int (nI frs), .int (nI dm), .int (nI th), .int (nI be), .int wh, .int (nI at_), .int (nI wr), .int (nI fi)])), (aI, .inl (cI, 65536, .inl (fI))), (aB, .inl (cB, 65536, .inl (fB))), (aO, .inl (cO, 67000, .inl (fO))), (aR, .inl (cR, 65536, .inl (fR)))] H [] := h
  generalize hL0 : ([] : List Loc) = locs at h ⊢
  rcases hw with hw | ⟨hw, hw2⟩
  · subst hw
    have h : zH D A s [(m0, .inr (4, [.ref aI, .ref aB, .ref aO, .ref aR, .int (nI n), .int (nI nb), .int (nI nm), .int (nI cp), .int (nI frs), .int (nI dm), .int (nI th), .int (nI be), .int wh, .int (nI at_), .int (nI 1), .int (nI fi)])), (aI, .inl (cI, 65536, .inl (fI))), (aB, .inl (cB, 65536, .inl (fB))), (aO, .inl (cO, 67000, .inl (fO))), (aR, .inl (cR, 65536, .inl (fR)))] H locs := h
    refine lv_aload_n X.1.1 X.1.2.1 zd_Mo_next_0 rfl (lv_at hl 0 rfl) ?_
    refine rG X h 0 rfl rfl zW_Mo 13 (by decide) zw_506 rfl zd_Mo_next_1 ?_
    refine lv_aload_n X.1.1 X.1.2.1 zd_Mo_next_4 rfl (lv_at hl 0 rfl) ?_
    refine rG X h 0 rfl rfl zW_Mo 4 (by decide) zw_497 rfl zd_Mo_next_5 ?_
    refine lv_icmp_lt (tgt := 16) X.1.1 X.1.2.1 zd_Mo_next_8 rfl (fun c1 => ?_) (fun c1 => ?_)
    · have c1 : at_ < n := zc_lt_t (by omega) (by omega) c1
      refine lv_aload_n X.1.1 X.1.2.1 zd_Mo_next_16 rfl (lv_at hl 0 rfl) ?_
      refine rG X h 0 rfl rfl zW_Mo 14 (by decide) zw_507 rfl zd_Mo_next_17 ?_
      refine lv_if_eq (tgt := 25) X.1.1 X.1.2.1 zd_Mo_next_20 rfl (fun c2 => ?_) (fun c2 => ?_)
      · have c2 : 1 = 0 := zc_eq0_t (by omega) (by omega) c2
        exact absurd c2 (by decide)
      · have c2 : 1 ≠ 0 := zc_eq0_f (by omega) (by omega) c2
        refine lv_iconst (v := nI 0) X.1.1 X.1.2.1 zd_Mo_next_23 (by decide) ?_
        exact ret _ () H locs ls _ (⟨rfl, trivial⟩) h zd_Mo_next_24
    · have c1 : n ≤ at_ := zc_lt_f (by omega) (by omega) c1
      refine lv_aload_n X.1.1 X.1.2.1 zd_Mo_next_11 rfl (lv_at hl 0 rfl) ?_
      refine lv_iconst (v := nI 1) X.1.1 X.1.2.1 zd_Mo_next_12 (by decide) ?_
      refine rP X h 0 rfl rfl zW_Mo zO_Mo zN_Mo 14 (by decide) zw_507 rfl (rfl) (rfl) (Nat.le_of_ble_eq_true rfl) zd_Mo_next_13 (fun H locs h => ?_)
      have h : zH D A s [(m0, .inr (4, [.ref aI, .ref aB, .ref aO, .ref aR, .int (nI n), .int (nI nb), .int (nI nm), .int (nI cp), .int (nI frs), .int (nI dm), .int (nI th), .int (nI be), .int wh, .int (nI at_), .int (nI 1), .int (nI fi)])), (aI, .inl (cI, 65536, .inl (fI))), (aB, .inl (cB, 65536, .inl (fB))), (aO, .inl (cO, 67000, .inl (fO))), (aR, .inl (cR, 65536, .inl (fR)))] H locs := h
      refine lv_aload_n X.1.1 X.1.2.1 zd_Mo_next_16 rfl (lv_at hl 0 rfl) ?_
      refine rG X h 0 rfl rfl zW_Mo 14 (by decide) zw_507 rfl zd_Mo_next_17 ?_
      refine lv_if_eq (tgt := 25) X.1.1 X.1.2.1 zd_Mo_next_20 rfl (fun c2 => ?_) (fun c2 => ?_)
      · have c2 : 1 = 0 := zc_eq0_t (by omega) (by omega) c2
        exact absurd c2 (by decide)
      · have c2 : 1 ≠ 0 := zc_eq0_f (by omega) (by omega) c2
        refine lv_iconst (v := nI 0) X.1.1 X.1.2.1 zd_Mo_next_23 (by decide) ?_
        exact ret _ () H locs ls _ (⟨rfl, trivial⟩) h zd_Mo_next_24
  · subst hw
    have h : zH D A s [(m0, .inr (4, [.ref aI, .ref aB, .ref aO, .ref aR, .int (nI n), .int (nI nb), .int (nI nm), .int (nI cp), .int (nI frs), .int (nI dm), .int (nI th), .int (nI be), .int wh, .int (nI at_), .int (nI 0), .int (nI fi)])), (aI, .inl (cI, 65536, .inl (fI))), (aB, .inl (cB, 65536, .inl (fB))), (aO, .inl (cO, 67000, .inl (fO))), (aR, .inl (cR, 65536, .inl (fR)))] H locs := h
    refine lv_aload_n X.1.1 X.1.2.1 zd_Mo_next_0 rfl (lv_at hl 0 rfl) ?_
    refine rG X h 0 rfl rfl zW_Mo 13 (by decide) zw_506 rfl zd_Mo_next_1 ?_
    refine lv_aload_n X.1.1 X.1.2.1 zd_Mo_next_4 rfl (lv_at hl 0 rfl) ?_
    refine rG X h 0 rfl rfl zW_Mo 4 (by decide) zw_497 rfl zd_Mo_next_5 ?_
    refine lv_icmp_lt (tgt := 16) X.1.1 X.1.2.1 zd_Mo_next_8 rfl (fun c1 => ?_) (fun c1 => ?_)
    · have c1 : at_ < n := zc_lt_t (by omega) (by omega) c1
      exact absurd c1 (by omega)
    · have c1 : n ≤ at_ := zc_lt_f (by omega) (by omega) c1
      refine lv_aload_n X.1.1 X.1.2.1 zd_Mo_next_11 rfl (lv_at hl 0 rfl) ?_
      refine lv_iconst (v := nI 1) X.1.1 X.1.2.1 zd_Mo_next_12 (by decide) ?_
      refine rP X h 0 rfl rfl zW_Mo zO_Mo zN_Mo 14 (by decide) zw_507 rfl (rfl) (rfl) (Nat.le_of_ble_eq_true rfl) zd_Mo_next_13 (fun H locs h => ?_)
      have h : zH D A s [(m0, .inr (4, [.ref aI, .ref aB, .ref aO, .ref aR, .int (nI n), .int (nI nb), .int (nI nm), .int (nI cp), .int (nI frs), .int (nI dm), .int (nI th), .int (nI be), .int wh, .int (nI at_), .int (nI 1), .int (nI fi)])), (aI, .inl (cI, 65536, .inl (fI))), (aB, .inl (cB, 65536, .inl (fB))), (aO, .inl (cO, 67000, .inl (fO))), (aR, .inl (cR, 65536, .inl (fR)))] H locs := h
      refine lv_aload_n X.1.1 X.1.2.1 zd_Mo_next_16 rfl (lv_at hl 0 rfl) ?_
      refine rG X h 0 rfl rfl zW_Mo 14 (by decide) zw_507 rfl zd_Mo_next_17 ?_
      refine lv_if_eq (tgt := 25) X.1.1 X.1.2.1 zd_Mo_next_20 rfl (fun c2 => ?_) (fun c2 => ?_)
      · have c2 : 1 = 0 := zc_eq0_t (by omega) (by omega) c2
        exact absurd c2 (by decide)
      · have c2 : 1 ≠ 0 := zc_eq0_f (by omega) (by omega) c2
        refine lv_iconst (v := nI 0) X.1.1 X.1.2.1 zd_Mo_next_23 (by decide) ?_
        exact ret _ () H locs ls _ (⟨rfl, trivial⟩) h zd_Mo_next_24

set_option maxHeartbeats 4000000 in
set_option maxRecDepth 100000 in
theorem zc_Mo_number (l : Launch) (D : va_G) {m0 aI aB aO aR n nb nm cp frs dm th be at_ wr fi : Nat} {wh : Int32} {fI fB fO fR : Nat → Int32} {cI cB cO cR : ClassId} (hw : wr = 0) (ha : at_ ≤ n) (hn : n ≤ 65536) (sz : Nat) : zMi l D zy_Mo_number zb_Mo_number 4 .int ({ frames := 1, cells := 0, slots := 0, locals := 20 } : Room) [.ref m0] [(cI, .byte), (cB, .byte), (cO, .byte), (cR, .byte)] [(m0, .inr (4, [.ref aI, .ref aB, .ref aO, .ref aR, .int (nI n), .int (nI nb), .int (nI nm), .int (nI cp), .int (nI frs), .int (nI dm), .int (nI th), .int (nI be), .int wh, .int (nI at_), .int (nI wr), .int (nI fi)])), (aI, .inl (cI, 65536, .inl (fI))), (aB, .inl (cB, 65536, .inl (fB))), (aO, .inl (cO, 67000, .inl (fO))), (aR, .inl (cR, 65536, .inl (fR)))] sz (fun (r : Int32) (u : Nat × Nat) => ((∃ v, rdN (tx fI n) 4 0 at_ 0 = some (v, u.1) ∧ u.2 = 0 ∧ r = nI v ∧ v < 2 ^ 28) ∨ (u.2 = 1 ∧ rdN (tx fI n) 4 0 at_ 0 = none)) ∧ u.1 ≤ n) (fun u => [(m0, .inr (4, [.ref aI, .ref aB, .ref aO, .ref aR, .int (nI n), .int (nI nb), .int (nI nm), .int (nI cp), .int (nI frs), .int (nI dm), .int (nI th), .int (nI be), .int wh, .int (nI u.1), .int (nI u.2), .int (nI fi)])), (aI, .inl (cI, 65536, .inl (fI))), (aB, .inl (cB, 65536, .inl (fB))), (aO, .inl (cO, 67000, .inl (fO))), (aR, .inl (cR, 65536, .inl (fR)))]) := by
  refine zEi (by decide) (Nat.le_of_ble_eq_true rfl) (fun p e s m args below meth c ls A Q X hl h hsz ret => ?_)
  have hl : lv_has ls 4 [(0, .ref m0)] := hl
  generalize hH0 : s.heap = H at h ⊢
  have h : zH D A s [(m0, .inr (4, [.ref aI, .ref aB, .ref aO, .ref aR, .int (nI n), .int (nI nb), .int (nI nm), .int (nI cp), .int (nI frs), .int (nI dm), .int (nI th), .int (nI be), .int wh, .int (nI at_), .int (nI wr), .int (nI fi)])), (aI, .inl (cI, 65536, .inl (fI))), (aB, .inl (cB, 65536, .inl (fB))), (aO, .inl (cO, 67000, .inl (fO))), (aR, .inl (cR, 65536, .inl (fR)))] H [] := h
  generalize hL0 : ([] : List Loc) = locs at h ⊢
  subst hw
  have h : zH D A s [(m0, .inr (4, [.ref aI, .ref aB, .ref aO, .ref aR, .int (nI n), .int (nI nb), .int (nI nm), .int (nI cp), .int (nI frs), .int (nI dm), .int (nI th), .int (nI be), .int wh, .int (nI at_), .int (nI 0), .int (nI fi)])), (aI, .inl (cI, 65536, .inl (fI))), (aB, .inl (cB, 65536, .inl (fB))), (aO, .inl (cO, 67000, .inl (fO))), (aR, .inl (cR, 65536, .inl (fR)))] H locs := h
  refine lv_iconst (v := nI 0) X.1.1 X.1.2.1 zd_Mo_number_0 (by decide) ?_
  refine lv_istore_n X.1.1 X.1.2.1 zd_Mo_number_1 rfl hl (by decide) rfl (fun ls hl => ?_)
  have hl : lv_has ls 4 [(1, .int (nI 0)), (0, .ref m0)] := hl
  refine lv_iconst (v := nI 0) X.1.1 X.1.2.1 zd_Mo_number_2 (by decide) ?_
  refine lv_istore_n X.1.1 X.1.2.1 zd_Mo_number_3 rfl hl (by decide) rfl (fun ls hl => ?_)
  have hl : lv_has ls 4 [(2, .int (nI 0)), (1, .int (nI 0)), (0, .ref m0)] := hl
  have loop : ∀ (fu : Nat) (k : Nat) (v : Nat) (p1 : Nat) (ls : Array Slot) (H : Heap) (locs : List Loc), 4 - k < fu → k ≤ 4 → v < 128 ^ k → p1 ≤ n → rdN (tx fI n) 4 0 at_ 0 = rdN (tx fI n) (4 - k) k p1 v → lv_has ls 4 [(0, .ref m0), (1, .int (nI v)), (2, .int (nI k))] → zH D A s [(m0, .inr (4, [.ref aI, .ref aB, .ref aO, .ref aR, .int (nI n), .int (nI nb), .int (nI nm), .int (nI cp), .int (nI frs), .int (nI dm), .int (nI th), .int (nI be), .int wh, .int (nI p1), .int (nI 0), .int (nI fi)])), (aI, .inl (cI, 65536, .inl (fI))), (aB, .inl (cB, 65536, .inl (fB))), (aO, .inl (cO, 67000, .inl (fO))), (aR, .inl (cR, 65536, .inl (fR)))] H locs → W p l e ({ frames := 1, cells := 0, slots := 0, locals := 20 } : Room) s m args below meth c H locs 0 0 Q (F0 m 4 ls []) := by
    intro fu
    induction fu with
    | zero => intro k v p1 ls H locs hfu; exact absurd hfu (Nat.not_lt_zero _)
    | succ fu ih =>
      intro k v p1 ls H locs hfu hk hv hp1 he hl h
      refine lv_iload_n X.1.1 X.1.2.1 zd_Mo_number_4 rfl (lv_at hl 2 rfl) ?_
      refine lv_iconst (v := nI 4) X.1.1 X.1.2.1 zd_Mo_number_5 (by decide) ?_
      refine lv_icmp_ge (tgt := 41) X.1.1 X.1.2.1 zd_Mo_number_6 rfl (fun c1 => ?_) (fun c1 => ?_)
      · have c1 : 4 ≤ k := zc_ge_t (by omega) (by omega) c1
        rw [show 4 - k = 0 by omega] at he
        refine lv_aload_n X.1.1 X.1.2.1 zd_Mo_number_41 rfl (lv_at hl 0 rfl) ?_
        refine lv_iconst (v := nI 1) X.1.1 X.1.2.1 zd_Mo_number_42 (by decide) ?_
        refine rP X h 0 rfl rfl zW_Mo zO_Mo zN_Mo 14 (by decide) zw_507 rfl (rfl) (rfl) (Nat.le_of_ble_eq_true rfl) zd_Mo_number_43 (fun H locs h => ?_)
        have h : zH D A s [(m0, .inr (4, [.ref aI, .ref aB, .ref aO, .ref aR, .int (nI n), .int (nI nb), .int (nI nm), .int (nI cp), .int (nI frs), .int (nI dm), .int (nI th), .int (nI be), .int wh, .int (nI p1), .int (nI 1), .int (nI fi)])), (aI, .inl (cI, 65536, .inl (fI))), (aB, .inl (cB, 65536, .inl (fB))), (aO, .inl (cO, 67000, .inl (fO))), (aR, .inl (cR, 65536, .inl (fR)))] H locs := h
        refine lv_iconst (v := nI 0) X.1.1 X.1.2.1 zd_Mo_number_46 (by decide) ?_
        exact ret _ (p1, 1) H locs ls _ (⟨Or.inr ⟨rfl, he⟩, hp1⟩) h zd_Mo_number_47
      · have c1 : k < 4 := zc_ge_f (by omega) (by omega) c1
        refine lv_aload_n X.1.1 X.1.2.1 zd_Mo_number_9 rfl (lv_at hl 0 rfl) ?_
        by_cases c2 : p1 < n
        · rw [show 4 - k = (3 - k) + 1 by omega, rdN_go c2] at he
          have hub := ub_lt (fI p1)
          have hor := nv_step (k := k) (x := ub (fI p1) % 128) (by omega) hv (Nat.mod_lt _ (by decide))
          refine rCi (wr := []) (wf := fun _ => [(m0, .inr (4, [.ref aI, .ref aB, .ref aO, .ref aR, .int (nI n), .int (nI nb), .int (nI nm), .int (nI cp), .int (nI frs), .int (nI dm), .int (nI th), .int (nI be), .int wh, .int (nI (p1 + 1)), .int (nI 0), .int (nI fi)])), (aI, .inl (cI, 65536, .inl (fI))), (aB, .inl (cB, 65536, .inl (fB))), (aO, .inl (cO, 67000, .inl (fO))), (aR, .inl (cR, 65536, .inl (fR)))]) (rest := []) X h hl.1 (zc_Mo_next l D (m0 := m0) (aI := aI) (aB := aB) (aO := aO) (aR := aR) (wh := wh) (n := n) (nb := nb) (nm := nm) (cp := cp) (frs := frs) (dm := dm) (th := th) (be := be) (at_ := p1) (wr := 0) (fi := fi) (fI := fI) (cI := cI) (fB := fB) (cB := cB) (fO := fO) (cO := cO) (fR := fR) (cR := cR) (rfl) (c2) (hn) H.size) zw_599 zw_601 zs_24 zw_5 zm_Mo_next zq_Mo_next ⟨Nat.le_of_ble_eq_true rfl, Nat.le_of_ble_eq_true rfl⟩ ⟨Nat.le_of_ble_eq_true rfl, Nat.le_of_ble_eq_true rfl⟩ [0, 1, 2, 3] rfl [0, 1, 2, 3, 4] [] [0, 1, 2, 3, 4] rfl (by decide) rfl (by decide) (by decide) (fun _ => rfl) (by decide) 0 rfl rfl rfl (Nat.le_of_ble_eq_true rfl) zd_Mo_number_10 (fun r _ H locs hp h => ?_)
          obtain ⟨rfl, -⟩ := hp
          have h : zH D A s [(m0, .inr (4, [.ref aI, .ref aB, .ref aO, .ref aR, .int (nI n), .int (nI nb), .int (nI nm), .int (nI cp), .int (nI frs), .int (nI dm), .int (nI th), .int (nI be), .int wh, .int (nI (p1 + 1)), .int (nI 0), .int (nI fi)])), (aI, .inl (cI, 65536, .inl (fI))), (aB, .inl (cB, 65536, .inl (fB))), (aO, .inl (cO, 67000, .inl (fO))), (aR, .inl (cR, 65536, .inl (fR)))] H locs := h
          refine lv_istore_n X.1.1 X.1.2.1 zd_Mo_number_13 rfl hl (by decide) rfl (fun ls hl => ?_)
          have hl : lv_has ls 4 [(3, .int (nI (ub (fI p1)))), (0, .ref m0), (1, .int (nI v)), (2, .int (nI k))] := hl
          refine lv_iload_n X.1.1 X.1.2.1 zd_Mo_number_14 rfl (lv_at hl 2 rfl) ?_
          refine lv_iload_n X.1.1 X.1.2.1 zd_Mo_number_15 rfl (lv_at hl 0 rfl) ?_
          refine lv_bipush (v := nI 127) X.1.1 X.1.2.1 zd_Mo_number_16 (by decide) ?_
          refine lv_iand X.1.1 X.1.2.1 zd_Mo_number_18 ?_
          refine zTop (y := nI (ub (fI p1) % 128)) (and127 (by omega)) ?_
          refine lv_bipush (v := nI 7) X.1.1 X.1.2.1 zd_Mo_number_19 (by decide) ?_
          refine lv_iload_n X.1.1 X.1.2.1 zd_Mo_number_21 rfl (lv_at hl 3 rfl) ?_
          refine lv_imul X.1.1 X.1.2.1 zd_Mo_number_22 ?_
          refine zTop (y := nI (7 * k)) (pk_mul _ _) ?_
          refine lv_ishl X.1.1 X.1.2.1 zd_Mo_number_23 ?_
          refine lv_iadd X.1.1 X.1.2.1 zd_Mo_number_24 ?_
          refine zTop (y := nI (v + ub (fI p1) % 128 * 128 ^ k)) (hor.1) ?_
          refine lv_istore_n X.1.1 X.1.2.1 zd_Mo_number_25 rfl hl (by decide) rfl (fun ls hl => ?_)
          have hl : lv_has ls 4 [(1, .int (nI (v + ub (fI p1) % 128 * 128 ^ k))), (3, .int (nI (ub (fI p1)))), (0, .ref m0), (2, .int (nI k))] := hl
          refine lv_iload_n X.1.1 X.1.2.1 zd_Mo_number_26 rfl (lv_at hl 1 rfl) ?_
          refine lv_sipush (v := nI 128) X.1.1 X.1.2.1 zd_Mo_number_27 (by decide) ?_
          refine lv_icmp_ge (tgt := 35) X.1.1 X.1.2.1 zd_Mo_number_30 rfl (fun c3 => ?_) (fun c3 => ?_)
          · have c3 : 128 ≤ ub (fI p1) := zc_ge_t (by omega) (by omega) c3
            rw [if_neg (by omega), show ub (fI p1) - 128 = ub (fI p1) % 128 by omega, show 3 - k = 4 - (k + 1) by omega] at he
            refine lv_iinc X.1.1 X.1.2.1 zd_Mo_number_35 hl (k := 3) rfl (v := nI (k + 1)) (nI_add _ _) (by decide) rfl (fun ls hl => ?_)
            have hl : lv_has ls 4 [(2, .int (nI (k + 1))), (1, .int (nI (v + ub (fI p1) % 128 * 128 ^ k))), (3, .int (nI (ub (fI p1)))), (0, .ref m0)] := hl
            refine lv_goto (tgt := 4) X.1.1 X.1.2.1 zd_Mo_number_38 rfl ?_
            exact ih (k + 1) (v + ub (fI p1) % 128 * 128 ^ k) (p1 + 1) ls H locs (by omega) (by omega) (hor.2) (by omega) (he) (lv_sub hl [3, 1, 0] rfl) h
          · have c3 : ub (fI p1) < 128 := zc_ge_f (by omega) (by omega) c3
            rw [if_pos (by omega), show ub (fI p1) * 128 ^ k = ub (fI p1) % 128 * 128 ^ k by rw [Nat.mod_eq_of_lt (by omega)]] at he
            have hbig := p128 (k := k + 1) (by omega)
            refine lv_iload_n X.1.1 X.1.2.1 zd_Mo_number_33 rfl (lv_at hl 0 rfl) ?_
            exact ret _ (p1 + 1, 0) H locs ls _ (⟨Or.inl ⟨_, he, rfl, rfl, Nat.lt_of_lt_of_le hor.2 hbig⟩, by show p1 + 1 ≤ n; omega⟩) h zd_Mo_number_34
        · rw [rdN_no (pl := p1) (by omega)] at he
          refine rCi (wr := []) (wf := fun _ => [(m0, .inr (4, [.ref aI, .ref aB, .ref aO, .ref aR, .int (nI n), .int (nI nb), .int (nI nm), .int (nI cp), .int (nI frs), .int (nI dm), .int (nI th), .int (nI be), .int wh, .int (nI p1), .int (nI 1), .int (nI fi)])), (aI, .inl (cI, 65536, .inl (fI))), (aB, .inl (cB, 65536, .inl (fB))), (aO, .inl (cO, 67000, .inl (fO))), (aR, .inl (cR, 65536, .inl (fR)))]) (rest := []) X h hl.1 (zc_Mo_nextN l D (m0 := m0) (aI := aI) (aB := aB) (aO := aO) (aR := aR) (wh := wh) (n := n) (nb := nb) (nm := nm) (cp := cp) (frs := frs) (dm := dm) (th := th) (be := be) (at_ := p1) (wr := 0) (fi := fi) (fI := fI) (cI := cI) (fB := fB) (cB := cB) (fO := fO) (cO := cO) (fR := fR) (cR := cR) (Or.inr ⟨rfl, by omega⟩) (by omega) (hn) H.size) zw_599 zw_601 zs_24 zw_5 zm_Mo_next zq_Mo_next ⟨Nat.le_of_ble_eq_true rfl, Nat.le_of_ble_eq_true rfl⟩ ⟨Nat.le_of_ble_eq_true rfl, Nat.le_of_ble_eq_true rfl⟩ [0, 1, 2, 3] rfl [0, 1, 2, 3, 4] [] [0, 1, 2, 3, 4] rfl (by decide) rfl (by decide) (by decide) (fun _ => rfl) (by decide) 0 rfl rfl rfl (Nat.le_of_ble_eq_true rfl) zd_Mo_number_10 (fun r _ H locs hp h => ?_)
          obtain ⟨rfl, -⟩ := hp
          have h : zH D A s [(m0, .inr (4, [.ref aI, .ref aB, .ref aO, .ref aR, .int (nI n), .int (nI nb), .int (nI nm), .int (nI cp), .int (nI frs), .int (nI dm), .int (nI th), .int (nI be), .int wh, .int (nI p1), .int (nI 1), .int (nI fi)])), (aI, .inl (cI, 65536, .inl (fI))), (aB, .inl (cB, 65536, .inl (fB))), (aO, .inl (cO, 67000, .inl (fO))), (aR, .inl (cR, 65536, .inl (fR)))] H locs := h
          refine lv_istore_n X.1.1 X.1.2.1 zd_Mo_number_13 rfl hl (by decide) rfl (fun ls hl => ?_)
          have hl : lv_has ls 4 [(3, .int (nI 0)), (0, .ref m0), (1, .int (nI v)), (2, .int (nI k))] := hl
          refine lv_iload_n X.1.1 X.1.2.1 zd_Mo_number_14 rfl (lv_at hl 2 rfl) ?_
          refine lv_iload_n X.1.1 X.1.2.1 zd_Mo_number_15 rfl (lv_at hl 0 rfl) ?_
          refine lv_bipush (v := nI 127) X.1.1 X.1.2.1 zd_Mo_number_16 (by decide) ?_
          refine lv_iand X.1.1 X.1.2.1 zd_Mo_number_18 ?_
          refine lv_bipush (v := nI 7) X.1.1 X.1.2.1 zd_Mo_number_19 (by decide) ?_
          refine lv_iload_n X.1.1 X.1.2.1 zd_Mo_number_21 rfl (lv_at hl 3 rfl) ?_
          refine lv_imul X.1.1 X.1.2.1 zd_Mo_number_22 ?_
          refine zTop (y := nI (7 * k)) (pk_mul _ _) ?_
          refine lv_ishl X.1.1 X.1.2.1 zd_Mo_number_23 ?_
          refine lv_iadd X.1.1 X.1.2.1 zd_Mo_number_24 ?_
          refine lv_istore_n X.1.1 X.1.2.1 zd_Mo_number_25 rfl hl (by decide) rfl (fun ls hl => ?_)
          have hl : lv_has ls 4 [(1, .int ((nI v) + (((nI 0) &&& (nI 127)) <<< ((nI (7 * k)) &&& 31)))), (3, .int (nI 0)), (0, .ref m0), (2, .int (nI k))] := hl
          refine lv_iload_n X.1.1 X.1.2.1 zd_Mo_number_26 rfl (lv_at hl 1 rfl) ?_
          refine lv_sipush (v := nI 128) X.1.1 X.1.2.1 zd_Mo_number_27 (by decide) ?_
          refine lv_icmp_ge (tgt := 35) X.1.1 X.1.2.1 zd_Mo_number_30 rfl (fun c3 => ?_) (fun c3 => ?_)
          · have c3 : 128 ≤ 0 := zc_ge_t (by omega) (by omega) c3
            exact absurd c3 (by decide)
          · have c3 : 0 < 128 := zc_ge_f (by omega) (by omega) c3
            refine lv_iload_n X.1.1 X.1.2.1 zd_Mo_number_33 rfl (lv_at hl 0 rfl) ?_
            exact ret _ (p1, 1) H locs ls _ (⟨Or.inr ⟨rfl, he⟩, hp1⟩) h zd_Mo_number_34
  exact loop _ 0 0 at_ ls H locs (Nat.lt_succ_self _) (by omega) (by decide) (ha) (rfl) (lv_sub hl [2, 1, 0] rfl) h

set_option maxHeartbeats 4000000 in
set_option maxRecDepth 100000 in
theorem zc_Mo_numberN (l : Launch) (D : va_G) {m0 aI aB aO aR n nb nm cp frs dm th be at_ wr fi : Nat} {wh : Int32} {fI fB fO fR : Nat → Int32} {cI cB cO cR : ClassId} (hw : wr = 1) (ha : at_ ≤ n) (hn : n ≤ 65536) (sz : Nat) : zMi l D zy_Mo_number zb_Mo_number 4 .int ({ frames := 1, cells := 0, slots := 0, locals := 20 } : Room) [.ref m0] [(cI, .byte), (cB, .byte), (cO, .byte), (cR, .byte)] [(m0, .inr (4, [.ref aI, .ref aB, .ref aO, .ref aR, .int (nI n), .int (nI nb), .int (nI nm), .int (nI cp), .int (nI frs), .int (nI dm), .int (nI th), .int (nI be), .int wh, .int (nI at_), .int (nI wr), .int (nI fi)])), (aI, .inl (cI, 65536, .inl (fI))), (aB, .inl (cB, 65536, .inl (fB))), (aO, .inl (cO, 67000, .inl (fO))), (aR, .inl (cR, 65536, .inl (fR)))] sz (fun (r : Int32) (u : Unit) => r = nI 0 ∧ True) (fun _ => [(m0, .inr (4, [.ref aI, .ref aB, .ref aO, .ref aR, .int (nI n), .int (nI nb), .int (nI nm), .int (nI cp), .int (nI frs), .int (nI dm), .int (nI th), .int (nI be), .int wh, .int (nI at_), .int (nI wr), .int (nI fi)])), (aI, .inl (cI, 65536, .inl (fI))), (aB, .inl (cB, 65536, .inl (fB))), (aO, .inl (cO, 67000, .inl (fO))), (aR, .inl (cR, 65536, .inl (fR)))]) := by
  refine zEi (by decide) (Nat.le_of_ble_eq_true rfl) (fun p e s m args below meth c ls A Q X hl h hsz ret => ?_)
  have hl : lv_has ls 4 [(0, .ref m0)] := hl
  generalize hH0 : s.heap = H at h ⊢
  have h : zH D A s [(m0, .inr (4, [.ref aI, .ref aB, .ref aO, .ref aR, .int (nI n), .int (nI nb), .int (nI nm), .int (nI cp), .int (nI frs), .int (nI dm), .int (nI th), .int (nI be), .int wh, .int (nI at_), .int (nI wr), .int (nI fi)])), (aI, .inl (cI, 65536, .inl (fI))), (aB, .inl (cB, 65536, .inl (fB))), (aO, .inl (cO, 67000, .inl (fO))), (aR, .inl (cR, 65536, .inl (fR)))] H [] := h
  generalize hL0 : ([] : List Loc) = locs at h ⊢
  subst hw
  have h : zH D A s [(m0, .inr (4, [.ref aI, .ref aB, .ref aO, .ref aR, .int (nI n), .int (nI nb), .int (nI nm), .int (nI cp), .int (nI frs), .int (nI dm), .int (nI th), .int (nI be), .int wh, .int (nI at_), .int (nI 1), .int (nI fi)])), (aI, .inl (cI, 65536, .inl (fI))), (aB, .inl (cB, 65536, .inl (fB))), (aO, .inl (cO, 67000, .inl (fO))), (aR, .inl (cR, 65536, .inl (fR)))] H locs := h
  refine lv_iconst (v := nI 0) X.1.1 X.1.2.1 zd_Mo_number_0 (by decide) ?_
  refine lv_istore_n X.1.1 X.1.2.1 zd_Mo_number_1 rfl hl (by decide) rfl (fun ls hl => ?_)
  have hl : lv_has ls 4 [(1, .int (nI 0)), (0, .ref m0)] := hl
  refine lv_iconst (v := nI 0) X.1.1 X.1.2.1 zd_Mo_number_2 (by decide) ?_
  refine lv_istore_n X.1.1 X.1.2.1 zd_Mo_number_3 rfl hl (by decide) rfl (fun ls hl => ?_)
  have hl : lv_has ls 4 [(2, .int (nI 0)), (1, .int (nI 0)), (0, .ref m0)] := hl
  refine lv_iload_n X.1.1 X.1.2.1 zd_Mo_number_4 rfl (lv_at hl 0 rfl) ?_
  refine lv_iconst (v := nI 4) X.1.1 X.1.2.1 zd_Mo_number_5 (by decide) ?_
  refine lv_icmp_ge (tgt := 41) X.1.1 X.1.2.1 zd_Mo_number_6 rfl (fun c1 => ?_) (fun c1 => ?_)
  · have c1 : 4 ≤ 0 := zc_ge_t (by omega) (by omega) c1
    exact absurd c1 (by decide)
  · have c1 : 0 < 4 := zc_ge_f (by omega) (by omega) c1
    refine lv_aload_n X.1.1 X.1.2.1 zd_Mo_number_9 rfl (lv_at hl 2 rfl) ?_
    refine rCi (wr := []) (wf := fun _ => [(m0, .inr (4, [.ref aI, .ref aB, .ref aO, .ref aR, .int (nI n), .int (nI nb), .int (nI nm), .int (nI cp), .int (nI frs), .int (nI dm), .int (nI th), .int (nI be), .int wh, .int (nI at_), .int (nI 1), .int (nI fi)])), (aI, .inl (cI, 65536, .inl (fI))), (aB, .inl (cB, 65536, .inl (fB))), (aO, .inl (cO, 67000, .inl (fO))), (aR, .inl (cR, 65536, .inl (fR)))]) (rest := []) X h hl.1 (zc_Mo_nextN l D (m0 := m0) (aI := aI) (aB := aB) (aO := aO) (aR := aR) (wh := wh) (n := n) (nb := nb) (nm := nm) (cp := cp) (frs := frs) (dm := dm) (th := th) (be := be) (at_ := at_) (wr := 1) (fi := fi) (fI := fI) (cI := cI) (fB := fB) (cB := cB) (fO := fO) (cO := cO) (fR := fR) (cR := cR) (Or.inl rfl) (by omega) (hn) H.size) zw_599 zw_601 zs_24 zw_5 zm_Mo_next zq_Mo_next ⟨Nat.le_of_ble_eq_true rfl, Nat.le_of_ble_eq_true rfl⟩ ⟨Nat.le_of_ble_eq_true rfl, Nat.le_of_ble_eq_true rfl⟩ [0, 1, 2, 3] rfl [0, 1, 2, 3, 4] [] [0, 1, 2, 3, 4] rfl (by decide) rfl (by decide) (by decide) (fun _ => rfl) (by decide) 0 rfl rfl rfl (Nat.le_of_ble_eq_true rfl) zd_Mo_number_10 (fun r _ H locs hp h => ?_)
    obtain ⟨rfl, -⟩ := hp
    have h : zH D A s [(m0, .inr (4, [.ref aI, .ref aB, .ref aO, .ref aR, .int (nI n), .int (nI nb), .int (nI nm), .int (nI cp), .int (nI frs), .int (nI dm), .int (nI th), .int (nI be), .int wh, .int (nI at_), .int (nI 1), .int (nI fi)])), (aI, .inl (cI, 65536, .inl (fI))), (aB, .inl (cB, 65536, .inl (fB))), (aO, .inl (cO, 67000, .inl (fO))), (aR, .inl (cR, 65536, .inl (fR)))] H locs := h
    refine lv_istore_n X.1.1 X.1.2.1 zd_Mo_number_13 rfl hl (by decide) rfl (fun ls hl => ?_)
    have hl : lv_has ls 4 [(3, .int (nI 0)), (2, .int (nI 0)), (1, .int (nI 0)), (0, .ref m0)] := hl
    refine lv_iload_n X.1.1 X.1.2.1 zd_Mo_number_14 rfl (lv_at hl 2 rfl) ?_
    refine lv_iload_n X.1.1 X.1.2.1 zd_Mo_number_15 rfl (lv_at hl 0 rfl) ?_
    refine lv_bipush (v := nI 127) X.1.1 X.1.2.1 zd_Mo_number_16 (by decide) ?_
    refine lv_iand X.1.1 X.1.2.1 zd_Mo_number_18 ?_
    refine lv_bipush (v := nI 7) X.1.1 X.1.2.1 zd_Mo_number_19 (by decide) ?_
    refine lv_iload_n X.1.1 X.1.2.1 zd_Mo_number_21 rfl (lv_at hl 1 rfl) ?_
    refine lv_imul X.1.1 X.1.2.1 zd_Mo_number_22 ?_
    refine lv_ishl X.1.1 X.1.2.1 zd_Mo_number_23 ?_
    refine lv_iadd X.1.1 X.1.2.1 zd_Mo_number_24 ?_
    refine lv_istore_n X.1.1 X.1.2.1 zd_Mo_number_25 rfl hl (by decide) rfl (fun ls hl => ?_)
    have hl : lv_has ls 4 [(1, .int ((nI 0) + (((nI 0) &&& (nI 127)) <<< (((nI 7) * (nI 0)) &&& 31)))), (3, .int (nI 0)), (2, .int (nI 0)), (0, .ref m0)] := hl
    refine lv_iload_n X.1.1 X.1.2.1 zd_Mo_number_26 rfl (lv_at hl 1 rfl) ?_
    refine lv_sipush (v := nI 128) X.1.1 X.1.2.1 zd_Mo_number_27 (by decide) ?_
    refine lv_icmp_ge (tgt := 35) X.1.1 X.1.2.1 zd_Mo_number_30 rfl (fun c3 => ?_) (fun c3 => ?_)
    · have c3 : 128 ≤ 0 := zc_ge_t (by omega) (by omega) c3
      exact absurd c3 (by decide)
    · have c3 : 0 < 128 := zc_ge_f (by omega) (by omega) c3
      refine lv_iload_n X.1.1 X.1.2.1 zd_Mo_number_33 rfl (lv_at hl 0 rfl) ?_
      refine zTop (y := nI 0) (by decide) ?_
      exact ret _ () H locs ls _ (⟨rfl, trivial⟩) h zd_Mo_number_34

set_option maxHeartbeats 4000000 in
set_option maxRecDepth 100000 in
theorem zc_Mo_give (l : Launch) (D : va_G) {m0 aI aB aO aR n nb nm cp frs dm th be at_ wr fi : Nat} {wh : Int32} {fI fB fO fR : Nat → Int32} {cI cB cO cR : ClassId} {x : Int32} {y : Nat} (hw : wr = 0) (hf : fi < y) (hy : y ≤ 65536) (hx : fits .byte (.int x) = true) (sz : Nat) : zMv l D zy_Mo_give zb_Mo_give 3 ({ frames := 0, cells := 0, slots := 0, locals := 0 } : Room) [.ref m0, .int x, .int (nI y)] [(cI, .byte), (cB, .byte), (cO, .byte), (cR, .byte)] [(m0, .inr (4, [.ref aI, .ref aB, .ref aO, .ref aR, .int (nI n), .int (nI nb), .int (nI nm), .int (nI cp), .int (nI frs), .int (nI dm), .int (nI th), .int (nI be), .int wh, .int (nI at_), .int (nI wr), .int (nI fi)])), (aI, .inl (cI, 65536, .inl (fI))), (aB, .inl (cB, 65536, .inl (fB))), (aO, .inl (cO, 67000, .inl (fO))), (aR, .inl (cR, 65536, .inl (fR)))] sz (fun (u : Unit) => True) (fun _ => [(m0, .inr (4, [.ref aI, .ref aB, .ref aO, .ref aR, .int (nI n), .int (nI nb), .int (nI nm), .int (nI cp), .int (nI frs), .int (nI dm), .int (nI th), .int (nI be), .int wh, .int (nI at_), .int (nI wr), .int (nI (fi + 1))])), (aI, .inl (cI, 65536, .inl (fI))), (aB, .inl (cB, 65536, .inl (fB))), (aO, .inl (cO, 67000, .inl (fO))), (aR, .inl (cR, 65536, .inl (upd fR fi x)))]) := by
  refine zEv (by decide) (Nat.le_of_ble_eq_true rfl) (fun p e s m args below meth c ls A Q X hin hl h hsz ret => ?_)
  have hl : lv_has ls 3 [(0, .ref m0), (1, .int x), (2, .int (nI y))] := hl
  generalize hH0 : s.heap = H at h ⊢
  have h : zH D A s [(m0, .inr (4, [.ref aI, .ref aB, .ref aO, .ref aR, .int (nI n), .int (nI nb), .int (nI nm), .int (nI cp), .int (nI frs), .int (nI dm), .int (nI th), .int (nI be), .int wh, .int (nI at_), .int (nI wr), .int (nI fi)])), (aI, .inl (cI, 65536, .inl (fI))), (aB, .inl (cB, 65536, .inl (fB))), (aO, .inl (cO, 67000, .inl (fO))), (aR, .inl (cR, 65536, .inl (fR)))] H [] := h
  generalize hL0 : ([] : List Loc) = locs at h ⊢
  subst hw
  have h : zH D A s [(m0, .inr (4, [.ref aI, .ref aB, .ref aO, .ref aR, .int (nI n), .int (nI nb), .int (nI nm), .int (nI cp), .int (nI frs), .int (nI dm), .int (nI th), .int (nI be), .int wh, .int (nI at_), .int (nI 0), .int (nI fi)])), (aI, .inl (cI, 65536, .inl (fI))), (aB, .inl (cB, 65536, .inl (fB))), (aO, .inl (cO, 67000, .inl (fO))), (aR, .inl (cR, 65536, .inl (fR)))] H locs := h
  refine lv_aload_n X.1.1 X.1.2.1 zd_Mo_give_0 rfl (lv_at hl 0 rfl) ?_
  refine rG X h 0 rfl rfl zW_Mo 15 (by decide) zw_508 rfl zd_Mo_give_1 ?_
  refine lv_iload_n X.1.1 X.1.2.1 zd_Mo_give_4 rfl (lv_at hl 2 rfl) ?_
  refine lv_icmp_lt (tgt := 13) X.1.1 X.1.2.1 zd_Mo_give_5 rfl (fun c1 => ?_) (fun c1 => ?_)
  · have c1 : fi < y := zc_lt_t (by omega) (by omega) c1
    refine lv_aload_n X.1.1 X.1.2.1 zd_Mo_give_13 rfl (lv_at hl 0 rfl) ?_
    refine rG X h 0 rfl rfl zW_Mo 14 (by decide) zw_507 rfl zd_Mo_give_14 ?_
    refine lv_if_eq (tgt := 21) X.1.1 X.1.2.1 zd_Mo_give_17 rfl (fun c2 => ?_) (fun c2 => ?_)
    · have c2 : 0 = 0 := zc_eq0_t (by omega) (by omega) c2
      refine lv_aload_n X.1.1 X.1.2.1 zd_Mo_give_21 rfl (lv_at hl 0 rfl) ?_
      refine rG X h 0 rfl rfl zW_Mo 3 (by decide) zw_496 rfl zd_Mo_give_22 ?_
      refine lv_aload_n X.1.1 X.1.2.1 zd_Mo_give_25 rfl (lv_at hl 0 rfl) ?_
      refine rG X h 0 rfl rfl zW_Mo 15 (by decide) zw_508 rfl zd_Mo_give_26 ?_
      refine lv_iload_n X.1.1 X.1.2.1 zd_Mo_give_29 rfl (lv_at hl 1 rfl) ?_
      refine rSb X h 4 3 rfl rfl (by omega) (by omega) ((vp_nar_byte _).trans (b8_fit hx)) zd_Mo_give_30 (fun H locs h => ?_)
      have h : zH D A s [(m0, .inr (4, [.ref aI, .ref aB, .ref aO, .ref aR, .int (nI n), .int (nI nb), .int (nI nm), .int (nI cp), .int (nI frs), .int (nI dm), .int (nI th), .int (nI be), .int wh, .int (nI at_), .int (nI 0), .int (nI fi)])), (aI, .inl (cI, 65536, .inl (fI))), (aB, .inl (cB, 65536, .inl (fB))), (aO, .inl (cO, 67000, .inl (fO))), (aR, .inl (cR, 65536, .inl (upd fR fi x)))] H locs := h
      refine lv_aload_n X.1.1 X.1.2.1 zd_Mo_give_31 rfl (lv_at hl 0 rfl) ?_
      refine lv_dup X.1.1 X.1.2.1 zd_Mo_give_32 rfl ?_
      refine rG X h 0 rfl rfl zW_Mo 15 (by decide) zw_508 rfl zd_Mo_give_33 ?_
      refine lv_iconst (v := nI 1) X.1.1 X.1.2.1 zd_Mo_give_36 (by decide) ?_
      refine lv_iadd X.1.1 X.1.2.1 zd_Mo_give_37 ?_
      refine zTop (y := nI (fi + 1)) (nI_add _ _) ?_
      refine rP X h 0 rfl rfl zW_Mo zO_Mo zN_Mo 15 (by decide) zw_508 rfl (rfl) (rfl) (Nat.le_of_ble_eq_true rfl) zd_Mo_give_38 (fun H locs h => ?_)
      have h : zH D A s [(m0, .inr (4, [.ref aI, .ref aB, .ref aO, .ref aR, .int (nI n), .int (nI nb), .int (nI nm), .int (nI cp), .int (nI frs), .int (nI dm), .int (nI th), .int (nI be), .int wh, .int (nI at_), .int (nI 0), .int (nI (fi + 1))])), (aI, .inl (cI, 65536, .inl (fI))), (aB, .inl (cB, 65536, .inl (fB))), (aO, .inl (cO, 67000, .inl (fO))), (aR, .inl (cR, 65536, .inl (upd fR fi x)))] H locs := h
      exact ret () H locs ls _ (trivial) h zd_Mo_give_41
    · have c2 : 0 ≠ 0 := zc_eq0_f (by omega) (by omega) c2
      exact absurd rfl c2
  · have c1 : y ≤ fi := zc_lt_f (by omega) (by omega) c1
    exact absurd c1 (by omega)

set_option maxHeartbeats 4000000 in
set_option maxRecDepth 100000 in
theorem zc_Mo_giveN (l : Launch) (D : va_G) {m0 aI aB aO aR n nb nm cp frs dm th be at_ wr fi : Nat} {wh : Int32} {fI fB fO fR : Nat → Int32} {cI cB cO cR : ClassId} {x : Int32} {y : Nat} (hw : wr = 1 ∨ (wr = 0 ∧ y ≤ fi)) (hy : y ≤ 65536) (hf : fi ≤ 65536) (sz : Nat) : zMv l D zy_Mo_give zb_Mo_give 3 ({ frames := 0, cells := 0, slots := 0, locals := 0 } : Room) [.ref m0, .int x, .int (nI y)] [(cI, .byte), (cB, .byte), (cO, .byte), (cR, .byte)] [(m0, .inr (4, [.ref aI, .ref aB, .ref aO, .ref aR, .int (nI n), .int (nI nb), .int (nI nm), .int (nI cp), .int (nI frs), .int (nI dm), .int (nI th), .int (nI be), .int wh, .int (nI at_), .int (nI wr), .int (nI fi)])), (aI, .inl (cI, 65536, .inl (fI))), (aB, .inl (cB, 65536, .inl (fB))), (aO, .inl (cO, 67000, .inl (fO))), (aR, .inl (cR, 65536, .inl (fR)))] sz (fun (u : Unit) => True) (fun _ => [(m0, .inr (4, [.ref aI, .ref aB, .ref aO, .ref aR, .int (nI n), .int (nI nb), .int (nI nm), .int (nI cp), .int (nI frs), .int (nI dm), .int (nI th), .int (nI be), .int wh, .int (nI at_), .int (nI 1), .int (nI fi)])), (aI, .inl (cI, 65536, .inl (fI))), (aB, .inl (cB, 65536, .inl (fB))), (aO, .inl (cO, 67000, .inl (fO))), (aR, .inl (cR, 65536, .inl (fR)))]) := by
  refine zEv (by decide) (Nat.le_of_ble_eq_true rfl) (fun p e s m args below meth c ls A Q X hin hl h hsz ret => ?_)
  have hl : lv_has ls 3 [(0, .ref m0), (1, .int x), (2, .int (nI y))] := hl
  generalize hH0 : s.heap = H at h ⊢
  have h : zH D A s [(m0, .inr (4, [.ref aI, .ref aB, .ref aO, .ref aR, .int (nI n), .int (nI nb), .int (nI nm), .int (nI cp), .int (nI frs), .int (nI dm), .int (nI th), .int (nI be), .int wh, .int (nI at_), .int (nI wr), .int (nI fi)])), (aI, .inl (cI, 65536, .inl (fI))), (aB, .inl (cB, 65536, .inl (fB))), (aO, .inl (cO, 67000, .inl (fO))), (aR, .inl (cR, 65536, .inl (fR)))] H [] := h
  generalize hL0 : ([] : List Loc) = locs at h ⊢
  rcases hw with hw | ⟨hw, hw2⟩
  · subst hw
    have h : zH D A s [(m0, .inr (4, [.ref aI, .ref aB, .ref aO, .ref aR, .int (nI n), .int (nI nb), .int (nI nm), .int (nI cp), .int (nI frs), .int (nI dm), .int (nI th), .int (nI be), .int wh, .int (nI at_), .int (nI 1), .int (nI fi)])), (aI, .inl (cI, 65536, .inl (fI))), (aB, .inl (cB, 65536, .inl (fB))), (aO, .inl (cO, 67000, .inl (fO))), (aR, .inl (cR, 65536, .inl (fR)))] H locs := h
    refine lv_aload_n X.1.1 X.1.2.1 zd_Mo_give_0 rfl (lv_at hl 0 rfl) ?_
    refine rG X h 0 rfl rfl zW_Mo 15 (by decide) zw_508 rfl zd_Mo_give_1 ?_
    refine lv_iload_n X.1.1 X.1.2.1 zd_Mo_give_4 rfl (lv_at hl 2 rfl) ?_
    refine lv_icmp_lt (tgt := 13) X.1.1 X.1.2.1 zd_Mo_give_5 rfl (fun c1 => ?_) (fun c1 => ?_)
    · have c1 : fi < y := zc_lt_t (by omega) (by omega) c1
      refine lv_aload_n X.1.1 X.1.2.1 zd_Mo_give_13 rfl (lv_at hl 0 rfl) ?_
      refine rG X h 0 rfl rfl zW_Mo 14 (by decide) zw_507 rfl zd_Mo_give_14 ?_
      refine lv_if_eq (tgt := 21) X.1.1 X.1.2.1 zd_Mo_give_17 rfl (fun c2 => ?_) (fun c2 => ?_)
      · have c2 : 1 = 0 := zc_eq0_t (by omega) (by omega) c2
        exact absurd c2 (by decide)
      · have c2 : 1 ≠ 0 := zc_eq0_f (by omega) (by omega) c2
        exact ret () H locs ls _ (trivial) h zd_Mo_give_20
    · have c1 : y ≤ fi := zc_lt_f (by omega) (by omega) c1
      refine lv_aload_n X.1.1 X.1.2.1 zd_Mo_give_8 rfl (lv_at hl 0 rfl) ?_
      refine lv_iconst (v := nI 1) X.1.1 X.1.2.1 zd_Mo_give_9 (by decide) ?_
      refine rP X h 0 rfl rfl zW_Mo zO_Mo zN_Mo 14 (by decide) zw_507 rfl (rfl) (rfl) (Nat.le_of_ble_eq_true rfl) zd_Mo_give_10 (fun H locs h => ?_)
      have h : zH D A s [(m0, .inr (4, [.ref aI, .ref aB, .ref aO, .ref aR, .int (nI n), .int (nI nb), .int (nI nm), .int (nI cp), .int (nI frs), .int (nI dm), .int (nI th), .int (nI be), .int wh, .int (nI at_), .int (nI 1), .int (nI fi)])), (aI, .inl (cI, 65536, .inl (fI))), (aB, .inl (cB, 65536, .inl (fB))), (aO, .inl (cO, 67000, .inl (fO))), (aR, .inl (cR, 65536, .inl (fR)))] H locs := h
      refine lv_aload_n X.1.1 X.1.2.1 zd_Mo_give_13 rfl (lv_at hl 0 rfl) ?_
      refine rG X h 0 rfl rfl zW_Mo 14 (by decide) zw_507 rfl zd_Mo_give_14 ?_
      refine lv_if_eq (tgt := 21) X.1.1 X.1.2.1 zd_Mo_give_17 rfl (fun c2 => ?_) (fun c2 => ?_)
      · have c2 : 1 = 0 := zc_eq0_t (by omega) (by omega) c2
        exact absurd c2 (by decide)
      · have c2 : 1 ≠ 0 := zc_eq0_f (by omega) (by omega) c2
        exact ret () H locs ls _ (trivial) h zd_Mo_give_20
  · subst hw
    have h : zH D A s [(m0, .inr (4, [.ref aI, .ref aB, .ref aO, .ref aR, .int (nI n), .int (nI nb), .int (nI nm), .int (nI cp), .int (nI frs), .int (nI dm), .int (nI th), .int (nI be), .int wh, .int (nI at_), .int (nI 0), .int (nI fi)])), (aI, .inl (cI, 65536, .inl (fI))), (aB, .inl (cB, 65536, .inl (fB))), (aO, .inl (cO, 67000, .inl (fO))), (aR, .inl (cR, 65536, .inl (fR)))] H locs := h
    refine lv_aload_n X.1.1 X.1.2.1 zd_Mo_give_0 rfl (lv_at hl 0 rfl) ?_
    refine rG X h 0 rfl rfl zW_Mo 15 (by decide) zw_508 rfl zd_Mo_give_1 ?_
    refine lv_iload_n X.1.1 X.1.2.1 zd_Mo_give_4 rfl (lv_at hl 2 rfl) ?_
    refine lv_icmp_lt (tgt := 13) X.1.1 X.1.2.1 zd_Mo_give_5 rfl (fun c1 => ?_) (fun c1 => ?_)
    · have c1 : fi < y := zc_lt_t (by omega) (by omega) c1
      exact absurd c1 (by omega)
    · have c1 : y ≤ fi := zc_lt_f (by omega) (by omega) c1
      refine lv_aload_n X.1.1 X.1.2.1 zd_Mo_give_8 rfl (lv_at hl 0 rfl) ?_
      refine lv_iconst (v := nI 1) X.1.1 X.1.2.1 zd_Mo_give_9 (by decide) ?_
      refine rP X h 0 rfl rfl zW_Mo zO_Mo zN_Mo 14 (by decide) zw_507 rfl (rfl) (rfl) (Nat.le_of_ble_eq_true rfl) zd_Mo_give_10 (fun H locs h => ?_)
      have h : zH D A s [(m0, .inr (4, [.ref aI, .ref aB, .ref aO, .ref aR, .int (nI n), .int (nI nb), .int (nI nm), .int (nI cp), .int (nI frs), .int (nI dm), .int (nI th), .int (nI be), .int wh, .int (nI at_), .int (nI 1), .int (nI fi)])), (aI, .inl (cI, 65536, .inl (fI))), (aB, .inl (cB, 65536, .inl (fB))), (aO, .inl (cO, 67000, .inl (fO))), (aR, .inl (cR, 65536, .inl (fR)))] H locs := h
      refine lv_aload_n X.1.1 X.1.2.1 zd_Mo_give_13 rfl (lv_at hl 0 rfl) ?_
      refine rG X h 0 rfl rfl zW_Mo 14 (by decide) zw_507 rfl zd_Mo_give_14 ?_
      refine lv_if_eq (tgt := 21) X.1.1 X.1.2.1 zd_Mo_give_17 rfl (fun c2 => ?_) (fun c2 => ?_)
      · have c2 : 1 = 0 := zc_eq0_t (by omega) (by omega) c2
        exact absurd c2 (by decide)
      · have c2 : 1 ≠ 0 := zc_eq0_f (by omega) (by omega) c2
        exact ret () H locs ls _ (trivial) h zd_Mo_give_20
