/-! Integer.highestOneBit, numberOfLeadingZeros, bitCount; emptySlots -/
theorem nI_and (a b : Nat) : nI a &&& nI b = nI (a &&& b) := by
  refine nI_inj32 ?_
  show (BitVec.ofNat 32 a &&& BitVec.ofNat 32 b).toNat = (BitVec.ofNat 32 (a &&& b)).toNat
  simp [BitVec.toNat_and, Nat.and_mod_two_pow]
theorem hob_sh : ∀ k, k < 16 → ((-2147483648 : Int32).toUInt32 >>> ((nI (31 - k)).toUInt32 &&& Int32.toUInt32 31)).toInt32 = nI (2 ^ k) := by decide +kernel
theorem hob_and {x k : Nat} (h1 : 2 ^ k ≤ x) (h2 : x < 2 ^ (k + 1)) : nI x &&& nI (2 ^ k) = nI (2 ^ k) := by
  rw [nI_and]
  congr 1
  apply Nat.eq_of_testBit_eq
  intro i
  rw [Nat.testBit_and, Nat.testBit_two_pow]
  by_cases hc : k = i
  · subst hc
    rw [Nat.testBit_of_two_pow_le_and_two_pow_add_one_gt h1 h2]
    simp
  · simp [hc]

set_option maxHeartbeats 4000000 in
set_option maxRecDepth 100000 in
theorem zc_In_numberOfLeadingZeros (l : Launch) (D : va_G) {x : Nat} (h0 : 0 < x) (hx : x < 65536) (sz : Nat) : zMi l D zy_In_numberOfLeadingZeros zb_In_numberOfLeadingZeros 2 .int ({ frames := 0, cells := 0, slots := 0, locals := 0 } : Room) [.int (nI x)] [] [] sz (fun (r : Int32) (u : Nat) => r = nI (31 - u) ∧ u < 16 ∧ 2 ^ u ≤ x ∧ x < 2 ^ (u + 1)) (fun u => []) := by
  refine zEi (by decide) (Nat.le_of_ble_eq_true rfl) (fun p e s m args below meth c ls A Q X hl h hsz ret => ?_)
  have hl : lv_has ls 2 [(0, .int (nI x))] := hl
  generalize hH0 : s.heap = H at h ⊢
  have h : zH D A s [] H [] := h
  generalize hL0 : ([] : List Loc) = locs at h ⊢
  refine lv_iload_n X.1.1 X.1.2.1 zd_In_numberOfLeadingZeros_0 rfl (lv_at hl 0 rfl) ?_
  refine lv_if_gt (tgt := 15) X.1.1 X.1.2.1 zd_In_numberOfLeadingZeros_1 rfl (fun c0 => ?_) (fun c0 => ?_)
  · have c0 : 0 < x := zc_gt0_t (by omega) (by omega) c0
    refine lv_bipush (v := nI 31) X.1.1 X.1.2.1 zd_In_numberOfLeadingZeros_15 (by decide) ?_
    refine lv_istore_n X.1.1 X.1.2.1 zd_In_numberOfLeadingZeros_17 rfl hl (by decide) rfl (fun ls hl => ?_)
    have hl : lv_has ls 2 [(1, .int (nI 31)), (0, .int (nI x))] := hl
    refine lv_iload_n X.1.1 X.1.2.1 zd_In_numberOfLeadingZeros_18 rfl (lv_at hl 1 rfl) ?_
    refine lv_ldcw X.1.1 X.1.2.1 X.1.2.2.2.1 (X.1.2.2.2.2 _ zw_187) zd_In_numberOfLeadingZeros_19 ?_
    refine zTop (y := nI 65536) (by decide) ?_
    refine lv_icmp_lt (tgt := 33) X.1.1 X.1.2.1 zd_In_numberOfLeadingZeros_22 rfl (fun c1 => ?_) (fun c1 => ?_)
    · have c1 : x < 65536 := zc_lt_t (by omega) (by omega) c1
      refine lv_iload_n X.1.1 X.1.2.1 zd_In_numberOfLeadingZeros_33 rfl (lv_at hl 1 rfl) ?_
      refine lv_sipush (v := nI 256) X.1.1 X.1.2.1 zd_In_numberOfLeadingZeros_34 (by decide) ?_
      refine lv_icmp_lt (tgt := 48) X.1.1 X.1.2.1 zd_In_numberOfLeadingZeros_37 rfl (fun d0 => ?_) (fun d0 => ?_)
      · have d0 : x < 256 := zc_lt_t (by omega) (by omega) d0
        refine lv_iload_n X.1.1 X.1.2.1 zd_In_numberOfLeadingZeros_48 rfl (lv_at hl 1 rfl) ?_
        refine lv_bipush (v := nI 16) X.1.1 X.1.2.1 zd_In_numberOfLeadingZeros_49 (by decide) ?_
        refine lv_icmp_lt (tgt := 61) X.1.1 X.1.2.1 zd_In_numberOfLeadingZeros_51 rfl (fun d1 => ?_) (fun d1 => ?_)
        · have d1 : x < 16 := zc_lt_t (by omega) (by omega) d1
          refine lv_iload_n X.1.1 X.1.2.1 zd_In_numberOfLeadingZeros_61 rfl (lv_at hl 1 rfl) ?_
          refine lv_iconst (v := nI 4) X.1.1 X.1.2.1 zd_In_numberOfLeadingZeros_62 (by decide) ?_
          refine lv_icmp_lt (tgt := 73) X.1.1 X.1.2.1 zd_In_numberOfLeadingZeros_63 rfl (fun d2 => ?_) (fun d2 => ?_)
          · have d2 : x < 4 := zc_lt_t (by omega) (by omega) d2
            refine lv_iload_n X.1.1 X.1.2.1 zd_In_numberOfLeadingZeros_73 rfl (lv_at hl 0 rfl) ?_
            refine lv_iload_n X.1.1 X.1.2.1 zd_In_numberOfLeadingZeros_74 rfl (lv_at hl 1 rfl) ?_
            refine lv_iconst (v := nI 1) X.1.1 X.1.2.1 zd_In_numberOfLeadingZeros_75 (by decide) ?_
            refine lv_iushr (v := nI (x / 2)) X.1.1 X.1.2.1 zd_In_numberOfLeadingZeros_76 ((ush_eq _ (by decide)).trans (ush_nI (by omega))) ?_
            refine lv_isub X.1.1 X.1.2.1 zd_In_numberOfLeadingZeros_77 ?_
            refine zTop (y := nI (31 - (0 + x / 2))) ((pk_sub (by omega)).trans (congrArg nI (by omega))) ?_
            exact ret _ (0 + x / 2) H locs ls _ (⟨rfl, by omega, by rcases (show x / 2 = 0 ∨ x / 2 = 1 by omega) with q | q <;> rw [q] <;> omega, by rcases (show x / 2 = 0 ∨ x / 2 = 1 by omega) with q | q <;> rw [q] <;> omega⟩) h zd_In_numberOfLeadingZeros_78
          · have d2 : 4 ≤ x := zc_lt_f (by omega) (by omega) d2
            refine lv_iinc X.1.1 X.1.2.1 zd_In_numberOfLeadingZeros_66 hl (k := 0) rfl (v := nI 29) (by decide) (by decide) rfl (fun ls hl => ?_)
            have hl : lv_has ls 2 [(1, .int (nI 29)), (0, .int (nI x))] := hl
            refine lv_iload_n X.1.1 X.1.2.1 zd_In_numberOfLeadingZeros_69 rfl (lv_at hl 1 rfl) ?_
            refine lv_iconst (v := nI 2) X.1.1 X.1.2.1 zd_In_numberOfLeadingZeros_70 (by decide) ?_
            refine lv_iushr (v := nI (x / 4)) X.1.1 X.1.2.1 zd_In_numberOfLeadingZeros_71 ((ush_eq _ (by decide)).trans (ush_nI (by omega))) ?_
            refine lv_istore_n X.1.1 X.1.2.1 zd_In_numberOfLeadingZeros_72 rfl hl (by decide) rfl (fun ls hl => ?_)
            have hl : lv_has ls 2 [(0, .int (nI (x / 4))), (1, .int (nI 29))] := hl
            refine lv_iload_n X.1.1 X.1.2.1 zd_In_numberOfLeadingZeros_73 rfl (lv_at hl 1 rfl) ?_
            refine lv_iload_n X.1.1 X.1.2.1 zd_In_numberOfLeadingZeros_74 rfl (lv_at hl 0 rfl) ?_
            refine lv_iconst (v := nI 1) X.1.1 X.1.2.1 zd_In_numberOfLeadingZeros_75 (by decide) ?_
            refine lv_iushr (v := nI ((x / 4) / 2)) X.1.1 X.1.2.1 zd_In_numberOfLeadingZeros_76 ((ush_eq _ (by decide)).trans (ush_nI (by omega))) ?_
            refine lv_isub X.1.1 X.1.2.1 zd_In_numberOfLeadingZeros_77 ?_
            refine zTop (y := nI (31 - (2 + (x / 4) / 2))) ((pk_sub (by omega)).trans (congrArg nI (by omega))) ?_
            exact ret _ (2 + (x / 4) / 2) H locs ls _ (⟨rfl, by omega, by rcases (show (x / 4) / 2 = 0 ∨ (x / 4) / 2 = 1 by omega) with q | q <;> rw [q] <;> omega, by rcases (show (x / 4) / 2 = 0 ∨ (x / 4) / 2 = 1 by omega) with q | q <;> rw [q] <;> omega⟩) h zd_In_numberOfLeadingZeros_78
        · have d1 : 16 ≤ x := zc_lt_f (by omega) (by omega) d1
          refine lv_iinc X.1.1 X.1.2.1 zd_In_numberOfLeadingZeros_54 hl (k := 0) rfl (v := nI 27) (by decide) (by decide) rfl (fun ls hl => ?_)
          have hl : lv_has ls 2 [(1, .int (nI 27)), (0, .int (nI x))] := hl
          refine lv_iload_n X.1.1 X.1.2.1 zd_In_numberOfLeadingZeros_57 rfl (lv_at hl 1 rfl) ?_
          refine lv_iconst (v := nI 4) X.1.1 X.1.2.1 zd_In_numberOfLeadingZeros_58 (by decide) ?_
          refine lv_iushr (v := nI (x / 16)) X.1.1 X.1.2.1 zd_In_numberOfLeadingZeros_59 ((ush_eq _ (by decide)).trans (ush_nI (by omega))) ?_
          refine lv_istore_n X.1.1 X.1.2.1 zd_In_numberOfLeadingZeros_60 rfl hl (by decide) rfl (fun ls hl => ?_)
          have hl : lv_has ls 2 [(0, .int (nI (x / 16))), (1, .int (nI 27))] := hl
          refine lv_iload_n X.1.1 X.1.2.1 zd_In_numberOfLeadingZeros_61 rfl (lv_at hl 0 rfl) ?_
          refine lv_iconst (v := nI 4) X.1.1 X.1.2.1 zd_In_numberOfLeadingZeros_62 (by decide) ?_
          refine lv_icmp_lt (tgt := 73) X.1.1 X.1.2.1 zd_In_numberOfLeadingZeros_63 rfl (fun d2 => ?_) (fun d2 => ?_)
          · have d2 : x / 16 < 4 := zc_lt_t (by omega) (by omega) d2
            refine lv_iload_n X.1.1 X.1.2.1 zd_In_numberOfLeadingZeros_73 rfl (lv_at hl 1 rfl) ?_
            refine lv_iload_n X.1.1 X.1.2.1 zd_In_numberOfLeadingZeros_74 rfl (lv_at hl 0 rfl) ?_
            refine lv_iconst (v := nI 1) X.1.1 X.1.2.1 zd_In_numberOfLeadingZeros_75 (by decide) ?_
            refine lv_iushr (v := nI ((x / 16) / 2)) X.1.1 X.1.2.1 zd_In_numberOfLeadingZeros_76 ((ush_eq _ (by decide)).trans (ush_nI (by omega))) ?_
            refine lv_isub X.1.1 X.1.2.1 zd_In_numberOfLeadingZeros_77 ?_
            refine zTop (y := nI (31 - (4 + (x / 16) / 2))) ((pk_sub (by omega)).trans (congrArg nI (by omega))) ?_
            exact ret _ (4 + (x / 16) / 2) H locs ls _ (⟨rfl, by omega, by rcases (show (x / 16) / 2 = 0 ∨ (x / 16) / 2 = 1 by omega) with q | q <;> rw [q] <;> omega, by rcases (show (x / 16) / 2 = 0 ∨ (x / 16) / 2 = 1 by omega) with q | q <;> rw [q] <;> omega⟩) h zd_In_numberOfLeadingZeros_78
          · have d2 : 4 ≤ x / 16 := zc_lt_f (by omega) (by omega) d2
            refine lv_iinc X.1.1 X.1.2.1 zd_In_numberOfLeadingZeros_66 hl (k := 1) rfl (v := nI 25) (by decide) (by decide) rfl (fun ls hl => ?_)
            have hl : lv_has ls 2 [(1, .int (nI 25)), (0, .int (nI (x / 16)))] := hl
            refine lv_iload_n X.1.1 X.1.2.1 zd_In_numberOfLeadingZeros_69 rfl (lv_at hl 1 rfl) ?_
            refine lv_iconst (v := nI 2) X.1.1 X.1.2.1 zd_In_numberOfLeadingZeros_70 (by decide) ?_
            refine lv_iushr (v := nI ((x / 16) / 4)) X.1.1 X.1.2.1 zd_In_numberOfLeadingZeros_71 ((ush_eq _ (by decide)).trans (ush_nI (by omega))) ?_
            refine lv_istore_n X.1.1 X.1.2.1 zd_In_numberOfLeadingZeros_72 rfl hl (by decide) rfl (fun ls hl => ?_)
            have hl : lv_has ls 2 [(0, .int (nI ((x / 16) / 4))), (1, .int (nI 25))] := hl
            refine lv_iload_n X.1.1 X.1.2.1 zd_In_numberOfLeadingZeros_73 rfl (lv_at hl 1 rfl) ?_
            refine lv_iload_n X.1.1 X.1.2.1 zd_In_numberOfLeadingZeros_74 rfl (lv_at hl 0 rfl) ?_
            refine lv_iconst (v := nI 1) X.1.1 X.1.2.1 zd_In_numberOfLeadingZeros_75 (by decide) ?_
            refine lv_iushr (v := nI (((x / 16) / 4) / 2)) X.1.1 X.1.2.1 zd_In_numberOfLeadingZeros_76 ((ush_eq _ (by decide)).trans (ush_nI (by omega))) ?_
            refine lv_isub X.1.1 X.1.2.1 zd_In_numberOfLeadingZeros_77 ?_
            refine zTop (y := nI (31 - (6 + ((x / 16) / 4) / 2))) ((pk_sub (by omega)).trans (congrArg nI (by omega))) ?_
            exact ret _ (6 + ((x / 16) / 4) / 2) H locs ls _ (⟨rfl, by omega, by rcases (show ((x / 16) / 4) / 2 = 0 ∨ ((x / 16) / 4) / 2 = 1 by omega) with q | q <;> rw [q] <;> omega, by rcases (show ((x / 16) / 4) / 2 = 0 ∨ ((x / 16) / 4) / 2 = 1 by omega) with q | q <;> rw [q] <;> omega⟩) h zd_In_numberOfLeadingZeros_78
      · have d0 : 256 ≤ x := zc_lt_f (by omega) (by omega) d0
        refine lv_iinc X.1.1 X.1.2.1 zd_In_numberOfLeadingZeros_40 hl (k := 0) rfl (v := nI 23) (by decide) (by decide) rfl (fun ls hl => ?_)
        have hl : lv_has ls 2 [(1, .int (nI 23)), (0, .int (nI x))] := hl
        refine lv_iload_n X.1.1 X.1.2.1 zd_In_numberOfLeadingZeros_43 rfl (lv_at hl 1 rfl) ?_
        refine lv_bipush (v := nI 8) X.1.1 X.1.2.1 zd_In_numberOfLeadingZeros_44 (by decide) ?_
        refine lv_iushr (v := nI (x / 256)) X.1.1 X.1.2.1 zd_In_numberOfLeadingZeros_46 ((ush_eq _ (by decide)).trans (ush_nI (by omega))) ?_
        refine lv_istore_n X.1.1 X.1.2.1 zd_In_numberOfLeadingZeros_47 rfl hl (by decide) rfl (fun ls hl => ?_)
        have hl : lv_has ls 2 [(0, .int (nI (x / 256))), (1, .int (nI 23))] := hl
        refine lv_iload_n X.1.1 X.1.2.1 zd_In_numberOfLeadingZeros_48 rfl (lv_at hl 0 rfl) ?_
        refine lv_bipush (v := nI 16) X.1.1 X.1.2.1 zd_In_numberOfLeadingZeros_49 (by decide) ?_
        refine lv_icmp_lt (tgt := 61) X.1.1 X.1.2.1 zd_In_numberOfLeadingZeros_51 rfl (fun d1 => ?_) (fun d1 => ?_)
        · have d1 : x / 256 < 16 := zc_lt_t (by omega) (by omega) d1
          refine lv_iload_n X.1.1 X.1.2.1 zd_In_numberOfLeadingZeros_61 rfl (lv_at hl 0 rfl) ?_
          refine lv_iconst (v := nI 4) X.1.1 X.1.2.1 zd_In_numberOfLeadingZeros_62 (by decide) ?_
          refine lv_icmp_lt (tgt := 73) X.1.1 X.1.2.1 zd_In_numberOfLeadingZeros_63 rfl (fun d2 => ?_) (fun d2 => ?_)
          · have d2 : x / 256 < 4 := zc_lt_t (by omega) (by omega) d2
            refine lv_iload_n X.1.1 X.1.2.1 zd_In_numberOfLeadingZeros_73 rfl (lv_at hl 1 rfl) ?_
            refine lv_iload_n X.1.1 X.1.2.1 zd_In_numberOfLeadingZeros_74 rfl (lv_at hl 0 rfl) ?_
            refine lv_iconst (v := nI 1) X.1.1 X.1.2.1 zd_In_numberOfLeadingZeros_75 (by decide) ?_
            refine lv_iushr (v := nI ((x / 256) / 2)) X.1.1 X.1.2.1 zd_In_numberOfLeadingZeros_76 ((ush_eq _ (by decide)).trans (ush_nI (by omega))) ?_
            refine lv_isub X.1.1 X.1.2.1 zd_In_numberOfLeadingZeros_77 ?_
            refine zTop (y := nI (31 - (8 + (x / 256) / 2))) ((pk_sub (by omega)).trans (congrArg nI (by omega))) ?_
            exact ret _ (8 + (x / 256) / 2) H locs ls _ (⟨rfl, by omega, by rcases (show (x / 256) / 2 = 0 ∨ (x / 256) / 2 = 1 by omega) with q | q <;> rw [q] <;> omega, by rcases (show (x / 256) / 2 = 0 ∨ (x / 256) / 2 = 1 by omega) with q | q <;> rw [q] <;> omega⟩) h zd_In_numberOfLeadingZeros_78
          · have d2 : 4 ≤ x / 256 := zc_lt_f (by omega) (by omega) d2
            refine lv_iinc X.1.1 X.1.2.1 zd_In_numberOfLeadingZeros_66 hl (k := 1) rfl (v := nI 21) (by decide) (by decide) rfl (fun ls hl => ?_)
            have hl : lv_has ls 2 [(1, .int (nI 21)), (0, .int (nI (x / 256)))] := hl
            refine lv_iload_n X.1.1 X.1.2.1 zd_In_numberOfLeadingZeros_69 rfl (lv_at hl 1 rfl) ?_
            refine lv_iconst (v := nI 2) X.1.1 X.1.2.1 zd_In_numberOfLeadingZeros_70 (by decide) ?_
            refine lv_iushr (v := nI ((x / 256) / 4)) X.1.1 X.1.2.1 zd_In_numberOfLeadingZeros_71 ((ush_eq _ (by decide)).trans (ush_nI (by omega))) ?_
            refine lv_istore_n X.1.1 X.1.2.1 zd_In_numberOfLeadingZeros_72 rfl hl (by decide) rfl (fun ls hl => ?_)
            have hl : lv_has ls 2 [(0, .int (nI ((x / 256) / 4))), (1, .int (nI 21))] := hl
            refine lv_iload_n X.1.1 X.1.2.1 zd_In_numberOfLeadingZeros_73 rfl (lv_at hl 1 rfl) ?_
            refine lv_iload_n X.1.1 X.1.2.1 zd_In_numberOfLeadingZeros_74 rfl (lv_at hl 0 rfl) ?_
            refine lv_iconst (v := nI 1) X.1.1 X.1.2.1 zd_In_numberOfLeadingZeros_75 (by decide) ?_
            refine lv_iushr (v := nI (((x / 256) / 4) / 2)) X.1.1 X.1.2.1 zd_In_numberOfLeadingZeros_76 ((ush_eq _ (by decide)).trans (ush_nI (by omega))) ?_
            refine lv_isub X.1.1 X.1.2.1 zd_In_numberOfLeadingZeros_77 ?_
            refine zTop (y := nI (31 - (10 + ((x / 256) / 4) / 2))) ((pk_sub (by omega)).trans (congrArg nI (by omega))) ?_
            exact ret _ (10 + ((x / 256) / 4) / 2) H locs ls _ (⟨rfl, by omega, by rcases (show ((x / 256) / 4) / 2 = 0 ∨ ((x / 256) / 4) / 2 = 1 by omega) with q | q <;> rw [q] <;> omega, by rcases (show ((x / 256) / 4) / 2 = 0 ∨ ((x / 256) / 4) / 2 = 1 by omega) with q | q <;> rw [q] <;> omega⟩) h zd_In_numberOfLeadingZeros_78
        · have d1 : 16 ≤ x / 256 := zc_lt_f (by omega) (by omega) d1
          refine lv_iinc X.1.1 X.1.2.1 zd_In_numberOfLeadingZeros_54 hl (k := 1) rfl (v := nI 19) (by decide) (by decide) rfl (fun ls hl => ?_)
          have hl : lv_has ls 2 [(1, .int (nI 19)), (0, .int (nI (x / 256)))] := hl
          refine lv_iload_n X.1.1 X.1.2.1 zd_In_numberOfLeadingZeros_57 rfl (lv_at hl 1 rfl) ?_
          refine lv_iconst (v := nI 4) X.1.1 X.1.2.1 zd_In_numberOfLeadingZeros_58 (by decide) ?_
          refine lv_iushr (v := nI ((x / 256) / 16)) X.1.1 X.1.2.1 zd_In_numberOfLeadingZeros_59 ((ush_eq _ (by decide)).trans (ush_nI (by omega))) ?_
          refine lv_istore_n X.1.1 X.1.2.1 zd_In_numberOfLeadingZeros_60 rfl hl (by decide) rfl (fun ls hl => ?_)
          have hl : lv_has ls 2 [(0, .int (nI ((x / 256) / 16))), (1, .int (nI 19))] := hl
          refine lv_iload_n X.1.1 X.1.2.1 zd_In_numberOfLeadingZeros_61 rfl (lv_at hl 0 rfl) ?_
          refine lv_iconst (v := nI 4) X.1.1 X.1.2.1 zd_In_numberOfLeadingZeros_62 (by decide) ?_
          refine lv_icmp_lt (tgt := 73) X.1.1 X.1.2.1 zd_In_numberOfLeadingZeros_63 rfl (fun d2 => ?_) (fun d2 => ?_)
          · have d2 : (x / 256) / 16 < 4 := zc_lt_t (by omega) (by omega) d2
            refine lv_iload_n X.1.1 X.1.2.1 zd_In_numberOfLeadingZeros_73 rfl (lv_at hl 1 rfl) ?_
            refine lv_iload_n X.1.1 X.1.2.1 zd_In_numberOfLeadingZeros_74 rfl (lv_at hl 0 rfl) ?_
            refine lv_iconst (v := nI 1) X.1.1 X.1.2.1 zd_In_numberOfLeadingZeros_75 (by decide) ?_
            refine lv_iushr (v := nI (((x / 256) / 16) / 2)) X.1.1 X.1.2.1 zd_In_numberOfLeadingZeros_76 ((ush_eq _ (by decide)).trans (ush_nI (by omega))) ?_
            refine lv_isub X.1.1 X.1.2.1 zd_In_numberOfLeadingZeros_77 ?_
            refine zTop (y := nI (31 - (12 + ((x / 256) / 16) / 2))) ((pk_sub (by omega)).trans (congrArg nI (by omega))) ?_
            exact ret _ (12 + ((x / 256) / 16) / 2) H locs ls _ (⟨rfl, by omega, by rcases (show ((x / 256) / 16) / 2 = 0 ∨ ((x / 256) / 16) / 2 = 1 by omega) with q | q <;> rw [q] <;> omega, by rcases (show ((x / 256) / 16) / 2 = 0 ∨ ((x / 256) / 16) / 2 = 1 by omega) with q | q <;> rw [q] <;> omega⟩) h zd_In_numberOfLeadingZeros_78
          · have d2 : 4 ≤ (x / 256) / 16 := zc_lt_f (by omega) (by omega) d2
            refine lv_iinc X.1.1 X.1.2.1 zd_In_numberOfLeadingZeros_66 hl (k := 1) rfl (v := nI 17) (by decide) (by decide) rfl (fun ls hl => ?_)
            have hl : lv_has ls 2 [(1, .int (nI 17)), (0, .int (nI ((x / 256) / 16)))] := hl
            refine lv_iload_n X.1.1 X.1.2.1 zd_In_numberOfLeadingZeros_69 rfl (lv_at hl 1 rfl) ?_
            refine lv_iconst (v := nI 2) X.1.1 X.1.2.1 zd_In_numberOfLeadingZeros_70 (by decide) ?_
            refine lv_iushr (v := nI (((x / 256) / 16) / 4)) X.1.1 X.1.2.1 zd_In_numberOfLeadingZeros_71 ((ush_eq _ (by decide)).trans (ush_nI (by omega))) ?_
            refine lv_istore_n X.1.1 X.1.2.1 zd_In_numberOfLeadingZeros_72 rfl hl (by decide) rfl (fun ls hl => ?_)
            have hl : lv_has ls 2 [(0, .int (nI (((x / 256) / 16) / 4))), (1, .int (nI 17))] := hl
            refine lv_iload_n X.1.1 X.1.2.1 zd_In_numberOfLeadingZeros_73 rfl (lv_at hl 1 rfl) ?_
            refine lv_iload_n X.1.1 X.1.2.1 zd_In_numberOfLeadingZeros_74 rfl (lv_at hl 0 rfl) ?_
            refine lv_iconst (v := nI 1) X.1.1 X.1.2.1 zd_In_numberOfLeadingZeros_75 (by decide) ?_
            refine lv_iushr (v := nI ((((x / 256) / 16) / 4) / 2)) X.1.1 X.1.2.1 zd_In_numberOfLeadingZeros_76 ((ush_eq _ (by decide)).trans (ush_nI (by omega))) ?_
            refine lv_isub X.1.1 X.1.2.1 zd_In_numberOfLeadingZeros_77 ?_
            refine zTop (y := nI (31 - (14 + (((x / 256) / 16) / 4) / 2))) ((pk_sub (by omega)).trans (congrArg nI (by omega))) ?_
            exact ret _ (14 + (((x / 256) / 16) / 4) / 2) H locs ls _ (⟨rfl, by omega, by rcases (show (((x / 256) / 16) / 4) / 2 = 0 ∨ (((x / 256) / 16) / 4) / 2 = 1 by omega) with q | q <;> rw [q] <;> omega, by rcases (show (((x / 256) / 16) / 4) / 2 = 0 ∨ (((x / 256) / 16) / 4) / 2 = 1 by omega) with q | q <;> rw [q] <;> omega⟩) h zd_In_numberOfLeadingZeros_78
    · have c1 : 65536 ≤ x := zc_lt_f (by omega) (by omega) c1
      exact absurd hx (by omega)
  · exact absurd h0 (by have := zc_gt0_f (by omega) (by omega) c0; omega)

set_option maxHeartbeats 4000000 in
set_option maxRecDepth 100000 in
theorem zc_In_highestOneBit (l : Launch) (D : va_G) {x : Nat} (h0 : 0 < x) (hx : x < 65536) (sz : Nat) : zMi l D zy_In_highestOneBit zb_In_highestOneBit 1 .int ({ frames := 1, cells := 0, slots := 0, locals := 21 } : Room) [.int (nI x)] [] [] sz (fun (r : Int32) (u : Nat) => r = nI (2 ^ u) ∧ u < 16 ∧ 2 ^ u ≤ x ∧ x < 2 ^ (u + 1)) (fun u => []) := by
  refine zEi (by decide) (Nat.le_of_ble_eq_true rfl) (fun p e s m args below meth c ls A Q X hl h hsz ret => ?_)
  have hl : lv_has ls 1 [(0, .int (nI x))] := hl
  generalize hH0 : s.heap = H at h ⊢
  have h : zH D A s [] H [] := h
  generalize hL0 : ([] : List Loc) = locs at h ⊢
  refine lv_iload_n X.1.1 X.1.2.1 zd_In_highestOneBit_0 rfl (lv_at hl 0 rfl) ?_
  refine lv_ldc X.1.1 X.1.2.1 X.1.2.2.2.1 (X.1.2.2.2.2 _ zw_183) zd_In_highestOneBit_1 ?_
  refine lv_iload_n X.1.1 X.1.2.1 zd_In_highestOneBit_3 rfl (lv_at hl 0 rfl) ?_
  refine rCs (wr := []) (wf := fun u => []) (rest := [.int ((-2147483648)), .int (nI x)]) X h hl.1 (zc_In_numberOfLeadingZeros l D (x := x) (h0) (hx) H.size) zw_184 zw_185 zw_12 zm_In_numberOfLeadingZeros zq_In_numberOfLeadingZeros.2 ⟨Nat.le_of_ble_eq_true rfl, Nat.le_of_ble_eq_true rfl⟩ ⟨Nat.le_of_ble_eq_true rfl, Nat.le_of_ble_eq_true rfl⟩ [] rfl [] [] [] rfl (by decide) rfl (by decide) (by decide) (fun _ => rfl) (by decide) rfl (Nat.le_of_ble_eq_true rfl) zd_In_highestOneBit_4 (fun r u H locs hp h => ?_)
  obtain ⟨rfl, q1⟩ := hp
  have h : zH D A s [] H locs := h
  obtain ⟨q1, q2, q3⟩ := q1
  refine lv_iushr (v := nI (2 ^ u)) X.1.1 X.1.2.1 zd_In_highestOneBit_7 (hob_sh u q1) ?_
  refine lv_iand X.1.1 X.1.2.1 zd_In_highestOneBit_8 ?_
  refine zTop (y := nI (2 ^ u)) (hob_and q2 q3) ?_
  exact ret _ u H locs ls _ (⟨rfl, q1, q2, q3⟩) h zd_In_highestOneBit_9

theorem bct : ∀ b, b < 19 → ((((((((nI (2 ^ b - 1)) - ((((nI (2 ^ b - 1)).toUInt32 >>> ((nI 1).toUInt32 &&& Int32.toUInt32 31)).toInt32) &&& (nI 1431655765))) &&& (nI 858993459)) + (((((nI (2 ^ b - 1)) - ((((nI (2 ^ b - 1)).toUInt32 >>> ((nI 1).toUInt32 &&& Int32.toUInt32 31)).toInt32) &&& (nI 1431655765))).toUInt32 >>> ((nI 2).toUInt32 &&& Int32.toUInt32 31)).toInt32) &&& (nI 858993459))) + ((((((nI (2 ^ b - 1)) - ((((nI (2 ^ b - 1)).toUInt32 >>> ((nI 1).toUInt32 &&& Int32.toUInt32 31)).toInt32) &&& (nI 1431655765))) &&& (nI 858993459)) + (((((nI (2 ^ b - 1)) - ((((nI (2 ^ b - 1)).toUInt32 >>> ((nI 1).toUInt32 &&& Int32.toUInt32 31)).toInt32) &&& (nI 1431655765))).toUInt32 >>> ((nI 2).toUInt32 &&& Int32.toUInt32 31)).toInt32) &&& (nI 858993459))).toUInt32 >>> ((nI 4).toUInt32 &&& Int32.toUInt32 31)).toInt32)) &&& (nI 252645135)) + ((((((((nI (2 ^ b - 1)) - ((((nI (2 ^ b - 1)).toUInt32 >>> ((nI 1).toUInt32 &&& Int32.toUInt32 31)).toInt32) &&& (nI 1431655765))) &&& (nI 858993459)) + (((((nI (2 ^ b - 1)) - ((((nI (2 ^ b - 1)).toUInt32 >>> ((nI 1).toUInt32 &&& Int32.toUInt32 31)).toInt32) &&& (nI 1431655765))).toUInt32 >>> ((nI 2).toUInt32 &&& Int32.toUInt32 31)).toInt32) &&& (nI 858993459))) + ((((((nI (2 ^ b - 1)) - ((((nI (2 ^ b - 1)).toUInt32 >>> ((nI 1).toUInt32 &&& Int32.toUInt32 31)).toInt32) &&& (nI 1431655765))) &&& (nI 858993459)) + (((((nI (2 ^ b - 1)) - ((((nI (2 ^ b - 1)).toUInt32 >>> ((nI 1).toUInt32 &&& Int32.toUInt32 31)).toInt32) &&& (nI 1431655765))).toUInt32 >>> ((nI 2).toUInt32 &&& Int32.toUInt32 31)).toInt32) &&& (nI 858993459))).toUInt32 >>> ((nI 4).toUInt32 &&& Int32.toUInt32 31)).toInt32)) &&& (nI 252645135)).toUInt32 >>> ((nI 8).toUInt32 &&& Int32.toUInt32 31)).toInt32)) + (((((((((nI (2 ^ b - 1)) - ((((nI (2 ^ b - 1)).toUInt32 >>> ((nI 1).toUInt32 &&& Int32.toUInt32 31)).toInt32) &&& (nI 1431655765))) &&& (nI 858993459)) + (((((nI (2 ^ b - 1)) - ((((nI (2 ^ b - 1)).toUInt32 >>> ((nI 1).toUInt32 &&& Int32.toUInt32 31)).toInt32) &&& (nI 1431655765))).toUInt32 >>> ((nI 2).toUInt32 &&& Int32.toUInt32 31)).toInt32) &&& (nI 858993459))) + ((((((nI (2 ^ b - 1)) - ((((nI (2 ^ b - 1)).toUInt32 >>> ((nI 1).toUInt32 &&& Int32.toUInt32 31)).toInt32) &&& (nI 1431655765))) &&& (nI 858993459)) + (((((nI (2 ^ b - 1)) - ((((nI (2 ^ b - 1)).toUInt32 >>> ((nI 1).toUInt32 &&& Int32.toUInt32 31)).toInt32) &&& (nI 1431655765))).toUInt32 >>> ((nI 2).toUInt32 &&& Int32.toUInt32 31)).toInt32) &&& (nI 858993459))).toUInt32 >>> ((nI 4).toUInt32 &&& Int32.toUInt32 31)).toInt32)) &&& (nI 252645135)) + ((((((((nI (2 ^ b - 1)) - ((((nI (2 ^ b - 1)).toUInt32 >>> ((nI 1).toUInt32 &&& Int32.toUInt32 31)).toInt32) &&& (nI 1431655765))) &&& (nI 858993459)) + (((((nI (2 ^ b - 1)) - ((((nI (2 ^ b - 1)).toUInt32 >>> ((nI 1).toUInt32 &&& Int32.toUInt32 31)).toInt32) &&& (nI 1431655765))).toUInt32 >>> ((nI 2).toUInt32 &&& Int32.toUInt32 31)).toInt32) &&& (nI 858993459))) + ((((((nI (2 ^ b - 1)) - ((((nI (2 ^ b - 1)).toUInt32 >>> ((nI 1).toUInt32 &&& Int32.toUInt32 31)).toInt32) &&& (nI 1431655765))) &&& (nI 858993459)) + (((((nI (2 ^ b - 1)) - ((((nI (2 ^ b - 1)).toUInt32 >>> ((nI 1).toUInt32 &&& Int32.toUInt32 31)).toInt32) &&& (nI 1431655765))).toUInt32 >>> ((nI 2).toUInt32 &&& Int32.toUInt32 31)).toInt32) &&& (nI 858993459))).toUInt32 >>> ((nI 4).toUInt32 &&& Int32.toUInt32 31)).toInt32)) &&& (nI 252645135)).toUInt32 >>> ((nI 8).toUInt32 &&& Int32.toUInt32 31)).toInt32)).toUInt32 >>> ((nI 16).toUInt32 &&& Int32.toUInt32 31)).toInt32)) &&& (nI 63) = nI b := by decide +kernel

set_option maxHeartbeats 4000000 in
set_option maxRecDepth 100000 in
theorem zc_In_bitCount (l : Launch) (D : va_G) {b : Nat} (hb : b < 19) (sz : Nat) : zMi l D zy_In_bitCount zb_In_bitCount 1 .int ({ frames := 0, cells := 0, slots := 0, locals := 0 } : Room) [.int (nI (2 ^ b - 1))] [] [] sz (fun (r : Int32) (u : Unit) => r = nI b ∧ True) (fun _ => []) := by
  refine zEi (by decide) (Nat.le_of_ble_eq_true rfl) (fun p e s m args below meth c ls A Q X hl h hsz ret => ?_)
  have hl : lv_has ls 1 [(0, .int (nI (2 ^ b - 1)))] := hl
  generalize hH0 : s.heap = H at h ⊢
  have h : zH D A s [] H [] := h
  generalize hL0 : ([] : List Loc) = locs at h ⊢
  refine lv_iload_n X.1.1 X.1.2.1 zd_In_bitCount_0 rfl (lv_at hl 0 rfl) ?_
  refine lv_iload_n X.1.1 X.1.2.1 zd_In_bitCount_1 rfl (lv_at hl 0 rfl) ?_
  refine lv_iconst (v := nI 1) X.1.1 X.1.2.1 zd_In_bitCount_2 (by decide) ?_
  refine lv_iushr (v := ((nI (2 ^ b - 1)).toUInt32 >>> ((nI 1).toUInt32 &&& Int32.toUInt32 31)).toInt32) X.1.1 X.1.2.1 zd_In_bitCount_3 (rfl) ?_
  refine lv_ldcw X.1.1 X.1.2.1 X.1.2.2.2.1 (X.1.2.2.2.2 _ zw_191) zd_In_bitCount_4 ?_
  refine zTop (y := nI 1431655765) (by decide) ?_
  refine lv_iand X.1.1 X.1.2.1 zd_In_bitCount_7 ?_
  refine lv_isub X.1.1 X.1.2.1 zd_In_bitCount_8 ?_
  refine lv_istore_n X.1.1 X.1.2.1 zd_In_bitCount_9 rfl hl (by decide) rfl (fun ls hl => ?_)
  have hl : lv_has ls 1 [(0, .int ((nI (2 ^ b - 1)) - ((((nI (2 ^ b - 1)).toUInt32 >>> ((nI 1).toUInt32 &&& Int32.toUInt32 31)).toInt32) &&& (nI 1431655765))))] := hl
  refine lv_iload_n X.1.1 X.1.2.1 zd_In_bitCount_10 rfl (lv_at hl 0 rfl) ?_
  refine lv_ldcw X.1.1 X.1.2.1 X.1.2.2.2.1 (X.1.2.2.2.2 _ zw_192) zd_In_bitCount_11 ?_
  refine zTop (y := nI 858993459) (by decide) ?_
  refine lv_iand X.1.1 X.1.2.1 zd_In_bitCount_14 ?_
  refine lv_iload_n X.1.1 X.1.2.1 zd_In_bitCount_15 rfl (lv_at hl 0 rfl) ?_
  refine lv_iconst (v := nI 2) X.1.1 X.1.2.1 zd_In_bitCount_16 (by decide) ?_
  refine lv_iushr (v := (((nI (2 ^ b - 1)) - ((((nI (2 ^ b - 1)).toUInt32 >>> ((nI 1).toUInt32 &&& Int32.toUInt32 31)).toInt32) &&& (nI 1431655765))).toUInt32 >>> ((nI 2).toUInt32 &&& Int32.toUInt32 31)).toInt32) X.1.1 X.1.2.1 zd_In_bitCount_17 (rfl) ?_
  refine lv_ldcw X.1.1 X.1.2.1 X.1.2.2.2.1 (X.1.2.2.2.2 _ zw_192) zd_In_bitCount_18 ?_
  refine zTop (y := nI 858993459) (by decide) ?_
  refine lv_iand X.1.1 X.1.2.1 zd_In_bitCount_21 ?_
  refine lv_iadd X.1.1 X.1.2.1 zd_In_bitCount_22 ?_
  refine lv_istore_n X.1.1 X.1.2.1 zd_In_bitCount_23 rfl hl (by decide) rfl (fun ls hl => ?_)
  have hl : lv_has ls 1 [(0, .int ((((nI (2 ^ b - 1)) - ((((nI (2 ^ b - 1)).toUInt32 >>> ((nI 1).toUInt32 &&& Int32.toUInt32 31)).toInt32) &&& (nI 1431655765))) &&& (nI 858993459)) + (((((nI (2 ^ b - 1)) - ((((nI (2 ^ b - 1)).toUInt32 >>> ((nI 1).toUInt32 &&& Int32.toUInt32 31)).toInt32) &&& (nI 1431655765))).toUInt32 >>> ((nI 2).toUInt32 &&& Int32.toUInt32 31)).toInt32) &&& (nI 858993459))))] := hl
  refine lv_iload_n X.1.1 X.1.2.1 zd_In_bitCount_24 rfl (lv_at hl 0 rfl) ?_
  refine lv_iload_n X.1.1 X.1.2.1 zd_In_bitCount_25 rfl (lv_at hl 0 rfl) ?_
  refine lv_iconst (v := nI 4) X.1.1 X.1.2.1 zd_In_bitCount_26 (by decide) ?_
  refine lv_iushr (v := (((((nI (2 ^ b - 1)) - ((((nI (2 ^ b - 1)).toUInt32 >>> ((nI 1).toUInt32 &&& Int32.toUInt32 31)).toInt32) &&& (nI 1431655765))) &&& (nI 858993459)) + (((((nI (2 ^ b - 1)) - ((((nI (2 ^ b - 1)).toUInt32 >>> ((nI 1).toUInt32 &&& Int32.toUInt32 31)).toInt32) &&& (nI 1431655765))).toUInt32 >>> ((nI 2).toUInt32 &&& Int32.toUInt32 31)).toInt32) &&& (nI 858993459))).toUInt32 >>> ((nI 4).toUInt32 &&& Int32.toUInt32 31)).toInt32) X.1.1 X.1.2.1 zd_In_bitCount_27 (rfl) ?_
  refine lv_iadd X.1.1 X.1.2.1 zd_In_bitCount_28 ?_
  refine lv_ldcw X.1.1 X.1.2.1 X.1.2.2.2.1 (X.1.2.2.2.2 _ zw_193) zd_In_bitCount_29 ?_
  refine zTop (y := nI 252645135) (by decide) ?_
  refine lv_iand X.1.1 X.1.2.1 zd_In_bitCount_32 ?_
  refine lv_istore_n X.1.1 X.1.2.1 zd_In_bitCount_33 rfl hl (by decide) rfl (fun ls hl => ?_)
  have hl : lv_has ls 1 [(0, .int ((((((nI (2 ^ b - 1)) - ((((nI (2 ^ b - 1)).toUInt32 >>> ((nI 1).toUInt32 &&& Int32.toUInt32 31)).toInt32) &&& (nI 1431655765))) &&& (nI 858993459)) + (((((nI (2 ^ b - 1)) - ((((nI (2 ^ b - 1)).toUInt32 >>> ((nI 1).toUInt32 &&& Int32.toUInt32 31)).toInt32) &&& (nI 1431655765))).toUInt32 >>> ((nI 2).toUInt32 &&& Int32.toUInt32 31)).toInt32) &&& (nI 858993459))) + ((((((nI (2 ^ b - 1)) - ((((nI (2 ^ b - 1)).toUInt32 >>> ((nI 1).toUInt32 &&& Int32.toUInt32 31)).toInt32) &&& (nI 1431655765))) &&& (nI 858993459)) + (((((nI (2 ^ b - 1)) - ((((nI (2 ^ b - 1)).toUInt32 >>> ((nI 1).toUInt32 &&& Int32.toUInt32 31)).toInt32) &&& (nI 1431655765))).toUInt32 >>> ((nI 2).toUInt32 &&& Int32.toUInt32 31)).toInt32) &&& (nI 858993459))).toUInt32 >>> ((nI 4).toUInt32 &&& Int32.toUInt32 31)).toInt32)) &&& (nI 252645135)))] := hl
  refine lv_iload_n X.1.1 X.1.2.1 zd_In_bitCount_34 rfl (lv_at hl 0 rfl) ?_
  refine lv_iload_n X.1.1 X.1.2.1 zd_In_bitCount_35 rfl (lv_at hl 0 rfl) ?_
  refine lv_bipush (v := nI 8) X.1.1 X.1.2.1 zd_In_bitCount_36 (by decide) ?_
  refine lv_iushr (v := (((((((nI (2 ^ b - 1)) - ((((nI (2 ^ b - 1)).toUInt32 >>> ((nI 1).toUInt32 &&& Int32.toUInt32 31)).toInt32) &&& (nI 1431655765))) &&& (nI 858993459)) + (((((nI (2 ^ b - 1)) - ((((nI (2 ^ b - 1)).toUInt32 >>> ((nI 1).toUInt32 &&& Int32.toUInt32 31)).toInt32) &&& (nI 1431655765))).toUInt32 >>> ((nI 2).toUInt32 &&& Int32.toUInt32 31)).toInt32) &&& (nI 858993459))) + ((((((nI (2 ^ b - 1)) - ((((nI (2 ^ b - 1)).toUInt32 >>> ((nI 1).toUInt32 &&& Int32.toUInt32 31)).toInt32) &&& (nI 1431655765))) &&& (nI 858993459)) + (((((nI (2 ^ b - 1)) - ((((nI (2 ^ b - 1)).toUInt32 >>> ((nI 1).toUInt32 &&& Int32.toUInt32 31)).toInt32) &&& (nI 1431655765))).toUInt32 >>> ((nI 2).toUInt32 &&& Int32.toUInt32 31)).toInt32) &&& (nI 858993459))).toUInt32 >>> ((nI 4).toUInt32 &&& Int32.toUInt32 31)).toInt32)) &&& (nI 252645135)).toUInt32 >>> ((nI 8).toUInt32 &&& Int32.toUInt32 31)).toInt32) X.1.1 X.1.2.1 zd_In_bitCount_38 (rfl) ?_
  refine lv_iadd X.1.1 X.1.2.1 zd_In_bitCount_39 ?_
  refine lv_istore_n X.1.1 X.1.2.1 zd_In_bitCount_40 rfl hl (by decide) rfl (fun ls hl => ?_)
  have hl : lv_has ls 1 [(0, .int (((((((nI (2 ^ b - 1)) - ((((nI (2 ^ b - 1)).toUInt32 >>> ((nI 1).toUInt32 &&& Int32.toUInt32 31)).toInt32) &&& (nI 1431655765))) &&& (nI 858993459)) + (((((nI (2 ^ b - 1)) - ((((nI (2 ^ b - 1)).toUInt32 >>> ((nI 1).toUInt32 &&& Int32.toUInt32 31)).toInt32) &&& (nI 1431655765))).toUInt32 >>> ((nI 2).toUInt32 &&& Int32.toUInt32 31)).toInt32) &&& (nI 858993459))) + ((((((nI (2 ^ b - 1)) - ((((nI (2 ^ b - 1)).toUInt32 >>> ((nI 1).toUInt32 &&& Int32.toUInt32 31)).toInt32) &&& (nI 1431655765))) &&& (nI 858993459)) + (((((nI (2 ^ b - 1)) - ((((nI (2 ^ b - 1)).toUInt32 >>> ((nI 1).toUInt32 &&& Int32.toUInt32 31)).toInt32) &&& (nI 1431655765))).toUInt32 >>> ((nI 2).toUInt32 &&& Int32.toUInt32 31)).toInt32) &&& (nI 858993459))).toUInt32 >>> ((nI 4).toUInt32 &&& Int32.toUInt32 31)).toInt32)) &&& (nI 252645135)) + ((((((((nI (2 ^ b - 1)) - ((((nI (2 ^ b - 1)).toUInt32 >>> ((nI 1).toUInt32 &&& Int32.toUInt32 31)).toInt32) &&& (nI 1431655765))) &&& (nI 858993459)) + (((((nI (2 ^ b - 1)) - ((((nI (2 ^ b - 1)).toUInt32 >>> ((nI 1).toUInt32 &&& Int32.toUInt32 31)).toInt32) &&& (nI 1431655765))).toUInt32 >>> ((nI 2).toUInt32 &&& Int32.toUInt32 31)).toInt32) &&& (nI 858993459))) + ((((((nI (2 ^ b - 1)) - ((((nI (2 ^ b - 1)).toUInt32 >>> ((nI 1).toUInt32 &&& Int32.toUInt32 31)).toInt32) &&& (nI 1431655765))) &&& (nI 858993459)) + (((((nI (2 ^ b - 1)) - ((((nI (2 ^ b - 1)).toUInt32 >>> ((nI 1).toUInt32 &&& Int32.toUInt32 31)).toInt32) &&& (nI 1431655765))).toUInt32 >>> ((nI 2).toUInt32 &&& Int32.toUInt32 31)).toInt32) &&& (nI 858993459))).toUInt32 >>> ((nI 4).toUInt32 &&& Int32.toUInt32 31)).toInt32)) &&& (nI 252645135)).toUInt32 >>> ((nI 8).toUInt32 &&& Int32.toUInt32 31)).toInt32)))] := hl
  refine lv_iload_n X.1.1 X.1.2.1 zd_In_bitCount_41 rfl (lv_at hl 0 rfl) ?_
  refine lv_iload_n X.1.1 X.1.2.1 zd_In_bitCount_42 rfl (lv_at hl 0 rfl) ?_
  refine lv_bipush (v := nI 16) X.1.1 X.1.2.1 zd_In_bitCount_43 (by decide) ?_
  refine lv_iushr (v := ((((((((nI (2 ^ b - 1)) - ((((nI (2 ^ b - 1)).toUInt32 >>> ((nI 1).toUInt32 &&& Int32.toUInt32 31)).toInt32) &&& (nI 1431655765))) &&& (nI 858993459)) + (((((nI (2 ^ b - 1)) - ((((nI (2 ^ b - 1)).toUInt32 >>> ((nI 1).toUInt32 &&& Int32.toUInt32 31)).toInt32) &&& (nI 1431655765))).toUInt32 >>> ((nI 2).toUInt32 &&& Int32.toUInt32 31)).toInt32) &&& (nI 858993459))) + ((((((nI (2 ^ b - 1)) - ((((nI (2 ^ b - 1)).toUInt32 >>> ((nI 1).toUInt32 &&& Int32.toUInt32 31)).toInt32) &&& (nI 1431655765))) &&& (nI 858993459)) + (((((nI (2 ^ b - 1)) - ((((nI (2 ^ b - 1)).toUInt32 >>> ((nI 1).toUInt32 &&& Int32.toUInt32 31)).toInt32) &&& (nI 1431655765))).toUInt32 >>> ((nI 2).toUInt32 &&& Int32.toUInt32 31)).toInt32) &&& (nI 858993459))).toUInt32 >>> ((nI 4).toUInt32 &&& Int32.toUInt32 31)).toInt32)) &&& (nI 252645135)) + ((((((((nI (2 ^ b - 1)) - ((((nI (2 ^ b - 1)).toUInt32 >>> ((nI 1).toUInt32 &&& Int32.toUInt32 31)).toInt32) &&& (nI 1431655765))) &&& (nI 858993459)) + (((((nI (2 ^ b - 1)) - ((((nI (2 ^ b - 1)).toUInt32 >>> ((nI 1).toUInt32 &&& Int32.toUInt32 31)).toInt32) &&& (nI 1431655765))).toUInt32 >>> ((nI 2).toUInt32 &&& Int32.toUInt32 31)).toInt32) &&& (nI 858993459))) + ((((((nI (2 ^ b - 1)) - ((((nI (2 ^ b - 1)).toUInt32 >>> ((nI 1).toUInt32 &&& Int32.toUInt32 31)).toInt32) &&& (nI 1431655765))) &&& (nI 858993459)) + (((((nI (2 ^ b - 1)) - ((((nI (2 ^ b - 1)).toUInt32 >>> ((nI 1).toUInt32 &&& Int32.toUInt32 31)).toInt32) &&& (nI 1431655765))).toUInt32 >>> ((nI 2).toUInt32 &&& Int32.toUInt32 31)).toInt32) &&& (nI 858993459))).toUInt32 >>> ((nI 4).toUInt32 &&& Int32.toUInt32 31)).toInt32)) &&& (nI 252645135)).toUInt32 >>> ((nI 8).toUInt32 &&& Int32.toUInt32 31)).toInt32)).toUInt32 >>> ((nI 16).toUInt32 &&& Int32.toUInt32 31)).toInt32) X.1.1 X.1.2.1 zd_In_bitCount_45 (rfl) ?_
  refine lv_iadd X.1.1 X.1.2.1 zd_In_bitCount_46 ?_
  refine lv_istore_n X.1.1 X.1.2.1 zd_In_bitCount_47 rfl hl (by decide) rfl (fun ls hl => ?_)
  have hl : lv_has ls 1 [(0, .int ((((((((nI (2 ^ b - 1)) - ((((nI (2 ^ b - 1)).toUInt32 >>> ((nI 1).toUInt32 &&& Int32.toUInt32 31)).toInt32) &&& (nI 1431655765))) &&& (nI 858993459)) + (((((nI (2 ^ b - 1)) - ((((nI (2 ^ b - 1)).toUInt32 >>> ((nI 1).toUInt32 &&& Int32.toUInt32 31)).toInt32) &&& (nI 1431655765))).toUInt32 >>> ((nI 2).toUInt32 &&& Int32.toUInt32 31)).toInt32) &&& (nI 858993459))) + ((((((nI (2 ^ b - 1)) - ((((nI (2 ^ b - 1)).toUInt32 >>> ((nI 1).toUInt32 &&& Int32.toUInt32 31)).toInt32) &&& (nI 1431655765))) &&& (nI 858993459)) + (((((nI (2 ^ b - 1)) - ((((nI (2 ^ b - 1)).toUInt32 >>> ((nI 1).toUInt32 &&& Int32.toUInt32 31)).toInt32) &&& (nI 1431655765))).toUInt32 >>> ((nI 2).toUInt32 &&& Int32.toUInt32 31)).toInt32) &&& (nI 858993459))).toUInt32 >>> ((nI 4).toUInt32 &&& Int32.toUInt32 31)).toInt32)) &&& (nI 252645135)) + ((((((((nI (2 ^ b - 1)) - ((((nI (2 ^ b - 1)).toUInt32 >>> ((nI 1).toUInt32 &&& Int32.toUInt32 31)).toInt32) &&& (nI 1431655765))) &&& (nI 858993459)) + (((((nI (2 ^ b - 1)) - ((((nI (2 ^ b - 1)).toUInt32 >>> ((nI 1).toUInt32 &&& Int32.toUInt32 31)).toInt32) &&& (nI 1431655765))).toUInt32 >>> ((nI 2).toUInt32 &&& Int32.toUInt32 31)).toInt32) &&& (nI 858993459))) + ((((((nI (2 ^ b - 1)) - ((((nI (2 ^ b - 1)).toUInt32 >>> ((nI 1).toUInt32 &&& Int32.toUInt32 31)).toInt32) &&& (nI 1431655765))) &&& (nI 858993459)) + (((((nI (2 ^ b - 1)) - ((((nI (2 ^ b - 1)).toUInt32 >>> ((nI 1).toUInt32 &&& Int32.toUInt32 31)).toInt32) &&& (nI 1431655765))).toUInt32 >>> ((nI 2).toUInt32 &&& Int32.toUInt32 31)).toInt32) &&& (nI 858993459))).toUInt32 >>> ((nI 4).toUInt32 &&& Int32.toUInt32 31)).toInt32)) &&& (nI 252645135)).toUInt32 >>> ((nI 8).toUInt32 &&& Int32.toUInt32 31)).toInt32)) + (((((((((nI (2 ^ b - 1)) - ((((nI (2 ^ b - 1)).toUInt32 >>> ((nI 1).toUInt32 &&& Int32.toUInt32 31)).toInt32) &&& (nI 1431655765))) &&& (nI 858993459)) + (((((nI (2 ^ b - 1)) - ((((nI (2 ^ b - 1)).toUInt32 >>> ((nI 1).toUInt32 &&& Int32.toUInt32 31)).toInt32) &&& (nI 1431655765))).toUInt32 >>> ((nI 2).toUInt32 &&& Int32.toUInt32 31)).toInt32) &&& (nI 858993459))) + ((((((nI (2 ^ b - 1)) - ((((nI (2 ^ b - 1)).toUInt32 >>> ((nI 1).toUInt32 &&& Int32.toUInt32 31)).toInt32) &&& (nI 1431655765))) &&& (nI 858993459)) + (((((nI (2 ^ b - 1)) - ((((nI (2 ^ b - 1)).toUInt32 >>> ((nI 1).toUInt32 &&& Int32.toUInt32 31)).toInt32) &&& (nI 1431655765))).toUInt32 >>> ((nI 2).toUInt32 &&& Int32.toUInt32 31)).toInt32) &&& (nI 858993459))).toUInt32 >>> ((nI 4).toUInt32 &&& Int32.toUInt32 31)).toInt32)) &&& (nI 252645135)) + ((((((((nI (2 ^ b - 1)) - ((((nI (2 ^ b - 1)).toUInt32 >>> ((nI 1).toUInt32 &&& Int32.toUInt32 31)).toInt32) &&& (nI 1431655765))) &&& (nI 858993459)) + (((((nI (2 ^ b - 1)) - ((((nI (2 ^ b - 1)).toUInt32 >>> ((nI 1).toUInt32 &&& Int32.toUInt32 31)).toInt32) &&& (nI 1431655765))).toUInt32 >>> ((nI 2).toUInt32 &&& Int32.toUInt32 31)).toInt32) &&& (nI 858993459))) + ((((((nI (2 ^ b - 1)) - ((((nI (2 ^ b - 1)).toUInt32 >>> ((nI 1).toUInt32 &&& Int32.toUInt32 31)).toInt32) &&& (nI 1431655765))) &&& (nI 858993459)) + (((((nI (2 ^ b - 1)) - ((((nI (2 ^ b - 1)).toUInt32 >>> ((nI 1).toUInt32 &&& Int32.toUInt32 31)).toInt32) &&& (nI 1431655765))).toUInt32 >>> ((nI 2).toUInt32 &&& Int32.toUInt32 31)).toInt32) &&& (nI 858993459))).toUInt32 >>> ((nI 4).toUInt32 &&& Int32.toUInt32 31)).toInt32)) &&& (nI 252645135)).toUInt32 >>> ((nI 8).toUInt32 &&& Int32.toUInt32 31)).toInt32)).toUInt32 >>> ((nI 16).toUInt32 &&& Int32.toUInt32 31)).toInt32)))] := hl
  refine lv_iload_n X.1.1 X.1.2.1 zd_In_bitCount_48 rfl (lv_at hl 0 rfl) ?_
  refine lv_bipush (v := nI 63) X.1.1 X.1.2.1 zd_In_bitCount_49 (by decide) ?_
  refine lv_iand X.1.1 X.1.2.1 zd_In_bitCount_51 ?_
  refine zTop (y := nI b) (bct b hb) ?_
  exact ret _ () H locs ls _ (⟨rfl, trivial⟩) h zd_In_bitCount_52

set_option maxHeartbeats 4000000 in
set_option maxRecDepth 100000 in
theorem zc_Su_emptySlots (l : Launch) (D : va_G) {t0 ta n aS aE aP aL nd aQ M sh an L wt fl NB : Nat} {fp : Int32} {st en pa li sl : Nat → Nat} {T : Nat → Int32} {cS cE cP cL cQ cB : ClassId} (hn : n ≤ 65536) (sz : Nat) : zMv l D zy_Su_emptySlots zb_Su_emptySlots 2 ({ frames := 2, cells := 0, slots := 0, locals := 41 } : Room) [.ref t0] [(cS, .int), (cE, .int), (cP, .int), (cL, .int), (cQ, .int), (cB, .byte)] [(t0, .inr (2, [.ref ta, .int (nI n), .ref aS, .ref aE, .ref aP, .ref aL, .int (nI nd), .ref aQ, .int (nI M), .int (nI sh), .int (nI an), .int (nI L), .int (nI wt), .int (nI fl), .int fp])), (aS, .inl (cS, 131072, .inl (fun zz => nI (st zz)))), (aE, .inl (cE, 131072, .inl (fun zz => nI (en zz)))), (aP, .inl (cP, 131072, .inl (fun zz => nI (pa zz)))), (aL, .inl (cL, 131072, .inl (fun zz => nI (li zz)))), (aQ, .inl (cQ, 262144, .inl (fun zz => nI (sl zz)))), (ta, .inl (cB, NB, .inl (T)))] sz (fun (u : Nat × (Nat → Nat)) => 3 ≤ u.1 ∧ u.1 ≤ 18 ∧ 4 * n ≤ 2 ^ u.1 ∧ ∀ i, i < 2 ^ u.1 → u.2 i = 0) (fun u => [(t0, .inr (2, [.ref ta, .int (nI n), .ref aS, .ref aE, .ref aP, .ref aL, .int (nI nd), .ref aQ, .int (nI (2 ^ u.1)), .int (nI (32 - u.1)), .int (nI an), .int (nI L), .int (nI wt), .int (nI fl), .int fp])), (aS, .inl (cS, 131072, .inl (fun zz => nI (st zz)))), (aE, .inl (cE, 131072, .inl (fun zz => nI (en zz)))), (aP, .inl (cP, 131072, .inl (fun zz => nI (pa zz)))), (aL, .inl (cL, 131072, .inl (fun zz => nI (li zz)))), (aQ, .inl (cQ, 262144, .inl (fun zz => nI (u.2 zz)))), (ta, .inl (cB, NB, .inl (T)))]) := by
  refine zEv (by decide) (Nat.le_of_ble_eq_true rfl) (fun p e s m args below meth c ls A Q X hin hl h hsz ret => ?_)
  have hl : lv_has ls 2 [(0, .ref t0)] := hl
  generalize hH0 : s.heap = H at h ⊢
  have h : zH D A s [(t0, .inr (2, [.ref ta, .int (nI n), .ref aS, .ref aE, .ref aP, .ref aL, .int (nI nd), .ref aQ, .int (nI M), .int (nI sh), .int (nI an), .int (nI L), .int (nI wt), .int (nI fl), .int fp])), (aS, .inl (cS, 131072, .inl (fun zz => nI (st zz)))), (aE, .inl (cE, 131072, .inl (fun zz => nI (en zz)))), (aP, .inl (cP, 131072, .inl (fun zz => nI (pa zz)))), (aL, .inl (cL, 131072, .inl (fun zz => nI (li zz)))), (aQ, .inl (cQ, 262144, .inl (fun zz => nI (sl zz)))), (ta, .inl (cB, NB, .inl (T)))] H [] := h
  generalize hL0 : ([] : List Loc) = locs at h ⊢
  refine lv_aload_n X.1.1 X.1.2.1 zd_Su_emptySlots_0 rfl (lv_at hl 0 rfl) ?_
  refine lv_bipush (v := nI 8) X.1.1 X.1.2.1 zd_Su_emptySlots_1 (by decide) ?_
  refine lv_aload_n X.1.1 X.1.2.1 zd_Su_emptySlots_3 rfl (lv_at hl 0 rfl) ?_
  refine rG X h 0 rfl rfl zW_Su 1 (by decide) zw_49 rfl zd_Su_emptySlots_4 ?_
  refine lv_iconst (v := nI 2) X.1.1 X.1.2.1 zd_Su_emptySlots_7 (by decide) ?_
  refine rMax X hl.1 zw_177 zw_178 zw_11 zw_179 (by omega) (by omega) (Nat.le_of_ble_eq_true rfl) (Nat.le_of_ble_eq_true rfl) (Nat.le_of_ble_eq_true rfl) (Nat.le_of_ble_eq_true rfl) zd_Su_emptySlots_8 ?_
  refine lv_iconst (v := nI 1) X.1.1 X.1.2.1 zd_Su_emptySlots_11 (by decide) ?_
  refine lv_isub X.1.1 X.1.2.1 zd_Su_emptySlots_12 ?_
  refine zTop (y := nI (max n 2 - 1)) (pk_sub (by omega)) ?_
  refine rCs (wr := [(t0, .inr (2, [.ref ta, .int (nI n), .ref aS, .ref aE, .ref aP, .ref aL, .int (nI nd), .ref aQ, .int (nI M), .int (nI sh), .int (nI an), .int (nI L), .int (nI wt), .int (nI fl), .int fp])), (aS, .inl (cS, 131072, .inl (fun zz => nI (st zz)))), (aE, .inl (cE, 131072, .inl (fun zz => nI (en zz)))), (aP, .inl (cP, 131072, .inl (fun zz => nI (pa zz)))), (aL, .inl (cL, 131072, .inl (fun zz => nI (li zz)))), (aQ, .inl (cQ, 262144, .inl (fun zz => nI (sl zz)))), (ta, .inl (cB, NB, .inl (T)))]) (wf := fun k => [(t0, .inr (2, [.ref ta, .int (nI n), .ref aS, .ref aE, .ref aP, .ref aL, .int (nI nd), .ref aQ, .int (nI M), .int (nI sh), .int (nI an), .int (nI L), .int (nI wt), .int (nI fl), .int fp])), (aS, .inl (cS, 131072, .inl (fun zz => nI (st zz)))), (aE, .inl (cE, 131072, .inl (fun zz => nI (en zz)))), (aP, .inl (cP, 131072, .inl (fun zz => nI (pa zz)))), (aL, .inl (cL, 131072, .inl (fun zz => nI (li zz)))), (aQ, .inl (cQ, 262144, .inl (fun zz => nI (sl zz)))), (ta, .inl (cB, NB, .inl (T)))]) (rest := [.int (nI 8), .ref t0]) X h hl.1 (zc_In_highestOneBit l D (x := max n 2 - 1) (by omega) (by omega) H.size) zw_180 zw_181 zw_12 zm_In_highestOneBit zq_In_highestOneBit.2 ⟨Nat.le_of_ble_eq_true rfl, Nat.le_of_ble_eq_true rfl⟩ ⟨Nat.le_of_ble_eq_true rfl, Nat.le_of_ble_eq_true rfl⟩ [] rfl [] [0, 1, 2, 3, 4, 5, 6] [0, 1, 2, 3, 4, 5, 6] rfl (by decide) rfl (by decide) (by decide) (fun _ => rfl) (by decide) rfl (Nat.le_of_ble_eq_true rfl) zd_Su_emptySlots_13 (fun r k H locs hp h => ?_)
  obtain ⟨rfl, q1⟩ := hp
  have h : zH D A s [(t0, .inr (2, [.ref ta, .int (nI n), .ref aS, .ref aE, .ref aP, .ref aL, .int (nI nd), .ref aQ, .int (nI M), .int (nI sh), .int (nI an), .int (nI L), .int (nI wt), .int (nI fl), .int fp])), (aS, .inl (cS, 131072, .inl (fun zz => nI (st zz)))), (aE, .inl (cE, 131072, .inl (fun zz => nI (en zz)))), (aP, .inl (cP, 131072, .inl (fun zz => nI (pa zz)))), (aL, .inl (cL, 131072, .inl (fun zz => nI (li zz)))), (aQ, .inl (cQ, 262144, .inl (fun zz => nI (sl zz)))), (ta, .inl (cB, NB, .inl (T)))] H locs := h
  obtain ⟨q1, q2, q3⟩ := q1
  have e8 : 8 * 2 ^ k = 2 ^ (k + 3) := by rw [Nat.pow_add, Nat.mul_comm]
  have hk2 : (2 : Nat) ^ (k + 3) ≤ 2 ^ 18 := Nat.pow_le_pow_right (by decide) (by omega)
  have hk1 : (2 : Nat) ^ 3 ≤ 2 ^ (k + 3) := Nat.pow_le_pow_right (by decide) (by omega)
  have h4 : 4 * n ≤ 2 ^ (k + 3) := by rw [Nat.pow_succ] at q3; omega
  refine lv_imul X.1.1 X.1.2.1 zd_Su_emptySlots_16 ?_
  refine zTop (y := nI (2 ^ (k + 3))) ((pk_mul _ _).trans (congrArg nI e8)) ?_
  refine rP X h 0 rfl rfl zW_Su zO_Su zN_Su 8 (by decide) zw_56 rfl (rfl) (rfl) (Nat.le_of_ble_eq_true rfl) zd_Su_emptySlots_17 (fun H locs h => ?_)
  have h : zH D A s [(t0, .inr (2, [.ref ta, .int (nI n), .ref aS, .ref aE, .ref aP, .ref aL, .int (nI nd), .ref aQ, .int (nI (2 ^ (k + 3))), .int (nI sh), .int (nI an), .int (nI L), .int (nI wt), .int (nI fl), .int fp])), (aS, .inl (cS, 131072, .inl (fun zz => nI (st zz)))), (aE, .inl (cE, 131072, .inl (fun zz => nI (en zz)))), (aP, .inl (cP, 131072, .inl (fun zz => nI (pa zz)))), (aL, .inl (cL, 131072, .inl (fun zz => nI (li zz)))), (aQ, .inl (cQ, 262144, .inl (fun zz => nI (sl zz)))), (ta, .inl (cB, NB, .inl (T)))] H locs := h
  refine lv_aload_n X.1.1 X.1.2.1 zd_Su_emptySlots_20 rfl (lv_at hl 0 rfl) ?_
  refine lv_bipush (v := nI 32) X.1.1 X.1.2.1 zd_Su_emptySlots_21 (by decide) ?_
  refine lv_aload_n X.1.1 X.1.2.1 zd_Su_emptySlots_23 rfl (lv_at hl 0 rfl) ?_
  refine rG X h 0 rfl rfl zW_Su 8 (by decide) zw_56 rfl zd_Su_emptySlots_24 ?_
  refine lv_iconst (v := nI 1) X.1.1 X.1.2.1 zd_Su_emptySlots_27 (by decide) ?_
  refine lv_isub X.1.1 X.1.2.1 zd_Su_emptySlots_28 ?_
  refine zTop (y := nI (2 ^ (k + 3) - 1)) (pk_sub (by omega)) ?_
  refine rCs (wr := [(t0, .inr (2, [.ref ta, .int (nI n), .ref aS, .ref aE, .ref aP, .ref aL, .int (nI nd), .ref aQ, .int (nI (2 ^ (k + 3))), .int (nI sh), .int (nI an), .int (nI L), .int (nI wt), .int (nI fl), .int fp])), (aS, .inl (cS, 131072, .inl (fun zz => nI (st zz)))), (aE, .inl (cE, 131072, .inl (fun zz => nI (en zz)))), (aP, .inl (cP, 131072, .inl (fun zz => nI (pa zz)))), (aL, .inl (cL, 131072, .inl (fun zz => nI (li zz)))), (aQ, .inl (cQ, 262144, .inl (fun zz => nI (sl zz)))), (ta, .inl (cB, NB, .inl (T)))]) (wf := fun _ => [(t0, .inr (2, [.ref ta, .int (nI n), .ref aS, .ref aE, .ref aP, .ref aL, .int (nI nd), .ref aQ, .int (nI (2 ^ (k + 3))), .int (nI sh), .int (nI an), .int (nI L), .int (nI wt), .int (nI fl), .int fp])), (aS, .inl (cS, 131072, .inl (fun zz => nI (st zz)))), (aE, .inl (cE, 131072, .inl (fun zz => nI (en zz)))), (aP, .inl (cP, 131072, .inl (fun zz => nI (pa zz)))), (aL, .inl (cL, 131072, .inl (fun zz => nI (li zz)))), (aQ, .inl (cQ, 262144, .inl (fun zz => nI (sl zz)))), (ta, .inl (cB, NB, .inl (T)))]) (rest := [.int (nI 32), .ref t0]) X h hl.1 (zc_In_bitCount l D (b := (k + 3)) (by omega) H.size) zw_188 zw_189 zw_12 zm_In_bitCount zq_In_bitCount.2 ⟨Nat.le_of_ble_eq_true rfl, Nat.le_of_ble_eq_true rfl⟩ ⟨Nat.le_of_ble_eq_true rfl, Nat.le_of_ble_eq_true rfl⟩ [] rfl [] [0, 1, 2, 3, 4, 5, 6] [0, 1, 2, 3, 4, 5, 6] rfl (by decide) rfl (by decide) (by decide) (fun _ => rfl) (by decide) rfl (Nat.le_of_ble_eq_true rfl) zd_Su_emptySlots_29 (fun r _ H locs hp h => ?_)
  obtain ⟨rfl, -⟩ := hp
  have h : zH D A s [(t0, .inr (2, [.ref ta, .int (nI n), .ref aS, .ref aE, .ref aP, .ref aL, .int (nI nd), .ref aQ, .int (nI (2 ^ (k + 3))), .int (nI sh), .int (nI an), .int (nI L), .int (nI wt), .int (nI fl), .int fp])), (aS, .inl (cS, 131072, .inl (fun zz => nI (st zz)))), (aE, .inl (cE, 131072, .inl (fun zz => nI (en zz)))), (aP, .inl (cP, 131072, .inl (fun zz => nI (pa zz)))), (aL, .inl (cL, 131072, .inl (fun zz => nI (li zz)))), (aQ, .inl (cQ, 262144, .inl (fun zz => nI (sl zz)))), (ta, .inl (cB, NB, .inl (T)))] H locs := h
  refine lv_isub X.1.1 X.1.2.1 zd_Su_emptySlots_32 ?_
  refine zTop (y := nI (32 - (((k + 3))))) (pk_sub (by omega)) ?_
  refine rP X h 0 rfl rfl zW_Su zO_Su zN_Su 9 (by decide) zw_57 rfl (rfl) (rfl) (Nat.le_of_ble_eq_true rfl) zd_Su_emptySlots_33 (fun H locs h => ?_)
  have h : zH D A s [(t0, .inr (2, [.ref ta, .int (nI n), .ref aS, .ref aE, .ref aP, .ref aL, .int (nI nd), .ref aQ, .int (nI (2 ^ (k + 3))), .int (nI (32 - (((k + 3))))), .int (nI an), .int (nI L), .int (nI wt), .int (nI fl), .int fp])), (aS, .inl (cS, 131072, .inl (fun zz => nI (st zz)))), (aE, .inl (cE, 131072, .inl (fun zz => nI (en zz)))), (aP, .inl (cP, 131072, .inl (fun zz => nI (pa zz)))), (aL, .inl (cL, 131072, .inl (fun zz => nI (li zz)))), (aQ, .inl (cQ, 262144, .inl (fun zz => nI (sl zz)))), (ta, .inl (cB, NB, .inl (T)))] H locs := h
  refine lv_iconst (v := nI 0) X.1.1 X.1.2.1 zd_Su_emptySlots_36 (by decide) ?_
  refine lv_istore_n X.1.1 X.1.2.1 zd_Su_emptySlots_37 rfl hl (by decide) rfl (fun ls hl => ?_)
  have hl : lv_has ls 2 [(1, .int (nI 0)), (0, .ref t0)] := hl
  have loop : ∀ (fu : Nat) (i : Nat) (g : Nat → Nat) (ls : Array Slot) (H : Heap) (locs : List Loc), 2 ^ (k + 3) - i < fu → i ≤ 2 ^ (k + 3) → (∀ j, j < i → g j = 0) → lv_has ls 2 [(0, .ref t0), (1, .int (nI i))] → zH D A s [(t0, .inr (2, [.ref ta, .int (nI n), .ref aS, .ref aE, .ref aP, .ref aL, .int (nI nd), .ref aQ, .int (nI (2 ^ (k + 3))), .int (nI (32 - (k + 3))), .int (nI an), .int (nI L), .int (nI wt), .int (nI fl), .int fp])), (aS, .inl (cS, 131072, .inl (fun zz => nI (st zz)))), (aE, .inl (cE, 131072, .inl (fun zz => nI (en zz)))), (aP, .inl (cP, 131072, .inl (fun zz => nI (pa zz)))), (aL, .inl (cL, 131072, .inl (fun zz => nI (li zz)))), (aQ, .inl (cQ, 262144, .inl (fun zz => nI (g zz)))), (ta, .inl (cB, NB, .inl (T)))] H locs → W p l e ({ frames := 2, cells := 0, slots := 0, locals := 41 } : Room) s m args below meth c H locs 0 0 Q (F0 m 38 ls []) := by
    intro fu
    induction fu with
    | zero => intro i g ls H locs hfu; exact absurd hfu (Nat.not_lt_zero _)
    | succ fu ih =>
      intro i g ls H locs hfu hi hg hl h
      refine lv_iload_n X.1.1 X.1.2.1 zd_Su_emptySlots_38 rfl (lv_at hl 1 rfl) ?_
      refine lv_aload_n X.1.1 X.1.2.1 zd_Su_emptySlots_39 rfl (lv_at hl 0 rfl) ?_
      refine rG X h 0 rfl rfl zW_Su 8 (by decide) zw_56 rfl zd_Su_emptySlots_40 ?_
      refine lv_icmp_ge (tgt := 59) X.1.1 X.1.2.1 zd_Su_emptySlots_43 rfl (fun c1 => ?_) (fun c1 => ?_)
      · have c1 : 2 ^ (k + 3) ≤ i := zc_ge_t (by omega) (by omega) c1
        have ei : i = 2 ^ (k + 3) := by omega
        exact ret (k + 3, g) H locs ls _ (⟨by show 3 ≤ k + 3; omega, by show k + 3 ≤ 18; omega, h4, fun j hj => hg j (by rw [ei]; exact hj)⟩) h zd_Su_emptySlots_59
      · have c1 : i < 2 ^ (k + 3) := zc_ge_f (by omega) (by omega) c1
        refine lv_aload_n X.1.1 X.1.2.1 zd_Su_emptySlots_46 rfl (lv_at hl 0 rfl) ?_
        refine rG X h 0 rfl rfl zW_Su 7 (by decide) zw_55 rfl zd_Su_emptySlots_47 ?_
        refine lv_iload_n X.1.1 X.1.2.1 zd_Su_emptySlots_50 rfl (lv_at hl 1 rfl) ?_
        refine lv_iconst (v := nI 0) X.1.1 X.1.2.1 zd_Su_emptySlots_51 (by decide) ?_
        refine rSn X h 5 4 rfl rfl (by omega) (by omega) zd_Su_emptySlots_52 (fun H locs h => ?_)
        have h : zH D A s [(t0, .inr (2, [.ref ta, .int (nI n), .ref aS, .ref aE, .ref aP, .ref aL, .int (nI nd), .ref aQ, .int (nI (2 ^ (k + 3))), .int (nI (32 - (k + 3))), .int (nI an), .int (nI L), .int (nI wt), .int (nI fl), .int fp])), (aS, .inl (cS, 131072, .inl (fun zz => nI (st zz)))), (aE, .inl (cE, 131072, .inl (fun zz => nI (en zz)))), (aP, .inl (cP, 131072, .inl (fun zz => nI (pa zz)))), (aL, .inl (cL, 131072, .inl (fun zz => nI (li zz)))), (aQ, .inl (cQ, 262144, .inl (fun zz => nI ((va_up g i 0) zz)))), (ta, .inl (cB, NB, .inl (T)))] H locs := h
        refine lv_iinc X.1.1 X.1.2.1 zd_Su_emptySlots_53 hl (k := 1) rfl (v := nI (i + 1)) (nI_add _ _) (by decide) rfl (fun ls hl => ?_)
        have hl : lv_has ls 2 [(1, .int (nI (i + 1))), (0, .ref t0)] := hl
        refine lv_goto (tgt := 38) X.1.1 X.1.2.1 zd_Su_emptySlots_56 rfl ?_
        exact ih (i + 1) (va_up g i 0) ls H locs (by omega) (by omega) (fun j hj => by
              by_cases hc : j = i
              · rw [hc, va_up_self]
              · rw [va_up_ne _ _ hc]; exact hg j (by omega)) (lv_sub hl [1, 0] rfl) h
  exact loop _ 0 sl ls H locs (Nat.lt_succ_self _) (by omega) (fun j hj => absurd hj (Nat.not_lt_zero _)) (lv_sub hl [1, 0] rfl) h
