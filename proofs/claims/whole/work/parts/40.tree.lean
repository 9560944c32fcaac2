/-! DeltaPress$SuffixTree: slots and nodes -/
/-- where the way of the key (a, c) begins -/
def hN (sh a : Nat) (c : Int32) : Nat := (((nI a <<< (nI 8 &&& 31)) ||| (c &&& nI 255)) * (-1640531535)).toBitVec.toNat / 2 ^ sh
/-- who has the key (a, c) -/
def hok (pa st : Nat → Nat) (T : Nat → Int32) (a : Nat) (c : Int32) : Nat → Prop := fun v => pa v = a ∧ T (st v) = c
/-- what the slots must be for a look at them to end well -/
def tO (NB M sh nd : Nat) (st pa sl : Nat → Nat) : Prop := NB < 2 ^ 30 ∧ (∃ b, 3 ≤ b ∧ b ≤ 18 ∧ M = 2 ^ b ∧ sh = 32 - b) ∧ nd ≤ 131072 ∧ (∀ s, s < M → sl s < nd) ∧ (∀ s, s < M → sl s ≠ 0 → st (sl s) < NB ∧ pa (sl s) < 131072) ∧ ∃ r, r < M ∧ sl r = 0
theorem hN_lt {sh a b : Nat} {c : Int32} (h1 : b ≤ 32) (h2 : sh = 32 - b) : hN sh a c < 2 ^ b := by
  unfold hN
  generalize (((nI a <<< (nI 8 &&& 31)) ||| (c &&& nI 255)) * (-1640531535)) = x
  have hx := x.toBitVec.isLt
  refine Nat.div_lt_of_lt_mul ?_
  rw [← Nat.pow_add, show sh + b = 32 by omega]
  exact hx
theorem andM {x M b : Nat} (hM : M = 2 ^ b) (hb : b ≤ 18) (hx : x < 2 ^ 31) : nI x &&& nI (M - 1) = nI (x % M) := by
  have h1 : (2 : Nat) ^ b ≤ 2 ^ 18 := Nat.pow_le_pow_right (by decide) hb
  rw [hM]
  exact pk_andN (by omega) b (pk_tn (by omega))
theorem tO_M {NB M sh nd : Nat} {st pa sl : Nat → Nat} (h : tO NB M sh nd st pa sl) : 8 ≤ M ∧ M ≤ 262144 := by
  obtain ⟨-, ⟨b, h1, h2, rfl, -⟩, -⟩ := h
  have a1 : (2 : Nat) ^ 3 ≤ 2 ^ b := Nat.pow_le_pow_right (by decide) h1
  have a2 : (2 : Nat) ^ b ≤ 2 ^ 18 := Nat.pow_le_pow_right (by decide) h2
  exact ⟨a1, a2⟩

set_option maxHeartbeats 4000000 in
set_option maxRecDepth 100000 in
theorem zc_Su_slotOf (l : Launch) (D : va_G) {t0 ta n aS aE aP aL nd aQ M sh an L wt fl NB : Nat} {fp : Int32} {st en pa li sl : Nat → Nat} {T : Nat → Int32} {cS cE cP cL cQ cB : ClassId} {a : Nat} {ch : Int32} (hO : tO NB M sh nd st pa sl) (ha : a < 131072) (sz : Nat) : zMi l D zy_Su_slotOf zb_Su_slotOf 6 .int ({ frames := 0, cells := 0, slots := 0, locals := 0 } : Room) [.ref t0, .int (nI a), .int ch] [(cS, .int), (cE, .int), (cP, .int), (cL, .int), (cQ, .int), (cB, .byte)] [(t0, .inr (2, [.ref ta, .int (nI n), .ref aS, .ref aE, .ref aP, .ref aL, .int (nI nd), .ref aQ, .int (nI M), .int (nI sh), .int (nI an), .int (nI L), .int (nI wt), .int (nI fl), .int fp])), (aS, .inl (cS, 131072, .inl (fun zz => nI (st zz)))), (aE, .inl (cE, 131072, .inl (fun zz => nI (en zz)))), (aP, .inl (cP, 131072, .inl (fun zz => nI (pa zz)))), (aL, .inl (cL, 131072, .inl (fun zz => nI (li zz)))), (aQ, .inl (cQ, 262144, .inl (fun zz => nI (sl zz)))), (ta, .inl (cB, NB, .inl (T)))] sz (fun (r : Int32) (u : Nat) => r = nI u ∧ hs_r M sl (hok pa st T a ch) (hN sh a ch) u) (fun u => [(t0, .inr (2, [.ref ta, .int (nI n), .ref aS, .ref aE, .ref aP, .ref aL, .int (nI nd), .ref aQ, .int (nI M), .int (nI sh), .int (nI an), .int (nI L), .int (nI wt), .int (nI fl), .int fp])), (aS, .inl (cS, 131072, .inl (fun zz => nI (st zz)))), (aE, .inl (cE, 131072, .inl (fun zz => nI (en zz)))), (aP, .inl (cP, 131072, .inl (fun zz => nI (pa zz)))), (aL, .inl (cL, 131072, .inl (fun zz => nI (li zz)))), (aQ, .inl (cQ, 262144, .inl (fun zz => nI (sl zz)))), (ta, .inl (cB, NB, .inl (T)))]) := by
  refine zEi (by decide) (Nat.le_of_ble_eq_true rfl) (fun p e s m args below meth c ls A Q X hl h hsz ret => ?_)
  have hl : lv_has ls 6 [(0, .ref t0), (1, .int (nI a)), (2, .int ch)] := hl
  generalize hH0 : s.heap = H at h ⊢
  have h : zH D A s [(t0, .inr (2, [.ref ta, .int (nI n), .ref aS, .ref aE, .ref aP, .ref aL, .int (nI nd), .ref aQ, .int (nI M), .int (nI sh), .int (nI an), .int (nI L), .int (nI wt), .int (nI fl), .int fp])), (aS, .inl (cS, 131072, .inl (fun zz => nI (st zz)))), (aE, .inl (cE, 131072, .inl (fun zz => nI (en zz)))), (aP, .inl (cP, 131072, .inl (fun zz => nI (pa zz)))), (aL, .inl (cL, 131072, .inl (fun zz => nI (li zz)))), (aQ, .inl (cQ, 262144, .inl (fun zz => nI (sl zz)))), (ta, .inl (cB, NB, .inl (T)))] H [] := h
  generalize hL0 : ([] : List Loc) = locs at h ⊢
  obtain ⟨hM8, hMm⟩ := tO_M hO
  obtain ⟨hNB, ⟨b, hb1, hb2, hMb, hsh⟩, hnd, hs1, hs2, r0, hr0, hz⟩ := hO
  have hh : hN sh a ch < M := by rw [hMb]; exact hN_lt (by omega) hsh
  refine lv_iload_n X.1.1 X.1.2.1 zd_Su_slotOf_0 rfl (lv_at hl 1 rfl) ?_
  refine lv_bipush (v := nI 8) X.1.1 X.1.2.1 zd_Su_slotOf_1 (by decide) ?_
  refine lv_ishl X.1.1 X.1.2.1 zd_Su_slotOf_3 ?_
  refine lv_iload_n X.1.1 X.1.2.1 zd_Su_slotOf_4 rfl (lv_at hl 2 rfl) ?_
  refine lv_sipush (v := nI 255) X.1.1 X.1.2.1 zd_Su_slotOf_5 (by decide) ?_
  refine lv_iand X.1.1 X.1.2.1 zd_Su_slotOf_8 ?_
  refine lv_ior X.1.1 X.1.2.1 zd_Su_slotOf_9 ?_
  refine lv_ldc X.1.1 X.1.2.1 X.1.2.2.2.1 (X.1.2.2.2.2 _ zw_206) zd_Su_slotOf_10 ?_
  refine lv_imul X.1.1 X.1.2.1 zd_Su_slotOf_12 ?_
  refine lv_aload_n X.1.1 X.1.2.1 zd_Su_slotOf_13 rfl (lv_at hl 0 rfl) ?_
  refine rG X h 0 rfl rfl zW_Su 9 (by decide) zw_57 rfl zd_Su_slotOf_14 ?_
  refine lv_iushr (v := nI (hN sh a ch)) X.1.1 X.1.2.1 zd_Su_slotOf_17 (ush_eq _ (by omega)) ?_
  refine lv_istore_n X.1.1 X.1.2.1 zd_Su_slotOf_18 rfl hl (by decide) rfl (fun ls hl => ?_)
  have hl : lv_has ls 6 [(3, .int (nI (hN sh a ch))), (0, .ref t0), (1, .int (nI a)), (2, .int ch)] := hl
  refine lv_iconst (v := nI 0) X.1.1 X.1.2.1 zd_Su_slotOf_19 (by decide) ?_
  refine lv_istore X.1.1 X.1.2.1 zd_Su_slotOf_20 hl (by decide) rfl (fun ls hl => ?_)
  have hl : lv_has ls 6 [(4, .int (nI 0)), (3, .int (nI (hN sh a ch))), (0, .ref t0), (1, .int (nI a)), (2, .int ch)] := hl
  have loop : ∀ (fu : Nat) (d : Nat) (x : Nat) (ls : Array Slot) (H : Heap) (locs : List Loc), M - d < fu → d ≤ M → x = (hN sh a ch + d) % M → (∀ d1, d1 < d → sl ((hN sh a ch + d1) % M) ≠ 0 ∧ ¬ hok pa st T a ch (sl ((hN sh a ch + d1) % M))) → lv_has ls 6 [(0, .ref t0), (1, .int (nI a)), (2, .int ch), (3, .int (nI x)), (4, .int (nI d))] → zH D A s [(t0, .inr (2, [.ref ta, .int (nI n), .ref aS, .ref aE, .ref aP, .ref aL, .int (nI nd), .ref aQ, .int (nI M), .int (nI sh), .int (nI an), .int (nI L), .int (nI wt), .int (nI fl), .int fp])), (aS, .inl (cS, 131072, .inl (fun zz => nI (st zz)))), (aE, .inl (cE, 131072, .inl (fun zz => nI (en zz)))), (aP, .inl (cP, 131072, .inl (fun zz => nI (pa zz)))), (aL, .inl (cL, 131072, .inl (fun zz => nI (li zz)))), (aQ, .inl (cQ, 262144, .inl (fun zz => nI (sl zz)))), (ta, .inl (cB, NB, .inl (T)))] H locs → W p l e ({ frames := 0, cells := 0, slots := 0, locals := 0 } : Room) s m args below meth c H locs 0 0 Q (F0 m 22 ls []) := by
    intro fu
    induction fu with
    | zero => intro d x ls H locs hfu; exact absurd hfu (Nat.not_lt_zero _)
    | succ fu ih =>
      intro d x ls H locs hfu hd hx hall hl h
      have hxM : x < M := by rw [hx]; exact Nat.mod_lt _ (by omega)
      have hq1 := hs1 x hxM
      refine lv_iload X.1.1 X.1.2.1 zd_Su_slotOf_22 (lv_at hl 4 rfl) ?_
      refine lv_aload_n X.1.1 X.1.2.1 zd_Su_slotOf_24 rfl (lv_at hl 0 rfl) ?_
      refine rG X h 0 rfl rfl zW_Su 8 (by decide) zw_56 rfl zd_Su_slotOf_25 ?_
      refine lv_icmp_ge (tgt := 91) X.1.1 X.1.2.1 zd_Su_slotOf_28 rfl (fun c1 => ?_) (fun c1 => ?_)
      · have c1 : M ≤ d := zc_ge_t (by omega) (by omega) c1
        exfalso
        obtain ⟨d0, e1, e2⟩ := hs_way hh hr0
        exact (hall d0 (by omega)).1 (by rw [e2]; exact hz)
      · have c1 : d < M := zc_ge_f (by omega) (by omega) c1
        refine lv_aload_n X.1.1 X.1.2.1 zd_Su_slotOf_31 rfl (lv_at hl 0 rfl) ?_
        refine rG X h 0 rfl rfl zW_Su 7 (by decide) zw_55 rfl zd_Su_slotOf_32 ?_
        refine lv_iload_n X.1.1 X.1.2.1 zd_Su_slotOf_35 rfl (lv_at hl 3 rfl) ?_
        refine rLn X h 5 4 rfl rfl (by omega) (by omega) zd_Su_slotOf_36 ?_
        refine lv_istore X.1.1 X.1.2.1 zd_Su_slotOf_37 hl (by decide) rfl (fun ls hl => ?_)
        have hl : lv_has ls 6 [(5, .int (nI (sl x))), (0, .ref t0), (1, .int (nI a)), (2, .int ch), (3, .int (nI x)), (4, .int (nI d))] := hl
        refine lv_iload X.1.1 X.1.2.1 zd_Su_slotOf_39 (lv_at hl 0 rfl) ?_
        refine lv_if_eq (tgt := 91) X.1.1 X.1.2.1 zd_Su_slotOf_41 rfl (fun c2 => ?_) (fun c2 => ?_)
        · have c2 : sl x = 0 := zc_eq0_t (by omega) (by omega) c2
          refine lv_iload_n X.1.1 X.1.2.1 zd_Su_slotOf_91 rfl (lv_at hl 4 rfl) ?_
          exact ret _ x H locs ls _ (⟨rfl, d, c1, hx, Or.inl c2, hall⟩) h zd_Su_slotOf_92
        · have c2 : sl x ≠ 0 := zc_eq0_f (by omega) (by omega) c2
          have hq2 := hs2 x hxM c2
          refine lv_aload_n X.1.1 X.1.2.1 zd_Su_slotOf_44 rfl (lv_at hl 1 rfl) ?_
          refine rG X h 0 rfl rfl zW_Su 4 (by decide) zw_52 rfl zd_Su_slotOf_45 ?_
          refine lv_iload X.1.1 X.1.2.1 zd_Su_slotOf_48 (lv_at hl 0 rfl) ?_
          refine rLn X h 3 2 rfl rfl (by omega) (by omega) zd_Su_slotOf_50 ?_
          refine lv_iload_n X.1.1 X.1.2.1 zd_Su_slotOf_51 rfl (lv_at hl 2 rfl) ?_
          refine lv_icmp_ne (tgt := 74) X.1.1 X.1.2.1 zd_Su_slotOf_52 rfl (fun c3 => ?_) (fun c3 => ?_)
          · have c3 : pa (sl x) ≠ a := zc_ne_t (by omega) (by omega) c3
            refine lv_iload_n X.1.1 X.1.2.1 zd_Su_slotOf_74 rfl (lv_at hl 4 rfl) ?_
            refine lv_iconst (v := nI 1) X.1.1 X.1.2.1 zd_Su_slotOf_75 (by decide) ?_
            refine lv_iadd X.1.1 X.1.2.1 zd_Su_slotOf_76 ?_
            refine zTop (y := nI (x + 1)) (nI_add _ _) ?_
            refine lv_aload_n X.1.1 X.1.2.1 zd_Su_slotOf_77 rfl (lv_at hl 1 rfl) ?_
            refine rG X h 0 rfl rfl zW_Su 8 (by decide) zw_56 rfl zd_Su_slotOf_78 ?_
            refine lv_iconst (v := nI 1) X.1.1 X.1.2.1 zd_Su_slotOf_81 (by decide) ?_
            refine lv_isub X.1.1 X.1.2.1 zd_Su_slotOf_82 ?_
            refine zTop (y := nI (M - 1)) (pk_sub (by omega)) ?_
            refine lv_iand X.1.1 X.1.2.1 zd_Su_slotOf_83 ?_
            refine zTop (y := nI ((x + 1) % M)) (andM hMb hb2 (by omega)) ?_
            refine lv_istore_n X.1.1 X.1.2.1 zd_Su_slotOf_84 rfl hl (by decide) rfl (fun ls hl => ?_)
            have hl : lv_has ls 6 [(3, .int (nI ((x + 1) % M))), (5, .int (nI (sl x))), (0, .ref t0), (1, .int (nI a)), (2, .int ch), (4, .int (nI d))] := hl
            refine lv_iinc X.1.1 X.1.2.1 zd_Su_slotOf_85 hl (k := 5) rfl (v := nI (d + 1)) (nI_add _ _) (by decide) rfl (fun ls hl => ?_)
            have hl : lv_has ls 6 [(4, .int (nI (d + 1))), (3, .int (nI ((x + 1) % M))), (5, .int (nI (sl x))), (0, .ref t0), (1, .int (nI a)), (2, .int ch)] := hl
            refine lv_goto (tgt := 22) X.1.1 X.1.2.1 zd_Su_slotOf_88 rfl ?_
            exact ih (d + 1) ((x + 1) % M) ls H locs (by omega) (by omega) (by rw [hx, Nat.mod_add_mod, Nat.add_assoc]) (fun d1 hd1 => by
                  by_cases hc : d1 = d
                  · rw [hc, ← hx]; exact ⟨c2, fun q => c3 q.1⟩
                  · exact hall d1 (by omega)) (lv_sub hl [3, 4, 5, 1, 0] rfl) h
          · have c3 : pa (sl x) = a := zc_ne_f (by omega) (by omega) c3
            refine lv_aload_n X.1.1 X.1.2.1 zd_Su_slotOf_55 rfl (lv_at hl 1 rfl) ?_
            refine rG X h 0 rfl rfl zW_Su 0 (by decide) zw_48 rfl zd_Su_slotOf_56 ?_
            refine lv_aload_n X.1.1 X.1.2.1 zd_Su_slotOf_59 rfl (lv_at hl 1 rfl) ?_
            refine rG X h 0 rfl rfl zW_Su 2 (by decide) zw_50 rfl zd_Su_slotOf_60 ?_
            refine lv_iload X.1.1 X.1.2.1 zd_Su_slotOf_63 (lv_at hl 0 rfl) ?_
            refine rLn X h 1 0 rfl rfl (by omega) (by omega) zd_Su_slotOf_65 ?_
            refine rLb X h 6 5 rfl rfl (by omega) (by omega) zd_Su_slotOf_66 ?_
            refine lv_iload_n X.1.1 X.1.2.1 zd_Su_slotOf_67 rfl (lv_at hl 3 rfl) ?_
            refine lv_icmp_ne (tgt := 74) X.1.1 X.1.2.1 zd_Su_slotOf_68 rfl (fun c4 => ?_) (fun c4 => ?_)
            · refine lv_iload_n X.1.1 X.1.2.1 zd_Su_slotOf_74 rfl (lv_at hl 4 rfl) ?_
              refine lv_iconst (v := nI 1) X.1.1 X.1.2.1 zd_Su_slotOf_75 (by decide) ?_
              refine lv_iadd X.1.1 X.1.2.1 zd_Su_slotOf_76 ?_
              refine zTop (y := nI (x + 1)) (nI_add _ _) ?_
              refine lv_aload_n X.1.1 X.1.2.1 zd_Su_slotOf_77 rfl (lv_at hl 1 rfl) ?_
              refine rG X h 0 rfl rfl zW_Su 8 (by decide) zw_56 rfl zd_Su_slotOf_78 ?_
              refine lv_iconst (v := nI 1) X.1.1 X.1.2.1 zd_Su_slotOf_81 (by decide) ?_
              refine lv_isub X.1.1 X.1.2.1 zd_Su_slotOf_82 ?_
              refine zTop (y := nI (M - 1)) (pk_sub (by omega)) ?_
              refine lv_iand X.1.1 X.1.2.1 zd_Su_slotOf_83 ?_
              refine zTop (y := nI ((x + 1) % M)) (andM hMb hb2 (by omega)) ?_
              refine lv_istore_n X.1.1 X.1.2.1 zd_Su_slotOf_84 rfl hl (by decide) rfl (fun ls hl => ?_)
              have hl : lv_has ls 6 [(3, .int (nI ((x + 1) % M))), (5, .int (nI (sl x))), (0, .ref t0), (1, .int (nI a)), (2, .int ch), (4, .int (nI d))] := hl
              refine lv_iinc X.1.1 X.1.2.1 zd_Su_slotOf_85 hl (k := 5) rfl (v := nI (d + 1)) (nI_add _ _) (by decide) rfl (fun ls hl => ?_)
              have hl : lv_has ls 6 [(4, .int (nI (d + 1))), (3, .int (nI ((x + 1) % M))), (5, .int (nI (sl x))), (0, .ref t0), (1, .int (nI a)), (2, .int ch)] := hl
              refine lv_goto (tgt := 22) X.1.1 X.1.2.1 zd_Su_slotOf_88 rfl ?_
              exact ih (d + 1) ((x + 1) % M) ls H locs (by omega) (by omega) (by rw [hx, Nat.mod_add_mod, Nat.add_assoc]) (fun d1 hd1 => by
                    by_cases hc : d1 = d
                    · rw [hc, ← hx]; exact ⟨c2, fun q => c4 q.2⟩
                    · exact hall d1 (by omega)) (lv_sub hl [3, 4, 5, 1, 0] rfl) h
            · refine lv_goto (tgt := 91) X.1.1 X.1.2.1 zd_Su_slotOf_71 rfl ?_
              refine lv_iload_n X.1.1 X.1.2.1 zd_Su_slotOf_91 rfl (lv_at hl 4 rfl) ?_
              exact ret _ x H locs ls _ (⟨rfl, d, c1, hx, Or.inr ⟨c3, c4⟩, hall⟩) h zd_Su_slotOf_92
  exact loop _ 0 (hN sh a ch) ls H locs (Nat.lt_succ_self _) (by omega) (by rw [Nat.add_zero, Nat.mod_eq_of_lt hh]) (fun d1 q => absurd q (Nat.not_lt_zero _)) (lv_sub hl [2, 3, 4, 1, 0] rfl) h

set_option maxHeartbeats 4000000 in
set_option maxRecDepth 100000 in
theorem zc_Su_addNode (l : Launch) (D : va_G) {t0 ta n aS aE aP aL nd aQ M sh an L wt fl NB : Nat} {fp : Int32} {st en pa li sl : Nat → Nat} {T : Nat → Int32} {cS cE cP cL cQ cB : ClassId} {b x y : Nat} (hnd : nd < 131072) (sz : Nat) : zMi l D zy_Su_addNode zb_Su_addNode 5 .int ({ frames := 0, cells := 0, slots := 0, locals := 0 } : Room) [.ref t0, .int (nI b), .int (nI x), .int (nI y)] [(cS, .int), (cE, .int), (cP, .int), (cL, .int), (cQ, .int), (cB, .byte)] [(t0, .inr (2, [.ref ta, .int (nI n), .ref aS, .ref aE, .ref aP, .ref aL, .int (nI nd), .ref aQ, .int (nI M), .int (nI sh), .int (nI an), .int (nI L), .int (nI wt), .int (nI fl), .int fp])), (aS, .inl (cS, 131072, .inl (fun zz => nI (st zz)))), (aE, .inl (cE, 131072, .inl (fun zz => nI (en zz)))), (aP, .inl (cP, 131072, .inl (fun zz => nI (pa zz)))), (aL, .inl (cL, 131072, .inl (fun zz => nI (li zz)))), (aQ, .inl (cQ, 262144, .inl (fun zz => nI (sl zz)))), (ta, .inl (cB, NB, .inl (T)))] sz (fun (r : Int32) (u : Unit) => r = nI nd ∧ True) (fun _ => [(t0, .inr (2, [.ref ta, .int (nI n), .ref aS, .ref aE, .ref aP, .ref aL, .int (nI (nd + 1)), .ref aQ, .int (nI M), .int (nI sh), .int (nI an), .int (nI L), .int (nI wt), .int (nI fl), .int fp])), (aS, .inl (cS, 131072, .inl (fun zz => nI ((va_up st nd x) zz)))), (aE, .inl (cE, 131072, .inl (fun zz => nI ((va_up en nd y) zz)))), (aP, .inl (cP, 131072, .inl (fun zz => nI ((va_up pa nd b) zz)))), (aL, .inl (cL, 131072, .inl (fun zz => nI ((va_up li nd 0) zz)))), (aQ, .inl (cQ, 262144, .inl (fun zz => nI (sl zz)))), (ta, .inl (cB, NB, .inl (T)))]) := by
  refine zEi (by decide) (Nat.le_of_ble_eq_true rfl) (fun p e s m args below meth c ls A Q X hl h hsz ret => ?_)
  have hl : lv_has ls 5 [(0, .ref t0), (1, .int (nI b)), (2, .int (nI x)), (3, .int (nI y))] := hl
  generalize hH0 : s.heap = H at h ⊢
  have h : zH D A s [(t0, .inr (2, [.ref ta, .int (nI n), .ref aS, .ref aE, .ref aP, .ref aL, .int (nI nd), .ref aQ, .int (nI M), .int (nI sh), .int (nI an), .int (nI L), .int (nI wt), .int (nI fl), .int fp])), (aS, .inl (cS, 131072, .inl (fun zz => nI (st zz)))), (aE, .inl (cE, 131072, .inl (fun zz => nI (en zz)))), (aP, .inl (cP, 131072, .inl (fun zz => nI (pa zz)))), (aL, .inl (cL, 131072, .inl (fun zz => nI (li zz)))), (aQ, .inl (cQ, 262144, .inl (fun zz => nI (sl zz)))), (ta, .inl (cB, NB, .inl (T)))] H [] := h
  generalize hL0 : ([] : List Loc) = locs at h ⊢
  refine lv_aload_n X.1.1 X.1.2.1 zd_Su_addNode_0 rfl (lv_at hl 0 rfl) ?_
  refine rG X h 0 rfl rfl zW_Su 6 (by decide) zw_54 rfl zd_Su_addNode_1 ?_
  refine lv_istore X.1.1 X.1.2.1 zd_Su_addNode_4 hl (by decide) rfl (fun ls hl => ?_)
  have hl : lv_has ls 5 [(4, .int (nI nd)), (0, .ref t0), (1, .int (nI b)), (2, .int (nI x)), (3, .int (nI y))] := hl
  refine lv_aload_n X.1.1 X.1.2.1 zd_Su_addNode_6 rfl (lv_at hl 1 rfl) ?_
  refine lv_dup X.1.1 X.1.2.1 zd_Su_addNode_7 rfl ?_
  refine rG X h 0 rfl rfl zW_Su 6 (by decide) zw_54 rfl zd_Su_addNode_8 ?_
  refine lv_iconst (v := nI 1) X.1.1 X.1.2.1 zd_Su_addNode_11 (by decide) ?_
  refine lv_iadd X.1.1 X.1.2.1 zd_Su_addNode_12 ?_
  refine zTop (y := nI (nd + 1)) (nI_add _ _) ?_
  refine rP X h 0 rfl rfl zW_Su zO_Su zN_Su 6 (by decide) zw_54 rfl (rfl) (rfl) (Nat.le_of_ble_eq_true rfl) zd_Su_addNode_13 (fun H locs h => ?_)
  have h : zH D A s [(t0, .inr (2, [.ref ta, .int (nI n), .ref aS, .ref aE, .ref aP, .ref aL, .int (nI (nd + 1)), .ref aQ, .int (nI M), .int (nI sh), .int (nI an), .int (nI L), .int (nI wt), .int (nI fl), .int fp])), (aS, .inl (cS, 131072, .inl (fun zz => nI (st zz)))), (aE, .inl (cE, 131072, .inl (fun zz => nI (en zz)))), (aP, .inl (cP, 131072, .inl (fun zz => nI (pa zz)))), (aL, .inl (cL, 131072, .inl (fun zz => nI (li zz)))), (aQ, .inl (cQ, 262144, .inl (fun zz => nI (sl zz)))), (ta, .inl (cB, NB, .inl (T)))] H locs := h
  refine lv_aload_n X.1.1 X.1.2.1 zd_Su_addNode_16 rfl (lv_at hl 1 rfl) ?_
  refine rG X h 0 rfl rfl zW_Su 4 (by decide) zw_52 rfl zd_Su_addNode_17 ?_
  refine lv_iload X.1.1 X.1.2.1 zd_Su_addNode_20 (lv_at hl 0 rfl) ?_
  refine lv_iload_n X.1.1 X.1.2.1 zd_Su_addNode_22 rfl (lv_at hl 2 rfl) ?_
  refine rSn X h 3 2 rfl rfl (by omega) (by omega) zd_Su_addNode_23 (fun H locs h => ?_)
  have h : zH D A s [(t0, .inr (2, [.ref ta, .int (nI n), .ref aS, .ref aE, .ref aP, .ref aL, .int (nI (nd + 1)), .ref aQ, .int (nI M), .int (nI sh), .int (nI an), .int (nI L), .int (nI wt), .int (nI fl), .int fp])), (aS, .inl (cS, 131072, .inl (fun zz => nI (st zz)))), (aE, .inl (cE, 131072, .inl (fun zz => nI (en zz)))), (aP, .inl (cP, 131072, .inl (fun zz => nI ((va_up pa nd b) zz)))), (aL, .inl (cL, 131072, .inl (fun zz => nI (li zz)))), (aQ, .inl (cQ, 262144, .inl (fun zz => nI (sl zz)))), (ta, .inl (cB, NB, .inl (T)))] H locs := h
  refine lv_aload_n X.1.1 X.1.2.1 zd_Su_addNode_24 rfl (lv_at hl 1 rfl) ?_
  refine rG X h 0 rfl rfl zW_Su 2 (by decide) zw_50 rfl zd_Su_addNode_25 ?_
  refine lv_iload X.1.1 X.1.2.1 zd_Su_addNode_28 (lv_at hl 0 rfl) ?_
  refine lv_iload_n X.1.1 X.1.2.1 zd_Su_addNode_30 rfl (lv_at hl 3 rfl) ?_
  refine rSn X h 1 0 rfl rfl (by omega) (by omega) zd_Su_addNode_31 (fun H locs h => ?_)
  have h : zH D A s [(t0, .inr (2, [.ref ta, .int (nI n), .ref aS, .ref aE, .ref aP, .ref aL, .int (nI (nd + 1)), .ref aQ, .int (nI M), .int (nI sh), .int (nI an), .int (nI L), .int (nI wt), .int (nI fl), .int fp])), (aS, .inl (cS, 131072, .inl (fun zz => nI ((va_up st nd x) zz)))), (aE, .inl (cE, 131072, .inl (fun zz => nI (en zz)))), (aP, .inl (cP, 131072, .inl (fun zz => nI ((va_up pa nd b) zz)))), (aL, .inl (cL, 131072, .inl (fun zz => nI (li zz)))), (aQ, .inl (cQ, 262144, .inl (fun zz => nI (sl zz)))), (ta, .inl (cB, NB, .inl (T)))] H locs := h
  refine lv_aload_n X.1.1 X.1.2.1 zd_Su_addNode_32 rfl (lv_at hl 1 rfl) ?_
  refine rG X h 0 rfl rfl zW_Su 3 (by decide) zw_51 rfl zd_Su_addNode_33 ?_
  refine lv_iload X.1.1 X.1.2.1 zd_Su_addNode_36 (lv_at hl 0 rfl) ?_
  refine lv_iload_n X.1.1 X.1.2.1 zd_Su_addNode_38 rfl (lv_at hl 4 rfl) ?_
  refine rSn X h 2 1 rfl rfl (by omega) (by omega) zd_Su_addNode_39 (fun H locs h => ?_)
  have h : zH D A s [(t0, .inr (2, [.ref ta, .int (nI n), .ref aS, .ref aE, .ref aP, .ref aL, .int (nI (nd + 1)), .ref aQ, .int (nI M), .int (nI sh), .int (nI an), .int (nI L), .int (nI wt), .int (nI fl), .int fp])), (aS, .inl (cS, 131072, .inl (fun zz => nI ((va_up st nd x) zz)))), (aE, .inl (cE, 131072, .inl (fun zz => nI ((va_up en nd y) zz)))), (aP, .inl (cP, 131072, .inl (fun zz => nI ((va_up pa nd b) zz)))), (aL, .inl (cL, 131072, .inl (fun zz => nI (li zz)))), (aQ, .inl (cQ, 262144, .inl (fun zz => nI (sl zz)))), (ta, .inl (cB, NB, .inl (T)))] H locs := h
  refine lv_aload_n X.1.1 X.1.2.1 zd_Su_addNode_40 rfl (lv_at hl 1 rfl) ?_
  refine rG X h 0 rfl rfl zW_Su 5 (by decide) zw_53 rfl zd_Su_addNode_41 ?_
  refine lv_iload X.1.1 X.1.2.1 zd_Su_addNode_44 (lv_at hl 0 rfl) ?_
  refine lv_iconst (v := nI 0) X.1.1 X.1.2.1 zd_Su_addNode_46 (by decide) ?_
  refine rSn X h 4 3 rfl rfl (by omega) (by omega) zd_Su_addNode_47 (fun H locs h => ?_)
  have h : zH D A s [(t0, .inr (2, [.ref ta, .int (nI n), .ref aS, .ref aE, .ref aP, .ref aL, .int (nI (nd + 1)), .ref aQ, .int (nI M), .int (nI sh), .int (nI an), .int (nI L), .int (nI wt), .int (nI fl), .int fp])), (aS, .inl (cS, 131072, .inl (fun zz => nI ((va_up st nd x) zz)))), (aE, .inl (cE, 131072, .inl (fun zz => nI ((va_up en nd y) zz)))), (aP, .inl (cP, 131072, .inl (fun zz => nI ((va_up pa nd b) zz)))), (aL, .inl (cL, 131072, .inl (fun zz => nI ((va_up li nd 0) zz)))), (aQ, .inl (cQ, 262144, .inl (fun zz => nI (sl zz)))), (ta, .inl (cB, NB, .inl (T)))] H locs := h
  refine lv_iload X.1.1 X.1.2.1 zd_Su_addNode_48 (lv_at hl 0 rfl) ?_
  exact ret _ () H locs ls _ (⟨rfl, trivial⟩) h zd_Su_addNode_50

set_option maxHeartbeats 4000000 in
set_option maxRecDepth 100000 in
theorem zc_Su_goToNextSuffix (l : Launch) (D : va_G) {t0 ta n aS aE aP aL nd aQ M sh an L wt fl NB : Nat} {fp : Int32} {st en pa li sl : Nat → Nat} {T : Nat → Int32} {cS cE cP cL cQ cB : ClassId} (ha : an < 131072) (hL : L < 2 ^ 30) (sz : Nat) : zMv l D zy_Su_goToNextSuffix zb_Su_goToNextSuffix 1 ({ frames := 0, cells := 0, slots := 0, locals := 0 } : Room) [.ref t0] [(cS, .int), (cE, .int), (cP, .int), (cL, .int), (cQ, .int), (cB, .byte)] [(t0, .inr (2, [.ref ta, .int (nI n), .ref aS, .ref aE, .ref aP, .ref aL, .int (nI nd), .ref aQ, .int (nI M), .int (nI sh), .int (nI an), .int (nI L), .int (nI wt), .int (nI fl), .int fp])), (aS, .inl (cS, 131072, .inl (fun zz => nI (st zz)))), (aE, .inl (cE, 131072, .inl (fun zz => nI (en zz)))), (aP, .inl (cP, 131072, .inl (fun zz => nI (pa zz)))), (aL, .inl (cL, 131072, .inl (fun zz => nI (li zz)))), (aQ, .inl (cQ, 262144, .inl (fun zz => nI (sl zz)))), (ta, .inl (cB, NB, .inl (T)))] sz (fun (u : Unit) => True) (fun _ => [(t0, .inr (2, [.ref ta, .int (nI n), .ref aS, .ref aE, .ref aP, .ref aL, .int (nI nd), .ref aQ, .int (nI M), .int (nI sh), .int (nI (if an = 0 then 0 else li an)), .int (nI (if an = 0 then L - 1 else L)), .int (nI wt), .int (nI fl), .int fp])), (aS, .inl (cS, 131072, .inl (fun zz => nI (st zz)))), (aE, .inl (cE, 131072, .inl (fun zz => nI (en zz)))), (aP, .inl (cP, 131072, .inl (fun zz => nI (pa zz)))), (aL, .inl (cL, 131072, .inl (fun zz => nI (li zz)))), (aQ, .inl (cQ, 262144, .inl (fun zz => nI (sl zz)))), (ta, .inl (cB, NB, .inl (T)))]) := by
  refine zEv (by decide) (Nat.le_of_ble_eq_true rfl) (fun p e s m args below meth c ls A Q X hin hl h hsz ret => ?_)
  have hl : lv_has ls 1 [(0, .ref t0)] := hl
  generalize hH0 : s.heap = H at h ⊢
  have h : zH D A s [(t0, .inr (2, [.ref ta, .int (nI n), .ref aS, .ref aE, .ref aP, .ref aL, .int (nI nd), .ref aQ, .int (nI M), .int (nI sh), .int (nI an), .int (nI L), .int (nI wt), .int (nI fl), .int fp])), (aS, .inl (cS, 131072, .inl (fun zz => nI (st zz)))), (aE, .inl (cE, 131072, .inl (fun zz => nI (en zz)))), (aP, .inl (cP, 131072, .inl (fun zz => nI (pa zz)))), (aL, .inl (cL, 131072, .inl (fun zz => nI (li zz)))), (aQ, .inl (cQ, 262144, .inl (fun zz => nI (sl zz)))), (ta, .inl (cB, NB, .inl (T)))] H [] := h
  generalize hL0 : ([] : List Loc) = locs at h ⊢
  refine lv_aload_n X.1.1 X.1.2.1 zd_Su_goToNextSuffix_0 rfl (lv_at hl 0 rfl) ?_
  refine rG X h 0 rfl rfl zW_Su 10 (by decide) zw_58 rfl zd_Su_goToNextSuffix_1 ?_
  refine lv_if_eq (tgt := 23) X.1.1 X.1.2.1 zd_Su_goToNextSuffix_4 rfl (fun c1 => ?_) (fun c1 => ?_)
  · have c1 : an = 0 := zc_eq0_t (by omega) (by omega) c1
    rw [if_pos c1, if_pos c1] at ret
    refine lv_aload_n X.1.1 X.1.2.1 zd_Su_goToNextSuffix_23 rfl (lv_at hl 0 rfl) ?_
    refine rG X h 0 rfl rfl zW_Su 11 (by decide) zw_59 rfl zd_Su_goToNextSuffix_24 ?_
    refine lv_if_le (tgt := 40) X.1.1 X.1.2.1 zd_Su_goToNextSuffix_27 rfl (fun c2 => ?_) (fun c2 => ?_)
    · have c2 : L ≤ 0 := zc_le0_t (by omega) (by omega) c2
      have e1 : L - 1 = L := by omega
      rw [e1] at ret
      subst c1
      exact ret () H locs ls _ (trivial) h zd_Su_goToNextSuffix_40
    · have c2 : 0 < L := zc_le0_f (by omega) (by omega) c2
      refine lv_aload_n X.1.1 X.1.2.1 zd_Su_goToNextSuffix_30 rfl (lv_at hl 0 rfl) ?_
      refine lv_dup X.1.1 X.1.2.1 zd_Su_goToNextSuffix_31 rfl ?_
      refine rG X h 0 rfl rfl zW_Su 11 (by decide) zw_59 rfl zd_Su_goToNextSuffix_32 ?_
      refine lv_iconst (v := nI 1) X.1.1 X.1.2.1 zd_Su_goToNextSuffix_35 (by decide) ?_
      refine lv_isub X.1.1 X.1.2.1 zd_Su_goToNextSuffix_36 ?_
      refine zTop (y := nI (L - 1)) (pk_sub (by omega)) ?_
      refine rP X h 0 rfl rfl zW_Su zO_Su zN_Su 11 (by decide) zw_59 rfl (rfl) (rfl) (Nat.le_of_ble_eq_true rfl) zd_Su_goToNextSuffix_37 (fun H locs h => ?_)
      have h : zH D A s [(t0, .inr (2, [.ref ta, .int (nI n), .ref aS, .ref aE, .ref aP, .ref aL, .int (nI nd), .ref aQ, .int (nI M), .int (nI sh), .int (nI an), .int (nI (L - 1)), .int (nI wt), .int (nI fl), .int fp])), (aS, .inl (cS, 131072, .inl (fun zz => nI (st zz)))), (aE, .inl (cE, 131072, .inl (fun zz => nI (en zz)))), (aP, .inl (cP, 131072, .inl (fun zz => nI (pa zz)))), (aL, .inl (cL, 131072, .inl (fun zz => nI (li zz)))), (aQ, .inl (cQ, 262144, .inl (fun zz => nI (sl zz)))), (ta, .inl (cB, NB, .inl (T)))] H locs := h
      subst c1
      exact ret () H locs ls _ (trivial) h zd_Su_goToNextSuffix_40
  · have c1 : an ≠ 0 := zc_eq0_f (by omega) (by omega) c1
    rw [if_neg c1, if_neg c1] at ret
    refine lv_aload_n X.1.1 X.1.2.1 zd_Su_goToNextSuffix_7 rfl (lv_at hl 0 rfl) ?_
    refine lv_aload_n X.1.1 X.1.2.1 zd_Su_goToNextSuffix_8 rfl (lv_at hl 0 rfl) ?_
    refine rG X h 0 rfl rfl zW_Su 5 (by decide) zw_53 rfl zd_Su_goToNextSuffix_9 ?_
    refine lv_aload_n X.1.1 X.1.2.1 zd_Su_goToNextSuffix_12 rfl (lv_at hl 0 rfl) ?_
    refine rG X h 0 rfl rfl zW_Su 10 (by decide) zw_58 rfl zd_Su_goToNextSuffix_13 ?_
    refine rLn X h 4 3 rfl rfl (by omega) (by omega) zd_Su_goToNextSuffix_16 ?_
    refine rP X h 0 rfl rfl zW_Su zO_Su zN_Su 10 (by decide) zw_58 rfl (rfl) (rfl) (Nat.le_of_ble_eq_true rfl) zd_Su_goToNextSuffix_17 (fun H locs h => ?_)
    have h : zH D A s [(t0, .inr (2, [.ref ta, .int (nI n), .ref aS, .ref aE, .ref aP, .ref aL, .int (nI nd), .ref aQ, .int (nI M), .int (nI sh), .int (nI (li an)), .int (nI L), .int (nI wt), .int (nI fl), .int fp])), (aS, .inl (cS, 131072, .inl (fun zz => nI (st zz)))), (aE, .inl (cE, 131072, .inl (fun zz => nI (en zz)))), (aP, .inl (cP, 131072, .inl (fun zz => nI (pa zz)))), (aL, .inl (cL, 131072, .inl (fun zz => nI (li zz)))), (aQ, .inl (cQ, 262144, .inl (fun zz => nI (sl zz)))), (ta, .inl (cB, NB, .inl (T)))] H locs := h
    refine lv_goto (tgt := 40) X.1.1 X.1.2.1 zd_Su_goToNextSuffix_20 rfl ?_
    exact ret () H locs ls _ (trivial) h zd_Su_goToNextSuffix_40

set_option maxHeartbeats 4000000 in
set_option maxRecDepth 100000 in
theorem zc_Su_addLeaf (l : Launch) (D : va_G) {t0 ta n aS aE aP aL nd aQ M sh an L wt fl NB : Nat} {fp : Int32} {st en pa li sl : Nat → Nat} {T : Nat → Int32} {cS cE cP cL cQ cB : ClassId} {b x : Nat} (hO : tO NB M sh nd st pa sl) (hb : b < 131072) (hx : x < NB) (hnd : nd < 131072) (sz : Nat) : zMv l D zy_Su_addLeaf zb_Su_addLeaf 4 ({ frames := 1, cells := 0, slots := 0, locals := 25 } : Room) [.ref t0, .int (nI b), .int (nI x)] [(cS, .int), (cE, .int), (cP, .int), (cL, .int), (cQ, .int), (cB, .byte)] [(t0, .inr (2, [.ref ta, .int (nI n), .ref aS, .ref aE, .ref aP, .ref aL, .int (nI nd), .ref aQ, .int (nI M), .int (nI sh), .int (nI an), .int (nI L), .int (nI wt), .int (nI fl), .int fp])), (aS, .inl (cS, 131072, .inl (fun zz => nI (st zz)))), (aE, .inl (cE, 131072, .inl (fun zz => nI (en zz)))), (aP, .inl (cP, 131072, .inl (fun zz => nI (pa zz)))), (aL, .inl (cL, 131072, .inl (fun zz => nI (li zz)))), (aQ, .inl (cQ, 262144, .inl (fun zz => nI (sl zz)))), (ta, .inl (cB, NB, .inl (T)))] sz (fun (u : Nat) => hs_r M sl (hok pa st T b (T x)) (hN sh b (T x)) u) (fun u => [(t0, .inr (2, [.ref ta, .int (nI n), .ref aS, .ref aE, .ref aP, .ref aL, .int (nI (nd + 1)), .ref aQ, .int (nI M), .int (nI sh), .int (nI an), .int (nI L), .int (nI wt), .int (nI fl), .int fp])), (aS, .inl (cS, 131072, .inl (fun zz => nI ((va_up st nd x) zz)))), (aE, .inl (cE, 131072, .inl (fun zz => nI ((va_up en nd n) zz)))), (aP, .inl (cP, 131072, .inl (fun zz => nI ((va_up pa nd b) zz)))), (aL, .inl (cL, 131072, .inl (fun zz => nI ((va_up li nd 0) zz)))), (aQ, .inl (cQ, 262144, .inl (fun zz => nI ((va_up sl u nd) zz)))), (ta, .inl (cB, NB, .inl (T)))]) := by
  refine zEv (by decide) (Nat.le_of_ble_eq_true rfl) (fun p e s m args below meth c ls A Q X hin hl h hsz ret => ?_)
  have hl : lv_has ls 4 [(0, .ref t0), (1, .int (nI b)), (2, .int (nI x))] := hl
  generalize hH0 : s.heap = H at h ⊢
  have h : zH D A s [(t0, .inr (2, [.ref ta, .int (nI n), .ref aS, .ref aE, .ref aP, .ref aL, .int (nI nd), .ref aQ, .int (nI M), .int (nI sh), .int (nI an), .int (nI L), .int (nI wt), .int (nI fl), .int fp])), (aS, .inl (cS, 131072, .inl (fun zz => nI (st zz)))), (aE, .inl (cE, 131072, .inl (fun zz => nI (en zz)))), (aP, .inl (cP, 131072, .inl (fun zz => nI (pa zz)))), (aL, .inl (cL, 131072, .inl (fun zz => nI (li zz)))), (aQ, .inl (cQ, 262144, .inl (fun zz => nI (sl zz)))), (ta, .inl (cB, NB, .inl (T)))] H [] := h
  generalize hL0 : ([] : List Loc) = locs at h ⊢
  have hNB := hO.1
  have hM := tO_M hO
  refine lv_aload_n X.1.1 X.1.2.1 zd_Su_addLeaf_0 rfl (lv_at hl 0 rfl) ?_
  refine lv_iload_n X.1.1 X.1.2.1 zd_Su_addLeaf_1 rfl (lv_at hl 1 rfl) ?_
  refine lv_aload_n X.1.1 X.1.2.1 zd_Su_addLeaf_2 rfl (lv_at hl 0 rfl) ?_
  refine rG X h 0 rfl rfl zW_Su 0 (by decide) zw_48 rfl zd_Su_addLeaf_3 ?_
  refine lv_iload_n X.1.1 X.1.2.1 zd_Su_addLeaf_6 rfl (lv_at hl 2 rfl) ?_
  refine rLb X h 6 5 rfl rfl (by omega) (by omega) zd_Su_addLeaf_7 ?_
  refine rCi (wr := []) (wf := fun u => [(t0, .inr (2, [.ref ta, .int (nI n), .ref aS, .ref aE, .ref aP, .ref aL, .int (nI nd), .ref aQ, .int (nI M), .int (nI sh), .int (nI an), .int (nI L), .int (nI wt), .int (nI fl), .int fp])), (aS, .inl (cS, 131072, .inl (fun zz => nI (st zz)))), (aE, .inl (cE, 131072, .inl (fun zz => nI (en zz)))), (aP, .inl (cP, 131072, .inl (fun zz => nI (pa zz)))), (aL, .inl (cL, 131072, .inl (fun zz => nI (li zz)))), (aQ, .inl (cQ, 262144, .inl (fun zz => nI (sl zz)))), (ta, .inl (cB, NB, .inl (T)))]) (rest := []) X h hl.1 (zc_Su_slotOf l D (t0 := t0) (ta := ta) (n := n) (aS := aS) (aE := aE) (aP := aP) (aL := aL) (nd := nd) (aQ := aQ) (M := M) (sh := sh) (an := an) (L := L) (wt := wt) (fl := fl) (fp := fp) (st := st) (cS := cS) (en := en) (cE := cE) (pa := pa) (cP := cP) (li := li) (cL := cL) (sl := sl) (cQ := cQ) (T := T) (cB := cB) (NB := NB) (a := b) (ch := T x) (hO) (hb) H.size) zw_202 zw_204 zs_4 zw_3 zm_Su_slotOf zq_Su_slotOf ⟨Nat.le_of_ble_eq_true rfl, Nat.le_of_ble_eq_true rfl⟩ ⟨Nat.le_of_ble_eq_true rfl, Nat.le_of_ble_eq_true rfl⟩ [0, 1, 2, 3, 4, 5] rfl [0, 1, 2, 3, 4, 5, 6] [] [0, 1, 2, 3, 4, 5, 6] rfl (by decide) rfl (by decide) (by decide) (fun _ => rfl) (by decide) 0 rfl rfl rfl (Nat.le_of_ble_eq_true rfl) zd_Su_addLeaf_8 (fun r u H locs hp h => ?_)
  obtain ⟨rfl, q1⟩ := hp
  have h : zH D A s [(t0, .inr (2, [.ref ta, .int (nI n), .ref aS, .ref aE, .ref aP, .ref aL, .int (nI nd), .ref aQ, .int (nI M), .int (nI sh), .int (nI an), .int (nI L), .int (nI wt), .int (nI fl), .int fp])), (aS, .inl (cS, 131072, .inl (fun zz => nI (st zz)))), (aE, .inl (cE, 131072, .inl (fun zz => nI (en zz)))), (aP, .inl (cP, 131072, .inl (fun zz => nI (pa zz)))), (aL, .inl (cL, 131072, .inl (fun zz => nI (li zz)))), (aQ, .inl (cQ, 262144, .inl (fun zz => nI (sl zz)))), (ta, .inl (cB, NB, .inl (T)))] H locs := h
  have hu := hs_r_lt q1
  refine lv_istore_n X.1.1 X.1.2.1 zd_Su_addLeaf_11 rfl hl (by decide) rfl (fun ls hl => ?_)
  have hl : lv_has ls 4 [(3, .int (nI u)), (0, .ref t0), (1, .int (nI b)), (2, .int (nI x))] := hl
  refine lv_aload_n X.1.1 X.1.2.1 zd_Su_addLeaf_12 rfl (lv_at hl 1 rfl) ?_
  refine rG X h 0 rfl rfl zW_Su 7 (by decide) zw_55 rfl zd_Su_addLeaf_13 ?_
  refine lv_iload_n X.1.1 X.1.2.1 zd_Su_addLeaf_16 rfl (lv_at hl 0 rfl) ?_
  refine lv_aload_n X.1.1 X.1.2.1 zd_Su_addLeaf_17 rfl (lv_at hl 1 rfl) ?_
  refine lv_iload_n X.1.1 X.1.2.1 zd_Su_addLeaf_18 rfl (lv_at hl 2 rfl) ?_
  refine lv_iload_n X.1.1 X.1.2.1 zd_Su_addLeaf_19 rfl (lv_at hl 3 rfl) ?_
  refine lv_aload_n X.1.1 X.1.2.1 zd_Su_addLeaf_20 rfl (lv_at hl 1 rfl) ?_
  refine rG X h 0 rfl rfl zW_Su 1 (by decide) zw_49 rfl zd_Su_addLeaf_21 ?_
  refine rCi (wr := []) (wf := fun _ => [(t0, .inr (2, [.ref ta, .int (nI n), .ref aS, .ref aE, .ref aP, .ref aL, .int (nI (nd + 1)), .ref aQ, .int (nI M), .int (nI sh), .int (nI an), .int (nI L), .int (nI wt), .int (nI fl), .int fp])), (aS, .inl (cS, 131072, .inl (fun zz => nI ((va_up st nd x) zz)))), (aE, .inl (cE, 131072, .inl (fun zz => nI ((va_up en nd n) zz)))), (aP, .inl (cP, 131072, .inl (fun zz => nI ((va_up pa nd b) zz)))), (aL, .inl (cL, 131072, .inl (fun zz => nI ((va_up li nd 0) zz)))), (aQ, .inl (cQ, 262144, .inl (fun zz => nI (sl zz)))), (ta, .inl (cB, NB, .inl (T)))]) (rest := [.int (nI u), .ref aQ]) X h hl.1 (zc_Su_addNode l D (t0 := t0) (ta := ta) (n := n) (aS := aS) (aE := aE) (aP := aP) (aL := aL) (nd := nd) (aQ := aQ) (M := M) (sh := sh) (an := an) (L := L) (wt := wt) (fl := fl) (fp := fp) (st := st) (cS := cS) (en := en) (cE := cE) (pa := pa) (cP := cP) (li := li) (cL := cL) (sl := sl) (cQ := cQ) (T := T) (cB := cB) (NB := NB) (b := b) (x := x) (y := n) (hnd) H.size) zw_211 zw_213 zs_6 zw_3 zm_Su_addNode zq_Su_addNode ⟨Nat.le_of_ble_eq_true rfl, Nat.le_of_ble_eq_true rfl⟩ ⟨Nat.le_of_ble_eq_true rfl, Nat.le_of_ble_eq_true rfl⟩ [0, 1, 2, 3, 4, 5] rfl [0, 1, 2, 3, 4, 5, 6] [] [0, 1, 2, 3, 4, 5, 6] rfl (by decide) rfl (by decide) (by decide) (fun _ => rfl) (by decide) 0 rfl rfl rfl (Nat.le_of_ble_eq_true rfl) zd_Su_addLeaf_24 (fun r _ H locs hp h => ?_)
  obtain ⟨rfl, -⟩ := hp
  have h : zH D A s [(t0, .inr (2, [.ref ta, .int (nI n), .ref aS, .ref aE, .ref aP, .ref aL, .int (nI (nd + 1)), .ref aQ, .int (nI M), .int (nI sh), .int (nI an), .int (nI L), .int (nI wt), .int (nI fl), .int fp])), (aS, .inl (cS, 131072, .inl (fun zz => nI ((va_up st nd x) zz)))), (aE, .inl (cE, 131072, .inl (fun zz => nI ((va_up en nd n) zz)))), (aP, .inl (cP, 131072, .inl (fun zz => nI ((va_up pa nd b) zz)))), (aL, .inl (cL, 131072, .inl (fun zz => nI ((va_up li nd 0) zz)))), (aQ, .inl (cQ, 262144, .inl (fun zz => nI (sl zz)))), (ta, .inl (cB, NB, .inl (T)))] H locs := h
  refine rSn X h 5 4 rfl rfl (by omega) (by omega) zd_Su_addLeaf_27 (fun H locs h => ?_)
  have h : zH D A s [(t0, .inr (2, [.ref ta, .int (nI n), .ref aS, .ref aE, .ref aP, .ref aL, .int (nI (nd + 1)), .ref aQ, .int (nI M), .int (nI sh), .int (nI an), .int (nI L), .int (nI wt), .int (nI fl), .int fp])), (aS, .inl (cS, 131072, .inl (fun zz => nI ((va_up st nd x) zz)))), (aE, .inl (cE, 131072, .inl (fun zz => nI ((va_up en nd n) zz)))), (aP, .inl (cP, 131072, .inl (fun zz => nI ((va_up pa nd b) zz)))), (aL, .inl (cL, 131072, .inl (fun zz => nI ((va_up li nd 0) zz)))), (aQ, .inl (cQ, 262144, .inl (fun zz => nI ((va_up sl u nd) zz)))), (ta, .inl (cB, NB, .inl (T)))] H locs := h
  exact ret u H locs ls _ (q1) h zd_Su_addLeaf_28

set_option maxHeartbeats 4000000 in
set_option maxRecDepth 100000 in
theorem zc_Su_split (l : Launch) (D : va_G) {t0 ta n aS aE aP aL nd aQ M sh an L wt fl NB : Nat} {fp : Int32} {st en pa li sl : Nat → Nat} {T : Nat → Int32} {cS cE cP cL cQ cB : ClassId} {rr w : Nat} (hO : tO NB M sh (nd + 1) (va_up (va_up st nd (st w)) w (st w + L)) (va_up (va_up pa nd an) w nd) (va_up sl rr nd)) (hr : rr < 262144) (hw : w < nd) (hnd : nd < 131072) (hm : st w + L < NB) (sz : Nat) : zMi l D zy_Su_split zb_Su_split 5 .int ({ frames := 1, cells := 0, slots := 0, locals := 25 } : Room) [.ref t0, .int (nI rr), .int (nI w)] [(cS, .int), (cE, .int), (cP, .int), (cL, .int), (cQ, .int), (cB, .byte)] [(t0, .inr (2, [.ref ta, .int (nI n), .ref aS, .ref aE, .ref aP, .ref aL, .int (nI nd), .ref aQ, .int (nI M), .int (nI sh), .int (nI an), .int (nI L), .int (nI wt), .int (nI fl), .int fp])), (aS, .inl (cS, 131072, .inl (fun zz => nI (st zz)))), (aE, .inl (cE, 131072, .inl (fun zz => nI (en zz)))), (aP, .inl (cP, 131072, .inl (fun zz => nI (pa zz)))), (aL, .inl (cL, 131072, .inl (fun zz => nI (li zz)))), (aQ, .inl (cQ, 262144, .inl (fun zz => nI (sl zz)))), (ta, .inl (cB, NB, .inl (T)))] sz (fun (r : Int32) (u : Nat) => r = nI nd ∧ hs_r M (va_up sl rr nd) (hok (va_up (va_up pa nd an) w nd) (va_up (va_up st nd (st w)) w (st w + L)) T nd (T (st w + L))) (hN sh nd (T (st w + L))) u) (fun u => [(t0, .inr (2, [.ref ta, .int (nI n), .ref aS, .ref aE, .ref aP, .ref aL, .int (nI (nd + 1)), .ref aQ, .int (nI M), .int (nI sh), .int (nI an), .int (nI L), .int (nI wt), .int (nI fl), .int fp])), (aS, .inl (cS, 131072, .inl (fun zz => nI ((va_up (va_up st nd (st w)) w (st w + L)) zz)))), (aE, .inl (cE, 131072, .inl (fun zz => nI ((va_up en nd (st w + L)) zz)))), (aP, .inl (cP, 131072, .inl (fun zz => nI ((va_up (va_up pa nd an) w nd) zz)))), (aL, .inl (cL, 131072, .inl (fun zz => nI ((va_up li nd 0) zz)))), (aQ, .inl (cQ, 262144, .inl (fun zz => nI ((va_up (va_up sl rr nd) u w) zz)))), (ta, .inl (cB, NB, .inl (T)))]) := by
  refine zEi (by decide) (Nat.le_of_ble_eq_true rfl) (fun p e s m args below meth c ls A Q X hl h hsz ret => ?_)
  have hl : lv_has ls 5 [(0, .ref t0), (1, .int (nI rr)), (2, .int (nI w))] := hl
  generalize hH0 : s.heap = H at h ⊢
  have h : zH D A s [(t0, .inr (2, [.ref ta, .int (nI n), .ref aS, .ref aE, .ref aP, .ref aL, .int (nI nd), .ref aQ, .int (nI M), .int (nI sh), .int (nI an), .int (nI L), .int (nI wt), .int (nI fl), .int fp])), (aS, .inl (cS, 131072, .inl (fun zz => nI (st zz)))), (aE, .inl (cE, 131072, .inl (fun zz => nI (en zz)))), (aP, .inl (cP, 131072, .inl (fun zz => nI (pa zz)))), (aL, .inl (cL, 131072, .inl (fun zz => nI (li zz)))), (aQ, .inl (cQ, 262144, .inl (fun zz => nI (sl zz)))), (ta, .inl (cB, NB, .inl (T)))] H [] := h
  generalize hL0 : ([] : List Loc) = locs at h ⊢
  have hNB := hO.1
  have hM := tO_M hO
  refine lv_aload_n X.1.1 X.1.2.1 zd_Su_split_0 rfl (lv_at hl 0 rfl) ?_
  refine rG X h 0 rfl rfl zW_Su 2 (by decide) zw_50 rfl zd_Su_split_1 ?_
  refine lv_iload_n X.1.1 X.1.2.1 zd_Su_split_4 rfl (lv_at hl 2 rfl) ?_
  refine rLn X h 1 0 rfl rfl (by omega) (by omega) zd_Su_split_5 ?_
  refine lv_aload_n X.1.1 X.1.2.1 zd_Su_split_6 rfl (lv_at hl 0 rfl) ?_
  refine rG X h 0 rfl rfl zW_Su 11 (by decide) zw_59 rfl zd_Su_split_7 ?_
  refine lv_iadd X.1.1 X.1.2.1 zd_Su_split_10 ?_
  refine zTop (y := nI (st w + L)) (nI_add _ _) ?_
  refine lv_istore_n X.1.1 X.1.2.1 zd_Su_split_11 rfl hl (by decide) rfl (fun ls hl => ?_)
  have hl : lv_has ls 5 [(3, .int (nI (st w + L))), (0, .ref t0), (1, .int (nI rr)), (2, .int (nI w))] := hl
  refine lv_aload_n X.1.1 X.1.2.1 zd_Su_split_12 rfl (lv_at hl 1 rfl) ?_
  refine lv_aload_n X.1.1 X.1.2.1 zd_Su_split_13 rfl (lv_at hl 1 rfl) ?_
  refine rG X h 0 rfl rfl zW_Su 10 (by decide) zw_58 rfl zd_Su_split_14 ?_
  refine lv_aload_n X.1.1 X.1.2.1 zd_Su_split_17 rfl (lv_at hl 1 rfl) ?_
  refine rG X h 0 rfl rfl zW_Su 2 (by decide) zw_50 rfl zd_Su_split_18 ?_
  refine lv_iload_n X.1.1 X.1.2.1 zd_Su_split_21 rfl (lv_at hl 3 rfl) ?_
  refine rLn X h 1 0 rfl rfl (by omega) (by omega) zd_Su_split_22 ?_
  refine lv_iload_n X.1.1 X.1.2.1 zd_Su_split_23 rfl (lv_at hl 0 rfl) ?_
  refine rCi (wr := []) (wf := fun _ => [(t0, .inr (2, [.ref ta, .int (nI n), .ref aS, .ref aE, .ref aP, .ref aL, .int (nI (nd + 1)), .ref aQ, .int (nI M), .int (nI sh), .int (nI an), .int (nI L), .int (nI wt), .int (nI fl), .int fp])), (aS, .inl (cS, 131072, .inl (fun zz => nI ((va_up st nd (st w)) zz)))), (aE, .inl (cE, 131072, .inl (fun zz => nI ((va_up en nd (st w + L)) zz)))), (aP, .inl (cP, 131072, .inl (fun zz => nI ((va_up pa nd an) zz)))), (aL, .inl (cL, 131072, .inl (fun zz => nI ((va_up li nd 0) zz)))), (aQ, .inl (cQ, 262144, .inl (fun zz => nI (sl zz)))), (ta, .inl (cB, NB, .inl (T)))]) (rest := []) X h hl.1 (zc_Su_addNode l D (t0 := t0) (ta := ta) (n := n) (aS := aS) (aE := aE) (aP := aP) (aL := aL) (nd := nd) (aQ := aQ) (M := M) (sh := sh) (an := an) (L := L) (wt := wt) (fl := fl) (fp := fp) (st := st) (cS := cS) (en := en) (cE := cE) (pa := pa) (cP := cP) (li := li) (cL := cL) (sl := sl) (cQ := cQ) (T := T) (cB := cB) (NB := NB) (b := an) (x := st w) (y := st w + L) (hnd) H.size) zw_211 zw_213 zs_6 zw_3 zm_Su_addNode zq_Su_addNode ⟨Nat.le_of_ble_eq_true rfl, Nat.le_of_ble_eq_true rfl⟩ ⟨Nat.le_of_ble_eq_true rfl, Nat.le_of_ble_eq_true rfl⟩ [0, 1, 2, 3, 4, 5] rfl [0, 1, 2, 3, 4, 5, 6] [] [0, 1, 2, 3, 4, 5, 6] rfl (by decide) rfl (by decide) (by decide) (fun _ => rfl) (by decide) 0 rfl rfl rfl (Nat.le_of_ble_eq_true rfl) zd_Su_split_24 (fun r _ H locs hp h => ?_)
  obtain ⟨rfl, -⟩ := hp
  have h : zH D A s [(t0, .inr (2, [.ref ta, .int (nI n), .ref aS, .ref aE, .ref aP, .ref aL, .int (nI (nd + 1)), .ref aQ, .int (nI M), .int (nI sh), .int (nI an), .int (nI L), .int (nI wt), .int (nI fl), .int fp])), (aS, .inl (cS, 131072, .inl (fun zz => nI ((va_up st nd (st w)) zz)))), (aE, .inl (cE, 131072, .inl (fun zz => nI ((va_up en nd (st w + L)) zz)))), (aP, .inl (cP, 131072, .inl (fun zz => nI ((va_up pa nd an) zz)))), (aL, .inl (cL, 131072, .inl (fun zz => nI ((va_up li nd 0) zz)))), (aQ, .inl (cQ, 262144, .inl (fun zz => nI (sl zz)))), (ta, .inl (cB, NB, .inl (T)))] H locs := h
  refine lv_istore X.1.1 X.1.2.1 zd_Su_split_27 hl (by decide) rfl (fun ls hl => ?_)
  have hl : lv_has ls 5 [(4, .int (nI nd)), (3, .int (nI (st w + L))), (0, .ref t0), (1, .int (nI rr)), (2, .int (nI w))] := hl
  refine lv_aload_n X.1.1 X.1.2.1 zd_Su_split_29 rfl (lv_at hl 2 rfl) ?_
  refine rG X h 0 rfl rfl zW_Su 7 (by decide) zw_55 rfl zd_Su_split_30 ?_
  refine lv_iload_n X.1.1 X.1.2.1 zd_Su_split_33 rfl (lv_at hl 3 rfl) ?_
  refine lv_iload X.1.1 X.1.2.1 zd_Su_split_34 (lv_at hl 0 rfl) ?_
  refine rSn X h 5 4 rfl rfl (by omega) (by omega) zd_Su_split_36 (fun H locs h => ?_)
  have h : zH D A s [(t0, .inr (2, [.ref ta, .int (nI n), .ref aS, .ref aE, .ref aP, .ref aL, .int (nI (nd + 1)), .ref aQ, .int (nI M), .int (nI sh), .int (nI an), .int (nI L), .int (nI wt), .int (nI fl), .int fp])), (aS, .inl (cS, 131072, .inl (fun zz => nI ((va_up st nd (st w)) zz)))), (aE, .inl (cE, 131072, .inl (fun zz => nI ((va_up en nd (st w + L)) zz)))), (aP, .inl (cP, 131072, .inl (fun zz => nI ((va_up pa nd an) zz)))), (aL, .inl (cL, 131072, .inl (fun zz => nI ((va_up li nd 0) zz)))), (aQ, .inl (cQ, 262144, .inl (fun zz => nI ((va_up sl rr nd) zz)))), (ta, .inl (cB, NB, .inl (T)))] H locs := h
  refine lv_aload_n X.1.1 X.1.2.1 zd_Su_split_37 rfl (lv_at hl 2 rfl) ?_
  refine rG X h 0 rfl rfl zW_Su 2 (by decide) zw_50 rfl zd_Su_split_38 ?_
  refine lv_iload_n X.1.1 X.1.2.1 zd_Su_split_41 rfl (lv_at hl 4 rfl) ?_
  refine lv_iload_n X.1.1 X.1.2.1 zd_Su_split_42 rfl (lv_at hl 1 rfl) ?_
  refine rSn X h 1 0 rfl rfl (by omega) (by omega) zd_Su_split_43 (fun H locs h => ?_)
  have h : zH D A s [(t0, .inr (2, [.ref ta, .int (nI n), .ref aS, .ref aE, .ref aP, .ref aL, .int (nI (nd + 1)), .ref aQ, .int (nI M), .int (nI sh), .int (nI an), .int (nI L), .int (nI wt), .int (nI fl), .int fp])), (aS, .inl (cS, 131072, .inl (fun zz => nI ((va_up (va_up st nd (st w)) w (st w + L)) zz)))), (aE, .inl (cE, 131072, .inl (fun zz => nI ((va_up en nd (st w + L)) zz)))), (aP, .inl (cP, 131072, .inl (fun zz => nI ((va_up pa nd an) zz)))), (aL, .inl (cL, 131072, .inl (fun zz => nI ((va_up li nd 0) zz)))), (aQ, .inl (cQ, 262144, .inl (fun zz => nI ((va_up sl rr nd) zz)))), (ta, .inl (cB, NB, .inl (T)))] H locs := h
  refine lv_aload_n X.1.1 X.1.2.1 zd_Su_split_44 rfl (lv_at hl 2 rfl) ?_
  refine rG X h 0 rfl rfl zW_Su 4 (by decide) zw_52 rfl zd_Su_split_45 ?_
  refine lv_iload_n X.1.1 X.1.2.1 zd_Su_split_48 rfl (lv_at hl 4 rfl) ?_
  refine lv_iload X.1.1 X.1.2.1 zd_Su_split_49 (lv_at hl 0 rfl) ?_
  refine rSn X h 3 2 rfl rfl (by omega) (by omega) zd_Su_split_51 (fun H locs h => ?_)
  have h : zH D A s [(t0, .inr (2, [.ref ta, .int (nI n), .ref aS, .ref aE, .ref aP, .ref aL, .int (nI (nd + 1)), .ref aQ, .int (nI M), .int (nI sh), .int (nI an), .int (nI L), .int (nI wt), .int (nI fl), .int fp])), (aS, .inl (cS, 131072, .inl (fun zz => nI ((va_up (va_up st nd (st w)) w (st w + L)) zz)))), (aE, .inl (cE, 131072, .inl (fun zz => nI ((va_up en nd (st w + L)) zz)))), (aP, .inl (cP, 131072, .inl (fun zz => nI ((va_up (va_up pa nd an) w nd) zz)))), (aL, .inl (cL, 131072, .inl (fun zz => nI ((va_up li nd 0) zz)))), (aQ, .inl (cQ, 262144, .inl (fun zz => nI ((va_up sl rr nd) zz)))), (ta, .inl (cB, NB, .inl (T)))] H locs := h
  refine lv_aload_n X.1.1 X.1.2.1 zd_Su_split_52 rfl (lv_at hl 2 rfl) ?_
  refine rG X h 0 rfl rfl zW_Su 7 (by decide) zw_55 rfl zd_Su_split_53 ?_
  refine lv_aload_n X.1.1 X.1.2.1 zd_Su_split_56 rfl (lv_at hl 2 rfl) ?_
  refine lv_iload X.1.1 X.1.2.1 zd_Su_split_57 (lv_at hl 0 rfl) ?_
  refine lv_aload_n X.1.1 X.1.2.1 zd_Su_split_59 rfl (lv_at hl 2 rfl) ?_
  refine rG X h 0 rfl rfl zW_Su 0 (by decide) zw_48 rfl zd_Su_split_60 ?_
  refine lv_iload_n X.1.1 X.1.2.1 zd_Su_split_63 rfl (lv_at hl 1 rfl) ?_
  refine rLb X h 6 5 rfl rfl (by omega) (by omega) zd_Su_split_64 ?_
  refine rCi (wr := []) (wf := fun u => [(t0, .inr (2, [.ref ta, .int (nI n), .ref aS, .ref aE, .ref aP, .ref aL, .int (nI (nd + 1)), .ref aQ, .int (nI M), .int (nI sh), .int (nI an), .int (nI L), .int (nI wt), .int (nI fl), .int fp])), (aS, .inl (cS, 131072, .inl (fun zz => nI ((va_up (va_up st nd (st w)) w (st w + L)) zz)))), (aE, .inl (cE, 131072, .inl (fun zz => nI ((va_up en nd (st w + L)) zz)))), (aP, .inl (cP, 131072, .inl (fun zz => nI ((va_up (va_up pa nd an) w nd) zz)))), (aL, .inl (cL, 131072, .inl (fun zz => nI ((va_up li nd 0) zz)))), (aQ, .inl (cQ, 262144, .inl (fun zz => nI ((va_up sl rr nd) zz)))), (ta, .inl (cB, NB, .inl (T)))]) (rest := [.ref aQ]) X h hl.1 (zc_Su_slotOf l D (t0 := t0) (ta := ta) (n := n) (aS := aS) (aE := aE) (aP := aP) (aL := aL) (nd := nd + 1) (aQ := aQ) (M := M) (sh := sh) (an := an) (L := L) (wt := wt) (fl := fl) (fp := fp) (st := va_up (va_up st nd (st w)) w (st w + L)) (cS := cS) (en := va_up en nd (st w + L)) (cE := cE) (pa := va_up (va_up pa nd an) w nd) (cP := cP) (li := va_up li nd 0) (cL := cL) (sl := va_up sl rr nd) (cQ := cQ) (T := T) (cB := cB) (NB := NB) (a := nd) (ch := T (st w + L)) (hO) (hnd) H.size) zw_202 zw_204 zs_4 zw_3 zm_Su_slotOf zq_Su_slotOf ⟨Nat.le_of_ble_eq_true rfl, Nat.le_of_ble_eq_true rfl⟩ ⟨Nat.le_of_ble_eq_true rfl, Nat.le_of_ble_eq_true rfl⟩ [0, 1, 2, 3, 4, 5] rfl [0, 1, 2, 3, 4, 5, 6] [] [0, 1, 2, 3, 4, 5, 6] rfl (by decide) rfl (by decide) (by decide) (fun _ => rfl) (by decide) 0 rfl rfl rfl (Nat.le_of_ble_eq_true rfl) zd_Su_split_65 (fun r u H locs hp h => ?_)
  obtain ⟨rfl, q1⟩ := hp
  have h : zH D A s [(t0, .inr (2, [.ref ta, .int (nI n), .ref aS, .ref aE, .ref aP, .ref aL, .int (nI (nd + 1)), .ref aQ, .int (nI M), .int (nI sh), .int (nI an), .int (nI L), .int (nI wt), .int (nI fl), .int fp])), (aS, .inl (cS, 131072, .inl (fun zz => nI ((va_up (va_up st nd (st w)) w (st w + L)) zz)))), (aE, .inl (cE, 131072, .inl (fun zz => nI ((va_up en nd (st w + L)) zz)))), (aP, .inl (cP, 131072, .inl (fun zz => nI ((va_up (va_up pa nd an) w nd) zz)))), (aL, .inl (cL, 131072, .inl (fun zz => nI ((va_up li nd 0) zz)))), (aQ, .inl (cQ, 262144, .inl (fun zz => nI ((va_up sl rr nd) zz)))), (ta, .inl (cB, NB, .inl (T)))] H locs := h
  have hu := hs_r_lt q1
  refine lv_iload_n X.1.1 X.1.2.1 zd_Su_split_68 rfl (lv_at hl 4 rfl) ?_
  refine rSn X h 5 4 rfl rfl (by omega) (by omega) zd_Su_split_69 (fun H locs h => ?_)
  have h : zH D A s [(t0, .inr (2, [.ref ta, .int (nI n), .ref aS, .ref aE, .ref aP, .ref aL, .int (nI (nd + 1)), .ref aQ, .int (nI M), .int (nI sh), .int (nI an), .int (nI L), .int (nI wt), .int (nI fl), .int fp])), (aS, .inl (cS, 131072, .inl (fun zz => nI ((va_up (va_up st nd (st w)) w (st w + L)) zz)))), (aE, .inl (cE, 131072, .inl (fun zz => nI ((va_up en nd (st w + L)) zz)))), (aP, .inl (cP, 131072, .inl (fun zz => nI ((va_up (va_up pa nd an) w nd) zz)))), (aL, .inl (cL, 131072, .inl (fun zz => nI ((va_up li nd 0) zz)))), (aQ, .inl (cQ, 262144, .inl (fun zz => nI ((va_up (va_up sl rr nd) u w) zz)))), (ta, .inl (cB, NB, .inl (T)))] H locs := h
  refine lv_iload X.1.1 X.1.2.1 zd_Su_split_70 (lv_at hl 0 rfl) ?_
  exact ret _ u H locs ls _ (⟨rfl, q1⟩) h zd_Su_split_72

set_option maxHeartbeats 4000000 in
set_option maxRecDepth 100000 in
theorem zc_Su_foundLength (l : Launch) (D : va_G) {t0 ta n aS aE aP aL nd aQ M sh an L wt fl NB : Nat} {fp : Int32} {st en pa li sl : Nat → Nat} {T : Nat → Int32} {cS cE cP cL cQ cB : ClassId}  (sz : Nat) : zMi l D zy_Su_foundLength zb_Su_foundLength 1 .int ({ frames := 0, cells := 0, slots := 0, locals := 0 } : Room) [.ref t0] [] [(t0, .inr (2, [.ref ta, .int (nI n), .ref aS, .ref aE, .ref aP, .ref aL, .int (nI nd), .ref aQ, .int (nI M), .int (nI sh), .int (nI an), .int (nI L), .int (nI wt), .int (nI fl), .int fp]))] sz (fun (r : Int32) (u : Unit) => r = nI fl ∧ True) (fun _ => [(t0, .inr (2, [.ref ta, .int (nI n), .ref aS, .ref aE, .ref aP, .ref aL, .int (nI nd), .ref aQ, .int (nI M), .int (nI sh), .int (nI an), .int (nI L), .int (nI wt), .int (nI fl), .int fp]))]) := by
  refine zEi (by decide) (Nat.le_of_ble_eq_true rfl) (fun p e s m args below meth c ls A Q X hl h hsz ret => ?_)
  have hl : lv_has ls 1 [(0, .ref t0)] := hl
  generalize hH0 : s.heap = H at h ⊢
  have h : zH D A s [(t0, .inr (2, [.ref ta, .int (nI n), .ref aS, .ref aE, .ref aP, .ref aL, .int (nI nd), .ref aQ, .int (nI M), .int (nI sh), .int (nI an), .int (nI L), .int (nI wt), .int (nI fl), .int fp]))] H [] := h
  generalize hL0 : ([] : List Loc) = locs at h ⊢
  refine lv_aload_n X.1.1 X.1.2.1 zd_Su_foundLength_0 rfl (lv_at hl 0 rfl) ?_
  refine rG X h 0 rfl rfl zW_Su 13 (by decide) zw_61 rfl zd_Su_foundLength_1 ?_
  exact ret _ () H locs ls _ (⟨rfl, trivial⟩) h zd_Su_foundLength_4

set_option maxHeartbeats 4000000 in
set_option maxRecDepth 100000 in
theorem zc_Su_foundPlace (l : Launch) (D : va_G) {t0 ta n aS aE aP aL nd aQ M sh an L wt fl NB : Nat} {fp : Int32} {st en pa li sl : Nat → Nat} {T : Nat → Int32} {cS cE cP cL cQ cB : ClassId}  (sz : Nat) : zMi l D zy_Su_foundPlace zb_Su_foundPlace 1 .int ({ frames := 0, cells := 0, slots := 0, locals := 0 } : Room) [.ref t0] [] [(t0, .inr (2, [.ref ta, .int (nI n), .ref aS, .ref aE, .ref aP, .ref aL, .int (nI nd), .ref aQ, .int (nI M), .int (nI sh), .int (nI an), .int (nI L), .int (nI wt), .int (nI fl), .int fp]))] sz (fun (r : Int32) (u : Unit) => r = fp ∧ True) (fun _ => [(t0, .inr (2, [.ref ta, .int (nI n), .ref aS, .ref aE, .ref aP, .ref aL, .int (nI nd), .ref aQ, .int (nI M), .int (nI sh), .int (nI an), .int (nI L), .int (nI wt), .int (nI fl), .int fp]))]) := by
  refine zEi (by decide) (Nat.le_of_ble_eq_true rfl) (fun p e s m args below meth c ls A Q X hl h hsz ret => ?_)
  have hl : lv_has ls 1 [(0, .ref t0)] := hl
  generalize hH0 : s.heap = H at h ⊢
  have h : zH D A s [(t0, .inr (2, [.ref ta, .int (nI n), .ref aS, .ref aE, .ref aP, .ref aL, .int (nI nd), .ref aQ, .int (nI M), .int (nI sh), .int (nI an), .int (nI L), .int (nI wt), .int (nI fl), .int fp]))] H [] := h
  generalize hL0 : ([] : List Loc) = locs at h ⊢
  refine lv_aload_n X.1.1 X.1.2.1 zd_Su_foundPlace_0 rfl (lv_at hl 0 rfl) ?_
  refine rG X h 0 rfl rfl zW_Su 14 (by decide) zw_62 rfl zd_Su_foundPlace_1 ?_
  exact ret _ () H locs ls _ (⟨rfl, trivial⟩) h zd_Su_foundPlace_4
