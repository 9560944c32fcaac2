/-! SuffixTree: grow, sameLetters, find -/

set_option maxHeartbeats 4000000 in
set_option maxRecDepth 100000 in
theorem zc_Su_grow (l : Launch) (D : va_G) {t0 tb n0 aS aE aP aL nd aQ M sh an L wt fl : Nat} {fp : Int32} {st en pa li sl : Nat → Nat} {cS cE cP cL cQ : ClassId} {o a n N : Nat} {f : Nat → Int32} {cB : ClassId} (hn : n ≤ 65536) (hnN : n ≤ N) (hN : N < 2 ^ 30) (sz : Nat) : zMv l D zy_Su_grow zb_Su_grow 3 ({ frames := 3, cells := 0, slots := 0, locals := 76 } : Room) [.ref t0, .ref o] [(cS, .int), (cE, .int), (cP, .int), (cL, .int), (cQ, .int), (cB, .byte)] [(t0, .inr (2, [.ref tb, .int (nI n0), .ref aS, .ref aE, .ref aP, .ref aL, .int (nI nd), .ref aQ, .int (nI M), .int (nI sh), .int (nI an), .int (nI L), .int (nI wt), .int (nI fl), .int fp])), (aS, .inl (cS, 131072, .inl (fun zz => nI (st zz)))), (aE, .inl (cE, 131072, .inl (fun zz => nI (en zz)))), (aP, .inl (cP, 131072, .inl (fun zz => nI (pa zz)))), (aL, .inl (cL, 131072, .inl (fun zz => nI (li zz)))), (aQ, .inl (cQ, 262144, .inl (fun zz => nI (sl zz)))), (o, .inr (1, [.ref a, .int (nI n)])), (a, .inl (cB, N, .inl (f)))] sz (fun (u : Nat × Nat × Nat × Nat × Nat × Nat × Nat × (Nat → Nat) × (Nat → Nat) × (Nat → Nat) × (Nat → Nat) × (Nat → Nat) × (Nat → Nat) × (Nat → Nat)) => tG f n N u.1 u.2.1 u.2.2.1 u.2.2.2.2.2.2.1 u.2.2.2.2.2.2.2.1 u.2.2.2.2.2.2.2.2.1 u.2.2.2.2.2.2.2.2.2.1 u.2.2.2.2.2.2.2.2.2.2.2.1 u.2.2.2.2.2.2.2.2.2.2.2.2.1 u.2.2.2.2.2.2.2.2.2.2.2.2.2 ∧ tr_W f n u.2.2.2.2.2.2.1) (fun u => [(t0, .inr (2, [.ref a, .int (nI n), .ref aS, .ref aE, .ref aP, .ref aL, .int (nI u.2.2.1), .ref aQ, .int (nI u.1), .int (nI u.2.1), .int (nI u.2.2.2.1), .int (nI u.2.2.2.2.1), .int (nI u.2.2.2.2.2.1), .int (nI fl), .int fp])), (aS, .inl (cS, 131072, .inl (fun zz => nI (u.2.2.2.2.2.2.2.1 zz)))), (aE, .inl (cE, 131072, .inl (fun zz => nI (u.2.2.2.2.2.2.2.2.1 zz)))), (aP, .inl (cP, 131072, .inl (fun zz => nI (u.2.2.2.2.2.2.2.2.2.1 zz)))), (aL, .inl (cL, 131072, .inl (fun zz => nI (u.2.2.2.2.2.2.2.2.2.2.1 zz)))), (aQ, .inl (cQ, 262144, .inl (fun zz => nI (u.2.2.2.2.2.2.2.2.2.2.2.1 zz)))), (o, .inr (1, [.ref a, .int (nI n)])), (a, .inl (cB, N, .inl (f)))]) := by
  refine zEv (by decide) (Nat.le_of_ble_eq_true rfl) (fun p e s m args below meth c ls A Q X hin hl h hsz ret => ?_)
  have hl : lv_has ls 3 [(0, .ref t0), (1, .ref o)] := hl
  generalize hH0 : s.heap = H at h ⊢
  have h : zH D A s [(t0, .inr (2, [.ref tb, .int (nI n0), .ref aS, .ref aE, .ref aP, .ref aL, .int (nI nd), .ref aQ, .int (nI M), .int (nI sh), .int (nI an), .int (nI L), .int (nI wt), .int (nI fl), .int fp])), (aS, .inl (cS, 131072, .inl (fun zz => nI (st zz)))), (aE, .inl (cE, 131072, .inl (fun zz => nI (en zz)))), (aP, .inl (cP, 131072, .inl (fun zz => nI (pa zz)))), (aL, .inl (cL, 131072, .inl (fun zz => nI (li zz)))), (aQ, .inl (cQ, 262144, .inl (fun zz => nI (sl zz)))), (o, .inr (1, [.ref a, .int (nI n)])), (a, .inl (cB, N, .inl (f)))] H [] := h
  generalize hL0 : ([] : List Loc) = locs at h ⊢
  refine lv_aload_n X.1.1 X.1.2.1 zd_Su_grow_0 rfl (lv_at hl 0 rfl) ?_
  refine lv_aload_n X.1.1 X.1.2.1 zd_Su_grow_1 rfl (lv_at hl 1 rfl) ?_
  refine rCr (wr := [(t0, .inr (2, [.ref tb, .int (nI n0), .ref aS, .ref aE, .ref aP, .ref aL, .int (nI nd), .ref aQ, .int (nI M), .int (nI sh), .int (nI an), .int (nI L), .int (nI wt), .int (nI fl), .int fp])), (aS, .inl (cS, 131072, .inl (fun zz => nI (st zz)))), (aE, .inl (cE, 131072, .inl (fun zz => nI (en zz)))), (aP, .inl (cP, 131072, .inl (fun zz => nI (pa zz)))), (aL, .inl (cL, 131072, .inl (fun zz => nI (li zz)))), (aQ, .inl (cQ, 262144, .inl (fun zz => nI (sl zz))))]) (wf := [(t0, .inr (2, [.ref tb, .int (nI n0), .ref aS, .ref aE, .ref aP, .ref aL, .int (nI nd), .ref aQ, .int (nI M), .int (nI sh), .int (nI an), .int (nI L), .int (nI wt), .int (nI fl), .int fp])), (aS, .inl (cS, 131072, .inl (fun zz => nI (st zz)))), (aE, .inl (cE, 131072, .inl (fun zz => nI (en zz)))), (aP, .inl (cP, 131072, .inl (fun zz => nI (pa zz)))), (aL, .inl (cL, 131072, .inl (fun zz => nI (li zz)))), (aQ, .inl (cQ, 262144, .inl (fun zz => nI (sl zz)))), (o, .inr (1, [.ref a, .int (nI n)])), (a, .inl (cB, N, .inl (f)))]) (rest := [.ref t0]) X h hl.1 (zc_Tx_row l D (o := o) (a := a) (n := n) (N := N) (f := f) (cB := cB)  H.size) zw_168 zw_169 zw_170 zw_2 zm_Tx_row zq_Tx_row ⟨Nat.le_of_ble_eq_true rfl, Nat.le_of_ble_eq_true rfl⟩ ⟨Nat.le_of_ble_eq_true rfl, Nat.le_of_ble_eq_true rfl⟩ [5] rfl [6, 7] [0, 1, 2, 3, 4, 5] [0, 1, 2, 3, 4, 5, 6, 7] rfl (by decide) rfl (by decide) (by decide) rfl (by decide) 0 rfl rfl rfl (Nat.le_of_ble_eq_true rfl) zd_Su_grow_2 (fun H locs h => ?_)
  have h : zH D A s [(t0, .inr (2, [.ref tb, .int (nI n0), .ref aS, .ref aE, .ref aP, .ref aL, .int (nI nd), .ref aQ, .int (nI M), .int (nI sh), .int (nI an), .int (nI L), .int (nI wt), .int (nI fl), .int fp])), (aS, .inl (cS, 131072, .inl (fun zz => nI (st zz)))), (aE, .inl (cE, 131072, .inl (fun zz => nI (en zz)))), (aP, .inl (cP, 131072, .inl (fun zz => nI (pa zz)))), (aL, .inl (cL, 131072, .inl (fun zz => nI (li zz)))), (aQ, .inl (cQ, 262144, .inl (fun zz => nI (sl zz)))), (o, .inr (1, [.ref a, .int (nI n)])), (a, .inl (cB, N, .inl (f)))] H locs := h
  refine rP X h 0 rfl rfl zW_Su zO_Su zN_Su 0 (by decide) zw_48 rfl (rfl) (rfl) (Nat.le_of_ble_eq_true rfl) zd_Su_grow_5 (fun H locs h => ?_)
  have h : zH D A s [(t0, .inr (2, [.ref a, .int (nI n0), .ref aS, .ref aE, .ref aP, .ref aL, .int (nI nd), .ref aQ, .int (nI M), .int (nI sh), .int (nI an), .int (nI L), .int (nI wt), .int (nI fl), .int fp])), (aS, .inl (cS, 131072, .inl (fun zz => nI (st zz)))), (aE, .inl (cE, 131072, .inl (fun zz => nI (en zz)))), (aP, .inl (cP, 131072, .inl (fun zz => nI (pa zz)))), (aL, .inl (cL, 131072, .inl (fun zz => nI (li zz)))), (aQ, .inl (cQ, 262144, .inl (fun zz => nI (sl zz)))), (o, .inr (1, [.ref a, .int (nI n)])), (a, .inl (cB, N, .inl (f)))] H locs := h
  refine lv_aload_n X.1.1 X.1.2.1 zd_Su_grow_8 rfl (lv_at hl 0 rfl) ?_
  refine lv_aload_n X.1.1 X.1.2.1 zd_Su_grow_9 rfl (lv_at hl 1 rfl) ?_
  refine rCi (wr := [(t0, .inr (2, [.ref a, .int (nI n0), .ref aS, .ref aE, .ref aP, .ref aL, .int (nI nd), .ref aQ, .int (nI M), .int (nI sh), .int (nI an), .int (nI L), .int (nI wt), .int (nI fl), .int fp])), (aS, .inl (cS, 131072, .inl (fun zz => nI (st zz)))), (aE, .inl (cE, 131072, .inl (fun zz => nI (en zz)))), (aP, .inl (cP, 131072, .inl (fun zz => nI (pa zz)))), (aL, .inl (cL, 131072, .inl (fun zz => nI (li zz)))), (aQ, .inl (cQ, 262144, .inl (fun zz => nI (sl zz))))]) (wf := fun _ => [(t0, .inr (2, [.ref a, .int (nI n0), .ref aS, .ref aE, .ref aP, .ref aL, .int (nI nd), .ref aQ, .int (nI M), .int (nI sh), .int (nI an), .int (nI L), .int (nI wt), .int (nI fl), .int fp])), (aS, .inl (cS, 131072, .inl (fun zz => nI (st zz)))), (aE, .inl (cE, 131072, .inl (fun zz => nI (en zz)))), (aP, .inl (cP, 131072, .inl (fun zz => nI (pa zz)))), (aL, .inl (cL, 131072, .inl (fun zz => nI (li zz)))), (aQ, .inl (cQ, 262144, .inl (fun zz => nI (sl zz)))), (o, .inr (1, [.ref a, .int (nI n)])), (a, .inl (cB, N, .inl (f)))]) (rest := [.ref t0]) X h hl.1 (zc_Tx_size l D (o := o) (a := a) (n := n) (N := N) (f := f) (cB := cB)  H.size) zw_172 zw_145 zw_146 zw_2 zm_Tx_size zq_Tx_size ⟨Nat.le_of_ble_eq_true rfl, Nat.le_of_ble_eq_true rfl⟩ ⟨Nat.le_of_ble_eq_true rfl, Nat.le_of_ble_eq_true rfl⟩ [5] rfl [6, 7] [0, 1, 2, 3, 4, 5] [0, 1, 2, 3, 4, 5, 6, 7] rfl (by decide) rfl (by decide) (by decide) (fun _ => rfl) (by decide) 0 rfl rfl rfl (Nat.le_of_ble_eq_true rfl) zd_Su_grow_10 (fun r _ H locs hp h => ?_)
  obtain ⟨rfl, -⟩ := hp
  have h : zH D A s [(t0, .inr (2, [.ref a, .int (nI n0), .ref aS, .ref aE, .ref aP, .ref aL, .int (nI nd), .ref aQ, .int (nI M), .int (nI sh), .int (nI an), .int (nI L), .int (nI wt), .int (nI fl), .int fp])), (aS, .inl (cS, 131072, .inl (fun zz => nI (st zz)))), (aE, .inl (cE, 131072, .inl (fun zz => nI (en zz)))), (aP, .inl (cP, 131072, .inl (fun zz => nI (pa zz)))), (aL, .inl (cL, 131072, .inl (fun zz => nI (li zz)))), (aQ, .inl (cQ, 262144, .inl (fun zz => nI (sl zz)))), (o, .inr (1, [.ref a, .int (nI n)])), (a, .inl (cB, N, .inl (f)))] H locs := h
  refine rP X h 0 rfl rfl zW_Su zO_Su zN_Su 1 (by decide) zw_49 rfl (rfl) (rfl) (Nat.le_of_ble_eq_true rfl) zd_Su_grow_13 (fun H locs h => ?_)
  have h : zH D A s [(t0, .inr (2, [.ref a, .int (nI n), .ref aS, .ref aE, .ref aP, .ref aL, .int (nI nd), .ref aQ, .int (nI M), .int (nI sh), .int (nI an), .int (nI L), .int (nI wt), .int (nI fl), .int fp])), (aS, .inl (cS, 131072, .inl (fun zz => nI (st zz)))), (aE, .inl (cE, 131072, .inl (fun zz => nI (en zz)))), (aP, .inl (cP, 131072, .inl (fun zz => nI (pa zz)))), (aL, .inl (cL, 131072, .inl (fun zz => nI (li zz)))), (aQ, .inl (cQ, 262144, .inl (fun zz => nI (sl zz)))), (o, .inr (1, [.ref a, .int (nI n)])), (a, .inl (cB, N, .inl (f)))] H locs := h
  refine lv_aload_n X.1.1 X.1.2.1 zd_Su_grow_16 rfl (lv_at hl 0 rfl) ?_
  refine rCv (wr := [(o, .inr (1, [.ref a, .int (nI n)]))]) (wf := fun u => [(t0, .inr (2, [.ref a, .int (nI n), .ref aS, .ref aE, .ref aP, .ref aL, .int (nI nd), .ref aQ, .int (nI (2 ^ u.1)), .int (nI (32 - u.1)), .int (nI an), .int (nI L), .int (nI wt), .int (nI fl), .int fp])), (aS, .inl (cS, 131072, .inl (fun zz => nI (st zz)))), (aE, .inl (cE, 131072, .inl (fun zz => nI (en zz)))), (aP, .inl (cP, 131072, .inl (fun zz => nI (pa zz)))), (aL, .inl (cL, 131072, .inl (fun zz => nI (li zz)))), (aQ, .inl (cQ, 262144, .inl (fun zz => nI (u.2 zz)))), (o, .inr (1, [.ref a, .int (nI n)])), (a, .inl (cB, N, .inl (f)))]) (rest := []) X h hl.1 (zc_Su_emptySlots l D (t0 := t0) (ta := a) (n := n) (aS := aS) (aE := aE) (aP := aP) (aL := aL) (nd := nd) (aQ := aQ) (M := M) (sh := sh) (an := an) (L := L) (wt := wt) (fl := fl) (fp := fp) (st := st) (cS := cS) (en := en) (cE := cE) (pa := pa) (cP := cP) (li := li) (cL := cL) (sl := sl) (cQ := cQ) (T := f) (cB := cB) (NB := N) (hn) H.size) zw_173 zw_175 zs_1 zw_3 zm_Su_emptySlots zq_Su_emptySlots ⟨Nat.le_of_ble_eq_true rfl, Nat.le_of_ble_eq_true rfl⟩ ⟨Nat.le_of_ble_eq_true rfl, Nat.le_of_ble_eq_true rfl⟩ [0, 1, 2, 3, 4, 5] rfl [0, 1, 2, 3, 4, 5, 7] [6] [1, 2, 3, 4, 5, 6, 0, 7] rfl (by decide) rfl (by decide) (by decide) (fun _ => rfl) (by decide) 0 rfl rfl rfl (Nat.le_of_ble_eq_true rfl) zd_Su_grow_17 (fun u H locs hp h => ?_)
  have q1 : 3 ≤ u.1 ∧ u.1 ≤ 18 ∧ 4 * n ≤ 2 ^ u.1 ∧ ∀ i, i < 2 ^ u.1 → u.2 i = 0 := hp
  have h : zH D A s [(t0, .inr (2, [.ref a, .int (nI n), .ref aS, .ref aE, .ref aP, .ref aL, .int (nI nd), .ref aQ, .int (nI (2 ^ u.1)), .int (nI (32 - u.1)), .int (nI an), .int (nI L), .int (nI wt), .int (nI fl), .int fp])), (aS, .inl (cS, 131072, .inl (fun zz => nI (st zz)))), (aE, .inl (cE, 131072, .inl (fun zz => nI (en zz)))), (aP, .inl (cP, 131072, .inl (fun zz => nI (pa zz)))), (aL, .inl (cL, 131072, .inl (fun zz => nI (li zz)))), (aQ, .inl (cQ, 262144, .inl (fun zz => nI (u.2 zz)))), (o, .inr (1, [.ref a, .int (nI n)])), (a, .inl (cB, N, .inl (f)))] H locs := h
  obtain ⟨b, sl0⟩ := u
  have h : zH D A s [(t0, .inr (2, [.ref a, .int (nI n), .ref aS, .ref aE, .ref aP, .ref aL, .int (nI nd), .ref aQ, .int (nI (2 ^ b)), .int (nI (32 - b)), .int (nI an), .int (nI L), .int (nI wt), .int (nI fl), .int fp])), (aS, .inl (cS, 131072, .inl (fun zz => nI (st zz)))), (aE, .inl (cE, 131072, .inl (fun zz => nI (en zz)))), (aP, .inl (cP, 131072, .inl (fun zz => nI (pa zz)))), (aL, .inl (cL, 131072, .inl (fun zz => nI (li zz)))), (aQ, .inl (cQ, 262144, .inl (fun zz => nI (sl0 zz)))), (o, .inr (1, [.ref a, .int (nI n)])), (a, .inl (cB, N, .inl (f)))] H locs := h
  have q1 : 3 ≤ b ∧ b ≤ 18 ∧ 4 * n ≤ 2 ^ b ∧ ∀ i, i < 2 ^ b → sl0 i = 0 := q1
  obtain ⟨b1, b2, b3, b4⟩ := q1
  refine lv_aload_n X.1.1 X.1.2.1 zd_Su_grow_20 rfl (lv_at hl 0 rfl) ?_
  refine lv_iconst (v := nI 1) X.1.1 X.1.2.1 zd_Su_grow_21 (by decide) ?_
  refine rP X h 0 rfl rfl zW_Su zO_Su zN_Su 6 (by decide) zw_54 rfl (rfl) (rfl) (Nat.le_of_ble_eq_true rfl) zd_Su_grow_22 (fun H locs h => ?_)
  have h : zH D A s [(t0, .inr (2, [.ref a, .int (nI n), .ref aS, .ref aE, .ref aP, .ref aL, .int (nI 1), .ref aQ, .int (nI (2 ^ b)), .int (nI (32 - b)), .int (nI an), .int (nI L), .int (nI wt), .int (nI fl), .int fp])), (aS, .inl (cS, 131072, .inl (fun zz => nI (st zz)))), (aE, .inl (cE, 131072, .inl (fun zz => nI (en zz)))), (aP, .inl (cP, 131072, .inl (fun zz => nI (pa zz)))), (aL, .inl (cL, 131072, .inl (fun zz => nI (li zz)))), (aQ, .inl (cQ, 262144, .inl (fun zz => nI (sl0 zz)))), (o, .inr (1, [.ref a, .int (nI n)])), (a, .inl (cB, N, .inl (f)))] H locs := h
  refine lv_aload_n X.1.1 X.1.2.1 zd_Su_grow_25 rfl (lv_at hl 0 rfl) ?_
  refine lv_iconst (v := nI 0) X.1.1 X.1.2.1 zd_Su_grow_26 (by decide) ?_
  refine rP X h 0 rfl rfl zW_Su zO_Su zN_Su 10 (by decide) zw_58 rfl (rfl) (rfl) (Nat.le_of_ble_eq_true rfl) zd_Su_grow_27 (fun H locs h => ?_)
  have h : zH D A s [(t0, .inr (2, [.ref a, .int (nI n), .ref aS, .ref aE, .ref aP, .ref aL, .int (nI 1), .ref aQ, .int (nI (2 ^ b)), .int (nI (32 - b)), .int (nI 0), .int (nI L), .int (nI wt), .int (nI fl), .int fp])), (aS, .inl (cS, 131072, .inl (fun zz => nI (st zz)))), (aE, .inl (cE, 131072, .inl (fun zz => nI (en zz)))), (aP, .inl (cP, 131072, .inl (fun zz => nI (pa zz)))), (aL, .inl (cL, 131072, .inl (fun zz => nI (li zz)))), (aQ, .inl (cQ, 262144, .inl (fun zz => nI (sl0 zz)))), (o, .inr (1, [.ref a, .int (nI n)])), (a, .inl (cB, N, .inl (f)))] H locs := h
  refine lv_aload_n X.1.1 X.1.2.1 zd_Su_grow_30 rfl (lv_at hl 0 rfl) ?_
  refine lv_iconst (v := nI 0) X.1.1 X.1.2.1 zd_Su_grow_31 (by decide) ?_
  refine rP X h 0 rfl rfl zW_Su zO_Su zN_Su 11 (by decide) zw_59 rfl (rfl) (rfl) (Nat.le_of_ble_eq_true rfl) zd_Su_grow_32 (fun H locs h => ?_)
  have h : zH D A s [(t0, .inr (2, [.ref a, .int (nI n), .ref aS, .ref aE, .ref aP, .ref aL, .int (nI 1), .ref aQ, .int (nI (2 ^ b)), .int (nI (32 - b)), .int (nI 0), .int (nI 0), .int (nI wt), .int (nI fl), .int fp])), (aS, .inl (cS, 131072, .inl (fun zz => nI (st zz)))), (aE, .inl (cE, 131072, .inl (fun zz => nI (en zz)))), (aP, .inl (cP, 131072, .inl (fun zz => nI (pa zz)))), (aL, .inl (cL, 131072, .inl (fun zz => nI (li zz)))), (aQ, .inl (cQ, 262144, .inl (fun zz => nI (sl0 zz)))), (o, .inr (1, [.ref a, .int (nI n)])), (a, .inl (cB, N, .inl (f)))] H locs := h
  refine lv_aload_n X.1.1 X.1.2.1 zd_Su_grow_35 rfl (lv_at hl 0 rfl) ?_
  refine lv_iconst (v := nI 0) X.1.1 X.1.2.1 zd_Su_grow_36 (by decide) ?_
  refine rP X h 0 rfl rfl zW_Su zO_Su zN_Su 12 (by decide) zw_60 rfl (rfl) (rfl) (Nat.le_of_ble_eq_true rfl) zd_Su_grow_37 (fun H locs h => ?_)
  have h : zH D A s [(t0, .inr (2, [.ref a, .int (nI n), .ref aS, .ref aE, .ref aP, .ref aL, .int (nI 1), .ref aQ, .int (nI (2 ^ b)), .int (nI (32 - b)), .int (nI 0), .int (nI 0), .int (nI 0), .int (nI fl), .int fp])), (aS, .inl (cS, 131072, .inl (fun zz => nI (st zz)))), (aE, .inl (cE, 131072, .inl (fun zz => nI (en zz)))), (aP, .inl (cP, 131072, .inl (fun zz => nI (pa zz)))), (aL, .inl (cL, 131072, .inl (fun zz => nI (li zz)))), (aQ, .inl (cQ, 262144, .inl (fun zz => nI (sl0 zz)))), (o, .inr (1, [.ref a, .int (nI n)])), (a, .inl (cB, N, .inl (f)))] H locs := h
  refine lv_iconst (v := nI 0) X.1.1 X.1.2.1 zd_Su_grow_40 (by decide) ?_
  refine lv_istore_n X.1.1 X.1.2.1 zd_Su_grow_41 rfl hl (by decide) rfl (fun ls hl => ?_)
  have hl : lv_has ls 3 [(2, .int (nI 0)), (0, .ref t0), (1, .ref o)] := hl
  have loop : ∀ (fu : Nat) (i : Nat) (j1 : Nat) (nd1 : Nat) (an1 : Nat) (L1 : Nat) (wt1 : Nat) (st1 : Nat → Nat) (en1 : Nat → Nat) (pa1 : Nat → Nat) (li1 : Nat → Nat) (sl1 : Nat → Nat) (ps1 : Nat → Nat) (dp1 : Nat → Nat) (ls : Array Slot) (H : Heap) (locs : List Loc), n - i < fu → i ≤ n → tG f n N (2 ^ b) (32 - b) nd1 j1 st1 en1 pa1 sl1 ps1 dp1 → tr_L f n nd1 0 0 ps1 dp1 li1 → tr_A f nd1 j1 i an1 L1 ps1 dp1 → wt1 = i - j1 → j1 ≤ i → lv_has ls 3 [(0, .ref t0), (1, .ref o), (2, .int (nI i))] → zH D A s [(t0, .inr (2, [.ref a, .int (nI n), .ref aS, .ref aE, .ref aP, .ref aL, .int (nI nd1), .ref aQ, .int (nI (2 ^ b)), .int (nI (32 - b)), .int (nI an1), .int (nI L1), .int (nI wt1), .int (nI fl), .int fp])), (aS, .inl (cS, 131072, .inl (fun zz => nI (st1 zz)))), (aE, .inl (cE, 131072, .inl (fun zz => nI (en1 zz)))), (aP, .inl (cP, 131072, .inl (fun zz => nI (pa1 zz)))), (aL, .inl (cL, 131072, .inl (fun zz => nI (li1 zz)))), (aQ, .inl (cQ, 262144, .inl (fun zz => nI (sl1 zz)))), (o, .inr (1, [.ref a, .int (nI n)])), (a, .inl (cB, N, .inl (f)))] H locs → W p l e ({ frames := 3, cells := 0, slots := 0, locals := 76 } : Room) s m args below meth c H locs 0 0 Q (F0 m 42 ls []) := by
    intro fu
    induction fu with
    | zero => intro i j1 nd1 an1 L1 wt1 st1 en1 pa1 li1 sl1 ps1 dp1 ls H locs hfu; exact absurd hfu (Nat.not_lt_zero _)
    | succ fu ih =>
      intro i j1 nd1 an1 L1 wt1 st1 en1 pa1 li1 sl1 ps1 dp1 ls H locs hfu hi hG hL hA hw hj hl h
      refine lv_iload_n X.1.1 X.1.2.1 zd_Su_grow_42 rfl (lv_at hl 2 rfl) ?_
      refine lv_aload_n X.1.1 X.1.2.1 zd_Su_grow_43 rfl (lv_at hl 0 rfl) ?_
      refine rG X h 0 rfl rfl zW_Su 1 (by decide) zw_49 rfl zd_Su_grow_44 ?_
      refine lv_icmp_ge (tgt := 61) X.1.1 X.1.2.1 zd_Su_grow_47 rfl (fun c1 => ?_) (fun c1 => ?_)
      · have c1 : n ≤ i := zc_ge_t (by omega) (by omega) c1
        have ei : i = n := by omega
        subst ei
        exact ret (2 ^ b, 32 - b, nd1, an1, L1, wt1, j1, st1, en1, pa1, li1, sl1, ps1, dp1) H locs ls _ (⟨hG, hA.2.2.2⟩) h zd_Su_grow_61
      · have c1 : i < n := zc_ge_f (by omega) (by omega) c1
        refine lv_aload_n X.1.1 X.1.2.1 zd_Su_grow_50 rfl (lv_at hl 0 rfl) ?_
        refine lv_iload_n X.1.1 X.1.2.1 zd_Su_grow_51 rfl (lv_at hl 2 rfl) ?_
        refine rCv (wr := [(o, .inr (1, [.ref a, .int (nI n)]))]) (wf := fun v => [(t0, .inr (2, [.ref a, .int (nI n), .ref aS, .ref aE, .ref aP, .ref aL, .int (nI v.1), .ref aQ, .int (nI (2 ^ b)), .int (nI (32 - b)), .int (nI v.2.1), .int (nI v.2.2.1), .int (nI v.2.2.2.1), .int (nI fl), .int fp])), (aS, .inl (cS, 131072, .inl (fun zz => nI (v.2.2.2.2.2.1 zz)))), (aE, .inl (cE, 131072, .inl (fun zz => nI (v.2.2.2.2.2.2.1 zz)))), (aP, .inl (cP, 131072, .inl (fun zz => nI (v.2.2.2.2.2.2.2.1 zz)))), (aL, .inl (cL, 131072, .inl (fun zz => nI (v.2.2.2.2.2.2.2.2.1 zz)))), (aQ, .inl (cQ, 262144, .inl (fun zz => nI (v.2.2.2.2.2.2.2.2.2.1 zz)))), (o, .inr (1, [.ref a, .int (nI n)])), (a, .inl (cB, N, .inl (f)))]) (rest := []) X h hl.1 (zc_Su_addLetter l D (t0 := t0) (ta := a) (n := n) (aS := aS) (aE := aE) (aP := aP) (aL := aL) (nd := nd1) (aQ := aQ) (M := 2 ^ b) (sh := 32 - b) (an := an1) (L := L1) (wt := wt1) (fl := fl) (fp := fp) (st := st1) (cS := cS) (en := en1) (cE := cE) (pa := pa1) (cP := cP) (li := li1) (cL := cL) (sl := sl1) (cQ := cQ) (T := f) (cB := cB) (NB := N) (pl := i) (j := j1) (ps := ps1) (dp := dp1) (hG) (hL) (hA) (hw) (hj) (c1) H.size) zw_194 zw_196 zs_2 zw_3 zm_Su_addLetter zq_Su_addLetter ⟨Nat.le_of_ble_eq_true rfl, Nat.le_of_ble_eq_true rfl⟩ ⟨Nat.le_of_ble_eq_true rfl, Nat.le_of_ble_eq_true rfl⟩ [0, 1, 2, 3, 4, 5] rfl [0, 1, 2, 3, 4, 5, 7] [6] [1, 2, 3, 4, 5, 6, 0, 7] rfl (by decide) rfl (by decide) (by decide) (fun _ => rfl) (by decide) 0 rfl rfl rfl (Nat.le_of_ble_eq_true rfl) zd_Su_grow_52 (fun v H locs hp h => ?_)
        have q2 : tG f n N (2 ^ b) (32 - b) v.1 v.2.2.2.2.1 v.2.2.2.2.2.1 v.2.2.2.2.2.2.1 v.2.2.2.2.2.2.2.1 v.2.2.2.2.2.2.2.2.2.1 v.2.2.2.2.2.2.2.2.2.2.1 v.2.2.2.2.2.2.2.2.2.2.2 ∧ tr_L f n v.1 0 0 v.2.2.2.2.2.2.2.2.2.2.1 v.2.2.2.2.2.2.2.2.2.2.2 v.2.2.2.2.2.2.2.2.1 ∧ tr_A f v.1 v.2.2.2.2.1 (i + 1) v.2.1 v.2.2.1 v.2.2.2.2.2.2.2.2.2.2.1 v.2.2.2.2.2.2.2.2.2.2.2 ∧ v.2.2.2.1 = i + 1 - v.2.2.2.2.1 ∧ v.2.2.2.2.1 ≤ i + 1 := hp
        have h : zH D A s [(t0, .inr (2, [.ref a, .int (nI n), .ref aS, .ref aE, .ref aP, .ref aL, .int (nI v.1), .ref aQ, .int (nI (2 ^ b)), .int (nI (32 - b)), .int (nI v.2.1), .int (nI v.2.2.1), .int (nI v.2.2.2.1), .int (nI fl), .int fp])), (aS, .inl (cS, 131072, .inl (fun zz => nI (v.2.2.2.2.2.1 zz)))), (aE, .inl (cE, 131072, .inl (fun zz => nI (v.2.2.2.2.2.2.1 zz)))), (aP, .inl (cP, 131072, .inl (fun zz => nI (v.2.2.2.2.2.2.2.1 zz)))), (aL, .inl (cL, 131072, .inl (fun zz => nI (v.2.2.2.2.2.2.2.2.1 zz)))), (aQ, .inl (cQ, 262144, .inl (fun zz => nI (v.2.2.2.2.2.2.2.2.2.1 zz)))), (o, .inr (1, [.ref a, .int (nI n)])), (a, .inl (cB, N, .inl (f)))] H locs := h
        obtain ⟨nd2, an2, L2, wt2, j2, st2, en2, pa2, li2, sl2, ps2, dp2⟩ := v
        have h : zH D A s [(t0, .inr (2, [.ref a, .int (nI n), .ref aS, .ref aE, .ref aP, .ref aL, .int (nI nd2), .ref aQ, .int (nI (2 ^ b)), .int (nI (32 - b)), .int (nI an2), .int (nI L2), .int (nI wt2), .int (nI fl), .int fp])), (aS, .inl (cS, 131072, .inl (fun zz => nI (st2 zz)))), (aE, .inl (cE, 131072, .inl (fun zz => nI (en2 zz)))), (aP, .inl (cP, 131072, .inl (fun zz => nI (pa2 zz)))), (aL, .inl (cL, 131072, .inl (fun zz => nI (li2 zz)))), (aQ, .inl (cQ, 262144, .inl (fun zz => nI (sl2 zz)))), (o, .inr (1, [.ref a, .int (nI n)])), (a, .inl (cB, N, .inl (f)))] H locs := h
        obtain ⟨e1, e2, e3, e4, e5⟩ := q2
        refine lv_iinc X.1.1 X.1.2.1 zd_Su_grow_55 hl (k := 2) rfl (v := nI (i + 1)) (nI_add _ _) (by decide) rfl (fun ls hl => ?_)
        have hl : lv_has ls 3 [(2, .int (nI (i + 1))), (0, .ref t0), (1, .ref o)] := hl
        refine lv_goto (tgt := 42) X.1.1 X.1.2.1 zd_Su_grow_58 rfl ?_
        exact ih (i + 1) j2 nd2 an2 L2 wt2 st2 en2 pa2 li2 sl2 ps2 dp2 ls H locs (by omega) (by omega) (e1) (e2) (e3) (e4) (e5) (lv_sub hl [1, 2, 0] rfl) h
  exact loop _ 0 0 1 0 0 0 st en pa li sl0 (fun _ => 0) (fun _ => 0) ls H locs (Nat.lt_succ_self _) (Nat.zero_le _) (tG_0 hN hnN hn b1 b2 b3 b4) (tr_L0) (tr_A0) (rfl) (Nat.le_refl _) (lv_sub hl [1, 2, 0] rfl) h

set_option maxHeartbeats 4000000 in
set_option maxRecDepth 100000 in
theorem zc_Su_sameLetters (l : Launch) (D : va_G) {t0 ta n aS aE aP aL nd aQ M sh an L wt fl NB : Nat} {fp : Int32} {st en pa li sl : Nat → Nat} {T : Nat → Int32} {cS cE cP cL cQ cB : ClassId} {pl fr mo : Nat} {ar NR : Nat} {R : Nat → Int32} {cR : ClassId} (h1 : pl + mo ≤ NB) (h2 : fr + mo ≤ NR) (hNB : NB < 2 ^ 30) (hNR : NR < 2 ^ 30) (sz : Nat) : zMi l D zy_Su_sameLetters zb_Su_sameLetters 6 .int ({ frames := 0, cells := 0, slots := 0, locals := 0 } : Room) [.ref t0, .int (nI pl), .ref ar, .int (nI fr), .int (nI mo)] [(cS, .int), (cE, .int), (cP, .int), (cL, .int), (cQ, .int), (cB, .byte), (cR, .byte)] [(t0, .inr (2, [.ref ta, .int (nI n), .ref aS, .ref aE, .ref aP, .ref aL, .int (nI nd), .ref aQ, .int (nI M), .int (nI sh), .int (nI an), .int (nI L), .int (nI wt), .int (nI fl), .int fp])), (aS, .inl (cS, 131072, .inl (fun zz => nI (st zz)))), (aE, .inl (cE, 131072, .inl (fun zz => nI (en zz)))), (aP, .inl (cP, 131072, .inl (fun zz => nI (pa zz)))), (aL, .inl (cL, 131072, .inl (fun zz => nI (li zz)))), (aQ, .inl (cQ, 262144, .inl (fun zz => nI (sl zz)))), (ta, .inl (cB, NB, .inl (T))), (ar, .inl (cR, NR, .inl (R)))] sz (fun (r : Int32) (u : Nat) => r = nI u ∧ u ≤ mo ∧ (∀ i, i < u → T (pl + i) = R (fr + i)) ∧ (u < mo → T (pl + u) ≠ R (fr + u))) (fun u => [(t0, .inr (2, [.ref ta, .int (nI n), .ref aS, .ref aE, .ref aP, .ref aL, .int (nI nd), .ref aQ, .int (nI M), .int (nI sh), .int (nI an), .int (nI L), .int (nI wt), .int (nI fl), .int fp])), (aS, .inl (cS, 131072, .inl (fun zz => nI (st zz)))), (aE, .inl (cE, 131072, .inl (fun zz => nI (en zz)))), (aP, .inl (cP, 131072, .inl (fun zz => nI (pa zz)))), (aL, .inl (cL, 131072, .inl (fun zz => nI (li zz)))), (aQ, .inl (cQ, 262144, .inl (fun zz => nI (sl zz)))), (ta, .inl (cB, NB, .inl (T))), (ar, .inl (cR, NR, .inl (R)))]) := by
  refine zEi (by decide) (Nat.le_of_ble_eq_true rfl) (fun p e s m args below meth c ls A Q X hl h hsz ret => ?_)
  have hl : lv_has ls 6 [(0, .ref t0), (1, .int (nI pl)), (2, .ref ar), (3, .int (nI fr)), (4, .int (nI mo))] := hl
  generalize hH0 : s.heap = H at h ⊢
  have h : zH D A s [(t0, .inr (2, [.ref ta, .int (nI n), .ref aS, .ref aE, .ref aP, .ref aL, .int (nI nd), .ref aQ, .int (nI M), .int (nI sh), .int (nI an), .int (nI L), .int (nI wt), .int (nI fl), .int fp])), (aS, .inl (cS, 131072, .inl (fun zz => nI (st zz)))), (aE, .inl (cE, 131072, .inl (fun zz => nI (en zz)))), (aP, .inl (cP, 131072, .inl (fun zz => nI (pa zz)))), (aL, .inl (cL, 131072, .inl (fun zz => nI (li zz)))), (aQ, .inl (cQ, 262144, .inl (fun zz => nI (sl zz)))), (ta, .inl (cB, NB, .inl (T))), (ar, .inl (cR, NR, .inl (R)))] H [] := h
  generalize hL0 : ([] : List Loc) = locs at h ⊢
  refine lv_iconst (v := nI 0) X.1.1 X.1.2.1 zd_Su_sameLetters_0 (by decide) ?_
  refine lv_istore X.1.1 X.1.2.1 zd_Su_sameLetters_1 hl (by decide) rfl (fun ls hl => ?_)
  have hl : lv_has ls 6 [(5, .int (nI 0)), (0, .ref t0), (1, .int (nI pl)), (2, .ref ar), (3, .int (nI fr)), (4, .int (nI mo))] := hl
  have loop : ∀ (fu : Nat) (k : Nat) (ls : Array Slot) (H : Heap) (locs : List Loc), mo - k < fu → k ≤ mo → (∀ i, i < k → T (pl + i) = R (fr + i)) → lv_has ls 6 [(0, .ref t0), (1, .int (nI pl)), (2, .ref ar), (3, .int (nI fr)), (4, .int (nI mo)), (5, .int (nI k))] → zH D A s [(t0, .inr (2, [.ref ta, .int (nI n), .ref aS, .ref aE, .ref aP, .ref aL, .int (nI nd), .ref aQ, .int (nI M), .int (nI sh), .int (nI an), .int (nI L), .int (nI wt), .int (nI fl), .int fp])), (aS, .inl (cS, 131072, .inl (fun zz => nI (st zz)))), (aE, .inl (cE, 131072, .inl (fun zz => nI (en zz)))), (aP, .inl (cP, 131072, .inl (fun zz => nI (pa zz)))), (aL, .inl (cL, 131072, .inl (fun zz => nI (li zz)))), (aQ, .inl (cQ, 262144, .inl (fun zz => nI (sl zz)))), (ta, .inl (cB, NB, .inl (T))), (ar, .inl (cR, NR, .inl (R)))] H locs → W p l e ({ frames := 0, cells := 0, slots := 0, locals := 0 } : Room) s m args below meth c H locs 0 0 Q (F0 m 3 ls []) := by
    intro fu
    induction fu with
    | zero => intro k ls H locs hfu; exact absurd hfu (Nat.not_lt_zero _)
    | succ fu ih =>
      intro k ls H locs hfu hk hs hl h
      refine lv_iload X.1.1 X.1.2.1 zd_Su_sameLetters_3 (lv_at hl 5 rfl) ?_
      refine lv_iload X.1.1 X.1.2.1 zd_Su_sameLetters_5 (lv_at hl 4 rfl) ?_
      refine lv_icmp_ge (tgt := 34) X.1.1 X.1.2.1 zd_Su_sameLetters_7 rfl (fun c1 => ?_) (fun c1 => ?_)
      · have c1 : mo ≤ k := zc_ge_t (by omega) (by omega) c1
        refine lv_iload X.1.1 X.1.2.1 zd_Su_sameLetters_34 (lv_at hl 5 rfl) ?_
        exact ret _ k H locs ls _ (⟨rfl, hk, hs, fun z => absurd z (by omega)⟩) h zd_Su_sameLetters_36
      · have c1 : k < mo := zc_ge_f (by omega) (by omega) c1
        refine lv_aload_n X.1.1 X.1.2.1 zd_Su_sameLetters_10 rfl (lv_at hl 0 rfl) ?_
        refine rG X h 0 rfl rfl zW_Su 0 (by decide) zw_48 rfl zd_Su_sameLetters_11 ?_
        refine lv_iload_n X.1.1 X.1.2.1 zd_Su_sameLetters_14 rfl (lv_at hl 1 rfl) ?_
        refine lv_iload X.1.1 X.1.2.1 zd_Su_sameLetters_15 (lv_at hl 5 rfl) ?_
        refine lv_iadd X.1.1 X.1.2.1 zd_Su_sameLetters_17 ?_
        refine zTop (y := nI (pl + k)) (nI_add _ _) ?_
        refine rLb X h 6 5 rfl rfl (by omega) (by omega) zd_Su_sameLetters_18 ?_
        refine lv_aload_n X.1.1 X.1.2.1 zd_Su_sameLetters_19 rfl (lv_at hl 2 rfl) ?_
        refine lv_iload_n X.1.1 X.1.2.1 zd_Su_sameLetters_20 rfl (lv_at hl 3 rfl) ?_
        refine lv_iload X.1.1 X.1.2.1 zd_Su_sameLetters_21 (lv_at hl 5 rfl) ?_
        refine lv_iadd X.1.1 X.1.2.1 zd_Su_sameLetters_23 ?_
        refine zTop (y := nI (fr + k)) (nI_add _ _) ?_
        refine rLb X h 7 6 rfl rfl (by omega) (by omega) zd_Su_sameLetters_24 ?_
        refine lv_icmp_ne (tgt := 34) X.1.1 X.1.2.1 zd_Su_sameLetters_25 rfl (fun c2 => ?_) (fun c2 => ?_)
        · refine lv_iload X.1.1 X.1.2.1 zd_Su_sameLetters_34 (lv_at hl 5 rfl) ?_
          exact ret _ k H locs ls _ (⟨rfl, hk, hs, fun _ => c2⟩) h zd_Su_sameLetters_36
        · refine lv_iinc X.1.1 X.1.2.1 zd_Su_sameLetters_28 hl (k := 5) rfl (v := nI (k + 1)) (nI_add _ _) (by decide) rfl (fun ls hl => ?_)
          have hl : lv_has ls 6 [(5, .int (nI (k + 1))), (0, .ref t0), (1, .int (nI pl)), (2, .ref ar), (3, .int (nI fr)), (4, .int (nI mo))] := hl
          refine lv_goto (tgt := 3) X.1.1 X.1.2.1 zd_Su_sameLetters_31 rfl ?_
          exact ih (k + 1) ls H locs (by omega) (by omega) (lt_s hs c2) (lv_sub hl [1, 2, 3, 4, 5, 0] rfl) h
  exact loop _ 0 ls H locs (Nat.lt_succ_self _) (Nat.zero_le _) (fun i hi => absurd hi (Nat.not_lt_zero _)) (lv_sub hl [1, 2, 3, 4, 5, 0] rfl) h

set_option maxHeartbeats 4000000 in
set_option maxRecDepth 100000 in
theorem zc_Su_find (l : Launch) (D : va_G) {t0 ta n aS aE aP aL nd aQ M sh an L wt fl NB : Nat} {fp : Int32} {st en pa li sl : Nat → Nat} {T : Nat → Int32} {cS cE cP cL cQ cB : ClassId} {o2 ar n2 NR : Nat} {R : Nat → Int32} {cR : ClassId} {fr mo j : Nat} {ps dp : Nat → Nat} (hG : tG T n NB M sh nd j st en pa sl ps dp) (hW : tr_W T n j) (hfr : fr ≤ n2) (hn2 : n2 ≤ NR) (hNR : NR < 2 ^ 30) (hmo : mo < 2 ^ 30) (sz : Nat) : zMv l D zy_Su_find zb_Su_find 10 ({ frames := 1, cells := 0, slots := 0, locals := 25 } : Room) [.ref t0, .ref o2, .int (nI fr), .int (nI mo)] [(cS, .int), (cE, .int), (cP, .int), (cL, .int), (cQ, .int), (cB, .byte), (cR, .byte)] [(t0, .inr (2, [.ref ta, .int (nI n), .ref aS, .ref aE, .ref aP, .ref aL, .int (nI nd), .ref aQ, .int (nI M), .int (nI sh), .int (nI an), .int (nI L), .int (nI wt), .int (nI fl), .int fp])), (aS, .inl (cS, 131072, .inl (fun zz => nI (st zz)))), (aE, .inl (cE, 131072, .inl (fun zz => nI (en zz)))), (aP, .inl (cP, 131072, .inl (fun zz => nI (pa zz)))), (aL, .inl (cL, 131072, .inl (fun zz => nI (li zz)))), (aQ, .inl (cQ, 262144, .inl (fun zz => nI (sl zz)))), (ta, .inl (cB, NB, .inl (T))), (o2, .inr (1, [.ref ar, .int (nI n2)])), (ar, .inl (cR, NR, .inl (R)))] sz (fun (u : Nat × Int32) => ∃ P, lg_is T n R fr (min (n2 - fr) mo) u.1 P ∧ (0 < u.1 → u.2 = nI P)) (fun u => [(t0, .inr (2, [.ref ta, .int (nI n), .ref aS, .ref aE, .ref aP, .ref aL, .int (nI nd), .ref aQ, .int (nI M), .int (nI sh), .int (nI an), .int (nI L), .int (nI wt), .int (nI u.1), .int (u.2)])), (aS, .inl (cS, 131072, .inl (fun zz => nI (st zz)))), (aE, .inl (cE, 131072, .inl (fun zz => nI (en zz)))), (aP, .inl (cP, 131072, .inl (fun zz => nI (pa zz)))), (aL, .inl (cL, 131072, .inl (fun zz => nI (li zz)))), (aQ, .inl (cQ, 262144, .inl (fun zz => nI (sl zz)))), (ta, .inl (cB, NB, .inl (T))), (o2, .inr (1, [.ref ar, .int (nI n2)])), (ar, .inl (cR, NR, .inl (R)))]) := by
  refine zEv (by decide) (Nat.le_of_ble_eq_true rfl) (fun p e s m args below meth c ls A Q X hin hl h hsz ret => ?_)
  have hl : lv_has ls 10 [(0, .ref t0), (1, .ref o2), (2, .int (nI fr)), (3, .int (nI mo))] := hl
  generalize hH0 : s.heap = H at h ⊢
  have h : zH D A s [(t0, .inr (2, [.ref ta, .int (nI n), .ref aS, .ref aE, .ref aP, .ref aL, .int (nI nd), .ref aQ, .int (nI M), .int (nI sh), .int (nI an), .int (nI L), .int (nI wt), .int (nI fl), .int fp])), (aS, .inl (cS, 131072, .inl (fun zz => nI (st zz)))), (aE, .inl (cE, 131072, .inl (fun zz => nI (en zz)))), (aP, .inl (cP, 131072, .inl (fun zz => nI (pa zz)))), (aL, .inl (cL, 131072, .inl (fun zz => nI (li zz)))), (aQ, .inl (cQ, 262144, .inl (fun zz => nI (sl zz)))), (ta, .inl (cB, NB, .inl (T))), (o2, .inr (1, [.ref ar, .int (nI n2)])), (ar, .inl (cR, NR, .inl (R)))] H [] := h
  generalize hL0 : ([] : List Loc) = locs at h ⊢
  have hO := tG_O hG
  have hnd := tG_nd hG
  have hMm := tO_M hO
  obtain ⟨k1, k2, k3, k4, -⟩ := hG.1
  refine lv_aload_n X.1.1 X.1.2.1 zd_Su_find_0 rfl (lv_at hl 1 rfl) ?_
  refine rCr (wr := [(t0, .inr (2, [.ref ta, .int (nI n), .ref aS, .ref aE, .ref aP, .ref aL, .int (nI nd), .ref aQ, .int (nI M), .int (nI sh), .int (nI an), .int (nI L), .int (nI wt), .int (nI fl), .int fp])), (aS, .inl (cS, 131072, .inl (fun zz => nI (st zz)))), (aE, .inl (cE, 131072, .inl (fun zz => nI (en zz)))), (aP, .inl (cP, 131072, .inl (fun zz => nI (pa zz)))), (aL, .inl (cL, 131072, .inl (fun zz => nI (li zz)))), (aQ, .inl (cQ, 262144, .inl (fun zz => nI (sl zz)))), (ta, .inl (cB, NB, .inl (T)))]) (wf := [(t0, .inr (2, [.ref ta, .int (nI n), .ref aS, .ref aE, .ref aP, .ref aL, .int (nI nd), .ref aQ, .int (nI M), .int (nI sh), .int (nI an), .int (nI L), .int (nI wt), .int (nI fl), .int fp])), (aS, .inl (cS, 131072, .inl (fun zz => nI (st zz)))), (aE, .inl (cE, 131072, .inl (fun zz => nI (en zz)))), (aP, .inl (cP, 131072, .inl (fun zz => nI (pa zz)))), (aL, .inl (cL, 131072, .inl (fun zz => nI (li zz)))), (aQ, .inl (cQ, 262144, .inl (fun zz => nI (sl zz)))), (ta, .inl (cB, NB, .inl (T))), (o2, .inr (1, [.ref ar, .int (nI n2)])), (ar, .inl (cR, NR, .inl (R)))]) (rest := []) X h hl.1 (zc_Tx_row l D (o := o2) (a := ar) (n := n2) (N := NR) (f := R) (cB := cR)  H.size) zw_168 zw_169 zw_170 zw_2 zm_Tx_row zq_Tx_row ⟨Nat.le_of_ble_eq_true rfl, Nat.le_of_ble_eq_true rfl⟩ ⟨Nat.le_of_ble_eq_true rfl, Nat.le_of_ble_eq_true rfl⟩ [6] rfl [7, 8] [0, 1, 2, 3, 4, 5, 6] [0, 1, 2, 3, 4, 5, 6, 7, 8] rfl (by decide) rfl (by decide) (by decide) rfl (by decide) 0 rfl rfl rfl (Nat.le_of_ble_eq_true rfl) zd_Su_find_1 (fun H locs h => ?_)
  have h : zH D A s [(t0, .inr (2, [.ref ta, .int (nI n), .ref aS, .ref aE, .ref aP, .ref aL, .int (nI nd), .ref aQ, .int (nI M), .int (nI sh), .int (nI an), .int (nI L), .int (nI wt), .int (nI fl), .int fp])), (aS, .inl (cS, 131072, .inl (fun zz => nI (st zz)))), (aE, .inl (cE, 131072, .inl (fun zz => nI (en zz)))), (aP, .inl (cP, 131072, .inl (fun zz => nI (pa zz)))), (aL, .inl (cL, 131072, .inl (fun zz => nI (li zz)))), (aQ, .inl (cQ, 262144, .inl (fun zz => nI (sl zz)))), (ta, .inl (cB, NB, .inl (T))), (o2, .inr (1, [.ref ar, .int (nI n2)])), (ar, .inl (cR, NR, .inl (R)))] H locs := h
  refine lv_astore X.1.1 X.1.2.1 zd_Su_find_4 hl (by decide) rfl (fun ls hl => ?_)
  have hl : lv_has ls 10 [(4, .ref ar), (0, .ref t0), (1, .ref o2), (2, .int (nI fr)), (3, .int (nI mo))] := hl
  refine lv_aload_n X.1.1 X.1.2.1 zd_Su_find_6 rfl (lv_at hl 2 rfl) ?_
  refine rCi (wr := [(t0, .inr (2, [.ref ta, .int (nI n), .ref aS, .ref aE, .ref aP, .ref aL, .int (nI nd), .ref aQ, .int (nI M), .int (nI sh), .int (nI an), .int (nI L), .int (nI wt), .int (nI fl), .int fp])), (aS, .inl (cS, 131072, .inl (fun zz => nI (st zz)))), (aE, .inl (cE, 131072, .inl (fun zz => nI (en zz)))), (aP, .inl (cP, 131072, .inl (fun zz => nI (pa zz)))), (aL, .inl (cL, 131072, .inl (fun zz => nI (li zz)))), (aQ, .inl (cQ, 262144, .inl (fun zz => nI (sl zz)))), (ta, .inl (cB, NB, .inl (T)))]) (wf := fun _ => [(t0, .inr (2, [.ref ta, .int (nI n), .ref aS, .ref aE, .ref aP, .ref aL, .int (nI nd), .ref aQ, .int (nI M), .int (nI sh), .int (nI an), .int (nI L), .int (nI wt), .int (nI fl), .int fp])), (aS, .inl (cS, 131072, .inl (fun zz => nI (st zz)))), (aE, .inl (cE, 131072, .inl (fun zz => nI (en zz)))), (aP, .inl (cP, 131072, .inl (fun zz => nI (pa zz)))), (aL, .inl (cL, 131072, .inl (fun zz => nI (li zz)))), (aQ, .inl (cQ, 262144, .inl (fun zz => nI (sl zz)))), (ta, .inl (cB, NB, .inl (T))), (o2, .inr (1, [.ref ar, .int (nI n2)])), (ar, .inl (cR, NR, .inl (R)))]) (rest := []) X h hl.1 (zc_Tx_size l D (o := o2) (a := ar) (n := n2) (N := NR) (f := R) (cB := cR)  H.size) zw_172 zw_145 zw_146 zw_2 zm_Tx_size zq_Tx_size ⟨Nat.le_of_ble_eq_true rfl, Nat.le_of_ble_eq_true rfl⟩ ⟨Nat.le_of_ble_eq_true rfl, Nat.le_of_ble_eq_true rfl⟩ [6] rfl [7, 8] [0, 1, 2, 3, 4, 5, 6] [0, 1, 2, 3, 4, 5, 6, 7, 8] rfl (by decide) rfl (by decide) (by decide) (fun _ => rfl) (by decide) 0 rfl rfl rfl (Nat.le_of_ble_eq_true rfl) zd_Su_find_7 (fun r _ H locs hp h => ?_)
  obtain ⟨rfl, -⟩ := hp
  have h : zH D A s [(t0, .inr (2, [.ref ta, .int (nI n), .ref aS, .ref aE, .ref aP, .ref aL, .int (nI nd), .ref aQ, .int (nI M), .int (nI sh), .int (nI an), .int (nI L), .int (nI wt), .int (nI fl), .int fp])), (aS, .inl (cS, 131072, .inl (fun zz => nI (st zz)))), (aE, .inl (cE, 131072, .inl (fun zz => nI (en zz)))), (aP, .inl (cP, 131072, .inl (fun zz => nI (pa zz)))), (aL, .inl (cL, 131072, .inl (fun zz => nI (li zz)))), (aQ, .inl (cQ, 262144, .inl (fun zz => nI (sl zz)))), (ta, .inl (cB, NB, .inl (T))), (o2, .inr (1, [.ref ar, .int (nI n2)])), (ar, .inl (cR, NR, .inl (R)))] H locs := h
  refine lv_iload_n X.1.1 X.1.2.1 zd_Su_find_10 rfl (lv_at hl 3 rfl) ?_
  refine lv_isub X.1.1 X.1.2.1 zd_Su_find_11 ?_
  refine zTop (y := nI (n2 - fr)) (pk_sub (by omega)) ?_
  refine lv_iload_n X.1.1 X.1.2.1 zd_Su_find_12 rfl (lv_at hl 4 rfl) ?_
  refine rMin X hl.1 zw_228 zw_229 zw_11 zw_230 (by omega) (by omega) (Nat.le_of_ble_eq_true rfl) (Nat.le_of_ble_eq_true rfl) (Nat.le_of_ble_eq_true rfl) (Nat.le_of_ble_eq_true rfl) zd_Su_find_13 ?_
  have hlim1 := Nat.min_le_left (n2 - fr) mo
  have hlim2 := Nat.min_le_right (n2 - fr) mo
  generalize hlim : min (n2 - fr) mo = lim at hlim1 hlim2 ret ⊢
  refine lv_istore X.1.1 X.1.2.1 zd_Su_find_16 hl (by decide) rfl (fun ls hl => ?_)
  have hl : lv_has ls 10 [(5, .int (nI lim)), (4, .ref ar), (0, .ref t0), (1, .ref o2), (2, .int (nI fr)), (3, .int (nI mo))] := hl
  refine lv_iconst (v := nI 0) X.1.1 X.1.2.1 zd_Su_find_18 (by decide) ?_
  refine lv_istore X.1.1 X.1.2.1 zd_Su_find_19 hl (by decide) rfl (fun ls hl => ?_)
  have hl : lv_has ls 10 [(6, .int (nI 0)), (5, .int (nI lim)), (4, .ref ar), (0, .ref t0), (1, .ref o2), (2, .int (nI fr)), (3, .int (nI mo))] := hl
  refine lv_aload_n X.1.1 X.1.2.1 zd_Su_find_21 rfl (lv_at hl 3 rfl) ?_
  refine lv_iconst (v := nI 0) X.1.1 X.1.2.1 zd_Su_find_22 (by decide) ?_
  refine rP X h 0 rfl rfl zW_Su zO_Su zN_Su 13 (by decide) zw_61 rfl (rfl) (rfl) (Nat.le_of_ble_eq_true rfl) zd_Su_find_23 (fun H locs h => ?_)
  have h : zH D A s [(t0, .inr (2, [.ref ta, .int (nI n), .ref aS, .ref aE, .ref aP, .ref aL, .int (nI nd), .ref aQ, .int (nI M), .int (nI sh), .int (nI an), .int (nI L), .int (nI wt), .int (nI 0), .int fp])), (aS, .inl (cS, 131072, .inl (fun zz => nI (st zz)))), (aE, .inl (cE, 131072, .inl (fun zz => nI (en zz)))), (aP, .inl (cP, 131072, .inl (fun zz => nI (pa zz)))), (aL, .inl (cL, 131072, .inl (fun zz => nI (li zz)))), (aQ, .inl (cQ, 262144, .inl (fun zz => nI (sl zz)))), (ta, .inl (cB, NB, .inl (T))), (o2, .inr (1, [.ref ar, .int (nI n2)])), (ar, .inl (cR, NR, .inl (R)))] H locs := h
  refine lv_aload_n X.1.1 X.1.2.1 zd_Su_find_26 rfl (lv_at hl 3 rfl) ?_
  refine lv_iconst (v := (-1)) X.1.1 X.1.2.1 zd_Su_find_27 (by decide) ?_
  refine rP X h 0 rfl rfl zW_Su zO_Su zN_Su 14 (by decide) zw_62 rfl (rfl) (rfl) (Nat.le_of_ble_eq_true rfl) zd_Su_find_28 (fun H locs h => ?_)
  have h : zH D A s [(t0, .inr (2, [.ref ta, .int (nI n), .ref aS, .ref aE, .ref aP, .ref aL, .int (nI nd), .ref aQ, .int (nI M), .int (nI sh), .int (nI an), .int (nI L), .int (nI wt), .int (nI 0), .int ((-1))])), (aS, .inl (cS, 131072, .inl (fun zz => nI (st zz)))), (aE, .inl (cE, 131072, .inl (fun zz => nI (en zz)))), (aP, .inl (cP, 131072, .inl (fun zz => nI (pa zz)))), (aL, .inl (cL, 131072, .inl (fun zz => nI (li zz)))), (aQ, .inl (cQ, 262144, .inl (fun zz => nI (sl zz)))), (ta, .inl (cB, NB, .inl (T))), (o2, .inr (1, [.ref ar, .int (nI n2)])), (ar, .inl (cR, NR, .inl (R)))] H locs := h
  have loop : ∀ (fu : Nat) (u : Nat) (k : Nat) (g : Int32) (ls : Array Slot) (H : Heap) (locs : List Loc), lim - k < fu → fd_I T R fr lim nd u k ps dp → (0 < k → g = nI (ps u)) → lv_has ls 10 [(0, .ref t0), (1, .ref o2), (2, .int (nI fr)), (3, .int (nI mo)), (4, .ref ar), (5, .int (nI lim)), (6, .int (nI u))] → zH D A s [(t0, .inr (2, [.ref ta, .int (nI n), .ref aS, .ref aE, .ref aP, .ref aL, .int (nI nd), .ref aQ, .int (nI M), .int (nI sh), .int (nI an), .int (nI L), .int (nI wt), .int (nI k), .int g])), (aS, .inl (cS, 131072, .inl (fun zz => nI (st zz)))), (aE, .inl (cE, 131072, .inl (fun zz => nI (en zz)))), (aP, .inl (cP, 131072, .inl (fun zz => nI (pa zz)))), (aL, .inl (cL, 131072, .inl (fun zz => nI (li zz)))), (aQ, .inl (cQ, 262144, .inl (fun zz => nI (sl zz)))), (ta, .inl (cB, NB, .inl (T))), (o2, .inr (1, [.ref ar, .int (nI n2)])), (ar, .inl (cR, NR, .inl (R)))] H locs → W p l e ({ frames := 1, cells := 0, slots := 0, locals := 25 } : Room) s m args below meth c H locs 0 0 Q (F0 m 31 ls []) := by
    intro fu
    induction fu with
    | zero => intro u k g ls H locs hfu; exact absurd hfu (Nat.not_lt_zero _)
    | succ fu ih =>
      intro u k g ls H locs hfu hI hg hl h
      have hkl := hI.2.2.1
      have hu := hI.1
      refine lv_aload_n X.1.1 X.1.2.1 zd_Su_find_31 rfl (lv_at hl 0 rfl) ?_
      refine rG X h 0 rfl rfl zW_Su 13 (by decide) zw_61 rfl zd_Su_find_32 ?_
      refine lv_iload X.1.1 X.1.2.1 zd_Su_find_35 (lv_at hl 5 rfl) ?_
      refine lv_icmp_ge (tgt := 172) X.1.1 X.1.2.1 zd_Su_find_37 rfl (fun c1 => ?_) (fun c1 => ?_)
      · have c1 : lim ≤ k := zc_ge_t (by omega) (by omega) c1
        exact ret (k, g) H locs ls _ (⟨ps u, fd_full hG hI c1, hg⟩) h zd_Su_find_172
      · have c1 : k < lim := zc_ge_f (by omega) (by omega) c1
        refine lv_aload_n X.1.1 X.1.2.1 zd_Su_find_40 rfl (lv_at hl 0 rfl) ?_
        refine rG X h 0 rfl rfl zW_Su 7 (by decide) zw_55 rfl zd_Su_find_41 ?_
        refine lv_aload_n X.1.1 X.1.2.1 zd_Su_find_44 rfl (lv_at hl 0 rfl) ?_
        refine lv_iload X.1.1 X.1.2.1 zd_Su_find_45 (lv_at hl 6 rfl) ?_
        refine lv_aload X.1.1 X.1.2.1 zd_Su_find_47 (lv_at hl 4 rfl) ?_
        refine lv_iload_n X.1.1 X.1.2.1 zd_Su_find_49 rfl (lv_at hl 2 rfl) ?_
        refine lv_aload_n X.1.1 X.1.2.1 zd_Su_find_50 rfl (lv_at hl 0 rfl) ?_
        refine rG X h 0 rfl rfl zW_Su 13 (by decide) zw_61 rfl zd_Su_find_51 ?_
        refine lv_iadd X.1.1 X.1.2.1 zd_Su_find_54 ?_
        refine zTop (y := nI (fr + k)) (nI_add _ _) ?_
        refine rLb X h 8 6 rfl rfl (by omega) (by omega) zd_Su_find_55 ?_
        refine rCi (wr := [(o2, .inr (1, [.ref ar, .int (nI n2)])), (ar, .inl (cR, NR, .inl (R)))]) (wf := fun r1 => [(t0, .inr (2, [.ref ta, .int (nI n), .ref aS, .ref aE, .ref aP, .ref aL, .int (nI nd), .ref aQ, .int (nI M), .int (nI sh), .int (nI an), .int (nI L), .int (nI wt), .int (nI k), .int g])), (aS, .inl (cS, 131072, .inl (fun zz => nI (st zz)))), (aE, .inl (cE, 131072, .inl (fun zz => nI (en zz)))), (aP, .inl (cP, 131072, .inl (fun zz => nI (pa zz)))), (aL, .inl (cL, 131072, .inl (fun zz => nI (li zz)))), (aQ, .inl (cQ, 262144, .inl (fun zz => nI (sl zz)))), (ta, .inl (cB, NB, .inl (T))), (o2, .inr (1, [.ref ar, .int (nI n2)])), (ar, .inl (cR, NR, .inl (R)))]) (rest := [.ref aQ]) X h hl.1 (zc_Su_slotOf l D (t0 := t0) (ta := ta) (n := n) (aS := aS) (aE := aE) (aP := aP) (aL := aL) (nd := nd) (aQ := aQ) (M := M) (sh := sh) (an := an) (L := L) (wt := wt) (fl := k) (fp := g) (st := st) (cS := cS) (en := en) (cE := cE) (pa := pa) (cP := cP) (li := li) (cL := cL) (sl := sl) (cQ := cQ) (T := T) (cB := cB) (NB := NB) (a := u) (ch := R (fr + k)) (hO) (by omega) H.size) zw_202 zw_204 zs_4 zw_3 zm_Su_slotOf zq_Su_slotOf ⟨Nat.le_of_ble_eq_true rfl, Nat.le_of_ble_eq_true rfl⟩ ⟨Nat.le_of_ble_eq_true rfl, Nat.le_of_ble_eq_true rfl⟩ [0, 1, 2, 3, 4, 5] rfl [0, 1, 2, 3, 4, 5, 6] [7, 8] [2, 3, 4, 5, 6, 7, 8, 0, 1] rfl (by decide) rfl (by decide) (by decide) (fun _ => rfl) (by decide) 0 rfl rfl rfl (Nat.le_of_ble_eq_true rfl) zd_Su_find_56 (fun r r1 H locs hp h => ?_)
        obtain ⟨rfl, q1⟩ := hp
        have h : zH D A s [(t0, .inr (2, [.ref ta, .int (nI n), .ref aS, .ref aE, .ref aP, .ref aL, .int (nI nd), .ref aQ, .int (nI M), .int (nI sh), .int (nI an), .int (nI L), .int (nI wt), .int (nI k), .int g])), (aS, .inl (cS, 131072, .inl (fun zz => nI (st zz)))), (aE, .inl (cE, 131072, .inl (fun zz => nI (en zz)))), (aP, .inl (cP, 131072, .inl (fun zz => nI (pa zz)))), (aL, .inl (cL, 131072, .inl (fun zz => nI (li zz)))), (aQ, .inl (cQ, 262144, .inl (fun zz => nI (sl zz)))), (ta, .inl (cB, NB, .inl (T))), (o2, .inr (1, [.ref ar, .int (nI n2)])), (ar, .inl (cR, NR, .inl (R)))] H locs := h
        have hr1 := hs_r_lt q1
        have hsr := hO.2.2.2.1 r1 hr1
        refine rLn X h 5 4 rfl rfl (by omega) (by omega) zd_Su_find_59 ?_
        refine lv_istore X.1.1 X.1.2.1 zd_Su_find_60 hl (by decide) rfl (fun ls hl => ?_)
        have hl : lv_has ls 10 [(7, .int (nI (sl r1))), (0, .ref t0), (1, .ref o2), (2, .int (nI fr)), (3, .int (nI mo)), (4, .ref ar), (5, .int (nI lim)), (6, .int (nI u))] := hl
        refine lv_iload X.1.1 X.1.2.1 zd_Su_find_62 (lv_at hl 0 rfl) ?_
        refine lv_if_ne (tgt := 70) X.1.1 X.1.2.1 zd_Su_find_64 rfl (fun c2 => ?_) (fun c2 => ?_)
        · have c2 : sl r1 ≠ 0 := zc_ne0_t (by omega) (by omega) c2
          obtain ⟨z1, z2, z3, z4, z5, z6, z7, z8⟩ := fd_kid hG hI q1 c2
          have hkd := hI.2.1
          refine lv_aload_n X.1.1 X.1.2.1 zd_Su_find_70 rfl (lv_at hl 1 rfl) ?_
          refine rG X h 0 rfl rfl zW_Su 3 (by decide) zw_51 rfl zd_Su_find_71 ?_
          refine lv_iload X.1.1 X.1.2.1 zd_Su_find_74 (lv_at hl 0 rfl) ?_
          refine rLn X h 2 1 rfl rfl (by omega) (by omega) zd_Su_find_76 ?_
          refine lv_aload_n X.1.1 X.1.2.1 zd_Su_find_77 rfl (lv_at hl 1 rfl) ?_
          refine rG X h 0 rfl rfl zW_Su 2 (by decide) zw_50 rfl zd_Su_find_78 ?_
          refine lv_iload X.1.1 X.1.2.1 zd_Su_find_81 (lv_at hl 0 rfl) ?_
          refine rLn X h 1 0 rfl rfl (by omega) (by omega) zd_Su_find_83 ?_
          refine lv_isub X.1.1 X.1.2.1 zd_Su_find_84 ?_
          refine zTop (y := nI (en (sl r1) - (st (sl r1)))) (pk_sub (by omega)) ?_
          refine lv_istore X.1.1 X.1.2.1 zd_Su_find_85 hl (by decide) rfl (fun ls hl => ?_)
          have hl : lv_has ls 10 [(8, .int (nI (en (sl r1) - (st (sl r1))))), (7, .int (nI (sl r1))), (0, .ref t0), (1, .ref o2), (2, .int (nI fr)), (3, .int (nI mo)), (4, .ref ar), (5, .int (nI lim)), (6, .int (nI u))] := hl
          refine lv_aload_n X.1.1 X.1.2.1 zd_Su_find_87 rfl (lv_at hl 2 rfl) ?_
          refine lv_aload_n X.1.1 X.1.2.1 zd_Su_find_88 rfl (lv_at hl 2 rfl) ?_
          refine rG X h 0 rfl rfl zW_Su 2 (by decide) zw_50 rfl zd_Su_find_89 ?_
          refine lv_iload X.1.1 X.1.2.1 zd_Su_find_92 (lv_at hl 1 rfl) ?_
          refine rLn X h 1 0 rfl rfl (by omega) (by omega) zd_Su_find_94 ?_
          refine lv_aload_n X.1.1 X.1.2.1 zd_Su_find_95 rfl (lv_at hl 2 rfl) ?_
          refine rG X h 0 rfl rfl zW_Su 13 (by decide) zw_61 rfl zd_Su_find_96 ?_
          refine lv_isub X.1.1 X.1.2.1 zd_Su_find_99 ?_
          refine zTop (y := nI (ps (sl r1))) ((pk_sub (by omega)).trans (congrArg nI (by omega))) ?_
          refine rP X h 0 rfl rfl zW_Su zO_Su zN_Su 14 (by decide) zw_62 rfl (rfl) (rfl) (Nat.le_of_ble_eq_true rfl) zd_Su_find_100 (fun H locs h => ?_)
          have h : zH D A s [(t0, .inr (2, [.ref ta, .int (nI n), .ref aS, .ref aE, .ref aP, .ref aL, .int (nI nd), .ref aQ, .int (nI M), .int (nI sh), .int (nI an), .int (nI L), .int (nI wt), .int (nI k), .int (nI (ps (sl r1)))])), (aS, .inl (cS, 131072, .inl (fun zz => nI (st zz)))), (aE, .inl (cE, 131072, .inl (fun zz => nI (en zz)))), (aP, .inl (cP, 131072, .inl (fun zz => nI (pa zz)))), (aL, .inl (cL, 131072, .inl (fun zz => nI (li zz)))), (aQ, .inl (cQ, 262144, .inl (fun zz => nI (sl zz)))), (ta, .inl (cB, NB, .inl (T))), (o2, .inr (1, [.ref ar, .int (nI n2)])), (ar, .inl (cR, NR, .inl (R)))] H locs := h
          refine lv_iconst (v := nI 1) X.1.1 X.1.2.1 zd_Su_find_103 (by decide) ?_
          refine lv_aload_n X.1.1 X.1.2.1 zd_Su_find_104 rfl (lv_at hl 2 rfl) ?_
          refine lv_aload_n X.1.1 X.1.2.1 zd_Su_find_105 rfl (lv_at hl 2 rfl) ?_
          refine rG X h 0 rfl rfl zW_Su 2 (by decide) zw_50 rfl zd_Su_find_106 ?_
          refine lv_iload X.1.1 X.1.2.1 zd_Su_find_109 (lv_at hl 1 rfl) ?_
          refine rLn X h 1 0 rfl rfl (by omega) (by omega) zd_Su_find_111 ?_
          refine lv_iconst (v := nI 1) X.1.1 X.1.2.1 zd_Su_find_112 (by decide) ?_
          refine lv_iadd X.1.1 X.1.2.1 zd_Su_find_113 ?_
          refine zTop (y := nI (st (sl r1) + 1)) (nI_add _ _) ?_
          refine lv_aload X.1.1 X.1.2.1 zd_Su_find_114 (lv_at hl 6 rfl) ?_
          refine lv_iload_n X.1.1 X.1.2.1 zd_Su_find_116 rfl (lv_at hl 4 rfl) ?_
          refine lv_aload_n X.1.1 X.1.2.1 zd_Su_find_117 rfl (lv_at hl 2 rfl) ?_
          refine rG X h 0 rfl rfl zW_Su 13 (by decide) zw_61 rfl zd_Su_find_118 ?_
          refine lv_iadd X.1.1 X.1.2.1 zd_Su_find_121 ?_
          refine zTop (y := nI (fr + k)) (nI_add _ _) ?_
          refine lv_iconst (v := nI 1) X.1.1 X.1.2.1 zd_Su_find_122 (by decide) ?_
          refine lv_iadd X.1.1 X.1.2.1 zd_Su_find_123 ?_
          refine zTop (y := nI (fr + k + 1)) (nI_add _ _) ?_
          refine lv_iload X.1.1 X.1.2.1 zd_Su_find_124 (lv_at hl 0 rfl) ?_
          refine lv_iload X.1.1 X.1.2.1 zd_Su_find_126 (lv_at hl 7 rfl) ?_
          refine lv_aload_n X.1.1 X.1.2.1 zd_Su_find_128 rfl (lv_at hl 2 rfl) ?_
          refine rG X h 0 rfl rfl zW_Su 13 (by decide) zw_61 rfl zd_Su_find_129 ?_
          refine lv_isub X.1.1 X.1.2.1 zd_Su_find_132 ?_
          refine zTop (y := nI (lim - k)) (pk_sub (by omega)) ?_
          refine rMin X hl.1 zw_228 zw_229 zw_11 zw_230 (by omega) (by omega) (Nat.le_of_ble_eq_true rfl) (Nat.le_of_ble_eq_true rfl) (Nat.le_of_ble_eq_true rfl) (Nat.le_of_ble_eq_true rfl) zd_Su_find_133 ?_
          refine lv_iconst (v := nI 1) X.1.1 X.1.2.1 zd_Su_find_136 (by decide) ?_
          refine lv_isub X.1.1 X.1.2.1 zd_Su_find_137 ?_
          refine zTop (y := nI (min (en (sl r1) - (st (sl r1))) (lim - k) - 1)) (pk_sub (by omega)) ?_
          refine rCi (wr := [(o2, .inr (1, [.ref ar, .int (nI n2)]))]) (wf := fun sm => [(t0, .inr (2, [.ref ta, .int (nI n), .ref aS, .ref aE, .ref aP, .ref aL, .int (nI nd), .ref aQ, .int (nI M), .int (nI sh), .int (nI an), .int (nI L), .int (nI wt), .int (nI k), .int (nI (ps (sl r1)))])), (aS, .inl (cS, 131072, .inl (fun zz => nI (st zz)))), (aE, .inl (cE, 131072, .inl (fun zz => nI (en zz)))), (aP, .inl (cP, 131072, .inl (fun zz => nI (pa zz)))), (aL, .inl (cL, 131072, .inl (fun zz => nI (li zz)))), (aQ, .inl (cQ, 262144, .inl (fun zz => nI (sl zz)))), (ta, .inl (cB, NB, .inl (T))), (o2, .inr (1, [.ref ar, .int (nI n2)])), (ar, .inl (cR, NR, .inl (R)))]) (rest := [.int (nI 1)]) X h hl.1 (zc_Su_sameLetters l D (t0 := t0) (ta := ta) (n := n) (aS := aS) (aE := aE) (aP := aP) (aL := aL) (nd := nd) (aQ := aQ) (M := M) (sh := sh) (an := an) (L := L) (wt := wt) (fl := k) (fp := nI (ps (sl r1))) (st := st) (cS := cS) (en := en) (cE := cE) (pa := pa) (cP := cP) (li := li) (cL := cL) (sl := sl) (cQ := cQ) (T := T) (cB := cB) (NB := NB) (pl := st (sl r1) + 1) (ar := ar) (NR := NR) (R := R) (cR := cR) (fr := fr + k + 1) (mo := min (en (sl r1) - (st (sl r1))) (lim - k) - 1) (by omega) (by omega) (by omega) (by omega) H.size) zw_231 zw_233 zs_9 zw_3 zm_Su_sameLetters zq_Su_sameLetters ⟨Nat.le_of_ble_eq_true rfl, Nat.le_of_ble_eq_true rfl⟩ ⟨Nat.le_of_ble_eq_true rfl, Nat.le_of_ble_eq_true rfl⟩ [0, 1, 2, 3, 4, 5, 6] rfl [0, 1, 2, 3, 4, 5, 6, 8] [7] [1, 2, 3, 4, 5, 6, 7, 0, 8] rfl (by decide) rfl (by decide) (by decide) (fun _ => rfl) (by decide) 0 rfl rfl rfl (Nat.le_of_ble_eq_true rfl) zd_Su_find_138 (fun r sm H locs hp h => ?_)
          obtain ⟨rfl, q2⟩ := hp
          have h : zH D A s [(t0, .inr (2, [.ref ta, .int (nI n), .ref aS, .ref aE, .ref aP, .ref aL, .int (nI nd), .ref aQ, .int (nI M), .int (nI sh), .int (nI an), .int (nI L), .int (nI wt), .int (nI k), .int (nI (ps (sl r1)))])), (aS, .inl (cS, 131072, .inl (fun zz => nI (st zz)))), (aE, .inl (cE, 131072, .inl (fun zz => nI (en zz)))), (aP, .inl (cP, 131072, .inl (fun zz => nI (pa zz)))), (aL, .inl (cL, 131072, .inl (fun zz => nI (li zz)))), (aQ, .inl (cQ, 262144, .inl (fun zz => nI (sl zz)))), (ta, .inl (cB, NB, .inl (T))), (o2, .inr (1, [.ref ar, .int (nI n2)])), (ar, .inl (cR, NR, .inl (R)))] H locs := h
          obtain ⟨y1, y2, y3⟩ := q2
          have hall : ∀ i, i < 1 + sm → T (ps (sl r1) + k + i) = R (fr + k + i) := by
            intro i hi
            rcases Nat.eq_zero_or_pos i with z | z
            · rw [z, Nat.add_zero, Nat.add_zero, hkd]; rw [← hkd]; rw [hkd] at z4 ⊢; exact z4
            · have := y2 (i - 1) (by omega)
              rw [show st (sl r1) + 1 + (i - 1) = ps (sl r1) + k + i by omega, show fr + k + 1 + (i - 1) = fr + k + i by omega] at this
              exact this
          refine lv_iadd X.1.1 X.1.2.1 zd_Su_find_141 ?_
          refine zTop (y := nI (1 + sm)) (nI_add _ _) ?_
          refine lv_istore X.1.1 X.1.2.1 zd_Su_find_142 hl (by decide) rfl (fun ls hl => ?_)
          have hl : lv_has ls 10 [(9, .int (nI (1 + sm))), (8, .int (nI (en (sl r1) - (st (sl r1))))), (7, .int (nI (sl r1))), (0, .ref t0), (1, .ref o2), (2, .int (nI fr)), (3, .int (nI mo)), (4, .ref ar), (5, .int (nI lim)), (6, .int (nI u))] := hl
          refine lv_aload_n X.1.1 X.1.2.1 zd_Su_find_144 rfl (lv_at hl 3 rfl) ?_
          refine lv_dup X.1.1 X.1.2.1 zd_Su_find_145 rfl ?_
          refine rG X h 0 rfl rfl zW_Su 13 (by decide) zw_61 rfl zd_Su_find_146 ?_
          refine lv_iload X.1.1 X.1.2.1 zd_Su_find_149 (lv_at hl 0 rfl) ?_
          refine lv_iadd X.1.1 X.1.2.1 zd_Su_find_151 ?_
          refine zTop (y := nI (k + (1 + sm))) (nI_add _ _) ?_
          refine rP X h 0 rfl rfl zW_Su zO_Su zN_Su 13 (by decide) zw_61 rfl (rfl) (rfl) (Nat.le_of_ble_eq_true rfl) zd_Su_find_152 (fun H locs h => ?_)
          have h : zH D A s [(t0, .inr (2, [.ref ta, .int (nI n), .ref aS, .ref aE, .ref aP, .ref aL, .int (nI nd), .ref aQ, .int (nI M), .int (nI sh), .int (nI an), .int (nI L), .int (nI wt), .int (nI (k + (1 + sm))), .int (nI (ps (sl r1)))])), (aS, .inl (cS, 131072, .inl (fun zz => nI (st zz)))), (aE, .inl (cE, 131072, .inl (fun zz => nI (en zz)))), (aP, .inl (cP, 131072, .inl (fun zz => nI (pa zz)))), (aL, .inl (cL, 131072, .inl (fun zz => nI (li zz)))), (aQ, .inl (cQ, 262144, .inl (fun zz => nI (sl zz)))), (ta, .inl (cB, NB, .inl (T))), (o2, .inr (1, [.ref ar, .int (nI n2)])), (ar, .inl (cR, NR, .inl (R)))] H locs := h
          refine lv_iload X.1.1 X.1.2.1 zd_Su_find_155 (lv_at hl 0 rfl) ?_
          refine lv_iload X.1.1 X.1.2.1 zd_Su_find_157 (lv_at hl 1 rfl) ?_
          refine lv_icmp_ge (tgt := 165) X.1.1 X.1.2.1 zd_Su_find_159 rfl (fun c3 => ?_) (fun c3 => ?_)
          · have c3 : en (sl r1) - (st (sl r1)) ≤ 1 + sm := zc_ge_t (by omega) (by omega) c3
            refine lv_iload X.1.1 X.1.2.1 zd_Su_find_165 (lv_at hl 2 rfl) ?_
            refine lv_istore X.1.1 X.1.2.1 zd_Su_find_167 hl (by decide) rfl (fun ls hl => ?_)
            have hl : lv_has ls 10 [(6, .int (nI (sl r1))), (9, .int (nI (1 + sm))), (8, .int (nI (en (sl r1) - (st (sl r1))))), (7, .int (nI (sl r1))), (0, .ref t0), (1, .ref o2), (2, .int (nI fr)), (3, .int (nI mo)), (4, .ref ar), (5, .int (nI lim))] := hl
            refine lv_goto (tgt := 31) X.1.1 X.1.2.1 zd_Su_find_169 rfl ?_
            exact ih (sl r1) (k + (1 + sm)) (nI (ps (sl r1))) ls H locs (by omega) (fd_go hG hI z1 z2 z3 hall (by omega) (by omega)) (fun _ => rfl) (lv_sub hl [4, 5, 6, 7, 8, 9, 0] rfl) h
          · have c3 : 1 + sm < en (sl r1) - (st (sl r1)) := zc_ge_f (by omega) (by omega) c3
            refine lv_goto (tgt := 172) X.1.1 X.1.2.1 zd_Su_find_162 rfl ?_
            exact ret (k + (1 + sm), nI (ps (sl r1))) H locs ls _ (⟨ps (sl r1), fd_part hG hW hI z1 z2 z3 (by omega) hall (by omega) (by omega) (fun z => by have := y3 (by omega); rw [show st (sl r1) + 1 + sm = ps (sl r1) + k + (1 + sm) by omega, show fr + k + 1 + sm = fr + k + (1 + sm) by omega] at this; exact this), fun _ => rfl⟩) h zd_Su_find_172
        · have c2 : sl r1 = 0 := zc_ne0_f (by omega) (by omega) c2
          refine lv_goto (tgt := 172) X.1.1 X.1.2.1 zd_Su_find_67 rfl ?_
          exact ret (k, g) H locs ls _ (⟨ps u, fd_none hG hW hI q1 c2, hg⟩) h zd_Su_find_172
  exact loop _ 0 0 (-1) ls H locs (Nat.lt_succ_self _) (fd_0 hG) (fun z => absurd z (Nat.lt_irrefl 0)) (lv_sub hl [3, 4, 5, 6, 2, 1, 0] rfl) h
