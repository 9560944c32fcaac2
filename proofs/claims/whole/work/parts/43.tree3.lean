/-! SuffixTree: goDown, addLetter, grow -/
theorem tG_room {T : Nat → Int32} {n NB M sh nd j : Nat} {st en pa sl ps dp : Nat → Nat} (h : tG T n NB M sh nd j st en pa sl ps dp) (hj : j < n) : nd + 2 ≤ 131072 ∧ nd + 2 ≤ M ∧ M ≤ 262144 := by
  have hM := tO_M (tG_O h)
  have hd := tG_nd h
  obtain ⟨⟨-, -, h1, h2, -⟩, -, -, h3, h4, h5⟩ := h
  by_cases hz : j = 0
  · have := h4 hz
    omega
  · have := h5 (by omega)
    omega

set_option maxHeartbeats 4000000 in
set_option maxRecDepth 100000 in
theorem zc_Su_goDown (l : Launch) (D : va_G) {t0 ta n aS aE aP aL nd aQ M sh an L wt fl NB : Nat} {fp : Int32} {st en pa li sl : Nat → Nat} {T : Nat → Int32} {cS cE cP cL cQ cB : ClassId} {pl j : Nat} {ps dp : Nat → Nat} (hG : tG T n NB M sh nd j st en pa sl ps dp) (hA : tr_A T nd j pl an L ps dp) (hpl : pl < n) (sz : Nat) : zMi l D zy_Su_goDown zb_Su_goDown 6 .int ({ frames := 1, cells := 0, slots := 0, locals := 25 } : Room) [.ref t0, .int (nI pl)] [(cS, .int), (cE, .int), (cP, .int), (cL, .int), (cQ, .int), (cB, .byte)] [(t0, .inr (2, [.ref ta, .int (nI n), .ref aS, .ref aE, .ref aP, .ref aL, .int (nI nd), .ref aQ, .int (nI M), .int (nI sh), .int (nI an), .int (nI L), .int (nI wt), .int (nI fl), .int fp])), (aS, .inl (cS, 131072, .inl (fun zz => nI (st zz)))), (aE, .inl (cE, 131072, .inl (fun zz => nI (en zz)))), (aP, .inl (cP, 131072, .inl (fun zz => nI (pa zz)))), (aL, .inl (cL, 131072, .inl (fun zz => nI (li zz)))), (aQ, .inl (cQ, 262144, .inl (fun zz => nI (sl zz)))), (ta, .inl (cB, NB, .inl (T)))] sz (fun (r : Int32) (u : Nat × Nat × Nat) => r = nI u.2.2 ∧ tr_A T nd j pl u.1 u.2.1 ps dp ∧ hs_r M sl (hok pa st T u.1 (T (pl - u.2.1))) (hN sh u.1 (T (pl - u.2.1))) u.2.2 ∧ (0 < u.2.1 → u.2.1 < en (sl u.2.2) - st (sl u.2.2))) (fun u => [(t0, .inr (2, [.ref ta, .int (nI n), .ref aS, .ref aE, .ref aP, .ref aL, .int (nI nd), .ref aQ, .int (nI M), .int (nI sh), .int (nI u.1), .int (nI u.2.1), .int (nI wt), .int (nI fl), .int fp])), (aS, .inl (cS, 131072, .inl (fun zz => nI (st zz)))), (aE, .inl (cE, 131072, .inl (fun zz => nI (en zz)))), (aP, .inl (cP, 131072, .inl (fun zz => nI (pa zz)))), (aL, .inl (cL, 131072, .inl (fun zz => nI (li zz)))), (aQ, .inl (cQ, 262144, .inl (fun zz => nI (sl zz)))), (ta, .inl (cB, NB, .inl (T)))]) := by
  refine zEi (by decide) (Nat.le_of_ble_eq_true rfl) (fun p e s m args below meth c ls A Q X hl h hsz ret => ?_)
  have hl : lv_has ls 6 [(0, .ref t0), (1, .int (nI pl))] := hl
  generalize hH0 : s.heap = H at h ⊢
  have h : zH D A s [(t0, .inr (2, [.ref ta, .int (nI n), .ref aS, .ref aE, .ref aP, .ref aL, .int (nI nd), .ref aQ, .int (nI M), .int (nI sh), .int (nI an), .int (nI L), .int (nI wt), .int (nI fl), .int fp])), (aS, .inl (cS, 131072, .inl (fun zz => nI (st zz)))), (aE, .inl (cE, 131072, .inl (fun zz => nI (en zz)))), (aP, .inl (cP, 131072, .inl (fun zz => nI (pa zz)))), (aL, .inl (cL, 131072, .inl (fun zz => nI (li zz)))), (aQ, .inl (cQ, 262144, .inl (fun zz => nI (sl zz)))), (ta, .inl (cB, NB, .inl (T)))] H [] := h
  generalize hL0 : ([] : List Loc) = locs at h ⊢
  have hO := tG_O hG
  have hnd := tG_nd hG
  have hMm := tO_M hO
  obtain ⟨k1, k2, k3, k4, -⟩ := hG.1
  have hA2 := hA.2.1
  have hA1 := hA.1
  refine lv_aload_n X.1.1 X.1.2.1 zd_Su_goDown_0 rfl (lv_at hl 0 rfl) ?_
  refine lv_aload_n X.1.1 X.1.2.1 zd_Su_goDown_1 rfl (lv_at hl 0 rfl) ?_
  refine rG X h 0 rfl rfl zW_Su 10 (by decide) zw_58 rfl zd_Su_goDown_2 ?_
  refine lv_aload_n X.1.1 X.1.2.1 zd_Su_goDown_5 rfl (lv_at hl 0 rfl) ?_
  refine rG X h 0 rfl rfl zW_Su 0 (by decide) zw_48 rfl zd_Su_goDown_6 ?_
  refine lv_iload_n X.1.1 X.1.2.1 zd_Su_goDown_9 rfl (lv_at hl 1 rfl) ?_
  refine lv_aload_n X.1.1 X.1.2.1 zd_Su_goDown_10 rfl (lv_at hl 0 rfl) ?_
  refine rG X h 0 rfl rfl zW_Su 11 (by decide) zw_59 rfl zd_Su_goDown_11 ?_
  refine lv_isub X.1.1 X.1.2.1 zd_Su_goDown_14 ?_
  refine zTop (y := nI (pl - L)) (pk_sub (by omega)) ?_
  refine rLb X h 6 5 rfl rfl (by omega) (by omega) zd_Su_goDown_15 ?_
  refine rCi (wr := []) (wf := fun u => [(t0, .inr (2, [.ref ta, .int (nI n), .ref aS, .ref aE, .ref aP, .ref aL, .int (nI nd), .ref aQ, .int (nI M), .int (nI sh), .int (nI an), .int (nI L), .int (nI wt), .int (nI fl), .int fp])), (aS, .inl (cS, 131072, .inl (fun zz => nI (st zz)))), (aE, .inl (cE, 131072, .inl (fun zz => nI (en zz)))), (aP, .inl (cP, 131072, .inl (fun zz => nI (pa zz)))), (aL, .inl (cL, 131072, .inl (fun zz => nI (li zz)))), (aQ, .inl (cQ, 262144, .inl (fun zz => nI (sl zz)))), (ta, .inl (cB, NB, .inl (T)))]) (rest := []) X h hl.1 (zc_Su_slotOf l D (t0 := t0) (ta := ta) (n := n) (aS := aS) (aE := aE) (aP := aP) (aL := aL) (nd := nd) (aQ := aQ) (M := M) (sh := sh) (an := an) (L := L) (wt := wt) (fl := fl) (fp := fp) (st := st) (cS := cS) (en := en) (cE := cE) (pa := pa) (cP := cP) (li := li) (cL := cL) (sl := sl) (cQ := cQ) (T := T) (cB := cB) (NB := NB) (a := an) (ch := T (pl - L)) (hO) (by omega) H.size) zw_202 zw_204 zs_4 zw_3 zm_Su_slotOf zq_Su_slotOf ⟨Nat.le_of_ble_eq_true rfl, Nat.le_of_ble_eq_true rfl⟩ ⟨Nat.le_of_ble_eq_true rfl, Nat.le_of_ble_eq_true rfl⟩ [0, 1, 2, 3, 4, 5] rfl [0, 1, 2, 3, 4, 5, 6] [] [0, 1, 2, 3, 4, 5, 6] rfl (by decide) rfl (by decide) (by decide) (fun _ => rfl) (by decide) 0 rfl rfl rfl (Nat.le_of_ble_eq_true rfl) zd_Su_goDown_16 (fun r u H locs hp h => ?_)
  obtain ⟨rfl, q1⟩ := hp
  have h : zH D A s [(t0, .inr (2, [.ref ta, .int (nI n), .ref aS, .ref aE, .ref aP, .ref aL, .int (nI nd), .ref aQ, .int (nI M), .int (nI sh), .int (nI an), .int (nI L), .int (nI wt), .int (nI fl), .int fp])), (aS, .inl (cS, 131072, .inl (fun zz => nI (st zz)))), (aE, .inl (cE, 131072, .inl (fun zz => nI (en zz)))), (aP, .inl (cP, 131072, .inl (fun zz => nI (pa zz)))), (aL, .inl (cL, 131072, .inl (fun zz => nI (li zz)))), (aQ, .inl (cQ, 262144, .inl (fun zz => nI (sl zz)))), (ta, .inl (cB, NB, .inl (T)))] H locs := h
  refine lv_istore_n X.1.1 X.1.2.1 zd_Su_goDown_19 rfl hl (by decide) rfl (fun ls hl => ?_)
  have hl : lv_has ls 6 [(2, .int (nI u)), (0, .ref t0), (1, .int (nI pl))] := hl
  refine lv_iconst (v := nI 0) X.1.1 X.1.2.1 zd_Su_goDown_20 (by decide) ?_
  refine lv_istore_n X.1.1 X.1.2.1 zd_Su_goDown_21 rfl hl (by decide) rfl (fun ls hl => ?_)
  have hl : lv_has ls 6 [(3, .int (nI 0)), (2, .int (nI u)), (0, .ref t0), (1, .int (nI pl))] := hl
  have loop : ∀ (fu : Nat) (k : Nat) (a1 : Nat) (L1 : Nat) (r1 : Nat) (ls : Array Slot) (H : Heap) (locs : List Loc), L1 < fu → k + L1 ≤ pl → tr_A T nd j pl a1 L1 ps dp → hs_r M sl (hok pa st T a1 (T (pl - L1))) (hN sh a1 (T (pl - L1))) r1 → lv_has ls 6 [(0, .ref t0), (1, .int (nI pl)), (2, .int (nI r1)), (3, .int (nI k))] → zH D A s [(t0, .inr (2, [.ref ta, .int (nI n), .ref aS, .ref aE, .ref aP, .ref aL, .int (nI nd), .ref aQ, .int (nI M), .int (nI sh), .int (nI a1), .int (nI L1), .int (nI wt), .int (nI fl), .int fp])), (aS, .inl (cS, 131072, .inl (fun zz => nI (st zz)))), (aE, .inl (cE, 131072, .inl (fun zz => nI (en zz)))), (aP, .inl (cP, 131072, .inl (fun zz => nI (pa zz)))), (aL, .inl (cL, 131072, .inl (fun zz => nI (li zz)))), (aQ, .inl (cQ, 262144, .inl (fun zz => nI (sl zz)))), (ta, .inl (cB, NB, .inl (T)))] H locs → W p l e ({ frames := 1, cells := 0, slots := 0, locals := 25 } : Room) s m args below meth c H locs 0 0 Q (F0 m 22 ls []) := by
    intro fu
    induction fu with
    | zero => intro k a1 L1 r1 ls H locs hfu; exact absurd hfu (Nat.not_lt_zero _)
    | succ fu ih =>
      intro k a1 L1 r1 ls H locs hfu hk hB hq hl h
      have hB2 := hB.2.1
      have hr1 := hs_r_lt hq
      refine lv_iload_n X.1.1 X.1.2.1 zd_Su_goDown_22 rfl (lv_at hl 3 rfl) ?_
      refine lv_aload_n X.1.1 X.1.2.1 zd_Su_goDown_23 rfl (lv_at hl 0 rfl) ?_
      refine rG X h 0 rfl rfl zW_Su 1 (by decide) zw_49 rfl zd_Su_goDown_24 ?_
      refine lv_icmp_ge (tgt := 117) X.1.1 X.1.2.1 zd_Su_goDown_27 rfl (fun c1 => ?_) (fun c1 => ?_)
      · have c1 : n ≤ k := zc_ge_t (by omega) (by omega) c1
        exact absurd c1 (by omega)
      · have c1 : k < n := zc_ge_f (by omega) (by omega) c1
        refine lv_aload_n X.1.1 X.1.2.1 zd_Su_goDown_30 rfl (lv_at hl 0 rfl) ?_
        refine rG X h 0 rfl rfl zW_Su 11 (by decide) zw_59 rfl zd_Su_goDown_31 ?_
        refine lv_if_le (tgt := 117) X.1.1 X.1.2.1 zd_Su_goDown_34 rfl (fun c2 => ?_) (fun c2 => ?_)
        · have c2 : L1 ≤ 0 := zc_le0_t (by omega) (by omega) c2
          refine lv_iload_n X.1.1 X.1.2.1 zd_Su_goDown_117 rfl (lv_at hl 2 rfl) ?_
          exact ret _ (a1, L1, r1) H locs ls _ (⟨rfl, hB, hq, fun z => absurd z (by dsimp only; omega)⟩) h zd_Su_goDown_118
        · have c2 : 0 < L1 := zc_le0_f (by omega) (by omega) c2
          obtain ⟨w, w1, w2, w3, w4, w5, w6, w7⟩ := tr_go hG.2.1.1 hB hpl c2
          have ew := gw_hit hG.2.1 (tG_q hG hq) w1 w2 w3 w5
          subst ew
          obtain ⟨s1, s2⟩ := hG.2.2.1 (sl r1) w1 w2
          rw [w3] at s1
          have hpn := (hG.2.1.1.2.1 (sl r1) w1 w2).2.2.1
          refine lv_aload_n X.1.1 X.1.2.1 zd_Su_goDown_37 rfl (lv_at hl 0 rfl) ?_
          refine rG X h 0 rfl rfl zW_Su 7 (by decide) zw_55 rfl zd_Su_goDown_38 ?_
          refine lv_iload_n X.1.1 X.1.2.1 zd_Su_goDown_41 rfl (lv_at hl 2 rfl) ?_
          refine rLn X h 5 4 rfl rfl (by omega) (by omega) zd_Su_goDown_42 ?_
          refine lv_istore X.1.1 X.1.2.1 zd_Su_goDown_43 hl (by decide) rfl (fun ls hl => ?_)
          have hl : lv_has ls 6 [(4, .int (nI (sl r1))), (0, .ref t0), (1, .int (nI pl)), (2, .int (nI r1)), (3, .int (nI k))] := hl
          refine lv_aload_n X.1.1 X.1.2.1 zd_Su_goDown_45 rfl (lv_at hl 1 rfl) ?_
          refine rG X h 0 rfl rfl zW_Su 3 (by decide) zw_51 rfl zd_Su_goDown_46 ?_
          refine lv_iload X.1.1 X.1.2.1 zd_Su_goDown_49 (lv_at hl 0 rfl) ?_
          refine rLn X h 2 1 rfl rfl (by omega) (by omega) zd_Su_goDown_51 ?_
          refine lv_aload_n X.1.1 X.1.2.1 zd_Su_goDown_52 rfl (lv_at hl 1 rfl) ?_
          refine rG X h 0 rfl rfl zW_Su 2 (by decide) zw_50 rfl zd_Su_goDown_53 ?_
          refine lv_iload X.1.1 X.1.2.1 zd_Su_goDown_56 (lv_at hl 0 rfl) ?_
          refine rLn X h 1 0 rfl rfl (by omega) (by omega) zd_Su_goDown_58 ?_
          refine lv_isub X.1.1 X.1.2.1 zd_Su_goDown_59 ?_
          refine zTop (y := nI (en (sl r1) - (st (sl r1)))) (pk_sub (by omega)) ?_
          refine lv_istore X.1.1 X.1.2.1 zd_Su_goDown_60 hl (by decide) rfl (fun ls hl => ?_)
          have hl : lv_has ls 6 [(5, .int (nI (en (sl r1) - (st (sl r1))))), (4, .int (nI (sl r1))), (0, .ref t0), (1, .int (nI pl)), (2, .int (nI r1)), (3, .int (nI k))] := hl
          refine lv_aload_n X.1.1 X.1.2.1 zd_Su_goDown_62 rfl (lv_at hl 2 rfl) ?_
          refine rG X h 0 rfl rfl zW_Su 11 (by decide) zw_59 rfl zd_Su_goDown_63 ?_
          refine lv_iload X.1.1 X.1.2.1 zd_Su_goDown_66 (lv_at hl 0 rfl) ?_
          refine lv_icmp_ge (tgt := 74) X.1.1 X.1.2.1 zd_Su_goDown_68 rfl (fun c3 => ?_) (fun c3 => ?_)
          · have c3 : en (sl r1) - (st (sl r1)) ≤ L1 := zc_ge_t (by omega) (by omega) c3
            refine lv_aload_n X.1.1 X.1.2.1 zd_Su_goDown_74 rfl (lv_at hl 2 rfl) ?_
            refine lv_iload X.1.1 X.1.2.1 zd_Su_goDown_75 (lv_at hl 1 rfl) ?_
            refine rP X h 0 rfl rfl zW_Su zO_Su zN_Su 10 (by decide) zw_58 rfl (rfl) (rfl) (Nat.le_of_ble_eq_true rfl) zd_Su_goDown_77 (fun H locs h => ?_)
            have h : zH D A s [(t0, .inr (2, [.ref ta, .int (nI n), .ref aS, .ref aE, .ref aP, .ref aL, .int (nI nd), .ref aQ, .int (nI M), .int (nI sh), .int (nI (sl r1)), .int (nI L1), .int (nI wt), .int (nI fl), .int fp])), (aS, .inl (cS, 131072, .inl (fun zz => nI (st zz)))), (aE, .inl (cE, 131072, .inl (fun zz => nI (en zz)))), (aP, .inl (cP, 131072, .inl (fun zz => nI (pa zz)))), (aL, .inl (cL, 131072, .inl (fun zz => nI (li zz)))), (aQ, .inl (cQ, 262144, .inl (fun zz => nI (sl zz)))), (ta, .inl (cB, NB, .inl (T)))] H locs := h
            refine lv_aload_n X.1.1 X.1.2.1 zd_Su_goDown_80 rfl (lv_at hl 2 rfl) ?_
            refine lv_dup X.1.1 X.1.2.1 zd_Su_goDown_81 rfl ?_
            refine rG X h 0 rfl rfl zW_Su 11 (by decide) zw_59 rfl zd_Su_goDown_82 ?_
            refine lv_iload X.1.1 X.1.2.1 zd_Su_goDown_85 (lv_at hl 0 rfl) ?_
            refine lv_isub X.1.1 X.1.2.1 zd_Su_goDown_87 ?_
            refine zTop (y := nI (L1 - (en (sl r1) - (st (sl r1))))) (pk_sub (by omega)) ?_
            refine rP X h 0 rfl rfl zW_Su zO_Su zN_Su 11 (by decide) zw_59 rfl (rfl) (rfl) (Nat.le_of_ble_eq_true rfl) zd_Su_goDown_88 (fun H locs h => ?_)
            have h : zH D A s [(t0, .inr (2, [.ref ta, .int (nI n), .ref aS, .ref aE, .ref aP, .ref aL, .int (nI nd), .ref aQ, .int (nI M), .int (nI sh), .int (nI (sl r1)), .int (nI (L1 - (en (sl r1) - (st (sl r1))))), .int (nI wt), .int (nI fl), .int fp])), (aS, .inl (cS, 131072, .inl (fun zz => nI (st zz)))), (aE, .inl (cE, 131072, .inl (fun zz => nI (en zz)))), (aP, .inl (cP, 131072, .inl (fun zz => nI (pa zz)))), (aL, .inl (cL, 131072, .inl (fun zz => nI (li zz)))), (aQ, .inl (cQ, 262144, .inl (fun zz => nI (sl zz)))), (ta, .inl (cB, NB, .inl (T)))] H locs := h
            refine lv_aload_n X.1.1 X.1.2.1 zd_Su_goDown_91 rfl (lv_at hl 2 rfl) ?_
            refine lv_aload_n X.1.1 X.1.2.1 zd_Su_goDown_92 rfl (lv_at hl 2 rfl) ?_
            refine rG X h 0 rfl rfl zW_Su 10 (by decide) zw_58 rfl zd_Su_goDown_93 ?_
            refine lv_aload_n X.1.1 X.1.2.1 zd_Su_goDown_96 rfl (lv_at hl 2 rfl) ?_
            refine rG X h 0 rfl rfl zW_Su 0 (by decide) zw_48 rfl zd_Su_goDown_97 ?_
            refine lv_iload_n X.1.1 X.1.2.1 zd_Su_goDown_100 rfl (lv_at hl 3 rfl) ?_
            refine lv_aload_n X.1.1 X.1.2.1 zd_Su_goDown_101 rfl (lv_at hl 2 rfl) ?_
            refine rG X h 0 rfl rfl zW_Su 11 (by decide) zw_59 rfl zd_Su_goDown_102 ?_
            refine lv_isub X.1.1 X.1.2.1 zd_Su_goDown_105 ?_
            refine zTop (y := nI (pl - (L1 - (en (sl r1) - (st (sl r1)))))) (pk_sub (by omega)) ?_
            refine rLb X h 6 5 rfl rfl (by omega) (by omega) zd_Su_goDown_106 ?_
            refine rCi (wr := []) (wf := fun u => [(t0, .inr (2, [.ref ta, .int (nI n), .ref aS, .ref aE, .ref aP, .ref aL, .int (nI nd), .ref aQ, .int (nI M), .int (nI sh), .int (nI (sl r1)), .int (nI (L1 - (en (sl r1) - (st (sl r1))))), .int (nI wt), .int (nI fl), .int fp])), (aS, .inl (cS, 131072, .inl (fun zz => nI (st zz)))), (aE, .inl (cE, 131072, .inl (fun zz => nI (en zz)))), (aP, .inl (cP, 131072, .inl (fun zz => nI (pa zz)))), (aL, .inl (cL, 131072, .inl (fun zz => nI (li zz)))), (aQ, .inl (cQ, 262144, .inl (fun zz => nI (sl zz)))), (ta, .inl (cB, NB, .inl (T)))]) (rest := []) X h hl.1 (zc_Su_slotOf l D (t0 := t0) (ta := ta) (n := n) (aS := aS) (aE := aE) (aP := aP) (aL := aL) (nd := nd) (aQ := aQ) (M := M) (sh := sh) (an := sl r1) (L := L1 - (en (sl r1) - (st (sl r1)))) (wt := wt) (fl := fl) (fp := fp) (st := st) (cS := cS) (en := en) (cE := cE) (pa := pa) (cP := cP) (li := li) (cL := cL) (sl := sl) (cQ := cQ) (T := T) (cB := cB) (NB := NB) (a := sl r1) (ch := T (pl - (L1 - (en (sl r1) - (st (sl r1)))))) (hO) (by omega) H.size) zw_202 zw_204 zs_4 zw_3 zm_Su_slotOf zq_Su_slotOf ⟨Nat.le_of_ble_eq_true rfl, Nat.le_of_ble_eq_true rfl⟩ ⟨Nat.le_of_ble_eq_true rfl, Nat.le_of_ble_eq_true rfl⟩ [0, 1, 2, 3, 4, 5] rfl [0, 1, 2, 3, 4, 5, 6] [] [0, 1, 2, 3, 4, 5, 6] rfl (by decide) rfl (by decide) (by decide) (fun _ => rfl) (by decide) 0 rfl rfl rfl (Nat.le_of_ble_eq_true rfl) zd_Su_goDown_107 (fun r u H locs hp h => ?_)
            obtain ⟨rfl, q2⟩ := hp
            have h : zH D A s [(t0, .inr (2, [.ref ta, .int (nI n), .ref aS, .ref aE, .ref aP, .ref aL, .int (nI nd), .ref aQ, .int (nI M), .int (nI sh), .int (nI (sl r1)), .int (nI (L1 - (en (sl r1) - (st (sl r1))))), .int (nI wt), .int (nI fl), .int fp])), (aS, .inl (cS, 131072, .inl (fun zz => nI (st zz)))), (aE, .inl (cE, 131072, .inl (fun zz => nI (en zz)))), (aP, .inl (cP, 131072, .inl (fun zz => nI (pa zz)))), (aL, .inl (cL, 131072, .inl (fun zz => nI (li zz)))), (aQ, .inl (cQ, 262144, .inl (fun zz => nI (sl zz)))), (ta, .inl (cB, NB, .inl (T)))] H locs := h
            refine lv_istore_n X.1.1 X.1.2.1 zd_Su_goDown_110 rfl hl (by decide) rfl (fun ls hl => ?_)
            have hl : lv_has ls 6 [(2, .int (nI u)), (5, .int (nI (en (sl r1) - (st (sl r1))))), (4, .int (nI (sl r1))), (0, .ref t0), (1, .int (nI pl)), (3, .int (nI k))] := hl
            refine lv_iinc X.1.1 X.1.2.1 zd_Su_goDown_111 hl (k := 5) rfl (v := nI (k + 1)) (nI_add _ _) (by decide) rfl (fun ls hl => ?_)
            have hl : lv_has ls 6 [(3, .int (nI (k + 1))), (2, .int (nI u)), (5, .int (nI (en (sl r1) - (st (sl r1))))), (4, .int (nI (sl r1))), (0, .ref t0), (1, .int (nI pl))] := hl
            refine lv_goto (tgt := 22) X.1.1 X.1.2.1 zd_Su_goDown_114 rfl ?_
            exact ih (k + 1) (sl r1) (L1 - (en (sl r1) - st (sl r1))) u ls H locs (by omega) (by omega) (by rw [show L1 - (en (sl r1) - st (sl r1)) = L1 - (dp (sl r1) - dp a1) by omega]; exact w6 (by omega)) (q2) (lv_sub hl [4, 5, 1, 0] rfl) h
          · have c3 : L1 < en (sl r1) - (st (sl r1)) := zc_ge_f (by omega) (by omega) c3
            refine lv_goto (tgt := 117) X.1.1 X.1.2.1 zd_Su_goDown_71 rfl ?_
            refine lv_iload_n X.1.1 X.1.2.1 zd_Su_goDown_117 rfl (lv_at hl 4 rfl) ?_
            exact ret _ (a1, L1, r1) H locs ls _ (⟨rfl, hB, hq, fun _ => c3⟩) h zd_Su_goDown_118
  exact loop _ 0 an L u ls H locs (Nat.lt_succ_self _) (by omega) (hA) (q1) (lv_sub hl [2, 3, 1, 0] rfl) h

set_option maxHeartbeats 4000000 in
set_option maxRecDepth 100000 in
theorem zc_Su_addLetter (l : Launch) (D : va_G) {t0 ta n aS aE aP aL nd aQ M sh an L wt fl NB : Nat} {fp : Int32} {st en pa li sl : Nat → Nat} {T : Nat → Int32} {cS cE cP cL cQ cB : ClassId} {pl j : Nat} {ps dp : Nat → Nat} (hG : tG T n NB M sh nd j st en pa sl ps dp) (hL : tr_L T n nd 0 0 ps dp li) (hA : tr_A T nd j pl an L ps dp) (hwt : wt = pl - j) (hj : j ≤ pl) (hpl : pl < n) (sz : Nat) : zMv l D zy_Su_addLetter zb_Su_addLetter 7 ({ frames := 2, cells := 0, slots := 0, locals := 50 } : Room) [.ref t0, .int (nI pl)] [(cS, .int), (cE, .int), (cP, .int), (cL, .int), (cQ, .int), (cB, .byte)] [(t0, .inr (2, [.ref ta, .int (nI n), .ref aS, .ref aE, .ref aP, .ref aL, .int (nI nd), .ref aQ, .int (nI M), .int (nI sh), .int (nI an), .int (nI L), .int (nI wt), .int (nI fl), .int fp])), (aS, .inl (cS, 131072, .inl (fun zz => nI (st zz)))), (aE, .inl (cE, 131072, .inl (fun zz => nI (en zz)))), (aP, .inl (cP, 131072, .inl (fun zz => nI (pa zz)))), (aL, .inl (cL, 131072, .inl (fun zz => nI (li zz)))), (aQ, .inl (cQ, 262144, .inl (fun zz => nI (sl zz)))), (ta, .inl (cB, NB, .inl (T)))] sz (fun (u : Nat × Nat × Nat × Nat × Nat × (Nat → Nat) × (Nat → Nat) × (Nat → Nat) × (Nat → Nat) × (Nat → Nat) × (Nat → Nat) × (Nat → Nat)) => tG T n NB M sh u.1 u.2.2.2.2.1 u.2.2.2.2.2.1 u.2.2.2.2.2.2.1 u.2.2.2.2.2.2.2.1 u.2.2.2.2.2.2.2.2.2.1 u.2.2.2.2.2.2.2.2.2.2.1 u.2.2.2.2.2.2.2.2.2.2.2 ∧ tr_L T n u.1 0 0 u.2.2.2.2.2.2.2.2.2.2.1 u.2.2.2.2.2.2.2.2.2.2.2 u.2.2.2.2.2.2.2.2.1 ∧ tr_A T u.1 u.2.2.2.2.1 (pl + 1) u.2.1 u.2.2.1 u.2.2.2.2.2.2.2.2.2.2.1 u.2.2.2.2.2.2.2.2.2.2.2 ∧ u.2.2.2.1 = pl + 1 - u.2.2.2.2.1 ∧ u.2.2.2.2.1 ≤ pl + 1) (fun u => [(t0, .inr (2, [.ref ta, .int (nI n), .ref aS, .ref aE, .ref aP, .ref aL, .int (nI u.1), .ref aQ, .int (nI M), .int (nI sh), .int (nI u.2.1), .int (nI u.2.2.1), .int (nI u.2.2.2.1), .int (nI fl), .int fp])), (aS, .inl (cS, 131072, .inl (fun zz => nI (u.2.2.2.2.2.1 zz)))), (aE, .inl (cE, 131072, .inl (fun zz => nI (u.2.2.2.2.2.2.1 zz)))), (aP, .inl (cP, 131072, .inl (fun zz => nI (u.2.2.2.2.2.2.2.1 zz)))), (aL, .inl (cL, 131072, .inl (fun zz => nI (u.2.2.2.2.2.2.2.2.1 zz)))), (aQ, .inl (cQ, 262144, .inl (fun zz => nI (u.2.2.2.2.2.2.2.2.2.1 zz)))), (ta, .inl (cB, NB, .inl (T)))]) := by
  refine zEv (by decide) (Nat.le_of_ble_eq_true rfl) (fun p e s m args below meth c ls A Q X hin hl h hsz ret => ?_)
  have hl : lv_has ls 7 [(0, .ref t0), (1, .int (nI pl))] := hl
  generalize hH0 : s.heap = H at h ⊢
  have h : zH D A s [(t0, .inr (2, [.ref ta, .int (nI n), .ref aS, .ref aE, .ref aP, .ref aL, .int (nI nd), .ref aQ, .int (nI M), .int (nI sh), .int (nI an), .int (nI L), .int (nI wt), .int (nI fl), .int fp])), (aS, .inl (cS, 131072, .inl (fun zz => nI (st zz)))), (aE, .inl (cE, 131072, .inl (fun zz => nI (en zz)))), (aP, .inl (cP, 131072, .inl (fun zz => nI (pa zz)))), (aL, .inl (cL, 131072, .inl (fun zz => nI (li zz)))), (aQ, .inl (cQ, 262144, .inl (fun zz => nI (sl zz)))), (ta, .inl (cB, NB, .inl (T)))] H [] := h
  generalize hL0 : ([] : List Loc) = locs at h ⊢
  obtain ⟨k1, k2, k3, k4, -⟩ := hG.1
  have hV0 : tV T n NB M sh nd j pl 0 an L st en pa li sl ps dp := ⟨hG, hL, Or.inl rfl, Or.inl ⟨hj, hA⟩⟩
  have hwt1 : wt + 1 = pl + 1 - j := by omega
  have hwb : wt < 65536 := by omega
  refine lv_iconst (v := nI 0) X.1.1 X.1.2.1 zd_Su_addLetter_0 (by decide) ?_
  refine lv_istore_n X.1.1 X.1.2.1 zd_Su_addLetter_1 rfl hl (by decide) rfl (fun ls hl => ?_)
  have hl : lv_has ls 7 [(2, .int (nI 0)), (0, .ref t0), (1, .int (nI pl))] := hl
  refine lv_aload_n X.1.1 X.1.2.1 zd_Su_addLetter_2 rfl (lv_at hl 1 rfl) ?_
  refine lv_dup X.1.1 X.1.2.1 zd_Su_addLetter_3 rfl ?_
  refine rG X h 0 rfl rfl zW_Su 12 (by decide) zw_60 rfl zd_Su_addLetter_4 ?_
  refine lv_iconst (v := nI 1) X.1.1 X.1.2.1 zd_Su_addLetter_7 (by decide) ?_
  refine lv_iadd X.1.1 X.1.2.1 zd_Su_addLetter_8 ?_
  refine zTop (y := nI (wt + 1)) (nI_add _ _) ?_
  refine rP X h 0 rfl rfl zW_Su zO_Su zN_Su 12 (by decide) zw_60 rfl (rfl) (rfl) (Nat.le_of_ble_eq_true rfl) zd_Su_addLetter_9 (fun H locs h => ?_)
  have h : zH D A s [(t0, .inr (2, [.ref ta, .int (nI n), .ref aS, .ref aE, .ref aP, .ref aL, .int (nI nd), .ref aQ, .int (nI M), .int (nI sh), .int (nI an), .int (nI L), .int (nI (wt + 1)), .int (nI fl), .int fp])), (aS, .inl (cS, 131072, .inl (fun zz => nI (st zz)))), (aE, .inl (cE, 131072, .inl (fun zz => nI (en zz)))), (aP, .inl (cP, 131072, .inl (fun zz => nI (pa zz)))), (aL, .inl (cL, 131072, .inl (fun zz => nI (li zz)))), (aQ, .inl (cQ, 262144, .inl (fun zz => nI (sl zz)))), (ta, .inl (cB, NB, .inl (T)))] H locs := h
  have loop : ∀ (fu : Nat) (wl : Nat) (wt1 : Nat) (j1 : Nat) (nd1 : Nat) (an1 : Nat) (L1 : Nat) (st1 : Nat → Nat) (en1 : Nat → Nat) (pa1 : Nat → Nat) (li1 : Nat → Nat) (sl1 : Nat → Nat) (ps1 : Nat → Nat) (dp1 : Nat → Nat) (ls : Array Slot) (H : Heap) (locs : List Loc), wt1 < fu → wt1 = pl + 1 - j1 → tV T n NB M sh nd1 j1 pl wl an1 L1 st1 en1 pa1 li1 sl1 ps1 dp1 → lv_has ls 7 [(0, .ref t0), (1, .int (nI pl)), (2, .int (nI wl))] → zH D A s [(t0, .inr (2, [.ref ta, .int (nI n), .ref aS, .ref aE, .ref aP, .ref aL, .int (nI nd1), .ref aQ, .int (nI M), .int (nI sh), .int (nI an1), .int (nI L1), .int (nI wt1), .int (nI fl), .int fp])), (aS, .inl (cS, 131072, .inl (fun zz => nI (st1 zz)))), (aE, .inl (cE, 131072, .inl (fun zz => nI (en1 zz)))), (aP, .inl (cP, 131072, .inl (fun zz => nI (pa1 zz)))), (aL, .inl (cL, 131072, .inl (fun zz => nI (li1 zz)))), (aQ, .inl (cQ, 262144, .inl (fun zz => nI (sl1 zz)))), (ta, .inl (cB, NB, .inl (T)))] H locs → W p l e ({ frames := 2, cells := 0, slots := 0, locals := 50 } : Room) s m args below meth c H locs 0 0 Q (F0 m 12 ls []) := by
    intro fu
    induction fu with
    | zero => intro wl wt1 j1 nd1 an1 L1 st1 en1 pa1 li1 sl1 ps1 dp1 ls H locs hfu; exact absurd hfu (Nat.not_lt_zero _)
    | succ fu ih =>
      intro wl wt1 j1 nd1 an1 L1 st1 en1 pa1 li1 sl1 ps1 dp1 ls H locs hfu hw1 hV hl h
      obtain ⟨hG, hL, hB, hA⟩ := hV
      have hj1 := hG.2.2.2.1
      refine lv_aload_n X.1.1 X.1.2.1 zd_Su_addLetter_12 rfl (lv_at hl 0 rfl) ?_
      refine rG X h 0 rfl rfl zW_Su 12 (by decide) zw_60 rfl zd_Su_addLetter_13 ?_
      refine lv_if_le (tgt := 165) X.1.1 X.1.2.1 zd_Su_addLetter_16 rfl (fun c1 => ?_) (fun c1 => ?_)
      · have c1 : wt1 ≤ 0 := zc_le0_t (by omega) (by omega) c1
        rcases hA with ⟨z1, z2⟩ | ⟨z1, z2, z3⟩
        · exact absurd c1 (by omega)
        · rw [z2] at hL
          exact ret (nd1, an1, L1, wt1, j1, st1, en1, pa1, li1, sl1, ps1, dp1) H locs ls _ (⟨hG, hL, z3, by show wt1 = pl + 1 - j1; omega, by show j1 ≤ pl + 1; omega⟩) h zd_Su_addLetter_165
      · have c1 : 0 < wt1 := zc_le0_f (by omega) (by omega) c1
        have hjl : j1 ≤ pl := by rcases hA with z | z <;> omega
        have hA := (hA.resolve_right (fun z => by omega)).2
        have hnd := tG_nd hG
        have hrm := tG_room hG (by omega)
        have hwl : wl < nd1 := by rcases hB with z | z <;> omega
        refine lv_aload_n X.1.1 X.1.2.1 zd_Su_addLetter_19 rfl (lv_at hl 0 rfl) ?_
        refine lv_iload_n X.1.1 X.1.2.1 zd_Su_addLetter_20 rfl (lv_at hl 1 rfl) ?_
        refine rCi (wr := []) (wf := fun u => [(t0, .inr (2, [.ref ta, .int (nI n), .ref aS, .ref aE, .ref aP, .ref aL, .int (nI nd1), .ref aQ, .int (nI M), .int (nI sh), .int (nI u.1), .int (nI u.2.1), .int (nI wt1), .int (nI fl), .int fp])), (aS, .inl (cS, 131072, .inl (fun zz => nI (st1 zz)))), (aE, .inl (cE, 131072, .inl (fun zz => nI (en1 zz)))), (aP, .inl (cP, 131072, .inl (fun zz => nI (pa1 zz)))), (aL, .inl (cL, 131072, .inl (fun zz => nI (li1 zz)))), (aQ, .inl (cQ, 262144, .inl (fun zz => nI (sl1 zz)))), (ta, .inl (cB, NB, .inl (T)))]) (rest := []) X h hl.1 (zc_Su_goDown l D (t0 := t0) (ta := ta) (n := n) (aS := aS) (aE := aE) (aP := aP) (aL := aL) (nd := nd1) (aQ := aQ) (M := M) (sh := sh) (an := an1) (L := L1) (wt := wt1) (fl := fl) (fp := fp) (st := st1) (cS := cS) (en := en1) (cE := cE) (pa := pa1) (cP := cP) (li := li1) (cL := cL) (sl := sl1) (cQ := cQ) (T := T) (cB := cB) (NB := NB) (pl := pl) (j := j1) (ps := ps1) (dp := dp1) (hG) (hA) (hpl) H.size) zw_198 zw_200 zs_3 zw_3 zm_Su_goDown zq_Su_goDown ⟨Nat.le_of_ble_eq_true rfl, Nat.le_of_ble_eq_true rfl⟩ ⟨Nat.le_of_ble_eq_true rfl, Nat.le_of_ble_eq_true rfl⟩ [0, 1, 2, 3, 4, 5] rfl [0, 1, 2, 3, 4, 5, 6] [] [0, 1, 2, 3, 4, 5, 6] rfl (by decide) rfl (by decide) (by decide) (fun _ => rfl) (by decide) 0 rfl rfl rfl (Nat.le_of_ble_eq_true rfl) zd_Su_addLetter_21 (fun r u H locs hp h => ?_)
        obtain ⟨rfl, q1⟩ := hp
        have h : zH D A s [(t0, .inr (2, [.ref ta, .int (nI n), .ref aS, .ref aE, .ref aP, .ref aL, .int (nI nd1), .ref aQ, .int (nI M), .int (nI sh), .int (nI u.1), .int (nI u.2.1), .int (nI wt1), .int (nI fl), .int fp])), (aS, .inl (cS, 131072, .inl (fun zz => nI (st1 zz)))), (aE, .inl (cE, 131072, .inl (fun zz => nI (en1 zz)))), (aP, .inl (cP, 131072, .inl (fun zz => nI (pa1 zz)))), (aL, .inl (cL, 131072, .inl (fun zz => nI (li1 zz)))), (aQ, .inl (cQ, 262144, .inl (fun zz => nI (sl1 zz)))), (ta, .inl (cB, NB, .inl (T)))] H locs := h
        obtain ⟨a2, L2, r2⟩ := u
        have h : zH D A s [(t0, .inr (2, [.ref ta, .int (nI n), .ref aS, .ref aE, .ref aP, .ref aL, .int (nI nd1), .ref aQ, .int (nI M), .int (nI sh), .int (nI a2), .int (nI L2), .int (nI wt1), .int (nI fl), .int fp])), (aS, .inl (cS, 131072, .inl (fun zz => nI (st1 zz)))), (aE, .inl (cE, 131072, .inl (fun zz => nI (en1 zz)))), (aP, .inl (cP, 131072, .inl (fun zz => nI (pa1 zz)))), (aL, .inl (cL, 131072, .inl (fun zz => nI (li1 zz)))), (aQ, .inl (cQ, 262144, .inl (fun zz => nI (sl1 zz)))), (ta, .inl (cB, NB, .inl (T)))] H locs := h
        refine zTop (y := nI r2) rfl ?_
        have q1 : tr_A T nd1 j1 pl a2 L2 ps1 dp1 ∧ hs_r M sl1 (hok pa1 st1 T a2 (T (pl - L2))) (hN sh a2 (T (pl - L2))) r2 ∧ (0 < L2 → L2 < en1 (sl1 r2) - st1 (sl1 r2)) := q1
        obtain ⟨hA2, hq, hlab⟩ := q1
        have hr2 := hs_r_lt hq
        have hjA := hA2.2.1
        have ha2 := hA2.1
        have hsr := hG.2.1.2.1.1 r2 hr2
        refine lv_istore_n X.1.1 X.1.2.1 zd_Su_addLetter_24 rfl hl (by decide) rfl (fun ls hl => ?_)
        have hl : lv_has ls 7 [(3, .int (nI r2)), (0, .ref t0), (1, .int (nI pl)), (2, .int (nI wl))] := hl
        refine lv_aload_n X.1.1 X.1.2.1 zd_Su_addLetter_25 rfl (lv_at hl 1 rfl) ?_
        refine rG X h 0 rfl rfl zW_Su 7 (by decide) zw_55 rfl zd_Su_addLetter_26 ?_
        refine lv_iload_n X.1.1 X.1.2.1 zd_Su_addLetter_29 rfl (lv_at hl 0 rfl) ?_
        refine rLn X h 5 4 rfl rfl (by omega) (by omega) zd_Su_addLetter_30 ?_
        refine lv_istore X.1.1 X.1.2.1 zd_Su_addLetter_31 hl (by decide) rfl (fun ls hl => ?_)
        have hl : lv_has ls 7 [(4, .int (nI (sl1 r2))), (3, .int (nI r2)), (0, .ref t0), (1, .int (nI pl)), (2, .int (nI wl))] := hl
        refine lv_iload X.1.1 X.1.2.1 zd_Su_addLetter_33 (lv_at hl 0 rfl) ?_
        rcases tG_child hG hA2 hpl hq hlab with ⟨z1, z2, z3⟩ | ⟨z1, z2, z3, z4, z5, z6, z7, z8, z9⟩
        · subst z2
          have h : zH D A s [(t0, .inr (2, [.ref ta, .int (nI n), .ref aS, .ref aE, .ref aP, .ref aL, .int (nI nd1), .ref aQ, .int (nI M), .int (nI sh), .int (nI a2), .int (nI 0), .int (nI wt1), .int (nI fl), .int fp])), (aS, .inl (cS, 131072, .inl (fun zz => nI (st1 zz)))), (aE, .inl (cE, 131072, .inl (fun zz => nI (en1 zz)))), (aP, .inl (cP, 131072, .inl (fun zz => nI (pa1 zz)))), (aL, .inl (cL, 131072, .inl (fun zz => nI (li1 zz)))), (aQ, .inl (cQ, 262144, .inl (fun zz => nI (sl1 zz)))), (ta, .inl (cB, NB, .inl (T)))] H locs := h
          refine lv_if_eq (tgt := 68) X.1.1 X.1.2.1 zd_Su_addLetter_35 rfl (fun e1 => ?_) (fun e1 => ?_)
          · have e1 : sl1 r2 = 0 := zc_eq0_t (by omega) (by omega) e1
            refine lv_iconst (v := nI 0) X.1.1 X.1.2.1 zd_Su_addLetter_68 (by decide) ?_
            refine lv_istore X.1.1 X.1.2.1 zd_Su_addLetter_69 hl (by decide) rfl (fun ls hl => ?_)
            have hl : lv_has ls 7 [(5, .int (nI 0)), (4, .int (nI (sl1 r2))), (3, .int (nI r2)), (0, .ref t0), (1, .int (nI pl)), (2, .int (nI wl))] := hl
            refine lv_iload X.1.1 X.1.2.1 zd_Su_addLetter_71 (lv_at hl 0 rfl) ?_
            refine lv_if_ne (tgt := 81) X.1.1 X.1.2.1 zd_Su_addLetter_73 rfl (fun e2 => ?_) (fun e2 => ?_)
            · have e2 : 0 ≠ 0 := zc_ne0_t (by omega) (by omega) e2
              exact absurd rfl e2
            · have e2 : 0 = 0 := zc_ne0_f (by omega) (by omega) e2
              refine lv_iload X.1.1 X.1.2.1 zd_Su_addLetter_76 (lv_at hl 1 rfl) ?_
              refine lv_if_ne (tgt := 88) X.1.1 X.1.2.1 zd_Su_addLetter_78 rfl (fun e3 => ?_) (fun e3 => ?_)
              · have e3 : sl1 r2 ≠ 0 := zc_ne0_t (by omega) (by omega) e3
                exact absurd z1 e3
              · have e3 : sl1 r2 = 0 := zc_ne0_f (by omega) (by omega) e3
                have hlk := tV_lk hL hB ha2 (by omega) hA2.2.2.1
                refine lv_aload_n X.1.1 X.1.2.1 zd_Su_addLetter_81 rfl (lv_at hl 3 rfl) ?_
                refine rG X h 0 rfl rfl zW_Su 10 (by decide) zw_58 rfl zd_Su_addLetter_82 ?_
                refine lv_goto (tgt := 95) X.1.1 X.1.2.1 zd_Su_addLetter_85 rfl ?_
                refine lv_istore X.1.1 X.1.2.1 zd_Su_addLetter_95 hl (by decide) rfl (fun ls hl => ?_)
                have hl : lv_has ls 7 [(6, .int (nI a2)), (5, .int (nI 0)), (4, .int (nI (sl1 r2))), (3, .int (nI r2)), (0, .ref t0), (1, .int (nI pl)), (2, .int (nI wl))] := hl
                refine lv_iload_n X.1.1 X.1.2.1 zd_Su_addLetter_97 rfl (lv_at hl 6 rfl) ?_
                refine lv_if_eq (tgt := 109) X.1.1 X.1.2.1 zd_Su_addLetter_98 rfl (fun e4 => ?_) (fun e4 => ?_)
                · have e4 : wl = 0 := zc_eq0_t (by omega) (by omega) e4
                  refine lv_iload X.1.1 X.1.2.1 zd_Su_addLetter_109 (lv_at hl 1 rfl) ?_
                  refine lv_if_eq (tgt := 125) X.1.1 X.1.2.1 zd_Su_addLetter_111 rfl (fun e5 => ?_) (fun e5 => ?_)
                  · have e5 : 0 = 0 := zc_eq0_t (by omega) (by omega) e5
                    refine lv_iload X.1.1 X.1.2.1 zd_Su_addLetter_125 (lv_at hl 0 rfl) ?_
                    refine lv_aload_n X.1.1 X.1.2.1 zd_Su_addLetter_127 rfl (lv_at hl 4 rfl) ?_
                    refine rG X h 0 rfl rfl zW_Su 10 (by decide) zw_58 rfl zd_Su_addLetter_128 ?_
                    refine lv_icmp_ne (tgt := 138) X.1.1 X.1.2.1 zd_Su_addLetter_131 rfl (fun e6 => ?_) (fun e6 => ?_)
                    · have e6 : a2 ≠ a2 := zc_ne_t (by omega) (by omega) e6
                      exact absurd rfl e6
                    · have e6 : a2 = a2 := zc_ne_f (by omega) (by omega) e6
                      refine lv_iconst (v := nI 0) X.1.1 X.1.2.1 zd_Su_addLetter_134 (by decide) ?_
                      refine lv_goto (tgt := 140) X.1.1 X.1.2.1 zd_Su_addLetter_135 rfl ?_
                      refine lv_istore_n X.1.1 X.1.2.1 zd_Su_addLetter_140 rfl hl (by decide) rfl (fun ls hl => ?_)
                      have hl : lv_has ls 7 [(2, .int (nI 0)), (6, .int (nI a2)), (5, .int (nI 0)), (4, .int (nI (sl1 r2))), (3, .int (nI r2)), (0, .ref t0), (1, .int (nI pl))] := hl
                      refine lv_aload_n X.1.1 X.1.2.1 zd_Su_addLetter_141 rfl (lv_at hl 5 rfl) ?_
                      refine lv_iload X.1.1 X.1.2.1 zd_Su_addLetter_142 (lv_at hl 1 rfl) ?_
                      refine lv_iload_n X.1.1 X.1.2.1 zd_Su_addLetter_144 rfl (lv_at hl 6 rfl) ?_
                      refine rCv (wr := []) (wf := fun u3 => [(t0, .inr (2, [.ref ta, .int (nI n), .ref aS, .ref aE, .ref aP, .ref aL, .int (nI (nd1 + 1)), .ref aQ, .int (nI M), .int (nI sh), .int (nI a2), .int (nI 0), .int (nI wt1), .int (nI fl), .int fp])), (aS, .inl (cS, 131072, .inl (fun zz => nI ((va_up st1 nd1 pl) zz)))), (aE, .inl (cE, 131072, .inl (fun zz => nI ((va_up en1 nd1 n) zz)))), (aP, .inl (cP, 131072, .inl (fun zz => nI ((va_up pa1 nd1 a2) zz)))), (aL, .inl (cL, 131072, .inl (fun zz => nI ((va_up li1 nd1 0) zz)))), (aQ, .inl (cQ, 262144, .inl (fun zz => nI ((va_up sl1 u3 nd1) zz)))), (ta, .inl (cB, NB, .inl (T)))]) (rest := []) X h hl.1 (zc_Su_addLeaf l D (t0 := t0) (ta := ta) (n := n) (aS := aS) (aE := aE) (aP := aP) (aL := aL) (nd := nd1) (aQ := aQ) (M := M) (sh := sh) (an := a2) (L := 0) (wt := wt1) (fl := fl) (fp := fp) (st := st1) (cS := cS) (en := en1) (cE := cE) (pa := pa1) (cP := cP) (li := li1) (cL := cL) (sl := sl1) (cQ := cQ) (T := T) (cB := cB) (NB := NB) (b := a2) (x := pl) (tG_O hG) (by omega) (by omega) (by omega) H.size) zw_215 zw_217 zs_7 zw_3 zm_Su_addLeaf zq_Su_addLeaf ⟨Nat.le_of_ble_eq_true rfl, Nat.le_of_ble_eq_true rfl⟩ ⟨Nat.le_of_ble_eq_true rfl, Nat.le_of_ble_eq_true rfl⟩ [0, 1, 2, 3, 4, 5] rfl [0, 1, 2, 3, 4, 5, 6] [] [0, 1, 2, 3, 4, 5, 6] rfl (by decide) rfl (by decide) (by decide) (fun _ => rfl) (by decide) 0 rfl rfl rfl (Nat.le_of_ble_eq_true rfl) zd_Su_addLetter_145 (fun u3 H locs hp h => ?_)
                      have q3 : hs_r M sl1 (hok pa1 st1 T a2 (T pl)) (hN sh a2 (T pl)) u3 := hp
                      have h : zH D A s [(t0, .inr (2, [.ref ta, .int (nI n), .ref aS, .ref aE, .ref aP, .ref aL, .int (nI (nd1 + 1)), .ref aQ, .int (nI M), .int (nI sh), .int (nI a2), .int (nI 0), .int (nI wt1), .int (nI fl), .int fp])), (aS, .inl (cS, 131072, .inl (fun zz => nI ((va_up st1 nd1 pl) zz)))), (aE, .inl (cE, 131072, .inl (fun zz => nI ((va_up en1 nd1 n) zz)))), (aP, .inl (cP, 131072, .inl (fun zz => nI ((va_up pa1 nd1 a2) zz)))), (aL, .inl (cL, 131072, .inl (fun zz => nI ((va_up li1 nd1 0) zz)))), (aQ, .inl (cQ, 262144, .inl (fun zz => nI ((va_up sl1 u3 nd1) zz)))), (ta, .inl (cB, NB, .inl (T)))] H locs := h
                      refine lv_aload_n X.1.1 X.1.2.1 zd_Su_addLetter_148 rfl (lv_at hl 5 rfl) ?_
                      refine rCv (wr := []) (wf := fun _ => [(t0, .inr (2, [.ref ta, .int (nI n), .ref aS, .ref aE, .ref aP, .ref aL, .int (nI (nd1 + 1)), .ref aQ, .int (nI M), .int (nI sh), .int (nI (if a2 = 0 then 0 else (va_up li1 nd1 0) a2)), .int (nI (if a2 = 0 then 0 - 1 else 0)), .int (nI wt1), .int (nI fl), .int fp])), (aS, .inl (cS, 131072, .inl (fun zz => nI ((va_up st1 nd1 pl) zz)))), (aE, .inl (cE, 131072, .inl (fun zz => nI ((va_up en1 nd1 n) zz)))), (aP, .inl (cP, 131072, .inl (fun zz => nI ((va_up pa1 nd1 a2) zz)))), (aL, .inl (cL, 131072, .inl (fun zz => nI ((va_up li1 nd1 0) zz)))), (aQ, .inl (cQ, 262144, .inl (fun zz => nI ((va_up sl1 u3 nd1) zz)))), (ta, .inl (cB, NB, .inl (T)))]) (rest := []) X h hl.1 (zc_Su_goToNextSuffix l D (t0 := t0) (ta := ta) (n := n) (aS := aS) (aE := aE) (aP := aP) (aL := aL) (nd := nd1 + 1) (aQ := aQ) (M := M) (sh := sh) (an := a2) (L := 0) (wt := wt1) (fl := fl) (fp := fp) (st := va_up st1 nd1 pl) (cS := cS) (en := va_up en1 nd1 n) (cE := cE) (pa := va_up pa1 nd1 a2) (cP := cP) (li := va_up li1 nd1 0) (cL := cL) (sl := va_up sl1 u3 nd1) (cQ := cQ) (T := T) (cB := cB) (NB := NB) (by omega) (by omega) H.size) zw_219 zw_221 zs_8 zw_3 zm_Su_goToNextSuffix zq_Su_goToNextSuffix ⟨Nat.le_of_ble_eq_true rfl, Nat.le_of_ble_eq_true rfl⟩ ⟨Nat.le_of_ble_eq_true rfl, Nat.le_of_ble_eq_true rfl⟩ [0, 1, 2, 3, 4, 5] rfl [0, 1, 2, 3, 4, 5, 6] [] [0, 1, 2, 3, 4, 5, 6] rfl (by decide) rfl (by decide) (by decide) (fun _ => rfl) (by decide) 0 rfl rfl rfl (Nat.le_of_ble_eq_true rfl) zd_Su_addLetter_149 (fun _ H locs hp h => ?_)
                      have h : zH D A s [(t0, .inr (2, [.ref ta, .int (nI n), .ref aS, .ref aE, .ref aP, .ref aL, .int (nI (nd1 + 1)), .ref aQ, .int (nI M), .int (nI sh), .int (nI (if a2 = 0 then 0 else (va_up li1 nd1 0) a2)), .int (nI (if a2 = 0 then 0 - 1 else 0)), .int (nI wt1), .int (nI fl), .int fp])), (aS, .inl (cS, 131072, .inl (fun zz => nI ((va_up st1 nd1 pl) zz)))), (aE, .inl (cE, 131072, .inl (fun zz => nI ((va_up en1 nd1 n) zz)))), (aP, .inl (cP, 131072, .inl (fun zz => nI ((va_up pa1 nd1 a2) zz)))), (aL, .inl (cL, 131072, .inl (fun zz => nI ((va_up li1 nd1 0) zz)))), (aQ, .inl (cQ, 262144, .inl (fun zz => nI ((va_up sl1 u3 nd1) zz)))), (ta, .inl (cB, NB, .inl (T)))] H locs := h
                      refine lv_aload_n X.1.1 X.1.2.1 zd_Su_addLetter_152 rfl (lv_at hl 5 rfl) ?_
                      refine lv_dup X.1.1 X.1.2.1 zd_Su_addLetter_153 rfl ?_
                      refine rG X h 0 rfl rfl zW_Su 12 (by decide) zw_60 rfl zd_Su_addLetter_154 ?_
                      refine lv_iconst (v := nI 1) X.1.1 X.1.2.1 zd_Su_addLetter_157 (by decide) ?_
                      refine lv_isub X.1.1 X.1.2.1 zd_Su_addLetter_158 ?_
                      refine zTop (y := nI (wt1 - 1)) (pk_sub (by omega)) ?_
                      refine rP X h 0 rfl rfl zW_Su zO_Su zN_Su 12 (by decide) zw_60 rfl (rfl) (rfl) (Nat.le_of_ble_eq_true rfl) zd_Su_addLetter_159 (fun H locs h => ?_)
                      have h : zH D A s [(t0, .inr (2, [.ref ta, .int (nI n), .ref aS, .ref aE, .ref aP, .ref aL, .int (nI (nd1 + 1)), .ref aQ, .int (nI M), .int (nI sh), .int (nI (if a2 = 0 then 0 else (va_up li1 nd1 0) a2)), .int (nI (if a2 = 0 then 0 - 1 else 0)), .int (nI (wt1 - 1)), .int (nI fl), .int fp])), (aS, .inl (cS, 131072, .inl (fun zz => nI ((va_up st1 nd1 pl) zz)))), (aE, .inl (cE, 131072, .inl (fun zz => nI ((va_up en1 nd1 n) zz)))), (aP, .inl (cP, 131072, .inl (fun zz => nI ((va_up pa1 nd1 a2) zz)))), (aL, .inl (cL, 131072, .inl (fun zz => nI ((va_up li1 nd1 0) zz)))), (aQ, .inl (cQ, 262144, .inl (fun zz => nI ((va_up sl1 u3 nd1) zz)))), (ta, .inl (cB, NB, .inl (T)))] H locs := h
                      refine lv_goto (tgt := 12) X.1.1 X.1.2.1 zd_Su_addLetter_162 rfl ?_
                      exact ih 0 (wt1 - 1) (j1 + 1) (nd1 + 1) (if a2 = 0 then 0 else (va_up li1 nd1 0) a2) (if a2 = 0 then 0 - 1 else 0) (va_up st1 nd1 pl) (va_up en1 nd1 n) (va_up pa1 nd1 a2) (va_up li1 nd1 0) (va_up sl1 u3 nd1) (va_up ps1 nd1 j1) (va_up dp1 nd1 (n - j1)) ls H locs (by omega) (by omega) (tV_none hG hA2 hpl z3 (hlk.1 e4) q3) (lv_sub hl [5, 6, 0] rfl) h
                  · have e5 : 0 ≠ 0 := zc_eq0_f (by omega) (by omega) e5
                    exact absurd rfl e5
                · have e4 : wl ≠ 0 := zc_eq0_f (by omega) (by omega) e4
                  refine lv_aload_n X.1.1 X.1.2.1 zd_Su_addLetter_101 rfl (lv_at hl 4 rfl) ?_
                  refine rG X h 0 rfl rfl zW_Su 5 (by decide) zw_53 rfl zd_Su_addLetter_102 ?_
                  refine lv_iload_n X.1.1 X.1.2.1 zd_Su_addLetter_105 rfl (lv_at hl 6 rfl) ?_
                  refine lv_iload X.1.1 X.1.2.1 zd_Su_addLetter_106 (lv_at hl 0 rfl) ?_
                  refine rSn X h 4 3 rfl rfl (by omega) (by omega) zd_Su_addLetter_108 (fun H locs h => ?_)
                  have h : zH D A s [(t0, .inr (2, [.ref ta, .int (nI n), .ref aS, .ref aE, .ref aP, .ref aL, .int (nI nd1), .ref aQ, .int (nI M), .int (nI sh), .int (nI a2), .int (nI 0), .int (nI wt1), .int (nI fl), .int fp])), (aS, .inl (cS, 131072, .inl (fun zz => nI (st1 zz)))), (aE, .inl (cE, 131072, .inl (fun zz => nI (en1 zz)))), (aP, .inl (cP, 131072, .inl (fun zz => nI (pa1 zz)))), (aL, .inl (cL, 131072, .inl (fun zz => nI ((va_up li1 wl a2) zz)))), (aQ, .inl (cQ, 262144, .inl (fun zz => nI (sl1 zz)))), (ta, .inl (cB, NB, .inl (T)))] H locs := h
                  refine lv_iload X.1.1 X.1.2.1 zd_Su_addLetter_109 (lv_at hl 1 rfl) ?_
                  refine lv_if_eq (tgt := 125) X.1.1 X.1.2.1 zd_Su_addLetter_111 rfl (fun e5 => ?_) (fun e5 => ?_)
                  · have e5 : 0 = 0 := zc_eq0_t (by omega) (by omega) e5
                    refine lv_iload X.1.1 X.1.2.1 zd_Su_addLetter_125 (lv_at hl 0 rfl) ?_
                    refine lv_aload_n X.1.1 X.1.2.1 zd_Su_addLetter_127 rfl (lv_at hl 4 rfl) ?_
                    refine rG X h 0 rfl rfl zW_Su 10 (by decide) zw_58 rfl zd_Su_addLetter_128 ?_
                    refine lv_icmp_ne (tgt := 138) X.1.1 X.1.2.1 zd_Su_addLetter_131 rfl (fun e6 => ?_) (fun e6 => ?_)
                    · have e6 : a2 ≠ a2 := zc_ne_t (by omega) (by omega) e6
                      exact absurd rfl e6
                    · have e6 : a2 = a2 := zc_ne_f (by omega) (by omega) e6
                      refine lv_iconst (v := nI 0) X.1.1 X.1.2.1 zd_Su_addLetter_134 (by decide) ?_
                      refine lv_goto (tgt := 140) X.1.1 X.1.2.1 zd_Su_addLetter_135 rfl ?_
                      refine lv_istore_n X.1.1 X.1.2.1 zd_Su_addLetter_140 rfl hl (by decide) rfl (fun ls hl => ?_)
                      have hl : lv_has ls 7 [(2, .int (nI 0)), (6, .int (nI a2)), (5, .int (nI 0)), (4, .int (nI (sl1 r2))), (3, .int (nI r2)), (0, .ref t0), (1, .int (nI pl))] := hl
                      refine lv_aload_n X.1.1 X.1.2.1 zd_Su_addLetter_141 rfl (lv_at hl 5 rfl) ?_
                      refine lv_iload X.1.1 X.1.2.1 zd_Su_addLetter_142 (lv_at hl 1 rfl) ?_
                      refine lv_iload_n X.1.1 X.1.2.1 zd_Su_addLetter_144 rfl (lv_at hl 6 rfl) ?_
                      refine rCv (wr := []) (wf := fun u3 => [(t0, .inr (2, [.ref ta, .int (nI n), .ref aS, .ref aE, .ref aP, .ref aL, .int (nI (nd1 + 1)), .ref aQ, .int (nI M), .int (nI sh), .int (nI a2), .int (nI 0), .int (nI wt1), .int (nI fl), .int fp])), (aS, .inl (cS, 131072, .inl (fun zz => nI ((va_up st1 nd1 pl) zz)))), (aE, .inl (cE, 131072, .inl (fun zz => nI ((va_up en1 nd1 n) zz)))), (aP, .inl (cP, 131072, .inl (fun zz => nI ((va_up pa1 nd1 a2) zz)))), (aL, .inl (cL, 131072, .inl (fun zz => nI ((va_up (va_up li1 wl a2) nd1 0) zz)))), (aQ, .inl (cQ, 262144, .inl (fun zz => nI ((va_up sl1 u3 nd1) zz)))), (ta, .inl (cB, NB, .inl (T)))]) (rest := []) X h hl.1 (zc_Su_addLeaf l D (t0 := t0) (ta := ta) (n := n) (aS := aS) (aE := aE) (aP := aP) (aL := aL) (nd := nd1) (aQ := aQ) (M := M) (sh := sh) (an := a2) (L := 0) (wt := wt1) (fl := fl) (fp := fp) (st := st1) (cS := cS) (en := en1) (cE := cE) (pa := pa1) (cP := cP) (li := va_up li1 wl a2) (cL := cL) (sl := sl1) (cQ := cQ) (T := T) (cB := cB) (NB := NB) (b := a2) (x := pl) (tG_O hG) (by omega) (by omega) (by omega) H.size) zw_215 zw_217 zs_7 zw_3 zm_Su_addLeaf zq_Su_addLeaf ⟨Nat.le_of_ble_eq_true rfl, Nat.le_of_ble_eq_true rfl⟩ ⟨Nat.le_of_ble_eq_true rfl, Nat.le_of_ble_eq_true rfl⟩ [0, 1, 2, 3, 4, 5] rfl [0, 1, 2, 3, 4, 5, 6] [] [0, 1, 2, 3, 4, 5, 6] rfl (by decide) rfl (by decide) (by decide) (fun _ => rfl) (by decide) 0 rfl rfl rfl (Nat.le_of_ble_eq_true rfl) zd_Su_addLetter_145 (fun u3 H locs hp h => ?_)
                      have q3 : hs_r M sl1 (hok pa1 st1 T a2 (T pl)) (hN sh a2 (T pl)) u3 := hp
                      have h : zH D A s [(t0, .inr (2, [.ref ta, .int (nI n), .ref aS, .ref aE, .ref aP, .ref aL, .int (nI (nd1 + 1)), .ref aQ, .int (nI M), .int (nI sh), .int (nI a2), .int (nI 0), .int (nI wt1), .int (nI fl), .int fp])), (aS, .inl (cS, 131072, .inl (fun zz => nI ((va_up st1 nd1 pl) zz)))), (aE, .inl (cE, 131072, .inl (fun zz => nI ((va_up en1 nd1 n) zz)))), (aP, .inl (cP, 131072, .inl (fun zz => nI ((va_up pa1 nd1 a2) zz)))), (aL, .inl (cL, 131072, .inl (fun zz => nI ((va_up (va_up li1 wl a2) nd1 0) zz)))), (aQ, .inl (cQ, 262144, .inl (fun zz => nI ((va_up sl1 u3 nd1) zz)))), (ta, .inl (cB, NB, .inl (T)))] H locs := h
                      refine lv_aload_n X.1.1 X.1.2.1 zd_Su_addLetter_148 rfl (lv_at hl 5 rfl) ?_
                      refine rCv (wr := []) (wf := fun _ => [(t0, .inr (2, [.ref ta, .int (nI n), .ref aS, .ref aE, .ref aP, .ref aL, .int (nI (nd1 + 1)), .ref aQ, .int (nI M), .int (nI sh), .int (nI (if a2 = 0 then 0 else (va_up (va_up li1 wl a2) nd1 0) a2)), .int (nI (if a2 = 0 then 0 - 1 else 0)), .int (nI wt1), .int (nI fl), .int fp])), (aS, .inl (cS, 131072, .inl (fun zz => nI ((va_up st1 nd1 pl) zz)))), (aE, .inl (cE, 131072, .inl (fun zz => nI ((va_up en1 nd1 n) zz)))), (aP, .inl (cP, 131072, .inl (fun zz => nI ((va_up pa1 nd1 a2) zz)))), (aL, .inl (cL, 131072, .inl (fun zz => nI ((va_up (va_up li1 wl a2) nd1 0) zz)))), (aQ, .inl (cQ, 262144, .inl (fun zz => nI ((va_up sl1 u3 nd1) zz)))), (ta, .inl (cB, NB, .inl (T)))]) (rest := []) X h hl.1 (zc_Su_goToNextSuffix l D (t0 := t0) (ta := ta) (n := n) (aS := aS) (aE := aE) (aP := aP) (aL := aL) (nd := nd1 + 1) (aQ := aQ) (M := M) (sh := sh) (an := a2) (L := 0) (wt := wt1) (fl := fl) (fp := fp) (st := va_up st1 nd1 pl) (cS := cS) (en := va_up en1 nd1 n) (cE := cE) (pa := va_up pa1 nd1 a2) (cP := cP) (li := va_up (va_up li1 wl a2) nd1 0) (cL := cL) (sl := va_up sl1 u3 nd1) (cQ := cQ) (T := T) (cB := cB) (NB := NB) (by omega) (by omega) H.size) zw_219 zw_221 zs_8 zw_3 zm_Su_goToNextSuffix zq_Su_goToNextSuffix ⟨Nat.le_of_ble_eq_true rfl, Nat.le_of_ble_eq_true rfl⟩ ⟨Nat.le_of_ble_eq_true rfl, Nat.le_of_ble_eq_true rfl⟩ [0, 1, 2, 3, 4, 5] rfl [0, 1, 2, 3, 4, 5, 6] [] [0, 1, 2, 3, 4, 5, 6] rfl (by decide) rfl (by decide) (by decide) (fun _ => rfl) (by decide) 0 rfl rfl rfl (Nat.le_of_ble_eq_true rfl) zd_Su_addLetter_149 (fun _ H locs hp h => ?_)
                      have h : zH D A s [(t0, .inr (2, [.ref ta, .int (nI n), .ref aS, .ref aE, .ref aP, .ref aL, .int (nI (nd1 + 1)), .ref aQ, .int (nI M), .int (nI sh), .int (nI (if a2 = 0 then 0 else (va_up (va_up li1 wl a2) nd1 0) a2)), .int (nI (if a2 = 0 then 0 - 1 else 0)), .int (nI wt1), .int (nI fl), .int fp])), (aS, .inl (cS, 131072, .inl (fun zz => nI ((va_up st1 nd1 pl) zz)))), (aE, .inl (cE, 131072, .inl (fun zz => nI ((va_up en1 nd1 n) zz)))), (aP, .inl (cP, 131072, .inl (fun zz => nI ((va_up pa1 nd1 a2) zz)))), (aL, .inl (cL, 131072, .inl (fun zz => nI ((va_up (va_up li1 wl a2) nd1 0) zz)))), (aQ, .inl (cQ, 262144, .inl (fun zz => nI ((va_up sl1 u3 nd1) zz)))), (ta, .inl (cB, NB, .inl (T)))] H locs := h
                      refine lv_aload_n X.1.1 X.1.2.1 zd_Su_addLetter_152 rfl (lv_at hl 5 rfl) ?_
                      refine lv_dup X.1.1 X.1.2.1 zd_Su_addLetter_153 rfl ?_
                      refine rG X h 0 rfl rfl zW_Su 12 (by decide) zw_60 rfl zd_Su_addLetter_154 ?_
                      refine lv_iconst (v := nI 1) X.1.1 X.1.2.1 zd_Su_addLetter_157 (by decide) ?_
                      refine lv_isub X.1.1 X.1.2.1 zd_Su_addLetter_158 ?_
                      refine zTop (y := nI (wt1 - 1)) (pk_sub (by omega)) ?_
                      refine rP X h 0 rfl rfl zW_Su zO_Su zN_Su 12 (by decide) zw_60 rfl (rfl) (rfl) (Nat.le_of_ble_eq_true rfl) zd_Su_addLetter_159 (fun H locs h => ?_)
                      have h : zH D A s [(t0, .inr (2, [.ref ta, .int (nI n), .ref aS, .ref aE, .ref aP, .ref aL, .int (nI (nd1 + 1)), .ref aQ, .int (nI M), .int (nI sh), .int (nI (if a2 = 0 then 0 else (va_up (va_up li1 wl a2) nd1 0) a2)), .int (nI (if a2 = 0 then 0 - 1 else 0)), .int (nI (wt1 - 1)), .int (nI fl), .int fp])), (aS, .inl (cS, 131072, .inl (fun zz => nI ((va_up st1 nd1 pl) zz)))), (aE, .inl (cE, 131072, .inl (fun zz => nI ((va_up en1 nd1 n) zz)))), (aP, .inl (cP, 131072, .inl (fun zz => nI ((va_up pa1 nd1 a2) zz)))), (aL, .inl (cL, 131072, .inl (fun zz => nI ((va_up (va_up li1 wl a2) nd1 0) zz)))), (aQ, .inl (cQ, 262144, .inl (fun zz => nI ((va_up sl1 u3 nd1) zz)))), (ta, .inl (cB, NB, .inl (T)))] H locs := h
                      refine lv_goto (tgt := 12) X.1.1 X.1.2.1 zd_Su_addLetter_162 rfl ?_
                      exact ih 0 (wt1 - 1) (j1 + 1) (nd1 + 1) (if a2 = 0 then 0 else (va_up (va_up li1 wl a2) nd1 0) a2) (if a2 = 0 then 0 - 1 else 0) (va_up st1 nd1 pl) (va_up en1 nd1 n) (va_up pa1 nd1 a2) (va_up (va_up li1 wl a2) nd1 0) (va_up sl1 u3 nd1) (va_up ps1 nd1 j1) (va_up dp1 nd1 (n - j1)) ls H locs (by omega) (by omega) (tV_none hG hA2 hpl z3 (hlk.2 e4) q3) (lv_sub hl [5, 6, 0] rfl) h
                  · have e5 : 0 ≠ 0 := zc_eq0_f (by omega) (by omega) e5
                    exact absurd rfl e5
          · have e1 : sl1 r2 ≠ 0 := zc_eq0_f (by omega) (by omega) e1
            exact absurd z1 e1
        · have hst : st1 (sl1 r2) + L2 < n := by omega
          refine lv_if_eq (tgt := 68) X.1.1 X.1.2.1 zd_Su_addLetter_35 rfl (fun e1 => ?_) (fun e1 => ?_)
          · have e1 : sl1 r2 = 0 := zc_eq0_t (by omega) (by omega) e1
            exact absurd e1 (by omega)
          · have e1 : sl1 r2 ≠ 0 := zc_eq0_f (by omega) (by omega) e1
            refine lv_aload_n X.1.1 X.1.2.1 zd_Su_addLetter_38 rfl (lv_at hl 2 rfl) ?_
            refine rG X h 0 rfl rfl zW_Su 0 (by decide) zw_48 rfl zd_Su_addLetter_39 ?_
            refine lv_aload_n X.1.1 X.1.2.1 zd_Su_addLetter_42 rfl (lv_at hl 2 rfl) ?_
            refine rG X h 0 rfl rfl zW_Su 2 (by decide) zw_50 rfl zd_Su_addLetter_43 ?_
            refine lv_iload X.1.1 X.1.2.1 zd_Su_addLetter_46 (lv_at hl 0 rfl) ?_
            refine rLn X h 1 0 rfl rfl (by omega) (by omega) zd_Su_addLetter_48 ?_
            refine lv_aload_n X.1.1 X.1.2.1 zd_Su_addLetter_49 rfl (lv_at hl 2 rfl) ?_
            refine rG X h 0 rfl rfl zW_Su 11 (by decide) zw_59 rfl zd_Su_addLetter_50 ?_
            refine lv_iadd X.1.1 X.1.2.1 zd_Su_addLetter_53 ?_
            refine zTop (y := nI (st1 (sl1 r2) + L2)) (nI_add _ _) ?_
            refine rLb X h 6 5 rfl rfl (by omega) (by omega) zd_Su_addLetter_54 ?_
            refine lv_aload_n X.1.1 X.1.2.1 zd_Su_addLetter_55 rfl (lv_at hl 2 rfl) ?_
            refine rG X h 0 rfl rfl zW_Su 0 (by decide) zw_48 rfl zd_Su_addLetter_56 ?_
            refine lv_iload_n X.1.1 X.1.2.1 zd_Su_addLetter_59 rfl (lv_at hl 3 rfl) ?_
            refine rLb X h 6 5 rfl rfl (by omega) (by omega) zd_Su_addLetter_60 ?_
            refine lv_icmp_ne (tgt := 68) X.1.1 X.1.2.1 zd_Su_addLetter_61 rfl (fun e2 => ?_) (fun e2 => ?_)
            · have hL0 : 0 < L2 := by
                by_cases hc : L2 = 0
                · exact absurd (by rw [z4, hc]; exact z8 hc) e2
                · omega
              have hT0 : T (ps1 (sl1 r2) + dp1 a2) = T (pl - L2) := by
                obtain ⟨w, w1, w2, w3, w4, w5, w6, w7⟩ := tr_go hG.2.1.1 hA2 hpl hL0
                have ew := gw_hit hG.2.1 (tG_q hG hq) w1 w2 w3 w5
                rw [ew]; exact w5
              have hsp := tG_split hG hA2 z1 z2 z3 hL0 z6 hpl z4 rfl hT0 hq
              refine lv_iconst (v := nI 0) X.1.1 X.1.2.1 zd_Su_addLetter_68 (by decide) ?_
              refine lv_istore X.1.1 X.1.2.1 zd_Su_addLetter_69 hl (by decide) rfl (fun ls hl => ?_)
              have hl : lv_has ls 7 [(5, .int (nI 0)), (4, .int (nI (sl1 r2))), (3, .int (nI r2)), (0, .ref t0), (1, .int (nI pl)), (2, .int (nI wl))] := hl
              refine lv_iload X.1.1 X.1.2.1 zd_Su_addLetter_71 (lv_at hl 0 rfl) ?_
              refine lv_if_ne (tgt := 81) X.1.1 X.1.2.1 zd_Su_addLetter_73 rfl (fun e3 => ?_) (fun e3 => ?_)
              · have e3 : 0 ≠ 0 := zc_ne0_t (by omega) (by omega) e3
                exact absurd rfl e3
              · have e3 : 0 = 0 := zc_ne0_f (by omega) (by omega) e3
                refine lv_iload X.1.1 X.1.2.1 zd_Su_addLetter_76 (lv_at hl 1 rfl) ?_
                refine lv_if_ne (tgt := 88) X.1.1 X.1.2.1 zd_Su_addLetter_78 rfl (fun e4 => ?_) (fun e4 => ?_)
                · have e4 : sl1 r2 ≠ 0 := zc_ne0_t (by omega) (by omega) e4
                  refine lv_aload_n X.1.1 X.1.2.1 zd_Su_addLetter_88 rfl (lv_at hl 3 rfl) ?_
                  refine lv_iload_n X.1.1 X.1.2.1 zd_Su_addLetter_89 rfl (lv_at hl 2 rfl) ?_
                  refine lv_iload X.1.1 X.1.2.1 zd_Su_addLetter_90 (lv_at hl 1 rfl) ?_
                  refine rCi (wr := []) (wf := fun r3 => [(t0, .inr (2, [.ref ta, .int (nI n), .ref aS, .ref aE, .ref aP, .ref aL, .int (nI (nd1 + 1)), .ref aQ, .int (nI M), .int (nI sh), .int (nI a2), .int (nI L2), .int (nI wt1), .int (nI fl), .int fp])), (aS, .inl (cS, 131072, .inl (fun zz => nI ((va_up (va_up st1 nd1 (st1 (sl1 r2))) (sl1 r2) (st1 (sl1 r2) + L2)) zz)))), (aE, .inl (cE, 131072, .inl (fun zz => nI ((va_up en1 nd1 (st1 (sl1 r2) + L2)) zz)))), (aP, .inl (cP, 131072, .inl (fun zz => nI ((va_up (va_up pa1 nd1 a2) (sl1 r2) nd1) zz)))), (aL, .inl (cL, 131072, .inl (fun zz => nI ((va_up li1 nd1 0) zz)))), (aQ, .inl (cQ, 262144, .inl (fun zz => nI ((va_up (va_up sl1 r2 nd1) r3 (sl1 r2)) zz)))), (ta, .inl (cB, NB, .inl (T)))]) (rest := []) X h hl.1 (zc_Su_split l D (t0 := t0) (ta := ta) (n := n) (aS := aS) (aE := aE) (aP := aP) (aL := aL) (nd := nd1) (aQ := aQ) (M := M) (sh := sh) (an := a2) (L := L2) (wt := wt1) (fl := fl) (fp := fp) (st := st1) (cS := cS) (en := en1) (cE := cE) (pa := pa1) (cP := cP) (li := li1) (cL := cL) (sl := sl1) (cQ := cQ) (T := T) (cB := cB) (NB := NB) (rr := r2) (w := sl1 r2) (hsp.1) (by omega) (z2) (by omega) (by omega) H.size) zw_207 zw_209 zs_5 zw_3 zm_Su_split zq_Su_split ⟨Nat.le_of_ble_eq_true rfl, Nat.le_of_ble_eq_true rfl⟩ ⟨Nat.le_of_ble_eq_true rfl, Nat.le_of_ble_eq_true rfl⟩ [0, 1, 2, 3, 4, 5] rfl [0, 1, 2, 3, 4, 5, 6] [] [0, 1, 2, 3, 4, 5, 6] rfl (by decide) rfl (by decide) (by decide) (fun _ => rfl) (by decide) 0 rfl rfl rfl (Nat.le_of_ble_eq_true rfl) zd_Su_addLetter_92 (fun r r3 H locs hp h => ?_)
                  obtain ⟨rfl, q3⟩ := hp
                  have h : zH D A s [(t0, .inr (2, [.ref ta, .int (nI n), .ref aS, .ref aE, .ref aP, .ref aL, .int (nI (nd1 + 1)), .ref aQ, .int (nI M), .int (nI sh), .int (nI a2), .int (nI L2), .int (nI wt1), .int (nI fl), .int fp])), (aS, .inl (cS, 131072, .inl (fun zz => nI ((va_up (va_up st1 nd1 (st1 (sl1 r2))) (sl1 r2) (st1 (sl1 r2) + L2)) zz)))), (aE, .inl (cE, 131072, .inl (fun zz => nI ((va_up en1 nd1 (st1 (sl1 r2) + L2)) zz)))), (aP, .inl (cP, 131072, .inl (fun zz => nI ((va_up (va_up pa1 nd1 a2) (sl1 r2) nd1) zz)))), (aL, .inl (cL, 131072, .inl (fun zz => nI ((va_up li1 nd1 0) zz)))), (aQ, .inl (cQ, 262144, .inl (fun zz => nI ((va_up (va_up sl1 r2 nd1) r3 (sl1 r2)) zz)))), (ta, .inl (cB, NB, .inl (T)))] H locs := h
                  obtain ⟨hT1, hR1⟩ := hsp.2 r3 q3
                  have hlk := tV_lk (tV_new hL (ps1 (sl1 r2)) (dp1 a2 + L2)) (tr_B_new hB) (Nat.lt_succ_self nd1) (by rw [va_up_self]; omega) (by rw [va_up_self, va_up_self, show dp1 a2 + L2 = pl - j1 by omega]; exact z7)
                  refine lv_istore X.1.1 X.1.2.1 zd_Su_addLetter_95 hl (by decide) rfl (fun ls hl => ?_)
                  have hl : lv_has ls 7 [(6, .int (nI nd1)), (5, .int (nI 0)), (4, .int (nI (sl1 r2))), (3, .int (nI r2)), (0, .ref t0), (1, .int (nI pl)), (2, .int (nI wl))] := hl
                  refine lv_iload_n X.1.1 X.1.2.1 zd_Su_addLetter_97 rfl (lv_at hl 6 rfl) ?_
                  refine lv_if_eq (tgt := 109) X.1.1 X.1.2.1 zd_Su_addLetter_98 rfl (fun e5 => ?_) (fun e5 => ?_)
                  · have e5 : wl = 0 := zc_eq0_t (by omega) (by omega) e5
                    refine lv_iload X.1.1 X.1.2.1 zd_Su_addLetter_109 (lv_at hl 1 rfl) ?_
                    refine lv_if_eq (tgt := 125) X.1.1 X.1.2.1 zd_Su_addLetter_111 rfl (fun e6 => ?_) (fun e6 => ?_)
                    · have e6 : 0 = 0 := zc_eq0_t (by omega) (by omega) e6
                      refine lv_iload X.1.1 X.1.2.1 zd_Su_addLetter_125 (lv_at hl 0 rfl) ?_
                      refine lv_aload_n X.1.1 X.1.2.1 zd_Su_addLetter_127 rfl (lv_at hl 4 rfl) ?_
                      refine rG X h 0 rfl rfl zW_Su 10 (by decide) zw_58 rfl zd_Su_addLetter_128 ?_
                      refine lv_icmp_ne (tgt := 138) X.1.1 X.1.2.1 zd_Su_addLetter_131 rfl (fun e7 => ?_) (fun e7 => ?_)
                      · have e7 : nd1 ≠ a2 := zc_ne_t (by omega) (by omega) e7
                        refine lv_iload X.1.1 X.1.2.1 zd_Su_addLetter_138 (lv_at hl 0 rfl) ?_
                        refine lv_istore_n X.1.1 X.1.2.1 zd_Su_addLetter_140 rfl hl (by decide) rfl (fun ls hl => ?_)
                        have hl : lv_has ls 7 [(2, .int (nI nd1)), (6, .int (nI nd1)), (5, .int (nI 0)), (4, .int (nI (sl1 r2))), (3, .int (nI r2)), (0, .ref t0), (1, .int (nI pl))] := hl
                        refine lv_aload_n X.1.1 X.1.2.1 zd_Su_addLetter_141 rfl (lv_at hl 5 rfl) ?_
                        refine lv_iload X.1.1 X.1.2.1 zd_Su_addLetter_142 (lv_at hl 1 rfl) ?_
                        refine lv_iload_n X.1.1 X.1.2.1 zd_Su_addLetter_144 rfl (lv_at hl 6 rfl) ?_
                        refine rCv (wr := []) (wf := fun r4 => [(t0, .inr (2, [.ref ta, .int (nI n), .ref aS, .ref aE, .ref aP, .ref aL, .int (nI (nd1 + 1 + 1)), .ref aQ, .int (nI M), .int (nI sh), .int (nI a2), .int (nI L2), .int (nI wt1), .int (nI fl), .int fp])), (aS, .inl (cS, 131072, .inl (fun zz => nI ((va_up (va_up (va_up st1 nd1 (st1 (sl1 r2))) (sl1 r2) (st1 (sl1 r2) + L2)) (nd1 + 1) pl) zz)))), (aE, .inl (cE, 131072, .inl (fun zz => nI ((va_up (va_up en1 nd1 (st1 (sl1 r2) + L2)) (nd1 + 1) n) zz)))), (aP, .inl (cP, 131072, .inl (fun zz => nI ((va_up (va_up (va_up pa1 nd1 a2) (sl1 r2) nd1) (nd1 + 1) nd1) zz)))), (aL, .inl (cL, 131072, .inl (fun zz => nI ((va_up (va_up li1 nd1 0) (nd1 + 1) 0) zz)))), (aQ, .inl (cQ, 262144, .inl (fun zz => nI ((va_up (va_up (va_up sl1 r2 nd1) r3 (sl1 r2)) r4 (nd1 + 1)) zz)))), (ta, .inl (cB, NB, .inl (T)))]) (rest := []) X h hl.1 (zc_Su_addLeaf l D (t0 := t0) (ta := ta) (n := n) (aS := aS) (aE := aE) (aP := aP) (aL := aL) (nd := nd1 + 1) (aQ := aQ) (M := M) (sh := sh) (an := a2) (L := L2) (wt := wt1) (fl := fl) (fp := fp) (st := va_up (va_up st1 nd1 (st1 (sl1 r2))) (sl1 r2) (st1 (sl1 r2) + L2)) (cS := cS) (en := va_up en1 nd1 (st1 (sl1 r2) + L2)) (cE := cE) (pa := va_up (va_up pa1 nd1 a2) (sl1 r2) nd1) (cP := cP) (li := va_up li1 nd1 0) (cL := cL) (sl := va_up (va_up sl1 r2 nd1) r3 (sl1 r2)) (cQ := cQ) (T := T) (cB := cB) (NB := NB) (b := nd1) (x := pl) (tF_O hG.1 hT1 hR1 (by omega) (by omega)) (by omega) (by omega) (by omega) H.size) zw_215 zw_217 zs_7 zw_3 zm_Su_addLeaf zq_Su_addLeaf ⟨Nat.le_of_ble_eq_true rfl, Nat.le_of_ble_eq_true rfl⟩ ⟨Nat.le_of_ble_eq_true rfl, Nat.le_of_ble_eq_true rfl⟩ [0, 1, 2, 3, 4, 5] rfl [0, 1, 2, 3, 4, 5, 6] [] [0, 1, 2, 3, 4, 5, 6] rfl (by decide) rfl (by decide) (by decide) (fun _ => rfl) (by decide) 0 rfl rfl rfl (Nat.le_of_ble_eq_true rfl) zd_Su_addLetter_145 (fun r4 H locs hp h => ?_)
                        have q4 : hs_r M (va_up (va_up sl1 r2 nd1) r3 (sl1 r2)) (hok (va_up (va_up pa1 nd1 a2) (sl1 r2) nd1) (va_up (va_up st1 nd1 (st1 (sl1 r2))) (sl1 r2) (st1 (sl1 r2) + L2)) T nd1 (T pl)) (hN sh nd1 (T pl)) r4 := hp
                        have h : zH D A s [(t0, .inr (2, [.ref ta, .int (nI n), .ref aS, .ref aE, .ref aP, .ref aL, .int (nI (nd1 + 1 + 1)), .ref aQ, .int (nI M), .int (nI sh), .int (nI a2), .int (nI L2), .int (nI wt1), .int (nI fl), .int fp])), (aS, .inl (cS, 131072, .inl (fun zz => nI ((va_up (va_up (va_up st1 nd1 (st1 (sl1 r2))) (sl1 r2) (st1 (sl1 r2) + L2)) (nd1 + 1) pl) zz)))), (aE, .inl (cE, 131072, .inl (fun zz => nI ((va_up (va_up en1 nd1 (st1 (sl1 r2) + L2)) (nd1 + 1) n) zz)))), (aP, .inl (cP, 131072, .inl (fun zz => nI ((va_up (va_up (va_up pa1 nd1 a2) (sl1 r2) nd1) (nd1 + 1) nd1) zz)))), (aL, .inl (cL, 131072, .inl (fun zz => nI ((va_up (va_up li1 nd1 0) (nd1 + 1) 0) zz)))), (aQ, .inl (cQ, 262144, .inl (fun zz => nI ((va_up (va_up (va_up sl1 r2 nd1) r3 (sl1 r2)) r4 (nd1 + 1)) zz)))), (ta, .inl (cB, NB, .inl (T)))] H locs := h
                        refine lv_aload_n X.1.1 X.1.2.1 zd_Su_addLetter_148 rfl (lv_at hl 5 rfl) ?_
                        refine rCv (wr := []) (wf := fun _ => [(t0, .inr (2, [.ref ta, .int (nI n), .ref aS, .ref aE, .ref aP, .ref aL, .int (nI (nd1 + 1 + 1)), .ref aQ, .int (nI M), .int (nI sh), .int (nI (if a2 = 0 then 0 else (va_up (va_up li1 nd1 0) (nd1 + 1) 0) a2)), .int (nI (if a2 = 0 then L2 - 1 else L2)), .int (nI wt1), .int (nI fl), .int fp])), (aS, .inl (cS, 131072, .inl (fun zz => nI ((va_up (va_up (va_up st1 nd1 (st1 (sl1 r2))) (sl1 r2) (st1 (sl1 r2) + L2)) (nd1 + 1) pl) zz)))), (aE, .inl (cE, 131072, .inl (fun zz => nI ((va_up (va_up en1 nd1 (st1 (sl1 r2) + L2)) (nd1 + 1) n) zz)))), (aP, .inl (cP, 131072, .inl (fun zz => nI ((va_up (va_up (va_up pa1 nd1 a2) (sl1 r2) nd1) (nd1 + 1) nd1) zz)))), (aL, .inl (cL, 131072, .inl (fun zz => nI ((va_up (va_up li1 nd1 0) (nd1 + 1) 0) zz)))), (aQ, .inl (cQ, 262144, .inl (fun zz => nI ((va_up (va_up (va_up sl1 r2 nd1) r3 (sl1 r2)) r4 (nd1 + 1)) zz)))), (ta, .inl (cB, NB, .inl (T)))]) (rest := []) X h hl.1 (zc_Su_goToNextSuffix l D (t0 := t0) (ta := ta) (n := n) (aS := aS) (aE := aE) (aP := aP) (aL := aL) (nd := nd1 + 1 + 1) (aQ := aQ) (M := M) (sh := sh) (an := a2) (L := L2) (wt := wt1) (fl := fl) (fp := fp) (st := va_up (va_up (va_up st1 nd1 (st1 (sl1 r2))) (sl1 r2) (st1 (sl1 r2) + L2)) (nd1 + 1) pl) (cS := cS) (en := va_up (va_up en1 nd1 (st1 (sl1 r2) + L2)) (nd1 + 1) n) (cE := cE) (pa := va_up (va_up (va_up pa1 nd1 a2) (sl1 r2) nd1) (nd1 + 1) nd1) (cP := cP) (li := va_up (va_up li1 nd1 0) (nd1 + 1) 0) (cL := cL) (sl := va_up (va_up (va_up sl1 r2 nd1) r3 (sl1 r2)) r4 (nd1 + 1)) (cQ := cQ) (T := T) (cB := cB) (NB := NB) (by omega) (by omega) H.size) zw_219 zw_221 zs_8 zw_3 zm_Su_goToNextSuffix zq_Su_goToNextSuffix ⟨Nat.le_of_ble_eq_true rfl, Nat.le_of_ble_eq_true rfl⟩ ⟨Nat.le_of_ble_eq_true rfl, Nat.le_of_ble_eq_true rfl⟩ [0, 1, 2, 3, 4, 5] rfl [0, 1, 2, 3, 4, 5, 6] [] [0, 1, 2, 3, 4, 5, 6] rfl (by decide) rfl (by decide) (by decide) (fun _ => rfl) (by decide) 0 rfl rfl rfl (Nat.le_of_ble_eq_true rfl) zd_Su_addLetter_149 (fun _ H locs hp h => ?_)
                        have h : zH D A s [(t0, .inr (2, [.ref ta, .int (nI n), .ref aS, .ref aE, .ref aP, .ref aL, .int (nI (nd1 + 1 + 1)), .ref aQ, .int (nI M), .int (nI sh), .int (nI (if a2 = 0 then 0 else (va_up (va_up li1 nd1 0) (nd1 + 1) 0) a2)), .int (nI (if a2 = 0 then L2 - 1 else L2)), .int (nI wt1), .int (nI fl), .int fp])), (aS, .inl (cS, 131072, .inl (fun zz => nI ((va_up (va_up (va_up st1 nd1 (st1 (sl1 r2))) (sl1 r2) (st1 (sl1 r2) + L2)) (nd1 + 1) pl) zz)))), (aE, .inl (cE, 131072, .inl (fun zz => nI ((va_up (va_up en1 nd1 (st1 (sl1 r2) + L2)) (nd1 + 1) n) zz)))), (aP, .inl (cP, 131072, .inl (fun zz => nI ((va_up (va_up (va_up pa1 nd1 a2) (sl1 r2) nd1) (nd1 + 1) nd1) zz)))), (aL, .inl (cL, 131072, .inl (fun zz => nI ((va_up (va_up li1 nd1 0) (nd1 + 1) 0) zz)))), (aQ, .inl (cQ, 262144, .inl (fun zz => nI ((va_up (va_up (va_up sl1 r2 nd1) r3 (sl1 r2)) r4 (nd1 + 1)) zz)))), (ta, .inl (cB, NB, .inl (T)))] H locs := h
                        refine lv_aload_n X.1.1 X.1.2.1 zd_Su_addLetter_152 rfl (lv_at hl 5 rfl) ?_
                        refine lv_dup X.1.1 X.1.2.1 zd_Su_addLetter_153 rfl ?_
                        refine rG X h 0 rfl rfl zW_Su 12 (by decide) zw_60 rfl zd_Su_addLetter_154 ?_
                        refine lv_iconst (v := nI 1) X.1.1 X.1.2.1 zd_Su_addLetter_157 (by decide) ?_
                        refine lv_isub X.1.1 X.1.2.1 zd_Su_addLetter_158 ?_
                        refine zTop (y := nI (wt1 - 1)) (pk_sub (by omega)) ?_
                        refine rP X h 0 rfl rfl zW_Su zO_Su zN_Su 12 (by decide) zw_60 rfl (rfl) (rfl) (Nat.le_of_ble_eq_true rfl) zd_Su_addLetter_159 (fun H locs h => ?_)
                        have h : zH D A s [(t0, .inr (2, [.ref ta, .int (nI n), .ref aS, .ref aE, .ref aP, .ref aL, .int (nI (nd1 + 1 + 1)), .ref aQ, .int (nI M), .int (nI sh), .int (nI (if a2 = 0 then 0 else (va_up (va_up li1 nd1 0) (nd1 + 1) 0) a2)), .int (nI (if a2 = 0 then L2 - 1 else L2)), .int (nI (wt1 - 1)), .int (nI fl), .int fp])), (aS, .inl (cS, 131072, .inl (fun zz => nI ((va_up (va_up (va_up st1 nd1 (st1 (sl1 r2))) (sl1 r2) (st1 (sl1 r2) + L2)) (nd1 + 1) pl) zz)))), (aE, .inl (cE, 131072, .inl (fun zz => nI ((va_up (va_up en1 nd1 (st1 (sl1 r2) + L2)) (nd1 + 1) n) zz)))), (aP, .inl (cP, 131072, .inl (fun zz => nI ((va_up (va_up (va_up pa1 nd1 a2) (sl1 r2) nd1) (nd1 + 1) nd1) zz)))), (aL, .inl (cL, 131072, .inl (fun zz => nI ((va_up (va_up li1 nd1 0) (nd1 + 1) 0) zz)))), (aQ, .inl (cQ, 262144, .inl (fun zz => nI ((va_up (va_up (va_up sl1 r2 nd1) r3 (sl1 r2)) r4 (nd1 + 1)) zz)))), (ta, .inl (cB, NB, .inl (T)))] H locs := h
                        refine lv_goto (tgt := 12) X.1.1 X.1.2.1 zd_Su_addLetter_162 rfl ?_
                        exact ih nd1 (wt1 - 1) (j1 + 1) (nd1 + 1 + 1) (if a2 = 0 then 0 else (va_up (va_up li1 nd1 0) (nd1 + 1) 0) a2) (if a2 = 0 then L2 - 1 else L2) (va_up (va_up (va_up st1 nd1 (st1 (sl1 r2))) (sl1 r2) (st1 (sl1 r2) + L2)) (nd1 + 1) pl) (va_up (va_up en1 nd1 (st1 (sl1 r2) + L2)) (nd1 + 1) n) (va_up (va_up (va_up pa1 nd1 a2) (sl1 r2) nd1) (nd1 + 1) nd1) (va_up (va_up li1 nd1 0) (nd1 + 1) 0) (va_up (va_up (va_up sl1 r2 nd1) r3 (sl1 r2)) r4 (nd1 + 1)) (va_up (va_up ps1 nd1 (ps1 (sl1 r2))) (nd1 + 1) j1) (va_up (va_up dp1 nd1 (dp1 a2 + L2)) (nd1 + 1) (n - j1)) ls H locs (by omega) (by omega) (tV_split (r := 0) hG hA2 z1 z2 z3 hL0 z6 hpl z4 z7 e2 rfl rfl rfl hT1 hR1 (hlk.1 e5) q4) (lv_sub hl [5, 6, 0] rfl) h
                      · have e7 : nd1 = a2 := zc_ne_f (by omega) (by omega) e7
                        exact absurd e7 (by omega)
                    · have e6 : 0 ≠ 0 := zc_eq0_f (by omega) (by omega) e6
                      exact absurd rfl e6
                  · have e5 : wl ≠ 0 := zc_eq0_f (by omega) (by omega) e5
                    refine lv_aload_n X.1.1 X.1.2.1 zd_Su_addLetter_101 rfl (lv_at hl 4 rfl) ?_
                    refine rG X h 0 rfl rfl zW_Su 5 (by decide) zw_53 rfl zd_Su_addLetter_102 ?_
                    refine lv_iload_n X.1.1 X.1.2.1 zd_Su_addLetter_105 rfl (lv_at hl 6 rfl) ?_
                    refine lv_iload X.1.1 X.1.2.1 zd_Su_addLetter_106 (lv_at hl 0 rfl) ?_
                    refine rSn X h 4 3 rfl rfl (by omega) (by omega) zd_Su_addLetter_108 (fun H locs h => ?_)
                    have h : zH D A s [(t0, .inr (2, [.ref ta, .int (nI n), .ref aS, .ref aE, .ref aP, .ref aL, .int (nI (nd1 + 1)), .ref aQ, .int (nI M), .int (nI sh), .int (nI a2), .int (nI L2), .int (nI wt1), .int (nI fl), .int fp])), (aS, .inl (cS, 131072, .inl (fun zz => nI ((va_up (va_up st1 nd1 (st1 (sl1 r2))) (sl1 r2) (st1 (sl1 r2) + L2)) zz)))), (aE, .inl (cE, 131072, .inl (fun zz => nI ((va_up en1 nd1 (st1 (sl1 r2) + L2)) zz)))), (aP, .inl (cP, 131072, .inl (fun zz => nI ((va_up (va_up pa1 nd1 a2) (sl1 r2) nd1) zz)))), (aL, .inl (cL, 131072, .inl (fun zz => nI ((va_up (va_up li1 nd1 0) wl nd1) zz)))), (aQ, .inl (cQ, 262144, .inl (fun zz => nI ((va_up (va_up sl1 r2 nd1) r3 (sl1 r2)) zz)))), (ta, .inl (cB, NB, .inl (T)))] H locs := h
                    refine lv_iload X.1.1 X.1.2.1 zd_Su_addLetter_109 (lv_at hl 1 rfl) ?_
                    refine lv_if_eq (tgt := 125) X.1.1 X.1.2.1 zd_Su_addLetter_111 rfl (fun e6 => ?_) (fun e6 => ?_)
                    · have e6 : 0 = 0 := zc_eq0_t (by omega) (by omega) e6
                      refine lv_iload X.1.1 X.1.2.1 zd_Su_addLetter_125 (lv_at hl 0 rfl) ?_
                      refine lv_aload_n X.1.1 X.1.2.1 zd_Su_addLetter_127 rfl (lv_at hl 4 rfl) ?_
                      refine rG X h 0 rfl rfl zW_Su 10 (by decide) zw_58 rfl zd_Su_addLetter_128 ?_
                      refine lv_icmp_ne (tgt := 138) X.1.1 X.1.2.1 zd_Su_addLetter_131 rfl (fun e7 => ?_) (fun e7 => ?_)
                      · have e7 : nd1 ≠ a2 := zc_ne_t (by omega) (by omega) e7
                        refine lv_iload X.1.1 X.1.2.1 zd_Su_addLetter_138 (lv_at hl 0 rfl) ?_
                        refine lv_istore_n X.1.1 X.1.2.1 zd_Su_addLetter_140 rfl hl (by decide) rfl (fun ls hl => ?_)
                        have hl : lv_has ls 7 [(2, .int (nI nd1)), (6, .int (nI nd1)), (5, .int (nI 0)), (4, .int (nI (sl1 r2))), (3, .int (nI r2)), (0, .ref t0), (1, .int (nI pl))] := hl
                        refine lv_aload_n X.1.1 X.1.2.1 zd_Su_addLetter_141 rfl (lv_at hl 5 rfl) ?_
                        refine lv_iload X.1.1 X.1.2.1 zd_Su_addLetter_142 (lv_at hl 1 rfl) ?_
                        refine lv_iload_n X.1.1 X.1.2.1 zd_Su_addLetter_144 rfl (lv_at hl 6 rfl) ?_
                        refine rCv (wr := []) (wf := fun r4 => [(t0, .inr (2, [.ref ta, .int (nI n), .ref aS, .ref aE, .ref aP, .ref aL, .int (nI (nd1 + 1 + 1)), .ref aQ, .int (nI M), .int (nI sh), .int (nI a2), .int (nI L2), .int (nI wt1), .int (nI fl), .int fp])), (aS, .inl (cS, 131072, .inl (fun zz => nI ((va_up (va_up (va_up st1 nd1 (st1 (sl1 r2))) (sl1 r2) (st1 (sl1 r2) + L2)) (nd1 + 1) pl) zz)))), (aE, .inl (cE, 131072, .inl (fun zz => nI ((va_up (va_up en1 nd1 (st1 (sl1 r2) + L2)) (nd1 + 1) n) zz)))), (aP, .inl (cP, 131072, .inl (fun zz => nI ((va_up (va_up (va_up pa1 nd1 a2) (sl1 r2) nd1) (nd1 + 1) nd1) zz)))), (aL, .inl (cL, 131072, .inl (fun zz => nI ((va_up (va_up (va_up li1 nd1 0) wl nd1) (nd1 + 1) 0) zz)))), (aQ, .inl (cQ, 262144, .inl (fun zz => nI ((va_up (va_up (va_up sl1 r2 nd1) r3 (sl1 r2)) r4 (nd1 + 1)) zz)))), (ta, .inl (cB, NB, .inl (T)))]) (rest := []) X h hl.1 (zc_Su_addLeaf l D (t0 := t0) (ta := ta) (n := n) (aS := aS) (aE := aE) (aP := aP) (aL := aL) (nd := nd1 + 1) (aQ := aQ) (M := M) (sh := sh) (an := a2) (L := L2) (wt := wt1) (fl := fl) (fp := fp) (st := va_up (va_up st1 nd1 (st1 (sl1 r2))) (sl1 r2) (st1 (sl1 r2) + L2)) (cS := cS) (en := va_up en1 nd1 (st1 (sl1 r2) + L2)) (cE := cE) (pa := va_up (va_up pa1 nd1 a2) (sl1 r2) nd1) (cP := cP) (li := va_up (va_up li1 nd1 0) wl nd1) (cL := cL) (sl := va_up (va_up sl1 r2 nd1) r3 (sl1 r2)) (cQ := cQ) (T := T) (cB := cB) (NB := NB) (b := nd1) (x := pl) (tF_O hG.1 hT1 hR1 (by omega) (by omega)) (by omega) (by omega) (by omega) H.size) zw_215 zw_217 zs_7 zw_3 zm_Su_addLeaf zq_Su_addLeaf ⟨Nat.le_of_ble_eq_true rfl, Nat.le_of_ble_eq_true rfl⟩ ⟨Nat.le_of_ble_eq_true rfl, Nat.le_of_ble_eq_true rfl⟩ [0, 1, 2, 3, 4, 5] rfl [0, 1, 2, 3, 4, 5, 6] [] [0, 1, 2, 3, 4, 5, 6] rfl (by decide) rfl (by decide) (by decide) (fun _ => rfl) (by decide) 0 rfl rfl rfl (Nat.le_of_ble_eq_true rfl) zd_Su_addLetter_145 (fun r4 H locs hp h => ?_)
                        have q4 : hs_r M (va_up (va_up sl1 r2 nd1) r3 (sl1 r2)) (hok (va_up (va_up pa1 nd1 a2) (sl1 r2) nd1) (va_up (va_up st1 nd1 (st1 (sl1 r2))) (sl1 r2) (st1 (sl1 r2) + L2)) T nd1 (T pl)) (hN sh nd1 (T pl)) r4 := hp
                        have h : zH D A s [(t0, .inr (2, [.ref ta, .int (nI n), .ref aS, .ref aE, .ref aP, .ref aL, .int (nI (nd1 + 1 + 1)), .ref aQ, .int (nI M), .int (nI sh), .int (nI a2), .int (nI L2), .int (nI wt1), .int (nI fl), .int fp])), (aS, .inl (cS, 131072, .inl (fun zz => nI ((va_up (va_up (va_up st1 nd1 (st1 (sl1 r2))) (sl1 r2) (st1 (sl1 r2) + L2)) (nd1 + 1) pl) zz)))), (aE, .inl (cE, 131072, .inl (fun zz => nI ((va_up (va_up en1 nd1 (st1 (sl1 r2) + L2)) (nd1 + 1) n) zz)))), (aP, .inl (cP, 131072, .inl (fun zz => nI ((va_up (va_up (va_up pa1 nd1 a2) (sl1 r2) nd1) (nd1 + 1) nd1) zz)))), (aL, .inl (cL, 131072, .inl (fun zz => nI ((va_up (va_up (va_up li1 nd1 0) wl nd1) (nd1 + 1) 0) zz)))), (aQ, .inl (cQ, 262144, .inl (fun zz => nI ((va_up (va_up (va_up sl1 r2 nd1) r3 (sl1 r2)) r4 (nd1 + 1)) zz)))), (ta, .inl (cB, NB, .inl (T)))] H locs := h
                        refine lv_aload_n X.1.1 X.1.2.1 zd_Su_addLetter_148 rfl (lv_at hl 5 rfl) ?_
                        refine rCv (wr := []) (wf := fun _ => [(t0, .inr (2, [.ref ta, .int (nI n), .ref aS, .ref aE, .ref aP, .ref aL, .int (nI (nd1 + 1 + 1)), .ref aQ, .int (nI M), .int (nI sh), .int (nI (if a2 = 0 then 0 else (va_up (va_up (va_up li1 nd1 0) wl nd1) (nd1 + 1) 0) a2)), .int (nI (if a2 = 0 then L2 - 1 else L2)), .int (nI wt1), .int (nI fl), .int fp])), (aS, .inl (cS, 131072, .inl (fun zz => nI ((va_up (va_up (va_up st1 nd1 (st1 (sl1 r2))) (sl1 r2) (st1 (sl1 r2) + L2)) (nd1 + 1) pl) zz)))), (aE, .inl (cE, 131072, .inl (fun zz => nI ((va_up (va_up en1 nd1 (st1 (sl1 r2) + L2)) (nd1 + 1) n) zz)))), (aP, .inl (cP, 131072, .inl (fun zz => nI ((va_up (va_up (va_up pa1 nd1 a2) (sl1 r2) nd1) (nd1 + 1) nd1) zz)))), (aL, .inl (cL, 131072, .inl (fun zz => nI ((va_up (va_up (va_up li1 nd1 0) wl nd1) (nd1 + 1) 0) zz)))), (aQ, .inl (cQ, 262144, .inl (fun zz => nI ((va_up (va_up (va_up sl1 r2 nd1) r3 (sl1 r2)) r4 (nd1 + 1)) zz)))), (ta, .inl (cB, NB, .inl (T)))]) (rest := []) X h hl.1 (zc_Su_goToNextSuffix l D (t0 := t0) (ta := ta) (n := n) (aS := aS) (aE := aE) (aP := aP) (aL := aL) (nd := nd1 + 1 + 1) (aQ := aQ) (M := M) (sh := sh) (an := a2) (L := L2) (wt := wt1) (fl := fl) (fp := fp) (st := va_up (va_up (va_up st1 nd1 (st1 (sl1 r2))) (sl1 r2) (st1 (sl1 r2) + L2)) (nd1 + 1) pl) (cS := cS) (en := va_up (va_up en1 nd1 (st1 (sl1 r2) + L2)) (nd1 + 1) n) (cE := cE) (pa := va_up (va_up (va_up pa1 nd1 a2) (sl1 r2) nd1) (nd1 + 1) nd1) (cP := cP) (li := va_up (va_up (va_up li1 nd1 0) wl nd1) (nd1 + 1) 0) (cL := cL) (sl := va_up (va_up (va_up sl1 r2 nd1) r3 (sl1 r2)) r4 (nd1 + 1)) (cQ := cQ) (T := T) (cB := cB) (NB := NB) (by omega) (by omega) H.size) zw_219 zw_221 zs_8 zw_3 zm_Su_goToNextSuffix zq_Su_goToNextSuffix ⟨Nat.le_of_ble_eq_true rfl, Nat.le_of_ble_eq_true rfl⟩ ⟨Nat.le_of_ble_eq_true rfl, Nat.le_of_ble_eq_true rfl⟩ [0, 1, 2, 3, 4, 5] rfl [0, 1, 2, 3, 4, 5, 6] [] [0, 1, 2, 3, 4, 5, 6] rfl (by decide) rfl (by decide) (by decide) (fun _ => rfl) (by decide) 0 rfl rfl rfl (Nat.le_of_ble_eq_true rfl) zd_Su_addLetter_149 (fun _ H locs hp h => ?_)
                        have h : zH D A s [(t0, .inr (2, [.ref ta, .int (nI n), .ref aS, .ref aE, .ref aP, .ref aL, .int (nI (nd1 + 1 + 1)), .ref aQ, .int (nI M), .int (nI sh), .int (nI (if a2 = 0 then 0 else (va_up (va_up (va_up li1 nd1 0) wl nd1) (nd1 + 1) 0) a2)), .int (nI (if a2 = 0 then L2 - 1 else L2)), .int (nI wt1), .int (nI fl), .int fp])), (aS, .inl (cS, 131072, .inl (fun zz => nI ((va_up (va_up (va_up st1 nd1 (st1 (sl1 r2))) (sl1 r2) (st1 (sl1 r2) + L2)) (nd1 + 1) pl) zz)))), (aE, .inl (cE, 131072, .inl (fun zz => nI ((va_up (va_up en1 nd1 (st1 (sl1 r2) + L2)) (nd1 + 1) n) zz)))), (aP, .inl (cP, 131072, .inl (fun zz => nI ((va_up (va_up (va_up pa1 nd1 a2) (sl1 r2) nd1) (nd1 + 1) nd1) zz)))), (aL, .inl (cL, 131072, .inl (fun zz => nI ((va_up (va_up (va_up li1 nd1 0) wl nd1) (nd1 + 1) 0) zz)))), (aQ, .inl (cQ, 262144, .inl (fun zz => nI ((va_up (va_up (va_up sl1 r2 nd1) r3 (sl1 r2)) r4 (nd1 + 1)) zz)))), (ta, .inl (cB, NB, .inl (T)))] H locs := h
                        refine lv_aload_n X.1.1 X.1.2.1 zd_Su_addLetter_152 rfl (lv_at hl 5 rfl) ?_
                        refine lv_dup X.1.1 X.1.2.1 zd_Su_addLetter_153 rfl ?_
                        refine rG X h 0 rfl rfl zW_Su 12 (by decide) zw_60 rfl zd_Su_addLetter_154 ?_
                        refine lv_iconst (v := nI 1) X.1.1 X.1.2.1 zd_Su_addLetter_157 (by decide) ?_
                        refine lv_isub X.1.1 X.1.2.1 zd_Su_addLetter_158 ?_
                        refine zTop (y := nI (wt1 - 1)) (pk_sub (by omega)) ?_
                        refine rP X h 0 rfl rfl zW_Su zO_Su zN_Su 12 (by decide) zw_60 rfl (rfl) (rfl) (Nat.le_of_ble_eq_true rfl) zd_Su_addLetter_159 (fun H locs h => ?_)
                        have h : zH D A s [(t0, .inr (2, [.ref ta, .int (nI n), .ref aS, .ref aE, .ref aP, .ref aL, .int (nI (nd1 + 1 + 1)), .ref aQ, .int (nI M), .int (nI sh), .int (nI (if a2 = 0 then 0 else (va_up (va_up (va_up li1 nd1 0) wl nd1) (nd1 + 1) 0) a2)), .int (nI (if a2 = 0 then L2 - 1 else L2)), .int (nI (wt1 - 1)), .int (nI fl), .int fp])), (aS, .inl (cS, 131072, .inl (fun zz => nI ((va_up (va_up (va_up st1 nd1 (st1 (sl1 r2))) (sl1 r2) (st1 (sl1 r2) + L2)) (nd1 + 1) pl) zz)))), (aE, .inl (cE, 131072, .inl (fun zz => nI ((va_up (va_up en1 nd1 (st1 (sl1 r2) + L2)) (nd1 + 1) n) zz)))), (aP, .inl (cP, 131072, .inl (fun zz => nI ((va_up (va_up (va_up pa1 nd1 a2) (sl1 r2) nd1) (nd1 + 1) nd1) zz)))), (aL, .inl (cL, 131072, .inl (fun zz => nI ((va_up (va_up (va_up li1 nd1 0) wl nd1) (nd1 + 1) 0) zz)))), (aQ, .inl (cQ, 262144, .inl (fun zz => nI ((va_up (va_up (va_up sl1 r2 nd1) r3 (sl1 r2)) r4 (nd1 + 1)) zz)))), (ta, .inl (cB, NB, .inl (T)))] H locs := h
                        refine lv_goto (tgt := 12) X.1.1 X.1.2.1 zd_Su_addLetter_162 rfl ?_
                        exact ih nd1 (wt1 - 1) (j1 + 1) (nd1 + 1 + 1) (if a2 = 0 then 0 else (va_up (va_up (va_up li1 nd1 0) wl nd1) (nd1 + 1) 0) a2) (if a2 = 0 then L2 - 1 else L2) (va_up (va_up (va_up st1 nd1 (st1 (sl1 r2))) (sl1 r2) (st1 (sl1 r2) + L2)) (nd1 + 1) pl) (va_up (va_up en1 nd1 (st1 (sl1 r2) + L2)) (nd1 + 1) n) (va_up (va_up (va_up pa1 nd1 a2) (sl1 r2) nd1) (nd1 + 1) nd1) (va_up (va_up (va_up li1 nd1 0) wl nd1) (nd1 + 1) 0) (va_up (va_up (va_up sl1 r2 nd1) r3 (sl1 r2)) r4 (nd1 + 1)) (va_up (va_up ps1 nd1 (ps1 (sl1 r2))) (nd1 + 1) j1) (va_up (va_up dp1 nd1 (dp1 a2 + L2)) (nd1 + 1) (n - j1)) ls H locs (by omega) (by omega) (tV_split (r := 0) hG hA2 z1 z2 z3 hL0 z6 hpl z4 z7 e2 rfl rfl rfl hT1 hR1 (hlk.2 e5) q4) (lv_sub hl [5, 6, 0] rfl) h
                      · have e7 : nd1 = a2 := zc_ne_f (by omega) (by omega) e7
                        exact absurd e7 (by omega)
                    · have e6 : 0 ≠ 0 := zc_eq0_f (by omega) (by omega) e6
                      exact absurd rfl e6
                · have e4 : sl1 r2 = 0 := zc_ne0_f (by omega) (by omega) e4
                  exact absurd e4 (by omega)
            · refine lv_iconst (v := nI 1) X.1.1 X.1.2.1 zd_Su_addLetter_64 (by decide) ?_
              refine lv_goto (tgt := 69) X.1.1 X.1.2.1 zd_Su_addLetter_65 rfl ?_
              refine lv_istore X.1.1 X.1.2.1 zd_Su_addLetter_69 hl (by decide) rfl (fun ls hl => ?_)
              have hl : lv_has ls 7 [(5, .int (nI 1)), (4, .int (nI (sl1 r2))), (3, .int (nI r2)), (0, .ref t0), (1, .int (nI pl)), (2, .int (nI wl))] := hl
              refine lv_iload X.1.1 X.1.2.1 zd_Su_addLetter_71 (lv_at hl 0 rfl) ?_
              refine lv_if_ne (tgt := 81) X.1.1 X.1.2.1 zd_Su_addLetter_73 rfl (fun e3 => ?_) (fun e3 => ?_)
              · have e3 : 1 ≠ 0 := zc_ne0_t (by omega) (by omega) e3
                have hst2 := tG_stands hG hA2 hpl hB hL z1 z2 z3 z6 z7 (by rw [← z4]; exact e2)
                refine lv_aload_n X.1.1 X.1.2.1 zd_Su_addLetter_81 rfl (lv_at hl 3 rfl) ?_
                refine rG X h 0 rfl rfl zW_Su 10 (by decide) zw_58 rfl zd_Su_addLetter_82 ?_
                refine lv_goto (tgt := 95) X.1.1 X.1.2.1 zd_Su_addLetter_85 rfl ?_
                refine lv_istore X.1.1 X.1.2.1 zd_Su_addLetter_95 hl (by decide) rfl (fun ls hl => ?_)
                have hl : lv_has ls 7 [(6, .int (nI a2)), (5, .int (nI 1)), (4, .int (nI (sl1 r2))), (3, .int (nI r2)), (0, .ref t0), (1, .int (nI pl)), (2, .int (nI wl))] := hl
                refine lv_iload_n X.1.1 X.1.2.1 zd_Su_addLetter_97 rfl (lv_at hl 6 rfl) ?_
                refine lv_if_eq (tgt := 109) X.1.1 X.1.2.1 zd_Su_addLetter_98 rfl (fun e4 => ?_) (fun e4 => ?_)
                · have e4 : wl = 0 := zc_eq0_t (by omega) (by omega) e4
                  rw [if_pos e4] at hst2
                  refine lv_iload X.1.1 X.1.2.1 zd_Su_addLetter_109 (lv_at hl 1 rfl) ?_
                  refine lv_if_eq (tgt := 125) X.1.1 X.1.2.1 zd_Su_addLetter_111 rfl (fun e5 => ?_) (fun e5 => ?_)
                  · have e5 : 1 = 0 := zc_eq0_t (by omega) (by omega) e5
                    exact absurd e5 (by decide)
                  · have e5 : 1 ≠ 0 := zc_eq0_f (by omega) (by omega) e5
                    refine lv_aload_n X.1.1 X.1.2.1 zd_Su_addLetter_114 rfl (lv_at hl 4 rfl) ?_
                    refine lv_dup X.1.1 X.1.2.1 zd_Su_addLetter_115 rfl ?_
                    refine rG X h 0 rfl rfl zW_Su 11 (by decide) zw_59 rfl zd_Su_addLetter_116 ?_
                    refine lv_iconst (v := nI 1) X.1.1 X.1.2.1 zd_Su_addLetter_119 (by decide) ?_
                    refine lv_iadd X.1.1 X.1.2.1 zd_Su_addLetter_120 ?_
                    refine zTop (y := nI (L2 + 1)) (nI_add _ _) ?_
                    refine rP X h 0 rfl rfl zW_Su zO_Su zN_Su 11 (by decide) zw_59 rfl (rfl) (rfl) (Nat.le_of_ble_eq_true rfl) zd_Su_addLetter_121 (fun H locs h => ?_)
                    have h : zH D A s [(t0, .inr (2, [.ref ta, .int (nI n), .ref aS, .ref aE, .ref aP, .ref aL, .int (nI nd1), .ref aQ, .int (nI M), .int (nI sh), .int (nI a2), .int (nI (L2 + 1)), .int (nI wt1), .int (nI fl), .int fp])), (aS, .inl (cS, 131072, .inl (fun zz => nI (st1 zz)))), (aE, .inl (cE, 131072, .inl (fun zz => nI (en1 zz)))), (aP, .inl (cP, 131072, .inl (fun zz => nI (pa1 zz)))), (aL, .inl (cL, 131072, .inl (fun zz => nI (li1 zz)))), (aQ, .inl (cQ, 262144, .inl (fun zz => nI (sl1 zz)))), (ta, .inl (cB, NB, .inl (T)))] H locs := h
                    exact ret (nd1, a2, L2 + 1, wt1, j1, st1, en1, pa1, li1, sl1, ps1, dp1) H locs ls _ (⟨hG, hst2.2, hst2.1, by show wt1 = pl + 1 - j1; omega, by show j1 ≤ pl + 1; omega⟩) h zd_Su_addLetter_124
                · have e4 : wl ≠ 0 := zc_eq0_f (by omega) (by omega) e4
                  rw [if_neg e4] at hst2
                  refine lv_aload_n X.1.1 X.1.2.1 zd_Su_addLetter_101 rfl (lv_at hl 4 rfl) ?_
                  refine rG X h 0 rfl rfl zW_Su 5 (by decide) zw_53 rfl zd_Su_addLetter_102 ?_
                  refine lv_iload_n X.1.1 X.1.2.1 zd_Su_addLetter_105 rfl (lv_at hl 6 rfl) ?_
                  refine lv_iload X.1.1 X.1.2.1 zd_Su_addLetter_106 (lv_at hl 0 rfl) ?_
                  refine rSn X h 4 3 rfl rfl (by omega) (by omega) zd_Su_addLetter_108 (fun H locs h => ?_)
                  have h : zH D A s [(t0, .inr (2, [.ref ta, .int (nI n), .ref aS, .ref aE, .ref aP, .ref aL, .int (nI nd1), .ref aQ, .int (nI M), .int (nI sh), .int (nI a2), .int (nI L2), .int (nI wt1), .int (nI fl), .int fp])), (aS, .inl (cS, 131072, .inl (fun zz => nI (st1 zz)))), (aE, .inl (cE, 131072, .inl (fun zz => nI (en1 zz)))), (aP, .inl (cP, 131072, .inl (fun zz => nI (pa1 zz)))), (aL, .inl (cL, 131072, .inl (fun zz => nI ((va_up li1 wl a2) zz)))), (aQ, .inl (cQ, 262144, .inl (fun zz => nI (sl1 zz)))), (ta, .inl (cB, NB, .inl (T)))] H locs := h
                  refine lv_iload X.1.1 X.1.2.1 zd_Su_addLetter_109 (lv_at hl 1 rfl) ?_
                  refine lv_if_eq (tgt := 125) X.1.1 X.1.2.1 zd_Su_addLetter_111 rfl (fun e5 => ?_) (fun e5 => ?_)
                  · have e5 : 1 = 0 := zc_eq0_t (by omega) (by omega) e5
                    exact absurd e5 (by decide)
                  · have e5 : 1 ≠ 0 := zc_eq0_f (by omega) (by omega) e5
                    refine lv_aload_n X.1.1 X.1.2.1 zd_Su_addLetter_114 rfl (lv_at hl 4 rfl) ?_
                    refine lv_dup X.1.1 X.1.2.1 zd_Su_addLetter_115 rfl ?_
                    refine rG X h 0 rfl rfl zW_Su 11 (by decide) zw_59 rfl zd_Su_addLetter_116 ?_
                    refine lv_iconst (v := nI 1) X.1.1 X.1.2.1 zd_Su_addLetter_119 (by decide) ?_
                    refine lv_iadd X.1.1 X.1.2.1 zd_Su_addLetter_120 ?_
                    refine zTop (y := nI (L2 + 1)) (nI_add _ _) ?_
                    refine rP X h 0 rfl rfl zW_Su zO_Su zN_Su 11 (by decide) zw_59 rfl (rfl) (rfl) (Nat.le_of_ble_eq_true rfl) zd_Su_addLetter_121 (fun H locs h => ?_)
                    have h : zH D A s [(t0, .inr (2, [.ref ta, .int (nI n), .ref aS, .ref aE, .ref aP, .ref aL, .int (nI nd1), .ref aQ, .int (nI M), .int (nI sh), .int (nI a2), .int (nI (L2 + 1)), .int (nI wt1), .int (nI fl), .int fp])), (aS, .inl (cS, 131072, .inl (fun zz => nI (st1 zz)))), (aE, .inl (cE, 131072, .inl (fun zz => nI (en1 zz)))), (aP, .inl (cP, 131072, .inl (fun zz => nI (pa1 zz)))), (aL, .inl (cL, 131072, .inl (fun zz => nI ((va_up li1 wl a2) zz)))), (aQ, .inl (cQ, 262144, .inl (fun zz => nI (sl1 zz)))), (ta, .inl (cB, NB, .inl (T)))] H locs := h
                    exact ret (nd1, a2, L2 + 1, wt1, j1, st1, en1, pa1, va_up li1 wl a2, sl1, ps1, dp1) H locs ls _ (⟨hG, hst2.2, hst2.1, by show wt1 = pl + 1 - j1; omega, by show j1 ≤ pl + 1; omega⟩) h zd_Su_addLetter_124
              · have e3 : 1 = 0 := zc_ne0_f (by omega) (by omega) e3
                exact absurd e3 (by decide)
  exact loop _ 0 (wt + 1) j nd an L st en pa li sl ps dp ls H locs (Nat.lt_succ_self _) (hwt1) (hV0) (lv_sub hl [1, 2, 0] rfl) h
