/-! DeltaPress -/
/-- the tree is of BASE, where it is said so -/
def tOK (tb tt ab tn nb M sh nd : Nat) (fB : Nat → Int32) (st en pa sl : Nat → Nat) : Prop := tb = 0 ∨ (tb = 1 ∧ tt = ab ∧ tn = nb ∧ ∃ j ps dp, tG fB nb 65536 M sh nd j st en pa sl ps dp ∧ tr_W fB nb j)

set_option maxHeartbeats 4000000 in
set_option maxRecDepth 100000 in
theorem zc_Pr_findLongest (l : Launch) (D : va_G) {d0 oi ob oo oz t0 tb r0 cp nw dm ai n ab nb tt tn aS aE aP aL nd aQ M sh an L wt fl : Nat} {fI fB : Nat → Int32} {fp : Int32} {st en pa li sl : Nat → Nat} {cI cB cS cE cP cL cQ : ClassId} {x : Nat} (hT : tOK tb tt ab tn nb M sh nd fB st en pa sl) (hx : x ≤ n) (hn : n ≤ 65536) (hnb : nb ≤ 65536) (sz : Nat) : zMv l D zy_Pr_findLongest zb_Pr_findLongest 2 ({ frames := 4, cells := 0, slots := 0, locals := 98 } : Room) [.ref d0, .int (nI x)] [(cI, .byte), (cB, .byte), (cS, .int), (cE, .int), (cP, .int), (cL, .int), (cQ, .int)] [(d0, .inr (0, [.ref oi, .ref ob, .ref oo, .ref oz, .ref t0, .int (nI tb), .ref r0, .int (nI cp), .int (nI nw), .int (nI dm)])), (oi, .inr (1, [.ref ai, .int (nI n)])), (ai, .inl (cI, 65536, .inl (fI))), (ob, .inr (1, [.ref ab, .int (nI nb)])), (ab, .inl (cB, 65536, .inl (fB))), (t0, .inr (2, [.ref tt, .int (nI tn), .ref aS, .ref aE, .ref aP, .ref aL, .int (nI nd), .ref aQ, .int (nI M), .int (nI sh), .int (nI an), .int (nI L), .int (nI wt), .int (nI fl), .int fp])), (aS, .inl (cS, 131072, .inl (fun zz => nI (st zz)))), (aE, .inl (cE, 131072, .inl (fun zz => nI (en zz)))), (aP, .inl (cP, 131072, .inl (fun zz => nI (pa zz)))), (aL, .inl (cL, 131072, .inl (fun zz => nI (li zz)))), (aQ, .inl (cQ, 262144, .inl (fun zz => nI (sl zz))))] sz (fun (u : Nat × Nat × Nat × Nat × Nat × Nat × Nat × Int32 × (Nat → Nat) × (Nat → Nat) × (Nat → Nat) × (Nat → Nat) × (Nat → Nat)) => tOK 1 ab ab nb nb u.1 u.2.1 u.2.2.1 fB u.2.2.2.2.2.2.2.2.1 u.2.2.2.2.2.2.2.2.2.1 u.2.2.2.2.2.2.2.2.2.2.1 u.2.2.2.2.2.2.2.2.2.2.2.2 ∧ ∃ P, lg_is fB nb fI x (min (n - x) 65535) u.2.2.2.2.2.2.1 P ∧ (0 < u.2.2.2.2.2.2.1 → u.2.2.2.2.2.2.2.1 = nI P)) (fun u => [(d0, .inr (0, [.ref oi, .ref ob, .ref oo, .ref oz, .ref t0, .int (nI 1), .ref r0, .int (nI cp), .int (nI nw), .int (nI dm)])), (oi, .inr (1, [.ref ai, .int (nI n)])), (ai, .inl (cI, 65536, .inl (fI))), (ob, .inr (1, [.ref ab, .int (nI nb)])), (ab, .inl (cB, 65536, .inl (fB))), (t0, .inr (2, [.ref ab, .int (nI nb), .ref aS, .ref aE, .ref aP, .ref aL, .int (nI u.2.2.1), .ref aQ, .int (nI u.1), .int (nI u.2.1), .int (nI u.2.2.2.1), .int (nI u.2.2.2.2.1), .int (nI u.2.2.2.2.2.1), .int (nI u.2.2.2.2.2.2.1), .int (u.2.2.2.2.2.2.2.1)])), (aS, .inl (cS, 131072, .inl (fun zz => nI (u.2.2.2.2.2.2.2.2.1 zz)))), (aE, .inl (cE, 131072, .inl (fun zz => nI (u.2.2.2.2.2.2.2.2.2.1 zz)))), (aP, .inl (cP, 131072, .inl (fun zz => nI (u.2.2.2.2.2.2.2.2.2.2.1 zz)))), (aL, .inl (cL, 131072, .inl (fun zz => nI (u.2.2.2.2.2.2.2.2.2.2.2.1 zz)))), (aQ, .inl (cQ, 262144, .inl (fun zz => nI (u.2.2.2.2.2.2.2.2.2.2.2.2 zz))))]) := by
  refine zEv (by decide) (Nat.le_of_ble_eq_true rfl) (fun p e s m args below meth c ls A Q X hin hl h hsz ret => ?_)
  have hl : lv_has ls 2 [(0, .ref d0), (1, .int (nI x))] := hl
  generalize hH0 : s.heap = H at h ⊢
  have h : zH D A s [(d0, .inr (0, [.ref oi, .ref ob, .ref oo, .ref oz, .ref t0, .int (nI tb), .ref r0, .int (nI cp), .int (nI nw), .int (nI dm)])), (oi, .inr (1, [.ref ai, .int (nI n)])), (ai, .inl (cI, 65536, .inl (fI))), (ob, .inr (1, [.ref ab, .int (nI nb)])), (ab, .inl (cB, 65536, .inl (fB))), (t0, .inr (2, [.ref tt, .int (nI tn), .ref aS, .ref aE, .ref aP, .ref aL, .int (nI nd), .ref aQ, .int (nI M), .int (nI sh), .int (nI an), .int (nI L), .int (nI wt), .int (nI fl), .int fp])), (aS, .inl (cS, 131072, .inl (fun zz => nI (st zz)))), (aE, .inl (cE, 131072, .inl (fun zz => nI (en zz)))), (aP, .inl (cP, 131072, .inl (fun zz => nI (pa zz)))), (aL, .inl (cL, 131072, .inl (fun zz => nI (li zz)))), (aQ, .inl (cQ, 262144, .inl (fun zz => nI (sl zz))))] H [] := h
  generalize hL0 : ([] : List Loc) = locs at h ⊢
  rcases hT with hz | ⟨hz, hz2, hz3, j, ps, dp, hG, hW⟩
  · subst hz
    have h : zH D A s [(d0, .inr (0, [.ref oi, .ref ob, .ref oo, .ref oz, .ref t0, .int (nI 0), .ref r0, .int (nI cp), .int (nI nw), .int (nI dm)])), (oi, .inr (1, [.ref ai, .int (nI n)])), (ai, .inl (cI, 65536, .inl (fI))), (ob, .inr (1, [.ref ab, .int (nI nb)])), (ab, .inl (cB, 65536, .inl (fB))), (t0, .inr (2, [.ref tt, .int (nI tn), .ref aS, .ref aE, .ref aP, .ref aL, .int (nI nd), .ref aQ, .int (nI M), .int (nI sh), .int (nI an), .int (nI L), .int (nI wt), .int (nI fl), .int fp])), (aS, .inl (cS, 131072, .inl (fun zz => nI (st zz)))), (aE, .inl (cE, 131072, .inl (fun zz => nI (en zz)))), (aP, .inl (cP, 131072, .inl (fun zz => nI (pa zz)))), (aL, .inl (cL, 131072, .inl (fun zz => nI (li zz)))), (aQ, .inl (cQ, 262144, .inl (fun zz => nI (sl zz))))] H locs := h
    refine lv_aload_n X.1.1 X.1.2.1 zd_Pr_findLongest_0 rfl (lv_at hl 0 rfl) ?_
    refine rG X h 0 rfl rfl zW_Pr 5 (by decide) zw_110 rfl zd_Pr_findLongest_1 ?_
    refine lv_if_ne (tgt := 23) X.1.1 X.1.2.1 zd_Pr_findLongest_4 rfl (fun c1 => ?_) (fun c1 => ?_)
    · have c1 : 0 ≠ 0 := zc_ne0_t (by omega) (by omega) c1
      exact absurd rfl c1
    · have c1 : 0 = 0 := zc_ne0_f (by omega) (by omega) c1
      refine lv_aload_n X.1.1 X.1.2.1 zd_Pr_findLongest_7 rfl (lv_at hl 0 rfl) ?_
      refine rG X h 0 rfl rfl zW_Pr 4 (by decide) zw_109 rfl zd_Pr_findLongest_8 ?_
      refine lv_aload_n X.1.1 X.1.2.1 zd_Pr_findLongest_11 rfl (lv_at hl 0 rfl) ?_
      refine rG X h 0 rfl rfl zW_Pr 1 (by decide) zw_106 rfl zd_Pr_findLongest_12 ?_
      refine rCv (wr := [(d0, .inr (0, [.ref oi, .ref ob, .ref oo, .ref oz, .ref t0, .int (nI 0), .ref r0, .int (nI cp), .int (nI nw), .int (nI dm)])), (oi, .inr (1, [.ref ai, .int (nI n)])), (ai, .inl (cI, 65536, .inl (fI)))]) (wf := fun u => [(d0, .inr (0, [.ref oi, .ref ob, .ref oo, .ref oz, .ref t0, .int (nI 0), .ref r0, .int (nI cp), .int (nI nw), .int (nI dm)])), (oi, .inr (1, [.ref ai, .int (nI n)])), (ai, .inl (cI, 65536, .inl (fI))), (ob, .inr (1, [.ref ab, .int (nI nb)])), (ab, .inl (cB, 65536, .inl (fB))), (t0, .inr (2, [.ref ab, .int (nI nb), .ref aS, .ref aE, .ref aP, .ref aL, .int (nI u.2.2.1), .ref aQ, .int (nI u.1), .int (nI u.2.1), .int (nI u.2.2.2.1), .int (nI u.2.2.2.2.1), .int (nI u.2.2.2.2.2.1), .int (nI fl), .int fp])), (aS, .inl (cS, 131072, .inl (fun zz => nI (u.2.2.2.2.2.2.2.1 zz)))), (aE, .inl (cE, 131072, .inl (fun zz => nI (u.2.2.2.2.2.2.2.2.1 zz)))), (aP, .inl (cP, 131072, .inl (fun zz => nI (u.2.2.2.2.2.2.2.2.2.1 zz)))), (aL, .inl (cL, 131072, .inl (fun zz => nI (u.2.2.2.2.2.2.2.2.2.2.1 zz)))), (aQ, .inl (cQ, 262144, .inl (fun zz => nI (u.2.2.2.2.2.2.2.2.2.2.2.1 zz))))]) (rest := []) X h hl.1 (zc_Su_grow l D (t0 := t0) (tb := tt) (n0 := tn) (aS := aS) (aE := aE) (aP := aP) (aL := aL) (nd := nd) (aQ := aQ) (M := M) (sh := sh) (an := an) (L := L) (wt := wt) (fl := fl) (fp := fp) (st := st) (cS := cS) (en := en) (cE := cE) (pa := pa) (cP := cP) (li := li) (cL := cL) (sl := sl) (cQ := cQ) (o := ob) (a := ab) (n := nb) (N := 65536) (f := fB) (cB := cB) (hnb) (by omega) (by omega) H.size) zw_164 zw_165 zw_166 zw_3 zm_Su_grow zq_Su_grow ⟨Nat.le_of_ble_eq_true rfl, Nat.le_of_ble_eq_true rfl⟩ ⟨Nat.le_of_ble_eq_true rfl, Nat.le_of_ble_eq_true rfl⟩ [2, 3, 4, 5, 6, 1] rfl [5, 6, 7, 8, 9, 10, 3, 4] [0, 1, 2] [0, 1, 2, 9, 10, 3, 4, 5, 6, 7, 8] rfl (by decide) rfl (by decide) (by decide) (fun _ => rfl) (by decide) 0 rfl rfl rfl (Nat.le_of_ble_eq_true rfl) zd_Pr_findLongest_15 (fun u H locs hp h => ?_)
      have q1 : tG fB nb 65536 u.1 u.2.1 u.2.2.1 u.2.2.2.2.2.2.1 u.2.2.2.2.2.2.2.1 u.2.2.2.2.2.2.2.2.1 u.2.2.2.2.2.2.2.2.2.1 u.2.2.2.2.2.2.2.2.2.2.2.1 u.2.2.2.2.2.2.2.2.2.2.2.2.1 u.2.2.2.2.2.2.2.2.2.2.2.2.2 ∧ tr_W fB nb u.2.2.2.2.2.2.1 := hp
      have h : zH D A s [(d0, .inr (0, [.ref oi, .ref ob, .ref oo, .ref oz, .ref t0, .int (nI 0), .ref r0, .int (nI cp), .int (nI nw), .int (nI dm)])), (oi, .inr (1, [.ref ai, .int (nI n)])), (ai, .inl (cI, 65536, .inl (fI))), (ob, .inr (1, [.ref ab, .int (nI nb)])), (ab, .inl (cB, 65536, .inl (fB))), (t0, .inr (2, [.ref ab, .int (nI nb), .ref aS, .ref aE, .ref aP, .ref aL, .int (nI u.2.2.1), .ref aQ, .int (nI u.1), .int (nI u.2.1), .int (nI u.2.2.2.1), .int (nI u.2.2.2.2.1), .int (nI u.2.2.2.2.2.1), .int (nI fl), .int fp])), (aS, .inl (cS, 131072, .inl (fun zz => nI (u.2.2.2.2.2.2.2.1 zz)))), (aE, .inl (cE, 131072, .inl (fun zz => nI (u.2.2.2.2.2.2.2.2.1 zz)))), (aP, .inl (cP, 131072, .inl (fun zz => nI (u.2.2.2.2.2.2.2.2.2.1 zz)))), (aL, .inl (cL, 131072, .inl (fun zz => nI (u.2.2.2.2.2.2.2.2.2.2.1 zz)))), (aQ, .inl (cQ, 262144, .inl (fun zz => nI (u.2.2.2.2.2.2.2.2.2.2.2.1 zz))))] H locs := h
      obtain ⟨M1, sh1, nd1, an1, L1, wt1, j, st1, en1, pa1, li1, sl1, ps, dp⟩ := u
      have h : zH D A s [(d0, .inr (0, [.ref oi, .ref ob, .ref oo, .ref oz, .ref t0, .int (nI 0), .ref r0, .int (nI cp), .int (nI nw), .int (nI dm)])), (oi, .inr (1, [.ref ai, .int (nI n)])), (ai, .inl (cI, 65536, .inl (fI))), (ob, .inr (1, [.ref ab, .int (nI nb)])), (ab, .inl (cB, 65536, .inl (fB))), (t0, .inr (2, [.ref ab, .int (nI nb), .ref aS, .ref aE, .ref aP, .ref aL, .int (nI nd1), .ref aQ, .int (nI M1), .int (nI sh1), .int (nI an1), .int (nI L1), .int (nI wt1), .int (nI fl), .int fp])), (aS, .inl (cS, 131072, .inl (fun zz => nI (st1 zz)))), (aE, .inl (cE, 131072, .inl (fun zz => nI (en1 zz)))), (aP, .inl (cP, 131072, .inl (fun zz => nI (pa1 zz)))), (aL, .inl (cL, 131072, .inl (fun zz => nI (li1 zz)))), (aQ, .inl (cQ, 262144, .inl (fun zz => nI (sl1 zz))))] H locs := h
      obtain ⟨hG, hW⟩ := q1
      refine lv_aload_n X.1.1 X.1.2.1 zd_Pr_findLongest_18 rfl (lv_at hl 0 rfl) ?_
      refine lv_iconst (v := nI 1) X.1.1 X.1.2.1 zd_Pr_findLongest_19 (by decide) ?_
      refine rP X h 0 rfl rfl zW_Pr zO_Pr zN_Pr 5 (by decide) zw_110 rfl (rfl) (rfl) (Nat.le_of_ble_eq_true rfl) zd_Pr_findLongest_20 (fun H locs h => ?_)
      have h : zH D A s [(d0, .inr (0, [.ref oi, .ref ob, .ref oo, .ref oz, .ref t0, .int (nI 1), .ref r0, .int (nI cp), .int (nI nw), .int (nI dm)])), (oi, .inr (1, [.ref ai, .int (nI n)])), (ai, .inl (cI, 65536, .inl (fI))), (ob, .inr (1, [.ref ab, .int (nI nb)])), (ab, .inl (cB, 65536, .inl (fB))), (t0, .inr (2, [.ref ab, .int (nI nb), .ref aS, .ref aE, .ref aP, .ref aL, .int (nI nd1), .ref aQ, .int (nI M1), .int (nI sh1), .int (nI an1), .int (nI L1), .int (nI wt1), .int (nI fl), .int fp])), (aS, .inl (cS, 131072, .inl (fun zz => nI (st1 zz)))), (aE, .inl (cE, 131072, .inl (fun zz => nI (en1 zz)))), (aP, .inl (cP, 131072, .inl (fun zz => nI (pa1 zz)))), (aL, .inl (cL, 131072, .inl (fun zz => nI (li1 zz)))), (aQ, .inl (cQ, 262144, .inl (fun zz => nI (sl1 zz))))] H locs := h
      refine lv_aload_n X.1.1 X.1.2.1 zd_Pr_findLongest_23 rfl (lv_at hl 0 rfl) ?_
      refine rG X h 0 rfl rfl zW_Pr 4 (by decide) zw_109 rfl zd_Pr_findLongest_24 ?_
      refine lv_aload_n X.1.1 X.1.2.1 zd_Pr_findLongest_27 rfl (lv_at hl 0 rfl) ?_
      refine rG X h 0 rfl rfl zW_Pr 0 (by decide) zw_105 rfl zd_Pr_findLongest_28 ?_
      refine lv_iload_n X.1.1 X.1.2.1 zd_Pr_findLongest_31 rfl (lv_at hl 1 rfl) ?_
      refine lv_ldc X.1.1 X.1.2.1 X.1.2.2.2.1 (X.1.2.2.2.2 _ zw_223) zd_Pr_findLongest_32 ?_
      refine zTop (y := nI 65535) (by decide) ?_
      refine rCv (wr := [(d0, .inr (0, [.ref oi, .ref ob, .ref oo, .ref oz, .ref t0, .int (nI 1), .ref r0, .int (nI cp), .int (nI nw), .int (nI dm)])), (ob, .inr (1, [.ref ab, .int (nI nb)]))]) (wf := fun v => [(d0, .inr (0, [.ref oi, .ref ob, .ref oo, .ref oz, .ref t0, .int (nI 1), .ref r0, .int (nI cp), .int (nI nw), .int (nI dm)])), (oi, .inr (1, [.ref ai, .int (nI n)])), (ai, .inl (cI, 65536, .inl (fI))), (ob, .inr (1, [.ref ab, .int (nI nb)])), (ab, .inl (cB, 65536, .inl (fB))), (t0, .inr (2, [.ref ab, .int (nI nb), .ref aS, .ref aE, .ref aP, .ref aL, .int (nI nd1), .ref aQ, .int (nI M1), .int (nI sh1), .int (nI an1), .int (nI L1), .int (nI wt1), .int (nI v.1), .int (v.2)])), (aS, .inl (cS, 131072, .inl (fun zz => nI (st1 zz)))), (aE, .inl (cE, 131072, .inl (fun zz => nI (en1 zz)))), (aP, .inl (cP, 131072, .inl (fun zz => nI (pa1 zz)))), (aL, .inl (cL, 131072, .inl (fun zz => nI (li1 zz)))), (aQ, .inl (cQ, 262144, .inl (fun zz => nI (sl1 zz))))]) (rest := []) X h hl.1 (zc_Su_find l D (t0 := t0) (ta := ab) (n := nb) (aS := aS) (aE := aE) (aP := aP) (aL := aL) (nd := nd1) (aQ := aQ) (M := M1) (sh := sh1) (an := an1) (L := L1) (wt := wt1) (fl := fl) (fp := fp) (st := st1) (cS := cS) (en := en1) (cE := cE) (pa := pa1) (cP := cP) (li := li1) (cL := cL) (sl := sl1) (cQ := cQ) (T := fB) (cB := cB) (NB := 65536) (o2 := oi) (ar := ai) (n2 := n) (NR := 65536) (R := fI) (cR := cI) (fr := x) (mo := 65535) (j := j) (ps := ps) (dp := dp) (hG) (hW) (hx) (by omega) (by omega) (by omega) H.size) zw_224 zw_225 zw_226 zw_3 zm_Su_find zq_Su_find ⟨Nat.le_of_ble_eq_true rfl, Nat.le_of_ble_eq_true rfl⟩ ⟨Nat.le_of_ble_eq_true rfl, Nat.le_of_ble_eq_true rfl⟩ [2, 3, 4, 5, 6, 1, 0] rfl [5, 6, 7, 8, 9, 10, 4, 1, 2] [0, 3] [0, 9, 10, 1, 8, 2, 3, 4, 5, 6, 7] rfl (by decide) rfl (by decide) (by decide) (fun _ => rfl) (by decide) 0 rfl rfl rfl (Nat.le_of_ble_eq_true rfl) zd_Pr_findLongest_34 (fun v H locs hp h => ?_)
      have q2 : ∃ P, lg_is fB nb fI x (min (n - x) 65535) v.1 P ∧ (0 < v.1 → v.2 = nI P) := hp
      have h : zH D A s [(d0, .inr (0, [.ref oi, .ref ob, .ref oo, .ref oz, .ref t0, .int (nI 1), .ref r0, .int (nI cp), .int (nI nw), .int (nI dm)])), (oi, .inr (1, [.ref ai, .int (nI n)])), (ai, .inl (cI, 65536, .inl (fI))), (ob, .inr (1, [.ref ab, .int (nI nb)])), (ab, .inl (cB, 65536, .inl (fB))), (t0, .inr (2, [.ref ab, .int (nI nb), .ref aS, .ref aE, .ref aP, .ref aL, .int (nI nd1), .ref aQ, .int (nI M1), .int (nI sh1), .int (nI an1), .int (nI L1), .int (nI wt1), .int (nI v.1), .int (v.2)])), (aS, .inl (cS, 131072, .inl (fun zz => nI (st1 zz)))), (aE, .inl (cE, 131072, .inl (fun zz => nI (en1 zz)))), (aP, .inl (cP, 131072, .inl (fun zz => nI (pa1 zz)))), (aL, .inl (cL, 131072, .inl (fun zz => nI (li1 zz)))), (aQ, .inl (cQ, 262144, .inl (fun zz => nI (sl1 zz))))] H locs := h
      obtain ⟨fl2, fp2⟩ := v
      have h : zH D A s [(d0, .inr (0, [.ref oi, .ref ob, .ref oo, .ref oz, .ref t0, .int (nI 1), .ref r0, .int (nI cp), .int (nI nw), .int (nI dm)])), (oi, .inr (1, [.ref ai, .int (nI n)])), (ai, .inl (cI, 65536, .inl (fI))), (ob, .inr (1, [.ref ab, .int (nI nb)])), (ab, .inl (cB, 65536, .inl (fB))), (t0, .inr (2, [.ref ab, .int (nI nb), .ref aS, .ref aE, .ref aP, .ref aL, .int (nI nd1), .ref aQ, .int (nI M1), .int (nI sh1), .int (nI an1), .int (nI L1), .int (nI wt1), .int (nI fl2), .int fp2])), (aS, .inl (cS, 131072, .inl (fun zz => nI (st1 zz)))), (aE, .inl (cE, 131072, .inl (fun zz => nI (en1 zz)))), (aP, .inl (cP, 131072, .inl (fun zz => nI (pa1 zz)))), (aL, .inl (cL, 131072, .inl (fun zz => nI (li1 zz)))), (aQ, .inl (cQ, 262144, .inl (fun zz => nI (sl1 zz))))] H locs := h
      exact ret (M1, sh1, nd1, an1, L1, wt1, fl2, fp2, st1, en1, pa1, li1, sl1) H locs ls _ (⟨Or.inr ⟨rfl, rfl, rfl, j, ps, dp, hG, hW⟩, q2⟩) h zd_Pr_findLongest_37
  · subst hz
    have hz2 := hz2.symm
    subst hz2
    have hz3 := hz3.symm
    subst hz3
    have h : zH D A s [(d0, .inr (0, [.ref oi, .ref ob, .ref oo, .ref oz, .ref t0, .int (nI 1), .ref r0, .int (nI cp), .int (nI nw), .int (nI dm)])), (oi, .inr (1, [.ref ai, .int (nI n)])), (ai, .inl (cI, 65536, .inl (fI))), (ob, .inr (1, [.ref ab, .int (nI nb)])), (ab, .inl (cB, 65536, .inl (fB))), (t0, .inr (2, [.ref ab, .int (nI nb), .ref aS, .ref aE, .ref aP, .ref aL, .int (nI nd), .ref aQ, .int (nI M), .int (nI sh), .int (nI an), .int (nI L), .int (nI wt), .int (nI fl), .int fp])), (aS, .inl (cS, 131072, .inl (fun zz => nI (st zz)))), (aE, .inl (cE, 131072, .inl (fun zz => nI (en zz)))), (aP, .inl (cP, 131072, .inl (fun zz => nI (pa zz)))), (aL, .inl (cL, 131072, .inl (fun zz => nI (li zz)))), (aQ, .inl (cQ, 262144, .inl (fun zz => nI (sl zz))))] H locs := h
    refine lv_aload_n X.1.1 X.1.2.1 zd_Pr_findLongest_0 rfl (lv_at hl 0 rfl) ?_
    refine rG X h 0 rfl rfl zW_Pr 5 (by decide) zw_110 rfl zd_Pr_findLongest_1 ?_
    refine lv_if_ne (tgt := 23) X.1.1 X.1.2.1 zd_Pr_findLongest_4 rfl (fun c1 => ?_) (fun c1 => ?_)
    · have c1 : 1 ≠ 0 := zc_ne0_t (by omega) (by omega) c1
      refine lv_aload_n X.1.1 X.1.2.1 zd_Pr_findLongest_23 rfl (lv_at hl 0 rfl) ?_
      refine rG X h 0 rfl rfl zW_Pr 4 (by decide) zw_109 rfl zd_Pr_findLongest_24 ?_
      refine lv_aload_n X.1.1 X.1.2.1 zd_Pr_findLongest_27 rfl (lv_at hl 0 rfl) ?_
      refine rG X h 0 rfl rfl zW_Pr 0 (by decide) zw_105 rfl zd_Pr_findLongest_28 ?_
      refine lv_iload_n X.1.1 X.1.2.1 zd_Pr_findLongest_31 rfl (lv_at hl 1 rfl) ?_
      refine lv_ldc X.1.1 X.1.2.1 X.1.2.2.2.1 (X.1.2.2.2.2 _ zw_223) zd_Pr_findLongest_32 ?_
      refine zTop (y := nI 65535) (by decide) ?_
      refine rCv (wr := [(d0, .inr (0, [.ref oi, .ref ob, .ref oo, .ref oz, .ref t0, .int (nI 1), .ref r0, .int (nI cp), .int (nI nw), .int (nI dm)])), (ob, .inr (1, [.ref ab, .int (nI nb)]))]) (wf := fun v => [(d0, .inr (0, [.ref oi, .ref ob, .ref oo, .ref oz, .ref t0, .int (nI 1), .ref r0, .int (nI cp), .int (nI nw), .int (nI dm)])), (oi, .inr (1, [.ref ai, .int (nI n)])), (ai, .inl (cI, 65536, .inl (fI))), (ob, .inr (1, [.ref ab, .int (nI nb)])), (ab, .inl (cB, 65536, .inl (fB))), (t0, .inr (2, [.ref ab, .int (nI nb), .ref aS, .ref aE, .ref aP, .ref aL, .int (nI nd), .ref aQ, .int (nI M), .int (nI sh), .int (nI an), .int (nI L), .int (nI wt), .int (nI v.1), .int (v.2)])), (aS, .inl (cS, 131072, .inl (fun zz => nI (st zz)))), (aE, .inl (cE, 131072, .inl (fun zz => nI (en zz)))), (aP, .inl (cP, 131072, .inl (fun zz => nI (pa zz)))), (aL, .inl (cL, 131072, .inl (fun zz => nI (li zz)))), (aQ, .inl (cQ, 262144, .inl (fun zz => nI (sl zz))))]) (rest := []) X h hl.1 (zc_Su_find l D (t0 := t0) (ta := ab) (n := nb) (aS := aS) (aE := aE) (aP := aP) (aL := aL) (nd := nd) (aQ := aQ) (M := M) (sh := sh) (an := an) (L := L) (wt := wt) (fl := fl) (fp := fp) (st := st) (cS := cS) (en := en) (cE := cE) (pa := pa) (cP := cP) (li := li) (cL := cL) (sl := sl) (cQ := cQ) (T := fB) (cB := cB) (NB := 65536) (o2 := oi) (ar := ai) (n2 := n) (NR := 65536) (R := fI) (cR := cI) (fr := x) (mo := 65535) (j := j) (ps := ps) (dp := dp) (hG) (hW) (hx) (by omega) (by omega) (by omega) H.size) zw_224 zw_225 zw_226 zw_3 zm_Su_find zq_Su_find ⟨Nat.le_of_ble_eq_true rfl, Nat.le_of_ble_eq_true rfl⟩ ⟨Nat.le_of_ble_eq_true rfl, Nat.le_of_ble_eq_true rfl⟩ [2, 3, 4, 5, 6, 1, 0] rfl [5, 6, 7, 8, 9, 10, 4, 1, 2] [0, 3] [0, 9, 10, 1, 8, 2, 3, 4, 5, 6, 7] rfl (by decide) rfl (by decide) (by decide) (fun _ => rfl) (by decide) 0 rfl rfl rfl (Nat.le_of_ble_eq_true rfl) zd_Pr_findLongest_34 (fun v H locs hp h => ?_)
      have q2 : ∃ P, lg_is fB nb fI x (min (n - x) 65535) v.1 P ∧ (0 < v.1 → v.2 = nI P) := hp
      have h : zH D A s [(d0, .inr (0, [.ref oi, .ref ob, .ref oo, .ref oz, .ref t0, .int (nI 1), .ref r0, .int (nI cp), .int (nI nw), .int (nI dm)])), (oi, .inr (1, [.ref ai, .int (nI n)])), (ai, .inl (cI, 65536, .inl (fI))), (ob, .inr (1, [.ref ab, .int (nI nb)])), (ab, .inl (cB, 65536, .inl (fB))), (t0, .inr (2, [.ref ab, .int (nI nb), .ref aS, .ref aE, .ref aP, .ref aL, .int (nI nd), .ref aQ, .int (nI M), .int (nI sh), .int (nI an), .int (nI L), .int (nI wt), .int (nI v.1), .int (v.2)])), (aS, .inl (cS, 131072, .inl (fun zz => nI (st zz)))), (aE, .inl (cE, 131072, .inl (fun zz => nI (en zz)))), (aP, .inl (cP, 131072, .inl (fun zz => nI (pa zz)))), (aL, .inl (cL, 131072, .inl (fun zz => nI (li zz)))), (aQ, .inl (cQ, 262144, .inl (fun zz => nI (sl zz))))] H locs := h
      obtain ⟨fl2, fp2⟩ := v
      have h : zH D A s [(d0, .inr (0, [.ref oi, .ref ob, .ref oo, .ref oz, .ref t0, .int (nI 1), .ref r0, .int (nI cp), .int (nI nw), .int (nI dm)])), (oi, .inr (1, [.ref ai, .int (nI n)])), (ai, .inl (cI, 65536, .inl (fI))), (ob, .inr (1, [.ref ab, .int (nI nb)])), (ab, .inl (cB, 65536, .inl (fB))), (t0, .inr (2, [.ref ab, .int (nI nb), .ref aS, .ref aE, .ref aP, .ref aL, .int (nI nd), .ref aQ, .int (nI M), .int (nI sh), .int (nI an), .int (nI L), .int (nI wt), .int (nI fl2), .int fp2])), (aS, .inl (cS, 131072, .inl (fun zz => nI (st zz)))), (aE, .inl (cE, 131072, .inl (fun zz => nI (en zz)))), (aP, .inl (cP, 131072, .inl (fun zz => nI (pa zz)))), (aL, .inl (cL, 131072, .inl (fun zz => nI (li zz)))), (aQ, .inl (cQ, 262144, .inl (fun zz => nI (sl zz))))] H locs := h
      exact ret (M, sh, nd, an, L, wt, fl2, fp2, st, en, pa, li, sl) H locs ls _ (⟨Or.inr ⟨rfl, rfl, rfl, j, ps, dp, hG, hW⟩, q2⟩) h zd_Pr_findLongest_37
    · have c1 : 1 = 0 := zc_ne0_f (by omega) (by omega) c1
      exact absurd c1 (by decide)

set_option maxHeartbeats 4000000 in
set_option maxRecDepth 100000 in
theorem zc_Pr_bitsOfBytes (l : Launch) (D : va_G) {v k : Nat} (hv : v < 2 ^ 31) (hk : k ≤ 4) (sz : Nat) : zMi l D zy_Pr_bitsOfBytes zb_Pr_bitsOfBytes 4 .int ({ frames := 0, cells := 0, slots := 0, locals := 0 } : Room) [.int (nI v), .int (nI k)] [] [] sz (fun (r : Int32) (u : Unit) => r = nI (bsm v k) ∧ True) (fun _ => []) := by
  refine zEi (by decide) (Nat.le_of_ble_eq_true rfl) (fun p e s m args below meth c ls A Q X hl h hsz ret => ?_)
  have hl : lv_has ls 4 [(0, .int (nI v)), (1, .int (nI k))] := hl
  generalize hH0 : s.heap = H at h ⊢
  have h : zH D A s [] H [] := h
  generalize hL0 : ([] : List Loc) = locs at h ⊢
  refine lv_iconst (v := nI 0) X.1.1 X.1.2.1 zd_Pr_bitsOfBytes_0 (by decide) ?_
  refine lv_istore_n X.1.1 X.1.2.1 zd_Pr_bitsOfBytes_1 rfl hl (by decide) rfl (fun ls hl => ?_)
  have hl : lv_has ls 4 [(2, .int (nI 0)), (0, .int (nI v)), (1, .int (nI k))] := hl
  refine lv_iconst (v := nI 0) X.1.1 X.1.2.1 zd_Pr_bitsOfBytes_2 (by decide) ?_
  refine lv_istore_n X.1.1 X.1.2.1 zd_Pr_bitsOfBytes_3 rfl hl (by decide) rfl (fun ls hl => ?_)
  have hl : lv_has ls 4 [(3, .int (nI 0)), (2, .int (nI 0)), (0, .int (nI v)), (1, .int (nI k))] := hl
  have loop : ∀ (fu : Nat) (i : Nat) (ls : Array Slot) (H : Heap) (locs : List Loc), k - i < fu → i ≤ k → lv_has ls 4 [(0, .int (nI v)), (1, .int (nI k)), (2, .int (nI (bsm v i))), (3, .int (nI i))] → zH D A s [] H locs → W p l e ({ frames := 0, cells := 0, slots := 0, locals := 0 } : Room) s m args below meth c H locs 0 0 Q (F0 m 4 ls []) := by
    intro fu
    induction fu with
    | zero => intro i ls H locs hfu; exact absurd hfu (Nat.not_lt_zero _)
    | succ fu ih =>
      intro i ls H locs hfu hi hl h
      have hbk := bsm_lt v i
      have hpw : (2 : Nat) ^ i ≤ 2 ^ 4 := Nat.pow_le_pow_right (by decide) (by omega)
      have hby := byt_lt v i
      refine lv_iload_n X.1.1 X.1.2.1 zd_Pr_bitsOfBytes_4 rfl (lv_at hl 3 rfl) ?_
      refine lv_iload_n X.1.1 X.1.2.1 zd_Pr_bitsOfBytes_5 rfl (lv_at hl 1 rfl) ?_
      refine lv_icmp_ge (tgt := 34) X.1.1 X.1.2.1 zd_Pr_bitsOfBytes_6 rfl (fun c1 => ?_) (fun c1 => ?_)
      · have c1 : k ≤ i := zc_ge_t (by omega) (by omega) c1
        have ei : i = k := by omega
        subst ei
        refine lv_iload_n X.1.1 X.1.2.1 zd_Pr_bitsOfBytes_34 rfl (lv_at hl 2 rfl) ?_
        exact ret _ () H locs ls _ (⟨rfl, trivial⟩) h zd_Pr_bitsOfBytes_35
      · have c1 : i < k := zc_ge_f (by omega) (by omega) c1
        refine lv_iload_n X.1.1 X.1.2.1 zd_Pr_bitsOfBytes_9 rfl (lv_at hl 0 rfl) ?_
        refine lv_bipush (v := nI 8) X.1.1 X.1.2.1 zd_Pr_bitsOfBytes_10 (by decide) ?_
        refine lv_iload_n X.1.1 X.1.2.1 zd_Pr_bitsOfBytes_12 rfl (lv_at hl 3 rfl) ?_
        refine lv_imul X.1.1 X.1.2.1 zd_Pr_bitsOfBytes_13 ?_
        refine zTop (y := nI (8 * i)) (pk_mul _ _) ?_
        refine lv_iushr (v := ((nI v).toUInt32 >>> ((nI (8 * i)).toUInt32 &&& Int32.toUInt32 31)).toInt32) X.1.1 X.1.2.1 zd_Pr_bitsOfBytes_14 (rfl) ?_
        refine lv_sipush (v := nI 255) X.1.1 X.1.2.1 zd_Pr_bitsOfBytes_15 (by decide) ?_
        refine lv_iand X.1.1 X.1.2.1 zd_Pr_bitsOfBytes_18 ?_
        refine zTop (y := nI (byt v i)) (byt_sh hv (by omega)) ?_
        refine lv_if_eq (tgt := 28) X.1.1 X.1.2.1 zd_Pr_bitsOfBytes_19 rfl (fun c2 => ?_) (fun c2 => ?_)
        · have c2 : byt v i = 0 := zc_eq0_t (by omega) (by omega) c2
          have e1 : bsm v (i + 1) = bsm v i := by rw [bsm_su v i, if_pos c2, Nat.add_zero]
          refine lv_iinc X.1.1 X.1.2.1 zd_Pr_bitsOfBytes_28 hl (k := 3) rfl (v := nI (i + 1)) (nI_add _ _) (by decide) rfl (fun ls hl => ?_)
          have hl : lv_has ls 4 [(3, .int (nI (i + 1))), (0, .int (nI v)), (1, .int (nI k)), (2, .int (nI (bsm v i)))] := hl
          refine lv_goto (tgt := 4) X.1.1 X.1.2.1 zd_Pr_bitsOfBytes_31 rfl ?_
          rw [← e1] at hl
          exact ih (i + 1) ls H locs (by omega) (by omega) (lv_sub hl [1, 2, 3, 0] rfl) h
        · have c2 : byt v i ≠ 0 := zc_eq0_f (by omega) (by omega) c2
          have e1 : bsm v (i + 1) = bsm v i + 2 ^ i := by rw [bsm_su v i, if_neg c2]
          have e2 : nI (bsm v i) ||| nI (2 ^ i) = nI (bsm v (i + 1)) := by
            rw [nI_or, e1]
            congr 1
            have q := Nat.two_pow_add_eq_or_of_lt (i := i) hbk 1
            rw [Nat.mul_one] at q
            rw [Nat.or_comm, ← q, Nat.add_comm]
          refine lv_iload_n X.1.1 X.1.2.1 zd_Pr_bitsOfBytes_22 rfl (lv_at hl 2 rfl) ?_
          refine lv_iconst (v := nI 1) X.1.1 X.1.2.1 zd_Pr_bitsOfBytes_23 (by decide) ?_
          refine lv_iload_n X.1.1 X.1.2.1 zd_Pr_bitsOfBytes_24 rfl (lv_at hl 3 rfl) ?_
          refine lv_ishl X.1.1 X.1.2.1 zd_Pr_bitsOfBytes_25 ?_
          refine zTop (y := nI (2 ^ i)) (shl1 (by omega)) ?_
          refine lv_ior X.1.1 X.1.2.1 zd_Pr_bitsOfBytes_26 ?_
          refine zTop (y := nI (bsm v (i + 1))) (e2) ?_
          refine lv_istore_n X.1.1 X.1.2.1 zd_Pr_bitsOfBytes_27 rfl hl (by decide) rfl (fun ls hl => ?_)
          have hl : lv_has ls 4 [(2, .int (nI (bsm v (i + 1)))), (0, .int (nI v)), (1, .int (nI k)), (3, .int (nI i))] := hl
          refine lv_iinc X.1.1 X.1.2.1 zd_Pr_bitsOfBytes_28 hl (k := 3) rfl (v := nI (i + 1)) (nI_add _ _) (by decide) rfl (fun ls hl => ?_)
          have hl : lv_has ls 4 [(3, .int (nI (i + 1))), (2, .int (nI (bsm v (i + 1)))), (0, .int (nI v)), (1, .int (nI k))] := hl
          refine lv_goto (tgt := 4) X.1.1 X.1.2.1 zd_Pr_bitsOfBytes_31 rfl ?_
          exact ih (i + 1) ls H locs (by omega) (by omega) (lv_sub hl [2, 3, 1, 0] rfl) h
  have e0 : (0 : Nat) = bsm v 0 := rfl
  have hl : lv_has ls 4 [(3, .int (nI 0)), (2, .int (nI (bsm v 0))), (0, .int (nI v)), (1, .int (nI k))] := hl
  exact loop _ 0 ls H locs (Nat.lt_succ_self _) (by omega) (lv_sub hl [2, 3, 1, 0] rfl) h

set_option maxHeartbeats 4000000 in
set_option maxRecDepth 100000 in
theorem zc_Pr_writeCopy (l : Launch) (D : va_G) {d0 oi ob oo oz t0 tb r0 cp nw dm ao no : Nat} {fO : Nat → Int32} {cO : ClassId} {pp LL : Nat} (hf : sb_Fit fO) (hp : pp < 65536) (hb : LL < 65536) (hn : no + (cpB pp LL).length ≤ 66059) (sz : Nat) : zMv l D zy_Pr_writeCopy zb_Pr_writeCopy 4 ({ frames := 2, cells := 0, slots := 0, locals := 48 } : Room) [.ref d0, .int (nI pp), .int (nI LL)] [(cO, .byte)] [(d0, .inr (0, [.ref oi, .ref ob, .ref oo, .ref oz, .ref t0, .int (nI tb), .ref r0, .int (nI cp), .int (nI nw), .int (nI dm)])), (oo, .inr (1, [.ref ao, .int (nI no)])), (ao, .inl (cO, 66059, .inl (fO)))] sz (fun (u : Nat → Int32) => tx u (no + (cpB pp LL).length) = tx fO no ++ cpB pp LL ∧ sb_Fit u) (fun u => [(d0, .inr (0, [.ref oi, .ref ob, .ref oo, .ref oz, .ref t0, .int (nI tb), .ref r0, .int (nI (cp + 1)), .int (nI nw), .int (nI dm)])), (oo, .inr (1, [.ref ao, .int (nI (no + (cpB pp LL).length))])), (ao, .inl (cO, 66059, .inl (u)))]) := by
  refine zEv (by decide) (Nat.le_of_ble_eq_true rfl) (fun p e s m args below meth c ls A Q X hin hl h hsz ret => ?_)
  have hl : lv_has ls 4 [(0, .ref d0), (1, .int (nI pp)), (2, .int (nI LL))] := hl
  generalize hH0 : s.heap = H at h ⊢
  have h : zH D A s [(d0, .inr (0, [.ref oi, .ref ob, .ref oo, .ref oz, .ref t0, .int (nI tb), .ref r0, .int (nI cp), .int (nI nw), .int (nI dm)])), (oo, .inr (1, [.ref ao, .int (nI no)])), (ao, .inl (cO, 66059, .inl (fO)))] H [] := h
  generalize hL0 : ([] : List Loc) = locs at h ⊢
  have hb4 := bsm_lt pp 4
  have hb2 := bsm_lt LL 2
  have hcl : (cpB pp LL).length = (nzS pp 0 4).length + (nzS LL 0 2).length + 1 := by unfold cpB; rw [List.length_cons, List.length_append]
  have e1 : nI (bsm pp 4) ||| nI (bsm LL 2 * 16) = nI (bsm pp 4 + 16 * bsm LL 2) := by
    rw [nI_or]
    congr 1
    have q := Nat.two_pow_add_eq_or_of_lt (i := 4) hb4 (bsm LL 2)
    rw [Nat.or_comm, Nat.mul_comm (bsm LL 2), ← show 2 ^ 4 * bsm LL 2 = 16 * bsm LL 2 from rfl, ← q]
    omega
  have e2 : nI 128 ||| nI (bsm pp 4 + 16 * bsm LL 2) = nI (128 + bsm pp 4 + 16 * bsm LL 2) := by
    rw [nI_or]
    congr 1
    have q := Nat.two_pow_add_eq_or_of_lt (i := 7) (b := bsm pp 4 + 16 * bsm LL 2) (by omega) 1
    have e : (2 ^ 7 * 1 ||| (bsm pp 4 + 16 * bsm LL 2)) = (128 ||| (bsm pp 4 + 16 * bsm LL 2)) := rfl
    omega
  refine lv_iload_n X.1.1 X.1.2.1 zd_Pr_writeCopy_0 rfl (lv_at hl 1 rfl) ?_
  refine lv_iconst (v := nI 4) X.1.1 X.1.2.1 zd_Pr_writeCopy_1 (by decide) ?_
  refine rCs (wr := [(d0, .inr (0, [.ref oi, .ref ob, .ref oo, .ref oz, .ref t0, .int (nI tb), .ref r0, .int (nI cp), .int (nI nw), .int (nI dm)])), (oo, .inr (1, [.ref ao, .int (nI no)])), (ao, .inl (cO, 66059, .inl (fO)))]) (wf := fun _ => [(d0, .inr (0, [.ref oi, .ref ob, .ref oo, .ref oz, .ref t0, .int (nI tb), .ref r0, .int (nI cp), .int (nI nw), .int (nI dm)])), (oo, .inr (1, [.ref ao, .int (nI no)])), (ao, .inl (cO, 66059, .inl (fO)))]) (rest := []) X h hl.1 (zc_Pr_bitsOfBytes l D (v := pp) (k := 4) (by omega) (by decide) H.size) zw_260 zw_261 zw_1 zm_Pr_bitsOfBytes zq_Pr_bitsOfBytes.2 ⟨Nat.le_of_ble_eq_true rfl, Nat.le_of_ble_eq_true rfl⟩ ⟨Nat.le_of_ble_eq_true rfl, Nat.le_of_ble_eq_true rfl⟩ [] rfl [] [0, 1, 2] [0, 1, 2] rfl (by decide) rfl (by decide) (by decide) (fun _ => rfl) (by decide) rfl (Nat.le_of_ble_eq_true rfl) zd_Pr_writeCopy_2 (fun r _ H locs hp h => ?_)
  obtain ⟨rfl, -⟩ := hp
  have h : zH D A s [(d0, .inr (0, [.ref oi, .ref ob, .ref oo, .ref oz, .ref t0, .int (nI tb), .ref r0, .int (nI cp), .int (nI nw), .int (nI dm)])), (oo, .inr (1, [.ref ao, .int (nI no)])), (ao, .inl (cO, 66059, .inl (fO)))] H locs := h
  refine lv_iload_n X.1.1 X.1.2.1 zd_Pr_writeCopy_5 rfl (lv_at hl 2 rfl) ?_
  refine lv_iconst (v := nI 2) X.1.1 X.1.2.1 zd_Pr_writeCopy_6 (by decide) ?_
  refine rCs (wr := [(d0, .inr (0, [.ref oi, .ref ob, .ref oo, .ref oz, .ref t0, .int (nI tb), .ref r0, .int (nI cp), .int (nI nw), .int (nI dm)])), (oo, .inr (1, [.ref ao, .int (nI no)])), (ao, .inl (cO, 66059, .inl (fO)))]) (wf := fun _ => [(d0, .inr (0, [.ref oi, .ref ob, .ref oo, .ref oz, .ref t0, .int (nI tb), .ref r0, .int (nI cp), .int (nI nw), .int (nI dm)])), (oo, .inr (1, [.ref ao, .int (nI no)])), (ao, .inl (cO, 66059, .inl (fO)))]) (rest := [.int (nI (bsm pp 4))]) X h hl.1 (zc_Pr_bitsOfBytes l D (v := LL) (k := 2) (by omega) (by decide) H.size) zw_260 zw_261 zw_1 zm_Pr_bitsOfBytes zq_Pr_bitsOfBytes.2 ⟨Nat.le_of_ble_eq_true rfl, Nat.le_of_ble_eq_true rfl⟩ ⟨Nat.le_of_ble_eq_true rfl, Nat.le_of_ble_eq_true rfl⟩ [] rfl [] [0, 1, 2] [0, 1, 2] rfl (by decide) rfl (by decide) (by decide) (fun _ => rfl) (by decide) rfl (Nat.le_of_ble_eq_true rfl) zd_Pr_writeCopy_7 (fun r _ H locs hp h => ?_)
  obtain ⟨rfl, -⟩ := hp
  have h : zH D A s [(d0, .inr (0, [.ref oi, .ref ob, .ref oo, .ref oz, .ref t0, .int (nI tb), .ref r0, .int (nI cp), .int (nI nw), .int (nI dm)])), (oo, .inr (1, [.ref ao, .int (nI no)])), (ao, .inl (cO, 66059, .inl (fO)))] H locs := h
  refine lv_iconst (v := nI 4) X.1.1 X.1.2.1 zd_Pr_writeCopy_10 (by decide) ?_
  refine lv_ishl X.1.1 X.1.2.1 zd_Pr_writeCopy_11 ?_
  refine zTop (y := nI (bsm LL 2 * 16)) (shl_nI (k := 4) (by decide) (by omega)) ?_
  refine lv_ior X.1.1 X.1.2.1 zd_Pr_writeCopy_12 ?_
  refine zTop (y := nI (bsm pp 4 + 16 * bsm LL 2)) (e1) ?_
  refine lv_istore_n X.1.1 X.1.2.1 zd_Pr_writeCopy_13 rfl hl (by decide) rfl (fun ls hl => ?_)
  have hl : lv_has ls 4 [(3, .int (nI (bsm pp 4 + 16 * bsm LL 2))), (0, .ref d0), (1, .int (nI pp)), (2, .int (nI LL))] := hl
  refine lv_aload_n X.1.1 X.1.2.1 zd_Pr_writeCopy_14 rfl (lv_at hl 1 rfl) ?_
  refine rG X h 0 rfl rfl zW_Pr 2 (by decide) zw_107 rfl zd_Pr_writeCopy_15 ?_
  refine lv_sipush (v := nI 128) X.1.1 X.1.2.1 zd_Pr_writeCopy_18 (by decide) ?_
  refine lv_iload_n X.1.1 X.1.2.1 zd_Pr_writeCopy_21 rfl (lv_at hl 0 rfl) ?_
  refine lv_ior X.1.1 X.1.2.1 zd_Pr_writeCopy_22 ?_
  refine zTop (y := nI (128 + bsm pp 4 + 16 * bsm LL 2)) (e2) ?_
  refine rCv (wr := [(d0, .inr (0, [.ref oi, .ref ob, .ref oo, .ref oz, .ref t0, .int (nI tb), .ref r0, .int (nI cp), .int (nI nw), .int (nI dm)]))]) (wf := fun _ => [(d0, .inr (0, [.ref oi, .ref ob, .ref oo, .ref oz, .ref t0, .int (nI tb), .ref r0, .int (nI cp), .int (nI nw), .int (nI dm)])), (oo, .inr (1, [.ref ao, .int (nI (no + 1))])), (ao, .inl (cO, 66059, .inl (upd fO no (b8 (nI (128 + bsm pp 4 + 16 * bsm LL 2))))))]) (rest := []) X h hl.1 (zc_Tx_add l D (o := oo) (a := ao) (n := no) (N := 66059) (f := fO) (cB := cO) (x := nI (128 + bsm pp 4 + 16 * bsm LL 2)) (by omega) (by decide) H.size) zw_244 zw_157 zw_158 zw_2 zm_Tx_add zq_Tx_add ⟨Nat.le_of_ble_eq_true rfl, Nat.le_of_ble_eq_true rfl⟩ ⟨Nat.le_of_ble_eq_true rfl, Nat.le_of_ble_eq_true rfl⟩ [0] rfl [1, 2] [0] [0, 1, 2] rfl (by decide) rfl (by decide) (by decide) (fun _ => rfl) (by decide) 0 rfl rfl rfl (Nat.le_of_ble_eq_true rfl) zd_Pr_writeCopy_23 (fun _ H locs hp h => ?_)
  have h : zH D A s [(d0, .inr (0, [.ref oi, .ref ob, .ref oo, .ref oz, .ref t0, .int (nI tb), .ref r0, .int (nI cp), .int (nI nw), .int (nI dm)])), (oo, .inr (1, [.ref ao, .int (nI (no + 1))])), (ao, .inl (cO, 66059, .inl (upd fO no (b8 (nI (128 + bsm pp 4 + 16 * bsm LL 2))))))] H locs := h
  refine lv_aload_n X.1.1 X.1.2.1 zd_Pr_writeCopy_26 rfl (lv_at hl 1 rfl) ?_
  refine rG X h 0 rfl rfl zW_Pr 2 (by decide) zw_107 rfl zd_Pr_writeCopy_27 ?_
  refine lv_iload_n X.1.1 X.1.2.1 zd_Pr_writeCopy_30 rfl (lv_at hl 2 rfl) ?_
  refine lv_iconst (v := nI 4) X.1.1 X.1.2.1 zd_Pr_writeCopy_31 (by decide) ?_
  refine rCv (wr := [(d0, .inr (0, [.ref oi, .ref ob, .ref oo, .ref oz, .ref t0, .int (nI tb), .ref r0, .int (nI cp), .int (nI nw), .int (nI dm)]))]) (wf := fun g1 => [(d0, .inr (0, [.ref oi, .ref ob, .ref oo, .ref oz, .ref t0, .int (nI tb), .ref r0, .int (nI cp), .int (nI nw), .int (nI dm)])), (oo, .inr (1, [.ref ao, .int (nI (no + 1 + (nzS pp 0 4).length))])), (ao, .inl (cO, 66059, .inl (g1)))]) (rest := []) X h hl.1 (zc_Tx_addBytesNotZero l D (o := oo) (a := ao) (n := no + 1) (N := 66059) (f := upd fO no (b8 (nI (128 + bsm pp 4 + 16 * bsm LL 2)))) (cB := cO) (v := pp) (k := 4) (fit_upd hf _ _) (by omega) (by decide) (by omega) (by decide) H.size) zw_263 zw_264 zw_265 zw_2 zm_Tx_addBytesNotZero zq_Tx_addBytesNotZero ⟨Nat.le_of_ble_eq_true rfl, Nat.le_of_ble_eq_true rfl⟩ ⟨Nat.le_of_ble_eq_true rfl, Nat.le_of_ble_eq_true rfl⟩ [0] rfl [1, 2] [0] [0, 1, 2] rfl (by decide) rfl (by decide) (by decide) (fun _ => rfl) (by decide) 0 rfl rfl rfl (Nat.le_of_ble_eq_true rfl) zd_Pr_writeCopy_32 (fun g1 H locs hp h => ?_)
  have q1 : tx g1 (no + 1 + (nzS pp 0 4).length) = tx (upd fO no (b8 (nI (128 + bsm pp 4 + 16 * bsm LL 2)))) (no + 1) ++ nzS pp 0 4 ∧ sb_Fit g1 := hp
  have h : zH D A s [(d0, .inr (0, [.ref oi, .ref ob, .ref oo, .ref oz, .ref t0, .int (nI tb), .ref r0, .int (nI cp), .int (nI nw), .int (nI dm)])), (oo, .inr (1, [.ref ao, .int (nI (no + 1 + (nzS pp 0 4).length))])), (ao, .inl (cO, 66059, .inl (g1)))] H locs := h
  refine lv_aload_n X.1.1 X.1.2.1 zd_Pr_writeCopy_35 rfl (lv_at hl 1 rfl) ?_
  refine rG X h 0 rfl rfl zW_Pr 2 (by decide) zw_107 rfl zd_Pr_writeCopy_36 ?_
  refine lv_iload_n X.1.1 X.1.2.1 zd_Pr_writeCopy_39 rfl (lv_at hl 3 rfl) ?_
  refine lv_iconst (v := nI 2) X.1.1 X.1.2.1 zd_Pr_writeCopy_40 (by decide) ?_
  refine rCv (wr := [(d0, .inr (0, [.ref oi, .ref ob, .ref oo, .ref oz, .ref t0, .int (nI tb), .ref r0, .int (nI cp), .int (nI nw), .int (nI dm)]))]) (wf := fun g2 => [(d0, .inr (0, [.ref oi, .ref ob, .ref oo, .ref oz, .ref t0, .int (nI tb), .ref r0, .int (nI cp), .int (nI nw), .int (nI dm)])), (oo, .inr (1, [.ref ao, .int (nI (no + 1 + (nzS pp 0 4).length + (nzS LL 0 2).length))])), (ao, .inl (cO, 66059, .inl (g2)))]) (rest := []) X h hl.1 (zc_Tx_addBytesNotZero l D (o := oo) (a := ao) (n := no + 1 + (nzS pp 0 4).length) (N := 66059) (f := g1) (cB := cO) (v := LL) (k := 2) (q1.2) (by omega) (by decide) (by omega) (by decide) H.size) zw_263 zw_264 zw_265 zw_2 zm_Tx_addBytesNotZero zq_Tx_addBytesNotZero ⟨Nat.le_of_ble_eq_true rfl, Nat.le_of_ble_eq_true rfl⟩ ⟨Nat.le_of_ble_eq_true rfl, Nat.le_of_ble_eq_true rfl⟩ [0] rfl [1, 2] [0] [0, 1, 2] rfl (by decide) rfl (by decide) (by decide) (fun _ => rfl) (by decide) 0 rfl rfl rfl (Nat.le_of_ble_eq_true rfl) zd_Pr_writeCopy_41 (fun g2 H locs hp h => ?_)
  have q2 : tx g2 (no + 1 + (nzS pp 0 4).length + (nzS LL 0 2).length) = tx g1 (no + 1 + (nzS pp 0 4).length) ++ nzS LL 0 2 ∧ sb_Fit g2 := hp
  have h : zH D A s [(d0, .inr (0, [.ref oi, .ref ob, .ref oo, .ref oz, .ref t0, .int (nI tb), .ref r0, .int (nI cp), .int (nI nw), .int (nI dm)])), (oo, .inr (1, [.ref ao, .int (nI (no + 1 + (nzS pp 0 4).length + (nzS LL 0 2).length))])), (ao, .inl (cO, 66059, .inl (g2)))] H locs := h
  have e3 : no + 1 + (nzS pp 0 4).length + (nzS LL 0 2).length = no + (cpB pp LL).length := by omega
  rw [e3] at h q2
  have h : zH D A s [(d0, .inr (0, [.ref oi, .ref ob, .ref oo, .ref oz, .ref t0, .int (nI tb), .ref r0, .int (nI cp), .int (nI nw), .int (nI dm)])), (oo, .inr (1, [.ref ao, .int (nI (no + (cpB pp LL).length))])), (ao, .inl (cO, 66059, .inl (g2)))] H locs := h
  refine lv_aload_n X.1.1 X.1.2.1 zd_Pr_writeCopy_44 rfl (lv_at hl 1 rfl) ?_
  refine lv_dup X.1.1 X.1.2.1 zd_Pr_writeCopy_45 rfl ?_
  refine rG X h 0 rfl rfl zW_Pr 7 (by decide) zw_112 rfl zd_Pr_writeCopy_46 ?_
  refine lv_iconst (v := nI 1) X.1.1 X.1.2.1 zd_Pr_writeCopy_49 (by decide) ?_
  refine lv_iadd X.1.1 X.1.2.1 zd_Pr_writeCopy_50 ?_
  refine zTop (y := nI (cp + 1)) (nI_add _ _) ?_
  refine rP X h 0 rfl rfl zW_Pr zO_Pr zN_Pr 7 (by decide) zw_112 rfl (rfl) (rfl) (Nat.le_of_ble_eq_true rfl) zd_Pr_writeCopy_51 (fun H locs h => ?_)
  have h : zH D A s [(d0, .inr (0, [.ref oi, .ref ob, .ref oo, .ref oz, .ref t0, .int (nI tb), .ref r0, .int (nI (cp + 1)), .int (nI nw), .int (nI dm)])), (oo, .inr (1, [.ref ao, .int (nI (no + (cpB pp LL).length))])), (ao, .inl (cO, 66059, .inl (g2)))] H locs := h
  exact ret g2 H locs ls _ (⟨by rw [q2.1, q1.1, tx_push, List.append_assoc, List.append_assoc]; rfl, q2.2⟩) h zd_Pr_writeCopy_54

set_option maxHeartbeats 4000000 in
set_option maxRecDepth 100000 in
theorem zc_Pr_writeNew (l : Launch) (D : va_G) {d0 oi ob oo oz t0 tb r0 cp nw dm ai n ao no : Nat} {fI fO : Nat → Int32} {cI cO : ClassId} {x y : Nat} (hf : sb_Fit fO) (hfI : sb_Fit fI) (hxy : x ≤ y) (hy : y ≤ n) (hn : n ≤ 65536) (hm : no + (newB (tx fI n) (y - x) x (y - x)).length ≤ 66059) (sz : Nat) : zMv l D zy_Pr_writeNew zb_Pr_writeNew 5 ({ frames := 2, cells := 0, slots := 0, locals := 48 } : Room) [.ref d0, .int (nI x), .int (nI y)] [(cI, .byte), (cO, .byte)] [(d0, .inr (0, [.ref oi, .ref ob, .ref oo, .ref oz, .ref t0, .int (nI tb), .ref r0, .int (nI cp), .int (nI nw), .int (nI dm)])), (oi, .inr (1, [.ref ai, .int (nI n)])), (ai, .inl (cI, 65536, .inl (fI))), (oo, .inr (1, [.ref ao, .int (nI no)])), (ao, .inl (cO, 66059, .inl (fO)))] sz (fun (u : Nat → Int32) => tx u (no + (newB (tx fI n) (y - x) x (y - x)).length) = tx fO no ++ newB (tx fI n) (y - x) x (y - x) ∧ sb_Fit u) (fun u => [(d0, .inr (0, [.ref oi, .ref ob, .ref oo, .ref oz, .ref t0, .int (nI tb), .ref r0, .int (nI cp), .int (nI (nw + (y - x))), .int (nI dm)])), (oi, .inr (1, [.ref ai, .int (nI n)])), (ai, .inl (cI, 65536, .inl (fI))), (oo, .inr (1, [.ref ao, .int (nI (no + (newB (tx fI n) (y - x) x (y - x)).length))])), (ao, .inl (cO, 66059, .inl (u)))]) := by
  refine zEv (by decide) (Nat.le_of_ble_eq_true rfl) (fun p e s m args below meth c ls A Q X hin hl h hsz ret => ?_)
  have hl : lv_has ls 5 [(0, .ref d0), (1, .int (nI x)), (2, .int (nI y))] := hl
  generalize hH0 : s.heap = H at h ⊢
  have h : zH D A s [(d0, .inr (0, [.ref oi, .ref ob, .ref oo, .ref oz, .ref t0, .int (nI tb), .ref r0, .int (nI cp), .int (nI nw), .int (nI dm)])), (oi, .inr (1, [.ref ai, .int (nI n)])), (ai, .inl (cI, 65536, .inl (fI))), (oo, .inr (1, [.ref ao, .int (nI no)])), (ao, .inl (cO, 66059, .inl (fO)))] H [] := h
  generalize hL0 : ([] : List Loc) = locs at h ⊢
  refine lv_iload_n X.1.1 X.1.2.1 zd_Pr_writeNew_0 rfl (lv_at hl 1 rfl) ?_
  refine lv_istore_n X.1.1 X.1.2.1 zd_Pr_writeNew_1 rfl hl (by decide) rfl (fun ls hl => ?_)
  have hl : lv_has ls 5 [(3, .int (nI x)), (0, .ref d0), (1, .int (nI x)), (2, .int (nI y))] := hl
  have loop : ∀ (fu : Nat) (i : Nat) (n1 : Nat) (g : Nat → Int32) (ls : Array Slot) (H : Heap) (locs : List Loc), y - i < fu → x ≤ i → i ≤ y + 127 → tx g n1 ++ newB (tx fI n) (y - x) i (y - i) = tx fO no ++ newB (tx fI n) (y - x) x (y - x) → sb_Fit g → n1 + (newB (tx fI n) (y - x) i (y - i)).length = no + (newB (tx fI n) (y - x) x (y - x)).length → lv_has ls 5 [(0, .ref d0), (1, .int (nI x)), (2, .int (nI y)), (3, .int (nI i))] → zH D A s [(d0, .inr (0, [.ref oi, .ref ob, .ref oo, .ref oz, .ref t0, .int (nI tb), .ref r0, .int (nI cp), .int (nI nw), .int (nI dm)])), (oi, .inr (1, [.ref ai, .int (nI n)])), (ai, .inl (cI, 65536, .inl (fI))), (oo, .inr (1, [.ref ao, .int (nI n1)])), (ao, .inl (cO, 66059, .inl (g)))] H locs → W p l e ({ frames := 2, cells := 0, slots := 0, locals := 48 } : Room) s m args below meth c H locs 0 0 Q (F0 m 2 ls []) := by
    intro fu
    induction fu with
    | zero => intro i n1 g ls H locs hfu; exact absurd hfu (Nat.not_lt_zero _)
    | succ fu ih =>
      intro i n1 g ls H locs hfu hi hi2 he hg hz hl h
      refine lv_iload_n X.1.1 X.1.2.1 zd_Pr_writeNew_2 rfl (lv_at hl 3 rfl) ?_
      refine lv_iload_n X.1.1 X.1.2.1 zd_Pr_writeNew_3 rfl (lv_at hl 2 rfl) ?_
      refine lv_icmp_ge (tgt := 46) X.1.1 X.1.2.1 zd_Pr_writeNew_4 rfl (fun c1 => ?_) (fun c1 => ?_)
      · have c1 : y ≤ i := zc_ge_t (by omega) (by omega) c1
        rw [show y - i = 0 by omega, nw_0] at he hz
        rw [List.append_nil] at he
        have hz : n1 = no + (newB (tx fI n) (y - x) x (y - x)).length := hz
        refine lv_aload_n X.1.1 X.1.2.1 zd_Pr_writeNew_46 rfl (lv_at hl 0 rfl) ?_
        refine lv_dup X.1.1 X.1.2.1 zd_Pr_writeNew_47 rfl ?_
        refine rG X h 0 rfl rfl zW_Pr 8 (by decide) zw_113 rfl zd_Pr_writeNew_48 ?_
        refine lv_iload_n X.1.1 X.1.2.1 zd_Pr_writeNew_51 rfl (lv_at hl 2 rfl) ?_
        refine lv_iload_n X.1.1 X.1.2.1 zd_Pr_writeNew_52 rfl (lv_at hl 1 rfl) ?_
        refine lv_isub X.1.1 X.1.2.1 zd_Pr_writeNew_53 ?_
        refine zTop (y := nI (y - x)) (pk_sub (by omega)) ?_
        refine lv_iadd X.1.1 X.1.2.1 zd_Pr_writeNew_54 ?_
        refine zTop (y := nI (nw + (y - x))) (nI_add _ _) ?_
        refine rP X h 0 rfl rfl zW_Pr zO_Pr zN_Pr 8 (by decide) zw_113 rfl (rfl) (rfl) (Nat.le_of_ble_eq_true rfl) zd_Pr_writeNew_55 (fun H locs h => ?_)
        have h : zH D A s [(d0, .inr (0, [.ref oi, .ref ob, .ref oo, .ref oz, .ref t0, .int (nI tb), .ref r0, .int (nI cp), .int (nI (nw + (y - x))), .int (nI dm)])), (oi, .inr (1, [.ref ai, .int (nI n)])), (ai, .inl (cI, 65536, .inl (fI))), (oo, .inr (1, [.ref ao, .int (nI n1)])), (ao, .inl (cO, 66059, .inl (g)))] H locs := h
        rw [hz] at h
        exact ret _ H locs ls _ (⟨by rw [← hz]; exact he, hg⟩) h zd_Pr_writeNew_58
      · have c1 : i < y := zc_ge_f (by omega) (by omega) c1
        rw [nw_step _ (by omega : 0 < y - i) (by omega)] at he hz
        have hm1 := Nat.min_le_left 127 (y - i)
        have hm2 := Nat.min_le_right 127 (y - i)
        have hm3 : min 127 (y - i) = 127 ∨ min 127 (y - i) = y - i := by omega
        rw [List.length_cons, List.length_append, List.length_take, List.length_drop, tx_len, Nat.min_eq_left (by omega : min 127 (y - i) ≤ n - i)] at hz
        refine lv_bipush (v := nI 127) X.1.1 X.1.2.1 zd_Pr_writeNew_7 (by decide) ?_
        refine lv_iload_n X.1.1 X.1.2.1 zd_Pr_writeNew_9 rfl (lv_at hl 2 rfl) ?_
        refine lv_iload_n X.1.1 X.1.2.1 zd_Pr_writeNew_10 rfl (lv_at hl 3 rfl) ?_
        refine lv_isub X.1.1 X.1.2.1 zd_Pr_writeNew_11 ?_
        refine zTop (y := nI (y - i)) (pk_sub (by omega)) ?_
        refine rMin X hl.1 zw_243 zw_229 zw_11 zw_230 (by omega) (by omega) (Nat.le_of_ble_eq_true rfl) (Nat.le_of_ble_eq_true rfl) (Nat.le_of_ble_eq_true rfl) (Nat.le_of_ble_eq_true rfl) zd_Pr_writeNew_12 ?_
        generalize hmm : min 127 (y - i) = mm at he hz hm1 hm2 hm3 ⊢
        refine lv_istore X.1.1 X.1.2.1 zd_Pr_writeNew_15 hl (by decide) rfl (fun ls hl => ?_)
        have hl : lv_has ls 5 [(4, .int (nI mm)), (0, .ref d0), (1, .int (nI x)), (2, .int (nI y)), (3, .int (nI i))] := hl
        refine lv_aload_n X.1.1 X.1.2.1 zd_Pr_writeNew_17 rfl (lv_at hl 1 rfl) ?_
        refine rG X h 0 rfl rfl zW_Pr 2 (by decide) zw_107 rfl zd_Pr_writeNew_18 ?_
        refine lv_iload X.1.1 X.1.2.1 zd_Pr_writeNew_21 (lv_at hl 0 rfl) ?_
        refine rCv (wr := [(d0, .inr (0, [.ref oi, .ref ob, .ref oo, .ref oz, .ref t0, .int (nI tb), .ref r0, .int (nI cp), .int (nI nw), .int (nI dm)])), (oi, .inr (1, [.ref ai, .int (nI n)])), (ai, .inl (cI, 65536, .inl (fI)))]) (wf := fun _ => [(d0, .inr (0, [.ref oi, .ref ob, .ref oo, .ref oz, .ref t0, .int (nI tb), .ref r0, .int (nI cp), .int (nI nw), .int (nI dm)])), (oi, .inr (1, [.ref ai, .int (nI n)])), (ai, .inl (cI, 65536, .inl (fI))), (oo, .inr (1, [.ref ao, .int (nI (n1 + 1))])), (ao, .inl (cO, 66059, .inl (upd g n1 (b8 (nI mm)))))]) (rest := []) X h hl.1 (zc_Tx_add l D (o := oo) (a := ao) (n := n1) (N := 66059) (f := g) (cB := cO) (x := nI mm) (by omega) (by decide) H.size) zw_244 zw_157 zw_158 zw_2 zm_Tx_add zq_Tx_add ⟨Nat.le_of_ble_eq_true rfl, Nat.le_of_ble_eq_true rfl⟩ ⟨Nat.le_of_ble_eq_true rfl, Nat.le_of_ble_eq_true rfl⟩ [1] rfl [3, 4] [0, 1, 2] [0, 1, 2, 3, 4] rfl (by decide) rfl (by decide) (by decide) (fun _ => rfl) (by decide) 0 rfl rfl rfl (Nat.le_of_ble_eq_true rfl) zd_Pr_writeNew_23 (fun _ H locs hp h => ?_)
        have h : zH D A s [(d0, .inr (0, [.ref oi, .ref ob, .ref oo, .ref oz, .ref t0, .int (nI tb), .ref r0, .int (nI cp), .int (nI nw), .int (nI dm)])), (oi, .inr (1, [.ref ai, .int (nI n)])), (ai, .inl (cI, 65536, .inl (fI))), (oo, .inr (1, [.ref ao, .int (nI (n1 + 1))])), (ao, .inl (cO, 66059, .inl (upd g n1 (b8 (nI mm)))))] H locs := h
        rw [b8_small (by omega)] at h
        have h : zH D A s [(d0, .inr (0, [.ref oi, .ref ob, .ref oo, .ref oz, .ref t0, .int (nI tb), .ref r0, .int (nI cp), .int (nI nw), .int (nI dm)])), (oi, .inr (1, [.ref ai, .int (nI n)])), (ai, .inl (cI, 65536, .inl (fI))), (oo, .inr (1, [.ref ao, .int (nI (n1 + 1))])), (ao, .inl (cO, 66059, .inl (upd g n1 (nI mm))))] H locs := h
        refine lv_aload_n X.1.1 X.1.2.1 zd_Pr_writeNew_26 rfl (lv_at hl 1 rfl) ?_
        refine rG X h 0 rfl rfl zW_Pr 2 (by decide) zw_107 rfl zd_Pr_writeNew_27 ?_
        refine lv_aload_n X.1.1 X.1.2.1 zd_Pr_writeNew_30 rfl (lv_at hl 1 rfl) ?_
        refine rG X h 0 rfl rfl zW_Pr 0 (by decide) zw_105 rfl zd_Pr_writeNew_31 ?_
        refine lv_iload_n X.1.1 X.1.2.1 zd_Pr_writeNew_34 rfl (lv_at hl 4 rfl) ?_
        refine lv_iload X.1.1 X.1.2.1 zd_Pr_writeNew_35 (lv_at hl 0 rfl) ?_
        refine rCv (wr := [(d0, .inr (0, [.ref oi, .ref ob, .ref oo, .ref oz, .ref t0, .int (nI tb), .ref r0, .int (nI cp), .int (nI nw), .int (nI dm)]))]) (wf := fun _ => [(d0, .inr (0, [.ref oi, .ref ob, .ref oo, .ref oz, .ref t0, .int (nI tb), .ref r0, .int (nI cp), .int (nI nw), .int (nI dm)])), (oi, .inr (1, [.ref ai, .int (nI n)])), (ai, .inl (cI, 65536, .inl (fI))), (oo, .inr (1, [.ref ao, .int (nI (n1 + 1 + mm))])), (ao, .inl (cO, 66059, .inl (va_cpy fI (upd g n1 (nI mm)) i (n1 + 1) mm)))]) (rest := []) X h hl.1 (zc_Tx_addPart l D (o := oo) (a := ao) (n := n1 + 1) (N := 66059) (f := upd g n1 (nI mm)) (cB := cO) (o2 := oi) (a2 := ai) (n2 := n) (N2 := 65536) (f2 := fI) (cB2 := cI) (q := i) (k := mm) (hfI) (by omega) (by omega) (by decide) (by decide) H.size) zw_245 zw_246 zw_247 zw_2 zm_Tx_addPart zq_Tx_addPart ⟨Nat.le_of_ble_eq_true rfl, Nat.le_of_ble_eq_true rfl⟩ ⟨Nat.le_of_ble_eq_true rfl, Nat.le_of_ble_eq_true rfl⟩ [1, 0] rfl [3, 4, 1, 2] [0] [0, 3, 4, 1, 2] rfl (by decide) rfl (by decide) (by decide) (fun _ => rfl) (by decide) 0 rfl rfl rfl (Nat.le_of_ble_eq_true rfl) zd_Pr_writeNew_37 (fun _ H locs hp h => ?_)
        have h : zH D A s [(d0, .inr (0, [.ref oi, .ref ob, .ref oo, .ref oz, .ref t0, .int (nI tb), .ref r0, .int (nI cp), .int (nI nw), .int (nI dm)])), (oi, .inr (1, [.ref ai, .int (nI n)])), (ai, .inl (cI, 65536, .inl (fI))), (oo, .inr (1, [.ref ao, .int (nI (n1 + 1 + mm))])), (ao, .inl (cO, 66059, .inl (va_cpy fI (upd g n1 (nI mm)) i (n1 + 1) mm)))] H locs := h
        have hfm : fits .byte (.int (nI mm)) = true := by rw [← b8_small (v := mm) (by omega)]; exact fit_b8 _
        have e5 : newB (tx fI n) (y - x) (i + mm) (y - i - mm) = newB (tx fI n) (y - x) (i + 127) (y - (i + 127)) := by
          rcases hm3 with z | z
          · rw [z, Nat.sub_sub]
          · rw [show y - i - mm = 0 by omega, show y - (i + 127) = 0 by omega, nw_0, nw_0]
        rw [e5] at he hz
        refine lv_iinc X.1.1 X.1.2.1 zd_Pr_writeNew_40 hl (k := 4) rfl (v := nI (i + 127)) (nI_add _ _) (by decide) rfl (fun ls hl => ?_)
        have hl : lv_has ls 5 [(3, .int (nI (i + 127))), (4, .int (nI mm)), (0, .ref d0), (1, .int (nI x)), (2, .int (nI y))] := hl
        refine lv_goto (tgt := 2) X.1.1 X.1.2.1 zd_Pr_writeNew_43 rfl ?_
        exact ih (i + 127) (n1 + 1 + mm) (va_cpy fI (upd g n1 (nI mm)) i (n1 + 1) mm) ls H locs (by omega) (by omega) (by omega) (by rw [tx_cpy, tx_push, tx_part fI (m := n) (by omega), List.append_assoc, List.append_assoc]; exact he) (sb_fitC hfI (sb_fitU hg hfm)) (by omega) (lv_sub hl [2, 3, 4, 0] rfl) h
  exact loop _ x no fO ls H locs (Nat.lt_succ_self _) (by omega) (by omega) (rfl) (hf) (rfl) (lv_sub hl [1, 2, 3, 0] rfl) h
