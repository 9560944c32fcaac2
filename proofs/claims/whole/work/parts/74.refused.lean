/-! DeltaPress: its calls, refused -/
set_option maxHeartbeats 4000000 in
set_option maxRecDepth 100000 in
theorem zc_Pr_feedN (l : Launch) (D : va_G) (hl0 : l.stackTraces = false) {d0 oi ob oo oz t0 tb r0 cp nw dm ai n : Nat} {fI : Nat → Int32} {cI : ClassId} {p1 p2 p3 p4 p5 : Int32} (hn : 65536 < n + 20) (hn2 : n ≤ 65536) (sz : Nat) : zMt l D zy_Pr_feed zb_Pr_feed 6 (some .int) ({ frames := 6, cells := 1, slots := 6, locals := 110 } : Room) [.ref d0, .int p1, .int p2, .int p3, .int p4, .int p5] [(cI, .byte)] [(d0, .inr (0, [.ref oi, .ref ob, .ref oo, .ref oz, .ref t0, .int (nI tb), .ref r0, .int (nI cp), .int (nI nw), .int (nI dm)])), (oi, .inr (1, [.ref ai, .int (nI n)])), (ai, .inl (cI, 65536, .inl (fI)))] sz xISE "java/lang/IllegalStateException" (fun (u : Unit) => True) (fun _ => [(d0, .inr (0, [.ref oi, .ref ob, .ref oo, .ref oz, .ref t0, .int (nI tb), .ref r0, .int (nI cp), .int (nI nw), .int (nI dm)])), (oi, .inr (1, [.ref ai, .int (nI n)])), (ai, .inl (cI, 65536, .inl (fI)))]) := by
  refine zEt (by decide) (Nat.le_of_ble_eq_true rfl) (fun p e s m args below meth c ls A Q X hE hlk hex hAs hl h hsz thr => ?_)
  have hl : lv_has ls 6 [(0, .ref d0), (1, .int p1), (2, .int p2), (3, .int p3), (4, .int p4), (5, .int p5)] := hl
  generalize hH0 : s.heap = H at h ⊢
  have h : zH D A s [(d0, .inr (0, [.ref oi, .ref ob, .ref oo, .ref oz, .ref t0, .int (nI tb), .ref r0, .int (nI cp), .int (nI nw), .int (nI dm)])), (oi, .inr (1, [.ref ai, .int (nI n)])), (ai, .inl (cI, 65536, .inl (fI)))] H [] := h
  generalize hL0 : ([] : List Loc) = locs at h ⊢
  refine lv_aload_n X.1.1 X.1.2.1 zd_Pr_feed_0 rfl (lv_at hl 0 rfl) ?_
  refine rG X h 0 rfl rfl zW_Pr 0 (by decide) zw_105 rfl zd_Pr_feed_1 ?_
  refine rCi (wr := [(d0, .inr (0, [.ref oi, .ref ob, .ref oo, .ref oz, .ref t0, .int (nI tb), .ref r0, .int (nI cp), .int (nI nw), .int (nI dm)]))]) (wf := fun _ => [(d0, .inr (0, [.ref oi, .ref ob, .ref oo, .ref oz, .ref t0, .int (nI tb), .ref r0, .int (nI cp), .int (nI nw), .int (nI dm)])), (oi, .inr (1, [.ref ai, .int (nI n)])), (ai, .inl (cI, 65536, .inl (fI)))]) (rest := []) X h hl.1 (zc_Tx_size l D (o := oi) (a := ai) (n := n) (N := 65536) (f := fI) (cB := cI)  H.size) zw_144 zw_145 zw_146 zw_2 zm_Tx_size zq_Tx_size ⟨Nat.le_of_ble_eq_true rfl, Nat.le_of_ble_eq_true rfl⟩ ⟨Nat.le_of_ble_eq_true rfl, Nat.le_of_ble_eq_true rfl⟩ [0] rfl [1, 2] [0] [0, 1, 2] rfl (by decide) rfl (by decide) (by decide) (fun _ => rfl) (by decide) 0 rfl rfl rfl (Nat.le_of_ble_eq_true rfl) zd_Pr_feed_4 (fun r _ H locs hp h => ?_)
  obtain ⟨rfl, -⟩ := hp
  have h : zH D A s [(d0, .inr (0, [.ref oi, .ref ob, .ref oo, .ref oz, .ref t0, .int (nI tb), .ref r0, .int (nI cp), .int (nI nw), .int (nI dm)])), (oi, .inr (1, [.ref ai, .int (nI n)])), (ai, .inl (cI, 65536, .inl (fI)))] H locs := h
  refine lv_ldc X.1.1 X.1.2.1 X.1.2.2.2.1 (X.1.2.2.2.2 _ zw_279) zd_Pr_feed_7 ?_
  refine zTop (y := nI 65516) (by decide) ?_
  refine lv_icmp_le (tgt := 22) X.1.1 X.1.2.1 zd_Pr_feed_9 rfl (fun c1 => ?_) (fun c1 => ?_)
  · have c1 : n ≤ 65516 := zc_le_t (by omega) (by omega) c1
    exact absurd c1 (by omega)
  · have c1 : 65516 < n := zc_le_f (by omega) (by omega) c1
    refine rThrow (text := "INPUT would be too long") hl0 X h hl.1 hlk hex xISE_ok hE hAs (fun w hw => List.mem_append_left _ hw) (List.mem_append_right _ (List.mem_of_getElem? (i := 0) rfl)) zw_280 zw_281 zw_9 (by decide) zd_Pr_feed_12 zd_Pr_feed_15 zd_Pr_feed_16 zd_Pr_feed_18 zd_Pr_feed_21 (Nat.le_of_ble_eq_true rfl) (Nat.le_of_ble_eq_true rfl) (Nat.le_of_ble_eq_true rfl) (Nat.le_of_ble_eq_true rfl) (fun x U r1 r2 r3 r4 r5 r6 r7 => thr () locs (trivial) h.2.1 x U r1 r2 r3 r4 r5 r6 r7)

set_option maxHeartbeats 4000000 in
set_option maxRecDepth 100000 in
theorem zc_Pr_endN (l : Launch) (D : va_G) (hl0 : l.stackTraces = false) {d0 oi ob oo oz t0 tb r0 cp nw dm ai n : Nat} {fI : Nat → Int32} {cI : ClassId} {x : Int32} (hx : ∀ j, j ≤ n → x ≠ nI j) (hn : n ≤ 65536) (sz : Nat) : zMt l D zy_Pr_end zb_Pr_end 2 (some .int) ({ frames := 6, cells := 1, slots := 6, locals := 110 } : Room) [.ref d0, .int x] [(cI, .byte)] [(d0, .inr (0, [.ref oi, .ref ob, .ref oo, .ref oz, .ref t0, .int (nI tb), .ref r0, .int (nI cp), .int (nI nw), .int (nI dm)])), (oi, .inr (1, [.ref ai, .int (nI n)])), (ai, .inl (cI, 65536, .inl (fI)))] sz xIAE "java/lang/IllegalArgumentException" (fun (u : Unit) => True) (fun _ => [(d0, .inr (0, [.ref oi, .ref ob, .ref oo, .ref oz, .ref t0, .int (nI tb), .ref r0, .int (nI cp), .int (nI nw), .int (nI dm)])), (oi, .inr (1, [.ref ai, .int (nI n)])), (ai, .inl (cI, 65536, .inl (fI)))]) := by
  refine zEt (by decide) (Nat.le_of_ble_eq_true rfl) (fun p e s m args below meth c ls A Q X hE hlk hex hAs hl h hsz thr => ?_)
  have hl : lv_has ls 2 [(0, .ref d0), (1, .int x)] := hl
  generalize hH0 : s.heap = H at h ⊢
  have h : zH D A s [(d0, .inr (0, [.ref oi, .ref ob, .ref oo, .ref oz, .ref t0, .int (nI tb), .ref r0, .int (nI cp), .int (nI nw), .int (nI dm)])), (oi, .inr (1, [.ref ai, .int (nI n)])), (ai, .inl (cI, 65536, .inl (fI)))] H [] := h
  generalize hL0 : ([] : List Loc) = locs at h ⊢
  refine lv_iload_n X.1.1 X.1.2.1 zd_Pr_end_0 rfl (lv_at hl 1 rfl) ?_
  refine lv_if_lt (tgt := 15) X.1.1 X.1.2.1 zd_Pr_end_1 rfl (fun c1 => ?_) (fun c1 => ?_)
  · refine rThrow (text := "INPUT has not as many BYTES") hl0 X h hl.1 hlk hex xIAE_ok hE hAs (fun w hw => List.mem_append_left _ hw) (List.mem_append_right _ (List.mem_of_getElem? (i := 0) rfl)) zw_360 zw_361 zw_10 (by decide) zd_Pr_end_15 zd_Pr_end_18 zd_Pr_end_19 zd_Pr_end_21 zd_Pr_end_24 (Nat.le_of_ble_eq_true rfl) (Nat.le_of_ble_eq_true rfl) (Nat.le_of_ble_eq_true rfl) (Nat.le_of_ble_eq_true rfl) (fun x U r1 r2 r3 r4 r5 r6 r7 => thr () locs (trivial) h.2.1 x U r1 r2 r3 r4 r5 r6 r7)
  · refine lv_iload_n X.1.1 X.1.2.1 zd_Pr_end_4 rfl (lv_at hl 1 rfl) ?_
    refine lv_aload_n X.1.1 X.1.2.1 zd_Pr_end_5 rfl (lv_at hl 0 rfl) ?_
    refine rG X h 0 rfl rfl zW_Pr 0 (by decide) zw_105 rfl zd_Pr_end_6 ?_
    refine rCi (wr := [(d0, .inr (0, [.ref oi, .ref ob, .ref oo, .ref oz, .ref t0, .int (nI tb), .ref r0, .int (nI cp), .int (nI nw), .int (nI dm)]))]) (wf := fun _ => [(d0, .inr (0, [.ref oi, .ref ob, .ref oo, .ref oz, .ref t0, .int (nI tb), .ref r0, .int (nI cp), .int (nI nw), .int (nI dm)])), (oi, .inr (1, [.ref ai, .int (nI n)])), (ai, .inl (cI, 65536, .inl (fI)))]) (rest := [.int x]) X h hl.1 (zc_Tx_size l D (o := oi) (a := ai) (n := n) (N := 65536) (f := fI) (cB := cI)  H.size) zw_144 zw_145 zw_146 zw_2 zm_Tx_size zq_Tx_size ⟨Nat.le_of_ble_eq_true rfl, Nat.le_of_ble_eq_true rfl⟩ ⟨Nat.le_of_ble_eq_true rfl, Nat.le_of_ble_eq_true rfl⟩ [0] rfl [1, 2] [0] [0, 1, 2] rfl (by decide) rfl (by decide) (by decide) (fun _ => rfl) (by decide) 0 rfl rfl rfl (Nat.le_of_ble_eq_true rfl) zd_Pr_end_9 (fun r _ H locs hp h => ?_)
    obtain ⟨rfl, -⟩ := hp
    have h : zH D A s [(d0, .inr (0, [.ref oi, .ref ob, .ref oo, .ref oz, .ref t0, .int (nI tb), .ref r0, .int (nI cp), .int (nI nw), .int (nI dm)])), (oi, .inr (1, [.ref ai, .int (nI n)])), (ai, .inl (cI, 65536, .inl (fI)))] H locs := h
    refine lv_icmp_le (tgt := 25) X.1.1 X.1.2.1 zd_Pr_end_12 rfl (fun c2 => ?_) (fun c2 => ?_)
    · exfalso
      obtain ⟨j, e1, e2⟩ := nI_of2 (M := nI n) (n := n) (nI_toInt (by omega)) c1 c2
      exact hx j e1 e2
    · refine rThrow (text := "INPUT has not as many BYTES") hl0 X h hl.1 hlk hex xIAE_ok hE hAs (fun w hw => List.mem_append_left _ hw) (List.mem_append_right _ (List.mem_of_getElem? (i := 0) rfl)) zw_360 zw_361 zw_10 (by decide) zd_Pr_end_15 zd_Pr_end_18 zd_Pr_end_19 zd_Pr_end_21 zd_Pr_end_24 (Nat.le_of_ble_eq_true rfl) (Nat.le_of_ble_eq_true rfl) (Nat.le_of_ble_eq_true rfl) (Nat.le_of_ble_eq_true rfl) (fun x U r1 r2 r3 r4 r5 r6 r7 => thr () locs (trivial) h.2.1 x U r1 r2 r3 r4 r5 r6 r7)

set_option maxHeartbeats 4000000 in
set_option maxRecDepth 100000 in
theorem zc_Pr_changeN (l : Launch) (D : va_G) (hl0 : l.stackTraces = false) {d0 oi ob oo oz t0 tb r0 cp nw dm ai n : Nat} {fI : Nat → Int32} {cI : ClassId} {x y : Int32} (hx : (∀ j, j < n → x ≠ nI j) ∨ (∀ j, j ≤ 255 → y ≠ nI j)) (hn : n ≤ 65536) (sz : Nat) : zMt l D zy_Pr_change zb_Pr_change 3 (none) ({ frames := 6, cells := 1, slots := 6, locals := 110 } : Room) [.ref d0, .int x, .int y] [(cI, .byte)] [(d0, .inr (0, [.ref oi, .ref ob, .ref oo, .ref oz, .ref t0, .int (nI tb), .ref r0, .int (nI cp), .int (nI nw), .int (nI dm)])), (oi, .inr (1, [.ref ai, .int (nI n)])), (ai, .inl (cI, 65536, .inl (fI)))] sz xIAE "java/lang/IllegalArgumentException" (fun (u : Unit) => True) (fun _ => [(d0, .inr (0, [.ref oi, .ref ob, .ref oo, .ref oz, .ref t0, .int (nI tb), .ref r0, .int (nI cp), .int (nI nw), .int (nI dm)])), (oi, .inr (1, [.ref ai, .int (nI n)])), (ai, .inl (cI, 65536, .inl (fI)))]) := by
  refine zEt (by decide) (Nat.le_of_ble_eq_true rfl) (fun p e s m args below meth c ls A Q X hE hlk hex hAs hl h hsz thr => ?_)
  have hl : lv_has ls 3 [(0, .ref d0), (1, .int x), (2, .int y)] := hl
  generalize hH0 : s.heap = H at h ⊢
  have h : zH D A s [(d0, .inr (0, [.ref oi, .ref ob, .ref oo, .ref oz, .ref t0, .int (nI tb), .ref r0, .int (nI cp), .int (nI nw), .int (nI dm)])), (oi, .inr (1, [.ref ai, .int (nI n)])), (ai, .inl (cI, 65536, .inl (fI)))] H [] := h
  generalize hL0 : ([] : List Loc) = locs at h ⊢
  refine lv_aload_n X.1.1 X.1.2.1 zd_Pr_change_0 rfl (lv_at hl 0 rfl) ?_
  refine rG X h 0 rfl rfl zW_Pr 0 (by decide) zw_105 rfl zd_Pr_change_1 ?_
  refine lv_iload_n X.1.1 X.1.2.1 zd_Pr_change_4 rfl (lv_at hl 1 rfl) ?_
  refine rCi (wr := [(d0, .inr (0, [.ref oi, .ref ob, .ref oo, .ref oz, .ref t0, .int (nI tb), .ref r0, .int (nI cp), .int (nI nw), .int (nI dm)]))]) (wf := fun _ => [(d0, .inr (0, [.ref oi, .ref ob, .ref oo, .ref oz, .ref t0, .int (nI tb), .ref r0, .int (nI cp), .int (nI nw), .int (nI dm)])), (oi, .inr (1, [.ref ai, .int (nI n)])), (ai, .inl (cI, 65536, .inl (fI)))]) (rest := []) X h hl.1 (zc_Tx_has l D (o := oi) (a := ai) (n := n) (N := 65536) (f := fI) (cB := cI) (x := x) (by omega) H.size) zw_383 zw_384 zw_385 zw_2 zm_Tx_has zq_Tx_has ⟨Nat.le_of_ble_eq_true rfl, Nat.le_of_ble_eq_true rfl⟩ ⟨Nat.le_of_ble_eq_true rfl, Nat.le_of_ble_eq_true rfl⟩ [0] rfl [1, 2] [0] [0, 1, 2] rfl (by decide) rfl (by decide) (by decide) (fun _ => rfl) (by decide) 0 rfl rfl rfl (Nat.le_of_ble_eq_true rfl) zd_Pr_change_5 (fun r _ H locs hp h => ?_)
  have qh : (r = 1 ∧ ∃ j, j < n ∧ x = nI j) ∨ (r = 0 ∧ ∀ j, j < n → x ≠ nI j) := hp
  have h : zH D A s [(d0, .inr (0, [.ref oi, .ref ob, .ref oo, .ref oz, .ref t0, .int (nI tb), .ref r0, .int (nI cp), .int (nI nw), .int (nI dm)])), (oi, .inr (1, [.ref ai, .int (nI n)])), (ai, .inl (cI, 65536, .inl (fI)))] H locs := h
  refine lv_if_ne (tgt := 21) X.1.1 X.1.2.1 zd_Pr_change_8 rfl (fun c1 => ?_) (fun c1 => ?_)
  · have qh := qh.resolve_right (fun z => c1 z.1)
    refine lv_iload_n X.1.1 X.1.2.1 zd_Pr_change_21 rfl (lv_at hl 2 rfl) ?_
    refine lv_if_lt (tgt := 32) X.1.1 X.1.2.1 zd_Pr_change_22 rfl (fun c2 => ?_) (fun c2 => ?_)
    · refine rThrow (text := "no BYTE") hl0 X h hl.1 hlk hex xIAE_ok hE hAs (fun w hw => List.mem_append_left _ hw) (List.mem_append_right _ (List.mem_of_getElem? (i := 2) rfl)) zw_360 zw_361 zw_10 (by decide) zd_Pr_change_32 zd_Pr_change_35 zd_Pr_change_36 zd_Pr_change_38 zd_Pr_change_41 (Nat.le_of_ble_eq_true rfl) (Nat.le_of_ble_eq_true rfl) (Nat.le_of_ble_eq_true rfl) (Nat.le_of_ble_eq_true rfl) (fun x U r1 r2 r3 r4 r5 r6 r7 => thr () locs (trivial) h.2.1 x U r1 r2 r3 r4 r5 r6 r7)
    · refine lv_iload_n X.1.1 X.1.2.1 zd_Pr_change_25 rfl (lv_at hl 2 rfl) ?_
      refine lv_sipush (v := nI 255) X.1.1 X.1.2.1 zd_Pr_change_26 (by decide) ?_
      refine lv_icmp_le (tgt := 42) X.1.1 X.1.2.1 zd_Pr_change_29 rfl (fun c3 => ?_) (fun c3 => ?_)
      · exfalso
        rcases hx with hx | hx
        · obtain ⟨-, j, e1, e2⟩ := qh
          exact hx j e1 e2
        · obtain ⟨j, e1, e2⟩ := nI_of2 (M := nI 255) (n := 255) (by decide) c2 c3
          exact hx j e1 e2
      · refine rThrow (text := "no BYTE") hl0 X h hl.1 hlk hex xIAE_ok hE hAs (fun w hw => List.mem_append_left _ hw) (List.mem_append_right _ (List.mem_of_getElem? (i := 2) rfl)) zw_360 zw_361 zw_10 (by decide) zd_Pr_change_32 zd_Pr_change_35 zd_Pr_change_36 zd_Pr_change_38 zd_Pr_change_41 (Nat.le_of_ble_eq_true rfl) (Nat.le_of_ble_eq_true rfl) (Nat.le_of_ble_eq_true rfl) (Nat.le_of_ble_eq_true rfl) (fun x U r1 r2 r3 r4 r5 r6 r7 => thr () locs (trivial) h.2.1 x U r1 r2 r3 r4 r5 r6 r7)
  · refine rThrow (text := "INPUT has no such place") hl0 X h hl.1 hlk hex xIAE_ok hE hAs (fun w hw => List.mem_append_left _ hw) (List.mem_append_right _ (List.mem_of_getElem? (i := 1) rfl)) zw_360 zw_361 zw_10 (by decide) zd_Pr_change_11 zd_Pr_change_14 zd_Pr_change_15 zd_Pr_change_17 zd_Pr_change_20 (Nat.le_of_ble_eq_true rfl) (Nat.le_of_ble_eq_true rfl) (Nat.le_of_ble_eq_true rfl) (Nat.le_of_ble_eq_true rfl) (fun x U r1 r2 r3 r4 r5 r6 r7 => thr () locs (trivial) h.2.1 x U r1 r2 r3 r4 r5 r6 r7)

set_option maxHeartbeats 4000000 in
set_option maxRecDepth 100000 in
theorem zc_Pr_turnN (l : Launch) (D : va_G) (hl0 : l.stackTraces = false) {d0 oi ob oo oz t0 tb r0 cp nw dm ao no : Nat} {fO : Nat → Int32} {cO : ClassId} (hn : 65536 < no) (hn2 : no ≤ 66059) (sz : Nat) : zMt l D zy_Pr_turn zb_Pr_turn 1 (some .int) ({ frames := 6, cells := 1, slots := 6, locals := 110 } : Room) [.ref d0] [(cO, .byte)] [(d0, .inr (0, [.ref oi, .ref ob, .ref oo, .ref oz, .ref t0, .int (nI tb), .ref r0, .int (nI cp), .int (nI nw), .int (nI dm)])), (oo, .inr (1, [.ref ao, .int (nI no)])), (ao, .inl (cO, 66059, .inl (fO)))] sz xISE "java/lang/IllegalStateException" (fun (u : Unit) => True) (fun _ => [(d0, .inr (0, [.ref oi, .ref ob, .ref oo, .ref oz, .ref t0, .int (nI tb), .ref r0, .int (nI cp), .int (nI nw), .int (nI dm)])), (oo, .inr (1, [.ref ao, .int (nI no)])), (ao, .inl (cO, 66059, .inl (fO)))]) := by
  refine zEt (by decide) (Nat.le_of_ble_eq_true rfl) (fun p e s m args below meth c ls A Q X hE hlk hex hAs hl h hsz thr => ?_)
  have hl : lv_has ls 1 [(0, .ref d0)] := hl
  generalize hH0 : s.heap = H at h ⊢
  have h : zH D A s [(d0, .inr (0, [.ref oi, .ref ob, .ref oo, .ref oz, .ref t0, .int (nI tb), .ref r0, .int (nI cp), .int (nI nw), .int (nI dm)])), (oo, .inr (1, [.ref ao, .int (nI no)])), (ao, .inl (cO, 66059, .inl (fO)))] H [] := h
  generalize hL0 : ([] : List Loc) = locs at h ⊢
  refine lv_aload_n X.1.1 X.1.2.1 zd_Pr_turn_0 rfl (lv_at hl 0 rfl) ?_
  refine rG X h 0 rfl rfl zW_Pr 2 (by decide) zw_107 rfl zd_Pr_turn_1 ?_
  refine rCi (wr := [(d0, .inr (0, [.ref oi, .ref ob, .ref oo, .ref oz, .ref t0, .int (nI tb), .ref r0, .int (nI cp), .int (nI nw), .int (nI dm)]))]) (wf := fun _ => [(d0, .inr (0, [.ref oi, .ref ob, .ref oo, .ref oz, .ref t0, .int (nI tb), .ref r0, .int (nI cp), .int (nI nw), .int (nI dm)])), (oo, .inr (1, [.ref ao, .int (nI no)])), (ao, .inl (cO, 66059, .inl (fO)))]) (rest := []) X h hl.1 (zc_Tx_size l D (o := oo) (a := ao) (n := no) (N := 66059) (f := fO) (cB := cO)  H.size) zw_144 zw_145 zw_146 zw_2 zm_Tx_size zq_Tx_size ⟨Nat.le_of_ble_eq_true rfl, Nat.le_of_ble_eq_true rfl⟩ ⟨Nat.le_of_ble_eq_true rfl, Nat.le_of_ble_eq_true rfl⟩ [0] rfl [1, 2] [0] [0, 1, 2] rfl (by decide) rfl (by decide) (by decide) (fun _ => rfl) (by decide) 0 rfl rfl rfl (Nat.le_of_ble_eq_true rfl) zd_Pr_turn_4 (fun r _ H locs hp h => ?_)
  obtain ⟨rfl, -⟩ := hp
  have h : zH D A s [(d0, .inr (0, [.ref oi, .ref ob, .ref oo, .ref oz, .ref t0, .int (nI tb), .ref r0, .int (nI cp), .int (nI nw), .int (nI dm)])), (oo, .inr (1, [.ref ao, .int (nI no)])), (ao, .inl (cO, 66059, .inl (fO)))] H locs := h
  refine lv_ldc X.1.1 X.1.2.1 X.1.2.2.2.1 (X.1.2.2.2.2 _ zw_26) zd_Pr_turn_7 ?_
  refine zTop (y := nI 65536) (by decide) ?_
  refine lv_icmp_le (tgt := 22) X.1.1 X.1.2.1 zd_Pr_turn_9 rfl (fun c1 => ?_) (fun c1 => ?_)
  · have c1 : no ≤ 65536 := zc_le_t (by omega) (by omega) c1
    exact absurd c1 (by omega)
  · have c1 : 65536 < no := zc_le_f (by omega) (by omega) c1
    refine rThrow (text := "INPUT would be too long") hl0 X h hl.1 hlk hex xISE_ok hE hAs (fun w hw => List.mem_append_left _ hw) (List.mem_append_right _ (List.mem_of_getElem? (i := 0) rfl)) zw_280 zw_281 zw_9 (by decide) zd_Pr_turn_12 zd_Pr_turn_15 zd_Pr_turn_16 zd_Pr_turn_18 zd_Pr_turn_21 (Nat.le_of_ble_eq_true rfl) (Nat.le_of_ble_eq_true rfl) (Nat.le_of_ble_eq_true rfl) (Nat.le_of_ble_eq_true rfl) (fun x U r1 r2 r3 r4 r5 r6 r7 => thr () locs (trivial) h.2.1 x U r1 r2 r3 r4 r5 r6 r7)

set_option maxHeartbeats 4000000 in
set_option maxRecDepth 100000 in
theorem zc_Pr_letterN (l : Launch) (D : va_G) (hl0 : l.stackTraces = false) {d0 oi ob oo oz t0 tb r0 cp nw dm ao no : Nat} {fO : Nat → Int32} {cO : ClassId} {x : Int32} (hx : ∀ j, j < no → x ≠ nI j) (hn : no ≤ 66059) (sz : Nat) : zMt l D zy_Pr_letter zb_Pr_letter 2 (some .int) ({ frames := 6, cells := 1, slots := 6, locals := 110 } : Room) [.ref d0, .int x] [(cO, .byte)] [(d0, .inr (0, [.ref oi, .ref ob, .ref oo, .ref oz, .ref t0, .int (nI tb), .ref r0, .int (nI cp), .int (nI nw), .int (nI dm)])), (oo, .inr (1, [.ref ao, .int (nI no)])), (ao, .inl (cO, 66059, .inl (fO)))] sz xIOE "java/lang/IndexOutOfBoundsException" (fun (u : Unit) => True) (fun _ => [(d0, .inr (0, [.ref oi, .ref ob, .ref oo, .ref oz, .ref t0, .int (nI tb), .ref r0, .int (nI cp), .int (nI nw), .int (nI dm)])), (oo, .inr (1, [.ref ao, .int (nI no)])), (ao, .inl (cO, 66059, .inl (fO)))]) := by
  refine zEt (by decide) (Nat.le_of_ble_eq_true rfl) (fun p e s m args below meth c ls A Q X hE hlk hex hAs hl h hsz thr => ?_)
  have hl : lv_has ls 2 [(0, .ref d0), (1, .int x)] := hl
  generalize hH0 : s.heap = H at h ⊢
  have h : zH D A s [(d0, .inr (0, [.ref oi, .ref ob, .ref oo, .ref oz, .ref t0, .int (nI tb), .ref r0, .int (nI cp), .int (nI nw), .int (nI dm)])), (oo, .inr (1, [.ref ao, .int (nI no)])), (ao, .inl (cO, 66059, .inl (fO)))] H [] := h
  generalize hL0 : ([] : List Loc) = locs at h ⊢
  refine lv_aload_n X.1.1 X.1.2.1 zd_Pr_letter_0 rfl (lv_at hl 0 rfl) ?_
  refine rG X h 0 rfl rfl zW_Pr 2 (by decide) zw_107 rfl zd_Pr_letter_1 ?_
  refine lv_iload_n X.1.1 X.1.2.1 zd_Pr_letter_4 rfl (lv_at hl 1 rfl) ?_
  refine rCi (wr := [(d0, .inr (0, [.ref oi, .ref ob, .ref oo, .ref oz, .ref t0, .int (nI tb), .ref r0, .int (nI cp), .int (nI nw), .int (nI dm)]))]) (wf := fun _ => [(d0, .inr (0, [.ref oi, .ref ob, .ref oo, .ref oz, .ref t0, .int (nI tb), .ref r0, .int (nI cp), .int (nI nw), .int (nI dm)])), (oo, .inr (1, [.ref ao, .int (nI no)])), (ao, .inl (cO, 66059, .inl (fO)))]) (rest := []) X h hl.1 (zc_Tx_has l D (o := oo) (a := ao) (n := no) (N := 66059) (f := fO) (cB := cO) (x := x) (by omega) H.size) zw_383 zw_384 zw_385 zw_2 zm_Tx_has zq_Tx_has ⟨Nat.le_of_ble_eq_true rfl, Nat.le_of_ble_eq_true rfl⟩ ⟨Nat.le_of_ble_eq_true rfl, Nat.le_of_ble_eq_true rfl⟩ [0] rfl [1, 2] [0] [0, 1, 2] rfl (by decide) rfl (by decide) (by decide) (fun _ => rfl) (by decide) 0 rfl rfl rfl (Nat.le_of_ble_eq_true rfl) zd_Pr_letter_5 (fun r _ H locs hp h => ?_)
  have qh : (r = 1 ∧ ∃ j, j < no ∧ x = nI j) ∨ (r = 0 ∧ ∀ j, j < no → x ≠ nI j) := hp
  have h : zH D A s [(d0, .inr (0, [.ref oi, .ref ob, .ref oo, .ref oz, .ref t0, .int (nI tb), .ref r0, .int (nI cp), .int (nI nw), .int (nI dm)])), (oo, .inr (1, [.ref ao, .int (nI no)])), (ao, .inl (cO, 66059, .inl (fO)))] H locs := h
  refine lv_if_ne (tgt := 21) X.1.1 X.1.2.1 zd_Pr_letter_8 rfl (fun c1 => ?_) (fun c1 => ?_)
  · exfalso
    obtain ⟨-, j, e1, e2⟩ := qh.resolve_right (fun z => c1 z.1)
    exact hx j e1 e2
  · refine rThrow (text := "OUTPUT has no such place") hl0 X h hl.1 hlk hex xIOE_ok hE hAs (fun w hw => List.mem_append_left _ hw) (List.mem_append_right _ (List.mem_of_getElem? (i := 0) rfl)) zw_468 zw_469 zw_15 (by decide) zd_Pr_letter_11 zd_Pr_letter_14 zd_Pr_letter_15 zd_Pr_letter_17 zd_Pr_letter_20 (Nat.le_of_ble_eq_true rfl) (Nat.le_of_ble_eq_true rfl) (Nat.le_of_ble_eq_true rfl) (Nat.le_of_ble_eq_true rfl) (fun x U r1 r2 r3 r4 r5 r6 r7 => thr () locs (trivial) h.2.1 x U r1 r2 r3 r4 r5 r6 r7)

set_option maxHeartbeats 4000000 in
set_option maxRecDepth 100000 in
theorem zc_Pr_longestN (l : Launch) (D : va_G) (hl0 : l.stackTraces = false) {d0 oi ob oo oz t0 tb r0 cp nw dm ai n : Nat} {fI : Nat → Int32} {cI : ClassId} {x y : Int32} (hx : (∀ j, j < n → x ≠ nI j) ∨ (∀ j, j ≤ 1 → y ≠ nI j)) (hn : n ≤ 65536) (sz : Nat) : zMt l D zy_Pr_longest zb_Pr_longest 4 (some .int) ({ frames := 6, cells := 1, slots := 6, locals := 110 } : Room) [.ref d0, .int x, .int y] [(cI, .byte)] [(d0, .inr (0, [.ref oi, .ref ob, .ref oo, .ref oz, .ref t0, .int (nI tb), .ref r0, .int (nI cp), .int (nI nw), .int (nI dm)])), (oi, .inr (1, [.ref ai, .int (nI n)])), (ai, .inl (cI, 65536, .inl (fI)))] sz xIAE "java/lang/IllegalArgumentException" (fun (u : Unit) => True) (fun _ => [(d0, .inr (0, [.ref oi, .ref ob, .ref oo, .ref oz, .ref t0, .int (nI tb), .ref r0, .int (nI cp), .int (nI nw), .int (nI dm)])), (oi, .inr (1, [.ref ai, .int (nI n)])), (ai, .inl (cI, 65536, .inl (fI)))]) := by
  refine zEt (by decide) (Nat.le_of_ble_eq_true rfl) (fun p e s m args below meth c ls A Q X hE hlk hex hAs hl h hsz thr => ?_)
  have hl : lv_has ls 4 [(0, .ref d0), (1, .int x), (2, .int y)] := hl
  generalize hH0 : s.heap = H at h ⊢
  have h : zH D A s [(d0, .inr (0, [.ref oi, .ref ob, .ref oo, .ref oz, .ref t0, .int (nI tb), .ref r0, .int (nI cp), .int (nI nw), .int (nI dm)])), (oi, .inr (1, [.ref ai, .int (nI n)])), (ai, .inl (cI, 65536, .inl (fI)))] H [] := h
  generalize hL0 : ([] : List Loc) = locs at h ⊢
  refine lv_aload_n X.1.1 X.1.2.1 zd_Pr_longest_0 rfl (lv_at hl 0 rfl) ?_
  refine rG X h 0 rfl rfl zW_Pr 0 (by decide) zw_105 rfl zd_Pr_longest_1 ?_
  refine lv_iload_n X.1.1 X.1.2.1 zd_Pr_longest_4 rfl (lv_at hl 1 rfl) ?_
  refine rCi (wr := [(d0, .inr (0, [.ref oi, .ref ob, .ref oo, .ref oz, .ref t0, .int (nI tb), .ref r0, .int (nI cp), .int (nI nw), .int (nI dm)]))]) (wf := fun _ => [(d0, .inr (0, [.ref oi, .ref ob, .ref oo, .ref oz, .ref t0, .int (nI tb), .ref r0, .int (nI cp), .int (nI nw), .int (nI dm)])), (oi, .inr (1, [.ref ai, .int (nI n)])), (ai, .inl (cI, 65536, .inl (fI)))]) (rest := []) X h hl.1 (zc_Tx_has l D (o := oi) (a := ai) (n := n) (N := 65536) (f := fI) (cB := cI) (x := x) (by omega) H.size) zw_383 zw_384 zw_385 zw_2 zm_Tx_has zq_Tx_has ⟨Nat.le_of_ble_eq_true rfl, Nat.le_of_ble_eq_true rfl⟩ ⟨Nat.le_of_ble_eq_true rfl, Nat.le_of_ble_eq_true rfl⟩ [0] rfl [1, 2] [0] [0, 1, 2] rfl (by decide) rfl (by decide) (by decide) (fun _ => rfl) (by decide) 0 rfl rfl rfl (Nat.le_of_ble_eq_true rfl) zd_Pr_longest_5 (fun r _ H locs hp h => ?_)
  have qh : (r = 1 ∧ ∃ j, j < n ∧ x = nI j) ∨ (r = 0 ∧ ∀ j, j < n → x ≠ nI j) := hp
  have h : zH D A s [(d0, .inr (0, [.ref oi, .ref ob, .ref oo, .ref oz, .ref t0, .int (nI tb), .ref r0, .int (nI cp), .int (nI nw), .int (nI dm)])), (oi, .inr (1, [.ref ai, .int (nI n)])), (ai, .inl (cI, 65536, .inl (fI)))] H locs := h
  refine lv_if_ne (tgt := 21) X.1.1 X.1.2.1 zd_Pr_longest_8 rfl (fun c1 => ?_) (fun c1 => ?_)
  · have qh := qh.resolve_right (fun z => c1 z.1)
    refine lv_iload_n X.1.1 X.1.2.1 zd_Pr_longest_21 rfl (lv_at hl 2 rfl) ?_
    refine lv_if_eq (tgt := 40) X.1.1 X.1.2.1 zd_Pr_longest_22 rfl (fun c2 => ?_) (fun c2 => ?_)
    · exfalso
      rcases hx with hx | hx
      · obtain ⟨-, j, e1, e2⟩ := qh
        exact hx j e1 e2
      · exact hx 0 (by decide) c2
    · refine lv_iload_n X.1.1 X.1.2.1 zd_Pr_longest_25 rfl (lv_at hl 2 rfl) ?_
      refine lv_iconst (v := nI 1) X.1.1 X.1.2.1 zd_Pr_longest_26 (by decide) ?_
      refine lv_icmp_eq (tgt := 40) X.1.1 X.1.2.1 zd_Pr_longest_27 rfl (fun c3 => ?_) (fun c3 => ?_)
      · exfalso
        rcases hx with hx | hx
        · obtain ⟨-, j, e1, e2⟩ := qh
          exact hx j e1 e2
        · exact hx 1 (by decide) c3
      · refine rThrow (text := "neither the length nor the place") hl0 X h hl.1 hlk hex xIAE_ok hE hAs (fun w hw => List.mem_append_left _ hw) (List.mem_append_right _ (List.mem_of_getElem? (i := 3) rfl)) zw_360 zw_361 zw_10 (by decide) zd_Pr_longest_30 zd_Pr_longest_33 zd_Pr_longest_34 zd_Pr_longest_36 zd_Pr_longest_39 (Nat.le_of_ble_eq_true rfl) (Nat.le_of_ble_eq_true rfl) (Nat.le_of_ble_eq_true rfl) (Nat.le_of_ble_eq_true rfl) (fun x U r1 r2 r3 r4 r5 r6 r7 => thr () locs (trivial) h.2.1 x U r1 r2 r3 r4 r5 r6 r7)
  · refine rThrow (text := "INPUT has no such place") hl0 X h hl.1 hlk hex xIAE_ok hE hAs (fun w hw => List.mem_append_left _ hw) (List.mem_append_right _ (List.mem_of_getElem? (i := 1) rfl)) zw_360 zw_361 zw_10 (by decide) zd_Pr_longest_11 zd_Pr_longest_14 zd_Pr_longest_15 zd_Pr_longest_17 zd_Pr_longest_20 (Nat.le_of_ble_eq_true rfl) (Nat.le_of_ble_eq_true rfl) (Nat.le_of_ble_eq_true rfl) (Nat.le_of_ble_eq_true rfl) (fun x U r1 r2 r3 r4 r5 r6 r7 => thr () locs (trivial) h.2.1 x U r1 r2 r3 r4 r5 r6 r7)

set_option maxHeartbeats 4000000 in
set_option maxRecDepth 100000 in
theorem zc_Pr_useN (l : Launch) (D : va_G) (hl0 : l.stackTraces = false) {d0 oi ob oo oz t0 tb r0 cp nw dm ai n ab nb az nz pl : Nat} {fI fB fZ : Nat → Int32} {cI cB cZ : ClassId} (hA : rdA (tx fI n) (tx fB nb) = none) (hn : n ≤ 65536) (hnb : nb ≤ 65536) (hfI : sb_Fit fI) (hfB : sb_Fit fB) (hfZ : sb_Fit fZ) (sz : Nat) : zMt l D zy_Pr_use zb_Pr_use 2 (some .int) ({ frames := 6, cells := 1, slots := 6, locals := 110 } : Room) [.ref d0] [(cI, .byte), (cB, .byte), (cZ, .byte)] [(d0, .inr (0, [.ref oi, .ref ob, .ref oo, .ref oz, .ref t0, .int (nI tb), .ref r0, .int (nI cp), .int (nI nw), .int (nI dm)])), (oi, .inr (1, [.ref ai, .int (nI n)])), (ai, .inl (cI, 65536, .inl (fI))), (ob, .inr (1, [.ref ab, .int (nI nb)])), (ab, .inl (cB, 65536, .inl (fB))), (oz, .inr (1, [.ref az, .int (nI nz)])), (az, .inl (cZ, 66059, .inl (fZ))), (r0, .inr (3, [.int (nI pl)]))] sz xAE "java/lang/ArithmeticException" (fun (u : Nat × Nat × (Nat → Int32)) => u.2.1 ≤ 65536 ∧ sb_Fit u.2.2) (fun u => [(d0, .inr (0, [.ref oi, .ref ob, .ref oo, .ref oz, .ref t0, .int (nI tb), .ref r0, .int (nI cp), .int (nI nw), .int (nI (dm + 1))])), (oi, .inr (1, [.ref ai, .int (nI n)])), (ai, .inl (cI, 65536, .inl (fI))), (ob, .inr (1, [.ref ab, .int (nI nb)])), (ab, .inl (cB, 65536, .inl (fB))), (oz, .inr (1, [.ref az, .int (nI u.2.1)])), (az, .inl (cZ, 66059, .inl (u.2.2))), (r0, .inr (3, [.int (nI u.1)]))]) := by
  refine zEt (by decide) (Nat.le_of_ble_eq_true rfl) (fun p e s m args below meth c ls A Q X hE hlk hex hAs hl h hsz thr => ?_)
  have hl : lv_has ls 2 [(0, .ref d0)] := hl
  generalize hH0 : s.heap = H at h ⊢
  have h : zH D A s [(d0, .inr (0, [.ref oi, .ref ob, .ref oo, .ref oz, .ref t0, .int (nI tb), .ref r0, .int (nI cp), .int (nI nw), .int (nI dm)])), (oi, .inr (1, [.ref ai, .int (nI n)])), (ai, .inl (cI, 65536, .inl (fI))), (ob, .inr (1, [.ref ab, .int (nI nb)])), (ab, .inl (cB, 65536, .inl (fB))), (oz, .inr (1, [.ref az, .int (nI nz)])), (az, .inl (cZ, 66059, .inl (fZ))), (r0, .inr (3, [.int (nI pl)]))] H [] := h
  generalize hL0 : ([] : List Loc) = locs at h ⊢
  refine lv_aload_n X.1.1 X.1.2.1 zd_Pr_use_0 rfl (lv_at hl 0 rfl) ?_
  refine rG X h 0 rfl rfl zW_Pr 6 (by decide) zw_111 rfl zd_Pr_use_1 ?_
  refine lv_aload_n X.1.1 X.1.2.1 zd_Pr_use_4 rfl (lv_at hl 0 rfl) ?_
  refine rG X h 0 rfl rfl zW_Pr 0 (by decide) zw_105 rfl zd_Pr_use_5 ?_
  refine lv_aload_n X.1.1 X.1.2.1 zd_Pr_use_8 rfl (lv_at hl 0 rfl) ?_
  refine rG X h 0 rfl rfl zW_Pr 1 (by decide) zw_106 rfl zd_Pr_use_9 ?_
  refine lv_aload_n X.1.1 X.1.2.1 zd_Pr_use_12 rfl (lv_at hl 0 rfl) ?_
  refine rG X h 0 rfl rfl zW_Pr 3 (by decide) zw_108 rfl zd_Pr_use_13 ?_
  refine rCi (wr := [(d0, .inr (0, [.ref oi, .ref ob, .ref oo, .ref oz, .ref t0, .int (nI tb), .ref r0, .int (nI cp), .int (nI nw), .int (nI dm)]))]) (wf := fun u => [(d0, .inr (0, [.ref oi, .ref ob, .ref oo, .ref oz, .ref t0, .int (nI tb), .ref r0, .int (nI cp), .int (nI nw), .int (nI dm)])), (oi, .inr (1, [.ref ai, .int (nI n)])), (ai, .inl (cI, 65536, .inl (fI))), (ob, .inr (1, [.ref ab, .int (nI nb)])), (ab, .inl (cB, 65536, .inl (fB))), (oz, .inr (1, [.ref az, .int (nI u.2.1)])), (az, .inl (cZ, 66059, .inl (u.2.2))), (r0, .inr (3, [.int (nI u.1)]))]) (rest := []) X h hl.1 (zc_De_isRead l D (r0 := r0) (pl := pl) (o := oi) (a := ai) (n := n) (N := 65536) (f := fI) (cB := cI) (o2 := ob) (a2 := ab) (n2 := nb) (N2 := 65536) (f2 := fB) (cB2 := cB) (o3 := oz) (a3 := az) (n3 := nz) (N3 := 66059) (f3 := fZ) (cB3 := cZ) (by omega) (by decide) (hfI) (by omega) (by decide) (hfB) (by decide) (by decide) (hfZ) H.size) zw_401 zw_402 zw_403 zw_4 zm_De_isRead zq_De_isRead ⟨Nat.le_of_ble_eq_true rfl, Nat.le_of_ble_eq_true rfl⟩ ⟨Nat.le_of_ble_eq_true rfl, Nat.le_of_ble_eq_true rfl⟩ [0, 1, 2] rfl [7, 1, 2, 3, 4, 5, 6] [0] [0, 2, 3, 4, 5, 6, 7, 1] rfl (by decide) rfl (by decide) (by decide) (fun _ => rfl) (by decide) 0 rfl rfl rfl (Nat.le_of_ble_eq_true rfl) zd_Pr_use_16 (fun r u H locs hp h => ?_)
  have q1 : ((r = 0 ∧ rdA (tx fI n) (tx fB nb) = none) ∨ (r = 1 ∧ rdA (tx fI n) (tx fB nb) = some (tx u.2.2 u.2.1))) ∧ u.2.1 ≤ 65536 ∧ sb_Fit u.2.2 := hp
  have h : zH D A s [(d0, .inr (0, [.ref oi, .ref ob, .ref oo, .ref oz, .ref t0, .int (nI tb), .ref r0, .int (nI cp), .int (nI nw), .int (nI dm)])), (oi, .inr (1, [.ref ai, .int (nI n)])), (ai, .inl (cI, 65536, .inl (fI))), (ob, .inr (1, [.ref ab, .int (nI nb)])), (ab, .inl (cB, 65536, .inl (fB))), (oz, .inr (1, [.ref az, .int (nI u.2.1)])), (az, .inl (cZ, 66059, .inl (u.2.2))), (r0, .inr (3, [.int (nI u.1)]))] H locs := h
  obtain ⟨p1, n1, g1⟩ := u
  have h : zH D A s [(d0, .inr (0, [.ref oi, .ref ob, .ref oo, .ref oz, .ref t0, .int (nI tb), .ref r0, .int (nI cp), .int (nI nw), .int (nI dm)])), (oi, .inr (1, [.ref ai, .int (nI n)])), (ai, .inl (cI, 65536, .inl (fI))), (ob, .inr (1, [.ref ab, .int (nI nb)])), (ab, .inl (cB, 65536, .inl (fB))), (oz, .inr (1, [.ref az, .int (nI n1)])), (az, .inl (cZ, 66059, .inl (g1))), (r0, .inr (3, [.int (nI p1)]))] H locs := h
  obtain ⟨q1, q2, q3⟩ := q1
  dsimp only at q1 q2 q3
  have qr : r = 0 := by
    rcases q1 with z | z
    · exact z.1
    · rw [hA] at z; cases z.2
  subst qr
  refine lv_if_ne (tgt := 42) X.1.1 X.1.2.1 zd_Pr_use_19 rfl (fun c1 => ?_) (fun c1 => ?_)
  · exact absurd rfl c1
  · refine lv_aload_n X.1.1 X.1.2.1 zd_Pr_use_22 rfl (lv_at hl 0 rfl) ?_
    refine lv_dup X.1.1 X.1.2.1 zd_Pr_use_23 rfl ?_
    refine rG X h 0 rfl rfl zW_Pr 9 (by decide) zw_114 rfl zd_Pr_use_24 ?_
    refine lv_iconst (v := nI 1) X.1.1 X.1.2.1 zd_Pr_use_27 (by decide) ?_
    refine lv_iadd X.1.1 X.1.2.1 zd_Pr_use_28 ?_
    refine zTop (y := nI (dm + 1)) (nI_add _ _) ?_
    refine rP X h 0 rfl rfl zW_Pr zO_Pr zN_Pr 9 (by decide) zw_114 rfl (rfl) (rfl) (Nat.le_of_ble_eq_true rfl) zd_Pr_use_29 (fun H locs h => ?_)
    have h : zH D A s [(d0, .inr (0, [.ref oi, .ref ob, .ref oo, .ref oz, .ref t0, .int (nI tb), .ref r0, .int (nI cp), .int (nI nw), .int (nI (dm + 1))])), (oi, .inr (1, [.ref ai, .int (nI n)])), (ai, .inl (cI, 65536, .inl (fI))), (ob, .inr (1, [.ref ab, .int (nI nb)])), (ab, .inl (cB, 65536, .inl (fB))), (oz, .inr (1, [.ref az, .int (nI n1)])), (az, .inl (cZ, 66059, .inl (g1))), (r0, .inr (3, [.int (nI p1)]))] H locs := h
    refine rThrow (text := "INPUT is DAMAGED") hl0 X h hl.1 hlk hex xAE_ok hE hAs (fun w hw => List.mem_append_left _ hw) (List.mem_append_right _ (List.mem_of_getElem? (i := 0) rfl)) zw_429 zw_430 zw_14 (by decide) zd_Pr_use_32 zd_Pr_use_35 zd_Pr_use_36 zd_Pr_use_38 zd_Pr_use_41 (Nat.le_of_ble_eq_true rfl) (Nat.le_of_ble_eq_true rfl) (Nat.le_of_ble_eq_true rfl) (Nat.le_of_ble_eq_true rfl) (fun x U r1 r2 r3 r4 r5 r6 r7 => thr (p1, n1, g1) locs (⟨q2, q3⟩) h.2.1 x U r1 r2 r3 r4 r5 r6 r7)
