set_option maxHeartbeats 4000000 in
set_option maxRecDepth 100000 in
theorem lw_loop {p : Program} {l : Launch} {e : Env} {s : State} {m : MethodId} {args : Array Value} {below : List Frame} {meth : Method} {c : Code} {Q : State → Prop} {D : va_G} {A : Nat → Prop} {bs Ls : Nat} {xs : Nat → Int32} (hc : zCtx l s A bs Ls xs) (fin : ∀ (i ce so : Nat) (ls : Array Slot) (H : Heap) (locs : List Loc), ce ≤ 566915 → so ≤ 7395360 → zL p m c s args D A bs i ls H locs → W p l e ({ frames := 10, cells := 566915, slots := 7395360, locals := 354 } : Room) s m args below meth c H locs (ce) (so) Q (F0 m 573 ls [])) :
    ∀ (fu t : Nat) (ls : Array Slot) (H : Heap) (locs : List Loc), 513 - t < fu → t ≤ 512 → zL p m c s args D A bs (6 * t) ls H locs → W p l e ({ frames := 10, cells := 566915, slots := 7395360, locals := 354 } : Room) s m args below meth c H locs (23 + t) (1313281 + 6 * t) Q (F0 m 23 ls []) := by
  have hcc := hc
  obtain ⟨hl0, hX, hbl, hbA, hL, hAs, xE_xISE, xE_xIAE, xE_xAE, xE_xIOE, cw_La_feed, cw_La_end, cw_La_change, cw_La_use, cw_La_turn, cw_La_longest, cw_La_letter⟩ := hc
  intro fu
  induction fu with
  | zero => intro t ls H locs hfu; exact absurd hfu (Nat.not_lt_zero _)
  | succ fu ih =>
    intro t ls H locs hfu ht hz
    have hz0 := hz
    refine hz _ (fun d0 oi ai n fI cI ob ab nb fB cB oo ao no fO cO oz az nz fZ cZ t0 tt tn aS aE aP aL nd aQ M sh an L wt fl fp st en pa li sl cS cE cP cL cQ r0 pl tb cp nw dm m0 kaI kaB kaO kaR kth kbe kwh kat_ kwr kfi kfI kfB kfO kfR kcI kcB kcO kcR ou cU fL X hn hnb hno hfI hfB hfO hfZ gfI gfB gfO gfR hT eI eB eO hl h => ?_)
    refine lv_iload X.1.1 X.1.2.1 zd_La_law_23 (lv_at hl 4 rfl) ?_
    refine lv_aload_n X.1.1 X.1.2.1 zd_La_law_25 rfl (lv_at hl 0 rfl) ?_
    refine rSlen X h hX hbl hbA zd_La_law_26 ?_
    refine lv_bipush (v := nI 6) X.1.1 X.1.2.1 zd_La_law_27 (by decide) ?_
    refine lv_isub X.1.1 X.1.2.1 zd_La_law_29 ?_
    refine lv_icmp_gt (tgt := 573) X.1.1 X.1.2.1 zd_La_law_30 rfl (fun t1 => ?_) (fun t1 => ?_)
    · exact fin _ _ _ ls H locs (by omega) (by omega) hz0
    · have t2 : 6 * t + 6 ≤ Ls := (sub_le (by omega) (by omega) (by omega)).mp (Int32.not_lt.mp t1)
      have nx : ∀ (ls : Array Slot) (H : Heap) (locs : List Loc), zL p m c s args D A bs (6 * t) ls H locs → W p l e ({ frames := 10, cells := 566915, slots := 7395360, locals := 354 } : Room) s m args below meth c H locs (23 + t + 1) (1313281 + 6 * t + 6) Q (F0 m 567 ls []) := by
        intro ls H locs hz
        refine hz _ (fun d0 oi ai n fI cI ob ab nb fB cB oo ao no fO cO oz az nz fZ cZ t0 tt tn aS aE aP aL nd aQ M sh an L wt fl fp st en pa li sl cS cE cP cL cQ r0 pl tb cp nw dm m0 kaI kaB kaO kaR kth kbe kwh kat_ kwr kfi kfI kfB kfO kfR kcI kcB kcO kcR ou cU fL X hn hnb hno hfI hfB hfO hfZ gfI gfB gfO gfR hT eI eB eO hl h => ?_)
        refine lv_iinc X.1.1 X.1.2.1 zd_La_law_567 hl (k := 4) rfl (v := nI (6 * (t + 1))) ((nI_add (6 * t) 6).trans (congrArg nI (by omega))) (by decide) rfl (fun ls hl => ?_)
        have hl : lv_has ls 7 [(4, .int (nI (6 * (t + 1)))), (0, .ref bs), (1, .ref d0), (2, .ref m0), (3, .ref ou)] := hl
        refine lv_goto (tgt := 23) X.1.1 X.1.2.1 zd_La_law_570 rfl ?_
        refine W.widen (k := 23 + (t + 1)) (n := 1313281 + 6 * (t + 1)) (by omega) (by omega) ?_
        exact ih (t + 1) ls H locs (by omega) (by omega) (fun K k => k d0 oi ai n fI cI ob ab nb fB cB oo ao no fO cO oz az nz fZ cZ t0 tt tn aS aE aP aL nd aQ M sh an L wt fl fp st en pa li sl cS cE cP cL cQ r0 pl tb cp nw dm m0 kaI kaB kaO kaR kth kbe kwh kat_ kwr kfi kfI kfB kfO kfR kcI kcB kcO kcR ou cU fL X hn hnb hno hfI hfB hfO hfZ gfI gfB gfO gfR hT eI eB eO (lv_sub hl [1, 2, 3, 4, 0] rfl) h)
      refine lv_aload_n X.1.1 X.1.2.1 zd_La_law_33 rfl (lv_at hl 0 rfl) ?_
      refine lv_iload X.1.1 X.1.2.1 zd_La_law_34 (lv_at hl 4 rfl) ?_
      refine rSld X h hX hbl hbA (by omega) hL zd_La_law_36 ?_
      refine lv_bipush (v := nI 15) X.1.1 X.1.2.1 zd_La_law_37 (by decide) ?_
      refine lv_iand X.1.1 X.1.2.1 zd_La_law_39 ?_
      obtain ⟨j, hj, hx⟩ := pk_andE (xs (6 * t)) (m := nI 15) 4 (by decide)
      refine zTop (y := nI j) (hx) ?_
      by_cases hj9 : j ≤ 9
      · rcases (show j = 0 ∨ j = 1 ∨ j = 2 ∨ j = 3 ∨ j = 4 ∨ j = 5 ∨ j = 6 ∨ j = 7 ∨ j = 8 ∨ j = 9 by omega) with rfl | rfl | rfl | rfl | rfl | rfl | rfl | rfl | rfl | rfl
        · refine lv_tableIn (tgt := 96) (off := 56) X.1.1 X.1.2.1 zd_La_law_40 (by decide) (by decide) (by decide) rfl ?_
          exact cs_0 hcc t2 (by omega) (by omega) hz0 nx
        · refine lv_tableIn (tgt := 200) (off := 160) X.1.1 X.1.2.1 zd_La_law_40 (by decide) (by decide) (by decide) rfl ?_
          exact cs_1 hcc t2 (by omega) (by omega) hz0 nx
        · refine lv_tableIn (tgt := 256) (off := 216) X.1.1 X.1.2.1 zd_La_law_40 (by decide) (by decide) (by decide) rfl ?_
          exact cs_2 hcc t2 (by omega) (by omega) hz0 nx
        · refine lv_tableIn (tgt := 304) (off := 264) X.1.1 X.1.2.1 zd_La_law_40 (by decide) (by decide) (by decide) rfl ?_
          exact cs_3 hcc t2 (by omega) (by omega) hz0 nx
        · refine lv_tableIn (tgt := 317) (off := 277) X.1.1 X.1.2.1 zd_La_law_40 (by decide) (by decide) (by decide) rfl ?_
          exact cs_4 hcc t2 (by omega) (by omega) hz0 nx
        · refine lv_tableIn (tgt := 330) (off := 290) X.1.1 X.1.2.1 zd_La_law_40 (by decide) (by decide) (by decide) rfl ?_
          exact cs_5 hcc t2 (by omega) (by omega) hz0 nx
        · refine lv_tableIn (tgt := 374) (off := 334) X.1.1 X.1.2.1 zd_La_law_40 (by decide) (by decide) (by decide) rfl ?_
          exact cs_6 hcc t2 (by omega) (by omega) hz0 nx
        · refine lv_tableIn (tgt := 418) (off := 378) X.1.1 X.1.2.1 zd_La_law_40 (by decide) (by decide) (by decide) rfl ?_
          exact cs_7 hcc t2 (by omega) (by omega) hz0 nx
        · refine lv_tableIn (tgt := 486) (off := 446) X.1.1 X.1.2.1 zd_La_law_40 (by decide) (by decide) (by decide) rfl ?_
          exact cs_8 hcc t2 (by omega) (by omega) hz0 nx
        · refine lv_tableIn (tgt := 542) (off := 502) X.1.1 X.1.2.1 zd_La_law_40 (by decide) (by decide) (by decide) rfl ?_
          exact cs_9 hcc t2 (by omega) (by omega) hz0 nx
      · refine lv_tableOut (tgt := 567) X.1.1 X.1.2.1 zd_La_law_40 (Or.inr (by rw [nI_toInt (by omega)]; omega)) rfl ?_
        exact W.widen (Nat.le_succ _) (Nat.le_add_right _ _) (nx ls H locs hz0)
