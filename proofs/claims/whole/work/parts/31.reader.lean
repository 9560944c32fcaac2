/-! DeltaPress$DeltaReader -/
theorem ub_lt (x : Int32) : ub x < 256 := Nat.mod_lt _ (by decide)
theorem rn_or {v x k : Nat} (hk : k < 4) (hv : v < 128 ^ k) (hx : x < 128) : nI v ||| (nI x <<< (nI (7 * k) &&& 31)) = nI (v + x * 128 ^ k) ∧ v + x * 128 ^ k < 128 ^ (k + 1) := by
  have e : (128 : Nat) ^ k = 2 ^ (7 * k) := by rw [Nat.pow_mul]
  have hp : (0 : Nat) < 2 ^ (7 * k) := Nat.pow_pos (by decide)
  have h1 : x * 2 ^ (7 * k) < 128 * 2 ^ (7 * k) := Nat.mul_lt_mul_of_pos_right hx hp
  have h2 : 128 * 2 ^ (7 * k) = 2 ^ (7 * k + 7) := by rw [Nat.pow_add, Nat.mul_comm]
  have h3 : (2 : Nat) ^ (7 * k + 7) ≤ 2 ^ 28 := Nat.pow_le_pow_right (by decide) (by omega)
  refine ⟨?_, ?_⟩
  · rw [shl_nI (by omega) (by omega), nI_or, e]
    congr 1
    have q := Nat.two_pow_add_eq_or_of_lt (i := 7 * k) (by rw [← e]; exact hv) x
    rw [Nat.or_comm, Nat.mul_comm x, ← q, Nat.add_comm]
  · rw [Nat.pow_succ, Nat.mul_comm (128 ^ k)]
    rw [e] at hv ⊢
    have : (x + 1) * 2 ^ (7 * k) ≤ 128 * 2 ^ (7 * k) := Nat.mul_le_mul_right _ hx
    rw [Nat.add_mul] at this
    omega
theorem rc_or {v x k : Nat} (hk : k < 4) (hv : v < 256 ^ k) (hx : x < 256) : nI v ||| (nI x <<< (nI (8 * k) &&& 31)) = nI (v + x * 256 ^ k) ∧ v + x * 256 ^ k < 256 ^ (k + 1) := by
  have e : (256 : Nat) ^ k = 2 ^ (8 * k) := by rw [Nat.pow_mul]
  have hp : (0 : Nat) < 2 ^ (8 * k) := Nat.pow_pos (by decide)
  have h1 : x * 2 ^ (8 * k) < 256 * 2 ^ (8 * k) := Nat.mul_lt_mul_of_pos_right hx hp
  have h2 : 256 * 2 ^ (8 * k) = 2 ^ (8 * k + 8) := by rw [Nat.pow_add, Nat.mul_comm]
  have h3 : (2 : Nat) ^ (8 * k + 8) ≤ 2 ^ 32 := Nat.pow_le_pow_right (by decide) (by omega)
  refine ⟨?_, ?_⟩
  · rw [shl_nI (by omega) (by omega), nI_or, e]
    congr 1
    have q := Nat.two_pow_add_eq_or_of_lt (i := 8 * k) (by rw [← e]; exact hv) x
    rw [Nat.or_comm, Nat.mul_comm x, ← q, Nat.add_comm]
  · rw [Nat.pow_succ, Nat.mul_comm (256 ^ k)]
    rw [e] at hv ⊢
    have : (x + 1) * 2 ^ (8 * k) ≤ 256 * 2 ^ (8 * k) := Nat.mul_le_mul_right _ hx
    rw [Nat.add_mul] at this
    omega
theorem p128 {k : Nat} (hk : k ≤ 4) : 128 ^ k ≤ 2 ^ 28 := by
  have e : (128 : Nat) ^ k = 2 ^ (7 * k) := by rw [Nat.pow_mul]
  rw [e]
  exact Nat.pow_le_pow_right (by decide) (by omega)
theorem p256 {k : Nat} (hk : k ≤ 4) : 256 ^ k ≤ 2 ^ 32 := by
  have e : (256 : Nat) ^ k = 2 ^ (8 * k) := by rw [Nat.pow_mul]
  rw [e]
  exact Nat.pow_le_pow_right (by decide) (by omega)
theorem rdN_go {f : Nat → Int32} {n q k pl v : Nat} (h : pl < n) : rdN (tx f n) (q + 1) k pl v = if ub (f pl) < 128 then some (v + ub (f pl) * 128 ^ k, pl + 1) else rdN (tx f n) q (k + 1) (pl + 1) (v + (ub (f pl) - 128) * 128 ^ k) := by
  show (if pl < (tx f n).length then _ else _) = _
  rw [tx_len, if_pos h, tf_tx h]
theorem rdN_no {f : Nat → Int32} {n q k pl v : Nat} (h : n ≤ pl) : rdN (tx f n) q k pl v = none := by
  cases q with
  | zero => rfl
  | succ q =>
    show (if pl < (tx f n).length then _ else _) = _
    rw [tx_len, if_neg (by omega)]
theorem rdC_0 {f : Nat → Int32} {n b q k pl v : Nat} (h : ¬ b / 2 ^ k % 2 = 1) : rdC (tx f n) b (q + 1) k pl v = rdC (tx f n) b q (k + 1) pl v := by
  show (if b / 2 ^ k % 2 = 1 then _ else _) = _
  rw [if_neg h]
theorem rdC_1 {f : Nat → Int32} {n b q k pl v : Nat} (h : b / 2 ^ k % 2 = 1) : rdC (tx f n) b (q + 1) k pl v = if pl < n then rdC (tx f n) b q (k + 1) (pl + 1) (v + ub (f pl) * 256 ^ k) else none := by
  show (if b / 2 ^ k % 2 = 1 then _ else _) = _
  rw [if_pos h, tx_len]
  by_cases hp : pl < n
  · rw [if_pos hp, if_pos hp, tf_tx hp]
  · rw [if_neg hp, if_neg hp]
def mny (mn : Nat) : Nat := if mn = 0 then 65536 else mn
/-- a COPY at place pl (behind its head): where it goes on, from where, how many -/
def rdK (d T : List Int32) (due head pl ml : Nat) : Option (Nat × Nat × Nat) :=
  match rdC d head 4 0 pl 0 with
  | none => none
  | some (fr, pl1) =>
    match rdC d (head / 16) 3 0 pl1 0 with
    | none => none
    | some (mn, pl2) => if fr + mny mn ≤ T.length ∧ ml + mny mn ≤ due then some (pl2, fr, mny mn) else none
theorem rdB_K {d T made : List Int32} {due q pl : Nat} (h : pl < d.length) (hh : 128 ≤ ub (tf d pl)) : rdB d T due (q + 1) pl made = (match rdK d T due (ub (tf d pl)) (pl + 1) made.length with | none => none | some (pl2, fr, mn) => rdB d T due q pl2 (made ++ (T.drop fr).take mn)) := by
  unfold rdK
  rw [rdB, if_pos h, if_pos hh]
  cases h1 : rdC d (ub (tf d pl)) 4 0 (pl + 1) 0 with
  | none => rfl
  | some x =>
    obtain ⟨fr, pl1⟩ := x
    dsimp only
    cases h2 : rdC d (ub (tf d pl) / 16) 3 0 pl1 0 with
    | none => rfl
    | some y =>
      obtain ⟨mn, pl2⟩ := y
      dsimp only
      show (if fr + mny mn ≤ T.length ∧ made.length + mny mn ≤ due then _ else _) = _
      by_cases hc : fr + mny mn ≤ T.length ∧ made.length + mny mn ≤ due
      · rw [if_pos hc, if_pos hc]; rfl
      · rw [if_neg hc, if_neg hc]
theorem rdC_le {d : List Int32} {b : Nat} : ∀ {q k pl v v' pl' : Nat}, rdC d b q k pl v = some (v', pl') → pl ≤ pl' := by
  intro q
  induction q with
  | zero => intro k pl v v' pl' h; cases h; exact Nat.le_refl _
  | succ q ih =>
    intro k pl v v' pl' h
    rw [rdC] at h
    split at h
    · split at h
      · have := ih h
        omega
      · cases h
    · exact ih h
theorem rdK_le {d T : List Int32} {due head pl ml pl2 fr mn : Nat} (h : rdK d T due head pl ml = some (pl2, fr, mn)) : pl ≤ pl2 := by
  unfold rdK at h
  split at h
  · cases h
  · rename_i h1
    split at h
    · cases h
    · rename_i h2
      split at h
      · cases h
        have a := rdC_le h1
        have b := rdC_le h2
        omega
      · cases h
/-- NEW BYTES: not fine -/
def rdW (dl due head pl ml : Nat) : Prop := head = 0 ∨ dl < pl + head ∨ due < ml + head
theorem rdB_W {d T made : List Int32} {due q pl : Nat} (h : pl < d.length) (hh : ¬ 128 ≤ ub (tf d pl)) : (rdW d.length due (ub (tf d pl)) (pl + 1) made.length → rdB d T due (q + 1) pl made = none) ∧ (¬ rdW d.length due (ub (tf d pl)) (pl + 1) made.length → rdB d T due (q + 1) pl made = rdB d T due q (pl + 1 + ub (tf d pl)) (made ++ (d.drop (pl + 1)).take (ub (tf d pl)))) := by
  unfold rdW
  rw [rdB, if_pos h, if_neg hh]
  exact ⟨fun hc => if_pos hc, fun hc => if_neg hc⟩
theorem m1_ne {k : Nat} (h : k < 2 ^ 31) : ¬ (-1 : Int32) = nI k := fun e => nI_pos h (e ▸ (by decide))
theorem rdB_end {d T made : List Int32} {due q pl : Nat} (h : d.length ≤ pl) : rdB d T due (q + 1) pl made = if made.length = due then some made else none := by
  rw [rdB, if_neg (by omega)]
theorem sub_le {a b c : Nat} (ha : a < 2 ^ 31) (hb : b < 2 ^ 30) (hc : c < 2 ^ 30) : nI a ≤ nI b - nI c ↔ a + c ≤ b := by
  rw [Int32.le_iff_toInt_le, pk_sub_toInt hb hc, nI_toInt ha]
  omega
theorem nI_neg {v : Nat} (h : 2 ^ 31 ≤ v) (h2 : v < 2 ^ 32) : nI v < 0 := by
  rw [Int32.lt_iff_toInt_lt]
  show (BitVec.ofNat 32 v).toInt < 0
  rw [BitVec.toInt_eq_toNat_cond, BitVec.toNat_ofNat, Nat.mod_eq_of_lt h2]
  split <;> omega

set_option maxHeartbeats 4000000 in
set_option maxRecDepth 100000 in
theorem zc_De_readNumber (l : Launch) (D : va_G) {r0 pl : Nat} {o a n N : Nat} {f : Nat → Int32} {cB : ClassId} (hp : pl ≤ n) (hnN : n ≤ N) (hN : N < 2 ^ 30) (sz : Nat) : zMi l D zy_De_readNumber zb_De_readNumber 5 .int ({ frames := 1, cells := 0, slots := 0, locals := 21 } : Room) [.ref r0, .ref o] [(cB, .byte)] [(r0, .inr (3, [.int (nI pl)])), (o, .inr (1, [.ref a, .int (nI n)])), (a, .inl (cB, N, .inl (f)))] sz (fun (r : Int32) (u : Nat) => ((rdN (tx f n) 4 0 pl 0 = none ∧ r = (-1)) ∨ ∃ v, rdN (tx f n) 4 0 pl 0 = some (v, u) ∧ r = nI v ∧ v < 2 ^ 28) ∧ u ≤ n) (fun u => [(r0, .inr (3, [.int (nI u)])), (o, .inr (1, [.ref a, .int (nI n)])), (a, .inl (cB, N, .inl (f)))]) := by
  refine zEi (by decide) (Nat.le_of_ble_eq_true rfl) (fun p e s m args below meth c ls A Q X hl h hsz ret => ?_)
  have hl : lv_has ls 5 [(0, .ref r0), (1, .ref o)] := hl
  generalize hH0 : s.heap = H at h ⊢
  have h : zH D A s [(r0, .inr (3, [.int (nI pl)])), (o, .inr (1, [.ref a, .int (nI n)])), (a, .inl (cB, N, .inl (f)))] H [] := h
  generalize hL0 : ([] : List Loc) = locs at h ⊢
  refine lv_iconst (v := nI 0) X.1.1 X.1.2.1 zd_De_readNumber_0 (by decide) ?_
  refine lv_istore_n X.1.1 X.1.2.1 zd_De_readNumber_1 rfl hl (by decide) rfl (fun ls hl => ?_)
  have hl : lv_has ls 5 [(2, .int (nI 0)), (0, .ref r0), (1, .ref o)] := hl
  refine lv_iconst (v := nI 0) X.1.1 X.1.2.1 zd_De_readNumber_2 (by decide) ?_
  refine lv_istore_n X.1.1 X.1.2.1 zd_De_readNumber_3 rfl hl (by decide) rfl (fun ls hl => ?_)
  have hl : lv_has ls 5 [(3, .int (nI 0)), (2, .int (nI 0)), (0, .ref r0), (1, .ref o)] := hl
  have loop : ∀ (fu : Nat) (k : Nat) (v : Nat) (p1 : Nat) (ls : Array Slot) (H : Heap) (locs : List Loc), 4 - k < fu → k ≤ 4 → v < 128 ^ k → p1 ≤ n → rdN (tx f n) 4 0 pl 0 = rdN (tx f n) (4 - k) k p1 v → lv_has ls 5 [(0, .ref r0), (1, .ref o), (2, .int (nI v)), (3, .int (nI k))] → zH D A s [(r0, .inr (3, [.int (nI p1)])), (o, .inr (1, [.ref a, .int (nI n)])), (a, .inl (cB, N, .inl (f)))] H locs → W p l e ({ frames := 1, cells := 0, slots := 0, locals := 21 } : Room) s m args below meth c H locs 0 0 Q (F0 m 4 ls []) := by
    intro fu
    induction fu with
    | zero => intro k v p1 ls H locs hfu; exact absurd hfu (Nat.not_lt_zero _)
    | succ fu ih =>
      intro k v p1 ls H locs hfu hk hv hp1 he hl h
      refine lv_iload_n X.1.1 X.1.2.1 zd_De_readNumber_4 rfl (lv_at hl 3 rfl) ?_
      refine lv_iconst (v := nI 4) X.1.1 X.1.2.1 zd_De_readNumber_5 (by decide) ?_
      refine lv_icmp_ge (tgt := 69) X.1.1 X.1.2.1 zd_De_readNumber_6 rfl (fun c1 => ?_) (fun c1 => ?_)
      · have c1 : 4 ≤ k := zc_ge_t (by omega) (by omega) c1
        rw [show 4 - k = 0 by omega] at he
        refine lv_iconst (v := (-1)) X.1.1 X.1.2.1 zd_De_readNumber_69 (by decide) ?_
        exact ret _ _ H locs ls _ (⟨Or.inl ⟨he, rfl⟩, hp1⟩) h zd_De_readNumber_70
      · have c1 : k < 4 := zc_ge_f (by omega) (by omega) c1
        refine lv_aload_n X.1.1 X.1.2.1 zd_De_readNumber_9 rfl (lv_at hl 0 rfl) ?_
        refine rG X h 0 rfl rfl zW_De 0 (by decide) zw_101 rfl zd_De_readNumber_10 ?_
        refine lv_aload_n X.1.1 X.1.2.1 zd_De_readNumber_13 rfl (lv_at hl 1 rfl) ?_
        refine rCi (wr := [(r0, .inr (3, [.int (nI p1)]))]) (wf := fun _ => [(r0, .inr (3, [.int (nI p1)])), (o, .inr (1, [.ref a, .int (nI n)])), (a, .inl (cB, N, .inl (f)))]) (rest := [.int (nI p1)]) X h hl.1 (zc_Tx_size l D (o := o) (a := a) (n := n) (N := N) (f := f) (cB := cB)  H.size) zw_410 zw_145 zw_146 zw_2 zm_Tx_size zq_Tx_size ⟨Nat.le_of_ble_eq_true rfl, Nat.le_of_ble_eq_true rfl⟩ ⟨Nat.le_of_ble_eq_true rfl, Nat.le_of_ble_eq_true rfl⟩ [0] rfl [1, 2] [0] [0, 1, 2] rfl (by decide) rfl (by decide) (by decide) (fun _ => rfl) (by decide) 0 rfl rfl rfl (Nat.le_of_ble_eq_true rfl) zd_De_readNumber_14 (fun r _ H locs hp h => ?_)
        obtain ⟨rfl, -⟩ := hp
        have h : zH D A s [(r0, .inr (3, [.int (nI p1)])), (o, .inr (1, [.ref a, .int (nI n)])), (a, .inl (cB, N, .inl (f)))] H locs := h
        refine lv_icmp_ge (tgt := 69) X.1.1 X.1.2.1 zd_De_readNumber_17 rfl (fun c2 => ?_) (fun c2 => ?_)
        · have c2 : n ≤ p1 := zc_ge_t (by omega) (by omega) c2
          rw [rdN_no c2] at he
          refine lv_iconst (v := (-1)) X.1.1 X.1.2.1 zd_De_readNumber_69 (by decide) ?_
          exact ret _ _ H locs ls _ (⟨Or.inl ⟨he, rfl⟩, hp1⟩) h zd_De_readNumber_70
        · have c2 : p1 < n := zc_ge_f (by omega) (by omega) c2
          rw [show 4 - k = (3 - k) + 1 by omega, rdN_go c2] at he
          have hub := ub_lt (f p1)
          refine lv_aload_n X.1.1 X.1.2.1 zd_De_readNumber_20 rfl (lv_at hl 1 rfl) ?_
          refine lv_aload_n X.1.1 X.1.2.1 zd_De_readNumber_21 rfl (lv_at hl 0 rfl) ?_
          refine rG X h 0 rfl rfl zW_De 0 (by decide) zw_101 rfl zd_De_readNumber_22 ?_
          refine rCi (wr := [(r0, .inr (3, [.int (nI p1)]))]) (wf := fun _ => [(r0, .inr (3, [.int (nI p1)])), (o, .inr (1, [.ref a, .int (nI n)])), (a, .inl (cB, N, .inl (f)))]) (rest := []) X h hl.1 (zc_Tx_at l D (o := o) (a := a) (n := n) (N := N) (f := f) (cB := cB) (j := p1) (by omega) (by omega) H.size) zw_411 zw_412 zw_413 zw_2 zm_Tx_at zq_Tx_at ⟨Nat.le_of_ble_eq_true rfl, Nat.le_of_ble_eq_true rfl⟩ ⟨Nat.le_of_ble_eq_true rfl, Nat.le_of_ble_eq_true rfl⟩ [0] rfl [1, 2] [0] [0, 1, 2] rfl (by decide) rfl (by decide) (by decide) (fun _ => rfl) (by decide) 0 rfl rfl rfl (Nat.le_of_ble_eq_true rfl) zd_De_readNumber_25 (fun r _ H locs hp h => ?_)
          obtain ⟨rfl, -⟩ := hp
          have h : zH D A s [(r0, .inr (3, [.int (nI p1)])), (o, .inr (1, [.ref a, .int (nI n)])), (a, .inl (cB, N, .inl (f)))] H locs := h
          have hor := rn_or (k := k) (x := ub (f p1) % 128) (by omega) hv (Nat.mod_lt _ (by decide))
          refine lv_istore X.1.1 X.1.2.1 zd_De_readNumber_28 hl (by decide) rfl (fun ls hl => ?_)
          have hl : lv_has ls 5 [(4, .int (nI (ub (f p1)))), (0, .ref r0), (1, .ref o), (2, .int (nI v)), (3, .int (nI k))] := hl
          refine lv_aload_n X.1.1 X.1.2.1 zd_De_readNumber_30 rfl (lv_at hl 1 rfl) ?_
          refine lv_dup X.1.1 X.1.2.1 zd_De_readNumber_31 rfl ?_
          refine rG X h 0 rfl rfl zW_De 0 (by decide) zw_101 rfl zd_De_readNumber_32 ?_
          refine lv_iconst (v := nI 1) X.1.1 X.1.2.1 zd_De_readNumber_35 (by decide) ?_
          refine lv_iadd X.1.1 X.1.2.1 zd_De_readNumber_36 ?_
          refine zTop (y := nI (p1 + 1)) (nI_add _ _) ?_
          refine rP X h 0 rfl rfl zW_De zO_De zN_De 0 (by decide) zw_101 rfl (rfl) (rfl) (Nat.le_of_ble_eq_true rfl) zd_De_readNumber_37 (fun H locs h => ?_)
          have h : zH D A s [(r0, .inr (3, [.int (nI (p1 + 1))])), (o, .inr (1, [.ref a, .int (nI n)])), (a, .inl (cB, N, .inl (f)))] H locs := h
          refine lv_iload_n X.1.1 X.1.2.1 zd_De_readNumber_40 rfl (lv_at hl 3 rfl) ?_
          refine lv_iload X.1.1 X.1.2.1 zd_De_readNumber_41 (lv_at hl 0 rfl) ?_
          refine lv_bipush (v := nI 127) X.1.1 X.1.2.1 zd_De_readNumber_43 (by decide) ?_
          refine lv_iand X.1.1 X.1.2.1 zd_De_readNumber_45 ?_
          refine zTop (y := nI (ub (f p1) % 128)) (and127 (by omega)) ?_
          refine lv_bipush (v := nI 7) X.1.1 X.1.2.1 zd_De_readNumber_46 (by decide) ?_
          refine lv_iload_n X.1.1 X.1.2.1 zd_De_readNumber_48 rfl (lv_at hl 4 rfl) ?_
          refine lv_imul X.1.1 X.1.2.1 zd_De_readNumber_49 ?_
          refine zTop (y := nI (7 * k)) (pk_mul _ _) ?_
          refine lv_ishl X.1.1 X.1.2.1 zd_De_readNumber_50 ?_
          refine lv_ior X.1.1 X.1.2.1 zd_De_readNumber_51 ?_
          refine zTop (y := nI (v + ub (f p1) % 128 * 128 ^ k)) (hor.1) ?_
          refine lv_istore_n X.1.1 X.1.2.1 zd_De_readNumber_52 rfl hl (by decide) rfl (fun ls hl => ?_)
          have hl : lv_has ls 5 [(2, .int (nI (v + ub (f p1) % 128 * 128 ^ k))), (4, .int (nI (ub (f p1)))), (0, .ref r0), (1, .ref o), (3, .int (nI k))] := hl
          refine lv_iload X.1.1 X.1.2.1 zd_De_readNumber_53 (lv_at hl 1 rfl) ?_
          refine lv_sipush (v := nI 128) X.1.1 X.1.2.1 zd_De_readNumber_55 (by decide) ?_
          refine lv_icmp_ge (tgt := 63) X.1.1 X.1.2.1 zd_De_readNumber_58 rfl (fun c3 => ?_) (fun c3 => ?_)
          · have c3 : 128 ≤ ub (f p1) := zc_ge_t (by omega) (by omega) c3
            rw [if_neg (by omega), show ub (f p1) - 128 = ub (f p1) % 128 by omega, show 3 - k = 4 - (k + 1) by omega] at he
            refine lv_iinc X.1.1 X.1.2.1 zd_De_readNumber_63 hl (k := 4) rfl (v := nI (k + 1)) (nI_add _ _) (by decide) rfl (fun ls hl => ?_)
            have hl : lv_has ls 5 [(3, .int (nI (k + 1))), (2, .int (nI (v + ub (f p1) % 128 * 128 ^ k))), (4, .int (nI (ub (f p1)))), (0, .ref r0), (1, .ref o)] := hl
            refine lv_goto (tgt := 4) X.1.1 X.1.2.1 zd_De_readNumber_66 rfl ?_
            exact ih (k + 1) (v + ub (f p1) % 128 * 128 ^ k) (p1 + 1) ls H locs (by omega) (by omega) (hor.2) (by omega) (he) (lv_sub hl [3, 4, 1, 0] rfl) h
          · have c3 : ub (f p1) < 128 := zc_ge_f (by omega) (by omega) c3
            rw [if_pos (by omega), show ub (f p1) * 128 ^ k = ub (f p1) % 128 * 128 ^ k by rw [Nat.mod_eq_of_lt (by omega)]] at he
            have hbig := p128 (k := k + 1) (by omega)
            refine lv_iload_n X.1.1 X.1.2.1 zd_De_readNumber_61 rfl (lv_at hl 0 rfl) ?_
            exact ret _ _ H locs ls _ (⟨Or.inr ⟨_, he, rfl, Nat.lt_of_lt_of_le hor.2 hbig⟩, by omega⟩) h zd_De_readNumber_62
  exact loop _ 0 0 pl ls H locs (Nat.lt_succ_self _) (by omega) (by decide) (hp) (rfl) (lv_sub hl [2, 3, 1, 0] rfl) h

set_option maxHeartbeats 4000000 in
set_option maxRecDepth 100000 in
theorem zc_De_readChosenBytes (l : Launch) (D : va_G) {r0 pl : Nat} {o a n N : Nat} {f : Nat → Int32} {cB : ClassId} {b q : Nat} (hp : pl ≤ n) (hnN : n ≤ N) (hN : N < 2 ^ 30) (hb : b < 256) (hq : q ≤ 4) (sz : Nat) : zMi l D zy_De_readChosenBytes zb_De_readChosenBytes 6 .int ({ frames := 1, cells := 0, slots := 0, locals := 21 } : Room) [.ref r0, .ref o, .int (nI b), .int (nI q)] [(cB, .byte)] [(r0, .inr (3, [.int (nI pl)])), (o, .inr (1, [.ref a, .int (nI n)])), (a, .inl (cB, N, .inl (f)))] sz (fun (r : Int32) (u : Nat) => ((rdC (tx f n) b q 0 pl 0 = none ∧ r = (-1)) ∨ ∃ v, rdC (tx f n) b q 0 pl 0 = some (v, u) ∧ r = nI v ∧ v < 256 ^ q) ∧ u ≤ n) (fun u => [(r0, .inr (3, [.int (nI u)])), (o, .inr (1, [.ref a, .int (nI n)])), (a, .inl (cB, N, .inl (f)))]) := by
  refine zEi (by decide) (Nat.le_of_ble_eq_true rfl) (fun p e s m args below meth c ls A Q X hl h hsz ret => ?_)
  have hl : lv_has ls 6 [(0, .ref r0), (1, .ref o), (2, .int (nI b)), (3, .int (nI q))] := hl
  generalize hH0 : s.heap = H at h ⊢
  have h : zH D A s [(r0, .inr (3, [.int (nI pl)])), (o, .inr (1, [.ref a, .int (nI n)])), (a, .inl (cB, N, .inl (f)))] H [] := h
  generalize hL0 : ([] : List Loc) = locs at h ⊢
  refine lv_iconst (v := nI 0) X.1.1 X.1.2.1 zd_De_readChosenBytes_0 (by decide) ?_
  refine lv_istore X.1.1 X.1.2.1 zd_De_readChosenBytes_1 hl (by decide) rfl (fun ls hl => ?_)
  have hl : lv_has ls 6 [(4, .int (nI 0)), (0, .ref r0), (1, .ref o), (2, .int (nI b)), (3, .int (nI q))] := hl
  refine lv_iconst (v := nI 0) X.1.1 X.1.2.1 zd_De_readChosenBytes_3 (by decide) ?_
  refine lv_istore X.1.1 X.1.2.1 zd_De_readChosenBytes_4 hl (by decide) rfl (fun ls hl => ?_)
  have hl : lv_has ls 6 [(5, .int (nI 0)), (4, .int (nI 0)), (0, .ref r0), (1, .ref o), (2, .int (nI b)), (3, .int (nI q))] := hl
  have loop : ∀ (fu : Nat) (k : Nat) (v : Nat) (p1 : Nat) (ls : Array Slot) (H : Heap) (locs : List Loc), q - k < fu → k ≤ q → v < 256 ^ k → p1 ≤ n → rdC (tx f n) b q 0 pl 0 = rdC (tx f n) b (q - k) k p1 v → lv_has ls 6 [(0, .ref r0), (1, .ref o), (2, .int (nI b)), (3, .int (nI q)), (4, .int (nI v)), (5, .int (nI k))] → zH D A s [(r0, .inr (3, [.int (nI p1)])), (o, .inr (1, [.ref a, .int (nI n)])), (a, .inl (cB, N, .inl (f)))] H locs → W p l e ({ frames := 1, cells := 0, slots := 0, locals := 21 } : Room) s m args below meth c H locs 0 0 Q (F0 m 6 ls []) := by
    intro fu
    induction fu with
    | zero => intro k v p1 ls H locs hfu; exact absurd hfu (Nat.not_lt_zero _)
    | succ fu ih =>
      intro k v p1 ls H locs hfu hk hv hp1 he hl h
      have hbig := p256 (k := k) (by omega)
      refine lv_iload X.1.1 X.1.2.1 zd_De_readChosenBytes_6 (lv_at hl 5 rfl) ?_
      refine lv_iload_n X.1.1 X.1.2.1 zd_De_readChosenBytes_8 rfl (lv_at hl 3 rfl) ?_
      refine lv_icmp_ge (tgt := 70) X.1.1 X.1.2.1 zd_De_readChosenBytes_9 rfl (fun c1 => ?_) (fun c1 => ?_)
      · have c1 : q ≤ k := zc_ge_t (by omega) (by omega) c1
        have ek : k = q := by omega
        rw [show q - k = 0 by omega] at he
        rw [ek] at hv
        refine lv_iload X.1.1 X.1.2.1 zd_De_readChosenBytes_70 (lv_at hl 4 rfl) ?_
        exact ret _ p1 H locs ls _ (⟨Or.inr ⟨v, he, rfl, hv⟩, hp1⟩) h zd_De_readChosenBytes_72
      · have c1 : k < q := zc_ge_f (by omega) (by omega) c1
        rw [show q - k = (q - (k + 1)) + 1 by omega] at he
        have hdb : b / 2 ^ k < 2 ^ 32 := Nat.lt_of_le_of_lt (Nat.div_le_self _ _) (by omega)
        refine lv_iload_n X.1.1 X.1.2.1 zd_De_readChosenBytes_12 rfl (lv_at hl 2 rfl) ?_
        refine lv_iload X.1.1 X.1.2.1 zd_De_readChosenBytes_13 (lv_at hl 5 rfl) ?_
        refine lv_iushr (v := nI (b / 2 ^ k)) X.1.1 X.1.2.1 zd_De_readChosenBytes_15 ((ush_eq _ (by omega)).trans (ush_nI (by omega))) ?_
        refine lv_iconst (v := nI 1) X.1.1 X.1.2.1 zd_De_readChosenBytes_16 (by decide) ?_
        refine lv_iand X.1.1 X.1.2.1 zd_De_readChosenBytes_17 ?_
        refine zTop (y := nI (b / 2 ^ k % 2)) (and1 hdb) ?_
        refine lv_iconst (v := nI 1) X.1.1 X.1.2.1 zd_De_readChosenBytes_18 (by decide) ?_
        refine lv_icmp_ne (tgt := 64) X.1.1 X.1.2.1 zd_De_readChosenBytes_19 rfl (fun c2 => ?_) (fun c2 => ?_)
        · have c2 : b / 2 ^ k % 2 ≠ 1 := zc_ne_t (by omega) (by omega) c2
          rw [rdC_0 c2] at he
          have hv : v < 256 ^ (k + 1) := Nat.lt_of_lt_of_le hv (Nat.pow_le_pow_right (by decide) (Nat.le_succ k))
          refine lv_iinc X.1.1 X.1.2.1 zd_De_readChosenBytes_64 hl (k := 5) rfl (v := nI (k + 1)) (nI_add _ _) (by decide) rfl (fun ls hl => ?_)
          have hl : lv_has ls 6 [(5, .int (nI (k + 1))), (0, .ref r0), (1, .ref o), (2, .int (nI b)), (3, .int (nI q)), (4, .int (nI v))] := hl
          refine lv_goto (tgt := 6) X.1.1 X.1.2.1 zd_De_readChosenBytes_67 rfl ?_
          exact ih (k + 1) v p1 ls H locs (by omega) (by omega) (hv) (hp1) (he) (lv_sub hl [1, 2, 3, 4, 5, 0] rfl) h
        · have c2 : b / 2 ^ k % 2 = 1 := zc_ne_f (by omega) (by omega) c2
          rw [rdC_1 c2] at he
          refine lv_aload_n X.1.1 X.1.2.1 zd_De_readChosenBytes_22 rfl (lv_at hl 0 rfl) ?_
          refine rG X h 0 rfl rfl zW_De 0 (by decide) zw_101 rfl zd_De_readChosenBytes_23 ?_
          refine lv_aload_n X.1.1 X.1.2.1 zd_De_readChosenBytes_26 rfl (lv_at hl 1 rfl) ?_
          refine rCi (wr := [(r0, .inr (3, [.int (nI p1)]))]) (wf := fun _ => [(r0, .inr (3, [.int (nI p1)])), (o, .inr (1, [.ref a, .int (nI n)])), (a, .inl (cB, N, .inl (f)))]) (rest := [.int (nI p1)]) X h hl.1 (zc_Tx_size l D (o := o) (a := a) (n := n) (N := N) (f := f) (cB := cB)  H.size) zw_410 zw_145 zw_146 zw_2 zm_Tx_size zq_Tx_size ⟨Nat.le_of_ble_eq_true rfl, Nat.le_of_ble_eq_true rfl⟩ ⟨Nat.le_of_ble_eq_true rfl, Nat.le_of_ble_eq_true rfl⟩ [0] rfl [1, 2] [0] [0, 1, 2] rfl (by decide) rfl (by decide) (by decide) (fun _ => rfl) (by decide) 0 rfl rfl rfl (Nat.le_of_ble_eq_true rfl) zd_De_readChosenBytes_27 (fun r _ H locs hp h => ?_)
          obtain ⟨rfl, -⟩ := hp
          have h : zH D A s [(r0, .inr (3, [.int (nI p1)])), (o, .inr (1, [.ref a, .int (nI n)])), (a, .inl (cB, N, .inl (f)))] H locs := h
          refine lv_icmp_lt (tgt := 35) X.1.1 X.1.2.1 zd_De_readChosenBytes_30 rfl (fun c3 => ?_) (fun c3 => ?_)
          · have c3 : p1 < n := zc_lt_t (by omega) (by omega) c3
            rw [if_pos c3] at he
            have hor := rc_or (k := k) (x := ub (f p1)) (by omega) hv (ub_lt _)
            refine lv_iload X.1.1 X.1.2.1 zd_De_readChosenBytes_35 (lv_at hl 4 rfl) ?_
            refine lv_aload_n X.1.1 X.1.2.1 zd_De_readChosenBytes_37 rfl (lv_at hl 1 rfl) ?_
            refine lv_aload_n X.1.1 X.1.2.1 zd_De_readChosenBytes_38 rfl (lv_at hl 0 rfl) ?_
            refine rG X h 0 rfl rfl zW_De 0 (by decide) zw_101 rfl zd_De_readChosenBytes_39 ?_
            refine rCi (wr := [(r0, .inr (3, [.int (nI p1)]))]) (wf := fun _ => [(r0, .inr (3, [.int (nI p1)])), (o, .inr (1, [.ref a, .int (nI n)])), (a, .inl (cB, N, .inl (f)))]) (rest := [.int (nI v)]) X h hl.1 (zc_Tx_at l D (o := o) (a := a) (n := n) (N := N) (f := f) (cB := cB) (j := p1) (by omega) (by omega) H.size) zw_411 zw_412 zw_413 zw_2 zm_Tx_at zq_Tx_at ⟨Nat.le_of_ble_eq_true rfl, Nat.le_of_ble_eq_true rfl⟩ ⟨Nat.le_of_ble_eq_true rfl, Nat.le_of_ble_eq_true rfl⟩ [0] rfl [1, 2] [0] [0, 1, 2] rfl (by decide) rfl (by decide) (by decide) (fun _ => rfl) (by decide) 0 rfl rfl rfl (Nat.le_of_ble_eq_true rfl) zd_De_readChosenBytes_42 (fun r _ H locs hp h => ?_)
            obtain ⟨rfl, -⟩ := hp
            have h : zH D A s [(r0, .inr (3, [.int (nI p1)])), (o, .inr (1, [.ref a, .int (nI n)])), (a, .inl (cB, N, .inl (f)))] H locs := h
            refine lv_bipush (v := nI 8) X.1.1 X.1.2.1 zd_De_readChosenBytes_45 (by decide) ?_
            refine lv_iload X.1.1 X.1.2.1 zd_De_readChosenBytes_47 (lv_at hl 5 rfl) ?_
            refine lv_imul X.1.1 X.1.2.1 zd_De_readChosenBytes_49 ?_
            refine zTop (y := nI (8 * k)) (pk_mul _ _) ?_
            refine lv_ishl X.1.1 X.1.2.1 zd_De_readChosenBytes_50 ?_
            refine lv_ior X.1.1 X.1.2.1 zd_De_readChosenBytes_51 ?_
            refine zTop (y := nI (v + ub (f p1) * 256 ^ k)) (hor.1) ?_
            refine lv_istore X.1.1 X.1.2.1 zd_De_readChosenBytes_52 hl (by decide) rfl (fun ls hl => ?_)
            have hl : lv_has ls 6 [(4, .int (nI (v + ub (f p1) * 256 ^ k))), (0, .ref r0), (1, .ref o), (2, .int (nI b)), (3, .int (nI q)), (5, .int (nI k))] := hl
            refine lv_aload_n X.1.1 X.1.2.1 zd_De_readChosenBytes_54 rfl (lv_at hl 1 rfl) ?_
            refine lv_dup X.1.1 X.1.2.1 zd_De_readChosenBytes_55 rfl ?_
            refine rG X h 0 rfl rfl zW_De 0 (by decide) zw_101 rfl zd_De_readChosenBytes_56 ?_
            refine lv_iconst (v := nI 1) X.1.1 X.1.2.1 zd_De_readChosenBytes_59 (by decide) ?_
            refine lv_iadd X.1.1 X.1.2.1 zd_De_readChosenBytes_60 ?_
            refine zTop (y := nI (p1 + 1)) (nI_add _ _) ?_
            refine rP X h 0 rfl rfl zW_De zO_De zN_De 0 (by decide) zw_101 rfl (rfl) (rfl) (Nat.le_of_ble_eq_true rfl) zd_De_readChosenBytes_61 (fun H locs h => ?_)
            have h : zH D A s [(r0, .inr (3, [.int (nI (p1 + 1))])), (o, .inr (1, [.ref a, .int (nI n)])), (a, .inl (cB, N, .inl (f)))] H locs := h
            refine lv_iinc X.1.1 X.1.2.1 zd_De_readChosenBytes_64 hl (k := 5) rfl (v := nI (k + 1)) (nI_add _ _) (by decide) rfl (fun ls hl => ?_)
            have hl : lv_has ls 6 [(5, .int (nI (k + 1))), (4, .int (nI (v + ub (f p1) * 256 ^ k))), (0, .ref r0), (1, .ref o), (2, .int (nI b)), (3, .int (nI q))] := hl
            refine lv_goto (tgt := 6) X.1.1 X.1.2.1 zd_De_readChosenBytes_67 rfl ?_
            exact ih (k + 1) (v + ub (f p1) * 256 ^ k) (p1 + 1) ls H locs (by omega) (by omega) (hor.2) (by omega) (he) (lv_sub hl [2, 3, 4, 5, 1, 0] rfl) h
          · have c3 : n ≤ p1 := zc_lt_f (by omega) (by omega) c3
            rw [if_neg (by omega)] at he
            refine lv_iconst (v := (-1)) X.1.1 X.1.2.1 zd_De_readChosenBytes_33 (by decide) ?_
            exact ret _ p1 H locs ls _ (⟨Or.inl ⟨he, rfl⟩, hp1⟩) h zd_De_readChosenBytes_34
  exact loop _ 0 0 pl ls H locs (Nat.lt_succ_self _) (by omega) (by decide) (hp) (rfl) (lv_sub hl [2, 3, 4, 5, 1, 0] rfl) h

set_option maxHeartbeats 4000000 in
set_option maxRecDepth 100000 in
theorem zc_De_isNewRead (l : Launch) (D : va_G) {r0 pl : Nat} {o a n N : Nat} {f : Nat → Int32} {cB : ClassId} {o3 a3 n3 N3 : Nat} {f3 : Nat → Int32} {cB3 : ClassId} {b due : Nat} (hp : pl ≤ n) (hnN : n ≤ N) (hN : N < 2 ^ 30) (hf : sb_Fit f) (h3 : n3 ≤ due) (hdue : due ≤ N3) (hN3 : N3 < 2 ^ 30) (hf3 : sb_Fit f3) (hb : b < 256) (sz : Nat) : zMi l D zy_De_isNewRead zb_De_isNewRead 5 .boolean ({ frames := 2, cells := 0, slots := 0, locals := 47 } : Room) [.ref r0, .ref o, .int (nI b), .ref o3, .int (nI due)] [(cB, .byte), (cB3, .byte)] [(r0, .inr (3, [.int (nI pl)])), (o, .inr (1, [.ref a, .int (nI n)])), (a, .inl (cB, N, .inl (f))), (o3, .inr (1, [.ref a3, .int (nI n3)])), (a3, .inl (cB3, N3, .inl (f3)))] sz (fun (r : Int32) (u : Nat × Nat × (Nat → Int32)) => ((r = 0 ∧ rdW n due b pl n3) ∨ (r = 1 ∧ ¬ rdW n due b pl n3 ∧ u.1 = pl + b ∧ tx u.2.2 u.2.1 = tx f3 n3 ++ (((tx f n)).drop pl).take b)) ∧ u.1 ≤ n ∧ u.2.1 ≤ due ∧ sb_Fit u.2.2) (fun u => [(r0, .inr (3, [.int (nI u.1)])), (o, .inr (1, [.ref a, .int (nI n)])), (a, .inl (cB, N, .inl (f))), (o3, .inr (1, [.ref a3, .int (nI u.2.1)])), (a3, .inl (cB3, N3, .inl (u.2.2)))]) := by
  refine zEz (by decide) (Nat.le_of_ble_eq_true rfl) (fun p e s m args below meth c ls A Q X hl h hsz ret => ?_)
  have hl : lv_has ls 5 [(0, .ref r0), (1, .ref o), (2, .int (nI b)), (3, .ref o3), (4, .int (nI due))] := hl
  generalize hH0 : s.heap = H at h ⊢
  have h : zH D A s [(r0, .inr (3, [.int (nI pl)])), (o, .inr (1, [.ref a, .int (nI n)])), (a, .inl (cB, N, .inl (f))), (o3, .inr (1, [.ref a3, .int (nI n3)])), (a3, .inl (cB3, N3, .inl (f3)))] H [] := h
  generalize hL0 : ([] : List Loc) = locs at h ⊢
  refine lv_iload_n X.1.1 X.1.2.1 zd_De_isNewRead_0 rfl (lv_at hl 2 rfl) ?_
  refine lv_if_eq (tgt := 28) X.1.1 X.1.2.1 zd_De_isNewRead_1 rfl (fun c1 => ?_) (fun c1 => ?_)
  · have c1 : b = 0 := zc_eq0_t (by omega) (by omega) c1
    refine lv_iconst (v := nI 0) X.1.1 X.1.2.1 zd_De_isNewRead_28 (by decide) ?_
    exact ret _ (pl, n3, f3) H locs ls _ (rfl) (⟨Or.inl ⟨rfl, Or.inl c1⟩, hp, h3, hf3⟩) h zd_De_isNewRead_29
  · have c1 : b ≠ 0 := zc_eq0_f (by omega) (by omega) c1
    refine lv_iload_n X.1.1 X.1.2.1 zd_De_isNewRead_4 rfl (lv_at hl 2 rfl) ?_
    refine lv_aload_n X.1.1 X.1.2.1 zd_De_isNewRead_5 rfl (lv_at hl 1 rfl) ?_
    refine rCi (wr := [(r0, .inr (3, [.int (nI pl)])), (o3, .inr (1, [.ref a3, .int (nI n3)])), (a3, .inl (cB3, N3, .inl (f3)))]) (wf := fun _ => [(r0, .inr (3, [.int (nI pl)])), (o, .inr (1, [.ref a, .int (nI n)])), (a, .inl (cB, N, .inl (f))), (o3, .inr (1, [.ref a3, .int (nI n3)])), (a3, .inl (cB3, N3, .inl (f3)))]) (rest := [.int (nI b)]) X h hl.1 (zc_Tx_size l D (o := o) (a := a) (n := n) (N := N) (f := f) (cB := cB)  H.size) zw_410 zw_145 zw_146 zw_2 zm_Tx_size zq_Tx_size ⟨Nat.le_of_ble_eq_true rfl, Nat.le_of_ble_eq_true rfl⟩ ⟨Nat.le_of_ble_eq_true rfl, Nat.le_of_ble_eq_true rfl⟩ [0] rfl [1, 2] [0, 3, 4] [0, 3, 4, 1, 2] rfl (by decide) rfl (by decide) (by decide) (fun _ => rfl) (by decide) 0 rfl rfl rfl (Nat.le_of_ble_eq_true rfl) zd_De_isNewRead_6 (fun r _ H locs hp h => ?_)
    obtain ⟨rfl, -⟩ := hp
    have h : zH D A s [(r0, .inr (3, [.int (nI pl)])), (o, .inr (1, [.ref a, .int (nI n)])), (a, .inl (cB, N, .inl (f))), (o3, .inr (1, [.ref a3, .int (nI n3)])), (a3, .inl (cB3, N3, .inl (f3)))] H locs := h
    refine lv_aload_n X.1.1 X.1.2.1 zd_De_isNewRead_9 rfl (lv_at hl 0 rfl) ?_
    refine rG X h 0 rfl rfl zW_De 0 (by decide) zw_101 rfl zd_De_isNewRead_10 ?_
    refine lv_isub X.1.1 X.1.2.1 zd_De_isNewRead_13 ?_
    refine zTop (y := nI (n - pl)) (pk_sub (by omega)) ?_
    refine lv_icmp_gt (tgt := 28) X.1.1 X.1.2.1 zd_De_isNewRead_14 rfl (fun c2 => ?_) (fun c2 => ?_)
    · have c2 : n - pl < b := zc_gt_t (by omega) (by omega) c2
      refine lv_iconst (v := nI 0) X.1.1 X.1.2.1 zd_De_isNewRead_28 (by decide) ?_
      exact ret _ (pl, n3, f3) H locs ls _ (rfl) (⟨Or.inl ⟨rfl, Or.inr (Or.inl (by omega))⟩, hp, h3, hf3⟩) h zd_De_isNewRead_29
    · have c2 : b ≤ n - pl := zc_gt_f (by omega) (by omega) c2
      refine lv_iload_n X.1.1 X.1.2.1 zd_De_isNewRead_17 rfl (lv_at hl 2 rfl) ?_
      refine lv_iload X.1.1 X.1.2.1 zd_De_isNewRead_18 (lv_at hl 4 rfl) ?_
      refine lv_aload_n X.1.1 X.1.2.1 zd_De_isNewRead_20 rfl (lv_at hl 3 rfl) ?_
      refine rCi (wr := [(r0, .inr (3, [.int (nI pl)])), (o, .inr (1, [.ref a, .int (nI n)])), (a, .inl (cB, N, .inl (f)))]) (wf := fun _ => [(r0, .inr (3, [.int (nI pl)])), (o, .inr (1, [.ref a, .int (nI n)])), (a, .inl (cB, N, .inl (f))), (o3, .inr (1, [.ref a3, .int (nI n3)])), (a3, .inl (cB3, N3, .inl (f3)))]) (rest := [.int (nI due), .int (nI b)]) X h hl.1 (zc_Tx_size l D (o := o3) (a := a3) (n := n3) (N := N3) (f := f3) (cB := cB3)  H.size) zw_410 zw_145 zw_146 zw_2 zm_Tx_size zq_Tx_size ⟨Nat.le_of_ble_eq_true rfl, Nat.le_of_ble_eq_true rfl⟩ ⟨Nat.le_of_ble_eq_true rfl, Nat.le_of_ble_eq_true rfl⟩ [1] rfl [3, 4] [0, 1, 2] [0, 1, 2, 3, 4] rfl (by decide) rfl (by decide) (by decide) (fun _ => rfl) (by decide) 0 rfl rfl rfl (Nat.le_of_ble_eq_true rfl) zd_De_isNewRead_21 (fun r _ H locs hp h => ?_)
      obtain ⟨rfl, -⟩ := hp
      have h : zH D A s [(r0, .inr (3, [.int (nI pl)])), (o, .inr (1, [.ref a, .int (nI n)])), (a, .inl (cB, N, .inl (f))), (o3, .inr (1, [.ref a3, .int (nI n3)])), (a3, .inl (cB3, N3, .inl (f3)))] H locs := h
      refine lv_isub X.1.1 X.1.2.1 zd_De_isNewRead_24 ?_
      refine zTop (y := nI (due - n3)) (pk_sub (by omega)) ?_
      refine lv_icmp_le (tgt := 30) X.1.1 X.1.2.1 zd_De_isNewRead_25 rfl (fun c3 => ?_) (fun c3 => ?_)
      · have c3 : b ≤ due - n3 := zc_le_t (by omega) (by omega) c3
        refine lv_aload_n X.1.1 X.1.2.1 zd_De_isNewRead_30 rfl (lv_at hl 3 rfl) ?_
        refine lv_aload_n X.1.1 X.1.2.1 zd_De_isNewRead_31 rfl (lv_at hl 1 rfl) ?_
        refine lv_aload_n X.1.1 X.1.2.1 zd_De_isNewRead_32 rfl (lv_at hl 0 rfl) ?_
        refine rG X h 0 rfl rfl zW_De 0 (by decide) zw_101 rfl zd_De_isNewRead_33 ?_
        refine lv_iload_n X.1.1 X.1.2.1 zd_De_isNewRead_36 rfl (lv_at hl 2 rfl) ?_
        refine rCv (wr := [(r0, .inr (3, [.int (nI pl)]))]) (wf := fun _ => [(r0, .inr (3, [.int (nI pl)])), (o, .inr (1, [.ref a, .int (nI n)])), (a, .inl (cB, N, .inl (f))), (o3, .inr (1, [.ref a3, .int (nI (n3 + b))])), (a3, .inl (cB3, N3, .inl (va_cpy f f3 pl n3 b)))]) (rest := []) X h hl.1 (zc_Tx_addPart l D (o := o3) (a := a3) (n := n3) (N := N3) (f := f3) (cB := cB3) (o2 := o) (a2 := a) (n2 := n) (N2 := N) (f2 := f) (cB2 := cB) (q := pl) (k := b) (hf) (by omega) (by omega) (by omega) (by omega) H.size) zw_424 zw_246 zw_247 zw_2 zm_Tx_addPart zq_Tx_addPart ⟨Nat.le_of_ble_eq_true rfl, Nat.le_of_ble_eq_true rfl⟩ ⟨Nat.le_of_ble_eq_true rfl, Nat.le_of_ble_eq_true rfl⟩ [1, 0] rfl [3, 4, 1, 2] [0] [0, 3, 4, 1, 2] rfl (by decide) rfl (by decide) (by decide) (fun _ => rfl) (by decide) 0 rfl rfl rfl (Nat.le_of_ble_eq_true rfl) zd_De_isNewRead_37 (fun _ H locs hp h => ?_)
        have h : zH D A s [(r0, .inr (3, [.int (nI pl)])), (o, .inr (1, [.ref a, .int (nI n)])), (a, .inl (cB, N, .inl (f))), (o3, .inr (1, [.ref a3, .int (nI (n3 + b))])), (a3, .inl (cB3, N3, .inl (va_cpy f f3 pl n3 b)))] H locs := h
        refine lv_aload_n X.1.1 X.1.2.1 zd_De_isNewRead_40 rfl (lv_at hl 0 rfl) ?_
        refine lv_dup X.1.1 X.1.2.1 zd_De_isNewRead_41 rfl ?_
        refine rG X h 0 rfl rfl zW_De 0 (by decide) zw_101 rfl zd_De_isNewRead_42 ?_
        refine lv_iload_n X.1.1 X.1.2.1 zd_De_isNewRead_45 rfl (lv_at hl 2 rfl) ?_
        refine lv_iadd X.1.1 X.1.2.1 zd_De_isNewRead_46 ?_
        refine zTop (y := nI (pl + b)) (nI_add _ _) ?_
        refine rP X h 0 rfl rfl zW_De zO_De zN_De 0 (by decide) zw_101 rfl (rfl) (rfl) (Nat.le_of_ble_eq_true rfl) zd_De_isNewRead_47 (fun H locs h => ?_)
        have h : zH D A s [(r0, .inr (3, [.int (nI (pl + b))])), (o, .inr (1, [.ref a, .int (nI n)])), (a, .inl (cB, N, .inl (f))), (o3, .inr (1, [.ref a3, .int (nI (n3 + b))])), (a3, .inl (cB3, N3, .inl (va_cpy f f3 pl n3 b)))] H locs := h
        refine lv_iconst (v := nI 1) X.1.1 X.1.2.1 zd_De_isNewRead_50 (by decide) ?_
        exact ret _ (pl + b, n3 + b, va_cpy f f3 pl n3 b) H locs ls _ (rfl) (⟨Or.inr ⟨rfl, by unfold rdW; omega, rfl, by rw [tx_cpy, tx_part f (m := n) (by omega)]⟩, by show pl + b ≤ n; omega, by show n3 + b ≤ due; omega, sb_fitC hf hf3⟩) h zd_De_isNewRead_51
      · have c3 : due - n3 < b := zc_le_f (by omega) (by omega) c3
        refine lv_iconst (v := nI 0) X.1.1 X.1.2.1 zd_De_isNewRead_28 (by decide) ?_
        exact ret _ (pl, n3, f3) H locs ls _ (rfl) (⟨Or.inl ⟨rfl, Or.inr (Or.inr (by omega))⟩, hp, h3, hf3⟩) h zd_De_isNewRead_29

set_option maxHeartbeats 4000000 in
set_option maxRecDepth 100000 in
theorem zc_De_isCopyRead (l : Launch) (D : va_G) {r0 pl : Nat} {o a n N : Nat} {f : Nat → Int32} {cB : ClassId} {o2 a2 n2 N2 : Nat} {f2 : Nat → Int32} {cB2 : ClassId} {o3 a3 n3 N3 : Nat} {f3 : Nat → Int32} {cB3 : ClassId} {b due : Nat} (hp : pl ≤ n) (hnN : n ≤ N) (hN : N < 2 ^ 30) (h2 : n2 ≤ N2) (hN2 : N2 < 2 ^ 30) (hf2 : sb_Fit f2) (h3 : n3 ≤ due) (hdue : due ≤ N3) (hN3 : N3 < 2 ^ 30) (hf3 : sb_Fit f3) (hb : b < 256) (sz : Nat) : zMi l D zy_De_isCopyRead zb_De_isCopyRead 8 .boolean ({ frames := 2, cells := 0, slots := 0, locals := 47 } : Room) [.ref r0, .ref o, .int (nI b), .ref o2, .ref o3, .int (nI due)] [(cB, .byte), (cB2, .byte), (cB3, .byte)] [(r0, .inr (3, [.int (nI pl)])), (o, .inr (1, [.ref a, .int (nI n)])), (a, .inl (cB, N, .inl (f))), (o2, .inr (1, [.ref a2, .int (nI n2)])), (a2, .inl (cB2, N2, .inl (f2))), (o3, .inr (1, [.ref a3, .int (nI n3)])), (a3, .inl (cB3, N3, .inl (f3)))] sz (fun (r : Int32) (u : Nat × Nat × (Nat → Int32)) => ((r = 0 ∧ rdK (tx f n) (tx f2 n2) due b pl n3 = none) ∨ (r = 1 ∧ ∃ fr mn, rdK (tx f n) (tx f2 n2) due b pl n3 = some (u.1, fr, mn) ∧ tx u.2.2 u.2.1 = tx f3 n3 ++ (((tx f2 n2)).drop fr).take mn)) ∧ u.1 ≤ n ∧ u.2.1 ≤ due ∧ sb_Fit u.2.2) (fun u => [(r0, .inr (3, [.int (nI u.1)])), (o, .inr (1, [.ref a, .int (nI n)])), (a, .inl (cB, N, .inl (f))), (o2, .inr (1, [.ref a2, .int (nI n2)])), (a2, .inl (cB2, N2, .inl (f2))), (o3, .inr (1, [.ref a3, .int (nI u.2.1)])), (a3, .inl (cB3, N3, .inl (u.2.2)))]) := by
  refine zEz (by decide) (Nat.le_of_ble_eq_true rfl) (fun p e s m args below meth c ls A Q X hl h hsz ret => ?_)
  have hl : lv_has ls 8 [(0, .ref r0), (1, .ref o), (2, .int (nI b)), (3, .ref o2), (4, .ref o3), (5, .int (nI due))] := hl
  generalize hH0 : s.heap = H at h ⊢
  have h : zH D A s [(r0, .inr (3, [.int (nI pl)])), (o, .inr (1, [.ref a, .int (nI n)])), (a, .inl (cB, N, .inl (f))), (o2, .inr (1, [.ref a2, .int (nI n2)])), (a2, .inl (cB2, N2, .inl (f2))), (o3, .inr (1, [.ref a3, .int (nI n3)])), (a3, .inl (cB3, N3, .inl (f3)))] H [] := h
  generalize hL0 : ([] : List Loc) = locs at h ⊢
  refine lv_aload_n X.1.1 X.1.2.1 zd_De_isCopyRead_0 rfl (lv_at hl 0 rfl) ?_
  refine lv_aload_n X.1.1 X.1.2.1 zd_De_isCopyRead_1 rfl (lv_at hl 1 rfl) ?_
  refine lv_iload_n X.1.1 X.1.2.1 zd_De_isCopyRead_2 rfl (lv_at hl 2 rfl) ?_
  refine lv_iconst (v := nI 4) X.1.1 X.1.2.1 zd_De_isCopyRead_3 (by decide) ?_
  refine rCi (wr := [(o2, .inr (1, [.ref a2, .int (nI n2)])), (a2, .inl (cB2, N2, .inl (f2))), (o3, .inr (1, [.ref a3, .int (nI n3)])), (a3, .inl (cB3, N3, .inl (f3)))]) (wf := fun u1 => [(r0, .inr (3, [.int (nI u1)])), (o, .inr (1, [.ref a, .int (nI n)])), (a, .inl (cB, N, .inl (f))), (o2, .inr (1, [.ref a2, .int (nI n2)])), (a2, .inl (cB2, N2, .inl (f2))), (o3, .inr (1, [.ref a3, .int (nI n3)])), (a3, .inl (cB3, N3, .inl (f3)))]) (rest := []) X h hl.1 (zc_De_readChosenBytes l D (r0 := r0) (pl := pl) (o := o) (a := a) (n := n) (N := N) (f := f) (cB := cB) (b := b) (q := 4) (hp) (hnN) (hN) (hb) (by decide) H.size) zw_420 zw_422 zs_15 zw_4 zm_De_readChosenBytes zq_De_readChosenBytes ⟨Nat.le_of_ble_eq_true rfl, Nat.le_of_ble_eq_true rfl⟩ ⟨Nat.le_of_ble_eq_true rfl, Nat.le_of_ble_eq_true rfl⟩ [0] rfl [0, 1, 2] [3, 4, 5, 6] [4, 5, 6, 0, 1, 2, 3] rfl (by decide) rfl (by decide) (by decide) (fun _ => rfl) (by decide) 0 rfl rfl rfl (Nat.le_of_ble_eq_true rfl) zd_De_isCopyRead_4 (fun r u1 H locs hp h => ?_)
  have q1 : ((rdC (tx f n) b 4 0 pl 0 = none ∧ r = (-1)) ∨ ∃ v, rdC (tx f n) b 4 0 pl 0 = some (v, u1) ∧ r = nI v ∧ v < 256 ^ 4) ∧ u1 ≤ n := hp
  have h : zH D A s [(r0, .inr (3, [.int (nI u1)])), (o, .inr (1, [.ref a, .int (nI n)])), (a, .inl (cB, N, .inl (f))), (o2, .inr (1, [.ref a2, .int (nI n2)])), (a2, .inl (cB2, N2, .inl (f2))), (o3, .inr (1, [.ref a3, .int (nI n3)])), (a3, .inl (cB3, N3, .inl (f3)))] H locs := h
  obtain ⟨q1, hu1⟩ := q1
  generalize er1 : r = r1 at q1 ⊢
  refine lv_istore X.1.1 X.1.2.1 zd_De_isCopyRead_7 hl (by decide) rfl (fun ls hl => ?_)
  have hl : lv_has ls 8 [(6, .int r1), (0, .ref r0), (1, .ref o), (2, .int (nI b)), (3, .ref o2), (4, .ref o3), (5, .int (nI due))] := hl
  refine lv_aload_n X.1.1 X.1.2.1 zd_De_isCopyRead_9 rfl (lv_at hl 1 rfl) ?_
  refine lv_aload_n X.1.1 X.1.2.1 zd_De_isCopyRead_10 rfl (lv_at hl 2 rfl) ?_
  refine lv_iload_n X.1.1 X.1.2.1 zd_De_isCopyRead_11 rfl (lv_at hl 3 rfl) ?_
  refine lv_iconst (v := nI 4) X.1.1 X.1.2.1 zd_De_isCopyRead_12 (by decide) ?_
  refine lv_iushr (v := nI (b / 16)) X.1.1 X.1.2.1 zd_De_isCopyRead_13 ((ush_eq _ (by decide)).trans (ush_nI (by omega))) ?_
  refine lv_iconst (v := nI 3) X.1.1 X.1.2.1 zd_De_isCopyRead_14 (by decide) ?_
  refine rCi (wr := [(o2, .inr (1, [.ref a2, .int (nI n2)])), (a2, .inl (cB2, N2, .inl (f2))), (o3, .inr (1, [.ref a3, .int (nI n3)])), (a3, .inl (cB3, N3, .inl (f3)))]) (wf := fun u2 => [(r0, .inr (3, [.int (nI u2)])), (o, .inr (1, [.ref a, .int (nI n)])), (a, .inl (cB, N, .inl (f))), (o2, .inr (1, [.ref a2, .int (nI n2)])), (a2, .inl (cB2, N2, .inl (f2))), (o3, .inr (1, [.ref a3, .int (nI n3)])), (a3, .inl (cB3, N3, .inl (f3)))]) (rest := []) X h hl.1 (zc_De_readChosenBytes l D (r0 := r0) (pl := u1) (o := o) (a := a) (n := n) (N := N) (f := f) (cB := cB) (b := b / 16) (q := 3) (hu1) (hnN) (hN) (by omega) (by decide) H.size) zw_420 zw_422 zs_15 zw_4 zm_De_readChosenBytes zq_De_readChosenBytes ⟨Nat.le_of_ble_eq_true rfl, Nat.le_of_ble_eq_true rfl⟩ ⟨Nat.le_of_ble_eq_true rfl, Nat.le_of_ble_eq_true rfl⟩ [0] rfl [0, 1, 2] [3, 4, 5, 6] [4, 5, 6, 0, 1, 2, 3] rfl (by decide) rfl (by decide) (by decide) (fun _ => rfl) (by decide) 0 rfl rfl rfl (Nat.le_of_ble_eq_true rfl) zd_De_isCopyRead_15 (fun r u2 H locs hp h => ?_)
  have q2 : ((rdC (tx f n) (b / 16) 3 0 u1 0 = none ∧ r = (-1)) ∨ ∃ v, rdC (tx f n) (b / 16) 3 0 u1 0 = some (v, u2) ∧ r = nI v ∧ v < 256 ^ 3) ∧ u2 ≤ n := hp
  have h : zH D A s [(r0, .inr (3, [.int (nI u2)])), (o, .inr (1, [.ref a, .int (nI n)])), (a, .inl (cB, N, .inl (f))), (o2, .inr (1, [.ref a2, .int (nI n2)])), (a2, .inl (cB2, N2, .inl (f2))), (o3, .inr (1, [.ref a3, .int (nI n3)])), (a3, .inl (cB3, N3, .inl (f3)))] H locs := h
  obtain ⟨q2, hu2⟩ := q2
  generalize er2 : r = r2 at q2 ⊢
  refine lv_istore X.1.1 X.1.2.1 zd_De_isCopyRead_18 hl (by decide) rfl (fun ls hl => ?_)
  have hl : lv_has ls 8 [(7, .int r2), (6, .int r1), (0, .ref r0), (1, .ref o), (2, .int (nI b)), (3, .ref o2), (4, .ref o3), (5, .int (nI due))] := hl
  rcases q1 with ⟨e1, rfl⟩ | ⟨v1, e1, rfl, b1⟩
  · rcases q2 with ⟨e2, rfl⟩ | ⟨v2, e2, rfl, b2⟩
    · have hl : lv_has ls 8 [(7, .int ((-1))), (6, .int ((-1))), (0, .ref r0), (1, .ref o), (2, .int (nI b)), (3, .ref o2), (4, .ref o3), (5, .int (nI due))] := hl
      refine lv_iload X.1.1 X.1.2.1 zd_De_isCopyRead_20 (lv_at hl 0 rfl) ?_
      refine lv_if_ne (tgt := 29) X.1.1 X.1.2.1 zd_De_isCopyRead_22 rfl (fun c1 => ?_) (fun c1 => ?_)
      · refine lv_iload X.1.1 X.1.2.1 zd_De_isCopyRead_29 (lv_at hl 1 rfl) ?_
        refine lv_if_lt (tgt := 51) X.1.1 X.1.2.1 zd_De_isCopyRead_31 rfl (fun c2 => ?_) (fun c2 => ?_)
        · have hno : rdK (tx f n) (tx f2 n2) due b pl n3 = none := by
            unfold rdK; rw [e1]
          refine lv_iconst (v := nI 0) X.1.1 X.1.2.1 zd_De_isCopyRead_51 (by decide) ?_
          exact ret _ (u2, n3, f3) H locs ls _ (rfl) (⟨Or.inl ⟨rfl, hno⟩, hu2, h3, hf3⟩) h zd_De_isCopyRead_52
        · exact absurd (by decide) c2
      · exact absurd c1 (by decide)
    · have hl : lv_has ls 8 [(7, .int (nI v2)), (6, .int ((-1))), (0, .ref r0), (1, .ref o), (2, .int (nI b)), (3, .ref o2), (4, .ref o3), (5, .int (nI due))] := hl
      have b2 : v2 < 2 ^ 24 := b2
      have hmy : mny v2 = if v2 = 0 then 65536 else v2 := rfl
      refine lv_iload X.1.1 X.1.2.1 zd_De_isCopyRead_20 (lv_at hl 0 rfl) ?_
      refine lv_if_ne (tgt := 29) X.1.1 X.1.2.1 zd_De_isCopyRead_22 rfl (fun c1 => ?_) (fun c1 => ?_)
      · have c1 : v2 ≠ 0 := zc_ne0_t (by omega) (by omega) c1
        rw [if_neg c1] at hmy
        refine lv_iload X.1.1 X.1.2.1 zd_De_isCopyRead_29 (lv_at hl 1 rfl) ?_
        refine lv_if_lt (tgt := 51) X.1.1 X.1.2.1 zd_De_isCopyRead_31 rfl (fun c2 => ?_) (fun c2 => ?_)
        · have hno : rdK (tx f n) (tx f2 n2) due b pl n3 = none := by
            unfold rdK; rw [e1]
          refine lv_iconst (v := nI 0) X.1.1 X.1.2.1 zd_De_isCopyRead_51 (by decide) ?_
          exact ret _ (u2, n3, f3) H locs ls _ (rfl) (⟨Or.inl ⟨rfl, hno⟩, hu2, h3, hf3⟩) h zd_De_isCopyRead_52
        · exact absurd (by decide) c2
      · have c1 : v2 = 0 := zc_ne0_f (by omega) (by omega) c1
        rw [if_pos c1] at hmy
        refine lv_ldc X.1.1 X.1.2.1 X.1.2.2.2.1 (X.1.2.2.2.2 _ zw_415) zd_De_isCopyRead_25 ?_
        refine zTop (y := nI 65536) (by decide) ?_
        refine lv_istore X.1.1 X.1.2.1 zd_De_isCopyRead_27 hl (by decide) rfl (fun ls hl => ?_)
        have hl : lv_has ls 8 [(7, .int (nI 65536)), (6, .int ((-1))), (0, .ref r0), (1, .ref o), (2, .int (nI b)), (3, .ref o2), (4, .ref o3), (5, .int (nI due))] := hl
        refine lv_iload X.1.1 X.1.2.1 zd_De_isCopyRead_29 (lv_at hl 1 rfl) ?_
        refine lv_if_lt (tgt := 51) X.1.1 X.1.2.1 zd_De_isCopyRead_31 rfl (fun c2 => ?_) (fun c2 => ?_)
        · have hno : rdK (tx f n) (tx f2 n2) due b pl n3 = none := by
            unfold rdK; rw [e1]
          refine lv_iconst (v := nI 0) X.1.1 X.1.2.1 zd_De_isCopyRead_51 (by decide) ?_
          exact ret _ (u2, n3, f3) H locs ls _ (rfl) (⟨Or.inl ⟨rfl, hno⟩, hu2, h3, hf3⟩) h zd_De_isCopyRead_52
        · exact absurd (by decide) c2
  · rcases q2 with ⟨e2, rfl⟩ | ⟨v2, e2, rfl, b2⟩
    · have hl : lv_has ls 8 [(7, .int ((-1))), (6, .int (nI v1)), (0, .ref r0), (1, .ref o), (2, .int (nI b)), (3, .ref o2), (4, .ref o3), (5, .int (nI due))] := hl
      have b1 : v1 < 2 ^ 32 := b1
      refine lv_iload X.1.1 X.1.2.1 zd_De_isCopyRead_20 (lv_at hl 0 rfl) ?_
      refine lv_if_ne (tgt := 29) X.1.1 X.1.2.1 zd_De_isCopyRead_22 rfl (fun c1 => ?_) (fun c1 => ?_)
      · refine lv_iload X.1.1 X.1.2.1 zd_De_isCopyRead_29 (lv_at hl 1 rfl) ?_
        refine lv_if_lt (tgt := 51) X.1.1 X.1.2.1 zd_De_isCopyRead_31 rfl (fun c2 => ?_) (fun c2 => ?_)
        · have hbg : ¬ v1 < 2 ^ 31 := fun hq => nI_pos hq c2
          have hno : rdK (tx f n) (tx f2 n2) due b pl n3 = none := by
            unfold rdK; rw [e1]; dsimp only; rw [e2]
          refine lv_iconst (v := nI 0) X.1.1 X.1.2.1 zd_De_isCopyRead_51 (by decide) ?_
          exact ret _ (u2, n3, f3) H locs ls _ (rfl) (⟨Or.inl ⟨rfl, hno⟩, hu2, h3, hf3⟩) h zd_De_isCopyRead_52
        · have hbg : v1 < 2 ^ 31 := by
            by_cases hq : v1 < 2 ^ 31
            · exact hq
            · exact absurd (nI_neg (by omega) b1) c2
          refine lv_iload X.1.1 X.1.2.1 zd_De_isCopyRead_34 (lv_at hl 0 rfl) ?_
          refine lv_if_lt (tgt := 51) X.1.1 X.1.2.1 zd_De_isCopyRead_36 rfl (fun c3 => ?_) (fun c3 => ?_)
          · have hno : rdK (tx f n) (tx f2 n2) due b pl n3 = none := by
              unfold rdK; rw [e1]; dsimp only; rw [e2]
            refine lv_iconst (v := nI 0) X.1.1 X.1.2.1 zd_De_isCopyRead_51 (by decide) ?_
            exact ret _ (u2, n3, f3) H locs ls _ (rfl) (⟨Or.inl ⟨rfl, hno⟩, hu2, h3, hf3⟩) h zd_De_isCopyRead_52
          · exact absurd (by decide) c3
      · exact absurd c1 (by decide)
    · have hl : lv_has ls 8 [(7, .int (nI v2)), (6, .int (nI v1)), (0, .ref r0), (1, .ref o), (2, .int (nI b)), (3, .ref o2), (4, .ref o3), (5, .int (nI due))] := hl
      have b2 : v2 < 2 ^ 24 := b2
      have hmy : mny v2 = if v2 = 0 then 65536 else v2 := rfl
      have b1 : v1 < 2 ^ 32 := b1
      refine lv_iload X.1.1 X.1.2.1 zd_De_isCopyRead_20 (lv_at hl 0 rfl) ?_
      refine lv_if_ne (tgt := 29) X.1.1 X.1.2.1 zd_De_isCopyRead_22 rfl (fun c1 => ?_) (fun c1 => ?_)
      · have c1 : v2 ≠ 0 := zc_ne0_t (by omega) (by omega) c1
        rw [if_neg c1] at hmy
        refine lv_iload X.1.1 X.1.2.1 zd_De_isCopyRead_29 (lv_at hl 1 rfl) ?_
        refine lv_if_lt (tgt := 51) X.1.1 X.1.2.1 zd_De_isCopyRead_31 rfl (fun c2 => ?_) (fun c2 => ?_)
        · have hbg : ¬ v1 < 2 ^ 31 := fun hq => nI_pos hq c2
          have hno : rdK (tx f n) (tx f2 n2) due b pl n3 = none := by
            unfold rdK; rw [e1]; dsimp only; rw [e2]; dsimp only; rw [tx_len, if_neg (by omega)]
          refine lv_iconst (v := nI 0) X.1.1 X.1.2.1 zd_De_isCopyRead_51 (by decide) ?_
          exact ret _ (u2, n3, f3) H locs ls _ (rfl) (⟨Or.inl ⟨rfl, hno⟩, hu2, h3, hf3⟩) h zd_De_isCopyRead_52
        · have hbg : v1 < 2 ^ 31 := by
            by_cases hq : v1 < 2 ^ 31
            · exact hq
            · exact absurd (nI_neg (by omega) b1) c2
          refine lv_iload X.1.1 X.1.2.1 zd_De_isCopyRead_34 (lv_at hl 0 rfl) ?_
          refine lv_if_lt (tgt := 51) X.1.1 X.1.2.1 zd_De_isCopyRead_36 rfl (fun c3 => ?_) (fun c3 => ?_)
          · exact absurd c3 (nI_pos (by omega))
          · refine lv_iload X.1.1 X.1.2.1 zd_De_isCopyRead_39 (lv_at hl 1 rfl) ?_
            refine lv_aload_n X.1.1 X.1.2.1 zd_De_isCopyRead_41 rfl (lv_at hl 5 rfl) ?_
            refine rCi (wr := [(r0, .inr (3, [.int (nI u2)])), (o, .inr (1, [.ref a, .int (nI n)])), (a, .inl (cB, N, .inl (f))), (o3, .inr (1, [.ref a3, .int (nI n3)])), (a3, .inl (cB3, N3, .inl (f3)))]) (wf := fun _ => [(r0, .inr (3, [.int (nI u2)])), (o, .inr (1, [.ref a, .int (nI n)])), (a, .inl (cB, N, .inl (f))), (o2, .inr (1, [.ref a2, .int (nI n2)])), (a2, .inl (cB2, N2, .inl (f2))), (o3, .inr (1, [.ref a3, .int (nI n3)])), (a3, .inl (cB3, N3, .inl (f3)))]) (rest := [.int (nI v1)]) X h hl.1 (zc_Tx_size l D (o := o2) (a := a2) (n := n2) (N := N2) (f := f2) (cB := cB2)  H.size) zw_410 zw_145 zw_146 zw_2 zm_Tx_size zq_Tx_size ⟨Nat.le_of_ble_eq_true rfl, Nat.le_of_ble_eq_true rfl⟩ ⟨Nat.le_of_ble_eq_true rfl, Nat.le_of_ble_eq_true rfl⟩ [1] rfl [3, 4] [0, 1, 2, 5, 6] [0, 1, 2, 5, 6, 3, 4] rfl (by decide) rfl (by decide) (by decide) (fun _ => rfl) (by decide) 0 rfl rfl rfl (Nat.le_of_ble_eq_true rfl) zd_De_isCopyRead_42 (fun r _ H locs hp h => ?_)
            obtain ⟨rfl, -⟩ := hp
            have h : zH D A s [(r0, .inr (3, [.int (nI u2)])), (o, .inr (1, [.ref a, .int (nI n)])), (a, .inl (cB, N, .inl (f))), (o2, .inr (1, [.ref a2, .int (nI n2)])), (a2, .inl (cB2, N2, .inl (f2))), (o3, .inr (1, [.ref a3, .int (nI n3)])), (a3, .inl (cB3, N3, .inl (f3)))] H locs := h
            refine lv_iload X.1.1 X.1.2.1 zd_De_isCopyRead_45 (lv_at hl 0 rfl) ?_
            refine lv_isub X.1.1 X.1.2.1 zd_De_isCopyRead_47 ?_
            refine lv_icmp_le (tgt := 53) X.1.1 X.1.2.1 zd_De_isCopyRead_48 rfl (fun c4 => ?_) (fun c4 => ?_)
            · rw [sub_le (by omega) (by omega) (by omega)] at c4
              refine lv_iload X.1.1 X.1.2.1 zd_De_isCopyRead_53 (lv_at hl 0 rfl) ?_
              refine lv_iload X.1.1 X.1.2.1 zd_De_isCopyRead_55 (lv_at hl 7 rfl) ?_
              refine lv_aload X.1.1 X.1.2.1 zd_De_isCopyRead_57 (lv_at hl 6 rfl) ?_
              refine rCi (wr := [(r0, .inr (3, [.int (nI u2)])), (o, .inr (1, [.ref a, .int (nI n)])), (a, .inl (cB, N, .inl (f))), (o2, .inr (1, [.ref a2, .int (nI n2)])), (a2, .inl (cB2, N2, .inl (f2)))]) (wf := fun _ => [(r0, .inr (3, [.int (nI u2)])), (o, .inr (1, [.ref a, .int (nI n)])), (a, .inl (cB, N, .inl (f))), (o2, .inr (1, [.ref a2, .int (nI n2)])), (a2, .inl (cB2, N2, .inl (f2))), (o3, .inr (1, [.ref a3, .int (nI n3)])), (a3, .inl (cB3, N3, .inl (f3)))]) (rest := [.int (nI due), .int (nI v2)]) X h hl.1 (zc_Tx_size l D (o := o3) (a := a3) (n := n3) (N := N3) (f := f3) (cB := cB3)  H.size) zw_410 zw_145 zw_146 zw_2 zm_Tx_size zq_Tx_size ⟨Nat.le_of_ble_eq_true rfl, Nat.le_of_ble_eq_true rfl⟩ ⟨Nat.le_of_ble_eq_true rfl, Nat.le_of_ble_eq_true rfl⟩ [2] rfl [5, 6] [0, 1, 2, 3, 4] [0, 1, 2, 3, 4, 5, 6] rfl (by decide) rfl (by decide) (by decide) (fun _ => rfl) (by decide) 0 rfl rfl rfl (Nat.le_of_ble_eq_true rfl) zd_De_isCopyRead_59 (fun r _ H locs hp h => ?_)
              obtain ⟨rfl, -⟩ := hp
              have h : zH D A s [(r0, .inr (3, [.int (nI u2)])), (o, .inr (1, [.ref a, .int (nI n)])), (a, .inl (cB, N, .inl (f))), (o2, .inr (1, [.ref a2, .int (nI n2)])), (a2, .inl (cB2, N2, .inl (f2))), (o3, .inr (1, [.ref a3, .int (nI n3)])), (a3, .inl (cB3, N3, .inl (f3)))] H locs := h
              refine lv_isub X.1.1 X.1.2.1 zd_De_isCopyRead_62 ?_
              refine zTop (y := nI (due - n3)) (pk_sub (by omega)) ?_
              refine lv_icmp_le (tgt := 68) X.1.1 X.1.2.1 zd_De_isCopyRead_63 rfl (fun c5 => ?_) (fun c5 => ?_)
              · have c5 : v2 ≤ due - n3 := zc_le_t (by omega) (by omega) c5
                refine lv_aload X.1.1 X.1.2.1 zd_De_isCopyRead_68 (lv_at hl 6 rfl) ?_
                refine lv_aload_n X.1.1 X.1.2.1 zd_De_isCopyRead_70 rfl (lv_at hl 5 rfl) ?_
                refine lv_iload X.1.1 X.1.2.1 zd_De_isCopyRead_71 (lv_at hl 1 rfl) ?_
                refine lv_iload X.1.1 X.1.2.1 zd_De_isCopyRead_73 (lv_at hl 0 rfl) ?_
                refine rCv (wr := [(r0, .inr (3, [.int (nI u2)])), (o, .inr (1, [.ref a, .int (nI n)])), (a, .inl (cB, N, .inl (f)))]) (wf := fun _ => [(r0, .inr (3, [.int (nI u2)])), (o, .inr (1, [.ref a, .int (nI n)])), (a, .inl (cB, N, .inl (f))), (o2, .inr (1, [.ref a2, .int (nI n2)])), (a2, .inl (cB2, N2, .inl (f2))), (o3, .inr (1, [.ref a3, .int (nI (n3 + v2))])), (a3, .inl (cB3, N3, .inl (va_cpy f2 f3 v1 n3 v2)))]) (rest := []) X h hl.1 (zc_Tx_addPart l D (o := o3) (a := a3) (n := n3) (N := N3) (f := f3) (cB := cB3) (o2 := o2) (a2 := a2) (n2 := n2) (N2 := N2) (f2 := f2) (cB2 := cB2) (q := v1) (k := v2) (hf2) (by omega) (by omega) (by omega) (by omega) H.size) zw_424 zw_246 zw_247 zw_2 zm_Tx_addPart zq_Tx_addPart ⟨Nat.le_of_ble_eq_true rfl, Nat.le_of_ble_eq_true rfl⟩ ⟨Nat.le_of_ble_eq_true rfl, Nat.le_of_ble_eq_true rfl⟩ [2, 1] rfl [5, 6, 3, 4] [0, 1, 2] [0, 1, 2, 5, 6, 3, 4] rfl (by decide) rfl (by decide) (by decide) (fun _ => rfl) (by decide) 0 rfl rfl rfl (Nat.le_of_ble_eq_true rfl) zd_De_isCopyRead_75 (fun _ H locs hp h => ?_)
                have h : zH D A s [(r0, .inr (3, [.int (nI u2)])), (o, .inr (1, [.ref a, .int (nI n)])), (a, .inl (cB, N, .inl (f))), (o2, .inr (1, [.ref a2, .int (nI n2)])), (a2, .inl (cB2, N2, .inl (f2))), (o3, .inr (1, [.ref a3, .int (nI (n3 + v2))])), (a3, .inl (cB3, N3, .inl (va_cpy f2 f3 v1 n3 v2)))] H locs := h
                have hyes : rdK (tx f n) (tx f2 n2) due b pl n3 = some (u2, v1, v2) := by
                  unfold rdK; rw [e1]; dsimp only; rw [e2]; dsimp only; rw [tx_len, hmy, if_pos (by omega)]
                refine lv_iconst (v := nI 1) X.1.1 X.1.2.1 zd_De_isCopyRead_78 (by decide) ?_
                exact ret _ (u2, n3 + v2, va_cpy f2 f3 v1 n3 v2) H locs ls _ (rfl) (⟨Or.inr ⟨rfl, v1, v2, hyes, by rw [tx_cpy, tx_part f2 (m := n2) (by omega)]⟩, hu2, by show n3 + v2 ≤ due; omega, sb_fitC hf2 hf3⟩) h zd_De_isCopyRead_79
              · have c5 : due - n3 < v2 := zc_le_f (by omega) (by omega) c5
                have hno : rdK (tx f n) (tx f2 n2) due b pl n3 = none := by
                  unfold rdK; rw [e1]; dsimp only; rw [e2]; dsimp only; rw [tx_len, if_neg (by omega)]
                refine lv_iconst (v := nI 0) X.1.1 X.1.2.1 zd_De_isCopyRead_66 (by decide) ?_
                exact ret _ (u2, n3, f3) H locs ls _ (rfl) (⟨Or.inl ⟨rfl, hno⟩, hu2, h3, hf3⟩) h zd_De_isCopyRead_67
            · rw [sub_le (by omega) (by omega) (by omega)] at c4
              have hno : rdK (tx f n) (tx f2 n2) due b pl n3 = none := by
                unfold rdK; rw [e1]; dsimp only; rw [e2]; dsimp only; rw [tx_len, if_neg (by omega)]
              refine lv_iconst (v := nI 0) X.1.1 X.1.2.1 zd_De_isCopyRead_51 (by decide) ?_
              exact ret _ (u2, n3, f3) H locs ls _ (rfl) (⟨Or.inl ⟨rfl, hno⟩, hu2, h3, hf3⟩) h zd_De_isCopyRead_52
      · have c1 : v2 = 0 := zc_ne0_f (by omega) (by omega) c1
        rw [if_pos c1] at hmy
        refine lv_ldc X.1.1 X.1.2.1 X.1.2.2.2.1 (X.1.2.2.2.2 _ zw_415) zd_De_isCopyRead_25 ?_
        refine zTop (y := nI 65536) (by decide) ?_
        refine lv_istore X.1.1 X.1.2.1 zd_De_isCopyRead_27 hl (by decide) rfl (fun ls hl => ?_)
        have hl : lv_has ls 8 [(7, .int (nI 65536)), (6, .int (nI v1)), (0, .ref r0), (1, .ref o), (2, .int (nI b)), (3, .ref o2), (4, .ref o3), (5, .int (nI due))] := hl
        refine lv_iload X.1.1 X.1.2.1 zd_De_isCopyRead_29 (lv_at hl 1 rfl) ?_
        refine lv_if_lt (tgt := 51) X.1.1 X.1.2.1 zd_De_isCopyRead_31 rfl (fun c2 => ?_) (fun c2 => ?_)
        · have hbg : ¬ v1 < 2 ^ 31 := fun hq => nI_pos hq c2
          have hno : rdK (tx f n) (tx f2 n2) due b pl n3 = none := by
            unfold rdK; rw [e1]; dsimp only; rw [e2]; dsimp only; rw [tx_len, if_neg (by omega)]
          refine lv_iconst (v := nI 0) X.1.1 X.1.2.1 zd_De_isCopyRead_51 (by decide) ?_
          exact ret _ (u2, n3, f3) H locs ls _ (rfl) (⟨Or.inl ⟨rfl, hno⟩, hu2, h3, hf3⟩) h zd_De_isCopyRead_52
        · have hbg : v1 < 2 ^ 31 := by
            by_cases hq : v1 < 2 ^ 31
            · exact hq
            · exact absurd (nI_neg (by omega) b1) c2
          refine lv_iload X.1.1 X.1.2.1 zd_De_isCopyRead_34 (lv_at hl 0 rfl) ?_
          refine lv_if_lt (tgt := 51) X.1.1 X.1.2.1 zd_De_isCopyRead_36 rfl (fun c3 => ?_) (fun c3 => ?_)
          · exact absurd c3 (nI_pos (by omega))
          · refine lv_iload X.1.1 X.1.2.1 zd_De_isCopyRead_39 (lv_at hl 1 rfl) ?_
            refine lv_aload_n X.1.1 X.1.2.1 zd_De_isCopyRead_41 rfl (lv_at hl 5 rfl) ?_
            refine rCi (wr := [(r0, .inr (3, [.int (nI u2)])), (o, .inr (1, [.ref a, .int (nI n)])), (a, .inl (cB, N, .inl (f))), (o3, .inr (1, [.ref a3, .int (nI n3)])), (a3, .inl (cB3, N3, .inl (f3)))]) (wf := fun _ => [(r0, .inr (3, [.int (nI u2)])), (o, .inr (1, [.ref a, .int (nI n)])), (a, .inl (cB, N, .inl (f))), (o2, .inr (1, [.ref a2, .int (nI n2)])), (a2, .inl (cB2, N2, .inl (f2))), (o3, .inr (1, [.ref a3, .int (nI n3)])), (a3, .inl (cB3, N3, .inl (f3)))]) (rest := [.int (nI v1)]) X h hl.1 (zc_Tx_size l D (o := o2) (a := a2) (n := n2) (N := N2) (f := f2) (cB := cB2)  H.size) zw_410 zw_145 zw_146 zw_2 zm_Tx_size zq_Tx_size ⟨Nat.le_of_ble_eq_true rfl, Nat.le_of_ble_eq_true rfl⟩ ⟨Nat.le_of_ble_eq_true rfl, Nat.le_of_ble_eq_true rfl⟩ [1] rfl [3, 4] [0, 1, 2, 5, 6] [0, 1, 2, 5, 6, 3, 4] rfl (by decide) rfl (by decide) (by decide) (fun _ => rfl) (by decide) 0 rfl rfl rfl (Nat.le_of_ble_eq_true rfl) zd_De_isCopyRead_42 (fun r _ H locs hp h => ?_)
            obtain ⟨rfl, -⟩ := hp
            have h : zH D A s [(r0, .inr (3, [.int (nI u2)])), (o, .inr (1, [.ref a, .int (nI n)])), (a, .inl (cB, N, .inl (f))), (o2, .inr (1, [.ref a2, .int (nI n2)])), (a2, .inl (cB2, N2, .inl (f2))), (o3, .inr (1, [.ref a3, .int (nI n3)])), (a3, .inl (cB3, N3, .inl (f3)))] H locs := h
            refine lv_iload X.1.1 X.1.2.1 zd_De_isCopyRead_45 (lv_at hl 0 rfl) ?_
            refine lv_isub X.1.1 X.1.2.1 zd_De_isCopyRead_47 ?_
            refine lv_icmp_le (tgt := 53) X.1.1 X.1.2.1 zd_De_isCopyRead_48 rfl (fun c4 => ?_) (fun c4 => ?_)
            · rw [sub_le (by omega) (by omega) (by omega)] at c4
              refine lv_iload X.1.1 X.1.2.1 zd_De_isCopyRead_53 (lv_at hl 0 rfl) ?_
              refine lv_iload X.1.1 X.1.2.1 zd_De_isCopyRead_55 (lv_at hl 7 rfl) ?_
              refine lv_aload X.1.1 X.1.2.1 zd_De_isCopyRead_57 (lv_at hl 6 rfl) ?_
              refine rCi (wr := [(r0, .inr (3, [.int (nI u2)])), (o, .inr (1, [.ref a, .int (nI n)])), (a, .inl (cB, N, .inl (f))), (o2, .inr (1, [.ref a2, .int (nI n2)])), (a2, .inl (cB2, N2, .inl (f2)))]) (wf := fun _ => [(r0, .inr (3, [.int (nI u2)])), (o, .inr (1, [.ref a, .int (nI n)])), (a, .inl (cB, N, .inl (f))), (o2, .inr (1, [.ref a2, .int (nI n2)])), (a2, .inl (cB2, N2, .inl (f2))), (o3, .inr (1, [.ref a3, .int (nI n3)])), (a3, .inl (cB3, N3, .inl (f3)))]) (rest := [.int (nI due), .int (nI 65536)]) X h hl.1 (zc_Tx_size l D (o := o3) (a := a3) (n := n3) (N := N3) (f := f3) (cB := cB3)  H.size) zw_410 zw_145 zw_146 zw_2 zm_Tx_size zq_Tx_size ⟨Nat.le_of_ble_eq_true rfl, Nat.le_of_ble_eq_true rfl⟩ ⟨Nat.le_of_ble_eq_true rfl, Nat.le_of_ble_eq_true rfl⟩ [2] rfl [5, 6] [0, 1, 2, 3, 4] [0, 1, 2, 3, 4, 5, 6] rfl (by decide) rfl (by decide) (by decide) (fun _ => rfl) (by decide) 0 rfl rfl rfl (Nat.le_of_ble_eq_true rfl) zd_De_isCopyRead_59 (fun r _ H locs hp h => ?_)
              obtain ⟨rfl, -⟩ := hp
              have h : zH D A s [(r0, .inr (3, [.int (nI u2)])), (o, .inr (1, [.ref a, .int (nI n)])), (a, .inl (cB, N, .inl (f))), (o2, .inr (1, [.ref a2, .int (nI n2)])), (a2, .inl (cB2, N2, .inl (f2))), (o3, .inr (1, [.ref a3, .int (nI n3)])), (a3, .inl (cB3, N3, .inl (f3)))] H locs := h
              refine lv_isub X.1.1 X.1.2.1 zd_De_isCopyRead_62 ?_
              refine zTop (y := nI (due - n3)) (pk_sub (by omega)) ?_
              refine lv_icmp_le (tgt := 68) X.1.1 X.1.2.1 zd_De_isCopyRead_63 rfl (fun c5 => ?_) (fun c5 => ?_)
              · have c5 : 65536 ≤ due - n3 := zc_le_t (by omega) (by omega) c5
                refine lv_aload X.1.1 X.1.2.1 zd_De_isCopyRead_68 (lv_at hl 6 rfl) ?_
                refine lv_aload_n X.1.1 X.1.2.1 zd_De_isCopyRead_70 rfl (lv_at hl 5 rfl) ?_
                refine lv_iload X.1.1 X.1.2.1 zd_De_isCopyRead_71 (lv_at hl 1 rfl) ?_
                refine lv_iload X.1.1 X.1.2.1 zd_De_isCopyRead_73 (lv_at hl 0 rfl) ?_
                refine rCv (wr := [(r0, .inr (3, [.int (nI u2)])), (o, .inr (1, [.ref a, .int (nI n)])), (a, .inl (cB, N, .inl (f)))]) (wf := fun _ => [(r0, .inr (3, [.int (nI u2)])), (o, .inr (1, [.ref a, .int (nI n)])), (a, .inl (cB, N, .inl (f))), (o2, .inr (1, [.ref a2, .int (nI n2)])), (a2, .inl (cB2, N2, .inl (f2))), (o3, .inr (1, [.ref a3, .int (nI (n3 + 65536))])), (a3, .inl (cB3, N3, .inl (va_cpy f2 f3 v1 n3 65536)))]) (rest := []) X h hl.1 (zc_Tx_addPart l D (o := o3) (a := a3) (n := n3) (N := N3) (f := f3) (cB := cB3) (o2 := o2) (a2 := a2) (n2 := n2) (N2 := N2) (f2 := f2) (cB2 := cB2) (q := v1) (k := 65536) (hf2) (by omega) (by omega) (by omega) (by omega) H.size) zw_424 zw_246 zw_247 zw_2 zm_Tx_addPart zq_Tx_addPart ⟨Nat.le_of_ble_eq_true rfl, Nat.le_of_ble_eq_true rfl⟩ ⟨Nat.le_of_ble_eq_true rfl, Nat.le_of_ble_eq_true rfl⟩ [2, 1] rfl [5, 6, 3, 4] [0, 1, 2] [0, 1, 2, 5, 6, 3, 4] rfl (by decide) rfl (by decide) (by decide) (fun _ => rfl) (by decide) 0 rfl rfl rfl (Nat.le_of_ble_eq_true rfl) zd_De_isCopyRead_75 (fun _ H locs hp h => ?_)
                have h : zH D A s [(r0, .inr (3, [.int (nI u2)])), (o, .inr (1, [.ref a, .int (nI n)])), (a, .inl (cB, N, .inl (f))), (o2, .inr (1, [.ref a2, .int (nI n2)])), (a2, .inl (cB2, N2, .inl (f2))), (o3, .inr (1, [.ref a3, .int (nI (n3 + 65536))])), (a3, .inl (cB3, N3, .inl (va_cpy f2 f3 v1 n3 65536)))] H locs := h
                have hyes : rdK (tx f n) (tx f2 n2) due b pl n3 = some (u2, v1, 65536) := by
                  unfold rdK; rw [e1]; dsimp only; rw [e2]; dsimp only; rw [tx_len, hmy, if_pos (by omega)]
                refine lv_iconst (v := nI 1) X.1.1 X.1.2.1 zd_De_isCopyRead_78 (by decide) ?_
                exact ret _ (u2, n3 + 65536, va_cpy f2 f3 v1 n3 65536) H locs ls _ (rfl) (⟨Or.inr ⟨rfl, v1, 65536, hyes, by rw [tx_cpy, tx_part f2 (m := n2) (by omega)]⟩, hu2, by show n3 + 65536 ≤ due; omega, sb_fitC hf2 hf3⟩) h zd_De_isCopyRead_79
              · have c5 : due - n3 < 65536 := zc_le_f (by omega) (by omega) c5
                have hno : rdK (tx f n) (tx f2 n2) due b pl n3 = none := by
                  unfold rdK; rw [e1]; dsimp only; rw [e2]; dsimp only; rw [tx_len, if_neg (by omega)]
                refine lv_iconst (v := nI 0) X.1.1 X.1.2.1 zd_De_isCopyRead_66 (by decide) ?_
                exact ret _ (u2, n3, f3) H locs ls _ (rfl) (⟨Or.inl ⟨rfl, hno⟩, hu2, h3, hf3⟩) h zd_De_isCopyRead_67
            · rw [sub_le (by omega) (by omega) (by omega)] at c4
              have hno : rdK (tx f n) (tx f2 n2) due b pl n3 = none := by
                unfold rdK; rw [e1]; dsimp only; rw [e2]; dsimp only; rw [tx_len, if_neg (by omega)]
              refine lv_iconst (v := nI 0) X.1.1 X.1.2.1 zd_De_isCopyRead_51 (by decide) ?_
              exact ret _ (u2, n3, f3) H locs ls _ (rfl) (⟨Or.inl ⟨rfl, hno⟩, hu2, h3, hf3⟩) h zd_De_isCopyRead_52

set_option maxHeartbeats 4000000 in
set_option maxRecDepth 100000 in
theorem zc_De_isRead (l : Launch) (D : va_G) {r0 pl : Nat} {o a n N : Nat} {f : Nat → Int32} {cB : ClassId} {o2 a2 n2 N2 : Nat} {f2 : Nat → Int32} {cB2 : ClassId} {o3 a3 n3 N3 : Nat} {f3 : Nat → Int32} {cB3 : ClassId} (hnN : n ≤ N) (hN : N < 2 ^ 30) (hf : sb_Fit f) (h2 : n2 ≤ N2) (hN2 : N2 < 2 ^ 30) (hf2 : sb_Fit f2) (h3 : 65536 ≤ N3) (hN3 : N3 < 2 ^ 30) (hf3 : sb_Fit f3) (sz : Nat) : zMi l D zy_De_isRead zb_De_isRead 7 .boolean ({ frames := 3, cells := 0, slots := 0, locals := 74 } : Room) [.ref r0, .ref o, .ref o2, .ref o3] [(cB, .byte), (cB2, .byte), (cB3, .byte)] [(r0, .inr (3, [.int (nI pl)])), (o, .inr (1, [.ref a, .int (nI n)])), (a, .inl (cB, N, .inl (f))), (o2, .inr (1, [.ref a2, .int (nI n2)])), (a2, .inl (cB2, N2, .inl (f2))), (o3, .inr (1, [.ref a3, .int (nI n3)])), (a3, .inl (cB3, N3, .inl (f3)))] sz (fun (r : Int32) (u : Nat × Nat × (Nat → Int32)) => ((r = 0 ∧ rdA (tx f n) (tx f2 n2) = none) ∨ (r = 1 ∧ rdA (tx f n) (tx f2 n2) = some (tx u.2.2 u.2.1))) ∧ u.2.1 ≤ 65536 ∧ sb_Fit u.2.2) (fun u => [(r0, .inr (3, [.int (nI u.1)])), (o, .inr (1, [.ref a, .int (nI n)])), (a, .inl (cB, N, .inl (f))), (o2, .inr (1, [.ref a2, .int (nI n2)])), (a2, .inl (cB2, N2, .inl (f2))), (o3, .inr (1, [.ref a3, .int (nI u.2.1)])), (a3, .inl (cB3, N3, .inl (u.2.2)))]) := by
  refine zEz (by decide) (Nat.le_of_ble_eq_true rfl) (fun p e s m args below meth c ls A Q X hl h hsz ret => ?_)
  have hl : lv_has ls 7 [(0, .ref r0), (1, .ref o), (2, .ref o2), (3, .ref o3)] := hl
  generalize hH0 : s.heap = H at h ⊢
  have h : zH D A s [(r0, .inr (3, [.int (nI pl)])), (o, .inr (1, [.ref a, .int (nI n)])), (a, .inl (cB, N, .inl (f))), (o2, .inr (1, [.ref a2, .int (nI n2)])), (a2, .inl (cB2, N2, .inl (f2))), (o3, .inr (1, [.ref a3, .int (nI n3)])), (a3, .inl (cB3, N3, .inl (f3)))] H [] := h
  generalize hL0 : ([] : List Loc) = locs at h ⊢
  refine lv_aload_n X.1.1 X.1.2.1 zd_De_isRead_0 rfl (lv_at hl 3 rfl) ?_
  refine lv_iconst (v := nI 0) X.1.1 X.1.2.1 zd_De_isRead_1 (by decide) ?_
  refine rCv (wr := [(r0, .inr (3, [.int (nI pl)])), (o, .inr (1, [.ref a, .int (nI n)])), (a, .inl (cB, N, .inl (f))), (o2, .inr (1, [.ref a2, .int (nI n2)])), (a2, .inl (cB2, N2, .inl (f2)))]) (wf := fun _ => [(r0, .inr (3, [.int (nI pl)])), (o, .inr (1, [.ref a, .int (nI n)])), (a, .inl (cB, N, .inl (f))), (o2, .inr (1, [.ref a2, .int (nI n2)])), (a2, .inl (cB2, N2, .inl (f2))), (o3, .inr (1, [.ref a3, .int (nI 0)])), (a3, .inl (cB3, N3, .inl (f3)))]) (rest := []) X h hl.1 (zc_Tx_cut l D (o := o3) (a := a3) (n := n3) (N := N3) (f := f3) (cB := cB3) (k := 0)  H.size) zw_405 zw_141 zw_142 zw_2 zm_Tx_cut zq_Tx_cut ⟨Nat.le_of_ble_eq_true rfl, Nat.le_of_ble_eq_true rfl⟩ ⟨Nat.le_of_ble_eq_true rfl, Nat.le_of_ble_eq_true rfl⟩ [2] rfl [5, 6] [0, 1, 2, 3, 4] [0, 1, 2, 3, 4, 5, 6] rfl (by decide) rfl (by decide) (by decide) (fun _ => rfl) (by decide) 0 rfl rfl rfl (Nat.le_of_ble_eq_true rfl) zd_De_isRead_2 (fun _ H locs hp h => ?_)
  have h : zH D A s [(r0, .inr (3, [.int (nI pl)])), (o, .inr (1, [.ref a, .int (nI n)])), (a, .inl (cB, N, .inl (f))), (o2, .inr (1, [.ref a2, .int (nI n2)])), (a2, .inl (cB2, N2, .inl (f2))), (o3, .inr (1, [.ref a3, .int (nI 0)])), (a3, .inl (cB3, N3, .inl (f3)))] H locs := h
  refine lv_aload_n X.1.1 X.1.2.1 zd_De_isRead_5 rfl (lv_at hl 0 rfl) ?_
  refine lv_iconst (v := nI 0) X.1.1 X.1.2.1 zd_De_isRead_6 (by decide) ?_
  refine rP X h 0 rfl rfl zW_De zO_De zN_De 0 (by decide) zw_101 rfl (rfl) (rfl) (Nat.le_of_ble_eq_true rfl) zd_De_isRead_7 (fun H locs h => ?_)
  have h : zH D A s [(r0, .inr (3, [.int (nI 0)])), (o, .inr (1, [.ref a, .int (nI n)])), (a, .inl (cB, N, .inl (f))), (o2, .inr (1, [.ref a2, .int (nI n2)])), (a2, .inl (cB2, N2, .inl (f2))), (o3, .inr (1, [.ref a3, .int (nI 0)])), (a3, .inl (cB3, N3, .inl (f3)))] H locs := h
  refine lv_aload_n X.1.1 X.1.2.1 zd_De_isRead_10 rfl (lv_at hl 0 rfl) ?_
  refine lv_aload_n X.1.1 X.1.2.1 zd_De_isRead_11 rfl (lv_at hl 1 rfl) ?_
  refine rCi (wr := [(o2, .inr (1, [.ref a2, .int (nI n2)])), (a2, .inl (cB2, N2, .inl (f2))), (o3, .inr (1, [.ref a3, .int (nI 0)])), (a3, .inl (cB3, N3, .inl (f3)))]) (wf := fun u1 => [(r0, .inr (3, [.int (nI u1)])), (o, .inr (1, [.ref a, .int (nI n)])), (a, .inl (cB, N, .inl (f))), (o2, .inr (1, [.ref a2, .int (nI n2)])), (a2, .inl (cB2, N2, .inl (f2))), (o3, .inr (1, [.ref a3, .int (nI 0)])), (a3, .inl (cB3, N3, .inl (f3)))]) (rest := []) X h hl.1 (zc_De_readNumber l D (r0 := r0) (pl := 0) (o := o) (a := a) (n := n) (N := N) (f := f) (cB := cB) (by omega) (hnN) (hN) H.size) zw_406 zw_408 zs_13 zw_4 zm_De_readNumber zq_De_readNumber ⟨Nat.le_of_ble_eq_true rfl, Nat.le_of_ble_eq_true rfl⟩ ⟨Nat.le_of_ble_eq_true rfl, Nat.le_of_ble_eq_true rfl⟩ [0] rfl [0, 1, 2] [3, 4, 5, 6] [4, 5, 6, 0, 1, 2, 3] rfl (by decide) rfl (by decide) (by decide) (fun _ => rfl) (by decide) 0 rfl rfl rfl (Nat.le_of_ble_eq_true rfl) zd_De_isRead_12 (fun r u1 H locs hp h => ?_)
  have q1 : ((rdN (tx f n) 4 0 0 0 = none ∧ r = (-1)) ∨ ∃ v, rdN (tx f n) 4 0 0 0 = some (v, u1) ∧ r = nI v ∧ v < 2 ^ 28) ∧ u1 ≤ n := hp
  have h : zH D A s [(r0, .inr (3, [.int (nI u1)])), (o, .inr (1, [.ref a, .int (nI n)])), (a, .inl (cB, N, .inl (f))), (o2, .inr (1, [.ref a2, .int (nI n2)])), (a2, .inl (cB2, N2, .inl (f2))), (o3, .inr (1, [.ref a3, .int (nI 0)])), (a3, .inl (cB3, N3, .inl (f3)))] H locs := h
  obtain ⟨q1, hu1⟩ := q1
  rcases q1 with ⟨e1, rfl⟩ | ⟨v1, e1, rfl, b1⟩
  · refine lv_aload_n X.1.1 X.1.2.1 zd_De_isRead_15 rfl (lv_at hl 2 rfl) ?_
    refine rCi (wr := [(r0, .inr (3, [.int (nI u1)])), (o, .inr (1, [.ref a, .int (nI n)])), (a, .inl (cB, N, .inl (f))), (o3, .inr (1, [.ref a3, .int (nI 0)])), (a3, .inl (cB3, N3, .inl (f3)))]) (wf := fun _ => [(r0, .inr (3, [.int (nI u1)])), (o, .inr (1, [.ref a, .int (nI n)])), (a, .inl (cB, N, .inl (f))), (o2, .inr (1, [.ref a2, .int (nI n2)])), (a2, .inl (cB2, N2, .inl (f2))), (o3, .inr (1, [.ref a3, .int (nI 0)])), (a3, .inl (cB3, N3, .inl (f3)))]) (rest := [.int ((-1))]) X h hl.1 (zc_Tx_size l D (o := o2) (a := a2) (n := n2) (N := N2) (f := f2) (cB := cB2)  H.size) zw_410 zw_145 zw_146 zw_2 zm_Tx_size zq_Tx_size ⟨Nat.le_of_ble_eq_true rfl, Nat.le_of_ble_eq_true rfl⟩ ⟨Nat.le_of_ble_eq_true rfl, Nat.le_of_ble_eq_true rfl⟩ [1] rfl [3, 4] [0, 1, 2, 5, 6] [0, 1, 2, 5, 6, 3, 4] rfl (by decide) rfl (by decide) (by decide) (fun _ => rfl) (by decide) 0 rfl rfl rfl (Nat.le_of_ble_eq_true rfl) zd_De_isRead_16 (fun r _ H locs hp h => ?_)
    obtain ⟨rfl, -⟩ := hp
    have h : zH D A s [(r0, .inr (3, [.int (nI u1)])), (o, .inr (1, [.ref a, .int (nI n)])), (a, .inl (cB, N, .inl (f))), (o2, .inr (1, [.ref a2, .int (nI n2)])), (a2, .inl (cB2, N2, .inl (f2))), (o3, .inr (1, [.ref a3, .int (nI 0)])), (a3, .inl (cB3, N3, .inl (f3)))] H locs := h
    refine lv_icmp_eq (tgt := 24) X.1.1 X.1.2.1 zd_De_isRead_19 rfl (fun c1 => ?_) (fun c1 => ?_)
    · exact absurd c1 (m1_ne (by omega))
    · have hno : rdA (tx f n) (tx f2 n2) = none := by
        unfold rdA; rw [e1]
      refine lv_iconst (v := nI 0) X.1.1 X.1.2.1 zd_De_isRead_22 (by decide) ?_
      exact ret _ (u1, 0, f3) H locs ls _ (rfl) (⟨Or.inl ⟨rfl, hno⟩, by dsimp only; omega, hf3⟩) h zd_De_isRead_23
  · refine lv_aload_n X.1.1 X.1.2.1 zd_De_isRead_15 rfl (lv_at hl 2 rfl) ?_
    refine rCi (wr := [(r0, .inr (3, [.int (nI u1)])), (o, .inr (1, [.ref a, .int (nI n)])), (a, .inl (cB, N, .inl (f))), (o3, .inr (1, [.ref a3, .int (nI 0)])), (a3, .inl (cB3, N3, .inl (f3)))]) (wf := fun _ => [(r0, .inr (3, [.int (nI u1)])), (o, .inr (1, [.ref a, .int (nI n)])), (a, .inl (cB, N, .inl (f))), (o2, .inr (1, [.ref a2, .int (nI n2)])), (a2, .inl (cB2, N2, .inl (f2))), (o3, .inr (1, [.ref a3, .int (nI 0)])), (a3, .inl (cB3, N3, .inl (f3)))]) (rest := [.int (nI v1)]) X h hl.1 (zc_Tx_size l D (o := o2) (a := a2) (n := n2) (N := N2) (f := f2) (cB := cB2)  H.size) zw_410 zw_145 zw_146 zw_2 zm_Tx_size zq_Tx_size ⟨Nat.le_of_ble_eq_true rfl, Nat.le_of_ble_eq_true rfl⟩ ⟨Nat.le_of_ble_eq_true rfl, Nat.le_of_ble_eq_true rfl⟩ [1] rfl [3, 4] [0, 1, 2, 5, 6] [0, 1, 2, 5, 6, 3, 4] rfl (by decide) rfl (by decide) (by decide) (fun _ => rfl) (by decide) 0 rfl rfl rfl (Nat.le_of_ble_eq_true rfl) zd_De_isRead_16 (fun r _ H locs hp h => ?_)
    obtain ⟨rfl, -⟩ := hp
    have h : zH D A s [(r0, .inr (3, [.int (nI u1)])), (o, .inr (1, [.ref a, .int (nI n)])), (a, .inl (cB, N, .inl (f))), (o2, .inr (1, [.ref a2, .int (nI n2)])), (a2, .inl (cB2, N2, .inl (f2))), (o3, .inr (1, [.ref a3, .int (nI 0)])), (a3, .inl (cB3, N3, .inl (f3)))] H locs := h
    refine lv_icmp_eq (tgt := 24) X.1.1 X.1.2.1 zd_De_isRead_19 rfl (fun c1 => ?_) (fun c1 => ?_)
    · have c1 : v1 = n2 := zc_eq_t (by omega) (by omega) c1
      refine lv_aload_n X.1.1 X.1.2.1 zd_De_isRead_24 rfl (lv_at hl 0 rfl) ?_
      refine lv_aload_n X.1.1 X.1.2.1 zd_De_isRead_25 rfl (lv_at hl 1 rfl) ?_
      refine rCi (wr := [(o2, .inr (1, [.ref a2, .int (nI n2)])), (a2, .inl (cB2, N2, .inl (f2))), (o3, .inr (1, [.ref a3, .int (nI 0)])), (a3, .inl (cB3, N3, .inl (f3)))]) (wf := fun u2 => [(r0, .inr (3, [.int (nI u2)])), (o, .inr (1, [.ref a, .int (nI n)])), (a, .inl (cB, N, .inl (f))), (o2, .inr (1, [.ref a2, .int (nI n2)])), (a2, .inl (cB2, N2, .inl (f2))), (o3, .inr (1, [.ref a3, .int (nI 0)])), (a3, .inl (cB3, N3, .inl (f3)))]) (rest := []) X h hl.1 (zc_De_readNumber l D (r0 := r0) (pl := u1) (o := o) (a := a) (n := n) (N := N) (f := f) (cB := cB) (hu1) (hnN) (hN) H.size) zw_406 zw_408 zs_13 zw_4 zm_De_readNumber zq_De_readNumber ⟨Nat.le_of_ble_eq_true rfl, Nat.le_of_ble_eq_true rfl⟩ ⟨Nat.le_of_ble_eq_true rfl, Nat.le_of_ble_eq_true rfl⟩ [0] rfl [0, 1, 2] [3, 4, 5, 6] [4, 5, 6, 0, 1, 2, 3] rfl (by decide) rfl (by decide) (by decide) (fun _ => rfl) (by decide) 0 rfl rfl rfl (Nat.le_of_ble_eq_true rfl) zd_De_isRead_26 (fun r u2 H locs hp h => ?_)
      have q2 : ((rdN (tx f n) 4 0 u1 0 = none ∧ r = (-1)) ∨ ∃ v, rdN (tx f n) 4 0 u1 0 = some (v, u2) ∧ r = nI v ∧ v < 2 ^ 28) ∧ u2 ≤ n := hp
      have h : zH D A s [(r0, .inr (3, [.int (nI u2)])), (o, .inr (1, [.ref a, .int (nI n)])), (a, .inl (cB, N, .inl (f))), (o2, .inr (1, [.ref a2, .int (nI n2)])), (a2, .inl (cB2, N2, .inl (f2))), (o3, .inr (1, [.ref a3, .int (nI 0)])), (a3, .inl (cB3, N3, .inl (f3)))] H locs := h
      obtain ⟨q2, hu2⟩ := q2
      rcases q2 with ⟨e2, rfl⟩ | ⟨due, e2, rfl, b2⟩
      · refine lv_istore X.1.1 X.1.2.1 zd_De_isRead_29 hl (by decide) rfl (fun ls hl => ?_)
        have hl : lv_has ls 7 [(4, .int ((-1))), (0, .ref r0), (1, .ref o), (2, .ref o2), (3, .ref o3)] := hl
        refine lv_iload X.1.1 X.1.2.1 zd_De_isRead_31 (lv_at hl 0 rfl) ?_
        refine lv_iconst (v := (-1)) X.1.1 X.1.2.1 zd_De_isRead_33 (by decide) ?_
        refine lv_icmp_eq (tgt := 44) X.1.1 X.1.2.1 zd_De_isRead_34 rfl (fun c2 => ?_) (fun c2 => ?_)
        · have hno : rdA (tx f n) (tx f2 n2) = none := by
            unfold rdA; rw [e1]; dsimp only; rw [tx_len, if_pos c1, e2]
          refine lv_iconst (v := nI 0) X.1.1 X.1.2.1 zd_De_isRead_44 (by decide) ?_
          exact ret _ (u2, 0, f3) H locs ls _ (rfl) (⟨Or.inl ⟨rfl, hno⟩, by dsimp only; omega, hf3⟩) h zd_De_isRead_45
        · exact absurd rfl c2
      · refine lv_istore X.1.1 X.1.2.1 zd_De_isRead_29 hl (by decide) rfl (fun ls hl => ?_)
        have hl : lv_has ls 7 [(4, .int (nI due)), (0, .ref r0), (1, .ref o), (2, .ref o2), (3, .ref o3)] := hl
        refine lv_iload X.1.1 X.1.2.1 zd_De_isRead_31 (lv_at hl 0 rfl) ?_
        refine lv_iconst (v := (-1)) X.1.1 X.1.2.1 zd_De_isRead_33 (by decide) ?_
        refine lv_icmp_eq (tgt := 44) X.1.1 X.1.2.1 zd_De_isRead_34 rfl (fun c2 => ?_) (fun c2 => ?_)
        · exact absurd c2.symm (m1_ne (by omega))
        · refine lv_iload X.1.1 X.1.2.1 zd_De_isRead_37 (lv_at hl 0 rfl) ?_
          refine lv_ldc X.1.1 X.1.2.1 X.1.2.2.2.1 (X.1.2.2.2.2 _ zw_415) zd_De_isRead_39 ?_
          refine zTop (y := nI 65536) (by decide) ?_
          refine lv_icmp_le (tgt := 46) X.1.1 X.1.2.1 zd_De_isRead_41 rfl (fun c3 => ?_) (fun c3 => ?_)
          · have c3 : due ≤ 65536 := zc_le_t (by omega) (by omega) c3
            have hA : rdA (tx f n) (tx f2 n2) = rdB (tx f n) (tx f2 n2) due (n + 1) u2 (tx f3 0) := by
              unfold rdA; rw [e1]; dsimp only; rw [tx_len, tx_len, if_pos c1, e2]; dsimp only; rw [if_pos c3]; rfl
            have loop : ∀ (fu : Nat) (q : Nat) (p1 : Nat) (n4 : Nat) (g : Nat → Int32) (ls : Array Slot) (H : Heap) (locs : List Loc), n - p1 < fu → n < p1 + q → p1 ≤ n → n4 ≤ due → sb_Fit g → rdA (tx f n) (tx f2 n2) = rdB (tx f n) (tx f2 n2) due q p1 (tx g n4) → lv_has ls 7 [(0, .ref r0), (1, .ref o), (2, .ref o2), (3, .ref o3), (4, .int (nI due))] → zH D A s [(r0, .inr (3, [.int (nI p1)])), (o, .inr (1, [.ref a, .int (nI n)])), (a, .inl (cB, N, .inl (f))), (o2, .inr (1, [.ref a2, .int (nI n2)])), (a2, .inl (cB2, N2, .inl (f2))), (o3, .inr (1, [.ref a3, .int (nI n4)])), (a3, .inl (cB3, N3, .inl (g)))] H locs → W p l e ({ frames := 3, cells := 0, slots := 0, locals := 74 } : Room) s m args below meth c H locs 0 0 Q (F0 m 46 ls []) := by
              intro fu
              induction fu with
              | zero => intro q p1 n4 g ls H locs hfu; exact absurd hfu (Nat.not_lt_zero _)
              | succ fu ih =>
                intro q p1 n4 g ls H locs hfu hq hp1 hn4 hg he hl h
                obtain ⟨q, rfl⟩ : ∃ q1, q = q1 + 1 := ⟨q - 1, by omega⟩
                refine lv_aload_n X.1.1 X.1.2.1 zd_De_isRead_46 rfl (lv_at hl 0 rfl) ?_
                refine rG X h 0 rfl rfl zW_De 0 (by decide) zw_101 rfl zd_De_isRead_47 ?_
                refine lv_aload_n X.1.1 X.1.2.1 zd_De_isRead_50 rfl (lv_at hl 1 rfl) ?_
                refine rCi (wr := [(r0, .inr (3, [.int (nI p1)])), (o2, .inr (1, [.ref a2, .int (nI n2)])), (a2, .inl (cB2, N2, .inl (f2))), (o3, .inr (1, [.ref a3, .int (nI n4)])), (a3, .inl (cB3, N3, .inl (g)))]) (wf := fun _ => [(r0, .inr (3, [.int (nI p1)])), (o, .inr (1, [.ref a, .int (nI n)])), (a, .inl (cB, N, .inl (f))), (o2, .inr (1, [.ref a2, .int (nI n2)])), (a2, .inl (cB2, N2, .inl (f2))), (o3, .inr (1, [.ref a3, .int (nI n4)])), (a3, .inl (cB3, N3, .inl (g)))]) (rest := [.int (nI p1)]) X h hl.1 (zc_Tx_size l D (o := o) (a := a) (n := n) (N := N) (f := f) (cB := cB)  H.size) zw_410 zw_145 zw_146 zw_2 zm_Tx_size zq_Tx_size ⟨Nat.le_of_ble_eq_true rfl, Nat.le_of_ble_eq_true rfl⟩ ⟨Nat.le_of_ble_eq_true rfl, Nat.le_of_ble_eq_true rfl⟩ [0] rfl [1, 2] [0, 3, 4, 5, 6] [0, 5, 6, 1, 2, 3, 4] rfl (by decide) rfl (by decide) (by decide) (fun _ => rfl) (by decide) 0 rfl rfl rfl (Nat.le_of_ble_eq_true rfl) zd_De_isRead_51 (fun r _ H locs hp h => ?_)
                obtain ⟨rfl, -⟩ := hp
                have h : zH D A s [(r0, .inr (3, [.int (nI p1)])), (o, .inr (1, [.ref a, .int (nI n)])), (a, .inl (cB, N, .inl (f))), (o2, .inr (1, [.ref a2, .int (nI n2)])), (a2, .inl (cB2, N2, .inl (f2))), (o3, .inr (1, [.ref a3, .int (nI n4)])), (a3, .inl (cB3, N3, .inl (g)))] H locs := h
                refine lv_icmp_ge (tgt := 121) X.1.1 X.1.2.1 zd_De_isRead_54 rfl (fun c4 => ?_) (fun c4 => ?_)
                · have c4 : n ≤ p1 := zc_ge_t (by omega) (by omega) c4
                  rw [rdB_end (by rw [tx_len]; exact c4), tx_len] at he
                  refine lv_aload_n X.1.1 X.1.2.1 zd_De_isRead_121 rfl (lv_at hl 3 rfl) ?_
                  refine rCi (wr := [(r0, .inr (3, [.int (nI p1)])), (o, .inr (1, [.ref a, .int (nI n)])), (a, .inl (cB, N, .inl (f))), (o2, .inr (1, [.ref a2, .int (nI n2)])), (a2, .inl (cB2, N2, .inl (f2)))]) (wf := fun _ => [(r0, .inr (3, [.int (nI p1)])), (o, .inr (1, [.ref a, .int (nI n)])), (a, .inl (cB, N, .inl (f))), (o2, .inr (1, [.ref a2, .int (nI n2)])), (a2, .inl (cB2, N2, .inl (f2))), (o3, .inr (1, [.ref a3, .int (nI n4)])), (a3, .inl (cB3, N3, .inl (g)))]) (rest := []) X h hl.1 (zc_Tx_size l D (o := o3) (a := a3) (n := n4) (N := N3) (f := g) (cB := cB3)  H.size) zw_410 zw_145 zw_146 zw_2 zm_Tx_size zq_Tx_size ⟨Nat.le_of_ble_eq_true rfl, Nat.le_of_ble_eq_true rfl⟩ ⟨Nat.le_of_ble_eq_true rfl, Nat.le_of_ble_eq_true rfl⟩ [2] rfl [5, 6] [0, 1, 2, 3, 4] [0, 1, 2, 3, 4, 5, 6] rfl (by decide) rfl (by decide) (by decide) (fun _ => rfl) (by decide) 0 rfl rfl rfl (Nat.le_of_ble_eq_true rfl) zd_De_isRead_122 (fun r _ H locs hp h => ?_)
                  obtain ⟨rfl, -⟩ := hp
                  have h : zH D A s [(r0, .inr (3, [.int (nI p1)])), (o, .inr (1, [.ref a, .int (nI n)])), (a, .inl (cB, N, .inl (f))), (o2, .inr (1, [.ref a2, .int (nI n2)])), (a2, .inl (cB2, N2, .inl (f2))), (o3, .inr (1, [.ref a3, .int (nI n4)])), (a3, .inl (cB3, N3, .inl (g)))] H locs := h
                  refine lv_iload X.1.1 X.1.2.1 zd_De_isRead_125 (lv_at hl 4 rfl) ?_
                  refine lv_icmp_ne (tgt := 134) X.1.1 X.1.2.1 zd_De_isRead_127 rfl (fun c5 => ?_) (fun c5 => ?_)
                  · have c5 : n4 ≠ due := zc_ne_t (by omega) (by omega) c5
                    have hno : rdA (tx f n) (tx f2 n2) = none := by
                      rw [he, if_neg c5]
                    refine lv_iconst (v := nI 0) X.1.1 X.1.2.1 zd_De_isRead_134 (by decide) ?_
                    exact ret _ (p1, n4, g) H locs ls _ (rfl) (⟨Or.inl ⟨rfl, hno⟩, by dsimp only; omega, hg⟩) h zd_De_isRead_135
                  · have c5 : n4 = due := zc_ne_f (by omega) (by omega) c5
                    rw [if_pos c5] at he
                    refine lv_iconst (v := nI 1) X.1.1 X.1.2.1 zd_De_isRead_130 (by decide) ?_
                    refine lv_goto (tgt := 135) X.1.1 X.1.2.1 zd_De_isRead_131 rfl ?_
                    exact ret _ (p1, n4, g) H locs ls _ (rfl) (⟨Or.inr ⟨rfl, he⟩, by show n4 ≤ 65536; omega, hg⟩) h zd_De_isRead_135
                · have c4 : p1 < n := zc_ge_f (by omega) (by omega) c4
                  have c6 : p1 < (tx f n).length := by rw [tx_len]; exact c4
                  have hub := ub_lt (f p1)
                  refine lv_aload_n X.1.1 X.1.2.1 zd_De_isRead_57 rfl (lv_at hl 1 rfl) ?_
                  refine lv_aload_n X.1.1 X.1.2.1 zd_De_isRead_58 rfl (lv_at hl 0 rfl) ?_
                  refine rG X h 0 rfl rfl zW_De 0 (by decide) zw_101 rfl zd_De_isRead_59 ?_
                  refine rCi (wr := [(r0, .inr (3, [.int (nI p1)])), (o2, .inr (1, [.ref a2, .int (nI n2)])), (a2, .inl (cB2, N2, .inl (f2))), (o3, .inr (1, [.ref a3, .int (nI n4)])), (a3, .inl (cB3, N3, .inl (g)))]) (wf := fun _ => [(r0, .inr (3, [.int (nI p1)])), (o, .inr (1, [.ref a, .int (nI n)])), (a, .inl (cB, N, .inl (f))), (o2, .inr (1, [.ref a2, .int (nI n2)])), (a2, .inl (cB2, N2, .inl (f2))), (o3, .inr (1, [.ref a3, .int (nI n4)])), (a3, .inl (cB3, N3, .inl (g)))]) (rest := []) X h hl.1 (zc_Tx_at l D (o := o) (a := a) (n := n) (N := N) (f := f) (cB := cB) (j := p1) (by omega) (by omega) H.size) zw_411 zw_412 zw_413 zw_2 zm_Tx_at zq_Tx_at ⟨Nat.le_of_ble_eq_true rfl, Nat.le_of_ble_eq_true rfl⟩ ⟨Nat.le_of_ble_eq_true rfl, Nat.le_of_ble_eq_true rfl⟩ [0] rfl [1, 2] [0, 3, 4, 5, 6] [0, 5, 6, 1, 2, 3, 4] rfl (by decide) rfl (by decide) (by decide) (fun _ => rfl) (by decide) 0 rfl rfl rfl (Nat.le_of_ble_eq_true rfl) zd_De_isRead_62 (fun r _ H locs hp h => ?_)
                  obtain ⟨rfl, -⟩ := hp
                  have h : zH D A s [(r0, .inr (3, [.int (nI p1)])), (o, .inr (1, [.ref a, .int (nI n)])), (a, .inl (cB, N, .inl (f))), (o2, .inr (1, [.ref a2, .int (nI n2)])), (a2, .inl (cB2, N2, .inl (f2))), (o3, .inr (1, [.ref a3, .int (nI n4)])), (a3, .inl (cB3, N3, .inl (g)))] H locs := h
                  refine lv_istore X.1.1 X.1.2.1 zd_De_isRead_65 hl (by decide) rfl (fun ls hl => ?_)
                  have hl : lv_has ls 7 [(5, .int (nI (ub (f p1)))), (0, .ref r0), (1, .ref o), (2, .ref o2), (3, .ref o3), (4, .int (nI due))] := hl
                  refine lv_aload_n X.1.1 X.1.2.1 zd_De_isRead_67 rfl (lv_at hl 1 rfl) ?_
                  refine lv_dup X.1.1 X.1.2.1 zd_De_isRead_68 rfl ?_
                  refine rG X h 0 rfl rfl zW_De 0 (by decide) zw_101 rfl zd_De_isRead_69 ?_
                  refine lv_iconst (v := nI 1) X.1.1 X.1.2.1 zd_De_isRead_72 (by decide) ?_
                  refine lv_iadd X.1.1 X.1.2.1 zd_De_isRead_73 ?_
                  refine zTop (y := nI (p1 + 1)) (nI_add _ _) ?_
                  refine rP X h 0 rfl rfl zW_De zO_De zN_De 0 (by decide) zw_101 rfl (rfl) (rfl) (Nat.le_of_ble_eq_true rfl) zd_De_isRead_74 (fun H locs h => ?_)
                  have h : zH D A s [(r0, .inr (3, [.int (nI (p1 + 1))])), (o, .inr (1, [.ref a, .int (nI n)])), (a, .inl (cB, N, .inl (f))), (o2, .inr (1, [.ref a2, .int (nI n2)])), (a2, .inl (cB2, N2, .inl (f2))), (o3, .inr (1, [.ref a3, .int (nI n4)])), (a3, .inl (cB3, N3, .inl (g)))] H locs := h
                  refine lv_iload X.1.1 X.1.2.1 zd_De_isRead_77 (lv_at hl 0 rfl) ?_
                  refine lv_sipush (v := nI 128) X.1.1 X.1.2.1 zd_De_isRead_79 (by decide) ?_
                  refine lv_icmp_lt (tgt := 99) X.1.1 X.1.2.1 zd_De_isRead_82 rfl (fun c7 => ?_) (fun c7 => ?_)
                  · have c7 : ub (f p1) < 128 := zc_lt_t (by omega) (by omega) c7
                    have hW := rdB_W (T := tx f2 n2) (made := tx g n4) (due := due) (q := q) c6 (by rw [tf_tx c4]; omega)
                    rw [tf_tx c4, tx_len, tx_len] at hW
                    refine lv_aload_n X.1.1 X.1.2.1 zd_De_isRead_99 rfl (lv_at hl 1 rfl) ?_
                    refine lv_aload_n X.1.1 X.1.2.1 zd_De_isRead_100 rfl (lv_at hl 2 rfl) ?_
                    refine lv_iload X.1.1 X.1.2.1 zd_De_isRead_101 (lv_at hl 0 rfl) ?_
                    refine lv_aload_n X.1.1 X.1.2.1 zd_De_isRead_103 rfl (lv_at hl 4 rfl) ?_
                    refine lv_iload X.1.1 X.1.2.1 zd_De_isRead_104 (lv_at hl 5 rfl) ?_
                    refine rCi (wr := [(o2, .inr (1, [.ref a2, .int (nI n2)])), (a2, .inl (cB2, N2, .inl (f2)))]) (wf := fun u => [(r0, .inr (3, [.int (nI u.1)])), (o, .inr (1, [.ref a, .int (nI n)])), (a, .inl (cB, N, .inl (f))), (o2, .inr (1, [.ref a2, .int (nI n2)])), (a2, .inl (cB2, N2, .inl (f2))), (o3, .inr (1, [.ref a3, .int (nI u.2.1)])), (a3, .inl (cB3, N3, .inl (u.2.2)))]) (rest := []) X h hl.1 (zc_De_isNewRead l D (r0 := r0) (pl := p1 + 1) (o := o) (a := a) (n := n) (N := N) (f := f) (cB := cB) (o3 := o3) (a3 := a3) (n3 := n4) (N3 := N3) (f3 := g) (cB3 := cB3) (b := ub (f p1)) (due := due) (by omega) (hnN) (hN) (hf) (hn4) (by omega) (hN3) (hg) (by omega) H.size) zw_425 zw_427 zs_16 zw_4 zm_De_isNewRead zq_De_isNewRead ⟨Nat.le_of_ble_eq_true rfl, Nat.le_of_ble_eq_true rfl⟩ ⟨Nat.le_of_ble_eq_true rfl, Nat.le_of_ble_eq_true rfl⟩ [0, 2] rfl [0, 1, 2, 5, 6] [3, 4] [2, 3, 4, 0, 1, 5, 6] rfl (by decide) rfl (by decide) (by decide) (fun _ => rfl) (by decide) 0 rfl rfl rfl (Nat.le_of_ble_eq_true rfl) zd_De_isRead_106 (fun r u H locs hp h => ?_)
                    have q3 : ((r = 0 ∧ rdW n due (ub (f p1)) (p1 + 1) n4) ∨ (r = 1 ∧ ¬ rdW n due (ub (f p1)) (p1 + 1) n4 ∧ u.1 = p1 + 1 + (ub (f p1)) ∧ tx u.2.2 u.2.1 = tx g n4 ++ (((tx f n)).drop (p1 + 1)).take (ub (f p1)))) ∧ u.1 ≤ n ∧ u.2.1 ≤ due ∧ sb_Fit u.2.2 := hp
                    have h : zH D A s [(r0, .inr (3, [.int (nI u.1)])), (o, .inr (1, [.ref a, .int (nI n)])), (a, .inl (cB, N, .inl (f))), (o2, .inr (1, [.ref a2, .int (nI n2)])), (a2, .inl (cB2, N2, .inl (f2))), (o3, .inr (1, [.ref a3, .int (nI u.2.1)])), (a3, .inl (cB3, N3, .inl (u.2.2)))] H locs := h
                    obtain ⟨p2, n5, g2⟩ := u
                    have h : zH D A s [(r0, .inr (3, [.int (nI p2)])), (o, .inr (1, [.ref a, .int (nI n)])), (a, .inl (cB, N, .inl (f))), (o2, .inr (1, [.ref a2, .int (nI n2)])), (a2, .inl (cB2, N2, .inl (f2))), (o3, .inr (1, [.ref a3, .int (nI n5)])), (a3, .inl (cB3, N3, .inl (g2)))] H locs := h
                    obtain ⟨q3, hp2, hn5, hg2⟩ := q3
                    dsimp only at q3 hp2 hn5 hg2
                    rcases q3 with ⟨rfl, e3⟩ | ⟨rfl, e3, e4, e5⟩
                    · refine lv_istore X.1.1 X.1.2.1 zd_De_isRead_109 hl (by decide) rfl (fun ls hl => ?_)
                      have hl : lv_has ls 7 [(6, .int 0), (5, .int (nI (ub (f p1)))), (0, .ref r0), (1, .ref o), (2, .ref o2), (3, .ref o3), (4, .int (nI due))] := hl
                      refine lv_iload X.1.1 X.1.2.1 zd_De_isRead_111 (lv_at hl 0 rfl) ?_
                      refine lv_if_ne (tgt := 118) X.1.1 X.1.2.1 zd_De_isRead_113 rfl (fun c8 => ?_) (fun c8 => ?_)
                      · exact absurd rfl c8
                      · have hno : rdA (tx f n) (tx f2 n2) = none := by
                          rw [he, hW.1 e3]
                        refine lv_iconst (v := nI 0) X.1.1 X.1.2.1 zd_De_isRead_116 (by decide) ?_
                        exact ret _ (p2, n5, g2) H locs ls _ (rfl) (⟨Or.inl ⟨rfl, hno⟩, by dsimp only; omega, hg2⟩) h zd_De_isRead_117
                    · rw [hW.2 e3, ← e4, ← e5] at he
                      refine lv_istore X.1.1 X.1.2.1 zd_De_isRead_109 hl (by decide) rfl (fun ls hl => ?_)
                      have hl : lv_has ls 7 [(6, .int 1), (5, .int (nI (ub (f p1)))), (0, .ref r0), (1, .ref o), (2, .ref o2), (3, .ref o3), (4, .int (nI due))] := hl
                      refine lv_iload X.1.1 X.1.2.1 zd_De_isRead_111 (lv_at hl 0 rfl) ?_
                      refine lv_if_ne (tgt := 118) X.1.1 X.1.2.1 zd_De_isRead_113 rfl (fun c8 => ?_) (fun c8 => ?_)
                      · have hpos : ub (f p1) ≠ 0 := fun z => e3 (Or.inl z)
                        refine lv_goto (tgt := 46) X.1.1 X.1.2.1 zd_De_isRead_118 rfl ?_
                        exact ih q p2 n5 g2 ls H locs (by omega) (by omega) (hp2) (hn5) (hg2) (he) (lv_sub hl [2, 3, 4, 5, 6] rfl) h
                      · exact absurd c8 (by decide)
                  · have c7 : 128 ≤ ub (f p1) := zc_lt_f (by omega) (by omega) c7
                    rw [rdB_K c6 (by rw [tf_tx c4]; exact c7), tf_tx c4, tx_len] at he
                    refine lv_aload_n X.1.1 X.1.2.1 zd_De_isRead_85 rfl (lv_at hl 1 rfl) ?_
                    refine lv_aload_n X.1.1 X.1.2.1 zd_De_isRead_86 rfl (lv_at hl 2 rfl) ?_
                    refine lv_iload X.1.1 X.1.2.1 zd_De_isRead_87 (lv_at hl 0 rfl) ?_
                    refine lv_aload_n X.1.1 X.1.2.1 zd_De_isRead_89 rfl (lv_at hl 3 rfl) ?_
                    refine lv_aload_n X.1.1 X.1.2.1 zd_De_isRead_90 rfl (lv_at hl 4 rfl) ?_
                    refine lv_iload X.1.1 X.1.2.1 zd_De_isRead_91 (lv_at hl 5 rfl) ?_
                    refine rCi (wr := []) (wf := fun u => [(r0, .inr (3, [.int (nI u.1)])), (o, .inr (1, [.ref a, .int (nI n)])), (a, .inl (cB, N, .inl (f))), (o2, .inr (1, [.ref a2, .int (nI n2)])), (a2, .inl (cB2, N2, .inl (f2))), (o3, .inr (1, [.ref a3, .int (nI u.2.1)])), (a3, .inl (cB3, N3, .inl (u.2.2)))]) (rest := []) X h hl.1 (zc_De_isCopyRead l D (r0 := r0) (pl := p1 + 1) (o := o) (a := a) (n := n) (N := N) (f := f) (cB := cB) (o2 := o2) (a2 := a2) (n2 := n2) (N2 := N2) (f2 := f2) (cB2 := cB2) (o3 := o3) (a3 := a3) (n3 := n4) (N3 := N3) (f3 := g) (cB3 := cB3) (b := ub (f p1)) (due := due) (by omega) (hnN) (hN) (h2) (hN2) (hf2) (hn4) (by omega) (hN3) (hg) (by omega) H.size) zw_416 zw_418 zs_14 zw_4 zm_De_isCopyRead zq_De_isCopyRead ⟨Nat.le_of_ble_eq_true rfl, Nat.le_of_ble_eq_true rfl⟩ ⟨Nat.le_of_ble_eq_true rfl, Nat.le_of_ble_eq_true rfl⟩ [0, 1, 2] rfl [0, 1, 2, 3, 4, 5, 6] [] [0, 1, 2, 3, 4, 5, 6] rfl (by decide) rfl (by decide) (by decide) (fun _ => rfl) (by decide) 0 rfl rfl rfl (Nat.le_of_ble_eq_true rfl) zd_De_isRead_93 (fun r u H locs hp h => ?_)
                    have q3 : ((r = 0 ∧ rdK (tx f n) (tx f2 n2) due (ub (f p1)) (p1 + 1) n4 = none) ∨ (r = 1 ∧ ∃ fr mn, rdK (tx f n) (tx f2 n2) due (ub (f p1)) (p1 + 1) n4 = some (u.1, fr, mn) ∧ tx u.2.2 u.2.1 = tx g n4 ++ (((tx f2 n2)).drop fr).take mn)) ∧ u.1 ≤ n ∧ u.2.1 ≤ due ∧ sb_Fit u.2.2 := hp
                    have h : zH D A s [(r0, .inr (3, [.int (nI u.1)])), (o, .inr (1, [.ref a, .int (nI n)])), (a, .inl (cB, N, .inl (f))), (o2, .inr (1, [.ref a2, .int (nI n2)])), (a2, .inl (cB2, N2, .inl (f2))), (o3, .inr (1, [.ref a3, .int (nI u.2.1)])), (a3, .inl (cB3, N3, .inl (u.2.2)))] H locs := h
                    obtain ⟨p2, n5, g2⟩ := u
                    have h : zH D A s [(r0, .inr (3, [.int (nI p2)])), (o, .inr (1, [.ref a, .int (nI n)])), (a, .inl (cB, N, .inl (f))), (o2, .inr (1, [.ref a2, .int (nI n2)])), (a2, .inl (cB2, N2, .inl (f2))), (o3, .inr (1, [.ref a3, .int (nI n5)])), (a3, .inl (cB3, N3, .inl (g2)))] H locs := h
                    obtain ⟨q3, hp2, hn5, hg2⟩ := q3
                    dsimp only at q3 hp2 hn5 hg2
                    rcases q3 with ⟨rfl, e3⟩ | ⟨rfl, fr, mn, e3, e5⟩
                    · refine lv_goto (tgt := 109) X.1.1 X.1.2.1 zd_De_isRead_96 rfl ?_
                      refine lv_istore X.1.1 X.1.2.1 zd_De_isRead_109 hl (by decide) rfl (fun ls hl => ?_)
                      have hl : lv_has ls 7 [(6, .int 0), (5, .int (nI (ub (f p1)))), (0, .ref r0), (1, .ref o), (2, .ref o2), (3, .ref o3), (4, .int (nI due))] := hl
                      refine lv_iload X.1.1 X.1.2.1 zd_De_isRead_111 (lv_at hl 0 rfl) ?_
                      refine lv_if_ne (tgt := 118) X.1.1 X.1.2.1 zd_De_isRead_113 rfl (fun c8 => ?_) (fun c8 => ?_)
                      · exact absurd rfl c8
                      · have hno : rdA (tx f n) (tx f2 n2) = none := by
                          rw [he, e3]
                        refine lv_iconst (v := nI 0) X.1.1 X.1.2.1 zd_De_isRead_116 (by decide) ?_
                        exact ret _ (p2, n5, g2) H locs ls _ (rfl) (⟨Or.inl ⟨rfl, hno⟩, by dsimp only; omega, hg2⟩) h zd_De_isRead_117
                    · rw [e3] at he
                      dsimp only at he
                      rw [← e5] at he
                      have hadv := rdK_le e3
                      refine lv_goto (tgt := 109) X.1.1 X.1.2.1 zd_De_isRead_96 rfl ?_
                      refine lv_istore X.1.1 X.1.2.1 zd_De_isRead_109 hl (by decide) rfl (fun ls hl => ?_)
                      have hl : lv_has ls 7 [(6, .int 1), (5, .int (nI (ub (f p1)))), (0, .ref r0), (1, .ref o), (2, .ref o2), (3, .ref o3), (4, .int (nI due))] := hl
                      refine lv_iload X.1.1 X.1.2.1 zd_De_isRead_111 (lv_at hl 0 rfl) ?_
                      refine lv_if_ne (tgt := 118) X.1.1 X.1.2.1 zd_De_isRead_113 rfl (fun c8 => ?_) (fun c8 => ?_)
                      · refine lv_goto (tgt := 46) X.1.1 X.1.2.1 zd_De_isRead_118 rfl ?_
                        exact ih q p2 n5 g2 ls H locs (by omega) (by omega) (hp2) (hn5) (hg2) (he) (lv_sub hl [2, 3, 4, 5, 6] rfl) h
                      · exact absurd c8 (by decide)
            exact loop _ (n + 1) u2 0 f3 ls H locs (Nat.lt_succ_self _) (by omega) (hu2) (by omega) (hf3) (hA) (lv_sub hl [1, 2, 3, 4, 0] rfl) h
          · have c3 : 65536 < due := zc_le_f (by omega) (by omega) c3
            have hno : rdA (tx f n) (tx f2 n2) = none := by
              unfold rdA; rw [e1]; dsimp only; rw [tx_len, if_pos c1, e2]; dsimp only; rw [if_neg (by omega)]
            refine lv_iconst (v := nI 0) X.1.1 X.1.2.1 zd_De_isRead_44 (by decide) ?_
            exact ret _ (u2, 0, f3) H locs ls _ (rfl) (⟨Or.inl ⟨rfl, hno⟩, by dsimp only; omega, hf3⟩) h zd_De_isRead_45
    · have c1 : v1 ≠ n2 := zc_eq_f (by omega) (by omega) c1
      have hno : rdA (tx f n) (tx f2 n2) = none := by
        unfold rdA; rw [e1]; dsimp only; rw [tx_len, if_neg c1]
      refine lv_iconst (v := nI 0) X.1.1 X.1.2.1 zd_De_isRead_22 (by decide) ?_
      exact ret _ (u1, 0, f3) H locs ls _ (rfl) (⟨Or.inl ⟨rfl, hno⟩, by dsimp only; omega, hf3⟩) h zd_De_isRead_23
