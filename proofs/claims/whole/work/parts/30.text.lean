/-! DeltaPress$Text -/
/-- BYTE k of v -/
def byt (v k : Nat) : Nat := v / 2 ^ (8 * k) % 256
theorem byt_lt (v k : Nat) : byt v k < 256 := Nat.mod_lt _ (by decide)
/-- the BYTES of v that are not 0: q more, the next one is BYTE k -/
def nzS (v : Nat) : Nat → Nat → List Int32
  | _, 0 => []
  | k, q + 1 => nzB (byt v k) ++ nzS v (k + 1) q
theorem nzS_le (v : Nat) : ∀ (q k : Nat), (nzS v k q).length ≤ q := by
  intro q
  induction q with
  | zero => intro k; exact Nat.le_refl _
  | succ q ih =>
    intro k
    have h1 := nz_len (byt v k)
    have h2 := ih (k + 1)
    unfold nzS
    rw [List.length_append]
    omega
theorem nI_255 {v : Nat} (h : v < 2 ^ 32) : nI v &&& nI 255 = nI (v % 256) := pk_andN h 8 (by decide)
theorem b8_small {v : Nat} (h : v < 128) : b8 (nI v) = nI v := by
  have e : ∀ v, v < 128 → b8 (nI v) = nI v := by decide +kernel
  exact e v h
theorem byt_sh {v k : Nat} (h : v < 2 ^ 31) (hk : k < 4) : ((nI v).toUInt32 >>> ((nI (8 * k)).toUInt32 &&& Int32.toUInt32 31)).toInt32 &&& nI 255 = nI (byt v k) := by
  rw [ush_eq _ (by omega), ush_nI (by omega)]
  exact nI_255 (Nat.lt_of_le_of_lt (Nat.div_le_self _ _) (by omega))

set_option maxHeartbeats 4000000 in
set_option maxRecDepth 100000 in
theorem zc_Tx_size (l : Launch) (D : va_G) {o a n N : Nat} {f : Nat → Int32} {cB : ClassId}  (sz : Nat) : zMi l D zy_Tx_size zb_Tx_size 1 .int ({ frames := 0, cells := 0, slots := 0, locals := 0 } : Room) [.ref o] [(cB, .byte)] [(o, .inr (1, [.ref a, .int (nI n)])), (a, .inl (cB, N, .inl (f)))] sz (fun (r : Int32) (u : Unit) => r = nI n ∧ True) (fun _ => [(o, .inr (1, [.ref a, .int (nI n)])), (a, .inl (cB, N, .inl (f)))]) := by
  refine zEi (by decide) (Nat.le_of_ble_eq_true rfl) (fun p e s m args below meth c ls A Q X hl h hsz ret => ?_)
  have hl : lv_has ls 1 [(0, .ref o)] := hl
  generalize hH0 : s.heap = H at h ⊢
  have h : zH D A s [(o, .inr (1, [.ref a, .int (nI n)])), (a, .inl (cB, N, .inl (f)))] H [] := h
  generalize hL0 : ([] : List Loc) = locs at h ⊢
  refine lv_aload_n X.1.1 X.1.2.1 zd_Tx_size_0 rfl (lv_at hl 0 rfl) ?_
  refine rG X h 0 rfl rfl zW_Tx 1 (by decide) zw_32 rfl zd_Tx_size_1 ?_
  exact ret _ () H locs ls _ (⟨rfl, trivial⟩) h zd_Tx_size_4

set_option maxHeartbeats 4000000 in
set_option maxRecDepth 100000 in
theorem zc_Tx_row (l : Launch) (D : va_G) {o a n N : Nat} {f : Nat → Int32} {cB : ClassId}  (sz : Nat) : zMr l D zy_Tx_row zb_Tx_row 1 (.array .byte) ({ frames := 0, cells := 0, slots := 0, locals := 0 } : Room) [.ref o] [(cB, .byte)] [(o, .inr (1, [.ref a, .int (nI n)])), (a, .inl (cB, N, .inl (f)))] sz a [(o, .inr (1, [.ref a, .int (nI n)])), (a, .inl (cB, N, .inl (f)))] := by
  refine zEr (by decide) (Nat.le_of_ble_eq_true rfl) (by first | exact Or.inl ⟨_, rfl⟩ | exact Or.inr ⟨_, rfl⟩) (fun p e s m args below meth c ls A Q X hl h hsz ret => ?_)
  have hl : lv_has ls 1 [(0, .ref o)] := hl
  generalize hH0 : s.heap = H at h ⊢
  have h : zH D A s [(o, .inr (1, [.ref a, .int (nI n)])), (a, .inl (cB, N, .inl (f)))] H [] := h
  generalize hL0 : ([] : List Loc) = locs at h ⊢
  refine lv_aload_n X.1.1 X.1.2.1 zd_Tx_row_0 rfl (lv_at hl 0 rfl) ?_
  refine rG X h 0 rfl rfl zW_Tx 0 (by decide) zw_31 rfl zd_Tx_row_1 ?_
  exact ret H locs ls _ h zd_Tx_row_4

set_option maxHeartbeats 4000000 in
set_option maxRecDepth 100000 in
theorem zc_Tx_cut (l : Launch) (D : va_G) {o a n N : Nat} {f : Nat → Int32} {cB : ClassId} {k : Nat}  (sz : Nat) : zMv l D zy_Tx_cut zb_Tx_cut 2 ({ frames := 0, cells := 0, slots := 0, locals := 0 } : Room) [.ref o, .int (nI k)] [(cB, .byte)] [(o, .inr (1, [.ref a, .int (nI n)])), (a, .inl (cB, N, .inl (f)))] sz (fun (u : Unit) => True) (fun _ => [(o, .inr (1, [.ref a, .int (nI k)])), (a, .inl (cB, N, .inl (f)))]) := by
  refine zEv (by decide) (Nat.le_of_ble_eq_true rfl) (fun p e s m args below meth c ls A Q X hin hl h hsz ret => ?_)
  have hl : lv_has ls 2 [(0, .ref o), (1, .int (nI k))] := hl
  generalize hH0 : s.heap = H at h ⊢
  have h : zH D A s [(o, .inr (1, [.ref a, .int (nI n)])), (a, .inl (cB, N, .inl (f)))] H [] := h
  generalize hL0 : ([] : List Loc) = locs at h ⊢
  refine lv_aload_n X.1.1 X.1.2.1 zd_Tx_cut_0 rfl (lv_at hl 0 rfl) ?_
  refine lv_iload_n X.1.1 X.1.2.1 zd_Tx_cut_1 rfl (lv_at hl 1 rfl) ?_
  refine rP X h 0 rfl rfl zW_Tx zO_Tx zN_Tx 1 (by decide) zw_32 rfl (rfl) (rfl) (Nat.le_of_ble_eq_true rfl) zd_Tx_cut_2 (fun H locs h => ?_)
  have h : zH D A s [(o, .inr (1, [.ref a, .int (nI k)])), (a, .inl (cB, N, .inl (f)))] H locs := h
  exact ret () H locs ls _ (trivial) h zd_Tx_cut_5

set_option maxHeartbeats 4000000 in
set_option maxRecDepth 100000 in
theorem zc_Tx_at (l : Launch) (D : va_G) {o a n N : Nat} {f : Nat → Int32} {cB : ClassId} {j : Nat} (hj : j < N) (hN : N < 2 ^ 31) (sz : Nat) : zMi l D zy_Tx_at zb_Tx_at 2 .int ({ frames := 0, cells := 0, slots := 0, locals := 0 } : Room) [.ref o, .int (nI j)] [(cB, .byte)] [(o, .inr (1, [.ref a, .int (nI n)])), (a, .inl (cB, N, .inl (f)))] sz (fun (r : Int32) (u : Unit) => r = nI (ub (f j)) ∧ True) (fun _ => [(o, .inr (1, [.ref a, .int (nI n)])), (a, .inl (cB, N, .inl (f)))]) := by
  refine zEi (by decide) (Nat.le_of_ble_eq_true rfl) (fun p e s m args below meth c ls A Q X hl h hsz ret => ?_)
  have hl : lv_has ls 2 [(0, .ref o), (1, .int (nI j))] := hl
  generalize hH0 : s.heap = H at h ⊢
  have h : zH D A s [(o, .inr (1, [.ref a, .int (nI n)])), (a, .inl (cB, N, .inl (f)))] H [] := h
  generalize hL0 : ([] : List Loc) = locs at h ⊢
  refine lv_aload_n X.1.1 X.1.2.1 zd_Tx_at_0 rfl (lv_at hl 0 rfl) ?_
  refine rG X h 0 rfl rfl zW_Tx 0 (by decide) zw_31 rfl zd_Tx_at_1 ?_
  refine lv_iload_n X.1.1 X.1.2.1 zd_Tx_at_4 rfl (lv_at hl 1 rfl) ?_
  refine rLb X h 1 0 rfl rfl (by omega) (by omega) zd_Tx_at_5 ?_
  refine lv_sipush (v := nI 255) X.1.1 X.1.2.1 zd_Tx_at_6 (by decide) ?_
  refine lv_iand X.1.1 X.1.2.1 zd_Tx_at_9 ?_
  refine zTop (y := nI (ub (f j))) (and255 _) ?_
  exact ret _ () H locs ls _ (⟨rfl, trivial⟩) h zd_Tx_at_10

set_option maxHeartbeats 4000000 in
set_option maxRecDepth 100000 in
theorem zc_Tx_has (l : Launch) (D : va_G) {o a n N : Nat} {f : Nat → Int32} {cB : ClassId} {x : Int32} (hn : n < 2 ^ 31) (sz : Nat) : zMi l D zy_Tx_has zb_Tx_has 2 .boolean ({ frames := 0, cells := 0, slots := 0, locals := 0 } : Room) [.ref o, .int x] [(cB, .byte)] [(o, .inr (1, [.ref a, .int (nI n)])), (a, .inl (cB, N, .inl (f)))] sz (fun (r : Int32) (u : Unit) => (r = 1 ∧ ∃ j, j < n ∧ x = nI j) ∨ (r = 0 ∧ ∀ j, j < n → x ≠ nI j)) (fun _ => [(o, .inr (1, [.ref a, .int (nI n)])), (a, .inl (cB, N, .inl (f)))]) := by
  refine zEz (by decide) (Nat.le_of_ble_eq_true rfl) (fun p e s m args below meth c ls A Q X hl h hsz ret => ?_)
  have hl : lv_has ls 2 [(0, .ref o), (1, .int x)] := hl
  generalize hH0 : s.heap = H at h ⊢
  have h : zH D A s [(o, .inr (1, [.ref a, .int (nI n)])), (a, .inl (cB, N, .inl (f)))] H [] := h
  generalize hL0 : ([] : List Loc) = locs at h ⊢
  refine lv_iload_n X.1.1 X.1.2.1 zd_Tx_has_0 rfl (lv_at hl 1 rfl) ?_
  refine lv_if_lt (tgt := 16) X.1.1 X.1.2.1 zd_Tx_has_1 rfl (fun h0 => ?_) (fun h0 => ?_)
  · refine lv_iconst (v := nI 0) X.1.1 X.1.2.1 zd_Tx_has_16 (by decide) ?_
    have e : ∀ j, j < n → x ≠ nI j := fun j hj e => nI_pos (by omega) (e ▸ h0)
    exact ret _ () H locs ls _ (rfl) (Or.inr ⟨rfl, e⟩) h zd_Tx_has_17
  · refine lv_iload_n X.1.1 X.1.2.1 zd_Tx_has_4 rfl (lv_at hl 1 rfl) ?_
    refine lv_aload_n X.1.1 X.1.2.1 zd_Tx_has_5 rfl (lv_at hl 0 rfl) ?_
    refine rG X h 0 rfl rfl zW_Tx 1 (by decide) zw_32 rfl zd_Tx_has_6 ?_
    refine lv_icmp_ge (tgt := 16) X.1.1 X.1.2.1 zd_Tx_has_9 rfl (fun h1 => ?_) (fun h1 => ?_)
    · refine lv_iconst (v := nI 0) X.1.1 X.1.2.1 zd_Tx_has_16 (by decide) ?_
      have e : ∀ j, j < n → x ≠ nI j := fun j hj e => nI_ge hj hn (e ▸ h1)
      exact ret _ () H locs ls _ (rfl) (Or.inr ⟨rfl, e⟩) h zd_Tx_has_17
    · refine lv_iconst (v := nI 1) X.1.1 X.1.2.1 zd_Tx_has_12 (by decide) ?_
      refine lv_goto (tgt := 17) X.1.1 X.1.2.1 zd_Tx_has_13 rfl ?_
      have e : ∃ j, j < n ∧ x = nI j := by
        rcases pk_ix x hn with q | q | q
        · exact absurd q h0
        · exact absurd q h1
        · exact q
      exact ret _ () H locs ls _ (rfl) (Or.inl ⟨rfl, e⟩) h zd_Tx_has_17

set_option maxHeartbeats 4000000 in
set_option maxRecDepth 100000 in
theorem zc_Tx_flip (l : Launch) (D : va_G) {o a n N : Nat} {f : Nat → Int32} {cB : ClassId} {j : Nat} {x : Int32} (hj : j < N) (hN : N < 2 ^ 31) (sz : Nat) : zMv l D zy_Tx_flip zb_Tx_flip 3 ({ frames := 0, cells := 0, slots := 0, locals := 0 } : Room) [.ref o, .int (nI j), .int x] [(cB, .byte)] [(o, .inr (1, [.ref a, .int (nI n)])), (a, .inl (cB, N, .inl (f)))] sz (fun (u : Unit) => True) (fun _ => [(o, .inr (1, [.ref a, .int (nI n)])), (a, .inl (cB, N, .inl (upd f j (b8 ((f j) ^^^ (b8 x))))))]) := by
  refine zEv (by decide) (Nat.le_of_ble_eq_true rfl) (fun p e s m args below meth c ls A Q X hin hl h hsz ret => ?_)
  have hl : lv_has ls 3 [(0, .ref o), (1, .int (nI j)), (2, .int x)] := hl
  generalize hH0 : s.heap = H at h ⊢
  have h : zH D A s [(o, .inr (1, [.ref a, .int (nI n)])), (a, .inl (cB, N, .inl (f)))] H [] := h
  generalize hL0 : ([] : List Loc) = locs at h ⊢
  refine lv_aload_n X.1.1 X.1.2.1 zd_Tx_flip_0 rfl (lv_at hl 0 rfl) ?_
  refine rG X h 0 rfl rfl zW_Tx 0 (by decide) zw_31 rfl zd_Tx_flip_1 ?_
  refine lv_iload_n X.1.1 X.1.2.1 zd_Tx_flip_4 rfl (lv_at hl 1 rfl) ?_
  refine lv_dup2_11 X.1.1 X.1.2.1 zd_Tx_flip_5 rfl rfl ?_
  refine rLb X h 1 0 rfl rfl (by omega) (by omega) zd_Tx_flip_6 ?_
  refine lv_iload_n X.1.1 X.1.2.1 zd_Tx_flip_7 rfl (lv_at hl 2 rfl) ?_
  refine lv_i2b (v := b8 x) X.1.1 X.1.2.1 zd_Tx_flip_8 (rfl) ?_
  refine lv_ixor X.1.1 X.1.2.1 zd_Tx_flip_9 ?_
  refine lv_i2b (v := b8 ((f j) ^^^ (b8 x))) X.1.1 X.1.2.1 zd_Tx_flip_10 (rfl) ?_
  refine rSb X h 1 0 rfl rfl (by omega) (by omega) (pk_vb _) zd_Tx_flip_11 (fun H locs h => ?_)
  have h : zH D A s [(o, .inr (1, [.ref a, .int (nI n)])), (a, .inl (cB, N, .inl (upd f j (b8 ((f j) ^^^ (b8 x))))))] H locs := h
  exact ret () H locs ls _ (trivial) h zd_Tx_flip_12

set_option maxHeartbeats 4000000 in
set_option maxRecDepth 100000 in
theorem zc_Tx_add (l : Launch) (D : va_G) {o a n N : Nat} {f : Nat → Int32} {cB : ClassId} {x : Int32} (hn : n < N) (hN : N < 2 ^ 31) (sz : Nat) : zMv l D zy_Tx_add zb_Tx_add 2 ({ frames := 0, cells := 0, slots := 0, locals := 0 } : Room) [.ref o, .int x] [(cB, .byte)] [(o, .inr (1, [.ref a, .int (nI n)])), (a, .inl (cB, N, .inl (f)))] sz (fun (u : Unit) => True) (fun _ => [(o, .inr (1, [.ref a, .int (nI (n + 1))])), (a, .inl (cB, N, .inl (upd f n (b8 x))))]) := by
  refine zEv (by decide) (Nat.le_of_ble_eq_true rfl) (fun p e s m args below meth c ls A Q X hin hl h hsz ret => ?_)
  have hl : lv_has ls 2 [(0, .ref o), (1, .int x)] := hl
  generalize hH0 : s.heap = H at h ⊢
  have h : zH D A s [(o, .inr (1, [.ref a, .int (nI n)])), (a, .inl (cB, N, .inl (f)))] H [] := h
  generalize hL0 : ([] : List Loc) = locs at h ⊢
  refine lv_aload_n X.1.1 X.1.2.1 zd_Tx_add_0 rfl (lv_at hl 0 rfl) ?_
  refine rG X h 0 rfl rfl zW_Tx 0 (by decide) zw_31 rfl zd_Tx_add_1 ?_
  refine lv_aload_n X.1.1 X.1.2.1 zd_Tx_add_4 rfl (lv_at hl 0 rfl) ?_
  refine rG X h 0 rfl rfl zW_Tx 1 (by decide) zw_32 rfl zd_Tx_add_5 ?_
  refine lv_iload_n X.1.1 X.1.2.1 zd_Tx_add_8 rfl (lv_at hl 1 rfl) ?_
  refine lv_i2b (v := b8 x) X.1.1 X.1.2.1 zd_Tx_add_9 (rfl) ?_
  refine rSb X h 1 0 rfl rfl (by omega) (by omega) (pk_vb _) zd_Tx_add_10 (fun H locs h => ?_)
  have h : zH D A s [(o, .inr (1, [.ref a, .int (nI n)])), (a, .inl (cB, N, .inl (upd f n (b8 x))))] H locs := h
  refine lv_aload_n X.1.1 X.1.2.1 zd_Tx_add_11 rfl (lv_at hl 0 rfl) ?_
  refine lv_dup X.1.1 X.1.2.1 zd_Tx_add_12 rfl ?_
  refine rG X h 0 rfl rfl zW_Tx 1 (by decide) zw_32 rfl zd_Tx_add_13 ?_
  refine lv_iconst (v := nI 1) X.1.1 X.1.2.1 zd_Tx_add_16 (by decide) ?_
  refine lv_iadd X.1.1 X.1.2.1 zd_Tx_add_17 ?_
  refine zTop (y := nI (n + 1)) (nI_add _ _) ?_
  refine rP X h 0 rfl rfl zW_Tx zO_Tx zN_Tx 1 (by decide) zw_32 rfl (rfl) (rfl) (Nat.le_of_ble_eq_true rfl) zd_Tx_add_18 (fun H locs h => ?_)
  have h : zH D A s [(o, .inr (1, [.ref a, .int (nI (n + 1))])), (a, .inl (cB, N, .inl (upd f n (b8 x))))] H locs := h
  exact ret () H locs ls _ (trivial) h zd_Tx_add_21

set_option maxHeartbeats 4000000 in
set_option maxRecDepth 100000 in
theorem zc_Tx_addFour (l : Launch) (D : va_G) {o a n N : Nat} {f : Nat → Int32} {cB : ClassId} {x : Int32} (hf : sb_Fit f) (hn : n + 4 ≤ N) (hN : N < 2 ^ 31) (sz : Nat) : zMv l D zy_Tx_addFour zb_Tx_addFour 2 ({ frames := 1, cells := 0, slots := 0, locals := 21 } : Room) [.ref o, .int x] [(cB, .byte)] [(o, .inr (1, [.ref a, .int (nI n)])), (a, .inl (cB, N, .inl (f)))] sz (fun (u : Nat → Int32) => tx u (n + 4) = tx f n ++ fourB x ∧ sb_Fit u) (fun u => [(o, .inr (1, [.ref a, .int (nI (n + 4))])), (a, .inl (cB, N, .inl (u)))]) := by
  refine zEv (by decide) (Nat.le_of_ble_eq_true rfl) (fun p e s m args below meth c ls A Q X hin hl h hsz ret => ?_)
  have hl : lv_has ls 2 [(0, .ref o), (1, .int x)] := hl
  generalize hH0 : s.heap = H at h ⊢
  have h : zH D A s [(o, .inr (1, [.ref a, .int (nI n)])), (a, .inl (cB, N, .inl (f)))] H [] := h
  generalize hL0 : ([] : List Loc) = locs at h ⊢
  refine lv_aload_n X.1.1 X.1.2.1 zd_Tx_addFour_0 rfl (lv_at hl 0 rfl) ?_
  refine lv_iload_n X.1.1 X.1.2.1 zd_Tx_addFour_1 rfl (lv_at hl 1 rfl) ?_
  refine lv_bipush (v := nI 24) X.1.1 X.1.2.1 zd_Tx_addFour_2 (by decide) ?_
  refine lv_iushr (v := ush x 24) X.1.1 X.1.2.1 zd_Tx_addFour_4 (ush_eq x (by decide)) ?_
  refine rCv (wr := []) (wf := fun _ => [(o, .inr (1, [.ref a, .int (nI (n + 1))])), (a, .inl (cB, N, .inl (upd f n (b8 (ush x 24)))))]) (rest := []) X h hl.1 (zc_Tx_add l D (o := o) (a := a) (n := n) (N := N) (f := f) (cB := cB) (x := ush x 24) (by omega) (hN) H.size) zw_156 zw_157 zw_158 zw_2 zm_Tx_add zq_Tx_add ⟨Nat.le_of_ble_eq_true rfl, Nat.le_of_ble_eq_true rfl⟩ ⟨Nat.le_of_ble_eq_true rfl, Nat.le_of_ble_eq_true rfl⟩ [0] rfl [0, 1] [] [0, 1] rfl (by decide) rfl (by decide) (by decide) (fun _ => rfl) (by decide) 0 rfl rfl rfl (Nat.le_of_ble_eq_true rfl) zd_Tx_addFour_5 (fun _ H locs hp h => ?_)
  have h : zH D A s [(o, .inr (1, [.ref a, .int (nI (n + 1))])), (a, .inl (cB, N, .inl (upd f n (b8 (ush x 24)))))] H locs := h
  refine lv_aload_n X.1.1 X.1.2.1 zd_Tx_addFour_8 rfl (lv_at hl 0 rfl) ?_
  refine lv_iload_n X.1.1 X.1.2.1 zd_Tx_addFour_9 rfl (lv_at hl 1 rfl) ?_
  refine lv_bipush (v := nI 16) X.1.1 X.1.2.1 zd_Tx_addFour_10 (by decide) ?_
  refine lv_iushr (v := ush x 16) X.1.1 X.1.2.1 zd_Tx_addFour_12 (ush_eq x (by decide)) ?_
  refine rCv (wr := []) (wf := fun _ => [(o, .inr (1, [.ref a, .int (nI (n + 1 + 1))])), (a, .inl (cB, N, .inl (upd (upd f n (b8 (ush x 24))) (n + 1) (b8 (ush x 16)))))]) (rest := []) X h hl.1 (zc_Tx_add l D (o := o) (a := a) (n := n + 1) (N := N) (f := upd f n (b8 (ush x 24))) (cB := cB) (x := ush x 16) (by omega) (hN) H.size) zw_156 zw_157 zw_158 zw_2 zm_Tx_add zq_Tx_add ⟨Nat.le_of_ble_eq_true rfl, Nat.le_of_ble_eq_true rfl⟩ ⟨Nat.le_of_ble_eq_true rfl, Nat.le_of_ble_eq_true rfl⟩ [0] rfl [0, 1] [] [0, 1] rfl (by decide) rfl (by decide) (by decide) (fun _ => rfl) (by decide) 0 rfl rfl rfl (Nat.le_of_ble_eq_true rfl) zd_Tx_addFour_13 (fun _ H locs hp h => ?_)
  have h : zH D A s [(o, .inr (1, [.ref a, .int (nI (n + 1 + 1))])), (a, .inl (cB, N, .inl (upd (upd f n (b8 (ush x 24))) (n + 1) (b8 (ush x 16)))))] H locs := h
  refine lv_aload_n X.1.1 X.1.2.1 zd_Tx_addFour_16 rfl (lv_at hl 0 rfl) ?_
  refine lv_iload_n X.1.1 X.1.2.1 zd_Tx_addFour_17 rfl (lv_at hl 1 rfl) ?_
  refine lv_bipush (v := nI 8) X.1.1 X.1.2.1 zd_Tx_addFour_18 (by decide) ?_
  refine lv_iushr (v := ush x 8) X.1.1 X.1.2.1 zd_Tx_addFour_20 (ush_eq x (by decide)) ?_
  refine rCv (wr := []) (wf := fun _ => [(o, .inr (1, [.ref a, .int (nI (n + 1 + 1 + 1))])), (a, .inl (cB, N, .inl (upd (upd (upd f n (b8 (ush x 24))) (n + 1) (b8 (ush x 16))) (n + 1 + 1) (b8 (ush x 8)))))]) (rest := []) X h hl.1 (zc_Tx_add l D (o := o) (a := a) (n := n + 1 + 1) (N := N) (f := upd (upd f n (b8 (ush x 24))) (n + 1) (b8 (ush x 16))) (cB := cB) (x := ush x 8) (by omega) (hN) H.size) zw_156 zw_157 zw_158 zw_2 zm_Tx_add zq_Tx_add ⟨Nat.le_of_ble_eq_true rfl, Nat.le_of_ble_eq_true rfl⟩ ⟨Nat.le_of_ble_eq_true rfl, Nat.le_of_ble_eq_true rfl⟩ [0] rfl [0, 1] [] [0, 1] rfl (by decide) rfl (by decide) (by decide) (fun _ => rfl) (by decide) 0 rfl rfl rfl (Nat.le_of_ble_eq_true rfl) zd_Tx_addFour_21 (fun _ H locs hp h => ?_)
  have h : zH D A s [(o, .inr (1, [.ref a, .int (nI (n + 1 + 1 + 1))])), (a, .inl (cB, N, .inl (upd (upd (upd f n (b8 (ush x 24))) (n + 1) (b8 (ush x 16))) (n + 1 + 1) (b8 (ush x 8)))))] H locs := h
  refine lv_aload_n X.1.1 X.1.2.1 zd_Tx_addFour_24 rfl (lv_at hl 0 rfl) ?_
  refine lv_iload_n X.1.1 X.1.2.1 zd_Tx_addFour_25 rfl (lv_at hl 1 rfl) ?_
  refine rCv (wr := []) (wf := fun _ => [(o, .inr (1, [.ref a, .int (nI (n + 1 + 1 + 1 + 1))])), (a, .inl (cB, N, .inl (upd (upd (upd (upd f n (b8 (ush x 24))) (n + 1) (b8 (ush x 16))) (n + 1 + 1) (b8 (ush x 8))) (n + 1 + 1 + 1) (b8 x))))]) (rest := []) X h hl.1 (zc_Tx_add l D (o := o) (a := a) (n := n + 1 + 1 + 1) (N := N) (f := upd (upd (upd f n (b8 (ush x 24))) (n + 1) (b8 (ush x 16))) (n + 1 + 1) (b8 (ush x 8))) (cB := cB) (x := x) (by omega) (hN) H.size) zw_156 zw_157 zw_158 zw_2 zm_Tx_add zq_Tx_add ⟨Nat.le_of_ble_eq_true rfl, Nat.le_of_ble_eq_true rfl⟩ ⟨Nat.le_of_ble_eq_true rfl, Nat.le_of_ble_eq_true rfl⟩ [0] rfl [0, 1] [] [0, 1] rfl (by decide) rfl (by decide) (by decide) (fun _ => rfl) (by decide) 0 rfl rfl rfl (Nat.le_of_ble_eq_true rfl) zd_Tx_addFour_26 (fun _ H locs hp h => ?_)
  have h : zH D A s [(o, .inr (1, [.ref a, .int (nI (n + 1 + 1 + 1 + 1))])), (a, .inl (cB, N, .inl (upd (upd (upd (upd f n (b8 (ush x 24))) (n + 1) (b8 (ush x 16))) (n + 1 + 1) (b8 (ush x 8))) (n + 1 + 1 + 1) (b8 x))))] H locs := h
  exact ret _ H locs ls _ (⟨by rw [tx_push, tx_push, tx_push, tx_push]; simp only [List.append_assoc]; rfl, fit_upd (fit_upd (fit_upd (fit_upd hf _ _) _ _) _ _) _ _⟩) h zd_Tx_addFour_29

set_option maxHeartbeats 4000000 in
set_option maxRecDepth 100000 in
theorem zc_Tx_addPart (l : Launch) (D : va_G) {o a n N : Nat} {f : Nat → Int32} {cB : ClassId} {o2 a2 n2 N2 : Nat} {f2 : Nat → Int32} {cB2 : ClassId} {q k : Nat} (hf : sb_Fit f2) (h1 : q + k ≤ N2) (h2 : n + k ≤ N) (hN : N < 2 ^ 31) (hN2 : N2 < 2 ^ 31) (sz : Nat) : zMv l D zy_Tx_addPart zb_Tx_addPart 4 ({ frames := 1, cells := 0, slots := 0, locals := 24 } : Room) [.ref o, .ref o2, .int (nI q), .int (nI k)] [(cB, .byte), (cB2, .byte)] [(o, .inr (1, [.ref a, .int (nI n)])), (a, .inl (cB, N, .inl (f))), (o2, .inr (1, [.ref a2, .int (nI n2)])), (a2, .inl (cB2, N2, .inl (f2)))] sz (fun (u : Unit) => True) (fun _ => [(o, .inr (1, [.ref a, .int (nI (n + k))])), (a, .inl (cB, N, .inl (va_cpy f2 f q n k))), (o2, .inr (1, [.ref a2, .int (nI n2)])), (a2, .inl (cB2, N2, .inl (f2)))]) := by
  refine zEv (by decide) (Nat.le_of_ble_eq_true rfl) (fun p e s m args below meth c ls A Q X hin hl h hsz ret => ?_)
  have hl : lv_has ls 4 [(0, .ref o), (1, .ref o2), (2, .int (nI q)), (3, .int (nI k))] := hl
  generalize hH0 : s.heap = H at h ⊢
  have h : zH D A s [(o, .inr (1, [.ref a, .int (nI n)])), (a, .inl (cB, N, .inl (f))), (o2, .inr (1, [.ref a2, .int (nI n2)])), (a2, .inl (cB2, N2, .inl (f2)))] H [] := h
  generalize hL0 : ([] : List Loc) = locs at h ⊢
  refine lv_aload_n X.1.1 X.1.2.1 zd_Tx_addPart_0 rfl (lv_at hl 1 rfl) ?_
  refine rG X h 2 rfl rfl zW_Tx 0 (by decide) zw_31 rfl zd_Tx_addPart_1 ?_
  refine lv_iload_n X.1.1 X.1.2.1 zd_Tx_addPart_4 rfl (lv_at hl 2 rfl) ?_
  refine lv_aload_n X.1.1 X.1.2.1 zd_Tx_addPart_5 rfl (lv_at hl 0 rfl) ?_
  refine rG X h 0 rfl rfl zW_Tx 0 (by decide) zw_31 rfl zd_Tx_addPart_6 ?_
  refine lv_aload_n X.1.1 X.1.2.1 zd_Tx_addPart_9 rfl (lv_at hl 0 rfl) ?_
  refine rG X h 0 rfl rfl zW_Tx 1 (by decide) zw_32 rfl zd_Tx_addPart_10 ?_
  refine lv_iload_n X.1.1 X.1.2.1 zd_Tx_addPart_13 rfl (lv_at hl 3 rfl) ?_
  refine rCopy X h hl.1 zw_249 zw_251 zw_250 zw_13 3 1 1 0 rfl rfl rfl rfl (by omega) (by omega) (by omega) (by omega) (hf) (Nat.le_of_ble_eq_true rfl) (Nat.le_of_ble_eq_true rfl) zd_Tx_addPart_14 (fun H locs h => ?_)
  have h : zH D A s [(o, .inr (1, [.ref a, .int (nI n)])), (a, .inl (cB, N, .inl (va_cpy f2 f q n k))), (o2, .inr (1, [.ref a2, .int (nI n2)])), (a2, .inl (cB2, N2, .inl (f2)))] H locs := h
  refine lv_aload_n X.1.1 X.1.2.1 zd_Tx_addPart_17 rfl (lv_at hl 0 rfl) ?_
  refine lv_dup X.1.1 X.1.2.1 zd_Tx_addPart_18 rfl ?_
  refine rG X h 0 rfl rfl zW_Tx 1 (by decide) zw_32 rfl zd_Tx_addPart_19 ?_
  refine lv_iload_n X.1.1 X.1.2.1 zd_Tx_addPart_22 rfl (lv_at hl 3 rfl) ?_
  refine lv_iadd X.1.1 X.1.2.1 zd_Tx_addPart_23 ?_
  refine zTop (y := nI (n + k)) (nI_add _ _) ?_
  refine rP X h 0 rfl rfl zW_Tx zO_Tx zN_Tx 1 (by decide) zw_32 rfl (rfl) (rfl) (Nat.le_of_ble_eq_true rfl) zd_Tx_addPart_24 (fun H locs h => ?_)
  have h : zH D A s [(o, .inr (1, [.ref a, .int (nI (n + k))])), (a, .inl (cB, N, .inl (va_cpy f2 f q n k))), (o2, .inr (1, [.ref a2, .int (nI n2)])), (a2, .inl (cB2, N2, .inl (f2)))] H locs := h
  exact ret () H locs ls _ (trivial) h zd_Tx_addPart_27

set_option maxHeartbeats 4000000 in
set_option maxRecDepth 100000 in
theorem zc_Tx_addNumber (l : Launch) (D : va_G) {o a n N : Nat} {f : Nat → Int32} {cB : ClassId} {v : Nat} (hf : sb_Fit f) (hv : v < 2 ^ 31) (hn : n + (numB 4 v).length ≤ N) (hN : N < 2 ^ 31) (sz : Nat) : zMv l D zy_Tx_addNumber zb_Tx_addNumber 4 ({ frames := 1, cells := 0, slots := 0, locals := 21 } : Room) [.ref o, .int (nI v)] [(cB, .byte)] [(o, .inr (1, [.ref a, .int (nI n)])), (a, .inl (cB, N, .inl (f)))] sz (fun (u : Nat → Int32) => tx u (n + (numB 4 v).length) = tx f n ++ numB 4 v ∧ sb_Fit u) (fun u => [(o, .inr (1, [.ref a, .int (nI (n + (numB 4 v).length))])), (a, .inl (cB, N, .inl (u)))]) := by
  refine zEv (by decide) (Nat.le_of_ble_eq_true rfl) (fun p e s m args below meth c ls A Q X hin hl h hsz ret => ?_)
  have hl : lv_has ls 4 [(0, .ref o), (1, .int (nI v))] := hl
  generalize hH0 : s.heap = H at h ⊢
  have h : zH D A s [(o, .inr (1, [.ref a, .int (nI n)])), (a, .inl (cB, N, .inl (f)))] H [] := h
  generalize hL0 : ([] : List Loc) = locs at h ⊢
  refine lv_iload_n X.1.1 X.1.2.1 zd_Tx_addNumber_0 rfl (lv_at hl 1 rfl) ?_
  refine lv_istore_n X.1.1 X.1.2.1 zd_Tx_addNumber_1 rfl hl (by decide) rfl (fun ls hl => ?_)
  have hl : lv_has ls 4 [(2, .int (nI v)), (0, .ref o), (1, .int (nI v))] := hl
  refine lv_iconst (v := nI 0) X.1.1 X.1.2.1 zd_Tx_addNumber_2 (by decide) ?_
  refine lv_istore_n X.1.1 X.1.2.1 zd_Tx_addNumber_3 rfl hl (by decide) rfl (fun ls hl => ?_)
  have hl : lv_has ls 4 [(3, .int (nI 0)), (2, .int (nI v)), (0, .ref o), (1, .int (nI v))] := hl
  have loop : ∀ (fu : Nat) (i : Nat) (w : Nat) (n1 : Nat) (g : Nat → Int32) (ls : Array Slot) (H : Heap) (locs : List Loc), 4 - i < fu → i ≤ 4 → w < 2 ^ 31 → tx g n1 ++ numB (4 - i) w = tx f n ++ numB 4 v → sb_Fit g → n1 + (numB (4 - i) w).length = n + (numB 4 v).length → lv_has ls 4 [(0, .ref o), (1, .int (nI v)), (2, .int (nI w)), (3, .int (nI i))] → zH D A s [(o, .inr (1, [.ref a, .int (nI n1)])), (a, .inl (cB, N, .inl (g)))] H locs → W p l e ({ frames := 1, cells := 0, slots := 0, locals := 21 } : Room) s m args below meth c H locs 0 0 Q (F0 m 4 ls []) := by
    intro fu
    induction fu with
    | zero => intro i w n1 g ls H locs hfu; exact absurd hfu (Nat.not_lt_zero _)
    | succ fu ih =>
      intro i w n1 g ls H locs hfu hi hw he hg hz hl h
      refine lv_iload_n X.1.1 X.1.2.1 zd_Tx_addNumber_4 rfl (lv_at hl 3 rfl) ?_
      refine lv_iconst (v := nI 4) X.1.1 X.1.2.1 zd_Tx_addNumber_5 (by decide) ?_
      refine lv_icmp_ge (tgt := 38) X.1.1 X.1.2.1 zd_Tx_addNumber_6 rfl (fun c1 => ?_) (fun c1 => ?_)
      · have c1 : 4 ≤ i := zc_ge_t (by omega) (by omega) c1
        have e1 : numB (4 - i) w = [b8 (nI w)] := by rw [show 4 - i = 0 by omega]; rfl
        rw [e1] at he hz
        have hz : n1 + 1 = n + (numB 4 v).length := hz
        refine lv_aload_n X.1.1 X.1.2.1 zd_Tx_addNumber_38 rfl (lv_at hl 0 rfl) ?_
        refine lv_iload_n X.1.1 X.1.2.1 zd_Tx_addNumber_39 rfl (lv_at hl 2 rfl) ?_
        refine rCv (wr := []) (wf := fun _ => [(o, .inr (1, [.ref a, .int (nI (n1 + 1))])), (a, .inl (cB, N, .inl (upd g n1 (b8 (nI w)))))]) (rest := []) X h hl.1 (zc_Tx_add l D (o := o) (a := a) (n := n1) (N := N) (f := g) (cB := cB) (x := nI w) (by omega) (hN) H.size) zw_156 zw_157 zw_158 zw_2 zm_Tx_add zq_Tx_add ⟨Nat.le_of_ble_eq_true rfl, Nat.le_of_ble_eq_true rfl⟩ ⟨Nat.le_of_ble_eq_true rfl, Nat.le_of_ble_eq_true rfl⟩ [0] rfl [0, 1] [] [0, 1] rfl (by decide) rfl (by decide) (by decide) (fun _ => rfl) (by decide) 0 rfl rfl rfl (Nat.le_of_ble_eq_true rfl) zd_Tx_addNumber_40 (fun _ H locs hp h => ?_)
        have h : zH D A s [(o, .inr (1, [.ref a, .int (nI (n1 + 1))])), (a, .inl (cB, N, .inl (upd g n1 (b8 (nI w)))))] H locs := h
        rw [hz] at h
        exact ret _ H locs ls _ (⟨by rw [← hz, tx_push]; exact he, fit_upd hg _ _⟩) h zd_Tx_addNumber_43
      · have c1 : i < 4 := zc_ge_f (by omega) (by omega) c1
        refine lv_iload_n X.1.1 X.1.2.1 zd_Tx_addNumber_9 rfl (lv_at hl 2 rfl) ?_
        refine lv_bipush (v := nI 127) X.1.1 X.1.2.1 zd_Tx_addNumber_10 (by decide) ?_
        refine lv_icmp_le (tgt := 38) X.1.1 X.1.2.1 zd_Tx_addNumber_12 rfl (fun c2 => ?_) (fun c2 => ?_)
        · have c2 : w ≤ 127 := zc_le_t (by omega) (by omega) c2
          have e1 : numB (4 - i) w = [b8 (nI w)] := by rw [show 4 - i = (3 - i) + 1 by omega]; show (if w < 128 then _ else _) = _; rw [if_pos (by omega)]
          rw [e1] at he hz
          have hz : n1 + 1 = n + (numB 4 v).length := hz
          refine lv_aload_n X.1.1 X.1.2.1 zd_Tx_addNumber_38 rfl (lv_at hl 0 rfl) ?_
          refine lv_iload_n X.1.1 X.1.2.1 zd_Tx_addNumber_39 rfl (lv_at hl 2 rfl) ?_
          refine rCv (wr := []) (wf := fun _ => [(o, .inr (1, [.ref a, .int (nI (n1 + 1))])), (a, .inl (cB, N, .inl (upd g n1 (b8 (nI w)))))]) (rest := []) X h hl.1 (zc_Tx_add l D (o := o) (a := a) (n := n1) (N := N) (f := g) (cB := cB) (x := nI w) (by omega) (hN) H.size) zw_156 zw_157 zw_158 zw_2 zm_Tx_add zq_Tx_add ⟨Nat.le_of_ble_eq_true rfl, Nat.le_of_ble_eq_true rfl⟩ ⟨Nat.le_of_ble_eq_true rfl, Nat.le_of_ble_eq_true rfl⟩ [0] rfl [0, 1] [] [0, 1] rfl (by decide) rfl (by decide) (by decide) (fun _ => rfl) (by decide) 0 rfl rfl rfl (Nat.le_of_ble_eq_true rfl) zd_Tx_addNumber_40 (fun _ H locs hp h => ?_)
          have h : zH D A s [(o, .inr (1, [.ref a, .int (nI (n1 + 1))])), (a, .inl (cB, N, .inl (upd g n1 (b8 (nI w)))))] H locs := h
          rw [hz] at h
          exact ret _ H locs ls _ (⟨by rw [← hz, tx_push]; exact he, fit_upd hg _ _⟩) h zd_Tx_addNumber_43
        · have c2 : 127 < w := zc_le_f (by omega) (by omega) c2
          have e1 : numB (4 - i) w = b8 (nI (w % 128 + 128)) :: numB (4 - (i + 1)) (w / 128) := by rw [show 4 - i = (4 - (i + 1)) + 1 by omega]; show (if w < 128 then _ else _) = _; rw [if_neg (by omega)]
          rw [e1] at he hz
          rw [List.length_cons] at hz
          refine lv_aload_n X.1.1 X.1.2.1 zd_Tx_addNumber_15 rfl (lv_at hl 0 rfl) ?_
          refine lv_iload_n X.1.1 X.1.2.1 zd_Tx_addNumber_16 rfl (lv_at hl 2 rfl) ?_
          refine lv_bipush (v := nI 127) X.1.1 X.1.2.1 zd_Tx_addNumber_17 (by decide) ?_
          refine lv_iand X.1.1 X.1.2.1 zd_Tx_addNumber_19 ?_
          refine zTop (y := nI (w % 128)) (and127 (by omega)) ?_
          refine lv_sipush (v := nI 128) X.1.1 X.1.2.1 zd_Tx_addNumber_20 (by decide) ?_
          refine lv_ior X.1.1 X.1.2.1 zd_Tx_addNumber_23 ?_
          refine zTop (y := nI (w % 128 + 128)) (or128 (Nat.mod_lt _ (by decide))) ?_
          refine rCv (wr := []) (wf := fun _ => [(o, .inr (1, [.ref a, .int (nI (n1 + 1))])), (a, .inl (cB, N, .inl (upd g n1 (b8 (nI (w % 128 + 128))))))]) (rest := []) X h hl.1 (zc_Tx_add l D (o := o) (a := a) (n := n1) (N := N) (f := g) (cB := cB) (x := nI (w % 128 + 128)) (by omega) (hN) H.size) zw_156 zw_157 zw_158 zw_2 zm_Tx_add zq_Tx_add ⟨Nat.le_of_ble_eq_true rfl, Nat.le_of_ble_eq_true rfl⟩ ⟨Nat.le_of_ble_eq_true rfl, Nat.le_of_ble_eq_true rfl⟩ [0] rfl [0, 1] [] [0, 1] rfl (by decide) rfl (by decide) (by decide) (fun _ => rfl) (by decide) 0 rfl rfl rfl (Nat.le_of_ble_eq_true rfl) zd_Tx_addNumber_24 (fun _ H locs hp h => ?_)
          have h : zH D A s [(o, .inr (1, [.ref a, .int (nI (n1 + 1))])), (a, .inl (cB, N, .inl (upd g n1 (b8 (nI (w % 128 + 128))))))] H locs := h
          refine lv_iload_n X.1.1 X.1.2.1 zd_Tx_addNumber_27 rfl (lv_at hl 2 rfl) ?_
          refine lv_bipush (v := nI 7) X.1.1 X.1.2.1 zd_Tx_addNumber_28 (by decide) ?_
          refine lv_iushr (v := nI (w / 128)) X.1.1 X.1.2.1 zd_Tx_addNumber_30 ((ush_eq _ (by decide)).trans (ush_nI (by omega))) ?_
          refine lv_istore_n X.1.1 X.1.2.1 zd_Tx_addNumber_31 rfl hl (by decide) rfl (fun ls hl => ?_)
          have hl : lv_has ls 4 [(2, .int (nI (w / 128))), (0, .ref o), (1, .int (nI v)), (3, .int (nI i))] := hl
          refine lv_iinc X.1.1 X.1.2.1 zd_Tx_addNumber_32 hl (k := 3) rfl (v := nI (i + 1)) (nI_add _ _) (by decide) rfl (fun ls hl => ?_)
          have hl : lv_has ls 4 [(3, .int (nI (i + 1))), (2, .int (nI (w / 128))), (0, .ref o), (1, .int (nI v))] := hl
          refine lv_goto (tgt := 4) X.1.1 X.1.2.1 zd_Tx_addNumber_35 rfl ?_
          exact ih (i + 1) (w / 128) (n1 + 1) (upd g n1 (b8 (nI (w % 128 + 128)))) ls H locs (by omega) (by omega) (by omega) (by rw [tx_push, List.append_assoc]; exact he) (fit_upd hg _ _) (by omega) (lv_sub hl [2, 3, 1, 0] rfl) h
  exact loop _ 0 v n f ls H locs (Nat.lt_succ_self _) (by omega) (hv) (rfl) (hf) (rfl) (lv_sub hl [2, 3, 1, 0] rfl) h

set_option maxHeartbeats 4000000 in
set_option maxRecDepth 100000 in
theorem zc_Tx_addBytesNotZero (l : Launch) (D : va_G) {o a n N : Nat} {f : Nat → Int32} {cB : ClassId} {v k : Nat} (hf : sb_Fit f) (hv : v < 2 ^ 31) (hk : k ≤ 4) (hn : n + (nzS v 0 k).length ≤ N) (hN : N < 2 ^ 31) (sz : Nat) : zMv l D zy_Tx_addBytesNotZero zb_Tx_addBytesNotZero 5 ({ frames := 1, cells := 0, slots := 0, locals := 21 } : Room) [.ref o, .int (nI v), .int (nI k)] [(cB, .byte)] [(o, .inr (1, [.ref a, .int (nI n)])), (a, .inl (cB, N, .inl (f)))] sz (fun (u : Nat → Int32) => tx u (n + (nzS v 0 k).length) = tx f n ++ nzS v 0 k ∧ sb_Fit u) (fun u => [(o, .inr (1, [.ref a, .int (nI (n + (nzS v 0 k).length))])), (a, .inl (cB, N, .inl (u)))]) := by
  refine zEv (by decide) (Nat.le_of_ble_eq_true rfl) (fun p e s m args below meth c ls A Q X hin hl h hsz ret => ?_)
  have hl : lv_has ls 5 [(0, .ref o), (1, .int (nI v)), (2, .int (nI k))] := hl
  generalize hH0 : s.heap = H at h ⊢
  have h : zH D A s [(o, .inr (1, [.ref a, .int (nI n)])), (a, .inl (cB, N, .inl (f)))] H [] := h
  generalize hL0 : ([] : List Loc) = locs at h ⊢
  refine lv_iconst (v := nI 0) X.1.1 X.1.2.1 zd_Tx_addBytesNotZero_0 (by decide) ?_
  refine lv_istore_n X.1.1 X.1.2.1 zd_Tx_addBytesNotZero_1 rfl hl (by decide) rfl (fun ls hl => ?_)
  have hl : lv_has ls 5 [(3, .int (nI 0)), (0, .ref o), (1, .int (nI v)), (2, .int (nI k))] := hl
  have loop : ∀ (fu : Nat) (i : Nat) (n1 : Nat) (g : Nat → Int32) (ls : Array Slot) (H : Heap) (locs : List Loc), k - i < fu → i ≤ k → tx g n1 ++ nzS v i (k - i) = tx f n ++ nzS v 0 k → sb_Fit g → n1 + (nzS v i (k - i)).length = n + (nzS v 0 k).length → lv_has ls 5 [(0, .ref o), (1, .int (nI v)), (2, .int (nI k)), (3, .int (nI i))] → zH D A s [(o, .inr (1, [.ref a, .int (nI n1)])), (a, .inl (cB, N, .inl (g)))] H locs → W p l e ({ frames := 1, cells := 0, slots := 0, locals := 21 } : Room) s m args below meth c H locs 0 0 Q (F0 m 2 ls []) := by
    intro fu
    induction fu with
    | zero => intro i n1 g ls H locs hfu; exact absurd hfu (Nat.not_lt_zero _)
    | succ fu ih =>
      intro i n1 g ls H locs hfu hi he hg hz hl h
      refine lv_iload_n X.1.1 X.1.2.1 zd_Tx_addBytesNotZero_2 rfl (lv_at hl 3 rfl) ?_
      refine lv_iload_n X.1.1 X.1.2.1 zd_Tx_addBytesNotZero_3 rfl (lv_at hl 2 rfl) ?_
      refine lv_icmp_ge (tgt := 36) X.1.1 X.1.2.1 zd_Tx_addBytesNotZero_4 rfl (fun c1 => ?_) (fun c1 => ?_)
      · have c1 : k ≤ i := zc_ge_t (by omega) (by omega) c1
        have e1 : nzS v i (k - i) = [] := by rw [show k - i = 0 by omega]; rfl
        rw [e1, List.append_nil] at he
        rw [e1] at hz
        have hz : n1 = n + (nzS v 0 k).length := hz
        rw [hz] at h
        exact ret _ H locs ls _ (⟨by rw [← hz]; exact he, hg⟩) h zd_Tx_addBytesNotZero_36
      · have c1 : i < k := zc_ge_f (by omega) (by omega) c1
        have e1 : nzS v i (k - i) = nzB (byt v i) ++ nzS v (i + 1) (k - (i + 1)) := by rw [show k - i = (k - (i + 1)) + 1 by omega]; rfl
        rw [e1] at he hz
        rw [List.length_append] at hz
        have hby := byt_lt v i
        refine lv_iload_n X.1.1 X.1.2.1 zd_Tx_addBytesNotZero_7 rfl (lv_at hl 1 rfl) ?_
        refine lv_bipush (v := nI 8) X.1.1 X.1.2.1 zd_Tx_addBytesNotZero_8 (by decide) ?_
        refine lv_iload_n X.1.1 X.1.2.1 zd_Tx_addBytesNotZero_10 rfl (lv_at hl 3 rfl) ?_
        refine lv_imul X.1.1 X.1.2.1 zd_Tx_addBytesNotZero_11 ?_
        refine zTop (y := nI (8 * i)) (pk_mul _ _) ?_
        refine lv_iushr (v := ((nI v).toUInt32 >>> ((nI (8 * i)).toUInt32 &&& Int32.toUInt32 31)).toInt32) X.1.1 X.1.2.1 zd_Tx_addBytesNotZero_12 (rfl) ?_
        refine lv_sipush (v := nI 255) X.1.1 X.1.2.1 zd_Tx_addBytesNotZero_13 (by decide) ?_
        refine lv_iand X.1.1 X.1.2.1 zd_Tx_addBytesNotZero_16 ?_
        refine zTop (y := nI (byt v i)) (byt_sh hv (by omega)) ?_
        refine lv_istore X.1.1 X.1.2.1 zd_Tx_addBytesNotZero_17 hl (by decide) rfl (fun ls hl => ?_)
        have hl : lv_has ls 5 [(4, .int (nI (byt v i))), (0, .ref o), (1, .int (nI v)), (2, .int (nI k)), (3, .int (nI i))] := hl
        refine lv_iload X.1.1 X.1.2.1 zd_Tx_addBytesNotZero_19 (lv_at hl 0 rfl) ?_
        refine lv_if_eq (tgt := 30) X.1.1 X.1.2.1 zd_Tx_addBytesNotZero_21 rfl (fun c2 => ?_) (fun c2 => ?_)
        · have c2 : byt v i = 0 := zc_eq0_t (by omega) (by omega) c2
          have e2 : nzB (byt v i) = [] := by unfold nzB; rw [if_pos c2]
          rw [e2] at he hz
          have hz : n1 + (0 + (nzS v (i + 1) (k - (i + 1))).length) = n + (nzS v 0 k).length := by simpa using hz
          refine lv_iinc X.1.1 X.1.2.1 zd_Tx_addBytesNotZero_30 hl (k := 4) rfl (v := nI (i + 1)) (nI_add _ _) (by decide) rfl (fun ls hl => ?_)
          have hl : lv_has ls 5 [(3, .int (nI (i + 1))), (4, .int (nI (byt v i))), (0, .ref o), (1, .int (nI v)), (2, .int (nI k))] := hl
          refine lv_goto (tgt := 2) X.1.1 X.1.2.1 zd_Tx_addBytesNotZero_33 rfl ?_
          exact ih (i + 1) n1 g ls H locs (by omega) (by omega) (he) (hg) (by omega) (lv_sub hl [2, 3, 4, 0] rfl) h
        · have c2 : byt v i ≠ 0 := zc_eq0_f (by omega) (by omega) c2
          have e2 : nzB (byt v i) = [b8 (nI (byt v i))] := by unfold nzB; rw [if_neg c2]
          rw [e2] at he hz
          have hz : n1 + (1 + (nzS v (i + 1) (k - (i + 1))).length) = n + (nzS v 0 k).length := hz
          refine lv_aload_n X.1.1 X.1.2.1 zd_Tx_addBytesNotZero_24 rfl (lv_at hl 1 rfl) ?_
          refine lv_iload X.1.1 X.1.2.1 zd_Tx_addBytesNotZero_25 (lv_at hl 0 rfl) ?_
          refine rCv (wr := []) (wf := fun _ => [(o, .inr (1, [.ref a, .int (nI (n1 + 1))])), (a, .inl (cB, N, .inl (upd g n1 (b8 (nI (byt v i))))))]) (rest := []) X h hl.1 (zc_Tx_add l D (o := o) (a := a) (n := n1) (N := N) (f := g) (cB := cB) (x := nI (byt v i)) (by omega) (hN) H.size) zw_156 zw_157 zw_158 zw_2 zm_Tx_add zq_Tx_add ⟨Nat.le_of_ble_eq_true rfl, Nat.le_of_ble_eq_true rfl⟩ ⟨Nat.le_of_ble_eq_true rfl, Nat.le_of_ble_eq_true rfl⟩ [0] rfl [0, 1] [] [0, 1] rfl (by decide) rfl (by decide) (by decide) (fun _ => rfl) (by decide) 0 rfl rfl rfl (Nat.le_of_ble_eq_true rfl) zd_Tx_addBytesNotZero_27 (fun _ H locs hp h => ?_)
          have h : zH D A s [(o, .inr (1, [.ref a, .int (nI (n1 + 1))])), (a, .inl (cB, N, .inl (upd g n1 (b8 (nI (byt v i))))))] H locs := h
          refine lv_iinc X.1.1 X.1.2.1 zd_Tx_addBytesNotZero_30 hl (k := 4) rfl (v := nI (i + 1)) (nI_add _ _) (by decide) rfl (fun ls hl => ?_)
          have hl : lv_has ls 5 [(3, .int (nI (i + 1))), (4, .int (nI (byt v i))), (0, .ref o), (1, .int (nI v)), (2, .int (nI k))] := hl
          refine lv_goto (tgt := 2) X.1.1 X.1.2.1 zd_Tx_addBytesNotZero_33 rfl ?_
          exact ih (i + 1) (n1 + 1) (upd g n1 (b8 (nI (byt v i)))) ls H locs (by omega) (by omega) (by rw [tx_push, List.append_assoc]; exact he) (fit_upd hg _ _) (by omega) (lv_sub hl [2, 3, 4, 0] rfl) h
  exact loop _ 0 n f ls H locs (Nat.lt_succ_self _) (by omega) (rfl) (hf) (rfl) (lv_sub hl [1, 2, 3, 0] rfl) h
