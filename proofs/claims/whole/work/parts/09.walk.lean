section
abbrev rm_P_setEnd : Room := { frames := 0, cells := 0, slots := 0, locals := 0 }
set_option maxHeartbeats 8000000 in
set_option maxRecDepth 100000 in
theorem c_P_setEnd (l : Launch) (D : va_G) (ct : Nat → ClassId) (q : Nat → Nat) {x1 x2 x3 x4 x5 : Int32} {M Mz : Sto} {rz : Int32} (h : m_P_setEnd x1 x2 x3 x4 x5 M = some (rz, Mz)) : KV l D ct y_P_setEnd b_P_setEnd 6 0 0 0 0 [.ref (q 1), .int x1, .int x2, .int x3, .int x4, .int x5] (wX ct q M) (fun A t => CE D (wX ct q Mz) A t) := by
  refine KV.ofU (by decide) (Nat.le_of_ble_eq_true rfl) ?_
  intro p e s m args below meth c A Q ls C0 hl w hret
  have hx := C0.1
  have hb := C0.2.1
  have hl : lv_has ls 6 [(0, .ref (q 1)), (1, .int x1), (2, .int x2), (3, .int x3), (4, .int x4), (5, .int x5)] := hl
  unfold m_P_setEnd at h
  refine lv_aload_n hx hb d_P_setEnd_0 rfl (lv_at hl 0 rfl) ?_
  refine U_get C0 w 1 (by decide) rfl rfl inP 6 (by decide) wd_60 rfl d_P_setEnd_1 ?_
  refine lv_iload_n hx hb d_P_setEnd_4 rfl (lv_at hl 1 rfl) ?_
  refine lv_iload_n hx hb d_P_setEnd_5 rfl (lv_at hl 2 rfl) ?_
  obtain ⟨hi5, h⟩ := if_ok h
  obtain ⟨M6, eM6, h⟩ := wr_ok h
  try dsimp only at h
  refine U_ast C0 (cX_l ct) w (iX_8 ct) hi5 d_P_setEnd_6 eM6 (fun H locs w => ?_)
  refine lv_aload_n hx hb d_P_setEnd_7 rfl (lv_at hl 0 rfl) ?_
  refine U_get C0 w 1 (by decide) rfl rfl inP 7 (by decide) wd_63 rfl d_P_setEnd_8 ?_
  refine lv_iload_n hx hb d_P_setEnd_11 rfl (lv_at hl 1 rfl) ?_
  refine lv_iload_n hx hb d_P_setEnd_12 rfl (lv_at hl 3 rfl) ?_
  obtain ⟨hi7, h⟩ := if_ok h
  obtain ⟨M8, eM8, h⟩ := wr_ok h
  try dsimp only at h
  refine U_ast C0 (cX_l ct) w (iX_9 ct) hi7 d_P_setEnd_13 eM8 (fun H locs w => ?_)
  refine lv_aload_n hx hb d_P_setEnd_14 rfl (lv_at hl 0 rfl) ?_
  refine U_get C0 w 1 (by decide) rfl rfl inP 8 (by decide) wd_66 rfl d_P_setEnd_15 ?_
  refine lv_iload_n hx hb d_P_setEnd_18 rfl (lv_at hl 1 rfl) ?_
  refine lv_iload hx hb d_P_setEnd_19 (lv_at hl 4 rfl) ?_
  obtain ⟨hi9, h⟩ := if_ok h
  obtain ⟨M10, eM10, h⟩ := wr_ok h
  try dsimp only at h
  refine U_ast C0 (cX_l ct) w (iX_10 ct) hi9 d_P_setEnd_21 eM10 (fun H locs w => ?_)
  refine lv_aload_n hx hb d_P_setEnd_22 rfl (lv_at hl 0 rfl) ?_
  refine U_get C0 w 1 (by decide) rfl rfl inP 9 (by decide) wd_69 rfl d_P_setEnd_23 ?_
  refine lv_iload_n hx hb d_P_setEnd_26 rfl (lv_at hl 1 rfl) ?_
  refine lv_iload hx hb d_P_setEnd_27 (lv_at hl 5 rfl) ?_
  obtain ⟨hi11, h⟩ := if_ok h
  obtain ⟨M12, eM12, h⟩ := wr_ok h
  try dsimp only at h
  refine U_ast C0 (cX_l ct) w (iX_11 ct) hi11 d_P_setEnd_29 eM12 (fun H locs w => ?_)
  cases h
  exact hret _ _ _ _ d_P_setEnd_30 w
abbrev rm_P_addBlock : Room := { frames := 1, cells := 0, slots := 0, locals := 25 }
set_option maxHeartbeats 8000000 in
set_option maxRecDepth 100000 in
theorem c_P_addBlock (l : Launch) (D : va_G) (ct : Nat → ClassId) (q : Nat → Nat) {M Mz : Sto} {rz : Int32} (h : m_P_addBlock M = some (rz, Mz)) : KI l D ct y_P_addBlock b_P_addBlock 2 (some .int) 1 25 [.ref (q 1)] (wX ct q M) rz (wX ct q Mz) := by
  refine KI.ofU (by decide) (Nat.le_of_ble_eq_true rfl) rfl ?_
  intro p e s m args below meth c A Q ls C0 hl w hret
  have hx := C0.1
  have hb := C0.2.1
  have hl : lv_has ls 2 [(0, .ref (q 1))] := hl
  unfold m_P_addBlock at h
  refine lv_aload_n hx hb d_P_addBlock_0 rfl (lv_at hl 0 rfl) ?_
  refine U_get C0 w 1 (by decide) rfl rfl inP 0 (by decide) wd_34 rfl d_P_addBlock_1 ?_
  refine lv_istore_n hx hb d_P_addBlock_4 rfl hl (by decide) rfl (fun ls hl => ?_)
  have hl : lv_has ls 2 [(1, .int (M 1 0)), (0, .ref (q 1))] := hl
  refine lv_aload_n hx hb d_P_addBlock_5 rfl (lv_at hl 1 rfl) ?_
  refine U_get C0 w 1 (by decide) rfl rfl inP 1 (by decide) wd_39 rfl d_P_addBlock_6 ?_
  refine lv_iload_n hx hb d_P_addBlock_9 rfl (lv_at hl 0 rfl) ?_
  refine lv_iconst (v := 0) hx hb d_P_addBlock_10 (by decide) ?_
  obtain ⟨hi4, h⟩ := if_ok h
  obtain ⟨M5, eM5, h⟩ := wr_ok h
  try dsimp only at h
  refine U_ast C0 (cX_l ct) w (iX_7 ct) hi4 d_P_addBlock_11 eM5 (fun H locs w => ?_)
  refine lv_aload_n hx hb d_P_addBlock_12 rfl (lv_at hl 1 rfl) ?_
  refine lv_iload_n hx hb d_P_addBlock_13 rfl (lv_at hl 0 rfl) ?_
  refine lv_iconst (v := 0) hx hb d_P_addBlock_14 (by decide) ?_
  refine lv_iconst (v := 0) hx hb d_P_addBlock_15 (by decide) ?_
  refine lv_iconst (v := 0) hx hb d_P_addBlock_16 (by decide) ?_
  refine lv_iconst (v := 0) hx hb d_P_addBlock_17 (by decide) ?_
  obtain ⟨r6, M7, hc8, h⟩ := bind_ok h
  try dsimp only at h
  refine U_vv (rest := []) C0 w 1 (wU_at (by decide)) rfl (c_P_setEnd l D ct q hc8) wd_468 wd_465 wd_466 wd_467 wd_2 (n9 := 5) (by decide +kernel) rfl ⟨(Nat.le_of_ble_eq_true rfl), (Nat.le_of_ble_eq_true rfl)⟩ hl.1 rfl (Nat.le_of_ble_eq_true rfl) d_P_addBlock_18 (Nat.le_of_ble_eq_true rfl) (Nat.le_of_ble_eq_true rfl) (fun H locs w => ?_)
  refine lv_aload_n hx hb d_P_addBlock_21 rfl (lv_at hl 1 rfl) ?_
  refine lv_dup hx hb d_P_addBlock_22 rfl ?_
  refine U_get C0 w 1 (by decide) rfl rfl inP 0 (by decide) wd_34 rfl d_P_addBlock_23 ?_
  refine lv_iconst (v := 1) hx hb d_P_addBlock_26 (by decide) ?_
  refine lv_iadd hx hb d_P_addBlock_27 ?_
  obtain ⟨M9, eM9, h⟩ := wr_ok h
  try dsimp only at h
  refine U_put C0 (cX_l ct) w 1 (by decide) rfl rfl inP tyP_ok nmP 0 (by decide) wd_34 rfl rfl rfl (Nat.le_of_ble_eq_true rfl) d_P_addBlock_28 eM9 rfl (fun H locs w => ?_)
  refine lv_iload_n hx hb d_P_addBlock_31 rfl (lv_at hl 0 rfl) ?_
  cases h
  exact hret _ _ _ _ d_P_addBlock_32 rfl w
abbrev rm_N_block : Room := { frames := 2, cells := 0, slots := 0, locals := 46 }
set_option maxHeartbeats 8000000 in
set_option maxRecDepth 100000 in
theorem c_N_block (l : Launch) (D : va_G) (ct : Nat → ClassId) (q : Nat → Nat) {M Mz : Sto} {rz : Int32} (h : m_N_block M = some (0, rz, Mz)) : KI l D ct y_N_block b_N_block 1 (some .int) 2 46 [.ref (q 0)] (wX ct q M) rz (wX ct q Mz) := by
  refine KI.ofU (by decide) (Nat.le_of_ble_eq_true rfl) rfl ?_
  intro p e s m args below meth c A Q ls C0 hl w hret
  have hx := C0.1
  have hb := C0.2.1
  have hl : lv_has ls 1 [(0, .ref (q 0))] := hl
  unfold m_N_block at h
  refine lv_aload_n hx hb d_N_block_0 rfl (lv_at hl 0 rfl) ?_
  refine U_get C0 w 0 (by decide) rfl rfl inN 0 (by decide) wd_339 rfl d_N_block_1 ?_
  refine U_get C0 w 1 (by decide) rfl rfl inP 0 (by decide) wd_33 rfl d_N_block_4 ?_
  refine lv_bipush (v := 10) hx hb d_N_block_7 (by decide) ?_
  refine lv_icmp_lt (tgt := 22) hx hb d_N_block_9 (by decide) (fun hc => ?_) (fun hc => ?_)
  · rw [if_pos hc] at h
    refine lv_aload_n hx hb d_N_block_22 rfl (lv_at hl 0 rfl) ?_
    refine lv_iconst (v := 0) hx hb d_N_block_23 (by decide) ?_
    obtain ⟨hz3, h⟩ := if_ok h
    obtain ⟨M4, eM4, h⟩ := wr_ok h
    try dsimp only at h
    refine U_put C0 (cX_l ct) w 0 (by decide) rfl rfl inN tyN_ok nmN 6 (by decide) wd_345 rfl (bz_nar hz3) (bz_fit hz3) (Nat.le_of_ble_eq_true rfl) d_N_block_24 eM4 rfl (fun H locs w => ?_)
    refine lv_aload_n hx hb d_N_block_27 rfl (lv_at hl 0 rfl) ?_
    refine U_get C0 w 0 (by decide) rfl rfl inN 0 (by decide) wd_339 rfl d_N_block_28 ?_
    obtain ⟨r5, M6, hc7, h⟩ := bind_ok h
    try dsimp only at h
    refine U_vi (rest := []) C0 w 1 (wU_at (by decide)) rfl (c_P_addBlock l D ct q hc7) wd_464 wd_461 wd_462 wd_463 wd_2 (n9 := 0) (by decide +kernel) rfl ⟨(Nat.le_of_ble_eq_true rfl), (Nat.le_of_ble_eq_true rfl)⟩ hl.1 rfl (Nat.le_of_ble_eq_true rfl) d_N_block_31 (Nat.le_of_ble_eq_true rfl) (Nat.le_of_ble_eq_true rfl) (fun H locs w => ?_)
    cases h
    exact hret _ _ _ _ d_N_block_34 rfl w
  · rw [if_neg hc] at h
    simp at h
abbrev rm_P_has : Room := { frames := 0, cells := 0, slots := 0, locals := 0 }
set_option maxHeartbeats 8000000 in
set_option maxRecDepth 100000 in
theorem c_P_has (l : Launch) (D : va_G) (ct : Nat → ClassId) (q : Nat → Nat) {x1 : Int32} {M Mz : Sto} {rz : Int32} (h : m_P_has x1 M = some (rz, Mz)) : KI l D ct y_P_has b_P_has 2 (some .boolean) 0 0 [.ref (q 1), .int x1] (wX ct q M) rz (wX ct q Mz) := by
  refine KI.ofU (by decide) (Nat.le_of_ble_eq_true rfl) rfl ?_
  intro p e s m args below meth c A Q ls C0 hl w hret
  have hx := C0.1
  have hb := C0.2.1
  have hl : lv_has ls 2 [(0, .ref (q 1)), (1, .int x1)] := hl
  unfold m_P_has at h
  refine lv_iload_n hx hb d_P_has_0 rfl (lv_at hl 1 rfl) ?_
  have hJ17 : ∀ (s0 : Int32) (M : Sto) (H : Heap) (locs : List Loc) (ls : Array Slot), lv_has ls 2 [] → Wd D A s (wX ct q M) H locs → j_P_has_17 s0 M = some (rz, Mz) → W p l e rm_P_has s m args below meth c H locs 0 0 Q (F0 m 17 ls [.int s0]) := by
    intro s0 M H locs ls hl w h
    unfold j_P_has_17 at h
    obtain ⟨hz9, h⟩ := if_ok h
    cases h
    exact hret _ _ _ _ d_P_has_17 (bz_nar hz9) w
  have hJ16 : ∀ (M : Sto) (H : Heap) (locs : List Loc) (ls : Array Slot), lv_has ls 2 [] → Wd D A s (wX ct q M) H locs → j_P_has_16 M = some (rz, Mz) → W p l e rm_P_has s m args below meth c H locs 0 0 Q (F0 m 16 ls []) := by
    intro M H locs ls hl w h
    unfold j_P_has_16 at h
    refine lv_iconst (v := 0) hx hb d_P_has_16 (by decide) ?_
    exact hJ17 _ _ _ _ _ (lv_sub hl [] rfl) w h
  refine lv_if_lt (tgt := 16) hx hb d_P_has_1 (by decide) (fun hc => ?_) (fun hc => ?_)
  · rw [if_pos hc] at h
    exact hJ16 _ _ _ _ (lv_sub hl [] rfl) w h
  · rw [if_neg hc] at h
    refine lv_iload_n hx hb d_P_has_4 rfl (lv_at hl 1 rfl) ?_
    refine lv_aload_n hx hb d_P_has_5 rfl (lv_at hl 0 rfl) ?_
    refine U_get C0 w 1 (by decide) rfl rfl inP 0 (by decide) wd_34 rfl d_P_has_6 ?_
    refine lv_icmp_ge (tgt := 16) hx hb d_P_has_9 (by decide) (fun hc => ?_) (fun hc => ?_)
    · rw [if_pos hc] at h
      exact hJ16 _ _ _ _ (lv_sub hl [] rfl) w h
    · rw [if_neg hc] at h
      refine lv_iconst (v := 1) hx hb d_P_has_12 (by decide) ?_
      refine lv_goto (tgt := 17) hx hb d_P_has_13 (by decide) ?_
      exact hJ17 _ _ _ _ _ (lv_sub hl [] rfl) w h
abbrev rm_N_setsVariable : Room := { frames := 0, cells := 0, slots := 0, locals := 0 }
set_option maxHeartbeats 8000000 in
set_option maxRecDepth 100000 in
theorem c_N_setsVariable (l : Launch) (D : va_G) (ct : Nat → ClassId) (q : Nat → Nat) {x0 : Int32} {M Mz : Sto} {rz : Int32} (h : m_N_setsVariable x0 M = some (rz, Mz)) : KI l D ct y_N_setsVariable b_N_setsVariable 1 (some .boolean) 0 0 [.int x0] (wX ct q M) rz (wX ct q Mz) := by
  refine KI.ofU (by decide) (Nat.le_of_ble_eq_true rfl) rfl ?_
  intro p e s m args below meth c A Q ls C0 hl w hret
  have hx := C0.1
  have hb := C0.2.1
  have hl : lv_has ls 1 [(0, .int x0)] := hl
  unfold m_N_setsVariable at h
  refine lv_iload_n hx hb d_N_setsVariable_0 rfl (lv_at hl 0 rfl) ?_
  refine lv_bipush (v := 7) hx hb d_N_setsVariable_1 (by decide) ?_
  have hJ11 : ∀ (s0 : Int32) (M : Sto) (H : Heap) (locs : List Loc) (ls : Array Slot), lv_has ls 1 [] → Wd D A s (wX ct q M) H locs → j_N_setsVariable_11 s0 M = some (rz, Mz) → W p l e rm_N_setsVariable s m args below meth c H locs 0 0 Q (F0 m 11 ls [.int s0]) := by
    intro s0 M H locs ls hl w h
    unfold j_N_setsVariable_11 at h
    obtain ⟨hz9, h⟩ := if_ok h
    cases h
    exact hret _ _ _ _ d_N_setsVariable_11 (bz_nar hz9) w
  refine lv_icmp_eq (tgt := 10) hx hb d_N_setsVariable_3 (by decide) (fun hc => ?_) (fun hc => ?_)
  · rw [if_pos hc] at h
    refine lv_iconst (v := 0) hx hb d_N_setsVariable_10 (by decide) ?_
    exact hJ11 _ _ _ _ _ (lv_sub hl [] rfl) w h
  · rw [if_neg hc] at h
    refine lv_iconst (v := 1) hx hb d_N_setsVariable_6 (by decide) ?_
    refine lv_goto (tgt := 11) hx hb d_N_setsVariable_7 (by decide) ?_
    exact hJ11 _ _ _ _ _ (lv_sub hl [] rfl) w h
abbrev rm_N_isVariable : Room := { frames := 0, cells := 0, slots := 0, locals := 0 }
set_option maxHeartbeats 8000000 in
set_option maxRecDepth 100000 in
theorem c_N_isVariable (l : Launch) (D : va_G) (ct : Nat → ClassId) (q : Nat → Nat) {x0 : Int32} {M Mz : Sto} {rz : Int32} (h : m_N_isVariable x0 M = some (rz, Mz)) : KI l D ct y_N_isVariable b_N_isVariable 1 (some .boolean) 0 0 [.int x0] (wX ct q M) rz (wX ct q Mz) := by
  refine KI.ofU (by decide) (Nat.le_of_ble_eq_true rfl) rfl ?_
  intro p e s m args below meth c A Q ls C0 hl w hret
  have hx := C0.1
  have hb := C0.2.1
  have hl : lv_has ls 1 [(0, .int x0)] := hl
  unfold m_N_isVariable at h
  refine lv_iload_n hx hb d_N_isVariable_0 rfl (lv_at hl 0 rfl) ?_
  have hJ15 : ∀ (s0 : Int32) (M : Sto) (H : Heap) (locs : List Loc) (ls : Array Slot), lv_has ls 1 [] → Wd D A s (wX ct q M) H locs → j_N_isVariable_15 s0 M = some (rz, Mz) → W p l e rm_N_isVariable s m args below meth c H locs 0 0 Q (F0 m 15 ls [.int s0]) := by
    intro s0 M H locs ls hl w h
    unfold j_N_isVariable_15 at h
    obtain ⟨hz9, h⟩ := if_ok h
    cases h
    exact hret _ _ _ _ d_N_isVariable_15 (bz_nar hz9) w
  have hJ14 : ∀ (M : Sto) (H : Heap) (locs : List Loc) (ls : Array Slot), lv_has ls 1 [] → Wd D A s (wX ct q M) H locs → j_N_isVariable_14 M = some (rz, Mz) → W p l e rm_N_isVariable s m args below meth c H locs 0 0 Q (F0 m 14 ls []) := by
    intro M H locs ls hl w h
    unfold j_N_isVariable_14 at h
    refine lv_iconst (v := 0) hx hb d_N_isVariable_14 (by decide) ?_
    exact hJ15 _ _ _ _ _ (lv_sub hl [] rfl) w h
  refine lv_if_lt (tgt := 14) hx hb d_N_isVariable_1 (by decide) (fun hc => ?_) (fun hc => ?_)
  · rw [if_pos hc] at h
    exact hJ14 _ _ _ _ (lv_sub hl [] rfl) w h
  · rw [if_neg hc] at h
    refine lv_iload_n hx hb d_N_isVariable_4 rfl (lv_at hl 0 rfl) ?_
    refine lv_bipush (v := 6) hx hb d_N_isVariable_5 (by decide) ?_
    refine lv_icmp_ge (tgt := 14) hx hb d_N_isVariable_7 (by decide) (fun hc => ?_) (fun hc => ?_)
    · rw [if_pos hc] at h
      exact hJ14 _ _ _ _ (lv_sub hl [] rfl) w h
    · rw [if_neg hc] at h
      refine lv_iconst (v := 1) hx hb d_N_isVariable_10 (by decide) ?_
      refine lv_goto (tgt := 15) hx hb d_N_isVariable_11 (by decide) ?_
      exact hJ15 _ _ _ _ _ (lv_sub hl [] rfl) w h
abbrev rm_N_readsX : Room := { frames := 0, cells := 0, slots := 0, locals := 0 }
set_option maxHeartbeats 8000000 in
set_option maxRecDepth 100000 in
theorem c_N_readsX (l : Launch) (D : va_G) (ct : Nat → ClassId) (q : Nat → Nat) {x0 : Int32} {M Mz : Sto} {rz : Int32} (h : m_N_readsX x0 M = some (rz, Mz)) : KI l D ct y_N_readsX b_N_readsX 1 (some .boolean) 0 0 [.int x0] (wX ct q M) rz (wX ct q Mz) := by
  refine KI.ofU (by decide) (Nat.le_of_ble_eq_true rfl) rfl ?_
  intro p e s m args below meth c A Q ls C0 hl w hret
  have hx := C0.1
  have hb := C0.2.1
  have hl : lv_has ls 1 [(0, .int x0)] := hl
  unfold m_N_readsX at h
  refine lv_iload_n hx hb d_N_readsX_0 rfl (lv_at hl 0 rfl) ?_
  have hJ15 : ∀ (s0 : Int32) (M : Sto) (H : Heap) (locs : List Loc) (ls : Array Slot), lv_has ls 1 [] → Wd D A s (wX ct q M) H locs → j_N_readsX_15 s0 M = some (rz, Mz) → W p l e rm_N_readsX s m args below meth c H locs 0 0 Q (F0 m 15 ls [.int s0]) := by
    intro s0 M H locs ls hl w h
    unfold j_N_readsX_15 at h
    obtain ⟨hz9, h⟩ := if_ok h
    cases h
    exact hret _ _ _ _ d_N_readsX_15 (bz_nar hz9) w
  have hJ14 : ∀ (M : Sto) (H : Heap) (locs : List Loc) (ls : Array Slot), lv_has ls 1 [] → Wd D A s (wX ct q M) H locs → j_N_readsX_14 M = some (rz, Mz) → W p l e rm_N_readsX s m args below meth c H locs 0 0 Q (F0 m 14 ls []) := by
    intro M H locs ls hl w h
    unfold j_N_readsX_14 at h
    refine lv_iconst (v := 0) hx hb d_N_readsX_14 (by decide) ?_
    exact hJ15 _ _ _ _ _ (lv_sub hl [] rfl) w h
  refine lv_if_eq (tgt := 14) hx hb d_N_readsX_1 (by decide) (fun hc => ?_) (fun hc => ?_)
  · rw [if_pos hc] at h
    exact hJ14 _ _ _ _ (lv_sub hl [] rfl) w h
  · rw [if_neg hc] at h
    refine lv_iload_n hx hb d_N_readsX_4 rfl (lv_at hl 0 rfl) ?_
    refine lv_bipush (v := 6) hx hb d_N_readsX_5 (by decide) ?_
    refine lv_icmp_eq (tgt := 14) hx hb d_N_readsX_7 (by decide) (fun hc => ?_) (fun hc => ?_)
    · rw [if_pos hc] at h
      exact hJ14 _ _ _ _ (lv_sub hl [] rfl) w h
    · rw [if_neg hc] at h
      refine lv_iconst (v := 1) hx hb d_N_readsX_10 (by decide) ?_
      refine lv_goto (tgt := 15) hx hb d_N_readsX_11 (by decide) ?_
      exact hJ15 _ _ _ _ _ (lv_sub hl [] rfl) w h
abbrev rm_N_readsY : Room := { frames := 0, cells := 0, slots := 0, locals := 0 }
set_option maxHeartbeats 8000000 in
set_option maxRecDepth 100000 in
theorem c_N_readsY (l : Launch) (D : va_G) (ct : Nat → ClassId) (q : Nat → Nat) {x0 : Int32} {M Mz : Sto} {rz : Int32} (h : m_N_readsY x0 M = some (rz, Mz)) : KI l D ct y_N_readsY b_N_readsY 1 (some .boolean) 0 0 [.int x0] (wX ct q M) rz (wX ct q Mz) := by
  refine KI.ofU (by decide) (Nat.le_of_ble_eq_true rfl) rfl ?_
  intro p e s m args below meth c A Q ls C0 hl w hret
  have hx := C0.1
  have hb := C0.2.1
  have hl : lv_has ls 1 [(0, .int x0)] := hl
  unfold m_N_readsY at h
  refine lv_iload_n hx hb d_N_readsY_0 rfl (lv_at hl 0 rfl) ?_
  refine lv_iconst (v := 2) hx hb d_N_readsY_1 (by decide) ?_
  have hJ15 : ∀ (s0 : Int32) (M : Sto) (H : Heap) (locs : List Loc) (ls : Array Slot), lv_has ls 1 [] → Wd D A s (wX ct q M) H locs → j_N_readsY_15 s0 M = some (rz, Mz) → W p l e rm_N_readsY s m args below meth c H locs 0 0 Q (F0 m 15 ls [.int s0]) := by
    intro s0 M H locs ls hl w h
    unfold j_N_readsY_15 at h
    obtain ⟨hz9, h⟩ := if_ok h
    cases h
    exact hret _ _ _ _ d_N_readsY_15 (bz_nar hz9) w
  have hJ14 : ∀ (M : Sto) (H : Heap) (locs : List Loc) (ls : Array Slot), lv_has ls 1 [] → Wd D A s (wX ct q M) H locs → j_N_readsY_14 M = some (rz, Mz) → W p l e rm_N_readsY s m args below meth c H locs 0 0 Q (F0 m 14 ls []) := by
    intro M H locs ls hl w h
    unfold j_N_readsY_14 at h
    refine lv_iconst (v := 0) hx hb d_N_readsY_14 (by decide) ?_
    exact hJ15 _ _ _ _ _ (lv_sub hl [] rfl) w h
  refine lv_icmp_lt (tgt := 14) hx hb d_N_readsY_2 (by decide) (fun hc => ?_) (fun hc => ?_)
  · rw [if_pos hc] at h
    exact hJ14 _ _ _ _ (lv_sub hl [] rfl) w h
  · rw [if_neg hc] at h
    refine lv_iload_n hx hb d_N_readsY_5 rfl (lv_at hl 0 rfl) ?_
    refine lv_iconst (v := 5) hx hb d_N_readsY_6 (by decide) ?_
    refine lv_icmp_gt (tgt := 14) hx hb d_N_readsY_7 (by decide) (fun hc => ?_) (fun hc => ?_)
    · rw [if_pos hc] at h
      exact hJ14 _ _ _ _ (lv_sub hl [] rfl) w h
    · rw [if_neg hc] at h
      refine lv_iconst (v := 1) hx hb d_N_readsY_10 (by decide) ?_
      refine lv_goto (tgt := 15) hx hb d_N_readsY_11 (by decide) ?_
      exact hJ15 _ _ _ _ _ (lv_sub hl [] rfl) w h
abbrev rm_N_isInstruction : Room := { frames := 1, cells := 0, slots := 0, locals := 20 }
set_option maxHeartbeats 8000000 in
set_option maxRecDepth 100000 in
theorem c_N_isInstruction (l : Launch) (D : va_G) (ct : Nat → ClassId) (q : Nat → Nat) {x0 x1 x2 x3 : Int32} {M Mz : Sto} {rz : Int32} (h : m_N_isInstruction x0 x1 x2 x3 M = some (rz, Mz)) : KI l D ct y_N_isInstruction b_N_isInstruction 4 (some .boolean) 1 20 [.int x0, .int x1, .int x2, .int x3] (wX ct q M) rz (wX ct q Mz) := by
  refine KI.ofU (by decide) (Nat.le_of_ble_eq_true rfl) rfl ?_
  intro p e s m args below meth c A Q ls C0 hl w hret
  have hx := C0.1
  have hb := C0.2.1
  have hl : lv_has ls 4 [(0, .int x0), (1, .int x1), (2, .int x2), (3, .int x3)] := hl
  unfold m_N_isInstruction at h
  refine lv_iload_n hx hb d_N_isInstruction_0 rfl (lv_at hl 0 rfl) ?_
  have hJ57 : ∀ (s0 : Int32) (M : Sto) (H : Heap) (locs : List Loc) (ls : Array Slot), lv_has ls 4 [] → Wd D A s (wX ct q M) H locs → j_N_isInstruction_57 s0 M = some (rz, Mz) → W p l e rm_N_isInstruction s m args below meth c H locs 0 0 Q (F0 m 57 ls [.int s0]) := by
    intro s0 M H locs ls hl w h
    unfold j_N_isInstruction_57 at h
    obtain ⟨hz9, h⟩ := if_ok h
    cases h
    exact hret _ _ _ _ d_N_isInstruction_57 (bz_nar hz9) w
  have hJ56 : ∀ (M : Sto) (H : Heap) (locs : List Loc) (ls : Array Slot), lv_has ls 4 [] → Wd D A s (wX ct q M) H locs → j_N_isInstruction_56 M = some (rz, Mz) → W p l e rm_N_isInstruction s m args below meth c H locs 0 0 Q (F0 m 56 ls []) := by
    intro M H locs ls hl w h
    unfold j_N_isInstruction_56 at h
    refine lv_iconst (v := 0) hx hb d_N_isInstruction_56 (by decide) ?_
    exact hJ57 _ _ _ _ _ (lv_sub hl [] rfl) w h
  refine lv_if_lt (tgt := 56) hx hb d_N_isInstruction_1 (by decide) (fun hc => ?_) (fun hc => ?_)
  · rw [if_pos hc] at h
    exact hJ56 _ _ _ _ (lv_sub hl [] rfl) w h
  · rw [if_neg hc] at h
    refine lv_iload_n hx hb d_N_isInstruction_4 rfl (lv_at hl 0 rfl) ?_
    refine lv_bipush (v := 7) hx hb d_N_isInstruction_5 (by decide) ?_
    refine lv_icmp_gt (tgt := 56) hx hb d_N_isInstruction_7 (by decide) (fun hc => ?_) (fun hc => ?_)
    · rw [if_pos hc] at h
      exact hJ56 _ _ _ _ (lv_sub hl [] rfl) w h
    · rw [if_neg hc] at h
      refine lv_iload_n hx hb d_N_isInstruction_10 rfl (lv_at hl 0 rfl) ?_
      obtain ⟨r7, M8, hc9, h⟩ := bind_ok h
      try dsimp only at h
      refine U_si (rest := []) C0 w (c_N_setsVariable l D ct q hc9) wd_486 wd_484 wd_485 wd_1 (n9 := 1) (by decide +kernel) rfl ⟨(Nat.le_of_ble_eq_true rfl), (Nat.le_of_ble_eq_true rfl)⟩ hl.1 rfl (Nat.le_of_ble_eq_true rfl) d_N_isInstruction_11 (Nat.le_of_ble_eq_true rfl) (Nat.le_of_ble_eq_true rfl) (fun H locs w => ?_)
      have hJ24 : ∀ (v0 v2 v3 : Int32) (M : Sto) (H : Heap) (locs : List Loc) (ls : Array Slot), lv_has ls 4 [(0, .int v0), (2, .int v2), (3, .int v3)] → Wd D A s (wX ct q M) H locs → j_N_isInstruction_24 v0 v2 v3 M = some (rz, Mz) → W p l e rm_N_isInstruction s m args below meth c H locs 0 0 Q (F0 m 24 ls []) := by
        intro v0 v2 v3 M H locs ls hl w h
        unfold j_N_isInstruction_24 at h
        refine lv_iload_n hx hb d_N_isInstruction_24 rfl (lv_at hl 0 rfl) ?_
        obtain ⟨r10, M11, hc12, h⟩ := bind_ok h
        try dsimp only at h
        refine U_si (rest := []) C0 w (c_N_readsX l D ct q hc12) wd_492 wd_490 wd_491 wd_1 (n9 := 1) (by decide +kernel) rfl ⟨(Nat.le_of_ble_eq_true rfl), (Nat.le_of_ble_eq_true rfl)⟩ hl.1 rfl (Nat.le_of_ble_eq_true rfl) d_N_isInstruction_25 (Nat.le_of_ble_eq_true rfl) (Nat.le_of_ble_eq_true rfl) (fun H locs w => ?_)
        have hJ38 : ∀ (v0 v3 : Int32) (M : Sto) (H : Heap) (locs : List Loc) (ls : Array Slot), lv_has ls 4 [(0, .int v0), (3, .int v3)] → Wd D A s (wX ct q M) H locs → j_N_isInstruction_38 v0 v3 M = some (rz, Mz) → W p l e rm_N_isInstruction s m args below meth c H locs 0 0 Q (F0 m 38 ls []) := by
          intro v0 v3 M H locs ls hl w h
          unfold j_N_isInstruction_38 at h
          refine lv_iload_n hx hb d_N_isInstruction_38 rfl (lv_at hl 0 rfl) ?_
          obtain ⟨r13, M14, hc15, h⟩ := bind_ok h
          try dsimp only at h
          refine U_si (rest := []) C0 w (c_N_readsY l D ct q hc15) wd_495 wd_493 wd_494 wd_1 (n9 := 1) (by decide +kernel) rfl ⟨(Nat.le_of_ble_eq_true rfl), (Nat.le_of_ble_eq_true rfl)⟩ hl.1 rfl (Nat.le_of_ble_eq_true rfl) d_N_isInstruction_39 (Nat.le_of_ble_eq_true rfl) (Nat.le_of_ble_eq_true rfl) (fun H locs w => ?_)
          have hJ52 : ∀ (M : Sto) (H : Heap) (locs : List Loc) (ls : Array Slot), lv_has ls 4 [] → Wd D A s (wX ct q M) H locs → j_N_isInstruction_52 M = some (rz, Mz) → W p l e rm_N_isInstruction s m args below meth c H locs 0 0 Q (F0 m 52 ls []) := by
            intro M H locs ls hl w h
            unfold j_N_isInstruction_52 at h
            refine lv_iconst (v := 1) hx hb d_N_isInstruction_52 (by decide) ?_
            refine lv_goto (tgt := 57) hx hb d_N_isInstruction_53 (by decide) ?_
            exact hJ57 _ _ _ _ _ (lv_sub hl [] rfl) w h
          refine lv_if_eq (tgt := 52) hx hb d_N_isInstruction_42 (by decide) (fun hc => ?_) (fun hc => ?_)
          · rw [if_pos hc] at h
            exact hJ52 _ _ _ _ (lv_sub hl [] rfl) w h
          · rw [if_neg hc] at h
            refine lv_iload_n hx hb d_N_isInstruction_45 rfl (lv_at hl 1 rfl) ?_
            obtain ⟨r16, M17, hc18, h⟩ := bind_ok h
            try dsimp only at h
            refine U_si (rest := []) C0 w (c_N_isVariable l D ct q hc18) wd_489 wd_487 wd_488 wd_1 (n9 := 1) (by decide +kernel) rfl ⟨(Nat.le_of_ble_eq_true rfl), (Nat.le_of_ble_eq_true rfl)⟩ hl.1 rfl (Nat.le_of_ble_eq_true rfl) d_N_isInstruction_46 (Nat.le_of_ble_eq_true rfl) (Nat.le_of_ble_eq_true rfl) (fun H locs w => ?_)
            refine lv_if_eq (tgt := 56) hx hb d_N_isInstruction_49 (by decide) (fun hc => ?_) (fun hc => ?_)
            · rw [if_pos hc] at h
              exact hJ56 _ _ _ _ (lv_sub hl [] rfl) w h
            · rw [if_neg hc] at h
              exact hJ52 _ _ _ _ (lv_sub hl [] rfl) w h
        refine lv_if_eq (tgt := 38) hx hb d_N_isInstruction_28 (by decide) (fun hc => ?_) (fun hc => ?_)
        · rw [if_pos hc] at h
          exact hJ38 _ _ _ _ _ _ (lv_sub hl [0, 2] rfl) w h
        · rw [if_neg hc] at h
          refine lv_iload_n hx hb d_N_isInstruction_31 rfl (lv_at hl 1 rfl) ?_
          obtain ⟨r19, M20, hc21, h⟩ := bind_ok h
          try dsimp only at h
          refine U_si (rest := []) C0 w (c_N_isVariable l D ct q hc21) wd_489 wd_487 wd_488 wd_1 (n9 := 1) (by decide +kernel) rfl ⟨(Nat.le_of_ble_eq_true rfl), (Nat.le_of_ble_eq_true rfl)⟩ hl.1 rfl (Nat.le_of_ble_eq_true rfl) d_N_isInstruction_32 (Nat.le_of_ble_eq_true rfl) (Nat.le_of_ble_eq_true rfl) (fun H locs w => ?_)
          refine lv_if_eq (tgt := 56) hx hb d_N_isInstruction_35 (by decide) (fun hc => ?_) (fun hc => ?_)
          · rw [if_pos hc] at h
            exact hJ56 _ _ _ _ (lv_sub hl [] rfl) w h
          · rw [if_neg hc] at h
            exact hJ38 _ _ _ _ _ _ (lv_sub hl [0, 2] rfl) w h
      refine lv_if_eq (tgt := 24) hx hb d_N_isInstruction_14 (by decide) (fun hc => ?_) (fun hc => ?_)
      · rw [if_pos hc] at h
        exact hJ24 _ _ _ _ _ _ _ (lv_sub hl [0, 2, 3] rfl) w h
      · rw [if_neg hc] at h
        refine lv_iload_n hx hb d_N_isInstruction_17 rfl (lv_at hl 1 rfl) ?_
        obtain ⟨r22, M23, hc24, h⟩ := bind_ok h
        try dsimp only at h
        refine U_si (rest := []) C0 w (c_N_isVariable l D ct q hc24) wd_489 wd_487 wd_488 wd_1 (n9 := 1) (by decide +kernel) rfl ⟨(Nat.le_of_ble_eq_true rfl), (Nat.le_of_ble_eq_true rfl)⟩ hl.1 rfl (Nat.le_of_ble_eq_true rfl) d_N_isInstruction_18 (Nat.le_of_ble_eq_true rfl) (Nat.le_of_ble_eq_true rfl) (fun H locs w => ?_)
        refine lv_if_eq (tgt := 56) hx hb d_N_isInstruction_21 (by decide) (fun hc => ?_) (fun hc => ?_)
        · rw [if_pos hc] at h
          exact hJ56 _ _ _ _ (lv_sub hl [] rfl) w h
        · rw [if_neg hc] at h
          exact hJ24 _ _ _ _ _ _ _ (lv_sub hl [0, 2, 3] rfl) w h
abbrev rm_P_append : Room := { frames := 0, cells := 0, slots := 0, locals := 0 }
set_option maxHeartbeats 8000000 in
set_option maxRecDepth 100000 in
theorem c_P_append (l : Launch) (D : va_G) (ct : Nat → ClassId) (q : Nat → Nat) {x1 x2 x3 x4 x5 : Int32} {M Mz : Sto} {rz : Int32} (h : m_P_append x1 x2 x3 x4 x5 M = some (rz, Mz)) : KI l D ct y_P_append b_P_append 7 (some .int) 0 0 [.ref (q 1), .int x1, .int x2, .int x3, .int x4, .int x5] (wX ct q M) rz (wX ct q Mz) := by
  refine KI.ofU (by decide) (Nat.le_of_ble_eq_true rfl) rfl ?_
  intro p e s m args below meth c A Q ls C0 hl w hret
  have hx := C0.1
  have hb := C0.2.1
  have hl : lv_has ls 7 [(0, .ref (q 1)), (1, .int x1), (2, .int x2), (3, .int x3), (4, .int x4), (5, .int x5)] := hl
  unfold m_P_append at h
  refine lv_aload_n hx hb d_P_append_0 rfl (lv_at hl 0 rfl) ?_
  refine U_get C0 w 1 (by decide) rfl rfl inP 1 (by decide) wd_39 rfl d_P_append_1 ?_
  refine lv_iload_n hx hb d_P_append_4 rfl (lv_at hl 1 rfl) ?_
  obtain ⟨hi6, h⟩ := if_ok h
  refine U_ald C0 w (iX_7 ct) hi6 d_P_append_5 ?_
  refine lv_istore hx hb d_P_append_6 hl (by decide) rfl (fun ls hl => ?_)
  have hl : lv_has ls 7 [(6, .int (M 7 x1.toNatClampNeg)), (0, .ref (q 1)), (1, .int x1), (2, .int x2), (3, .int x3), (4, .int x4), (5, .int x5)] := hl
  refine lv_aload_n hx hb d_P_append_8 rfl (lv_at hl 1 rfl) ?_
  refine U_get C0 w 1 (by decide) rfl rfl inP 2 (by decide) wd_45 rfl d_P_append_9 ?_
  refine lv_iload_n hx hb d_P_append_12 rfl (lv_at hl 2 rfl) ?_
  obtain ⟨hi7, h⟩ := if_ok h
  refine U_gld C0 w (gX_34 ct) hi7 d_P_append_13 ?_
  refine lv_iload hx hb d_P_append_14 (lv_at hl 0 rfl) ?_
  refine lv_iload_n hx hb d_P_append_16 rfl (lv_at hl 3 rfl) ?_
  obtain ⟨hi8, h⟩ := if_ok h
  obtain ⟨M9, eM9, h⟩ := wr_ok h
  try dsimp only at h
  refine U_ast C0 (cX_l ct) w (rowI ct (b := 43) (by decide) (by decide) hi7) hi8 d_P_append_17 eM9 (fun H locs w => ?_)
  refine lv_aload_n hx hb d_P_append_18 rfl (lv_at hl 1 rfl) ?_
  refine U_get C0 w 1 (by decide) rfl rfl inP 3 (by decide) wd_50 rfl d_P_append_19 ?_
  refine lv_iload_n hx hb d_P_append_22 rfl (lv_at hl 2 rfl) ?_
  obtain ⟨hi10, h⟩ := if_ok h
  refine U_gld C0 w (gX_35 ct) hi10 d_P_append_23 ?_
  refine lv_iload hx hb d_P_append_24 (lv_at hl 0 rfl) ?_
  refine lv_iload_n hx hb d_P_append_26 rfl (lv_at hl 4 rfl) ?_
  obtain ⟨hi11, h⟩ := if_ok h
  obtain ⟨M12, eM12, h⟩ := wr_ok h
  try dsimp only at h
  refine U_ast C0 (cX_l ct) w (rowI ct (b := 53) (by decide) (by decide) hi10) hi11 d_P_append_27 eM12 (fun H locs w => ?_)
  refine lv_aload_n hx hb d_P_append_28 rfl (lv_at hl 1 rfl) ?_
  refine U_get C0 w 1 (by decide) rfl rfl inP 4 (by decide) wd_53 rfl d_P_append_29 ?_
  refine lv_iload_n hx hb d_P_append_32 rfl (lv_at hl 2 rfl) ?_
  obtain ⟨hi13, h⟩ := if_ok h
  refine U_gld C0 w (gX_36 ct) hi13 d_P_append_33 ?_
  refine lv_iload hx hb d_P_append_34 (lv_at hl 0 rfl) ?_
  refine lv_iload hx hb d_P_append_36 (lv_at hl 5 rfl) ?_
  obtain ⟨hi14, h⟩ := if_ok h
  obtain ⟨M15, eM15, h⟩ := wr_ok h
  try dsimp only at h
  refine U_ast C0 (cX_l ct) w (rowI ct (b := 63) (by decide) (by decide) hi13) hi14 d_P_append_38 eM15 (fun H locs w => ?_)
  refine lv_aload_n hx hb d_P_append_39 rfl (lv_at hl 1 rfl) ?_
  refine U_get C0 w 1 (by decide) rfl rfl inP 5 (by decide) wd_57 rfl d_P_append_40 ?_
  refine lv_iload_n hx hb d_P_append_43 rfl (lv_at hl 2 rfl) ?_
  obtain ⟨hi16, h⟩ := if_ok h
  refine U_gld C0 w (gX_37 ct) hi16 d_P_append_44 ?_
  refine lv_iload hx hb d_P_append_45 (lv_at hl 0 rfl) ?_
  refine lv_iload hx hb d_P_append_47 (lv_at hl 6 rfl) ?_
  obtain ⟨hi17, h⟩ := if_ok h
  obtain ⟨M18, eM18, h⟩ := wr_ok h
  try dsimp only at h
  refine U_ast C0 (cX_l ct) w (rowI ct (b := 73) (by decide) (by decide) hi16) hi17 d_P_append_49 eM18 (fun H locs w => ?_)
  refine lv_aload_n hx hb d_P_append_50 rfl (lv_at hl 1 rfl) ?_
  refine U_get C0 w 1 (by decide) rfl rfl inP 1 (by decide) wd_39 rfl d_P_append_51 ?_
  refine lv_iload_n hx hb d_P_append_54 rfl (lv_at hl 2 rfl) ?_
  refine lv_iload hx hb d_P_append_55 (lv_at hl 0 rfl) ?_
  refine lv_iconst (v := 1) hx hb d_P_append_57 (by decide) ?_
  refine lv_iadd hx hb d_P_append_58 ?_
  obtain ⟨hi19, h⟩ := if_ok h
  obtain ⟨M20, eM20, h⟩ := wr_ok h
  try dsimp only at h
  refine U_ast C0 (cX_l ct) w (iX_7 ct) hi19 d_P_append_59 eM20 (fun H locs w => ?_)
  refine lv_aload_n hx hb d_P_append_60 rfl (lv_at hl 1 rfl) ?_
  refine U_get C0 w 1 (by decide) rfl rfl inP 1 (by decide) wd_39 rfl d_P_append_61 ?_
  refine lv_iload_n hx hb d_P_append_64 rfl (lv_at hl 2 rfl) ?_
  obtain ⟨hi21, h⟩ := if_ok h
  refine U_ald C0 w (iX_7 ct) hi21 d_P_append_65 ?_
  cases h
  exact hret _ _ _ _ d_P_append_66 rfl w
abbrev rm_N_put : Room := { frames := 2, cells := 0, slots := 0, locals := 43 }
set_option maxHeartbeats 8000000 in
set_option maxRecDepth 100000 in
theorem c_N_put (l : Launch) (D : va_G) (ct : Nat → ClassId) (q : Nat → Nat) {x1 x2 x3 x4 x5 : Int32} {M Mz : Sto} {rz : Int32} (h : m_N_put x1 x2 x3 x4 x5 M = some (0, rz, Mz)) : KI l D ct y_N_put b_N_put 6 (some .int) 2 43 [.ref (q 0), .int x1, .int x2, .int x3, .int x4, .int x5] (wX ct q M) rz (wX ct q Mz) := by
  refine KI.ofU (by decide) (Nat.le_of_ble_eq_true rfl) rfl ?_
  intro p e s m args below meth c A Q ls C0 hl w hret
  have hx := C0.1
  have hb := C0.2.1
  have hl : lv_has ls 6 [(0, .ref (q 0)), (1, .int x1), (2, .int x2), (3, .int x3), (4, .int x4), (5, .int x5)] := hl
  unfold m_N_put at h
  refine lv_aload_n hx hb d_N_put_0 rfl (lv_at hl 0 rfl) ?_
  refine U_get C0 w 0 (by decide) rfl rfl inN 0 (by decide) wd_339 rfl d_N_put_1 ?_
  refine lv_iload_n hx hb d_N_put_4 rfl (lv_at hl 1 rfl) ?_
  obtain ⟨r5, M6, hc7, h⟩ := bind_ok h
  try dsimp only at h
  refine U_vi (rest := []) C0 w 1 (wU_at (by decide)) rfl (c_P_has l D ct q hc7) wd_480 wd_477 wd_478 wd_479 wd_2 (n9 := 1) (by decide +kernel) rfl ⟨(Nat.le_of_ble_eq_true rfl), (Nat.le_of_ble_eq_true rfl)⟩ hl.1 rfl (Nat.le_of_ble_eq_true rfl) d_N_put_5 (Nat.le_of_ble_eq_true rfl) (Nat.le_of_ble_eq_true rfl) (fun H locs w => ?_)
  have hJ23 : ∀ (M : Sto) (H : Heap) (locs : List Loc) (ls : Array Slot), lv_has ls 6 [] → Wd D A s (wX ct q M) H locs → j_N_put_23 M = some (0, rz, Mz) → W p l e rm_N_put s m args below meth c H locs 0 0 Q (F0 m 23 ls []) := by
    intro M H locs ls hl w h
    unfold j_N_put_23 at h
    simp at h
  refine lv_if_eq (tgt := 23) hx hb d_N_put_8 (by decide) (fun hc => ?_) (fun hc => ?_)
  · rw [if_pos hc] at h
    exact hJ23 _ _ _ _ (lv_sub hl [] rfl) w h
  · rw [if_neg hc] at h
    refine lv_iload_n hx hb d_N_put_11 rfl (lv_at hl 2 rfl) ?_
    refine lv_iload_n hx hb d_N_put_12 rfl (lv_at hl 3 rfl) ?_
    refine lv_iload hx hb d_N_put_13 (lv_at hl 4 rfl) ?_
    refine lv_iload hx hb d_N_put_15 (lv_at hl 5 rfl) ?_
    obtain ⟨r8, M9, hc10, h⟩ := bind_ok h
    try dsimp only at h
    refine U_si (rest := []) C0 w (c_N_isInstruction l D ct q hc10) wd_483 wd_481 wd_482 wd_1 (n9 := 4) (by decide +kernel) rfl ⟨(Nat.le_of_ble_eq_true rfl), (Nat.le_of_ble_eq_true rfl)⟩ hl.1 rfl (Nat.le_of_ble_eq_true rfl) d_N_put_17 (Nat.le_of_ble_eq_true rfl) (Nat.le_of_ble_eq_true rfl) (fun H locs w => ?_)
    refine lv_if_ne (tgt := 33) hx hb d_N_put_20 (by decide) (fun hc => ?_) (fun hc => ?_)
    · rw [if_neg hc] at h
      refine lv_aload_n hx hb d_N_put_33 rfl (lv_at hl 0 rfl) ?_
      refine U_get C0 w 0 (by decide) rfl rfl inN 0 (by decide) wd_339 rfl d_N_put_34 ?_
      refine U_get C0 w 1 (by decide) rfl rfl inP 1 (by decide) wd_41 rfl d_N_put_37 ?_
      refine lv_iload_n hx hb d_N_put_40 rfl (lv_at hl 1 rfl) ?_
      obtain ⟨hi11, h⟩ := if_ok h
      refine U_ald C0 w (iX_7 ct) hi11 d_N_put_41 ?_
      refine lv_bipush (v := 6) hx hb d_N_put_42 (by decide) ?_
      refine lv_icmp_lt (tgt := 57) hx hb d_N_put_44 (by decide) (fun hc => ?_) (fun hc => ?_)
      · rw [if_pos hc] at h
        refine lv_aload_n hx hb d_N_put_57 rfl (lv_at hl 0 rfl) ?_
        refine lv_iconst (v := 0) hx hb d_N_put_58 (by decide) ?_
        obtain ⟨hz12, h⟩ := if_ok h
        obtain ⟨M13, eM13, h⟩ := wr_ok h
        try dsimp only at h
        refine U_put C0 (cX_l ct) w 0 (by decide) rfl rfl inN tyN_ok nmN 6 (by decide) wd_345 rfl (bz_nar hz12) (bz_fit hz12) (Nat.le_of_ble_eq_true rfl) d_N_put_59 eM13 rfl (fun H locs w => ?_)
        refine lv_aload_n hx hb d_N_put_62 rfl (lv_at hl 0 rfl) ?_
        refine U_get C0 w 0 (by decide) rfl rfl inN 0 (by decide) wd_339 rfl d_N_put_63 ?_
        refine lv_iload_n hx hb d_N_put_66 rfl (lv_at hl 1 rfl) ?_
        refine lv_iload_n hx hb d_N_put_67 rfl (lv_at hl 2 rfl) ?_
        refine lv_iload_n hx hb d_N_put_68 rfl (lv_at hl 3 rfl) ?_
        refine lv_iload hx hb d_N_put_69 (lv_at hl 4 rfl) ?_
        refine lv_iload hx hb d_N_put_71 (lv_at hl 5 rfl) ?_
        obtain ⟨r14, M15, hc16, h⟩ := bind_ok h
        try dsimp only at h
        refine U_vi (rest := []) C0 w 1 (wU_at (by decide)) rfl (c_P_append l D ct q hc16) wd_516 wd_513 wd_514 wd_515 wd_2 (n9 := 5) (by decide +kernel) rfl ⟨(Nat.le_of_ble_eq_true rfl), (Nat.le_of_ble_eq_true rfl)⟩ hl.1 rfl (Nat.le_of_ble_eq_true rfl) d_N_put_73 (Nat.le_of_ble_eq_true rfl) (Nat.le_of_ble_eq_true rfl) (fun H locs w => ?_)
        cases h
        exact hret _ _ _ _ d_N_put_76 rfl w
      · rw [if_neg hc] at h
        simp at h
    · rw [if_pos hc] at h
      exact hJ23 _ _ _ _ (lv_sub hl [] rfl) w h
abbrev rm_P_isTarget : Room := { frames := 1, cells := 0, slots := 0, locals := 21 }
set_option maxHeartbeats 8000000 in
set_option maxRecDepth 100000 in
theorem c_P_isTarget (l : Launch) (D : va_G) (ct : Nat → ClassId) (q : Nat → Nat) {x1 : Int32} {M Mz : Sto} {rz : Int32} (h : m_P_isTarget x1 M = some (rz, Mz)) : KI l D ct y_P_isTarget b_P_isTarget 2 (some .boolean) 1 21 [.ref (q 1), .int x1] (wX ct q M) rz (wX ct q Mz) := by
  refine KI.ofU (by decide) (Nat.le_of_ble_eq_true rfl) rfl ?_
  intro p e s m args below meth c A Q ls C0 hl w hret
  have hx := C0.1
  have hb := C0.2.1
  have hl : lv_has ls 2 [(0, .ref (q 1)), (1, .int x1)] := hl
  unfold m_P_isTarget at h
  refine lv_iload_n hx hb d_P_isTarget_0 rfl (lv_at hl 1 rfl) ?_
  have hJ17 : ∀ (s0 : Int32) (M : Sto) (H : Heap) (locs : List Loc) (ls : Array Slot), lv_has ls 2 [] → Wd D A s (wX ct q M) H locs → j_P_isTarget_17 s0 M = some (rz, Mz) → W p l e rm_P_isTarget s m args below meth c H locs 0 0 Q (F0 m 17 ls [.int s0]) := by
    intro s0 M H locs ls hl w h
    unfold j_P_isTarget_17 at h
    obtain ⟨hz9, h⟩ := if_ok h
    cases h
    exact hret _ _ _ _ d_P_isTarget_17 (bz_nar hz9) w
  have hJ16 : ∀ (M : Sto) (H : Heap) (locs : List Loc) (ls : Array Slot), lv_has ls 2 [] → Wd D A s (wX ct q M) H locs → j_P_isTarget_16 M = some (rz, Mz) → W p l e rm_P_isTarget s m args below meth c H locs 0 0 Q (F0 m 16 ls []) := by
    intro M H locs ls hl w h
    unfold j_P_isTarget_16 at h
    refine lv_iconst (v := 0) hx hb d_P_isTarget_16 (by decide) ?_
    exact hJ17 _ _ _ _ _ (lv_sub hl [] rfl) w h
  refine lv_if_eq (tgt := 16) hx hb d_P_isTarget_1 (by decide) (fun hc => ?_) (fun hc => ?_)
  · rw [if_pos hc] at h
    exact hJ16 _ _ _ _ (lv_sub hl [] rfl) w h
  · rw [if_neg hc] at h
    refine lv_aload_n hx hb d_P_isTarget_4 rfl (lv_at hl 0 rfl) ?_
    refine lv_iload_n hx hb d_P_isTarget_5 rfl (lv_at hl 1 rfl) ?_
    obtain ⟨r2, M3, hc4, h⟩ := bind_ok h
    try dsimp only at h
    refine U_vi (rest := []) C0 w 1 (wU_at (by decide)) rfl (c_P_has l D ct q hc4) wd_480 wd_528 wd_478 wd_479 wd_2 (n9 := 1) (by decide +kernel) rfl ⟨(Nat.le_of_ble_eq_true rfl), (Nat.le_of_ble_eq_true rfl)⟩ hl.1 rfl (Nat.le_of_ble_eq_true rfl) d_P_isTarget_6 (Nat.le_of_ble_eq_true rfl) (Nat.le_of_ble_eq_true rfl) (fun H locs w => ?_)
    refine lv_if_eq (tgt := 16) hx hb d_P_isTarget_9 (by decide) (fun hc => ?_) (fun hc => ?_)
    · rw [if_pos hc] at h
      exact hJ16 _ _ _ _ (lv_sub hl [] rfl) w h
    · rw [if_neg hc] at h
      refine lv_iconst (v := 1) hx hb d_P_isTarget_12 (by decide) ?_
      refine lv_goto (tgt := 17) hx hb d_P_isTarget_13 (by decide) ?_
      exact hJ17 _ _ _ _ _ (lv_sub hl [] rfl) w h
abbrev rm_N_go : Room := { frames := 2, cells := 0, slots := 0, locals := 42 }
set_option maxHeartbeats 8000000 in
set_option maxRecDepth 100000 in
theorem c_N_go (l : Launch) (D : va_G) (ct : Nat → ClassId) (q : Nat → Nat) {x1 x2 : Int32} {M Mz : Sto} {rz : Int32} (h : m_N_go x1 x2 M = some (0, rz, Mz)) : KV l D ct y_N_go b_N_go 3 2 42 0 0 [.ref (q 0), .int x1, .int x2] (wX ct q M) (fun A t => CE D (wX ct q Mz) A t) := by
  refine KV.ofU (by decide) (Nat.le_of_ble_eq_true rfl) ?_
  intro p e s m args below meth c A Q ls C0 hl w hret
  have hx := C0.1
  have hb := C0.2.1
  have hl : lv_has ls 3 [(0, .ref (q 0)), (1, .int x1), (2, .int x2)] := hl
  unfold m_N_go at h
  refine lv_aload_n hx hb d_N_go_0 rfl (lv_at hl 0 rfl) ?_
  refine U_get C0 w 0 (by decide) rfl rfl inN 0 (by decide) wd_339 rfl d_N_go_1 ?_
  refine lv_iload_n hx hb d_N_go_4 rfl (lv_at hl 1 rfl) ?_
  obtain ⟨r5, M6, hc7, h⟩ := bind_ok h
  try dsimp only at h
  refine U_vi (rest := []) C0 w 1 (wU_at (by decide)) rfl (c_P_has l D ct q hc7) wd_480 wd_477 wd_478 wd_479 wd_2 (n9 := 1) (by decide +kernel) rfl ⟨(Nat.le_of_ble_eq_true rfl), (Nat.le_of_ble_eq_true rfl)⟩ hl.1 rfl (Nat.le_of_ble_eq_true rfl) d_N_go_5 (Nat.le_of_ble_eq_true rfl) (Nat.le_of_ble_eq_true rfl) (fun H locs w => ?_)
  have hJ22 : ∀ (M : Sto) (H : Heap) (locs : List Loc) (ls : Array Slot), lv_has ls 3 [] → Wd D A s (wX ct q M) H locs → j_N_go_22 M = some (0, rz, Mz) → W p l e rm_N_go s m args below meth c H locs 0 0 Q (F0 m 22 ls []) := by
    intro M H locs ls hl w h
    unfold j_N_go_22 at h
    simp at h
  refine lv_if_eq (tgt := 22) hx hb d_N_go_8 (by decide) (fun hc => ?_) (fun hc => ?_)
  · rw [if_pos hc] at h
    exact hJ22 _ _ _ _ (lv_sub hl [] rfl) w h
  · rw [if_neg hc] at h
    refine lv_aload_n hx hb d_N_go_11 rfl (lv_at hl 0 rfl) ?_
    refine U_get C0 w 0 (by decide) rfl rfl inN 0 (by decide) wd_339 rfl d_N_go_12 ?_
    refine lv_iload_n hx hb d_N_go_15 rfl (lv_at hl 2 rfl) ?_
    obtain ⟨r8, M9, hc10, h⟩ := bind_ok h
    try dsimp only at h
    refine U_vi (rest := []) C0 w 1 (wU_at (by decide)) rfl (c_P_isTarget l D ct q hc10) wd_527 wd_524 wd_525 wd_526 wd_2 (n9 := 1) (by decide +kernel) rfl ⟨(Nat.le_of_ble_eq_true rfl), (Nat.le_of_ble_eq_true rfl)⟩ hl.1 rfl (Nat.le_of_ble_eq_true rfl) d_N_go_16 (Nat.le_of_ble_eq_true rfl) (Nat.le_of_ble_eq_true rfl) (fun H locs w => ?_)
    refine lv_if_ne (tgt := 32) hx hb d_N_go_19 (by decide) (fun hc => ?_) (fun hc => ?_)
    · rw [if_neg hc] at h
      refine lv_aload_n hx hb d_N_go_32 rfl (lv_at hl 0 rfl) ?_
      refine lv_iconst (v := 0) hx hb d_N_go_33 (by decide) ?_
      obtain ⟨hz11, h⟩ := if_ok h
      obtain ⟨M12, eM12, h⟩ := wr_ok h
      try dsimp only at h
      refine U_put C0 (cX_l ct) w 0 (by decide) rfl rfl inN tyN_ok nmN 6 (by decide) wd_345 rfl (bz_nar hz11) (bz_fit hz11) (Nat.le_of_ble_eq_true rfl) d_N_go_34 eM12 rfl (fun H locs w => ?_)
      refine lv_aload_n hx hb d_N_go_37 rfl (lv_at hl 0 rfl) ?_
      refine U_get C0 w 0 (by decide) rfl rfl inN 0 (by decide) wd_339 rfl d_N_go_38 ?_
      refine lv_iload_n hx hb d_N_go_41 rfl (lv_at hl 1 rfl) ?_
      refine lv_iconst (v := 1) hx hb d_N_go_42 (by decide) ?_
      refine lv_iconst (v := 0) hx hb d_N_go_43 (by decide) ?_
      refine lv_iload_n hx hb d_N_go_44 rfl (lv_at hl 2 rfl) ?_
      refine lv_iload_n hx hb d_N_go_45 rfl (lv_at hl 2 rfl) ?_
      obtain ⟨r13, M14, hc15, h⟩ := bind_ok h
      try dsimp only at h
      refine U_vv (rest := []) C0 w 1 (wU_at (by decide)) rfl (c_P_setEnd l D ct q hc15) wd_468 wd_530 wd_466 wd_467 wd_2 (n9 := 5) (by decide +kernel) rfl ⟨(Nat.le_of_ble_eq_true rfl), (Nat.le_of_ble_eq_true rfl)⟩ hl.1 rfl (Nat.le_of_ble_eq_true rfl) d_N_go_46 (Nat.le_of_ble_eq_true rfl) (Nat.le_of_ble_eq_true rfl) (fun H locs w => ?_)
      cases h
      exact hret _ _ _ _ d_N_go_49 w
    · rw [if_pos hc] at h
      exact hJ22 _ _ _ _ (lv_sub hl [] rfl) w h
abbrev rm_N_fork : Room := { frames := 2, cells := 0, slots := 0, locals := 42 }
set_option maxHeartbeats 8000000 in
set_option maxRecDepth 100000 in
theorem c_N_fork (l : Launch) (D : va_G) (ct : Nat → ClassId) (q : Nat → Nat) {x1 x2 x3 x4 : Int32} {M Mz : Sto} {rz : Int32} (h : m_N_fork x1 x2 x3 x4 M = some (0, rz, Mz)) : KV l D ct y_N_fork b_N_fork 5 2 42 0 0 [.ref (q 0), .int x1, .int x2, .int x3, .int x4] (wX ct q M) (fun A t => CE D (wX ct q Mz) A t) := by
  refine KV.ofU (by decide) (Nat.le_of_ble_eq_true rfl) ?_
  intro p e s m args below meth c A Q ls C0 hl w hret
  have hx := C0.1
  have hb := C0.2.1
  have hl : lv_has ls 5 [(0, .ref (q 0)), (1, .int x1), (2, .int x2), (3, .int x3), (4, .int x4)] := hl
  unfold m_N_fork at h
  refine lv_aload_n hx hb d_N_fork_0 rfl (lv_at hl 0 rfl) ?_
  refine U_get C0 w 0 (by decide) rfl rfl inN 0 (by decide) wd_339 rfl d_N_fork_1 ?_
  refine lv_iload_n hx hb d_N_fork_4 rfl (lv_at hl 1 rfl) ?_
  obtain ⟨r7, M8, hc9, h⟩ := bind_ok h
  try dsimp only at h
  refine U_vi (rest := []) C0 w 1 (wU_at (by decide)) rfl (c_P_has l D ct q hc9) wd_480 wd_477 wd_478 wd_479 wd_2 (n9 := 1) (by decide +kernel) rfl ⟨(Nat.le_of_ble_eq_true rfl), (Nat.le_of_ble_eq_true rfl)⟩ hl.1 rfl (Nat.le_of_ble_eq_true rfl) d_N_fork_5 (Nat.le_of_ble_eq_true rfl) (Nat.le_of_ble_eq_true rfl) (fun H locs w => ?_)
  have hJ41 : ∀ (M : Sto) (H : Heap) (locs : List Loc) (ls : Array Slot), lv_has ls 5 [] → Wd D A s (wX ct q M) H locs → j_N_fork_41 M = some (0, rz, Mz) → W p l e rm_N_fork s m args below meth c H locs 0 0 Q (F0 m 41 ls []) := by
    intro M H locs ls hl w h
    unfold j_N_fork_41 at h
    simp at h
  refine lv_if_eq (tgt := 41) hx hb d_N_fork_8 (by decide) (fun hc => ?_) (fun hc => ?_)
  · rw [if_pos hc] at h
    exact hJ41 _ _ _ _ (lv_sub hl [] rfl) w h
  · rw [if_neg hc] at h
    refine lv_iload_n hx hb d_N_fork_11 rfl (lv_at hl 2 rfl) ?_
    obtain ⟨r10, M11, hc12, h⟩ := bind_ok h
    try dsimp only at h
    refine U_si (rest := []) C0 w (c_N_isVariable l D ct q hc12) wd_489 wd_487 wd_488 wd_1 (n9 := 1) (by decide +kernel) rfl ⟨(Nat.le_of_ble_eq_true rfl), (Nat.le_of_ble_eq_true rfl)⟩ hl.1 rfl (Nat.le_of_ble_eq_true rfl) d_N_fork_12 (Nat.le_of_ble_eq_true rfl) (Nat.le_of_ble_eq_true rfl) (fun H locs w => ?_)
    refine lv_if_eq (tgt := 41) hx hb d_N_fork_15 (by decide) (fun hc => ?_) (fun hc => ?_)
    · rw [if_pos hc] at h
      exact hJ41 _ _ _ _ (lv_sub hl [] rfl) w h
    · rw [if_neg hc] at h
      refine lv_aload_n hx hb d_N_fork_18 rfl (lv_at hl 0 rfl) ?_
      refine U_get C0 w 0 (by decide) rfl rfl inN 0 (by decide) wd_339 rfl d_N_fork_19 ?_
      refine lv_iload_n hx hb d_N_fork_22 rfl (lv_at hl 3 rfl) ?_
      obtain ⟨r13, M14, hc15, h⟩ := bind_ok h
      try dsimp only at h
      refine U_vi (rest := []) C0 w 1 (wU_at (by decide)) rfl (c_P_isTarget l D ct q hc15) wd_527 wd_524 wd_525 wd_526 wd_2 (n9 := 1) (by decide +kernel) rfl ⟨(Nat.le_of_ble_eq_true rfl), (Nat.le_of_ble_eq_true rfl)⟩ hl.1 rfl (Nat.le_of_ble_eq_true rfl) d_N_fork_23 (Nat.le_of_ble_eq_true rfl) (Nat.le_of_ble_eq_true rfl) (fun H locs w => ?_)
      refine lv_if_eq (tgt := 41) hx hb d_N_fork_26 (by decide) (fun hc => ?_) (fun hc => ?_)
      · rw [if_pos hc] at h
        exact hJ41 _ _ _ _ (lv_sub hl [] rfl) w h
      · rw [if_neg hc] at h
        refine lv_aload_n hx hb d_N_fork_29 rfl (lv_at hl 0 rfl) ?_
        refine U_get C0 w 0 (by decide) rfl rfl inN 0 (by decide) wd_339 rfl d_N_fork_30 ?_
        refine lv_iload hx hb d_N_fork_33 (lv_at hl 4 rfl) ?_
        obtain ⟨r16, M17, hc18, h⟩ := bind_ok h
        try dsimp only at h
        refine U_vi (rest := []) C0 w 1 (wU_at (by decide)) rfl (c_P_isTarget l D ct q hc18) wd_527 wd_524 wd_525 wd_526 wd_2 (n9 := 1) (by decide +kernel) rfl ⟨(Nat.le_of_ble_eq_true rfl), (Nat.le_of_ble_eq_true rfl)⟩ hl.1 rfl (Nat.le_of_ble_eq_true rfl) d_N_fork_35 (Nat.le_of_ble_eq_true rfl) (Nat.le_of_ble_eq_true rfl) (fun H locs w => ?_)
        refine lv_if_ne (tgt := 51) hx hb d_N_fork_38 (by decide) (fun hc => ?_) (fun hc => ?_)
        · rw [if_neg hc] at h
          refine lv_aload_n hx hb d_N_fork_51 rfl (lv_at hl 0 rfl) ?_
          refine lv_iconst (v := 0) hx hb d_N_fork_52 (by decide) ?_
          obtain ⟨hz19, h⟩ := if_ok h
          obtain ⟨M20, eM20, h⟩ := wr_ok h
          try dsimp only at h
          refine U_put C0 (cX_l ct) w 0 (by decide) rfl rfl inN tyN_ok nmN 6 (by decide) wd_345 rfl (bz_nar hz19) (bz_fit hz19) (Nat.le_of_ble_eq_true rfl) d_N_fork_53 eM20 rfl (fun H locs w => ?_)
          refine lv_aload_n hx hb d_N_fork_56 rfl (lv_at hl 0 rfl) ?_
          refine U_get C0 w 0 (by decide) rfl rfl inN 0 (by decide) wd_339 rfl d_N_fork_57 ?_
          refine lv_iload_n hx hb d_N_fork_60 rfl (lv_at hl 1 rfl) ?_
          refine lv_iconst (v := 2) hx hb d_N_fork_61 (by decide) ?_
          refine lv_iload_n hx hb d_N_fork_62 rfl (lv_at hl 2 rfl) ?_
          refine lv_iload_n hx hb d_N_fork_63 rfl (lv_at hl 3 rfl) ?_
          refine lv_iload hx hb d_N_fork_64 (lv_at hl 4 rfl) ?_
          obtain ⟨r21, M22, hc23, h⟩ := bind_ok h
          try dsimp only at h
          refine U_vv (rest := []) C0 w 1 (wU_at (by decide)) rfl (c_P_setEnd l D ct q hc23) wd_468 wd_530 wd_466 wd_467 wd_2 (n9 := 5) (by decide +kernel) rfl ⟨(Nat.le_of_ble_eq_true rfl), (Nat.le_of_ble_eq_true rfl)⟩ hl.1 rfl (Nat.le_of_ble_eq_true rfl) d_N_fork_66 (Nat.le_of_ble_eq_true rfl) (Nat.le_of_ble_eq_true rfl) (fun H locs w => ?_)
          cases h
          exact hret _ _ _ _ d_N_fork_69 w
        · rw [if_pos hc] at h
          exact hJ41 _ _ _ _ (lv_sub hl [] rfl) w h
abbrev rm_N_stop : Room := { frames := 1, cells := 0, slots := 0, locals := 25 }
set_option maxHeartbeats 8000000 in
set_option maxRecDepth 100000 in
theorem c_N_stop (l : Launch) (D : va_G) (ct : Nat → ClassId) (q : Nat → Nat) {x1 : Int32} {M Mz : Sto} {rz : Int32} (h : m_N_stop x1 M = some (0, rz, Mz)) : KV l D ct y_N_stop b_N_stop 2 1 25 0 0 [.ref (q 0), .int x1] (wX ct q M) (fun A t => CE D (wX ct q Mz) A t) := by
  refine KV.ofU (by decide) (Nat.le_of_ble_eq_true rfl) ?_
  intro p e s m args below meth c A Q ls C0 hl w hret
  have hx := C0.1
  have hb := C0.2.1
  have hl : lv_has ls 2 [(0, .ref (q 0)), (1, .int x1)] := hl
  unfold m_N_stop at h
  refine lv_aload_n hx hb d_N_stop_0 rfl (lv_at hl 0 rfl) ?_
  refine U_get C0 w 0 (by decide) rfl rfl inN 0 (by decide) wd_339 rfl d_N_stop_1 ?_
  refine lv_iload_n hx hb d_N_stop_4 rfl (lv_at hl 1 rfl) ?_
  obtain ⟨r4, M5, hc6, h⟩ := bind_ok h
  try dsimp only at h
  refine U_vi (rest := []) C0 w 1 (wU_at (by decide)) rfl (c_P_has l D ct q hc6) wd_480 wd_477 wd_478 wd_479 wd_2 (n9 := 1) (by decide +kernel) rfl ⟨(Nat.le_of_ble_eq_true rfl), (Nat.le_of_ble_eq_true rfl)⟩ hl.1 rfl (Nat.le_of_ble_eq_true rfl) d_N_stop_5 (Nat.le_of_ble_eq_true rfl) (Nat.le_of_ble_eq_true rfl) (fun H locs w => ?_)
  refine lv_if_ne (tgt := 21) hx hb d_N_stop_8 (by decide) (fun hc => ?_) (fun hc => ?_)
  · rw [if_neg hc] at h
    refine lv_aload_n hx hb d_N_stop_21 rfl (lv_at hl 0 rfl) ?_
    refine lv_iconst (v := 0) hx hb d_N_stop_22 (by decide) ?_
    obtain ⟨hz7, h⟩ := if_ok h
    obtain ⟨M8, eM8, h⟩ := wr_ok h
    try dsimp only at h
    refine U_put C0 (cX_l ct) w 0 (by decide) rfl rfl inN tyN_ok nmN 6 (by decide) wd_345 rfl (bz_nar hz7) (bz_fit hz7) (Nat.le_of_ble_eq_true rfl) d_N_stop_23 eM8 rfl (fun H locs w => ?_)
    refine lv_aload_n hx hb d_N_stop_26 rfl (lv_at hl 0 rfl) ?_
    refine U_get C0 w 0 (by decide) rfl rfl inN 0 (by decide) wd_339 rfl d_N_stop_27 ?_
    refine lv_iload_n hx hb d_N_stop_30 rfl (lv_at hl 1 rfl) ?_
    refine lv_iconst (v := 0) hx hb d_N_stop_31 (by decide) ?_
    refine lv_iconst (v := 0) hx hb d_N_stop_32 (by decide) ?_
    refine lv_iconst (v := 0) hx hb d_N_stop_33 (by decide) ?_
    refine lv_iconst (v := 0) hx hb d_N_stop_34 (by decide) ?_
    obtain ⟨r9, M10, hc11, h⟩ := bind_ok h
    try dsimp only at h
    refine U_vv (rest := []) C0 w 1 (wU_at (by decide)) rfl (c_P_setEnd l D ct q hc11) wd_468 wd_530 wd_466 wd_467 wd_2 (n9 := 5) (by decide +kernel) rfl ⟨(Nat.le_of_ble_eq_true rfl), (Nat.le_of_ble_eq_true rfl)⟩ hl.1 rfl (Nat.le_of_ble_eq_true rfl) d_N_stop_35 (Nat.le_of_ble_eq_true rfl) (Nat.le_of_ble_eq_true rfl) (fun H locs w => ?_)
    cases h
    exact hret _ _ _ _ d_N_stop_38 w
  · rw [if_pos hc] at h
    simp at h
abbrev rm_N_clear : Room := { frames := 0, cells := 0, slots := 0, locals := 0 }
set_option maxHeartbeats 8000000 in
set_option maxRecDepth 100000 in
theorem c_N_clear (l : Launch) (D : va_G) (ct : Nat → ClassId) (q : Nat → Nat) {M Mz : Sto} {rz : Int32} (h : m_N_clear M = some (rz, Mz)) : KV l D ct y_N_clear b_N_clear 1 0 0 0 0 [.ref (q 0)] (wX ct q M) (fun A t => CE D (wX ct q Mz) A t) := by
  refine KV.ofU (by decide) (Nat.le_of_ble_eq_true rfl) ?_
  intro p e s m args below meth c A Q ls C0 hl w hret
  have hx := C0.1
  have hb := C0.2.1
  have hl : lv_has ls 1 [(0, .ref (q 0))] := hl
  unfold m_N_clear at h
  refine lv_aload_n hx hb d_N_clear_0 rfl (lv_at hl 0 rfl) ?_
  refine lv_iconst (v := 0) hx hb d_N_clear_1 (by decide) ?_
  obtain ⟨hz3, h⟩ := if_ok h
  obtain ⟨M4, eM4, h⟩ := wr_ok h
  try dsimp only at h
  refine U_put C0 (cX_l ct) w 0 (by decide) rfl rfl inN tyN_ok nmN 6 (by decide) wd_345 rfl (bz_nar hz3) (bz_fit hz3) (Nat.le_of_ble_eq_true rfl) d_N_clear_2 eM4 rfl (fun H locs w => ?_)
  refine lv_aload_n hx hb d_N_clear_5 rfl (lv_at hl 0 rfl) ?_
  refine U_get C0 w 0 (by decide) rfl rfl inN 0 (by decide) wd_339 rfl d_N_clear_6 ?_
  refine lv_iconst (v := 0) hx hb d_N_clear_9 (by decide) ?_
  obtain ⟨M5, eM5, h⟩ := wr_ok h
  try dsimp only at h
  refine U_put C0 (cX_l ct) w 1 (by decide) rfl rfl inP tyP_ok nmP 0 (by decide) wd_33 rfl rfl rfl (Nat.le_of_ble_eq_true rfl) d_N_clear_10 eM5 rfl (fun H locs w => ?_)
  cases h
  exact hret _ _ _ _ d_N_clear_13 w
abbrev rm_N_bit : Room := { frames := 0, cells := 0, slots := 0, locals := 0 }
set_option maxHeartbeats 8000000 in
set_option maxRecDepth 100000 in
theorem c_N_bit (l : Launch) (D : va_G) (ct : Nat → ClassId) (q : Nat → Nat) {x0 : Int32} {M Mz : Sto} {rz : Int32} (h : m_N_bit x0 M = some (rz, Mz)) : KI l D ct y_N_bit b_N_bit 1 (some .int) 0 0 [.int x0] (wX ct q M) rz (wX ct q Mz) := by
  refine KI.ofU (by decide) (Nat.le_of_ble_eq_true rfl) rfl ?_
  intro p e s m args below meth c A Q ls C0 hl w hret
  have hx := C0.1
  have hb := C0.2.1
  have hl : lv_has ls 1 [(0, .int x0)] := hl
  unfold m_N_bit at h
  refine lv_iconst (v := 1) hx hb d_N_bit_0 (by decide) ?_
  refine lv_iload_n hx hb d_N_bit_1 rfl (lv_at hl 0 rfl) ?_
  refine lv_ishl hx hb d_N_bit_2 ?_
  cases h
  exact hret _ _ _ _ d_N_bit_3 rfl w
abbrev rm_N_holds : Room := { frames := 1, cells := 0, slots := 0, locals := 20 }
set_option maxHeartbeats 8000000 in
set_option maxRecDepth 100000 in
theorem c_N_holds (l : Launch) (D : va_G) (ct : Nat → ClassId) (q : Nat → Nat) {x0 x1 : Int32} {M Mz : Sto} {rz : Int32} (h : m_N_holds x0 x1 M = some (rz, Mz)) : KI l D ct y_N_holds b_N_holds 2 (some .boolean) 1 20 [.int x0, .int x1] (wX ct q M) rz (wX ct q Mz) := by
  refine KI.ofU (by decide) (Nat.le_of_ble_eq_true rfl) rfl ?_
  intro p e s m args below meth c A Q ls C0 hl w hret
  have hx := C0.1
  have hb := C0.2.1
  have hl : lv_has ls 2 [(0, .int x0), (1, .int x1)] := hl
  unfold m_N_holds at h
  refine lv_iload_n hx hb d_N_holds_0 rfl (lv_at hl 0 rfl) ?_
  refine lv_iload_n hx hb d_N_holds_1 rfl (lv_at hl 1 rfl) ?_
  obtain ⟨r2, M3, hc4, h⟩ := bind_ok h
  try dsimp only at h
  refine U_si (rest := [.int x0]) C0 w (c_N_bit l D ct q hc4) wd_565 wd_569 wd_564 wd_1 (n9 := 1) (by decide +kernel) rfl ⟨(Nat.le_of_ble_eq_true rfl), (Nat.le_of_ble_eq_true rfl)⟩ hl.1 rfl (Nat.le_of_ble_eq_true rfl) d_N_holds_2 (Nat.le_of_ble_eq_true rfl) (Nat.le_of_ble_eq_true rfl) (fun H locs w => ?_)
  refine lv_iand hx hb d_N_holds_5 ?_
  have hJ14 : ∀ (s0 : Int32) (M : Sto) (H : Heap) (locs : List Loc) (ls : Array Slot), lv_has ls 2 [] → Wd D A s (wX ct q M) H locs → j_N_holds_14 s0 M = some (rz, Mz) → W p l e rm_N_holds s m args below meth c H locs 0 0 Q (F0 m 14 ls [.int s0]) := by
    intro s0 M H locs ls hl w h
    unfold j_N_holds_14 at h
    obtain ⟨hz9, h⟩ := if_ok h
    cases h
    exact hret _ _ _ _ d_N_holds_14 (bz_nar hz9) w
  refine lv_if_eq (tgt := 13) hx hb d_N_holds_6 (by decide) (fun hc => ?_) (fun hc => ?_)
  · rw [if_pos hc] at h
    refine lv_iconst (v := 0) hx hb d_N_holds_13 (by decide) ?_
    exact hJ14 _ _ _ _ _ (lv_sub hl [] rfl) w h
  · rw [if_neg hc] at h
    refine lv_iconst (v := 1) hx hb d_N_holds_9 (by decide) ?_
    refine lv_goto (tgt := 14) hx hb d_N_holds_10 (by decide) ?_
    exact hJ14 _ _ _ _ _ (lv_sub hl [] rfl) w h
abbrev rm_P_ways : Room := { frames := 1, cells := 0, slots := 0, locals := 20 }
set_option maxHeartbeats 8000000 in
set_option maxRecDepth 100000 in
theorem c_P_ways (l : Launch) (D : va_G) (ct : Nat → ClassId) (q : Nat → Nat) {x1 : Int32} {M Mz : Sto} {rz : Int32} (h : m_P_ways x1 M = some (rz, Mz)) : KI l D ct y_P_ways b_P_ways 2 (some .int) 1 20 [.ref (q 1), .int x1] (wX ct q M) rz (wX ct q Mz) := by
  refine KI.ofU (by decide) (Nat.le_of_ble_eq_true rfl) rfl ?_
  intro p e s m args below meth c A Q ls C0 hl w hret
  have hx := C0.1
  have hb := C0.2.1
  have hl : lv_has ls 2 [(0, .ref (q 1)), (1, .int x1)] := hl
  unfold m_P_ways at h
  refine lv_aload_n hx hb d_P_ways_0 rfl (lv_at hl 0 rfl) ?_
  refine U_get C0 w 1 (by decide) rfl rfl inP 6 (by decide) wd_60 rfl d_P_ways_1 ?_
  refine lv_iload_n hx hb d_P_ways_4 rfl (lv_at hl 1 rfl) ?_
  obtain ⟨hi3, h⟩ := if_ok h
  refine U_ald C0 w (iX_8 ct) hi3 d_P_ways_5 ?_
  have hJ32 : ∀ (s0 : Int32) (M : Sto) (H : Heap) (locs : List Loc) (ls : Array Slot), lv_has ls 2 [] → Wd D A s (wX ct q M) H locs → j_P_ways_32 s0 M = some (rz, Mz) → W p l e rm_P_ways s m args below meth c H locs 0 0 Q (F0 m 32 ls [.int s0]) := by
    intro s0 M H locs ls hl w h
    unfold j_P_ways_32 at h
    cases h
    exact hret _ _ _ _ d_P_ways_32 rfl w
  refine lv_if_ne (tgt := 13) hx hb d_P_ways_6 (by decide) (fun hc => ?_) (fun hc => ?_)
  · rw [if_neg hc] at h
    refine lv_aload_n hx hb d_P_ways_13 rfl (lv_at hl 0 rfl) ?_
    refine U_get C0 w 1 (by decide) rfl rfl inP 8 (by decide) wd_66 rfl d_P_ways_14 ?_
    refine lv_iload_n hx hb d_P_ways_17 rfl (lv_at hl 1 rfl) ?_
    obtain ⟨hi4, h⟩ := if_ok h
    refine U_ald C0 w (iX_10 ct) hi4 d_P_ways_18 ?_
    obtain ⟨r5, M6, hc7, h⟩ := bind_ok h
    try dsimp only at h
    refine U_siN (rest := []) C0 w (c_N_bit l D ct q hc7) wd_565 (C0.2.2.2.2.2.2.nest ("NameForge$Program", 53, ⟨"NameForge", "bit", "(I)I"⟩) (by decide)) wd_564 wd_1 (n9 := 1) (by decide +kernel) rfl ⟨(Nat.le_of_ble_eq_true rfl), (Nat.le_of_ble_eq_true rfl)⟩ hl.1 rfl (Nat.le_of_ble_eq_true rfl) d_P_ways_19 (Nat.le_of_ble_eq_true rfl) (Nat.le_of_ble_eq_true rfl) (fun H locs w => ?_)
    refine lv_aload_n hx hb d_P_ways_22 rfl (lv_at hl 0 rfl) ?_
    refine U_get C0 w 1 (by decide) rfl rfl inP 9 (by decide) wd_69 rfl d_P_ways_23 ?_
    refine lv_iload_n hx hb d_P_ways_26 rfl (lv_at hl 1 rfl) ?_
    obtain ⟨hi8, h⟩ := if_ok h
    refine U_ald C0 w (iX_11 ct) hi8 d_P_ways_27 ?_
    obtain ⟨r9, M10, hc11, h⟩ := bind_ok h
    try dsimp only at h
    refine U_siN (rest := [.int r5]) C0 w (c_N_bit l D ct q hc11) wd_565 (C0.2.2.2.2.2.2.nest ("NameForge$Program", 53, ⟨"NameForge", "bit", "(I)I"⟩) (by decide)) wd_564 wd_1 (n9 := 1) (by decide +kernel) rfl ⟨(Nat.le_of_ble_eq_true rfl), (Nat.le_of_ble_eq_true rfl)⟩ hl.1 rfl (Nat.le_of_ble_eq_true rfl) d_P_ways_28 (Nat.le_of_ble_eq_true rfl) (Nat.le_of_ble_eq_true rfl) (fun H locs w => ?_)
    refine lv_ior hx hb d_P_ways_31 ?_
    exact hJ32 _ _ _ _ _ (lv_sub hl [] rfl) w h
  · rw [if_pos hc] at h
    refine lv_iconst (v := 0) hx hb d_P_ways_9 (by decide) ?_
    refine lv_goto (tgt := 32) hx hb d_P_ways_10 (by decide) ?_
    exact hJ32 _ _ _ _ _ (lv_sub hl [] rfl) w h
end
section
abbrev rm_S_comeBy : Room := { frames := 2, cells := 0, slots := 0, locals := 41 }
set_option maxHeartbeats 8000000 in
set_option maxRecDepth 100000 in
theorem c_S_comeBy (l : Launch) (D : va_G) (ct : Nat → ClassId) (q : Nat → Nat) {x1 : Int32} {M Mz : Sto} {rz : Int32} (h : m_S_comeBy x1 M = some (rz, Mz)) : KI l D ct y_S_comeBy b_S_comeBy 5 (some .int) 2 41 [.ref (q 2), .int x1] (wX ct q M) rz (wX ct q Mz) := by
  refine KI.ofU (by decide) (Nat.le_of_ble_eq_true rfl) rfl ?_
  intro p e s m args below meth c A Q ls C0 hl w hret
  have hx := C0.1
  have hb := C0.2.1
  have hl : lv_has ls 5 [(0, .ref (q 2)), (1, .int x1)] := hl
  unfold m_S_comeBy at h
  refine lv_iconst (v := 0) hx hb d_S_comeBy_0 (by decide) ?_
  obtain ⟨r4, M5, hc6, h⟩ := bind_ok h
  try dsimp only at h
  refine U_siN (rest := []) C0 w (c_N_bit l D ct q hc6) wd_565 (C0.2.2.2.2.2.2.nest ("NameForge$Shape", 54, ⟨"NameForge", "bit", "(I)I"⟩) (by decide)) wd_564 wd_1 (n9 := 1) (by decide +kernel) rfl ⟨(Nat.le_of_ble_eq_true rfl), (Nat.le_of_ble_eq_true rfl)⟩ hl.1 rfl (Nat.le_of_ble_eq_true rfl) d_S_comeBy_1 (Nat.le_of_ble_eq_true rfl) (Nat.le_of_ble_eq_true rfl) (fun H locs w => ?_)
  refine lv_iload_n hx hb d_S_comeBy_4 rfl (lv_at hl 1 rfl) ?_
  refine lv_iconst (v := (-1)) hx hb d_S_comeBy_5 (by decide) ?_
  refine lv_ixor hx hb d_S_comeBy_6 ?_
  refine lv_iand hx hb d_S_comeBy_7 ?_
  refine lv_istore_n hx hb d_S_comeBy_8 rfl hl (by decide) rfl (fun ls hl => ?_)
  have hl : lv_has ls 5 [(2, .int (r4 &&& (x1 ^^^ (-1)))), (0, .ref (q 2)), (1, .int x1)] := hl
  refine lv_iconst (v := 1) hx hb d_S_comeBy_9 (by decide) ?_
  refine lv_istore_n hx hb d_S_comeBy_10 rfl hl (by decide) rfl (fun ls hl => ?_)
  have hl : lv_has ls 5 [(3, .int 1), (2, .int (r4 &&& (x1 ^^^ (-1)))), (0, .ref (q 2)), (1, .int x1)] := hl
  generalize eK11 : j_S_comeBy_74 = K11 at h
  have hE11 : ∀ (v2 : Int32) (M : Sto) (H : Heap) (locs : List Loc) (ls : Array Slot), lv_has ls 5 [(2, .int v2)] → Wd D A s (wX ct q M) H locs → K11 v2 M = some (rz, Mz) → W p l e rm_S_comeBy s m args below meth c H locs 0 0 Q (F0 m 74 ls []) := by
    intro v2 M H locs ls hl w h
    rw [← eK11] at h
    unfold j_S_comeBy_74 at h
    refine lv_iload_n hx hb d_S_comeBy_74 rfl (lv_at hl 0 rfl) ?_
    cases h
    exact hret _ _ _ _ d_S_comeBy_75 rfl w
  have hL11 : ∀ (n : Nat) (v1 v2 v3 : Int32) (M : Sto) (H : Heap) (locs : List Loc) (ls : Array Slot), lv_has ls 5 [(0, .ref (q 2)), (1, .int v1), (2, .int v2), (3, .int v3)] → Wd D A s (wX ct q M) H locs → l_S_comeBy_11 K11 n v1 v2 v3 M = some (rz, Mz) → W p l e rm_S_comeBy s m args below meth c H locs 0 0 Q (F0 m 11 ls []) := by
    intro n
    induction n with
    | zero => intro v1 v2 v3 M H locs ls hl w h; simp [l_S_comeBy_11] at h
    | succ n ih11 =>
      intro v1 v2 v3 M H locs ls hl w h
      unfold l_S_comeBy_11 at h
      refine lv_iload_n hx hb d_S_comeBy_11 rfl (lv_at hl 3 rfl) ?_
      refine lv_aload_n hx hb d_S_comeBy_12 rfl (lv_at hl 0 rfl) ?_
      refine U_get C0 w 2 (by decide) rfl rfl inS 0 (by decide) wd_100 rfl d_S_comeBy_13 ?_
      refine U_get C0 w 1 (by decide) rfl rfl inP 0 (by decide) wd_35 rfl d_S_comeBy_16 ?_
      refine lv_icmp_ge (tgt := 74) hx hb d_S_comeBy_19 (by decide) (fun hc => ?_) (fun hc => ?_)
      · rw [if_pos hc] at h
        exact hE11 _ _ _ _ _ (lv_sub hl [2] rfl) w h
      · rw [if_neg hc] at h
        refine lv_iconst (v := 0) hx hb d_S_comeBy_22 (by decide) ?_
        refine lv_istore hx hb d_S_comeBy_23 hl (by decide) rfl (fun ls hl => ?_)
        have hl : lv_has ls 5 [(4, .int 0), (0, .ref (q 2)), (1, .int v1), (2, .int v2), (3, .int v3)] := hl
        generalize eK25 : j_S_comeBy_68 (l_S_comeBy_11 K11 n) K11 = K25 at h
        have hE25 : ∀ (v1 v2 v3 : Int32) (M : Sto) (H : Heap) (locs : List Loc) (ls : Array Slot), lv_has ls 5 [(0, .ref (q 2)), (1, .int v1), (2, .int v2), (3, .int v3)] → Wd D A s (wX ct q M) H locs → K25 v1 v2 v3 M = some (rz, Mz) → W p l e rm_S_comeBy s m args below meth c H locs 0 0 Q (F0 m 68 ls []) := by
          intro v1 v2 v3 M H locs ls hl w h
          rw [← eK25] at h
          unfold j_S_comeBy_68 at h
          refine lv_iinc (k := 3) (v := v3 + 1) hx hb d_S_comeBy_68 hl rfl (inc1 _) (by decide) rfl (fun ls hl => ?_)
          have hl : lv_has ls 5 [(3, .int (v3 + 1)), (0, .ref (q 2)), (1, .int v1), (2, .int v2)] := hl
          refine lv_goto (tgt := 11) hx hb d_S_comeBy_71 (by decide) ?_
          exact ih11 _ _ _ _ _ _ _ (lv_sub hl [1, 2, 3, 0] rfl) w h
        have hL25 : ∀ (n : Nat) (v1 v2 v3 v4 : Int32) (M : Sto) (H : Heap) (locs : List Loc) (ls : Array Slot), lv_has ls 5 [(0, .ref (q 2)), (1, .int v1), (2, .int v2), (3, .int v3), (4, .int v4)] → Wd D A s (wX ct q M) H locs → l_S_comeBy_25 K25 n v1 v2 v3 v4 M = some (rz, Mz) → W p l e rm_S_comeBy s m args below meth c H locs 0 0 Q (F0 m 25 ls []) := by
          intro n
          induction n with
          | zero => intro v1 v2 v3 v4 M H locs ls hl w h; simp [l_S_comeBy_25] at h
          | succ n ih25 =>
            intro v1 v2 v3 v4 M H locs ls hl w h
            unfold l_S_comeBy_25 at h
            refine lv_iload hx hb d_S_comeBy_25 (lv_at hl 4 rfl) ?_
            refine lv_aload_n hx hb d_S_comeBy_27 rfl (lv_at hl 0 rfl) ?_
            refine U_get C0 w 2 (by decide) rfl rfl inS 0 (by decide) wd_100 rfl d_S_comeBy_28 ?_
            refine U_get C0 w 1 (by decide) rfl rfl inP 0 (by decide) wd_35 rfl d_S_comeBy_31 ?_
            refine lv_icmp_ge (tgt := 68) hx hb d_S_comeBy_34 (by decide) (fun hc => ?_) (fun hc => ?_)
            · rw [if_pos hc] at h
              exact hE25 _ _ _ _ _ _ _ (lv_sub hl [0, 1, 2, 3] rfl) w h
            · rw [if_neg hc] at h
              refine lv_iload_n hx hb d_S_comeBy_37 rfl (lv_at hl 2 rfl) ?_
              refine lv_iload hx hb d_S_comeBy_38 (lv_at hl 4 rfl) ?_
              obtain ⟨r7, M8, hc9, h⟩ := bind_ok h
              try dsimp only at h
              refine U_siN (rest := []) C0 w (c_N_holds l D ct q hc9) wd_568 (C0.2.2.2.2.2.2.nest ("NameForge$Shape", 50, ⟨"NameForge", "holds", "(II)Z"⟩) (by decide)) wd_567 wd_1 (n9 := 2) (by decide +kernel) rfl ⟨(Nat.le_of_ble_eq_true rfl), (Nat.le_of_ble_eq_true rfl)⟩ hl.1 rfl (Nat.le_of_ble_eq_true rfl) d_S_comeBy_40 (Nat.le_of_ble_eq_true rfl) (Nat.le_of_ble_eq_true rfl) (fun H locs w => ?_)
              have hJ62 : ∀ (v1 v2 v3 v4 : Int32) (M : Sto) (H : Heap) (locs : List Loc) (ls : Array Slot), lv_has ls 5 [(0, .ref (q 2)), (1, .int v1), (2, .int v2), (3, .int v3), (4, .int v4)] → Wd D A s (wX ct q M) H locs → j_S_comeBy_62 (l_S_comeBy_25 K25 n) K25 v1 v2 v3 v4 M = some (rz, Mz) → W p l e rm_S_comeBy s m args below meth c H locs 0 0 Q (F0 m 62 ls []) := by
                intro v1 v2 v3 v4 M H locs ls hl w h
                unfold j_S_comeBy_62 at h
                refine lv_iinc (k := 4) (v := v4 + 1) hx hb d_S_comeBy_62 hl rfl (inc1 _) (by decide) rfl (fun ls hl => ?_)
                have hl : lv_has ls 5 [(4, .int (v4 + 1)), (0, .ref (q 2)), (1, .int v1), (2, .int v2), (3, .int v3)] := hl
                refine lv_goto (tgt := 25) hx hb d_S_comeBy_65 (by decide) ?_
                exact ih25 _ _ _ _ _ _ _ _ (lv_sub hl [1, 2, 3, 4, 0] rfl) w h
              refine lv_if_eq (tgt := 62) hx hb d_S_comeBy_43 (by decide) (fun hc => ?_) (fun hc => ?_)
              · rw [if_pos hc] at h
                exact hJ62 _ _ _ _ _ _ _ _ (lv_sub hl [0, 1, 2, 3, 4] rfl) w h
              · rw [if_neg hc] at h
                refine lv_iload_n hx hb d_S_comeBy_46 rfl (lv_at hl 2 rfl) ?_
                refine lv_aload_n hx hb d_S_comeBy_47 rfl (lv_at hl 0 rfl) ?_
                refine U_get C0 w 2 (by decide) rfl rfl inS 0 (by decide) wd_100 rfl d_S_comeBy_48 ?_
                refine lv_iload hx hb d_S_comeBy_51 (lv_at hl 4 rfl) ?_
                obtain ⟨r10, M11, hc12, h⟩ := bind_ok h
                try dsimp only at h
                refine U_vi (rest := [.int v2]) C0 w 1 (wU_at (by decide)) rfl (c_P_ways l D ct q hc12) wd_573 wd_570 wd_571 wd_572 wd_2 (n9 := 1) (by decide +kernel) rfl ⟨(Nat.le_of_ble_eq_true rfl), (Nat.le_of_ble_eq_true rfl)⟩ hl.1 rfl (Nat.le_of_ble_eq_true rfl) d_S_comeBy_53 (Nat.le_of_ble_eq_true rfl) (Nat.le_of_ble_eq_true rfl) (fun H locs w => ?_)
                refine lv_iload_n hx hb d_S_comeBy_56 rfl (lv_at hl 1 rfl) ?_
                refine lv_iconst (v := (-1)) hx hb d_S_comeBy_57 (by decide) ?_
                refine lv_ixor hx hb d_S_comeBy_58 ?_
                refine lv_iand hx hb d_S_comeBy_59 ?_
                refine lv_ior hx hb d_S_comeBy_60 ?_
                refine lv_istore_n hx hb d_S_comeBy_61 rfl hl (by decide) rfl (fun ls hl => ?_)
                have hl : lv_has ls 5 [(2, .int (v2 ||| (r10 &&& (v1 ^^^ (-1))))), (0, .ref (q 2)), (1, .int v1), (3, .int v3), (4, .int v4)] := hl
                exact hJ62 _ _ _ _ _ _ _ _ (lv_sub hl [1, 2, 0, 3, 4] rfl) w h
        exact hL25 FU _ _ _ _ _ _ _ _ (lv_sub hl [1, 2, 3, 4, 0] rfl) w h
  exact hL11 FU _ _ _ _ _ _ _ (lv_sub hl [2, 3, 1, 0] rfl) w h
abbrev rm_S_findBefore : Room := { frames := 2, cells := 0, slots := 0, locals := 41 }
set_option maxHeartbeats 8000000 in
set_option maxRecDepth 100000 in
theorem c_S_findBefore (l : Launch) (D : va_G) (ct : Nat → ClassId) (q : Nat → Nat) {x1 : Int32} {M Mz : Sto} {rz : Int32} (h : m_S_findBefore x1 M = some (rz, Mz)) : KI l D ct y_S_findBefore b_S_findBefore 4 (some .int) 2 41 [.ref (q 2), .int x1] (wX ct q M) rz (wX ct q Mz) := by
  refine KI.ofU (by decide) (Nat.le_of_ble_eq_true rfl) rfl ?_
  intro p e s m args below meth c A Q ls C0 hl w hret
  have hx := C0.1
  have hb := C0.2.1
  have hl : lv_has ls 4 [(0, .ref (q 2)), (1, .int x1)] := hl
  unfold m_S_findBefore at h
  refine lv_iconst (v := 0) hx hb d_S_findBefore_0 (by decide) ?_
  refine lv_istore_n hx hb d_S_findBefore_1 rfl hl (by decide) rfl (fun ls hl => ?_)
  have hl : lv_has ls 4 [(2, .int 0), (0, .ref (q 2)), (1, .int x1)] := hl
  refine lv_iconst (v := 0) hx hb d_S_findBefore_2 (by decide) ?_
  refine lv_istore_n hx hb d_S_findBefore_3 rfl hl (by decide) rfl (fun ls hl => ?_)
  have hl : lv_has ls 4 [(3, .int 0), (2, .int 0), (0, .ref (q 2)), (1, .int x1)] := hl
  generalize eK4 : j_S_findBefore_54 = K4 at h
  have hE4 : ∀ (v2 : Int32) (M : Sto) (H : Heap) (locs : List Loc) (ls : Array Slot), lv_has ls 4 [(2, .int v2)] → Wd D A s (wX ct q M) H locs → K4 v2 M = some (rz, Mz) → W p l e rm_S_findBefore s m args below meth c H locs 0 0 Q (F0 m 54 ls []) := by
    intro v2 M H locs ls hl w h
    rw [← eK4] at h
    unfold j_S_findBefore_54 at h
    refine lv_iload_n hx hb d_S_findBefore_54 rfl (lv_at hl 0 rfl) ?_
    cases h
    exact hret _ _ _ _ d_S_findBefore_55 rfl w
  have hL4 : ∀ (n : Nat) (v1 v2 v3 : Int32) (M : Sto) (H : Heap) (locs : List Loc) (ls : Array Slot), lv_has ls 4 [(0, .ref (q 2)), (1, .int v1), (2, .int v2), (3, .int v3)] → Wd D A s (wX ct q M) H locs → l_S_findBefore_4 K4 n v1 v2 v3 M = some (rz, Mz) → W p l e rm_S_findBefore s m args below meth c H locs 0 0 Q (F0 m 4 ls []) := by
    intro n
    induction n with
    | zero => intro v1 v2 v3 M H locs ls hl w h; simp [l_S_findBefore_4] at h
    | succ n ih4 =>
      intro v1 v2 v3 M H locs ls hl w h
      unfold l_S_findBefore_4 at h
      refine lv_iload_n hx hb d_S_findBefore_4 rfl (lv_at hl 3 rfl) ?_
      refine lv_aload_n hx hb d_S_findBefore_5 rfl (lv_at hl 0 rfl) ?_
      refine U_get C0 w 2 (by decide) rfl rfl inS 0 (by decide) wd_100 rfl d_S_findBefore_6 ?_
      refine U_get C0 w 1 (by decide) rfl rfl inP 0 (by decide) wd_35 rfl d_S_findBefore_9 ?_
      refine lv_icmp_ge (tgt := 54) hx hb d_S_findBefore_12 (by decide) (fun hc => ?_) (fun hc => ?_)
      · rw [if_pos hc] at h
        exact hE4 _ _ _ _ _ (lv_sub hl [2] rfl) w h
      · rw [if_neg hc] at h
        refine lv_aload_n hx hb d_S_findBefore_15 rfl (lv_at hl 0 rfl) ?_
        refine U_get C0 w 2 (by decide) rfl rfl inS 1 (by decide) wd_101 rfl d_S_findBefore_16 ?_
        refine lv_iload_n hx hb d_S_findBefore_19 rfl (lv_at hl 3 rfl) ?_
        obtain ⟨r5, M6, hc7, h⟩ := bind_ok h
        try dsimp only at h
        refine U_siN (rest := []) C0 w (c_N_holds l D ct q hc7) wd_568 (C0.2.2.2.2.2.2.nest ("NameForge$Shape", 50, ⟨"NameForge", "holds", "(II)Z"⟩) (by decide)) wd_567 wd_1 (n9 := 2) (by decide +kernel) rfl ⟨(Nat.le_of_ble_eq_true rfl), (Nat.le_of_ble_eq_true rfl)⟩ hl.1 rfl (Nat.le_of_ble_eq_true rfl) d_S_findBefore_20 (Nat.le_of_ble_eq_true rfl) (Nat.le_of_ble_eq_true rfl) (fun H locs w => ?_)
        have hJ48 : ∀ (v1 v2 v3 : Int32) (M : Sto) (H : Heap) (locs : List Loc) (ls : Array Slot), lv_has ls 4 [(0, .ref (q 2)), (1, .int v1), (2, .int v2), (3, .int v3)] → Wd D A s (wX ct q M) H locs → j_S_findBefore_48 (l_S_findBefore_4 K4 n) K4 v1 v2 v3 M = some (rz, Mz) → W p l e rm_S_findBefore s m args below meth c H locs 0 0 Q (F0 m 48 ls []) := by
          intro v1 v2 v3 M H locs ls hl w h
          unfold j_S_findBefore_48 at h
          refine lv_iinc (k := 3) (v := v3 + 1) hx hb d_S_findBefore_48 hl rfl (inc1 _) (by decide) rfl (fun ls hl => ?_)
          have hl : lv_has ls 4 [(3, .int (v3 + 1)), (0, .ref (q 2)), (1, .int v1), (2, .int v2)] := hl
          refine lv_goto (tgt := 4) hx hb d_S_findBefore_51 (by decide) ?_
          exact ih4 _ _ _ _ _ _ _ (lv_sub hl [1, 2, 3, 0] rfl) w h
        refine lv_if_eq (tgt := 48) hx hb d_S_findBefore_23 (by decide) (fun hc => ?_) (fun hc => ?_)
        · rw [if_pos hc] at h
          exact hJ48 _ _ _ _ _ _ _ (lv_sub hl [0, 1, 2, 3] rfl) w h
        · rw [if_neg hc] at h
          refine lv_aload_n hx hb d_S_findBefore_26 rfl (lv_at hl 0 rfl) ?_
          refine U_get C0 w 2 (by decide) rfl rfl inS 0 (by decide) wd_100 rfl d_S_findBefore_27 ?_
          refine lv_iload_n hx hb d_S_findBefore_30 rfl (lv_at hl 3 rfl) ?_
          obtain ⟨r8, M9, hc10, h⟩ := bind_ok h
          try dsimp only at h
          refine U_vi (rest := []) C0 w 1 (wU_at (by decide)) rfl (c_P_ways l D ct q hc10) wd_573 wd_570 wd_571 wd_572 wd_2 (n9 := 1) (by decide +kernel) rfl ⟨(Nat.le_of_ble_eq_true rfl), (Nat.le_of_ble_eq_true rfl)⟩ hl.1 rfl (Nat.le_of_ble_eq_true rfl) d_S_findBefore_31 (Nat.le_of_ble_eq_true rfl) (Nat.le_of_ble_eq_true rfl) (fun H locs w => ?_)
          refine lv_iload_n hx hb d_S_findBefore_34 rfl (lv_at hl 1 rfl) ?_
          obtain ⟨r11, M12, hc13, h⟩ := bind_ok h
          try dsimp only at h
          refine U_siN (rest := []) C0 w (c_N_holds l D ct q hc13) wd_568 (C0.2.2.2.2.2.2.nest ("NameForge$Shape", 50, ⟨"NameForge", "holds", "(II)Z"⟩) (by decide)) wd_567 wd_1 (n9 := 2) (by decide +kernel) rfl ⟨(Nat.le_of_ble_eq_true rfl), (Nat.le_of_ble_eq_true rfl)⟩ hl.1 rfl (Nat.le_of_ble_eq_true rfl) d_S_findBefore_35 (Nat.le_of_ble_eq_true rfl) (Nat.le_of_ble_eq_true rfl) (fun H locs w => ?_)
          refine lv_if_eq (tgt := 48) hx hb d_S_findBefore_38 (by decide) (fun hc => ?_) (fun hc => ?_)
          · rw [if_pos hc] at h
            exact hJ48 _ _ _ _ _ _ _ (lv_sub hl [0, 1, 2, 3] rfl) w h
          · rw [if_neg hc] at h
            refine lv_iload_n hx hb d_S_findBefore_41 rfl (lv_at hl 2 rfl) ?_
            refine lv_iload_n hx hb d_S_findBefore_42 rfl (lv_at hl 3 rfl) ?_
            obtain ⟨r14, M15, hc16, h⟩ := bind_ok h
            try dsimp only at h
            refine U_siN (rest := [.int v2]) C0 w (c_N_bit l D ct q hc16) wd_565 (C0.2.2.2.2.2.2.nest ("NameForge$Shape", 54, ⟨"NameForge", "bit", "(I)I"⟩) (by decide)) wd_564 wd_1 (n9 := 1) (by decide +kernel) rfl ⟨(Nat.le_of_ble_eq_true rfl), (Nat.le_of_ble_eq_true rfl)⟩ hl.1 rfl (Nat.le_of_ble_eq_true rfl) d_S_findBefore_43 (Nat.le_of_ble_eq_true rfl) (Nat.le_of_ble_eq_true rfl) (fun H locs w => ?_)
            refine lv_ior hx hb d_S_findBefore_46 ?_
            refine lv_istore_n hx hb d_S_findBefore_47 rfl hl (by decide) rfl (fun ls hl => ?_)
            have hl : lv_has ls 4 [(2, .int (v2 ||| r14)), (0, .ref (q 2)), (1, .int v1), (3, .int v3)] := hl
            exact hJ48 _ _ _ _ _ _ _ (lv_sub hl [1, 2, 0, 3] rfl) w h
  exact hL4 FU _ _ _ _ _ _ _ (lv_sub hl [2, 3, 1, 0] rfl) w h
abbrev rm_S_findParent : Room := { frames := 2, cells := 0, slots := 0, locals := 41 }
set_option maxHeartbeats 8000000 in
set_option maxRecDepth 100000 in
theorem c_S_findParent (l : Launch) (D : va_G) (ct : Nat → ClassId) (q : Nat → Nat) {x1 : Int32} {M Mz : Sto} {rz : Int32} (h : m_S_findParent x1 M = some (rz, Mz)) : KI l D ct y_S_findParent b_S_findParent 4 (some .int) 2 41 [.ref (q 2), .int x1] (wX ct q M) rz (wX ct q Mz) := by
  refine KI.ofU (by decide) (Nat.le_of_ble_eq_true rfl) rfl ?_
  intro p e s m args below meth c A Q ls C0 hl w hret
  have hx := C0.1
  have hb := C0.2.1
  have hl : lv_has ls 4 [(0, .ref (q 2)), (1, .int x1)] := hl
  unfold m_S_findParent at h
  refine lv_iconst (v := (-1)) hx hb d_S_findParent_0 (by decide) ?_
  refine lv_istore_n hx hb d_S_findParent_1 rfl hl (by decide) rfl (fun ls hl => ?_)
  have hl : lv_has ls 4 [(2, .int (-1)), (0, .ref (q 2)), (1, .int x1)] := hl
  refine lv_iconst (v := 0) hx hb d_S_findParent_2 (by decide) ?_
  refine lv_istore_n hx hb d_S_findParent_3 rfl hl (by decide) rfl (fun ls hl => ?_)
  have hl : lv_has ls 4 [(3, .int 0), (2, .int (-1)), (0, .ref (q 2)), (1, .int x1)] := hl
  generalize eK4 : j_S_findParent_59 = K4 at h
  have hE4 : ∀ (v2 : Int32) (M : Sto) (H : Heap) (locs : List Loc) (ls : Array Slot), lv_has ls 4 [(2, .int v2)] → Wd D A s (wX ct q M) H locs → K4 v2 M = some (rz, Mz) → W p l e rm_S_findParent s m args below meth c H locs 0 0 Q (F0 m 59 ls []) := by
    intro v2 M H locs ls hl w h
    rw [← eK4] at h
    unfold j_S_findParent_59 at h
    refine lv_iload_n hx hb d_S_findParent_59 rfl (lv_at hl 0 rfl) ?_
    cases h
    exact hret _ _ _ _ d_S_findParent_60 rfl w
  have hL4 : ∀ (n : Nat) (v1 v2 v3 : Int32) (M : Sto) (H : Heap) (locs : List Loc) (ls : Array Slot), lv_has ls 4 [(0, .ref (q 2)), (1, .int v1), (2, .int v2), (3, .int v3)] → Wd D A s (wX ct q M) H locs → l_S_findParent_4 K4 n v1 v2 v3 M = some (rz, Mz) → W p l e rm_S_findParent s m args below meth c H locs 0 0 Q (F0 m 4 ls []) := by
    intro n
    induction n with
    | zero => intro v1 v2 v3 M H locs ls hl w h; simp [l_S_findParent_4] at h
    | succ n ih4 =>
      intro v1 v2 v3 M H locs ls hl w h
      unfold l_S_findParent_4 at h
      refine lv_iload_n hx hb d_S_findParent_4 rfl (lv_at hl 3 rfl) ?_
      refine lv_aload_n hx hb d_S_findParent_5 rfl (lv_at hl 0 rfl) ?_
      refine U_get C0 w 2 (by decide) rfl rfl inS 0 (by decide) wd_100 rfl d_S_findParent_6 ?_
      refine U_get C0 w 1 (by decide) rfl rfl inP 0 (by decide) wd_35 rfl d_S_findParent_9 ?_
      refine lv_icmp_ge (tgt := 59) hx hb d_S_findParent_12 (by decide) (fun hc => ?_) (fun hc => ?_)
      · rw [if_pos hc] at h
        exact hE4 _ _ _ _ _ (lv_sub hl [2] rfl) w h
      · rw [if_neg hc] at h
        refine lv_iload_n hx hb d_S_findParent_15 rfl (lv_at hl 3 rfl) ?_
        refine lv_iload_n hx hb d_S_findParent_16 rfl (lv_at hl 1 rfl) ?_
        have hJ53 : ∀ (v1 v2 v3 : Int32) (M : Sto) (H : Heap) (locs : List Loc) (ls : Array Slot), lv_has ls 4 [(0, .ref (q 2)), (1, .int v1), (2, .int v2), (3, .int v3)] → Wd D A s (wX ct q M) H locs → j_S_findParent_53 (l_S_findParent_4 K4 n) K4 v1 v2 v3 M = some (rz, Mz) → W p l e rm_S_findParent s m args below meth c H locs 0 0 Q (F0 m 53 ls []) := by
          intro v1 v2 v3 M H locs ls hl w h
          unfold j_S_findParent_53 at h
          refine lv_iinc (k := 3) (v := v3 + 1) hx hb d_S_findParent_53 hl rfl (inc1 _) (by decide) rfl (fun ls hl => ?_)
          have hl : lv_has ls 4 [(3, .int (v3 + 1)), (0, .ref (q 2)), (1, .int v1), (2, .int v2)] := hl
          refine lv_goto (tgt := 4) hx hb d_S_findParent_56 (by decide) ?_
          exact ih4 _ _ _ _ _ _ _ (lv_sub hl [1, 2, 3, 0] rfl) w h
        refine lv_icmp_eq (tgt := 53) hx hb d_S_findParent_17 (by decide) (fun hc => ?_) (fun hc => ?_)
        · rw [if_pos hc] at h
          exact hJ53 _ _ _ _ _ _ _ (lv_sub hl [0, 1, 2, 3] rfl) w h
        · rw [if_neg hc] at h
          refine lv_aload_n hx hb d_S_findParent_20 rfl (lv_at hl 0 rfl) ?_
          refine U_get C0 w 2 (by decide) rfl rfl inS 3 (by decide) wd_105 rfl d_S_findParent_21 ?_
          refine lv_iload_n hx hb d_S_findParent_24 rfl (lv_at hl 3 rfl) ?_
          obtain ⟨hi3, h⟩ := if_ok h
          refine U_ald C0 w (iX_13 ct) hi3 d_S_findParent_25 ?_
          refine lv_iload_n hx hb d_S_findParent_26 rfl (lv_at hl 1 rfl) ?_
          obtain ⟨r4, M5, hc6, h⟩ := bind_ok h
          try dsimp only at h
          refine U_siN (rest := []) C0 w (c_N_holds l D ct q hc6) wd_568 (C0.2.2.2.2.2.2.nest ("NameForge$Shape", 50, ⟨"NameForge", "holds", "(II)Z"⟩) (by decide)) wd_567 wd_1 (n9 := 2) (by decide +kernel) rfl ⟨(Nat.le_of_ble_eq_true rfl), (Nat.le_of_ble_eq_true rfl)⟩ hl.1 rfl (Nat.le_of_ble_eq_true rfl) d_S_findParent_27 (Nat.le_of_ble_eq_true rfl) (Nat.le_of_ble_eq_true rfl) (fun H locs w => ?_)
          refine lv_if_eq (tgt := 53) hx hb d_S_findParent_30 (by decide) (fun hc => ?_) (fun hc => ?_)
          · rw [if_pos hc] at h
            exact hJ53 _ _ _ _ _ _ _ (lv_sub hl [0, 1, 2, 3] rfl) w h
          · rw [if_neg hc] at h
            refine lv_iload_n hx hb d_S_findParent_33 rfl (lv_at hl 2 rfl) ?_
            refine lv_iconst (v := (-1)) hx hb d_S_findParent_34 (by decide) ?_
            have hJ51 : ∀ (v1 v3 : Int32) (M : Sto) (H : Heap) (locs : List Loc) (ls : Array Slot), lv_has ls 4 [(0, .ref (q 2)), (1, .int v1), (3, .int v3)] → Wd D A s (wX ct q M) H locs → j_S_findParent_51 (l_S_findParent_4 K4 n) K4 v1 v3 M = some (rz, Mz) → W p l e rm_S_findParent s m args below meth c H locs 0 0 Q (F0 m 51 ls []) := by
              intro v1 v3 M H locs ls hl w h
              unfold j_S_findParent_51 at h
              refine lv_iload_n hx hb d_S_findParent_51 rfl (lv_at hl 2 rfl) ?_
              refine lv_istore_n hx hb d_S_findParent_52 rfl hl (by decide) rfl (fun ls hl => ?_)
              have hl : lv_has ls 4 [(2, .int v3), (0, .ref (q 2)), (1, .int v1), (3, .int v3)] := hl
              exact hJ53 _ _ _ _ _ _ _ (lv_sub hl [1, 2, 0, 3] rfl) w h
            refine lv_icmp_eq (tgt := 51) hx hb d_S_findParent_35 (by decide) (fun hc => ?_) (fun hc => ?_)
            · rw [if_pos hc] at h
              exact hJ51 _ _ _ _ _ _ (lv_sub hl [0, 1, 3] rfl) w h
            · rw [if_neg hc] at h
              refine lv_aload_n hx hb d_S_findParent_38 rfl (lv_at hl 0 rfl) ?_
              refine U_get C0 w 2 (by decide) rfl rfl inS 3 (by decide) wd_105 rfl d_S_findParent_39 ?_
              refine lv_iload_n hx hb d_S_findParent_42 rfl (lv_at hl 2 rfl) ?_
              obtain ⟨hi7, h⟩ := if_ok h
              refine U_ald C0 w (iX_13 ct) hi7 d_S_findParent_43 ?_
              refine lv_iload_n hx hb d_S_findParent_44 rfl (lv_at hl 3 rfl) ?_
              obtain ⟨r8, M9, hc10, h⟩ := bind_ok h
              try dsimp only at h
              refine U_siN (rest := []) C0 w (c_N_holds l D ct q hc10) wd_568 (C0.2.2.2.2.2.2.nest ("NameForge$Shape", 50, ⟨"NameForge", "holds", "(II)Z"⟩) (by decide)) wd_567 wd_1 (n9 := 2) (by decide +kernel) rfl ⟨(Nat.le_of_ble_eq_true rfl), (Nat.le_of_ble_eq_true rfl)⟩ hl.1 rfl (Nat.le_of_ble_eq_true rfl) d_S_findParent_45 (Nat.le_of_ble_eq_true rfl) (Nat.le_of_ble_eq_true rfl) (fun H locs w => ?_)
              refine lv_if_eq (tgt := 53) hx hb d_S_findParent_48 (by decide) (fun hc => ?_) (fun hc => ?_)
              · rw [if_pos hc] at h
                exact hJ53 _ _ _ _ _ _ _ (lv_sub hl [0, 1, 2, 3] rfl) w h
              · rw [if_neg hc] at h
                exact hJ51 _ _ _ _ _ _ (lv_sub hl [0, 1, 3] rfl) w h
  exact hL4 FU _ _ _ _ _ _ _ (lv_sub hl [2, 3, 1, 0] rfl) w h
abbrev rm_S_findFrontier : Room := { frames := 2, cells := 0, slots := 0, locals := 41 }
set_option maxHeartbeats 8000000 in
set_option maxRecDepth 100000 in
theorem c_S_findFrontier (l : Launch) (D : va_G) (ct : Nat → ClassId) (q : Nat → Nat) {x1 : Int32} {M Mz : Sto} {rz : Int32} (h : m_S_findFrontier x1 M = some (rz, Mz)) : KI l D ct y_S_findFrontier b_S_findFrontier 5 (some .int) 2 41 [.ref (q 2), .int x1] (wX ct q M) rz (wX ct q Mz) := by
  refine KI.ofU (by decide) (Nat.le_of_ble_eq_true rfl) rfl ?_
  intro p e s m args below meth c A Q ls C0 hl w hret
  have hx := C0.1
  have hb := C0.2.1
  have hl : lv_has ls 5 [(0, .ref (q 2)), (1, .int x1)] := hl
  unfold m_S_findFrontier at h
  refine lv_iconst (v := 0) hx hb d_S_findFrontier_0 (by decide) ?_
  refine lv_istore_n hx hb d_S_findFrontier_1 rfl hl (by decide) rfl (fun ls hl => ?_)
  have hl : lv_has ls 5 [(2, .int 0), (0, .ref (q 2)), (1, .int x1)] := hl
  refine lv_iconst (v := 0) hx hb d_S_findFrontier_2 (by decide) ?_
  refine lv_istore_n hx hb d_S_findFrontier_3 rfl hl (by decide) rfl (fun ls hl => ?_)
  have hl : lv_has ls 5 [(3, .int 0), (2, .int 0), (0, .ref (q 2)), (1, .int x1)] := hl
  generalize eK4 : j_S_findFrontier_74 = K4 at h
  have hE4 : ∀ (v2 : Int32) (M : Sto) (H : Heap) (locs : List Loc) (ls : Array Slot), lv_has ls 5 [(2, .int v2)] → Wd D A s (wX ct q M) H locs → K4 v2 M = some (rz, Mz) → W p l e rm_S_findFrontier s m args below meth c H locs 0 0 Q (F0 m 74 ls []) := by
    intro v2 M H locs ls hl w h
    rw [← eK4] at h
    unfold j_S_findFrontier_74 at h
    refine lv_iload_n hx hb d_S_findFrontier_74 rfl (lv_at hl 0 rfl) ?_
    cases h
    exact hret _ _ _ _ d_S_findFrontier_75 rfl w
  have hL4 : ∀ (n : Nat) (v1 v2 v3 : Int32) (M : Sto) (H : Heap) (locs : List Loc) (ls : Array Slot), lv_has ls 5 [(0, .ref (q 2)), (1, .int v1), (2, .int v2), (3, .int v3)] → Wd D A s (wX ct q M) H locs → l_S_findFrontier_4 K4 n v1 v2 v3 M = some (rz, Mz) → W p l e rm_S_findFrontier s m args below meth c H locs 0 0 Q (F0 m 4 ls []) := by
    intro n
    induction n with
    | zero => intro v1 v2 v3 M H locs ls hl w h; simp [l_S_findFrontier_4] at h
    | succ n ih4 =>
      intro v1 v2 v3 M H locs ls hl w h
      unfold l_S_findFrontier_4 at h
      refine lv_iload_n hx hb d_S_findFrontier_4 rfl (lv_at hl 3 rfl) ?_
      refine lv_aload_n hx hb d_S_findFrontier_5 rfl (lv_at hl 0 rfl) ?_
      refine U_get C0 w 2 (by decide) rfl rfl inS 0 (by decide) wd_100 rfl d_S_findFrontier_6 ?_
      refine U_get C0 w 1 (by decide) rfl rfl inP 0 (by decide) wd_35 rfl d_S_findFrontier_9 ?_
      refine lv_icmp_ge (tgt := 74) hx hb d_S_findFrontier_12 (by decide) (fun hc => ?_) (fun hc => ?_)
      · rw [if_pos hc] at h
        exact hE4 _ _ _ _ _ (lv_sub hl [2] rfl) w h
      · rw [if_neg hc] at h
        refine lv_iload_n hx hb d_S_findFrontier_15 rfl (lv_at hl 3 rfl) ?_
        refine lv_iload_n hx hb d_S_findFrontier_16 rfl (lv_at hl 1 rfl) ?_
        have hJ38 : ∀ (s0 v1 v2 v3 : Int32) (M : Sto) (H : Heap) (locs : List Loc) (ls : Array Slot), lv_has ls 5 [(0, .ref (q 2)), (1, .int v1), (2, .int v2), (3, .int v3)] → Wd D A s (wX ct q M) H locs → j_S_findFrontier_38 (l_S_findFrontier_4 K4 n) K4 s0 v1 v2 v3 M = some (rz, Mz) → W p l e rm_S_findFrontier s m args below meth c H locs 0 0 Q (F0 m 38 ls [.int s0]) := by
          intro s0 v1 v2 v3 M H locs ls hl w h
          unfold j_S_findFrontier_38 at h
          refine lv_istore hx hb d_S_findFrontier_38 hl (by decide) rfl (fun ls hl => ?_)
          have hl : lv_has ls 5 [(4, .int s0), (0, .ref (q 2)), (1, .int v1), (2, .int v2), (3, .int v3)] := hl
          refine lv_iload hx hb d_S_findFrontier_40 (lv_at hl 0 rfl) ?_
          have hJ68 : ∀ (v1 v2 v3 : Int32) (M : Sto) (H : Heap) (locs : List Loc) (ls : Array Slot), lv_has ls 5 [(0, .ref (q 2)), (1, .int v1), (2, .int v2), (3, .int v3)] → Wd D A s (wX ct q M) H locs → j_S_findFrontier_68 (l_S_findFrontier_4 K4 n) K4 v1 v2 v3 M = some (rz, Mz) → W p l e rm_S_findFrontier s m args below meth c H locs 0 0 Q (F0 m 68 ls []) := by
            intro v1 v2 v3 M H locs ls hl w h
            unfold j_S_findFrontier_68 at h
            refine lv_iinc (k := 3) (v := v3 + 1) hx hb d_S_findFrontier_68 hl rfl (inc1 _) (by decide) rfl (fun ls hl => ?_)
            have hl : lv_has ls 5 [(3, .int (v3 + 1)), (0, .ref (q 2)), (1, .int v1), (2, .int v2)] := hl
            refine lv_goto (tgt := 4) hx hb d_S_findFrontier_71 (by decide) ?_
            exact ih4 _ _ _ _ _ _ _ (lv_sub hl [1, 2, 3, 0] rfl) w h
          refine lv_if_eq (tgt := 68) hx hb d_S_findFrontier_42 (by decide) (fun hc => ?_) (fun hc => ?_)
          · rw [if_pos hc] at h
            exact hJ68 _ _ _ _ _ _ _ (lv_sub hl [1, 2, 3, 4] rfl) w h
          · rw [if_neg hc] at h
            refine lv_aload_n hx hb d_S_findFrontier_45 rfl (lv_at hl 1 rfl) ?_
            refine U_get C0 w 2 (by decide) rfl rfl inS 2 (by decide) wd_103 rfl d_S_findFrontier_46 ?_
            refine lv_iload_n hx hb d_S_findFrontier_49 rfl (lv_at hl 4 rfl) ?_
            obtain ⟨hi3, h⟩ := if_ok h
            refine U_ald C0 w (iX_12 ct) hi3 d_S_findFrontier_50 ?_
            refine lv_aload_n hx hb d_S_findFrontier_51 rfl (lv_at hl 1 rfl) ?_
            refine U_get C0 w 2 (by decide) rfl rfl inS 3 (by decide) wd_105 rfl d_S_findFrontier_52 ?_
            refine lv_iload_n hx hb d_S_findFrontier_55 rfl (lv_at hl 2 rfl) ?_
            obtain ⟨hi4, h⟩ := if_ok h
            refine U_ald C0 w (iX_13 ct) hi4 d_S_findFrontier_56 ?_
            refine lv_iand hx hb d_S_findFrontier_57 ?_
            refine lv_if_eq (tgt := 68) hx hb d_S_findFrontier_58 (by decide) (fun hc => ?_) (fun hc => ?_)
            · rw [if_pos hc] at h
              exact hJ68 _ _ _ _ _ _ _ (lv_sub hl [1, 2, 3, 4] rfl) w h
            · rw [if_neg hc] at h
              refine lv_iload_n hx hb d_S_findFrontier_61 rfl (lv_at hl 3 rfl) ?_
              refine lv_iload_n hx hb d_S_findFrontier_62 rfl (lv_at hl 4 rfl) ?_
              obtain ⟨r5, M6, hc7, h⟩ := bind_ok h
              try dsimp only at h
              refine U_siN (rest := [.int v2]) C0 w (c_N_bit l D ct q hc7) wd_565 (C0.2.2.2.2.2.2.nest ("NameForge$Shape", 54, ⟨"NameForge", "bit", "(I)I"⟩) (by decide)) wd_564 wd_1 (n9 := 1) (by decide +kernel) rfl ⟨(Nat.le_of_ble_eq_true rfl), (Nat.le_of_ble_eq_true rfl)⟩ hl.1 rfl (Nat.le_of_ble_eq_true rfl) d_S_findFrontier_63 (Nat.le_of_ble_eq_true rfl) (Nat.le_of_ble_eq_true rfl) (fun H locs w => ?_)
              refine lv_ior hx hb d_S_findFrontier_66 ?_
              refine lv_istore_n hx hb d_S_findFrontier_67 rfl hl (by decide) rfl (fun ls hl => ?_)
              have hl : lv_has ls 5 [(2, .int (v2 ||| r5)), (4, .int s0), (0, .ref (q 2)), (1, .int v1), (3, .int v3)] := hl
              exact hJ68 _ _ _ _ _ _ _ (lv_sub hl [2, 3, 0, 4] rfl) w h
        have hJ33 : ∀ (v1 v2 v3 : Int32) (M : Sto) (H : Heap) (locs : List Loc) (ls : Array Slot), lv_has ls 5 [(0, .ref (q 2)), (1, .int v1), (2, .int v2), (3, .int v3)] → Wd D A s (wX ct q M) H locs → j_S_findFrontier_33 (l_S_findFrontier_4 K4 n) K4 v1 v2 v3 M = some (rz, Mz) → W p l e rm_S_findFrontier s m args below meth c H locs 0 0 Q (F0 m 33 ls []) := by
          intro v1 v2 v3 M H locs ls hl w h
          unfold j_S_findFrontier_33 at h
          refine lv_iconst (v := 1) hx hb d_S_findFrontier_33 (by decide) ?_
          refine lv_goto (tgt := 38) hx hb d_S_findFrontier_34 (by decide) ?_
          exact hJ38 _ _ _ _ _ _ _ _ (lv_sub hl [0, 1, 2, 3] rfl) w h
        refine lv_icmp_eq (tgt := 33) hx hb d_S_findFrontier_17 (by decide) (fun hc => ?_) (fun hc => ?_)
        · rw [if_pos hc] at h
          exact hJ33 _ _ _ _ _ _ _ (lv_sub hl [0, 1, 2, 3] rfl) w h
        · rw [if_neg hc] at h
          refine lv_aload_n hx hb d_S_findFrontier_20 rfl (lv_at hl 0 rfl) ?_
          refine U_get C0 w 2 (by decide) rfl rfl inS 3 (by decide) wd_105 rfl d_S_findFrontier_21 ?_
          refine lv_iload_n hx hb d_S_findFrontier_24 rfl (lv_at hl 1 rfl) ?_
          obtain ⟨hi8, h⟩ := if_ok h
          refine U_ald C0 w (iX_13 ct) hi8 d_S_findFrontier_25 ?_
          refine lv_iload_n hx hb d_S_findFrontier_26 rfl (lv_at hl 3 rfl) ?_
          obtain ⟨r9, M10, hc11, h⟩ := bind_ok h
          try dsimp only at h
          refine U_siN (rest := []) C0 w (c_N_holds l D ct q hc11) wd_568 (C0.2.2.2.2.2.2.nest ("NameForge$Shape", 50, ⟨"NameForge", "holds", "(II)Z"⟩) (by decide)) wd_567 wd_1 (n9 := 2) (by decide +kernel) rfl ⟨(Nat.le_of_ble_eq_true rfl), (Nat.le_of_ble_eq_true rfl)⟩ hl.1 rfl (Nat.le_of_ble_eq_true rfl) d_S_findFrontier_27 (Nat.le_of_ble_eq_true rfl) (Nat.le_of_ble_eq_true rfl) (fun H locs w => ?_)
          refine lv_if_ne (tgt := 37) hx hb d_S_findFrontier_30 (by decide) (fun hc => ?_) (fun hc => ?_)
          · rw [if_neg hc] at h
            refine lv_iconst (v := 0) hx hb d_S_findFrontier_37 (by decide) ?_
            exact hJ38 _ _ _ _ _ _ _ _ (lv_sub hl [0, 1, 2, 3] rfl) w h
          · rw [if_pos hc] at h
            exact hJ33 _ _ _ _ _ _ _ (lv_sub hl [0, 1, 2, 3] rfl) w h
  exact hL4 FU _ _ _ _ _ _ _ (lv_sub hl [2, 3, 1, 0] rfl) w h
abbrev rm_S_putInOrder : Room := { frames := 0, cells := 0, slots := 0, locals := 0 }
set_option maxHeartbeats 8000000 in
set_option maxRecDepth 100000 in
theorem c_S_putInOrder (l : Launch) (D : va_G) (ct : Nat → ClassId) (q : Nat → Nat) {M Mz : Sto} {rz : Int32} (h : m_S_putInOrder M = some (rz, Mz)) : KV l D ct y_S_putInOrder b_S_putInOrder 5 0 0 0 0 [.ref (q 2)] (wX ct q M) (fun A t => CE D (wX ct q Mz) A t) := by
  refine KV.ofU (by decide) (Nat.le_of_ble_eq_true rfl) ?_
  intro p e s m args below meth c A Q ls C0 hl w hret
  have hx := C0.1
  have hb := C0.2.1
  have hl : lv_has ls 5 [(0, .ref (q 2))] := hl
  unfold m_S_putInOrder at h
  refine lv_aload_n hx hb d_S_putInOrder_0 rfl (lv_at hl 0 rfl) ?_
  refine lv_iconst (v := 0) hx hb d_S_putInOrder_1 (by decide) ?_
  obtain ⟨M6, eM6, h⟩ := wr_ok h
  try dsimp only at h
  refine U_put C0 (cX_l ct) w 2 (by decide) rfl rfl inS tyS_ok nmS 7 (by decide) wd_116 rfl rfl rfl (Nat.le_of_ble_eq_true rfl) d_S_putInOrder_2 eM6 rfl (fun H locs w => ?_)
  refine lv_aload_n hx hb d_S_putInOrder_5 rfl (lv_at hl 0 rfl) ?_
  refine U_get C0 w 2 (by decide) rfl rfl inS 8 (by decide) wd_117 rfl d_S_putInOrder_6 ?_
  refine lv_iconst (v := 0) hx hb d_S_putInOrder_9 (by decide) ?_
  refine lv_iconst (v := 0) hx hb d_S_putInOrder_10 (by decide) ?_
  obtain ⟨hi7, h⟩ := if_ok h
  obtain ⟨M8, eM8, h⟩ := wr_ok h
  try dsimp only at h
  refine U_ast C0 (cX_l ct) w (iX_17 ct) hi7 d_S_putInOrder_11 eM8 (fun H locs w => ?_)
  refine lv_iconst (v := 1) hx hb d_S_putInOrder_12 (by decide) ?_
  refine lv_istore_n hx hb d_S_putInOrder_13 rfl hl (by decide) rfl (fun ls hl => ?_)
  have hl : lv_has ls 5 [(1, .int 1), (0, .ref (q 2))] := hl
  refine lv_iconst (v := 0) hx hb d_S_putInOrder_14 (by decide) ?_
  refine lv_istore_n hx hb d_S_putInOrder_15 rfl hl (by decide) rfl (fun ls hl => ?_)
  have hl : lv_has ls 5 [(2, .int 0), (1, .int 1), (0, .ref (q 2))] := hl
  generalize eK16 : j_S_putInOrder_111 = K16 at h
  have hE16 : ∀ (M : Sto) (H : Heap) (locs : List Loc) (ls : Array Slot), lv_has ls 5 [] → Wd D A s (wX ct q M) H locs → K16 M = some (rz, Mz) → W p l e rm_S_putInOrder s m args below meth c H locs 0 0 Q (F0 m 111 ls []) := by
    intro M H locs ls hl w h
    rw [← eK16] at h
    unfold j_S_putInOrder_111 at h
    cases h
    exact hret _ _ _ _ d_S_putInOrder_111 w
  have hL16 : ∀ (n : Nat) (v1 v2 : Int32) (M : Sto) (H : Heap) (locs : List Loc) (ls : Array Slot), lv_has ls 5 [(0, .ref (q 2)), (1, .int v1), (2, .int v2)] → Wd D A s (wX ct q M) H locs → l_S_putInOrder_16 K16 n v1 v2 M = some (rz, Mz) → W p l e rm_S_putInOrder s m args below meth c H locs 0 0 Q (F0 m 16 ls []) := by
    intro n
    induction n with
    | zero => intro v1 v2 M H locs ls hl w h; simp [l_S_putInOrder_16] at h
    | succ n ih16 =>
      intro v1 v2 M H locs ls hl w h
      unfold l_S_putInOrder_16 at h
      refine lv_iload_n hx hb d_S_putInOrder_16 rfl (lv_at hl 2 rfl) ?_
      refine lv_aload_n hx hb d_S_putInOrder_17 rfl (lv_at hl 0 rfl) ?_
      refine U_get C0 w 2 (by decide) rfl rfl inS 0 (by decide) wd_100 rfl d_S_putInOrder_18 ?_
      refine U_get C0 w 1 (by decide) rfl rfl inP 0 (by decide) wd_35 rfl d_S_putInOrder_21 ?_
      refine lv_icmp_ge (tgt := 111) hx hb d_S_putInOrder_24 (by decide) (fun hc => ?_) (fun hc => ?_)
      · rw [if_pos hc] at h
        exact hE16 _ _ _ _ (lv_sub hl [] rfl) w h
      · rw [if_neg hc] at h
        refine lv_iload_n hx hb d_S_putInOrder_27 rfl (lv_at hl 1 rfl) ?_
        refine lv_if_le (tgt := 111) hx hb d_S_putInOrder_28 (by decide) (fun hc => ?_) (fun hc => ?_)
        · rw [if_pos hc] at h
          exact hE16 _ _ _ _ (lv_sub hl [] rfl) w h
        · rw [if_neg hc] at h
          refine lv_iinc (k := 1) (v := v1 + (-1)) hx hb d_S_putInOrder_31 hl rfl (dec1 _) (by decide) rfl (fun ls hl => ?_)
          have hl : lv_has ls 5 [(1, .int (v1 + (-1))), (0, .ref (q 2)), (2, .int v2)] := hl
          refine lv_aload_n hx hb d_S_putInOrder_34 rfl (lv_at hl 1 rfl) ?_
          refine U_get C0 w 2 (by decide) rfl rfl inS 8 (by decide) wd_117 rfl d_S_putInOrder_35 ?_
          refine lv_iload_n hx hb d_S_putInOrder_38 rfl (lv_at hl 0 rfl) ?_
          obtain ⟨hi9, h⟩ := if_ok h
          refine U_ald C0 w (iX_17 ct) hi9 d_S_putInOrder_39 ?_
          refine lv_istore_n hx hb d_S_putInOrder_40 rfl hl (by decide) rfl (fun ls hl => ?_)
          have hl : lv_has ls 5 [(3, .int (M 17 (v1 + (-1)).toNatClampNeg)), (1, .int (v1 + (-1))), (0, .ref (q 2)), (2, .int v2)] := hl
          refine lv_aload_n hx hb d_S_putInOrder_41 rfl (lv_at hl 2 rfl) ?_
          refine U_get C0 w 2 (by decide) rfl rfl inS 6 (by decide) wd_111 rfl d_S_putInOrder_42 ?_
          refine lv_aload_n hx hb d_S_putInOrder_45 rfl (lv_at hl 2 rfl) ?_
          refine U_get C0 w 2 (by decide) rfl rfl inS 7 (by decide) wd_116 rfl d_S_putInOrder_46 ?_
          refine lv_iload_n hx hb d_S_putInOrder_49 rfl (lv_at hl 0 rfl) ?_
          obtain ⟨hi10, h⟩ := if_ok h
          obtain ⟨M11, eM11, h⟩ := wr_ok h
          try dsimp only at h
          refine U_ast C0 (cX_l ct) w (iX_16 ct) hi10 d_S_putInOrder_50 eM11 (fun H locs w => ?_)
          refine lv_aload_n hx hb d_S_putInOrder_51 rfl (lv_at hl 2 rfl) ?_
          refine lv_dup hx hb d_S_putInOrder_52 rfl ?_
          refine U_get C0 w 2 (by decide) rfl rfl inS 7 (by decide) wd_116 rfl d_S_putInOrder_53 ?_
          refine lv_iconst (v := 1) hx hb d_S_putInOrder_56 (by decide) ?_
          refine lv_iadd hx hb d_S_putInOrder_57 ?_
          obtain ⟨M12, eM12, h⟩ := wr_ok h
          try dsimp only at h
          refine U_put C0 (cX_l ct) w 2 (by decide) rfl rfl inS tyS_ok nmS 7 (by decide) wd_116 rfl rfl rfl (Nat.le_of_ble_eq_true rfl) d_S_putInOrder_58 eM12 rfl (fun H locs w => ?_)
          refine lv_aload_n hx hb d_S_putInOrder_61 rfl (lv_at hl 2 rfl) ?_
          refine U_get C0 w 2 (by decide) rfl rfl inS 0 (by decide) wd_100 rfl d_S_putInOrder_62 ?_
          refine U_get C0 w 1 (by decide) rfl rfl inP 0 (by decide) wd_35 rfl d_S_putInOrder_65 ?_
          refine lv_iconst (v := 1) hx hb d_S_putInOrder_68 (by decide) ?_
          refine lv_isub hx hb d_S_putInOrder_69 ?_
          refine lv_istore hx hb d_S_putInOrder_70 hl (by decide) rfl (fun ls hl => ?_)
          have hl : lv_has ls 5 [(4, .int ((M12 1 0) - 1)), (3, .int (M 17 (v1 + (-1)).toNatClampNeg)), (1, .int (v1 + (-1))), (0, .ref (q 2)), (2, .int v2)] := hl
          generalize eK72 : j_S_putInOrder_105 (l_S_putInOrder_16 K16 n) K16 = K72 at h
          have hE72 : ∀ (v1 v2 : Int32) (M : Sto) (H : Heap) (locs : List Loc) (ls : Array Slot), lv_has ls 5 [(0, .ref (q 2)), (1, .int v1), (2, .int v2)] → Wd D A s (wX ct q M) H locs → K72 v1 v2 M = some (rz, Mz) → W p l e rm_S_putInOrder s m args below meth c H locs 0 0 Q (F0 m 105 ls []) := by
            intro v1 v2 M H locs ls hl w h
            rw [← eK72] at h
            unfold j_S_putInOrder_105 at h
            refine lv_iinc (k := 2) (v := v2 + 1) hx hb d_S_putInOrder_105 hl rfl (inc1 _) (by decide) rfl (fun ls hl => ?_)
            have hl : lv_has ls 5 [(2, .int (v2 + 1)), (0, .ref (q 2)), (1, .int v1)] := hl
            refine lv_goto (tgt := 16) hx hb d_S_putInOrder_108 (by decide) ?_
            exact ih16 _ _ _ _ _ _ (lv_sub hl [1, 2, 0] rfl) w h
          have hL72 : ∀ (n : Nat) (v1 v2 v3 v4 : Int32) (M : Sto) (H : Heap) (locs : List Loc) (ls : Array Slot), lv_has ls 5 [(0, .ref (q 2)), (1, .int v1), (2, .int v2), (3, .int v3), (4, .int v4)] → Wd D A s (wX ct q M) H locs → l_S_putInOrder_72 K72 n v1 v2 v3 v4 M = some (rz, Mz) → W p l e rm_S_putInOrder s m args below meth c H locs 0 0 Q (F0 m 72 ls []) := by
            intro n
            induction n with
            | zero => intro v1 v2 v3 v4 M H locs ls hl w h; simp [l_S_putInOrder_72] at h
            | succ n ih72 =>
              intro v1 v2 v3 v4 M H locs ls hl w h
              unfold l_S_putInOrder_72 at h
              refine lv_iload hx hb d_S_putInOrder_72 (lv_at hl 4 rfl) ?_
              refine lv_if_le (tgt := 105) hx hb d_S_putInOrder_74 (by decide) (fun hc => ?_) (fun hc => ?_)
              · rw [if_pos hc] at h
                exact hE72 _ _ _ _ _ _ (lv_sub hl [0, 1, 2] rfl) w h
              · rw [if_neg hc] at h
                refine lv_aload_n hx hb d_S_putInOrder_77 rfl (lv_at hl 0 rfl) ?_
                refine U_get C0 w 2 (by decide) rfl rfl inS 4 (by decide) wd_106 rfl d_S_putInOrder_78 ?_
                refine lv_iload hx hb d_S_putInOrder_81 (lv_at hl 4 rfl) ?_
                obtain ⟨hi13, h⟩ := if_ok h
                refine U_ald C0 w (iX_14 ct) hi13 d_S_putInOrder_83 ?_
                refine lv_iload_n hx hb d_S_putInOrder_84 rfl (lv_at hl 3 rfl) ?_
                have hJ99 : ∀ (v1 v2 v3 v4 : Int32) (M : Sto) (H : Heap) (locs : List Loc) (ls : Array Slot), lv_has ls 5 [(0, .ref (q 2)), (1, .int v1), (2, .int v2), (3, .int v3), (4, .int v4)] → Wd D A s (wX ct q M) H locs → j_S_putInOrder_99 (l_S_putInOrder_72 K72 n) K72 v1 v2 v3 v4 M = some (rz, Mz) → W p l e rm_S_putInOrder s m args below meth c H locs 0 0 Q (F0 m 99 ls []) := by
                  intro v1 v2 v3 v4 M H locs ls hl w h
                  unfold j_S_putInOrder_99 at h
                  refine lv_iinc (k := 4) (v := v4 + (-1)) hx hb d_S_putInOrder_99 hl rfl (dec1 _) (by decide) rfl (fun ls hl => ?_)
                  have hl : lv_has ls 5 [(4, .int (v4 + (-1))), (0, .ref (q 2)), (1, .int v1), (2, .int v2), (3, .int v3)] := hl
                  refine lv_goto (tgt := 72) hx hb d_S_putInOrder_102 (by decide) ?_
                  exact ih72 _ _ _ _ _ _ _ _ (lv_sub hl [1, 2, 3, 4, 0] rfl) w h
                refine lv_icmp_ne (tgt := 99) hx hb d_S_putInOrder_85 (by decide) (fun hc => ?_) (fun hc => ?_)
                · rw [if_neg hc] at h
                  exact hJ99 _ _ _ _ _ _ _ _ (lv_sub hl [0, 1, 2, 3, 4] rfl) w h
                · rw [if_pos hc] at h
                  refine lv_aload_n hx hb d_S_putInOrder_88 rfl (lv_at hl 0 rfl) ?_
                  refine U_get C0 w 2 (by decide) rfl rfl inS 8 (by decide) wd_117 rfl d_S_putInOrder_89 ?_
                  refine lv_iload_n hx hb d_S_putInOrder_92 rfl (lv_at hl 1 rfl) ?_
                  refine lv_iload hx hb d_S_putInOrder_93 (lv_at hl 4 rfl) ?_
                  obtain ⟨hi14, h⟩ := if_ok h
                  obtain ⟨M15, eM15, h⟩ := wr_ok h
                  try dsimp only at h
                  refine U_ast C0 (cX_l ct) w (iX_17 ct) hi14 d_S_putInOrder_95 eM15 (fun H locs w => ?_)
                  refine lv_iinc (k := 1) (v := v1 + 1) hx hb d_S_putInOrder_96 hl rfl (inc1 _) (by decide) rfl (fun ls hl => ?_)
                  have hl : lv_has ls 5 [(1, .int (v1 + 1)), (0, .ref (q 2)), (2, .int v2), (3, .int v3), (4, .int v4)] := hl
                  exact hJ99 _ _ _ _ _ _ _ _ (lv_sub hl [1, 0, 2, 3, 4] rfl) w h
          exact hL72 FU _ _ _ _ _ _ _ _ (lv_sub hl [3, 2, 4, 1, 0] rfl) w h
  exact hL16 FU _ _ _ _ _ _ (lv_sub hl [2, 1, 0] rfl) w h
abbrev rm_S_survey : Room := { frames := 3, cells := 0, slots := 0, locals := 65 }
set_option maxHeartbeats 8000000 in
set_option maxRecDepth 100000 in
theorem c_S_survey (l : Launch) (D : va_G) (ct : Nat → ClassId) (q : Nat → Nat) {M Mz : Sto} {rz : Int32} (h : m_S_survey M = some (rz, Mz)) : KV l D ct y_S_survey b_S_survey 2 3 65 0 0 [.ref (q 2)] (wX ct q M) (fun A t => CE D (wX ct q Mz) A t) := by
  refine KV.ofU (by decide) (Nat.le_of_ble_eq_true rfl) ?_
  intro p e s m args below meth c A Q ls C0 hl w hret
  have hx := C0.1
  have hb := C0.2.1
  have hl : lv_has ls 2 [(0, .ref (q 2))] := hl
  unfold m_S_survey at h
  refine lv_aload_n hx hb d_S_survey_0 rfl (lv_at hl 0 rfl) ?_
  refine lv_aload_n hx hb d_S_survey_1 rfl (lv_at hl 0 rfl) ?_
  refine lv_iconst (v := 0) hx hb d_S_survey_2 (by decide) ?_
  obtain ⟨r14, M15, hc16, h⟩ := bind_ok h
  try dsimp only at h
  refine U_vi (rest := [.ref (q 2)]) C0 w 2 (wU_at (by decide)) rfl (c_S_comeBy l D ct q hc16) wd_562 wd_559 wd_561 ws_1 wd_3 (n9 := 1) (by decide +kernel) rfl ⟨(Nat.le_of_ble_eq_true rfl), (Nat.le_of_ble_eq_true rfl)⟩ hl.1 rfl (Nat.le_of_ble_eq_true rfl) d_S_survey_3 (Nat.le_of_ble_eq_true rfl) (Nat.le_of_ble_eq_true rfl) (fun H locs w => ?_)
  obtain ⟨M17, eM17, h⟩ := wr_ok h
  try dsimp only at h
  refine U_put C0 (cX_l ct) w 2 (by decide) rfl rfl inS tyS_ok nmS 1 (by decide) wd_101 rfl rfl rfl (Nat.le_of_ble_eq_true rfl) d_S_survey_6 eM17 rfl (fun H locs w => ?_)
  refine lv_iconst (v := 0) hx hb d_S_survey_9 (by decide) ?_
  refine lv_istore_n hx hb d_S_survey_10 rfl hl (by decide) rfl (fun ls hl => ?_)
  have hl : lv_has ls 2 [(1, .int 0), (0, .ref (q 2))] := hl
  generalize eK11 : j_S_survey_75 = K11 at h
  have hE11 : ∀ (M : Sto) (H : Heap) (locs : List Loc) (ls : Array Slot), lv_has ls 2 [(0, .ref (q 2))] → Wd D A s (wX ct q M) H locs → K11 M = some (rz, Mz) → W p l e rm_S_survey s m args below meth c H locs 0 0 Q (F0 m 75 ls []) := by
    intro M H locs ls hl w h
    rw [← eK11] at h
    unfold j_S_survey_75 at h
    refine lv_iconst (v := 0) hx hb d_S_survey_75 (by decide) ?_
    refine lv_istore_n hx hb d_S_survey_76 rfl hl (by decide) rfl (fun ls hl => ?_)
    have hl : lv_has ls 2 [(1, .int 0), (0, .ref (q 2))] := hl
    generalize eK77 : j_S_survey_116 = K77 at h
    have hE77 : ∀ (M : Sto) (H : Heap) (locs : List Loc) (ls : Array Slot), lv_has ls 2 [(0, .ref (q 2))] → Wd D A s (wX ct q M) H locs → K77 M = some (rz, Mz) → W p l e rm_S_survey s m args below meth c H locs 0 0 Q (F0 m 116 ls []) := by
      intro M H locs ls hl w h
      rw [← eK77] at h
      unfold j_S_survey_116 at h
      refine lv_aload_n hx hb d_S_survey_116 rfl (lv_at hl 0 rfl) ?_
      obtain ⟨r18, M19, hc20, h⟩ := bind_ok h
      try dsimp only at h
      refine U_vv (rest := []) C0 w 2 (wU_at (by decide)) rfl (c_S_putInOrder l D ct q hc20) wd_590 wd_587 wd_589 ws_5 wd_3 (n9 := 0) (by decide +kernel) rfl ⟨(Nat.le_of_ble_eq_true rfl), (Nat.le_of_ble_eq_true rfl)⟩ hl.1 rfl (Nat.le_of_ble_eq_true rfl) d_S_survey_117 (Nat.le_of_ble_eq_true rfl) (Nat.le_of_ble_eq_true rfl) (fun H locs w => ?_)
      cases h
      exact hret _ _ _ _ d_S_survey_120 w
    have hL77 : ∀ (n : Nat) (v1 : Int32) (M : Sto) (H : Heap) (locs : List Loc) (ls : Array Slot), lv_has ls 2 [(0, .ref (q 2)), (1, .int v1)] → Wd D A s (wX ct q M) H locs → l_S_survey_77 K77 n v1 M = some (rz, Mz) → W p l e rm_S_survey s m args below meth c H locs 0 0 Q (F0 m 77 ls []) := by
      intro n
      induction n with
      | zero => intro v1 M H locs ls hl w h; simp [l_S_survey_77] at h
      | succ n ih77 =>
        intro v1 M H locs ls hl w h
        unfold l_S_survey_77 at h
        refine lv_iload_n hx hb d_S_survey_77 rfl (lv_at hl 1 rfl) ?_
        refine lv_aload_n hx hb d_S_survey_78 rfl (lv_at hl 0 rfl) ?_
        refine U_get C0 w 2 (by decide) rfl rfl inS 0 (by decide) wd_100 rfl d_S_survey_79 ?_
        refine U_get C0 w 1 (by decide) rfl rfl inP 0 (by decide) wd_35 rfl d_S_survey_82 ?_
        refine lv_icmp_ge (tgt := 116) hx hb d_S_survey_85 (by decide) (fun hc => ?_) (fun hc => ?_)
        · rw [if_pos hc] at h
          exact hE77 _ _ _ _ (lv_sub hl [0] rfl) w h
        · rw [if_neg hc] at h
          refine lv_aload_n hx hb d_S_survey_88 rfl (lv_at hl 0 rfl) ?_
          refine U_get C0 w 2 (by decide) rfl rfl inS 4 (by decide) wd_106 rfl d_S_survey_89 ?_
          refine lv_iload_n hx hb d_S_survey_92 rfl (lv_at hl 1 rfl) ?_
          refine lv_aload_n hx hb d_S_survey_93 rfl (lv_at hl 0 rfl) ?_
          refine lv_iload_n hx hb d_S_survey_94 rfl (lv_at hl 1 rfl) ?_
          obtain ⟨r21, M22, hc23, h⟩ := bind_ok h
          try dsimp only at h
          refine U_vi (rest := [.int v1, .ref (q 14)]) C0 w 2 (wU_at (by decide)) rfl (c_S_findParent l D ct q hc23) wd_582 wd_579 wd_581 ws_3 wd_3 (n9 := 1) (by decide +kernel) rfl ⟨(Nat.le_of_ble_eq_true rfl), (Nat.le_of_ble_eq_true rfl)⟩ hl.1 rfl (Nat.le_of_ble_eq_true rfl) d_S_survey_95 (Nat.le_of_ble_eq_true rfl) (Nat.le_of_ble_eq_true rfl) (fun H locs w => ?_)
          obtain ⟨hi24, h⟩ := if_ok h
          obtain ⟨M25, eM25, h⟩ := wr_ok h
          try dsimp only at h
          refine U_ast C0 (cX_l ct) w (iX_14 ct) hi24 d_S_survey_98 eM25 (fun H locs w => ?_)
          refine lv_aload_n hx hb d_S_survey_99 rfl (lv_at hl 0 rfl) ?_
          refine U_get C0 w 2 (by decide) rfl rfl inS 5 (by decide) wd_109 rfl d_S_survey_100 ?_
          refine lv_iload_n hx hb d_S_survey_103 rfl (lv_at hl 1 rfl) ?_
          refine lv_aload_n hx hb d_S_survey_104 rfl (lv_at hl 0 rfl) ?_
          refine lv_iload_n hx hb d_S_survey_105 rfl (lv_at hl 1 rfl) ?_
          obtain ⟨r26, M27, hc28, h⟩ := bind_ok h
          try dsimp only at h
          refine U_vi (rest := [.int v1, .ref (q 15)]) C0 w 2 (wU_at (by decide)) rfl (c_S_findFrontier l D ct q hc28) wd_586 wd_583 wd_585 ws_4 wd_3 (n9 := 1) (by decide +kernel) rfl ⟨(Nat.le_of_ble_eq_true rfl), (Nat.le_of_ble_eq_true rfl)⟩ hl.1 rfl (Nat.le_of_ble_eq_true rfl) d_S_survey_106 (Nat.le_of_ble_eq_true rfl) (Nat.le_of_ble_eq_true rfl) (fun H locs w => ?_)
          obtain ⟨hi29, h⟩ := if_ok h
          obtain ⟨M30, eM30, h⟩ := wr_ok h
          try dsimp only at h
          refine U_ast C0 (cX_l ct) w (iX_15 ct) hi29 d_S_survey_109 eM30 (fun H locs w => ?_)
          refine lv_iinc (k := 1) (v := v1 + 1) hx hb d_S_survey_110 hl rfl (inc1 _) (by decide) rfl (fun ls hl => ?_)
          have hl : lv_has ls 2 [(1, .int (v1 + 1)), (0, .ref (q 2))] := hl
          refine lv_goto (tgt := 77) hx hb d_S_survey_113 (by decide) ?_
          exact ih77 _ _ _ _ _ (lv_sub hl [1, 0] rfl) w h
    exact hL77 FU _ _ _ _ _ (lv_sub hl [1, 0] rfl) w h
  have hL11 : ∀ (n : Nat) (v1 : Int32) (M : Sto) (H : Heap) (locs : List Loc) (ls : Array Slot), lv_has ls 2 [(0, .ref (q 2)), (1, .int v1)] → Wd D A s (wX ct q M) H locs → l_S_survey_11 K11 n v1 M = some (rz, Mz) → W p l e rm_S_survey s m args below meth c H locs 0 0 Q (F0 m 11 ls []) := by
    intro n
    induction n with
    | zero => intro v1 M H locs ls hl w h; simp [l_S_survey_11] at h
    | succ n ih11 =>
      intro v1 M H locs ls hl w h
      unfold l_S_survey_11 at h
      refine lv_iload_n hx hb d_S_survey_11 rfl (lv_at hl 1 rfl) ?_
      refine lv_aload_n hx hb d_S_survey_12 rfl (lv_at hl 0 rfl) ?_
      refine U_get C0 w 2 (by decide) rfl rfl inS 0 (by decide) wd_100 rfl d_S_survey_13 ?_
      refine U_get C0 w 1 (by decide) rfl rfl inP 0 (by decide) wd_35 rfl d_S_survey_16 ?_
      refine lv_icmp_ge (tgt := 75) hx hb d_S_survey_19 (by decide) (fun hc => ?_) (fun hc => ?_)
      · rw [if_pos hc] at h
        exact hE11 _ _ _ _ (lv_sub hl [0] rfl) w h
      · rw [if_neg hc] at h
        refine lv_aload_n hx hb d_S_survey_22 rfl (lv_at hl 0 rfl) ?_
        refine U_get C0 w 2 (by decide) rfl rfl inS 2 (by decide) wd_103 rfl d_S_survey_23 ?_
        refine lv_iload_n hx hb d_S_survey_26 rfl (lv_at hl 1 rfl) ?_
        refine lv_aload_n hx hb d_S_survey_27 rfl (lv_at hl 0 rfl) ?_
        refine lv_iload_n hx hb d_S_survey_28 rfl (lv_at hl 1 rfl) ?_
        obtain ⟨r31, M32, hc33, h⟩ := bind_ok h
        try dsimp only at h
        refine U_vi (rest := [.int v1, .ref (q 12)]) C0 w 2 (wU_at (by decide)) rfl (c_S_findBefore l D ct q hc33) wd_578 wd_575 wd_577 ws_2 wd_3 (n9 := 1) (by decide +kernel) rfl ⟨(Nat.le_of_ble_eq_true rfl), (Nat.le_of_ble_eq_true rfl)⟩ hl.1 rfl (Nat.le_of_ble_eq_true rfl) d_S_survey_29 (Nat.le_of_ble_eq_true rfl) (Nat.le_of_ble_eq_true rfl) (fun H locs w => ?_)
        obtain ⟨hi34, h⟩ := if_ok h
        obtain ⟨M35, eM35, h⟩ := wr_ok h
        try dsimp only at h
        refine U_ast C0 (cX_l ct) w (iX_12 ct) hi34 d_S_survey_32 eM35 (fun H locs w => ?_)
        refine lv_aload_n hx hb d_S_survey_33 rfl (lv_at hl 0 rfl) ?_
        refine U_get C0 w 2 (by decide) rfl rfl inS 3 (by decide) wd_105 rfl d_S_survey_34 ?_
        refine lv_iload_n hx hb d_S_survey_37 rfl (lv_at hl 1 rfl) ?_
        refine lv_aload_n hx hb d_S_survey_38 rfl (lv_at hl 0 rfl) ?_
        refine U_get C0 w 2 (by decide) rfl rfl inS 1 (by decide) wd_101 rfl d_S_survey_39 ?_
        refine lv_iload_n hx hb d_S_survey_42 rfl (lv_at hl 1 rfl) ?_
        obtain ⟨r36, M37, hc38, h⟩ := bind_ok h
        try dsimp only at h
        refine U_siN (rest := [.int v1, .ref (q 13)]) C0 w (c_N_holds l D ct q hc38) wd_568 (C0.2.2.2.2.2.2.nest ("NameForge$Shape", 50, ⟨"NameForge", "holds", "(II)Z"⟩) (by decide)) wd_567 wd_1 (n9 := 2) (by decide +kernel) rfl ⟨(Nat.le_of_ble_eq_true rfl), (Nat.le_of_ble_eq_true rfl)⟩ hl.1 rfl (Nat.le_of_ble_eq_true rfl) d_S_survey_43 (Nat.le_of_ble_eq_true rfl) (Nat.le_of_ble_eq_true rfl) (fun H locs w => ?_)
        have hJ68 : ∀ (s0 s1 v1 : Int32) (M : Sto) (H : Heap) (locs : List Loc) (ls : Array Slot), lv_has ls 2 [(0, .ref (q 2)), (1, .int v1)] → Wd D A s (wX ct q M) H locs → j_S_survey_68 (l_S_survey_11 K11 n) K11 s0 s1 v1 M = some (rz, Mz) → W p l e rm_S_survey s m args below meth c H locs 0 0 Q (F0 m 68 ls [.int s0, .int s1, .ref (q 13)]) := by
          intro s0 s1 v1 M H locs ls hl w h
          unfold j_S_survey_68 at h
          obtain ⟨hi39, h⟩ := if_ok h
          obtain ⟨M40, eM40, h⟩ := wr_ok h
          try dsimp only at h
          refine U_ast C0 (cX_l ct) w (iX_13 ct) hi39 d_S_survey_68 eM40 (fun H locs w => ?_)
          refine lv_iinc (k := 1) (v := v1 + 1) hx hb d_S_survey_69 hl rfl (inc1 _) (by decide) rfl (fun ls hl => ?_)
          have hl : lv_has ls 2 [(1, .int (v1 + 1)), (0, .ref (q 2))] := hl
          refine lv_goto (tgt := 11) hx hb d_S_survey_72 (by decide) ?_
          exact ih11 _ _ _ _ _ (lv_sub hl [1, 0] rfl) w h
        refine lv_if_eq (tgt := 67) hx hb d_S_survey_46 (by decide) (fun hc => ?_) (fun hc => ?_)
        · rw [if_pos hc] at h
          refine lv_iconst (v := 0) hx hb d_S_survey_67 (by decide) ?_
          exact hJ68 _ _ _ _ _ _ _ (lv_sub hl [0, 1] rfl) w h
        · rw [if_neg hc] at h
          refine lv_aload_n hx hb d_S_survey_49 rfl (lv_at hl 0 rfl) ?_
          refine U_get C0 w 2 (by decide) rfl rfl inS 1 (by decide) wd_101 rfl d_S_survey_50 ?_
          refine lv_aload_n hx hb d_S_survey_53 rfl (lv_at hl 0 rfl) ?_
          refine lv_iload_n hx hb d_S_survey_54 rfl (lv_at hl 1 rfl) ?_
          obtain ⟨r41, M42, hc43, h⟩ := bind_ok h
          try dsimp only at h
          refine U_siN (rest := [.ref (q 2), .int (M37 2 1), .int v1, .ref (q 13)]) C0 w (c_N_bit l D ct q hc43) wd_565 (C0.2.2.2.2.2.2.nest ("NameForge$Shape", 54, ⟨"NameForge", "bit", "(I)I"⟩) (by decide)) wd_564 wd_1 (n9 := 1) (by decide +kernel) rfl ⟨(Nat.le_of_ble_eq_true rfl), (Nat.le_of_ble_eq_true rfl)⟩ hl.1 rfl (Nat.le_of_ble_eq_true rfl) d_S_survey_55 (Nat.le_of_ble_eq_true rfl) (Nat.le_of_ble_eq_true rfl) (fun H locs w => ?_)
          obtain ⟨r44, M45, hc46, h⟩ := bind_ok h
          try dsimp only at h
          refine U_vi (rest := [.int (M37 2 1), .int v1, .ref (q 13)]) C0 w 2 (wU_at (by decide)) rfl (c_S_comeBy l D ct q hc46) wd_562 wd_559 wd_561 ws_1 wd_3 (n9 := 1) (by decide +kernel) rfl ⟨(Nat.le_of_ble_eq_true rfl), (Nat.le_of_ble_eq_true rfl)⟩ hl.1 rfl (Nat.le_of_ble_eq_true rfl) d_S_survey_58 (Nat.le_of_ble_eq_true rfl) (Nat.le_of_ble_eq_true rfl) (fun H locs w => ?_)
          refine lv_iconst (v := (-1)) hx hb d_S_survey_61 (by decide) ?_
          refine lv_ixor hx hb d_S_survey_62 ?_
          refine lv_iand hx hb d_S_survey_63 ?_
          refine lv_goto (tgt := 68) hx hb d_S_survey_64 (by decide) ?_
          exact hJ68 _ _ _ _ _ _ _ (lv_sub hl [0, 1] rfl) w h
  exact hL11 FU _ _ _ _ _ (lv_sub hl [1, 0] rfl) w h
abbrev rm_G_findDefined : Room := { frames := 1, cells := 0, slots := 0, locals := 20 }
set_option maxHeartbeats 8000000 in
set_option maxRecDepth 100000 in
theorem c_G_findDefined (l : Launch) (D : va_G) (ct : Nat → ClassId) (q : Nat → Nat) {M Mz : Sto} {rz : Int32} (h : m_G_findDefined M = some (rz, Mz)) : KV l D ct y_G_findDefined b_G_findDefined 3 1 20 0 0 [.ref (q 3)] (wX ct q M) (fun A t => CE D (wX ct q Mz) A t) := by
  refine KV.ofU (by decide) (Nat.le_of_ble_eq_true rfl) ?_
  intro p e s m args below meth c A Q ls C0 hl w hret
  have hx := C0.1
  have hb := C0.2.1
  have hl : lv_has ls 3 [(0, .ref (q 3))] := hl
  unfold m_G_findDefined at h
  refine lv_iconst (v := 0) hx hb d_G_findDefined_0 (by decide) ?_
  refine lv_istore_n hx hb d_G_findDefined_1 rfl hl (by decide) rfl (fun ls hl => ?_)
  have hl : lv_has ls 3 [(1, .int 0), (0, .ref (q 3))] := hl
  generalize eK2 : j_G_findDefined_87 = K2 at h
  have hE2 : ∀ (M : Sto) (H : Heap) (locs : List Loc) (ls : Array Slot), lv_has ls 3 [] → Wd D A s (wX ct q M) H locs → K2 M = some (rz, Mz) → W p l e rm_G_findDefined s m args below meth c H locs 0 0 Q (F0 m 87 ls []) := by
    intro M H locs ls hl w h
    rw [← eK2] at h
    unfold j_G_findDefined_87 at h
    cases h
    exact hret _ _ _ _ d_G_findDefined_87 w
  have hL2 : ∀ (n : Nat) (v1 : Int32) (M : Sto) (H : Heap) (locs : List Loc) (ls : Array Slot), lv_has ls 3 [(0, .ref (q 3)), (1, .int v1)] → Wd D A s (wX ct q M) H locs → l_G_findDefined_2 K2 n v1 M = some (rz, Mz) → W p l e rm_G_findDefined s m args below meth c H locs 0 0 Q (F0 m 2 ls []) := by
    intro n
    induction n with
    | zero => intro v1 M H locs ls hl w h; simp [l_G_findDefined_2] at h
    | succ n ih2 =>
      intro v1 M H locs ls hl w h
      unfold l_G_findDefined_2 at h
      refine lv_iload_n hx hb d_G_findDefined_2 rfl (lv_at hl 1 rfl) ?_
      refine lv_aload_n hx hb d_G_findDefined_3 rfl (lv_at hl 0 rfl) ?_
      refine U_get C0 w 3 (by decide) rfl rfl inG 0 (by decide) wd_144 rfl d_G_findDefined_4 ?_
      refine U_get C0 w 1 (by decide) rfl rfl inP 0 (by decide) wd_37 rfl d_G_findDefined_7 ?_
      refine lv_icmp_ge (tgt := 87) hx hb d_G_findDefined_10 (by decide) (fun hc => ?_) (fun hc => ?_)
      · rw [if_pos hc] at h
        exact hE2 _ _ _ _ (lv_sub hl [] rfl) w h
      · rw [if_neg hc] at h
        refine lv_aload_n hx hb d_G_findDefined_13 rfl (lv_at hl 0 rfl) ?_
        refine U_get C0 w 3 (by decide) rfl rfl inG 4 (by decide) wd_152 rfl d_G_findDefined_14 ?_
        refine lv_iload_n hx hb d_G_findDefined_17 rfl (lv_at hl 1 rfl) ?_
        refine lv_iconst (v := 0) hx hb d_G_findDefined_18 (by decide) ?_
        obtain ⟨hi5, h⟩ := if_ok h
        obtain ⟨M6, eM6, h⟩ := wr_ok h
        try dsimp only at h
        refine U_ast C0 (cX_l ct) w (iX_19 ct) hi5 d_G_findDefined_19 eM6 (fun H locs w => ?_)
        refine lv_iconst (v := 0) hx hb d_G_findDefined_20 (by decide) ?_
        refine lv_istore_n hx hb d_G_findDefined_21 rfl hl (by decide) rfl (fun ls hl => ?_)
        have hl : lv_has ls 3 [(2, .int 0), (0, .ref (q 3)), (1, .int v1)] := hl
        generalize eK22 : j_G_findDefined_81 (l_G_findDefined_2 K2 n) K2 = K22 at h
        have hE22 : ∀ (v1 : Int32) (M : Sto) (H : Heap) (locs : List Loc) (ls : Array Slot), lv_has ls 3 [(0, .ref (q 3)), (1, .int v1)] → Wd D A s (wX ct q M) H locs → K22 v1 M = some (rz, Mz) → W p l e rm_G_findDefined s m args below meth c H locs 0 0 Q (F0 m 81 ls []) := by
          intro v1 M H locs ls hl w h
          rw [← eK22] at h
          unfold j_G_findDefined_81 at h
          refine lv_iinc (k := 1) (v := v1 + 1) hx hb d_G_findDefined_81 hl rfl (inc1 _) (by decide) rfl (fun ls hl => ?_)
          have hl : lv_has ls 3 [(1, .int (v1 + 1)), (0, .ref (q 3))] := hl
          refine lv_goto (tgt := 2) hx hb d_G_findDefined_84 (by decide) ?_
          exact ih2 _ _ _ _ _ (lv_sub hl [1, 0] rfl) w h
        have hL22 : ∀ (n : Nat) (v1 v2 : Int32) (M : Sto) (H : Heap) (locs : List Loc) (ls : Array Slot), lv_has ls 3 [(0, .ref (q 3)), (1, .int v1), (2, .int v2)] → Wd D A s (wX ct q M) H locs → l_G_findDefined_22 K22 n v1 v2 M = some (rz, Mz) → W p l e rm_G_findDefined s m args below meth c H locs 0 0 Q (F0 m 22 ls []) := by
          intro n
          induction n with
          | zero => intro v1 v2 M H locs ls hl w h; simp [l_G_findDefined_22] at h
          | succ n ih22 =>
            intro v1 v2 M H locs ls hl w h
            unfold l_G_findDefined_22 at h
            refine lv_iload_n hx hb d_G_findDefined_22 rfl (lv_at hl 2 rfl) ?_
            refine lv_aload_n hx hb d_G_findDefined_23 rfl (lv_at hl 0 rfl) ?_
            refine U_get C0 w 3 (by decide) rfl rfl inG 0 (by decide) wd_144 rfl d_G_findDefined_24 ?_
            refine U_get C0 w 1 (by decide) rfl rfl inP 1 (by decide) wd_42 rfl d_G_findDefined_27 ?_
            refine lv_iload_n hx hb d_G_findDefined_30 rfl (lv_at hl 1 rfl) ?_
            obtain ⟨hi7, h⟩ := if_ok h
            refine U_ald C0 w (iX_7 ct) hi7 d_G_findDefined_31 ?_
            refine lv_icmp_ge (tgt := 81) hx hb d_G_findDefined_32 (by decide) (fun hc => ?_) (fun hc => ?_)
            · rw [if_pos hc] at h
              exact hE22 _ _ _ _ _ (lv_sub hl [0, 1] rfl) w h
            · rw [if_neg hc] at h
              refine lv_aload_n hx hb d_G_findDefined_35 rfl (lv_at hl 0 rfl) ?_
              refine U_get C0 w 3 (by decide) rfl rfl inG 0 (by decide) wd_144 rfl d_G_findDefined_36 ?_
              refine U_get C0 w 1 (by decide) rfl rfl inP 2 (by decide) wd_47 rfl d_G_findDefined_39 ?_
              refine lv_iload_n hx hb d_G_findDefined_42 rfl (lv_at hl 1 rfl) ?_
              obtain ⟨hi8, h⟩ := if_ok h
              refine U_gld C0 w (gX_34 ct) hi8 d_G_findDefined_43 ?_
              refine lv_iload_n hx hb d_G_findDefined_44 rfl (lv_at hl 2 rfl) ?_
              obtain ⟨hi9, h⟩ := if_ok h
              refine U_ald C0 w (rowI ct (b := 43) (by decide) (by decide) hi8) hi9 d_G_findDefined_45 ?_
              obtain ⟨r10, M11, hc12, h⟩ := bind_ok h
              try dsimp only at h
              refine U_siN (rest := []) C0 w (c_N_setsVariable l D ct q hc12) wd_486 (C0.2.2.2.2.2.2.nest ("NameForge$Naming", 102, ⟨"NameForge", "setsVariable", "(I)Z"⟩) (by decide)) wd_485 wd_1 (n9 := 1) (by decide +kernel) rfl ⟨(Nat.le_of_ble_eq_true rfl), (Nat.le_of_ble_eq_true rfl)⟩ hl.1 rfl (Nat.le_of_ble_eq_true rfl) d_G_findDefined_46 (Nat.le_of_ble_eq_true rfl) (Nat.le_of_ble_eq_true rfl) (fun H locs w => ?_)
              have hJ75 : ∀ (v1 v2 : Int32) (M : Sto) (H : Heap) (locs : List Loc) (ls : Array Slot), lv_has ls 3 [(0, .ref (q 3)), (1, .int v1), (2, .int v2)] → Wd D A s (wX ct q M) H locs → j_G_findDefined_75 (l_G_findDefined_22 K22 n) K22 v1 v2 M = some (rz, Mz) → W p l e rm_G_findDefined s m args below meth c H locs 0 0 Q (F0 m 75 ls []) := by
                intro v1 v2 M H locs ls hl w h
                unfold j_G_findDefined_75 at h
                refine lv_iinc (k := 2) (v := v2 + 1) hx hb d_G_findDefined_75 hl rfl (inc1 _) (by decide) rfl (fun ls hl => ?_)
                have hl : lv_has ls 3 [(2, .int (v2 + 1)), (0, .ref (q 3)), (1, .int v1)] := hl
                refine lv_goto (tgt := 22) hx hb d_G_findDefined_78 (by decide) ?_
                exact ih22 _ _ _ _ _ _ (lv_sub hl [1, 2, 0] rfl) w h
              refine lv_if_eq (tgt := 75) hx hb d_G_findDefined_49 (by decide) (fun hc => ?_) (fun hc => ?_)
              · rw [if_pos hc] at h
                exact hJ75 _ _ _ _ _ _ (lv_sub hl [0, 1, 2] rfl) w h
              · rw [if_neg hc] at h
                refine lv_aload_n hx hb d_G_findDefined_52 rfl (lv_at hl 0 rfl) ?_
                refine U_get C0 w 3 (by decide) rfl rfl inG 4 (by decide) wd_152 rfl d_G_findDefined_53 ?_
                refine lv_iload_n hx hb d_G_findDefined_56 rfl (lv_at hl 1 rfl) ?_
                refine lv_dup2_11 hx hb d_G_findDefined_57 rfl rfl ?_
                obtain ⟨hi13, h⟩ := if_ok h
                refine U_ald C0 w (iX_19 ct) hi13 d_G_findDefined_58 ?_
                refine lv_aload_n hx hb d_G_findDefined_59 rfl (lv_at hl 0 rfl) ?_
                refine U_get C0 w 3 (by decide) rfl rfl inG 0 (by decide) wd_144 rfl d_G_findDefined_60 ?_
                refine U_get C0 w 1 (by decide) rfl rfl inP 3 (by decide) wd_51 rfl d_G_findDefined_63 ?_
                refine lv_iload_n hx hb d_G_findDefined_66 rfl (lv_at hl 1 rfl) ?_
                obtain ⟨hi14, h⟩ := if_ok h
                refine U_gld C0 w (gX_35 ct) hi14 d_G_findDefined_67 ?_
                refine lv_iload_n hx hb d_G_findDefined_68 rfl (lv_at hl 2 rfl) ?_
                obtain ⟨hi15, h⟩ := if_ok h
                refine U_ald C0 w (rowI ct (b := 53) (by decide) (by decide) hi14) hi15 d_G_findDefined_69 ?_
                obtain ⟨r16, M17, hc18, h⟩ := bind_ok h
                try dsimp only at h
                refine U_siN (rest := [.int (M11 19 v1.toNatClampNeg), .int v1, .ref (q 19)]) C0 w (c_N_bit l D ct q hc18) wd_565 (C0.2.2.2.2.2.2.nest ("NameForge$Naming", 109, ⟨"NameForge", "bit", "(I)I"⟩) (by decide)) wd_564 wd_1 (n9 := 1) (by decide +kernel) rfl ⟨(Nat.le_of_ble_eq_true rfl), (Nat.le_of_ble_eq_true rfl)⟩ hl.1 rfl (Nat.le_of_ble_eq_true rfl) d_G_findDefined_70 (Nat.le_of_ble_eq_true rfl) (Nat.le_of_ble_eq_true rfl) (fun H locs w => ?_)
                refine lv_ior hx hb d_G_findDefined_73 ?_
                obtain ⟨hi19, h⟩ := if_ok h
                obtain ⟨M20, eM20, h⟩ := wr_ok h
                try dsimp only at h
                refine U_ast C0 (cX_l ct) w (iX_19 ct) hi19 d_G_findDefined_74 eM20 (fun H locs w => ?_)
                exact hJ75 _ _ _ _ _ _ (lv_sub hl [0, 1, 2] rfl) w h
        exact hL22 FU _ _ _ _ _ _ (lv_sub hl [1, 2, 0] rfl) w h
  exact hL2 FU _ _ _ _ _ (lv_sub hl [1, 0] rfl) w h
abbrev rm_G_spread : Room := { frames := 2, cells := 0, slots := 0, locals := 41 }
set_option maxHeartbeats 8000000 in
set_option maxRecDepth 100000 in
theorem c_G_spread (l : Launch) (D : va_G) (ct : Nat → ClassId) (q : Nat → Nat) {x1 x2 : Int32} {M Mz : Sto} {rz : Int32} (h : m_G_spread x1 x2 M = some (rz, Mz)) : KI l D ct y_G_spread b_G_spread 5 (some .boolean) 2 41 [.ref (q 3), .int x1, .int x2] (wX ct q M) rz (wX ct q Mz) := by
  refine KI.ofU (by decide) (Nat.le_of_ble_eq_true rfl) rfl ?_
  intro p e s m args below meth c A Q ls C0 hl w hret
  have hx := C0.1
  have hb := C0.2.1
  have hl : lv_has ls 5 [(0, .ref (q 3)), (1, .int x1), (2, .int x2)] := hl
  unfold m_G_spread at h
  refine lv_iconst (v := 0) hx hb d_G_spread_0 (by decide) ?_
  refine lv_istore_n hx hb d_G_spread_1 rfl hl (by decide) rfl (fun ls hl => ?_)
  have hl : lv_has ls 5 [(3, .int 0), (0, .ref (q 3)), (1, .int x1), (2, .int x2)] := hl
  refine lv_iconst (v := 0) hx hb d_G_spread_2 (by decide) ?_
  refine lv_istore hx hb d_G_spread_3 hl (by decide) rfl (fun ls hl => ?_)
  have hl : lv_has ls 5 [(4, .int 0), (3, .int 0), (0, .ref (q 3)), (1, .int x1), (2, .int x2)] := hl
  generalize eK5 : j_G_spread_59 = K5 at h
  have hE5 : ∀ (v3 : Int32) (M : Sto) (H : Heap) (locs : List Loc) (ls : Array Slot), lv_has ls 5 [(3, .int v3)] → Wd D A s (wX ct q M) H locs → K5 v3 M = some (rz, Mz) → W p l e rm_G_spread s m args below meth c H locs 0 0 Q (F0 m 59 ls []) := by
    intro v3 M H locs ls hl w h
    rw [← eK5] at h
    unfold j_G_spread_59 at h
    refine lv_iload_n hx hb d_G_spread_59 rfl (lv_at hl 0 rfl) ?_
    obtain ⟨hz9, h⟩ := if_ok h
    cases h
    exact hret _ _ _ _ d_G_spread_60 (bz_nar hz9) w
  have hL5 : ∀ (n : Nat) (v1 v2 v3 v4 : Int32) (M : Sto) (H : Heap) (locs : List Loc) (ls : Array Slot), lv_has ls 5 [(0, .ref (q 3)), (1, .int v1), (2, .int v2), (3, .int v3), (4, .int v4)] → Wd D A s (wX ct q M) H locs → l_G_spread_5 K5 n v1 v2 v3 v4 M = some (rz, Mz) → W p l e rm_G_spread s m args below meth c H locs 0 0 Q (F0 m 5 ls []) := by
    intro n
    induction n with
    | zero => intro v1 v2 v3 v4 M H locs ls hl w h; simp [l_G_spread_5] at h
    | succ n ih5 =>
      intro v1 v2 v3 v4 M H locs ls hl w h
      unfold l_G_spread_5 at h
      refine lv_iload hx hb d_G_spread_5 (lv_at hl 4 rfl) ?_
      refine lv_aload_n hx hb d_G_spread_7 rfl (lv_at hl 0 rfl) ?_
      refine U_get C0 w 3 (by decide) rfl rfl inG 0 (by decide) wd_144 rfl d_G_spread_8 ?_
      refine U_get C0 w 1 (by decide) rfl rfl inP 0 (by decide) wd_37 rfl d_G_spread_11 ?_
      refine lv_icmp_ge (tgt := 59) hx hb d_G_spread_14 (by decide) (fun hc => ?_) (fun hc => ?_)
      · rw [if_pos hc] at h
        exact hE5 _ _ _ _ _ (lv_sub hl [3] rfl) w h
      · rw [if_neg hc] at h
        refine lv_iload_n hx hb d_G_spread_17 rfl (lv_at hl 1 rfl) ?_
        refine lv_iload hx hb d_G_spread_18 (lv_at hl 4 rfl) ?_
        obtain ⟨r3, M4, hc5, h⟩ := bind_ok h
        try dsimp only at h
        refine U_siN (rest := []) C0 w (c_N_holds l D ct q hc5) wd_568 (C0.2.2.2.2.2.2.nest ("NameForge$Naming", 87, ⟨"NameForge", "holds", "(II)Z"⟩) (by decide)) wd_567 wd_1 (n9 := 2) (by decide +kernel) rfl ⟨(Nat.le_of_ble_eq_true rfl), (Nat.le_of_ble_eq_true rfl)⟩ hl.1 rfl (Nat.le_of_ble_eq_true rfl) d_G_spread_20 (Nat.le_of_ble_eq_true rfl) (Nat.le_of_ble_eq_true rfl) (fun H locs w => ?_)
        have hJ53 : ∀ (v1 v2 v3 v4 : Int32) (M : Sto) (H : Heap) (locs : List Loc) (ls : Array Slot), lv_has ls 5 [(0, .ref (q 3)), (1, .int v1), (2, .int v2), (3, .int v3), (4, .int v4)] → Wd D A s (wX ct q M) H locs → j_G_spread_53 (l_G_spread_5 K5 n) K5 v1 v2 v3 v4 M = some (rz, Mz) → W p l e rm_G_spread s m args below meth c H locs 0 0 Q (F0 m 53 ls []) := by
          intro v1 v2 v3 v4 M H locs ls hl w h
          unfold j_G_spread_53 at h
          refine lv_iinc (k := 4) (v := v4 + 1) hx hb d_G_spread_53 hl rfl (inc1 _) (by decide) rfl (fun ls hl => ?_)
          have hl : lv_has ls 5 [(4, .int (v4 + 1)), (0, .ref (q 3)), (1, .int v1), (2, .int v2), (3, .int v3)] := hl
          refine lv_goto (tgt := 5) hx hb d_G_spread_56 (by decide) ?_
          exact ih5 _ _ _ _ _ _ _ _ (lv_sub hl [1, 2, 3, 4, 0] rfl) w h
        refine lv_if_eq (tgt := 53) hx hb d_G_spread_23 (by decide) (fun hc => ?_) (fun hc => ?_)
        · rw [if_pos hc] at h
          exact hJ53 _ _ _ _ _ _ _ _ (lv_sub hl [0, 1, 2, 3, 4] rfl) w h
        · rw [if_neg hc] at h
          refine lv_iload_n hx hb d_G_spread_26 rfl (lv_at hl 2 rfl) ?_
          refine lv_aload_n hx hb d_G_spread_27 rfl (lv_at hl 0 rfl) ?_
          refine U_get C0 w 3 (by decide) rfl rfl inG 3 (by decide) wd_148 rfl d_G_spread_28 ?_
          refine lv_iload hx hb d_G_spread_31 (lv_at hl 4 rfl) ?_
          obtain ⟨hi6, h⟩ := if_ok h
          refine U_ald C0 w (iX_18 ct) hi6 d_G_spread_33 ?_
          refine lv_iconst (v := (-1)) hx hb d_G_spread_34 (by decide) ?_
          refine lv_ixor hx hb d_G_spread_35 ?_
          refine lv_iand hx hb d_G_spread_36 ?_
          refine lv_if_eq (tgt := 53) hx hb d_G_spread_37 (by decide) (fun hc => ?_) (fun hc => ?_)
          · rw [if_pos hc] at h
            exact hJ53 _ _ _ _ _ _ _ _ (lv_sub hl [0, 1, 2, 3, 4] rfl) w h
          · rw [if_neg hc] at h
            refine lv_aload_n hx hb d_G_spread_40 rfl (lv_at hl 0 rfl) ?_
            refine U_get C0 w 3 (by decide) rfl rfl inG 3 (by decide) wd_148 rfl d_G_spread_41 ?_
            refine lv_iload hx hb d_G_spread_44 (lv_at hl 4 rfl) ?_
            refine lv_dup2_11 hx hb d_G_spread_46 rfl rfl ?_
            obtain ⟨hi7, h⟩ := if_ok h
            refine U_ald C0 w (iX_18 ct) hi7 d_G_spread_47 ?_
            refine lv_iload_n hx hb d_G_spread_48 rfl (lv_at hl 2 rfl) ?_
            refine lv_ior hx hb d_G_spread_49 ?_
            obtain ⟨hi8, h⟩ := if_ok h
            obtain ⟨M9, eM9, h⟩ := wr_ok h
            try dsimp only at h
            refine U_ast C0 (cX_l ct) w (iX_18 ct) hi8 d_G_spread_50 eM9 (fun H locs w => ?_)
            refine lv_iconst (v := 1) hx hb d_G_spread_51 (by decide) ?_
            refine lv_istore_n hx hb d_G_spread_52 rfl hl (by decide) rfl (fun ls hl => ?_)
            have hl : lv_has ls 5 [(3, .int 1), (0, .ref (q 3)), (1, .int v1), (2, .int v2), (4, .int v4)] := hl
            exact hJ53 _ _ _ _ _ _ _ _ (lv_sub hl [1, 2, 3, 0, 4] rfl) w h
  exact hL5 FU _ _ _ _ _ _ _ _ (lv_sub hl [2, 3, 4, 1, 0] rfl) w h
end
section
abbrev rm_G_placePhis : Room := { frames := 3, cells := 0, slots := 0, locals := 65 }
set_option maxHeartbeats 8000000 in
set_option maxRecDepth 100000 in
theorem c_G_placePhis (l : Launch) (D : va_G) (ct : Nat → ClassId) (q : Nat → Nat) {M Mz : Sto} {rz : Int32} (h : m_G_placePhis M = some (rz, Mz)) : KV l D ct y_G_placePhis b_G_placePhis 4 3 65 0 0 [.ref (q 3)] (wX ct q M) (fun A t => CE D (wX ct q Mz) A t) := by
  refine KV.ofU (by decide) (Nat.le_of_ble_eq_true rfl) ?_
  intro p e s m args below meth c A Q ls C0 hl w hret
  have hx := C0.1
  have hb := C0.2.1
  have hl : lv_has ls 4 [(0, .ref (q 3))] := hl
  unfold m_G_placePhis at h
  refine lv_aload_n hx hb d_G_placePhis_0 rfl (lv_at hl 0 rfl) ?_
  refine U_get C0 w 3 (by decide) rfl rfl inG 3 (by decide) wd_148 rfl d_G_placePhis_1 ?_
  refine lv_iconst (v := 0) hx hb d_G_placePhis_4 (by decide) ?_
  obtain ⟨M3, eM3, h⟩ := wr_ok h
  try dsimp only at h
  refine U_fill (rest := []) C0 (cX_l ct) w (iX_18 ct) wd_605 d_G_placePhis_5 hl.1 ⟨(Nat.le_of_ble_eq_true rfl), (Nat.le_of_ble_eq_true rfl)⟩ (Nat.le_of_ble_eq_true rfl) eM3 (fun H locs w => ?_)
  refine lv_iconst (v := 1) hx hb d_G_placePhis_8 (by decide) ?_
  refine lv_istore_n hx hb d_G_placePhis_9 rfl hl (by decide) rfl (fun ls hl => ?_)
  have hl : lv_has ls 4 [(1, .int 1), (0, .ref (q 3))] := hl
  refine lv_iconst (v := 0) hx hb d_G_placePhis_10 (by decide) ?_
  refine lv_istore_n hx hb d_G_placePhis_11 rfl hl (by decide) rfl (fun ls hl => ?_)
  have hl : lv_has ls 4 [(2, .int 0), (1, .int 1), (0, .ref (q 3))] := hl
  generalize eK12 : j_G_placePhis_81 = K12 at h
  have hE12 : ∀ (M : Sto) (H : Heap) (locs : List Loc) (ls : Array Slot), lv_has ls 4 [] → Wd D A s (wX ct q M) H locs → K12 M = some (rz, Mz) → W p l e rm_G_placePhis s m args below meth c H locs 0 0 Q (F0 m 81 ls []) := by
    intro M H locs ls hl w h
    rw [← eK12] at h
    unfold j_G_placePhis_81 at h
    cases h
    exact hret _ _ _ _ d_G_placePhis_81 w
  have hL12 : ∀ (n : Nat) (v1 v2 : Int32) (M : Sto) (H : Heap) (locs : List Loc) (ls : Array Slot), lv_has ls 4 [(0, .ref (q 3)), (1, .int v1), (2, .int v2)] → Wd D A s (wX ct q M) H locs → l_G_placePhis_12 K12 n v1 v2 M = some (rz, Mz) → W p l e rm_G_placePhis s m args below meth c H locs 0 0 Q (F0 m 12 ls []) := by
    intro n
    induction n with
    | zero => intro v1 v2 M H locs ls hl w h; simp [l_G_placePhis_12] at h
    | succ n ih12 =>
      intro v1 v2 M H locs ls hl w h
      unfold l_G_placePhis_12 at h
      refine lv_iload_n hx hb d_G_placePhis_12 rfl (lv_at hl 1 rfl) ?_
      refine lv_if_eq (tgt := 81) hx hb d_G_placePhis_13 (by decide) (fun hc => ?_) (fun hc => ?_)
      · rw [if_pos hc] at h
        exact hE12 _ _ _ _ (lv_sub hl [] rfl) w h
      · rw [if_neg hc] at h
        refine lv_iload_n hx hb d_G_placePhis_16 rfl (lv_at hl 2 rfl) ?_
        refine lv_sipush (v := 1000) hx hb d_G_placePhis_17 (by decide) ?_
        refine lv_icmp_ge (tgt := 81) hx hb d_G_placePhis_20 (by decide) (fun hc => ?_) (fun hc => ?_)
        · rw [if_pos hc] at h
          exact hE12 _ _ _ _ (lv_sub hl [] rfl) w h
        · rw [if_neg hc] at h
          refine lv_iconst (v := 0) hx hb d_G_placePhis_23 (by decide) ?_
          refine lv_istore_n hx hb d_G_placePhis_24 rfl hl (by decide) rfl (fun ls hl => ?_)
          have hl : lv_has ls 4 [(1, .int 0), (0, .ref (q 3)), (2, .int v2)] := hl
          refine lv_iconst (v := 0) hx hb d_G_placePhis_25 (by decide) ?_
          refine lv_istore_n hx hb d_G_placePhis_26 rfl hl (by decide) rfl (fun ls hl => ?_)
          have hl : lv_has ls 4 [(3, .int 0), (1, .int 0), (0, .ref (q 3)), (2, .int v2)] := hl
          generalize eK27 : j_G_placePhis_75 (l_G_placePhis_12 K12 n) K12 = K27 at h
          have hE27 : ∀ (v1 v2 : Int32) (M : Sto) (H : Heap) (locs : List Loc) (ls : Array Slot), lv_has ls 4 [(0, .ref (q 3)), (1, .int v1), (2, .int v2)] → Wd D A s (wX ct q M) H locs → K27 v1 v2 M = some (rz, Mz) → W p l e rm_G_placePhis s m args below meth c H locs 0 0 Q (F0 m 75 ls []) := by
            intro v1 v2 M H locs ls hl w h
            rw [← eK27] at h
            unfold j_G_placePhis_75 at h
            refine lv_iinc (k := 2) (v := v2 + 1) hx hb d_G_placePhis_75 hl rfl (inc1 _) (by decide) rfl (fun ls hl => ?_)
            have hl : lv_has ls 4 [(2, .int (v2 + 1)), (0, .ref (q 3)), (1, .int v1)] := hl
            refine lv_goto (tgt := 12) hx hb d_G_placePhis_78 (by decide) ?_
            exact ih12 _ _ _ _ _ _ (lv_sub hl [1, 2, 0] rfl) w h
          have hL27 : ∀ (n : Nat) (v1 v2 v3 : Int32) (M : Sto) (H : Heap) (locs : List Loc) (ls : Array Slot), lv_has ls 4 [(0, .ref (q 3)), (1, .int v1), (2, .int v2), (3, .int v3)] → Wd D A s (wX ct q M) H locs → l_G_placePhis_27 K27 n v1 v2 v3 M = some (rz, Mz) → W p l e rm_G_placePhis s m args below meth c H locs 0 0 Q (F0 m 27 ls []) := by
            intro n
            induction n with
            | zero => intro v1 v2 v3 M H locs ls hl w h; simp [l_G_placePhis_27] at h
            | succ n ih27 =>
              intro v1 v2 v3 M H locs ls hl w h
              unfold l_G_placePhis_27 at h
              refine lv_iload_n hx hb d_G_placePhis_27 rfl (lv_at hl 3 rfl) ?_
              refine lv_aload_n hx hb d_G_placePhis_28 rfl (lv_at hl 0 rfl) ?_
              refine U_get C0 w 3 (by decide) rfl rfl inG 0 (by decide) wd_144 rfl d_G_placePhis_29 ?_
              refine U_get C0 w 1 (by decide) rfl rfl inP 0 (by decide) wd_37 rfl d_G_placePhis_32 ?_
              refine lv_icmp_ge (tgt := 75) hx hb d_G_placePhis_35 (by decide) (fun hc => ?_) (fun hc => ?_)
              · rw [if_pos hc] at h
                exact hE27 _ _ _ _ _ _ (lv_sub hl [0, 1, 2] rfl) w h
              · rw [if_neg hc] at h
                refine lv_aload_n hx hb d_G_placePhis_38 rfl (lv_at hl 0 rfl) ?_
                refine lv_aload_n hx hb d_G_placePhis_39 rfl (lv_at hl 0 rfl) ?_
                refine U_get C0 w 3 (by decide) rfl rfl inG 1 (by decide) wd_145 rfl d_G_placePhis_40 ?_
                refine U_get C0 w 2 (by decide) rfl rfl inS 5 (by decide) wd_110 rfl d_G_placePhis_43 ?_
                refine lv_iload_n hx hb d_G_placePhis_46 rfl (lv_at hl 3 rfl) ?_
                obtain ⟨hi4, h⟩ := if_ok h
                refine U_ald C0 w (iX_15 ct) hi4 d_G_placePhis_47 ?_
                refine lv_aload_n hx hb d_G_placePhis_48 rfl (lv_at hl 0 rfl) ?_
                refine U_get C0 w 3 (by decide) rfl rfl inG 4 (by decide) wd_152 rfl d_G_placePhis_49 ?_
                refine lv_iload_n hx hb d_G_placePhis_52 rfl (lv_at hl 3 rfl) ?_
                obtain ⟨hi5, h⟩ := if_ok h
                refine U_ald C0 w (iX_19 ct) hi5 d_G_placePhis_53 ?_
                refine lv_aload_n hx hb d_G_placePhis_54 rfl (lv_at hl 0 rfl) ?_
                refine U_get C0 w 3 (by decide) rfl rfl inG 3 (by decide) wd_148 rfl d_G_placePhis_55 ?_
                refine lv_iload_n hx hb d_G_placePhis_58 rfl (lv_at hl 3 rfl) ?_
                obtain ⟨hi6, h⟩ := if_ok h
                refine U_ald C0 w (iX_18 ct) hi6 d_G_placePhis_59 ?_
                refine lv_ior hx hb d_G_placePhis_60 ?_
                obtain ⟨r7, M8, hc9, h⟩ := bind_ok h
                try dsimp only at h
                refine U_vi (rest := []) C0 w 3 (wU_at (by decide)) rfl (c_G_spread l D ct q hc9) wd_611 wd_608 wd_610 ws_8 wd_4 (n9 := 2) (by decide +kernel) rfl ⟨(Nat.le_of_ble_eq_true rfl), (Nat.le_of_ble_eq_true rfl)⟩ hl.1 rfl (Nat.le_of_ble_eq_true rfl) d_G_placePhis_61 (Nat.le_of_ble_eq_true rfl) (Nat.le_of_ble_eq_true rfl) (fun H locs w => ?_)
                have hJ69 : ∀ (v1 v2 v3 : Int32) (M : Sto) (H : Heap) (locs : List Loc) (ls : Array Slot), lv_has ls 4 [(0, .ref (q 3)), (1, .int v1), (2, .int v2), (3, .int v3)] → Wd D A s (wX ct q M) H locs → j_G_placePhis_69 (l_G_placePhis_27 K27 n) K27 v1 v2 v3 M = some (rz, Mz) → W p l e rm_G_placePhis s m args below meth c H locs 0 0 Q (F0 m 69 ls []) := by
                  intro v1 v2 v3 M H locs ls hl w h
                  unfold j_G_placePhis_69 at h
                  refine lv_iinc (k := 3) (v := v3 + 1) hx hb d_G_placePhis_69 hl rfl (inc1 _) (by decide) rfl (fun ls hl => ?_)
                  have hl : lv_has ls 4 [(3, .int (v3 + 1)), (0, .ref (q 3)), (1, .int v1), (2, .int v2)] := hl
                  refine lv_goto (tgt := 27) hx hb d_G_placePhis_72 (by decide) ?_
                  exact ih27 _ _ _ _ _ _ _ (lv_sub hl [1, 2, 3, 0] rfl) w h
                refine lv_if_eq (tgt := 69) hx hb d_G_placePhis_64 (by decide) (fun hc => ?_) (fun hc => ?_)
                · rw [if_pos hc] at h
                  exact hJ69 _ _ _ _ _ _ _ (lv_sub hl [0, 1, 2, 3] rfl) w h
                · rw [if_neg hc] at h
                  refine lv_iconst (v := 1) hx hb d_G_placePhis_67 (by decide) ?_
                  refine lv_istore_n hx hb d_G_placePhis_68 rfl hl (by decide) rfl (fun ls hl => ?_)
                  have hl : lv_has ls 4 [(1, .int 1), (0, .ref (q 3)), (2, .int v2), (3, .int v3)] := hl
                  exact hJ69 _ _ _ _ _ _ _ (lv_sub hl [1, 0, 2, 3] rfl) w h
          exact hL27 FU _ _ _ _ _ _ _ (lv_sub hl [2, 1, 3, 0] rfl) w h
  exact hL12 FU _ _ _ _ _ _ (lv_sub hl [2, 1, 0] rfl) w h
abbrev rm_G_newName : Room := { frames := 0, cells := 0, slots := 0, locals := 0 }
set_option maxHeartbeats 8000000 in
set_option maxRecDepth 100000 in
theorem c_G_newName (l : Launch) (D : va_G) (ct : Nat → ClassId) (q : Nat → Nat) {x1 x2 x3 : Int32} {M Mz : Sto} {rz : Int32} (h : m_G_newName x1 x2 x3 M = some (rz, Mz)) : KI l D ct y_G_newName b_G_newName 5 (some .int) 0 0 [.ref (q 3), .int x1, .int x2, .int x3] (wX ct q M) rz (wX ct q Mz) := by
  refine KI.ofU (by decide) (Nat.le_of_ble_eq_true rfl) rfl ?_
  intro p e s m args below meth c A Q ls C0 hl w hret
  have hx := C0.1
  have hb := C0.2.1
  have hl : lv_has ls 5 [(0, .ref (q 3)), (1, .int x1), (2, .int x2), (3, .int x3)] := hl
  unfold m_G_newName at h
  refine lv_aload_n hx hb d_G_newName_0 rfl (lv_at hl 0 rfl) ?_
  refine U_get C0 w 3 (by decide) rfl rfl inG 2 (by decide) wd_146 rfl d_G_newName_1 ?_
  refine lv_istore hx hb d_G_newName_4 hl (by decide) rfl (fun ls hl => ?_)
  have hl : lv_has ls 5 [(4, .int (M 3 2)), (0, .ref (q 3)), (1, .int x1), (2, .int x2), (3, .int x3)] := hl
  refine lv_aload_n hx hb d_G_newName_6 rfl (lv_at hl 1 rfl) ?_
  refine U_get C0 w 3 (by decide) rfl rfl inG 11 (by decide) wd_182 rfl d_G_newName_7 ?_
  refine lv_iload hx hb d_G_newName_10 (lv_at hl 0 rfl) ?_
  refine lv_iload_n hx hb d_G_newName_12 rfl (lv_at hl 2 rfl) ?_
  obtain ⟨hi5, h⟩ := if_ok h
  obtain ⟨M6, eM6, h⟩ := wr_ok h
  try dsimp only at h
  refine U_ast C0 (cX_l ct) w (iX_21 ct) hi5 d_G_newName_13 eM6 (fun H locs w => ?_)
  refine lv_aload_n hx hb d_G_newName_14 rfl (lv_at hl 1 rfl) ?_
  refine U_get C0 w 3 (by decide) rfl rfl inG 12 (by decide) wd_185 rfl d_G_newName_15 ?_
  refine lv_iload hx hb d_G_newName_18 (lv_at hl 0 rfl) ?_
  refine lv_iload_n hx hb d_G_newName_20 rfl (lv_at hl 3 rfl) ?_
  obtain ⟨hi7, h⟩ := if_ok h
  obtain ⟨M8, eM8, h⟩ := wr_ok h
  try dsimp only at h
  refine U_ast C0 (cX_l ct) w (iX_22 ct) hi7 d_G_newName_21 eM8 (fun H locs w => ?_)
  refine lv_aload_n hx hb d_G_newName_22 rfl (lv_at hl 1 rfl) ?_
  refine U_get C0 w 3 (by decide) rfl rfl inG 13 (by decide) wd_187 rfl d_G_newName_23 ?_
  refine lv_iload hx hb d_G_newName_26 (lv_at hl 0 rfl) ?_
  refine lv_iload_n hx hb d_G_newName_28 rfl (lv_at hl 4 rfl) ?_
  obtain ⟨hi9, h⟩ := if_ok h
  obtain ⟨M10, eM10, h⟩ := wr_ok h
  try dsimp only at h
  refine U_ast C0 (cX_l ct) w (iX_23 ct) hi9 d_G_newName_29 eM10 (fun H locs w => ?_)
  refine lv_aload_n hx hb d_G_newName_30 rfl (lv_at hl 1 rfl) ?_
  refine lv_dup hx hb d_G_newName_31 rfl ?_
  refine U_get C0 w 3 (by decide) rfl rfl inG 2 (by decide) wd_146 rfl d_G_newName_32 ?_
  refine lv_iconst (v := 1) hx hb d_G_newName_35 (by decide) ?_
  refine lv_iadd hx hb d_G_newName_36 ?_
  obtain ⟨M11, eM11, h⟩ := wr_ok h
  try dsimp only at h
  refine U_put C0 (cX_l ct) w 3 (by decide) rfl rfl inG tyG_ok nmG 2 (by decide) wd_146 rfl rfl rfl (Nat.le_of_ble_eq_true rfl) d_G_newName_37 eM11 rfl (fun H locs w => ?_)
  refine lv_iload hx hb d_G_newName_40 (lv_at hl 0 rfl) ?_
  cases h
  exact hret _ _ _ _ d_G_newName_42 rfl w
abbrev rm_G_nameInstruction : Room := { frames := 1, cells := 0, slots := 0, locals := 24 }
set_option maxHeartbeats 8000000 in
set_option maxRecDepth 100000 in
theorem c_G_nameInstruction (l : Launch) (D : va_G) (ct : Nat → ClassId) (q : Nat → Nat) {x1 x2 x3 : Int32} {M Mz : Sto} {rz : Int32} (hwx3 : ok x3 10 = true) (h : m_G_nameInstruction x1 x2 x3 M = some (rz, Mz)) : KV l D ct y_G_nameInstruction b_G_nameInstruction 6 1 24 0 0 [.ref (q 3), .int x1, .int x2, .ref (q (93 + x3.toNatClampNeg))] (wX ct q M) (fun A t => CE D (wX ct q Mz) A t) := by
  refine KV.ofU (by decide) (Nat.le_of_ble_eq_true rfl) ?_
  intro p e s m args below meth c A Q ls C0 hl w hret
  have hx := C0.1
  have hb := C0.2.1
  have hl : lv_has ls 6 [(0, .ref (q 3)), (1, .int x1), (2, .int x2), (3, .ref (q (93 + x3.toNatClampNeg)))] := hl
  unfold m_G_nameInstruction at h
  refine lv_aload_n hx hb d_G_nameInstruction_0 rfl (lv_at hl 0 rfl) ?_
  refine U_get C0 w 3 (by decide) rfl rfl inG 0 (by decide) wd_144 rfl d_G_nameInstruction_1 ?_
  refine U_get C0 w 1 (by decide) rfl rfl inP 2 (by decide) wd_47 rfl d_G_nameInstruction_4 ?_
  refine lv_iload_n hx hb d_G_nameInstruction_7 rfl (lv_at hl 1 rfl) ?_
  obtain ⟨hi10, h⟩ := if_ok h
  refine U_gld C0 w (gX_34 ct) hi10 d_G_nameInstruction_8 ?_
  refine lv_iload_n hx hb d_G_nameInstruction_9 rfl (lv_at hl 2 rfl) ?_
  obtain ⟨hi11, h⟩ := if_ok h
  refine U_ald C0 w (rowI ct (b := 43) (by decide) (by decide) hi10) hi11 d_G_nameInstruction_10 ?_
  refine lv_istore hx hb d_G_nameInstruction_11 hl (by decide) rfl (fun ls hl => ?_)
  have hl : lv_has ls 6 [(4, .int (M (43 + x1.toNatClampNeg) x2.toNatClampNeg)), (0, .ref (q 3)), (1, .int x1), (2, .int x2), (3, .ref (q (93 + x3.toNatClampNeg)))] := hl
  refine lv_aload_n hx hb d_G_nameInstruction_13 rfl (lv_at hl 1 rfl) ?_
  refine U_get C0 w 3 (by decide) rfl rfl inG 8 (by decide) wd_167 rfl d_G_nameInstruction_14 ?_
  refine lv_iload_n hx hb d_G_nameInstruction_17 rfl (lv_at hl 2 rfl) ?_
  obtain ⟨hi12, h⟩ := if_ok h
  refine U_gld C0 w (gX_41 ct) hi12 d_G_nameInstruction_18 ?_
  refine lv_iload_n hx hb d_G_nameInstruction_19 rfl (lv_at hl 3 rfl) ?_
  refine lv_iload hx hb d_G_nameInstruction_20 (lv_at hl 0 rfl) ?_
  obtain ⟨r13, M14, hc15, h⟩ := bind_ok h
  try dsimp only at h
  refine U_siN (rest := [.int x2, .ref (q (113 + x1.toNatClampNeg))]) C0 w (c_N_readsX l D ct q hc15) wd_492 (C0.2.2.2.2.2.2.nest ("NameForge$Naming", 132, ⟨"NameForge", "readsX", "(I)Z"⟩) (by decide)) wd_491 wd_1 (n9 := 1) (by decide +kernel) rfl ⟨(Nat.le_of_ble_eq_true rfl), (Nat.le_of_ble_eq_true rfl)⟩ hl.1 rfl (Nat.le_of_ble_eq_true rfl) d_G_nameInstruction_22 (Nat.le_of_ble_eq_true rfl) (Nat.le_of_ble_eq_true rfl) (fun H locs w => ?_)
  have hJ45 : ∀ (s0 s1 s2 v1 v2 v3 v4 : Int32) (M : Sto) (H : Heap) (locs : List Loc) (ls : Array Slot), ok s2 10 = true → ok v3 10 = true → lv_has ls 6 [(0, .ref (q 3)), (1, .int v1), (2, .int v2), (3, .ref (q (93 + v3.toNatClampNeg))), (4, .int v4)] → Wd D A s (wX ct q M) H locs → j_G_nameInstruction_45 s0 s1 s2 v1 v2 v3 v4 M = some (rz, Mz) → W p l e rm_G_nameInstruction s m args below meth c H locs 0 0 Q (F0 m 45 ls [.int s0, .int s1, .ref (q (113 + s2.toNatClampNeg))]) := by
    intro s0 s1 s2 v1 v2 v3 v4 M H locs ls hws2 hwv3 hl w h
    unfold j_G_nameInstruction_45 at h
    obtain ⟨hi16, h⟩ := if_ok h
    obtain ⟨M17, eM17, h⟩ := wr_ok h
    try dsimp only at h
    refine U_ast C0 (cX_l ct) w (rowI ct (b := 113) (by decide) (by decide) hws2) hi16 d_G_nameInstruction_45 eM17 (fun H locs w => ?_)
    refine lv_aload_n hx hb d_G_nameInstruction_46 rfl (lv_at hl 0 rfl) ?_
    refine U_get C0 w 3 (by decide) rfl rfl inG 9 (by decide) wd_172 rfl d_G_nameInstruction_47 ?_
    refine lv_iload_n hx hb d_G_nameInstruction_50 rfl (lv_at hl 1 rfl) ?_
    obtain ⟨hi18, h⟩ := if_ok h
    refine U_gld C0 w (gX_42 ct) hi18 d_G_nameInstruction_51 ?_
    refine lv_iload_n hx hb d_G_nameInstruction_52 rfl (lv_at hl 2 rfl) ?_
    refine lv_iload hx hb d_G_nameInstruction_53 (lv_at hl 4 rfl) ?_
    obtain ⟨r19, M20, hc21, h⟩ := bind_ok h
    try dsimp only at h
    refine U_siN (rest := [.int v2, .ref (q (123 + v1.toNatClampNeg))]) C0 w (c_N_readsY l D ct q hc21) wd_495 (C0.2.2.2.2.2.2.nest ("NameForge$Naming", 138, ⟨"NameForge", "readsY", "(I)Z"⟩) (by decide)) wd_494 wd_1 (n9 := 1) (by decide +kernel) rfl ⟨(Nat.le_of_ble_eq_true rfl), (Nat.le_of_ble_eq_true rfl)⟩ hl.1 rfl (Nat.le_of_ble_eq_true rfl) d_G_nameInstruction_55 (Nat.le_of_ble_eq_true rfl) (Nat.le_of_ble_eq_true rfl) (fun H locs w => ?_)
    have hJ78 : ∀ (s0 s1 s2 v1 v2 v3 v4 : Int32) (M : Sto) (H : Heap) (locs : List Loc) (ls : Array Slot), ok s2 10 = true → ok v3 10 = true → lv_has ls 6 [(0, .ref (q 3)), (1, .int v1), (2, .int v2), (3, .ref (q (93 + v3.toNatClampNeg))), (4, .int v4)] → Wd D A s (wX ct q M) H locs → j_G_nameInstruction_78 s0 s1 s2 v1 v2 v3 v4 M = some (rz, Mz) → W p l e rm_G_nameInstruction s m args below meth c H locs 0 0 Q (F0 m 78 ls [.int s0, .int s1, .ref (q (123 + s2.toNatClampNeg))]) := by
      intro s0 s1 s2 v1 v2 v3 v4 M H locs ls hws2 hwv3 hl w h
      unfold j_G_nameInstruction_78 at h
      obtain ⟨hi22, h⟩ := if_ok h
      obtain ⟨M23, eM23, h⟩ := wr_ok h
      try dsimp only at h
      refine U_ast C0 (cX_l ct) w (rowI ct (b := 123) (by decide) (by decide) hws2) hi22 d_G_nameInstruction_78 eM23 (fun H locs w => ?_)
      refine lv_aload_n hx hb d_G_nameInstruction_79 rfl (lv_at hl 0 rfl) ?_
      refine U_get C0 w 3 (by decide) rfl rfl inG 7 (by decide) wd_162 rfl d_G_nameInstruction_80 ?_
      refine lv_iload_n hx hb d_G_nameInstruction_83 rfl (lv_at hl 1 rfl) ?_
      obtain ⟨hi24, h⟩ := if_ok h
      refine U_gld C0 w (gX_40 ct) hi24 d_G_nameInstruction_84 ?_
      refine lv_iload_n hx hb d_G_nameInstruction_85 rfl (lv_at hl 2 rfl) ?_
      refine lv_iconst (v := (-1)) hx hb d_G_nameInstruction_86 (by decide) ?_
      obtain ⟨hi25, h⟩ := if_ok h
      obtain ⟨M26, eM26, h⟩ := wr_ok h
      try dsimp only at h
      refine U_ast C0 (cX_l ct) w (rowI ct (b := 103) (by decide) (by decide) hi24) hi25 d_G_nameInstruction_87 eM26 (fun H locs w => ?_)
      refine lv_iload hx hb d_G_nameInstruction_88 (lv_at hl 4 rfl) ?_
      obtain ⟨r27, M28, hc29, h⟩ := bind_ok h
      try dsimp only at h
      refine U_siN (rest := []) C0 w (c_N_setsVariable l D ct q hc29) wd_486 (C0.2.2.2.2.2.2.nest ("NameForge$Naming", 102, ⟨"NameForge", "setsVariable", "(I)Z"⟩) (by decide)) wd_485 wd_1 (n9 := 1) (by decide +kernel) rfl ⟨(Nat.le_of_ble_eq_true rfl), (Nat.le_of_ble_eq_true rfl)⟩ hl.1 rfl (Nat.le_of_ble_eq_true rfl) d_G_nameInstruction_90 (Nat.le_of_ble_eq_true rfl) (Nat.le_of_ble_eq_true rfl) (fun H locs w => ?_)
      have hJ133 : ∀ (M : Sto) (H : Heap) (locs : List Loc) (ls : Array Slot), lv_has ls 6 [] → Wd D A s (wX ct q M) H locs → j_G_nameInstruction_133 M = some (rz, Mz) → W p l e rm_G_nameInstruction s m args below meth c H locs 0 0 Q (F0 m 133 ls []) := by
        intro M H locs ls hl w h
        unfold j_G_nameInstruction_133 at h
        cases h
        exact hret _ _ _ _ d_G_nameInstruction_133 w
      refine lv_if_eq (tgt := 133) hx hb d_G_nameInstruction_93 (by decide) (fun hc => ?_) (fun hc => ?_)
      · rw [if_pos hc] at h
        exact hJ133 _ _ _ _ (lv_sub hl [] rfl) w h
      · rw [if_neg hc] at h
        refine lv_aload_n hx hb d_G_nameInstruction_96 rfl (lv_at hl 0 rfl) ?_
        refine U_get C0 w 3 (by decide) rfl rfl inG 0 (by decide) wd_144 rfl d_G_nameInstruction_97 ?_
        refine U_get C0 w 1 (by decide) rfl rfl inP 3 (by decide) wd_51 rfl d_G_nameInstruction_100 ?_
        refine lv_iload_n hx hb d_G_nameInstruction_103 rfl (lv_at hl 1 rfl) ?_
        obtain ⟨hi30, h⟩ := if_ok h
        refine U_gld C0 w (gX_35 ct) hi30 d_G_nameInstruction_104 ?_
        refine lv_iload_n hx hb d_G_nameInstruction_105 rfl (lv_at hl 2 rfl) ?_
        obtain ⟨hi31, h⟩ := if_ok h
        refine U_ald C0 w (rowI ct (b := 53) (by decide) (by decide) hi30) hi31 d_G_nameInstruction_106 ?_
        refine lv_istore hx hb d_G_nameInstruction_107 hl (by decide) rfl (fun ls hl => ?_)
        have hl : lv_has ls 6 [(5, .int (M28 (53 + v1.toNatClampNeg) v2.toNatClampNeg)), (0, .ref (q 3)), (1, .int v1), (2, .int v2), (3, .ref (q (93 + v3.toNatClampNeg))), (4, .int v4)] := hl
        refine lv_aload_n hx hb d_G_nameInstruction_109 rfl (lv_at hl 4 rfl) ?_
        refine lv_iload hx hb d_G_nameInstruction_110 (lv_at hl 0 rfl) ?_
        refine lv_aload_n hx hb d_G_nameInstruction_112 rfl (lv_at hl 1 rfl) ?_
        refine lv_iload_n hx hb d_G_nameInstruction_113 rfl (lv_at hl 2 rfl) ?_
        refine lv_iload_n hx hb d_G_nameInstruction_114 rfl (lv_at hl 3 rfl) ?_
        refine lv_iload hx hb d_G_nameInstruction_115 (lv_at hl 0 rfl) ?_
        obtain ⟨r32, M33, hc34, h⟩ := bind_ok h
        try dsimp only at h
        refine U_vi (rest := [.int (M28 (53 + v1.toNatClampNeg) v2.toNatClampNeg), .ref (q (93 + v3.toNatClampNeg))]) C0 w 3 (wU_at (by decide)) rfl (c_G_newName l D ct q hc34) wd_616 wd_613 wd_615 ws_9 wd_4 (n9 := 3) (by decide +kernel) rfl ⟨(Nat.le_of_ble_eq_true rfl), (Nat.le_of_ble_eq_true rfl)⟩ hl.1 rfl (Nat.le_of_ble_eq_true rfl) d_G_nameInstruction_117 (Nat.le_of_ble_eq_true rfl) (Nat.le_of_ble_eq_true rfl) (fun H locs w => ?_)
        obtain ⟨hi35, h⟩ := if_ok h
        obtain ⟨M36, eM36, h⟩ := wr_ok h
        try dsimp only at h
        refine U_ast C0 (cX_l ct) w (rowI ct (b := 93) (by decide) (by decide) hwv3) hi35 d_G_nameInstruction_120 eM36 (fun H locs w => ?_)
        refine lv_aload_n hx hb d_G_nameInstruction_121 rfl (lv_at hl 1 rfl) ?_
        refine U_get C0 w 3 (by decide) rfl rfl inG 7 (by decide) wd_162 rfl d_G_nameInstruction_122 ?_
        refine lv_iload_n hx hb d_G_nameInstruction_125 rfl (lv_at hl 2 rfl) ?_
        obtain ⟨hi37, h⟩ := if_ok h
        refine U_gld C0 w (gX_40 ct) hi37 d_G_nameInstruction_126 ?_
        refine lv_iload_n hx hb d_G_nameInstruction_127 rfl (lv_at hl 3 rfl) ?_
        refine lv_aload_n hx hb d_G_nameInstruction_128 rfl (lv_at hl 4 rfl) ?_
        refine lv_iload hx hb d_G_nameInstruction_129 (lv_at hl 0 rfl) ?_
        obtain ⟨hi38, h⟩ := if_ok h
        refine U_ald C0 w (rowI ct (b := 93) (by decide) (by decide) hwv3) hi38 d_G_nameInstruction_131 ?_
        obtain ⟨hi39, h⟩ := if_ok h
        obtain ⟨M40, eM40, h⟩ := wr_ok h
        try dsimp only at h
        refine U_ast C0 (cX_l ct) w (rowI ct (b := 103) (by decide) (by decide) hi37) hi39 d_G_nameInstruction_132 eM40 (fun H locs w => ?_)
        exact hJ133 _ _ _ _ (lv_sub hl [] rfl) w h
    refine lv_if_eq (tgt := 77) hx hb d_G_nameInstruction_58 (by decide) (fun hc => ?_) (fun hc => ?_)
    · rw [if_pos hc] at h
      refine lv_iconst (v := (-1)) hx hb d_G_nameInstruction_77 (by decide) ?_
      exact hJ78 _ _ _ _ _ _ _ _ _ _ _ hi18 hwv3 (lv_sub hl [0, 1, 2, 3, 4] rfl) w h
    · rw [if_neg hc] at h
      refine lv_aload_n hx hb d_G_nameInstruction_61 rfl (lv_at hl 3 rfl) ?_
      refine lv_aload_n hx hb d_G_nameInstruction_62 rfl (lv_at hl 0 rfl) ?_
      refine U_get C0 w 3 (by decide) rfl rfl inG 0 (by decide) wd_144 rfl d_G_nameInstruction_63 ?_
      refine U_get C0 w 1 (by decide) rfl rfl inP 5 (by decide) wd_59 rfl d_G_nameInstruction_66 ?_
      refine lv_iload_n hx hb d_G_nameInstruction_69 rfl (lv_at hl 1 rfl) ?_
      obtain ⟨hi41, h⟩ := if_ok h
      refine U_gld C0 w (gX_37 ct) hi41 d_G_nameInstruction_70 ?_
      refine lv_iload_n hx hb d_G_nameInstruction_71 rfl (lv_at hl 2 rfl) ?_
      obtain ⟨hi42, h⟩ := if_ok h
      refine U_ald C0 w (rowI ct (b := 73) (by decide) (by decide) hi41) hi42 d_G_nameInstruction_72 ?_
      obtain ⟨hi43, h⟩ := if_ok h
      refine U_ald C0 w (rowI ct (b := 93) (by decide) (by decide) hwv3) hi43 d_G_nameInstruction_73 ?_
      refine lv_goto (tgt := 78) hx hb d_G_nameInstruction_74 (by decide) ?_
      exact hJ78 _ _ _ _ _ _ _ _ _ _ _ hi41 hwv3 (lv_sub hl [0, 1, 2, 3, 4] rfl) w h
  refine lv_if_eq (tgt := 44) hx hb d_G_nameInstruction_25 (by decide) (fun hc => ?_) (fun hc => ?_)
  · rw [if_pos hc] at h
    refine lv_iconst (v := (-1)) hx hb d_G_nameInstruction_44 (by decide) ?_
    exact hJ45 _ _ _ _ _ _ _ _ _ _ _ hi12 hwx3 (lv_sub hl [1, 2, 3, 4, 0] rfl) w h
  · rw [if_neg hc] at h
    refine lv_aload_n hx hb d_G_nameInstruction_28 rfl (lv_at hl 4 rfl) ?_
    refine lv_aload_n hx hb d_G_nameInstruction_29 rfl (lv_at hl 1 rfl) ?_
    refine U_get C0 w 3 (by decide) rfl rfl inG 0 (by decide) wd_144 rfl d_G_nameInstruction_30 ?_
    refine U_get C0 w 1 (by decide) rfl rfl inP 4 (by decide) wd_56 rfl d_G_nameInstruction_33 ?_
    refine lv_iload_n hx hb d_G_nameInstruction_36 rfl (lv_at hl 2 rfl) ?_
    obtain ⟨hi44, h⟩ := if_ok h
    refine U_gld C0 w (gX_36 ct) hi44 d_G_nameInstruction_37 ?_
    refine lv_iload_n hx hb d_G_nameInstruction_38 rfl (lv_at hl 3 rfl) ?_
    obtain ⟨hi45, h⟩ := if_ok h
    refine U_ald C0 w (rowI ct (b := 63) (by decide) (by decide) hi44) hi45 d_G_nameInstruction_39 ?_
    obtain ⟨hi46, h⟩ := if_ok h
    refine U_ald C0 w (rowI ct (b := 93) (by decide) (by decide) hwx3) hi46 d_G_nameInstruction_40 ?_
    refine lv_goto (tgt := 45) hx hb d_G_nameInstruction_41 (by decide) ?_
    exact hJ45 _ _ _ _ _ _ _ _ _ _ _ hi44 hwx3 (lv_sub hl [1, 2, 3, 4, 0] rfl) w h
abbrev rm_G_nameBlock : Room := { frames := 2, cells := 0, slots := 0, locals := 49 }
set_option maxHeartbeats 8000000 in
set_option maxRecDepth 100000 in
theorem c_G_nameBlock (l : Launch) (D : va_G) (ct : Nat → ClassId) (q : Nat → Nat) {x1 : Int32} {M Mz : Sto} {rz : Int32} (h : m_G_nameBlock x1 M = some (rz, Mz)) : KV l D ct y_G_nameBlock b_G_nameBlock 5 2 49 0 0 [.ref (q 3), .int x1] (wX ct q M) (fun A t => CE D (wX ct q Mz) A t) := by
  refine KV.ofU (by decide) (Nat.le_of_ble_eq_true rfl) ?_
  intro p e s m args below meth c A Q ls C0 hl w hret
  have hx := C0.1
  have hb := C0.2.1
  have hl : lv_has ls 5 [(0, .ref (q 3)), (1, .int x1)] := hl
  unfold m_G_nameBlock at h
  refine lv_aload_n hx hb d_G_nameBlock_0 rfl (lv_at hl 0 rfl) ?_
  refine U_get C0 w 3 (by decide) rfl rfl inG 6 (by decide) wd_157 rfl d_G_nameBlock_1 ?_
  refine lv_iload_n hx hb d_G_nameBlock_4 rfl (lv_at hl 1 rfl) ?_
  obtain ⟨hi8, h⟩ := if_ok h
  refine U_gld C0 w (gX_39 ct) hi8 d_G_nameBlock_5 ?_
  refine lv_astore_n hx hb d_G_nameBlock_6 rfl hl (by decide) rfl (fun ls hl => ?_)
  have hl : lv_has ls 5 [(2, .ref (q (93 + x1.toNatClampNeg))), (0, .ref (q 3)), (1, .int x1)] := hl
  refine lv_aload_n hx hb d_G_nameBlock_7 rfl (lv_at hl 1 rfl) ?_
  refine U_get C0 w 3 (by decide) rfl rfl inG 1 (by decide) wd_145 rfl d_G_nameBlock_8 ?_
  refine U_get C0 w 2 (by decide) rfl rfl inS 4 (by decide) wd_107 rfl d_G_nameBlock_11 ?_
  refine lv_iload_n hx hb d_G_nameBlock_14 rfl (lv_at hl 2 rfl) ?_
  obtain ⟨hi9, h⟩ := if_ok h
  refine U_ald C0 w (iX_14 ct) hi9 d_G_nameBlock_15 ?_
  refine lv_istore_n hx hb d_G_nameBlock_16 rfl hl (by decide) rfl (fun ls hl => ?_)
  have hl : lv_has ls 5 [(3, .int (M 14 x1.toNatClampNeg)), (2, .ref (q (93 + x1.toNatClampNeg))), (0, .ref (q 3)), (1, .int x1)] := hl
  refine lv_iconst (v := 0) hx hb d_G_nameBlock_17 (by decide) ?_
  refine lv_istore hx hb d_G_nameBlock_18 hl (by decide) rfl (fun ls hl => ?_)
  have hl : lv_has ls 5 [(4, .int 0), (3, .int (M 14 x1.toNatClampNeg)), (2, .ref (q (93 + x1.toNatClampNeg))), (0, .ref (q 3)), (1, .int x1)] := hl
  generalize eK20 : j_G_nameBlock_56 = K20 at h
  have hE20 : ∀ (v1 v2 : Int32) (M : Sto) (H : Heap) (locs : List Loc) (ls : Array Slot), ok v2 10 = true → lv_has ls 5 [(0, .ref (q 3)), (1, .int v1), (2, .ref (q (93 + v2.toNatClampNeg)))] → Wd D A s (wX ct q M) H locs → K20 v1 v2 M = some (rz, Mz) → W p l e rm_G_nameBlock s m args below meth c H locs 0 0 Q (F0 m 56 ls []) := by
    intro v1 v2 M H locs ls hwv2 hl w h
    rw [← eK20] at h
    unfold j_G_nameBlock_56 at h
    refine lv_iconst (v := 0) hx hb d_G_nameBlock_56 (by decide) ?_
    refine lv_istore hx hb d_G_nameBlock_57 hl (by decide) rfl (fun ls hl => ?_)
    have hl : lv_has ls 5 [(4, .int 0), (0, .ref (q 3)), (1, .int v1), (2, .ref (q (93 + v2.toNatClampNeg)))] := hl
    generalize eK59 : j_G_nameBlock_111 = K59 at h
    have hE59 : ∀ (v1 v2 : Int32) (M : Sto) (H : Heap) (locs : List Loc) (ls : Array Slot), ok v2 10 = true → lv_has ls 5 [(0, .ref (q 3)), (1, .int v1), (2, .ref (q (93 + v2.toNatClampNeg)))] → Wd D A s (wX ct q M) H locs → K59 v1 v2 M = some (rz, Mz) → W p l e rm_G_nameBlock s m args below meth c H locs 0 0 Q (F0 m 111 ls []) := by
      intro v1 v2 M H locs ls hwv2 hl w h
      rw [← eK59] at h
      unfold j_G_nameBlock_111 at h
      refine lv_iconst (v := 0) hx hb d_G_nameBlock_111 (by decide) ?_
      refine lv_istore hx hb d_G_nameBlock_112 hl (by decide) rfl (fun ls hl => ?_)
      have hl : lv_has ls 5 [(4, .int 0), (0, .ref (q 3)), (1, .int v1), (2, .ref (q (93 + v2.toNatClampNeg)))] := hl
      generalize eK114 : j_G_nameBlock_142 = K114 at h
      have hE114 : ∀ (v1 v2 : Int32) (M : Sto) (H : Heap) (locs : List Loc) (ls : Array Slot), ok v2 10 = true → lv_has ls 5 [(0, .ref (q 3)), (1, .int v1), (2, .ref (q (93 + v2.toNatClampNeg)))] → Wd D A s (wX ct q M) H locs → K114 v1 v2 M = some (rz, Mz) → W p l e rm_G_nameBlock s m args below meth c H locs 0 0 Q (F0 m 142 ls []) := by
        intro v1 v2 M H locs ls hwv2 hl w h
        rw [← eK114] at h
        unfold j_G_nameBlock_142 at h
        refine lv_aload_n hx hb d_G_nameBlock_142 rfl (lv_at hl 0 rfl) ?_
        refine U_get C0 w 3 (by decide) rfl rfl inG 0 (by decide) wd_144 rfl d_G_nameBlock_143 ?_
        refine U_get C0 w 1 (by decide) rfl rfl inP 6 (by decide) wd_61 rfl d_G_nameBlock_146 ?_
        refine lv_iload_n hx hb d_G_nameBlock_149 rfl (lv_at hl 1 rfl) ?_
        obtain ⟨hi10, h⟩ := if_ok h
        refine U_ald C0 w (iX_8 ct) hi10 d_G_nameBlock_150 ?_
        refine lv_iconst (v := 2) hx hb d_G_nameBlock_151 (by decide) ?_
        have hJ172 : ∀ (M : Sto) (H : Heap) (locs : List Loc) (ls : Array Slot), lv_has ls 5 [] → Wd D A s (wX ct q M) H locs → j_G_nameBlock_172 M = some (rz, Mz) → W p l e rm_G_nameBlock s m args below meth c H locs 0 0 Q (F0 m 172 ls []) := by
          intro M H locs ls hl w h
          unfold j_G_nameBlock_172 at h
          cases h
          exact hret _ _ _ _ d_G_nameBlock_172 w
        refine lv_icmp_ne (tgt := 172) hx hb d_G_nameBlock_152 (by decide) (fun hc => ?_) (fun hc => ?_)
        · rw [if_neg hc] at h
          exact hJ172 _ _ _ _ (lv_sub hl [] rfl) w h
        · rw [if_pos hc] at h
          refine lv_aload_n hx hb d_G_nameBlock_155 rfl (lv_at hl 0 rfl) ?_
          refine U_get C0 w 3 (by decide) rfl rfl inG 10 (by decide) wd_177 rfl d_G_nameBlock_156 ?_
          refine lv_iload_n hx hb d_G_nameBlock_159 rfl (lv_at hl 1 rfl) ?_
          refine lv_aload_n hx hb d_G_nameBlock_160 rfl (lv_at hl 2 rfl) ?_
          refine lv_aload_n hx hb d_G_nameBlock_161 rfl (lv_at hl 0 rfl) ?_
          refine U_get C0 w 3 (by decide) rfl rfl inG 0 (by decide) wd_144 rfl d_G_nameBlock_162 ?_
          refine U_get C0 w 1 (by decide) rfl rfl inP 7 (by decide) wd_65 rfl d_G_nameBlock_165 ?_
          refine lv_iload_n hx hb d_G_nameBlock_168 rfl (lv_at hl 1 rfl) ?_
          obtain ⟨hi11, h⟩ := if_ok h
          refine U_ald C0 w (iX_9 ct) hi11 d_G_nameBlock_169 ?_
          obtain ⟨hi12, h⟩ := if_ok h
          refine U_ald C0 w (rowI ct (b := 93) (by decide) (by decide) hwv2) hi12 d_G_nameBlock_170 ?_
          obtain ⟨hi13, h⟩ := if_ok h
          obtain ⟨M14, eM14, h⟩ := wr_ok h
          try dsimp only at h
          refine U_ast C0 (cX_l ct) w (iX_20 ct) hi13 d_G_nameBlock_171 eM14 (fun H locs w => ?_)
          exact hJ172 _ _ _ _ (lv_sub hl [] rfl) w h
      have hL114 : ∀ (n : Nat) (v1 v2 v4 : Int32) (M : Sto) (H : Heap) (locs : List Loc) (ls : Array Slot), ok v2 10 = true → lv_has ls 5 [(0, .ref (q 3)), (1, .int v1), (2, .ref (q (93 + v2.toNatClampNeg))), (4, .int v4)] → Wd D A s (wX ct q M) H locs → l_G_nameBlock_114 K114 n v1 v2 v4 M = some (rz, Mz) → W p l e rm_G_nameBlock s m args below meth c H locs 0 0 Q (F0 m 114 ls []) := by
        intro n
        induction n with
        | zero => intro v1 v2 v4 M H locs ls hwv2 hl w h; simp [l_G_nameBlock_114] at h
        | succ n ih114 =>
          intro v1 v2 v4 M H locs ls hwv2 hl w h
          unfold l_G_nameBlock_114 at h
          refine lv_iload hx hb d_G_nameBlock_114 (lv_at hl 3 rfl) ?_
          refine lv_aload_n hx hb d_G_nameBlock_116 rfl (lv_at hl 0 rfl) ?_
          refine U_get C0 w 3 (by decide) rfl rfl inG 0 (by decide) wd_144 rfl d_G_nameBlock_117 ?_
          refine U_get C0 w 1 (by decide) rfl rfl inP 1 (by decide) wd_42 rfl d_G_nameBlock_120 ?_
          refine lv_iload_n hx hb d_G_nameBlock_123 rfl (lv_at hl 1 rfl) ?_
          obtain ⟨hi15, h⟩ := if_ok h
          refine U_ald C0 w (iX_7 ct) hi15 d_G_nameBlock_124 ?_
          refine lv_icmp_ge (tgt := 142) hx hb d_G_nameBlock_125 (by decide) (fun hc => ?_) (fun hc => ?_)
          · rw [if_pos hc] at h
            exact hE114 _ _ _ _ _ _ hwv2 (lv_sub hl [0, 1, 2] rfl) w h
          · rw [if_neg hc] at h
            refine lv_aload_n hx hb d_G_nameBlock_128 rfl (lv_at hl 0 rfl) ?_
            refine lv_iload_n hx hb d_G_nameBlock_129 rfl (lv_at hl 1 rfl) ?_
            refine lv_iload hx hb d_G_nameBlock_130 (lv_at hl 3 rfl) ?_
            refine lv_aload_n hx hb d_G_nameBlock_132 rfl (lv_at hl 2 rfl) ?_
            obtain ⟨r16, M17, hc18, h⟩ := bind_ok h
            try dsimp only at h
            refine U_vv (rest := []) C0 w 3 (wU_at (by decide)) rfl (c_G_nameInstruction l D ct q hwv2 hc18) wd_624 wd_621 wd_623 ws_11 wd_4 (n9 := 3) (by decide +kernel) rfl ⟨(Nat.le_of_ble_eq_true rfl), (Nat.le_of_ble_eq_true rfl)⟩ hl.1 rfl (Nat.le_of_ble_eq_true rfl) d_G_nameBlock_133 (Nat.le_of_ble_eq_true rfl) (Nat.le_of_ble_eq_true rfl) (fun H locs w => ?_)
            refine lv_iinc (k := 3) (v := v4 + 1) hx hb d_G_nameBlock_136 hl rfl (inc1 _) (by decide) rfl (fun ls hl => ?_)
            have hl : lv_has ls 5 [(4, .int (v4 + 1)), (0, .ref (q 3)), (1, .int v1), (2, .ref (q (93 + v2.toNatClampNeg)))] := hl
            refine lv_goto (tgt := 114) hx hb d_G_nameBlock_139 (by decide) ?_
            exact ih114 _ _ _ _ _ _ _ hwv2 (lv_sub hl [1, 2, 3, 0] rfl) w h
      exact hL114 FU _ _ _ _ _ _ _ hwv2 (lv_sub hl [1, 2, 3, 0] rfl) w h
    have hL59 : ∀ (n : Nat) (v1 v2 v4 : Int32) (M : Sto) (H : Heap) (locs : List Loc) (ls : Array Slot), ok v2 10 = true → lv_has ls 5 [(0, .ref (q 3)), (1, .int v1), (2, .ref (q (93 + v2.toNatClampNeg))), (4, .int v4)] → Wd D A s (wX ct q M) H locs → l_G_nameBlock_59 K59 n v1 v2 v4 M = some (rz, Mz) → W p l e rm_G_nameBlock s m args below meth c H locs 0 0 Q (F0 m 59 ls []) := by
      intro n
      induction n with
      | zero => intro v1 v2 v4 M H locs ls hwv2 hl w h; simp [l_G_nameBlock_59] at h
      | succ n ih59 =>
        intro v1 v2 v4 M H locs ls hwv2 hl w h
        unfold l_G_nameBlock_59 at h
        refine lv_iload hx hb d_G_nameBlock_59 (lv_at hl 3 rfl) ?_
        refine lv_bipush (v := 6) hx hb d_G_nameBlock_61 (by decide) ?_
        refine lv_icmp_ge (tgt := 111) hx hb d_G_nameBlock_63 (by decide) (fun hc => ?_) (fun hc => ?_)
        · rw [if_pos hc] at h
          exact hE59 _ _ _ _ _ _ hwv2 (lv_sub hl [0, 1, 2] rfl) w h
        · rw [if_neg hc] at h
          refine lv_aload_n hx hb d_G_nameBlock_66 rfl (lv_at hl 0 rfl) ?_
          refine U_get C0 w 3 (by decide) rfl rfl inG 3 (by decide) wd_148 rfl d_G_nameBlock_67 ?_
          refine lv_iload_n hx hb d_G_nameBlock_70 rfl (lv_at hl 1 rfl) ?_
          obtain ⟨hi19, h⟩ := if_ok h
          refine U_ald C0 w (iX_18 ct) hi19 d_G_nameBlock_71 ?_
          refine lv_iload hx hb d_G_nameBlock_72 (lv_at hl 3 rfl) ?_
          obtain ⟨r20, M21, hc22, h⟩ := bind_ok h
          try dsimp only at h
          refine U_siN (rest := []) C0 w (c_N_holds l D ct q hc22) wd_568 (C0.2.2.2.2.2.2.nest ("NameForge$Naming", 87, ⟨"NameForge", "holds", "(II)Z"⟩) (by decide)) wd_567 wd_1 (n9 := 2) (by decide +kernel) rfl ⟨(Nat.le_of_ble_eq_true rfl), (Nat.le_of_ble_eq_true rfl)⟩ hl.1 rfl (Nat.le_of_ble_eq_true rfl) d_G_nameBlock_74 (Nat.le_of_ble_eq_true rfl) (Nat.le_of_ble_eq_true rfl) (fun H locs w => ?_)
          have hJ105 : ∀ (v1 v2 v4 : Int32) (M : Sto) (H : Heap) (locs : List Loc) (ls : Array Slot), ok v2 10 = true → lv_has ls 5 [(0, .ref (q 3)), (1, .int v1), (2, .ref (q (93 + v2.toNatClampNeg))), (4, .int v4)] → Wd D A s (wX ct q M) H locs → j_G_nameBlock_105 (l_G_nameBlock_59 K59 n) K59 v1 v2 v4 M = some (rz, Mz) → W p l e rm_G_nameBlock s m args below meth c H locs 0 0 Q (F0 m 105 ls []) := by
            intro v1 v2 v4 M H locs ls hwv2 hl w h
            unfold j_G_nameBlock_105 at h
            refine lv_iinc (k := 3) (v := v4 + 1) hx hb d_G_nameBlock_105 hl rfl (inc1 _) (by decide) rfl (fun ls hl => ?_)
            have hl : lv_has ls 5 [(4, .int (v4 + 1)), (0, .ref (q 3)), (1, .int v1), (2, .ref (q (93 + v2.toNatClampNeg)))] := hl
            refine lv_goto (tgt := 59) hx hb d_G_nameBlock_108 (by decide) ?_
            exact ih59 _ _ _ _ _ _ _ hwv2 (lv_sub hl [1, 2, 3, 0] rfl) w h
          refine lv_if_eq (tgt := 105) hx hb d_G_nameBlock_77 (by decide) (fun hc => ?_) (fun hc => ?_)
          · rw [if_pos hc] at h
            exact hJ105 _ _ _ _ _ _ _ hwv2 (lv_sub hl [0, 1, 2, 3] rfl) w h
          · rw [if_neg hc] at h
            refine lv_aload_n hx hb d_G_nameBlock_80 rfl (lv_at hl 2 rfl) ?_
            refine lv_iload hx hb d_G_nameBlock_81 (lv_at hl 3 rfl) ?_
            refine lv_aload_n hx hb d_G_nameBlock_83 rfl (lv_at hl 0 rfl) ?_
            refine lv_iload_n hx hb d_G_nameBlock_84 rfl (lv_at hl 1 rfl) ?_
            refine lv_iconst (v := (-1)) hx hb d_G_nameBlock_85 (by decide) ?_
            refine lv_iload hx hb d_G_nameBlock_86 (lv_at hl 3 rfl) ?_
            obtain ⟨r23, M24, hc25, h⟩ := bind_ok h
            try dsimp only at h
            refine U_vi (rest := [.int v4, .ref (q (93 + v2.toNatClampNeg))]) C0 w 3 (wU_at (by decide)) rfl (c_G_newName l D ct q hc25) wd_616 wd_613 wd_615 ws_9 wd_4 (n9 := 3) (by decide +kernel) rfl ⟨(Nat.le_of_ble_eq_true rfl), (Nat.le_of_ble_eq_true rfl)⟩ hl.1 rfl (Nat.le_of_ble_eq_true rfl) d_G_nameBlock_88 (Nat.le_of_ble_eq_true rfl) (Nat.le_of_ble_eq_true rfl) (fun H locs w => ?_)
            obtain ⟨hi26, h⟩ := if_ok h
            obtain ⟨M27, eM27, h⟩ := wr_ok h
            try dsimp only at h
            refine U_ast C0 (cX_l ct) w (rowI ct (b := 93) (by decide) (by decide) hwv2) hi26 d_G_nameBlock_91 eM27 (fun H locs w => ?_)
            refine lv_aload_n hx hb d_G_nameBlock_92 rfl (lv_at hl 0 rfl) ?_
            refine U_get C0 w 3 (by decide) rfl rfl inG 5 (by decide) wd_153 rfl d_G_nameBlock_93 ?_
            refine lv_iload_n hx hb d_G_nameBlock_96 rfl (lv_at hl 1 rfl) ?_
            obtain ⟨hi28, h⟩ := if_ok h
            refine U_gld C0 w (gX_38 ct) hi28 d_G_nameBlock_97 ?_
            refine lv_iload hx hb d_G_nameBlock_98 (lv_at hl 3 rfl) ?_
            refine lv_aload_n hx hb d_G_nameBlock_100 rfl (lv_at hl 2 rfl) ?_
            refine lv_iload hx hb d_G_nameBlock_101 (lv_at hl 3 rfl) ?_
            obtain ⟨hi29, h⟩ := if_ok h
            refine U_ald C0 w (rowI ct (b := 93) (by decide) (by decide) hwv2) hi29 d_G_nameBlock_103 ?_
            obtain ⟨hi30, h⟩ := if_ok h
            obtain ⟨M31, eM31, h⟩ := wr_ok h
            try dsimp only at h
            refine U_ast C0 (cX_l ct) w (rowI ct (b := 83) (by decide) (by decide) hi28) hi30 d_G_nameBlock_104 eM31 (fun H locs w => ?_)
            exact hJ105 _ _ _ _ _ _ _ hwv2 (lv_sub hl [0, 1, 2, 3] rfl) w h
    exact hL59 FU _ _ _ _ _ _ _ hwv2 (lv_sub hl [1, 2, 3, 0] rfl) w h
  have hL20 : ∀ (n : Nat) (v1 v2 v3 v4 : Int32) (M : Sto) (H : Heap) (locs : List Loc) (ls : Array Slot), ok v2 10 = true → lv_has ls 5 [(0, .ref (q 3)), (1, .int v1), (2, .ref (q (93 + v2.toNatClampNeg))), (3, .int v3), (4, .int v4)] → Wd D A s (wX ct q M) H locs → l_G_nameBlock_20 K20 n v1 v2 v3 v4 M = some (rz, Mz) → W p l e rm_G_nameBlock s m args below meth c H locs 0 0 Q (F0 m 20 ls []) := by
    intro n
    induction n with
    | zero => intro v1 v2 v3 v4 M H locs ls hwv2 hl w h; simp [l_G_nameBlock_20] at h
    | succ n ih20 =>
      intro v1 v2 v3 v4 M H locs ls hwv2 hl w h
      unfold l_G_nameBlock_20 at h
      refine lv_iload hx hb d_G_nameBlock_20 (lv_at hl 4 rfl) ?_
      refine lv_bipush (v := 6) hx hb d_G_nameBlock_22 (by decide) ?_
      refine lv_icmp_ge (tgt := 56) hx hb d_G_nameBlock_24 (by decide) (fun hc => ?_) (fun hc => ?_)
      · rw [if_pos hc] at h
        exact hE20 _ _ _ _ _ _ hwv2 (lv_sub hl [0, 1, 2] rfl) w h
      · rw [if_neg hc] at h
        refine lv_aload_n hx hb d_G_nameBlock_27 rfl (lv_at hl 2 rfl) ?_
        refine lv_iload hx hb d_G_nameBlock_28 (lv_at hl 4 rfl) ?_
        refine lv_iload_n hx hb d_G_nameBlock_30 rfl (lv_at hl 3 rfl) ?_
        refine lv_iconst (v := (-1)) hx hb d_G_nameBlock_31 (by decide) ?_
        have hJ49 : ∀ (s0 s1 s2 v1 v2 v3 v4 : Int32) (M : Sto) (H : Heap) (locs : List Loc) (ls : Array Slot), ok s2 10 = true → ok v2 10 = true → lv_has ls 5 [(0, .ref (q 3)), (1, .int v1), (2, .ref (q (93 + v2.toNatClampNeg))), (3, .int v3), (4, .int v4)] → Wd D A s (wX ct q M) H locs → j_G_nameBlock_49 (l_G_nameBlock_20 K20 n) K20 s0 s1 s2 v1 v2 v3 v4 M = some (rz, Mz) → W p l e rm_G_nameBlock s m args below meth c H locs 0 0 Q (F0 m 49 ls [.int s0, .int s1, .ref (q (93 + s2.toNatClampNeg))]) := by
          intro s0 s1 s2 v1 v2 v3 v4 M H locs ls hws2 hwv2 hl w h
          unfold j_G_nameBlock_49 at h
          obtain ⟨hi32, h⟩ := if_ok h
          obtain ⟨M33, eM33, h⟩ := wr_ok h
          try dsimp only at h
          refine U_ast C0 (cX_l ct) w (rowI ct (b := 93) (by decide) (by decide) hws2) hi32 d_G_nameBlock_49 eM33 (fun H locs w => ?_)
          refine lv_iinc (k := 4) (v := v4 + 1) hx hb d_G_nameBlock_50 hl rfl (inc1 _) (by decide) rfl (fun ls hl => ?_)
          have hl : lv_has ls 5 [(4, .int (v4 + 1)), (0, .ref (q 3)), (1, .int v1), (2, .ref (q (93 + v2.toNatClampNeg))), (3, .int v3)] := hl
          refine lv_goto (tgt := 20) hx hb d_G_nameBlock_53 (by decide) ?_
          exact ih20 _ _ _ _ _ _ _ _ hwv2 (lv_sub hl [1, 2, 3, 4, 0] rfl) w h
        refine lv_icmp_ne (tgt := 40) hx hb d_G_nameBlock_32 (by decide) (fun hc => ?_) (fun hc => ?_)
        · rw [if_neg hc] at h
          refine lv_aload_n hx hb d_G_nameBlock_40 rfl (lv_at hl 0 rfl) ?_
          refine U_get C0 w 3 (by decide) rfl rfl inG 6 (by decide) wd_157 rfl d_G_nameBlock_41 ?_
          refine lv_iload_n hx hb d_G_nameBlock_44 rfl (lv_at hl 3 rfl) ?_
          obtain ⟨hi34, h⟩ := if_ok h
          refine U_gld C0 w (gX_39 ct) hi34 d_G_nameBlock_45 ?_
          refine lv_iload hx hb d_G_nameBlock_46 (lv_at hl 4 rfl) ?_
          obtain ⟨hi35, h⟩ := if_ok h
          refine U_ald C0 w (rowI ct (b := 93) (by decide) (by decide) hi34) hi35 d_G_nameBlock_48 ?_
          exact hJ49 _ _ _ _ _ _ _ _ _ _ _ hwv2 hwv2 (lv_sub hl [0, 1, 2, 3, 4] rfl) w h
        · rw [if_pos hc] at h
          refine lv_iload hx hb d_G_nameBlock_35 (lv_at hl 4 rfl) ?_
          refine lv_goto (tgt := 49) hx hb d_G_nameBlock_37 (by decide) ?_
          exact hJ49 _ _ _ _ _ _ _ _ _ _ _ hwv2 hwv2 (lv_sub hl [0, 1, 2, 3, 4] rfl) w h
  exact hL20 FU _ _ _ _ _ _ _ _ hi8 (lv_sub hl [3, 4, 2, 1, 0] rfl) w h
abbrev rm_G_nameAll : Room := { frames := 4, cells := 0, slots := 0, locals := 88 }
set_option maxHeartbeats 8000000 in
set_option maxRecDepth 100000 in
theorem c_G_nameAll (l : Launch) (D : va_G) (ct : Nat → ClassId) (q : Nat → Nat) {M Mz : Sto} {rz : Int32} (h : m_G_nameAll M = some (rz, Mz)) : KV l D ct y_G_nameAll b_G_nameAll 2 4 88 0 0 [.ref (q 3)] (wX ct q M) (fun A t => CE D (wX ct q Mz) A t) := by
  refine KV.ofU (by decide) (Nat.le_of_ble_eq_true rfl) ?_
  intro p e s m args below meth c A Q ls C0 hl w hret
  have hx := C0.1
  have hb := C0.2.1
  have hl : lv_has ls 2 [(0, .ref (q 3))] := hl
  unfold m_G_nameAll at h
  refine lv_aload_n hx hb d_G_nameAll_0 rfl (lv_at hl 0 rfl) ?_
  obtain ⟨r7, M8, hc9, h⟩ := bind_ok h
  try dsimp only at h
  refine U_vv (rest := []) C0 w 3 (wU_at (by decide)) rfl (c_G_findDefined l D ct q hc9) wd_598 wd_595 wd_597 ws_6 wd_4 (n9 := 0) (by decide +kernel) rfl ⟨(Nat.le_of_ble_eq_true rfl), (Nat.le_of_ble_eq_true rfl)⟩ hl.1 rfl (Nat.le_of_ble_eq_true rfl) d_G_nameAll_1 (Nat.le_of_ble_eq_true rfl) (Nat.le_of_ble_eq_true rfl) (fun H locs w => ?_)
  refine lv_aload_n hx hb d_G_nameAll_4 rfl (lv_at hl 0 rfl) ?_
  obtain ⟨r10, M11, hc12, h⟩ := bind_ok h
  try dsimp only at h
  refine U_vv (rest := []) C0 w 3 (wU_at (by decide)) rfl (c_G_placePhis l D ct q hc12) wd_604 wd_601 wd_603 ws_7 wd_4 (n9 := 0) (by decide +kernel) rfl ⟨(Nat.le_of_ble_eq_true rfl), (Nat.le_of_ble_eq_true rfl)⟩ hl.1 rfl (Nat.le_of_ble_eq_true rfl) d_G_nameAll_5 (Nat.le_of_ble_eq_true rfl) (Nat.le_of_ble_eq_true rfl) (fun H locs w => ?_)
  refine lv_aload_n hx hb d_G_nameAll_8 rfl (lv_at hl 0 rfl) ?_
  refine U_get C0 w 3 (by decide) rfl rfl inG 10 (by decide) wd_177 rfl d_G_nameAll_9 ?_
  refine lv_iconst (v := (-1)) hx hb d_G_nameAll_12 (by decide) ?_
  obtain ⟨M13, eM13, h⟩ := wr_ok h
  try dsimp only at h
  refine U_fill (rest := []) C0 (cX_l ct) w (iX_20 ct) wd_605 d_G_nameAll_13 hl.1 ⟨(Nat.le_of_ble_eq_true rfl), (Nat.le_of_ble_eq_true rfl)⟩ (Nat.le_of_ble_eq_true rfl) eM13 (fun H locs w => ?_)
  refine lv_aload_n hx hb d_G_nameAll_16 rfl (lv_at hl 0 rfl) ?_
  refine lv_iconst (v := 0) hx hb d_G_nameAll_17 (by decide) ?_
  obtain ⟨M14, eM14, h⟩ := wr_ok h
  try dsimp only at h
  refine U_put C0 (cX_l ct) w 3 (by decide) rfl rfl inG tyG_ok nmG 2 (by decide) wd_146 rfl rfl rfl (Nat.le_of_ble_eq_true rfl) d_G_nameAll_18 eM14 rfl (fun H locs w => ?_)
  refine lv_iconst (v := 0) hx hb d_G_nameAll_21 (by decide) ?_
  refine lv_istore_n hx hb d_G_nameAll_22 rfl hl (by decide) rfl (fun ls hl => ?_)
  have hl : lv_has ls 2 [(1, .int 0), (0, .ref (q 3))] := hl
  generalize eK23 : j_G_nameAll_43 = K23 at h
  have hE23 : ∀ (M : Sto) (H : Heap) (locs : List Loc) (ls : Array Slot), lv_has ls 2 [(0, .ref (q 3))] → Wd D A s (wX ct q M) H locs → K23 M = some (rz, Mz) → W p l e rm_G_nameAll s m args below meth c H locs 0 0 Q (F0 m 43 ls []) := by
    intro M H locs ls hl w h
    rw [← eK23] at h
    unfold j_G_nameAll_43 at h
    refine lv_iconst (v := 0) hx hb d_G_nameAll_43 (by decide) ?_
    refine lv_istore_n hx hb d_G_nameAll_44 rfl hl (by decide) rfl (fun ls hl => ?_)
    have hl : lv_has ls 2 [(1, .int 0), (0, .ref (q 3))] := hl
    generalize eK45 : j_G_nameAll_75 = K45 at h
    have hE45 : ∀ (M : Sto) (H : Heap) (locs : List Loc) (ls : Array Slot), lv_has ls 2 [] → Wd D A s (wX ct q M) H locs → K45 M = some (rz, Mz) → W p l e rm_G_nameAll s m args below meth c H locs 0 0 Q (F0 m 75 ls []) := by
      intro M H locs ls hl w h
      rw [← eK45] at h
      unfold j_G_nameAll_75 at h
      cases h
      exact hret _ _ _ _ d_G_nameAll_75 w
    have hL45 : ∀ (n : Nat) (v1 : Int32) (M : Sto) (H : Heap) (locs : List Loc) (ls : Array Slot), lv_has ls 2 [(0, .ref (q 3)), (1, .int v1)] → Wd D A s (wX ct q M) H locs → l_G_nameAll_45 K45 n v1 M = some (rz, Mz) → W p l e rm_G_nameAll s m args below meth c H locs 0 0 Q (F0 m 45 ls []) := by
      intro n
      induction n with
      | zero => intro v1 M H locs ls hl w h; simp [l_G_nameAll_45] at h
      | succ n ih45 =>
        intro v1 M H locs ls hl w h
        unfold l_G_nameAll_45 at h
        refine lv_iload_n hx hb d_G_nameAll_45 rfl (lv_at hl 1 rfl) ?_
        refine lv_aload_n hx hb d_G_nameAll_46 rfl (lv_at hl 0 rfl) ?_
        refine U_get C0 w 3 (by decide) rfl rfl inG 1 (by decide) wd_145 rfl d_G_nameAll_47 ?_
        refine U_get C0 w 2 (by decide) rfl rfl inS 7 (by decide) wd_114 rfl d_G_nameAll_50 ?_
        refine lv_icmp_ge (tgt := 75) hx hb d_G_nameAll_53 (by decide) (fun hc => ?_) (fun hc => ?_)
        · rw [if_pos hc] at h
          exact hE45 _ _ _ _ (lv_sub hl [] rfl) w h
        · rw [if_neg hc] at h
          refine lv_aload_n hx hb d_G_nameAll_56 rfl (lv_at hl 0 rfl) ?_
          refine lv_aload_n hx hb d_G_nameAll_57 rfl (lv_at hl 0 rfl) ?_
          refine U_get C0 w 3 (by decide) rfl rfl inG 1 (by decide) wd_145 rfl d_G_nameAll_58 ?_
          refine U_get C0 w 2 (by decide) rfl rfl inS 6 (by decide) wd_112 rfl d_G_nameAll_61 ?_
          refine lv_iload_n hx hb d_G_nameAll_64 rfl (lv_at hl 1 rfl) ?_
          obtain ⟨hi15, h⟩ := if_ok h
          refine U_ald C0 w (iX_16 ct) hi15 d_G_nameAll_65 ?_
          obtain ⟨r16, M17, hc18, h⟩ := bind_ok h
          try dsimp only at h
          refine U_vv (rest := []) C0 w 3 (wU_at (by decide)) rfl (c_G_nameBlock l D ct q hc18) wd_620 wd_617 wd_619 ws_10 wd_4 (n9 := 1) (by decide +kernel) rfl ⟨(Nat.le_of_ble_eq_true rfl), (Nat.le_of_ble_eq_true rfl)⟩ hl.1 rfl (Nat.le_of_ble_eq_true rfl) d_G_nameAll_66 (Nat.le_of_ble_eq_true rfl) (Nat.le_of_ble_eq_true rfl) (fun H locs w => ?_)
          refine lv_iinc (k := 1) (v := v1 + 1) hx hb d_G_nameAll_69 hl rfl (inc1 _) (by decide) rfl (fun ls hl => ?_)
          have hl : lv_has ls 2 [(1, .int (v1 + 1)), (0, .ref (q 3))] := hl
          refine lv_goto (tgt := 45) hx hb d_G_nameAll_72 (by decide) ?_
          exact ih45 _ _ _ _ _ (lv_sub hl [1, 0] rfl) w h
    exact hL45 FU _ _ _ _ _ (lv_sub hl [1, 0] rfl) w h
  have hL23 : ∀ (n : Nat) (v1 : Int32) (M : Sto) (H : Heap) (locs : List Loc) (ls : Array Slot), lv_has ls 2 [(0, .ref (q 3)), (1, .int v1)] → Wd D A s (wX ct q M) H locs → l_G_nameAll_23 K23 n v1 M = some (rz, Mz) → W p l e rm_G_nameAll s m args below meth c H locs 0 0 Q (F0 m 23 ls []) := by
    intro n
    induction n with
    | zero => intro v1 M H locs ls hl w h; simp [l_G_nameAll_23] at h
    | succ n ih23 =>
      intro v1 M H locs ls hl w h
      unfold l_G_nameAll_23 at h
      refine lv_iload_n hx hb d_G_nameAll_23 rfl (lv_at hl 1 rfl) ?_
      refine lv_bipush (v := 6) hx hb d_G_nameAll_24 (by decide) ?_
      refine lv_icmp_ge (tgt := 43) hx hb d_G_nameAll_26 (by decide) (fun hc => ?_) (fun hc => ?_)
      · rw [if_pos hc] at h
        exact hE23 _ _ _ _ (lv_sub hl [0] rfl) w h
      · rw [if_neg hc] at h
        refine lv_aload_n hx hb d_G_nameAll_29 rfl (lv_at hl 0 rfl) ?_
        refine lv_iconst (v := (-1)) hx hb d_G_nameAll_30 (by decide) ?_
        refine lv_iconst (v := (-1)) hx hb d_G_nameAll_31 (by decide) ?_
        refine lv_iload_n hx hb d_G_nameAll_32 rfl (lv_at hl 1 rfl) ?_
        obtain ⟨r19, M20, hc21, h⟩ := bind_ok h
        try dsimp only at h
        refine U_vi (rest := []) C0 w 3 (wU_at (by decide)) rfl (c_G_newName l D ct q hc21) wd_616 wd_613 wd_615 ws_9 wd_4 (n9 := 3) (by decide +kernel) rfl ⟨(Nat.le_of_ble_eq_true rfl), (Nat.le_of_ble_eq_true rfl)⟩ hl.1 rfl (Nat.le_of_ble_eq_true rfl) d_G_nameAll_33 (Nat.le_of_ble_eq_true rfl) (Nat.le_of_ble_eq_true rfl) (fun H locs w => ?_)
        refine lv_pop hx hb d_G_nameAll_36 rfl ?_
        refine lv_iinc (k := 1) (v := v1 + 1) hx hb d_G_nameAll_37 hl rfl (inc1 _) (by decide) rfl (fun ls hl => ?_)
        have hl : lv_has ls 2 [(1, .int (v1 + 1)), (0, .ref (q 3))] := hl
        refine lv_goto (tgt := 23) hx hb d_G_nameAll_40 (by decide) ?_
        exact ih23 _ _ _ _ _ (lv_sub hl [1, 0] rfl) w h
  exact hL23 FU _ _ _ _ _ (lv_sub hl [1, 0] rfl) w h
abbrev rm_K_isWayTaken : Room := { frames := 2, cells := 0, slots := 0, locals := 41 }
set_option maxHeartbeats 8000000 in
set_option maxRecDepth 100000 in
theorem c_K_isWayTaken (l : Launch) (D : va_G) (ct : Nat → ClassId) (q : Nat → Nat) {x1 x2 : Int32} {M Mz : Sto} {rz : Int32} (h : m_K_isWayTaken x1 x2 M = some (rz, Mz)) : KI l D ct y_K_isWayTaken b_K_isWayTaken 3 (some .boolean) 2 41 [.ref (q 4), .int x1, .int x2] (wX ct q M) rz (wX ct q Mz) := by
  refine KI.ofU (by decide) (Nat.le_of_ble_eq_true rfl) rfl ?_
  intro p e s m args below meth c A Q ls C0 hl w hret
  have hx := C0.1
  have hb := C0.2.1
  have hl : lv_has ls 3 [(0, .ref (q 4)), (1, .int x1), (2, .int x2)] := hl
  unfold m_K_isWayTaken at h
  refine lv_aload_n hx hb d_K_isWayTaken_0 rfl (lv_at hl 0 rfl) ?_
  refine U_get C0 w 4 (by decide) rfl rfl inK 4 (by decide) wd_230 rfl d_K_isWayTaken_1 ?_
  refine lv_iload_n hx hb d_K_isWayTaken_4 rfl (lv_at hl 1 rfl) ?_
  obtain ⟨hi2, h⟩ := if_ok h
  refine U_ald C0 w (iX_24 ct) hi2 d_K_isWayTaken_5 ?_
  refine lv_iload_n hx hb d_K_isWayTaken_6 rfl (lv_at hl 2 rfl) ?_
  obtain ⟨r3, M4, hc5, h⟩ := bind_ok h
  try dsimp only at h
  refine U_siN (rest := []) C0 w (c_N_holds l D ct q hc5) wd_568 (C0.2.2.2.2.2.2.nest ("NameForge$Known", 59, ⟨"NameForge", "holds", "(II)Z"⟩) (by decide)) wd_567 wd_1 (n9 := 2) (by decide +kernel) rfl ⟨(Nat.le_of_ble_eq_true rfl), (Nat.le_of_ble_eq_true rfl)⟩ hl.1 rfl (Nat.le_of_ble_eq_true rfl) d_K_isWayTaken_7 (Nat.le_of_ble_eq_true rfl) (Nat.le_of_ble_eq_true rfl) (fun H locs w => ?_)
  obtain ⟨hz9, h⟩ := if_ok h
  cases h
  exact hret _ _ _ _ d_K_isWayTaken_10 (bz_nar hz9) w
abbrev rm_K_raise : Room := { frames := 0, cells := 0, slots := 0, locals := 0 }
set_option maxHeartbeats 8000000 in
set_option maxRecDepth 100000 in
theorem c_K_raise (l : Launch) (D : va_G) (ct : Nat → ClassId) (q : Nat → Nat) {x1 x2 x3 : Int32} {M Mz : Sto} {rz : Int32} (h : m_K_raise x1 x2 x3 M = some (rz, Mz)) : KV l D ct y_K_raise b_K_raise 4 0 0 0 0 [.ref (q 4), .int x1, .int x2, .int x3] (wX ct q M) (fun A t => CE D (wX ct q Mz) A t) := by
  refine KV.ofU (by decide) (Nat.le_of_ble_eq_true rfl) ?_
  intro p e s m args below meth c A Q ls C0 hl w hret
  have hx := C0.1
  have hb := C0.2.1
  have hl : lv_has ls 4 [(0, .ref (q 4)), (1, .int x1), (2, .int x2), (3, .int x3)] := hl
  unfold m_K_raise at h
  refine lv_iload_n hx hb d_K_raise_0 rfl (lv_at hl 2 rfl) ?_
  have hJ14 : ∀ (M : Sto) (H : Heap) (locs : List Loc) (ls : Array Slot), lv_has ls 4 [] → Wd D A s (wX ct q M) H locs → j_K_raise_14 M = some (rz, Mz) → W p l e rm_K_raise s m args below meth c H locs 0 0 Q (F0 m 14 ls []) := by
    intro M H locs ls hl w h
    unfold j_K_raise_14 at h
    cases h
    exact hret _ _ _ _ d_K_raise_14 w
  refine lv_if_eq (tgt := 14) hx hb d_K_raise_1 (by decide) (fun hc => ?_) (fun hc => ?_)
  · rw [if_pos hc] at h
    exact hJ14 _ _ _ _ (lv_sub hl [] rfl) w h
  · rw [if_neg hc] at h
    refine lv_aload_n hx hb d_K_raise_4 rfl (lv_at hl 0 rfl) ?_
    refine U_get C0 w 4 (by decide) rfl rfl inK 5 (by decide) wd_231 rfl d_K_raise_5 ?_
    refine lv_iload_n hx hb d_K_raise_8 rfl (lv_at hl 1 rfl) ?_
    obtain ⟨hi7, h⟩ := if_ok h
    refine U_ald C0 w (iX_25 ct) hi7 d_K_raise_9 ?_
    refine lv_iconst (v := 2) hx hb d_K_raise_10 (by decide) ?_
    refine lv_icmp_ne (tgt := 15) hx hb d_K_raise_11 (by decide) (fun hc => ?_) (fun hc => ?_)
    · rw [if_neg hc] at h
      refine lv_aload_n hx hb d_K_raise_15 rfl (lv_at hl 0 rfl) ?_
      refine U_get C0 w 4 (by decide) rfl rfl inK 5 (by decide) wd_231 rfl d_K_raise_16 ?_
      refine lv_iload_n hx hb d_K_raise_19 rfl (lv_at hl 1 rfl) ?_
      obtain ⟨hi8, h⟩ := if_ok h
      refine U_ald C0 w (iX_25 ct) hi8 d_K_raise_20 ?_
      have hJ80 : ∀ (M : Sto) (H : Heap) (locs : List Loc) (ls : Array Slot), lv_has ls 4 [] → Wd D A s (wX ct q M) H locs → j_K_raise_80 M = some (rz, Mz) → W p l e rm_K_raise s m args below meth c H locs 0 0 Q (F0 m 80 ls []) := by
        intro M H locs ls hl w h
        unfold j_K_raise_80 at h
        cases h
        exact hret _ _ _ _ d_K_raise_80 w
      refine lv_if_ne (tgt := 46) hx hb d_K_raise_21 (by decide) (fun hc => ?_) (fun hc => ?_)
      · rw [if_neg hc] at h
        refine lv_iload_n hx hb d_K_raise_46 rfl (lv_at hl 2 rfl) ?_
        refine lv_iconst (v := 2) hx hb d_K_raise_47 (by decide) ?_
        have hJ61 : ∀ (v1 : Int32) (M : Sto) (H : Heap) (locs : List Loc) (ls : Array Slot), lv_has ls 4 [(0, .ref (q 4)), (1, .int v1)] → Wd D A s (wX ct q M) H locs → j_K_raise_61 v1 M = some (rz, Mz) → W p l e rm_K_raise s m args below meth c H locs 0 0 Q (F0 m 61 ls []) := by
          intro v1 M H locs ls hl w h
          unfold j_K_raise_61 at h
          refine lv_aload_n hx hb d_K_raise_61 rfl (lv_at hl 0 rfl) ?_
          refine U_get C0 w 4 (by decide) rfl rfl inK 5 (by decide) wd_231 rfl d_K_raise_62 ?_
          refine lv_iload_n hx hb d_K_raise_65 rfl (lv_at hl 1 rfl) ?_
          refine lv_iconst (v := 2) hx hb d_K_raise_66 (by decide) ?_
          obtain ⟨hi9, h⟩ := if_ok h
          obtain ⟨M10, eM10, h⟩ := wr_ok h
          try dsimp only at h
          refine U_ast C0 (cX_l ct) w (iX_25 ct) hi9 d_K_raise_67 eM10 (fun H locs w => ?_)
          refine lv_aload_n hx hb d_K_raise_68 rfl (lv_at hl 0 rfl) ?_
          refine U_get C0 w 4 (by decide) rfl rfl inK 6 (by decide) wd_235 rfl d_K_raise_69 ?_
          refine lv_iload_n hx hb d_K_raise_72 rfl (lv_at hl 1 rfl) ?_
          refine lv_iconst (v := 0) hx hb d_K_raise_73 (by decide) ?_
          obtain ⟨hi11, h⟩ := if_ok h
          obtain ⟨M12, eM12, h⟩ := wr_ok h
          try dsimp only at h
          refine U_ast C0 (cX_l ct) w (iX_26 ct) hi11 d_K_raise_74 eM12 (fun H locs w => ?_)
          refine lv_aload_n hx hb d_K_raise_75 rfl (lv_at hl 0 rfl) ?_
          refine lv_iconst (v := 1) hx hb d_K_raise_76 (by decide) ?_
          obtain ⟨hz13, h⟩ := if_ok h
          obtain ⟨M14, eM14, h⟩ := wr_ok h
          try dsimp only at h
          refine U_put C0 (cX_l ct) w 4 (by decide) rfl rfl inK tyK_ok nmK 7 (by decide) wd_238 rfl (bz_nar hz13) (bz_fit hz13) (Nat.le_of_ble_eq_true rfl) d_K_raise_77 eM14 rfl (fun H locs w => ?_)
          exact hJ80 _ _ _ _ (lv_sub hl [] rfl) w h
        refine lv_icmp_eq (tgt := 61) hx hb d_K_raise_48 (by decide) (fun hc => ?_) (fun hc => ?_)
        · rw [if_pos hc] at h
          exact hJ61 _ _ _ _ _ (lv_sub hl [0, 1] rfl) w h
        · rw [if_neg hc] at h
          refine lv_iload_n hx hb d_K_raise_51 rfl (lv_at hl 3 rfl) ?_
          refine lv_aload_n hx hb d_K_raise_52 rfl (lv_at hl 0 rfl) ?_
          refine U_get C0 w 4 (by decide) rfl rfl inK 6 (by decide) wd_235 rfl d_K_raise_53 ?_
          refine lv_iload_n hx hb d_K_raise_56 rfl (lv_at hl 1 rfl) ?_
          obtain ⟨hi15, h⟩ := if_ok h
          refine U_ald C0 w (iX_26 ct) hi15 d_K_raise_57 ?_
          refine lv_icmp_eq (tgt := 80) hx hb d_K_raise_58 (by decide) (fun hc => ?_) (fun hc => ?_)
          · rw [if_pos hc] at h
            exact hJ80 _ _ _ _ (lv_sub hl [] rfl) w h
          · rw [if_neg hc] at h
            exact hJ61 _ _ _ _ _ (lv_sub hl [0, 1] rfl) w h
      · rw [if_pos hc] at h
        refine lv_aload_n hx hb d_K_raise_24 rfl (lv_at hl 0 rfl) ?_
        refine U_get C0 w 4 (by decide) rfl rfl inK 5 (by decide) wd_231 rfl d_K_raise_25 ?_
        refine lv_iload_n hx hb d_K_raise_28 rfl (lv_at hl 1 rfl) ?_
        refine lv_iload_n hx hb d_K_raise_29 rfl (lv_at hl 2 rfl) ?_
        obtain ⟨hi16, h⟩ := if_ok h
        obtain ⟨M17, eM17, h⟩ := wr_ok h
        try dsimp only at h
        refine U_ast C0 (cX_l ct) w (iX_25 ct) hi16 d_K_raise_30 eM17 (fun H locs w => ?_)
        refine lv_aload_n hx hb d_K_raise_31 rfl (lv_at hl 0 rfl) ?_
        refine U_get C0 w 4 (by decide) rfl rfl inK 6 (by decide) wd_235 rfl d_K_raise_32 ?_
        refine lv_iload_n hx hb d_K_raise_35 rfl (lv_at hl 1 rfl) ?_
        refine lv_iload_n hx hb d_K_raise_36 rfl (lv_at hl 3 rfl) ?_
        obtain ⟨hi18, h⟩ := if_ok h
        obtain ⟨M19, eM19, h⟩ := wr_ok h
        try dsimp only at h
        refine U_ast C0 (cX_l ct) w (iX_26 ct) hi18 d_K_raise_37 eM19 (fun H locs w => ?_)
        refine lv_aload_n hx hb d_K_raise_38 rfl (lv_at hl 0 rfl) ?_
        refine lv_iconst (v := 1) hx hb d_K_raise_39 (by decide) ?_
        obtain ⟨hz20, h⟩ := if_ok h
        obtain ⟨M21, eM21, h⟩ := wr_ok h
        try dsimp only at h
        refine U_put C0 (cX_l ct) w 4 (by decide) rfl rfl inK tyK_ok nmK 7 (by decide) wd_238 rfl (bz_nar hz20) (bz_fit hz20) (Nat.le_of_ble_eq_true rfl) d_K_raise_40 eM21 rfl (fun H locs w => ?_)
        refine lv_goto (tgt := 80) hx hb d_K_raise_43 (by decide) ?_
        exact hJ80 _ _ _ _ (lv_sub hl [] rfl) w h
    · rw [if_pos hc] at h
      exact hJ14 _ _ _ _ (lv_sub hl [] rfl) w h
abbrev rm_K_passPhi : Room := { frames := 3, cells := 0, slots := 0, locals := 63 }
set_option maxHeartbeats 8000000 in
set_option maxRecDepth 100000 in
theorem c_K_passPhi (l : Launch) (D : va_G) (ct : Nat → ClassId) (q : Nat → Nat) {x1 x2 : Int32} {M Mz : Sto} {rz : Int32} (h : m_K_passPhi x1 x2 M = some (rz, Mz)) : KV l D ct y_K_passPhi b_K_passPhi 5 3 63 0 0 [.ref (q 4), .int x1, .int x2] (wX ct q M) (fun A t => CE D (wX ct q Mz) A t) := by
  refine KV.ofU (by decide) (Nat.le_of_ble_eq_true rfl) ?_
  intro p e s m args below meth c A Q ls C0 hl w hret
  have hx := C0.1
  have hb := C0.2.1
  have hl : lv_has ls 5 [(0, .ref (q 4)), (1, .int x1), (2, .int x2)] := hl
  unfold m_K_passPhi at h
  refine lv_iconst (v := 0) hx hb d_K_passPhi_0 (by decide) ?_
  refine lv_istore_n hx hb d_K_passPhi_1 rfl hl (by decide) rfl (fun ls hl => ?_)
  have hl : lv_has ls 5 [(3, .int 0), (0, .ref (q 4)), (1, .int x1), (2, .int x2)] := hl
  generalize eK2 : j_K_passPhi_70 = K2 at h
  have hE2 : ∀ (M : Sto) (H : Heap) (locs : List Loc) (ls : Array Slot), lv_has ls 5 [] → Wd D A s (wX ct q M) H locs → K2 M = some (rz, Mz) → W p l e rm_K_passPhi s m args below meth c H locs 0 0 Q (F0 m 70 ls []) := by
    intro M H locs ls hl w h
    rw [← eK2] at h
    unfold j_K_passPhi_70 at h
    cases h
    exact hret _ _ _ _ d_K_passPhi_70 w
  have hL2 : ∀ (n : Nat) (v1 v2 v3 : Int32) (M : Sto) (H : Heap) (locs : List Loc) (ls : Array Slot), lv_has ls 5 [(0, .ref (q 4)), (1, .int v1), (2, .int v2), (3, .int v3)] → Wd D A s (wX ct q M) H locs → l_K_passPhi_2 K2 n v1 v2 v3 M = some (rz, Mz) → W p l e rm_K_passPhi s m args below meth c H locs 0 0 Q (F0 m 2 ls []) := by
    intro n
    induction n with
    | zero => intro v1 v2 v3 M H locs ls hl w h; simp [l_K_passPhi_2] at h
    | succ n ih2 =>
      intro v1 v2 v3 M H locs ls hl w h
      unfold l_K_passPhi_2 at h
      refine lv_iload_n hx hb d_K_passPhi_2 rfl (lv_at hl 3 rfl) ?_
      refine lv_aload_n hx hb d_K_passPhi_3 rfl (lv_at hl 0 rfl) ?_
      refine U_get C0 w 4 (by decide) rfl rfl inK 0 (by decide) wd_224 rfl d_K_passPhi_4 ?_
      refine U_get C0 w 1 (by decide) rfl rfl inP 0 (by decide) wd_38 rfl d_K_passPhi_7 ?_
      refine lv_icmp_ge (tgt := 70) hx hb d_K_passPhi_10 (by decide) (fun hc => ?_) (fun hc => ?_)
      · rw [if_pos hc] at h
        exact hE2 _ _ _ _ (lv_sub hl [] rfl) w h
      · rw [if_neg hc] at h
        refine lv_aload_n hx hb d_K_passPhi_13 rfl (lv_at hl 0 rfl) ?_
        refine lv_iload_n hx hb d_K_passPhi_14 rfl (lv_at hl 3 rfl) ?_
        refine lv_iload_n hx hb d_K_passPhi_15 rfl (lv_at hl 1 rfl) ?_
        obtain ⟨r3, M4, hc5, h⟩ := bind_ok h
        try dsimp only at h
        refine U_vi (rest := []) C0 w 4 (wU_at (by decide)) rfl (c_K_isWayTaken l D ct q hc5) wd_645 wd_642 wd_643 wd_644 wd_5 (n9 := 2) (by decide +kernel) rfl ⟨(Nat.le_of_ble_eq_true rfl), (Nat.le_of_ble_eq_true rfl)⟩ hl.1 rfl (Nat.le_of_ble_eq_true rfl) d_K_passPhi_16 (Nat.le_of_ble_eq_true rfl) (Nat.le_of_ble_eq_true rfl) (fun H locs w => ?_)
        have hJ64 : ∀ (v1 v2 v3 : Int32) (M : Sto) (H : Heap) (locs : List Loc) (ls : Array Slot), lv_has ls 5 [(0, .ref (q 4)), (1, .int v1), (2, .int v2), (3, .int v3)] → Wd D A s (wX ct q M) H locs → j_K_passPhi_64 (l_K_passPhi_2 K2 n) K2 v1 v2 v3 M = some (rz, Mz) → W p l e rm_K_passPhi s m args below meth c H locs 0 0 Q (F0 m 64 ls []) := by
          intro v1 v2 v3 M H locs ls hl w h
          unfold j_K_passPhi_64 at h
          refine lv_iinc (k := 3) (v := v3 + 1) hx hb d_K_passPhi_64 hl rfl (inc1 _) (by decide) rfl (fun ls hl => ?_)
          have hl : lv_has ls 5 [(3, .int (v3 + 1)), (0, .ref (q 4)), (1, .int v1), (2, .int v2)] := hl
          refine lv_goto (tgt := 2) hx hb d_K_passPhi_67 (by decide) ?_
          exact ih2 _ _ _ _ _ _ _ (lv_sub hl [1, 2, 3, 0] rfl) w h
        refine lv_if_eq (tgt := 64) hx hb d_K_passPhi_19 (by decide) (fun hc => ?_) (fun hc => ?_)
        · rw [if_pos hc] at h
          exact hJ64 _ _ _ _ _ _ _ (lv_sub hl [0, 1, 2, 3] rfl) w h
        · rw [if_neg hc] at h
          refine lv_aload_n hx hb d_K_passPhi_22 rfl (lv_at hl 0 rfl) ?_
          refine U_get C0 w 4 (by decide) rfl rfl inK 2 (by decide) wd_226 rfl d_K_passPhi_23 ?_
          refine U_get C0 w 3 (by decide) rfl rfl inG 6 (by decide) wd_158 rfl d_K_passPhi_26 ?_
          refine lv_iload_n hx hb d_K_passPhi_29 rfl (lv_at hl 3 rfl) ?_
          obtain ⟨hi6, h⟩ := if_ok h
          refine U_gld C0 w (gX_39 ct) hi6 d_K_passPhi_30 ?_
          refine lv_iload_n hx hb d_K_passPhi_31 rfl (lv_at hl 2 rfl) ?_
          obtain ⟨hi7, h⟩ := if_ok h
          refine U_ald C0 w (rowI ct (b := 93) (by decide) (by decide) hi6) hi7 d_K_passPhi_32 ?_
          refine lv_istore hx hb d_K_passPhi_33 hl (by decide) rfl (fun ls hl => ?_)
          have hl : lv_has ls 5 [(4, .int (M4 (93 + v3.toNatClampNeg) v2.toNatClampNeg)), (0, .ref (q 4)), (1, .int v1), (2, .int v2), (3, .int v3)] := hl
          refine lv_aload_n hx hb d_K_passPhi_35 rfl (lv_at hl 1 rfl) ?_
          refine lv_aload_n hx hb d_K_passPhi_36 rfl (lv_at hl 1 rfl) ?_
          refine U_get C0 w 4 (by decide) rfl rfl inK 2 (by decide) wd_226 rfl d_K_passPhi_37 ?_
          refine U_get C0 w 3 (by decide) rfl rfl inG 5 (by decide) wd_154 rfl d_K_passPhi_40 ?_
          refine lv_iload_n hx hb d_K_passPhi_43 rfl (lv_at hl 2 rfl) ?_
          obtain ⟨hi8, h⟩ := if_ok h
          refine U_gld C0 w (gX_38 ct) hi8 d_K_passPhi_44 ?_
          refine lv_iload_n hx hb d_K_passPhi_45 rfl (lv_at hl 3 rfl) ?_
          obtain ⟨hi9, h⟩ := if_ok h
          refine U_ald C0 w (rowI ct (b := 83) (by decide) (by decide) hi8) hi9 d_K_passPhi_46 ?_
          refine lv_aload_n hx hb d_K_passPhi_47 rfl (lv_at hl 1 rfl) ?_
          refine U_get C0 w 4 (by decide) rfl rfl inK 5 (by decide) wd_231 rfl d_K_passPhi_48 ?_
          refine lv_iload hx hb d_K_passPhi_51 (lv_at hl 0 rfl) ?_
          obtain ⟨hi10, h⟩ := if_ok h
          refine U_ald C0 w (iX_25 ct) hi10 d_K_passPhi_53 ?_
          refine lv_aload_n hx hb d_K_passPhi_54 rfl (lv_at hl 1 rfl) ?_
          refine U_get C0 w 4 (by decide) rfl rfl inK 6 (by decide) wd_235 rfl d_K_passPhi_55 ?_
          refine lv_iload hx hb d_K_passPhi_58 (lv_at hl 0 rfl) ?_
          obtain ⟨hi11, h⟩ := if_ok h
          refine U_ald C0 w (iX_26 ct) hi11 d_K_passPhi_60 ?_
          obtain ⟨r12, M13, hc14, h⟩ := bind_ok h
          try dsimp only at h
          refine U_vv (rest := []) C0 w 4 (wU_at (by decide)) rfl (c_K_raise l D ct q hc14) wd_649 wd_646 wd_648 ws_14 wd_5 (n9 := 3) (by decide +kernel) rfl ⟨(Nat.le_of_ble_eq_true rfl), (Nat.le_of_ble_eq_true rfl)⟩ hl.1 rfl (Nat.le_of_ble_eq_true rfl) d_K_passPhi_61 (Nat.le_of_ble_eq_true rfl) (Nat.le_of_ble_eq_true rfl) (fun H locs w => ?_)
          exact hJ64 _ _ _ _ _ _ _ (lv_sub hl [1, 2, 3, 4] rfl) w h
  exact hL2 FU _ _ _ _ _ _ _ (lv_sub hl [1, 2, 3, 0] rfl) w h
end
section
abbrev rm_N_calculate : Room := { frames := 0, cells := 0, slots := 0, locals := 0 }
set_option maxHeartbeats 8000000 in
set_option maxRecDepth 100000 in
theorem c_N_calculate (l : Launch) (D : va_G) (ct : Nat → ClassId) (q : Nat → Nat) {x0 x1 x2 : Int32} {M Mz : Sto} {rz : Int32} (h : m_N_calculate x0 x1 x2 M = some (rz, Mz)) : KI l D ct y_N_calculate b_N_calculate 3 (some .int) 0 0 [.int x0, .int x1, .int x2] (wX ct q M) rz (wX ct q Mz) := by
  refine KI.ofU (by decide) (Nat.le_of_ble_eq_true rfl) rfl ?_
  intro p e s m args below meth c A Q ls C0 hl w hret
  have hx := C0.1
  have hb := C0.2.1
  have hl : lv_has ls 3 [(0, .int x0), (1, .int x1), (2, .int x2)] := hl
  unfold m_N_calculate at h
  refine lv_iload_n hx hb d_N_calculate_0 rfl (lv_at hl 0 rfl) ?_
  refine Decidable.byCases (p := x0 = 0) (fun hc1 => ?_) (fun hc1 => ?_)
  · rw [if_pos hc1] at h
    refine lv_tableIn (off := 39) (tgt := 40) hx hb d_N_calculate_1 (by rw [hc1]; decide) (by rw [hc1]; decide) (by rw [hc1]; decide) (by decide) ?_
    refine lv_iload_n hx hb d_N_calculate_40 rfl (lv_at hl 1 rfl) ?_
    cases h
    exact hret _ _ _ _ d_N_calculate_41 rfl w
  · rw [if_neg hc1] at h
    refine Decidable.byCases (p := x0 = 1) (fun hc2 => ?_) (fun hc2 => ?_)
    · rw [if_pos hc2] at h
      refine lv_tableIn (off := 39) (tgt := 40) hx hb d_N_calculate_1 (by rw [hc2]; decide) (by rw [hc2]; decide) (by rw [hc2]; decide) (by decide) ?_
      refine lv_iload_n hx hb d_N_calculate_40 rfl (lv_at hl 1 rfl) ?_
      cases h
      exact hret _ _ _ _ d_N_calculate_41 rfl w
    · rw [if_neg hc2] at h
      refine Decidable.byCases (p := x0 = 2) (fun hc3 => ?_) (fun hc3 => ?_)
      · rw [if_pos hc3] at h
        refine lv_tableIn (off := 41) (tgt := 42) hx hb d_N_calculate_1 (by rw [hc3]; decide) (by rw [hc3]; decide) (by rw [hc3]; decide) (by decide) ?_
        refine lv_iload_n hx hb d_N_calculate_42 rfl (lv_at hl 1 rfl) ?_
        refine lv_iload_n hx hb d_N_calculate_43 rfl (lv_at hl 2 rfl) ?_
        refine lv_iadd hx hb d_N_calculate_44 ?_
        cases h
        exact hret _ _ _ _ d_N_calculate_45 rfl w
      · rw [if_neg hc3] at h
        refine Decidable.byCases (p := x0 = 3) (fun hc4 => ?_) (fun hc4 => ?_)
        · rw [if_pos hc4] at h
          refine lv_tableIn (off := 45) (tgt := 46) hx hb d_N_calculate_1 (by rw [hc4]; decide) (by rw [hc4]; decide) (by rw [hc4]; decide) (by decide) ?_
          refine lv_iload_n hx hb d_N_calculate_46 rfl (lv_at hl 1 rfl) ?_
          refine lv_iload_n hx hb d_N_calculate_47 rfl (lv_at hl 2 rfl) ?_
          refine lv_isub hx hb d_N_calculate_48 ?_
          cases h
          exact hret _ _ _ _ d_N_calculate_49 rfl w
        · rw [if_neg hc4] at h
          refine Decidable.byCases (p := x0 = 4) (fun hc5 => ?_) (fun hc5 => ?_)
          · rw [if_pos hc5] at h
            refine lv_tableIn (off := 49) (tgt := 50) hx hb d_N_calculate_1 (by rw [hc5]; decide) (by rw [hc5]; decide) (by rw [hc5]; decide) (by decide) ?_
            refine lv_iload_n hx hb d_N_calculate_50 rfl (lv_at hl 1 rfl) ?_
            refine lv_iload_n hx hb d_N_calculate_51 rfl (lv_at hl 2 rfl) ?_
            refine lv_imul hx hb d_N_calculate_52 ?_
            cases h
            exact hret _ _ _ _ d_N_calculate_53 rfl w
          · rw [if_neg hc5] at h
            refine Decidable.byCases (p := x0 = 5) (fun hc6 => ?_) (fun hc6 => ?_)
            · rw [if_pos hc6] at h
              refine lv_tableIn (off := 53) (tgt := 54) hx hb d_N_calculate_1 (by rw [hc6]; decide) (by rw [hc6]; decide) (by rw [hc6]; decide) (by decide) ?_
              refine lv_iload_n hx hb d_N_calculate_54 rfl (lv_at hl 1 rfl) ?_
              refine lv_iload_n hx hb d_N_calculate_55 rfl (lv_at hl 2 rfl) ?_
              have hJ64 : ∀ (s0 : Int32) (M : Sto) (H : Heap) (locs : List Loc) (ls : Array Slot), lv_has ls 3 [] → Wd D A s (wX ct q M) H locs → j_N_calculate_64 s0 M = some (rz, Mz) → W p l e rm_N_calculate s m args below meth c H locs 0 0 Q (F0 m 64 ls [.int s0]) := by
                intro s0 M H locs ls hl w h
                unfold j_N_calculate_64 at h
                cases h
                exact hret _ _ _ _ d_N_calculate_64 rfl w
              refine lv_icmp_ge (tgt := 63) hx hb d_N_calculate_56 (by decide) (fun hc => ?_) (fun hc => ?_)
              · rw [if_pos hc] at h
                refine lv_iconst (v := 0) hx hb d_N_calculate_63 (by decide) ?_
                exact hJ64 _ _ _ _ _ (lv_sub hl [] rfl) w h
              · rw [if_neg hc] at h
                refine lv_iconst (v := 1) hx hb d_N_calculate_59 (by decide) ?_
                refine lv_goto (tgt := 64) hx hb d_N_calculate_60 (by decide) ?_
                exact hJ64 _ _ _ _ _ (lv_sub hl [] rfl) w h
            · rw [if_neg hc6] at h
              refine lv_tableOut (tgt := 65) hx hb d_N_calculate_1 (sw_o_0_5 hc1 hc2 hc3 hc4 hc5 hc6) (by decide) ?_
              refine lv_iconst (v := 0) hx hb d_N_calculate_65 (by decide) ?_
              cases h
              exact hret _ _ _ _ d_N_calculate_66 rfl w
abbrev rm_K_passInstruction : Room := { frames := 1, cells := 0, slots := 0, locals := 23 }
set_option maxHeartbeats 8000000 in
set_option maxRecDepth 100000 in
theorem c_K_passInstruction (l : Launch) (D : va_G) (ct : Nat → ClassId) (q : Nat → Nat) {x1 x2 : Int32} {M Mz : Sto} {rz : Int32} (h : m_K_passInstruction x1 x2 M = some (rz, Mz)) : KV l D ct y_K_passInstruction b_K_passInstruction 11 1 23 0 0 [.ref (q 4), .int x1, .int x2] (wX ct q M) (fun A t => CE D (wX ct q Mz) A t) := by
  refine KV.ofU (by decide) (Nat.le_of_ble_eq_true rfl) ?_
  intro p e s m args below meth c A Q ls C0 hl w hret
  have hx := C0.1
  have hb := C0.2.1
  have hl : lv_has ls 11 [(0, .ref (q 4)), (1, .int x1), (2, .int x2)] := hl
  unfold m_K_passInstruction at h
  refine lv_aload_n hx hb d_K_passInstruction_0 rfl (lv_at hl 0 rfl) ?_
  refine U_get C0 w 4 (by decide) rfl rfl inK 0 (by decide) wd_224 rfl d_K_passInstruction_1 ?_
  refine U_get C0 w 1 (by decide) rfl rfl inP 2 (by decide) wd_49 rfl d_K_passInstruction_4 ?_
  refine lv_iload_n hx hb d_K_passInstruction_7 rfl (lv_at hl 1 rfl) ?_
  obtain ⟨hi4, h⟩ := if_ok h
  refine U_gld C0 w (gX_34 ct) hi4 d_K_passInstruction_8 ?_
  refine lv_iload_n hx hb d_K_passInstruction_9 rfl (lv_at hl 2 rfl) ?_
  obtain ⟨hi5, h⟩ := if_ok h
  refine U_ald C0 w (rowI ct (b := 43) (by decide) (by decide) hi4) hi5 d_K_passInstruction_10 ?_
  refine lv_istore_n hx hb d_K_passInstruction_11 rfl hl (by decide) rfl (fun ls hl => ?_)
  have hl : lv_has ls 11 [(3, .int (M (43 + x1.toNatClampNeg) x2.toNatClampNeg)), (0, .ref (q 4)), (1, .int x1), (2, .int x2)] := hl
  refine lv_aload_n hx hb d_K_passInstruction_12 rfl (lv_at hl 1 rfl) ?_
  refine U_get C0 w 4 (by decide) rfl rfl inK 2 (by decide) wd_226 rfl d_K_passInstruction_13 ?_
  refine U_get C0 w 3 (by decide) rfl rfl inG 8 (by decide) wd_169 rfl d_K_passInstruction_16 ?_
  refine lv_iload_n hx hb d_K_passInstruction_19 rfl (lv_at hl 2 rfl) ?_
  obtain ⟨hi6, h⟩ := if_ok h
  refine U_gld C0 w (gX_41 ct) hi6 d_K_passInstruction_20 ?_
  refine lv_iload_n hx hb d_K_passInstruction_21 rfl (lv_at hl 3 rfl) ?_
  obtain ⟨hi7, h⟩ := if_ok h
  refine U_ald C0 w (rowI ct (b := 113) (by decide) (by decide) hi6) hi7 d_K_passInstruction_22 ?_
  refine lv_istore hx hb d_K_passInstruction_23 hl (by decide) rfl (fun ls hl => ?_)
  have hl : lv_has ls 11 [(4, .int (M (113 + x1.toNatClampNeg) x2.toNatClampNeg)), (3, .int (M (43 + x1.toNatClampNeg) x2.toNatClampNeg)), (0, .ref (q 4)), (1, .int x1), (2, .int x2)] := hl
  refine lv_aload_n hx hb d_K_passInstruction_25 rfl (lv_at hl 2 rfl) ?_
  refine U_get C0 w 4 (by decide) rfl rfl inK 2 (by decide) wd_226 rfl d_K_passInstruction_26 ?_
  refine U_get C0 w 3 (by decide) rfl rfl inG 9 (by decide) wd_174 rfl d_K_passInstruction_29 ?_
  refine lv_iload_n hx hb d_K_passInstruction_32 rfl (lv_at hl 3 rfl) ?_
  obtain ⟨hi8, h⟩ := if_ok h
  refine U_gld C0 w (gX_42 ct) hi8 d_K_passInstruction_33 ?_
  refine lv_iload_n hx hb d_K_passInstruction_34 rfl (lv_at hl 4 rfl) ?_
  obtain ⟨hi9, h⟩ := if_ok h
  refine U_ald C0 w (rowI ct (b := 123) (by decide) (by decide) hi8) hi9 d_K_passInstruction_35 ?_
  refine lv_istore hx hb d_K_passInstruction_36 hl (by decide) rfl (fun ls hl => ?_)
  have hl : lv_has ls 11 [(5, .int (M (123 + x1.toNatClampNeg) x2.toNatClampNeg)), (4, .int (M (113 + x1.toNatClampNeg) x2.toNatClampNeg)), (3, .int (M (43 + x1.toNatClampNeg) x2.toNatClampNeg)), (0, .ref (q 4)), (1, .int x1), (2, .int x2)] := hl
  refine lv_iload hx hb d_K_passInstruction_38 (lv_at hl 1 rfl) ?_
  refine lv_iconst (v := (-1)) hx hb d_K_passInstruction_40 (by decide) ?_
  have hJ55 : ∀ (s0 v1 v2 v3 v4 v5 : Int32) (M : Sto) (H : Heap) (locs : List Loc) (ls : Array Slot), lv_has ls 11 [(0, .ref (q 4)), (1, .int v1), (2, .int v2), (3, .int v3), (4, .int v4), (5, .int v5)] → Wd D A s (wX ct q M) H locs → j_K_passInstruction_55 s0 v1 v2 v3 v4 v5 M = some (rz, Mz) → W p l e rm_K_passInstruction s m args below meth c H locs 0 0 Q (F0 m 55 ls [.int s0]) := by
    intro s0 v1 v2 v3 v4 v5 M H locs ls hl w h
    unfold j_K_passInstruction_55 at h
    refine lv_istore hx hb d_K_passInstruction_55 hl (by decide) rfl (fun ls hl => ?_)
    have hl : lv_has ls 11 [(6, .int s0), (0, .ref (q 4)), (1, .int v1), (2, .int v2), (3, .int v3), (4, .int v4), (5, .int v5)] := hl
    refine lv_iload hx hb d_K_passInstruction_57 (lv_at hl 6 rfl) ?_
    refine lv_iconst (v := (-1)) hx hb d_K_passInstruction_59 (by decide) ?_
    have hJ74 : ∀ (s0 v1 v2 v3 v4 v5 v6 : Int32) (M : Sto) (H : Heap) (locs : List Loc) (ls : Array Slot), lv_has ls 11 [(0, .ref (q 4)), (1, .int v1), (2, .int v2), (3, .int v3), (4, .int v4), (5, .int v5), (6, .int v6)] → Wd D A s (wX ct q M) H locs → j_K_passInstruction_74 s0 v1 v2 v3 v4 v5 v6 M = some (rz, Mz) → W p l e rm_K_passInstruction s m args below meth c H locs 0 0 Q (F0 m 74 ls [.int s0]) := by
      intro s0 v1 v2 v3 v4 v5 v6 M H locs ls hl w h
      unfold j_K_passInstruction_74 at h
      refine lv_istore hx hb d_K_passInstruction_74 hl (by decide) rfl (fun ls hl => ?_)
      have hl : lv_has ls 11 [(7, .int s0), (0, .ref (q 4)), (1, .int v1), (2, .int v2), (3, .int v3), (4, .int v4), (5, .int v5), (6, .int v6)] := hl
      refine lv_aload_n hx hb d_K_passInstruction_76 rfl (lv_at hl 1 rfl) ?_
      refine U_get C0 w 4 (by decide) rfl rfl inK 2 (by decide) wd_226 rfl d_K_passInstruction_77 ?_
      refine U_get C0 w 3 (by decide) rfl rfl inG 7 (by decide) wd_164 rfl d_K_passInstruction_80 ?_
      refine lv_iload_n hx hb d_K_passInstruction_83 rfl (lv_at hl 2 rfl) ?_
      obtain ⟨hi10, h⟩ := if_ok h
      refine U_gld C0 w (gX_40 ct) hi10 d_K_passInstruction_84 ?_
      refine lv_iload_n hx hb d_K_passInstruction_85 rfl (lv_at hl 3 rfl) ?_
      obtain ⟨hi11, h⟩ := if_ok h
      refine U_ald C0 w (rowI ct (b := 103) (by decide) (by decide) hi10) hi11 d_K_passInstruction_86 ?_
      refine lv_istore hx hb d_K_passInstruction_87 hl (by decide) rfl (fun ls hl => ?_)
      have hl : lv_has ls 11 [(8, .int (M (103 + v1.toNatClampNeg) v2.toNatClampNeg)), (7, .int s0), (0, .ref (q 4)), (1, .int v1), (2, .int v2), (3, .int v3), (4, .int v4), (5, .int v5), (6, .int v6)] := hl
      refine lv_iload_n hx hb d_K_passInstruction_89 rfl (lv_at hl 5 rfl) ?_
      refine lv_bipush (v := 6) hx hb d_K_passInstruction_90 (by decide) ?_
      have hJ193 : ∀ (M : Sto) (H : Heap) (locs : List Loc) (ls : Array Slot), lv_has ls 11 [] → Wd D A s (wX ct q M) H locs → j_K_passInstruction_193 M = some (rz, Mz) → W p l e rm_K_passInstruction s m args below meth c H locs 0 0 Q (F0 m 193 ls []) := by
        intro M H locs ls hl w h
        unfold j_K_passInstruction_193 at h
        cases h
        exact hret _ _ _ _ d_K_passInstruction_193 w
      have hJ107 : ∀ (v8 : Int32) (M : Sto) (H : Heap) (locs : List Loc) (ls : Array Slot), lv_has ls 11 [(0, .ref (q 4)), (8, .int v8)] → Wd D A s (wX ct q M) H locs → j_K_passInstruction_107 v8 M = some (rz, Mz) → W p l e rm_K_passInstruction s m args below meth c H locs 0 0 Q (F0 m 107 ls []) := by
        intro v8 M H locs ls hl w h
        unfold j_K_passInstruction_107 at h
        refine lv_aload_n hx hb d_K_passInstruction_107 rfl (lv_at hl 0 rfl) ?_
        refine lv_iload hx hb d_K_passInstruction_108 (lv_at hl 1 rfl) ?_
        refine lv_iconst (v := 2) hx hb d_K_passInstruction_110 (by decide) ?_
        refine lv_iconst (v := 0) hx hb d_K_passInstruction_111 (by decide) ?_
        obtain ⟨r12, M13, hc14, h⟩ := bind_ok h
        try dsimp only at h
        refine U_vv (rest := []) C0 w 4 (wU_at (by decide)) rfl (c_K_raise l D ct q hc14) wd_649 wd_646 wd_648 ws_14 wd_5 (n9 := 3) (by decide +kernel) rfl ⟨(Nat.le_of_ble_eq_true rfl), (Nat.le_of_ble_eq_true rfl)⟩ hl.1 rfl (Nat.le_of_ble_eq_true rfl) d_K_passInstruction_112 (Nat.le_of_ble_eq_true rfl) (Nat.le_of_ble_eq_true rfl) (fun H locs w => ?_)
        refine lv_goto (tgt := 193) hx hb d_K_passInstruction_115 (by decide) ?_
        exact hJ193 _ _ _ _ (lv_sub hl [] rfl) w h
      refine lv_icmp_eq (tgt := 107) hx hb d_K_passInstruction_92 (by decide) (fun hc => ?_) (fun hc => ?_)
      · rw [if_pos hc] at h
        exact hJ107 _ _ _ _ _ (lv_sub hl [2, 0] rfl) w h
      · rw [if_neg hc] at h
        refine lv_iload hx hb d_K_passInstruction_95 (lv_at hl 8 rfl) ?_
        refine lv_iconst (v := 2) hx hb d_K_passInstruction_97 (by decide) ?_
        refine lv_icmp_eq (tgt := 107) hx hb d_K_passInstruction_98 (by decide) (fun hc => ?_) (fun hc => ?_)
        · rw [if_pos hc] at h
          exact hJ107 _ _ _ _ _ (lv_sub hl [2, 0] rfl) w h
        · rw [if_neg hc] at h
          refine lv_iload hx hb d_K_passInstruction_101 (lv_at hl 1 rfl) ?_
          refine lv_iconst (v := 2) hx hb d_K_passInstruction_103 (by decide) ?_
          refine lv_icmp_ne (tgt := 118) hx hb d_K_passInstruction_104 (by decide) (fun hc => ?_) (fun hc => ?_)
          · rw [if_neg hc] at h
            refine lv_iload hx hb d_K_passInstruction_118 (lv_at hl 8 rfl) ?_
            refine lv_iconst (v := 1) hx hb d_K_passInstruction_120 (by decide) ?_
            refine lv_icmp_ne (tgt := 193) hx hb d_K_passInstruction_121 (by decide) (fun hc => ?_) (fun hc => ?_)
            · rw [if_neg hc] at h
              exact hJ193 _ _ _ _ (lv_sub hl [] rfl) w h
            · rw [if_pos hc] at h
              refine lv_iload hx hb d_K_passInstruction_124 (lv_at hl 1 rfl) ?_
              refine lv_iconst (v := 1) hx hb d_K_passInstruction_126 (by decide) ?_
              refine lv_icmp_ne (tgt := 193) hx hb d_K_passInstruction_127 (by decide) (fun hc => ?_) (fun hc => ?_)
              · rw [if_neg hc] at h
                exact hJ193 _ _ _ _ (lv_sub hl [] rfl) w h
              · rw [if_pos hc] at h
                refine lv_iload hx hb d_K_passInstruction_130 (lv_at hl 6 rfl) ?_
                refine lv_iconst (v := (-1)) hx hb d_K_passInstruction_132 (by decide) ?_
                have hJ157 : ∀ (s0 v3 v5 v8 : Int32) (M : Sto) (H : Heap) (locs : List Loc) (ls : Array Slot), lv_has ls 11 [(0, .ref (q 4)), (3, .int v3), (5, .int v5), (8, .int v8)] → Wd D A s (wX ct q M) H locs → j_K_passInstruction_157 s0 v3 v5 v8 M = some (rz, Mz) → W p l e rm_K_passInstruction s m args below meth c H locs 0 0 Q (F0 m 157 ls [.int s0]) := by
                  intro s0 v3 v5 v8 M H locs ls hl w h
                  unfold j_K_passInstruction_157 at h
                  refine lv_istore hx hb d_K_passInstruction_157 hl (by decide) rfl (fun ls hl => ?_)
                  have hl : lv_has ls 11 [(9, .int s0), (0, .ref (q 4)), (3, .int v3), (5, .int v5), (8, .int v8)] := hl
                  refine lv_iload hx hb d_K_passInstruction_159 (lv_at hl 3 rfl) ?_
                  refine lv_iconst (v := (-1)) hx hb d_K_passInstruction_161 (by decide) ?_
                  have hJ176 : ∀ (s0 v3 v8 v9 : Int32) (M : Sto) (H : Heap) (locs : List Loc) (ls : Array Slot), lv_has ls 11 [(0, .ref (q 4)), (3, .int v3), (8, .int v8), (9, .int v9)] → Wd D A s (wX ct q M) H locs → j_K_passInstruction_176 s0 v3 v8 v9 M = some (rz, Mz) → W p l e rm_K_passInstruction s m args below meth c H locs 0 0 Q (F0 m 176 ls [.int s0]) := by
                    intro s0 v3 v8 v9 M H locs ls hl w h
                    unfold j_K_passInstruction_176 at h
                    refine lv_istore hx hb d_K_passInstruction_176 hl (by decide) rfl (fun ls hl => ?_)
                    have hl : lv_has ls 11 [(10, .int s0), (0, .ref (q 4)), (3, .int v3), (8, .int v8), (9, .int v9)] := hl
                    refine lv_aload_n hx hb d_K_passInstruction_178 rfl (lv_at hl 1 rfl) ?_
                    refine lv_iload hx hb d_K_passInstruction_179 (lv_at hl 3 rfl) ?_
                    refine lv_iconst (v := 1) hx hb d_K_passInstruction_181 (by decide) ?_
                    refine lv_iload_n hx hb d_K_passInstruction_182 rfl (lv_at hl 2 rfl) ?_
                    refine lv_iload hx hb d_K_passInstruction_183 (lv_at hl 4 rfl) ?_
                    refine lv_iload hx hb d_K_passInstruction_185 (lv_at hl 0 rfl) ?_
                    obtain ⟨r15, M16, hc17, h⟩ := bind_ok h
                    try dsimp only at h
                    refine U_siN (rest := [.int 1, .int v8, .ref (q 4)]) C0 w (c_N_calculate l D ct q hc17) wd_656 (C0.2.2.2.2.2.2.nest ("NameForge$Known", 119, ⟨"NameForge", "calculate", "(III)I"⟩) (by decide)) wd_655 wd_1 (n9 := 3) (by decide +kernel) rfl ⟨(Nat.le_of_ble_eq_true rfl), (Nat.le_of_ble_eq_true rfl)⟩ hl.1 rfl (Nat.le_of_ble_eq_true rfl) d_K_passInstruction_187 (Nat.le_of_ble_eq_true rfl) (Nat.le_of_ble_eq_true rfl) (fun H locs w => ?_)
                    obtain ⟨r18, M19, hc20, h⟩ := bind_ok h
                    try dsimp only at h
                    refine U_vv (rest := []) C0 w 4 (wU_at (by decide)) rfl (c_K_raise l D ct q hc20) wd_649 wd_646 wd_648 ws_14 wd_5 (n9 := 3) (by decide +kernel) rfl ⟨(Nat.le_of_ble_eq_true rfl), (Nat.le_of_ble_eq_true rfl)⟩ hl.1 rfl (Nat.le_of_ble_eq_true rfl) d_K_passInstruction_190 (Nat.le_of_ble_eq_true rfl) (Nat.le_of_ble_eq_true rfl) (fun H locs w => ?_)
                    exact hJ193 _ _ _ _ (lv_sub hl [] rfl) w h
                  refine lv_icmp_ne (tgt := 169) hx hb d_K_passInstruction_162 (by decide) (fun hc => ?_) (fun hc => ?_)
                  · rw [if_neg hc] at h
                    refine lv_aload_n hx hb d_K_passInstruction_169 rfl (lv_at hl 1 rfl) ?_
                    refine U_get C0 w 4 (by decide) rfl rfl inK 6 (by decide) wd_235 rfl d_K_passInstruction_170 ?_
                    refine lv_iload hx hb d_K_passInstruction_173 (lv_at hl 3 rfl) ?_
                    obtain ⟨hi21, h⟩ := if_ok h
                    refine U_ald C0 w (iX_26 ct) hi21 d_K_passInstruction_175 ?_
                    exact hJ176 _ _ _ _ _ _ _ _ (lv_sub hl [1, 2, 4, 0] rfl) w h
                  · rw [if_pos hc] at h
                    refine lv_iconst (v := 0) hx hb d_K_passInstruction_165 (by decide) ?_
                    refine lv_goto (tgt := 176) hx hb d_K_passInstruction_166 (by decide) ?_
                    exact hJ176 _ _ _ _ _ _ _ _ (lv_sub hl [1, 2, 4, 0] rfl) w h
                refine lv_icmp_ne (tgt := 150) hx hb d_K_passInstruction_133 (by decide) (fun hc => ?_) (fun hc => ?_)
                · rw [if_neg hc] at h
                  refine lv_aload_n hx hb d_K_passInstruction_150 rfl (lv_at hl 2 rfl) ?_
                  refine U_get C0 w 4 (by decide) rfl rfl inK 6 (by decide) wd_235 rfl d_K_passInstruction_151 ?_
                  refine lv_iload hx hb d_K_passInstruction_154 (lv_at hl 6 rfl) ?_
                  obtain ⟨hi22, h⟩ := if_ok h
                  refine U_ald C0 w (iX_26 ct) hi22 d_K_passInstruction_156 ?_
                  exact hJ157 _ _ _ _ _ _ _ _ (lv_sub hl [2, 5, 7, 0] rfl) w h
                · rw [if_pos hc] at h
                  refine lv_aload_n hx hb d_K_passInstruction_136 rfl (lv_at hl 2 rfl) ?_
                  refine U_get C0 w 4 (by decide) rfl rfl inK 0 (by decide) wd_224 rfl d_K_passInstruction_137 ?_
                  refine U_get C0 w 1 (by decide) rfl rfl inP 4 (by decide) wd_55 rfl d_K_passInstruction_140 ?_
                  refine lv_iload_n hx hb d_K_passInstruction_143 rfl (lv_at hl 3 rfl) ?_
                  obtain ⟨hi23, h⟩ := if_ok h
                  refine U_gld C0 w (gX_36 ct) hi23 d_K_passInstruction_144 ?_
                  refine lv_iload_n hx hb d_K_passInstruction_145 rfl (lv_at hl 4 rfl) ?_
                  obtain ⟨hi24, h⟩ := if_ok h
                  refine U_ald C0 w (rowI ct (b := 63) (by decide) (by decide) hi23) hi24 d_K_passInstruction_146 ?_
                  refine lv_goto (tgt := 157) hx hb d_K_passInstruction_147 (by decide) ?_
                  exact hJ157 _ _ _ _ _ _ _ _ (lv_sub hl [2, 5, 7, 0] rfl) w h
          · rw [if_pos hc] at h
            exact hJ107 _ _ _ _ _ (lv_sub hl [2, 0] rfl) w h
    refine lv_icmp_ne (tgt := 67) hx hb d_K_passInstruction_60 (by decide) (fun hc => ?_) (fun hc => ?_)
    · rw [if_neg hc] at h
      refine lv_aload_n hx hb d_K_passInstruction_67 rfl (lv_at hl 1 rfl) ?_
      refine U_get C0 w 4 (by decide) rfl rfl inK 5 (by decide) wd_231 rfl d_K_passInstruction_68 ?_
      refine lv_iload hx hb d_K_passInstruction_71 (lv_at hl 6 rfl) ?_
      obtain ⟨hi25, h⟩ := if_ok h
      refine U_ald C0 w (iX_25 ct) hi25 d_K_passInstruction_73 ?_
      exact hJ74 _ _ _ _ _ _ _ _ _ _ _ (lv_sub hl [1, 2, 3, 4, 5, 6, 0] rfl) w h
    · rw [if_pos hc] at h
      refine lv_iconst (v := 1) hx hb d_K_passInstruction_63 (by decide) ?_
      refine lv_goto (tgt := 74) hx hb d_K_passInstruction_64 (by decide) ?_
      exact hJ74 _ _ _ _ _ _ _ _ _ _ _ (lv_sub hl [1, 2, 3, 4, 5, 6, 0] rfl) w h
  refine lv_icmp_ne (tgt := 48) hx hb d_K_passInstruction_41 (by decide) (fun hc => ?_) (fun hc => ?_)
  · rw [if_neg hc] at h
    refine lv_aload_n hx hb d_K_passInstruction_48 rfl (lv_at hl 3 rfl) ?_
    refine U_get C0 w 4 (by decide) rfl rfl inK 5 (by decide) wd_231 rfl d_K_passInstruction_49 ?_
    refine lv_iload hx hb d_K_passInstruction_52 (lv_at hl 1 rfl) ?_
    obtain ⟨hi26, h⟩ := if_ok h
    refine U_ald C0 w (iX_25 ct) hi26 d_K_passInstruction_54 ?_
    exact hJ55 _ _ _ _ _ _ _ _ _ _ (lv_sub hl [3, 4, 5, 2, 1, 0] rfl) w h
  · rw [if_pos hc] at h
    refine lv_iconst (v := 1) hx hb d_K_passInstruction_44 (by decide) ?_
    refine lv_goto (tgt := 55) hx hb d_K_passInstruction_45 (by decide) ?_
    exact hJ55 _ _ _ _ _ _ _ _ _ _ (lv_sub hl [3, 4, 5, 2, 1, 0] rfl) w h
abbrev rm_K_waysTaken : Room := { frames := 2, cells := 0, slots := 0, locals := 41 }
set_option maxHeartbeats 8000000 in
set_option maxRecDepth 100000 in
theorem c_K_waysTaken (l : Launch) (D : va_G) (ct : Nat → ClassId) (q : Nat → Nat) {x1 : Int32} {M Mz : Sto} {rz : Int32} (h : m_K_waysTaken x1 M = some (rz, Mz)) : KI l D ct y_K_waysTaken b_K_waysTaken 3 (some .int) 2 41 [.ref (q 4), .int x1] (wX ct q M) rz (wX ct q Mz) := by
  refine KI.ofU (by decide) (Nat.le_of_ble_eq_true rfl) rfl ?_
  intro p e s m args below meth c A Q ls C0 hl w hret
  have hx := C0.1
  have hb := C0.2.1
  have hl : lv_has ls 3 [(0, .ref (q 4)), (1, .int x1)] := hl
  unfold m_K_waysTaken at h
  refine lv_aload_n hx hb d_K_waysTaken_0 rfl (lv_at hl 0 rfl) ?_
  refine U_get C0 w 4 (by decide) rfl rfl inK 2 (by decide) wd_226 rfl d_K_waysTaken_1 ?_
  refine U_get C0 w 3 (by decide) rfl rfl inG 10 (by decide) wd_180 rfl d_K_waysTaken_4 ?_
  refine lv_iload_n hx hb d_K_waysTaken_7 rfl (lv_at hl 1 rfl) ?_
  obtain ⟨hi3, h⟩ := if_ok h
  refine U_ald C0 w (iX_20 ct) hi3 d_K_waysTaken_8 ?_
  refine lv_istore_n hx hb d_K_waysTaken_9 rfl hl (by decide) rfl (fun ls hl => ?_)
  have hl : lv_has ls 3 [(2, .int (M 20 x1.toNatClampNeg)), (0, .ref (q 4)), (1, .int x1)] := hl
  refine lv_iload_n hx hb d_K_waysTaken_10 rfl (lv_at hl 0 rfl) ?_
  refine lv_iconst (v := (-1)) hx hb d_K_waysTaken_11 (by decide) ?_
  have hJ25 : ∀ (v1 : Int32) (M : Sto) (H : Heap) (locs : List Loc) (ls : Array Slot), lv_has ls 3 [(0, .ref (q 4)), (1, .int v1)] → Wd D A s (wX ct q M) H locs → j_K_waysTaken_25 v1 M = some (rz, Mz) → W p l e rm_K_waysTaken s m args below meth c H locs 0 0 Q (F0 m 25 ls []) := by
    intro v1 M H locs ls hl w h
    unfold j_K_waysTaken_25 at h
    refine lv_aload_n hx hb d_K_waysTaken_25 rfl (lv_at hl 0 rfl) ?_
    refine U_get C0 w 4 (by decide) rfl rfl inK 0 (by decide) wd_224 rfl d_K_waysTaken_26 ?_
    refine lv_iload_n hx hb d_K_waysTaken_29 rfl (lv_at hl 1 rfl) ?_
    obtain ⟨r4, M5, hc6, h⟩ := bind_ok h
    try dsimp only at h
    refine U_vi (rest := []) C0 w 1 (wU_at (by decide)) rfl (c_P_ways l D ct q hc6) wd_573 wd_665 wd_571 wd_572 wd_2 (n9 := 1) (by decide +kernel) rfl ⟨(Nat.le_of_ble_eq_true rfl), (Nat.le_of_ble_eq_true rfl)⟩ hl.1 rfl (Nat.le_of_ble_eq_true rfl) d_K_waysTaken_30 (Nat.le_of_ble_eq_true rfl) (Nat.le_of_ble_eq_true rfl) (fun H locs w => ?_)
    cases h
    exact hret _ _ _ _ d_K_waysTaken_33 rfl w
  refine lv_icmp_eq (tgt := 25) hx hb d_K_waysTaken_12 (by decide) (fun hc => ?_) (fun hc => ?_)
  · rw [if_pos hc] at h
    exact hJ25 _ _ _ _ _ (lv_sub hl [1, 2] rfl) w h
  · rw [if_neg hc] at h
    refine lv_aload_n hx hb d_K_waysTaken_15 rfl (lv_at hl 1 rfl) ?_
    refine U_get C0 w 4 (by decide) rfl rfl inK 5 (by decide) wd_231 rfl d_K_waysTaken_16 ?_
    refine lv_iload_n hx hb d_K_waysTaken_19 rfl (lv_at hl 0 rfl) ?_
    obtain ⟨hi7, h⟩ := if_ok h
    refine U_ald C0 w (iX_25 ct) hi7 d_K_waysTaken_20 ?_
    refine lv_iconst (v := 2) hx hb d_K_waysTaken_21 (by decide) ?_
    refine lv_icmp_ne (tgt := 34) hx hb d_K_waysTaken_22 (by decide) (fun hc => ?_) (fun hc => ?_)
    · rw [if_neg hc] at h
      refine lv_aload_n hx hb d_K_waysTaken_34 rfl (lv_at hl 1 rfl) ?_
      refine U_get C0 w 4 (by decide) rfl rfl inK 5 (by decide) wd_231 rfl d_K_waysTaken_35 ?_
      refine lv_iload_n hx hb d_K_waysTaken_38 rfl (lv_at hl 0 rfl) ?_
      obtain ⟨hi8, h⟩ := if_ok h
      refine U_ald C0 w (iX_25 ct) hi8 d_K_waysTaken_39 ?_
      refine lv_if_ne (tgt := 45) hx hb d_K_waysTaken_40 (by decide) (fun hc => ?_) (fun hc => ?_)
      · rw [if_neg hc] at h
        refine lv_aload_n hx hb d_K_waysTaken_45 rfl (lv_at hl 1 rfl) ?_
        refine U_get C0 w 4 (by decide) rfl rfl inK 6 (by decide) wd_235 rfl d_K_waysTaken_46 ?_
        refine lv_iload_n hx hb d_K_waysTaken_49 rfl (lv_at hl 0 rfl) ?_
        obtain ⟨hi9, h⟩ := if_ok h
        refine U_ald C0 w (iX_26 ct) hi9 d_K_waysTaken_50 ?_
        have hJ75 : ∀ (s0 : Int32) (M : Sto) (H : Heap) (locs : List Loc) (ls : Array Slot), lv_has ls 3 [] → Wd D A s (wX ct q M) H locs → j_K_waysTaken_75 s0 M = some (rz, Mz) → W p l e rm_K_waysTaken s m args below meth c H locs 0 0 Q (F0 m 75 ls [.int s0]) := by
          intro s0 M H locs ls hl w h
          unfold j_K_waysTaken_75 at h
          obtain ⟨r10, M11, hc12, h⟩ := bind_ok h
          try dsimp only at h
          refine U_siN (rest := []) C0 w (c_N_bit l D ct q hc12) wd_565 (C0.2.2.2.2.2.2.nest ("NameForge$Known", 39, ⟨"NameForge", "bit", "(I)I"⟩) (by decide)) wd_564 wd_1 (n9 := 1) (by decide +kernel) rfl ⟨(Nat.le_of_ble_eq_true rfl), (Nat.le_of_ble_eq_true rfl)⟩ hl.1 rfl (Nat.le_of_ble_eq_true rfl) d_K_waysTaken_75 (Nat.le_of_ble_eq_true rfl) (Nat.le_of_ble_eq_true rfl) (fun H locs w => ?_)
          cases h
          exact hret _ _ _ _ d_K_waysTaken_78 rfl w
        refine lv_if_eq (tgt := 66) hx hb d_K_waysTaken_51 (by decide) (fun hc => ?_) (fun hc => ?_)
        · rw [if_pos hc] at h
          refine lv_aload_n hx hb d_K_waysTaken_66 rfl (lv_at hl 1 rfl) ?_
          refine U_get C0 w 4 (by decide) rfl rfl inK 0 (by decide) wd_224 rfl d_K_waysTaken_67 ?_
          refine U_get C0 w 1 (by decide) rfl rfl inP 9 (by decide) wd_70 rfl d_K_waysTaken_70 ?_
          refine lv_iload_n hx hb d_K_waysTaken_73 rfl (lv_at hl 2 rfl) ?_
          obtain ⟨hi13, h⟩ := if_ok h
          refine U_ald C0 w (iX_11 ct) hi13 d_K_waysTaken_74 ?_
          exact hJ75 _ _ _ _ _ (lv_sub hl [] rfl) w h
        · rw [if_neg hc] at h
          refine lv_aload_n hx hb d_K_waysTaken_54 rfl (lv_at hl 1 rfl) ?_
          refine U_get C0 w 4 (by decide) rfl rfl inK 0 (by decide) wd_224 rfl d_K_waysTaken_55 ?_
          refine U_get C0 w 1 (by decide) rfl rfl inP 8 (by decide) wd_67 rfl d_K_waysTaken_58 ?_
          refine lv_iload_n hx hb d_K_waysTaken_61 rfl (lv_at hl 2 rfl) ?_
          obtain ⟨hi14, h⟩ := if_ok h
          refine U_ald C0 w (iX_10 ct) hi14 d_K_waysTaken_62 ?_
          refine lv_goto (tgt := 75) hx hb d_K_waysTaken_63 (by decide) ?_
          exact hJ75 _ _ _ _ _ (lv_sub hl [] rfl) w h
      · rw [if_pos hc] at h
        refine lv_iconst (v := 0) hx hb d_K_waysTaken_43 (by decide) ?_
        cases h
        exact hret _ _ _ _ d_K_waysTaken_44 rfl w
    · rw [if_pos hc] at h
      exact hJ25 _ _ _ _ _ (lv_sub hl [1, 2] rfl) w h
abbrev rm_K_passEnd : Room := { frames := 3, cells := 0, slots := 0, locals := 63 }
set_option maxHeartbeats 8000000 in
set_option maxRecDepth 100000 in
theorem c_K_passEnd (l : Launch) (D : va_G) (ct : Nat → ClassId) (q : Nat → Nat) {x1 : Int32} {M Mz : Sto} {rz : Int32} (h : m_K_passEnd x1 M = some (rz, Mz)) : KV l D ct y_K_passEnd b_K_passEnd 3 3 63 0 0 [.ref (q 4), .int x1] (wX ct q M) (fun A t => CE D (wX ct q Mz) A t) := by
  refine KV.ofU (by decide) (Nat.le_of_ble_eq_true rfl) ?_
  intro p e s m args below meth c A Q ls C0 hl w hret
  have hx := C0.1
  have hb := C0.2.1
  have hl : lv_has ls 3 [(0, .ref (q 4)), (1, .int x1)] := hl
  unfold m_K_passEnd at h
  refine lv_aload_n hx hb d_K_passEnd_0 rfl (lv_at hl 0 rfl) ?_
  refine U_get C0 w 4 (by decide) rfl rfl inK 4 (by decide) wd_230 rfl d_K_passEnd_1 ?_
  refine lv_iload_n hx hb d_K_passEnd_4 rfl (lv_at hl 1 rfl) ?_
  obtain ⟨hi5, h⟩ := if_ok h
  refine U_ald C0 w (iX_24 ct) hi5 d_K_passEnd_5 ?_
  refine lv_aload_n hx hb d_K_passEnd_6 rfl (lv_at hl 0 rfl) ?_
  refine lv_iload_n hx hb d_K_passEnd_7 rfl (lv_at hl 1 rfl) ?_
  obtain ⟨r6, M7, hc8, h⟩ := bind_ok h
  try dsimp only at h
  refine U_vi (rest := [.int (M 24 x1.toNatClampNeg)]) C0 w 4 (wU_at (by decide)) rfl (c_K_waysTaken l D ct q hc8) wd_664 wd_661 wd_663 ws_17 wd_5 (n9 := 1) (by decide +kernel) rfl ⟨(Nat.le_of_ble_eq_true rfl), (Nat.le_of_ble_eq_true rfl)⟩ hl.1 rfl (Nat.le_of_ble_eq_true rfl) d_K_passEnd_8 (Nat.le_of_ble_eq_true rfl) (Nat.le_of_ble_eq_true rfl) (fun H locs w => ?_)
  refine lv_ior hx hb d_K_passEnd_11 ?_
  refine lv_istore_n hx hb d_K_passEnd_12 rfl hl (by decide) rfl (fun ls hl => ?_)
  have hl : lv_has ls 3 [(2, .int ((M 24 x1.toNatClampNeg) ||| r6)), (0, .ref (q 4)), (1, .int x1)] := hl
  refine lv_iload_n hx hb d_K_passEnd_13 rfl (lv_at hl 0 rfl) ?_
  refine lv_aload_n hx hb d_K_passEnd_14 rfl (lv_at hl 1 rfl) ?_
  refine U_get C0 w 4 (by decide) rfl rfl inK 4 (by decide) wd_230 rfl d_K_passEnd_15 ?_
  refine lv_iload_n hx hb d_K_passEnd_18 rfl (lv_at hl 2 rfl) ?_
  obtain ⟨hi9, h⟩ := if_ok h
  refine U_ald C0 w (iX_24 ct) hi9 d_K_passEnd_19 ?_
  have hJ45 : ∀ (M : Sto) (H : Heap) (locs : List Loc) (ls : Array Slot), lv_has ls 3 [] → Wd D A s (wX ct q M) H locs → j_K_passEnd_45 M = some (rz, Mz) → W p l e rm_K_passEnd s m args below meth c H locs 0 0 Q (F0 m 45 ls []) := by
    intro M H locs ls hl w h
    unfold j_K_passEnd_45 at h
    cases h
    exact hret _ _ _ _ d_K_passEnd_45 w
  refine lv_icmp_eq (tgt := 45) hx hb d_K_passEnd_20 (by decide) (fun hc => ?_) (fun hc => ?_)
  · rw [if_pos hc] at h
    exact hJ45 _ _ _ _ (lv_sub hl [] rfl) w h
  · rw [if_neg hc] at h
    refine lv_aload_n hx hb d_K_passEnd_23 rfl (lv_at hl 1 rfl) ?_
    refine U_get C0 w 4 (by decide) rfl rfl inK 4 (by decide) wd_230 rfl d_K_passEnd_24 ?_
    refine lv_iload_n hx hb d_K_passEnd_27 rfl (lv_at hl 2 rfl) ?_
    refine lv_iload_n hx hb d_K_passEnd_28 rfl (lv_at hl 0 rfl) ?_
    obtain ⟨hi10, h⟩ := if_ok h
    obtain ⟨M11, eM11, h⟩ := wr_ok h
    try dsimp only at h
    refine U_ast C0 (cX_l ct) w (iX_24 ct) hi10 d_K_passEnd_29 eM11 (fun H locs w => ?_)
    refine lv_aload_n hx hb d_K_passEnd_30 rfl (lv_at hl 1 rfl) ?_
    refine lv_dup hx hb d_K_passEnd_31 rfl ?_
    refine U_get C0 w 4 (by decide) rfl rfl inK 3 (by decide) wd_228 rfl d_K_passEnd_32 ?_
    refine lv_iload_n hx hb d_K_passEnd_35 rfl (lv_at hl 0 rfl) ?_
    refine lv_ior hx hb d_K_passEnd_36 ?_
    obtain ⟨M12, eM12, h⟩ := wr_ok h
    try dsimp only at h
    refine U_put C0 (cX_l ct) w 4 (by decide) rfl rfl inK tyK_ok nmK 3 (by decide) wd_228 rfl rfl rfl (Nat.le_of_ble_eq_true rfl) d_K_passEnd_37 eM12 rfl (fun H locs w => ?_)
    refine lv_aload_n hx hb d_K_passEnd_40 rfl (lv_at hl 1 rfl) ?_
    refine lv_iconst (v := 1) hx hb d_K_passEnd_41 (by decide) ?_
    obtain ⟨hz13, h⟩ := if_ok h
    obtain ⟨M14, eM14, h⟩ := wr_ok h
    try dsimp only at h
    refine U_put C0 (cX_l ct) w 4 (by decide) rfl rfl inK tyK_ok nmK 7 (by decide) wd_238 rfl (bz_nar hz13) (bz_fit hz13) (Nat.le_of_ble_eq_true rfl) d_K_passEnd_42 eM14 rfl (fun H locs w => ?_)
    exact hJ45 _ _ _ _ (lv_sub hl [] rfl) w h
abbrev rm_K_passBlock : Room := { frames := 4, cells := 0, slots := 0, locals := 87 }
set_option maxHeartbeats 8000000 in
set_option maxRecDepth 100000 in
theorem c_K_passBlock (l : Launch) (D : va_G) (ct : Nat → ClassId) (q : Nat → Nat) {x1 : Int32} {M Mz : Sto} {rz : Int32} (h : m_K_passBlock x1 M = some (rz, Mz)) : KV l D ct y_K_passBlock b_K_passBlock 3 4 87 0 0 [.ref (q 4), .int x1] (wX ct q M) (fun A t => CE D (wX ct q Mz) A t) := by
  refine KV.ofU (by decide) (Nat.le_of_ble_eq_true rfl) ?_
  intro p e s m args below meth c A Q ls C0 hl w hret
  have hx := C0.1
  have hb := C0.2.1
  have hl : lv_has ls 3 [(0, .ref (q 4)), (1, .int x1)] := hl
  unfold m_K_passBlock at h
  refine lv_iconst (v := 0) hx hb d_K_passBlock_0 (by decide) ?_
  refine lv_istore_n hx hb d_K_passBlock_1 rfl hl (by decide) rfl (fun ls hl => ?_)
  have hl : lv_has ls 3 [(2, .int 0), (0, .ref (q 4)), (1, .int x1)] := hl
  generalize eK2 : j_K_passBlock_36 = K2 at h
  have hE2 : ∀ (v1 : Int32) (M : Sto) (H : Heap) (locs : List Loc) (ls : Array Slot), lv_has ls 3 [(0, .ref (q 4)), (1, .int v1)] → Wd D A s (wX ct q M) H locs → K2 v1 M = some (rz, Mz) → W p l e rm_K_passBlock s m args below meth c H locs 0 0 Q (F0 m 36 ls []) := by
    intro v1 M H locs ls hl w h
    rw [← eK2] at h
    unfold j_K_passBlock_36 at h
    refine lv_iconst (v := 0) hx hb d_K_passBlock_36 (by decide) ?_
    refine lv_istore_n hx hb d_K_passBlock_37 rfl hl (by decide) rfl (fun ls hl => ?_)
    have hl : lv_has ls 3 [(2, .int 0), (0, .ref (q 4)), (1, .int v1)] := hl
    generalize eK38 : j_K_passBlock_78 = K38 at h
    have hE38 : ∀ (v1 : Int32) (M : Sto) (H : Heap) (locs : List Loc) (ls : Array Slot), lv_has ls 3 [(0, .ref (q 4)), (1, .int v1)] → Wd D A s (wX ct q M) H locs → K38 v1 M = some (rz, Mz) → W p l e rm_K_passBlock s m args below meth c H locs 0 0 Q (F0 m 78 ls []) := by
      intro v1 M H locs ls hl w h
      rw [← eK38] at h
      unfold j_K_passBlock_78 at h
      refine lv_aload_n hx hb d_K_passBlock_78 rfl (lv_at hl 0 rfl) ?_
      refine lv_iload_n hx hb d_K_passBlock_79 rfl (lv_at hl 1 rfl) ?_
      obtain ⟨r5, M6, hc7, h⟩ := bind_ok h
      try dsimp only at h
      refine U_vv (rest := []) C0 w 4 (wU_at (by decide)) rfl (c_K_passEnd l D ct q hc7) wd_660 wd_657 wd_659 ws_16 wd_5 (n9 := 1) (by decide +kernel) rfl ⟨(Nat.le_of_ble_eq_true rfl), (Nat.le_of_ble_eq_true rfl)⟩ hl.1 rfl (Nat.le_of_ble_eq_true rfl) d_K_passBlock_80 (Nat.le_of_ble_eq_true rfl) (Nat.le_of_ble_eq_true rfl) (fun H locs w => ?_)
      cases h
      exact hret _ _ _ _ d_K_passBlock_83 w
    have hL38 : ∀ (n : Nat) (v1 v2 : Int32) (M : Sto) (H : Heap) (locs : List Loc) (ls : Array Slot), lv_has ls 3 [(0, .ref (q 4)), (1, .int v1), (2, .int v2)] → Wd D A s (wX ct q M) H locs → l_K_passBlock_38 K38 n v1 v2 M = some (rz, Mz) → W p l e rm_K_passBlock s m args below meth c H locs 0 0 Q (F0 m 38 ls []) := by
      intro n
      induction n with
      | zero => intro v1 v2 M H locs ls hl w h; simp [l_K_passBlock_38] at h
      | succ n ih38 =>
        intro v1 v2 M H locs ls hl w h
        unfold l_K_passBlock_38 at h
        refine lv_iload_n hx hb d_K_passBlock_38 rfl (lv_at hl 2 rfl) ?_
        refine lv_aload_n hx hb d_K_passBlock_39 rfl (lv_at hl 0 rfl) ?_
        refine U_get C0 w 4 (by decide) rfl rfl inK 0 (by decide) wd_224 rfl d_K_passBlock_40 ?_
        refine U_get C0 w 1 (by decide) rfl rfl inP 1 (by decide) wd_43 rfl d_K_passBlock_43 ?_
        refine lv_iload_n hx hb d_K_passBlock_46 rfl (lv_at hl 1 rfl) ?_
        obtain ⟨hi8, h⟩ := if_ok h
        refine U_ald C0 w (iX_7 ct) hi8 d_K_passBlock_47 ?_
        refine lv_icmp_ge (tgt := 78) hx hb d_K_passBlock_48 (by decide) (fun hc => ?_) (fun hc => ?_)
        · rw [if_pos hc] at h
          exact hE38 _ _ _ _ _ (lv_sub hl [0, 1] rfl) w h
        · rw [if_neg hc] at h
          refine lv_aload_n hx hb d_K_passBlock_51 rfl (lv_at hl 0 rfl) ?_
          refine U_get C0 w 4 (by decide) rfl rfl inK 2 (by decide) wd_226 rfl d_K_passBlock_52 ?_
          refine U_get C0 w 3 (by decide) rfl rfl inG 7 (by decide) wd_164 rfl d_K_passBlock_55 ?_
          refine lv_iload_n hx hb d_K_passBlock_58 rfl (lv_at hl 1 rfl) ?_
          obtain ⟨hi9, h⟩ := if_ok h
          refine U_gld C0 w (gX_40 ct) hi9 d_K_passBlock_59 ?_
          refine lv_iload_n hx hb d_K_passBlock_60 rfl (lv_at hl 2 rfl) ?_
          obtain ⟨hi10, h⟩ := if_ok h
          refine U_ald C0 w (rowI ct (b := 103) (by decide) (by decide) hi9) hi10 d_K_passBlock_61 ?_
          refine lv_iconst (v := (-1)) hx hb d_K_passBlock_62 (by decide) ?_
          have hJ72 : ∀ (v1 v2 : Int32) (M : Sto) (H : Heap) (locs : List Loc) (ls : Array Slot), lv_has ls 3 [(0, .ref (q 4)), (1, .int v1), (2, .int v2)] → Wd D A s (wX ct q M) H locs → j_K_passBlock_72 (l_K_passBlock_38 K38 n) K38 v1 v2 M = some (rz, Mz) → W p l e rm_K_passBlock s m args below meth c H locs 0 0 Q (F0 m 72 ls []) := by
            intro v1 v2 M H locs ls hl w h
            unfold j_K_passBlock_72 at h
            refine lv_iinc (k := 2) (v := v2 + 1) hx hb d_K_passBlock_72 hl rfl (inc1 _) (by decide) rfl (fun ls hl => ?_)
            have hl : lv_has ls 3 [(2, .int (v2 + 1)), (0, .ref (q 4)), (1, .int v1)] := hl
            refine lv_goto (tgt := 38) hx hb d_K_passBlock_75 (by decide) ?_
            exact ih38 _ _ _ _ _ _ (lv_sub hl [1, 2, 0] rfl) w h
          refine lv_icmp_eq (tgt := 72) hx hb d_K_passBlock_63 (by decide) (fun hc => ?_) (fun hc => ?_)
          · rw [if_pos hc] at h
            exact hJ72 _ _ _ _ _ _ (lv_sub hl [0, 1, 2] rfl) w h
          · rw [if_neg hc] at h
            refine lv_aload_n hx hb d_K_passBlock_66 rfl (lv_at hl 0 rfl) ?_
            refine lv_iload_n hx hb d_K_passBlock_67 rfl (lv_at hl 1 rfl) ?_
            refine lv_iload_n hx hb d_K_passBlock_68 rfl (lv_at hl 2 rfl) ?_
            obtain ⟨r11, M12, hc13, h⟩ := bind_ok h
            try dsimp only at h
            refine U_vv (rest := []) C0 w 4 (wU_at (by decide)) rfl (c_K_passInstruction l D ct q hc13) wd_653 wd_650 wd_652 ws_15 wd_5 (n9 := 2) (by decide +kernel) rfl ⟨(Nat.le_of_ble_eq_true rfl), (Nat.le_of_ble_eq_true rfl)⟩ hl.1 rfl (Nat.le_of_ble_eq_true rfl) d_K_passBlock_69 (Nat.le_of_ble_eq_true rfl) (Nat.le_of_ble_eq_true rfl) (fun H locs w => ?_)
            exact hJ72 _ _ _ _ _ _ (lv_sub hl [0, 1, 2] rfl) w h
    exact hL38 FU _ _ _ _ _ _ (lv_sub hl [1, 2, 0] rfl) w h
  have hL2 : ∀ (n : Nat) (v1 v2 : Int32) (M : Sto) (H : Heap) (locs : List Loc) (ls : Array Slot), lv_has ls 3 [(0, .ref (q 4)), (1, .int v1), (2, .int v2)] → Wd D A s (wX ct q M) H locs → l_K_passBlock_2 K2 n v1 v2 M = some (rz, Mz) → W p l e rm_K_passBlock s m args below meth c H locs 0 0 Q (F0 m 2 ls []) := by
    intro n
    induction n with
    | zero => intro v1 v2 M H locs ls hl w h; simp [l_K_passBlock_2] at h
    | succ n ih2 =>
      intro v1 v2 M H locs ls hl w h
      unfold l_K_passBlock_2 at h
      refine lv_iload_n hx hb d_K_passBlock_2 rfl (lv_at hl 2 rfl) ?_
      refine lv_bipush (v := 6) hx hb d_K_passBlock_3 (by decide) ?_
      refine lv_icmp_ge (tgt := 36) hx hb d_K_passBlock_5 (by decide) (fun hc => ?_) (fun hc => ?_)
      · rw [if_pos hc] at h
        exact hE2 _ _ _ _ _ (lv_sub hl [0, 1] rfl) w h
      · rw [if_neg hc] at h
        refine lv_aload_n hx hb d_K_passBlock_8 rfl (lv_at hl 0 rfl) ?_
        refine U_get C0 w 4 (by decide) rfl rfl inK 2 (by decide) wd_226 rfl d_K_passBlock_9 ?_
        refine U_get C0 w 3 (by decide) rfl rfl inG 3 (by decide) wd_149 rfl d_K_passBlock_12 ?_
        refine lv_iload_n hx hb d_K_passBlock_15 rfl (lv_at hl 1 rfl) ?_
        obtain ⟨hi14, h⟩ := if_ok h
        refine U_ald C0 w (iX_18 ct) hi14 d_K_passBlock_16 ?_
        refine lv_iload_n hx hb d_K_passBlock_17 rfl (lv_at hl 2 rfl) ?_
        obtain ⟨r15, M16, hc17, h⟩ := bind_ok h
        try dsimp only at h
        refine U_siN (rest := []) C0 w (c_N_holds l D ct q hc17) wd_568 (C0.2.2.2.2.2.2.nest ("NameForge$Known", 59, ⟨"NameForge", "holds", "(II)Z"⟩) (by decide)) wd_567 wd_1 (n9 := 2) (by decide +kernel) rfl ⟨(Nat.le_of_ble_eq_true rfl), (Nat.le_of_ble_eq_true rfl)⟩ hl.1 rfl (Nat.le_of_ble_eq_true rfl) d_K_passBlock_18 (Nat.le_of_ble_eq_true rfl) (Nat.le_of_ble_eq_true rfl) (fun H locs w => ?_)
        have hJ30 : ∀ (v1 v2 : Int32) (M : Sto) (H : Heap) (locs : List Loc) (ls : Array Slot), lv_has ls 3 [(0, .ref (q 4)), (1, .int v1), (2, .int v2)] → Wd D A s (wX ct q M) H locs → j_K_passBlock_30 (l_K_passBlock_2 K2 n) K2 v1 v2 M = some (rz, Mz) → W p l e rm_K_passBlock s m args below meth c H locs 0 0 Q (F0 m 30 ls []) := by
          intro v1 v2 M H locs ls hl w h
          unfold j_K_passBlock_30 at h
          refine lv_iinc (k := 2) (v := v2 + 1) hx hb d_K_passBlock_30 hl rfl (inc1 _) (by decide) rfl (fun ls hl => ?_)
          have hl : lv_has ls 3 [(2, .int (v2 + 1)), (0, .ref (q 4)), (1, .int v1)] := hl
          refine lv_goto (tgt := 2) hx hb d_K_passBlock_33 (by decide) ?_
          exact ih2 _ _ _ _ _ _ (lv_sub hl [1, 2, 0] rfl) w h
        refine lv_if_eq (tgt := 30) hx hb d_K_passBlock_21 (by decide) (fun hc => ?_) (fun hc => ?_)
        · rw [if_pos hc] at h
          exact hJ30 _ _ _ _ _ _ (lv_sub hl [0, 1, 2] rfl) w h
        · rw [if_neg hc] at h
          refine lv_aload_n hx hb d_K_passBlock_24 rfl (lv_at hl 0 rfl) ?_
          refine lv_iload_n hx hb d_K_passBlock_25 rfl (lv_at hl 1 rfl) ?_
          refine lv_iload_n hx hb d_K_passBlock_26 rfl (lv_at hl 2 rfl) ?_
          obtain ⟨r18, M19, hc20, h⟩ := bind_ok h
          try dsimp only at h
          refine U_vv (rest := []) C0 w 4 (wU_at (by decide)) rfl (c_K_passPhi l D ct q hc20) wd_641 wd_638 wd_640 ws_13 wd_5 (n9 := 2) (by decide +kernel) rfl ⟨(Nat.le_of_ble_eq_true rfl), (Nat.le_of_ble_eq_true rfl)⟩ hl.1 rfl (Nat.le_of_ble_eq_true rfl) d_K_passBlock_27 (Nat.le_of_ble_eq_true rfl) (Nat.le_of_ble_eq_true rfl) (fun H locs w => ?_)
          exact hJ30 _ _ _ _ _ _ (lv_sub hl [0, 1, 2] rfl) w h
  exact hL2 FU _ _ _ _ _ _ (lv_sub hl [1, 2, 0] rfl) w h
abbrev rm_K_settle : Room := { frames := 5, cells := 0, slots := 0, locals := 109 }
set_option maxHeartbeats 8000000 in
set_option maxRecDepth 100000 in
theorem c_K_settle (l : Launch) (D : va_G) (ct : Nat → ClassId) (q : Nat → Nat) {M Mz : Sto} {rz : Int32} (h : m_K_settle M = some (rz, Mz)) : KV l D ct y_K_settle b_K_settle 3 5 109 0 0 [.ref (q 4)] (wX ct q M) (fun A t => CE D (wX ct q Mz) A t) := by
  refine KV.ofU (by decide) (Nat.le_of_ble_eq_true rfl) ?_
  intro p e s m args below meth c A Q ls C0 hl w hret
  have hx := C0.1
  have hb := C0.2.1
  have hl : lv_has ls 3 [(0, .ref (q 4))] := hl
  unfold m_K_settle at h
  refine lv_aload_n hx hb d_K_settle_0 rfl (lv_at hl 0 rfl) ?_
  refine U_get C0 w 4 (by decide) rfl rfl inK 4 (by decide) wd_230 rfl d_K_settle_1 ?_
  refine lv_iconst (v := 0) hx hb d_K_settle_4 (by decide) ?_
  obtain ⟨M11, eM11, h⟩ := wr_ok h
  try dsimp only at h
  refine U_fill (rest := []) C0 (cX_l ct) w (iX_24 ct) wd_631 d_K_settle_5 hl.1 ⟨(Nat.le_of_ble_eq_true rfl), (Nat.le_of_ble_eq_true rfl)⟩ (Nat.le_of_ble_eq_true rfl) eM11 (fun H locs w => ?_)
  refine lv_aload_n hx hb d_K_settle_8 rfl (lv_at hl 0 rfl) ?_
  refine U_get C0 w 4 (by decide) rfl rfl inK 5 (by decide) wd_231 rfl d_K_settle_9 ?_
  refine lv_iconst (v := 0) hx hb d_K_settle_12 (by decide) ?_
  obtain ⟨M12, eM12, h⟩ := wr_ok h
  try dsimp only at h
  refine U_fill (rest := []) C0 (cX_l ct) w (iX_25 ct) wd_631 d_K_settle_13 hl.1 ⟨(Nat.le_of_ble_eq_true rfl), (Nat.le_of_ble_eq_true rfl)⟩ (Nat.le_of_ble_eq_true rfl) eM12 (fun H locs w => ?_)
  refine lv_aload_n hx hb d_K_settle_16 rfl (lv_at hl 0 rfl) ?_
  refine U_get C0 w 4 (by decide) rfl rfl inK 6 (by decide) wd_235 rfl d_K_settle_17 ?_
  refine lv_iconst (v := 0) hx hb d_K_settle_20 (by decide) ?_
  obtain ⟨M13, eM13, h⟩ := wr_ok h
  try dsimp only at h
  refine U_fill (rest := []) C0 (cX_l ct) w (iX_26 ct) wd_631 d_K_settle_21 hl.1 ⟨(Nat.le_of_ble_eq_true rfl), (Nat.le_of_ble_eq_true rfl)⟩ (Nat.le_of_ble_eq_true rfl) eM13 (fun H locs w => ?_)
  refine lv_iconst (v := 0) hx hb d_K_settle_24 (by decide) ?_
  refine lv_istore_n hx hb d_K_settle_25 rfl hl (by decide) rfl (fun ls hl => ?_)
  have hl : lv_has ls 3 [(1, .int 0), (0, .ref (q 4))] := hl
  generalize eK26 : j_K_settle_45 = K26 at h
  have hE26 : ∀ (M : Sto) (H : Heap) (locs : List Loc) (ls : Array Slot), lv_has ls 3 [(0, .ref (q 4))] → Wd D A s (wX ct q M) H locs → K26 M = some (rz, Mz) → W p l e rm_K_settle s m args below meth c H locs 0 0 Q (F0 m 45 ls []) := by
    intro M H locs ls hl w h
    rw [← eK26] at h
    unfold j_K_settle_45 at h
    refine lv_aload_n hx hb d_K_settle_45 rfl (lv_at hl 0 rfl) ?_
    refine lv_iconst (v := 0) hx hb d_K_settle_46 (by decide) ?_
    obtain ⟨r14, M15, hc16, h⟩ := bind_ok h
    try dsimp only at h
    refine U_siN (rest := [.ref (q 4)]) C0 w (c_N_bit l D ct q hc16) wd_565 (C0.2.2.2.2.2.2.nest ("NameForge$Known", 39, ⟨"NameForge", "bit", "(I)I"⟩) (by decide)) wd_564 wd_1 (n9 := 1) (by decide +kernel) rfl ⟨(Nat.le_of_ble_eq_true rfl), (Nat.le_of_ble_eq_true rfl)⟩ hl.1 rfl (Nat.le_of_ble_eq_true rfl) d_K_settle_47 (Nat.le_of_ble_eq_true rfl) (Nat.le_of_ble_eq_true rfl) (fun H locs w => ?_)
    obtain ⟨M17, eM17, h⟩ := wr_ok h
    try dsimp only at h
    refine U_put C0 (cX_l ct) w 4 (by decide) rfl rfl inK tyK_ok nmK 3 (by decide) wd_228 rfl rfl rfl (Nat.le_of_ble_eq_true rfl) d_K_settle_50 eM17 rfl (fun H locs w => ?_)
    refine lv_aload_n hx hb d_K_settle_53 rfl (lv_at hl 0 rfl) ?_
    refine lv_iconst (v := 1) hx hb d_K_settle_54 (by decide) ?_
    obtain ⟨hz18, h⟩ := if_ok h
    obtain ⟨M19, eM19, h⟩ := wr_ok h
    try dsimp only at h
    refine U_put C0 (cX_l ct) w 4 (by decide) rfl rfl inK tyK_ok nmK 7 (by decide) wd_238 rfl (bz_nar hz18) (bz_fit hz18) (Nat.le_of_ble_eq_true rfl) d_K_settle_55 eM19 rfl (fun H locs w => ?_)
    refine lv_iconst (v := 0) hx hb d_K_settle_58 (by decide) ?_
    refine lv_istore_n hx hb d_K_settle_59 rfl hl (by decide) rfl (fun ls hl => ?_)
    have hl : lv_has ls 3 [(1, .int 0), (0, .ref (q 4))] := hl
    generalize eK60 : j_K_settle_136 = K60 at h
    have hE60 : ∀ (M : Sto) (H : Heap) (locs : List Loc) (ls : Array Slot), lv_has ls 3 [] → Wd D A s (wX ct q M) H locs → K60 M = some (rz, Mz) → W p l e rm_K_settle s m args below meth c H locs 0 0 Q (F0 m 136 ls []) := by
      intro M H locs ls hl w h
      rw [← eK60] at h
      unfold j_K_settle_136 at h
      cases h
      exact hret _ _ _ _ d_K_settle_136 w
    have hL60 : ∀ (n : Nat) (v1 : Int32) (M : Sto) (H : Heap) (locs : List Loc) (ls : Array Slot), lv_has ls 3 [(0, .ref (q 4)), (1, .int v1)] → Wd D A s (wX ct q M) H locs → l_K_settle_60 K60 n v1 M = some (rz, Mz) → W p l e rm_K_settle s m args below meth c H locs 0 0 Q (F0 m 60 ls []) := by
      intro n
      induction n with
      | zero => intro v1 M H locs ls hl w h; simp [l_K_settle_60] at h
      | succ n ih60 =>
        intro v1 M H locs ls hl w h
        unfold l_K_settle_60 at h
        refine lv_aload_n hx hb d_K_settle_60 rfl (lv_at hl 0 rfl) ?_
        refine U_get C0 w 4 (by decide) rfl rfl inK 7 (by decide) wd_238 rfl d_K_settle_61 ?_
        refine lv_if_eq (tgt := 136) hx hb d_K_settle_64 (by decide) (fun hc => ?_) (fun hc => ?_)
        · rw [if_pos hc] at h
          exact hE60 _ _ _ _ (lv_sub hl [] rfl) w h
        · rw [if_neg hc] at h
          refine lv_iload_n hx hb d_K_settle_67 rfl (lv_at hl 1 rfl) ?_
          refine lv_sipush (v := 1000) hx hb d_K_settle_68 (by decide) ?_
          refine lv_icmp_ge (tgt := 136) hx hb d_K_settle_71 (by decide) (fun hc => ?_) (fun hc => ?_)
          · rw [if_pos hc] at h
            exact hE60 _ _ _ _ (lv_sub hl [] rfl) w h
          · rw [if_neg hc] at h
            refine lv_aload_n hx hb d_K_settle_74 rfl (lv_at hl 0 rfl) ?_
            refine lv_iconst (v := 0) hx hb d_K_settle_75 (by decide) ?_
            obtain ⟨hz20, h⟩ := if_ok h
            obtain ⟨M21, eM21, h⟩ := wr_ok h
            try dsimp only at h
            refine U_put C0 (cX_l ct) w 4 (by decide) rfl rfl inK tyK_ok nmK 7 (by decide) wd_238 rfl (bz_nar hz20) (bz_fit hz20) (Nat.le_of_ble_eq_true rfl) d_K_settle_76 eM21 rfl (fun H locs w => ?_)
            refine lv_iconst (v := 0) hx hb d_K_settle_79 (by decide) ?_
            refine lv_istore_n hx hb d_K_settle_80 rfl hl (by decide) rfl (fun ls hl => ?_)
            have hl : lv_has ls 3 [(2, .int 0), (0, .ref (q 4)), (1, .int v1)] := hl
            generalize eK81 : j_K_settle_130 (l_K_settle_60 K60 n) K60 = K81 at h
            have hE81 : ∀ (v1 : Int32) (M : Sto) (H : Heap) (locs : List Loc) (ls : Array Slot), lv_has ls 3 [(0, .ref (q 4)), (1, .int v1)] → Wd D A s (wX ct q M) H locs → K81 v1 M = some (rz, Mz) → W p l e rm_K_settle s m args below meth c H locs 0 0 Q (F0 m 130 ls []) := by
              intro v1 M H locs ls hl w h
              rw [← eK81] at h
              unfold j_K_settle_130 at h
              refine lv_iinc (k := 1) (v := v1 + 1) hx hb d_K_settle_130 hl rfl (inc1 _) (by decide) rfl (fun ls hl => ?_)
              have hl : lv_has ls 3 [(1, .int (v1 + 1)), (0, .ref (q 4))] := hl
              refine lv_goto (tgt := 60) hx hb d_K_settle_133 (by decide) ?_
              exact ih60 _ _ _ _ _ (lv_sub hl [1, 0] rfl) w h
            have hL81 : ∀ (n : Nat) (v1 v2 : Int32) (M : Sto) (H : Heap) (locs : List Loc) (ls : Array Slot), lv_has ls 3 [(0, .ref (q 4)), (1, .int v1), (2, .int v2)] → Wd D A s (wX ct q M) H locs → l_K_settle_81 K81 n v1 v2 M = some (rz, Mz) → W p l e rm_K_settle s m args below meth c H locs 0 0 Q (F0 m 81 ls []) := by
              intro n
              induction n with
              | zero => intro v1 v2 M H locs ls hl w h; simp [l_K_settle_81] at h
              | succ n ih81 =>
                intro v1 v2 M H locs ls hl w h
                unfold l_K_settle_81 at h
                refine lv_iload_n hx hb d_K_settle_81 rfl (lv_at hl 2 rfl) ?_
                refine lv_aload_n hx hb d_K_settle_82 rfl (lv_at hl 0 rfl) ?_
                refine U_get C0 w 4 (by decide) rfl rfl inK 1 (by decide) wd_225 rfl d_K_settle_83 ?_
                refine U_get C0 w 2 (by decide) rfl rfl inS 7 (by decide) wd_115 rfl d_K_settle_86 ?_
                refine lv_icmp_ge (tgt := 130) hx hb d_K_settle_89 (by decide) (fun hc => ?_) (fun hc => ?_)
                · rw [if_pos hc] at h
                  exact hE81 _ _ _ _ _ (lv_sub hl [0, 1] rfl) w h
                · rw [if_neg hc] at h
                  refine lv_aload_n hx hb d_K_settle_92 rfl (lv_at hl 0 rfl) ?_
                  refine U_get C0 w 4 (by decide) rfl rfl inK 3 (by decide) wd_228 rfl d_K_settle_93 ?_
                  refine lv_aload_n hx hb d_K_settle_96 rfl (lv_at hl 0 rfl) ?_
                  refine U_get C0 w 4 (by decide) rfl rfl inK 1 (by decide) wd_225 rfl d_K_settle_97 ?_
                  refine U_get C0 w 2 (by decide) rfl rfl inS 6 (by decide) wd_113 rfl d_K_settle_100 ?_
                  refine lv_iload_n hx hb d_K_settle_103 rfl (lv_at hl 2 rfl) ?_
                  obtain ⟨hi22, h⟩ := if_ok h
                  refine U_ald C0 w (iX_16 ct) hi22 d_K_settle_104 ?_
                  obtain ⟨r23, M24, hc25, h⟩ := bind_ok h
                  try dsimp only at h
                  refine U_siN (rest := []) C0 w (c_N_holds l D ct q hc25) wd_568 (C0.2.2.2.2.2.2.nest ("NameForge$Known", 59, ⟨"NameForge", "holds", "(II)Z"⟩) (by decide)) wd_567 wd_1 (n9 := 2) (by decide +kernel) rfl ⟨(Nat.le_of_ble_eq_true rfl), (Nat.le_of_ble_eq_true rfl)⟩ hl.1 rfl (Nat.le_of_ble_eq_true rfl) d_K_settle_105 (Nat.le_of_ble_eq_true rfl) (Nat.le_of_ble_eq_true rfl) (fun H locs w => ?_)
                  have hJ124 : ∀ (v1 v2 : Int32) (M : Sto) (H : Heap) (locs : List Loc) (ls : Array Slot), lv_has ls 3 [(0, .ref (q 4)), (1, .int v1), (2, .int v2)] → Wd D A s (wX ct q M) H locs → j_K_settle_124 (l_K_settle_81 K81 n) K81 v1 v2 M = some (rz, Mz) → W p l e rm_K_settle s m args below meth c H locs 0 0 Q (F0 m 124 ls []) := by
                    intro v1 v2 M H locs ls hl w h
                    unfold j_K_settle_124 at h
                    refine lv_iinc (k := 2) (v := v2 + 1) hx hb d_K_settle_124 hl rfl (inc1 _) (by decide) rfl (fun ls hl => ?_)
                    have hl : lv_has ls 3 [(2, .int (v2 + 1)), (0, .ref (q 4)), (1, .int v1)] := hl
                    refine lv_goto (tgt := 81) hx hb d_K_settle_127 (by decide) ?_
                    exact ih81 _ _ _ _ _ _ (lv_sub hl [1, 2, 0] rfl) w h
                  refine lv_if_eq (tgt := 124) hx hb d_K_settle_108 (by decide) (fun hc => ?_) (fun hc => ?_)
                  · rw [if_pos hc] at h
                    exact hJ124 _ _ _ _ _ _ (lv_sub hl [0, 1, 2] rfl) w h
                  · rw [if_neg hc] at h
                    refine lv_aload_n hx hb d_K_settle_111 rfl (lv_at hl 0 rfl) ?_
                    refine lv_aload_n hx hb d_K_settle_112 rfl (lv_at hl 0 rfl) ?_
                    refine U_get C0 w 4 (by decide) rfl rfl inK 1 (by decide) wd_225 rfl d_K_settle_113 ?_
                    refine U_get C0 w 2 (by decide) rfl rfl inS 6 (by decide) wd_113 rfl d_K_settle_116 ?_
                    refine lv_iload_n hx hb d_K_settle_119 rfl (lv_at hl 2 rfl) ?_
                    obtain ⟨hi26, h⟩ := if_ok h
                    refine U_ald C0 w (iX_16 ct) hi26 d_K_settle_120 ?_
                    obtain ⟨r27, M28, hc29, h⟩ := bind_ok h
                    try dsimp only at h
                    refine U_vv (rest := []) C0 w 4 (wU_at (by decide)) rfl (c_K_passBlock l D ct q hc29) wd_637 wd_634 wd_636 ws_12 wd_5 (n9 := 1) (by decide +kernel) rfl ⟨(Nat.le_of_ble_eq_true rfl), (Nat.le_of_ble_eq_true rfl)⟩ hl.1 rfl (Nat.le_of_ble_eq_true rfl) d_K_settle_121 (Nat.le_of_ble_eq_true rfl) (Nat.le_of_ble_eq_true rfl) (fun H locs w => ?_)
                    exact hJ124 _ _ _ _ _ _ (lv_sub hl [0, 1, 2] rfl) w h
            exact hL81 FU _ _ _ _ _ _ (lv_sub hl [1, 2, 0] rfl) w h
    exact hL60 FU _ _ _ _ _ (lv_sub hl [1, 0] rfl) w h
  have hL26 : ∀ (n : Nat) (v1 : Int32) (M : Sto) (H : Heap) (locs : List Loc) (ls : Array Slot), lv_has ls 3 [(0, .ref (q 4)), (1, .int v1)] → Wd D A s (wX ct q M) H locs → l_K_settle_26 K26 n v1 M = some (rz, Mz) → W p l e rm_K_settle s m args below meth c H locs 0 0 Q (F0 m 26 ls []) := by
    intro n
    induction n with
    | zero => intro v1 M H locs ls hl w h; simp [l_K_settle_26] at h
    | succ n ih26 =>
      intro v1 M H locs ls hl w h
      unfold l_K_settle_26 at h
      refine lv_iload_n hx hb d_K_settle_26 rfl (lv_at hl 1 rfl) ?_
      refine lv_bipush (v := 6) hx hb d_K_settle_27 (by decide) ?_
      refine lv_icmp_ge (tgt := 45) hx hb d_K_settle_29 (by decide) (fun hc => ?_) (fun hc => ?_)
      · rw [if_pos hc] at h
        exact hE26 _ _ _ _ (lv_sub hl [0] rfl) w h
      · rw [if_neg hc] at h
        refine lv_aload_n hx hb d_K_settle_32 rfl (lv_at hl 0 rfl) ?_
        refine U_get C0 w 4 (by decide) rfl rfl inK 5 (by decide) wd_231 rfl d_K_settle_33 ?_
        refine lv_iload_n hx hb d_K_settle_36 rfl (lv_at hl 1 rfl) ?_
        refine lv_iconst (v := 1) hx hb d_K_settle_37 (by decide) ?_
        obtain ⟨hi30, h⟩ := if_ok h
        obtain ⟨M31, eM31, h⟩ := wr_ok h
        try dsimp only at h
        refine U_ast C0 (cX_l ct) w (iX_25 ct) hi30 d_K_settle_38 eM31 (fun H locs w => ?_)
        refine lv_iinc (k := 1) (v := v1 + 1) hx hb d_K_settle_39 hl rfl (inc1 _) (by decide) rfl (fun ls hl => ?_)
        have hl : lv_has ls 3 [(1, .int (v1 + 1)), (0, .ref (q 4))] := hl
        refine lv_goto (tgt := 26) hx hb d_K_settle_42 (by decide) ?_
        exact ih26 _ _ _ _ _ (lv_sub hl [1, 0] rfl) w h
  exact hL26 FU _ _ _ _ _ (lv_sub hl [1, 0] rfl) w h
abbrev rm_D_need : Room := { frames := 0, cells := 0, slots := 0, locals := 0 }
set_option maxHeartbeats 8000000 in
set_option maxRecDepth 100000 in
theorem c_D_need (l : Launch) (D : va_G) (ct : Nat → ClassId) (q : Nat → Nat) {x1 : Int32} {M Mz : Sto} {rz : Int32} (h : m_D_need x1 M = some (rz, Mz)) : KV l D ct y_D_need b_D_need 2 0 0 0 0 [.ref (q 5), .int x1] (wX ct q M) (fun A t => CE D (wX ct q Mz) A t) := by
  refine KV.ofU (by decide) (Nat.le_of_ble_eq_true rfl) ?_
  intro p e s m args below meth c A Q ls C0 hl w hret
  have hx := C0.1
  have hb := C0.2.1
  have hl : lv_has ls 2 [(0, .ref (q 5)), (1, .int x1)] := hl
  unfold m_D_need at h
  refine lv_iload_n hx hb d_D_need_0 rfl (lv_at hl 1 rfl) ?_
  refine lv_iconst (v := (-1)) hx hb d_D_need_1 (by decide) ?_
  have hJ41 : ∀ (M : Sto) (H : Heap) (locs : List Loc) (ls : Array Slot), lv_has ls 2 [] → Wd D A s (wX ct q M) H locs → j_D_need_41 M = some (rz, Mz) → W p l e rm_D_need s m args below meth c H locs 0 0 Q (F0 m 41 ls []) := by
    intro M H locs ls hl w h
    unfold j_D_need_41 at h
    cases h
    exact hret _ _ _ _ d_D_need_41 w
  refine lv_icmp_eq (tgt := 41) hx hb d_D_need_2 (by decide) (fun hc => ?_) (fun hc => ?_)
  · rw [if_pos hc] at h
    exact hJ41 _ _ _ _ (lv_sub hl [] rfl) w h
  · rw [if_neg hc] at h
    refine lv_aload_n hx hb d_D_need_5 rfl (lv_at hl 0 rfl) ?_
    refine U_get C0 w 5 (by decide) rfl rfl inD 3 (by decide) wd_265 rfl d_D_need_6 ?_
    refine lv_iload_n hx hb d_D_need_9 rfl (lv_at hl 1 rfl) ?_
    obtain ⟨hi4, h⟩ := if_ok h
    refine U_zld C0 w (zX_27 ct) hi4 d_D_need_10 ?_
    refine lv_if_ne (tgt := 41) hx hb d_D_need_11 (by decide) (fun hc => ?_) (fun hc => ?_)
    · rw [if_neg hc] at h
      exact hJ41 _ _ _ _ (lv_sub hl [] rfl) w h
    · rw [if_pos hc] at h
      refine lv_aload_n hx hb d_D_need_14 rfl (lv_at hl 0 rfl) ?_
      refine U_get C0 w 5 (by decide) rfl rfl inD 3 (by decide) wd_265 rfl d_D_need_15 ?_
      refine lv_iload_n hx hb d_D_need_18 rfl (lv_at hl 1 rfl) ?_
      refine lv_iconst (v := 1) hx hb d_D_need_19 (by decide) ?_
      obtain ⟨hi5, h⟩ := if_ok h
      obtain ⟨hz6, h⟩ := if_ok h
      obtain ⟨M7, eM7, h⟩ := wr_ok h
      try dsimp only at h
      refine U_zst C0 (cX_l ct) w (zX_27 ct) hi5 hz6 d_D_need_20 eM7 (fun H locs w => ?_)
      refine lv_aload_n hx hb d_D_need_21 rfl (lv_at hl 0 rfl) ?_
      refine U_get C0 w 5 (by decide) rfl rfl inD 4 (by decide) wd_268 rfl d_D_need_22 ?_
      refine lv_aload_n hx hb d_D_need_25 rfl (lv_at hl 0 rfl) ?_
      refine U_get C0 w 5 (by decide) rfl rfl inD 5 (by decide) wd_269 rfl d_D_need_26 ?_
      refine lv_iload_n hx hb d_D_need_29 rfl (lv_at hl 1 rfl) ?_
      obtain ⟨hi8, h⟩ := if_ok h
      obtain ⟨M9, eM9, h⟩ := wr_ok h
      try dsimp only at h
      refine U_ast C0 (cX_l ct) w (iX_28 ct) hi8 d_D_need_30 eM9 (fun H locs w => ?_)
      refine lv_aload_n hx hb d_D_need_31 rfl (lv_at hl 0 rfl) ?_
      refine lv_dup hx hb d_D_need_32 rfl ?_
      refine U_get C0 w 5 (by decide) rfl rfl inD 5 (by decide) wd_269 rfl d_D_need_33 ?_
      refine lv_iconst (v := 1) hx hb d_D_need_36 (by decide) ?_
      refine lv_iadd hx hb d_D_need_37 ?_
      obtain ⟨M10, eM10, h⟩ := wr_ok h
      try dsimp only at h
      refine U_put C0 (cX_l ct) w 5 (by decide) rfl rfl inD tyD_ok nmD 5 (by decide) wd_269 rfl rfl rfl (Nat.le_of_ble_eq_true rfl) d_D_need_38 eM10 rfl (fun H locs w => ?_)
      exact hJ41 _ _ _ _ (lv_sub hl [] rfl) w h
end
section
abbrev rm_D_needByBlock : Room := { frames := 1, cells := 0, slots := 0, locals := 21 }
set_option maxHeartbeats 8000000 in
set_option maxRecDepth 100000 in
theorem c_D_needByBlock (l : Launch) (D : va_G) (ct : Nat → ClassId) (q : Nat → Nat) {x1 : Int32} {M Mz : Sto} {rz : Int32} (h : m_D_needByBlock x1 M = some (rz, Mz)) : KV l D ct y_D_needByBlock b_D_needByBlock 4 1 21 0 0 [.ref (q 5), .int x1] (wX ct q M) (fun A t => CE D (wX ct q Mz) A t) := by
  refine KV.ofU (by decide) (Nat.le_of_ble_eq_true rfl) ?_
  intro p e s m args below meth c A Q ls C0 hl w hret
  have hx := C0.1
  have hb := C0.2.1
  have hl : lv_has ls 4 [(0, .ref (q 5)), (1, .int x1)] := hl
  unfold m_D_needByBlock at h
  refine lv_iconst (v := 0) hx hb d_D_needByBlock_0 (by decide) ?_
  refine lv_istore_n hx hb d_D_needByBlock_1 rfl hl (by decide) rfl (fun ls hl => ?_)
  have hl : lv_has ls 4 [(2, .int 0), (0, .ref (q 5)), (1, .int x1)] := hl
  generalize eK2 : j_D_needByBlock_78 = K2 at h
  have hE2 : ∀ (v1 : Int32) (M : Sto) (H : Heap) (locs : List Loc) (ls : Array Slot), lv_has ls 4 [(0, .ref (q 5)), (1, .int v1)] → Wd D A s (wX ct q M) H locs → K2 v1 M = some (rz, Mz) → W p l e rm_D_needByBlock s m args below meth c H locs 0 0 Q (F0 m 78 ls []) := by
    intro v1 M H locs ls hl w h
    rw [← eK2] at h
    unfold j_D_needByBlock_78 at h
    refine lv_aload_n hx hb d_D_needByBlock_78 rfl (lv_at hl 0 rfl) ?_
    refine U_get C0 w 5 (by decide) rfl rfl inD 1 (by decide) wd_263 rfl d_D_needByBlock_79 ?_
    refine U_get C0 w 3 (by decide) rfl rfl inG 10 (by decide) wd_178 rfl d_D_needByBlock_82 ?_
    refine lv_iload_n hx hb d_D_needByBlock_85 rfl (lv_at hl 1 rfl) ?_
    obtain ⟨hi4, h⟩ := if_ok h
    refine U_ald C0 w (iX_20 ct) hi4 d_D_needByBlock_86 ?_
    refine lv_istore_n hx hb d_D_needByBlock_87 rfl hl (by decide) rfl (fun ls hl => ?_)
    have hl : lv_has ls 4 [(2, .int (M 20 v1.toNatClampNeg)), (0, .ref (q 5)), (1, .int v1)] := hl
    refine lv_iload_n hx hb d_D_needByBlock_88 rfl (lv_at hl 0 rfl) ?_
    refine lv_iconst (v := (-1)) hx hb d_D_needByBlock_89 (by decide) ?_
    have hJ111 : ∀ (M : Sto) (H : Heap) (locs : List Loc) (ls : Array Slot), lv_has ls 4 [] → Wd D A s (wX ct q M) H locs → j_D_needByBlock_111 M = some (rz, Mz) → W p l e rm_D_needByBlock s m args below meth c H locs 0 0 Q (F0 m 111 ls []) := by
      intro M H locs ls hl w h
      unfold j_D_needByBlock_111 at h
      cases h
      exact hret _ _ _ _ d_D_needByBlock_111 w
    refine lv_icmp_eq (tgt := 111) hx hb d_D_needByBlock_90 (by decide) (fun hc => ?_) (fun hc => ?_)
    · rw [if_pos hc] at h
      exact hJ111 _ _ _ _ (lv_sub hl [] rfl) w h
    · rw [if_neg hc] at h
      refine lv_aload_n hx hb d_D_needByBlock_93 rfl (lv_at hl 1 rfl) ?_
      refine U_get C0 w 5 (by decide) rfl rfl inD 2 (by decide) wd_264 rfl d_D_needByBlock_94 ?_
      refine U_get C0 w 4 (by decide) rfl rfl inK 5 (by decide) wd_232 rfl d_D_needByBlock_97 ?_
      refine lv_iload_n hx hb d_D_needByBlock_100 rfl (lv_at hl 0 rfl) ?_
      obtain ⟨hi5, h⟩ := if_ok h
      refine U_ald C0 w (iX_25 ct) hi5 d_D_needByBlock_101 ?_
      refine lv_iconst (v := 2) hx hb d_D_needByBlock_102 (by decide) ?_
      refine lv_icmp_ne (tgt := 111) hx hb d_D_needByBlock_103 (by decide) (fun hc => ?_) (fun hc => ?_)
      · rw [if_neg hc] at h
        exact hJ111 _ _ _ _ (lv_sub hl [] rfl) w h
      · rw [if_pos hc] at h
        refine lv_aload_n hx hb d_D_needByBlock_106 rfl (lv_at hl 1 rfl) ?_
        refine lv_iload_n hx hb d_D_needByBlock_107 rfl (lv_at hl 0 rfl) ?_
        obtain ⟨r6, M7, hc8, h⟩ := bind_ok h
        try dsimp only at h
        refine U_vv (rest := []) C0 w 5 (wU_at (by decide)) rfl (c_D_need l D ct q hc8) wd_678 wd_675 wd_677 ws_19 wd_6 (n9 := 1) (by decide +kernel) rfl ⟨(Nat.le_of_ble_eq_true rfl), (Nat.le_of_ble_eq_true rfl)⟩ hl.1 rfl (Nat.le_of_ble_eq_true rfl) d_D_needByBlock_108 (Nat.le_of_ble_eq_true rfl) (Nat.le_of_ble_eq_true rfl) (fun H locs w => ?_)
        exact hJ111 _ _ _ _ (lv_sub hl [] rfl) w h
  have hL2 : ∀ (n : Nat) (v1 v2 : Int32) (M : Sto) (H : Heap) (locs : List Loc) (ls : Array Slot), lv_has ls 4 [(0, .ref (q 5)), (1, .int v1), (2, .int v2)] → Wd D A s (wX ct q M) H locs → l_D_needByBlock_2 K2 n v1 v2 M = some (rz, Mz) → W p l e rm_D_needByBlock s m args below meth c H locs 0 0 Q (F0 m 2 ls []) := by
    intro n
    induction n with
    | zero => intro v1 v2 M H locs ls hl w h; simp [l_D_needByBlock_2] at h
    | succ n ih2 =>
      intro v1 v2 M H locs ls hl w h
      unfold l_D_needByBlock_2 at h
      refine lv_iload_n hx hb d_D_needByBlock_2 rfl (lv_at hl 2 rfl) ?_
      refine lv_aload_n hx hb d_D_needByBlock_3 rfl (lv_at hl 0 rfl) ?_
      refine U_get C0 w 5 (by decide) rfl rfl inD 0 (by decide) wd_262 rfl d_D_needByBlock_4 ?_
      refine U_get C0 w 1 (by decide) rfl rfl inP 1 (by decide) wd_40 rfl d_D_needByBlock_7 ?_
      refine lv_iload_n hx hb d_D_needByBlock_10 rfl (lv_at hl 1 rfl) ?_
      obtain ⟨hi9, h⟩ := if_ok h
      refine U_ald C0 w (iX_7 ct) hi9 d_D_needByBlock_11 ?_
      refine lv_icmp_ge (tgt := 78) hx hb d_D_needByBlock_12 (by decide) (fun hc => ?_) (fun hc => ?_)
      · rw [if_pos hc] at h
        exact hE2 _ _ _ _ _ (lv_sub hl [0, 1] rfl) w h
      · rw [if_neg hc] at h
        refine lv_aload_n hx hb d_D_needByBlock_15 rfl (lv_at hl 0 rfl) ?_
        refine U_get C0 w 5 (by decide) rfl rfl inD 0 (by decide) wd_262 rfl d_D_needByBlock_16 ?_
        refine U_get C0 w 1 (by decide) rfl rfl inP 2 (by decide) wd_46 rfl d_D_needByBlock_19 ?_
        refine lv_iload_n hx hb d_D_needByBlock_22 rfl (lv_at hl 1 rfl) ?_
        obtain ⟨hi10, h⟩ := if_ok h
        refine U_gld C0 w (gX_34 ct) hi10 d_D_needByBlock_23 ?_
        refine lv_iload_n hx hb d_D_needByBlock_24 rfl (lv_at hl 2 rfl) ?_
        obtain ⟨hi11, h⟩ := if_ok h
        refine U_ald C0 w (rowI ct (b := 43) (by decide) (by decide) hi10) hi11 d_D_needByBlock_25 ?_
        refine lv_istore_n hx hb d_D_needByBlock_26 rfl hl (by decide) rfl (fun ls hl => ?_)
        have hl : lv_has ls 4 [(3, .int (M (43 + v1.toNatClampNeg) v2.toNatClampNeg)), (0, .ref (q 5)), (1, .int v1), (2, .int v2)] := hl
        refine lv_iload_n hx hb d_D_needByBlock_27 rfl (lv_at hl 0 rfl) ?_
        refine lv_bipush (v := 7) hx hb d_D_needByBlock_28 (by decide) ?_
        have hJ72 : ∀ (v1 v2 : Int32) (M : Sto) (H : Heap) (locs : List Loc) (ls : Array Slot), lv_has ls 4 [(0, .ref (q 5)), (1, .int v1), (2, .int v2)] → Wd D A s (wX ct q M) H locs → j_D_needByBlock_72 (l_D_needByBlock_2 K2 n) K2 v1 v2 M = some (rz, Mz) → W p l e rm_D_needByBlock s m args below meth c H locs 0 0 Q (F0 m 72 ls []) := by
          intro v1 v2 M H locs ls hl w h
          unfold j_D_needByBlock_72 at h
          refine lv_iinc (k := 2) (v := v2 + 1) hx hb d_D_needByBlock_72 hl rfl (inc1 _) (by decide) rfl (fun ls hl => ?_)
          have hl : lv_has ls 4 [(2, .int (v2 + 1)), (0, .ref (q 5)), (1, .int v1)] := hl
          refine lv_goto (tgt := 2) hx hb d_D_needByBlock_75 (by decide) ?_
          exact ih2 _ _ _ _ _ _ (lv_sub hl [1, 2, 0] rfl) w h
        refine lv_icmp_ne (tgt := 51) hx hb d_D_needByBlock_30 (by decide) (fun hc => ?_) (fun hc => ?_)
        · rw [if_neg hc] at h
          refine lv_iload_n hx hb d_D_needByBlock_51 rfl (lv_at hl 0 rfl) ?_
          refine lv_bipush (v := 6) hx hb d_D_needByBlock_52 (by decide) ?_
          refine lv_icmp_ne (tgt := 72) hx hb d_D_needByBlock_54 (by decide) (fun hc => ?_) (fun hc => ?_)
          · rw [if_neg hc] at h
            exact hJ72 _ _ _ _ _ _ (lv_sub hl [1, 2, 3] rfl) w h
          · rw [if_pos hc] at h
            refine lv_aload_n hx hb d_D_needByBlock_57 rfl (lv_at hl 1 rfl) ?_
            refine lv_aload_n hx hb d_D_needByBlock_58 rfl (lv_at hl 1 rfl) ?_
            refine U_get C0 w 5 (by decide) rfl rfl inD 1 (by decide) wd_263 rfl d_D_needByBlock_59 ?_
            refine U_get C0 w 3 (by decide) rfl rfl inG 7 (by decide) wd_163 rfl d_D_needByBlock_62 ?_
            refine lv_iload_n hx hb d_D_needByBlock_65 rfl (lv_at hl 2 rfl) ?_
            obtain ⟨hi12, h⟩ := if_ok h
            refine U_gld C0 w (gX_40 ct) hi12 d_D_needByBlock_66 ?_
            refine lv_iload_n hx hb d_D_needByBlock_67 rfl (lv_at hl 3 rfl) ?_
            obtain ⟨hi13, h⟩ := if_ok h
            refine U_ald C0 w (rowI ct (b := 103) (by decide) (by decide) hi12) hi13 d_D_needByBlock_68 ?_
            obtain ⟨r14, M15, hc16, h⟩ := bind_ok h
            try dsimp only at h
            refine U_vv (rest := []) C0 w 5 (wU_at (by decide)) rfl (c_D_need l D ct q hc16) wd_678 wd_675 wd_677 ws_19 wd_6 (n9 := 1) (by decide +kernel) rfl ⟨(Nat.le_of_ble_eq_true rfl), (Nat.le_of_ble_eq_true rfl)⟩ hl.1 rfl (Nat.le_of_ble_eq_true rfl) d_D_needByBlock_69 (Nat.le_of_ble_eq_true rfl) (Nat.le_of_ble_eq_true rfl) (fun H locs w => ?_)
            exact hJ72 _ _ _ _ _ _ (lv_sub hl [1, 2, 3] rfl) w h
        · rw [if_pos hc] at h
          refine lv_aload_n hx hb d_D_needByBlock_33 rfl (lv_at hl 1 rfl) ?_
          refine lv_aload_n hx hb d_D_needByBlock_34 rfl (lv_at hl 1 rfl) ?_
          refine U_get C0 w 5 (by decide) rfl rfl inD 1 (by decide) wd_263 rfl d_D_needByBlock_35 ?_
          refine U_get C0 w 3 (by decide) rfl rfl inG 8 (by decide) wd_168 rfl d_D_needByBlock_38 ?_
          refine lv_iload_n hx hb d_D_needByBlock_41 rfl (lv_at hl 2 rfl) ?_
          obtain ⟨hi17, h⟩ := if_ok h
          refine U_gld C0 w (gX_41 ct) hi17 d_D_needByBlock_42 ?_
          refine lv_iload_n hx hb d_D_needByBlock_43 rfl (lv_at hl 3 rfl) ?_
          obtain ⟨hi18, h⟩ := if_ok h
          refine U_ald C0 w (rowI ct (b := 113) (by decide) (by decide) hi17) hi18 d_D_needByBlock_44 ?_
          obtain ⟨r19, M20, hc21, h⟩ := bind_ok h
          try dsimp only at h
          refine U_vv (rest := []) C0 w 5 (wU_at (by decide)) rfl (c_D_need l D ct q hc21) wd_678 wd_675 wd_677 ws_19 wd_6 (n9 := 1) (by decide +kernel) rfl ⟨(Nat.le_of_ble_eq_true rfl), (Nat.le_of_ble_eq_true rfl)⟩ hl.1 rfl (Nat.le_of_ble_eq_true rfl) d_D_needByBlock_45 (Nat.le_of_ble_eq_true rfl) (Nat.le_of_ble_eq_true rfl) (fun H locs w => ?_)
          refine lv_goto (tgt := 72) hx hb d_D_needByBlock_48 (by decide) ?_
          exact hJ72 _ _ _ _ _ _ (lv_sub hl [1, 2, 3] rfl) w h
  exact hL2 FU _ _ _ _ _ _ (lv_sub hl [1, 2, 0] rfl) w h
abbrev rm_D_needPartsOfPhi : Room := { frames := 3, cells := 0, slots := 0, locals := 63 }
set_option maxHeartbeats 8000000 in
set_option maxRecDepth 100000 in
theorem c_D_needPartsOfPhi (l : Launch) (D : va_G) (ct : Nat → ClassId) (q : Nat → Nat) {x1 x2 : Int32} {M Mz : Sto} {rz : Int32} (h : m_D_needPartsOfPhi x1 x2 M = some (rz, Mz)) : KV l D ct y_D_needPartsOfPhi b_D_needPartsOfPhi 4 3 63 0 0 [.ref (q 5), .int x1, .int x2] (wX ct q M) (fun A t => CE D (wX ct q Mz) A t) := by
  refine KV.ofU (by decide) (Nat.le_of_ble_eq_true rfl) ?_
  intro p e s m args below meth c A Q ls C0 hl w hret
  have hx := C0.1
  have hb := C0.2.1
  have hl : lv_has ls 4 [(0, .ref (q 5)), (1, .int x1), (2, .int x2)] := hl
  unfold m_D_needPartsOfPhi at h
  refine lv_iconst (v := 0) hx hb d_D_needPartsOfPhi_0 (by decide) ?_
  refine lv_istore_n hx hb d_D_needPartsOfPhi_1 rfl hl (by decide) rfl (fun ls hl => ?_)
  have hl : lv_has ls 4 [(3, .int 0), (0, .ref (q 5)), (1, .int x1), (2, .int x2)] := hl
  generalize eK2 : j_D_needPartsOfPhi_46 = K2 at h
  have hE2 : ∀ (M : Sto) (H : Heap) (locs : List Loc) (ls : Array Slot), lv_has ls 4 [] → Wd D A s (wX ct q M) H locs → K2 M = some (rz, Mz) → W p l e rm_D_needPartsOfPhi s m args below meth c H locs 0 0 Q (F0 m 46 ls []) := by
    intro M H locs ls hl w h
    rw [← eK2] at h
    unfold j_D_needPartsOfPhi_46 at h
    cases h
    exact hret _ _ _ _ d_D_needPartsOfPhi_46 w
  have hL2 : ∀ (n : Nat) (v1 v2 v3 : Int32) (M : Sto) (H : Heap) (locs : List Loc) (ls : Array Slot), lv_has ls 4 [(0, .ref (q 5)), (1, .int v1), (2, .int v2), (3, .int v3)] → Wd D A s (wX ct q M) H locs → l_D_needPartsOfPhi_2 K2 n v1 v2 v3 M = some (rz, Mz) → W p l e rm_D_needPartsOfPhi s m args below meth c H locs 0 0 Q (F0 m 2 ls []) := by
    intro n
    induction n with
    | zero => intro v1 v2 v3 M H locs ls hl w h; simp [l_D_needPartsOfPhi_2] at h
    | succ n ih2 =>
      intro v1 v2 v3 M H locs ls hl w h
      unfold l_D_needPartsOfPhi_2 at h
      refine lv_iload_n hx hb d_D_needPartsOfPhi_2 rfl (lv_at hl 3 rfl) ?_
      refine lv_aload_n hx hb d_D_needPartsOfPhi_3 rfl (lv_at hl 0 rfl) ?_
      refine U_get C0 w 5 (by decide) rfl rfl inD 0 (by decide) wd_262 rfl d_D_needPartsOfPhi_4 ?_
      refine U_get C0 w 1 (by decide) rfl rfl inP 0 (by decide) wd_36 rfl d_D_needPartsOfPhi_7 ?_
      refine lv_icmp_ge (tgt := 46) hx hb d_D_needPartsOfPhi_10 (by decide) (fun hc => ?_) (fun hc => ?_)
      · rw [if_pos hc] at h
        exact hE2 _ _ _ _ (lv_sub hl [] rfl) w h
      · rw [if_neg hc] at h
        refine lv_aload_n hx hb d_D_needPartsOfPhi_13 rfl (lv_at hl 0 rfl) ?_
        refine U_get C0 w 5 (by decide) rfl rfl inD 2 (by decide) wd_264 rfl d_D_needPartsOfPhi_14 ?_
        refine lv_iload_n hx hb d_D_needPartsOfPhi_17 rfl (lv_at hl 3 rfl) ?_
        refine lv_iload_n hx hb d_D_needPartsOfPhi_18 rfl (lv_at hl 1 rfl) ?_
        obtain ⟨r3, M4, hc5, h⟩ := bind_ok h
        try dsimp only at h
        refine U_vi (rest := []) C0 w 4 (wU_at (by decide)) rfl (c_K_isWayTaken l D ct q hc5) wd_645 wd_687 wd_643 wd_644 wd_5 (n9 := 2) (by decide +kernel) rfl ⟨(Nat.le_of_ble_eq_true rfl), (Nat.le_of_ble_eq_true rfl)⟩ hl.1 rfl (Nat.le_of_ble_eq_true rfl) d_D_needPartsOfPhi_19 (Nat.le_of_ble_eq_true rfl) (Nat.le_of_ble_eq_true rfl) (fun H locs w => ?_)
        have hJ40 : ∀ (v1 v2 v3 : Int32) (M : Sto) (H : Heap) (locs : List Loc) (ls : Array Slot), lv_has ls 4 [(0, .ref (q 5)), (1, .int v1), (2, .int v2), (3, .int v3)] → Wd D A s (wX ct q M) H locs → j_D_needPartsOfPhi_40 (l_D_needPartsOfPhi_2 K2 n) K2 v1 v2 v3 M = some (rz, Mz) → W p l e rm_D_needPartsOfPhi s m args below meth c H locs 0 0 Q (F0 m 40 ls []) := by
          intro v1 v2 v3 M H locs ls hl w h
          unfold j_D_needPartsOfPhi_40 at h
          refine lv_iinc (k := 3) (v := v3 + 1) hx hb d_D_needPartsOfPhi_40 hl rfl (inc1 _) (by decide) rfl (fun ls hl => ?_)
          have hl : lv_has ls 4 [(3, .int (v3 + 1)), (0, .ref (q 5)), (1, .int v1), (2, .int v2)] := hl
          refine lv_goto (tgt := 2) hx hb d_D_needPartsOfPhi_43 (by decide) ?_
          exact ih2 _ _ _ _ _ _ _ (lv_sub hl [1, 2, 3, 0] rfl) w h
        refine lv_if_eq (tgt := 40) hx hb d_D_needPartsOfPhi_22 (by decide) (fun hc => ?_) (fun hc => ?_)
        · rw [if_pos hc] at h
          exact hJ40 _ _ _ _ _ _ _ (lv_sub hl [0, 1, 2, 3] rfl) w h
        · rw [if_neg hc] at h
          refine lv_aload_n hx hb d_D_needPartsOfPhi_25 rfl (lv_at hl 0 rfl) ?_
          refine lv_aload_n hx hb d_D_needPartsOfPhi_26 rfl (lv_at hl 0 rfl) ?_
          refine U_get C0 w 5 (by decide) rfl rfl inD 1 (by decide) wd_263 rfl d_D_needPartsOfPhi_27 ?_
          refine U_get C0 w 3 (by decide) rfl rfl inG 6 (by decide) wd_159 rfl d_D_needPartsOfPhi_30 ?_
          refine lv_iload_n hx hb d_D_needPartsOfPhi_33 rfl (lv_at hl 3 rfl) ?_
          obtain ⟨hi6, h⟩ := if_ok h
          refine U_gld C0 w (gX_39 ct) hi6 d_D_needPartsOfPhi_34 ?_
          refine lv_iload_n hx hb d_D_needPartsOfPhi_35 rfl (lv_at hl 2 rfl) ?_
          obtain ⟨hi7, h⟩ := if_ok h
          refine U_ald C0 w (rowI ct (b := 93) (by decide) (by decide) hi6) hi7 d_D_needPartsOfPhi_36 ?_
          obtain ⟨r8, M9, hc10, h⟩ := bind_ok h
          try dsimp only at h
          refine U_vv (rest := []) C0 w 5 (wU_at (by decide)) rfl (c_D_need l D ct q hc10) wd_678 wd_675 wd_677 ws_19 wd_6 (n9 := 1) (by decide +kernel) rfl ⟨(Nat.le_of_ble_eq_true rfl), (Nat.le_of_ble_eq_true rfl)⟩ hl.1 rfl (Nat.le_of_ble_eq_true rfl) d_D_needPartsOfPhi_37 (Nat.le_of_ble_eq_true rfl) (Nat.le_of_ble_eq_true rfl) (fun H locs w => ?_)
          exact hJ40 _ _ _ _ _ _ _ (lv_sub hl [0, 1, 2, 3] rfl) w h
  exact hL2 FU _ _ _ _ _ _ _ (lv_sub hl [1, 2, 3, 0] rfl) w h
abbrev rm_D_needPartsOf : Room := { frames := 4, cells := 0, slots := 0, locals := 86 }
set_option maxHeartbeats 8000000 in
set_option maxRecDepth 100000 in
theorem c_D_needPartsOf (l : Launch) (D : va_G) (ct : Nat → ClassId) (q : Nat → Nat) {x1 : Int32} {M Mz : Sto} {rz : Int32} (h : m_D_needPartsOf x1 M = some (rz, Mz)) : KV l D ct y_D_needPartsOf b_D_needPartsOf 4 4 86 0 0 [.ref (q 5), .int x1] (wX ct q M) (fun A t => CE D (wX ct q Mz) A t) := by
  refine KV.ofU (by decide) (Nat.le_of_ble_eq_true rfl) ?_
  intro p e s m args below meth c A Q ls C0 hl w hret
  have hx := C0.1
  have hb := C0.2.1
  have hl : lv_has ls 4 [(0, .ref (q 5)), (1, .int x1)] := hl
  unfold m_D_needPartsOf at h
  refine lv_aload_n hx hb d_D_needPartsOf_0 rfl (lv_at hl 0 rfl) ?_
  refine U_get C0 w 5 (by decide) rfl rfl inD 1 (by decide) wd_263 rfl d_D_needPartsOf_1 ?_
  refine U_get C0 w 3 (by decide) rfl rfl inG 11 (by decide) wd_183 rfl d_D_needPartsOf_4 ?_
  refine lv_iload_n hx hb d_D_needPartsOf_7 rfl (lv_at hl 1 rfl) ?_
  obtain ⟨hi4, h⟩ := if_ok h
  refine U_ald C0 w (iX_21 ct) hi4 d_D_needPartsOf_8 ?_
  refine lv_istore_n hx hb d_D_needPartsOf_9 rfl hl (by decide) rfl (fun ls hl => ?_)
  have hl : lv_has ls 4 [(2, .int (M 21 x1.toNatClampNeg)), (0, .ref (q 5)), (1, .int x1)] := hl
  refine lv_aload_n hx hb d_D_needPartsOf_10 rfl (lv_at hl 1 rfl) ?_
  refine U_get C0 w 5 (by decide) rfl rfl inD 1 (by decide) wd_263 rfl d_D_needPartsOf_11 ?_
  refine U_get C0 w 3 (by decide) rfl rfl inG 12 (by decide) wd_186 rfl d_D_needPartsOf_14 ?_
  refine lv_iload_n hx hb d_D_needPartsOf_17 rfl (lv_at hl 2 rfl) ?_
  obtain ⟨hi5, h⟩ := if_ok h
  refine U_ald C0 w (iX_22 ct) hi5 d_D_needPartsOf_18 ?_
  refine lv_istore_n hx hb d_D_needPartsOf_19 rfl hl (by decide) rfl (fun ls hl => ?_)
  have hl : lv_has ls 4 [(3, .int (M 22 x1.toNatClampNeg)), (2, .int (M 21 x1.toNatClampNeg)), (0, .ref (q 5)), (1, .int x1)] := hl
  refine lv_iload_n hx hb d_D_needPartsOf_20 rfl (lv_at hl 1 rfl) ?_
  refine lv_iconst (v := (-1)) hx hb d_D_needPartsOf_21 (by decide) ?_
  refine lv_icmp_ne (tgt := 26) hx hb d_D_needPartsOf_22 (by decide) (fun hc => ?_) (fun hc => ?_)
  · rw [if_neg hc] at h
    refine lv_iload_n hx hb d_D_needPartsOf_26 rfl (lv_at hl 0 rfl) ?_
    refine lv_iconst (v := (-1)) hx hb d_D_needPartsOf_27 (by decide) ?_
    have hJ78 : ∀ (M : Sto) (H : Heap) (locs : List Loc) (ls : Array Slot), lv_has ls 4 [] → Wd D A s (wX ct q M) H locs → j_D_needPartsOf_78 M = some (rz, Mz) → W p l e rm_D_needPartsOf s m args below meth c H locs 0 0 Q (F0 m 78 ls []) := by
      intro M H locs ls hl w h
      unfold j_D_needPartsOf_78 at h
      cases h
      exact hret _ _ _ _ d_D_needPartsOf_78 w
    refine lv_icmp_ne (tgt := 48) hx hb d_D_needPartsOf_28 (by decide) (fun hc => ?_) (fun hc => ?_)
    · rw [if_neg hc] at h
      refine lv_aload_n hx hb d_D_needPartsOf_48 rfl (lv_at hl 2 rfl) ?_
      refine lv_aload_n hx hb d_D_needPartsOf_49 rfl (lv_at hl 2 rfl) ?_
      refine U_get C0 w 5 (by decide) rfl rfl inD 1 (by decide) wd_263 rfl d_D_needPartsOf_50 ?_
      refine U_get C0 w 3 (by decide) rfl rfl inG 8 (by decide) wd_168 rfl d_D_needPartsOf_53 ?_
      refine lv_iload_n hx hb d_D_needPartsOf_56 rfl (lv_at hl 1 rfl) ?_
      obtain ⟨hi6, h⟩ := if_ok h
      refine U_gld C0 w (gX_41 ct) hi6 d_D_needPartsOf_57 ?_
      refine lv_iload_n hx hb d_D_needPartsOf_58 rfl (lv_at hl 0 rfl) ?_
      obtain ⟨hi7, h⟩ := if_ok h
      refine U_ald C0 w (rowI ct (b := 113) (by decide) (by decide) hi6) hi7 d_D_needPartsOf_59 ?_
      obtain ⟨r8, M9, hc10, h⟩ := bind_ok h
      try dsimp only at h
      refine U_vv (rest := []) C0 w 5 (wU_at (by decide)) rfl (c_D_need l D ct q hc10) wd_678 wd_675 wd_677 ws_19 wd_6 (n9 := 1) (by decide +kernel) rfl ⟨(Nat.le_of_ble_eq_true rfl), (Nat.le_of_ble_eq_true rfl)⟩ hl.1 rfl (Nat.le_of_ble_eq_true rfl) d_D_needPartsOf_60 (Nat.le_of_ble_eq_true rfl) (Nat.le_of_ble_eq_true rfl) (fun H locs w => ?_)
      refine lv_aload_n hx hb d_D_needPartsOf_63 rfl (lv_at hl 2 rfl) ?_
      refine lv_aload_n hx hb d_D_needPartsOf_64 rfl (lv_at hl 2 rfl) ?_
      refine U_get C0 w 5 (by decide) rfl rfl inD 1 (by decide) wd_263 rfl d_D_needPartsOf_65 ?_
      refine U_get C0 w 3 (by decide) rfl rfl inG 9 (by decide) wd_173 rfl d_D_needPartsOf_68 ?_
      refine lv_iload_n hx hb d_D_needPartsOf_71 rfl (lv_at hl 1 rfl) ?_
      obtain ⟨hi11, h⟩ := if_ok h
      refine U_gld C0 w (gX_42 ct) hi11 d_D_needPartsOf_72 ?_
      refine lv_iload_n hx hb d_D_needPartsOf_73 rfl (lv_at hl 0 rfl) ?_
      obtain ⟨hi12, h⟩ := if_ok h
      refine U_ald C0 w (rowI ct (b := 123) (by decide) (by decide) hi11) hi12 d_D_needPartsOf_74 ?_
      obtain ⟨r13, M14, hc15, h⟩ := bind_ok h
      try dsimp only at h
      refine U_vv (rest := []) C0 w 5 (wU_at (by decide)) rfl (c_D_need l D ct q hc15) wd_678 wd_675 wd_677 ws_19 wd_6 (n9 := 1) (by decide +kernel) rfl ⟨(Nat.le_of_ble_eq_true rfl), (Nat.le_of_ble_eq_true rfl)⟩ hl.1 rfl (Nat.le_of_ble_eq_true rfl) d_D_needPartsOf_75 (Nat.le_of_ble_eq_true rfl) (Nat.le_of_ble_eq_true rfl) (fun H locs w => ?_)
      exact hJ78 _ _ _ _ (lv_sub hl [] rfl) w h
    · rw [if_pos hc] at h
      refine lv_aload_n hx hb d_D_needPartsOf_31 rfl (lv_at hl 2 rfl) ?_
      refine lv_iload_n hx hb d_D_needPartsOf_32 rfl (lv_at hl 1 rfl) ?_
      refine lv_aload_n hx hb d_D_needPartsOf_33 rfl (lv_at hl 2 rfl) ?_
      refine U_get C0 w 5 (by decide) rfl rfl inD 1 (by decide) wd_263 rfl d_D_needPartsOf_34 ?_
      refine U_get C0 w 3 (by decide) rfl rfl inG 13 (by decide) wd_188 rfl d_D_needPartsOf_37 ?_
      refine lv_iload_n hx hb d_D_needPartsOf_40 rfl (lv_at hl 3 rfl) ?_
      obtain ⟨hi16, h⟩ := if_ok h
      refine U_ald C0 w (iX_23 ct) hi16 d_D_needPartsOf_41 ?_
      obtain ⟨r17, M18, hc19, h⟩ := bind_ok h
      try dsimp only at h
      refine U_vv (rest := []) C0 w 5 (wU_at (by decide)) rfl (c_D_needPartsOfPhi l D ct q hc19) wd_686 wd_683 wd_685 ws_21 wd_6 (n9 := 2) (by decide +kernel) rfl ⟨(Nat.le_of_ble_eq_true rfl), (Nat.le_of_ble_eq_true rfl)⟩ hl.1 rfl (Nat.le_of_ble_eq_true rfl) d_D_needPartsOf_42 (Nat.le_of_ble_eq_true rfl) (Nat.le_of_ble_eq_true rfl) (fun H locs w => ?_)
      refine lv_goto (tgt := 78) hx hb d_D_needPartsOf_45 (by decide) ?_
      exact hJ78 _ _ _ _ (lv_sub hl [] rfl) w h
  · rw [if_pos hc] at h
    cases h
    exact hret _ _ _ _ d_D_needPartsOf_25 w
abbrev rm_D_collect : Room := { frames := 5, cells := 0, slots := 0, locals := 109 }
set_option maxHeartbeats 8000000 in
set_option maxRecDepth 100000 in
theorem c_D_collect (l : Launch) (D : va_G) (ct : Nat → ClassId) (q : Nat → Nat) {M Mz : Sto} {rz : Int32} (h : m_D_collect M = some (rz, Mz)) : KV l D ct y_D_collect b_D_collect 2 5 109 0 0 [.ref (q 5)] (wX ct q M) (fun A t => CE D (wX ct q Mz) A t) := by
  refine KV.ofU (by decide) (Nat.le_of_ble_eq_true rfl) ?_
  intro p e s m args below meth c A Q ls C0 hl w hret
  have hx := C0.1
  have hb := C0.2.1
  have hl : lv_has ls 2 [(0, .ref (q 5))] := hl
  unfold m_D_collect at h
  refine lv_aload_n hx hb d_D_collect_0 rfl (lv_at hl 0 rfl) ?_
  refine lv_iconst (v := 0) hx hb d_D_collect_1 (by decide) ?_
  obtain ⟨M6, eM6, h⟩ := wr_ok h
  try dsimp only at h
  refine U_put C0 (cX_l ct) w 5 (by decide) rfl rfl inD tyD_ok nmD 5 (by decide) wd_269 rfl rfl rfl (Nat.le_of_ble_eq_true rfl) d_D_collect_2 eM6 rfl (fun H locs w => ?_)
  refine lv_iconst (v := 0) hx hb d_D_collect_5 (by decide) ?_
  refine lv_istore_n hx hb d_D_collect_6 rfl hl (by decide) rfl (fun ls hl => ?_)
  have hl : lv_has ls 2 [(1, .int 0), (0, .ref (q 5))] := hl
  generalize eK7 : j_D_collect_26 = K7 at h
  have hE7 : ∀ (M : Sto) (H : Heap) (locs : List Loc) (ls : Array Slot), lv_has ls 2 [(0, .ref (q 5))] → Wd D A s (wX ct q M) H locs → K7 M = some (rz, Mz) → W p l e rm_D_collect s m args below meth c H locs 0 0 Q (F0 m 26 ls []) := by
    intro M H locs ls hl w h
    rw [← eK7] at h
    unfold j_D_collect_26 at h
    refine lv_iconst (v := 0) hx hb d_D_collect_26 (by decide) ?_
    refine lv_istore_n hx hb d_D_collect_27 rfl hl (by decide) rfl (fun ls hl => ?_)
    have hl : lv_has ls 2 [(1, .int 0), (0, .ref (q 5))] := hl
    generalize eK28 : j_D_collect_64 = K28 at h
    have hE28 : ∀ (M : Sto) (H : Heap) (locs : List Loc) (ls : Array Slot), lv_has ls 2 [(0, .ref (q 5))] → Wd D A s (wX ct q M) H locs → K28 M = some (rz, Mz) → W p l e rm_D_collect s m args below meth c H locs 0 0 Q (F0 m 64 ls []) := by
      intro M H locs ls hl w h
      rw [← eK28] at h
      unfold j_D_collect_64 at h
      refine lv_iconst (v := 0) hx hb d_D_collect_64 (by decide) ?_
      refine lv_istore_n hx hb d_D_collect_65 rfl hl (by decide) rfl (fun ls hl => ?_)
      have hl : lv_has ls 2 [(1, .int 0), (0, .ref (q 5))] := hl
      generalize eK66 : j_D_collect_114 = K66 at h
      have hE66 : ∀ (M : Sto) (H : Heap) (locs : List Loc) (ls : Array Slot), lv_has ls 2 [] → Wd D A s (wX ct q M) H locs → K66 M = some (rz, Mz) → W p l e rm_D_collect s m args below meth c H locs 0 0 Q (F0 m 114 ls []) := by
        intro M H locs ls hl w h
        rw [← eK66] at h
        unfold j_D_collect_114 at h
        cases h
        exact hret _ _ _ _ d_D_collect_114 w
      have hL66 : ∀ (n : Nat) (v1 : Int32) (M : Sto) (H : Heap) (locs : List Loc) (ls : Array Slot), lv_has ls 2 [(0, .ref (q 5)), (1, .int v1)] → Wd D A s (wX ct q M) H locs → l_D_collect_66 K66 n v1 M = some (rz, Mz) → W p l e rm_D_collect s m args below meth c H locs 0 0 Q (F0 m 66 ls []) := by
        intro n
        induction n with
        | zero => intro v1 M H locs ls hl w h; simp [l_D_collect_66] at h
        | succ n ih66 =>
          intro v1 M H locs ls hl w h
          unfold l_D_collect_66 at h
          refine lv_iload_n hx hb d_D_collect_66 rfl (lv_at hl 1 rfl) ?_
          refine lv_aload_n hx hb d_D_collect_67 rfl (lv_at hl 0 rfl) ?_
          refine U_get C0 w 5 (by decide) rfl rfl inD 5 (by decide) wd_269 rfl d_D_collect_68 ?_
          refine lv_icmp_ge (tgt := 114) hx hb d_D_collect_71 (by decide) (fun hc => ?_) (fun hc => ?_)
          · rw [if_pos hc] at h
            exact hE66 _ _ _ _ (lv_sub hl [] rfl) w h
          · rw [if_neg hc] at h
            refine lv_iload_n hx hb d_D_collect_74 rfl (lv_at hl 1 rfl) ?_
            refine lv_bipush (v := 126) hx hb d_D_collect_75 (by decide) ?_
            refine lv_icmp_ge (tgt := 114) hx hb d_D_collect_77 (by decide) (fun hc => ?_) (fun hc => ?_)
            · rw [if_pos hc] at h
              exact hE66 _ _ _ _ (lv_sub hl [] rfl) w h
            · rw [if_neg hc] at h
              refine lv_aload_n hx hb d_D_collect_80 rfl (lv_at hl 0 rfl) ?_
              refine U_get C0 w 5 (by decide) rfl rfl inD 2 (by decide) wd_264 rfl d_D_collect_81 ?_
              refine U_get C0 w 4 (by decide) rfl rfl inK 5 (by decide) wd_232 rfl d_D_collect_84 ?_
              refine lv_aload_n hx hb d_D_collect_87 rfl (lv_at hl 0 rfl) ?_
              refine U_get C0 w 5 (by decide) rfl rfl inD 4 (by decide) wd_268 rfl d_D_collect_88 ?_
              refine lv_iload_n hx hb d_D_collect_91 rfl (lv_at hl 1 rfl) ?_
              obtain ⟨hi7, h⟩ := if_ok h
              refine U_ald C0 w (iX_28 ct) hi7 d_D_collect_92 ?_
              obtain ⟨hi8, h⟩ := if_ok h
              refine U_ald C0 w (iX_25 ct) hi8 d_D_collect_93 ?_
              refine lv_iconst (v := 1) hx hb d_D_collect_94 (by decide) ?_
              have hJ108 : ∀ (v1 : Int32) (M : Sto) (H : Heap) (locs : List Loc) (ls : Array Slot), lv_has ls 2 [(0, .ref (q 5)), (1, .int v1)] → Wd D A s (wX ct q M) H locs → j_D_collect_108 (l_D_collect_66 K66 n) K66 v1 M = some (rz, Mz) → W p l e rm_D_collect s m args below meth c H locs 0 0 Q (F0 m 108 ls []) := by
                intro v1 M H locs ls hl w h
                unfold j_D_collect_108 at h
                refine lv_iinc (k := 1) (v := v1 + 1) hx hb d_D_collect_108 hl rfl (inc1 _) (by decide) rfl (fun ls hl => ?_)
                have hl : lv_has ls 2 [(1, .int (v1 + 1)), (0, .ref (q 5))] := hl
                refine lv_goto (tgt := 66) hx hb d_D_collect_111 (by decide) ?_
                exact ih66 _ _ _ _ _ (lv_sub hl [1, 0] rfl) w h
              refine lv_icmp_eq (tgt := 108) hx hb d_D_collect_95 (by decide) (fun hc => ?_) (fun hc => ?_)
              · rw [if_pos hc] at h
                exact hJ108 _ _ _ _ _ (lv_sub hl [0, 1] rfl) w h
              · rw [if_neg hc] at h
                refine lv_aload_n hx hb d_D_collect_98 rfl (lv_at hl 0 rfl) ?_
                refine lv_aload_n hx hb d_D_collect_99 rfl (lv_at hl 0 rfl) ?_
                refine U_get C0 w 5 (by decide) rfl rfl inD 4 (by decide) wd_268 rfl d_D_collect_100 ?_
                refine lv_iload_n hx hb d_D_collect_103 rfl (lv_at hl 1 rfl) ?_
                obtain ⟨hi9, h⟩ := if_ok h
                refine U_ald C0 w (iX_28 ct) hi9 d_D_collect_104 ?_
                obtain ⟨r10, M11, hc12, h⟩ := bind_ok h
                try dsimp only at h
                refine U_vv (rest := []) C0 w 5 (wU_at (by decide)) rfl (c_D_needPartsOf l D ct q hc12) wd_682 wd_679 wd_681 ws_20 wd_6 (n9 := 1) (by decide +kernel) rfl ⟨(Nat.le_of_ble_eq_true rfl), (Nat.le_of_ble_eq_true rfl)⟩ hl.1 rfl (Nat.le_of_ble_eq_true rfl) d_D_collect_105 (Nat.le_of_ble_eq_true rfl) (Nat.le_of_ble_eq_true rfl) (fun H locs w => ?_)
                exact hJ108 _ _ _ _ _ (lv_sub hl [0, 1] rfl) w h
      exact hL66 FU _ _ _ _ _ (lv_sub hl [1, 0] rfl) w h
    have hL28 : ∀ (n : Nat) (v1 : Int32) (M : Sto) (H : Heap) (locs : List Loc) (ls : Array Slot), lv_has ls 2 [(0, .ref (q 5)), (1, .int v1)] → Wd D A s (wX ct q M) H locs → l_D_collect_28 K28 n v1 M = some (rz, Mz) → W p l e rm_D_collect s m args below meth c H locs 0 0 Q (F0 m 28 ls []) := by
      intro n
      induction n with
      | zero => intro v1 M H locs ls hl w h; simp [l_D_collect_28] at h
      | succ n ih28 =>
        intro v1 M H locs ls hl w h
        unfold l_D_collect_28 at h
        refine lv_iload_n hx hb d_D_collect_28 rfl (lv_at hl 1 rfl) ?_
        refine lv_aload_n hx hb d_D_collect_29 rfl (lv_at hl 0 rfl) ?_
        refine U_get C0 w 5 (by decide) rfl rfl inD 0 (by decide) wd_262 rfl d_D_collect_30 ?_
        refine U_get C0 w 1 (by decide) rfl rfl inP 0 (by decide) wd_36 rfl d_D_collect_33 ?_
        refine lv_icmp_ge (tgt := 64) hx hb d_D_collect_36 (by decide) (fun hc => ?_) (fun hc => ?_)
        · rw [if_pos hc] at h
          exact hE28 _ _ _ _ (lv_sub hl [0] rfl) w h
        · rw [if_neg hc] at h
          refine lv_aload_n hx hb d_D_collect_39 rfl (lv_at hl 0 rfl) ?_
          refine U_get C0 w 5 (by decide) rfl rfl inD 2 (by decide) wd_264 rfl d_D_collect_40 ?_
          refine U_get C0 w 4 (by decide) rfl rfl inK 3 (by decide) wd_227 rfl d_D_collect_43 ?_
          refine lv_iload_n hx hb d_D_collect_46 rfl (lv_at hl 1 rfl) ?_
          obtain ⟨r13, M14, hc15, h⟩ := bind_ok h
          try dsimp only at h
          refine U_siN (rest := []) C0 w (c_N_holds l D ct q hc15) wd_568 (C0.2.2.2.2.2.2.nest ("NameForge$Needed", 45, ⟨"NameForge", "holds", "(II)Z"⟩) (by decide)) wd_567 wd_1 (n9 := 2) (by decide +kernel) rfl ⟨(Nat.le_of_ble_eq_true rfl), (Nat.le_of_ble_eq_true rfl)⟩ hl.1 rfl (Nat.le_of_ble_eq_true rfl) d_D_collect_47 (Nat.le_of_ble_eq_true rfl) (Nat.le_of_ble_eq_true rfl) (fun H locs w => ?_)
          have hJ58 : ∀ (v1 : Int32) (M : Sto) (H : Heap) (locs : List Loc) (ls : Array Slot), lv_has ls 2 [(0, .ref (q 5)), (1, .int v1)] → Wd D A s (wX ct q M) H locs → j_D_collect_58 (l_D_collect_28 K28 n) K28 v1 M = some (rz, Mz) → W p l e rm_D_collect s m args below meth c H locs 0 0 Q (F0 m 58 ls []) := by
            intro v1 M H locs ls hl w h
            unfold j_D_collect_58 at h
            refine lv_iinc (k := 1) (v := v1 + 1) hx hb d_D_collect_58 hl rfl (inc1 _) (by decide) rfl (fun ls hl => ?_)
            have hl : lv_has ls 2 [(1, .int (v1 + 1)), (0, .ref (q 5))] := hl
            refine lv_goto (tgt := 28) hx hb d_D_collect_61 (by decide) ?_
            exact ih28 _ _ _ _ _ (lv_sub hl [1, 0] rfl) w h
          refine lv_if_eq (tgt := 58) hx hb d_D_collect_50 (by decide) (fun hc => ?_) (fun hc => ?_)
          · rw [if_pos hc] at h
            exact hJ58 _ _ _ _ _ (lv_sub hl [0, 1] rfl) w h
          · rw [if_neg hc] at h
            refine lv_aload_n hx hb d_D_collect_53 rfl (lv_at hl 0 rfl) ?_
            refine lv_iload_n hx hb d_D_collect_54 rfl (lv_at hl 1 rfl) ?_
            obtain ⟨r16, M17, hc18, h⟩ := bind_ok h
            try dsimp only at h
            refine U_vv (rest := []) C0 w 5 (wU_at (by decide)) rfl (c_D_needByBlock l D ct q hc18) wd_674 wd_671 wd_673 ws_18 wd_6 (n9 := 1) (by decide +kernel) rfl ⟨(Nat.le_of_ble_eq_true rfl), (Nat.le_of_ble_eq_true rfl)⟩ hl.1 rfl (Nat.le_of_ble_eq_true rfl) d_D_collect_55 (Nat.le_of_ble_eq_true rfl) (Nat.le_of_ble_eq_true rfl) (fun H locs w => ?_)
            exact hJ58 _ _ _ _ _ (lv_sub hl [0, 1] rfl) w h
    exact hL28 FU _ _ _ _ _ (lv_sub hl [1, 0] rfl) w h
  have hL7 : ∀ (n : Nat) (v1 : Int32) (M : Sto) (H : Heap) (locs : List Loc) (ls : Array Slot), lv_has ls 2 [(0, .ref (q 5)), (1, .int v1)] → Wd D A s (wX ct q M) H locs → l_D_collect_7 K7 n v1 M = some (rz, Mz) → W p l e rm_D_collect s m args below meth c H locs 0 0 Q (F0 m 7 ls []) := by
    intro n
    induction n with
    | zero => intro v1 M H locs ls hl w h; simp [l_D_collect_7] at h
    | succ n ih7 =>
      intro v1 M H locs ls hl w h
      unfold l_D_collect_7 at h
      refine lv_iload_n hx hb d_D_collect_7 rfl (lv_at hl 1 rfl) ?_
      refine lv_bipush (v := 126) hx hb d_D_collect_8 (by decide) ?_
      refine lv_icmp_ge (tgt := 26) hx hb d_D_collect_10 (by decide) (fun hc => ?_) (fun hc => ?_)
      · rw [if_pos hc] at h
        exact hE7 _ _ _ _ (lv_sub hl [0] rfl) w h
      · rw [if_neg hc] at h
        refine lv_aload_n hx hb d_D_collect_13 rfl (lv_at hl 0 rfl) ?_
        refine U_get C0 w 5 (by decide) rfl rfl inD 3 (by decide) wd_265 rfl d_D_collect_14 ?_
        refine lv_iload_n hx hb d_D_collect_17 rfl (lv_at hl 1 rfl) ?_
        refine lv_iconst (v := 0) hx hb d_D_collect_18 (by decide) ?_
        obtain ⟨hi19, h⟩ := if_ok h
        obtain ⟨hz20, h⟩ := if_ok h
        obtain ⟨M21, eM21, h⟩ := wr_ok h
        try dsimp only at h
        refine U_zst C0 (cX_l ct) w (zX_27 ct) hi19 hz20 d_D_collect_19 eM21 (fun H locs w => ?_)
        refine lv_iinc (k := 1) (v := v1 + 1) hx hb d_D_collect_20 hl rfl (inc1 _) (by decide) rfl (fun ls hl => ?_)
        have hl : lv_has ls 2 [(1, .int (v1 + 1)), (0, .ref (q 5))] := hl
        refine lv_goto (tgt := 7) hx hb d_D_collect_23 (by decide) ?_
        exact ih7 _ _ _ _ _ (lv_sub hl [1, 0] rfl) w h
  exact hL7 FU _ _ _ _ _ (lv_sub hl [1, 0] rfl) w h
abbrev rm_N_build : Room := { frames := 6, cells := 0, slots := 0, locals := 131 }
set_option maxHeartbeats 8000000 in
set_option maxRecDepth 100000 in
theorem c_N_build (l : Launch) (D : va_G) (ct : Nat → ClassId) (q : Nat → Nat) {M Mz : Sto} {rz : Int32} (h : m_N_build M = some (0, rz, Mz)) : KI l D ct y_N_build b_N_build 1 (some .int) 6 131 [.ref (q 0)] (wX ct q M) rz (wX ct q Mz) := by
  refine KI.ofU (by decide) (Nat.le_of_ble_eq_true rfl) rfl ?_
  intro p e s m args below meth c A Q ls C0 hl w hret
  have hx := C0.1
  have hb := C0.2.1
  have hl : lv_has ls 1 [(0, .ref (q 0))] := hl
  unfold m_N_build at h
  refine lv_aload_n hx hb d_N_build_0 rfl (lv_at hl 0 rfl) ?_
  refine U_get C0 w 0 (by decide) rfl rfl inN 0 (by decide) wd_339 rfl d_N_build_1 ?_
  refine U_get C0 w 1 (by decide) rfl rfl inP 0 (by decide) wd_33 rfl d_N_build_4 ?_
  refine lv_if_ne (tgt := 20) hx hb d_N_build_7 (by decide) (fun hc => ?_) (fun hc => ?_)
  · rw [if_neg hc] at h
    refine lv_aload_n hx hb d_N_build_20 rfl (lv_at hl 0 rfl) ?_
    refine U_get C0 w 0 (by decide) rfl rfl inN 1 (by decide) wd_340 rfl d_N_build_21 ?_
    obtain ⟨r6, M7, hc8, h⟩ := bind_ok h
    try dsimp only at h
    refine U_vv (rest := []) C0 w 2 (wU_at (by decide)) rfl (c_S_survey l D ct q hc8) wd_558 wd_555 wd_556 wd_557 wd_3 (n9 := 0) (by decide +kernel) rfl ⟨(Nat.le_of_ble_eq_true rfl), (Nat.le_of_ble_eq_true rfl)⟩ hl.1 rfl (Nat.le_of_ble_eq_true rfl) d_N_build_24 (Nat.le_of_ble_eq_true rfl) (Nat.le_of_ble_eq_true rfl) (fun H locs w => ?_)
    refine lv_aload_n hx hb d_N_build_27 rfl (lv_at hl 0 rfl) ?_
    refine U_get C0 w 0 (by decide) rfl rfl inN 2 (by decide) wd_341 rfl d_N_build_28 ?_
    obtain ⟨r9, M10, hc11, h⟩ := bind_ok h
    try dsimp only at h
    refine U_vv (rest := []) C0 w 3 (wU_at (by decide)) rfl (c_G_nameAll l D ct q hc11) wd_594 wd_591 wd_592 wd_593 wd_4 (n9 := 0) (by decide +kernel) rfl ⟨(Nat.le_of_ble_eq_true rfl), (Nat.le_of_ble_eq_true rfl)⟩ hl.1 rfl (Nat.le_of_ble_eq_true rfl) d_N_build_31 (Nat.le_of_ble_eq_true rfl) (Nat.le_of_ble_eq_true rfl) (fun H locs w => ?_)
    refine lv_aload_n hx hb d_N_build_34 rfl (lv_at hl 0 rfl) ?_
    refine U_get C0 w 0 (by decide) rfl rfl inN 3 (by decide) wd_342 rfl d_N_build_35 ?_
    obtain ⟨r12, M13, hc14, h⟩ := bind_ok h
    try dsimp only at h
    refine U_vv (rest := []) C0 w 4 (wU_at (by decide)) rfl (c_K_settle l D ct q hc14) wd_630 wd_627 wd_628 wd_629 wd_5 (n9 := 0) (by decide +kernel) rfl ⟨(Nat.le_of_ble_eq_true rfl), (Nat.le_of_ble_eq_true rfl)⟩ hl.1 rfl (Nat.le_of_ble_eq_true rfl) d_N_build_38 (Nat.le_of_ble_eq_true rfl) (Nat.le_of_ble_eq_true rfl) (fun H locs w => ?_)
    refine lv_aload_n hx hb d_N_build_41 rfl (lv_at hl 0 rfl) ?_
    refine U_get C0 w 0 (by decide) rfl rfl inN 4 (by decide) wd_343 rfl d_N_build_42 ?_
    obtain ⟨r15, M16, hc17, h⟩ := bind_ok h
    try dsimp only at h
    refine U_vv (rest := []) C0 w 5 (wU_at (by decide)) rfl (c_D_collect l D ct q hc17) wd_669 wd_666 wd_667 wd_668 wd_6 (n9 := 0) (by decide +kernel) rfl ⟨(Nat.le_of_ble_eq_true rfl), (Nat.le_of_ble_eq_true rfl)⟩ hl.1 rfl (Nat.le_of_ble_eq_true rfl) d_N_build_45 (Nat.le_of_ble_eq_true rfl) (Nat.le_of_ble_eq_true rfl) (fun H locs w => ?_)
    refine lv_aload_n hx hb d_N_build_48 rfl (lv_at hl 0 rfl) ?_
    refine lv_iconst (v := 1) hx hb d_N_build_49 (by decide) ?_
    obtain ⟨hz18, h⟩ := if_ok h
    obtain ⟨M19, eM19, h⟩ := wr_ok h
    try dsimp only at h
    refine U_put C0 (cX_l ct) w 0 (by decide) rfl rfl inN tyN_ok nmN 6 (by decide) wd_345 rfl (bz_nar hz18) (bz_fit hz18) (Nat.le_of_ble_eq_true rfl) d_N_build_50 eM19 rfl (fun H locs w => ?_)
    refine lv_aload_n hx hb d_N_build_53 rfl (lv_at hl 0 rfl) ?_
    refine U_get C0 w 0 (by decide) rfl rfl inN 2 (by decide) wd_341 rfl d_N_build_54 ?_
    refine U_get C0 w 3 (by decide) rfl rfl inG 2 (by decide) wd_147 rfl d_N_build_57 ?_
    cases h
    exact hret _ _ _ _ d_N_build_60 rfl w
  · rw [if_pos hc] at h
    simp at h
abbrev rm_N_look : Room := { frames := 2, cells := 0, slots := 0, locals := 41 }
set_option maxHeartbeats 8000000 in
set_option maxRecDepth 100000 in
theorem c_N_look (l : Launch) (D : va_G) (ct : Nat → ClassId) (q : Nat → Nat) {x1 x2 : Int32} {M Mz : Sto} {rz : Int32} (h : m_N_look x1 x2 M = some (0, rz, Mz)) : KI l D ct y_N_look b_N_look 3 (some .int) 2 41 [.ref (q 0), .int x1, .int x2] (wX ct q M) rz (wX ct q Mz) := by
  refine KI.ofU (by decide) (Nat.le_of_ble_eq_true rfl) rfl ?_
  intro p e s m args below meth c A Q ls C0 hl w hret
  have hx := C0.1
  have hb := C0.2.1
  have hl : lv_has ls 3 [(0, .ref (q 0)), (1, .int x1), (2, .int x2)] := hl
  unfold m_N_look at h
  refine lv_aload_n hx hb d_N_look_0 rfl (lv_at hl 0 rfl) ?_
  refine U_get C0 w 0 (by decide) rfl rfl inN 0 (by decide) wd_339 rfl d_N_look_1 ?_
  refine lv_iload_n hx hb d_N_look_4 rfl (lv_at hl 1 rfl) ?_
  obtain ⟨r4, M5, hc6, h⟩ := bind_ok h
  try dsimp only at h
  refine U_vi (rest := []) C0 w 1 (wU_at (by decide)) rfl (c_P_has l D ct q hc6) wd_480 wd_477 wd_478 wd_479 wd_2 (n9 := 1) (by decide +kernel) rfl ⟨(Nat.le_of_ble_eq_true rfl), (Nat.le_of_ble_eq_true rfl)⟩ hl.1 rfl (Nat.le_of_ble_eq_true rfl) d_N_look_5 (Nat.le_of_ble_eq_true rfl) (Nat.le_of_ble_eq_true rfl) (fun H locs w => ?_)
  have hJ20 : ∀ (M : Sto) (H : Heap) (locs : List Loc) (ls : Array Slot), lv_has ls 3 [] → Wd D A s (wX ct q M) H locs → j_N_look_20 M = some (0, rz, Mz) → W p l e rm_N_look s m args below meth c H locs 0 0 Q (F0 m 20 ls []) := by
    intro M H locs ls hl w h
    unfold j_N_look_20 at h
    simp at h
  refine lv_if_eq (tgt := 20) hx hb d_N_look_8 (by decide) (fun hc => ?_) (fun hc => ?_)
  · rw [if_pos hc] at h
    exact hJ20 _ _ _ _ (lv_sub hl [] rfl) w h
  · rw [if_neg hc] at h
    refine lv_iload_n hx hb d_N_look_11 rfl (lv_at hl 2 rfl) ?_
    refine lv_if_lt (tgt := 20) hx hb d_N_look_12 (by decide) (fun hc => ?_) (fun hc => ?_)
    · rw [if_pos hc] at h
      exact hJ20 _ _ _ _ (lv_sub hl [] rfl) w h
    · rw [if_neg hc] at h
      refine lv_iload_n hx hb d_N_look_15 rfl (lv_at hl 2 rfl) ?_
      refine lv_iconst (v := 5) hx hb d_N_look_16 (by decide) ?_
      refine lv_icmp_le (tgt := 30) hx hb d_N_look_17 (by decide) (fun hc => ?_) (fun hc => ?_)
      · rw [if_pos hc] at h
        refine lv_aload_n hx hb d_N_look_30 rfl (lv_at hl 0 rfl) ?_
        refine U_get C0 w 0 (by decide) rfl rfl inN 6 (by decide) wd_345 rfl d_N_look_31 ?_
        refine lv_if_ne (tgt := 47) hx hb d_N_look_34 (by decide) (fun hc => ?_) (fun hc => ?_)
        · rw [if_neg hc] at h
          refine lv_iload_n hx hb d_N_look_47 rfl (lv_at hl 2 rfl) ?_
          refine Decidable.byCases (p := x2 = 0) (fun hc7 => ?_) (fun hc7 => ?_)
          · rw [if_pos hc7] at h
            refine lv_tableIn (off := 36) (tgt := 84) hx hb d_N_look_48 (by rw [hc7]; decide) (by rw [hc7]; decide) (by rw [hc7]; decide) (by decide) ?_
            refine lv_aload_n hx hb d_N_look_84 rfl (lv_at hl 0 rfl) ?_
            refine U_get C0 w 0 (by decide) rfl rfl inN 1 (by decide) wd_340 rfl d_N_look_85 ?_
            refine U_get C0 w 2 (by decide) rfl rfl inS 1 (by decide) wd_102 rfl d_N_look_88 ?_
            refine lv_iload_n hx hb d_N_look_91 rfl (lv_at hl 1 rfl) ?_
            obtain ⟨r8, M9, hc10, h⟩ := bind_ok h
            try dsimp only at h
            refine U_si (rest := []) C0 w (c_N_holds l D ct q hc10) wd_568 wd_713 wd_567 wd_1 (n9 := 2) (by decide +kernel) rfl ⟨(Nat.le_of_ble_eq_true rfl), (Nat.le_of_ble_eq_true rfl)⟩ hl.1 rfl (Nat.le_of_ble_eq_true rfl) d_N_look_92 (Nat.le_of_ble_eq_true rfl) (Nat.le_of_ble_eq_true rfl) (fun H locs w => ?_)
            have hJ103 : ∀ (s0 : Int32) (M : Sto) (H : Heap) (locs : List Loc) (ls : Array Slot), lv_has ls 3 [] → Wd D A s (wX ct q M) H locs → j_N_look_103 s0 M = some (0, rz, Mz) → W p l e rm_N_look s m args below meth c H locs 0 0 Q (F0 m 103 ls [.int s0]) := by
              intro s0 M H locs ls hl w h
              unfold j_N_look_103 at h
              cases h
              exact hret _ _ _ _ d_N_look_103 rfl w
            refine lv_if_eq (tgt := 102) hx hb d_N_look_95 (by decide) (fun hc => ?_) (fun hc => ?_)
            · rw [if_pos hc] at h
              refine lv_iconst (v := 0) hx hb d_N_look_102 (by decide) ?_
              exact hJ103 _ _ _ _ _ (lv_sub hl [] rfl) w h
            · rw [if_neg hc] at h
              refine lv_iconst (v := 1) hx hb d_N_look_98 (by decide) ?_
              refine lv_goto (tgt := 103) hx hb d_N_look_99 (by decide) ?_
              exact hJ103 _ _ _ _ _ (lv_sub hl [] rfl) w h
          · rw [if_neg hc7] at h
            refine Decidable.byCases (p := x2 = 1) (fun hc11 => ?_) (fun hc11 => ?_)
            · rw [if_pos hc11] at h
              refine lv_tableIn (off := 56) (tgt := 104) hx hb d_N_look_48 (by rw [hc11]; decide) (by rw [hc11]; decide) (by rw [hc11]; decide) (by decide) ?_
              refine lv_aload_n hx hb d_N_look_104 rfl (lv_at hl 0 rfl) ?_
              refine U_get C0 w 0 (by decide) rfl rfl inN 1 (by decide) wd_340 rfl d_N_look_105 ?_
              refine U_get C0 w 2 (by decide) rfl rfl inS 4 (by decide) wd_108 rfl d_N_look_108 ?_
              refine lv_iload_n hx hb d_N_look_111 rfl (lv_at hl 1 rfl) ?_
              obtain ⟨hi12, h⟩ := if_ok h
              refine U_ald C0 w (iX_14 ct) hi12 d_N_look_112 ?_
              cases h
              exact hret _ _ _ _ d_N_look_113 rfl w
            · rw [if_neg hc11] at h
              refine Decidable.byCases (p := x2 = 2) (fun hc13 => ?_) (fun hc13 => ?_)
              · rw [if_pos hc13] at h
                refine lv_tableIn (off := 66) (tgt := 114) hx hb d_N_look_48 (by rw [hc13]; decide) (by rw [hc13]; decide) (by rw [hc13]; decide) (by decide) ?_
                refine lv_aload_n hx hb d_N_look_114 rfl (lv_at hl 0 rfl) ?_
                refine U_get C0 w 0 (by decide) rfl rfl inN 2 (by decide) wd_341 rfl d_N_look_115 ?_
                refine U_get C0 w 3 (by decide) rfl rfl inG 3 (by decide) wd_151 rfl d_N_look_118 ?_
                refine lv_iload_n hx hb d_N_look_121 rfl (lv_at hl 1 rfl) ?_
                obtain ⟨hi14, h⟩ := if_ok h
                refine U_ald C0 w (iX_18 ct) hi14 d_N_look_122 ?_
                refine U_bits (rest := []) C0 w wd_714 d_N_look_123 hl.1 ⟨(Nat.le_of_ble_eq_true rfl), (Nat.le_of_ble_eq_true rfl)⟩ (Nat.le_of_ble_eq_true rfl) ?_
                cases h
                exact hret _ _ _ _ d_N_look_126 rfl w
              · rw [if_neg hc13] at h
                refine Decidable.byCases (p := x2 = 3) (fun hc15 => ?_) (fun hc15 => ?_)
                · rw [if_pos hc15] at h
                  refine lv_tableIn (off := 79) (tgt := 127) hx hb d_N_look_48 (by rw [hc15]; decide) (by rw [hc15]; decide) (by rw [hc15]; decide) (by decide) ?_
                  refine lv_aload_n hx hb d_N_look_127 rfl (lv_at hl 0 rfl) ?_
                  refine U_get C0 w 0 (by decide) rfl rfl inN 3 (by decide) wd_342 rfl d_N_look_128 ?_
                  refine U_get C0 w 4 (by decide) rfl rfl inK 3 (by decide) wd_229 rfl d_N_look_131 ?_
                  refine lv_iload_n hx hb d_N_look_134 rfl (lv_at hl 1 rfl) ?_
                  obtain ⟨r16, M17, hc18, h⟩ := bind_ok h
                  try dsimp only at h
                  refine U_si (rest := []) C0 w (c_N_holds l D ct q hc18) wd_568 wd_713 wd_567 wd_1 (n9 := 2) (by decide +kernel) rfl ⟨(Nat.le_of_ble_eq_true rfl), (Nat.le_of_ble_eq_true rfl)⟩ hl.1 rfl (Nat.le_of_ble_eq_true rfl) d_N_look_135 (Nat.le_of_ble_eq_true rfl) (Nat.le_of_ble_eq_true rfl) (fun H locs w => ?_)
                  have hJ146 : ∀ (s0 : Int32) (M : Sto) (H : Heap) (locs : List Loc) (ls : Array Slot), lv_has ls 3 [] → Wd D A s (wX ct q M) H locs → j_N_look_146 s0 M = some (0, rz, Mz) → W p l e rm_N_look s m args below meth c H locs 0 0 Q (F0 m 146 ls [.int s0]) := by
                    intro s0 M H locs ls hl w h
                    unfold j_N_look_146 at h
                    cases h
                    exact hret _ _ _ _ d_N_look_146 rfl w
                  refine lv_if_eq (tgt := 145) hx hb d_N_look_138 (by decide) (fun hc => ?_) (fun hc => ?_)
                  · rw [if_pos hc] at h
                    refine lv_iconst (v := 0) hx hb d_N_look_145 (by decide) ?_
                    exact hJ146 _ _ _ _ _ (lv_sub hl [] rfl) w h
                  · rw [if_neg hc] at h
                    refine lv_iconst (v := 1) hx hb d_N_look_141 (by decide) ?_
                    refine lv_goto (tgt := 146) hx hb d_N_look_142 (by decide) ?_
                    exact hJ146 _ _ _ _ _ (lv_sub hl [] rfl) w h
                · rw [if_neg hc15] at h
                  refine Decidable.byCases (p := x2 = 4) (fun hc19 => ?_) (fun hc19 => ?_)
                  · rw [if_pos hc19] at h
                    refine lv_tableIn (off := 99) (tgt := 147) hx hb d_N_look_48 (by rw [hc19]; decide) (by rw [hc19]; decide) (by rw [hc19]; decide) (by decide) ?_
                    refine lv_aload_n hx hb d_N_look_147 rfl (lv_at hl 0 rfl) ?_
                    refine U_get C0 w 0 (by decide) rfl rfl inN 0 (by decide) wd_339 rfl d_N_look_148 ?_
                    refine U_get C0 w 1 (by decide) rfl rfl inP 1 (by decide) wd_41 rfl d_N_look_151 ?_
                    refine lv_iload_n hx hb d_N_look_154 rfl (lv_at hl 1 rfl) ?_
                    obtain ⟨hi20, h⟩ := if_ok h
                    refine U_ald C0 w (iX_7 ct) hi20 d_N_look_155 ?_
                    cases h
                    exact hret _ _ _ _ d_N_look_156 rfl w
                  · rw [if_neg hc19] at h
                    refine lv_tableOut (tgt := 157) hx hb d_N_look_48 (sw_o_0_4 hc7 hc11 hc13 hc15 hc19) (by decide) ?_
                    refine lv_aload_n hx hb d_N_look_157 rfl (lv_at hl 0 rfl) ?_
                    refine U_get C0 w 0 (by decide) rfl rfl inN 2 (by decide) wd_341 rfl d_N_look_158 ?_
                    refine U_get C0 w 3 (by decide) rfl rfl inG 10 (by decide) wd_181 rfl d_N_look_161 ?_
                    refine lv_iload_n hx hb d_N_look_164 rfl (lv_at hl 1 rfl) ?_
                    obtain ⟨hi21, h⟩ := if_ok h
                    refine U_ald C0 w (iX_20 ct) hi21 d_N_look_165 ?_
                    cases h
                    exact hret _ _ _ _ d_N_look_166 rfl w
        · rw [if_pos hc] at h
          simp at h
      · rw [if_neg hc] at h
        exact hJ20 _ _ _ _ (lv_sub hl [] rfl) w h
abbrev rm_G_phiVariable : Room := { frames := 2, cells := 0, slots := 0, locals := 41 }
set_option maxHeartbeats 8000000 in
set_option maxRecDepth 100000 in
theorem c_G_phiVariable (l : Launch) (D : va_G) (ct : Nat → ClassId) (q : Nat → Nat) {x1 x2 : Int32} {M Mz : Sto} {rz : Int32} (h : m_G_phiVariable x1 x2 M = some (rz, Mz)) : KI l D ct y_G_phiVariable b_G_phiVariable 5 (some .int) 2 41 [.ref (q 3), .int x1, .int x2] (wX ct q M) rz (wX ct q Mz) := by
  refine KI.ofU (by decide) (Nat.le_of_ble_eq_true rfl) rfl ?_
  intro p e s m args below meth c A Q ls C0 hl w hret
  have hx := C0.1
  have hb := C0.2.1
  have hl : lv_has ls 5 [(0, .ref (q 3)), (1, .int x1), (2, .int x2)] := hl
  unfold m_G_phiVariable at h
  refine lv_iload_n hx hb d_G_phiVariable_0 rfl (lv_at hl 2 rfl) ?_
  refine lv_istore_n hx hb d_G_phiVariable_1 rfl hl (by decide) rfl (fun ls hl => ?_)
  have hl : lv_has ls 5 [(3, .int x2), (0, .ref (q 3)), (1, .int x1), (2, .int x2)] := hl
  refine lv_iconst (v := 0) hx hb d_G_phiVariable_2 (by decide) ?_
  refine lv_istore hx hb d_G_phiVariable_3 hl (by decide) rfl (fun ls hl => ?_)
  have hl : lv_has ls 5 [(4, .int 0), (3, .int x2), (0, .ref (q 3)), (1, .int x1), (2, .int x2)] := hl
  generalize eK5 : j_G_phiVariable_42 = K5 at h
  have hE5 : ∀ (M : Sto) (H : Heap) (locs : List Loc) (ls : Array Slot), lv_has ls 5 [] → Wd D A s (wX ct q M) H locs → K5 M = some (rz, Mz) → W p l e rm_G_phiVariable s m args below meth c H locs 0 0 Q (F0 m 42 ls []) := by
    intro M H locs ls hl w h
    rw [← eK5] at h
    unfold j_G_phiVariable_42 at h
    refine lv_iconst (v := (-1)) hx hb d_G_phiVariable_42 (by decide) ?_
    cases h
    exact hret _ _ _ _ d_G_phiVariable_43 rfl w
  have hL5 : ∀ (n : Nat) (v1 v3 v4 : Int32) (M : Sto) (H : Heap) (locs : List Loc) (ls : Array Slot), lv_has ls 5 [(0, .ref (q 3)), (1, .int v1), (3, .int v3), (4, .int v4)] → Wd D A s (wX ct q M) H locs → l_G_phiVariable_5 K5 n v1 v3 v4 M = some (rz, Mz) → W p l e rm_G_phiVariable s m args below meth c H locs 0 0 Q (F0 m 5 ls []) := by
    intro n
    induction n with
    | zero => intro v1 v3 v4 M H locs ls hl w h; simp [l_G_phiVariable_5] at h
    | succ n ih5 =>
      intro v1 v3 v4 M H locs ls hl w h
      unfold l_G_phiVariable_5 at h
      refine lv_iload hx hb d_G_phiVariable_5 (lv_at hl 3 rfl) ?_
      refine lv_bipush (v := 6) hx hb d_G_phiVariable_7 (by decide) ?_
      refine lv_icmp_ge (tgt := 42) hx hb d_G_phiVariable_9 (by decide) (fun hc => ?_) (fun hc => ?_)
      · rw [if_pos hc] at h
        exact hE5 _ _ _ _ (lv_sub hl [] rfl) w h
      · rw [if_neg hc] at h
        refine lv_aload_n hx hb d_G_phiVariable_12 rfl (lv_at hl 0 rfl) ?_
        refine U_get C0 w 3 (by decide) rfl rfl inG 3 (by decide) wd_148 rfl d_G_phiVariable_13 ?_
        refine lv_iload_n hx hb d_G_phiVariable_16 rfl (lv_at hl 1 rfl) ?_
        obtain ⟨hi2, h⟩ := if_ok h
        refine U_ald C0 w (iX_18 ct) hi2 d_G_phiVariable_17 ?_
        refine lv_iload hx hb d_G_phiVariable_18 (lv_at hl 3 rfl) ?_
        obtain ⟨r3, M4, hc5, h⟩ := bind_ok h
        try dsimp only at h
        refine U_siN (rest := []) C0 w (c_N_holds l D ct q hc5) wd_568 (C0.2.2.2.2.2.2.nest ("NameForge$Naming", 87, ⟨"NameForge", "holds", "(II)Z"⟩) (by decide)) wd_567 wd_1 (n9 := 2) (by decide +kernel) rfl ⟨(Nat.le_of_ble_eq_true rfl), (Nat.le_of_ble_eq_true rfl)⟩ hl.1 rfl (Nat.le_of_ble_eq_true rfl) d_G_phiVariable_20 (Nat.le_of_ble_eq_true rfl) (Nat.le_of_ble_eq_true rfl) (fun H locs w => ?_)
        have hJ36 : ∀ (v1 v3 v4 : Int32) (M : Sto) (H : Heap) (locs : List Loc) (ls : Array Slot), lv_has ls 5 [(0, .ref (q 3)), (1, .int v1), (3, .int v3), (4, .int v4)] → Wd D A s (wX ct q M) H locs → j_G_phiVariable_36 (l_G_phiVariable_5 K5 n) K5 v1 v3 v4 M = some (rz, Mz) → W p l e rm_G_phiVariable s m args below meth c H locs 0 0 Q (F0 m 36 ls []) := by
          intro v1 v3 v4 M H locs ls hl w h
          unfold j_G_phiVariable_36 at h
          refine lv_iinc (k := 3) (v := v4 + 1) hx hb d_G_phiVariable_36 hl rfl (inc1 _) (by decide) rfl (fun ls hl => ?_)
          have hl : lv_has ls 5 [(4, .int (v4 + 1)), (0, .ref (q 3)), (1, .int v1), (3, .int v3)] := hl
          refine lv_goto (tgt := 5) hx hb d_G_phiVariable_39 (by decide) ?_
          exact ih5 _ _ _ _ _ _ _ (lv_sub hl [1, 2, 3, 0] rfl) w h
        refine lv_if_eq (tgt := 36) hx hb d_G_phiVariable_23 (by decide) (fun hc => ?_) (fun hc => ?_)
        · rw [if_pos hc] at h
          exact hJ36 _ _ _ _ _ _ _ (lv_sub hl [0, 1, 2, 3] rfl) w h
        · rw [if_neg hc] at h
          refine lv_iload_n hx hb d_G_phiVariable_26 rfl (lv_at hl 2 rfl) ?_
          refine lv_if_ne (tgt := 33) hx hb d_G_phiVariable_27 (by decide) (fun hc => ?_) (fun hc => ?_)
          · rw [if_neg hc] at h
            refine lv_iinc (k := 2) (v := v3 + (-1)) hx hb d_G_phiVariable_33 hl rfl (dec1 _) (by decide) rfl (fun ls hl => ?_)
            have hl : lv_has ls 5 [(3, .int (v3 + (-1))), (0, .ref (q 3)), (1, .int v1), (4, .int v4)] := hl
            exact hJ36 _ _ _ _ _ _ _ (lv_sub hl [1, 2, 0, 3] rfl) w h
          · rw [if_pos hc] at h
            refine lv_iload hx hb d_G_phiVariable_30 (lv_at hl 3 rfl) ?_
            cases h
            exact hret _ _ _ _ d_G_phiVariable_32 rfl w
  exact hL5 FU _ _ _ _ _ _ _ (lv_sub hl [2, 3, 1, 0] rfl) w h
abbrev rm_N_isPhiWhat : Room := { frames := 2, cells := 0, slots := 0, locals := 41 }
set_option maxHeartbeats 8000000 in
set_option maxRecDepth 100000 in
theorem c_N_isPhiWhat (l : Launch) (D : va_G) (ct : Nat → ClassId) (q : Nat → Nat) {x1 x2 : Int32} {M Mz : Sto} {rz : Int32} (h : m_N_isPhiWhat x1 x2 M = some (rz, Mz)) : KI l D ct y_N_isPhiWhat b_N_isPhiWhat 3 (some .boolean) 2 41 [.ref (q 0), .int x1, .int x2] (wX ct q M) rz (wX ct q Mz) := by
  refine KI.ofU (by decide) (Nat.le_of_ble_eq_true rfl) rfl ?_
  intro p e s m args below meth c A Q ls C0 hl w hret
  have hx := C0.1
  have hb := C0.2.1
  have hl : lv_has ls 3 [(0, .ref (q 0)), (1, .int x1), (2, .int x2)] := hl
  unfold m_N_isPhiWhat at h
  refine lv_iload_n hx hb d_N_isPhiWhat_0 rfl (lv_at hl 2 rfl) ?_
  refine lv_iconst (v := (-1)) hx hb d_N_isPhiWhat_1 (by decide) ?_
  have hJ11 : ∀ (M : Sto) (H : Heap) (locs : List Loc) (ls : Array Slot), lv_has ls 3 [] → Wd D A s (wX ct q M) H locs → j_N_isPhiWhat_11 M = some (rz, Mz) → W p l e rm_N_isPhiWhat s m args below meth c H locs 0 0 Q (F0 m 11 ls []) := by
    intro M H locs ls hl w h
    unfold j_N_isPhiWhat_11 at h
    refine lv_iconst (v := 1) hx hb d_N_isPhiWhat_11 (by decide) ?_
    obtain ⟨hz9, h⟩ := if_ok h
    cases h
    exact hret _ _ _ _ d_N_isPhiWhat_12 (bz_nar hz9) w
  refine lv_icmp_eq (tgt := 11) hx hb d_N_isPhiWhat_2 (by decide) (fun hc => ?_) (fun hc => ?_)
  · rw [if_pos hc] at h
    exact hJ11 _ _ _ _ (lv_sub hl [] rfl) w h
  · rw [if_neg hc] at h
    refine lv_iload_n hx hb d_N_isPhiWhat_5 rfl (lv_at hl 2 rfl) ?_
    refine lv_bipush (v := (-2)) hx hb d_N_isPhiWhat_6 (by decide) ?_
    refine lv_icmp_ne (tgt := 13) hx hb d_N_isPhiWhat_8 (by decide) (fun hc => ?_) (fun hc => ?_)
    · rw [if_neg hc] at h
      refine lv_aload_n hx hb d_N_isPhiWhat_13 rfl (lv_at hl 0 rfl) ?_
      refine U_get C0 w 0 (by decide) rfl rfl inN 0 (by decide) wd_339 rfl d_N_isPhiWhat_14 ?_
      refine lv_iload_n hx hb d_N_isPhiWhat_17 rfl (lv_at hl 2 rfl) ?_
      obtain ⟨r3, M4, hc5, h⟩ := bind_ok h
      try dsimp only at h
      refine U_vi (rest := []) C0 w 1 (wU_at (by decide)) rfl (c_P_has l D ct q hc5) wd_480 wd_477 wd_478 wd_479 wd_2 (n9 := 1) (by decide +kernel) rfl ⟨(Nat.le_of_ble_eq_true rfl), (Nat.le_of_ble_eq_true rfl)⟩ hl.1 rfl (Nat.le_of_ble_eq_true rfl) d_N_isPhiWhat_18 (Nat.le_of_ble_eq_true rfl) (Nat.le_of_ble_eq_true rfl) (fun H locs w => ?_)
      have hJ45 : ∀ (s0 : Int32) (M : Sto) (H : Heap) (locs : List Loc) (ls : Array Slot), lv_has ls 3 [] → Wd D A s (wX ct q M) H locs → j_N_isPhiWhat_45 s0 M = some (rz, Mz) → W p l e rm_N_isPhiWhat s m args below meth c H locs 0 0 Q (F0 m 45 ls [.int s0]) := by
        intro s0 M H locs ls hl w h
        unfold j_N_isPhiWhat_45 at h
        obtain ⟨hz9, h⟩ := if_ok h
        cases h
        exact hret _ _ _ _ d_N_isPhiWhat_45 (bz_nar hz9) w
      have hJ44 : ∀ (M : Sto) (H : Heap) (locs : List Loc) (ls : Array Slot), lv_has ls 3 [] → Wd D A s (wX ct q M) H locs → j_N_isPhiWhat_44 M = some (rz, Mz) → W p l e rm_N_isPhiWhat s m args below meth c H locs 0 0 Q (F0 m 44 ls []) := by
        intro M H locs ls hl w h
        unfold j_N_isPhiWhat_44 at h
        refine lv_iconst (v := 0) hx hb d_N_isPhiWhat_44 (by decide) ?_
        exact hJ45 _ _ _ _ _ (lv_sub hl [] rfl) w h
      refine lv_if_eq (tgt := 44) hx hb d_N_isPhiWhat_21 (by decide) (fun hc => ?_) (fun hc => ?_)
      · rw [if_pos hc] at h
        exact hJ44 _ _ _ _ (lv_sub hl [] rfl) w h
      · rw [if_neg hc] at h
        refine lv_aload_n hx hb d_N_isPhiWhat_24 rfl (lv_at hl 0 rfl) ?_
        refine U_get C0 w 0 (by decide) rfl rfl inN 1 (by decide) wd_340 rfl d_N_isPhiWhat_25 ?_
        refine U_get C0 w 2 (by decide) rfl rfl inS 2 (by decide) wd_104 rfl d_N_isPhiWhat_28 ?_
        refine lv_iload_n hx hb d_N_isPhiWhat_31 rfl (lv_at hl 1 rfl) ?_
        obtain ⟨hi6, h⟩ := if_ok h
        refine U_ald C0 w (iX_12 ct) hi6 d_N_isPhiWhat_32 ?_
        refine lv_iload_n hx hb d_N_isPhiWhat_33 rfl (lv_at hl 2 rfl) ?_
        obtain ⟨r7, M8, hc9, h⟩ := bind_ok h
        try dsimp only at h
        refine U_si (rest := []) C0 w (c_N_holds l D ct q hc9) wd_568 wd_713 wd_567 wd_1 (n9 := 2) (by decide +kernel) rfl ⟨(Nat.le_of_ble_eq_true rfl), (Nat.le_of_ble_eq_true rfl)⟩ hl.1 rfl (Nat.le_of_ble_eq_true rfl) d_N_isPhiWhat_34 (Nat.le_of_ble_eq_true rfl) (Nat.le_of_ble_eq_true rfl) (fun H locs w => ?_)
        refine lv_if_eq (tgt := 44) hx hb d_N_isPhiWhat_37 (by decide) (fun hc => ?_) (fun hc => ?_)
        · rw [if_pos hc] at h
          exact hJ44 _ _ _ _ (lv_sub hl [] rfl) w h
        · rw [if_neg hc] at h
          refine lv_iconst (v := 1) hx hb d_N_isPhiWhat_40 (by decide) ?_
          refine lv_goto (tgt := 45) hx hb d_N_isPhiWhat_41 (by decide) ?_
          exact hJ45 _ _ _ _ _ (lv_sub hl [] rfl) w h
    · rw [if_pos hc] at h
      exact hJ11 _ _ _ _ (lv_sub hl [] rfl) w h
abbrev rm_N_phi : Room := { frames := 3, cells := 0, slots := 0, locals := 65 }
set_option maxHeartbeats 8000000 in
set_option maxRecDepth 100000 in
theorem c_N_phi (l : Launch) (D : va_G) (ct : Nat → ClassId) (q : Nat → Nat) {x1 x2 x3 : Int32} {M Mz : Sto} {rz : Int32} (h : m_N_phi x1 x2 x3 M = some (0, rz, Mz)) : KI l D ct y_N_phi b_N_phi 5 (some .int) 3 65 [.ref (q 0), .int x1, .int x2, .int x3] (wX ct q M) rz (wX ct q Mz) := by
  refine KI.ofU (by decide) (Nat.le_of_ble_eq_true rfl) rfl ?_
  intro p e s m args below meth c A Q ls C0 hl w hret
  have hx := C0.1
  have hb := C0.2.1
  have hl : lv_has ls 5 [(0, .ref (q 0)), (1, .int x1), (2, .int x2), (3, .int x3)] := hl
  unfold m_N_phi at h
  refine lv_aload_n hx hb d_N_phi_0 rfl (lv_at hl 0 rfl) ?_
  refine U_get C0 w 0 (by decide) rfl rfl inN 6 (by decide) wd_345 rfl d_N_phi_1 ?_
  refine lv_if_ne (tgt := 17) hx hb d_N_phi_4 (by decide) (fun hc => ?_) (fun hc => ?_)
  · rw [if_neg hc] at h
    refine lv_aload_n hx hb d_N_phi_17 rfl (lv_at hl 0 rfl) ?_
    refine U_get C0 w 0 (by decide) rfl rfl inN 0 (by decide) wd_339 rfl d_N_phi_18 ?_
    refine lv_iload_n hx hb d_N_phi_21 rfl (lv_at hl 1 rfl) ?_
    obtain ⟨r4, M5, hc6, h⟩ := bind_ok h
    try dsimp only at h
    refine U_vi (rest := []) C0 w 1 (wU_at (by decide)) rfl (c_P_has l D ct q hc6) wd_480 wd_477 wd_478 wd_479 wd_2 (n9 := 1) (by decide +kernel) rfl ⟨(Nat.le_of_ble_eq_true rfl), (Nat.le_of_ble_eq_true rfl)⟩ hl.1 rfl (Nat.le_of_ble_eq_true rfl) d_N_phi_22 (Nat.le_of_ble_eq_true rfl) (Nat.le_of_ble_eq_true rfl) (fun H locs w => ?_)
    have hJ41 : ∀ (s0 v1 v3 : Int32) (M : Sto) (H : Heap) (locs : List Loc) (ls : Array Slot), lv_has ls 5 [(0, .ref (q 0)), (1, .int v1), (3, .int v3)] → Wd D A s (wX ct q M) H locs → j_N_phi_41 s0 v1 v3 M = some (0, rz, Mz) → W p l e rm_N_phi s m args below meth c H locs 0 0 Q (F0 m 41 ls [.int s0]) := by
      intro s0 v1 v3 M H locs ls hl w h
      unfold j_N_phi_41 at h
      refine lv_istore hx hb d_N_phi_41 hl (by decide) rfl (fun ls hl => ?_)
      have hl : lv_has ls 5 [(4, .int s0), (0, .ref (q 0)), (1, .int v1), (3, .int v3)] := hl
      refine lv_iload hx hb d_N_phi_43 (lv_at hl 0 rfl) ?_
      refine lv_iconst (v := (-1)) hx hb d_N_phi_45 (by decide) ?_
      have hJ58 : ∀ (M : Sto) (H : Heap) (locs : List Loc) (ls : Array Slot), lv_has ls 5 [] → Wd D A s (wX ct q M) H locs → j_N_phi_58 M = some (0, rz, Mz) → W p l e rm_N_phi s m args below meth c H locs 0 0 Q (F0 m 58 ls []) := by
        intro M H locs ls hl w h
        unfold j_N_phi_58 at h
        simp at h
      refine lv_icmp_eq (tgt := 58) hx hb d_N_phi_46 (by decide) (fun hc => ?_) (fun hc => ?_)
      · rw [if_pos hc] at h
        exact hJ58 _ _ _ _ (lv_sub hl [] rfl) w h
      · rw [if_neg hc] at h
        refine lv_aload_n hx hb d_N_phi_49 rfl (lv_at hl 1 rfl) ?_
        refine lv_iload_n hx hb d_N_phi_50 rfl (lv_at hl 2 rfl) ?_
        refine lv_iload_n hx hb d_N_phi_51 rfl (lv_at hl 3 rfl) ?_
        obtain ⟨r7, M8, hc9, h⟩ := bind_ok h
        try dsimp only at h
        refine U_vi (rest := []) C0 w 0 (wU_at (by decide)) rfl (c_N_isPhiWhat l D ct q hc9) wd_734 wd_731 wd_733 ws_22 wd_1 (n9 := 2) (by decide +kernel) rfl ⟨(Nat.le_of_ble_eq_true rfl), (Nat.le_of_ble_eq_true rfl)⟩ hl.1 rfl (Nat.le_of_ble_eq_true rfl) d_N_phi_52 (Nat.le_of_ble_eq_true rfl) (Nat.le_of_ble_eq_true rfl) (fun H locs w => ?_)
        refine lv_if_ne (tgt := 68) hx hb d_N_phi_55 (by decide) (fun hc => ?_) (fun hc => ?_)
        · rw [if_neg hc] at h
          refine lv_iload_n hx hb d_N_phi_68 rfl (lv_at hl 3 rfl) ?_
          refine lv_iconst (v := (-1)) hx hb d_N_phi_69 (by decide) ?_
          refine lv_icmp_ne (tgt := 86) hx hb d_N_phi_70 (by decide) (fun hc => ?_) (fun hc => ?_)
          · rw [if_neg hc] at h
            refine lv_iload_n hx hb d_N_phi_86 rfl (lv_at hl 3 rfl) ?_
            refine lv_bipush (v := (-2)) hx hb d_N_phi_87 (by decide) ?_
            refine lv_icmp_ne (tgt := 95) hx hb d_N_phi_89 (by decide) (fun hc => ?_) (fun hc => ?_)
            · rw [if_neg hc] at h
              refine lv_aload_n hx hb d_N_phi_95 rfl (lv_at hl 1 rfl) ?_
              refine U_get C0 w 0 (by decide) rfl rfl inN 2 (by decide) wd_341 rfl d_N_phi_96 ?_
              refine U_get C0 w 3 (by decide) rfl rfl inG 6 (by decide) wd_161 rfl d_N_phi_99 ?_
              refine lv_iload_n hx hb d_N_phi_102 rfl (lv_at hl 3 rfl) ?_
              obtain ⟨hi10, h⟩ := if_ok h
              refine U_gld C0 w (gX_39 ct) hi10 d_N_phi_103 ?_
              refine lv_iload hx hb d_N_phi_104 (lv_at hl 0 rfl) ?_
              obtain ⟨hi11, h⟩ := if_ok h
              refine U_ald C0 w (rowI ct (b := 93) (by decide) (by decide) hi10) hi11 d_N_phi_106 ?_
              cases h
              exact hret _ _ _ _ d_N_phi_107 rfl w
            · rw [if_pos hc] at h
              refine lv_iload hx hb d_N_phi_92 (lv_at hl 0 rfl) ?_
              cases h
              exact hret _ _ _ _ d_N_phi_94 rfl w
          · rw [if_pos hc] at h
            refine lv_aload_n hx hb d_N_phi_73 rfl (lv_at hl 1 rfl) ?_
            refine U_get C0 w 0 (by decide) rfl rfl inN 2 (by decide) wd_341 rfl d_N_phi_74 ?_
            refine U_get C0 w 3 (by decide) rfl rfl inG 5 (by decide) wd_156 rfl d_N_phi_77 ?_
            refine lv_iload_n hx hb d_N_phi_80 rfl (lv_at hl 2 rfl) ?_
            obtain ⟨hi12, h⟩ := if_ok h
            refine U_gld C0 w (gX_38 ct) hi12 d_N_phi_81 ?_
            refine lv_iload hx hb d_N_phi_82 (lv_at hl 0 rfl) ?_
            obtain ⟨hi13, h⟩ := if_ok h
            refine U_ald C0 w (rowI ct (b := 83) (by decide) (by decide) hi12) hi13 d_N_phi_84 ?_
            cases h
            exact hret _ _ _ _ d_N_phi_85 rfl w
        · rw [if_pos hc] at h
          exact hJ58 _ _ _ _ (lv_sub hl [] rfl) w h
    refine lv_if_eq (tgt := 40) hx hb d_N_phi_25 (by decide) (fun hc => ?_) (fun hc => ?_)
    · rw [if_pos hc] at h
      refine lv_iconst (v := (-1)) hx hb d_N_phi_40 (by decide) ?_
      exact hJ41 _ _ _ _ _ _ _ (lv_sub hl [0, 1, 3] rfl) w h
    · rw [if_neg hc] at h
      refine lv_aload_n hx hb d_N_phi_28 rfl (lv_at hl 0 rfl) ?_
      refine U_get C0 w 0 (by decide) rfl rfl inN 2 (by decide) wd_341 rfl d_N_phi_29 ?_
      refine lv_iload_n hx hb d_N_phi_32 rfl (lv_at hl 1 rfl) ?_
      refine lv_iload_n hx hb d_N_phi_33 rfl (lv_at hl 2 rfl) ?_
      obtain ⟨r14, M15, hc16, h⟩ := bind_ok h
      try dsimp only at h
      refine U_vi (rest := []) C0 w 3 (wU_at (by decide)) rfl (c_G_phiVariable l D ct q hc16) wd_730 wd_727 wd_728 wd_729 wd_4 (n9 := 2) (by decide +kernel) rfl ⟨(Nat.le_of_ble_eq_true rfl), (Nat.le_of_ble_eq_true rfl)⟩ hl.1 rfl (Nat.le_of_ble_eq_true rfl) d_N_phi_34 (Nat.le_of_ble_eq_true rfl) (Nat.le_of_ble_eq_true rfl) (fun H locs w => ?_)
      refine lv_goto (tgt := 41) hx hb d_N_phi_37 (by decide) ?_
      exact hJ41 _ _ _ _ _ _ _ (lv_sub hl [0, 1, 3] rfl) w h
  · rw [if_pos hc] at h
    simp at h
end
section
abbrev rm_N_isReachedInstruction : Room := { frames := 2, cells := 0, slots := 0, locals := 41 }
set_option maxHeartbeats 8000000 in
set_option maxRecDepth 100000 in
theorem c_N_isReachedInstruction (l : Launch) (D : va_G) (ct : Nat → ClassId) (q : Nat → Nat) {x1 x2 : Int32} {M Mz : Sto} {rz : Int32} (h : m_N_isReachedInstruction x1 x2 M = some (rz, Mz)) : KI l D ct y_N_isReachedInstruction b_N_isReachedInstruction 3 (some .boolean) 2 41 [.ref (q 0), .int x1, .int x2] (wX ct q M) rz (wX ct q Mz) := by
  refine KI.ofU (by decide) (Nat.le_of_ble_eq_true rfl) rfl ?_
  intro p e s m args below meth c A Q ls C0 hl w hret
  have hx := C0.1
  have hb := C0.2.1
  have hl : lv_has ls 3 [(0, .ref (q 0)), (1, .int x1), (2, .int x2)] := hl
  unfold m_N_isReachedInstruction at h
  refine lv_aload_n hx hb d_N_isReachedInstruction_0 rfl (lv_at hl 0 rfl) ?_
  refine U_get C0 w 0 (by decide) rfl rfl inN 0 (by decide) wd_339 rfl d_N_isReachedInstruction_1 ?_
  refine lv_iload_n hx hb d_N_isReachedInstruction_4 rfl (lv_at hl 1 rfl) ?_
  obtain ⟨r3, M4, hc5, h⟩ := bind_ok h
  try dsimp only at h
  refine U_vi (rest := []) C0 w 1 (wU_at (by decide)) rfl (c_P_has l D ct q hc5) wd_480 wd_477 wd_478 wd_479 wd_2 (n9 := 1) (by decide +kernel) rfl ⟨(Nat.le_of_ble_eq_true rfl), (Nat.le_of_ble_eq_true rfl)⟩ hl.1 rfl (Nat.le_of_ble_eq_true rfl) d_N_isReachedInstruction_5 (Nat.le_of_ble_eq_true rfl) (Nat.le_of_ble_eq_true rfl) (fun H locs w => ?_)
  have hJ47 : ∀ (s0 : Int32) (M : Sto) (H : Heap) (locs : List Loc) (ls : Array Slot), lv_has ls 3 [] → Wd D A s (wX ct q M) H locs → j_N_isReachedInstruction_47 s0 M = some (rz, Mz) → W p l e rm_N_isReachedInstruction s m args below meth c H locs 0 0 Q (F0 m 47 ls [.int s0]) := by
    intro s0 M H locs ls hl w h
    unfold j_N_isReachedInstruction_47 at h
    obtain ⟨hz9, h⟩ := if_ok h
    cases h
    exact hret _ _ _ _ d_N_isReachedInstruction_47 (bz_nar hz9) w
  have hJ46 : ∀ (M : Sto) (H : Heap) (locs : List Loc) (ls : Array Slot), lv_has ls 3 [] → Wd D A s (wX ct q M) H locs → j_N_isReachedInstruction_46 M = some (rz, Mz) → W p l e rm_N_isReachedInstruction s m args below meth c H locs 0 0 Q (F0 m 46 ls []) := by
    intro M H locs ls hl w h
    unfold j_N_isReachedInstruction_46 at h
    refine lv_iconst (v := 0) hx hb d_N_isReachedInstruction_46 (by decide) ?_
    exact hJ47 _ _ _ _ _ (lv_sub hl [] rfl) w h
  refine lv_if_eq (tgt := 46) hx hb d_N_isReachedInstruction_8 (by decide) (fun hc => ?_) (fun hc => ?_)
  · rw [if_pos hc] at h
    exact hJ46 _ _ _ _ (lv_sub hl [] rfl) w h
  · rw [if_neg hc] at h
    refine lv_aload_n hx hb d_N_isReachedInstruction_11 rfl (lv_at hl 0 rfl) ?_
    refine U_get C0 w 0 (by decide) rfl rfl inN 1 (by decide) wd_340 rfl d_N_isReachedInstruction_12 ?_
    refine U_get C0 w 2 (by decide) rfl rfl inS 1 (by decide) wd_102 rfl d_N_isReachedInstruction_15 ?_
    refine lv_iload_n hx hb d_N_isReachedInstruction_18 rfl (lv_at hl 1 rfl) ?_
    obtain ⟨r6, M7, hc8, h⟩ := bind_ok h
    try dsimp only at h
    refine U_si (rest := []) C0 w (c_N_holds l D ct q hc8) wd_568 wd_713 wd_567 wd_1 (n9 := 2) (by decide +kernel) rfl ⟨(Nat.le_of_ble_eq_true rfl), (Nat.le_of_ble_eq_true rfl)⟩ hl.1 rfl (Nat.le_of_ble_eq_true rfl) d_N_isReachedInstruction_19 (Nat.le_of_ble_eq_true rfl) (Nat.le_of_ble_eq_true rfl) (fun H locs w => ?_)
    refine lv_if_eq (tgt := 46) hx hb d_N_isReachedInstruction_22 (by decide) (fun hc => ?_) (fun hc => ?_)
    · rw [if_pos hc] at h
      exact hJ46 _ _ _ _ (lv_sub hl [] rfl) w h
    · rw [if_neg hc] at h
      refine lv_iload_n hx hb d_N_isReachedInstruction_25 rfl (lv_at hl 2 rfl) ?_
      refine lv_if_lt (tgt := 46) hx hb d_N_isReachedInstruction_26 (by decide) (fun hc => ?_) (fun hc => ?_)
      · rw [if_pos hc] at h
        exact hJ46 _ _ _ _ (lv_sub hl [] rfl) w h
      · rw [if_neg hc] at h
        refine lv_iload_n hx hb d_N_isReachedInstruction_29 rfl (lv_at hl 2 rfl) ?_
        refine lv_aload_n hx hb d_N_isReachedInstruction_30 rfl (lv_at hl 0 rfl) ?_
        refine U_get C0 w 0 (by decide) rfl rfl inN 0 (by decide) wd_339 rfl d_N_isReachedInstruction_31 ?_
        refine U_get C0 w 1 (by decide) rfl rfl inP 1 (by decide) wd_41 rfl d_N_isReachedInstruction_34 ?_
        refine lv_iload_n hx hb d_N_isReachedInstruction_37 rfl (lv_at hl 1 rfl) ?_
        obtain ⟨hi9, h⟩ := if_ok h
        refine U_ald C0 w (iX_7 ct) hi9 d_N_isReachedInstruction_38 ?_
        refine lv_icmp_ge (tgt := 46) hx hb d_N_isReachedInstruction_39 (by decide) (fun hc => ?_) (fun hc => ?_)
        · rw [if_pos hc] at h
          exact hJ46 _ _ _ _ (lv_sub hl [] rfl) w h
        · rw [if_neg hc] at h
          refine lv_iconst (v := 1) hx hb d_N_isReachedInstruction_42 (by decide) ?_
          refine lv_goto (tgt := 47) hx hb d_N_isReachedInstruction_43 (by decide) ?_
          exact hJ47 _ _ _ _ _ (lv_sub hl [] rfl) w h
abbrev rm_N_uses : Room := { frames := 3, cells := 0, slots := 0, locals := 63 }
set_option maxHeartbeats 8000000 in
set_option maxRecDepth 100000 in
theorem c_N_uses (l : Launch) (D : va_G) (ct : Nat → ClassId) (q : Nat → Nat) {x1 x2 x3 : Int32} {M Mz : Sto} {rz : Int32} (h : m_N_uses x1 x2 x3 M = some (0, rz, Mz)) : KI l D ct y_N_uses b_N_uses 4 (some .int) 3 63 [.ref (q 0), .int x1, .int x2, .int x3] (wX ct q M) rz (wX ct q Mz) := by
  refine KI.ofU (by decide) (Nat.le_of_ble_eq_true rfl) rfl ?_
  intro p e s m args below meth c A Q ls C0 hl w hret
  have hx := C0.1
  have hb := C0.2.1
  have hl : lv_has ls 4 [(0, .ref (q 0)), (1, .int x1), (2, .int x2), (3, .int x3)] := hl
  unfold m_N_uses at h
  refine lv_aload_n hx hb d_N_uses_0 rfl (lv_at hl 0 rfl) ?_
  refine U_get C0 w 0 (by decide) rfl rfl inN 6 (by decide) wd_345 rfl d_N_uses_1 ?_
  refine lv_if_ne (tgt := 17) hx hb d_N_uses_4 (by decide) (fun hc => ?_) (fun hc => ?_)
  · rw [if_neg hc] at h
    refine lv_aload_n hx hb d_N_uses_17 rfl (lv_at hl 0 rfl) ?_
    refine lv_iload_n hx hb d_N_uses_18 rfl (lv_at hl 1 rfl) ?_
    refine lv_iload_n hx hb d_N_uses_19 rfl (lv_at hl 2 rfl) ?_
    obtain ⟨r2, M3, hc4, h⟩ := bind_ok h
    try dsimp only at h
    refine U_vi (rest := []) C0 w 0 (wU_at (by decide)) rfl (c_N_isReachedInstruction l D ct q hc4) wd_746 wd_743 wd_745 ws_23 wd_1 (n9 := 2) (by decide +kernel) rfl ⟨(Nat.le_of_ble_eq_true rfl), (Nat.le_of_ble_eq_true rfl)⟩ hl.1 rfl (Nat.le_of_ble_eq_true rfl) d_N_uses_20 (Nat.le_of_ble_eq_true rfl) (Nat.le_of_ble_eq_true rfl) (fun H locs w => ?_)
    have hJ35 : ∀ (M : Sto) (H : Heap) (locs : List Loc) (ls : Array Slot), lv_has ls 4 [] → Wd D A s (wX ct q M) H locs → j_N_uses_35 M = some (0, rz, Mz) → W p l e rm_N_uses s m args below meth c H locs 0 0 Q (F0 m 35 ls []) := by
      intro M H locs ls hl w h
      unfold j_N_uses_35 at h
      simp at h
    refine lv_if_eq (tgt := 35) hx hb d_N_uses_23 (by decide) (fun hc => ?_) (fun hc => ?_)
    · rw [if_pos hc] at h
      exact hJ35 _ _ _ _ (lv_sub hl [] rfl) w h
    · rw [if_neg hc] at h
      refine lv_iload_n hx hb d_N_uses_26 rfl (lv_at hl 3 rfl) ?_
      refine lv_if_lt (tgt := 35) hx hb d_N_uses_27 (by decide) (fun hc => ?_) (fun hc => ?_)
      · rw [if_pos hc] at h
        exact hJ35 _ _ _ _ (lv_sub hl [] rfl) w h
      · rw [if_neg hc] at h
        refine lv_iload_n hx hb d_N_uses_30 rfl (lv_at hl 3 rfl) ?_
        refine lv_iconst (v := 2) hx hb d_N_uses_31 (by decide) ?_
        refine lv_icmp_le (tgt := 45) hx hb d_N_uses_32 (by decide) (fun hc => ?_) (fun hc => ?_)
        · rw [if_pos hc] at h
          refine lv_iload_n hx hb d_N_uses_45 rfl (lv_at hl 3 rfl) ?_
          refine Decidable.byCases (p := x3 = 0) (fun hc5 => ?_) (fun hc5 => ?_)
          · rw [if_pos hc5] at h
            refine lv_lookup (off := 26) (tgt := 72) hx hb d_N_uses_46 (by decide) (by rw [hc5]; decide) (by decide) ?_
            refine lv_aload_n hx hb d_N_uses_72 rfl (lv_at hl 0 rfl) ?_
            refine U_get C0 w 0 (by decide) rfl rfl inN 2 (by decide) wd_341 rfl d_N_uses_73 ?_
            refine U_get C0 w 3 (by decide) rfl rfl inG 7 (by decide) wd_166 rfl d_N_uses_76 ?_
            refine lv_iload_n hx hb d_N_uses_79 rfl (lv_at hl 1 rfl) ?_
            obtain ⟨hi6, h⟩ := if_ok h
            refine U_gld C0 w (gX_40 ct) hi6 d_N_uses_80 ?_
            refine lv_iload_n hx hb d_N_uses_81 rfl (lv_at hl 2 rfl) ?_
            obtain ⟨hi7, h⟩ := if_ok h
            refine U_ald C0 w (rowI ct (b := 103) (by decide) (by decide) hi6) hi7 d_N_uses_82 ?_
            cases h
            exact hret _ _ _ _ d_N_uses_83 rfl w
          · rw [if_neg hc5] at h
            refine Decidable.byCases (p := x3 = 1) (fun hc8 => ?_) (fun hc8 => ?_)
            · rw [if_pos hc8] at h
              refine lv_lookup (off := 38) (tgt := 84) hx hb d_N_uses_46 (by decide) (by rw [hc8]; decide) (by decide) ?_
              refine lv_aload_n hx hb d_N_uses_84 rfl (lv_at hl 0 rfl) ?_
              refine U_get C0 w 0 (by decide) rfl rfl inN 2 (by decide) wd_341 rfl d_N_uses_85 ?_
              refine U_get C0 w 3 (by decide) rfl rfl inG 8 (by decide) wd_171 rfl d_N_uses_88 ?_
              refine lv_iload_n hx hb d_N_uses_91 rfl (lv_at hl 1 rfl) ?_
              obtain ⟨hi9, h⟩ := if_ok h
              refine U_gld C0 w (gX_41 ct) hi9 d_N_uses_92 ?_
              refine lv_iload_n hx hb d_N_uses_93 rfl (lv_at hl 2 rfl) ?_
              obtain ⟨hi10, h⟩ := if_ok h
              refine U_ald C0 w (rowI ct (b := 113) (by decide) (by decide) hi9) hi10 d_N_uses_94 ?_
              cases h
              exact hret _ _ _ _ d_N_uses_95 rfl w
            · rw [if_neg hc8] at h
              refine lv_lookup (off := 50) (tgt := 96) hx hb d_N_uses_46 (by decide) (by show Op.lookupswitch.offset [(0, 26), (1, 38)] 50 _ = 50; rw [lv_osw (k := 0) hc5 (by decide), lv_osw (k := 1) hc8 (by decide)]; rfl) (by decide) ?_
              refine lv_aload_n hx hb d_N_uses_96 rfl (lv_at hl 0 rfl) ?_
              refine U_get C0 w 0 (by decide) rfl rfl inN 2 (by decide) wd_341 rfl d_N_uses_97 ?_
              refine U_get C0 w 3 (by decide) rfl rfl inG 9 (by decide) wd_176 rfl d_N_uses_100 ?_
              refine lv_iload_n hx hb d_N_uses_103 rfl (lv_at hl 1 rfl) ?_
              obtain ⟨hi11, h⟩ := if_ok h
              refine U_gld C0 w (gX_42 ct) hi11 d_N_uses_104 ?_
              refine lv_iload_n hx hb d_N_uses_105 rfl (lv_at hl 2 rfl) ?_
              obtain ⟨hi12, h⟩ := if_ok h
              refine U_ald C0 w (rowI ct (b := 123) (by decide) (by decide) hi11) hi12 d_N_uses_106 ?_
              cases h
              exact hret _ _ _ _ d_N_uses_107 rfl w
        · rw [if_neg hc] at h
          exact hJ35 _ _ _ _ (lv_sub hl [] rfl) w h
  · rw [if_pos hc] at h
    simp at h
abbrev rm_N_name : Room := { frames := 0, cells := 0, slots := 0, locals := 0 }
set_option maxHeartbeats 8000000 in
set_option maxRecDepth 100000 in
theorem c_N_name (l : Launch) (D : va_G) (ct : Nat → ClassId) (q : Nat → Nat) {x1 x2 : Int32} {M Mz : Sto} {rz : Int32} (h : m_N_name x1 x2 M = some (0, rz, Mz)) : KI l D ct y_N_name b_N_name 3 (some .int) 0 0 [.ref (q 0), .int x1, .int x2] (wX ct q M) rz (wX ct q Mz) := by
  refine KI.ofU (by decide) (Nat.le_of_ble_eq_true rfl) rfl ?_
  intro p e s m args below meth c A Q ls C0 hl w hret
  have hx := C0.1
  have hb := C0.2.1
  have hl : lv_has ls 3 [(0, .ref (q 0)), (1, .int x1), (2, .int x2)] := hl
  unfold m_N_name at h
  refine lv_aload_n hx hb d_N_name_0 rfl (lv_at hl 0 rfl) ?_
  refine U_get C0 w 0 (by decide) rfl rfl inN 6 (by decide) wd_345 rfl d_N_name_1 ?_
  refine lv_if_ne (tgt := 17) hx hb d_N_name_4 (by decide) (fun hc => ?_) (fun hc => ?_)
  · rw [if_neg hc] at h
    refine lv_iload_n hx hb d_N_name_17 rfl (lv_at hl 1 rfl) ?_
    have hJ41 : ∀ (M : Sto) (H : Heap) (locs : List Loc) (ls : Array Slot), lv_has ls 3 [] → Wd D A s (wX ct q M) H locs → j_N_name_41 M = some (0, rz, Mz) → W p l e rm_N_name s m args below meth c H locs 0 0 Q (F0 m 41 ls []) := by
      intro M H locs ls hl w h
      unfold j_N_name_41 at h
      simp at h
    refine lv_if_lt (tgt := 41) hx hb d_N_name_18 (by decide) (fun hc => ?_) (fun hc => ?_)
    · rw [if_pos hc] at h
      exact hJ41 _ _ _ _ (lv_sub hl [] rfl) w h
    · rw [if_neg hc] at h
      refine lv_iload_n hx hb d_N_name_21 rfl (lv_at hl 1 rfl) ?_
      refine lv_aload_n hx hb d_N_name_22 rfl (lv_at hl 0 rfl) ?_
      refine U_get C0 w 0 (by decide) rfl rfl inN 2 (by decide) wd_341 rfl d_N_name_23 ?_
      refine U_get C0 w 3 (by decide) rfl rfl inG 2 (by decide) wd_147 rfl d_N_name_26 ?_
      refine lv_icmp_ge (tgt := 41) hx hb d_N_name_29 (by decide) (fun hc => ?_) (fun hc => ?_)
      · rw [if_pos hc] at h
        exact hJ41 _ _ _ _ (lv_sub hl [] rfl) w h
      · rw [if_neg hc] at h
        refine lv_iload_n hx hb d_N_name_32 rfl (lv_at hl 2 rfl) ?_
        refine lv_if_lt (tgt := 41) hx hb d_N_name_33 (by decide) (fun hc => ?_) (fun hc => ?_)
        · rw [if_pos hc] at h
          exact hJ41 _ _ _ _ (lv_sub hl [] rfl) w h
        · rw [if_neg hc] at h
          refine lv_iload_n hx hb d_N_name_36 rfl (lv_at hl 2 rfl) ?_
          refine lv_iconst (v := 3) hx hb d_N_name_37 (by decide) ?_
          refine lv_icmp_le (tgt := 51) hx hb d_N_name_38 (by decide) (fun hc => ?_) (fun hc => ?_)
          · rw [if_pos hc] at h
            refine lv_iload_n hx hb d_N_name_51 rfl (lv_at hl 2 rfl) ?_
            refine Decidable.byCases (p := x2 = 0) (fun hc1 => ?_) (fun hc1 => ?_)
            · rw [if_pos hc1] at h
              refine lv_tableIn (off := 28) (tgt := 80) hx hb d_N_name_52 (by rw [hc1]; decide) (by rw [hc1]; decide) (by rw [hc1]; decide) (by decide) ?_
              refine lv_aload_n hx hb d_N_name_80 rfl (lv_at hl 0 rfl) ?_
              refine U_get C0 w 0 (by decide) rfl rfl inN 3 (by decide) wd_342 rfl d_N_name_81 ?_
              refine U_get C0 w 4 (by decide) rfl rfl inK 5 (by decide) wd_234 rfl d_N_name_84 ?_
              refine lv_iload_n hx hb d_N_name_87 rfl (lv_at hl 1 rfl) ?_
              obtain ⟨hi2, h⟩ := if_ok h
              refine U_ald C0 w (iX_25 ct) hi2 d_N_name_88 ?_
              cases h
              exact hret _ _ _ _ d_N_name_89 rfl w
            · rw [if_neg hc1] at h
              refine Decidable.byCases (p := x2 = 1) (fun hc3 => ?_) (fun hc3 => ?_)
              · rw [if_pos hc3] at h
                refine lv_tableIn (off := 38) (tgt := 90) hx hb d_N_name_52 (by rw [hc3]; decide) (by rw [hc3]; decide) (by rw [hc3]; decide) (by decide) ?_
                refine lv_aload_n hx hb d_N_name_90 rfl (lv_at hl 0 rfl) ?_
                refine U_get C0 w 0 (by decide) rfl rfl inN 3 (by decide) wd_342 rfl d_N_name_91 ?_
                refine U_get C0 w 4 (by decide) rfl rfl inK 6 (by decide) wd_237 rfl d_N_name_94 ?_
                refine lv_iload_n hx hb d_N_name_97 rfl (lv_at hl 1 rfl) ?_
                obtain ⟨hi4, h⟩ := if_ok h
                refine U_ald C0 w (iX_26 ct) hi4 d_N_name_98 ?_
                cases h
                exact hret _ _ _ _ d_N_name_99 rfl w
              · rw [if_neg hc3] at h
                refine Decidable.byCases (p := x2 = 2) (fun hc5 => ?_) (fun hc5 => ?_)
                · rw [if_pos hc5] at h
                  refine lv_tableIn (off := 48) (tgt := 100) hx hb d_N_name_52 (by rw [hc5]; decide) (by rw [hc5]; decide) (by rw [hc5]; decide) (by decide) ?_
                  refine lv_aload_n hx hb d_N_name_100 rfl (lv_at hl 0 rfl) ?_
                  refine U_get C0 w 0 (by decide) rfl rfl inN 4 (by decide) wd_343 rfl d_N_name_101 ?_
                  refine U_get C0 w 5 (by decide) rfl rfl inD 3 (by decide) wd_267 rfl d_N_name_104 ?_
                  refine lv_iload_n hx hb d_N_name_107 rfl (lv_at hl 1 rfl) ?_
                  obtain ⟨hi6, h⟩ := if_ok h
                  refine U_zld C0 w (zX_27 ct) hi6 d_N_name_108 ?_
                  have hJ117 : ∀ (s0 : Int32) (M : Sto) (H : Heap) (locs : List Loc) (ls : Array Slot), lv_has ls 3 [] → Wd D A s (wX ct q M) H locs → j_N_name_117 s0 M = some (0, rz, Mz) → W p l e rm_N_name s m args below meth c H locs 0 0 Q (F0 m 117 ls [.int s0]) := by
                    intro s0 M H locs ls hl w h
                    unfold j_N_name_117 at h
                    cases h
                    exact hret _ _ _ _ d_N_name_117 rfl w
                  refine lv_if_eq (tgt := 116) hx hb d_N_name_109 (by decide) (fun hc => ?_) (fun hc => ?_)
                  · rw [if_pos hc] at h
                    refine lv_iconst (v := 0) hx hb d_N_name_116 (by decide) ?_
                    exact hJ117 _ _ _ _ _ (lv_sub hl [] rfl) w h
                  · rw [if_neg hc] at h
                    refine lv_iconst (v := 1) hx hb d_N_name_112 (by decide) ?_
                    refine lv_goto (tgt := 117) hx hb d_N_name_113 (by decide) ?_
                    exact hJ117 _ _ _ _ _ (lv_sub hl [] rfl) w h
                · rw [if_neg hc5] at h
                  refine lv_tableOut (tgt := 118) hx hb d_N_name_52 (sw_o_0_2 hc1 hc3 hc5) (by decide) ?_
                  refine lv_aload_n hx hb d_N_name_118 rfl (lv_at hl 0 rfl) ?_
                  refine U_get C0 w 0 (by decide) rfl rfl inN 2 (by decide) wd_341 rfl d_N_name_119 ?_
                  refine U_get C0 w 3 (by decide) rfl rfl inG 11 (by decide) wd_184 rfl d_N_name_122 ?_
                  refine lv_iload_n hx hb d_N_name_125 rfl (lv_at hl 1 rfl) ?_
                  obtain ⟨hi7, h⟩ := if_ok h
                  refine U_ald C0 w (iX_21 ct) hi7 d_N_name_126 ?_
                  cases h
                  exact hret _ _ _ _ d_N_name_127 rfl w
          · rw [if_neg hc] at h
            exact hJ41 _ _ _ _ (lv_sub hl [] rfl) w h
  · rw [if_pos hc] at h
    simp at h
abbrev rm_A_addInput : Room := { frames := 0, cells := 0, slots := 0, locals := 0 }
set_option maxHeartbeats 8000000 in
set_option maxRecDepth 100000 in
theorem c_A_addInput (l : Launch) (D : va_G) (ct : Nat → ClassId) (q : Nat → Nat) {x1 : Int32} {M Mz : Sto} {rz : Int32} (h : m_A_addInput x1 M = some (rz, Mz)) : KI l D ct y_A_addInput b_A_addInput 2 (some .boolean) 0 0 [.ref (q 6), .int x1] (wX ct q M) rz (wX ct q Mz) := by
  refine KI.ofU (by decide) (Nat.le_of_ble_eq_true rfl) rfl ?_
  intro p e s m args below meth c A Q ls C0 hl w hret
  have hx := C0.1
  have hb := C0.2.1
  have hl : lv_has ls 2 [(0, .ref (q 6)), (1, .int x1)] := hl
  unfold m_A_addInput at h
  refine lv_aload_n hx hb d_A_addInput_0 rfl (lv_at hl 0 rfl) ?_
  refine U_get C0 w 6 (by decide) rfl rfl inA 4 (by decide) wd_294 rfl d_A_addInput_1 ?_
  refine lv_bipush (v := 16) hx hb d_A_addInput_4 (by decide) ?_
  refine lv_icmp_lt (tgt := 11) hx hb d_A_addInput_6 (by decide) (fun hc => ?_) (fun hc => ?_)
  · rw [if_pos hc] at h
    refine lv_aload_n hx hb d_A_addInput_11 rfl (lv_at hl 0 rfl) ?_
    refine U_get C0 w 6 (by decide) rfl rfl inA 5 (by decide) wd_296 rfl d_A_addInput_12 ?_
    refine lv_aload_n hx hb d_A_addInput_15 rfl (lv_at hl 0 rfl) ?_
    refine U_get C0 w 6 (by decide) rfl rfl inA 4 (by decide) wd_294 rfl d_A_addInput_16 ?_
    refine lv_iload_n hx hb d_A_addInput_19 rfl (lv_at hl 1 rfl) ?_
    obtain ⟨hi3, h⟩ := if_ok h
    obtain ⟨M4, eM4, h⟩ := wr_ok h
    try dsimp only at h
    refine U_ast C0 (cX_l ct) w (iX_29 ct) hi3 d_A_addInput_20 eM4 (fun H locs w => ?_)
    refine lv_aload_n hx hb d_A_addInput_21 rfl (lv_at hl 0 rfl) ?_
    refine lv_dup hx hb d_A_addInput_22 rfl ?_
    refine U_get C0 w 6 (by decide) rfl rfl inA 4 (by decide) wd_294 rfl d_A_addInput_23 ?_
    refine lv_iconst (v := 1) hx hb d_A_addInput_26 (by decide) ?_
    refine lv_iadd hx hb d_A_addInput_27 ?_
    obtain ⟨M5, eM5, h⟩ := wr_ok h
    try dsimp only at h
    refine U_put C0 (cX_l ct) w 6 (by decide) rfl rfl inA tyA_ok nmA 4 (by decide) wd_294 rfl rfl rfl (Nat.le_of_ble_eq_true rfl) d_A_addInput_28 eM5 rfl (fun H locs w => ?_)
    refine lv_iconst (v := 1) hx hb d_A_addInput_31 (by decide) ?_
    obtain ⟨hz9, h⟩ := if_ok h
    cases h
    exact hret _ _ _ _ d_A_addInput_32 (bz_nar hz9) w
  · rw [if_neg hc] at h
    refine lv_iconst (v := 0) hx hb d_A_addInput_9 (by decide) ?_
    obtain ⟨hz9, h⟩ := if_ok h
    cases h
    exact hret _ _ _ _ d_A_addInput_10 (bz_nar hz9) w
abbrev rm_N_give : Room := { frames := 1, cells := 0, slots := 0, locals := 21 }
set_option maxHeartbeats 8000000 in
set_option maxRecDepth 100000 in
theorem c_N_give (l : Launch) (D : va_G) (ct : Nat → ClassId) (q : Nat → Nat) {x1 : Int32} {M Mz : Sto} {rz : Int32} (h : m_N_give x1 M = some (rz, Mz)) : KI l D ct y_N_give b_N_give 2 (some .boolean) 1 21 [.ref (q 0), .int x1] (wX ct q M) rz (wX ct q Mz) := by
  refine KI.ofU (by decide) (Nat.le_of_ble_eq_true rfl) rfl ?_
  intro p e s m args below meth c A Q ls C0 hl w hret
  have hx := C0.1
  have hb := C0.2.1
  have hl : lv_has ls 2 [(0, .ref (q 0)), (1, .int x1)] := hl
  unfold m_N_give at h
  refine lv_aload_n hx hb d_N_give_0 rfl (lv_at hl 0 rfl) ?_
  refine U_get C0 w 0 (by decide) rfl rfl inN 5 (by decide) wd_344 rfl d_N_give_1 ?_
  refine lv_iload_n hx hb d_N_give_4 rfl (lv_at hl 1 rfl) ?_
  obtain ⟨r2, M3, hc4, h⟩ := bind_ok h
  try dsimp only at h
  refine U_vi (rest := []) C0 w 6 (wU_at (by decide)) rfl (c_A_addInput l D ct q hc4) wd_372 wd_369 wd_370 wd_371 wd_7 (n9 := 1) (by decide +kernel) rfl ⟨(Nat.le_of_ble_eq_true rfl), (Nat.le_of_ble_eq_true rfl)⟩ hl.1 rfl (Nat.le_of_ble_eq_true rfl) d_N_give_5 (Nat.le_of_ble_eq_true rfl) (Nat.le_of_ble_eq_true rfl) (fun H locs w => ?_)
  obtain ⟨hz9, h⟩ := if_ok h
  cases h
  exact hret _ _ _ _ d_N_give_8 (bz_nar hz9) w
abbrev rm_N_take : Room := { frames := 0, cells := 0, slots := 0, locals := 0 }
set_option maxHeartbeats 8000000 in
set_option maxRecDepth 100000 in
theorem c_N_take (l : Launch) (D : va_G) (ct : Nat → ClassId) (q : Nat → Nat) {M Mz : Sto} {rz : Int32} (h : m_N_take M = some (rz, Mz)) : KV l D ct y_N_take b_N_take 1 0 0 0 0 [.ref (q 0)] (wX ct q M) (fun A t => CE D (wX ct q Mz) A t) := by
  refine KV.ofU (by decide) (Nat.le_of_ble_eq_true rfl) ?_
  intro p e s m args below meth c A Q ls C0 hl w hret
  have hx := C0.1
  have hb := C0.2.1
  have hl : lv_has ls 1 [(0, .ref (q 0))] := hl
  unfold m_N_take at h
  refine lv_aload_n hx hb d_N_take_0 rfl (lv_at hl 0 rfl) ?_
  refine U_get C0 w 0 (by decide) rfl rfl inN 5 (by decide) wd_344 rfl d_N_take_1 ?_
  refine lv_iconst (v := 0) hx hb d_N_take_4 (by decide) ?_
  obtain ⟨M2, eM2, h⟩ := wr_ok h
  try dsimp only at h
  refine U_put C0 (cX_l ct) w 6 (by decide) rfl rfl inA tyA_ok nmA 4 (by decide) wd_295 rfl rfl rfl (Nat.le_of_ble_eq_true rfl) d_N_take_5 eM2 rfl (fun H locs w => ?_)
  cases h
  exact hret _ _ _ _ d_N_take_8 w
abbrev rm_A_begin : Room := { frames := 1, cells := 0, slots := 0, locals := 23 }
set_option maxHeartbeats 8000000 in
set_option maxRecDepth 100000 in
theorem c_A_begin (l : Launch) (D : va_G) (ct : Nat → ClassId) (q : Nat → Nat) {M Mz : Sto} {rz : Int32} (h : m_A_begin M = some (rz, Mz)) : KV l D ct y_A_begin b_A_begin 1 1 23 0 0 [.ref (q 6)] (wX ct q M) (fun A t => CE D (wX ct q Mz) A t) := by
  refine KV.ofU (by decide) (Nat.le_of_ble_eq_true rfl) ?_
  intro p e s m args below meth c A Q ls C0 hl w hret
  have hx := C0.1
  have hb := C0.2.1
  have hl : lv_has ls 1 [(0, .ref (q 6))] := hl
  unfold m_A_begin at h
  refine lv_aload_n hx hb d_A_begin_0 rfl (lv_at hl 0 rfl) ?_
  refine U_get C0 w 6 (by decide) rfl rfl inA 6 (by decide) wd_297 rfl d_A_begin_1 ?_
  refine lv_iconst (v := 0) hx hb d_A_begin_4 (by decide) ?_
  obtain ⟨M7, eM7, h⟩ := wr_ok h
  try dsimp only at h
  refine U_fill (rest := []) C0 (cX_l ct) w (iX_30 ct) wd_772 d_A_begin_5 hl.1 ⟨(Nat.le_of_ble_eq_true rfl), (Nat.le_of_ble_eq_true rfl)⟩ (Nat.le_of_ble_eq_true rfl) eM7 (fun H locs w => ?_)
  refine lv_aload_n hx hb d_A_begin_8 rfl (lv_at hl 0 rfl) ?_
  refine U_get C0 w 6 (by decide) rfl rfl inA 7 (by decide) wd_298 rfl d_A_begin_9 ?_
  refine lv_iconst (v := 0) hx hb d_A_begin_12 (by decide) ?_
  obtain ⟨M8, eM8, h⟩ := wr_ok h
  try dsimp only at h
  refine U_fill (rest := []) C0 (cX_l ct) w (iX_31 ct) wd_772 d_A_begin_13 hl.1 ⟨(Nat.le_of_ble_eq_true rfl), (Nat.le_of_ble_eq_true rfl)⟩ (Nat.le_of_ble_eq_true rfl) eM8 (fun H locs w => ?_)
  refine lv_aload_n hx hb d_A_begin_16 rfl (lv_at hl 0 rfl) ?_
  refine lv_iconst (v := 0) hx hb d_A_begin_17 (by decide) ?_
  obtain ⟨M9, eM9, h⟩ := wr_ok h
  try dsimp only at h
  refine U_put C0 (cX_l ct) w 6 (by decide) rfl rfl inA tyA_ok nmA 9 (by decide) wd_300 rfl rfl rfl (Nat.le_of_ble_eq_true rfl) d_A_begin_18 eM9 rfl (fun H locs w => ?_)
  refine lv_aload_n hx hb d_A_begin_21 rfl (lv_at hl 0 rfl) ?_
  refine lv_iconst (v := 0) hx hb d_A_begin_22 (by decide) ?_
  obtain ⟨M10, eM10, h⟩ := wr_ok h
  try dsimp only at h
  refine U_put C0 (cX_l ct) w 6 (by decide) rfl rfl inA tyA_ok nmA 11 (by decide) wd_304 rfl rfl rfl (Nat.le_of_ble_eq_true rfl) d_A_begin_23 eM10 rfl (fun H locs w => ?_)
  refine lv_aload_n hx hb d_A_begin_26 rfl (lv_at hl 0 rfl) ?_
  refine lv_iconst (v := 0) hx hb d_A_begin_27 (by decide) ?_
  obtain ⟨M11, eM11, h⟩ := wr_ok h
  try dsimp only at h
  refine U_put C0 (cX_l ct) w 6 (by decide) rfl rfl inA tyA_ok nmA 12 (by decide) wd_306 rfl rfl rfl (Nat.le_of_ble_eq_true rfl) d_A_begin_28 eM11 rfl (fun H locs w => ?_)
  refine lv_aload_n hx hb d_A_begin_31 rfl (lv_at hl 0 rfl) ?_
  refine lv_iconst (v := 0) hx hb d_A_begin_32 (by decide) ?_
  obtain ⟨M12, eM12, h⟩ := wr_ok h
  try dsimp only at h
  refine U_put C0 (cX_l ct) w 6 (by decide) rfl rfl inA tyA_ok nmA 13 (by decide) wd_308 rfl rfl rfl (Nat.le_of_ble_eq_true rfl) d_A_begin_33 eM12 rfl (fun H locs w => ?_)
  cases h
  exact hret _ _ _ _ d_A_begin_36 w
abbrev rm_A_keep : Room := { frames := 0, cells := 0, slots := 0, locals := 0 }
set_option maxHeartbeats 8000000 in
set_option maxRecDepth 100000 in
theorem c_A_keep (l : Launch) (D : va_G) (ct : Nat → ClassId) (q : Nat → Nat) {x1 : Int32} {M Mz : Sto} {rz : Int32} (h : m_A_keep x1 M = some (rz, Mz)) : KV l D ct y_A_keep b_A_keep 2 0 0 0 0 [.ref (q 6), .int x1] (wX ct q M) (fun A t => CE D (wX ct q Mz) A t) := by
  refine KV.ofU (by decide) (Nat.le_of_ble_eq_true rfl) ?_
  intro p e s m args below meth c A Q ls C0 hl w hret
  have hx := C0.1
  have hb := C0.2.1
  have hl : lv_has ls 2 [(0, .ref (q 6)), (1, .int x1)] := hl
  unfold m_A_keep at h
  refine lv_aload_n hx hb d_A_keep_0 rfl (lv_at hl 0 rfl) ?_
  refine U_get C0 w 6 (by decide) rfl rfl inA 9 (by decide) wd_300 rfl d_A_keep_1 ?_
  refine lv_bipush (v := 40) hx hb d_A_keep_4 (by decide) ?_
  have hJ19 : ∀ (M : Sto) (H : Heap) (locs : List Loc) (ls : Array Slot), lv_has ls 2 [(0, .ref (q 6))] → Wd D A s (wX ct q M) H locs → j_A_keep_19 M = some (rz, Mz) → W p l e rm_A_keep s m args below meth c H locs 0 0 Q (F0 m 19 ls []) := by
    intro M H locs ls hl w h
    unfold j_A_keep_19 at h
    refine lv_aload_n hx hb d_A_keep_19 rfl (lv_at hl 0 rfl) ?_
    refine lv_dup hx hb d_A_keep_20 rfl ?_
    refine U_get C0 w 6 (by decide) rfl rfl inA 9 (by decide) wd_300 rfl d_A_keep_21 ?_
    refine lv_iconst (v := 1) hx hb d_A_keep_24 (by decide) ?_
    refine lv_iadd hx hb d_A_keep_25 ?_
    obtain ⟨M3, eM3, h⟩ := wr_ok h
    try dsimp only at h
    refine U_put C0 (cX_l ct) w 6 (by decide) rfl rfl inA tyA_ok nmA 9 (by decide) wd_300 rfl rfl rfl (Nat.le_of_ble_eq_true rfl) d_A_keep_26 eM3 rfl (fun H locs w => ?_)
    cases h
    exact hret _ _ _ _ d_A_keep_29 w
  refine lv_icmp_ge (tgt := 19) hx hb d_A_keep_6 (by decide) (fun hc => ?_) (fun hc => ?_)
  · rw [if_pos hc] at h
    exact hJ19 _ _ _ _ (lv_sub hl [0] rfl) w h
  · rw [if_neg hc] at h
    refine lv_aload_n hx hb d_A_keep_9 rfl (lv_at hl 0 rfl) ?_
    refine U_get C0 w 6 (by decide) rfl rfl inA 10 (by decide) wd_302 rfl d_A_keep_10 ?_
    refine lv_aload_n hx hb d_A_keep_13 rfl (lv_at hl 0 rfl) ?_
    refine U_get C0 w 6 (by decide) rfl rfl inA 9 (by decide) wd_300 rfl d_A_keep_14 ?_
    refine lv_iload_n hx hb d_A_keep_17 rfl (lv_at hl 1 rfl) ?_
    obtain ⟨hi4, h⟩ := if_ok h
    obtain ⟨M5, eM5, h⟩ := wr_ok h
    try dsimp only at h
    refine U_ast C0 (cX_l ct) w (iX_33 ct) hi4 d_A_keep_18 eM5 (fun H locs w => ?_)
    exact hJ19 _ _ _ _ (lv_sub hl [0] rfl) w h
abbrev rm_A_nextInput : Room := { frames := 0, cells := 0, slots := 0, locals := 0 }
set_option maxHeartbeats 8000000 in
set_option maxRecDepth 100000 in
theorem c_A_nextInput (l : Launch) (D : va_G) (ct : Nat → ClassId) (q : Nat → Nat) {M Mz : Sto} {rz : Int32} (h : m_A_nextInput M = some (rz, Mz)) : KI l D ct y_A_nextInput b_A_nextInput 2 (some .int) 0 0 [.ref (q 6)] (wX ct q M) rz (wX ct q Mz) := by
  refine KI.ofU (by decide) (Nat.le_of_ble_eq_true rfl) rfl ?_
  intro p e s m args below meth c A Q ls C0 hl w hret
  have hx := C0.1
  have hb := C0.2.1
  have hl : lv_has ls 2 [(0, .ref (q 6))] := hl
  unfold m_A_nextInput at h
  refine lv_aload_n hx hb d_A_nextInput_0 rfl (lv_at hl 0 rfl) ?_
  refine U_get C0 w 6 (by decide) rfl rfl inA 13 (by decide) wd_308 rfl d_A_nextInput_1 ?_
  refine lv_aload_n hx hb d_A_nextInput_4 rfl (lv_at hl 0 rfl) ?_
  refine U_get C0 w 6 (by decide) rfl rfl inA 4 (by decide) wd_294 rfl d_A_nextInput_5 ?_
  refine lv_icmp_lt (tgt := 13) hx hb d_A_nextInput_8 (by decide) (fun hc => ?_) (fun hc => ?_)
  · rw [if_pos hc] at h
    refine lv_aload_n hx hb d_A_nextInput_13 rfl (lv_at hl 0 rfl) ?_
    refine U_get C0 w 6 (by decide) rfl rfl inA 5 (by decide) wd_296 rfl d_A_nextInput_14 ?_
    refine lv_aload_n hx hb d_A_nextInput_17 rfl (lv_at hl 0 rfl) ?_
    refine U_get C0 w 6 (by decide) rfl rfl inA 13 (by decide) wd_308 rfl d_A_nextInput_18 ?_
    obtain ⟨hi2, h⟩ := if_ok h
    refine U_ald C0 w (iX_29 ct) hi2 d_A_nextInput_21 ?_
    refine lv_istore_n hx hb d_A_nextInput_22 rfl hl (by decide) rfl (fun ls hl => ?_)
    have hl : lv_has ls 2 [(1, .int (M 29 (M 6 13).toNatClampNeg)), (0, .ref (q 6))] := hl
    refine lv_aload_n hx hb d_A_nextInput_23 rfl (lv_at hl 1 rfl) ?_
    refine lv_dup hx hb d_A_nextInput_24 rfl ?_
    refine U_get C0 w 6 (by decide) rfl rfl inA 13 (by decide) wd_308 rfl d_A_nextInput_25 ?_
    refine lv_iconst (v := 1) hx hb d_A_nextInput_28 (by decide) ?_
    refine lv_iadd hx hb d_A_nextInput_29 ?_
    obtain ⟨M3, eM3, h⟩ := wr_ok h
    try dsimp only at h
    refine U_put C0 (cX_l ct) w 6 (by decide) rfl rfl inA tyA_ok nmA 13 (by decide) wd_308 rfl rfl rfl (Nat.le_of_ble_eq_true rfl) d_A_nextInput_30 eM3 rfl (fun H locs w => ?_)
    refine lv_iload_n hx hb d_A_nextInput_33 rfl (lv_at hl 0 rfl) ?_
    cases h
    exact hret _ _ _ _ d_A_nextInput_34 rfl w
  · rw [if_neg hc] at h
    refine lv_iconst (v := 0) hx hb d_A_nextInput_11 (by decide) ?_
    cases h
    exact hret _ _ _ _ d_A_nextInput_12 rfl w
abbrev rm_A_perform : Room := { frames := 1, cells := 0, slots := 0, locals := 22 }
set_option maxHeartbeats 8000000 in
set_option maxRecDepth 100000 in
theorem c_A_perform (l : Launch) (D : va_G) (ct : Nat → ClassId) (q : Nat → Nat) {x1 x2 x3 : Int32} {M Mz : Sto} {rz : Int32} (h : m_A_perform x1 x2 x3 M = some (rz, Mz)) : KI l D ct y_A_perform b_A_perform 4 (some .int) 1 22 [.ref (q 6), .int x1, .int x2, .int x3] (wX ct q M) rz (wX ct q Mz) := by
  refine KI.ofU (by decide) (Nat.le_of_ble_eq_true rfl) rfl ?_
  intro p e s m args below meth c A Q ls C0 hl w hret
  have hx := C0.1
  have hb := C0.2.1
  have hl : lv_has ls 4 [(0, .ref (q 6)), (1, .int x1), (2, .int x2), (3, .int x3)] := hl
  unfold m_A_perform at h
  refine lv_aload_n hx hb d_A_perform_0 rfl (lv_at hl 0 rfl) ?_
  refine lv_dup hx hb d_A_perform_1 rfl ?_
  refine U_get C0 w 6 (by decide) rfl rfl inA 12 (by decide) wd_306 rfl d_A_perform_2 ?_
  refine lv_iconst (v := 1) hx hb d_A_perform_5 (by decide) ?_
  refine lv_iadd hx hb d_A_perform_6 ?_
  obtain ⟨M5, eM5, h⟩ := wr_ok h
  try dsimp only at h
  refine U_put C0 (cX_l ct) w 6 (by decide) rfl rfl inA tyA_ok nmA 12 (by decide) wd_306 rfl rfl rfl (Nat.le_of_ble_eq_true rfl) d_A_perform_7 eM5 rfl (fun H locs w => ?_)
  refine lv_iload_n hx hb d_A_perform_10 rfl (lv_at hl 1 rfl) ?_
  refine lv_bipush (v := 7) hx hb d_A_perform_11 (by decide) ?_
  have hJ21 : ∀ (v1 v2 v3 : Int32) (M : Sto) (H : Heap) (locs : List Loc) (ls : Array Slot), lv_has ls 4 [(0, .ref (q 6)), (1, .int v1), (2, .int v2), (3, .int v3)] → Wd D A s (wX ct q M) H locs → j_A_perform_21 v1 v2 v3 M = some (rz, Mz) → W p l e rm_A_perform s m args below meth c H locs 0 0 Q (F0 m 21 ls []) := by
    intro v1 v2 v3 M H locs ls hl w h
    unfold j_A_perform_21 at h
    refine lv_iload_n hx hb d_A_perform_21 rfl (lv_at hl 1 rfl) ?_
    refine lv_bipush (v := 6) hx hb d_A_perform_22 (by decide) ?_
    have hJ40 : ∀ (s0 : Int32) (M : Sto) (H : Heap) (locs : List Loc) (ls : Array Slot), lv_has ls 4 [] → Wd D A s (wX ct q M) H locs → j_A_perform_40 s0 M = some (rz, Mz) → W p l e rm_A_perform s m args below meth c H locs 0 0 Q (F0 m 40 ls [.int s0]) := by
      intro s0 M H locs ls hl w h
      unfold j_A_perform_40 at h
      cases h
      exact hret _ _ _ _ d_A_perform_40 rfl w
    refine lv_icmp_ne (tgt := 34) hx hb d_A_perform_24 (by decide) (fun hc => ?_) (fun hc => ?_)
    · rw [if_neg hc] at h
      refine lv_iload_n hx hb d_A_perform_34 rfl (lv_at hl 1 rfl) ?_
      refine lv_iload_n hx hb d_A_perform_35 rfl (lv_at hl 2 rfl) ?_
      refine lv_iload_n hx hb d_A_perform_36 rfl (lv_at hl 3 rfl) ?_
      obtain ⟨r6, M7, hc8, h⟩ := bind_ok h
      try dsimp only at h
      refine U_siN (rest := []) C0 w (c_N_calculate l D ct q hc8) wd_656 (C0.2.2.2.2.2.2.nest ("NameForge$Machine", 173, ⟨"NameForge", "calculate", "(III)I"⟩) (by decide)) wd_655 wd_1 (n9 := 3) (by decide +kernel) rfl ⟨(Nat.le_of_ble_eq_true rfl), (Nat.le_of_ble_eq_true rfl)⟩ hl.1 rfl (Nat.le_of_ble_eq_true rfl) d_A_perform_37 (Nat.le_of_ble_eq_true rfl) (Nat.le_of_ble_eq_true rfl) (fun H locs w => ?_)
      exact hJ40 _ _ _ _ _ (lv_sub hl [] rfl) w h
    · rw [if_pos hc] at h
      refine lv_aload_n hx hb d_A_perform_27 rfl (lv_at hl 0 rfl) ?_
      obtain ⟨r9, M10, hc11, h⟩ := bind_ok h
      try dsimp only at h
      refine U_vi (rest := []) C0 w 6 (wU_at (by decide)) rfl (c_A_nextInput l D ct q hc11) wd_790 wd_787 wd_789 ws_28 wd_7 (n9 := 0) (by decide +kernel) rfl ⟨(Nat.le_of_ble_eq_true rfl), (Nat.le_of_ble_eq_true rfl)⟩ hl.1 rfl (Nat.le_of_ble_eq_true rfl) d_A_perform_28 (Nat.le_of_ble_eq_true rfl) (Nat.le_of_ble_eq_true rfl) (fun H locs w => ?_)
      refine lv_goto (tgt := 40) hx hb d_A_perform_31 (by decide) ?_
      exact hJ40 _ _ _ _ _ (lv_sub hl [] rfl) w h
  refine lv_icmp_ne (tgt := 21) hx hb d_A_perform_13 (by decide) (fun hc => ?_) (fun hc => ?_)
  · rw [if_neg hc] at h
    exact hJ21 _ _ _ _ _ _ _ (lv_sub hl [0, 1, 2, 3] rfl) w h
  · rw [if_pos hc] at h
    refine lv_aload_n hx hb d_A_perform_16 rfl (lv_at hl 0 rfl) ?_
    refine lv_iload_n hx hb d_A_perform_17 rfl (lv_at hl 2 rfl) ?_
    obtain ⟨r12, M13, hc14, h⟩ := bind_ok h
    try dsimp only at h
    refine U_vv (rest := []) C0 w 6 (wU_at (by decide)) rfl (c_A_keep l D ct q hc14) wd_786 wd_783 wd_785 ws_27 wd_7 (n9 := 1) (by decide +kernel) rfl ⟨(Nat.le_of_ble_eq_true rfl), (Nat.le_of_ble_eq_true rfl)⟩ hl.1 rfl (Nat.le_of_ble_eq_true rfl) d_A_perform_18 (Nat.le_of_ble_eq_true rfl) (Nat.le_of_ble_eq_true rfl) (fun H locs w => ?_)
    exact hJ21 _ _ _ _ _ _ _ (lv_sub hl [0, 1, 2, 3] rfl) w h
abbrev rm_A_nextOf : Room := { frames := 0, cells := 0, slots := 0, locals := 0 }
set_option maxHeartbeats 8000000 in
set_option maxRecDepth 100000 in
theorem c_A_nextOf (l : Launch) (D : va_G) (ct : Nat → ClassId) (q : Nat → Nat) {x1 x2 : Int32} {M Mz : Sto} {rz : Int32} (h : m_A_nextOf x1 x2 M = some (rz, Mz)) : KI l D ct y_A_nextOf b_A_nextOf 3 (some .int) 0 0 [.ref (q 6), .int x1, .int x2] (wX ct q M) rz (wX ct q Mz) := by
  refine KI.ofU (by decide) (Nat.le_of_ble_eq_true rfl) rfl ?_
  intro p e s m args below meth c A Q ls C0 hl w hret
  have hx := C0.1
  have hb := C0.2.1
  have hl : lv_has ls 3 [(0, .ref (q 6)), (1, .int x1), (2, .int x2)] := hl
  unfold m_A_nextOf at h
  refine lv_aload_n hx hb d_A_nextOf_0 rfl (lv_at hl 0 rfl) ?_
  refine U_get C0 w 6 (by decide) rfl rfl inA 0 (by decide) wd_290 rfl d_A_nextOf_1 ?_
  refine U_get C0 w 1 (by decide) rfl rfl inP 6 (by decide) wd_62 rfl d_A_nextOf_4 ?_
  refine lv_iload_n hx hb d_A_nextOf_7 rfl (lv_at hl 1 rfl) ?_
  obtain ⟨hi1, h⟩ := if_ok h
  refine U_ald C0 w (iX_8 ct) hi1 d_A_nextOf_8 ?_
  refine lv_if_ne (tgt := 14) hx hb d_A_nextOf_9 (by decide) (fun hc => ?_) (fun hc => ?_)
  · rw [if_neg hc] at h
    refine lv_iload_n hx hb d_A_nextOf_14 rfl (lv_at hl 2 rfl) ?_
    have hJ39 : ∀ (s0 : Int32) (M : Sto) (H : Heap) (locs : List Loc) (ls : Array Slot), lv_has ls 3 [] → Wd D A s (wX ct q M) H locs → j_A_nextOf_39 s0 M = some (rz, Mz) → W p l e rm_A_nextOf s m args below meth c H locs 0 0 Q (F0 m 39 ls [.int s0]) := by
      intro s0 M H locs ls hl w h
      unfold j_A_nextOf_39 at h
      cases h
      exact hret _ _ _ _ d_A_nextOf_39 rfl w
    refine lv_if_eq (tgt := 30) hx hb d_A_nextOf_15 (by decide) (fun hc => ?_) (fun hc => ?_)
    · rw [if_pos hc] at h
      refine lv_aload_n hx hb d_A_nextOf_30 rfl (lv_at hl 0 rfl) ?_
      refine U_get C0 w 6 (by decide) rfl rfl inA 0 (by decide) wd_290 rfl d_A_nextOf_31 ?_
      refine U_get C0 w 1 (by decide) rfl rfl inP 9 (by decide) wd_71 rfl d_A_nextOf_34 ?_
      refine lv_iload_n hx hb d_A_nextOf_37 rfl (lv_at hl 1 rfl) ?_
      obtain ⟨hi2, h⟩ := if_ok h
      refine U_ald C0 w (iX_11 ct) hi2 d_A_nextOf_38 ?_
      exact hJ39 _ _ _ _ _ (lv_sub hl [] rfl) w h
    · rw [if_neg hc] at h
      refine lv_aload_n hx hb d_A_nextOf_18 rfl (lv_at hl 0 rfl) ?_
      refine U_get C0 w 6 (by decide) rfl rfl inA 0 (by decide) wd_290 rfl d_A_nextOf_19 ?_
      refine U_get C0 w 1 (by decide) rfl rfl inP 8 (by decide) wd_68 rfl d_A_nextOf_22 ?_
      refine lv_iload_n hx hb d_A_nextOf_25 rfl (lv_at hl 1 rfl) ?_
      obtain ⟨hi3, h⟩ := if_ok h
      refine U_ald C0 w (iX_10 ct) hi3 d_A_nextOf_26 ?_
      refine lv_goto (tgt := 39) hx hb d_A_nextOf_27 (by decide) ?_
      exact hJ39 _ _ _ _ _ (lv_sub hl [] rfl) w h
  · rw [if_pos hc] at h
    refine lv_iconst (v := (-1)) hx hb d_A_nextOf_12 (by decide) ?_
    cases h
    exact hret _ _ _ _ d_A_nextOf_13 rfl w
abbrev rm_A_passPlain : Room := { frames := 2, cells := 0, slots := 0, locals := 45 }
set_option maxHeartbeats 8000000 in
set_option maxRecDepth 100000 in
theorem c_A_passPlain (l : Launch) (D : va_G) (ct : Nat → ClassId) (q : Nat → Nat) {x1 : Int32} {M Mz : Sto} {rz : Int32} (h : m_A_passPlain x1 M = some (rz, Mz)) : KI l D ct y_A_passPlain b_A_passPlain 9 (some .int) 2 45 [.ref (q 6), .int x1] (wX ct q M) rz (wX ct q Mz) := by
  refine KI.ofU (by decide) (Nat.le_of_ble_eq_true rfl) rfl ?_
  intro p e s m args below meth c A Q ls C0 hl w hret
  have hx := C0.1
  have hb := C0.2.1
  have hl : lv_has ls 9 [(0, .ref (q 6)), (1, .int x1)] := hl
  unfold m_A_passPlain at h
  refine lv_iconst (v := 0) hx hb d_A_passPlain_0 (by decide) ?_
  refine lv_istore_n hx hb d_A_passPlain_1 rfl hl (by decide) rfl (fun ls hl => ?_)
  have hl : lv_has ls 9 [(2, .int 0), (0, .ref (q 6)), (1, .int x1)] := hl
  generalize eK2 : j_A_passPlain_136 = K2 at h
  have hE2 : ∀ (v1 : Int32) (M : Sto) (H : Heap) (locs : List Loc) (ls : Array Slot), lv_has ls 9 [(0, .ref (q 6)), (1, .int v1)] → Wd D A s (wX ct q M) H locs → K2 v1 M = some (rz, Mz) → W p l e rm_A_passPlain s m args below meth c H locs 0 0 Q (F0 m 136 ls []) := by
    intro v1 M H locs ls hl w h
    rw [← eK2] at h
    unfold j_A_passPlain_136 at h
    refine lv_aload_n hx hb d_A_passPlain_136 rfl (lv_at hl 0 rfl) ?_
    refine lv_iload_n hx hb d_A_passPlain_137 rfl (lv_at hl 1 rfl) ?_
    refine lv_aload_n hx hb d_A_passPlain_138 rfl (lv_at hl 0 rfl) ?_
    refine U_get C0 w 6 (by decide) rfl rfl inA 6 (by decide) wd_297 rfl d_A_passPlain_139 ?_
    refine lv_aload_n hx hb d_A_passPlain_142 rfl (lv_at hl 0 rfl) ?_
    refine U_get C0 w 6 (by decide) rfl rfl inA 0 (by decide) wd_290 rfl d_A_passPlain_143 ?_
    refine U_get C0 w 1 (by decide) rfl rfl inP 7 (by decide) wd_64 rfl d_A_passPlain_146 ?_
    refine lv_iload_n hx hb d_A_passPlain_149 rfl (lv_at hl 1 rfl) ?_
    obtain ⟨hi7, h⟩ := if_ok h
    refine U_ald C0 w (iX_9 ct) hi7 d_A_passPlain_150 ?_
    obtain ⟨hi8, h⟩ := if_ok h
    refine U_ald C0 w (iX_30 ct) hi8 d_A_passPlain_151 ?_
    obtain ⟨r9, M10, hc11, h⟩ := bind_ok h
    try dsimp only at h
    refine U_vi (rest := []) C0 w 6 (wU_at (by decide)) rfl (c_A_nextOf l D ct q hc11) wd_796 wd_793 wd_795 ws_29 wd_7 (n9 := 2) (by decide +kernel) rfl ⟨(Nat.le_of_ble_eq_true rfl), (Nat.le_of_ble_eq_true rfl)⟩ hl.1 rfl (Nat.le_of_ble_eq_true rfl) d_A_passPlain_152 (Nat.le_of_ble_eq_true rfl) (Nat.le_of_ble_eq_true rfl) (fun H locs w => ?_)
    cases h
    exact hret _ _ _ _ d_A_passPlain_155 rfl w
  have hL2 : ∀ (n : Nat) (v1 v2 : Int32) (M : Sto) (H : Heap) (locs : List Loc) (ls : Array Slot), lv_has ls 9 [(0, .ref (q 6)), (1, .int v1), (2, .int v2)] → Wd D A s (wX ct q M) H locs → l_A_passPlain_2 K2 n v1 v2 M = some (rz, Mz) → W p l e rm_A_passPlain s m args below meth c H locs 0 0 Q (F0 m 2 ls []) := by
    intro n
    induction n with
    | zero => intro v1 v2 M H locs ls hl w h; simp [l_A_passPlain_2] at h
    | succ n ih2 =>
      intro v1 v2 M H locs ls hl w h
      unfold l_A_passPlain_2 at h
      refine lv_iload_n hx hb d_A_passPlain_2 rfl (lv_at hl 2 rfl) ?_
      refine lv_aload_n hx hb d_A_passPlain_3 rfl (lv_at hl 0 rfl) ?_
      refine U_get C0 w 6 (by decide) rfl rfl inA 0 (by decide) wd_290 rfl d_A_passPlain_4 ?_
      refine U_get C0 w 1 (by decide) rfl rfl inP 1 (by decide) wd_44 rfl d_A_passPlain_7 ?_
      refine lv_iload_n hx hb d_A_passPlain_10 rfl (lv_at hl 1 rfl) ?_
      obtain ⟨hi12, h⟩ := if_ok h
      refine U_ald C0 w (iX_7 ct) hi12 d_A_passPlain_11 ?_
      refine lv_icmp_ge (tgt := 136) hx hb d_A_passPlain_12 (by decide) (fun hc => ?_) (fun hc => ?_)
      · rw [if_pos hc] at h
        exact hE2 _ _ _ _ _ (lv_sub hl [0, 1] rfl) w h
      · rw [if_neg hc] at h
        refine lv_aload_n hx hb d_A_passPlain_15 rfl (lv_at hl 0 rfl) ?_
        refine U_get C0 w 6 (by decide) rfl rfl inA 0 (by decide) wd_290 rfl d_A_passPlain_16 ?_
        refine U_get C0 w 1 (by decide) rfl rfl inP 2 (by decide) wd_48 rfl d_A_passPlain_19 ?_
        refine lv_iload_n hx hb d_A_passPlain_22 rfl (lv_at hl 1 rfl) ?_
        obtain ⟨hi13, h⟩ := if_ok h
        refine U_gld C0 w (gX_34 ct) hi13 d_A_passPlain_23 ?_
        refine lv_iload_n hx hb d_A_passPlain_24 rfl (lv_at hl 2 rfl) ?_
        obtain ⟨hi14, h⟩ := if_ok h
        refine U_ald C0 w (rowI ct (b := 43) (by decide) (by decide) hi13) hi14 d_A_passPlain_25 ?_
        refine lv_istore_n hx hb d_A_passPlain_26 rfl hl (by decide) rfl (fun ls hl => ?_)
        have hl : lv_has ls 9 [(3, .int (M (43 + v1.toNatClampNeg) v2.toNatClampNeg)), (0, .ref (q 6)), (1, .int v1), (2, .int v2)] := hl
        refine lv_aload_n hx hb d_A_passPlain_27 rfl (lv_at hl 1 rfl) ?_
        refine U_get C0 w 6 (by decide) rfl rfl inA 0 (by decide) wd_290 rfl d_A_passPlain_28 ?_
        refine U_get C0 w 1 (by decide) rfl rfl inP 4 (by decide) wd_54 rfl d_A_passPlain_31 ?_
        refine lv_iload_n hx hb d_A_passPlain_34 rfl (lv_at hl 2 rfl) ?_
        obtain ⟨hi15, h⟩ := if_ok h
        refine U_gld C0 w (gX_36 ct) hi15 d_A_passPlain_35 ?_
        refine lv_iload_n hx hb d_A_passPlain_36 rfl (lv_at hl 3 rfl) ?_
        obtain ⟨hi16, h⟩ := if_ok h
        refine U_ald C0 w (rowI ct (b := 63) (by decide) (by decide) hi15) hi16 d_A_passPlain_37 ?_
        refine lv_istore hx hb d_A_passPlain_38 hl (by decide) rfl (fun ls hl => ?_)
        have hl : lv_has ls 9 [(4, .int (M (63 + v1.toNatClampNeg) v2.toNatClampNeg)), (3, .int (M (43 + v1.toNatClampNeg) v2.toNatClampNeg)), (0, .ref (q 6)), (1, .int v1), (2, .int v2)] := hl
        refine lv_aload_n hx hb d_A_passPlain_40 rfl (lv_at hl 2 rfl) ?_
        refine U_get C0 w 6 (by decide) rfl rfl inA 0 (by decide) wd_290 rfl d_A_passPlain_41 ?_
        refine U_get C0 w 1 (by decide) rfl rfl inP 5 (by decide) wd_58 rfl d_A_passPlain_44 ?_
        refine lv_iload_n hx hb d_A_passPlain_47 rfl (lv_at hl 3 rfl) ?_
        obtain ⟨hi17, h⟩ := if_ok h
        refine U_gld C0 w (gX_37 ct) hi17 d_A_passPlain_48 ?_
        refine lv_iload_n hx hb d_A_passPlain_49 rfl (lv_at hl 4 rfl) ?_
        obtain ⟨hi18, h⟩ := if_ok h
        refine U_ald C0 w (rowI ct (b := 73) (by decide) (by decide) hi17) hi18 d_A_passPlain_50 ?_
        refine lv_istore hx hb d_A_passPlain_51 hl (by decide) rfl (fun ls hl => ?_)
        have hl : lv_has ls 9 [(5, .int (M (73 + v1.toNatClampNeg) v2.toNatClampNeg)), (4, .int (M (63 + v1.toNatClampNeg) v2.toNatClampNeg)), (3, .int (M (43 + v1.toNatClampNeg) v2.toNatClampNeg)), (0, .ref (q 6)), (1, .int v1), (2, .int v2)] := hl
        refine lv_iload_n hx hb d_A_passPlain_53 rfl (lv_at hl 2 rfl) ?_
        obtain ⟨r19, M20, hc21, h⟩ := bind_ok h
        try dsimp only at h
        refine U_siN (rest := []) C0 w (c_N_readsX l D ct q hc21) wd_492 (C0.2.2.2.2.2.2.nest ("NameForge$Machine", 91, ⟨"NameForge", "readsX", "(I)Z"⟩) (by decide)) wd_491 wd_1 (n9 := 1) (by decide +kernel) rfl ⟨(Nat.le_of_ble_eq_true rfl), (Nat.le_of_ble_eq_true rfl)⟩ hl.1 rfl (Nat.le_of_ble_eq_true rfl) d_A_passPlain_54 (Nat.le_of_ble_eq_true rfl) (Nat.le_of_ble_eq_true rfl) (fun H locs w => ?_)
        have hJ72 : ∀ (s0 v1 v2 v3 v5 : Int32) (M : Sto) (H : Heap) (locs : List Loc) (ls : Array Slot), lv_has ls 9 [(0, .ref (q 6)), (1, .int v1), (2, .int v2), (3, .int v3), (5, .int v5)] → Wd D A s (wX ct q M) H locs → j_A_passPlain_72 (l_A_passPlain_2 K2 n) K2 s0 v1 v2 v3 v5 M = some (rz, Mz) → W p l e rm_A_passPlain s m args below meth c H locs 0 0 Q (F0 m 72 ls [.int s0]) := by
          intro s0 v1 v2 v3 v5 M H locs ls hl w h
          unfold j_A_passPlain_72 at h
          refine lv_istore hx hb d_A_passPlain_72 hl (by decide) rfl (fun ls hl => ?_)
          have hl : lv_has ls 9 [(6, .int s0), (0, .ref (q 6)), (1, .int v1), (2, .int v2), (3, .int v3), (5, .int v5)] := hl
          refine lv_iload_n hx hb d_A_passPlain_74 rfl (lv_at hl 4 rfl) ?_
          obtain ⟨r22, M23, hc24, h⟩ := bind_ok h
          try dsimp only at h
          refine U_siN (rest := []) C0 w (c_N_readsY l D ct q hc24) wd_495 (C0.2.2.2.2.2.2.nest ("NameForge$Machine", 95, ⟨"NameForge", "readsY", "(I)Z"⟩) (by decide)) wd_494 wd_1 (n9 := 1) (by decide +kernel) rfl ⟨(Nat.le_of_ble_eq_true rfl), (Nat.le_of_ble_eq_true rfl)⟩ hl.1 rfl (Nat.le_of_ble_eq_true rfl) d_A_passPlain_75 (Nat.le_of_ble_eq_true rfl) (Nat.le_of_ble_eq_true rfl) (fun H locs w => ?_)
          have hJ92 : ∀ (s0 v1 v2 v3 v6 : Int32) (M : Sto) (H : Heap) (locs : List Loc) (ls : Array Slot), lv_has ls 9 [(0, .ref (q 6)), (1, .int v1), (2, .int v2), (3, .int v3), (6, .int v6)] → Wd D A s (wX ct q M) H locs → j_A_passPlain_92 (l_A_passPlain_2 K2 n) K2 s0 v1 v2 v3 v6 M = some (rz, Mz) → W p l e rm_A_passPlain s m args below meth c H locs 0 0 Q (F0 m 92 ls [.int s0]) := by
            intro s0 v1 v2 v3 v6 M H locs ls hl w h
            unfold j_A_passPlain_92 at h
            refine lv_istore hx hb d_A_passPlain_92 hl (by decide) rfl (fun ls hl => ?_)
            have hl : lv_has ls 9 [(7, .int s0), (0, .ref (q 6)), (1, .int v1), (2, .int v2), (3, .int v3), (6, .int v6)] := hl
            refine lv_aload_n hx hb d_A_passPlain_94 rfl (lv_at hl 1 rfl) ?_
            refine lv_iload_n hx hb d_A_passPlain_95 rfl (lv_at hl 4 rfl) ?_
            refine lv_iload hx hb d_A_passPlain_96 (lv_at hl 5 rfl) ?_
            refine lv_iload hx hb d_A_passPlain_98 (lv_at hl 0 rfl) ?_
            obtain ⟨r25, M26, hc27, h⟩ := bind_ok h
            try dsimp only at h
            refine U_vi (rest := []) C0 w 6 (wU_at (by decide)) rfl (c_A_perform l D ct q hc27) wd_782 wd_779 wd_781 ws_26 wd_7 (n9 := 3) (by decide +kernel) rfl ⟨(Nat.le_of_ble_eq_true rfl), (Nat.le_of_ble_eq_true rfl)⟩ hl.1 rfl (Nat.le_of_ble_eq_true rfl) d_A_passPlain_100 (Nat.le_of_ble_eq_true rfl) (Nat.le_of_ble_eq_true rfl) (fun H locs w => ?_)
            refine lv_istore hx hb d_A_passPlain_103 hl (by decide) rfl (fun ls hl => ?_)
            have hl : lv_has ls 9 [(8, .int r25), (7, .int s0), (0, .ref (q 6)), (1, .int v1), (2, .int v2), (3, .int v3), (6, .int v6)] := hl
            refine lv_iload_n hx hb d_A_passPlain_105 rfl (lv_at hl 5 rfl) ?_
            obtain ⟨r28, M29, hc30, h⟩ := bind_ok h
            try dsimp only at h
            refine U_siN (rest := []) C0 w (c_N_setsVariable l D ct q hc30) wd_486 (C0.2.2.2.2.2.2.nest ("NameForge$Machine", 102, ⟨"NameForge", "setsVariable", "(I)Z"⟩) (by decide)) wd_485 wd_1 (n9 := 1) (by decide +kernel) rfl ⟨(Nat.le_of_ble_eq_true rfl), (Nat.le_of_ble_eq_true rfl)⟩ hl.1 rfl (Nat.le_of_ble_eq_true rfl) d_A_passPlain_106 (Nat.le_of_ble_eq_true rfl) (Nat.le_of_ble_eq_true rfl) (fun H locs w => ?_)
            have hJ130 : ∀ (v1 v2 : Int32) (M : Sto) (H : Heap) (locs : List Loc) (ls : Array Slot), lv_has ls 9 [(0, .ref (q 6)), (1, .int v1), (2, .int v2)] → Wd D A s (wX ct q M) H locs → j_A_passPlain_130 (l_A_passPlain_2 K2 n) K2 v1 v2 M = some (rz, Mz) → W p l e rm_A_passPlain s m args below meth c H locs 0 0 Q (F0 m 130 ls []) := by
              intro v1 v2 M H locs ls hl w h
              unfold j_A_passPlain_130 at h
              refine lv_iinc (k := 2) (v := v2 + 1) hx hb d_A_passPlain_130 hl rfl (inc1 _) (by decide) rfl (fun ls hl => ?_)
              have hl : lv_has ls 9 [(2, .int (v2 + 1)), (0, .ref (q 6)), (1, .int v1)] := hl
              refine lv_goto (tgt := 2) hx hb d_A_passPlain_133 (by decide) ?_
              exact ih2 _ _ _ _ _ _ (lv_sub hl [1, 2, 0] rfl) w h
            refine lv_if_eq (tgt := 130) hx hb d_A_passPlain_109 (by decide) (fun hc => ?_) (fun hc => ?_)
            · rw [if_pos hc] at h
              exact hJ130 _ _ _ _ _ _ (lv_sub hl [2, 3, 4] rfl) w h
            · rw [if_neg hc] at h
              refine lv_aload_n hx hb d_A_passPlain_112 rfl (lv_at hl 2 rfl) ?_
              refine U_get C0 w 6 (by decide) rfl rfl inA 6 (by decide) wd_297 rfl d_A_passPlain_113 ?_
              refine lv_aload_n hx hb d_A_passPlain_116 rfl (lv_at hl 2 rfl) ?_
              refine U_get C0 w 6 (by decide) rfl rfl inA 0 (by decide) wd_290 rfl d_A_passPlain_117 ?_
              refine U_get C0 w 1 (by decide) rfl rfl inP 3 (by decide) wd_52 rfl d_A_passPlain_120 ?_
              refine lv_iload_n hx hb d_A_passPlain_123 rfl (lv_at hl 3 rfl) ?_
              obtain ⟨hi31, h⟩ := if_ok h
              refine U_gld C0 w (gX_35 ct) hi31 d_A_passPlain_124 ?_
              refine lv_iload_n hx hb d_A_passPlain_125 rfl (lv_at hl 4 rfl) ?_
              obtain ⟨hi32, h⟩ := if_ok h
              refine U_ald C0 w (rowI ct (b := 53) (by decide) (by decide) hi31) hi32 d_A_passPlain_126 ?_
              refine lv_iload hx hb d_A_passPlain_127 (lv_at hl 0 rfl) ?_
              obtain ⟨hi33, h⟩ := if_ok h
              obtain ⟨M34, eM34, h⟩ := wr_ok h
              try dsimp only at h
              refine U_ast C0 (cX_l ct) w (iX_30 ct) hi33 d_A_passPlain_129 eM34 (fun H locs w => ?_)
              exact hJ130 _ _ _ _ _ _ (lv_sub hl [2, 3, 4] rfl) w h
          refine lv_if_eq (tgt := 91) hx hb d_A_passPlain_78 (by decide) (fun hc => ?_) (fun hc => ?_)
          · rw [if_pos hc] at h
            refine lv_iconst (v := 0) hx hb d_A_passPlain_91 (by decide) ?_
            exact hJ92 _ _ _ _ _ _ _ _ _ (lv_sub hl [1, 2, 3, 4, 0] rfl) w h
          · rw [if_neg hc] at h
            refine lv_aload_n hx hb d_A_passPlain_81 rfl (lv_at hl 1 rfl) ?_
            refine U_get C0 w 6 (by decide) rfl rfl inA 6 (by decide) wd_297 rfl d_A_passPlain_82 ?_
            refine lv_iload hx hb d_A_passPlain_85 (lv_at hl 5 rfl) ?_
            obtain ⟨hi35, h⟩ := if_ok h
            refine U_ald C0 w (iX_30 ct) hi35 d_A_passPlain_87 ?_
            refine lv_goto (tgt := 92) hx hb d_A_passPlain_88 (by decide) ?_
            exact hJ92 _ _ _ _ _ _ _ _ _ (lv_sub hl [1, 2, 3, 4, 0] rfl) w h
        refine lv_if_eq (tgt := 70) hx hb d_A_passPlain_57 (by decide) (fun hc => ?_) (fun hc => ?_)
        · rw [if_pos hc] at h
          refine lv_iload hx hb d_A_passPlain_70 (lv_at hl 1 rfl) ?_
          exact hJ72 _ _ _ _ _ _ _ _ _ (lv_sub hl [3, 4, 5, 2, 0] rfl) w h
        · rw [if_neg hc] at h
          refine lv_aload_n hx hb d_A_passPlain_60 rfl (lv_at hl 3 rfl) ?_
          refine U_get C0 w 6 (by decide) rfl rfl inA 6 (by decide) wd_297 rfl d_A_passPlain_61 ?_
          refine lv_iload hx hb d_A_passPlain_64 (lv_at hl 1 rfl) ?_
          obtain ⟨hi36, h⟩ := if_ok h
          refine U_ald C0 w (iX_30 ct) hi36 d_A_passPlain_66 ?_
          refine lv_goto (tgt := 72) hx hb d_A_passPlain_67 (by decide) ?_
          exact hJ72 _ _ _ _ _ _ _ _ _ (lv_sub hl [3, 4, 5, 2, 0] rfl) w h
  exact hL2 FU _ _ _ _ _ _ (lv_sub hl [1, 2, 0] rfl) w h
abbrev rm_A_valueOf : Room := { frames := 0, cells := 0, slots := 0, locals := 0 }
set_option maxHeartbeats 8000000 in
set_option maxRecDepth 100000 in
theorem c_A_valueOf (l : Launch) (D : va_G) (ct : Nat → ClassId) (q : Nat → Nat) {x1 : Int32} {M Mz : Sto} {rz : Int32} (h : m_A_valueOf x1 M = some (rz, Mz)) : KI l D ct y_A_valueOf b_A_valueOf 2 (some .int) 0 0 [.ref (q 6), .int x1] (wX ct q M) rz (wX ct q Mz) := by
  refine KI.ofU (by decide) (Nat.le_of_ble_eq_true rfl) rfl ?_
  intro p e s m args below meth c A Q ls C0 hl w hret
  have hx := C0.1
  have hb := C0.2.1
  have hl : lv_has ls 2 [(0, .ref (q 6)), (1, .int x1)] := hl
  unfold m_A_valueOf at h
  refine lv_iload_n hx hb d_A_valueOf_0 rfl (lv_at hl 1 rfl) ?_
  refine lv_iconst (v := (-1)) hx hb d_A_valueOf_1 (by decide) ?_
  refine lv_icmp_ne (tgt := 7) hx hb d_A_valueOf_2 (by decide) (fun hc => ?_) (fun hc => ?_)
  · rw [if_neg hc] at h
    refine lv_aload_n hx hb d_A_valueOf_7 rfl (lv_at hl 0 rfl) ?_
    refine U_get C0 w 6 (by decide) rfl rfl inA 2 (by decide) wd_292 rfl d_A_valueOf_8 ?_
    refine U_get C0 w 4 (by decide) rfl rfl inK 5 (by decide) wd_233 rfl d_A_valueOf_11 ?_
    refine lv_iload_n hx hb d_A_valueOf_14 rfl (lv_at hl 1 rfl) ?_
    obtain ⟨hi1, h⟩ := if_ok h
    refine U_ald C0 w (iX_25 ct) hi1 d_A_valueOf_15 ?_
    refine lv_iconst (v := 1) hx hb d_A_valueOf_16 (by decide) ?_
    have hJ38 : ∀ (s0 : Int32) (M : Sto) (H : Heap) (locs : List Loc) (ls : Array Slot), lv_has ls 2 [] → Wd D A s (wX ct q M) H locs → j_A_valueOf_38 s0 M = some (rz, Mz) → W p l e rm_A_valueOf s m args below meth c H locs 0 0 Q (F0 m 38 ls [.int s0]) := by
      intro s0 M H locs ls hl w h
      unfold j_A_valueOf_38 at h
      cases h
      exact hret _ _ _ _ d_A_valueOf_38 rfl w
    refine lv_icmp_ne (tgt := 32) hx hb d_A_valueOf_17 (by decide) (fun hc => ?_) (fun hc => ?_)
    · rw [if_neg hc] at h
      refine lv_aload_n hx hb d_A_valueOf_32 rfl (lv_at hl 0 rfl) ?_
      refine U_get C0 w 6 (by decide) rfl rfl inA 7 (by decide) wd_298 rfl d_A_valueOf_33 ?_
      refine lv_iload_n hx hb d_A_valueOf_36 rfl (lv_at hl 1 rfl) ?_
      obtain ⟨hi2, h⟩ := if_ok h
      refine U_ald C0 w (iX_31 ct) hi2 d_A_valueOf_37 ?_
      exact hJ38 _ _ _ _ _ (lv_sub hl [] rfl) w h
    · rw [if_pos hc] at h
      refine lv_aload_n hx hb d_A_valueOf_20 rfl (lv_at hl 0 rfl) ?_
      refine U_get C0 w 6 (by decide) rfl rfl inA 2 (by decide) wd_292 rfl d_A_valueOf_21 ?_
      refine U_get C0 w 4 (by decide) rfl rfl inK 6 (by decide) wd_236 rfl d_A_valueOf_24 ?_
      refine lv_iload_n hx hb d_A_valueOf_27 rfl (lv_at hl 1 rfl) ?_
      obtain ⟨hi3, h⟩ := if_ok h
      refine U_ald C0 w (iX_26 ct) hi3 d_A_valueOf_28 ?_
      refine lv_goto (tgt := 38) hx hb d_A_valueOf_29 (by decide) ?_
      exact hJ38 _ _ _ _ _ (lv_sub hl [] rfl) w h
  · rw [if_pos hc] at h
    refine lv_iconst (v := 0) hx hb d_A_valueOf_5 (by decide) ?_
    cases h
    exact hret _ _ _ _ d_A_valueOf_6 rfl w
abbrev rm_A_choose : Room := { frames := 2, cells := 0, slots := 0, locals := 41 }
set_option maxHeartbeats 8000000 in
set_option maxRecDepth 100000 in
theorem c_A_choose (l : Launch) (D : va_G) (ct : Nat → ClassId) (q : Nat → Nat) {x1 x2 : Int32} {M Mz : Sto} {rz : Int32} (h : m_A_choose x1 x2 M = some (rz, Mz)) : KV l D ct y_A_choose b_A_choose 4 2 41 0 0 [.ref (q 6), .int x1, .int x2] (wX ct q M) (fun A t => CE D (wX ct q Mz) A t) := by
  refine KV.ofU (by decide) (Nat.le_of_ble_eq_true rfl) ?_
  intro p e s m args below meth c A Q ls C0 hl w hret
  have hx := C0.1
  have hb := C0.2.1
  have hl : lv_has ls 4 [(0, .ref (q 6)), (1, .int x1), (2, .int x2)] := hl
  unfold m_A_choose at h
  refine lv_iconst (v := 0) hx hb d_A_choose_0 (by decide) ?_
  refine lv_istore_n hx hb d_A_choose_1 rfl hl (by decide) rfl (fun ls hl => ?_)
  have hl : lv_has ls 4 [(3, .int 0), (0, .ref (q 6)), (1, .int x1), (2, .int x2)] := hl
  generalize eK2 : j_A_choose_35 = K2 at h
  have hE2 : ∀ (v2 : Int32) (M : Sto) (H : Heap) (locs : List Loc) (ls : Array Slot), lv_has ls 4 [(0, .ref (q 6)), (2, .int v2)] → Wd D A s (wX ct q M) H locs → K2 v2 M = some (rz, Mz) → W p l e rm_A_choose s m args below meth c H locs 0 0 Q (F0 m 35 ls []) := by
    intro v2 M H locs ls hl w h
    rw [← eK2] at h
    unfold j_A_choose_35 at h
    refine lv_iconst (v := 0) hx hb d_A_choose_35 (by decide) ?_
    refine lv_istore_n hx hb d_A_choose_36 rfl hl (by decide) rfl (fun ls hl => ?_)
    have hl : lv_has ls 4 [(3, .int 0), (0, .ref (q 6)), (2, .int v2)] := hl
    generalize eK37 : j_A_choose_87 = K37 at h
    have hE37 : ∀ (M : Sto) (H : Heap) (locs : List Loc) (ls : Array Slot), lv_has ls 4 [] → Wd D A s (wX ct q M) H locs → K37 M = some (rz, Mz) → W p l e rm_A_choose s m args below meth c H locs 0 0 Q (F0 m 87 ls []) := by
      intro M H locs ls hl w h
      rw [← eK37] at h
      unfold j_A_choose_87 at h
      cases h
      exact hret _ _ _ _ d_A_choose_87 w
    have hL37 : ∀ (n : Nat) (v2 v3 : Int32) (M : Sto) (H : Heap) (locs : List Loc) (ls : Array Slot), lv_has ls 4 [(0, .ref (q 6)), (2, .int v2), (3, .int v3)] → Wd D A s (wX ct q M) H locs → l_A_choose_37 K37 n v2 v3 M = some (rz, Mz) → W p l e rm_A_choose s m args below meth c H locs 0 0 Q (F0 m 37 ls []) := by
      intro n
      induction n with
      | zero => intro v2 v3 M H locs ls hl w h; simp [l_A_choose_37] at h
      | succ n ih37 =>
        intro v2 v3 M H locs ls hl w h
        unfold l_A_choose_37 at h
        refine lv_iload_n hx hb d_A_choose_37 rfl (lv_at hl 2 rfl) ?_
        refine lv_bipush (v := 6) hx hb d_A_choose_38 (by decide) ?_
        refine lv_icmp_ge (tgt := 87) hx hb d_A_choose_40 (by decide) (fun hc => ?_) (fun hc => ?_)
        · rw [if_pos hc] at h
          exact hE37 _ _ _ _ (lv_sub hl [] rfl) w h
        · rw [if_neg hc] at h
          refine lv_aload_n hx hb d_A_choose_43 rfl (lv_at hl 0 rfl) ?_
          refine U_get C0 w 6 (by decide) rfl rfl inA 1 (by decide) wd_291 rfl d_A_choose_44 ?_
          refine U_get C0 w 3 (by decide) rfl rfl inG 3 (by decide) wd_150 rfl d_A_choose_47 ?_
          refine lv_iload_n hx hb d_A_choose_50 rfl (lv_at hl 1 rfl) ?_
          obtain ⟨hi5, h⟩ := if_ok h
          refine U_ald C0 w (iX_18 ct) hi5 d_A_choose_51 ?_
          refine lv_iload_n hx hb d_A_choose_52 rfl (lv_at hl 2 rfl) ?_
          obtain ⟨r6, M7, hc8, h⟩ := bind_ok h
          try dsimp only at h
          refine U_siN (rest := []) C0 w (c_N_holds l D ct q hc8) wd_568 (C0.2.2.2.2.2.2.nest ("NameForge$Machine", 144, ⟨"NameForge", "holds", "(II)Z"⟩) (by decide)) wd_567 wd_1 (n9 := 2) (by decide +kernel) rfl ⟨(Nat.le_of_ble_eq_true rfl), (Nat.le_of_ble_eq_true rfl)⟩ hl.1 rfl (Nat.le_of_ble_eq_true rfl) d_A_choose_53 (Nat.le_of_ble_eq_true rfl) (Nat.le_of_ble_eq_true rfl) (fun H locs w => ?_)
          have hJ81 : ∀ (v2 v3 : Int32) (M : Sto) (H : Heap) (locs : List Loc) (ls : Array Slot), lv_has ls 4 [(0, .ref (q 6)), (2, .int v2), (3, .int v3)] → Wd D A s (wX ct q M) H locs → j_A_choose_81 (l_A_choose_37 K37 n) K37 v2 v3 M = some (rz, Mz) → W p l e rm_A_choose s m args below meth c H locs 0 0 Q (F0 m 81 ls []) := by
            intro v2 v3 M H locs ls hl w h
            unfold j_A_choose_81 at h
            refine lv_iinc (k := 2) (v := v3 + 1) hx hb d_A_choose_81 hl rfl (inc1 _) (by decide) rfl (fun ls hl => ?_)
            have hl : lv_has ls 4 [(3, .int (v3 + 1)), (0, .ref (q 6)), (2, .int v2)] := hl
            refine lv_goto (tgt := 37) hx hb d_A_choose_84 (by decide) ?_
            exact ih37 _ _ _ _ _ _ (lv_sub hl [1, 2, 0] rfl) w h
          refine lv_if_eq (tgt := 81) hx hb d_A_choose_56 (by decide) (fun hc => ?_) (fun hc => ?_)
          · rw [if_pos hc] at h
            exact hJ81 _ _ _ _ _ _ (lv_sub hl [0, 1, 2] rfl) w h
          · rw [if_neg hc] at h
            refine lv_aload_n hx hb d_A_choose_59 rfl (lv_at hl 0 rfl) ?_
            refine U_get C0 w 6 (by decide) rfl rfl inA 7 (by decide) wd_298 rfl d_A_choose_60 ?_
            refine lv_aload_n hx hb d_A_choose_63 rfl (lv_at hl 0 rfl) ?_
            refine U_get C0 w 6 (by decide) rfl rfl inA 1 (by decide) wd_291 rfl d_A_choose_64 ?_
            refine U_get C0 w 3 (by decide) rfl rfl inG 5 (by decide) wd_155 rfl d_A_choose_67 ?_
            refine lv_iload_n hx hb d_A_choose_70 rfl (lv_at hl 1 rfl) ?_
            obtain ⟨hi9, h⟩ := if_ok h
            refine U_gld C0 w (gX_38 ct) hi9 d_A_choose_71 ?_
            refine lv_iload_n hx hb d_A_choose_72 rfl (lv_at hl 2 rfl) ?_
            obtain ⟨hi10, h⟩ := if_ok h
            refine U_ald C0 w (rowI ct (b := 83) (by decide) (by decide) hi9) hi10 d_A_choose_73 ?_
            refine lv_aload_n hx hb d_A_choose_74 rfl (lv_at hl 0 rfl) ?_
            refine U_get C0 w 6 (by decide) rfl rfl inA 8 (by decide) wd_299 rfl d_A_choose_75 ?_
            refine lv_iload_n hx hb d_A_choose_78 rfl (lv_at hl 2 rfl) ?_
            obtain ⟨hi11, h⟩ := if_ok h
            refine U_ald C0 w (iX_32 ct) hi11 d_A_choose_79 ?_
            obtain ⟨hi12, h⟩ := if_ok h
            obtain ⟨M13, eM13, h⟩ := wr_ok h
            try dsimp only at h
            refine U_ast C0 (cX_l ct) w (iX_31 ct) hi12 d_A_choose_80 eM13 (fun H locs w => ?_)
            exact hJ81 _ _ _ _ _ _ (lv_sub hl [0, 1, 2] rfl) w h
    exact hL37 FU _ _ _ _ _ _ (lv_sub hl [1, 2, 0] rfl) w h
  have hL2 : ∀ (n : Nat) (v1 v2 v3 : Int32) (M : Sto) (H : Heap) (locs : List Loc) (ls : Array Slot), lv_has ls 4 [(0, .ref (q 6)), (1, .int v1), (2, .int v2), (3, .int v3)] → Wd D A s (wX ct q M) H locs → l_A_choose_2 K2 n v1 v2 v3 M = some (rz, Mz) → W p l e rm_A_choose s m args below meth c H locs 0 0 Q (F0 m 2 ls []) := by
    intro n
    induction n with
    | zero => intro v1 v2 v3 M H locs ls hl w h; simp [l_A_choose_2] at h
    | succ n ih2 =>
      intro v1 v2 v3 M H locs ls hl w h
      unfold l_A_choose_2 at h
      refine lv_iload_n hx hb d_A_choose_2 rfl (lv_at hl 3 rfl) ?_
      refine lv_bipush (v := 6) hx hb d_A_choose_3 (by decide) ?_
      refine lv_icmp_ge (tgt := 35) hx hb d_A_choose_5 (by decide) (fun hc => ?_) (fun hc => ?_)
      · rw [if_pos hc] at h
        exact hE2 _ _ _ _ _ (lv_sub hl [0, 2] rfl) w h
      · rw [if_neg hc] at h
        refine lv_aload_n hx hb d_A_choose_8 rfl (lv_at hl 0 rfl) ?_
        refine U_get C0 w 6 (by decide) rfl rfl inA 8 (by decide) wd_299 rfl d_A_choose_9 ?_
        refine lv_iload_n hx hb d_A_choose_12 rfl (lv_at hl 3 rfl) ?_
        refine lv_aload_n hx hb d_A_choose_13 rfl (lv_at hl 0 rfl) ?_
        refine lv_aload_n hx hb d_A_choose_14 rfl (lv_at hl 0 rfl) ?_
        refine U_get C0 w 6 (by decide) rfl rfl inA 1 (by decide) wd_291 rfl d_A_choose_15 ?_
        refine U_get C0 w 3 (by decide) rfl rfl inG 6 (by decide) wd_160 rfl d_A_choose_18 ?_
        refine lv_iload_n hx hb d_A_choose_21 rfl (lv_at hl 1 rfl) ?_
        obtain ⟨hi14, h⟩ := if_ok h
        refine U_gld C0 w (gX_39 ct) hi14 d_A_choose_22 ?_
        refine lv_iload_n hx hb d_A_choose_23 rfl (lv_at hl 3 rfl) ?_
        obtain ⟨hi15, h⟩ := if_ok h
        refine U_ald C0 w (rowI ct (b := 93) (by decide) (by decide) hi14) hi15 d_A_choose_24 ?_
        obtain ⟨r16, M17, hc18, h⟩ := bind_ok h
        try dsimp only at h
        refine U_vi (rest := [.int v3, .ref (q 32)]) C0 w 6 (wU_at (by decide)) rfl (c_A_valueOf l D ct q hc18) wd_808 wd_805 wd_807 ws_32 wd_7 (n9 := 1) (by decide +kernel) rfl ⟨(Nat.le_of_ble_eq_true rfl), (Nat.le_of_ble_eq_true rfl)⟩ hl.1 rfl (Nat.le_of_ble_eq_true rfl) d_A_choose_25 (Nat.le_of_ble_eq_true rfl) (Nat.le_of_ble_eq_true rfl) (fun H locs w => ?_)
        obtain ⟨hi19, h⟩ := if_ok h
        obtain ⟨M20, eM20, h⟩ := wr_ok h
        try dsimp only at h
        refine U_ast C0 (cX_l ct) w (iX_32 ct) hi19 d_A_choose_28 eM20 (fun H locs w => ?_)
        refine lv_iinc (k := 3) (v := v3 + 1) hx hb d_A_choose_29 hl rfl (inc1 _) (by decide) rfl (fun ls hl => ?_)
        have hl : lv_has ls 4 [(3, .int (v3 + 1)), (0, .ref (q 6)), (1, .int v1), (2, .int v2)] := hl
        refine lv_goto (tgt := 2) hx hb d_A_choose_32 (by decide) ?_
        exact ih2 _ _ _ _ _ _ _ (lv_sub hl [1, 2, 3, 0] rfl) w h
  exact hL2 FU _ _ _ _ _ _ _ (lv_sub hl [1, 2, 3, 0] rfl) w h
end
section
abbrev rm_A_isKept : Room := { frames := 0, cells := 0, slots := 0, locals := 0 }
set_option maxHeartbeats 8000000 in
set_option maxRecDepth 100000 in
theorem c_A_isKept (l : Launch) (D : va_G) (ct : Nat → ClassId) (q : Nat → Nat) {x1 : Int32} {M Mz : Sto} {rz : Int32} (h : m_A_isKept x1 M = some (rz, Mz)) : KI l D ct y_A_isKept b_A_isKept 2 (some .boolean) 0 0 [.ref (q 6), .int x1] (wX ct q M) rz (wX ct q Mz) := by
  refine KI.ofU (by decide) (Nat.le_of_ble_eq_true rfl) rfl ?_
  intro p e s m args below meth c A Q ls C0 hl w hret
  have hx := C0.1
  have hb := C0.2.1
  have hl : lv_has ls 2 [(0, .ref (q 6)), (1, .int x1)] := hl
  unfold m_A_isKept at h
  refine lv_aload_n hx hb d_A_isKept_0 rfl (lv_at hl 0 rfl) ?_
  refine U_get C0 w 6 (by decide) rfl rfl inA 3 (by decide) wd_293 rfl d_A_isKept_1 ?_
  refine U_get C0 w 5 (by decide) rfl rfl inD 3 (by decide) wd_266 rfl d_A_isKept_4 ?_
  refine lv_iload_n hx hb d_A_isKept_7 rfl (lv_at hl 1 rfl) ?_
  obtain ⟨hi1, h⟩ := if_ok h
  refine U_zld C0 w (zX_27 ct) hi1 d_A_isKept_8 ?_
  have hJ30 : ∀ (s0 : Int32) (M : Sto) (H : Heap) (locs : List Loc) (ls : Array Slot), lv_has ls 2 [] → Wd D A s (wX ct q M) H locs → j_A_isKept_30 s0 M = some (rz, Mz) → W p l e rm_A_isKept s m args below meth c H locs 0 0 Q (F0 m 30 ls [.int s0]) := by
    intro s0 M H locs ls hl w h
    unfold j_A_isKept_30 at h
    obtain ⟨hz9, h⟩ := if_ok h
    cases h
    exact hret _ _ _ _ d_A_isKept_30 (bz_nar hz9) w
  have hJ29 : ∀ (M : Sto) (H : Heap) (locs : List Loc) (ls : Array Slot), lv_has ls 2 [] → Wd D A s (wX ct q M) H locs → j_A_isKept_29 M = some (rz, Mz) → W p l e rm_A_isKept s m args below meth c H locs 0 0 Q (F0 m 29 ls []) := by
    intro M H locs ls hl w h
    unfold j_A_isKept_29 at h
    refine lv_iconst (v := 0) hx hb d_A_isKept_29 (by decide) ?_
    exact hJ30 _ _ _ _ _ (lv_sub hl [] rfl) w h
  refine lv_if_eq (tgt := 29) hx hb d_A_isKept_9 (by decide) (fun hc => ?_) (fun hc => ?_)
  · rw [if_pos hc] at h
    exact hJ29 _ _ _ _ (lv_sub hl [] rfl) w h
  · rw [if_neg hc] at h
    refine lv_aload_n hx hb d_A_isKept_12 rfl (lv_at hl 0 rfl) ?_
    refine U_get C0 w 6 (by decide) rfl rfl inA 2 (by decide) wd_292 rfl d_A_isKept_13 ?_
    refine U_get C0 w 4 (by decide) rfl rfl inK 5 (by decide) wd_233 rfl d_A_isKept_16 ?_
    refine lv_iload_n hx hb d_A_isKept_19 rfl (lv_at hl 1 rfl) ?_
    obtain ⟨hi2, h⟩ := if_ok h
    refine U_ald C0 w (iX_25 ct) hi2 d_A_isKept_20 ?_
    refine lv_iconst (v := 1) hx hb d_A_isKept_21 (by decide) ?_
    refine lv_icmp_eq (tgt := 29) hx hb d_A_isKept_22 (by decide) (fun hc => ?_) (fun hc => ?_)
    · rw [if_pos hc] at h
      exact hJ29 _ _ _ _ (lv_sub hl [] rfl) w h
    · rw [if_neg hc] at h
      refine lv_iconst (v := 1) hx hb d_A_isKept_25 (by decide) ?_
      refine lv_goto (tgt := 30) hx hb d_A_isKept_26 (by decide) ?_
      exact hJ30 _ _ _ _ _ (lv_sub hl [] rfl) w h
abbrev rm_A_passBecome : Room := { frames := 3, cells := 0, slots := 0, locals := 64 }
set_option maxHeartbeats 8000000 in
set_option maxRecDepth 100000 in
theorem c_A_passBecome (l : Launch) (D : va_G) (ct : Nat → ClassId) (q : Nat → Nat) {x1 x2 : Int32} {M Mz : Sto} {rz : Int32} (h : m_A_passBecome x1 x2 M = some (rz, Mz)) : KI l D ct y_A_passBecome b_A_passBecome 8 (some .int) 3 64 [.ref (q 6), .int x1, .int x2] (wX ct q M) rz (wX ct q Mz) := by
  refine KI.ofU (by decide) (Nat.le_of_ble_eq_true rfl) rfl ?_
  intro p e s m args below meth c A Q ls C0 hl w hret
  have hx := C0.1
  have hb := C0.2.1
  have hl : lv_has ls 8 [(0, .ref (q 6)), (1, .int x1), (2, .int x2)] := hl
  unfold m_A_passBecome at h
  refine lv_iload_n hx hb d_A_passBecome_0 rfl (lv_at hl 1 rfl) ?_
  refine lv_iconst (v := (-1)) hx hb d_A_passBecome_1 (by decide) ?_
  have hJ11 : ∀ (v2 : Int32) (M : Sto) (H : Heap) (locs : List Loc) (ls : Array Slot), lv_has ls 8 [(0, .ref (q 6)), (2, .int v2)] → Wd D A s (wX ct q M) H locs → j_A_passBecome_11 v2 M = some (rz, Mz) → W p l e rm_A_passBecome s m args below meth c H locs 0 0 Q (F0 m 11 ls []) := by
    intro v2 M H locs ls hl w h
    unfold j_A_passBecome_11 at h
    refine lv_iconst (v := 0) hx hb d_A_passBecome_11 (by decide) ?_
    refine lv_istore_n hx hb d_A_passBecome_12 rfl hl (by decide) rfl (fun ls hl => ?_)
    have hl : lv_has ls 8 [(3, .int 0), (0, .ref (q 6)), (2, .int v2)] := hl
    generalize eK13 : j_A_passBecome_130 = K13 at h
    have hE13 : ∀ (v2 : Int32) (M : Sto) (H : Heap) (locs : List Loc) (ls : Array Slot), lv_has ls 8 [(0, .ref (q 6)), (2, .int v2)] → Wd D A s (wX ct q M) H locs → K13 v2 M = some (rz, Mz) → W p l e rm_A_passBecome s m args below meth c H locs 0 0 Q (F0 m 130 ls []) := by
      intro v2 M H locs ls hl w h
      rw [← eK13] at h
      unfold j_A_passBecome_130 at h
      refine lv_aload_n hx hb d_A_passBecome_130 rfl (lv_at hl 0 rfl) ?_
      refine lv_iload_n hx hb d_A_passBecome_131 rfl (lv_at hl 1 rfl) ?_
      refine lv_aload_n hx hb d_A_passBecome_132 rfl (lv_at hl 0 rfl) ?_
      refine lv_aload_n hx hb d_A_passBecome_133 rfl (lv_at hl 0 rfl) ?_
      refine U_get C0 w 6 (by decide) rfl rfl inA 1 (by decide) wd_291 rfl d_A_passBecome_134 ?_
      refine U_get C0 w 3 (by decide) rfl rfl inG 10 (by decide) wd_179 rfl d_A_passBecome_137 ?_
      refine lv_iload_n hx hb d_A_passBecome_140 rfl (lv_at hl 1 rfl) ?_
      obtain ⟨hi9, h⟩ := if_ok h
      refine U_ald C0 w (iX_20 ct) hi9 d_A_passBecome_141 ?_
      obtain ⟨r10, M11, hc12, h⟩ := bind_ok h
      try dsimp only at h
      refine U_vi (rest := [.int v2, .ref (q 6)]) C0 w 6 (wU_at (by decide)) rfl (c_A_valueOf l D ct q hc12) wd_808 wd_805 wd_807 ws_32 wd_7 (n9 := 1) (by decide +kernel) rfl ⟨(Nat.le_of_ble_eq_true rfl), (Nat.le_of_ble_eq_true rfl)⟩ hl.1 rfl (Nat.le_of_ble_eq_true rfl) d_A_passBecome_142 (Nat.le_of_ble_eq_true rfl) (Nat.le_of_ble_eq_true rfl) (fun H locs w => ?_)
      obtain ⟨r13, M14, hc15, h⟩ := bind_ok h
      try dsimp only at h
      refine U_vi (rest := []) C0 w 6 (wU_at (by decide)) rfl (c_A_nextOf l D ct q hc15) wd_796 wd_793 wd_795 ws_29 wd_7 (n9 := 2) (by decide +kernel) rfl ⟨(Nat.le_of_ble_eq_true rfl), (Nat.le_of_ble_eq_true rfl)⟩ hl.1 rfl (Nat.le_of_ble_eq_true rfl) d_A_passBecome_145 (Nat.le_of_ble_eq_true rfl) (Nat.le_of_ble_eq_true rfl) (fun H locs w => ?_)
      cases h
      exact hret _ _ _ _ d_A_passBecome_148 rfl w
    have hL13 : ∀ (n : Nat) (v2 v3 : Int32) (M : Sto) (H : Heap) (locs : List Loc) (ls : Array Slot), lv_has ls 8 [(0, .ref (q 6)), (2, .int v2), (3, .int v3)] → Wd D A s (wX ct q M) H locs → l_A_passBecome_13 K13 n v2 v3 M = some (rz, Mz) → W p l e rm_A_passBecome s m args below meth c H locs 0 0 Q (F0 m 13 ls []) := by
      intro n
      induction n with
      | zero => intro v2 v3 M H locs ls hl w h; simp [l_A_passBecome_13] at h
      | succ n ih13 =>
        intro v2 v3 M H locs ls hl w h
        unfold l_A_passBecome_13 at h
        refine lv_iload_n hx hb d_A_passBecome_13 rfl (lv_at hl 2 rfl) ?_
        refine lv_aload_n hx hb d_A_passBecome_14 rfl (lv_at hl 0 rfl) ?_
        refine U_get C0 w 6 (by decide) rfl rfl inA 0 (by decide) wd_290 rfl d_A_passBecome_15 ?_
        refine U_get C0 w 1 (by decide) rfl rfl inP 1 (by decide) wd_44 rfl d_A_passBecome_18 ?_
        refine lv_iload_n hx hb d_A_passBecome_21 rfl (lv_at hl 1 rfl) ?_
        obtain ⟨hi16, h⟩ := if_ok h
        refine U_ald C0 w (iX_7 ct) hi16 d_A_passBecome_22 ?_
        refine lv_icmp_ge (tgt := 130) hx hb d_A_passBecome_23 (by decide) (fun hc => ?_) (fun hc => ?_)
        · rw [if_pos hc] at h
          exact hE13 _ _ _ _ _ (lv_sub hl [0, 1] rfl) w h
        · rw [if_neg hc] at h
          refine lv_aload_n hx hb d_A_passBecome_26 rfl (lv_at hl 0 rfl) ?_
          refine U_get C0 w 6 (by decide) rfl rfl inA 1 (by decide) wd_291 rfl d_A_passBecome_27 ?_
          refine U_get C0 w 3 (by decide) rfl rfl inG 7 (by decide) wd_165 rfl d_A_passBecome_30 ?_
          refine lv_iload_n hx hb d_A_passBecome_33 rfl (lv_at hl 1 rfl) ?_
          obtain ⟨hi17, h⟩ := if_ok h
          refine U_gld C0 w (gX_40 ct) hi17 d_A_passBecome_34 ?_
          refine lv_iload_n hx hb d_A_passBecome_35 rfl (lv_at hl 2 rfl) ?_
          obtain ⟨hi18, h⟩ := if_ok h
          refine U_ald C0 w (rowI ct (b := 103) (by decide) (by decide) hi17) hi18 d_A_passBecome_36 ?_
          refine lv_istore hx hb d_A_passBecome_37 hl (by decide) rfl (fun ls hl => ?_)
          have hl : lv_has ls 8 [(4, .int (M (103 + v2.toNatClampNeg) v3.toNatClampNeg)), (0, .ref (q 6)), (2, .int v2), (3, .int v3)] := hl
          refine lv_iload hx hb d_A_passBecome_39 (lv_at hl 0 rfl) ?_
          refine lv_iconst (v := (-1)) hx hb d_A_passBecome_41 (by decide) ?_
          have hJ124 : ∀ (v2 v3 : Int32) (M : Sto) (H : Heap) (locs : List Loc) (ls : Array Slot), lv_has ls 8 [(0, .ref (q 6)), (2, .int v2), (3, .int v3)] → Wd D A s (wX ct q M) H locs → j_A_passBecome_124 (l_A_passBecome_13 K13 n) K13 v2 v3 M = some (rz, Mz) → W p l e rm_A_passBecome s m args below meth c H locs 0 0 Q (F0 m 124 ls []) := by
            intro v2 v3 M H locs ls hl w h
            unfold j_A_passBecome_124 at h
            refine lv_iinc (k := 2) (v := v3 + 1) hx hb d_A_passBecome_124 hl rfl (inc1 _) (by decide) rfl (fun ls hl => ?_)
            have hl : lv_has ls 8 [(3, .int (v3 + 1)), (0, .ref (q 6)), (2, .int v2)] := hl
            refine lv_goto (tgt := 13) hx hb d_A_passBecome_127 (by decide) ?_
            exact ih13 _ _ _ _ _ _ (lv_sub hl [1, 2, 0] rfl) w h
          have hJ54 : ∀ (v2 v3 v4 : Int32) (M : Sto) (H : Heap) (locs : List Loc) (ls : Array Slot), lv_has ls 8 [(0, .ref (q 6)), (2, .int v2), (3, .int v3), (4, .int v4)] → Wd D A s (wX ct q M) H locs → j_A_passBecome_54 (l_A_passBecome_13 K13 n) K13 v2 v3 v4 M = some (rz, Mz) → W p l e rm_A_passBecome s m args below meth c H locs 0 0 Q (F0 m 54 ls []) := by
            intro v2 v3 v4 M H locs ls hl w h
            unfold j_A_passBecome_54 at h
            refine lv_aload_n hx hb d_A_passBecome_54 rfl (lv_at hl 0 rfl) ?_
            refine lv_aload_n hx hb d_A_passBecome_55 rfl (lv_at hl 0 rfl) ?_
            refine U_get C0 w 6 (by decide) rfl rfl inA 1 (by decide) wd_291 rfl d_A_passBecome_56 ?_
            refine U_get C0 w 3 (by decide) rfl rfl inG 8 (by decide) wd_170 rfl d_A_passBecome_59 ?_
            refine lv_iload_n hx hb d_A_passBecome_62 rfl (lv_at hl 1 rfl) ?_
            obtain ⟨hi19, h⟩ := if_ok h
            refine U_gld C0 w (gX_41 ct) hi19 d_A_passBecome_63 ?_
            refine lv_iload_n hx hb d_A_passBecome_64 rfl (lv_at hl 2 rfl) ?_
            obtain ⟨hi20, h⟩ := if_ok h
            refine U_ald C0 w (rowI ct (b := 113) (by decide) (by decide) hi19) hi20 d_A_passBecome_65 ?_
            obtain ⟨r21, M22, hc23, h⟩ := bind_ok h
            try dsimp only at h
            refine U_vi (rest := []) C0 w 6 (wU_at (by decide)) rfl (c_A_valueOf l D ct q hc23) wd_808 wd_805 wd_807 ws_32 wd_7 (n9 := 1) (by decide +kernel) rfl ⟨(Nat.le_of_ble_eq_true rfl), (Nat.le_of_ble_eq_true rfl)⟩ hl.1 rfl (Nat.le_of_ble_eq_true rfl) d_A_passBecome_66 (Nat.le_of_ble_eq_true rfl) (Nat.le_of_ble_eq_true rfl) (fun H locs w => ?_)
            refine lv_istore hx hb d_A_passBecome_69 hl (by decide) rfl (fun ls hl => ?_)
            have hl : lv_has ls 8 [(5, .int r21), (0, .ref (q 6)), (2, .int v2), (3, .int v3), (4, .int v4)] := hl
            refine lv_aload_n hx hb d_A_passBecome_71 rfl (lv_at hl 1 rfl) ?_
            refine lv_aload_n hx hb d_A_passBecome_72 rfl (lv_at hl 1 rfl) ?_
            refine U_get C0 w 6 (by decide) rfl rfl inA 1 (by decide) wd_291 rfl d_A_passBecome_73 ?_
            refine U_get C0 w 3 (by decide) rfl rfl inG 9 (by decide) wd_175 rfl d_A_passBecome_76 ?_
            refine lv_iload_n hx hb d_A_passBecome_79 rfl (lv_at hl 2 rfl) ?_
            obtain ⟨hi24, h⟩ := if_ok h
            refine U_gld C0 w (gX_42 ct) hi24 d_A_passBecome_80 ?_
            refine lv_iload_n hx hb d_A_passBecome_81 rfl (lv_at hl 3 rfl) ?_
            obtain ⟨hi25, h⟩ := if_ok h
            refine U_ald C0 w (rowI ct (b := 123) (by decide) (by decide) hi24) hi25 d_A_passBecome_82 ?_
            obtain ⟨r26, M27, hc28, h⟩ := bind_ok h
            try dsimp only at h
            refine U_vi (rest := []) C0 w 6 (wU_at (by decide)) rfl (c_A_valueOf l D ct q hc28) wd_808 wd_805 wd_807 ws_32 wd_7 (n9 := 1) (by decide +kernel) rfl ⟨(Nat.le_of_ble_eq_true rfl), (Nat.le_of_ble_eq_true rfl)⟩ hl.1 rfl (Nat.le_of_ble_eq_true rfl) d_A_passBecome_83 (Nat.le_of_ble_eq_true rfl) (Nat.le_of_ble_eq_true rfl) (fun H locs w => ?_)
            refine lv_istore hx hb d_A_passBecome_86 hl (by decide) rfl (fun ls hl => ?_)
            have hl : lv_has ls 8 [(6, .int r26), (5, .int r21), (0, .ref (q 6)), (2, .int v2), (3, .int v3), (4, .int v4)] := hl
            refine lv_aload_n hx hb d_A_passBecome_88 rfl (lv_at hl 2 rfl) ?_
            refine lv_aload_n hx hb d_A_passBecome_89 rfl (lv_at hl 2 rfl) ?_
            refine U_get C0 w 6 (by decide) rfl rfl inA 0 (by decide) wd_290 rfl d_A_passBecome_90 ?_
            refine U_get C0 w 1 (by decide) rfl rfl inP 2 (by decide) wd_48 rfl d_A_passBecome_93 ?_
            refine lv_iload_n hx hb d_A_passBecome_96 rfl (lv_at hl 3 rfl) ?_
            obtain ⟨hi29, h⟩ := if_ok h
            refine U_gld C0 w (gX_34 ct) hi29 d_A_passBecome_97 ?_
            refine lv_iload_n hx hb d_A_passBecome_98 rfl (lv_at hl 4 rfl) ?_
            obtain ⟨hi30, h⟩ := if_ok h
            refine U_ald C0 w (rowI ct (b := 43) (by decide) (by decide) hi29) hi30 d_A_passBecome_99 ?_
            refine lv_iload hx hb d_A_passBecome_100 (lv_at hl 1 rfl) ?_
            refine lv_iload hx hb d_A_passBecome_102 (lv_at hl 0 rfl) ?_
            obtain ⟨r31, M32, hc33, h⟩ := bind_ok h
            try dsimp only at h
            refine U_vi (rest := []) C0 w 6 (wU_at (by decide)) rfl (c_A_perform l D ct q hc33) wd_782 wd_779 wd_781 ws_26 wd_7 (n9 := 3) (by decide +kernel) rfl ⟨(Nat.le_of_ble_eq_true rfl), (Nat.le_of_ble_eq_true rfl)⟩ hl.1 rfl (Nat.le_of_ble_eq_true rfl) d_A_passBecome_104 (Nat.le_of_ble_eq_true rfl) (Nat.le_of_ble_eq_true rfl) (fun H locs w => ?_)
            refine lv_istore hx hb d_A_passBecome_107 hl (by decide) rfl (fun ls hl => ?_)
            have hl : lv_has ls 8 [(7, .int r31), (6, .int r26), (5, .int r21), (0, .ref (q 6)), (2, .int v2), (3, .int v3), (4, .int v4)] := hl
            refine lv_iload hx hb d_A_passBecome_109 (lv_at hl 6 rfl) ?_
            refine lv_iconst (v := (-1)) hx hb d_A_passBecome_111 (by decide) ?_
            refine lv_icmp_eq (tgt := 124) hx hb d_A_passBecome_112 (by decide) (fun hc => ?_) (fun hc => ?_)
            · rw [if_pos hc] at h
              exact hJ124 _ _ _ _ _ _ (lv_sub hl [3, 4, 5] rfl) w h
            · rw [if_neg hc] at h
              refine lv_aload_n hx hb d_A_passBecome_115 rfl (lv_at hl 3 rfl) ?_
              refine U_get C0 w 6 (by decide) rfl rfl inA 7 (by decide) wd_298 rfl d_A_passBecome_116 ?_
              refine lv_iload hx hb d_A_passBecome_119 (lv_at hl 6 rfl) ?_
              refine lv_iload hx hb d_A_passBecome_121 (lv_at hl 0 rfl) ?_
              obtain ⟨hi34, h⟩ := if_ok h
              obtain ⟨M35, eM35, h⟩ := wr_ok h
              try dsimp only at h
              refine U_ast C0 (cX_l ct) w (iX_31 ct) hi34 d_A_passBecome_123 eM35 (fun H locs w => ?_)
              exact hJ124 _ _ _ _ _ _ (lv_sub hl [3, 4, 5] rfl) w h
          refine lv_icmp_eq (tgt := 54) hx hb d_A_passBecome_42 (by decide) (fun hc => ?_) (fun hc => ?_)
          · rw [if_pos hc] at h
            exact hJ54 _ _ _ _ _ _ _ (lv_sub hl [1, 2, 3, 0] rfl) w h
          · rw [if_neg hc] at h
            refine lv_aload_n hx hb d_A_passBecome_45 rfl (lv_at hl 1 rfl) ?_
            refine lv_iload hx hb d_A_passBecome_46 (lv_at hl 0 rfl) ?_
            obtain ⟨r36, M37, hc38, h⟩ := bind_ok h
            try dsimp only at h
            refine U_vi (rest := []) C0 w 6 (wU_at (by decide)) rfl (c_A_isKept l D ct q hc38) wd_813 wd_810 wd_812 ws_33 wd_7 (n9 := 1) (by decide +kernel) rfl ⟨(Nat.le_of_ble_eq_true rfl), (Nat.le_of_ble_eq_true rfl)⟩ hl.1 rfl (Nat.le_of_ble_eq_true rfl) d_A_passBecome_48 (Nat.le_of_ble_eq_true rfl) (Nat.le_of_ble_eq_true rfl) (fun H locs w => ?_)
            refine lv_if_eq (tgt := 124) hx hb d_A_passBecome_51 (by decide) (fun hc => ?_) (fun hc => ?_)
            · rw [if_pos hc] at h
              exact hJ124 _ _ _ _ _ _ (lv_sub hl [1, 2, 3] rfl) w h
            · rw [if_neg hc] at h
              exact hJ54 _ _ _ _ _ _ _ (lv_sub hl [1, 2, 3, 0] rfl) w h
    exact hL13 FU _ _ _ _ _ _ (lv_sub hl [1, 2, 0] rfl) w h
  refine lv_icmp_eq (tgt := 11) hx hb d_A_passBecome_2 (by decide) (fun hc => ?_) (fun hc => ?_)
  · rw [if_pos hc] at h
    exact hJ11 _ _ _ _ _ (lv_sub hl [0, 2] rfl) w h
  · rw [if_neg hc] at h
    refine lv_aload_n hx hb d_A_passBecome_5 rfl (lv_at hl 0 rfl) ?_
    refine lv_iload_n hx hb d_A_passBecome_6 rfl (lv_at hl 1 rfl) ?_
    refine lv_iload_n hx hb d_A_passBecome_7 rfl (lv_at hl 2 rfl) ?_
    obtain ⟨r39, M40, hc41, h⟩ := bind_ok h
    try dsimp only at h
    refine U_vv (rest := []) C0 w 6 (wU_at (by decide)) rfl (c_A_choose l D ct q hc41) wd_804 wd_801 wd_803 ws_31 wd_7 (n9 := 2) (by decide +kernel) rfl ⟨(Nat.le_of_ble_eq_true rfl), (Nat.le_of_ble_eq_true rfl)⟩ hl.1 rfl (Nat.le_of_ble_eq_true rfl) d_A_passBecome_8 (Nat.le_of_ble_eq_true rfl) (Nat.le_of_ble_eq_true rfl) (fun H locs w => ?_)
    exact hJ11 _ _ _ _ _ (lv_sub hl [0, 2] rfl) w h
abbrev rm_A_execute : Room := { frames := 4, cells := 0, slots := 0, locals := 91 }
set_option maxHeartbeats 8000000 in
set_option maxRecDepth 100000 in
theorem c_A_execute (l : Launch) (D : va_G) (ct : Nat → ClassId) (q : Nat → Nat) {x1 x2 : Int32} {M Mz : Sto} {rz : Int32} (h : m_A_execute x1 x2 M = some (rz, Mz)) : KI l D ct y_A_execute b_A_execute 7 (some .boolean) 4 91 [.ref (q 6), .int x1, .int x2] (wX ct q M) rz (wX ct q Mz) := by
  refine KI.ofU (by decide) (Nat.le_of_ble_eq_true rfl) rfl ?_
  intro p e s m args below meth c A Q ls C0 hl w hret
  have hx := C0.1
  have hb := C0.2.1
  have hl : lv_has ls 7 [(0, .ref (q 6)), (1, .int x1), (2, .int x2)] := hl
  unfold m_A_execute at h
  refine lv_aload_n hx hb d_A_execute_0 rfl (lv_at hl 0 rfl) ?_
  obtain ⟨r5, M6, hc7, h⟩ := bind_ok h
  try dsimp only at h
  refine U_vv (rest := []) C0 w 6 (wU_at (by decide)) rfl (c_A_begin l D ct q hc7) wd_771 wd_768 wd_770 ws_24 wd_7 (n9 := 0) (by decide +kernel) rfl ⟨(Nat.le_of_ble_eq_true rfl), (Nat.le_of_ble_eq_true rfl)⟩ hl.1 rfl (Nat.le_of_ble_eq_true rfl) d_A_execute_1 (Nat.le_of_ble_eq_true rfl) (Nat.le_of_ble_eq_true rfl) (fun H locs w => ?_)
  refine lv_iconst (v := (-1)) hx hb d_A_execute_4 (by decide) ?_
  refine lv_istore_n hx hb d_A_execute_5 rfl hl (by decide) rfl (fun ls hl => ?_)
  have hl : lv_has ls 7 [(3, .int (-1)), (0, .ref (q 6)), (1, .int x1), (2, .int x2)] := hl
  refine lv_iconst (v := 0) hx hb d_A_execute_6 (by decide) ?_
  refine lv_istore hx hb d_A_execute_7 hl (by decide) rfl (fun ls hl => ?_)
  have hl : lv_has ls 7 [(4, .int 0), (3, .int (-1)), (0, .ref (q 6)), (1, .int x1), (2, .int x2)] := hl
  refine lv_iconst (v := 0) hx hb d_A_execute_9 (by decide) ?_
  refine lv_istore hx hb d_A_execute_10 hl (by decide) rfl (fun ls hl => ?_)
  have hl : lv_has ls 7 [(5, .int 0), (4, .int 0), (3, .int (-1)), (0, .ref (q 6)), (1, .int x1), (2, .int x2)] := hl
  generalize eK12 : j_A_execute_71 = K12 at h
  have hE12 : ∀ (M : Sto) (H : Heap) (locs : List Loc) (ls : Array Slot), lv_has ls 7 [] → Wd D A s (wX ct q M) H locs → K12 M = some (rz, Mz) → W p l e rm_A_execute s m args below meth c H locs 0 0 Q (F0 m 71 ls []) := by
    intro M H locs ls hl w h
    rw [← eK12] at h
    unfold j_A_execute_71 at h
    refine lv_iconst (v := 0) hx hb d_A_execute_71 (by decide) ?_
    obtain ⟨hz9, h⟩ := if_ok h
    cases h
    exact hret _ _ _ _ d_A_execute_72 (bz_nar hz9) w
  have hL12 : ∀ (n : Nat) (v1 v2 v3 v4 v5 : Int32) (M : Sto) (H : Heap) (locs : List Loc) (ls : Array Slot), lv_has ls 7 [(0, .ref (q 6)), (1, .int v1), (2, .int v2), (3, .int v3), (4, .int v4), (5, .int v5)] → Wd D A s (wX ct q M) H locs → l_A_execute_12 K12 n v1 v2 v3 v4 v5 M = some (rz, Mz) → W p l e rm_A_execute s m args below meth c H locs 0 0 Q (F0 m 12 ls []) := by
    intro n
    induction n with
    | zero => intro v1 v2 v3 v4 v5 M H locs ls hl w h; simp [l_A_execute_12] at h
    | succ n ih12 =>
      intro v1 v2 v3 v4 v5 M H locs ls hl w h
      unfold l_A_execute_12 at h
      refine lv_iload hx hb d_A_execute_12 (lv_at hl 5 rfl) ?_
      refine lv_iload_n hx hb d_A_execute_14 rfl (lv_at hl 2 rfl) ?_
      refine lv_icmp_ge (tgt := 71) hx hb d_A_execute_15 (by decide) (fun hc => ?_) (fun hc => ?_)
      · rw [if_pos hc] at h
        exact hE12 _ _ _ _ (lv_sub hl [] rfl) w h
      · rw [if_neg hc] at h
        refine lv_aload_n hx hb d_A_execute_18 rfl (lv_at hl 0 rfl) ?_
        refine lv_dup hx hb d_A_execute_19 rfl ?_
        refine U_get C0 w 6 (by decide) rfl rfl inA 11 (by decide) wd_304 rfl d_A_execute_20 ?_
        refine lv_iconst (v := 1) hx hb d_A_execute_23 (by decide) ?_
        refine lv_iadd hx hb d_A_execute_24 ?_
        obtain ⟨M8, eM8, h⟩ := wr_ok h
        try dsimp only at h
        refine U_put C0 (cX_l ct) w 6 (by decide) rfl rfl inA tyA_ok nmA 11 (by decide) wd_304 rfl rfl rfl (Nat.le_of_ble_eq_true rfl) d_A_execute_25 eM8 rfl (fun H locs w => ?_)
        refine lv_iload_n hx hb d_A_execute_28 rfl (lv_at hl 1 rfl) ?_
        have hJ48 : ∀ (s0 v1 v2 v4 v5 : Int32) (M : Sto) (H : Heap) (locs : List Loc) (ls : Array Slot), lv_has ls 7 [(0, .ref (q 6)), (1, .int v1), (2, .int v2), (4, .int v4), (5, .int v5)] → Wd D A s (wX ct q M) H locs → j_A_execute_48 (l_A_execute_12 K12 n) K12 s0 v1 v2 v4 v5 M = some (rz, Mz) → W p l e rm_A_execute s m args below meth c H locs 0 0 Q (F0 m 48 ls [.int s0]) := by
          intro s0 v1 v2 v4 v5 M H locs ls hl w h
          unfold j_A_execute_48 at h
          refine lv_istore hx hb d_A_execute_48 hl (by decide) rfl (fun ls hl => ?_)
          have hl : lv_has ls 7 [(6, .int s0), (0, .ref (q 6)), (1, .int v1), (2, .int v2), (4, .int v4), (5, .int v5)] := hl
          refine lv_iload hx hb d_A_execute_50 (lv_at hl 0 rfl) ?_
          refine lv_iconst (v := (-1)) hx hb d_A_execute_52 (by decide) ?_
          refine lv_icmp_ne (tgt := 58) hx hb d_A_execute_53 (by decide) (fun hc => ?_) (fun hc => ?_)
          · rw [if_neg hc] at h
            refine lv_iload hx hb d_A_execute_58 (lv_at hl 4 rfl) ?_
            refine lv_istore_n hx hb d_A_execute_60 rfl hl (by decide) rfl (fun ls hl => ?_)
            have hl : lv_has ls 7 [(3, .int v4), (6, .int s0), (0, .ref (q 6)), (1, .int v1), (2, .int v2), (4, .int v4), (5, .int v5)] := hl
            refine lv_iload hx hb d_A_execute_61 (lv_at hl 1 rfl) ?_
            refine lv_istore hx hb d_A_execute_63 hl (by decide) rfl (fun ls hl => ?_)
            have hl : lv_has ls 7 [(4, .int s0), (3, .int v4), (6, .int s0), (0, .ref (q 6)), (1, .int v1), (2, .int v2), (5, .int v5)] := hl
            refine lv_iinc (k := 6) (v := v5 + 1) hx hb d_A_execute_65 hl rfl (inc1 _) (by decide) rfl (fun ls hl => ?_)
            have hl : lv_has ls 7 [(5, .int (v5 + 1)), (4, .int s0), (3, .int v4), (6, .int s0), (0, .ref (q 6)), (1, .int v1), (2, .int v2)] := hl
            refine lv_goto (tgt := 12) hx hb d_A_execute_68 (by decide) ?_
            exact ih12 _ _ _ _ _ _ _ _ _ (lv_sub hl [4, 5, 6, 2, 1, 0] rfl) w h
          · rw [if_pos hc] at h
            refine lv_iconst (v := 1) hx hb d_A_execute_56 (by decide) ?_
            obtain ⟨hz9, h⟩ := if_ok h
            cases h
            exact hret _ _ _ _ d_A_execute_57 (bz_nar hz9) w
        refine lv_if_eq (tgt := 41) hx hb d_A_execute_29 (by decide) (fun hc => ?_) (fun hc => ?_)
        · rw [if_pos hc] at h
          refine lv_aload_n hx hb d_A_execute_41 rfl (lv_at hl 0 rfl) ?_
          refine lv_iload_n hx hb d_A_execute_42 rfl (lv_at hl 3 rfl) ?_
          refine lv_iload hx hb d_A_execute_43 (lv_at hl 4 rfl) ?_
          obtain ⟨r9, M10, hc11, h⟩ := bind_ok h
          try dsimp only at h
          refine U_vi (rest := []) C0 w 6 (wU_at (by decide)) rfl (c_A_passBecome l D ct q hc11) wd_800 wd_797 wd_799 ws_30 wd_7 (n9 := 2) (by decide +kernel) rfl ⟨(Nat.le_of_ble_eq_true rfl), (Nat.le_of_ble_eq_true rfl)⟩ hl.1 rfl (Nat.le_of_ble_eq_true rfl) d_A_execute_45 (Nat.le_of_ble_eq_true rfl) (Nat.le_of_ble_eq_true rfl) (fun H locs w => ?_)
          exact hJ48 _ _ _ _ _ _ _ _ _ (lv_sub hl [0, 1, 2, 4, 5] rfl) w h
        · rw [if_neg hc] at h
          refine lv_aload_n hx hb d_A_execute_32 rfl (lv_at hl 0 rfl) ?_
          refine lv_iload hx hb d_A_execute_33 (lv_at hl 4 rfl) ?_
          obtain ⟨r12, M13, hc14, h⟩ := bind_ok h
          try dsimp only at h
          refine U_vi (rest := []) C0 w 6 (wU_at (by decide)) rfl (c_A_passPlain l D ct q hc14) wd_776 wd_773 wd_775 ws_25 wd_7 (n9 := 1) (by decide +kernel) rfl ⟨(Nat.le_of_ble_eq_true rfl), (Nat.le_of_ble_eq_true rfl)⟩ hl.1 rfl (Nat.le_of_ble_eq_true rfl) d_A_execute_35 (Nat.le_of_ble_eq_true rfl) (Nat.le_of_ble_eq_true rfl) (fun H locs w => ?_)
          refine lv_goto (tgt := 48) hx hb d_A_execute_38 (by decide) ?_
          exact hJ48 _ _ _ _ _ _ _ _ _ (lv_sub hl [0, 1, 2, 4, 5] rfl) w h
  exact hL12 FU _ _ _ _ _ _ _ _ _ (lv_sub hl [3, 4, 5, 2, 1, 0] rfl) w h
abbrev rm_N_run : Room := { frames := 5, cells := 0, slots := 0, locals := 117 }
set_option maxHeartbeats 8000000 in
set_option maxRecDepth 100000 in
theorem c_N_run (l : Launch) (D : va_G) (ct : Nat → ClassId) (q : Nat → Nat) {x1 x2 : Int32} {M Mz : Sto} {rz : Int32} (h : m_N_run x1 x2 M = some (0, rz, Mz)) : KI l D ct y_N_run b_N_run 3 (some .int) 5 117 [.ref (q 0), .int x1, .int x2] (wX ct q M) rz (wX ct q Mz) := by
  refine KI.ofU (by decide) (Nat.le_of_ble_eq_true rfl) rfl ?_
  intro p e s m args below meth c A Q ls C0 hl w hret
  have hx := C0.1
  have hb := C0.2.1
  have hl : lv_has ls 3 [(0, .ref (q 0)), (1, .int x1), (2, .int x2)] := hl
  unfold m_N_run at h
  refine lv_iload_n hx hb d_N_run_0 rfl (lv_at hl 2 rfl) ?_
  have hJ11 : ∀ (M : Sto) (H : Heap) (locs : List Loc) (ls : Array Slot), lv_has ls 3 [] → Wd D A s (wX ct q M) H locs → j_N_run_11 M = some (0, rz, Mz) → W p l e rm_N_run s m args below meth c H locs 0 0 Q (F0 m 11 ls []) := by
    intro M H locs ls hl w h
    unfold j_N_run_11 at h
    simp at h
  refine lv_if_lt (tgt := 11) hx hb d_N_run_1 (by decide) (fun hc => ?_) (fun hc => ?_)
  · rw [if_pos hc] at h
    exact hJ11 _ _ _ _ (lv_sub hl [] rfl) w h
  · rw [if_neg hc] at h
    refine lv_iload_n hx hb d_N_run_4 rfl (lv_at hl 2 rfl) ?_
    refine lv_sipush (v := 200) hx hb d_N_run_5 (by decide) ?_
    refine lv_icmp_le (tgt := 21) hx hb d_N_run_8 (by decide) (fun hc => ?_) (fun hc => ?_)
    · rw [if_pos hc] at h
      refine lv_aload_n hx hb d_N_run_21 rfl (lv_at hl 0 rfl) ?_
      refine U_get C0 w 0 (by decide) rfl rfl inN 6 (by decide) wd_345 rfl d_N_run_22 ?_
      refine lv_if_ne (tgt := 38) hx hb d_N_run_25 (by decide) (fun hc => ?_) (fun hc => ?_)
      · rw [if_neg hc] at h
        refine lv_aload_n hx hb d_N_run_38 rfl (lv_at hl 0 rfl) ?_
        refine U_get C0 w 0 (by decide) rfl rfl inN 5 (by decide) wd_344 rfl d_N_run_39 ?_
        refine lv_iload_n hx hb d_N_run_42 rfl (lv_at hl 1 rfl) ?_
        refine lv_iload_n hx hb d_N_run_43 rfl (lv_at hl 2 rfl) ?_
        obtain ⟨r2, M3, hc4, h⟩ := bind_ok h
        try dsimp only at h
        refine U_vi (rest := []) C0 w 6 (wU_at (by decide)) rfl (c_A_execute l D ct q hc4) wd_767 wd_764 wd_765 wd_766 wd_7 (n9 := 2) (by decide +kernel) rfl ⟨(Nat.le_of_ble_eq_true rfl), (Nat.le_of_ble_eq_true rfl)⟩ hl.1 rfl (Nat.le_of_ble_eq_true rfl) d_N_run_44 (Nat.le_of_ble_eq_true rfl) (Nat.le_of_ble_eq_true rfl) (fun H locs w => ?_)
        have hJ55 : ∀ (s0 : Int32) (M : Sto) (H : Heap) (locs : List Loc) (ls : Array Slot), lv_has ls 3 [] → Wd D A s (wX ct q M) H locs → j_N_run_55 s0 M = some (0, rz, Mz) → W p l e rm_N_run s m args below meth c H locs 0 0 Q (F0 m 55 ls [.int s0]) := by
          intro s0 M H locs ls hl w h
          unfold j_N_run_55 at h
          cases h
          exact hret _ _ _ _ d_N_run_55 rfl w
        refine lv_if_eq (tgt := 54) hx hb d_N_run_47 (by decide) (fun hc => ?_) (fun hc => ?_)
        · rw [if_pos hc] at h
          refine lv_iconst (v := 1) hx hb d_N_run_54 (by decide) ?_
          exact hJ55 _ _ _ _ _ (lv_sub hl [] rfl) w h
        · rw [if_neg hc] at h
          refine lv_iconst (v := 0) hx hb d_N_run_50 (by decide) ?_
          refine lv_goto (tgt := 55) hx hb d_N_run_51 (by decide) ?_
          exact hJ55 _ _ _ _ _ (lv_sub hl [] rfl) w h
      · rw [if_pos hc] at h
        simp at h
    · rw [if_neg hc] at h
      exact hJ11 _ _ _ _ (lv_sub hl [] rfl) w h
abbrev rm_N_told : Room := { frames := 0, cells := 0, slots := 0, locals := 0 }
set_option maxHeartbeats 8000000 in
set_option maxRecDepth 100000 in
theorem c_N_told (l : Launch) (D : va_G) (ct : Nat → ClassId) (q : Nat → Nat) {M Mz : Sto} {rz : Int32} (h : m_N_told M = some (rz, Mz)) : KI l D ct y_N_told b_N_told 1 (some .int) 0 0 [.ref (q 0)] (wX ct q M) rz (wX ct q Mz) := by
  refine KI.ofU (by decide) (Nat.le_of_ble_eq_true rfl) rfl ?_
  intro p e s m args below meth c A Q ls C0 hl w hret
  have hx := C0.1
  have hb := C0.2.1
  have hl : lv_has ls 1 [(0, .ref (q 0))] := hl
  unfold m_N_told at h
  refine lv_aload_n hx hb d_N_told_0 rfl (lv_at hl 0 rfl) ?_
  refine U_get C0 w 0 (by decide) rfl rfl inN 5 (by decide) wd_344 rfl d_N_told_1 ?_
  refine U_get C0 w 6 (by decide) rfl rfl inA 9 (by decide) wd_301 rfl d_N_told_4 ?_
  cases h
  exact hret _ _ _ _ d_N_told_7 rfl w
abbrev rm_N_heard : Room := { frames := 0, cells := 0, slots := 0, locals := 0 }
set_option maxHeartbeats 8000000 in
set_option maxRecDepth 100000 in
theorem c_N_heard (l : Launch) (D : va_G) (ct : Nat → ClassId) (q : Nat → Nat) {x1 : Int32} {M Mz : Sto} {rz : Int32} (h : m_N_heard x1 M = some (0, rz, Mz)) : KI l D ct y_N_heard b_N_heard 2 (some .int) 0 0 [.ref (q 0), .int x1] (wX ct q M) rz (wX ct q Mz) := by
  refine KI.ofU (by decide) (Nat.le_of_ble_eq_true rfl) rfl ?_
  intro p e s m args below meth c A Q ls C0 hl w hret
  have hx := C0.1
  have hb := C0.2.1
  have hl : lv_has ls 2 [(0, .ref (q 0)), (1, .int x1)] := hl
  unfold m_N_heard at h
  refine lv_iload_n hx hb d_N_heard_0 rfl (lv_at hl 1 rfl) ?_
  have hJ21 : ∀ (M : Sto) (H : Heap) (locs : List Loc) (ls : Array Slot), lv_has ls 2 [] → Wd D A s (wX ct q M) H locs → j_N_heard_21 M = some (0, rz, Mz) → W p l e rm_N_heard s m args below meth c H locs 0 0 Q (F0 m 21 ls []) := by
    intro M H locs ls hl w h
    unfold j_N_heard_21 at h
    simp at h
  refine lv_if_lt (tgt := 21) hx hb d_N_heard_1 (by decide) (fun hc => ?_) (fun hc => ?_)
  · rw [if_pos hc] at h
    exact hJ21 _ _ _ _ (lv_sub hl [] rfl) w h
  · rw [if_neg hc] at h
    refine lv_iload_n hx hb d_N_heard_4 rfl (lv_at hl 1 rfl) ?_
    refine lv_bipush (v := 40) hx hb d_N_heard_5 (by decide) ?_
    refine lv_icmp_ge (tgt := 21) hx hb d_N_heard_7 (by decide) (fun hc => ?_) (fun hc => ?_)
    · rw [if_pos hc] at h
      exact hJ21 _ _ _ _ (lv_sub hl [] rfl) w h
    · rw [if_neg hc] at h
      refine lv_iload_n hx hb d_N_heard_10 rfl (lv_at hl 1 rfl) ?_
      refine lv_aload_n hx hb d_N_heard_11 rfl (lv_at hl 0 rfl) ?_
      refine U_get C0 w 0 (by decide) rfl rfl inN 5 (by decide) wd_344 rfl d_N_heard_12 ?_
      refine U_get C0 w 6 (by decide) rfl rfl inA 9 (by decide) wd_301 rfl d_N_heard_15 ?_
      refine lv_icmp_lt (tgt := 31) hx hb d_N_heard_18 (by decide) (fun hc => ?_) (fun hc => ?_)
      · rw [if_pos hc] at h
        refine lv_aload_n hx hb d_N_heard_31 rfl (lv_at hl 0 rfl) ?_
        refine U_get C0 w 0 (by decide) rfl rfl inN 5 (by decide) wd_344 rfl d_N_heard_32 ?_
        refine U_get C0 w 6 (by decide) rfl rfl inA 10 (by decide) wd_303 rfl d_N_heard_35 ?_
        refine lv_iload_n hx hb d_N_heard_38 rfl (lv_at hl 1 rfl) ?_
        obtain ⟨hi1, h⟩ := if_ok h
        refine U_ald C0 w (iX_33 ct) hi1 d_N_heard_39 ?_
        cases h
        exact hret _ _ _ _ d_N_heard_40 rfl w
      · rw [if_neg hc] at h
        exact hJ21 _ _ _ _ (lv_sub hl [] rfl) w h
abbrev rm_N_spent : Room := { frames := 0, cells := 0, slots := 0, locals := 0 }
set_option maxHeartbeats 8000000 in
set_option maxRecDepth 100000 in
theorem c_N_spent (l : Launch) (D : va_G) (ct : Nat → ClassId) (q : Nat → Nat) {x1 : Int32} {M Mz : Sto} {rz : Int32} (h : m_N_spent x1 M = some (rz, Mz)) : KI l D ct y_N_spent b_N_spent 2 (some .int) 0 0 [.ref (q 0), .int x1] (wX ct q M) rz (wX ct q Mz) := by
  refine KI.ofU (by decide) (Nat.le_of_ble_eq_true rfl) rfl ?_
  intro p e s m args below meth c A Q ls C0 hl w hret
  have hx := C0.1
  have hb := C0.2.1
  have hl : lv_has ls 2 [(0, .ref (q 0)), (1, .int x1)] := hl
  unfold m_N_spent at h
  refine lv_iload_n hx hb d_N_spent_0 rfl (lv_at hl 1 rfl) ?_
  refine Decidable.byCases (p := x1 = 0) (fun hc1 => ?_) (fun hc1 => ?_)
  · rw [if_pos hc1] at h
    refine lv_tableIn (off := 27) (tgt := 28) hx hb d_N_spent_1 (by rw [hc1]; decide) (by rw [hc1]; decide) (by rw [hc1]; decide) (by decide) ?_
    refine lv_aload_n hx hb d_N_spent_28 rfl (lv_at hl 0 rfl) ?_
    refine U_get C0 w 0 (by decide) rfl rfl inN 5 (by decide) wd_344 rfl d_N_spent_29 ?_
    refine U_get C0 w 6 (by decide) rfl rfl inA 11 (by decide) wd_305 rfl d_N_spent_32 ?_
    cases h
    exact hret _ _ _ _ d_N_spent_35 rfl w
  · rw [if_neg hc1] at h
    refine Decidable.byCases (p := x1 = 1) (fun hc2 => ?_) (fun hc2 => ?_)
    · rw [if_pos hc2] at h
      refine lv_tableIn (off := 35) (tgt := 36) hx hb d_N_spent_1 (by rw [hc2]; decide) (by rw [hc2]; decide) (by rw [hc2]; decide) (by decide) ?_
      refine lv_aload_n hx hb d_N_spent_36 rfl (lv_at hl 0 rfl) ?_
      refine U_get C0 w 0 (by decide) rfl rfl inN 5 (by decide) wd_344 rfl d_N_spent_37 ?_
      refine U_get C0 w 6 (by decide) rfl rfl inA 12 (by decide) wd_307 rfl d_N_spent_40 ?_
      cases h
      exact hret _ _ _ _ d_N_spent_43 rfl w
    · rw [if_neg hc2] at h
      refine Decidable.byCases (p := x1 = 2) (fun hc3 => ?_) (fun hc3 => ?_)
      · rw [if_pos hc3] at h
        refine lv_tableIn (off := 43) (tgt := 44) hx hb d_N_spent_1 (by rw [hc3]; decide) (by rw [hc3]; decide) (by rw [hc3]; decide) (by decide) ?_
        refine lv_aload_n hx hb d_N_spent_44 rfl (lv_at hl 0 rfl) ?_
        refine U_get C0 w 0 (by decide) rfl rfl inN 5 (by decide) wd_344 rfl d_N_spent_45 ?_
        refine U_get C0 w 6 (by decide) rfl rfl inA 13 (by decide) wd_309 rfl d_N_spent_48 ?_
        cases h
        exact hret _ _ _ _ d_N_spent_51 rfl w
      · rw [if_neg hc3] at h
        refine lv_tableOut (tgt := 52) hx hb d_N_spent_1 (sw_o_0_2 hc1 hc2 hc3) (by decide) ?_
        refine lv_iconst (v := (-1)) hx hb d_N_spent_52 (by decide) ?_
        cases h
        exact hret _ _ _ _ d_N_spent_53 rfl w
abbrev rm_R_thrown : Room := { frames := 0, cells := 0, slots := 0, locals := 0 }
set_option maxHeartbeats 8000000 in
set_option maxRecDepth 100000 in
theorem c_R_thrown (l : Launch) (D : va_G) (ct : Nat → ClassId) (q : Nat → Nat) {M Mz : Sto} {rz : Int32} (h : m_R_thrown M = some (rz, Mz)) : KI l D ct y_R_thrown b_R_thrown 1 (some .int) 0 0 [.ref (q 0)] (wR ct q M) rz (wR ct q Mz) := by
  refine KI.ofU (by decide) (Nat.le_of_ble_eq_true rfl) rfl ?_
  intro p e s m args below meth c A Q ls C0 hl w hret
  have hx := C0.1
  have hb := C0.2.1
  have hl : lv_has ls 1 [(0, .ref (q 0))] := hl
  unfold m_R_thrown at h
  refine lv_aload_n hx hb d_R_thrown_0 rfl (lv_at hl 0 rfl) ?_
  refine U_get C0 w 0 (by decide) rfl rfl inR 0 (by decide) wd_828 rfl d_R_thrown_1 ?_
  cases h
  exact hret _ _ _ _ d_R_thrown_4 rfl w
abbrev rm_R_fails : Room := { frames := 0, cells := 0, slots := 0, locals := 0 }
set_option maxHeartbeats 8000000 in
set_option maxRecDepth 100000 in
theorem c_R_fails (l : Launch) (D : va_G) (ct : Nat → ClassId) (q : Nat → Nat) {x1 x2 : Int32} {M Mz : Sto} {rz : Int32} (h : m_R_fails x1 x2 M = some (rz, Mz)) : KI l D ct y_R_fails b_R_fails 3 (some .boolean) 0 0 [.ref (q 0), .int x1, .int x2] (wR ct q M) rz (wR ct q Mz) := by
  refine KI.ofU (by decide) (Nat.le_of_ble_eq_true rfl) rfl ?_
  intro p e s m args below meth c A Q ls C0 hl w hret
  have hx := C0.1
  have hb := C0.2.1
  have hl : lv_has ls 3 [(0, .ref (q 0)), (1, .int x1), (2, .int x2)] := hl
  unfold m_R_fails at h
  refine lv_aload_n hx hb d_R_fails_0 rfl (lv_at hl 0 rfl) ?_
  refine lv_iload_n hx hb d_R_fails_1 rfl (lv_at hl 1 rfl) ?_
  have hJ10 : ∀ (s0 v1 : Int32) (M : Sto) (H : Heap) (locs : List Loc) (ls : Array Slot), lv_has ls 3 [(1, .int v1)] → Wd D A s (wR ct q M) H locs → j_R_fails_10 s0 v1 M = some (rz, Mz) → W p l e rm_R_fails s m args below meth c H locs 0 0 Q (F0 m 10 ls [.int s0, .ref (q 0)]) := by
    intro s0 v1 M H locs ls hl w h
    unfold j_R_fails_10 at h
    obtain ⟨M2, eM2, h⟩ := wr_ok h
    try dsimp only at h
    refine U_put C0 (cR_l ct) w 0 (by decide) rfl rfl inR tyR_ok nmR 0 (by decide) wd_828 rfl rfl rfl (Nat.le_of_ble_eq_true rfl) d_R_fails_10 eM2 rfl (fun H locs w => ?_)
    refine lv_iload_n hx hb d_R_fails_13 rfl (lv_at hl 0 rfl) ?_
    obtain ⟨hz9, h⟩ := if_ok h
    cases h
    exact hret _ _ _ _ d_R_fails_14 (bz_nar hz9) w
  refine lv_if_eq (tgt := 9) hx hb d_R_fails_2 (by decide) (fun hc => ?_) (fun hc => ?_)
  · rw [if_pos hc] at h
    refine lv_iconst (v := 0) hx hb d_R_fails_9 (by decide) ?_
    exact hJ10 _ _ _ _ _ _ (lv_sub hl [1] rfl) w h
  · rw [if_neg hc] at h
    refine lv_iload_n hx hb d_R_fails_5 rfl (lv_at hl 2 rfl) ?_
    refine lv_goto (tgt := 10) hx hb d_R_fails_6 (by decide) ?_
    exact hJ10 _ _ _ _ _ _ (lv_sub hl [1] rfl) w h
abbrev rm_R_noBlock : Room := { frames := 0, cells := 0, slots := 0, locals := 0 }
set_option maxHeartbeats 8000000 in
set_option maxRecDepth 100000 in
theorem c_R_noBlock (l : Launch) (D : va_G) (ct : Nat → ClassId) (q : Nat → Nat) {x1 : Int32} {M Mz : Sto} {rz : Int32} (h : m_R_noBlock x1 M = some (rz, Mz)) : KI l D ct y_R_noBlock b_R_noBlock 2 (some .boolean) 0 0 [.ref (q 0), .int x1] (wR ct q M) rz (wR ct q Mz) := by
  refine KI.ofU (by decide) (Nat.le_of_ble_eq_true rfl) rfl ?_
  intro p e s m args below meth c A Q ls C0 hl w hret
  have hx := C0.1
  have hb := C0.2.1
  have hl : lv_has ls 2 [(0, .ref (q 0)), (1, .int x1)] := hl
  unfold m_R_noBlock at h
  refine lv_iload_n hx hb d_R_noBlock_0 rfl (lv_at hl 1 rfl) ?_
  have hJ17 : ∀ (s0 : Int32) (M : Sto) (H : Heap) (locs : List Loc) (ls : Array Slot), lv_has ls 2 [] → Wd D A s (wR ct q M) H locs → j_R_noBlock_17 s0 M = some (rz, Mz) → W p l e rm_R_noBlock s m args below meth c H locs 0 0 Q (F0 m 17 ls [.int s0]) := by
    intro s0 M H locs ls hl w h
    unfold j_R_noBlock_17 at h
    obtain ⟨hz9, h⟩ := if_ok h
    cases h
    exact hret _ _ _ _ d_R_noBlock_17 (bz_nar hz9) w
  have hJ12 : ∀ (M : Sto) (H : Heap) (locs : List Loc) (ls : Array Slot), lv_has ls 2 [] → Wd D A s (wR ct q M) H locs → j_R_noBlock_12 M = some (rz, Mz) → W p l e rm_R_noBlock s m args below meth c H locs 0 0 Q (F0 m 12 ls []) := by
    intro M H locs ls hl w h
    unfold j_R_noBlock_12 at h
    refine lv_iconst (v := 1) hx hb d_R_noBlock_12 (by decide) ?_
    refine lv_goto (tgt := 17) hx hb d_R_noBlock_13 (by decide) ?_
    exact hJ17 _ _ _ _ _ (lv_sub hl [] rfl) w h
  refine lv_if_lt (tgt := 12) hx hb d_R_noBlock_1 (by decide) (fun hc => ?_) (fun hc => ?_)
  · rw [if_pos hc] at h
    exact hJ12 _ _ _ _ (lv_sub hl [] rfl) w h
  · rw [if_neg hc] at h
    refine lv_iload_n hx hb d_R_noBlock_4 rfl (lv_at hl 1 rfl) ?_
    refine lv_aload_n hx hb d_R_noBlock_5 rfl (lv_at hl 0 rfl) ?_
    refine U_get C0 w 0 (by decide) rfl rfl inR 1 (by decide) wd_829 rfl d_R_noBlock_6 ?_
    refine lv_icmp_lt (tgt := 16) hx hb d_R_noBlock_9 (by decide) (fun hc => ?_) (fun hc => ?_)
    · rw [if_pos hc] at h
      refine lv_iconst (v := 0) hx hb d_R_noBlock_16 (by decide) ?_
      exact hJ17 _ _ _ _ _ (lv_sub hl [] rfl) w h
    · rw [if_neg hc] at h
      exact hJ12 _ _ _ _ (lv_sub hl [] rfl) w h
abbrev rm_R_noVariable : Room := { frames := 0, cells := 0, slots := 0, locals := 0 }
set_option maxHeartbeats 8000000 in
set_option maxRecDepth 100000 in
theorem c_R_noVariable (l : Launch) (D : va_G) (ct : Nat → ClassId) (q : Nat → Nat) {x0 : Int32} {M Mz : Sto} {rz : Int32} (h : m_R_noVariable x0 M = some (rz, Mz)) : KI l D ct y_R_noVariable b_R_noVariable 1 (some .boolean) 0 0 [.int x0] (wR ct q M) rz (wR ct q Mz) := by
  refine KI.ofU (by decide) (Nat.le_of_ble_eq_true rfl) rfl ?_
  intro p e s m args below meth c A Q ls C0 hl w hret
  have hx := C0.1
  have hb := C0.2.1
  have hl : lv_has ls 1 [(0, .int x0)] := hl
  unfold m_R_noVariable at h
  refine lv_iload_n hx hb d_R_noVariable_0 rfl (lv_at hl 0 rfl) ?_
  have hJ14 : ∀ (s0 : Int32) (M : Sto) (H : Heap) (locs : List Loc) (ls : Array Slot), lv_has ls 1 [] → Wd D A s (wR ct q M) H locs → j_R_noVariable_14 s0 M = some (rz, Mz) → W p l e rm_R_noVariable s m args below meth c H locs 0 0 Q (F0 m 14 ls [.int s0]) := by
    intro s0 M H locs ls hl w h
    unfold j_R_noVariable_14 at h
    obtain ⟨hz9, h⟩ := if_ok h
    cases h
    exact hret _ _ _ _ d_R_noVariable_14 (bz_nar hz9) w
  have hJ9 : ∀ (M : Sto) (H : Heap) (locs : List Loc) (ls : Array Slot), lv_has ls 1 [] → Wd D A s (wR ct q M) H locs → j_R_noVariable_9 M = some (rz, Mz) → W p l e rm_R_noVariable s m args below meth c H locs 0 0 Q (F0 m 9 ls []) := by
    intro M H locs ls hl w h
    unfold j_R_noVariable_9 at h
    refine lv_iconst (v := 1) hx hb d_R_noVariable_9 (by decide) ?_
    refine lv_goto (tgt := 14) hx hb d_R_noVariable_10 (by decide) ?_
    exact hJ14 _ _ _ _ _ (lv_sub hl [] rfl) w h
  refine lv_if_lt (tgt := 9) hx hb d_R_noVariable_1 (by decide) (fun hc => ?_) (fun hc => ?_)
  · rw [if_pos hc] at h
    exact hJ9 _ _ _ _ (lv_sub hl [] rfl) w h
  · rw [if_neg hc] at h
    refine lv_iload_n hx hb d_R_noVariable_4 rfl (lv_at hl 0 rfl) ?_
    refine lv_iconst (v := 5) hx hb d_R_noVariable_5 (by decide) ?_
    refine lv_icmp_le (tgt := 13) hx hb d_R_noVariable_6 (by decide) (fun hc => ?_) (fun hc => ?_)
    · rw [if_pos hc] at h
      refine lv_iconst (v := 0) hx hb d_R_noVariable_13 (by decide) ?_
      exact hJ14 _ _ _ _ _ (lv_sub hl [] rfl) w h
    · rw [if_neg hc] at h
      exact hJ9 _ _ _ _ (lv_sub hl [] rfl) w h
abbrev rm_R_setsOne : Room := { frames := 0, cells := 0, slots := 0, locals := 0 }
set_option maxHeartbeats 8000000 in
set_option maxRecDepth 100000 in
theorem c_R_setsOne (l : Launch) (D : va_G) (ct : Nat → ClassId) (q : Nat → Nat) {x0 : Int32} {M Mz : Sto} {rz : Int32} (h : m_R_setsOne x0 M = some (rz, Mz)) : KI l D ct y_R_setsOne b_R_setsOne 1 (some .boolean) 0 0 [.int x0] (wR ct q M) rz (wR ct q Mz) := by
  refine KI.ofU (by decide) (Nat.le_of_ble_eq_true rfl) rfl ?_
  intro p e s m args below meth c A Q ls C0 hl w hret
  have hx := C0.1
  have hb := C0.2.1
  have hl : lv_has ls 1 [(0, .int x0)] := hl
  unfold m_R_setsOne at h
  refine lv_iload_n hx hb d_R_setsOne_0 rfl (lv_at hl 0 rfl) ?_
  refine lv_bipush (v := 7) hx hb d_R_setsOne_1 (by decide) ?_
  have hJ11 : ∀ (s0 : Int32) (M : Sto) (H : Heap) (locs : List Loc) (ls : Array Slot), lv_has ls 1 [] → Wd D A s (wR ct q M) H locs → j_R_setsOne_11 s0 M = some (rz, Mz) → W p l e rm_R_setsOne s m args below meth c H locs 0 0 Q (F0 m 11 ls [.int s0]) := by
    intro s0 M H locs ls hl w h
    unfold j_R_setsOne_11 at h
    obtain ⟨hz9, h⟩ := if_ok h
    cases h
    exact hret _ _ _ _ d_R_setsOne_11 (bz_nar hz9) w
  refine lv_icmp_eq (tgt := 10) hx hb d_R_setsOne_3 (by decide) (fun hc => ?_) (fun hc => ?_)
  · rw [if_pos hc] at h
    refine lv_iconst (v := 0) hx hb d_R_setsOne_10 (by decide) ?_
    exact hJ11 _ _ _ _ _ (lv_sub hl [] rfl) w h
  · rw [if_neg hc] at h
    refine lv_iconst (v := 1) hx hb d_R_setsOne_6 (by decide) ?_
    refine lv_goto (tgt := 11) hx hb d_R_setsOne_7 (by decide) ?_
    exact hJ11 _ _ _ _ _ (lv_sub hl [] rfl) w h
abbrev rm_R_usesFirst : Room := { frames := 0, cells := 0, slots := 0, locals := 0 }
set_option maxHeartbeats 8000000 in
set_option maxRecDepth 100000 in
theorem c_R_usesFirst (l : Launch) (D : va_G) (ct : Nat → ClassId) (q : Nat → Nat) {x0 : Int32} {M Mz : Sto} {rz : Int32} (h : m_R_usesFirst x0 M = some (rz, Mz)) : KI l D ct y_R_usesFirst b_R_usesFirst 1 (some .boolean) 0 0 [.int x0] (wR ct q M) rz (wR ct q Mz) := by
  refine KI.ofU (by decide) (Nat.le_of_ble_eq_true rfl) rfl ?_
  intro p e s m args below meth c A Q ls C0 hl w hret
  have hx := C0.1
  have hb := C0.2.1
  have hl : lv_has ls 1 [(0, .int x0)] := hl
  unfold m_R_usesFirst at h
  refine lv_iload_n hx hb d_R_usesFirst_0 rfl (lv_at hl 0 rfl) ?_
  have hJ15 : ∀ (s0 : Int32) (M : Sto) (H : Heap) (locs : List Loc) (ls : Array Slot), lv_has ls 1 [] → Wd D A s (wR ct q M) H locs → j_R_usesFirst_15 s0 M = some (rz, Mz) → W p l e rm_R_usesFirst s m args below meth c H locs 0 0 Q (F0 m 15 ls [.int s0]) := by
    intro s0 M H locs ls hl w h
    unfold j_R_usesFirst_15 at h
    obtain ⟨hz9, h⟩ := if_ok h
    cases h
    exact hret _ _ _ _ d_R_usesFirst_15 (bz_nar hz9) w
  have hJ14 : ∀ (M : Sto) (H : Heap) (locs : List Loc) (ls : Array Slot), lv_has ls 1 [] → Wd D A s (wR ct q M) H locs → j_R_usesFirst_14 M = some (rz, Mz) → W p l e rm_R_usesFirst s m args below meth c H locs 0 0 Q (F0 m 14 ls []) := by
    intro M H locs ls hl w h
    unfold j_R_usesFirst_14 at h
    refine lv_iconst (v := 0) hx hb d_R_usesFirst_14 (by decide) ?_
    exact hJ15 _ _ _ _ _ (lv_sub hl [] rfl) w h
  refine lv_if_eq (tgt := 14) hx hb d_R_usesFirst_1 (by decide) (fun hc => ?_) (fun hc => ?_)
  · rw [if_pos hc] at h
    exact hJ14 _ _ _ _ (lv_sub hl [] rfl) w h
  · rw [if_neg hc] at h
    refine lv_iload_n hx hb d_R_usesFirst_4 rfl (lv_at hl 0 rfl) ?_
    refine lv_bipush (v := 6) hx hb d_R_usesFirst_5 (by decide) ?_
    refine lv_icmp_eq (tgt := 14) hx hb d_R_usesFirst_7 (by decide) (fun hc => ?_) (fun hc => ?_)
    · rw [if_pos hc] at h
      exact hJ14 _ _ _ _ (lv_sub hl [] rfl) w h
    · rw [if_neg hc] at h
      refine lv_iconst (v := 1) hx hb d_R_usesFirst_10 (by decide) ?_
      refine lv_goto (tgt := 15) hx hb d_R_usesFirst_11 (by decide) ?_
      exact hJ15 _ _ _ _ _ (lv_sub hl [] rfl) w h
abbrev rm_R_usesSecond : Room := { frames := 0, cells := 0, slots := 0, locals := 0 }
set_option maxHeartbeats 8000000 in
set_option maxRecDepth 100000 in
theorem c_R_usesSecond (l : Launch) (D : va_G) (ct : Nat → ClassId) (q : Nat → Nat) {x0 : Int32} {M Mz : Sto} {rz : Int32} (h : m_R_usesSecond x0 M = some (rz, Mz)) : KI l D ct y_R_usesSecond b_R_usesSecond 1 (some .boolean) 0 0 [.int x0] (wR ct q M) rz (wR ct q Mz) := by
  refine KI.ofU (by decide) (Nat.le_of_ble_eq_true rfl) rfl ?_
  intro p e s m args below meth c A Q ls C0 hl w hret
  have hx := C0.1
  have hb := C0.2.1
  have hl : lv_has ls 1 [(0, .int x0)] := hl
  unfold m_R_usesSecond at h
  refine lv_iload_n hx hb d_R_usesSecond_0 rfl (lv_at hl 0 rfl) ?_
  refine lv_iconst (v := 1) hx hb d_R_usesSecond_1 (by decide) ?_
  have hJ16 : ∀ (s0 : Int32) (M : Sto) (H : Heap) (locs : List Loc) (ls : Array Slot), lv_has ls 1 [] → Wd D A s (wR ct q M) H locs → j_R_usesSecond_16 s0 M = some (rz, Mz) → W p l e rm_R_usesSecond s m args below meth c H locs 0 0 Q (F0 m 16 ls [.int s0]) := by
    intro s0 M H locs ls hl w h
    unfold j_R_usesSecond_16 at h
    obtain ⟨hz9, h⟩ := if_ok h
    cases h
    exact hret _ _ _ _ d_R_usesSecond_16 (bz_nar hz9) w
  have hJ15 : ∀ (M : Sto) (H : Heap) (locs : List Loc) (ls : Array Slot), lv_has ls 1 [] → Wd D A s (wR ct q M) H locs → j_R_usesSecond_15 M = some (rz, Mz) → W p l e rm_R_usesSecond s m args below meth c H locs 0 0 Q (F0 m 15 ls []) := by
    intro M H locs ls hl w h
    unfold j_R_usesSecond_15 at h
    refine lv_iconst (v := 0) hx hb d_R_usesSecond_15 (by decide) ?_
    exact hJ16 _ _ _ _ _ (lv_sub hl [] rfl) w h
  refine lv_icmp_le (tgt := 15) hx hb d_R_usesSecond_2 (by decide) (fun hc => ?_) (fun hc => ?_)
  · rw [if_pos hc] at h
    exact hJ15 _ _ _ _ (lv_sub hl [] rfl) w h
  · rw [if_neg hc] at h
    refine lv_iload_n hx hb d_R_usesSecond_5 rfl (lv_at hl 0 rfl) ?_
    refine lv_bipush (v := 6) hx hb d_R_usesSecond_6 (by decide) ?_
    refine lv_icmp_ge (tgt := 15) hx hb d_R_usesSecond_8 (by decide) (fun hc => ?_) (fun hc => ?_)
    · rw [if_pos hc] at h
      exact hJ15 _ _ _ _ (lv_sub hl [] rfl) w h
    · rw [if_neg hc] at h
      refine lv_iconst (v := 1) hx hb d_R_usesSecond_11 (by decide) ?_
      refine lv_goto (tgt := 16) hx hb d_R_usesSecond_12 (by decide) ?_
      exact hJ16 _ _ _ _ _ (lv_sub hl [] rfl) w h
abbrev rm_R_block : Room := { frames := 1, cells := 0, slots := 0, locals := 22 }
set_option maxHeartbeats 8000000 in
set_option maxRecDepth 100000 in
theorem c_R_block (l : Launch) (D : va_G) (ct : Nat → ClassId) (q : Nat → Nat) {M Mz : Sto} {rz : Int32} (h : m_R_block M = some (rz, Mz)) : KI l D ct y_R_block b_R_block 1 (some .int) 1 22 [.ref (q 0)] (wR ct q M) rz (wR ct q Mz) := by
  refine KI.ofU (by decide) (Nat.le_of_ble_eq_true rfl) rfl ?_
  intro p e s m args below meth c A Q ls C0 hl w hret
  have hx := C0.1
  have hb := C0.2.1
  have hl : lv_has ls 1 [(0, .ref (q 0))] := hl
  unfold m_R_block at h
  refine lv_aload_n hx hb d_R_block_0 rfl (lv_at hl 0 rfl) ?_
  refine lv_aload_n hx hb d_R_block_1 rfl (lv_at hl 0 rfl) ?_
  refine U_get C0 w 0 (by decide) rfl rfl inR 1 (by decide) wd_829 rfl d_R_block_2 ?_
  refine lv_bipush (v := 10) hx hb d_R_block_5 (by decide) ?_
  have hJ15 : ∀ (s0 : Int32) (M : Sto) (H : Heap) (locs : List Loc) (ls : Array Slot), lv_has ls 1 [(0, .ref (q 0))] → Wd D A s (wR ct q M) H locs → j_R_block_15 s0 M = some (rz, Mz) → W p l e rm_R_block s m args below meth c H locs 0 0 Q (F0 m 15 ls [.int s0, .ref (q 0)]) := by
    intro s0 M H locs ls hl w h
    unfold j_R_block_15 at h
    refine lv_iconst (v := 1) hx hb d_R_block_15 (by decide) ?_
    obtain ⟨r6, M7, hc8, h⟩ := bind_ok h
    try dsimp only at h
    refine U_vi (rest := []) C0 w 0 (wU_at (by decide)) rfl (c_R_fails l D ct q hc8) wd_963 wd_960 wd_962 ws_34 wd_8 (n9 := 2) (by decide +kernel) rfl ⟨(Nat.le_of_ble_eq_true rfl), (Nat.le_of_ble_eq_true rfl)⟩ hl.1 rfl (Nat.le_of_ble_eq_true rfl) d_R_block_16 (Nat.le_of_ble_eq_true rfl) (Nat.le_of_ble_eq_true rfl) (fun H locs w => ?_)
    refine lv_if_eq (tgt := 24) hx hb d_R_block_19 (by decide) (fun hc => ?_) (fun hc => ?_)
    · rw [if_pos hc] at h
      refine lv_aload_n hx hb d_R_block_24 rfl (lv_at hl 0 rfl) ?_
      refine U_get C0 w 0 (by decide) rfl rfl inR 2 (by decide) wd_830 rfl d_R_block_25 ?_
      refine lv_aload_n hx hb d_R_block_28 rfl (lv_at hl 0 rfl) ?_
      refine U_get C0 w 0 (by decide) rfl rfl inR 1 (by decide) wd_829 rfl d_R_block_29 ?_
      refine lv_iconst (v := 0) hx hb d_R_block_32 (by decide) ?_
      obtain ⟨hi9, h⟩ := if_ok h
      obtain ⟨M10, eM10, h⟩ := wr_ok h
      try dsimp only at h
      refine U_ast C0 (cR_l ct) w (iR_1 ct) hi9 d_R_block_33 eM10 (fun H locs w => ?_)
      refine lv_aload_n hx hb d_R_block_34 rfl (lv_at hl 0 rfl) ?_
      refine U_get C0 w 0 (by decide) rfl rfl inR 7 (by decide) wd_835 rfl d_R_block_35 ?_
      refine lv_aload_n hx hb d_R_block_38 rfl (lv_at hl 0 rfl) ?_
      refine U_get C0 w 0 (by decide) rfl rfl inR 1 (by decide) wd_829 rfl d_R_block_39 ?_
      refine lv_iconst (v := 0) hx hb d_R_block_42 (by decide) ?_
      obtain ⟨hi11, h⟩ := if_ok h
      obtain ⟨M12, eM12, h⟩ := wr_ok h
      try dsimp only at h
      refine U_ast C0 (cR_l ct) w (iR_6 ct) hi11 d_R_block_43 eM12 (fun H locs w => ?_)
      refine lv_aload_n hx hb d_R_block_44 rfl (lv_at hl 0 rfl) ?_
      refine lv_dup hx hb d_R_block_45 rfl ?_
      refine U_get C0 w 0 (by decide) rfl rfl inR 1 (by decide) wd_829 rfl d_R_block_46 ?_
      refine lv_iconst (v := 1) hx hb d_R_block_49 (by decide) ?_
      refine lv_iadd hx hb d_R_block_50 ?_
      obtain ⟨M13, eM13, h⟩ := wr_ok h
      try dsimp only at h
      refine U_put C0 (cR_l ct) w 0 (by decide) rfl rfl inR tyR_ok nmR 1 (by decide) wd_829 rfl rfl rfl (Nat.le_of_ble_eq_true rfl) d_R_block_51 eM13 rfl (fun H locs w => ?_)
      refine lv_aload_n hx hb d_R_block_54 rfl (lv_at hl 0 rfl) ?_
      refine lv_iconst (v := 0) hx hb d_R_block_55 (by decide) ?_
      obtain ⟨hz14, h⟩ := if_ok h
      obtain ⟨M15, eM15, h⟩ := wr_ok h
      try dsimp only at h
      refine U_put C0 (cR_l ct) w 0 (by decide) rfl rfl inR tyR_ok nmR 11 (by decide) wd_839 rfl (bz_nar hz14) (bz_fit hz14) (Nat.le_of_ble_eq_true rfl) d_R_block_56 eM15 rfl (fun H locs w => ?_)
      refine lv_aload_n hx hb d_R_block_59 rfl (lv_at hl 0 rfl) ?_
      refine U_get C0 w 0 (by decide) rfl rfl inR 1 (by decide) wd_829 rfl d_R_block_60 ?_
      refine lv_iconst (v := 1) hx hb d_R_block_63 (by decide) ?_
      refine lv_isub hx hb d_R_block_64 ?_
      cases h
      exact hret _ _ _ _ d_R_block_65 rfl w
    · rw [if_neg hc] at h
      refine lv_iconst (v := 0) hx hb d_R_block_22 (by decide) ?_
      cases h
      exact hret _ _ _ _ d_R_block_23 rfl w
  refine lv_icmp_ne (tgt := 14) hx hb d_R_block_7 (by decide) (fun hc => ?_) (fun hc => ?_)
  · rw [if_neg hc] at h
    refine lv_iconst (v := 0) hx hb d_R_block_14 (by decide) ?_
    exact hJ15 _ _ _ _ _ (lv_sub hl [0] rfl) w h
  · rw [if_pos hc] at h
    refine lv_iconst (v := 1) hx hb d_R_block_10 (by decide) ?_
    refine lv_goto (tgt := 15) hx hb d_R_block_11 (by decide) ?_
    exact hJ15 _ _ _ _ _ (lv_sub hl [0] rfl) w h
end
section
abbrev rm_R_put : Room := { frames := 1, cells := 0, slots := 0, locals := 22 }
set_option maxHeartbeats 8000000 in
set_option maxRecDepth 100000 in
theorem c_R_put (l : Launch) (D : va_G) (ct : Nat → ClassId) (q : Nat → Nat) {x1 x2 x3 x4 x5 : Int32} {M Mz : Sto} {rz : Int32} (h : m_R_put x1 x2 x3 x4 x5 M = some (rz, Mz)) : KI l D ct y_R_put b_R_put 8 (some .int) 1 22 [.ref (q 0), .int x1, .int x2, .int x3, .int x4, .int x5] (wR ct q M) rz (wR ct q Mz) := by
  refine KI.ofU (by decide) (Nat.le_of_ble_eq_true rfl) rfl ?_
  intro p e s m args below meth c A Q ls C0 hl w hret
  have hx := C0.1
  have hb := C0.2.1
  have hl : lv_has ls 8 [(0, .ref (q 0)), (1, .int x1), (2, .int x2), (3, .int x3), (4, .int x4), (5, .int x5)] := hl
  unfold m_R_put at h
  refine lv_aload_n hx hb d_R_put_0 rfl (lv_at hl 0 rfl) ?_
  refine lv_iload_n hx hb d_R_put_1 rfl (lv_at hl 1 rfl) ?_
  obtain ⟨r16, M17, hc18, h⟩ := bind_ok h
  try dsimp only at h
  refine U_vi (rest := []) C0 w 0 (wU_at (by decide)) rfl (c_R_noBlock l D ct q hc18) wd_971 wd_968 wd_970 ws_35 wd_8 (n9 := 1) (by decide +kernel) rfl ⟨(Nat.le_of_ble_eq_true rfl), (Nat.le_of_ble_eq_true rfl)⟩ hl.1 rfl (Nat.le_of_ble_eq_true rfl) d_R_put_2 (Nat.le_of_ble_eq_true rfl) (Nat.le_of_ble_eq_true rfl) (fun H locs w => ?_)
  have hJ67 : ∀ (s0 v1 v2 v3 v4 v5 : Int32) (M : Sto) (H : Heap) (locs : List Loc) (ls : Array Slot), lv_has ls 8 [(0, .ref (q 0)), (1, .int v1), (2, .int v2), (3, .int v3), (4, .int v4), (5, .int v5)] → Wd D A s (wR ct q M) H locs → j_R_put_67 s0 v1 v2 v3 v4 v5 M = some (rz, Mz) → W p l e rm_R_put s m args below meth c H locs 0 0 Q (F0 m 67 ls [.int s0]) := by
    intro s0 v1 v2 v3 v4 v5 M H locs ls hl w h
    unfold j_R_put_67 at h
    refine lv_istore hx hb d_R_put_67 hl (by decide) rfl (fun ls hl => ?_)
    have hl : lv_has ls 8 [(6, .int s0), (0, .ref (q 0)), (1, .int v1), (2, .int v2), (3, .int v3), (4, .int v4), (5, .int v5)] := hl
    refine lv_aload_n hx hb d_R_put_69 rfl (lv_at hl 1 rfl) ?_
    refine lv_iload hx hb d_R_put_70 (lv_at hl 0 rfl) ?_
    refine lv_iconst (v := 1) hx hb d_R_put_72 (by decide) ?_
    obtain ⟨r19, M20, hc21, h⟩ := bind_ok h
    try dsimp only at h
    refine U_vi (rest := []) C0 w 0 (wU_at (by decide)) rfl (c_R_fails l D ct q hc21) wd_963 wd_960 wd_962 ws_34 wd_8 (n9 := 2) (by decide +kernel) rfl ⟨(Nat.le_of_ble_eq_true rfl), (Nat.le_of_ble_eq_true rfl)⟩ hl.1 rfl (Nat.le_of_ble_eq_true rfl) d_R_put_73 (Nat.le_of_ble_eq_true rfl) (Nat.le_of_ble_eq_true rfl) (fun H locs w => ?_)
    have hJ103 : ∀ (M : Sto) (H : Heap) (locs : List Loc) (ls : Array Slot), lv_has ls 8 [] → Wd D A s (wR ct q M) H locs → j_R_put_103 M = some (rz, Mz) → W p l e rm_R_put s m args below meth c H locs 0 0 Q (F0 m 103 ls []) := by
      intro M H locs ls hl w h
      unfold j_R_put_103 at h
      refine lv_iconst (v := 0) hx hb d_R_put_103 (by decide) ?_
      cases h
      exact hret _ _ _ _ d_R_put_104 rfl w
    refine lv_if_ne (tgt := 103) hx hb d_R_put_76 (by decide) (fun hc => ?_) (fun hc => ?_)
    · rw [if_neg hc] at h
      exact hJ103 _ _ _ _ (lv_sub hl [] rfl) w h
    · rw [if_pos hc] at h
      refine lv_aload_n hx hb d_R_put_79 rfl (lv_at hl 1 rfl) ?_
      refine lv_aload_n hx hb d_R_put_80 rfl (lv_at hl 1 rfl) ?_
      refine U_get C0 w 0 (by decide) rfl rfl inR 2 (by decide) wd_830 rfl d_R_put_81 ?_
      refine lv_iload_n hx hb d_R_put_84 rfl (lv_at hl 2 rfl) ?_
      obtain ⟨hi22, h⟩ := if_ok h
      refine U_ald C0 w (iR_1 ct) hi22 d_R_put_85 ?_
      refine lv_bipush (v := 6) hx hb d_R_put_86 (by decide) ?_
      have hJ96 : ∀ (s0 v1 v2 v3 v4 v5 : Int32) (M : Sto) (H : Heap) (locs : List Loc) (ls : Array Slot), lv_has ls 8 [(0, .ref (q 0)), (1, .int v1), (2, .int v2), (3, .int v3), (4, .int v4), (5, .int v5)] → Wd D A s (wR ct q M) H locs → j_R_put_96 s0 v1 v2 v3 v4 v5 M = some (rz, Mz) → W p l e rm_R_put s m args below meth c H locs 0 0 Q (F0 m 96 ls [.int s0, .ref (q 0)]) := by
        intro s0 v1 v2 v3 v4 v5 M H locs ls hl w h
        unfold j_R_put_96 at h
        refine lv_iconst (v := 2) hx hb d_R_put_96 (by decide) ?_
        obtain ⟨r23, M24, hc25, h⟩ := bind_ok h
        try dsimp only at h
        refine U_vi (rest := []) C0 w 0 (wU_at (by decide)) rfl (c_R_fails l D ct q hc25) wd_963 wd_960 wd_962 ws_34 wd_8 (n9 := 2) (by decide +kernel) rfl ⟨(Nat.le_of_ble_eq_true rfl), (Nat.le_of_ble_eq_true rfl)⟩ hl.1 rfl (Nat.le_of_ble_eq_true rfl) d_R_put_97 (Nat.le_of_ble_eq_true rfl) (Nat.le_of_ble_eq_true rfl) (fun H locs w => ?_)
        refine lv_if_eq (tgt := 105) hx hb d_R_put_100 (by decide) (fun hc => ?_) (fun hc => ?_)
        · rw [if_pos hc] at h
          refine lv_bipush (v := 6) hx hb d_R_put_105 (by decide) ?_
          refine lv_iload_n hx hb d_R_put_107 rfl (lv_at hl 1 rfl) ?_
          refine lv_imul hx hb d_R_put_108 ?_
          refine lv_aload_n hx hb d_R_put_109 rfl (lv_at hl 0 rfl) ?_
          refine U_get C0 w 0 (by decide) rfl rfl inR 2 (by decide) wd_830 rfl d_R_put_110 ?_
          refine lv_iload_n hx hb d_R_put_113 rfl (lv_at hl 1 rfl) ?_
          obtain ⟨hi26, h⟩ := if_ok h
          refine U_ald C0 w (iR_1 ct) hi26 d_R_put_114 ?_
          refine lv_iadd hx hb d_R_put_115 ?_
          refine lv_istore hx hb d_R_put_116 hl (by decide) rfl (fun ls hl => ?_)
          have hl : lv_has ls 8 [(7, .int ((6 * v1) + (M24 1 v1.toNatClampNeg))), (0, .ref (q 0)), (1, .int v1), (2, .int v2), (3, .int v3), (4, .int v4), (5, .int v5)] := hl
          refine lv_aload_n hx hb d_R_put_118 rfl (lv_at hl 1 rfl) ?_
          refine U_get C0 w 0 (by decide) rfl rfl inR 3 (by decide) wd_831 rfl d_R_put_119 ?_
          refine lv_iload hx hb d_R_put_122 (lv_at hl 0 rfl) ?_
          refine lv_iload_n hx hb d_R_put_124 rfl (lv_at hl 3 rfl) ?_
          obtain ⟨hi27, h⟩ := if_ok h
          obtain ⟨M28, eM28, h⟩ := wr_ok h
          try dsimp only at h
          refine U_ast C0 (cR_l ct) w (iR_2 ct) hi27 d_R_put_125 eM28 (fun H locs w => ?_)
          refine lv_aload_n hx hb d_R_put_126 rfl (lv_at hl 1 rfl) ?_
          refine U_get C0 w 0 (by decide) rfl rfl inR 4 (by decide) wd_832 rfl d_R_put_127 ?_
          refine lv_iload hx hb d_R_put_130 (lv_at hl 0 rfl) ?_
          refine lv_iload_n hx hb d_R_put_132 rfl (lv_at hl 4 rfl) ?_
          obtain ⟨hi29, h⟩ := if_ok h
          obtain ⟨M30, eM30, h⟩ := wr_ok h
          try dsimp only at h
          refine U_ast C0 (cR_l ct) w (iR_3 ct) hi29 d_R_put_133 eM30 (fun H locs w => ?_)
          refine lv_aload_n hx hb d_R_put_134 rfl (lv_at hl 1 rfl) ?_
          refine U_get C0 w 0 (by decide) rfl rfl inR 5 (by decide) wd_833 rfl d_R_put_135 ?_
          refine lv_iload hx hb d_R_put_138 (lv_at hl 0 rfl) ?_
          refine lv_iload hx hb d_R_put_140 (lv_at hl 5 rfl) ?_
          obtain ⟨hi31, h⟩ := if_ok h
          obtain ⟨M32, eM32, h⟩ := wr_ok h
          try dsimp only at h
          refine U_ast C0 (cR_l ct) w (iR_4 ct) hi31 d_R_put_142 eM32 (fun H locs w => ?_)
          refine lv_aload_n hx hb d_R_put_143 rfl (lv_at hl 1 rfl) ?_
          refine U_get C0 w 0 (by decide) rfl rfl inR 6 (by decide) wd_834 rfl d_R_put_144 ?_
          refine lv_iload hx hb d_R_put_147 (lv_at hl 0 rfl) ?_
          refine lv_iload hx hb d_R_put_149 (lv_at hl 6 rfl) ?_
          obtain ⟨hi33, h⟩ := if_ok h
          obtain ⟨M34, eM34, h⟩ := wr_ok h
          try dsimp only at h
          refine U_ast C0 (cR_l ct) w (iR_5 ct) hi33 d_R_put_151 eM34 (fun H locs w => ?_)
          refine lv_aload_n hx hb d_R_put_152 rfl (lv_at hl 1 rfl) ?_
          refine U_get C0 w 0 (by decide) rfl rfl inR 2 (by decide) wd_830 rfl d_R_put_153 ?_
          refine lv_iload_n hx hb d_R_put_156 rfl (lv_at hl 2 rfl) ?_
          refine lv_dup2_11 hx hb d_R_put_157 rfl rfl ?_
          obtain ⟨hi35, h⟩ := if_ok h
          refine U_ald C0 w (iR_1 ct) hi35 d_R_put_158 ?_
          refine lv_iconst (v := 1) hx hb d_R_put_159 (by decide) ?_
          refine lv_iadd hx hb d_R_put_160 ?_
          obtain ⟨hi36, h⟩ := if_ok h
          obtain ⟨M37, eM37, h⟩ := wr_ok h
          try dsimp only at h
          refine U_ast C0 (cR_l ct) w (iR_1 ct) hi36 d_R_put_161 eM37 (fun H locs w => ?_)
          refine lv_aload_n hx hb d_R_put_162 rfl (lv_at hl 1 rfl) ?_
          refine lv_iconst (v := 0) hx hb d_R_put_163 (by decide) ?_
          obtain ⟨hz38, h⟩ := if_ok h
          obtain ⟨M39, eM39, h⟩ := wr_ok h
          try dsimp only at h
          refine U_put C0 (cR_l ct) w 0 (by decide) rfl rfl inR tyR_ok nmR 11 (by decide) wd_839 rfl (bz_nar hz38) (bz_fit hz38) (Nat.le_of_ble_eq_true rfl) d_R_put_164 eM39 rfl (fun H locs w => ?_)
          refine lv_aload_n hx hb d_R_put_167 rfl (lv_at hl 1 rfl) ?_
          refine U_get C0 w 0 (by decide) rfl rfl inR 2 (by decide) wd_830 rfl d_R_put_168 ?_
          refine lv_iload_n hx hb d_R_put_171 rfl (lv_at hl 2 rfl) ?_
          obtain ⟨hi40, h⟩ := if_ok h
          refine U_ald C0 w (iR_1 ct) hi40 d_R_put_172 ?_
          cases h
          exact hret _ _ _ _ d_R_put_173 rfl w
        · rw [if_neg hc] at h
          exact hJ103 _ _ _ _ (lv_sub hl [] rfl) w h
      refine lv_icmp_ne (tgt := 95) hx hb d_R_put_88 (by decide) (fun hc => ?_) (fun hc => ?_)
      · rw [if_neg hc] at h
        refine lv_iconst (v := 0) hx hb d_R_put_95 (by decide) ?_
        exact hJ96 _ _ _ _ _ _ _ _ _ _ (lv_sub hl [1, 2, 3, 4, 5, 6] rfl) w h
      · rw [if_pos hc] at h
        refine lv_iconst (v := 1) hx hb d_R_put_91 (by decide) ?_
        refine lv_goto (tgt := 96) hx hb d_R_put_92 (by decide) ?_
        exact hJ96 _ _ _ _ _ _ _ _ _ _ (lv_sub hl [1, 2, 3, 4, 5, 6] rfl) w h
  have hJ62 : ∀ (v1 v2 v3 v4 v5 : Int32) (M : Sto) (H : Heap) (locs : List Loc) (ls : Array Slot), lv_has ls 8 [(0, .ref (q 0)), (1, .int v1), (2, .int v2), (3, .int v3), (4, .int v4), (5, .int v5)] → Wd D A s (wR ct q M) H locs → j_R_put_62 v1 v2 v3 v4 v5 M = some (rz, Mz) → W p l e rm_R_put s m args below meth c H locs 0 0 Q (F0 m 62 ls []) := by
    intro v1 v2 v3 v4 v5 M H locs ls hl w h
    unfold j_R_put_62 at h
    refine lv_iconst (v := 1) hx hb d_R_put_62 (by decide) ?_
    refine lv_goto (tgt := 67) hx hb d_R_put_63 (by decide) ?_
    exact hJ67 _ _ _ _ _ _ _ _ _ _ (lv_sub hl [0, 1, 2, 3, 4, 5] rfl) w h
  refine lv_if_ne (tgt := 62) hx hb d_R_put_5 (by decide) (fun hc => ?_) (fun hc => ?_)
  · rw [if_neg hc] at h
    exact hJ62 _ _ _ _ _ _ _ _ _ (lv_sub hl [0, 1, 2, 3, 4, 5] rfl) w h
  · rw [if_pos hc] at h
    refine lv_iload_n hx hb d_R_put_8 rfl (lv_at hl 2 rfl) ?_
    refine lv_if_lt (tgt := 62) hx hb d_R_put_9 (by decide) (fun hc => ?_) (fun hc => ?_)
    · rw [if_pos hc] at h
      exact hJ62 _ _ _ _ _ _ _ _ _ (lv_sub hl [0, 1, 2, 3, 4, 5] rfl) w h
    · rw [if_neg hc] at h
      refine lv_iload_n hx hb d_R_put_12 rfl (lv_at hl 2 rfl) ?_
      refine lv_bipush (v := 7) hx hb d_R_put_13 (by decide) ?_
      refine lv_icmp_gt (tgt := 62) hx hb d_R_put_15 (by decide) (fun hc => ?_) (fun hc => ?_)
      · rw [if_pos hc] at h
        exact hJ62 _ _ _ _ _ _ _ _ _ (lv_sub hl [0, 1, 2, 3, 4, 5] rfl) w h
      · rw [if_neg hc] at h
        refine lv_iload_n hx hb d_R_put_18 rfl (lv_at hl 2 rfl) ?_
        obtain ⟨r41, M42, hc43, h⟩ := bind_ok h
        try dsimp only at h
        refine U_si (rest := []) C0 w (c_R_setsOne l D ct q hc43) wd_974 wd_972 wd_973 wd_8 (n9 := 1) (by decide +kernel) rfl ⟨(Nat.le_of_ble_eq_true rfl), (Nat.le_of_ble_eq_true rfl)⟩ hl.1 rfl (Nat.le_of_ble_eq_true rfl) d_R_put_19 (Nat.le_of_ble_eq_true rfl) (Nat.le_of_ble_eq_true rfl) (fun H locs w => ?_)
        have hJ32 : ∀ (v1 v2 v3 v4 v5 : Int32) (M : Sto) (H : Heap) (locs : List Loc) (ls : Array Slot), lv_has ls 8 [(0, .ref (q 0)), (1, .int v1), (2, .int v2), (3, .int v3), (4, .int v4), (5, .int v5)] → Wd D A s (wR ct q M) H locs → j_R_put_32 v1 v2 v3 v4 v5 M = some (rz, Mz) → W p l e rm_R_put s m args below meth c H locs 0 0 Q (F0 m 32 ls []) := by
          intro v1 v2 v3 v4 v5 M H locs ls hl w h
          unfold j_R_put_32 at h
          refine lv_iload_n hx hb d_R_put_32 rfl (lv_at hl 2 rfl) ?_
          obtain ⟨r44, M45, hc46, h⟩ := bind_ok h
          try dsimp only at h
          refine U_si (rest := []) C0 w (c_R_usesFirst l D ct q hc46) wd_980 wd_978 wd_979 wd_8 (n9 := 1) (by decide +kernel) rfl ⟨(Nat.le_of_ble_eq_true rfl), (Nat.le_of_ble_eq_true rfl)⟩ hl.1 rfl (Nat.le_of_ble_eq_true rfl) d_R_put_33 (Nat.le_of_ble_eq_true rfl) (Nat.le_of_ble_eq_true rfl) (fun H locs w => ?_)
          have hJ47 : ∀ (v1 v2 v3 v4 v5 : Int32) (M : Sto) (H : Heap) (locs : List Loc) (ls : Array Slot), lv_has ls 8 [(0, .ref (q 0)), (1, .int v1), (2, .int v2), (3, .int v3), (4, .int v4), (5, .int v5)] → Wd D A s (wR ct q M) H locs → j_R_put_47 v1 v2 v3 v4 v5 M = some (rz, Mz) → W p l e rm_R_put s m args below meth c H locs 0 0 Q (F0 m 47 ls []) := by
            intro v1 v2 v3 v4 v5 M H locs ls hl w h
            unfold j_R_put_47 at h
            refine lv_iload_n hx hb d_R_put_47 rfl (lv_at hl 2 rfl) ?_
            obtain ⟨r47, M48, hc49, h⟩ := bind_ok h
            try dsimp only at h
            refine U_si (rest := []) C0 w (c_R_usesSecond l D ct q hc49) wd_983 wd_981 wd_982 wd_8 (n9 := 1) (by decide +kernel) rfl ⟨(Nat.le_of_ble_eq_true rfl), (Nat.le_of_ble_eq_true rfl)⟩ hl.1 rfl (Nat.le_of_ble_eq_true rfl) d_R_put_48 (Nat.le_of_ble_eq_true rfl) (Nat.le_of_ble_eq_true rfl) (fun H locs w => ?_)
            have hJ66 : ∀ (v1 v2 v3 v4 v5 : Int32) (M : Sto) (H : Heap) (locs : List Loc) (ls : Array Slot), lv_has ls 8 [(0, .ref (q 0)), (1, .int v1), (2, .int v2), (3, .int v3), (4, .int v4), (5, .int v5)] → Wd D A s (wR ct q M) H locs → j_R_put_66 v1 v2 v3 v4 v5 M = some (rz, Mz) → W p l e rm_R_put s m args below meth c H locs 0 0 Q (F0 m 66 ls []) := by
              intro v1 v2 v3 v4 v5 M H locs ls hl w h
              unfold j_R_put_66 at h
              refine lv_iconst (v := 0) hx hb d_R_put_66 (by decide) ?_
              exact hJ67 _ _ _ _ _ _ _ _ _ _ (lv_sub hl [0, 1, 2, 3, 4, 5] rfl) w h
            refine lv_if_eq (tgt := 66) hx hb d_R_put_51 (by decide) (fun hc => ?_) (fun hc => ?_)
            · rw [if_pos hc] at h
              exact hJ66 _ _ _ _ _ _ _ _ _ (lv_sub hl [0, 1, 2, 3, 4, 5] rfl) w h
            · rw [if_neg hc] at h
              refine lv_iload hx hb d_R_put_54 (lv_at hl 5 rfl) ?_
              obtain ⟨r50, M51, hc52, h⟩ := bind_ok h
              try dsimp only at h
              refine U_si (rest := []) C0 w (c_R_noVariable l D ct q hc52) wd_977 wd_975 wd_976 wd_8 (n9 := 1) (by decide +kernel) rfl ⟨(Nat.le_of_ble_eq_true rfl), (Nat.le_of_ble_eq_true rfl)⟩ hl.1 rfl (Nat.le_of_ble_eq_true rfl) d_R_put_56 (Nat.le_of_ble_eq_true rfl) (Nat.le_of_ble_eq_true rfl) (fun H locs w => ?_)
              refine lv_if_eq (tgt := 66) hx hb d_R_put_59 (by decide) (fun hc => ?_) (fun hc => ?_)
              · rw [if_pos hc] at h
                exact hJ66 _ _ _ _ _ _ _ _ _ (lv_sub hl [0, 1, 2, 3, 4, 5] rfl) w h
              · rw [if_neg hc] at h
                exact hJ62 _ _ _ _ _ _ _ _ _ (lv_sub hl [0, 1, 2, 3, 4, 5] rfl) w h
          refine lv_if_eq (tgt := 47) hx hb d_R_put_36 (by decide) (fun hc => ?_) (fun hc => ?_)
          · rw [if_pos hc] at h
            exact hJ47 _ _ _ _ _ _ _ _ _ (lv_sub hl [0, 1, 2, 3, 4, 5] rfl) w h
          · rw [if_neg hc] at h
            refine lv_iload hx hb d_R_put_39 (lv_at hl 4 rfl) ?_
            obtain ⟨r53, M54, hc55, h⟩ := bind_ok h
            try dsimp only at h
            refine U_si (rest := []) C0 w (c_R_noVariable l D ct q hc55) wd_977 wd_975 wd_976 wd_8 (n9 := 1) (by decide +kernel) rfl ⟨(Nat.le_of_ble_eq_true rfl), (Nat.le_of_ble_eq_true rfl)⟩ hl.1 rfl (Nat.le_of_ble_eq_true rfl) d_R_put_41 (Nat.le_of_ble_eq_true rfl) (Nat.le_of_ble_eq_true rfl) (fun H locs w => ?_)
            refine lv_if_ne (tgt := 62) hx hb d_R_put_44 (by decide) (fun hc => ?_) (fun hc => ?_)
            · rw [if_neg hc] at h
              exact hJ62 _ _ _ _ _ _ _ _ _ (lv_sub hl [0, 1, 2, 3, 4, 5] rfl) w h
            · rw [if_pos hc] at h
              exact hJ47 _ _ _ _ _ _ _ _ _ (lv_sub hl [0, 1, 2, 3, 4, 5] rfl) w h
        refine lv_if_eq (tgt := 32) hx hb d_R_put_22 (by decide) (fun hc => ?_) (fun hc => ?_)
        · rw [if_pos hc] at h
          exact hJ32 _ _ _ _ _ _ _ _ _ (lv_sub hl [0, 1, 2, 3, 4, 5] rfl) w h
        · rw [if_neg hc] at h
          refine lv_iload_n hx hb d_R_put_25 rfl (lv_at hl 3 rfl) ?_
          obtain ⟨r56, M57, hc58, h⟩ := bind_ok h
          try dsimp only at h
          refine U_si (rest := []) C0 w (c_R_noVariable l D ct q hc58) wd_977 wd_975 wd_976 wd_8 (n9 := 1) (by decide +kernel) rfl ⟨(Nat.le_of_ble_eq_true rfl), (Nat.le_of_ble_eq_true rfl)⟩ hl.1 rfl (Nat.le_of_ble_eq_true rfl) d_R_put_26 (Nat.le_of_ble_eq_true rfl) (Nat.le_of_ble_eq_true rfl) (fun H locs w => ?_)
          refine lv_if_ne (tgt := 62) hx hb d_R_put_29 (by decide) (fun hc => ?_) (fun hc => ?_)
          · rw [if_neg hc] at h
            exact hJ62 _ _ _ _ _ _ _ _ _ (lv_sub hl [0, 1, 2, 3, 4, 5] rfl) w h
          · rw [if_pos hc] at h
            exact hJ32 _ _ _ _ _ _ _ _ _ (lv_sub hl [0, 1, 2, 3, 4, 5] rfl) w h
abbrev rm_R_noTarget : Room := { frames := 0, cells := 0, slots := 0, locals := 0 }
set_option maxHeartbeats 8000000 in
set_option maxRecDepth 100000 in
theorem c_R_noTarget (l : Launch) (D : va_G) (ct : Nat → ClassId) (q : Nat → Nat) {x1 : Int32} {M Mz : Sto} {rz : Int32} (h : m_R_noTarget x1 M = some (rz, Mz)) : KI l D ct y_R_noTarget b_R_noTarget 2 (some .boolean) 0 0 [.ref (q 0), .int x1] (wR ct q M) rz (wR ct q Mz) := by
  refine KI.ofU (by decide) (Nat.le_of_ble_eq_true rfl) rfl ?_
  intro p e s m args below meth c A Q ls C0 hl w hret
  have hx := C0.1
  have hb := C0.2.1
  have hl : lv_has ls 2 [(0, .ref (q 0)), (1, .int x1)] := hl
  unfold m_R_noTarget at h
  refine lv_iload_n hx hb d_R_noTarget_0 rfl (lv_at hl 1 rfl) ?_
  refine lv_iconst (v := 1) hx hb d_R_noTarget_1 (by decide) ?_
  have hJ18 : ∀ (s0 : Int32) (M : Sto) (H : Heap) (locs : List Loc) (ls : Array Slot), lv_has ls 2 [] → Wd D A s (wR ct q M) H locs → j_R_noTarget_18 s0 M = some (rz, Mz) → W p l e rm_R_noTarget s m args below meth c H locs 0 0 Q (F0 m 18 ls [.int s0]) := by
    intro s0 M H locs ls hl w h
    unfold j_R_noTarget_18 at h
    obtain ⟨hz9, h⟩ := if_ok h
    cases h
    exact hret _ _ _ _ d_R_noTarget_18 (bz_nar hz9) w
  have hJ13 : ∀ (M : Sto) (H : Heap) (locs : List Loc) (ls : Array Slot), lv_has ls 2 [] → Wd D A s (wR ct q M) H locs → j_R_noTarget_13 M = some (rz, Mz) → W p l e rm_R_noTarget s m args below meth c H locs 0 0 Q (F0 m 13 ls []) := by
    intro M H locs ls hl w h
    unfold j_R_noTarget_13 at h
    refine lv_iconst (v := 1) hx hb d_R_noTarget_13 (by decide) ?_
    refine lv_goto (tgt := 18) hx hb d_R_noTarget_14 (by decide) ?_
    exact hJ18 _ _ _ _ _ (lv_sub hl [] rfl) w h
  refine lv_icmp_lt (tgt := 13) hx hb d_R_noTarget_2 (by decide) (fun hc => ?_) (fun hc => ?_)
  · rw [if_pos hc] at h
    exact hJ13 _ _ _ _ (lv_sub hl [] rfl) w h
  · rw [if_neg hc] at h
    refine lv_iload_n hx hb d_R_noTarget_5 rfl (lv_at hl 1 rfl) ?_
    refine lv_aload_n hx hb d_R_noTarget_6 rfl (lv_at hl 0 rfl) ?_
    refine U_get C0 w 0 (by decide) rfl rfl inR 1 (by decide) wd_829 rfl d_R_noTarget_7 ?_
    refine lv_icmp_lt (tgt := 17) hx hb d_R_noTarget_10 (by decide) (fun hc => ?_) (fun hc => ?_)
    · rw [if_pos hc] at h
      refine lv_iconst (v := 0) hx hb d_R_noTarget_17 (by decide) ?_
      exact hJ18 _ _ _ _ _ (lv_sub hl [] rfl) w h
    · rw [if_neg hc] at h
      exact hJ13 _ _ _ _ (lv_sub hl [] rfl) w h
abbrev rm_R_go : Room := { frames := 1, cells := 0, slots := 0, locals := 22 }
set_option maxHeartbeats 8000000 in
set_option maxRecDepth 100000 in
theorem c_R_go (l : Launch) (D : va_G) (ct : Nat → ClassId) (q : Nat → Nat) {x1 x2 : Int32} {M Mz : Sto} {rz : Int32} (h : m_R_go x1 x2 M = some (rz, Mz)) : KV l D ct y_R_go b_R_go 3 1 22 0 0 [.ref (q 0), .int x1, .int x2] (wR ct q M) (fun A t => CE D (wR ct q Mz) A t) := by
  refine KV.ofU (by decide) (Nat.le_of_ble_eq_true rfl) ?_
  intro p e s m args below meth c A Q ls C0 hl w hret
  have hx := C0.1
  have hb := C0.2.1
  have hl : lv_has ls 3 [(0, .ref (q 0)), (1, .int x1), (2, .int x2)] := hl
  unfold m_R_go at h
  refine lv_aload_n hx hb d_R_go_0 rfl (lv_at hl 0 rfl) ?_
  refine lv_aload_n hx hb d_R_go_1 rfl (lv_at hl 0 rfl) ?_
  refine lv_iload_n hx hb d_R_go_2 rfl (lv_at hl 1 rfl) ?_
  obtain ⟨r7, M8, hc9, h⟩ := bind_ok h
  try dsimp only at h
  refine U_vi (rest := [.ref (q 0)]) C0 w 0 (wU_at (by decide)) rfl (c_R_noBlock l D ct q hc9) wd_971 wd_968 wd_970 ws_35 wd_8 (n9 := 1) (by decide +kernel) rfl ⟨(Nat.le_of_ble_eq_true rfl), (Nat.le_of_ble_eq_true rfl)⟩ hl.1 rfl (Nat.le_of_ble_eq_true rfl) d_R_go_3 (Nat.le_of_ble_eq_true rfl) (Nat.le_of_ble_eq_true rfl) (fun H locs w => ?_)
  have hJ22 : ∀ (s0 v1 v2 : Int32) (M : Sto) (H : Heap) (locs : List Loc) (ls : Array Slot), lv_has ls 3 [(0, .ref (q 0)), (1, .int v1), (2, .int v2)] → Wd D A s (wR ct q M) H locs → j_R_go_22 s0 v1 v2 M = some (rz, Mz) → W p l e rm_R_go s m args below meth c H locs 0 0 Q (F0 m 22 ls [.int s0, .ref (q 0)]) := by
    intro s0 v1 v2 M H locs ls hl w h
    unfold j_R_go_22 at h
    refine lv_iconst (v := 1) hx hb d_R_go_22 (by decide) ?_
    obtain ⟨r10, M11, hc12, h⟩ := bind_ok h
    try dsimp only at h
    refine U_vi (rest := []) C0 w 0 (wU_at (by decide)) rfl (c_R_fails l D ct q hc12) wd_963 wd_960 wd_962 ws_34 wd_8 (n9 := 2) (by decide +kernel) rfl ⟨(Nat.le_of_ble_eq_true rfl), (Nat.le_of_ble_eq_true rfl)⟩ hl.1 rfl (Nat.le_of_ble_eq_true rfl) d_R_go_23 (Nat.le_of_ble_eq_true rfl) (Nat.le_of_ble_eq_true rfl) (fun H locs w => ?_)
    refine lv_if_eq (tgt := 30) hx hb d_R_go_26 (by decide) (fun hc => ?_) (fun hc => ?_)
    · rw [if_pos hc] at h
      refine lv_aload_n hx hb d_R_go_30 rfl (lv_at hl 0 rfl) ?_
      refine U_get C0 w 0 (by decide) rfl rfl inR 7 (by decide) wd_835 rfl d_R_go_31 ?_
      refine lv_iload_n hx hb d_R_go_34 rfl (lv_at hl 1 rfl) ?_
      refine lv_iconst (v := 1) hx hb d_R_go_35 (by decide) ?_
      obtain ⟨hi13, h⟩ := if_ok h
      obtain ⟨M14, eM14, h⟩ := wr_ok h
      try dsimp only at h
      refine U_ast C0 (cR_l ct) w (iR_6 ct) hi13 d_R_go_36 eM14 (fun H locs w => ?_)
      refine lv_aload_n hx hb d_R_go_37 rfl (lv_at hl 0 rfl) ?_
      refine U_get C0 w 0 (by decide) rfl rfl inR 9 (by decide) wd_837 rfl d_R_go_38 ?_
      refine lv_iload_n hx hb d_R_go_41 rfl (lv_at hl 1 rfl) ?_
      refine lv_iload_n hx hb d_R_go_42 rfl (lv_at hl 2 rfl) ?_
      obtain ⟨hi15, h⟩ := if_ok h
      obtain ⟨M16, eM16, h⟩ := wr_ok h
      try dsimp only at h
      refine U_ast C0 (cR_l ct) w (iR_8 ct) hi15 d_R_go_43 eM16 (fun H locs w => ?_)
      refine lv_aload_n hx hb d_R_go_44 rfl (lv_at hl 0 rfl) ?_
      refine lv_iconst (v := 0) hx hb d_R_go_45 (by decide) ?_
      obtain ⟨hz17, h⟩ := if_ok h
      obtain ⟨M18, eM18, h⟩ := wr_ok h
      try dsimp only at h
      refine U_put C0 (cR_l ct) w 0 (by decide) rfl rfl inR tyR_ok nmR 11 (by decide) wd_839 rfl (bz_nar hz17) (bz_fit hz17) (Nat.le_of_ble_eq_true rfl) d_R_go_46 eM18 rfl (fun H locs w => ?_)
      cases h
      exact hret _ _ _ _ d_R_go_49 w
    · rw [if_neg hc] at h
      cases h
      exact hret _ _ _ _ d_R_go_29 w
  have hJ17 : ∀ (v1 v2 : Int32) (M : Sto) (H : Heap) (locs : List Loc) (ls : Array Slot), lv_has ls 3 [(0, .ref (q 0)), (1, .int v1), (2, .int v2)] → Wd D A s (wR ct q M) H locs → j_R_go_17 v1 v2 M = some (rz, Mz) → W p l e rm_R_go s m args below meth c H locs 0 0 Q (F0 m 17 ls [.ref (q 0)]) := by
    intro v1 v2 M H locs ls hl w h
    unfold j_R_go_17 at h
    refine lv_iconst (v := 1) hx hb d_R_go_17 (by decide) ?_
    refine lv_goto (tgt := 22) hx hb d_R_go_18 (by decide) ?_
    exact hJ22 _ _ _ _ _ _ _ (lv_sub hl [0, 1, 2] rfl) w h
  refine lv_if_ne (tgt := 17) hx hb d_R_go_6 (by decide) (fun hc => ?_) (fun hc => ?_)
  · rw [if_neg hc] at h
    exact hJ17 _ _ _ _ _ _ (lv_sub hl [0, 1, 2] rfl) w h
  · rw [if_pos hc] at h
    refine lv_aload_n hx hb d_R_go_9 rfl (lv_at hl 0 rfl) ?_
    refine lv_iload_n hx hb d_R_go_10 rfl (lv_at hl 2 rfl) ?_
    obtain ⟨r19, M20, hc21, h⟩ := bind_ok h
    try dsimp only at h
    refine U_vi (rest := [.ref (q 0)]) C0 w 0 (wU_at (by decide)) rfl (c_R_noTarget l D ct q hc21) wd_991 wd_988 wd_990 ws_36 wd_8 (n9 := 1) (by decide +kernel) rfl ⟨(Nat.le_of_ble_eq_true rfl), (Nat.le_of_ble_eq_true rfl)⟩ hl.1 rfl (Nat.le_of_ble_eq_true rfl) d_R_go_11 (Nat.le_of_ble_eq_true rfl) (Nat.le_of_ble_eq_true rfl) (fun H locs w => ?_)
    refine lv_if_eq (tgt := 21) hx hb d_R_go_14 (by decide) (fun hc => ?_) (fun hc => ?_)
    · rw [if_pos hc] at h
      refine lv_iconst (v := 0) hx hb d_R_go_21 (by decide) ?_
      exact hJ22 _ _ _ _ _ _ _ (lv_sub hl [0, 1, 2] rfl) w h
    · rw [if_neg hc] at h
      exact hJ17 _ _ _ _ _ _ (lv_sub hl [0, 1, 2] rfl) w h
abbrev rm_R_fork : Room := { frames := 1, cells := 0, slots := 0, locals := 22 }
set_option maxHeartbeats 8000000 in
set_option maxRecDepth 100000 in
theorem c_R_fork (l : Launch) (D : va_G) (ct : Nat → ClassId) (q : Nat → Nat) {x1 x2 x3 x4 : Int32} {M Mz : Sto} {rz : Int32} (h : m_R_fork x1 x2 x3 x4 M = some (rz, Mz)) : KV l D ct y_R_fork b_R_fork 5 1 22 0 0 [.ref (q 0), .int x1, .int x2, .int x3, .int x4] (wR ct q M) (fun A t => CE D (wR ct q Mz) A t) := by
  refine KV.ofU (by decide) (Nat.le_of_ble_eq_true rfl) ?_
  intro p e s m args below meth c A Q ls C0 hl w hret
  have hx := C0.1
  have hb := C0.2.1
  have hl : lv_has ls 5 [(0, .ref (q 0)), (1, .int x1), (2, .int x2), (3, .int x3), (4, .int x4)] := hl
  unfold m_R_fork at h
  refine lv_aload_n hx hb d_R_fork_0 rfl (lv_at hl 0 rfl) ?_
  refine lv_aload_n hx hb d_R_fork_1 rfl (lv_at hl 0 rfl) ?_
  refine lv_iload_n hx hb d_R_fork_2 rfl (lv_at hl 1 rfl) ?_
  obtain ⟨r11, M12, hc13, h⟩ := bind_ok h
  try dsimp only at h
  refine U_vi (rest := [.ref (q 0)]) C0 w 0 (wU_at (by decide)) rfl (c_R_noBlock l D ct q hc13) wd_971 wd_968 wd_970 ws_35 wd_8 (n9 := 1) (by decide +kernel) rfl ⟨(Nat.le_of_ble_eq_true rfl), (Nat.le_of_ble_eq_true rfl)⟩ hl.1 rfl (Nat.le_of_ble_eq_true rfl) d_R_fork_3 (Nat.le_of_ble_eq_true rfl) (Nat.le_of_ble_eq_true rfl) (fun H locs w => ?_)
  have hJ38 : ∀ (s0 v1 v2 v3 v4 : Int32) (M : Sto) (H : Heap) (locs : List Loc) (ls : Array Slot), lv_has ls 5 [(0, .ref (q 0)), (1, .int v1), (2, .int v2), (3, .int v3), (4, .int v4)] → Wd D A s (wR ct q M) H locs → j_R_fork_38 s0 v1 v2 v3 v4 M = some (rz, Mz) → W p l e rm_R_fork s m args below meth c H locs 0 0 Q (F0 m 38 ls [.int s0, .ref (q 0)]) := by
    intro s0 v1 v2 v3 v4 M H locs ls hl w h
    unfold j_R_fork_38 at h
    refine lv_iconst (v := 1) hx hb d_R_fork_38 (by decide) ?_
    obtain ⟨r14, M15, hc16, h⟩ := bind_ok h
    try dsimp only at h
    refine U_vi (rest := []) C0 w 0 (wU_at (by decide)) rfl (c_R_fails l D ct q hc16) wd_963 wd_960 wd_962 ws_34 wd_8 (n9 := 2) (by decide +kernel) rfl ⟨(Nat.le_of_ble_eq_true rfl), (Nat.le_of_ble_eq_true rfl)⟩ hl.1 rfl (Nat.le_of_ble_eq_true rfl) d_R_fork_39 (Nat.le_of_ble_eq_true rfl) (Nat.le_of_ble_eq_true rfl) (fun H locs w => ?_)
    refine lv_if_eq (tgt := 46) hx hb d_R_fork_42 (by decide) (fun hc => ?_) (fun hc => ?_)
    · rw [if_pos hc] at h
      refine lv_aload_n hx hb d_R_fork_46 rfl (lv_at hl 0 rfl) ?_
      refine U_get C0 w 0 (by decide) rfl rfl inR 7 (by decide) wd_835 rfl d_R_fork_47 ?_
      refine lv_iload_n hx hb d_R_fork_50 rfl (lv_at hl 1 rfl) ?_
      refine lv_iconst (v := 2) hx hb d_R_fork_51 (by decide) ?_
      obtain ⟨hi17, h⟩ := if_ok h
      obtain ⟨M18, eM18, h⟩ := wr_ok h
      try dsimp only at h
      refine U_ast C0 (cR_l ct) w (iR_6 ct) hi17 d_R_fork_52 eM18 (fun H locs w => ?_)
      refine lv_aload_n hx hb d_R_fork_53 rfl (lv_at hl 0 rfl) ?_
      refine U_get C0 w 0 (by decide) rfl rfl inR 8 (by decide) wd_836 rfl d_R_fork_54 ?_
      refine lv_iload_n hx hb d_R_fork_57 rfl (lv_at hl 1 rfl) ?_
      refine lv_iload_n hx hb d_R_fork_58 rfl (lv_at hl 2 rfl) ?_
      obtain ⟨hi19, h⟩ := if_ok h
      obtain ⟨M20, eM20, h⟩ := wr_ok h
      try dsimp only at h
      refine U_ast C0 (cR_l ct) w (iR_7 ct) hi19 d_R_fork_59 eM20 (fun H locs w => ?_)
      refine lv_aload_n hx hb d_R_fork_60 rfl (lv_at hl 0 rfl) ?_
      refine U_get C0 w 0 (by decide) rfl rfl inR 9 (by decide) wd_837 rfl d_R_fork_61 ?_
      refine lv_iload_n hx hb d_R_fork_64 rfl (lv_at hl 1 rfl) ?_
      refine lv_iload_n hx hb d_R_fork_65 rfl (lv_at hl 3 rfl) ?_
      obtain ⟨hi21, h⟩ := if_ok h
      obtain ⟨M22, eM22, h⟩ := wr_ok h
      try dsimp only at h
      refine U_ast C0 (cR_l ct) w (iR_8 ct) hi21 d_R_fork_66 eM22 (fun H locs w => ?_)
      refine lv_aload_n hx hb d_R_fork_67 rfl (lv_at hl 0 rfl) ?_
      refine U_get C0 w 0 (by decide) rfl rfl inR 10 (by decide) wd_838 rfl d_R_fork_68 ?_
      refine lv_iload_n hx hb d_R_fork_71 rfl (lv_at hl 1 rfl) ?_
      refine lv_iload hx hb d_R_fork_72 (lv_at hl 4 rfl) ?_
      obtain ⟨hi23, h⟩ := if_ok h
      obtain ⟨M24, eM24, h⟩ := wr_ok h
      try dsimp only at h
      refine U_ast C0 (cR_l ct) w (iR_9 ct) hi23 d_R_fork_74 eM24 (fun H locs w => ?_)
      refine lv_aload_n hx hb d_R_fork_75 rfl (lv_at hl 0 rfl) ?_
      refine lv_iconst (v := 0) hx hb d_R_fork_76 (by decide) ?_
      obtain ⟨hz25, h⟩ := if_ok h
      obtain ⟨M26, eM26, h⟩ := wr_ok h
      try dsimp only at h
      refine U_put C0 (cR_l ct) w 0 (by decide) rfl rfl inR tyR_ok nmR 11 (by decide) wd_839 rfl (bz_nar hz25) (bz_fit hz25) (Nat.le_of_ble_eq_true rfl) d_R_fork_77 eM26 rfl (fun H locs w => ?_)
      cases h
      exact hret _ _ _ _ d_R_fork_80 w
    · rw [if_neg hc] at h
      cases h
      exact hret _ _ _ _ d_R_fork_45 w
  have hJ33 : ∀ (v1 v2 v3 v4 : Int32) (M : Sto) (H : Heap) (locs : List Loc) (ls : Array Slot), lv_has ls 5 [(0, .ref (q 0)), (1, .int v1), (2, .int v2), (3, .int v3), (4, .int v4)] → Wd D A s (wR ct q M) H locs → j_R_fork_33 v1 v2 v3 v4 M = some (rz, Mz) → W p l e rm_R_fork s m args below meth c H locs 0 0 Q (F0 m 33 ls [.ref (q 0)]) := by
    intro v1 v2 v3 v4 M H locs ls hl w h
    unfold j_R_fork_33 at h
    refine lv_iconst (v := 1) hx hb d_R_fork_33 (by decide) ?_
    refine lv_goto (tgt := 38) hx hb d_R_fork_34 (by decide) ?_
    exact hJ38 _ _ _ _ _ _ _ _ _ (lv_sub hl [0, 1, 2, 3, 4] rfl) w h
  refine lv_if_ne (tgt := 33) hx hb d_R_fork_6 (by decide) (fun hc => ?_) (fun hc => ?_)
  · rw [if_neg hc] at h
    exact hJ33 _ _ _ _ _ _ _ _ (lv_sub hl [0, 1, 2, 3, 4] rfl) w h
  · rw [if_pos hc] at h
    refine lv_iload_n hx hb d_R_fork_9 rfl (lv_at hl 2 rfl) ?_
    obtain ⟨r27, M28, hc29, h⟩ := bind_ok h
    try dsimp only at h
    refine U_si (rest := [.ref (q 0)]) C0 w (c_R_noVariable l D ct q hc29) wd_977 wd_975 wd_976 wd_8 (n9 := 1) (by decide +kernel) rfl ⟨(Nat.le_of_ble_eq_true rfl), (Nat.le_of_ble_eq_true rfl)⟩ hl.1 rfl (Nat.le_of_ble_eq_true rfl) d_R_fork_10 (Nat.le_of_ble_eq_true rfl) (Nat.le_of_ble_eq_true rfl) (fun H locs w => ?_)
    refine lv_if_ne (tgt := 33) hx hb d_R_fork_13 (by decide) (fun hc => ?_) (fun hc => ?_)
    · rw [if_neg hc] at h
      exact hJ33 _ _ _ _ _ _ _ _ (lv_sub hl [0, 1, 2, 3, 4] rfl) w h
    · rw [if_pos hc] at h
      refine lv_aload_n hx hb d_R_fork_16 rfl (lv_at hl 0 rfl) ?_
      refine lv_iload_n hx hb d_R_fork_17 rfl (lv_at hl 3 rfl) ?_
      obtain ⟨r30, M31, hc32, h⟩ := bind_ok h
      try dsimp only at h
      refine U_vi (rest := [.ref (q 0)]) C0 w 0 (wU_at (by decide)) rfl (c_R_noTarget l D ct q hc32) wd_991 wd_988 wd_990 ws_36 wd_8 (n9 := 1) (by decide +kernel) rfl ⟨(Nat.le_of_ble_eq_true rfl), (Nat.le_of_ble_eq_true rfl)⟩ hl.1 rfl (Nat.le_of_ble_eq_true rfl) d_R_fork_18 (Nat.le_of_ble_eq_true rfl) (Nat.le_of_ble_eq_true rfl) (fun H locs w => ?_)
      refine lv_if_ne (tgt := 33) hx hb d_R_fork_21 (by decide) (fun hc => ?_) (fun hc => ?_)
      · rw [if_neg hc] at h
        exact hJ33 _ _ _ _ _ _ _ _ (lv_sub hl [0, 1, 2, 3, 4] rfl) w h
      · rw [if_pos hc] at h
        refine lv_aload_n hx hb d_R_fork_24 rfl (lv_at hl 0 rfl) ?_
        refine lv_iload hx hb d_R_fork_25 (lv_at hl 4 rfl) ?_
        obtain ⟨r33, M34, hc35, h⟩ := bind_ok h
        try dsimp only at h
        refine U_vi (rest := [.ref (q 0)]) C0 w 0 (wU_at (by decide)) rfl (c_R_noTarget l D ct q hc35) wd_991 wd_988 wd_990 ws_36 wd_8 (n9 := 1) (by decide +kernel) rfl ⟨(Nat.le_of_ble_eq_true rfl), (Nat.le_of_ble_eq_true rfl)⟩ hl.1 rfl (Nat.le_of_ble_eq_true rfl) d_R_fork_27 (Nat.le_of_ble_eq_true rfl) (Nat.le_of_ble_eq_true rfl) (fun H locs w => ?_)
        refine lv_if_eq (tgt := 37) hx hb d_R_fork_30 (by decide) (fun hc => ?_) (fun hc => ?_)
        · rw [if_pos hc] at h
          refine lv_iconst (v := 0) hx hb d_R_fork_37 (by decide) ?_
          exact hJ38 _ _ _ _ _ _ _ _ _ (lv_sub hl [0, 1, 2, 3, 4] rfl) w h
        · rw [if_neg hc] at h
          exact hJ33 _ _ _ _ _ _ _ _ (lv_sub hl [0, 1, 2, 3, 4] rfl) w h
abbrev rm_R_stop : Room := { frames := 1, cells := 0, slots := 0, locals := 22 }
set_option maxHeartbeats 8000000 in
set_option maxRecDepth 100000 in
theorem c_R_stop (l : Launch) (D : va_G) (ct : Nat → ClassId) (q : Nat → Nat) {x1 : Int32} {M Mz : Sto} {rz : Int32} (h : m_R_stop x1 M = some (rz, Mz)) : KV l D ct y_R_stop b_R_stop 2 1 22 0 0 [.ref (q 0), .int x1] (wR ct q M) (fun A t => CE D (wR ct q Mz) A t) := by
  refine KV.ofU (by decide) (Nat.le_of_ble_eq_true rfl) ?_
  intro p e s m args below meth c A Q ls C0 hl w hret
  have hx := C0.1
  have hb := C0.2.1
  have hl : lv_has ls 2 [(0, .ref (q 0)), (1, .int x1)] := hl
  unfold m_R_stop at h
  refine lv_aload_n hx hb d_R_stop_0 rfl (lv_at hl 0 rfl) ?_
  refine lv_aload_n hx hb d_R_stop_1 rfl (lv_at hl 0 rfl) ?_
  refine lv_iload_n hx hb d_R_stop_2 rfl (lv_at hl 1 rfl) ?_
  obtain ⟨r5, M6, hc7, h⟩ := bind_ok h
  try dsimp only at h
  refine U_vi (rest := [.ref (q 0)]) C0 w 0 (wU_at (by decide)) rfl (c_R_noBlock l D ct q hc7) wd_971 wd_968 wd_970 ws_35 wd_8 (n9 := 1) (by decide +kernel) rfl ⟨(Nat.le_of_ble_eq_true rfl), (Nat.le_of_ble_eq_true rfl)⟩ hl.1 rfl (Nat.le_of_ble_eq_true rfl) d_R_stop_3 (Nat.le_of_ble_eq_true rfl) (Nat.le_of_ble_eq_true rfl) (fun H locs w => ?_)
  refine lv_iconst (v := 1) hx hb d_R_stop_6 (by decide) ?_
  obtain ⟨r8, M9, hc10, h⟩ := bind_ok h
  try dsimp only at h
  refine U_vi (rest := []) C0 w 0 (wU_at (by decide)) rfl (c_R_fails l D ct q hc10) wd_963 wd_960 wd_962 ws_34 wd_8 (n9 := 2) (by decide +kernel) rfl ⟨(Nat.le_of_ble_eq_true rfl), (Nat.le_of_ble_eq_true rfl)⟩ hl.1 rfl (Nat.le_of_ble_eq_true rfl) d_R_stop_7 (Nat.le_of_ble_eq_true rfl) (Nat.le_of_ble_eq_true rfl) (fun H locs w => ?_)
  refine lv_if_eq (tgt := 14) hx hb d_R_stop_10 (by decide) (fun hc => ?_) (fun hc => ?_)
  · rw [if_pos hc] at h
    refine lv_aload_n hx hb d_R_stop_14 rfl (lv_at hl 0 rfl) ?_
    refine U_get C0 w 0 (by decide) rfl rfl inR 7 (by decide) wd_835 rfl d_R_stop_15 ?_
    refine lv_iload_n hx hb d_R_stop_18 rfl (lv_at hl 1 rfl) ?_
    refine lv_iconst (v := 0) hx hb d_R_stop_19 (by decide) ?_
    obtain ⟨hi11, h⟩ := if_ok h
    obtain ⟨M12, eM12, h⟩ := wr_ok h
    try dsimp only at h
    refine U_ast C0 (cR_l ct) w (iR_6 ct) hi11 d_R_stop_20 eM12 (fun H locs w => ?_)
    refine lv_aload_n hx hb d_R_stop_21 rfl (lv_at hl 0 rfl) ?_
    refine lv_iconst (v := 0) hx hb d_R_stop_22 (by decide) ?_
    obtain ⟨hz13, h⟩ := if_ok h
    obtain ⟨M14, eM14, h⟩ := wr_ok h
    try dsimp only at h
    refine U_put C0 (cR_l ct) w 0 (by decide) rfl rfl inR tyR_ok nmR 11 (by decide) wd_839 rfl (bz_nar hz13) (bz_fit hz13) (Nat.le_of_ble_eq_true rfl) d_R_stop_23 eM14 rfl (fun H locs w => ?_)
    cases h
    exact hret _ _ _ _ d_R_stop_26 w
  · rw [if_neg hc] at h
    cases h
    exact hret _ _ _ _ d_R_stop_13 w
abbrev rm_R_clear : Room := { frames := 0, cells := 0, slots := 0, locals := 0 }
set_option maxHeartbeats 8000000 in
set_option maxRecDepth 100000 in
theorem c_R_clear (l : Launch) (D : va_G) (ct : Nat → ClassId) (q : Nat → Nat) {M Mz : Sto} {rz : Int32} (h : m_R_clear M = some (rz, Mz)) : KV l D ct y_R_clear b_R_clear 1 0 0 0 0 [.ref (q 0)] (wR ct q M) (fun A t => CE D (wR ct q Mz) A t) := by
  refine KV.ofU (by decide) (Nat.le_of_ble_eq_true rfl) ?_
  intro p e s m args below meth c A Q ls C0 hl w hret
  have hx := C0.1
  have hb := C0.2.1
  have hl : lv_has ls 1 [(0, .ref (q 0))] := hl
  unfold m_R_clear at h
  refine lv_aload_n hx hb d_R_clear_0 rfl (lv_at hl 0 rfl) ?_
  refine lv_iconst (v := 0) hx hb d_R_clear_1 (by decide) ?_
  obtain ⟨M4, eM4, h⟩ := wr_ok h
  try dsimp only at h
  refine U_put C0 (cR_l ct) w 0 (by decide) rfl rfl inR tyR_ok nmR 0 (by decide) wd_828 rfl rfl rfl (Nat.le_of_ble_eq_true rfl) d_R_clear_2 eM4 rfl (fun H locs w => ?_)
  refine lv_aload_n hx hb d_R_clear_5 rfl (lv_at hl 0 rfl) ?_
  refine lv_iconst (v := 0) hx hb d_R_clear_6 (by decide) ?_
  obtain ⟨M5, eM5, h⟩ := wr_ok h
  try dsimp only at h
  refine U_put C0 (cR_l ct) w 0 (by decide) rfl rfl inR tyR_ok nmR 1 (by decide) wd_829 rfl rfl rfl (Nat.le_of_ble_eq_true rfl) d_R_clear_7 eM5 rfl (fun H locs w => ?_)
  refine lv_aload_n hx hb d_R_clear_10 rfl (lv_at hl 0 rfl) ?_
  refine lv_iconst (v := 0) hx hb d_R_clear_11 (by decide) ?_
  obtain ⟨hz6, h⟩ := if_ok h
  obtain ⟨M7, eM7, h⟩ := wr_ok h
  try dsimp only at h
  refine U_put C0 (cR_l ct) w 0 (by decide) rfl rfl inR tyR_ok nmR 11 (by decide) wd_839 rfl (bz_nar hz6) (bz_fit hz6) (Nat.le_of_ble_eq_true rfl) d_R_clear_12 eM7 rfl (fun H locs w => ?_)
  cases h
  exact hret _ _ _ _ d_R_clear_15 w
abbrev rm_R_has : Room := { frames := 0, cells := 0, slots := 0, locals := 0 }
set_option maxHeartbeats 8000000 in
set_option maxRecDepth 100000 in
theorem c_R_has (l : Launch) (D : va_G) (ct : Nat → ClassId) (q : Nat → Nat) {x0 x1 : Int32} {M Mz : Sto} {rz : Int32} (h : m_R_has x0 x1 M = some (rz, Mz)) : KI l D ct y_R_has b_R_has 2 (some .boolean) 0 0 [.int x0, .int x1] (wR ct q M) rz (wR ct q Mz) := by
  refine KI.ofU (by decide) (Nat.le_of_ble_eq_true rfl) rfl ?_
  intro p e s m args below meth c A Q ls C0 hl w hret
  have hx := C0.1
  have hb := C0.2.1
  have hl : lv_has ls 2 [(0, .int x0), (1, .int x1)] := hl
  unfold m_R_has at h
  refine lv_iload_n hx hb d_R_has_0 rfl (lv_at hl 0 rfl) ?_
  refine lv_iload_n hx hb d_R_has_1 rfl (lv_at hl 1 rfl) ?_
  refine lv_ishr hx hb d_R_has_2 ?_
  refine lv_iconst (v := 1) hx hb d_R_has_3 (by decide) ?_
  refine lv_iand hx hb d_R_has_4 ?_
  refine lv_iconst (v := 1) hx hb d_R_has_5 (by decide) ?_
  have hJ14 : ∀ (s0 : Int32) (M : Sto) (H : Heap) (locs : List Loc) (ls : Array Slot), lv_has ls 2 [] → Wd D A s (wR ct q M) H locs → j_R_has_14 s0 M = some (rz, Mz) → W p l e rm_R_has s m args below meth c H locs 0 0 Q (F0 m 14 ls [.int s0]) := by
    intro s0 M H locs ls hl w h
    unfold j_R_has_14 at h
    obtain ⟨hz9, h⟩ := if_ok h
    cases h
    exact hret _ _ _ _ d_R_has_14 (bz_nar hz9) w
  refine lv_icmp_ne (tgt := 13) hx hb d_R_has_6 (by decide) (fun hc => ?_) (fun hc => ?_)
  · rw [if_neg hc] at h
    refine lv_iconst (v := 0) hx hb d_R_has_13 (by decide) ?_
    exact hJ14 _ _ _ _ _ (lv_sub hl [] rfl) w h
  · rw [if_pos hc] at h
    refine lv_iconst (v := 1) hx hb d_R_has_9 (by decide) ?_
    refine lv_goto (tgt := 14) hx hb d_R_has_10 (by decide) ?_
    exact hJ14 _ _ _ _ _ (lv_sub hl [] rfl) w h
abbrev rm_R_leadsTo : Room := { frames := 0, cells := 0, slots := 0, locals := 0 }
set_option maxHeartbeats 8000000 in
set_option maxRecDepth 100000 in
theorem c_R_leadsTo (l : Launch) (D : va_G) (ct : Nat → ClassId) (q : Nat → Nat) {x1 : Int32} {M Mz : Sto} {rz : Int32} (h : m_R_leadsTo x1 M = some (rz, Mz)) : KI l D ct y_R_leadsTo b_R_leadsTo 2 (some .int) 0 0 [.ref (q 0), .int x1] (wR ct q M) rz (wR ct q Mz) := by
  refine KI.ofU (by decide) (Nat.le_of_ble_eq_true rfl) rfl ?_
  intro p e s m args below meth c A Q ls C0 hl w hret
  have hx := C0.1
  have hb := C0.2.1
  have hl : lv_has ls 2 [(0, .ref (q 0)), (1, .int x1)] := hl
  unfold m_R_leadsTo at h
  refine lv_aload_n hx hb d_R_leadsTo_0 rfl (lv_at hl 0 rfl) ?_
  refine U_get C0 w 0 (by decide) rfl rfl inR 7 (by decide) wd_835 rfl d_R_leadsTo_1 ?_
  refine lv_iload_n hx hb d_R_leadsTo_4 rfl (lv_at hl 1 rfl) ?_
  obtain ⟨hi1, h⟩ := if_ok h
  refine U_ald C0 w (iR_6 ct) hi1 d_R_leadsTo_5 ?_
  have hJ51 : ∀ (s0 : Int32) (M : Sto) (H : Heap) (locs : List Loc) (ls : Array Slot), lv_has ls 2 [] → Wd D A s (wR ct q M) H locs → j_R_leadsTo_51 s0 M = some (rz, Mz) → W p l e rm_R_leadsTo s m args below meth c H locs 0 0 Q (F0 m 51 ls [.int s0]) := by
    intro s0 M H locs ls hl w h
    unfold j_R_leadsTo_51 at h
    cases h
    exact hret _ _ _ _ d_R_leadsTo_51 rfl w
  refine lv_if_ne (tgt := 13) hx hb d_R_leadsTo_6 (by decide) (fun hc => ?_) (fun hc => ?_)
  · rw [if_neg hc] at h
    refine lv_aload_n hx hb d_R_leadsTo_13 rfl (lv_at hl 0 rfl) ?_
    refine U_get C0 w 0 (by decide) rfl rfl inR 7 (by decide) wd_835 rfl d_R_leadsTo_14 ?_
    refine lv_iload_n hx hb d_R_leadsTo_17 rfl (lv_at hl 1 rfl) ?_
    obtain ⟨hi2, h⟩ := if_ok h
    refine U_ald C0 w (iR_6 ct) hi2 d_R_leadsTo_18 ?_
    refine lv_iconst (v := 1) hx hb d_R_leadsTo_19 (by decide) ?_
    refine lv_icmp_ne (tgt := 34) hx hb d_R_leadsTo_20 (by decide) (fun hc => ?_) (fun hc => ?_)
    · rw [if_neg hc] at h
      refine lv_iconst (v := 1) hx hb d_R_leadsTo_34 (by decide) ?_
      refine lv_aload_n hx hb d_R_leadsTo_35 rfl (lv_at hl 0 rfl) ?_
      refine U_get C0 w 0 (by decide) rfl rfl inR 9 (by decide) wd_837 rfl d_R_leadsTo_36 ?_
      refine lv_iload_n hx hb d_R_leadsTo_39 rfl (lv_at hl 1 rfl) ?_
      obtain ⟨hi3, h⟩ := if_ok h
      refine U_ald C0 w (iR_8 ct) hi3 d_R_leadsTo_40 ?_
      refine lv_ishl hx hb d_R_leadsTo_41 ?_
      refine lv_iconst (v := 1) hx hb d_R_leadsTo_42 (by decide) ?_
      refine lv_aload_n hx hb d_R_leadsTo_43 rfl (lv_at hl 0 rfl) ?_
      refine U_get C0 w 0 (by decide) rfl rfl inR 10 (by decide) wd_838 rfl d_R_leadsTo_44 ?_
      refine lv_iload_n hx hb d_R_leadsTo_47 rfl (lv_at hl 1 rfl) ?_
      obtain ⟨hi4, h⟩ := if_ok h
      refine U_ald C0 w (iR_9 ct) hi4 d_R_leadsTo_48 ?_
      refine lv_ishl hx hb d_R_leadsTo_49 ?_
      refine lv_ior hx hb d_R_leadsTo_50 ?_
      exact hJ51 _ _ _ _ _ (lv_sub hl [] rfl) w h
    · rw [if_pos hc] at h
      refine lv_iconst (v := 1) hx hb d_R_leadsTo_23 (by decide) ?_
      refine lv_aload_n hx hb d_R_leadsTo_24 rfl (lv_at hl 0 rfl) ?_
      refine U_get C0 w 0 (by decide) rfl rfl inR 9 (by decide) wd_837 rfl d_R_leadsTo_25 ?_
      refine lv_iload_n hx hb d_R_leadsTo_28 rfl (lv_at hl 1 rfl) ?_
      obtain ⟨hi5, h⟩ := if_ok h
      refine U_ald C0 w (iR_8 ct) hi5 d_R_leadsTo_29 ?_
      refine lv_ishl hx hb d_R_leadsTo_30 ?_
      refine lv_goto (tgt := 51) hx hb d_R_leadsTo_31 (by decide) ?_
      exact hJ51 _ _ _ _ _ (lv_sub hl [] rfl) w h
  · rw [if_pos hc] at h
    refine lv_iconst (v := 0) hx hb d_R_leadsTo_9 (by decide) ?_
    refine lv_goto (tgt := 51) hx hb d_R_leadsTo_10 (by decide) ?_
    exact hJ51 _ _ _ _ _ (lv_sub hl [] rfl) w h
abbrev rm_R_reaches : Room := { frames := 1, cells := 0, slots := 0, locals := 21 }
set_option maxHeartbeats 8000000 in
set_option maxRecDepth 100000 in
theorem c_R_reaches (l : Launch) (D : va_G) (ct : Nat → ClassId) (q : Nat → Nat) {M Mz : Sto} {rz : Int32} (h : m_R_reaches M = some (rz, Mz)) : KV l D ct y_R_reaches b_R_reaches 3 1 21 0 0 [.ref (q 0)] (wR ct q M) (fun A t => CE D (wR ct q Mz) A t) := by
  refine KV.ofU (by decide) (Nat.le_of_ble_eq_true rfl) ?_
  intro p e s m args below meth c A Q ls C0 hl w hret
  have hx := C0.1
  have hb := C0.2.1
  have hl : lv_has ls 3 [(0, .ref (q 0))] := hl
  unfold m_R_reaches at h
  refine lv_aload_n hx hb d_R_reaches_0 rfl (lv_at hl 0 rfl) ?_
  refine lv_iconst (v := 1) hx hb d_R_reaches_1 (by decide) ?_
  obtain ⟨M10, eM10, h⟩ := wr_ok h
  try dsimp only at h
  refine U_put C0 (cR_l ct) w 0 (by decide) rfl rfl inR tyR_ok nmR 12 (by decide) wd_840 rfl rfl rfl (Nat.le_of_ble_eq_true rfl) d_R_reaches_2 eM10 rfl (fun H locs w => ?_)
  refine lv_iconst (v := 0) hx hb d_R_reaches_5 (by decide) ?_
  refine lv_istore_n hx hb d_R_reaches_6 rfl hl (by decide) rfl (fun ls hl => ?_)
  have hl : lv_has ls 3 [(1, .int 0), (0, .ref (q 0))] := hl
  generalize eK7 : j_R_reaches_60 = K7 at h
  have hE7 : ∀ (M : Sto) (H : Heap) (locs : List Loc) (ls : Array Slot), lv_has ls 3 [(0, .ref (q 0))] → Wd D A s (wR ct q M) H locs → K7 M = some (rz, Mz) → W p l e rm_R_reaches s m args below meth c H locs 0 0 Q (F0 m 60 ls []) := by
    intro M H locs ls hl w h
    rw [← eK7] at h
    unfold j_R_reaches_60 at h
    refine lv_iconst (v := 0) hx hb d_R_reaches_60 (by decide) ?_
    refine lv_istore_n hx hb d_R_reaches_61 rfl hl (by decide) rfl (fun ls hl => ?_)
    have hl : lv_has ls 3 [(1, .int 0), (0, .ref (q 0))] := hl
    generalize eK62 : j_R_reaches_134 = K62 at h
    have hE62 : ∀ (M : Sto) (H : Heap) (locs : List Loc) (ls : Array Slot), lv_has ls 3 [] → Wd D A s (wR ct q M) H locs → K62 M = some (rz, Mz) → W p l e rm_R_reaches s m args below meth c H locs 0 0 Q (F0 m 134 ls []) := by
      intro M H locs ls hl w h
      rw [← eK62] at h
      unfold j_R_reaches_134 at h
      cases h
      exact hret _ _ _ _ d_R_reaches_134 w
    have hL62 : ∀ (n : Nat) (v1 : Int32) (M : Sto) (H : Heap) (locs : List Loc) (ls : Array Slot), lv_has ls 3 [(0, .ref (q 0)), (1, .int v1)] → Wd D A s (wR ct q M) H locs → l_R_reaches_62 K62 n v1 M = some (rz, Mz) → W p l e rm_R_reaches s m args below meth c H locs 0 0 Q (F0 m 62 ls []) := by
      intro n
      induction n with
      | zero => intro v1 M H locs ls hl w h; simp [l_R_reaches_62] at h
      | succ n ih62 =>
        intro v1 M H locs ls hl w h
        unfold l_R_reaches_62 at h
        refine lv_iload_n hx hb d_R_reaches_62 rfl (lv_at hl 1 rfl) ?_
        refine lv_aload_n hx hb d_R_reaches_63 rfl (lv_at hl 0 rfl) ?_
        refine U_get C0 w 0 (by decide) rfl rfl inR 1 (by decide) wd_829 rfl d_R_reaches_64 ?_
        refine lv_icmp_ge (tgt := 134) hx hb d_R_reaches_67 (by decide) (fun hc => ?_) (fun hc => ?_)
        · rw [if_pos hc] at h
          exact hE62 _ _ _ _ (lv_sub hl [] rfl) w h
        · rw [if_neg hc] at h
          refine lv_aload_n hx hb d_R_reaches_70 rfl (lv_at hl 0 rfl) ?_
          refine U_get C0 w 0 (by decide) rfl rfl inR 14 (by decide) wd_842 rfl d_R_reaches_71 ?_
          refine lv_iload_n hx hb d_R_reaches_74 rfl (lv_at hl 1 rfl) ?_
          refine lv_iconst (v := 0) hx hb d_R_reaches_75 (by decide) ?_
          obtain ⟨hi11, h⟩ := if_ok h
          obtain ⟨M12, eM12, h⟩ := wr_ok h
          try dsimp only at h
          refine U_ast C0 (cR_l ct) w (iR_11 ct) hi11 d_R_reaches_76 eM12 (fun H locs w => ?_)
          refine lv_iconst (v := 0) hx hb d_R_reaches_77 (by decide) ?_
          refine lv_istore_n hx hb d_R_reaches_78 rfl hl (by decide) rfl (fun ls hl => ?_)
          have hl : lv_has ls 3 [(2, .int 0), (0, .ref (q 0)), (1, .int v1)] := hl
          generalize eK79 : j_R_reaches_128 (l_R_reaches_62 K62 n) K62 = K79 at h
          have hE79 : ∀ (v1 : Int32) (M : Sto) (H : Heap) (locs : List Loc) (ls : Array Slot), lv_has ls 3 [(0, .ref (q 0)), (1, .int v1)] → Wd D A s (wR ct q M) H locs → K79 v1 M = some (rz, Mz) → W p l e rm_R_reaches s m args below meth c H locs 0 0 Q (F0 m 128 ls []) := by
            intro v1 M H locs ls hl w h
            rw [← eK79] at h
            unfold j_R_reaches_128 at h
            refine lv_iinc (k := 1) (v := v1 + 1) hx hb d_R_reaches_128 hl rfl (inc1 _) (by decide) rfl (fun ls hl => ?_)
            have hl : lv_has ls 3 [(1, .int (v1 + 1)), (0, .ref (q 0))] := hl
            refine lv_goto (tgt := 62) hx hb d_R_reaches_131 (by decide) ?_
            exact ih62 _ _ _ _ _ (lv_sub hl [1, 0] rfl) w h
          have hL79 : ∀ (n : Nat) (v1 v2 : Int32) (M : Sto) (H : Heap) (locs : List Loc) (ls : Array Slot), lv_has ls 3 [(0, .ref (q 0)), (1, .int v1), (2, .int v2)] → Wd D A s (wR ct q M) H locs → l_R_reaches_79 K79 n v1 v2 M = some (rz, Mz) → W p l e rm_R_reaches s m args below meth c H locs 0 0 Q (F0 m 79 ls []) := by
            intro n
            induction n with
            | zero => intro v1 v2 M H locs ls hl w h; simp [l_R_reaches_79] at h
            | succ n ih79 =>
              intro v1 v2 M H locs ls hl w h
              unfold l_R_reaches_79 at h
              refine lv_iload_n hx hb d_R_reaches_79 rfl (lv_at hl 2 rfl) ?_
              refine lv_aload_n hx hb d_R_reaches_80 rfl (lv_at hl 0 rfl) ?_
              refine U_get C0 w 0 (by decide) rfl rfl inR 1 (by decide) wd_829 rfl d_R_reaches_81 ?_
              refine lv_icmp_ge (tgt := 128) hx hb d_R_reaches_84 (by decide) (fun hc => ?_) (fun hc => ?_)
              · rw [if_pos hc] at h
                exact hE79 _ _ _ _ _ (lv_sub hl [0, 1] rfl) w h
              · rw [if_neg hc] at h
                refine lv_aload_n hx hb d_R_reaches_87 rfl (lv_at hl 0 rfl) ?_
                refine U_get C0 w 0 (by decide) rfl rfl inR 12 (by decide) wd_840 rfl d_R_reaches_88 ?_
                refine lv_iload_n hx hb d_R_reaches_91 rfl (lv_at hl 2 rfl) ?_
                obtain ⟨r13, M14, hc15, h⟩ := bind_ok h
                try dsimp only at h
                refine U_si (rest := []) C0 w (c_R_has l D ct q hc15) wd_1014 wd_1012 wd_1013 wd_8 (n9 := 2) (by decide +kernel) rfl ⟨(Nat.le_of_ble_eq_true rfl), (Nat.le_of_ble_eq_true rfl)⟩ hl.1 rfl (Nat.le_of_ble_eq_true rfl) d_R_reaches_92 (Nat.le_of_ble_eq_true rfl) (Nat.le_of_ble_eq_true rfl) (fun H locs w => ?_)
                have hJ122 : ∀ (v1 v2 : Int32) (M : Sto) (H : Heap) (locs : List Loc) (ls : Array Slot), lv_has ls 3 [(0, .ref (q 0)), (1, .int v1), (2, .int v2)] → Wd D A s (wR ct q M) H locs → j_R_reaches_122 (l_R_reaches_79 K79 n) K79 v1 v2 M = some (rz, Mz) → W p l e rm_R_reaches s m args below meth c H locs 0 0 Q (F0 m 122 ls []) := by
                  intro v1 v2 M H locs ls hl w h
                  unfold j_R_reaches_122 at h
                  refine lv_iinc (k := 2) (v := v2 + 1) hx hb d_R_reaches_122 hl rfl (inc1 _) (by decide) rfl (fun ls hl => ?_)
                  have hl : lv_has ls 3 [(2, .int (v2 + 1)), (0, .ref (q 0)), (1, .int v1)] := hl
                  refine lv_goto (tgt := 79) hx hb d_R_reaches_125 (by decide) ?_
                  exact ih79 _ _ _ _ _ _ (lv_sub hl [1, 2, 0] rfl) w h
                refine lv_if_eq (tgt := 122) hx hb d_R_reaches_95 (by decide) (fun hc => ?_) (fun hc => ?_)
                · rw [if_pos hc] at h
                  exact hJ122 _ _ _ _ _ _ (lv_sub hl [0, 1, 2] rfl) w h
                · rw [if_neg hc] at h
                  refine lv_aload_n hx hb d_R_reaches_98 rfl (lv_at hl 0 rfl) ?_
                  refine lv_iload_n hx hb d_R_reaches_99 rfl (lv_at hl 2 rfl) ?_
                  obtain ⟨r16, M17, hc18, h⟩ := bind_ok h
                  try dsimp only at h
                  refine U_vi (rest := []) C0 w 0 (wU_at (by decide)) rfl (c_R_leadsTo l D ct q hc18) wd_1018 wd_1015 wd_1017 ws_38 wd_8 (n9 := 1) (by decide +kernel) rfl ⟨(Nat.le_of_ble_eq_true rfl), (Nat.le_of_ble_eq_true rfl)⟩ hl.1 rfl (Nat.le_of_ble_eq_true rfl) d_R_reaches_100 (Nat.le_of_ble_eq_true rfl) (Nat.le_of_ble_eq_true rfl) (fun H locs w => ?_)
                  refine lv_iload_n hx hb d_R_reaches_103 rfl (lv_at hl 1 rfl) ?_
                  obtain ⟨r19, M20, hc21, h⟩ := bind_ok h
                  try dsimp only at h
                  refine U_si (rest := []) C0 w (c_R_has l D ct q hc21) wd_1014 wd_1012 wd_1013 wd_8 (n9 := 2) (by decide +kernel) rfl ⟨(Nat.le_of_ble_eq_true rfl), (Nat.le_of_ble_eq_true rfl)⟩ hl.1 rfl (Nat.le_of_ble_eq_true rfl) d_R_reaches_104 (Nat.le_of_ble_eq_true rfl) (Nat.le_of_ble_eq_true rfl) (fun H locs w => ?_)
                  refine lv_if_eq (tgt := 122) hx hb d_R_reaches_107 (by decide) (fun hc => ?_) (fun hc => ?_)
                  · rw [if_pos hc] at h
                    exact hJ122 _ _ _ _ _ _ (lv_sub hl [0, 1, 2] rfl) w h
                  · rw [if_neg hc] at h
                    refine lv_aload_n hx hb d_R_reaches_110 rfl (lv_at hl 0 rfl) ?_
                    refine U_get C0 w 0 (by decide) rfl rfl inR 14 (by decide) wd_842 rfl d_R_reaches_111 ?_
                    refine lv_iload_n hx hb d_R_reaches_114 rfl (lv_at hl 1 rfl) ?_
                    refine lv_dup2_11 hx hb d_R_reaches_115 rfl rfl ?_
                    obtain ⟨hi22, h⟩ := if_ok h
                    refine U_ald C0 w (iR_11 ct) hi22 d_R_reaches_116 ?_
                    refine lv_iconst (v := 1) hx hb d_R_reaches_117 (by decide) ?_
                    refine lv_iload_n hx hb d_R_reaches_118 rfl (lv_at hl 2 rfl) ?_
                    refine lv_ishl hx hb d_R_reaches_119 ?_
                    refine lv_ior hx hb d_R_reaches_120 ?_
                    obtain ⟨hi23, h⟩ := if_ok h
                    obtain ⟨M24, eM24, h⟩ := wr_ok h
                    try dsimp only at h
                    refine U_ast C0 (cR_l ct) w (iR_11 ct) hi23 d_R_reaches_121 eM24 (fun H locs w => ?_)
                    exact hJ122 _ _ _ _ _ _ (lv_sub hl [0, 1, 2] rfl) w h
          exact hL79 FU _ _ _ _ _ _ (lv_sub hl [1, 2, 0] rfl) w h
    exact hL62 FU _ _ _ _ _ (lv_sub hl [1, 0] rfl) w h
  have hL7 : ∀ (n : Nat) (v1 : Int32) (M : Sto) (H : Heap) (locs : List Loc) (ls : Array Slot), lv_has ls 3 [(0, .ref (q 0)), (1, .int v1)] → Wd D A s (wR ct q M) H locs → l_R_reaches_7 K7 n v1 M = some (rz, Mz) → W p l e rm_R_reaches s m args below meth c H locs 0 0 Q (F0 m 7 ls []) := by
    intro n
    induction n with
    | zero => intro v1 M H locs ls hl w h; simp [l_R_reaches_7] at h
    | succ n ih7 =>
      intro v1 M H locs ls hl w h
      unfold l_R_reaches_7 at h
      refine lv_iload_n hx hb d_R_reaches_7 rfl (lv_at hl 1 rfl) ?_
      refine lv_bipush (v := 10) hx hb d_R_reaches_8 (by decide) ?_
      refine lv_icmp_ge (tgt := 60) hx hb d_R_reaches_10 (by decide) (fun hc => ?_) (fun hc => ?_)
      · rw [if_pos hc] at h
        exact hE7 _ _ _ _ (lv_sub hl [0] rfl) w h
      · rw [if_neg hc] at h
        refine lv_iconst (v := 0) hx hb d_R_reaches_13 (by decide) ?_
        refine lv_istore_n hx hb d_R_reaches_14 rfl hl (by decide) rfl (fun ls hl => ?_)
        have hl : lv_has ls 3 [(2, .int 0), (0, .ref (q 0)), (1, .int v1)] := hl
        generalize eK15 : j_R_reaches_54 (l_R_reaches_7 K7 n) K7 = K15 at h
        have hE15 : ∀ (v1 : Int32) (M : Sto) (H : Heap) (locs : List Loc) (ls : Array Slot), lv_has ls 3 [(0, .ref (q 0)), (1, .int v1)] → Wd D A s (wR ct q M) H locs → K15 v1 M = some (rz, Mz) → W p l e rm_R_reaches s m args below meth c H locs 0 0 Q (F0 m 54 ls []) := by
          intro v1 M H locs ls hl w h
          rw [← eK15] at h
          unfold j_R_reaches_54 at h
          refine lv_iinc (k := 1) (v := v1 + 1) hx hb d_R_reaches_54 hl rfl (inc1 _) (by decide) rfl (fun ls hl => ?_)
          have hl : lv_has ls 3 [(1, .int (v1 + 1)), (0, .ref (q 0))] := hl
          refine lv_goto (tgt := 7) hx hb d_R_reaches_57 (by decide) ?_
          exact ih7 _ _ _ _ _ (lv_sub hl [1, 0] rfl) w h
        have hL15 : ∀ (n : Nat) (v1 v2 : Int32) (M : Sto) (H : Heap) (locs : List Loc) (ls : Array Slot), lv_has ls 3 [(0, .ref (q 0)), (1, .int v1), (2, .int v2)] → Wd D A s (wR ct q M) H locs → l_R_reaches_15 K15 n v1 v2 M = some (rz, Mz) → W p l e rm_R_reaches s m args below meth c H locs 0 0 Q (F0 m 15 ls []) := by
          intro n
          induction n with
          | zero => intro v1 v2 M H locs ls hl w h; simp [l_R_reaches_15] at h
          | succ n ih15 =>
            intro v1 v2 M H locs ls hl w h
            unfold l_R_reaches_15 at h
            refine lv_iload_n hx hb d_R_reaches_15 rfl (lv_at hl 2 rfl) ?_
            refine lv_aload_n hx hb d_R_reaches_16 rfl (lv_at hl 0 rfl) ?_
            refine U_get C0 w 0 (by decide) rfl rfl inR 1 (by decide) wd_829 rfl d_R_reaches_17 ?_
            refine lv_icmp_ge (tgt := 54) hx hb d_R_reaches_20 (by decide) (fun hc => ?_) (fun hc => ?_)
            · rw [if_pos hc] at h
              exact hE15 _ _ _ _ _ (lv_sub hl [0, 1] rfl) w h
            · rw [if_neg hc] at h
              refine lv_aload_n hx hb d_R_reaches_23 rfl (lv_at hl 0 rfl) ?_
              refine U_get C0 w 0 (by decide) rfl rfl inR 12 (by decide) wd_840 rfl d_R_reaches_24 ?_
              refine lv_iload_n hx hb d_R_reaches_27 rfl (lv_at hl 2 rfl) ?_
              obtain ⟨r25, M26, hc27, h⟩ := bind_ok h
              try dsimp only at h
              refine U_si (rest := []) C0 w (c_R_has l D ct q hc27) wd_1014 wd_1012 wd_1013 wd_8 (n9 := 2) (by decide +kernel) rfl ⟨(Nat.le_of_ble_eq_true rfl), (Nat.le_of_ble_eq_true rfl)⟩ hl.1 rfl (Nat.le_of_ble_eq_true rfl) d_R_reaches_28 (Nat.le_of_ble_eq_true rfl) (Nat.le_of_ble_eq_true rfl) (fun H locs w => ?_)
              have hJ48 : ∀ (v1 v2 : Int32) (M : Sto) (H : Heap) (locs : List Loc) (ls : Array Slot), lv_has ls 3 [(0, .ref (q 0)), (1, .int v1), (2, .int v2)] → Wd D A s (wR ct q M) H locs → j_R_reaches_48 (l_R_reaches_15 K15 n) K15 v1 v2 M = some (rz, Mz) → W p l e rm_R_reaches s m args below meth c H locs 0 0 Q (F0 m 48 ls []) := by
                intro v1 v2 M H locs ls hl w h
                unfold j_R_reaches_48 at h
                refine lv_iinc (k := 2) (v := v2 + 1) hx hb d_R_reaches_48 hl rfl (inc1 _) (by decide) rfl (fun ls hl => ?_)
                have hl : lv_has ls 3 [(2, .int (v2 + 1)), (0, .ref (q 0)), (1, .int v1)] := hl
                refine lv_goto (tgt := 15) hx hb d_R_reaches_51 (by decide) ?_
                exact ih15 _ _ _ _ _ _ (lv_sub hl [1, 2, 0] rfl) w h
              refine lv_if_eq (tgt := 48) hx hb d_R_reaches_31 (by decide) (fun hc => ?_) (fun hc => ?_)
              · rw [if_pos hc] at h
                exact hJ48 _ _ _ _ _ _ (lv_sub hl [0, 1, 2] rfl) w h
              · rw [if_neg hc] at h
                refine lv_aload_n hx hb d_R_reaches_34 rfl (lv_at hl 0 rfl) ?_
                refine lv_dup hx hb d_R_reaches_35 rfl ?_
                refine U_get C0 w 0 (by decide) rfl rfl inR 12 (by decide) wd_840 rfl d_R_reaches_36 ?_
                refine lv_aload_n hx hb d_R_reaches_39 rfl (lv_at hl 0 rfl) ?_
                refine lv_iload_n hx hb d_R_reaches_40 rfl (lv_at hl 2 rfl) ?_
                obtain ⟨r28, M29, hc30, h⟩ := bind_ok h
                try dsimp only at h
                refine U_vi (rest := [.int (M26 0 12), .ref (q 0)]) C0 w 0 (wU_at (by decide)) rfl (c_R_leadsTo l D ct q hc30) wd_1018 wd_1015 wd_1017 ws_38 wd_8 (n9 := 1) (by decide +kernel) rfl ⟨(Nat.le_of_ble_eq_true rfl), (Nat.le_of_ble_eq_true rfl)⟩ hl.1 rfl (Nat.le_of_ble_eq_true rfl) d_R_reaches_41 (Nat.le_of_ble_eq_true rfl) (Nat.le_of_ble_eq_true rfl) (fun H locs w => ?_)
                refine lv_ior hx hb d_R_reaches_44 ?_
                obtain ⟨M31, eM31, h⟩ := wr_ok h
                try dsimp only at h
                refine U_put C0 (cR_l ct) w 0 (by decide) rfl rfl inR tyR_ok nmR 12 (by decide) wd_840 rfl rfl rfl (Nat.le_of_ble_eq_true rfl) d_R_reaches_45 eM31 rfl (fun H locs w => ?_)
                exact hJ48 _ _ _ _ _ _ (lv_sub hl [0, 1, 2] rfl) w h
        exact hL15 FU _ _ _ _ _ _ (lv_sub hl [1, 2, 0] rfl) w h
  exact hL7 FU _ _ _ _ _ (lv_sub hl [1, 0] rfl) w h
abbrev rm_R_ones : Room := { frames := 0, cells := 0, slots := 0, locals := 0 }
set_option maxHeartbeats 8000000 in
set_option maxRecDepth 100000 in
theorem c_R_ones (l : Launch) (D : va_G) (ct : Nat → ClassId) (q : Nat → Nat) {x0 : Int32} {M Mz : Sto} {rz : Int32} (h : m_R_ones x0 M = some (rz, Mz)) : KI l D ct y_R_ones b_R_ones 3 (some .int) 0 0 [.int x0] (wR ct q M) rz (wR ct q Mz) := by
  refine KI.ofU (by decide) (Nat.le_of_ble_eq_true rfl) rfl ?_
  intro p e s m args below meth c A Q ls C0 hl w hret
  have hx := C0.1
  have hb := C0.2.1
  have hl : lv_has ls 3 [(0, .int x0)] := hl
  unfold m_R_ones at h
  refine lv_iconst (v := 0) hx hb d_R_ones_0 (by decide) ?_
  refine lv_istore_n hx hb d_R_ones_1 rfl hl (by decide) rfl (fun ls hl => ?_)
  have hl : lv_has ls 3 [(1, .int 0), (0, .int x0)] := hl
  refine lv_iconst (v := 0) hx hb d_R_ones_2 (by decide) ?_
  refine lv_istore_n hx hb d_R_ones_3 rfl hl (by decide) rfl (fun ls hl => ?_)
  have hl : lv_has ls 3 [(2, .int 0), (1, .int 0), (0, .int x0)] := hl
  generalize eK4 : j_R_ones_24 = K4 at h
  have hE4 : ∀ (v1 : Int32) (M : Sto) (H : Heap) (locs : List Loc) (ls : Array Slot), lv_has ls 3 [(1, .int v1)] → Wd D A s (wR ct q M) H locs → K4 v1 M = some (rz, Mz) → W p l e rm_R_ones s m args below meth c H locs 0 0 Q (F0 m 24 ls []) := by
    intro v1 M H locs ls hl w h
    rw [← eK4] at h
    unfold j_R_ones_24 at h
    refine lv_iload_n hx hb d_R_ones_24 rfl (lv_at hl 0 rfl) ?_
    cases h
    exact hret _ _ _ _ d_R_ones_25 rfl w
  have hL4 : ∀ (n : Nat) (v0 v1 v2 : Int32) (M : Sto) (H : Heap) (locs : List Loc) (ls : Array Slot), lv_has ls 3 [(0, .int v0), (1, .int v1), (2, .int v2)] → Wd D A s (wR ct q M) H locs → l_R_ones_4 K4 n v0 v1 v2 M = some (rz, Mz) → W p l e rm_R_ones s m args below meth c H locs 0 0 Q (F0 m 4 ls []) := by
    intro n
    induction n with
    | zero => intro v0 v1 v2 M H locs ls hl w h; simp [l_R_ones_4] at h
    | succ n ih4 =>
      intro v0 v1 v2 M H locs ls hl w h
      unfold l_R_ones_4 at h
      refine lv_iload_n hx hb d_R_ones_4 rfl (lv_at hl 2 rfl) ?_
      refine lv_bipush (v := 10) hx hb d_R_ones_5 (by decide) ?_
      refine lv_icmp_ge (tgt := 24) hx hb d_R_ones_7 (by decide) (fun hc => ?_) (fun hc => ?_)
      · rw [if_pos hc] at h
        exact hE4 _ _ _ _ _ (lv_sub hl [1] rfl) w h
      · rw [if_neg hc] at h
        refine lv_iload_n hx hb d_R_ones_10 rfl (lv_at hl 1 rfl) ?_
        refine lv_iload_n hx hb d_R_ones_11 rfl (lv_at hl 0 rfl) ?_
        refine lv_iload_n hx hb d_R_ones_12 rfl (lv_at hl 2 rfl) ?_
        refine lv_ishr hx hb d_R_ones_13 ?_
        refine lv_iconst (v := 1) hx hb d_R_ones_14 (by decide) ?_
        refine lv_iand hx hb d_R_ones_15 ?_
        refine lv_iadd hx hb d_R_ones_16 ?_
        refine lv_istore_n hx hb d_R_ones_17 rfl hl (by decide) rfl (fun ls hl => ?_)
        have hl : lv_has ls 3 [(1, .int (v1 + ((v0 >>> (v2 &&& 31)) &&& 1))), (0, .int v0), (2, .int v2)] := hl
        refine lv_iinc (k := 2) (v := v2 + 1) hx hb d_R_ones_18 hl rfl (inc1 _) (by decide) rfl (fun ls hl => ?_)
        have hl : lv_has ls 3 [(2, .int (v2 + 1)), (1, .int (v1 + ((v0 >>> (v2 &&& 31)) &&& 1))), (0, .int v0)] := hl
        refine lv_goto (tgt := 4) hx hb d_R_ones_21 (by decide) ?_
        exact ih4 _ _ _ _ _ _ _ (lv_sub hl [2, 1, 0] rfl) w h
  exact hL4 FU _ _ _ _ _ _ _ (lv_sub hl [2, 1, 0] rfl) w h
end
section
abbrev rm_R_dominates : Room := { frames := 1, cells := 0, slots := 0, locals := 22 }
set_option maxHeartbeats 8000000 in
set_option maxRecDepth 100000 in
theorem c_R_dominates (l : Launch) (D : va_G) (ct : Nat → ClassId) (q : Nat → Nat) {M Mz : Sto} {rz : Int32} (h : m_R_dominates M = some (rz, Mz)) : KV l D ct y_R_dominates b_R_dominates 5 1 22 0 0 [.ref (q 0)] (wR ct q M) (fun A t => CE D (wR ct q Mz) A t) := by
  refine KV.ofU (by decide) (Nat.le_of_ble_eq_true rfl) ?_
  intro p e s m args below meth c A Q ls C0 hl w hret
  have hx := C0.1
  have hb := C0.2.1
  have hl : lv_has ls 5 [(0, .ref (q 0))] := hl
  unfold m_R_dominates at h
  refine lv_iconst (v := 0) hx hb d_R_dominates_0 (by decide) ?_
  refine lv_istore_n hx hb d_R_dominates_1 rfl hl (by decide) rfl (fun ls hl => ?_)
  have hl : lv_has ls 5 [(1, .int 0), (0, .ref (q 0))] := hl
  generalize eK2 : j_R_dominates_34 = K2 at h
  have hE2 : ∀ (M : Sto) (H : Heap) (locs : List Loc) (ls : Array Slot), lv_has ls 5 [(0, .ref (q 0))] → Wd D A s (wR ct q M) H locs → K2 M = some (rz, Mz) → W p l e rm_R_dominates s m args below meth c H locs 0 0 Q (F0 m 34 ls []) := by
    intro M H locs ls hl w h
    rw [← eK2] at h
    unfold j_R_dominates_34 at h
    refine lv_iconst (v := 0) hx hb d_R_dominates_34 (by decide) ?_
    refine lv_istore_n hx hb d_R_dominates_35 rfl hl (by decide) rfl (fun ls hl => ?_)
    have hl : lv_has ls 5 [(1, .int 0), (0, .ref (q 0))] := hl
    generalize eK36 : j_R_dominates_136 = K36 at h
    have hE36 : ∀ (M : Sto) (H : Heap) (locs : List Loc) (ls : Array Slot), lv_has ls 5 [(0, .ref (q 0))] → Wd D A s (wR ct q M) H locs → K36 M = some (rz, Mz) → W p l e rm_R_dominates s m args below meth c H locs 0 0 Q (F0 m 136 ls []) := by
      intro M H locs ls hl w h
      rw [← eK36] at h
      unfold j_R_dominates_136 at h
      refine lv_iconst (v := 0) hx hb d_R_dominates_136 (by decide) ?_
      refine lv_istore_n hx hb d_R_dominates_137 rfl hl (by decide) rfl (fun ls hl => ?_)
      have hl : lv_has ls 5 [(1, .int 0), (0, .ref (q 0))] := hl
      generalize eK138 : j_R_dominates_250 = K138 at h
      have hE138 : ∀ (M : Sto) (H : Heap) (locs : List Loc) (ls : Array Slot), lv_has ls 5 [] → Wd D A s (wR ct q M) H locs → K138 M = some (rz, Mz) → W p l e rm_R_dominates s m args below meth c H locs 0 0 Q (F0 m 250 ls []) := by
        intro M H locs ls hl w h
        rw [← eK138] at h
        unfold j_R_dominates_250 at h
        cases h
        exact hret _ _ _ _ d_R_dominates_250 w
      have hL138 : ∀ (n : Nat) (v1 : Int32) (M : Sto) (H : Heap) (locs : List Loc) (ls : Array Slot), lv_has ls 5 [(0, .ref (q 0)), (1, .int v1)] → Wd D A s (wR ct q M) H locs → l_R_dominates_138 K138 n v1 M = some (rz, Mz) → W p l e rm_R_dominates s m args below meth c H locs 0 0 Q (F0 m 138 ls []) := by
        intro n
        induction n with
        | zero => intro v1 M H locs ls hl w h; simp [l_R_dominates_138] at h
        | succ n ih138 =>
          intro v1 M H locs ls hl w h
          unfold l_R_dominates_138 at h
          refine lv_iload_n hx hb d_R_dominates_138 rfl (lv_at hl 1 rfl) ?_
          refine lv_aload_n hx hb d_R_dominates_139 rfl (lv_at hl 0 rfl) ?_
          refine U_get C0 w 0 (by decide) rfl rfl inR 1 (by decide) wd_829 rfl d_R_dominates_140 ?_
          refine lv_icmp_ge (tgt := 250) hx hb d_R_dominates_143 (by decide) (fun hc => ?_) (fun hc => ?_)
          · rw [if_pos hc] at h
            exact hE138 _ _ _ _ (lv_sub hl [] rfl) w h
          · rw [if_neg hc] at h
            refine lv_aload_n hx hb d_R_dominates_146 rfl (lv_at hl 0 rfl) ?_
            refine U_get C0 w 0 (by decide) rfl rfl inR 15 (by decide) wd_843 rfl d_R_dominates_147 ?_
            refine lv_iload_n hx hb d_R_dominates_150 rfl (lv_at hl 1 rfl) ?_
            refine lv_iconst (v := (-1)) hx hb d_R_dominates_151 (by decide) ?_
            obtain ⟨hi11, h⟩ := if_ok h
            obtain ⟨M12, eM12, h⟩ := wr_ok h
            try dsimp only at h
            refine U_ast C0 (cR_l ct) w (iR_12 ct) hi11 d_R_dominates_152 eM12 (fun H locs w => ?_)
            refine lv_iconst (v := 0) hx hb d_R_dominates_153 (by decide) ?_
            refine lv_istore_n hx hb d_R_dominates_154 rfl hl (by decide) rfl (fun ls hl => ?_)
            have hl : lv_has ls 5 [(2, .int 0), (0, .ref (q 0)), (1, .int v1)] := hl
            generalize eK155 : j_R_dominates_244 (l_R_dominates_138 K138 n) K138 = K155 at h
            have hE155 : ∀ (v1 : Int32) (M : Sto) (H : Heap) (locs : List Loc) (ls : Array Slot), lv_has ls 5 [(0, .ref (q 0)), (1, .int v1)] → Wd D A s (wR ct q M) H locs → K155 v1 M = some (rz, Mz) → W p l e rm_R_dominates s m args below meth c H locs 0 0 Q (F0 m 244 ls []) := by
              intro v1 M H locs ls hl w h
              rw [← eK155] at h
              unfold j_R_dominates_244 at h
              refine lv_iinc (k := 1) (v := v1 + 1) hx hb d_R_dominates_244 hl rfl (inc1 _) (by decide) rfl (fun ls hl => ?_)
              have hl : lv_has ls 5 [(1, .int (v1 + 1)), (0, .ref (q 0))] := hl
              refine lv_goto (tgt := 138) hx hb d_R_dominates_247 (by decide) ?_
              exact ih138 _ _ _ _ _ (lv_sub hl [1, 0] rfl) w h
            have hL155 : ∀ (n : Nat) (v1 v2 : Int32) (M : Sto) (H : Heap) (locs : List Loc) (ls : Array Slot), lv_has ls 5 [(0, .ref (q 0)), (1, .int v1), (2, .int v2)] → Wd D A s (wR ct q M) H locs → l_R_dominates_155 K155 n v1 v2 M = some (rz, Mz) → W p l e rm_R_dominates s m args below meth c H locs 0 0 Q (F0 m 155 ls []) := by
              intro n
              induction n with
              | zero => intro v1 v2 M H locs ls hl w h; simp [l_R_dominates_155] at h
              | succ n ih155 =>
                intro v1 v2 M H locs ls hl w h
                unfold l_R_dominates_155 at h
                refine lv_iload_n hx hb d_R_dominates_155 rfl (lv_at hl 2 rfl) ?_
                refine lv_aload_n hx hb d_R_dominates_156 rfl (lv_at hl 0 rfl) ?_
                refine U_get C0 w 0 (by decide) rfl rfl inR 1 (by decide) wd_829 rfl d_R_dominates_157 ?_
                refine lv_icmp_ge (tgt := 244) hx hb d_R_dominates_160 (by decide) (fun hc => ?_) (fun hc => ?_)
                · rw [if_pos hc] at h
                  exact hE155 _ _ _ _ _ (lv_sub hl [0, 1] rfl) w h
                · rw [if_neg hc] at h
                  refine lv_iload_n hx hb d_R_dominates_163 rfl (lv_at hl 1 rfl) ?_
                  have hJ238 : ∀ (v1 v2 : Int32) (M : Sto) (H : Heap) (locs : List Loc) (ls : Array Slot), lv_has ls 5 [(0, .ref (q 0)), (1, .int v1), (2, .int v2)] → Wd D A s (wR ct q M) H locs → j_R_dominates_238 (l_R_dominates_155 K155 n) K155 v1 v2 M = some (rz, Mz) → W p l e rm_R_dominates s m args below meth c H locs 0 0 Q (F0 m 238 ls []) := by
                    intro v1 v2 M H locs ls hl w h
                    unfold j_R_dominates_238 at h
                    refine lv_iinc (k := 2) (v := v2 + 1) hx hb d_R_dominates_238 hl rfl (inc1 _) (by decide) rfl (fun ls hl => ?_)
                    have hl : lv_has ls 5 [(2, .int (v2 + 1)), (0, .ref (q 0)), (1, .int v1)] := hl
                    refine lv_goto (tgt := 155) hx hb d_R_dominates_241 (by decide) ?_
                    exact ih155 _ _ _ _ _ _ (lv_sub hl [1, 2, 0] rfl) w h
                  refine lv_if_le (tgt := 238) hx hb d_R_dominates_164 (by decide) (fun hc => ?_) (fun hc => ?_)
                  · rw [if_pos hc] at h
                    exact hJ238 _ _ _ _ _ _ (lv_sub hl [0, 1, 2] rfl) w h
                  · rw [if_neg hc] at h
                    refine lv_aload_n hx hb d_R_dominates_167 rfl (lv_at hl 0 rfl) ?_
                    refine U_get C0 w 0 (by decide) rfl rfl inR 12 (by decide) wd_840 rfl d_R_dominates_168 ?_
                    refine lv_iload_n hx hb d_R_dominates_171 rfl (lv_at hl 1 rfl) ?_
                    obtain ⟨r13, M14, hc15, h⟩ := bind_ok h
                    try dsimp only at h
                    refine U_si (rest := []) C0 w (c_R_has l D ct q hc15) wd_1014 wd_1012 wd_1013 wd_8 (n9 := 2) (by decide +kernel) rfl ⟨(Nat.le_of_ble_eq_true rfl), (Nat.le_of_ble_eq_true rfl)⟩ hl.1 rfl (Nat.le_of_ble_eq_true rfl) d_R_dominates_172 (Nat.le_of_ble_eq_true rfl) (Nat.le_of_ble_eq_true rfl) (fun H locs w => ?_)
                    refine lv_if_eq (tgt := 238) hx hb d_R_dominates_175 (by decide) (fun hc => ?_) (fun hc => ?_)
                    · rw [if_pos hc] at h
                      exact hJ238 _ _ _ _ _ _ (lv_sub hl [0, 1, 2] rfl) w h
                    · rw [if_neg hc] at h
                      refine lv_iload_n hx hb d_R_dominates_178 rfl (lv_at hl 2 rfl) ?_
                      refine lv_iload_n hx hb d_R_dominates_179 rfl (lv_at hl 1 rfl) ?_
                      refine lv_icmp_eq (tgt := 238) hx hb d_R_dominates_180 (by decide) (fun hc => ?_) (fun hc => ?_)
                      · rw [if_pos hc] at h
                        exact hJ238 _ _ _ _ _ _ (lv_sub hl [0, 1, 2] rfl) w h
                      · rw [if_neg hc] at h
                        refine lv_aload_n hx hb d_R_dominates_183 rfl (lv_at hl 0 rfl) ?_
                        refine U_get C0 w 0 (by decide) rfl rfl inR 13 (by decide) wd_841 rfl d_R_dominates_184 ?_
                        refine lv_iload_n hx hb d_R_dominates_187 rfl (lv_at hl 1 rfl) ?_
                        obtain ⟨hi16, h⟩ := if_ok h
                        refine U_ald C0 w (iR_10 ct) hi16 d_R_dominates_188 ?_
                        refine lv_iload_n hx hb d_R_dominates_189 rfl (lv_at hl 2 rfl) ?_
                        obtain ⟨r17, M18, hc19, h⟩ := bind_ok h
                        try dsimp only at h
                        refine U_si (rest := []) C0 w (c_R_has l D ct q hc19) wd_1014 wd_1012 wd_1013 wd_8 (n9 := 2) (by decide +kernel) rfl ⟨(Nat.le_of_ble_eq_true rfl), (Nat.le_of_ble_eq_true rfl)⟩ hl.1 rfl (Nat.le_of_ble_eq_true rfl) d_R_dominates_190 (Nat.le_of_ble_eq_true rfl) (Nat.le_of_ble_eq_true rfl) (fun H locs w => ?_)
                        refine lv_if_eq (tgt := 238) hx hb d_R_dominates_193 (by decide) (fun hc => ?_) (fun hc => ?_)
                        · rw [if_pos hc] at h
                          exact hJ238 _ _ _ _ _ _ (lv_sub hl [0, 1, 2] rfl) w h
                        · rw [if_neg hc] at h
                          refine lv_aload_n hx hb d_R_dominates_196 rfl (lv_at hl 0 rfl) ?_
                          refine U_get C0 w 0 (by decide) rfl rfl inR 15 (by decide) wd_843 rfl d_R_dominates_197 ?_
                          refine lv_iload_n hx hb d_R_dominates_200 rfl (lv_at hl 1 rfl) ?_
                          obtain ⟨hi20, h⟩ := if_ok h
                          refine U_ald C0 w (iR_12 ct) hi20 d_R_dominates_201 ?_
                          have hJ231 : ∀ (v1 v2 : Int32) (M : Sto) (H : Heap) (locs : List Loc) (ls : Array Slot), lv_has ls 5 [(0, .ref (q 0)), (1, .int v1), (2, .int v2)] → Wd D A s (wR ct q M) H locs → j_R_dominates_231 (l_R_dominates_155 K155 n) K155 v1 v2 M = some (rz, Mz) → W p l e rm_R_dominates s m args below meth c H locs 0 0 Q (F0 m 231 ls []) := by
                            intro v1 v2 M H locs ls hl w h
                            unfold j_R_dominates_231 at h
                            refine lv_aload_n hx hb d_R_dominates_231 rfl (lv_at hl 0 rfl) ?_
                            refine U_get C0 w 0 (by decide) rfl rfl inR 15 (by decide) wd_843 rfl d_R_dominates_232 ?_
                            refine lv_iload_n hx hb d_R_dominates_235 rfl (lv_at hl 1 rfl) ?_
                            refine lv_iload_n hx hb d_R_dominates_236 rfl (lv_at hl 2 rfl) ?_
                            obtain ⟨hi21, h⟩ := if_ok h
                            obtain ⟨M22, eM22, h⟩ := wr_ok h
                            try dsimp only at h
                            refine U_ast C0 (cR_l ct) w (iR_12 ct) hi21 d_R_dominates_237 eM22 (fun H locs w => ?_)
                            exact hJ238 _ _ _ _ _ _ (lv_sub hl [0, 1, 2] rfl) w h
                          refine lv_if_lt (tgt := 231) hx hb d_R_dominates_202 (by decide) (fun hc => ?_) (fun hc => ?_)
                          · rw [if_pos hc] at h
                            exact hJ231 _ _ _ _ _ _ (lv_sub hl [0, 1, 2] rfl) w h
                          · rw [if_neg hc] at h
                            refine lv_aload_n hx hb d_R_dominates_205 rfl (lv_at hl 0 rfl) ?_
                            refine U_get C0 w 0 (by decide) rfl rfl inR 13 (by decide) wd_841 rfl d_R_dominates_206 ?_
                            refine lv_iload_n hx hb d_R_dominates_209 rfl (lv_at hl 2 rfl) ?_
                            obtain ⟨hi23, h⟩ := if_ok h
                            refine U_ald C0 w (iR_10 ct) hi23 d_R_dominates_210 ?_
                            obtain ⟨r24, M25, hc26, h⟩ := bind_ok h
                            try dsimp only at h
                            refine U_si (rest := []) C0 w (c_R_ones l D ct q hc26) wd_1025 wd_1023 wd_1024 wd_8 (n9 := 1) (by decide +kernel) rfl ⟨(Nat.le_of_ble_eq_true rfl), (Nat.le_of_ble_eq_true rfl)⟩ hl.1 rfl (Nat.le_of_ble_eq_true rfl) d_R_dominates_211 (Nat.le_of_ble_eq_true rfl) (Nat.le_of_ble_eq_true rfl) (fun H locs w => ?_)
                            refine lv_aload_n hx hb d_R_dominates_214 rfl (lv_at hl 0 rfl) ?_
                            refine U_get C0 w 0 (by decide) rfl rfl inR 13 (by decide) wd_841 rfl d_R_dominates_215 ?_
                            refine lv_aload_n hx hb d_R_dominates_218 rfl (lv_at hl 0 rfl) ?_
                            refine U_get C0 w 0 (by decide) rfl rfl inR 15 (by decide) wd_843 rfl d_R_dominates_219 ?_
                            refine lv_iload_n hx hb d_R_dominates_222 rfl (lv_at hl 1 rfl) ?_
                            obtain ⟨hi27, h⟩ := if_ok h
                            refine U_ald C0 w (iR_12 ct) hi27 d_R_dominates_223 ?_
                            obtain ⟨hi28, h⟩ := if_ok h
                            refine U_ald C0 w (iR_10 ct) hi28 d_R_dominates_224 ?_
                            obtain ⟨r29, M30, hc31, h⟩ := bind_ok h
                            try dsimp only at h
                            refine U_si (rest := [.int r24]) C0 w (c_R_ones l D ct q hc31) wd_1025 wd_1023 wd_1024 wd_8 (n9 := 1) (by decide +kernel) rfl ⟨(Nat.le_of_ble_eq_true rfl), (Nat.le_of_ble_eq_true rfl)⟩ hl.1 rfl (Nat.le_of_ble_eq_true rfl) d_R_dominates_225 (Nat.le_of_ble_eq_true rfl) (Nat.le_of_ble_eq_true rfl) (fun H locs w => ?_)
                            refine lv_icmp_le (tgt := 238) hx hb d_R_dominates_228 (by decide) (fun hc => ?_) (fun hc => ?_)
                            · rw [if_pos hc] at h
                              exact hJ238 _ _ _ _ _ _ (lv_sub hl [0, 1, 2] rfl) w h
                            · rw [if_neg hc] at h
                              exact hJ231 _ _ _ _ _ _ (lv_sub hl [0, 1, 2] rfl) w h
            exact hL155 FU _ _ _ _ _ _ (lv_sub hl [1, 2, 0] rfl) w h
      exact hL138 FU _ _ _ _ _ (lv_sub hl [1, 0] rfl) w h
    have hL36 : ∀ (n : Nat) (v1 : Int32) (M : Sto) (H : Heap) (locs : List Loc) (ls : Array Slot), lv_has ls 5 [(0, .ref (q 0)), (1, .int v1)] → Wd D A s (wR ct q M) H locs → l_R_dominates_36 K36 n v1 M = some (rz, Mz) → W p l e rm_R_dominates s m args below meth c H locs 0 0 Q (F0 m 36 ls []) := by
      intro n
      induction n with
      | zero => intro v1 M H locs ls hl w h; simp [l_R_dominates_36] at h
      | succ n ih36 =>
        intro v1 M H locs ls hl w h
        unfold l_R_dominates_36 at h
        refine lv_iload_n hx hb d_R_dominates_36 rfl (lv_at hl 1 rfl) ?_
        refine lv_bipush (v := 11) hx hb d_R_dominates_37 (by decide) ?_
        refine lv_icmp_ge (tgt := 136) hx hb d_R_dominates_39 (by decide) (fun hc => ?_) (fun hc => ?_)
        · rw [if_pos hc] at h
          exact hE36 _ _ _ _ (lv_sub hl [0] rfl) w h
        · rw [if_neg hc] at h
          refine lv_iconst (v := 1) hx hb d_R_dominates_42 (by decide) ?_
          refine lv_istore_n hx hb d_R_dominates_43 rfl hl (by decide) rfl (fun ls hl => ?_)
          have hl : lv_has ls 5 [(2, .int 1), (0, .ref (q 0)), (1, .int v1)] := hl
          generalize eK44 : j_R_dominates_130 (l_R_dominates_36 K36 n) K36 = K44 at h
          have hE44 : ∀ (v1 : Int32) (M : Sto) (H : Heap) (locs : List Loc) (ls : Array Slot), lv_has ls 5 [(0, .ref (q 0)), (1, .int v1)] → Wd D A s (wR ct q M) H locs → K44 v1 M = some (rz, Mz) → W p l e rm_R_dominates s m args below meth c H locs 0 0 Q (F0 m 130 ls []) := by
            intro v1 M H locs ls hl w h
            rw [← eK44] at h
            unfold j_R_dominates_130 at h
            refine lv_iinc (k := 1) (v := v1 + 1) hx hb d_R_dominates_130 hl rfl (inc1 _) (by decide) rfl (fun ls hl => ?_)
            have hl : lv_has ls 5 [(1, .int (v1 + 1)), (0, .ref (q 0))] := hl
            refine lv_goto (tgt := 36) hx hb d_R_dominates_133 (by decide) ?_
            exact ih36 _ _ _ _ _ (lv_sub hl [1, 0] rfl) w h
          have hL44 : ∀ (n : Nat) (v1 v2 : Int32) (M : Sto) (H : Heap) (locs : List Loc) (ls : Array Slot), lv_has ls 5 [(0, .ref (q 0)), (1, .int v1), (2, .int v2)] → Wd D A s (wR ct q M) H locs → l_R_dominates_44 K44 n v1 v2 M = some (rz, Mz) → W p l e rm_R_dominates s m args below meth c H locs 0 0 Q (F0 m 44 ls []) := by
            intro n
            induction n with
            | zero => intro v1 v2 M H locs ls hl w h; simp [l_R_dominates_44] at h
            | succ n ih44 =>
              intro v1 v2 M H locs ls hl w h
              unfold l_R_dominates_44 at h
              refine lv_iload_n hx hb d_R_dominates_44 rfl (lv_at hl 2 rfl) ?_
              refine lv_aload_n hx hb d_R_dominates_45 rfl (lv_at hl 0 rfl) ?_
              refine U_get C0 w 0 (by decide) rfl rfl inR 1 (by decide) wd_829 rfl d_R_dominates_46 ?_
              refine lv_icmp_ge (tgt := 130) hx hb d_R_dominates_49 (by decide) (fun hc => ?_) (fun hc => ?_)
              · rw [if_pos hc] at h
                exact hE44 _ _ _ _ _ (lv_sub hl [0, 1] rfl) w h
              · rw [if_neg hc] at h
                refine lv_aload_n hx hb d_R_dominates_52 rfl (lv_at hl 0 rfl) ?_
                refine U_get C0 w 0 (by decide) rfl rfl inR 12 (by decide) wd_840 rfl d_R_dominates_53 ?_
                refine lv_iload_n hx hb d_R_dominates_56 rfl (lv_at hl 2 rfl) ?_
                obtain ⟨r32, M33, hc34, h⟩ := bind_ok h
                try dsimp only at h
                refine U_si (rest := []) C0 w (c_R_has l D ct q hc34) wd_1014 wd_1012 wd_1013 wd_8 (n9 := 2) (by decide +kernel) rfl ⟨(Nat.le_of_ble_eq_true rfl), (Nat.le_of_ble_eq_true rfl)⟩ hl.1 rfl (Nat.le_of_ble_eq_true rfl) d_R_dominates_57 (Nat.le_of_ble_eq_true rfl) (Nat.le_of_ble_eq_true rfl) (fun H locs w => ?_)
                have hJ124 : ∀ (v1 v2 : Int32) (M : Sto) (H : Heap) (locs : List Loc) (ls : Array Slot), lv_has ls 5 [(0, .ref (q 0)), (1, .int v1), (2, .int v2)] → Wd D A s (wR ct q M) H locs → j_R_dominates_124 (l_R_dominates_44 K44 n) K44 v1 v2 M = some (rz, Mz) → W p l e rm_R_dominates s m args below meth c H locs 0 0 Q (F0 m 124 ls []) := by
                  intro v1 v2 M H locs ls hl w h
                  unfold j_R_dominates_124 at h
                  refine lv_iinc (k := 2) (v := v2 + 1) hx hb d_R_dominates_124 hl rfl (inc1 _) (by decide) rfl (fun ls hl => ?_)
                  have hl : lv_has ls 5 [(2, .int (v2 + 1)), (0, .ref (q 0)), (1, .int v1)] := hl
                  refine lv_goto (tgt := 44) hx hb d_R_dominates_127 (by decide) ?_
                  exact ih44 _ _ _ _ _ _ (lv_sub hl [1, 2, 0] rfl) w h
                refine lv_if_ne (tgt := 66) hx hb d_R_dominates_60 (by decide) (fun hc => ?_) (fun hc => ?_)
                · rw [if_neg hc] at h
                  refine lv_aload_n hx hb d_R_dominates_66 rfl (lv_at hl 0 rfl) ?_
                  refine U_get C0 w 0 (by decide) rfl rfl inR 12 (by decide) wd_840 rfl d_R_dominates_67 ?_
                  refine lv_istore_n hx hb d_R_dominates_70 rfl hl (by decide) rfl (fun ls hl => ?_)
                  have hl : lv_has ls 5 [(3, .int (M33 0 12)), (0, .ref (q 0)), (1, .int v1), (2, .int v2)] := hl
                  refine lv_iconst (v := 0) hx hb d_R_dominates_71 (by decide) ?_
                  refine lv_istore hx hb d_R_dominates_72 hl (by decide) rfl (fun ls hl => ?_)
                  have hl : lv_has ls 5 [(4, .int 0), (3, .int (M33 0 12)), (0, .ref (q 0)), (1, .int v1), (2, .int v2)] := hl
                  generalize eK74 : j_R_dominates_113 (l_R_dominates_44 K44 n) K44 = K74 at h
                  have hE74 : ∀ (v1 v2 v3 : Int32) (M : Sto) (H : Heap) (locs : List Loc) (ls : Array Slot), lv_has ls 5 [(0, .ref (q 0)), (1, .int v1), (2, .int v2), (3, .int v3)] → Wd D A s (wR ct q M) H locs → K74 v1 v2 v3 M = some (rz, Mz) → W p l e rm_R_dominates s m args below meth c H locs 0 0 Q (F0 m 113 ls []) := by
                    intro v1 v2 v3 M H locs ls hl w h
                    rw [← eK74] at h
                    unfold j_R_dominates_113 at h
                    refine lv_aload_n hx hb d_R_dominates_113 rfl (lv_at hl 0 rfl) ?_
                    refine U_get C0 w 0 (by decide) rfl rfl inR 13 (by decide) wd_841 rfl d_R_dominates_114 ?_
                    refine lv_iload_n hx hb d_R_dominates_117 rfl (lv_at hl 2 rfl) ?_
                    refine lv_iload_n hx hb d_R_dominates_118 rfl (lv_at hl 3 rfl) ?_
                    refine lv_iconst (v := 1) hx hb d_R_dominates_119 (by decide) ?_
                    refine lv_iload_n hx hb d_R_dominates_120 rfl (lv_at hl 2 rfl) ?_
                    refine lv_ishl hx hb d_R_dominates_121 ?_
                    refine lv_ior hx hb d_R_dominates_122 ?_
                    obtain ⟨hi35, h⟩ := if_ok h
                    obtain ⟨M36, eM36, h⟩ := wr_ok h
                    try dsimp only at h
                    refine U_ast C0 (cR_l ct) w (iR_10 ct) hi35 d_R_dominates_123 eM36 (fun H locs w => ?_)
                    exact hJ124 _ _ _ _ _ _ (lv_sub hl [0, 1, 2] rfl) w h
                  have hL74 : ∀ (n : Nat) (v1 v2 v3 v4 : Int32) (M : Sto) (H : Heap) (locs : List Loc) (ls : Array Slot), lv_has ls 5 [(0, .ref (q 0)), (1, .int v1), (2, .int v2), (3, .int v3), (4, .int v4)] → Wd D A s (wR ct q M) H locs → l_R_dominates_74 K74 n v1 v2 v3 v4 M = some (rz, Mz) → W p l e rm_R_dominates s m args below meth c H locs 0 0 Q (F0 m 74 ls []) := by
                    intro n
                    induction n with
                    | zero => intro v1 v2 v3 v4 M H locs ls hl w h; simp [l_R_dominates_74] at h
                    | succ n ih74 =>
                      intro v1 v2 v3 v4 M H locs ls hl w h
                      unfold l_R_dominates_74 at h
                      refine lv_iload hx hb d_R_dominates_74 (lv_at hl 4 rfl) ?_
                      refine lv_aload_n hx hb d_R_dominates_76 rfl (lv_at hl 0 rfl) ?_
                      refine U_get C0 w 0 (by decide) rfl rfl inR 1 (by decide) wd_829 rfl d_R_dominates_77 ?_
                      refine lv_icmp_ge (tgt := 113) hx hb d_R_dominates_80 (by decide) (fun hc => ?_) (fun hc => ?_)
                      · rw [if_pos hc] at h
                        exact hE74 _ _ _ _ _ _ _ (lv_sub hl [0, 1, 2, 3] rfl) w h
                      · rw [if_neg hc] at h
                        refine lv_aload_n hx hb d_R_dominates_83 rfl (lv_at hl 0 rfl) ?_
                        refine U_get C0 w 0 (by decide) rfl rfl inR 14 (by decide) wd_842 rfl d_R_dominates_84 ?_
                        refine lv_iload_n hx hb d_R_dominates_87 rfl (lv_at hl 2 rfl) ?_
                        obtain ⟨hi37, h⟩ := if_ok h
                        refine U_ald C0 w (iR_11 ct) hi37 d_R_dominates_88 ?_
                        refine lv_iload hx hb d_R_dominates_89 (lv_at hl 4 rfl) ?_
                        obtain ⟨r38, M39, hc40, h⟩ := bind_ok h
                        try dsimp only at h
                        refine U_si (rest := []) C0 w (c_R_has l D ct q hc40) wd_1014 wd_1012 wd_1013 wd_8 (n9 := 2) (by decide +kernel) rfl ⟨(Nat.le_of_ble_eq_true rfl), (Nat.le_of_ble_eq_true rfl)⟩ hl.1 rfl (Nat.le_of_ble_eq_true rfl) d_R_dominates_91 (Nat.le_of_ble_eq_true rfl) (Nat.le_of_ble_eq_true rfl) (fun H locs w => ?_)
                        have hJ107 : ∀ (v1 v2 v3 v4 : Int32) (M : Sto) (H : Heap) (locs : List Loc) (ls : Array Slot), lv_has ls 5 [(0, .ref (q 0)), (1, .int v1), (2, .int v2), (3, .int v3), (4, .int v4)] → Wd D A s (wR ct q M) H locs → j_R_dominates_107 (l_R_dominates_74 K74 n) K74 v1 v2 v3 v4 M = some (rz, Mz) → W p l e rm_R_dominates s m args below meth c H locs 0 0 Q (F0 m 107 ls []) := by
                          intro v1 v2 v3 v4 M H locs ls hl w h
                          unfold j_R_dominates_107 at h
                          refine lv_iinc (k := 4) (v := v4 + 1) hx hb d_R_dominates_107 hl rfl (inc1 _) (by decide) rfl (fun ls hl => ?_)
                          have hl : lv_has ls 5 [(4, .int (v4 + 1)), (0, .ref (q 0)), (1, .int v1), (2, .int v2), (3, .int v3)] := hl
                          refine lv_goto (tgt := 74) hx hb d_R_dominates_110 (by decide) ?_
                          exact ih74 _ _ _ _ _ _ _ _ (lv_sub hl [1, 2, 3, 4, 0] rfl) w h
                        refine lv_if_eq (tgt := 107) hx hb d_R_dominates_94 (by decide) (fun hc => ?_) (fun hc => ?_)
                        · rw [if_pos hc] at h
                          exact hJ107 _ _ _ _ _ _ _ _ (lv_sub hl [0, 1, 2, 3, 4] rfl) w h
                        · rw [if_neg hc] at h
                          refine lv_iload_n hx hb d_R_dominates_97 rfl (lv_at hl 3 rfl) ?_
                          refine lv_aload_n hx hb d_R_dominates_98 rfl (lv_at hl 0 rfl) ?_
                          refine U_get C0 w 0 (by decide) rfl rfl inR 13 (by decide) wd_841 rfl d_R_dominates_99 ?_
                          refine lv_iload hx hb d_R_dominates_102 (lv_at hl 4 rfl) ?_
                          obtain ⟨hi41, h⟩ := if_ok h
                          refine U_ald C0 w (iR_10 ct) hi41 d_R_dominates_104 ?_
                          refine lv_iand hx hb d_R_dominates_105 ?_
                          refine lv_istore_n hx hb d_R_dominates_106 rfl hl (by decide) rfl (fun ls hl => ?_)
                          have hl : lv_has ls 5 [(3, .int (v3 &&& (M39 10 v4.toNatClampNeg))), (0, .ref (q 0)), (1, .int v1), (2, .int v2), (4, .int v4)] := hl
                          exact hJ107 _ _ _ _ _ _ _ _ (lv_sub hl [1, 2, 3, 0, 4] rfl) w h
                  exact hL74 FU _ _ _ _ _ _ _ _ (lv_sub hl [2, 3, 4, 1, 0] rfl) w h
                · rw [if_pos hc] at h
                  refine lv_goto (tgt := 124) hx hb d_R_dominates_63 (by decide) ?_
                  exact hJ124 _ _ _ _ _ _ (lv_sub hl [0, 1, 2] rfl) w h
          exact hL44 FU _ _ _ _ _ _ (lv_sub hl [1, 2, 0] rfl) w h
    exact hL36 FU _ _ _ _ _ (lv_sub hl [1, 0] rfl) w h
  have hL2 : ∀ (n : Nat) (v1 : Int32) (M : Sto) (H : Heap) (locs : List Loc) (ls : Array Slot), lv_has ls 5 [(0, .ref (q 0)), (1, .int v1)] → Wd D A s (wR ct q M) H locs → l_R_dominates_2 K2 n v1 M = some (rz, Mz) → W p l e rm_R_dominates s m args below meth c H locs 0 0 Q (F0 m 2 ls []) := by
    intro n
    induction n with
    | zero => intro v1 M H locs ls hl w h; simp [l_R_dominates_2] at h
    | succ n ih2 =>
      intro v1 M H locs ls hl w h
      unfold l_R_dominates_2 at h
      refine lv_iload_n hx hb d_R_dominates_2 rfl (lv_at hl 1 rfl) ?_
      refine lv_aload_n hx hb d_R_dominates_3 rfl (lv_at hl 0 rfl) ?_
      refine U_get C0 w 0 (by decide) rfl rfl inR 1 (by decide) wd_829 rfl d_R_dominates_4 ?_
      refine lv_icmp_ge (tgt := 34) hx hb d_R_dominates_7 (by decide) (fun hc => ?_) (fun hc => ?_)
      · rw [if_pos hc] at h
        exact hE2 _ _ _ _ (lv_sub hl [0] rfl) w h
      · rw [if_neg hc] at h
        refine lv_aload_n hx hb d_R_dominates_10 rfl (lv_at hl 0 rfl) ?_
        refine U_get C0 w 0 (by decide) rfl rfl inR 13 (by decide) wd_841 rfl d_R_dominates_11 ?_
        refine lv_iload_n hx hb d_R_dominates_14 rfl (lv_at hl 1 rfl) ?_
        refine lv_iload_n hx hb d_R_dominates_15 rfl (lv_at hl 1 rfl) ?_
        have hJ27 : ∀ (s0 s1 v1 : Int32) (M : Sto) (H : Heap) (locs : List Loc) (ls : Array Slot), lv_has ls 5 [(0, .ref (q 0)), (1, .int v1)] → Wd D A s (wR ct q M) H locs → j_R_dominates_27 (l_R_dominates_2 K2 n) K2 s0 s1 v1 M = some (rz, Mz) → W p l e rm_R_dominates s m args below meth c H locs 0 0 Q (F0 m 27 ls [.int s0, .int s1, .ref (q 10)]) := by
          intro s0 s1 v1 M H locs ls hl w h
          unfold j_R_dominates_27 at h
          obtain ⟨hi42, h⟩ := if_ok h
          obtain ⟨M43, eM43, h⟩ := wr_ok h
          try dsimp only at h
          refine U_ast C0 (cR_l ct) w (iR_10 ct) hi42 d_R_dominates_27 eM43 (fun H locs w => ?_)
          refine lv_iinc (k := 1) (v := v1 + 1) hx hb d_R_dominates_28 hl rfl (inc1 _) (by decide) rfl (fun ls hl => ?_)
          have hl : lv_has ls 5 [(1, .int (v1 + 1)), (0, .ref (q 0))] := hl
          refine lv_goto (tgt := 2) hx hb d_R_dominates_31 (by decide) ?_
          exact ih2 _ _ _ _ _ (lv_sub hl [1, 0] rfl) w h
        refine lv_if_ne (tgt := 23) hx hb d_R_dominates_16 (by decide) (fun hc => ?_) (fun hc => ?_)
        · rw [if_neg hc] at h
          refine lv_aload_n hx hb d_R_dominates_23 rfl (lv_at hl 0 rfl) ?_
          refine U_get C0 w 0 (by decide) rfl rfl inR 12 (by decide) wd_840 rfl d_R_dominates_24 ?_
          exact hJ27 _ _ _ _ _ _ _ (lv_sub hl [0, 1] rfl) w h
        · rw [if_pos hc] at h
          refine lv_iconst (v := 1) hx hb d_R_dominates_19 (by decide) ?_
          refine lv_goto (tgt := 27) hx hb d_R_dominates_20 (by decide) ?_
          exact hJ27 _ _ _ _ _ _ _ (lv_sub hl [0, 1] rfl) w h
  exact hL2 FU _ _ _ _ _ (lv_sub hl [1, 0] rfl) w h
abbrev rm_R_isInFrontier : Room := { frames := 1, cells := 0, slots := 0, locals := 21 }
set_option maxHeartbeats 8000000 in
set_option maxRecDepth 100000 in
theorem c_R_isInFrontier (l : Launch) (D : va_G) (ct : Nat → ClassId) (q : Nat → Nat) {x1 x2 : Int32} {M Mz : Sto} {rz : Int32} (h : m_R_isInFrontier x1 x2 M = some (rz, Mz)) : KI l D ct y_R_isInFrontier b_R_isInFrontier 5 (some .boolean) 1 21 [.ref (q 0), .int x1, .int x2] (wR ct q M) rz (wR ct q Mz) := by
  refine KI.ofU (by decide) (Nat.le_of_ble_eq_true rfl) rfl ?_
  intro p e s m args below meth c A Q ls C0 hl w hret
  have hx := C0.1
  have hb := C0.2.1
  have hl : lv_has ls 5 [(0, .ref (q 0)), (1, .int x1), (2, .int x2)] := hl
  unfold m_R_isInFrontier at h
  refine lv_aload_n hx hb d_R_isInFrontier_0 rfl (lv_at hl 0 rfl) ?_
  refine U_get C0 w 0 (by decide) rfl rfl inR 13 (by decide) wd_841 rfl d_R_isInFrontier_1 ?_
  refine lv_iload_n hx hb d_R_isInFrontier_4 rfl (lv_at hl 2 rfl) ?_
  obtain ⟨hi4, h⟩ := if_ok h
  refine U_ald C0 w (iR_10 ct) hi4 d_R_isInFrontier_5 ?_
  refine lv_iload_n hx hb d_R_isInFrontier_6 rfl (lv_at hl 1 rfl) ?_
  obtain ⟨r5, M6, hc7, h⟩ := bind_ok h
  try dsimp only at h
  refine U_si (rest := []) C0 w (c_R_has l D ct q hc7) wd_1014 wd_1012 wd_1013 wd_8 (n9 := 2) (by decide +kernel) rfl ⟨(Nat.le_of_ble_eq_true rfl), (Nat.le_of_ble_eq_true rfl)⟩ hl.1 rfl (Nat.le_of_ble_eq_true rfl) d_R_isInFrontier_7 (Nat.le_of_ble_eq_true rfl) (Nat.le_of_ble_eq_true rfl) (fun H locs w => ?_)
  have hJ20 : ∀ (v1 v2 : Int32) (M : Sto) (H : Heap) (locs : List Loc) (ls : Array Slot), lv_has ls 5 [(0, .ref (q 0)), (1, .int v1), (2, .int v2)] → Wd D A s (wR ct q M) H locs → j_R_isInFrontier_20 v1 v2 M = some (rz, Mz) → W p l e rm_R_isInFrontier s m args below meth c H locs 0 0 Q (F0 m 20 ls []) := by
    intro v1 v2 M H locs ls hl w h
    unfold j_R_isInFrontier_20 at h
    refine lv_iconst (v := 0) hx hb d_R_isInFrontier_20 (by decide) ?_
    refine lv_istore_n hx hb d_R_isInFrontier_21 rfl hl (by decide) rfl (fun ls hl => ?_)
    have hl : lv_has ls 5 [(3, .int 0), (0, .ref (q 0)), (1, .int v1), (2, .int v2)] := hl
    refine lv_iconst (v := 0) hx hb d_R_isInFrontier_22 (by decide) ?_
    refine lv_istore hx hb d_R_isInFrontier_23 hl (by decide) rfl (fun ls hl => ?_)
    have hl : lv_has ls 5 [(4, .int 0), (3, .int 0), (0, .ref (q 0)), (1, .int v1), (2, .int v2)] := hl
    generalize eK25 : j_R_isInFrontier_78 = K25 at h
    have hE25 : ∀ (v3 : Int32) (M : Sto) (H : Heap) (locs : List Loc) (ls : Array Slot), lv_has ls 5 [(3, .int v3)] → Wd D A s (wR ct q M) H locs → K25 v3 M = some (rz, Mz) → W p l e rm_R_isInFrontier s m args below meth c H locs 0 0 Q (F0 m 78 ls []) := by
      intro v3 M H locs ls hl w h
      rw [← eK25] at h
      unfold j_R_isInFrontier_78 at h
      refine lv_iload_n hx hb d_R_isInFrontier_78 rfl (lv_at hl 0 rfl) ?_
      obtain ⟨hz9, h⟩ := if_ok h
      cases h
      exact hret _ _ _ _ d_R_isInFrontier_79 (bz_nar hz9) w
    have hL25 : ∀ (n : Nat) (v1 v2 v3 v4 : Int32) (M : Sto) (H : Heap) (locs : List Loc) (ls : Array Slot), lv_has ls 5 [(0, .ref (q 0)), (1, .int v1), (2, .int v2), (3, .int v3), (4, .int v4)] → Wd D A s (wR ct q M) H locs → l_R_isInFrontier_25 K25 n v1 v2 v3 v4 M = some (rz, Mz) → W p l e rm_R_isInFrontier s m args below meth c H locs 0 0 Q (F0 m 25 ls []) := by
      intro n
      induction n with
      | zero => intro v1 v2 v3 v4 M H locs ls hl w h; simp [l_R_isInFrontier_25] at h
      | succ n ih25 =>
        intro v1 v2 v3 v4 M H locs ls hl w h
        unfold l_R_isInFrontier_25 at h
        refine lv_iload hx hb d_R_isInFrontier_25 (lv_at hl 4 rfl) ?_
        refine lv_aload_n hx hb d_R_isInFrontier_27 rfl (lv_at hl 0 rfl) ?_
        refine U_get C0 w 0 (by decide) rfl rfl inR 1 (by decide) wd_829 rfl d_R_isInFrontier_28 ?_
        refine lv_icmp_ge (tgt := 78) hx hb d_R_isInFrontier_31 (by decide) (fun hc => ?_) (fun hc => ?_)
        · rw [if_pos hc] at h
          exact hE25 _ _ _ _ _ (lv_sub hl [3] rfl) w h
        · rw [if_neg hc] at h
          refine lv_iload_n hx hb d_R_isInFrontier_34 rfl (lv_at hl 3 rfl) ?_
          have hJ71 : ∀ (s0 v1 v2 v4 : Int32) (M : Sto) (H : Heap) (locs : List Loc) (ls : Array Slot), lv_has ls 5 [(0, .ref (q 0)), (1, .int v1), (2, .int v2), (4, .int v4)] → Wd D A s (wR ct q M) H locs → j_R_isInFrontier_71 (l_R_isInFrontier_25 K25 n) K25 s0 v1 v2 v4 M = some (rz, Mz) → W p l e rm_R_isInFrontier s m args below meth c H locs 0 0 Q (F0 m 71 ls [.int s0]) := by
            intro s0 v1 v2 v4 M H locs ls hl w h
            unfold j_R_isInFrontier_71 at h
            refine lv_istore_n hx hb d_R_isInFrontier_71 rfl hl (by decide) rfl (fun ls hl => ?_)
            have hl : lv_has ls 5 [(3, .int s0), (0, .ref (q 0)), (1, .int v1), (2, .int v2), (4, .int v4)] := hl
            refine lv_iinc (k := 4) (v := v4 + 1) hx hb d_R_isInFrontier_72 hl rfl (inc1 _) (by decide) rfl (fun ls hl => ?_)
            have hl : lv_has ls 5 [(4, .int (v4 + 1)), (3, .int s0), (0, .ref (q 0)), (1, .int v1), (2, .int v2)] := hl
            refine lv_goto (tgt := 25) hx hb d_R_isInFrontier_75 (by decide) ?_
            exact ih25 _ _ _ _ _ _ _ _ (lv_sub hl [2, 3, 4, 1, 0] rfl) w h
          have hJ66 : ∀ (v1 v2 v4 : Int32) (M : Sto) (H : Heap) (locs : List Loc) (ls : Array Slot), lv_has ls 5 [(0, .ref (q 0)), (1, .int v1), (2, .int v2), (4, .int v4)] → Wd D A s (wR ct q M) H locs → j_R_isInFrontier_66 (l_R_isInFrontier_25 K25 n) K25 v1 v2 v4 M = some (rz, Mz) → W p l e rm_R_isInFrontier s m args below meth c H locs 0 0 Q (F0 m 66 ls []) := by
            intro v1 v2 v4 M H locs ls hl w h
            unfold j_R_isInFrontier_66 at h
            refine lv_iconst (v := 1) hx hb d_R_isInFrontier_66 (by decide) ?_
            refine lv_goto (tgt := 71) hx hb d_R_isInFrontier_67 (by decide) ?_
            exact hJ71 _ _ _ _ _ _ _ _ (lv_sub hl [0, 1, 2, 3] rfl) w h
          refine lv_if_ne (tgt := 66) hx hb d_R_isInFrontier_35 (by decide) (fun hc => ?_) (fun hc => ?_)
          · rw [if_neg hc] at h
            exact hJ66 _ _ _ _ _ _ _ (lv_sub hl [0, 1, 2, 4] rfl) w h
          · rw [if_pos hc] at h
            refine lv_aload_n hx hb d_R_isInFrontier_38 rfl (lv_at hl 0 rfl) ?_
            refine U_get C0 w 0 (by decide) rfl rfl inR 14 (by decide) wd_842 rfl d_R_isInFrontier_39 ?_
            refine lv_iload_n hx hb d_R_isInFrontier_42 rfl (lv_at hl 2 rfl) ?_
            obtain ⟨hi8, h⟩ := if_ok h
            refine U_ald C0 w (iR_11 ct) hi8 d_R_isInFrontier_43 ?_
            refine lv_iload hx hb d_R_isInFrontier_44 (lv_at hl 4 rfl) ?_
            obtain ⟨r9, M10, hc11, h⟩ := bind_ok h
            try dsimp only at h
            refine U_si (rest := []) C0 w (c_R_has l D ct q hc11) wd_1014 wd_1012 wd_1013 wd_8 (n9 := 2) (by decide +kernel) rfl ⟨(Nat.le_of_ble_eq_true rfl), (Nat.le_of_ble_eq_true rfl)⟩ hl.1 rfl (Nat.le_of_ble_eq_true rfl) d_R_isInFrontier_46 (Nat.le_of_ble_eq_true rfl) (Nat.le_of_ble_eq_true rfl) (fun H locs w => ?_)
            have hJ70 : ∀ (v1 v2 v4 : Int32) (M : Sto) (H : Heap) (locs : List Loc) (ls : Array Slot), lv_has ls 5 [(0, .ref (q 0)), (1, .int v1), (2, .int v2), (4, .int v4)] → Wd D A s (wR ct q M) H locs → j_R_isInFrontier_70 (l_R_isInFrontier_25 K25 n) K25 v1 v2 v4 M = some (rz, Mz) → W p l e rm_R_isInFrontier s m args below meth c H locs 0 0 Q (F0 m 70 ls []) := by
              intro v1 v2 v4 M H locs ls hl w h
              unfold j_R_isInFrontier_70 at h
              refine lv_iconst (v := 0) hx hb d_R_isInFrontier_70 (by decide) ?_
              exact hJ71 _ _ _ _ _ _ _ _ (lv_sub hl [0, 1, 2, 3] rfl) w h
            refine lv_if_eq (tgt := 70) hx hb d_R_isInFrontier_49 (by decide) (fun hc => ?_) (fun hc => ?_)
            · rw [if_pos hc] at h
              exact hJ70 _ _ _ _ _ _ _ (lv_sub hl [0, 1, 2, 4] rfl) w h
            · rw [if_neg hc] at h
              refine lv_aload_n hx hb d_R_isInFrontier_52 rfl (lv_at hl 0 rfl) ?_
              refine U_get C0 w 0 (by decide) rfl rfl inR 13 (by decide) wd_841 rfl d_R_isInFrontier_53 ?_
              refine lv_iload hx hb d_R_isInFrontier_56 (lv_at hl 4 rfl) ?_
              obtain ⟨hi12, h⟩ := if_ok h
              refine U_ald C0 w (iR_10 ct) hi12 d_R_isInFrontier_58 ?_
              refine lv_iload_n hx hb d_R_isInFrontier_59 rfl (lv_at hl 1 rfl) ?_
              obtain ⟨r13, M14, hc15, h⟩ := bind_ok h
              try dsimp only at h
              refine U_si (rest := []) C0 w (c_R_has l D ct q hc15) wd_1014 wd_1012 wd_1013 wd_8 (n9 := 2) (by decide +kernel) rfl ⟨(Nat.le_of_ble_eq_true rfl), (Nat.le_of_ble_eq_true rfl)⟩ hl.1 rfl (Nat.le_of_ble_eq_true rfl) d_R_isInFrontier_60 (Nat.le_of_ble_eq_true rfl) (Nat.le_of_ble_eq_true rfl) (fun H locs w => ?_)
              refine lv_if_eq (tgt := 70) hx hb d_R_isInFrontier_63 (by decide) (fun hc => ?_) (fun hc => ?_)
              · rw [if_pos hc] at h
                exact hJ70 _ _ _ _ _ _ _ (lv_sub hl [0, 1, 2, 4] rfl) w h
              · rw [if_neg hc] at h
                exact hJ66 _ _ _ _ _ _ _ (lv_sub hl [0, 1, 2, 4] rfl) w h
    exact hL25 FU _ _ _ _ _ _ _ _ (lv_sub hl [2, 3, 4, 1, 0] rfl) w h
  refine lv_if_eq (tgt := 20) hx hb d_R_isInFrontier_10 (by decide) (fun hc => ?_) (fun hc => ?_)
  · rw [if_pos hc] at h
    exact hJ20 _ _ _ _ _ _ (lv_sub hl [0, 1, 2] rfl) w h
  · rw [if_neg hc] at h
    refine lv_iload_n hx hb d_R_isInFrontier_13 rfl (lv_at hl 1 rfl) ?_
    refine lv_iload_n hx hb d_R_isInFrontier_14 rfl (lv_at hl 2 rfl) ?_
    refine lv_icmp_eq (tgt := 20) hx hb d_R_isInFrontier_15 (by decide) (fun hc => ?_) (fun hc => ?_)
    · rw [if_pos hc] at h
      exact hJ20 _ _ _ _ _ _ (lv_sub hl [0, 1, 2] rfl) w h
    · rw [if_neg hc] at h
      refine lv_iconst (v := 0) hx hb d_R_isInFrontier_18 (by decide) ?_
      obtain ⟨hz9, h⟩ := if_ok h
      cases h
      exact hret _ _ _ _ d_R_isInFrontier_19 (bz_nar hz9) w
abbrev rm_R_defined : Room := { frames := 1, cells := 0, slots := 0, locals := 20 }
set_option maxHeartbeats 8000000 in
set_option maxRecDepth 100000 in
theorem c_R_defined (l : Launch) (D : va_G) (ct : Nat → ClassId) (q : Nat → Nat) {x1 : Int32} {M Mz : Sto} {rz : Int32} (h : m_R_defined x1 M = some (rz, Mz)) : KI l D ct y_R_defined b_R_defined 4 (some .int) 1 20 [.ref (q 0), .int x1] (wR ct q M) rz (wR ct q Mz) := by
  refine KI.ofU (by decide) (Nat.le_of_ble_eq_true rfl) rfl ?_
  intro p e s m args below meth c A Q ls C0 hl w hret
  have hx := C0.1
  have hb := C0.2.1
  have hl : lv_has ls 4 [(0, .ref (q 0)), (1, .int x1)] := hl
  unfold m_R_defined at h
  refine lv_aload_n hx hb d_R_defined_0 rfl (lv_at hl 0 rfl) ?_
  refine U_get C0 w 0 (by decide) rfl rfl inR 16 (by decide) wd_844 rfl d_R_defined_1 ?_
  refine lv_iload_n hx hb d_R_defined_4 rfl (lv_at hl 1 rfl) ?_
  obtain ⟨hi2, h⟩ := if_ok h
  refine U_ald C0 w (iR_13 ct) hi2 d_R_defined_5 ?_
  refine lv_istore_n hx hb d_R_defined_6 rfl hl (by decide) rfl (fun ls hl => ?_)
  have hl : lv_has ls 4 [(2, .int (M 13 x1.toNatClampNeg)), (0, .ref (q 0)), (1, .int x1)] := hl
  refine lv_bipush (v := 6) hx hb d_R_defined_7 (by decide) ?_
  refine lv_iload_n hx hb d_R_defined_9 rfl (lv_at hl 2 rfl) ?_
  refine lv_imul hx hb d_R_defined_10 ?_
  refine lv_istore_n hx hb d_R_defined_11 rfl hl (by decide) rfl (fun ls hl => ?_)
  have hl : lv_has ls 4 [(3, .int (6 * x1)), (2, .int (M 13 x1.toNatClampNeg)), (0, .ref (q 0)), (1, .int x1)] := hl
  generalize eK12 : j_R_defined_56 = K12 at h
  have hE12 : ∀ (v2 : Int32) (M : Sto) (H : Heap) (locs : List Loc) (ls : Array Slot), lv_has ls 4 [(2, .int v2)] → Wd D A s (wR ct q M) H locs → K12 v2 M = some (rz, Mz) → W p l e rm_R_defined s m args below meth c H locs 0 0 Q (F0 m 56 ls []) := by
    intro v2 M H locs ls hl w h
    rw [← eK12] at h
    unfold j_R_defined_56 at h
    refine lv_iload_n hx hb d_R_defined_56 rfl (lv_at hl 0 rfl) ?_
    cases h
    exact hret _ _ _ _ d_R_defined_57 rfl w
  have hL12 : ∀ (n : Nat) (v1 v2 v3 : Int32) (M : Sto) (H : Heap) (locs : List Loc) (ls : Array Slot), lv_has ls 4 [(0, .ref (q 0)), (1, .int v1), (2, .int v2), (3, .int v3)] → Wd D A s (wR ct q M) H locs → l_R_defined_12 K12 n v1 v2 v3 M = some (rz, Mz) → W p l e rm_R_defined s m args below meth c H locs 0 0 Q (F0 m 12 ls []) := by
    intro n
    induction n with
    | zero => intro v1 v2 v3 M H locs ls hl w h; simp [l_R_defined_12] at h
    | succ n ih12 =>
      intro v1 v2 v3 M H locs ls hl w h
      unfold l_R_defined_12 at h
      refine lv_iload_n hx hb d_R_defined_12 rfl (lv_at hl 3 rfl) ?_
      refine lv_bipush (v := 6) hx hb d_R_defined_13 (by decide) ?_
      refine lv_iload_n hx hb d_R_defined_15 rfl (lv_at hl 1 rfl) ?_
      refine lv_imul hx hb d_R_defined_16 ?_
      refine lv_aload_n hx hb d_R_defined_17 rfl (lv_at hl 0 rfl) ?_
      refine U_get C0 w 0 (by decide) rfl rfl inR 2 (by decide) wd_830 rfl d_R_defined_18 ?_
      refine lv_iload_n hx hb d_R_defined_21 rfl (lv_at hl 1 rfl) ?_
      obtain ⟨hi3, h⟩ := if_ok h
      refine U_ald C0 w (iR_1 ct) hi3 d_R_defined_22 ?_
      refine lv_iadd hx hb d_R_defined_23 ?_
      refine lv_icmp_ge (tgt := 56) hx hb d_R_defined_24 (by decide) (fun hc => ?_) (fun hc => ?_)
      · rw [if_pos hc] at h
        exact hE12 _ _ _ _ _ (lv_sub hl [2] rfl) w h
      · rw [if_neg hc] at h
        refine lv_aload_n hx hb d_R_defined_27 rfl (lv_at hl 0 rfl) ?_
        refine U_get C0 w 0 (by decide) rfl rfl inR 3 (by decide) wd_831 rfl d_R_defined_28 ?_
        refine lv_iload_n hx hb d_R_defined_31 rfl (lv_at hl 3 rfl) ?_
        obtain ⟨hi4, h⟩ := if_ok h
        refine U_ald C0 w (iR_2 ct) hi4 d_R_defined_32 ?_
        obtain ⟨r5, M6, hc7, h⟩ := bind_ok h
        try dsimp only at h
        refine U_si (rest := []) C0 w (c_R_setsOne l D ct q hc7) wd_974 wd_972 wd_973 wd_8 (n9 := 1) (by decide +kernel) rfl ⟨(Nat.le_of_ble_eq_true rfl), (Nat.le_of_ble_eq_true rfl)⟩ hl.1 rfl (Nat.le_of_ble_eq_true rfl) d_R_defined_33 (Nat.le_of_ble_eq_true rfl) (Nat.le_of_ble_eq_true rfl) (fun H locs w => ?_)
        have hJ50 : ∀ (v1 v2 v3 : Int32) (M : Sto) (H : Heap) (locs : List Loc) (ls : Array Slot), lv_has ls 4 [(0, .ref (q 0)), (1, .int v1), (2, .int v2), (3, .int v3)] → Wd D A s (wR ct q M) H locs → j_R_defined_50 (l_R_defined_12 K12 n) K12 v1 v2 v3 M = some (rz, Mz) → W p l e rm_R_defined s m args below meth c H locs 0 0 Q (F0 m 50 ls []) := by
          intro v1 v2 v3 M H locs ls hl w h
          unfold j_R_defined_50 at h
          refine lv_iinc (k := 3) (v := v3 + 1) hx hb d_R_defined_50 hl rfl (inc1 _) (by decide) rfl (fun ls hl => ?_)
          have hl : lv_has ls 4 [(3, .int (v3 + 1)), (0, .ref (q 0)), (1, .int v1), (2, .int v2)] := hl
          refine lv_goto (tgt := 12) hx hb d_R_defined_53 (by decide) ?_
          exact ih12 _ _ _ _ _ _ _ (lv_sub hl [1, 2, 3, 0] rfl) w h
        refine lv_if_eq (tgt := 50) hx hb d_R_defined_36 (by decide) (fun hc => ?_) (fun hc => ?_)
        · rw [if_pos hc] at h
          exact hJ50 _ _ _ _ _ _ _ (lv_sub hl [0, 1, 2, 3] rfl) w h
        · rw [if_neg hc] at h
          refine lv_iload_n hx hb d_R_defined_39 rfl (lv_at hl 2 rfl) ?_
          refine lv_iconst (v := 1) hx hb d_R_defined_40 (by decide) ?_
          refine lv_aload_n hx hb d_R_defined_41 rfl (lv_at hl 0 rfl) ?_
          refine U_get C0 w 0 (by decide) rfl rfl inR 4 (by decide) wd_832 rfl d_R_defined_42 ?_
          refine lv_iload_n hx hb d_R_defined_45 rfl (lv_at hl 3 rfl) ?_
          obtain ⟨hi8, h⟩ := if_ok h
          refine U_ald C0 w (iR_3 ct) hi8 d_R_defined_46 ?_
          refine lv_ishl hx hb d_R_defined_47 ?_
          refine lv_ior hx hb d_R_defined_48 ?_
          refine lv_istore_n hx hb d_R_defined_49 rfl hl (by decide) rfl (fun ls hl => ?_)
          have hl : lv_has ls 4 [(2, .int (v2 ||| (1 <<< ((M6 3 v3.toNatClampNeg) &&& 31)))), (0, .ref (q 0)), (1, .int v1), (3, .int v3)] := hl
          exact hJ50 _ _ _ _ _ _ _ (lv_sub hl [1, 2, 0, 3] rfl) w h
  exact hL12 FU _ _ _ _ _ _ _ (lv_sub hl [2, 3, 1, 0] rfl) w h
abbrev rm_R_placePhis : Room := { frames := 2, cells := 0, slots := 0, locals := 45 }
set_option maxHeartbeats 8000000 in
set_option maxRecDepth 100000 in
theorem c_R_placePhis (l : Launch) (D : va_G) (ct : Nat → ClassId) (q : Nat → Nat) {M Mz : Sto} {rz : Int32} (h : m_R_placePhis M = some (rz, Mz)) : KV l D ct y_R_placePhis b_R_placePhis 5 2 45 0 0 [.ref (q 0)] (wR ct q M) (fun A t => CE D (wR ct q Mz) A t) := by
  refine KV.ofU (by decide) (Nat.le_of_ble_eq_true rfl) ?_
  intro p e s m args below meth c A Q ls C0 hl w hret
  have hx := C0.1
  have hb := C0.2.1
  have hl : lv_has ls 5 [(0, .ref (q 0))] := hl
  unfold m_R_placePhis at h
  refine lv_iconst (v := 0) hx hb d_R_placePhis_0 (by decide) ?_
  refine lv_istore_n hx hb d_R_placePhis_1 rfl hl (by decide) rfl (fun ls hl => ?_)
  have hl : lv_has ls 5 [(1, .int 0), (0, .ref (q 0))] := hl
  generalize eK2 : j_R_placePhis_21 = K2 at h
  have hE2 : ∀ (M : Sto) (H : Heap) (locs : List Loc) (ls : Array Slot), lv_has ls 5 [(0, .ref (q 0))] → Wd D A s (wR ct q M) H locs → K2 M = some (rz, Mz) → W p l e rm_R_placePhis s m args below meth c H locs 0 0 Q (F0 m 21 ls []) := by
    intro M H locs ls hl w h
    rw [← eK2] at h
    unfold j_R_placePhis_21 at h
    refine lv_iconst (v := 1) hx hb d_R_placePhis_21 (by decide) ?_
    refine lv_istore_n hx hb d_R_placePhis_22 rfl hl (by decide) rfl (fun ls hl => ?_)
    have hl : lv_has ls 5 [(1, .int 1), (0, .ref (q 0))] := hl
    generalize eK23 : j_R_placePhis_141 = K23 at h
    have hE23 : ∀ (M : Sto) (H : Heap) (locs : List Loc) (ls : Array Slot), lv_has ls 5 [] → Wd D A s (wR ct q M) H locs → K23 M = some (rz, Mz) → W p l e rm_R_placePhis s m args below meth c H locs 0 0 Q (F0 m 141 ls []) := by
      intro M H locs ls hl w h
      rw [← eK23] at h
      unfold j_R_placePhis_141 at h
      cases h
      exact hret _ _ _ _ d_R_placePhis_141 w
    have hL23 : ∀ (n : Nat) (v1 : Int32) (M : Sto) (H : Heap) (locs : List Loc) (ls : Array Slot), lv_has ls 5 [(0, .ref (q 0)), (1, .int v1)] → Wd D A s (wR ct q M) H locs → l_R_placePhis_23 K23 n v1 M = some (rz, Mz) → W p l e rm_R_placePhis s m args below meth c H locs 0 0 Q (F0 m 23 ls []) := by
      intro n
      induction n with
      | zero => intro v1 M H locs ls hl w h; simp [l_R_placePhis_23] at h
      | succ n ih23 =>
        intro v1 M H locs ls hl w h
        unfold l_R_placePhis_23 at h
        refine lv_iload_n hx hb d_R_placePhis_23 rfl (lv_at hl 1 rfl) ?_
        refine lv_if_eq (tgt := 141) hx hb d_R_placePhis_24 (by decide) (fun hc => ?_) (fun hc => ?_)
        · rw [if_pos hc] at h
          exact hE23 _ _ _ _ (lv_sub hl [] rfl) w h
        · rw [if_neg hc] at h
          refine lv_iconst (v := 0) hx hb d_R_placePhis_27 (by decide) ?_
          refine lv_istore_n hx hb d_R_placePhis_28 rfl hl (by decide) rfl (fun ls hl => ?_)
          have hl : lv_has ls 5 [(1, .int 0), (0, .ref (q 0))] := hl
          refine lv_iconst (v := 0) hx hb d_R_placePhis_29 (by decide) ?_
          refine lv_istore_n hx hb d_R_placePhis_30 rfl hl (by decide) rfl (fun ls hl => ?_)
          have hl : lv_has ls 5 [(2, .int 0), (1, .int 0), (0, .ref (q 0))] := hl
          generalize eK31 : j_R_placePhis_138 (l_R_placePhis_23 K23 n) K23 = K31 at h
          have hE31 : ∀ (v1 : Int32) (M : Sto) (H : Heap) (locs : List Loc) (ls : Array Slot), lv_has ls 5 [(0, .ref (q 0)), (1, .int v1)] → Wd D A s (wR ct q M) H locs → K31 v1 M = some (rz, Mz) → W p l e rm_R_placePhis s m args below meth c H locs 0 0 Q (F0 m 138 ls []) := by
            intro v1 M H locs ls hl w h
            rw [← eK31] at h
            unfold j_R_placePhis_138 at h
            refine lv_goto (tgt := 23) hx hb d_R_placePhis_138 (by decide) ?_
            exact ih23 _ _ _ _ _ (lv_sub hl [0, 1] rfl) w h
          have hL31 : ∀ (n : Nat) (v1 v2 : Int32) (M : Sto) (H : Heap) (locs : List Loc) (ls : Array Slot), lv_has ls 5 [(0, .ref (q 0)), (1, .int v1), (2, .int v2)] → Wd D A s (wR ct q M) H locs → l_R_placePhis_31 K31 n v1 v2 M = some (rz, Mz) → W p l e rm_R_placePhis s m args below meth c H locs 0 0 Q (F0 m 31 ls []) := by
            intro n
            induction n with
            | zero => intro v1 v2 M H locs ls hl w h; simp [l_R_placePhis_31] at h
            | succ n ih31 =>
              intro v1 v2 M H locs ls hl w h
              unfold l_R_placePhis_31 at h
              refine lv_iload_n hx hb d_R_placePhis_31 rfl (lv_at hl 2 rfl) ?_
              refine lv_aload_n hx hb d_R_placePhis_32 rfl (lv_at hl 0 rfl) ?_
              refine U_get C0 w 0 (by decide) rfl rfl inR 1 (by decide) wd_829 rfl d_R_placePhis_33 ?_
              refine lv_icmp_ge (tgt := 138) hx hb d_R_placePhis_36 (by decide) (fun hc => ?_) (fun hc => ?_)
              · rw [if_pos hc] at h
                exact hE31 _ _ _ _ _ (lv_sub hl [0, 1] rfl) w h
              · rw [if_neg hc] at h
                refine lv_iconst (v := 0) hx hb d_R_placePhis_39 (by decide) ?_
                refine lv_istore_n hx hb d_R_placePhis_40 rfl hl (by decide) rfl (fun ls hl => ?_)
                have hl : lv_has ls 5 [(3, .int 0), (0, .ref (q 0)), (1, .int v1), (2, .int v2)] := hl
                generalize eK41 : j_R_placePhis_132 (l_R_placePhis_31 K31 n) K31 = K41 at h
                have hE41 : ∀ (v1 v2 : Int32) (M : Sto) (H : Heap) (locs : List Loc) (ls : Array Slot), lv_has ls 5 [(0, .ref (q 0)), (1, .int v1), (2, .int v2)] → Wd D A s (wR ct q M) H locs → K41 v1 v2 M = some (rz, Mz) → W p l e rm_R_placePhis s m args below meth c H locs 0 0 Q (F0 m 132 ls []) := by
                  intro v1 v2 M H locs ls hl w h
                  rw [← eK41] at h
                  unfold j_R_placePhis_132 at h
                  refine lv_iinc (k := 2) (v := v2 + 1) hx hb d_R_placePhis_132 hl rfl (inc1 _) (by decide) rfl (fun ls hl => ?_)
                  have hl : lv_has ls 5 [(2, .int (v2 + 1)), (0, .ref (q 0)), (1, .int v1)] := hl
                  refine lv_goto (tgt := 31) hx hb d_R_placePhis_135 (by decide) ?_
                  exact ih31 _ _ _ _ _ _ (lv_sub hl [1, 2, 0] rfl) w h
                have hL41 : ∀ (n : Nat) (v1 v2 v3 : Int32) (M : Sto) (H : Heap) (locs : List Loc) (ls : Array Slot), lv_has ls 5 [(0, .ref (q 0)), (1, .int v1), (2, .int v2), (3, .int v3)] → Wd D A s (wR ct q M) H locs → l_R_placePhis_41 K41 n v1 v2 v3 M = some (rz, Mz) → W p l e rm_R_placePhis s m args below meth c H locs 0 0 Q (F0 m 41 ls []) := by
                  intro n
                  induction n with
                  | zero => intro v1 v2 v3 M H locs ls hl w h; simp [l_R_placePhis_41] at h
                  | succ n ih41 =>
                    intro v1 v2 v3 M H locs ls hl w h
                    unfold l_R_placePhis_41 at h
                    refine lv_iload_n hx hb d_R_placePhis_41 rfl (lv_at hl 3 rfl) ?_
                    refine lv_aload_n hx hb d_R_placePhis_42 rfl (lv_at hl 0 rfl) ?_
                    refine U_get C0 w 0 (by decide) rfl rfl inR 1 (by decide) wd_829 rfl d_R_placePhis_43 ?_
                    refine lv_icmp_ge (tgt := 132) hx hb d_R_placePhis_46 (by decide) (fun hc => ?_) (fun hc => ?_)
                    · rw [if_pos hc] at h
                      exact hE41 _ _ _ _ _ _ (lv_sub hl [0, 1, 2] rfl) w h
                    · rw [if_neg hc] at h
                      refine lv_aload_n hx hb d_R_placePhis_49 rfl (lv_at hl 0 rfl) ?_
                      refine U_get C0 w 0 (by decide) rfl rfl inR 12 (by decide) wd_840 rfl d_R_placePhis_50 ?_
                      refine lv_iload_n hx hb d_R_placePhis_53 rfl (lv_at hl 2 rfl) ?_
                      obtain ⟨r7, M8, hc9, h⟩ := bind_ok h
                      try dsimp only at h
                      refine U_si (rest := []) C0 w (c_R_has l D ct q hc9) wd_1014 wd_1012 wd_1013 wd_8 (n9 := 2) (by decide +kernel) rfl ⟨(Nat.le_of_ble_eq_true rfl), (Nat.le_of_ble_eq_true rfl)⟩ hl.1 rfl (Nat.le_of_ble_eq_true rfl) d_R_placePhis_54 (Nat.le_of_ble_eq_true rfl) (Nat.le_of_ble_eq_true rfl) (fun H locs w => ?_)
                      have hJ126 : ∀ (v1 v2 v3 : Int32) (M : Sto) (H : Heap) (locs : List Loc) (ls : Array Slot), lv_has ls 5 [(0, .ref (q 0)), (1, .int v1), (2, .int v2), (3, .int v3)] → Wd D A s (wR ct q M) H locs → j_R_placePhis_126 (l_R_placePhis_41 K41 n) K41 v1 v2 v3 M = some (rz, Mz) → W p l e rm_R_placePhis s m args below meth c H locs 0 0 Q (F0 m 126 ls []) := by
                        intro v1 v2 v3 M H locs ls hl w h
                        unfold j_R_placePhis_126 at h
                        refine lv_iinc (k := 3) (v := v3 + 1) hx hb d_R_placePhis_126 hl rfl (inc1 _) (by decide) rfl (fun ls hl => ?_)
                        have hl : lv_has ls 5 [(3, .int (v3 + 1)), (0, .ref (q 0)), (1, .int v1), (2, .int v2)] := hl
                        refine lv_goto (tgt := 41) hx hb d_R_placePhis_129 (by decide) ?_
                        exact ih41 _ _ _ _ _ _ _ (lv_sub hl [1, 2, 3, 0] rfl) w h
                      refine lv_if_eq (tgt := 126) hx hb d_R_placePhis_57 (by decide) (fun hc => ?_) (fun hc => ?_)
                      · rw [if_pos hc] at h
                        exact hJ126 _ _ _ _ _ _ _ (lv_sub hl [0, 1, 2, 3] rfl) w h
                      · rw [if_neg hc] at h
                        refine lv_aload_n hx hb d_R_placePhis_60 rfl (lv_at hl 0 rfl) ?_
                        refine U_get C0 w 0 (by decide) rfl rfl inR 12 (by decide) wd_840 rfl d_R_placePhis_61 ?_
                        refine lv_iload_n hx hb d_R_placePhis_64 rfl (lv_at hl 3 rfl) ?_
                        obtain ⟨r10, M11, hc12, h⟩ := bind_ok h
                        try dsimp only at h
                        refine U_si (rest := []) C0 w (c_R_has l D ct q hc12) wd_1014 wd_1012 wd_1013 wd_8 (n9 := 2) (by decide +kernel) rfl ⟨(Nat.le_of_ble_eq_true rfl), (Nat.le_of_ble_eq_true rfl)⟩ hl.1 rfl (Nat.le_of_ble_eq_true rfl) d_R_placePhis_65 (Nat.le_of_ble_eq_true rfl) (Nat.le_of_ble_eq_true rfl) (fun H locs w => ?_)
                        refine lv_if_eq (tgt := 126) hx hb d_R_placePhis_68 (by decide) (fun hc => ?_) (fun hc => ?_)
                        · rw [if_pos hc] at h
                          exact hJ126 _ _ _ _ _ _ _ (lv_sub hl [0, 1, 2, 3] rfl) w h
                        · rw [if_neg hc] at h
                          refine lv_aload_n hx hb d_R_placePhis_71 rfl (lv_at hl 0 rfl) ?_
                          refine lv_iload_n hx hb d_R_placePhis_72 rfl (lv_at hl 2 rfl) ?_
                          refine lv_iload_n hx hb d_R_placePhis_73 rfl (lv_at hl 3 rfl) ?_
                          obtain ⟨r13, M14, hc15, h⟩ := bind_ok h
                          try dsimp only at h
                          refine U_vi (rest := []) C0 w 0 (wU_at (by decide)) rfl (c_R_isInFrontier l D ct q hc15) wd_1033 wd_1030 wd_1032 ws_41 wd_8 (n9 := 2) (by decide +kernel) rfl ⟨(Nat.le_of_ble_eq_true rfl), (Nat.le_of_ble_eq_true rfl)⟩ hl.1 rfl (Nat.le_of_ble_eq_true rfl) d_R_placePhis_74 (Nat.le_of_ble_eq_true rfl) (Nat.le_of_ble_eq_true rfl) (fun H locs w => ?_)
                          refine lv_if_ne (tgt := 83) hx hb d_R_placePhis_77 (by decide) (fun hc => ?_) (fun hc => ?_)
                          · rw [if_neg hc] at h
                            refine lv_aload_n hx hb d_R_placePhis_83 rfl (lv_at hl 0 rfl) ?_
                            refine U_get C0 w 0 (by decide) rfl rfl inR 16 (by decide) wd_844 rfl d_R_placePhis_84 ?_
                            refine lv_iload_n hx hb d_R_placePhis_87 rfl (lv_at hl 3 rfl) ?_
                            obtain ⟨hi16, h⟩ := if_ok h
                            refine U_ald C0 w (iR_13 ct) hi16 d_R_placePhis_88 ?_
                            refine lv_aload_n hx hb d_R_placePhis_89 rfl (lv_at hl 0 rfl) ?_
                            refine lv_iload_n hx hb d_R_placePhis_90 rfl (lv_at hl 2 rfl) ?_
                            obtain ⟨r17, M18, hc19, h⟩ := bind_ok h
                            try dsimp only at h
                            refine U_vi (rest := [.int (M14 13 v3.toNatClampNeg)]) C0 w 0 (wU_at (by decide)) rfl (c_R_defined l D ct q hc19) wd_1037 wd_1034 wd_1036 ws_42 wd_8 (n9 := 1) (by decide +kernel) rfl ⟨(Nat.le_of_ble_eq_true rfl), (Nat.le_of_ble_eq_true rfl)⟩ hl.1 rfl (Nat.le_of_ble_eq_true rfl) d_R_placePhis_91 (Nat.le_of_ble_eq_true rfl) (Nat.le_of_ble_eq_true rfl) (fun H locs w => ?_)
                            refine lv_ior hx hb d_R_placePhis_94 ?_
                            refine lv_istore hx hb d_R_placePhis_95 hl (by decide) rfl (fun ls hl => ?_)
                            have hl : lv_has ls 5 [(4, .int ((M14 13 v3.toNatClampNeg) ||| r17)), (0, .ref (q 0)), (1, .int v1), (2, .int v2), (3, .int v3)] := hl
                            refine lv_iload_n hx hb d_R_placePhis_97 rfl (lv_at hl 2 rfl) ?_
                            have hJ117 : ∀ (s0 v2 v3 v4 : Int32) (M : Sto) (H : Heap) (locs : List Loc) (ls : Array Slot), lv_has ls 5 [(0, .ref (q 0)), (2, .int v2), (3, .int v3), (4, .int v4)] → Wd D A s (wR ct q M) H locs → j_R_placePhis_117 (l_R_placePhis_41 K41 n) K41 s0 v2 v3 v4 M = some (rz, Mz) → W p l e rm_R_placePhis s m args below meth c H locs 0 0 Q (F0 m 117 ls [.int s0]) := by
                              intro s0 v2 v3 v4 M H locs ls hl w h
                              unfold j_R_placePhis_117 at h
                              refine lv_istore_n hx hb d_R_placePhis_117 rfl hl (by decide) rfl (fun ls hl => ?_)
                              have hl : lv_has ls 5 [(1, .int s0), (0, .ref (q 0)), (2, .int v2), (3, .int v3), (4, .int v4)] := hl
                              refine lv_aload_n hx hb d_R_placePhis_118 rfl (lv_at hl 1 rfl) ?_
                              refine U_get C0 w 0 (by decide) rfl rfl inR 16 (by decide) wd_844 rfl d_R_placePhis_119 ?_
                              refine lv_iload_n hx hb d_R_placePhis_122 rfl (lv_at hl 3 rfl) ?_
                              refine lv_iload hx hb d_R_placePhis_123 (lv_at hl 4 rfl) ?_
                              obtain ⟨hi20, h⟩ := if_ok h
                              obtain ⟨M21, eM21, h⟩ := wr_ok h
                              try dsimp only at h
                              refine U_ast C0 (cR_l ct) w (iR_13 ct) hi20 d_R_placePhis_125 eM21 (fun H locs w => ?_)
                              exact hJ126 _ _ _ _ _ _ _ (lv_sub hl [1, 0, 2, 3] rfl) w h
                            have hJ112 : ∀ (v2 v3 v4 : Int32) (M : Sto) (H : Heap) (locs : List Loc) (ls : Array Slot), lv_has ls 5 [(0, .ref (q 0)), (2, .int v2), (3, .int v3), (4, .int v4)] → Wd D A s (wR ct q M) H locs → j_R_placePhis_112 (l_R_placePhis_41 K41 n) K41 v2 v3 v4 M = some (rz, Mz) → W p l e rm_R_placePhis s m args below meth c H locs 0 0 Q (F0 m 112 ls []) := by
                              intro v2 v3 v4 M H locs ls hl w h
                              unfold j_R_placePhis_112 at h
                              refine lv_iconst (v := 1) hx hb d_R_placePhis_112 (by decide) ?_
                              refine lv_goto (tgt := 117) hx hb d_R_placePhis_113 (by decide) ?_
                              exact hJ117 _ _ _ _ _ _ _ _ (lv_sub hl [0, 1, 2, 3] rfl) w h
                            refine lv_if_ne (tgt := 112) hx hb d_R_placePhis_98 (by decide) (fun hc => ?_) (fun hc => ?_)
                            · rw [if_neg hc] at h
                              exact hJ112 _ _ _ _ _ _ _ (lv_sub hl [1, 3, 4, 0] rfl) w h
                            · rw [if_pos hc] at h
                              refine lv_iload hx hb d_R_placePhis_101 (lv_at hl 0 rfl) ?_
                              refine lv_aload_n hx hb d_R_placePhis_103 rfl (lv_at hl 1 rfl) ?_
                              refine U_get C0 w 0 (by decide) rfl rfl inR 16 (by decide) wd_844 rfl d_R_placePhis_104 ?_
                              refine lv_iload_n hx hb d_R_placePhis_107 rfl (lv_at hl 4 rfl) ?_
                              obtain ⟨hi22, h⟩ := if_ok h
                              refine U_ald C0 w (iR_13 ct) hi22 d_R_placePhis_108 ?_
                              refine lv_icmp_eq (tgt := 116) hx hb d_R_placePhis_109 (by decide) (fun hc => ?_) (fun hc => ?_)
                              · rw [if_pos hc] at h
                                refine lv_iconst (v := 0) hx hb d_R_placePhis_116 (by decide) ?_
                                exact hJ117 _ _ _ _ _ _ _ _ (lv_sub hl [1, 3, 4, 0] rfl) w h
                              · rw [if_neg hc] at h
                                exact hJ112 _ _ _ _ _ _ _ (lv_sub hl [1, 3, 4, 0] rfl) w h
                          · rw [if_pos hc] at h
                            refine lv_goto (tgt := 126) hx hb d_R_placePhis_80 (by decide) ?_
                            exact hJ126 _ _ _ _ _ _ _ (lv_sub hl [0, 1, 2, 3] rfl) w h
                exact hL41 FU _ _ _ _ _ _ _ (lv_sub hl [1, 2, 3, 0] rfl) w h
          exact hL31 FU _ _ _ _ _ _ (lv_sub hl [2, 1, 0] rfl) w h
    exact hL23 FU _ _ _ _ _ (lv_sub hl [1, 0] rfl) w h
  have hL2 : ∀ (n : Nat) (v1 : Int32) (M : Sto) (H : Heap) (locs : List Loc) (ls : Array Slot), lv_has ls 5 [(0, .ref (q 0)), (1, .int v1)] → Wd D A s (wR ct q M) H locs → l_R_placePhis_2 K2 n v1 M = some (rz, Mz) → W p l e rm_R_placePhis s m args below meth c H locs 0 0 Q (F0 m 2 ls []) := by
    intro n
    induction n with
    | zero => intro v1 M H locs ls hl w h; simp [l_R_placePhis_2] at h
    | succ n ih2 =>
      intro v1 M H locs ls hl w h
      unfold l_R_placePhis_2 at h
      refine lv_iload_n hx hb d_R_placePhis_2 rfl (lv_at hl 1 rfl) ?_
      refine lv_bipush (v := 10) hx hb d_R_placePhis_3 (by decide) ?_
      refine lv_icmp_ge (tgt := 21) hx hb d_R_placePhis_5 (by decide) (fun hc => ?_) (fun hc => ?_)
      · rw [if_pos hc] at h
        exact hE2 _ _ _ _ (lv_sub hl [0] rfl) w h
      · rw [if_neg hc] at h
        refine lv_aload_n hx hb d_R_placePhis_8 rfl (lv_at hl 0 rfl) ?_
        refine U_get C0 w 0 (by decide) rfl rfl inR 16 (by decide) wd_844 rfl d_R_placePhis_9 ?_
        refine lv_iload_n hx hb d_R_placePhis_12 rfl (lv_at hl 1 rfl) ?_
        refine lv_iconst (v := 0) hx hb d_R_placePhis_13 (by decide) ?_
        obtain ⟨hi23, h⟩ := if_ok h
        obtain ⟨M24, eM24, h⟩ := wr_ok h
        try dsimp only at h
        refine U_ast C0 (cR_l ct) w (iR_13 ct) hi23 d_R_placePhis_14 eM24 (fun H locs w => ?_)
        refine lv_iinc (k := 1) (v := v1 + 1) hx hb d_R_placePhis_15 hl rfl (inc1 _) (by decide) rfl (fun ls hl => ?_)
        have hl : lv_has ls 5 [(1, .int (v1 + 1)), (0, .ref (q 0))] := hl
        refine lv_goto (tgt := 2) hx hb d_R_placePhis_18 (by decide) ?_
        exact ih2 _ _ _ _ _ (lv_sub hl [1, 0] rfl) w h
  exact hL2 FU _ _ _ _ _ (lv_sub hl [1, 0] rfl) w h
abbrev rm_R_named : Room := { frames := 0, cells := 0, slots := 0, locals := 0 }
set_option maxHeartbeats 8000000 in
set_option maxRecDepth 100000 in
theorem c_R_named (l : Launch) (D : va_G) (ct : Nat → ClassId) (q : Nat → Nat) {x1 x2 : Int32} {M Mz : Sto} {rz : Int32} (h : m_R_named x1 x2 M = some (rz, Mz)) : KI l D ct y_R_named b_R_named 3 (some .int) 0 0 [.ref (q 0), .int x1, .int x2] (wR ct q M) rz (wR ct q Mz) := by
  refine KI.ofU (by decide) (Nat.le_of_ble_eq_true rfl) rfl ?_
  intro p e s m args below meth c A Q ls C0 hl w hret
  have hx := C0.1
  have hb := C0.2.1
  have hl : lv_has ls 3 [(0, .ref (q 0)), (1, .int x1), (2, .int x2)] := hl
  unfold m_R_named at h
  refine lv_aload_n hx hb d_R_named_0 rfl (lv_at hl 0 rfl) ?_
  refine U_get C0 w 0 (by decide) rfl rfl inR 18 (by decide) wd_846 rfl d_R_named_1 ?_
  refine lv_aload_n hx hb d_R_named_4 rfl (lv_at hl 0 rfl) ?_
  refine U_get C0 w 0 (by decide) rfl rfl inR 17 (by decide) wd_845 rfl d_R_named_5 ?_
  refine lv_iload_n hx hb d_R_named_8 rfl (lv_at hl 1 rfl) ?_
  obtain ⟨hi4, h⟩ := if_ok h
  obtain ⟨M5, eM5, h⟩ := wr_ok h
  try dsimp only at h
  refine U_ast C0 (cR_l ct) w (iR_14 ct) hi4 d_R_named_9 eM5 (fun H locs w => ?_)
  refine lv_aload_n hx hb d_R_named_10 rfl (lv_at hl 0 rfl) ?_
  refine U_get C0 w 0 (by decide) rfl rfl inR 19 (by decide) wd_847 rfl d_R_named_11 ?_
  refine lv_aload_n hx hb d_R_named_14 rfl (lv_at hl 0 rfl) ?_
  refine U_get C0 w 0 (by decide) rfl rfl inR 17 (by decide) wd_845 rfl d_R_named_15 ?_
  refine lv_iload_n hx hb d_R_named_18 rfl (lv_at hl 2 rfl) ?_
  obtain ⟨hi6, h⟩ := if_ok h
  obtain ⟨M7, eM7, h⟩ := wr_ok h
  try dsimp only at h
  refine U_ast C0 (cR_l ct) w (iR_15 ct) hi6 d_R_named_19 eM7 (fun H locs w => ?_)
  refine lv_aload_n hx hb d_R_named_20 rfl (lv_at hl 0 rfl) ?_
  refine lv_dup hx hb d_R_named_21 rfl ?_
  refine U_get C0 w 0 (by decide) rfl rfl inR 17 (by decide) wd_845 rfl d_R_named_22 ?_
  refine lv_iconst (v := 1) hx hb d_R_named_25 (by decide) ?_
  refine lv_iadd hx hb d_R_named_26 ?_
  obtain ⟨M8, eM8, h⟩ := wr_ok h
  try dsimp only at h
  refine U_put C0 (cR_l ct) w 0 (by decide) rfl rfl inR tyR_ok nmR 17 (by decide) wd_845 rfl rfl rfl (Nat.le_of_ble_eq_true rfl) d_R_named_27 eM8 rfl (fun H locs w => ?_)
  refine lv_aload_n hx hb d_R_named_30 rfl (lv_at hl 0 rfl) ?_
  refine U_get C0 w 0 (by decide) rfl rfl inR 17 (by decide) wd_845 rfl d_R_named_31 ?_
  refine lv_iconst (v := 1) hx hb d_R_named_34 (by decide) ?_
  refine lv_isub hx hb d_R_named_35 ?_
  cases h
  exact hret _ _ _ _ d_R_named_36 rfl w
end
section
abbrev rm_R_nameBlock : Room := { frames := 1, cells := 0, slots := 0, locals := 22 }
set_option maxHeartbeats 8000000 in
set_option maxRecDepth 100000 in
theorem c_R_nameBlock (l : Launch) (D : va_G) (ct : Nat → ClassId) (q : Nat → Nat) {x1 : Int32} {M Mz : Sto} {rz : Int32} (h : m_R_nameBlock x1 M = some (rz, Mz)) : KV l D ct y_R_nameBlock b_R_nameBlock 5 1 22 0 0 [.ref (q 0), .int x1] (wR ct q M) (fun A t => CE D (wR ct q Mz) A t) := by
  refine KV.ofU (by decide) (Nat.le_of_ble_eq_true rfl) ?_
  intro p e s m args below meth c A Q ls C0 hl w hret
  have hx := C0.1
  have hb := C0.2.1
  have hl : lv_has ls 5 [(0, .ref (q 0)), (1, .int x1)] := hl
  unfold m_R_nameBlock at h
  refine lv_bipush (v := 6) hx hb d_R_nameBlock_0 (by decide) ?_
  refine lv_iload_n hx hb d_R_nameBlock_2 rfl (lv_at hl 1 rfl) ?_
  refine lv_imul hx hb d_R_nameBlock_3 ?_
  refine lv_istore_n hx hb d_R_nameBlock_4 rfl hl (by decide) rfl (fun ls hl => ?_)
  have hl : lv_has ls 5 [(2, .int (6 * x1)), (0, .ref (q 0)), (1, .int x1)] := hl
  refine lv_iconst (v := 0) hx hb d_R_nameBlock_5 (by decide) ?_
  refine lv_istore_n hx hb d_R_nameBlock_6 rfl hl (by decide) rfl (fun ls hl => ?_)
  have hl : lv_has ls 5 [(3, .int 0), (2, .int (6 * x1)), (0, .ref (q 0)), (1, .int x1)] := hl
  generalize eK7 : j_R_nameBlock_98 = K7 at h
  have hE7 : ∀ (v1 v2 : Int32) (M : Sto) (H : Heap) (locs : List Loc) (ls : Array Slot), lv_has ls 5 [(0, .ref (q 0)), (1, .int v1), (2, .int v2)] → Wd D A s (wR ct q M) H locs → K7 v1 v2 M = some (rz, Mz) → W p l e rm_R_nameBlock s m args below meth c H locs 0 0 Q (F0 m 98 ls []) := by
    intro v1 v2 M H locs ls hl w h
    rw [← eK7] at h
    unfold j_R_nameBlock_98 at h
    refine lv_iload_n hx hb d_R_nameBlock_98 rfl (lv_at hl 2 rfl) ?_
    refine lv_istore_n hx hb d_R_nameBlock_99 rfl hl (by decide) rfl (fun ls hl => ?_)
    have hl : lv_has ls 5 [(3, .int v2), (0, .ref (q 0)), (1, .int v1), (2, .int v2)] := hl
    generalize eK100 : j_R_nameBlock_239 = K100 at h
    have hE100 : ∀ (v1 v2 : Int32) (M : Sto) (H : Heap) (locs : List Loc) (ls : Array Slot), lv_has ls 5 [(0, .ref (q 0)), (1, .int v1), (2, .int v2)] → Wd D A s (wR ct q M) H locs → K100 v1 v2 M = some (rz, Mz) → W p l e rm_R_nameBlock s m args below meth c H locs 0 0 Q (F0 m 239 ls []) := by
      intro v1 v2 M H locs ls hl w h
      rw [← eK100] at h
      unfold j_R_nameBlock_239 at h
      refine lv_aload_n hx hb d_R_nameBlock_239 rfl (lv_at hl 0 rfl) ?_
      refine U_get C0 w 0 (by decide) rfl rfl inR 24 (by decide) wd_852 rfl d_R_nameBlock_240 ?_
      refine lv_iload_n hx hb d_R_nameBlock_243 rfl (lv_at hl 1 rfl) ?_
      refine lv_aload_n hx hb d_R_nameBlock_244 rfl (lv_at hl 0 rfl) ?_
      refine U_get C0 w 0 (by decide) rfl rfl inR 7 (by decide) wd_835 rfl d_R_nameBlock_245 ?_
      refine lv_iload_n hx hb d_R_nameBlock_248 rfl (lv_at hl 1 rfl) ?_
      obtain ⟨hi16, h⟩ := if_ok h
      refine U_ald C0 w (iR_6 ct) hi16 d_R_nameBlock_249 ?_
      refine lv_iconst (v := 2) hx hb d_R_nameBlock_250 (by decide) ?_
      have hJ271 : ∀ (s0 s1 : Int32) (M : Sto) (H : Heap) (locs : List Loc) (ls : Array Slot), lv_has ls 5 [] → Wd D A s (wR ct q M) H locs → j_R_nameBlock_271 s0 s1 M = some (rz, Mz) → W p l e rm_R_nameBlock s m args below meth c H locs 0 0 Q (F0 m 271 ls [.int s0, .int s1, .ref (q 20)]) := by
        intro s0 s1 M H locs ls hl w h
        unfold j_R_nameBlock_271 at h
        obtain ⟨hi17, h⟩ := if_ok h
        obtain ⟨M18, eM18, h⟩ := wr_ok h
        try dsimp only at h
        refine U_ast C0 (cR_l ct) w (iR_20 ct) hi17 d_R_nameBlock_271 eM18 (fun H locs w => ?_)
        cases h
        exact hret _ _ _ _ d_R_nameBlock_272 w
      refine lv_icmp_ne (tgt := 270) hx hb d_R_nameBlock_251 (by decide) (fun hc => ?_) (fun hc => ?_)
      · rw [if_neg hc] at h
        refine lv_iconst (v := (-1)) hx hb d_R_nameBlock_270 (by decide) ?_
        exact hJ271 _ _ _ _ _ _ (lv_sub hl [] rfl) w h
      · rw [if_pos hc] at h
        refine lv_aload_n hx hb d_R_nameBlock_254 rfl (lv_at hl 0 rfl) ?_
        refine U_get C0 w 0 (by decide) rfl rfl inR 25 (by decide) wd_853 rfl d_R_nameBlock_255 ?_
        refine lv_iload_n hx hb d_R_nameBlock_258 rfl (lv_at hl 2 rfl) ?_
        refine lv_aload_n hx hb d_R_nameBlock_259 rfl (lv_at hl 0 rfl) ?_
        refine U_get C0 w 0 (by decide) rfl rfl inR 8 (by decide) wd_836 rfl d_R_nameBlock_260 ?_
        refine lv_iload_n hx hb d_R_nameBlock_263 rfl (lv_at hl 1 rfl) ?_
        obtain ⟨hi19, h⟩ := if_ok h
        refine U_ald C0 w (iR_7 ct) hi19 d_R_nameBlock_264 ?_
        refine lv_iadd hx hb d_R_nameBlock_265 ?_
        obtain ⟨hi20, h⟩ := if_ok h
        refine U_ald C0 w (iR_21 ct) hi20 d_R_nameBlock_266 ?_
        refine lv_goto (tgt := 271) hx hb d_R_nameBlock_267 (by decide) ?_
        exact hJ271 _ _ _ _ _ _ (lv_sub hl [] rfl) w h
    have hL100 : ∀ (n : Nat) (v1 v2 v3 : Int32) (M : Sto) (H : Heap) (locs : List Loc) (ls : Array Slot), lv_has ls 5 [(0, .ref (q 0)), (1, .int v1), (2, .int v2), (3, .int v3)] → Wd D A s (wR ct q M) H locs → l_R_nameBlock_100 K100 n v1 v2 v3 M = some (rz, Mz) → W p l e rm_R_nameBlock s m args below meth c H locs 0 0 Q (F0 m 100 ls []) := by
      intro n
      induction n with
      | zero => intro v1 v2 v3 M H locs ls hl w h; simp [l_R_nameBlock_100] at h
      | succ n ih100 =>
        intro v1 v2 v3 M H locs ls hl w h
        unfold l_R_nameBlock_100 at h
        refine lv_iload_n hx hb d_R_nameBlock_100 rfl (lv_at hl 3 rfl) ?_
        refine lv_iload_n hx hb d_R_nameBlock_101 rfl (lv_at hl 2 rfl) ?_
        refine lv_aload_n hx hb d_R_nameBlock_102 rfl (lv_at hl 0 rfl) ?_
        refine U_get C0 w 0 (by decide) rfl rfl inR 2 (by decide) wd_830 rfl d_R_nameBlock_103 ?_
        refine lv_iload_n hx hb d_R_nameBlock_106 rfl (lv_at hl 1 rfl) ?_
        obtain ⟨hi21, h⟩ := if_ok h
        refine U_ald C0 w (iR_1 ct) hi21 d_R_nameBlock_107 ?_
        refine lv_iadd hx hb d_R_nameBlock_108 ?_
        refine lv_icmp_ge (tgt := 239) hx hb d_R_nameBlock_109 (by decide) (fun hc => ?_) (fun hc => ?_)
        · rw [if_pos hc] at h
          exact hE100 _ _ _ _ _ _ (lv_sub hl [0, 1, 2] rfl) w h
        · rw [if_neg hc] at h
          refine lv_aload_n hx hb d_R_nameBlock_112 rfl (lv_at hl 0 rfl) ?_
          refine U_get C0 w 0 (by decide) rfl rfl inR 3 (by decide) wd_831 rfl d_R_nameBlock_113 ?_
          refine lv_iload_n hx hb d_R_nameBlock_116 rfl (lv_at hl 3 rfl) ?_
          obtain ⟨hi22, h⟩ := if_ok h
          refine U_ald C0 w (iR_2 ct) hi22 d_R_nameBlock_117 ?_
          refine lv_istore hx hb d_R_nameBlock_118 hl (by decide) rfl (fun ls hl => ?_)
          have hl : lv_has ls 5 [(4, .int (M 2 v3.toNatClampNeg)), (0, .ref (q 0)), (1, .int v1), (2, .int v2), (3, .int v3)] := hl
          refine lv_aload_n hx hb d_R_nameBlock_120 rfl (lv_at hl 1 rfl) ?_
          refine U_get C0 w 0 (by decide) rfl rfl inR 22 (by decide) wd_850 rfl d_R_nameBlock_121 ?_
          refine lv_iload_n hx hb d_R_nameBlock_124 rfl (lv_at hl 4 rfl) ?_
          refine lv_iload hx hb d_R_nameBlock_125 (lv_at hl 0 rfl) ?_
          obtain ⟨r23, M24, hc25, h⟩ := bind_ok h
          try dsimp only at h
          refine U_si (rest := [.int v3, .ref (q 18)]) C0 w (c_R_usesFirst l D ct q hc25) wd_980 wd_978 wd_979 wd_8 (n9 := 1) (by decide +kernel) rfl ⟨(Nat.le_of_ble_eq_true rfl), (Nat.le_of_ble_eq_true rfl)⟩ hl.1 rfl (Nat.le_of_ble_eq_true rfl) d_R_nameBlock_127 (Nat.le_of_ble_eq_true rfl) (Nat.le_of_ble_eq_true rfl) (fun H locs w => ?_)
          have hJ150 : ∀ (s0 s1 v1 v2 v3 v4 : Int32) (M : Sto) (H : Heap) (locs : List Loc) (ls : Array Slot), lv_has ls 5 [(0, .ref (q 0)), (1, .int v1), (2, .int v2), (3, .int v3), (4, .int v4)] → Wd D A s (wR ct q M) H locs → j_R_nameBlock_150 (l_R_nameBlock_100 K100 n) K100 s0 s1 v1 v2 v3 v4 M = some (rz, Mz) → W p l e rm_R_nameBlock s m args below meth c H locs 0 0 Q (F0 m 150 ls [.int s0, .int s1, .ref (q 18)]) := by
            intro s0 s1 v1 v2 v3 v4 M H locs ls hl w h
            unfold j_R_nameBlock_150 at h
            obtain ⟨hi26, h⟩ := if_ok h
            obtain ⟨M27, eM27, h⟩ := wr_ok h
            try dsimp only at h
            refine U_ast C0 (cR_l ct) w (iR_18 ct) hi26 d_R_nameBlock_150 eM27 (fun H locs w => ?_)
            refine lv_aload_n hx hb d_R_nameBlock_151 rfl (lv_at hl 0 rfl) ?_
            refine U_get C0 w 0 (by decide) rfl rfl inR 23 (by decide) wd_851 rfl d_R_nameBlock_152 ?_
            refine lv_iload_n hx hb d_R_nameBlock_155 rfl (lv_at hl 3 rfl) ?_
            refine lv_iload hx hb d_R_nameBlock_156 (lv_at hl 4 rfl) ?_
            obtain ⟨r28, M29, hc30, h⟩ := bind_ok h
            try dsimp only at h
            refine U_si (rest := [.int v3, .ref (q 19)]) C0 w (c_R_usesSecond l D ct q hc30) wd_983 wd_981 wd_982 wd_8 (n9 := 1) (by decide +kernel) rfl ⟨(Nat.le_of_ble_eq_true rfl), (Nat.le_of_ble_eq_true rfl)⟩ hl.1 rfl (Nat.le_of_ble_eq_true rfl) d_R_nameBlock_158 (Nat.le_of_ble_eq_true rfl) (Nat.le_of_ble_eq_true rfl) (fun H locs w => ?_)
            have hJ181 : ∀ (s0 s1 v1 v2 v3 v4 : Int32) (M : Sto) (H : Heap) (locs : List Loc) (ls : Array Slot), lv_has ls 5 [(0, .ref (q 0)), (1, .int v1), (2, .int v2), (3, .int v3), (4, .int v4)] → Wd D A s (wR ct q M) H locs → j_R_nameBlock_181 (l_R_nameBlock_100 K100 n) K100 s0 s1 v1 v2 v3 v4 M = some (rz, Mz) → W p l e rm_R_nameBlock s m args below meth c H locs 0 0 Q (F0 m 181 ls [.int s0, .int s1, .ref (q 19)]) := by
              intro s0 s1 v1 v2 v3 v4 M H locs ls hl w h
              unfold j_R_nameBlock_181 at h
              obtain ⟨hi31, h⟩ := if_ok h
              obtain ⟨M32, eM32, h⟩ := wr_ok h
              try dsimp only at h
              refine U_ast C0 (cR_l ct) w (iR_19 ct) hi31 d_R_nameBlock_181 eM32 (fun H locs w => ?_)
              refine lv_aload_n hx hb d_R_nameBlock_182 rfl (lv_at hl 0 rfl) ?_
              refine U_get C0 w 0 (by decide) rfl rfl inR 21 (by decide) wd_849 rfl d_R_nameBlock_183 ?_
              refine lv_iload_n hx hb d_R_nameBlock_186 rfl (lv_at hl 3 rfl) ?_
              refine lv_iload hx hb d_R_nameBlock_187 (lv_at hl 4 rfl) ?_
              obtain ⟨r33, M34, hc35, h⟩ := bind_ok h
              try dsimp only at h
              refine U_si (rest := [.int v3, .ref (q 17)]) C0 w (c_R_setsOne l D ct q hc35) wd_974 wd_972 wd_973 wd_8 (n9 := 1) (by decide +kernel) rfl ⟨(Nat.le_of_ble_eq_true rfl), (Nat.le_of_ble_eq_true rfl)⟩ hl.1 rfl (Nat.le_of_ble_eq_true rfl) d_R_nameBlock_189 (Nat.le_of_ble_eq_true rfl) (Nat.le_of_ble_eq_true rfl) (fun H locs w => ?_)
              have hJ205 : ∀ (s0 s1 v1 v2 v3 v4 : Int32) (M : Sto) (H : Heap) (locs : List Loc) (ls : Array Slot), lv_has ls 5 [(0, .ref (q 0)), (1, .int v1), (2, .int v2), (3, .int v3), (4, .int v4)] → Wd D A s (wR ct q M) H locs → j_R_nameBlock_205 (l_R_nameBlock_100 K100 n) K100 s0 s1 v1 v2 v3 v4 M = some (rz, Mz) → W p l e rm_R_nameBlock s m args below meth c H locs 0 0 Q (F0 m 205 ls [.int s0, .int s1, .ref (q 17)]) := by
                intro s0 s1 v1 v2 v3 v4 M H locs ls hl w h
                unfold j_R_nameBlock_205 at h
                obtain ⟨hi36, h⟩ := if_ok h
                obtain ⟨M37, eM37, h⟩ := wr_ok h
                try dsimp only at h
                refine U_ast C0 (cR_l ct) w (iR_17 ct) hi36 d_R_nameBlock_205 eM37 (fun H locs w => ?_)
                refine lv_iload hx hb d_R_nameBlock_206 (lv_at hl 4 rfl) ?_
                obtain ⟨r38, M39, hc40, h⟩ := bind_ok h
                try dsimp only at h
                refine U_si (rest := []) C0 w (c_R_setsOne l D ct q hc40) wd_974 wd_972 wd_973 wd_8 (n9 := 1) (by decide +kernel) rfl ⟨(Nat.le_of_ble_eq_true rfl), (Nat.le_of_ble_eq_true rfl)⟩ hl.1 rfl (Nat.le_of_ble_eq_true rfl) d_R_nameBlock_208 (Nat.le_of_ble_eq_true rfl) (Nat.le_of_ble_eq_true rfl) (fun H locs w => ?_)
                have hJ233 : ∀ (v1 v2 v3 : Int32) (M : Sto) (H : Heap) (locs : List Loc) (ls : Array Slot), lv_has ls 5 [(0, .ref (q 0)), (1, .int v1), (2, .int v2), (3, .int v3)] → Wd D A s (wR ct q M) H locs → j_R_nameBlock_233 (l_R_nameBlock_100 K100 n) K100 v1 v2 v3 M = some (rz, Mz) → W p l e rm_R_nameBlock s m args below meth c H locs 0 0 Q (F0 m 233 ls []) := by
                  intro v1 v2 v3 M H locs ls hl w h
                  unfold j_R_nameBlock_233 at h
                  refine lv_iinc (k := 3) (v := v3 + 1) hx hb d_R_nameBlock_233 hl rfl (inc1 _) (by decide) rfl (fun ls hl => ?_)
                  have hl : lv_has ls 5 [(3, .int (v3 + 1)), (0, .ref (q 0)), (1, .int v1), (2, .int v2)] := hl
                  refine lv_goto (tgt := 100) hx hb d_R_nameBlock_236 (by decide) ?_
                  exact ih100 _ _ _ _ _ _ _ (lv_sub hl [1, 2, 3, 0] rfl) w h
                refine lv_if_eq (tgt := 233) hx hb d_R_nameBlock_211 (by decide) (fun hc => ?_) (fun hc => ?_)
                · rw [if_pos hc] at h
                  exact hJ233 _ _ _ _ _ _ _ (lv_sub hl [0, 1, 2, 3] rfl) w h
                · rw [if_neg hc] at h
                  refine lv_aload_n hx hb d_R_nameBlock_214 rfl (lv_at hl 0 rfl) ?_
                  refine U_get C0 w 0 (by decide) rfl rfl inR 25 (by decide) wd_853 rfl d_R_nameBlock_215 ?_
                  refine lv_iload_n hx hb d_R_nameBlock_218 rfl (lv_at hl 2 rfl) ?_
                  refine lv_aload_n hx hb d_R_nameBlock_219 rfl (lv_at hl 0 rfl) ?_
                  refine U_get C0 w 0 (by decide) rfl rfl inR 4 (by decide) wd_832 rfl d_R_nameBlock_220 ?_
                  refine lv_iload_n hx hb d_R_nameBlock_223 rfl (lv_at hl 3 rfl) ?_
                  obtain ⟨hi41, h⟩ := if_ok h
                  refine U_ald C0 w (iR_3 ct) hi41 d_R_nameBlock_224 ?_
                  refine lv_iadd hx hb d_R_nameBlock_225 ?_
                  refine lv_aload_n hx hb d_R_nameBlock_226 rfl (lv_at hl 0 rfl) ?_
                  refine U_get C0 w 0 (by decide) rfl rfl inR 21 (by decide) wd_849 rfl d_R_nameBlock_227 ?_
                  refine lv_iload_n hx hb d_R_nameBlock_230 rfl (lv_at hl 3 rfl) ?_
                  obtain ⟨hi42, h⟩ := if_ok h
                  refine U_ald C0 w (iR_17 ct) hi42 d_R_nameBlock_231 ?_
                  obtain ⟨hi43, h⟩ := if_ok h
                  obtain ⟨M44, eM44, h⟩ := wr_ok h
                  try dsimp only at h
                  refine U_ast C0 (cR_l ct) w (iR_21 ct) hi43 d_R_nameBlock_232 eM44 (fun H locs w => ?_)
                  exact hJ233 _ _ _ _ _ _ _ (lv_sub hl [0, 1, 2, 3] rfl) w h
              refine lv_if_eq (tgt := 204) hx hb d_R_nameBlock_192 (by decide) (fun hc => ?_) (fun hc => ?_)
              · rw [if_pos hc] at h
                refine lv_iconst (v := (-1)) hx hb d_R_nameBlock_204 (by decide) ?_
                exact hJ205 _ _ _ _ _ _ _ _ _ _ (lv_sub hl [0, 1, 2, 3, 4] rfl) w h
              · rw [if_neg hc] at h
                refine lv_aload_n hx hb d_R_nameBlock_195 rfl (lv_at hl 0 rfl) ?_
                refine lv_iload_n hx hb d_R_nameBlock_196 rfl (lv_at hl 1 rfl) ?_
                refine lv_iload_n hx hb d_R_nameBlock_197 rfl (lv_at hl 3 rfl) ?_
                obtain ⟨r45, M46, hc47, h⟩ := bind_ok h
                try dsimp only at h
                refine U_vi (rest := [.int v3, .ref (q 17)]) C0 w 0 (wU_at (by decide)) rfl (c_R_named l D ct q hc47) wd_1049 wd_1046 wd_1048 ws_45 wd_8 (n9 := 2) (by decide +kernel) rfl ⟨(Nat.le_of_ble_eq_true rfl), (Nat.le_of_ble_eq_true rfl)⟩ hl.1 rfl (Nat.le_of_ble_eq_true rfl) d_R_nameBlock_198 (Nat.le_of_ble_eq_true rfl) (Nat.le_of_ble_eq_true rfl) (fun H locs w => ?_)
                refine lv_goto (tgt := 205) hx hb d_R_nameBlock_201 (by decide) ?_
                exact hJ205 _ _ _ _ _ _ _ _ _ _ (lv_sub hl [0, 1, 2, 3, 4] rfl) w h
            refine lv_if_eq (tgt := 180) hx hb d_R_nameBlock_161 (by decide) (fun hc => ?_) (fun hc => ?_)
            · rw [if_pos hc] at h
              refine lv_iconst (v := (-1)) hx hb d_R_nameBlock_180 (by decide) ?_
              exact hJ181 _ _ _ _ _ _ _ _ _ _ (lv_sub hl [0, 1, 2, 3, 4] rfl) w h
            · rw [if_neg hc] at h
              refine lv_aload_n hx hb d_R_nameBlock_164 rfl (lv_at hl 0 rfl) ?_
              refine U_get C0 w 0 (by decide) rfl rfl inR 25 (by decide) wd_853 rfl d_R_nameBlock_165 ?_
              refine lv_iload_n hx hb d_R_nameBlock_168 rfl (lv_at hl 2 rfl) ?_
              refine lv_aload_n hx hb d_R_nameBlock_169 rfl (lv_at hl 0 rfl) ?_
              refine U_get C0 w 0 (by decide) rfl rfl inR 6 (by decide) wd_834 rfl d_R_nameBlock_170 ?_
              refine lv_iload_n hx hb d_R_nameBlock_173 rfl (lv_at hl 3 rfl) ?_
              obtain ⟨hi48, h⟩ := if_ok h
              refine U_ald C0 w (iR_5 ct) hi48 d_R_nameBlock_174 ?_
              refine lv_iadd hx hb d_R_nameBlock_175 ?_
              obtain ⟨hi49, h⟩ := if_ok h
              refine U_ald C0 w (iR_21 ct) hi49 d_R_nameBlock_176 ?_
              refine lv_goto (tgt := 181) hx hb d_R_nameBlock_177 (by decide) ?_
              exact hJ181 _ _ _ _ _ _ _ _ _ _ (lv_sub hl [0, 1, 2, 3, 4] rfl) w h
          refine lv_if_eq (tgt := 149) hx hb d_R_nameBlock_130 (by decide) (fun hc => ?_) (fun hc => ?_)
          · rw [if_pos hc] at h
            refine lv_iconst (v := (-1)) hx hb d_R_nameBlock_149 (by decide) ?_
            exact hJ150 _ _ _ _ _ _ _ _ _ _ (lv_sub hl [1, 2, 3, 4, 0] rfl) w h
          · rw [if_neg hc] at h
            refine lv_aload_n hx hb d_R_nameBlock_133 rfl (lv_at hl 1 rfl) ?_
            refine U_get C0 w 0 (by decide) rfl rfl inR 25 (by decide) wd_853 rfl d_R_nameBlock_134 ?_
            refine lv_iload_n hx hb d_R_nameBlock_137 rfl (lv_at hl 3 rfl) ?_
            refine lv_aload_n hx hb d_R_nameBlock_138 rfl (lv_at hl 1 rfl) ?_
            refine U_get C0 w 0 (by decide) rfl rfl inR 5 (by decide) wd_833 rfl d_R_nameBlock_139 ?_
            refine lv_iload_n hx hb d_R_nameBlock_142 rfl (lv_at hl 4 rfl) ?_
            obtain ⟨hi50, h⟩ := if_ok h
            refine U_ald C0 w (iR_4 ct) hi50 d_R_nameBlock_143 ?_
            refine lv_iadd hx hb d_R_nameBlock_144 ?_
            obtain ⟨hi51, h⟩ := if_ok h
            refine U_ald C0 w (iR_21 ct) hi51 d_R_nameBlock_145 ?_
            refine lv_goto (tgt := 150) hx hb d_R_nameBlock_146 (by decide) ?_
            exact hJ150 _ _ _ _ _ _ _ _ _ _ (lv_sub hl [1, 2, 3, 4, 0] rfl) w h
    exact hL100 FU _ _ _ _ _ _ _ (lv_sub hl [1, 2, 3, 0] rfl) w h
  have hL7 : ∀ (n : Nat) (v1 v2 v3 : Int32) (M : Sto) (H : Heap) (locs : List Loc) (ls : Array Slot), lv_has ls 5 [(0, .ref (q 0)), (1, .int v1), (2, .int v2), (3, .int v3)] → Wd D A s (wR ct q M) H locs → l_R_nameBlock_7 K7 n v1 v2 v3 M = some (rz, Mz) → W p l e rm_R_nameBlock s m args below meth c H locs 0 0 Q (F0 m 7 ls []) := by
    intro n
    induction n with
    | zero => intro v1 v2 v3 M H locs ls hl w h; simp [l_R_nameBlock_7] at h
    | succ n ih7 =>
      intro v1 v2 v3 M H locs ls hl w h
      unfold l_R_nameBlock_7 at h
      refine lv_iload_n hx hb d_R_nameBlock_7 rfl (lv_at hl 3 rfl) ?_
      refine lv_bipush (v := 6) hx hb d_R_nameBlock_8 (by decide) ?_
      refine lv_icmp_ge (tgt := 98) hx hb d_R_nameBlock_10 (by decide) (fun hc => ?_) (fun hc => ?_)
      · rw [if_pos hc] at h
        exact hE7 _ _ _ _ _ _ (lv_sub hl [0, 1, 2] rfl) w h
      · rw [if_neg hc] at h
        refine lv_aload_n hx hb d_R_nameBlock_13 rfl (lv_at hl 0 rfl) ?_
        refine U_get C0 w 0 (by decide) rfl rfl inR 25 (by decide) wd_853 rfl d_R_nameBlock_14 ?_
        refine lv_iload_n hx hb d_R_nameBlock_17 rfl (lv_at hl 2 rfl) ?_
        refine lv_iload_n hx hb d_R_nameBlock_18 rfl (lv_at hl 3 rfl) ?_
        refine lv_iadd hx hb d_R_nameBlock_19 ?_
        refine lv_iload_n hx hb d_R_nameBlock_20 rfl (lv_at hl 1 rfl) ?_
        have hJ44 : ∀ (s0 s1 v1 v2 v3 : Int32) (M : Sto) (H : Heap) (locs : List Loc) (ls : Array Slot), lv_has ls 5 [(0, .ref (q 0)), (1, .int v1), (2, .int v2), (3, .int v3)] → Wd D A s (wR ct q M) H locs → j_R_nameBlock_44 (l_R_nameBlock_7 K7 n) K7 s0 s1 v1 v2 v3 M = some (rz, Mz) → W p l e rm_R_nameBlock s m args below meth c H locs 0 0 Q (F0 m 44 ls [.int s0, .int s1, .ref (q 21)]) := by
          intro s0 s1 v1 v2 v3 M H locs ls hl w h
          unfold j_R_nameBlock_44 at h
          obtain ⟨hi52, h⟩ := if_ok h
          obtain ⟨M53, eM53, h⟩ := wr_ok h
          try dsimp only at h
          refine U_ast C0 (cR_l ct) w (iR_21 ct) hi52 d_R_nameBlock_44 eM53 (fun H locs w => ?_)
          refine lv_aload_n hx hb d_R_nameBlock_45 rfl (lv_at hl 0 rfl) ?_
          refine U_get C0 w 0 (by decide) rfl rfl inR 16 (by decide) wd_844 rfl d_R_nameBlock_46 ?_
          refine lv_iload_n hx hb d_R_nameBlock_49 rfl (lv_at hl 1 rfl) ?_
          obtain ⟨hi54, h⟩ := if_ok h
          refine U_ald C0 w (iR_13 ct) hi54 d_R_nameBlock_50 ?_
          refine lv_iload_n hx hb d_R_nameBlock_51 rfl (lv_at hl 3 rfl) ?_
          obtain ⟨r55, M56, hc57, h⟩ := bind_ok h
          try dsimp only at h
          refine U_si (rest := []) C0 w (c_R_has l D ct q hc57) wd_1014 wd_1012 wd_1013 wd_8 (n9 := 2) (by decide +kernel) rfl ⟨(Nat.le_of_ble_eq_true rfl), (Nat.le_of_ble_eq_true rfl)⟩ hl.1 rfl (Nat.le_of_ble_eq_true rfl) d_R_nameBlock_52 (Nat.le_of_ble_eq_true rfl) (Nat.le_of_ble_eq_true rfl) (fun H locs w => ?_)
          have hJ92 : ∀ (v1 v2 v3 : Int32) (M : Sto) (H : Heap) (locs : List Loc) (ls : Array Slot), lv_has ls 5 [(0, .ref (q 0)), (1, .int v1), (2, .int v2), (3, .int v3)] → Wd D A s (wR ct q M) H locs → j_R_nameBlock_92 (l_R_nameBlock_7 K7 n) K7 v1 v2 v3 M = some (rz, Mz) → W p l e rm_R_nameBlock s m args below meth c H locs 0 0 Q (F0 m 92 ls []) := by
            intro v1 v2 v3 M H locs ls hl w h
            unfold j_R_nameBlock_92 at h
            refine lv_iinc (k := 3) (v := v3 + 1) hx hb d_R_nameBlock_92 hl rfl (inc1 _) (by decide) rfl (fun ls hl => ?_)
            have hl : lv_has ls 5 [(3, .int (v3 + 1)), (0, .ref (q 0)), (1, .int v1), (2, .int v2)] := hl
            refine lv_goto (tgt := 7) hx hb d_R_nameBlock_95 (by decide) ?_
            exact ih7 _ _ _ _ _ _ _ (lv_sub hl [1, 2, 3, 0] rfl) w h
          refine lv_if_eq (tgt := 92) hx hb d_R_nameBlock_55 (by decide) (fun hc => ?_) (fun hc => ?_)
          · rw [if_pos hc] at h
            exact hJ92 _ _ _ _ _ _ _ (lv_sub hl [0, 1, 2, 3] rfl) w h
          · rw [if_neg hc] at h
            refine lv_aload_n hx hb d_R_nameBlock_58 rfl (lv_at hl 0 rfl) ?_
            refine U_get C0 w 0 (by decide) rfl rfl inR 20 (by decide) wd_848 rfl d_R_nameBlock_59 ?_
            refine lv_iload_n hx hb d_R_nameBlock_62 rfl (lv_at hl 2 rfl) ?_
            refine lv_iload_n hx hb d_R_nameBlock_63 rfl (lv_at hl 3 rfl) ?_
            refine lv_iadd hx hb d_R_nameBlock_64 ?_
            refine lv_aload_n hx hb d_R_nameBlock_65 rfl (lv_at hl 0 rfl) ?_
            refine lv_iload_n hx hb d_R_nameBlock_66 rfl (lv_at hl 1 rfl) ?_
            refine lv_iconst (v := (-1)) hx hb d_R_nameBlock_67 (by decide) ?_
            refine lv_iload_n hx hb d_R_nameBlock_68 rfl (lv_at hl 2 rfl) ?_
            refine lv_iload_n hx hb d_R_nameBlock_69 rfl (lv_at hl 3 rfl) ?_
            refine lv_iadd hx hb d_R_nameBlock_70 ?_
            refine lv_isub hx hb d_R_nameBlock_71 ?_
            obtain ⟨r58, M59, hc60, h⟩ := bind_ok h
            try dsimp only at h
            refine U_vi (rest := [.int (v2 + v3), .ref (q 16)]) C0 w 0 (wU_at (by decide)) rfl (c_R_named l D ct q hc60) wd_1049 wd_1046 wd_1048 ws_45 wd_8 (n9 := 2) (by decide +kernel) rfl ⟨(Nat.le_of_ble_eq_true rfl), (Nat.le_of_ble_eq_true rfl)⟩ hl.1 rfl (Nat.le_of_ble_eq_true rfl) d_R_nameBlock_72 (Nat.le_of_ble_eq_true rfl) (Nat.le_of_ble_eq_true rfl) (fun H locs w => ?_)
            obtain ⟨hi61, h⟩ := if_ok h
            obtain ⟨M62, eM62, h⟩ := wr_ok h
            try dsimp only at h
            refine U_ast C0 (cR_l ct) w (iR_16 ct) hi61 d_R_nameBlock_75 eM62 (fun H locs w => ?_)
            refine lv_aload_n hx hb d_R_nameBlock_76 rfl (lv_at hl 0 rfl) ?_
            refine U_get C0 w 0 (by decide) rfl rfl inR 25 (by decide) wd_853 rfl d_R_nameBlock_77 ?_
            refine lv_iload_n hx hb d_R_nameBlock_80 rfl (lv_at hl 2 rfl) ?_
            refine lv_iload_n hx hb d_R_nameBlock_81 rfl (lv_at hl 3 rfl) ?_
            refine lv_iadd hx hb d_R_nameBlock_82 ?_
            refine lv_aload_n hx hb d_R_nameBlock_83 rfl (lv_at hl 0 rfl) ?_
            refine U_get C0 w 0 (by decide) rfl rfl inR 20 (by decide) wd_848 rfl d_R_nameBlock_84 ?_
            refine lv_iload_n hx hb d_R_nameBlock_87 rfl (lv_at hl 2 rfl) ?_
            refine lv_iload_n hx hb d_R_nameBlock_88 rfl (lv_at hl 3 rfl) ?_
            refine lv_iadd hx hb d_R_nameBlock_89 ?_
            obtain ⟨hi63, h⟩ := if_ok h
            refine U_ald C0 w (iR_16 ct) hi63 d_R_nameBlock_90 ?_
            obtain ⟨hi64, h⟩ := if_ok h
            obtain ⟨M65, eM65, h⟩ := wr_ok h
            try dsimp only at h
            refine U_ast C0 (cR_l ct) w (iR_21 ct) hi64 d_R_nameBlock_91 eM65 (fun H locs w => ?_)
            exact hJ92 _ _ _ _ _ _ _ (lv_sub hl [0, 1, 2, 3] rfl) w h
        refine lv_if_ne (tgt := 28) hx hb d_R_nameBlock_21 (by decide) (fun hc => ?_) (fun hc => ?_)
        · rw [if_neg hc] at h
          refine lv_aload_n hx hb d_R_nameBlock_28 rfl (lv_at hl 0 rfl) ?_
          refine U_get C0 w 0 (by decide) rfl rfl inR 25 (by decide) wd_853 rfl d_R_nameBlock_29 ?_
          refine lv_bipush (v := 6) hx hb d_R_nameBlock_32 (by decide) ?_
          refine lv_aload_n hx hb d_R_nameBlock_34 rfl (lv_at hl 0 rfl) ?_
          refine U_get C0 w 0 (by decide) rfl rfl inR 15 (by decide) wd_843 rfl d_R_nameBlock_35 ?_
          refine lv_iload_n hx hb d_R_nameBlock_38 rfl (lv_at hl 1 rfl) ?_
          obtain ⟨hi66, h⟩ := if_ok h
          refine U_ald C0 w (iR_12 ct) hi66 d_R_nameBlock_39 ?_
          refine lv_imul hx hb d_R_nameBlock_40 ?_
          refine lv_iload_n hx hb d_R_nameBlock_41 rfl (lv_at hl 3 rfl) ?_
          refine lv_iadd hx hb d_R_nameBlock_42 ?_
          obtain ⟨hi67, h⟩ := if_ok h
          refine U_ald C0 w (iR_21 ct) hi67 d_R_nameBlock_43 ?_
          exact hJ44 _ _ _ _ _ _ _ _ _ (lv_sub hl [0, 1, 2, 3] rfl) w h
        · rw [if_pos hc] at h
          refine lv_iload_n hx hb d_R_nameBlock_24 rfl (lv_at hl 3 rfl) ?_
          refine lv_goto (tgt := 44) hx hb d_R_nameBlock_25 (by decide) ?_
          exact hJ44 _ _ _ _ _ _ _ _ _ (lv_sub hl [0, 1, 2, 3] rfl) w h
  exact hL7 FU _ _ _ _ _ _ _ (lv_sub hl [2, 3, 1, 0] rfl) w h
abbrev rm_R_nameAll : Room := { frames := 2, cells := 0, slots := 0, locals := 46 }
set_option maxHeartbeats 8000000 in
set_option maxRecDepth 100000 in
theorem c_R_nameAll (l : Launch) (D : va_G) (ct : Nat → ClassId) (q : Nat → Nat) {M Mz : Sto} {rz : Int32} (h : m_R_nameAll M = some (rz, Mz)) : KV l D ct y_R_nameAll b_R_nameAll 4 2 46 0 0 [.ref (q 0)] (wR ct q M) (fun A t => CE D (wR ct q Mz) A t) := by
  refine KV.ofU (by decide) (Nat.le_of_ble_eq_true rfl) ?_
  intro p e s m args below meth c A Q ls C0 hl w hret
  have hx := C0.1
  have hb := C0.2.1
  have hl : lv_has ls 4 [(0, .ref (q 0))] := hl
  unfold m_R_nameAll at h
  refine lv_aload_n hx hb d_R_nameAll_0 rfl (lv_at hl 0 rfl) ?_
  refine lv_bipush (v := 6) hx hb d_R_nameAll_1 (by decide) ?_
  obtain ⟨M7, eM7, h⟩ := wr_ok h
  try dsimp only at h
  refine U_put C0 (cR_l ct) w 0 (by decide) rfl rfl inR tyR_ok nmR 17 (by decide) wd_845 rfl rfl rfl (Nat.le_of_ble_eq_true rfl) d_R_nameAll_3 eM7 rfl (fun H locs w => ?_)
  refine lv_iconst (v := 0) hx hb d_R_nameAll_6 (by decide) ?_
  refine lv_istore_n hx hb d_R_nameAll_7 rfl hl (by decide) rfl (fun ls hl => ?_)
  have hl : lv_has ls 4 [(1, .int 0), (0, .ref (q 0))] := hl
  generalize eK8 : j_R_nameAll_27 = K8 at h
  have hE8 : ∀ (M : Sto) (H : Heap) (locs : List Loc) (ls : Array Slot), lv_has ls 4 [(0, .ref (q 0))] → Wd D A s (wR ct q M) H locs → K8 M = some (rz, Mz) → W p l e rm_R_nameAll s m args below meth c H locs 0 0 Q (F0 m 27 ls []) := by
    intro M H locs ls hl w h
    rw [← eK8] at h
    unfold j_R_nameAll_27 at h
    refine lv_iconst (v := 1) hx hb d_R_nameAll_27 (by decide) ?_
    refine lv_istore_n hx hb d_R_nameAll_28 rfl hl (by decide) rfl (fun ls hl => ?_)
    have hl : lv_has ls 4 [(1, .int 1), (0, .ref (q 0))] := hl
    refine lv_aload_n hx hb d_R_nameAll_29 rfl (lv_at hl 1 rfl) ?_
    refine U_get C0 w 0 (by decide) rfl rfl inR 26 (by decide) wd_854 rfl d_R_nameAll_30 ?_
    refine lv_iconst (v := 0) hx hb d_R_nameAll_33 (by decide) ?_
    refine lv_iconst (v := 0) hx hb d_R_nameAll_34 (by decide) ?_
    obtain ⟨hi8, h⟩ := if_ok h
    obtain ⟨M9, eM9, h⟩ := wr_ok h
    try dsimp only at h
    refine U_ast C0 (cR_l ct) w (iR_22 ct) hi8 d_R_nameAll_35 eM9 (fun H locs w => ?_)
    generalize eK36 : j_R_nameAll_106 = K36 at h
    have hE36 : ∀ (M : Sto) (H : Heap) (locs : List Loc) (ls : Array Slot), lv_has ls 4 [] → Wd D A s (wR ct q M) H locs → K36 M = some (rz, Mz) → W p l e rm_R_nameAll s m args below meth c H locs 0 0 Q (F0 m 106 ls []) := by
      intro M H locs ls hl w h
      rw [← eK36] at h
      unfold j_R_nameAll_106 at h
      cases h
      exact hret _ _ _ _ d_R_nameAll_106 w
    have hL36 : ∀ (n : Nat) (v1 : Int32) (M : Sto) (H : Heap) (locs : List Loc) (ls : Array Slot), lv_has ls 4 [(0, .ref (q 0)), (1, .int v1)] → Wd D A s (wR ct q M) H locs → l_R_nameAll_36 K36 n v1 M = some (rz, Mz) → W p l e rm_R_nameAll s m args below meth c H locs 0 0 Q (F0 m 36 ls []) := by
      intro n
      induction n with
      | zero => intro v1 M H locs ls hl w h; simp [l_R_nameAll_36] at h
      | succ n ih36 =>
        intro v1 M H locs ls hl w h
        unfold l_R_nameAll_36 at h
        refine lv_iload_n hx hb d_R_nameAll_36 rfl (lv_at hl 1 rfl) ?_
        refine lv_if_le (tgt := 106) hx hb d_R_nameAll_37 (by decide) (fun hc => ?_) (fun hc => ?_)
        · rw [if_pos hc] at h
          exact hE36 _ _ _ _ (lv_sub hl [] rfl) w h
        · rw [if_neg hc] at h
          refine lv_iinc (k := 1) (v := v1 + (-1)) hx hb d_R_nameAll_40 hl rfl (dec1 _) (by decide) rfl (fun ls hl => ?_)
          have hl : lv_has ls 4 [(1, .int (v1 + (-1))), (0, .ref (q 0))] := hl
          refine lv_aload_n hx hb d_R_nameAll_43 rfl (lv_at hl 1 rfl) ?_
          refine U_get C0 w 0 (by decide) rfl rfl inR 26 (by decide) wd_854 rfl d_R_nameAll_44 ?_
          refine lv_iload_n hx hb d_R_nameAll_47 rfl (lv_at hl 0 rfl) ?_
          obtain ⟨hi10, h⟩ := if_ok h
          refine U_ald C0 w (iR_22 ct) hi10 d_R_nameAll_48 ?_
          refine lv_istore_n hx hb d_R_nameAll_49 rfl hl (by decide) rfl (fun ls hl => ?_)
          have hl : lv_has ls 4 [(2, .int (M 22 (v1 + (-1)).toNatClampNeg)), (1, .int (v1 + (-1))), (0, .ref (q 0))] := hl
          refine lv_aload_n hx hb d_R_nameAll_50 rfl (lv_at hl 2 rfl) ?_
          refine lv_iload_n hx hb d_R_nameAll_51 rfl (lv_at hl 0 rfl) ?_
          obtain ⟨r11, M12, hc13, h⟩ := bind_ok h
          try dsimp only at h
          refine U_vv (rest := []) C0 w 0 (wU_at (by decide)) rfl (c_R_nameBlock l D ct q hc13) wd_1045 wd_1042 wd_1044 ws_44 wd_8 (n9 := 1) (by decide +kernel) rfl ⟨(Nat.le_of_ble_eq_true rfl), (Nat.le_of_ble_eq_true rfl)⟩ hl.1 rfl (Nat.le_of_ble_eq_true rfl) d_R_nameAll_52 (Nat.le_of_ble_eq_true rfl) (Nat.le_of_ble_eq_true rfl) (fun H locs w => ?_)
          refine lv_aload_n hx hb d_R_nameAll_55 rfl (lv_at hl 2 rfl) ?_
          refine U_get C0 w 0 (by decide) rfl rfl inR 1 (by decide) wd_829 rfl d_R_nameAll_56 ?_
          refine lv_iconst (v := 1) hx hb d_R_nameAll_59 (by decide) ?_
          refine lv_isub hx hb d_R_nameAll_60 ?_
          refine lv_istore_n hx hb d_R_nameAll_61 rfl hl (by decide) rfl (fun ls hl => ?_)
          have hl : lv_has ls 4 [(3, .int ((M12 0 1) - 1)), (2, .int (M 22 (v1 + (-1)).toNatClampNeg)), (1, .int (v1 + (-1))), (0, .ref (q 0))] := hl
          generalize eK62 : j_R_nameAll_103 (l_R_nameAll_36 K36 n) K36 = K62 at h
          have hE62 : ∀ (v1 : Int32) (M : Sto) (H : Heap) (locs : List Loc) (ls : Array Slot), lv_has ls 4 [(0, .ref (q 0)), (1, .int v1)] → Wd D A s (wR ct q M) H locs → K62 v1 M = some (rz, Mz) → W p l e rm_R_nameAll s m args below meth c H locs 0 0 Q (F0 m 103 ls []) := by
            intro v1 M H locs ls hl w h
            rw [← eK62] at h
            unfold j_R_nameAll_103 at h
            refine lv_goto (tgt := 36) hx hb d_R_nameAll_103 (by decide) ?_
            exact ih36 _ _ _ _ _ (lv_sub hl [0, 1] rfl) w h
          have hL62 : ∀ (n : Nat) (v1 v2 v3 : Int32) (M : Sto) (H : Heap) (locs : List Loc) (ls : Array Slot), lv_has ls 4 [(0, .ref (q 0)), (1, .int v1), (2, .int v2), (3, .int v3)] → Wd D A s (wR ct q M) H locs → l_R_nameAll_62 K62 n v1 v2 v3 M = some (rz, Mz) → W p l e rm_R_nameAll s m args below meth c H locs 0 0 Q (F0 m 62 ls []) := by
            intro n
            induction n with
            | zero => intro v1 v2 v3 M H locs ls hl w h; simp [l_R_nameAll_62] at h
            | succ n ih62 =>
              intro v1 v2 v3 M H locs ls hl w h
              unfold l_R_nameAll_62 at h
              refine lv_iload_n hx hb d_R_nameAll_62 rfl (lv_at hl 3 rfl) ?_
              refine lv_if_le (tgt := 103) hx hb d_R_nameAll_63 (by decide) (fun hc => ?_) (fun hc => ?_)
              · rw [if_pos hc] at h
                exact hE62 _ _ _ _ _ (lv_sub hl [0, 1] rfl) w h
              · rw [if_neg hc] at h
                refine lv_aload_n hx hb d_R_nameAll_66 rfl (lv_at hl 0 rfl) ?_
                refine U_get C0 w 0 (by decide) rfl rfl inR 12 (by decide) wd_840 rfl d_R_nameAll_67 ?_
                refine lv_iload_n hx hb d_R_nameAll_70 rfl (lv_at hl 3 rfl) ?_
                obtain ⟨r14, M15, hc16, h⟩ := bind_ok h
                try dsimp only at h
                refine U_si (rest := []) C0 w (c_R_has l D ct q hc16) wd_1014 wd_1012 wd_1013 wd_8 (n9 := 2) (by decide +kernel) rfl ⟨(Nat.le_of_ble_eq_true rfl), (Nat.le_of_ble_eq_true rfl)⟩ hl.1 rfl (Nat.le_of_ble_eq_true rfl) d_R_nameAll_71 (Nat.le_of_ble_eq_true rfl) (Nat.le_of_ble_eq_true rfl) (fun H locs w => ?_)
                have hJ97 : ∀ (v1 v2 v3 : Int32) (M : Sto) (H : Heap) (locs : List Loc) (ls : Array Slot), lv_has ls 4 [(0, .ref (q 0)), (1, .int v1), (2, .int v2), (3, .int v3)] → Wd D A s (wR ct q M) H locs → j_R_nameAll_97 (l_R_nameAll_62 K62 n) K62 v1 v2 v3 M = some (rz, Mz) → W p l e rm_R_nameAll s m args below meth c H locs 0 0 Q (F0 m 97 ls []) := by
                  intro v1 v2 v3 M H locs ls hl w h
                  unfold j_R_nameAll_97 at h
                  refine lv_iinc (k := 3) (v := v3 + (-1)) hx hb d_R_nameAll_97 hl rfl (dec1 _) (by decide) rfl (fun ls hl => ?_)
                  have hl : lv_has ls 4 [(3, .int (v3 + (-1))), (0, .ref (q 0)), (1, .int v1), (2, .int v2)] := hl
                  refine lv_goto (tgt := 62) hx hb d_R_nameAll_100 (by decide) ?_
                  exact ih62 _ _ _ _ _ _ _ (lv_sub hl [1, 2, 3, 0] rfl) w h
                refine lv_if_eq (tgt := 97) hx hb d_R_nameAll_74 (by decide) (fun hc => ?_) (fun hc => ?_)
                · rw [if_pos hc] at h
                  exact hJ97 _ _ _ _ _ _ _ (lv_sub hl [0, 1, 2, 3] rfl) w h
                · rw [if_neg hc] at h
                  refine lv_aload_n hx hb d_R_nameAll_77 rfl (lv_at hl 0 rfl) ?_
                  refine U_get C0 w 0 (by decide) rfl rfl inR 15 (by decide) wd_843 rfl d_R_nameAll_78 ?_
                  refine lv_iload_n hx hb d_R_nameAll_81 rfl (lv_at hl 3 rfl) ?_
                  obtain ⟨hi17, h⟩ := if_ok h
                  refine U_ald C0 w (iR_12 ct) hi17 d_R_nameAll_82 ?_
                  refine lv_iload_n hx hb d_R_nameAll_83 rfl (lv_at hl 2 rfl) ?_
                  refine lv_icmp_ne (tgt := 97) hx hb d_R_nameAll_84 (by decide) (fun hc => ?_) (fun hc => ?_)
                  · rw [if_neg hc] at h
                    exact hJ97 _ _ _ _ _ _ _ (lv_sub hl [0, 1, 2, 3] rfl) w h
                  · rw [if_pos hc] at h
                    refine lv_aload_n hx hb d_R_nameAll_87 rfl (lv_at hl 0 rfl) ?_
                    refine U_get C0 w 0 (by decide) rfl rfl inR 26 (by decide) wd_854 rfl d_R_nameAll_88 ?_
                    refine lv_iload_n hx hb d_R_nameAll_91 rfl (lv_at hl 1 rfl) ?_
                    refine lv_iload_n hx hb d_R_nameAll_92 rfl (lv_at hl 3 rfl) ?_
                    obtain ⟨hi18, h⟩ := if_ok h
                    obtain ⟨M19, eM19, h⟩ := wr_ok h
                    try dsimp only at h
                    refine U_ast C0 (cR_l ct) w (iR_22 ct) hi18 d_R_nameAll_93 eM19 (fun H locs w => ?_)
                    refine lv_iinc (k := 1) (v := v1 + 1) hx hb d_R_nameAll_94 hl rfl (inc1 _) (by decide) rfl (fun ls hl => ?_)
                    have hl : lv_has ls 4 [(1, .int (v1 + 1)), (0, .ref (q 0)), (2, .int v2), (3, .int v3)] := hl
                    exact hJ97 _ _ _ _ _ _ _ (lv_sub hl [1, 0, 2, 3] rfl) w h
          exact hL62 FU _ _ _ _ _ _ _ (lv_sub hl [3, 2, 1, 0] rfl) w h
    exact hL36 FU _ _ _ _ _ (lv_sub hl [1, 0] rfl) w h
  have hL8 : ∀ (n : Nat) (v1 : Int32) (M : Sto) (H : Heap) (locs : List Loc) (ls : Array Slot), lv_has ls 4 [(0, .ref (q 0)), (1, .int v1)] → Wd D A s (wR ct q M) H locs → l_R_nameAll_8 K8 n v1 M = some (rz, Mz) → W p l e rm_R_nameAll s m args below meth c H locs 0 0 Q (F0 m 8 ls []) := by
    intro n
    induction n with
    | zero => intro v1 M H locs ls hl w h; simp [l_R_nameAll_8] at h
    | succ n ih8 =>
      intro v1 M H locs ls hl w h
      unfold l_R_nameAll_8 at h
      refine lv_iload_n hx hb d_R_nameAll_8 rfl (lv_at hl 1 rfl) ?_
      refine lv_bipush (v := 6) hx hb d_R_nameAll_9 (by decide) ?_
      refine lv_icmp_ge (tgt := 27) hx hb d_R_nameAll_11 (by decide) (fun hc => ?_) (fun hc => ?_)
      · rw [if_pos hc] at h
        exact hE8 _ _ _ _ (lv_sub hl [0] rfl) w h
      · rw [if_neg hc] at h
        refine lv_aload_n hx hb d_R_nameAll_14 rfl (lv_at hl 0 rfl) ?_
        refine U_get C0 w 0 (by decide) rfl rfl inR 18 (by decide) wd_846 rfl d_R_nameAll_15 ?_
        refine lv_iload_n hx hb d_R_nameAll_18 rfl (lv_at hl 1 rfl) ?_
        refine lv_iconst (v := (-1)) hx hb d_R_nameAll_19 (by decide) ?_
        obtain ⟨hi20, h⟩ := if_ok h
        obtain ⟨M21, eM21, h⟩ := wr_ok h
        try dsimp only at h
        refine U_ast C0 (cR_l ct) w (iR_14 ct) hi20 d_R_nameAll_20 eM21 (fun H locs w => ?_)
        refine lv_iinc (k := 1) (v := v1 + 1) hx hb d_R_nameAll_21 hl rfl (inc1 _) (by decide) rfl (fun ls hl => ?_)
        have hl : lv_has ls 4 [(1, .int (v1 + 1)), (0, .ref (q 0))] := hl
        refine lv_goto (tgt := 8) hx hb d_R_nameAll_24 (by decide) ?_
        exact ih8 _ _ _ _ _ (lv_sub hl [1, 0] rfl) w h
  exact hL8 FU _ _ _ _ _ (lv_sub hl [1, 0] rfl) w h
abbrev rm_R_reckon : Room := { frames := 0, cells := 0, slots := 0, locals := 0 }
set_option maxHeartbeats 8000000 in
set_option maxRecDepth 100000 in
theorem c_R_reckon (l : Launch) (D : va_G) (ct : Nat → ClassId) (q : Nat → Nat) {x1 x2 x3 : Int32} {M Mz : Sto} {rz : Int32} (h : m_R_reckon x1 x2 x3 M = some (rz, Mz)) : KI l D ct y_R_reckon b_R_reckon 4 (some .int) 0 0 [.ref (q 0), .int x1, .int x2, .int x3] (wR ct q M) rz (wR ct q Mz) := by
  refine KI.ofU (by decide) (Nat.le_of_ble_eq_true rfl) rfl ?_
  intro p e s m args below meth c A Q ls C0 hl w hret
  have hx := C0.1
  have hb := C0.2.1
  have hl : lv_has ls 4 [(0, .ref (q 0)), (1, .int x1), (2, .int x2), (3, .int x3)] := hl
  unfold m_R_reckon at h
  refine lv_iload_n hx hb d_R_reckon_0 rfl (lv_at hl 1 rfl) ?_
  refine Decidable.byCases (p := x1 = 2) (fun hc1 => ?_) (fun hc1 => ?_)
  · rw [if_pos hc1] at h
    refine lv_tableIn (off := 27) (tgt := 28) hx hb d_R_reckon_1 (by rw [hc1]; decide) (by rw [hc1]; decide) (by rw [hc1]; decide) (by decide) ?_
    refine lv_iload_n hx hb d_R_reckon_28 rfl (lv_at hl 2 rfl) ?_
    refine lv_iload_n hx hb d_R_reckon_29 rfl (lv_at hl 3 rfl) ?_
    refine lv_iadd hx hb d_R_reckon_30 ?_
    cases h
    exact hret _ _ _ _ d_R_reckon_31 rfl w
  · rw [if_neg hc1] at h
    refine Decidable.byCases (p := x1 = 3) (fun hc2 => ?_) (fun hc2 => ?_)
    · rw [if_pos hc2] at h
      refine lv_tableIn (off := 31) (tgt := 32) hx hb d_R_reckon_1 (by rw [hc2]; decide) (by rw [hc2]; decide) (by rw [hc2]; decide) (by decide) ?_
      refine lv_iload_n hx hb d_R_reckon_32 rfl (lv_at hl 2 rfl) ?_
      refine lv_iload_n hx hb d_R_reckon_33 rfl (lv_at hl 3 rfl) ?_
      refine lv_isub hx hb d_R_reckon_34 ?_
      cases h
      exact hret _ _ _ _ d_R_reckon_35 rfl w
    · rw [if_neg hc2] at h
      refine Decidable.byCases (p := x1 = 4) (fun hc3 => ?_) (fun hc3 => ?_)
      · rw [if_pos hc3] at h
        refine lv_tableIn (off := 35) (tgt := 36) hx hb d_R_reckon_1 (by rw [hc3]; decide) (by rw [hc3]; decide) (by rw [hc3]; decide) (by decide) ?_
        refine lv_iload_n hx hb d_R_reckon_36 rfl (lv_at hl 2 rfl) ?_
        refine lv_iload_n hx hb d_R_reckon_37 rfl (lv_at hl 3 rfl) ?_
        refine lv_imul hx hb d_R_reckon_38 ?_
        cases h
        exact hret _ _ _ _ d_R_reckon_39 rfl w
      · rw [if_neg hc3] at h
        refine lv_tableOut (tgt := 40) hx hb d_R_reckon_1 (sw_o_2_4 hc1 hc2 hc3) (by decide) ?_
        refine lv_iload_n hx hb d_R_reckon_40 rfl (lv_at hl 2 rfl) ?_
        refine lv_iload_n hx hb d_R_reckon_41 rfl (lv_at hl 3 rfl) ?_
        have hJ50 : ∀ (s0 : Int32) (M : Sto) (H : Heap) (locs : List Loc) (ls : Array Slot), lv_has ls 4 [] → Wd D A s (wR ct q M) H locs → j_R_reckon_50 s0 M = some (rz, Mz) → W p l e rm_R_reckon s m args below meth c H locs 0 0 Q (F0 m 50 ls [.int s0]) := by
          intro s0 M H locs ls hl w h
          unfold j_R_reckon_50 at h
          cases h
          exact hret _ _ _ _ d_R_reckon_50 rfl w
        refine lv_icmp_ge (tgt := 49) hx hb d_R_reckon_42 (by decide) (fun hc => ?_) (fun hc => ?_)
        · rw [if_pos hc] at h
          refine lv_iconst (v := 0) hx hb d_R_reckon_49 (by decide) ?_
          exact hJ50 _ _ _ _ _ (lv_sub hl [] rfl) w h
        · rw [if_neg hc] at h
          refine lv_iconst (v := 1) hx hb d_R_reckon_45 (by decide) ?_
          refine lv_goto (tgt := 50) hx hb d_R_reckon_46 (by decide) ?_
          exact hJ50 _ _ _ _ _ (lv_sub hl [] rfl) w h
abbrev rm_R_becomes : Room := { frames := 0, cells := 0, slots := 0, locals := 0 }
set_option maxHeartbeats 8000000 in
set_option maxRecDepth 100000 in
theorem c_R_becomes (l : Launch) (D : va_G) (ct : Nat → ClassId) (q : Nat → Nat) {x1 x2 x3 : Int32} {M Mz : Sto} {rz : Int32} (h : m_R_becomes x1 x2 x3 M = some (rz, Mz)) : KI l D ct y_R_becomes b_R_becomes 5 (some .boolean) 0 0 [.ref (q 0), .int x1, .int x2, .int x3] (wR ct q M) rz (wR ct q Mz) := by
  refine KI.ofU (by decide) (Nat.le_of_ble_eq_true rfl) rfl ?_
  intro p e s m args below meth c A Q ls C0 hl w hret
  have hx := C0.1
  have hb := C0.2.1
  have hl : lv_has ls 5 [(0, .ref (q 0)), (1, .int x1), (2, .int x2), (3, .int x3)] := hl
  unfold m_R_becomes at h
  refine lv_aload_n hx hb d_R_becomes_0 rfl (lv_at hl 0 rfl) ?_
  refine U_get C0 w 0 (by decide) rfl rfl inR 29 (by decide) wd_857 rfl d_R_becomes_1 ?_
  refine lv_iload_n hx hb d_R_becomes_4 rfl (lv_at hl 1 rfl) ?_
  obtain ⟨hi3, h⟩ := if_ok h
  refine U_ald C0 w (iR_24 ct) hi3 d_R_becomes_5 ?_
  refine lv_iload_n hx hb d_R_becomes_6 rfl (lv_at hl 2 rfl) ?_
  have hJ30 : ∀ (s0 v1 v2 v3 : Int32) (M : Sto) (H : Heap) (locs : List Loc) (ls : Array Slot), lv_has ls 5 [(0, .ref (q 0)), (1, .int v1), (2, .int v2), (3, .int v3)] → Wd D A s (wR ct q M) H locs → j_R_becomes_30 s0 v1 v2 v3 M = some (rz, Mz) → W p l e rm_R_becomes s m args below meth c H locs 0 0 Q (F0 m 30 ls [.int s0]) := by
    intro s0 v1 v2 v3 M H locs ls hl w h
    unfold j_R_becomes_30 at h
    refine lv_istore hx hb d_R_becomes_30 hl (by decide) rfl (fun ls hl => ?_)
    have hl : lv_has ls 5 [(4, .int s0), (0, .ref (q 0)), (1, .int v1), (2, .int v2), (3, .int v3)] := hl
    refine lv_aload_n hx hb d_R_becomes_32 rfl (lv_at hl 1 rfl) ?_
    refine U_get C0 w 0 (by decide) rfl rfl inR 29 (by decide) wd_857 rfl d_R_becomes_33 ?_
    refine lv_iload_n hx hb d_R_becomes_36 rfl (lv_at hl 2 rfl) ?_
    refine lv_iload_n hx hb d_R_becomes_37 rfl (lv_at hl 3 rfl) ?_
    obtain ⟨hi4, h⟩ := if_ok h
    obtain ⟨M5, eM5, h⟩ := wr_ok h
    try dsimp only at h
    refine U_ast C0 (cR_l ct) w (iR_24 ct) hi4 d_R_becomes_38 eM5 (fun H locs w => ?_)
    refine lv_aload_n hx hb d_R_becomes_39 rfl (lv_at hl 1 rfl) ?_
    refine U_get C0 w 0 (by decide) rfl rfl inR 30 (by decide) wd_858 rfl d_R_becomes_40 ?_
    refine lv_iload_n hx hb d_R_becomes_43 rfl (lv_at hl 2 rfl) ?_
    refine lv_iload_n hx hb d_R_becomes_44 rfl (lv_at hl 3 rfl) ?_
    refine lv_iconst (v := 1) hx hb d_R_becomes_45 (by decide) ?_
    have hJ54 : ∀ (s0 s1 v4 : Int32) (M : Sto) (H : Heap) (locs : List Loc) (ls : Array Slot), lv_has ls 5 [(4, .int v4)] → Wd D A s (wR ct q M) H locs → j_R_becomes_54 s0 s1 v4 M = some (rz, Mz) → W p l e rm_R_becomes s m args below meth c H locs 0 0 Q (F0 m 54 ls [.int s0, .int s1, .ref (q 25)]) := by
      intro s0 s1 v4 M H locs ls hl w h
      unfold j_R_becomes_54 at h
      obtain ⟨hi6, h⟩ := if_ok h
      obtain ⟨M7, eM7, h⟩ := wr_ok h
      try dsimp only at h
      refine U_ast C0 (cR_l ct) w (iR_25 ct) hi6 d_R_becomes_54 eM7 (fun H locs w => ?_)
      refine lv_iload hx hb d_R_becomes_55 (lv_at hl 0 rfl) ?_
      obtain ⟨hz9, h⟩ := if_ok h
      cases h
      exact hret _ _ _ _ d_R_becomes_57 (bz_nar hz9) w
    refine lv_icmp_ne (tgt := 53) hx hb d_R_becomes_46 (by decide) (fun hc => ?_) (fun hc => ?_)
    · rw [if_neg hc] at h
      refine lv_iconst (v := 0) hx hb d_R_becomes_53 (by decide) ?_
      exact hJ54 _ _ _ _ _ _ _ (lv_sub hl [0] rfl) w h
    · rw [if_pos hc] at h
      refine lv_iload_n hx hb d_R_becomes_49 rfl (lv_at hl 4 rfl) ?_
      refine lv_goto (tgt := 54) hx hb d_R_becomes_50 (by decide) ?_
      exact hJ54 _ _ _ _ _ _ _ (lv_sub hl [0] rfl) w h
  have hJ25 : ∀ (v1 v2 v3 : Int32) (M : Sto) (H : Heap) (locs : List Loc) (ls : Array Slot), lv_has ls 5 [(0, .ref (q 0)), (1, .int v1), (2, .int v2), (3, .int v3)] → Wd D A s (wR ct q M) H locs → j_R_becomes_25 v1 v2 v3 M = some (rz, Mz) → W p l e rm_R_becomes s m args below meth c H locs 0 0 Q (F0 m 25 ls []) := by
    intro v1 v2 v3 M H locs ls hl w h
    unfold j_R_becomes_25 at h
    refine lv_iconst (v := 1) hx hb d_R_becomes_25 (by decide) ?_
    refine lv_goto (tgt := 30) hx hb d_R_becomes_26 (by decide) ?_
    exact hJ30 _ _ _ _ _ _ _ _ (lv_sub hl [0, 1, 2, 3] rfl) w h
  refine lv_icmp_ne (tgt := 25) hx hb d_R_becomes_7 (by decide) (fun hc => ?_) (fun hc => ?_)
  · rw [if_neg hc] at h
    exact hJ25 _ _ _ _ _ _ _ (lv_sub hl [0, 1, 2, 3] rfl) w h
  · rw [if_pos hc] at h
    refine lv_iload_n hx hb d_R_becomes_10 rfl (lv_at hl 2 rfl) ?_
    refine lv_iconst (v := 1) hx hb d_R_becomes_11 (by decide) ?_
    have hJ29 : ∀ (v1 v2 v3 : Int32) (M : Sto) (H : Heap) (locs : List Loc) (ls : Array Slot), lv_has ls 5 [(0, .ref (q 0)), (1, .int v1), (2, .int v2), (3, .int v3)] → Wd D A s (wR ct q M) H locs → j_R_becomes_29 v1 v2 v3 M = some (rz, Mz) → W p l e rm_R_becomes s m args below meth c H locs 0 0 Q (F0 m 29 ls []) := by
      intro v1 v2 v3 M H locs ls hl w h
      unfold j_R_becomes_29 at h
      refine lv_iconst (v := 0) hx hb d_R_becomes_29 (by decide) ?_
      exact hJ30 _ _ _ _ _ _ _ _ (lv_sub hl [0, 1, 2, 3] rfl) w h
    refine lv_icmp_ne (tgt := 29) hx hb d_R_becomes_12 (by decide) (fun hc => ?_) (fun hc => ?_)
    · rw [if_neg hc] at h
      exact hJ29 _ _ _ _ _ _ _ (lv_sub hl [0, 1, 2, 3] rfl) w h
    · rw [if_pos hc] at h
      refine lv_aload_n hx hb d_R_becomes_15 rfl (lv_at hl 0 rfl) ?_
      refine U_get C0 w 0 (by decide) rfl rfl inR 30 (by decide) wd_858 rfl d_R_becomes_16 ?_
      refine lv_iload_n hx hb d_R_becomes_19 rfl (lv_at hl 1 rfl) ?_
      obtain ⟨hi8, h⟩ := if_ok h
      refine U_ald C0 w (iR_25 ct) hi8 d_R_becomes_20 ?_
      refine lv_iload_n hx hb d_R_becomes_21 rfl (lv_at hl 3 rfl) ?_
      refine lv_icmp_eq (tgt := 29) hx hb d_R_becomes_22 (by decide) (fun hc => ?_) (fun hc => ?_)
      · rw [if_pos hc] at h
        exact hJ29 _ _ _ _ _ _ _ (lv_sub hl [0, 1, 2, 3] rfl) w h
      · rw [if_neg hc] at h
        exact hJ25 _ _ _ _ _ _ _ (lv_sub hl [0, 1, 2, 3] rfl) w h
abbrev rm_R_meet : Room := { frames := 1, cells := 0, slots := 0, locals := 24 }
set_option maxHeartbeats 8000000 in
set_option maxRecDepth 100000 in
theorem c_R_meet (l : Launch) (D : va_G) (ct : Nat → ClassId) (q : Nat → Nat) {x1 x2 x3 : Int32} {M Mz : Sto} {rz : Int32} (h : m_R_meet x1 x2 x3 M = some (rz, Mz)) : KI l D ct y_R_meet b_R_meet 8 (some .boolean) 1 24 [.ref (q 0), .int x1, .int x2, .int x3] (wR ct q M) rz (wR ct q Mz) := by
  refine KI.ofU (by decide) (Nat.le_of_ble_eq_true rfl) rfl ?_
  intro p e s m args below meth c A Q ls C0 hl w hret
  have hx := C0.1
  have hb := C0.2.1
  have hl : lv_has ls 8 [(0, .ref (q 0)), (1, .int x1), (2, .int x2), (3, .int x3)] := hl
  unfold m_R_meet at h
  refine lv_iconst (v := 0) hx hb d_R_meet_0 (by decide) ?_
  refine lv_istore hx hb d_R_meet_1 hl (by decide) rfl (fun ls hl => ?_)
  have hl : lv_has ls 8 [(4, .int 0), (0, .ref (q 0)), (1, .int x1), (2, .int x2), (3, .int x3)] := hl
  refine lv_iconst (v := 0) hx hb d_R_meet_3 (by decide) ?_
  refine lv_istore hx hb d_R_meet_4 hl (by decide) rfl (fun ls hl => ?_)
  have hl : lv_has ls 8 [(5, .int 0), (4, .int 0), (0, .ref (q 0)), (1, .int x1), (2, .int x2), (3, .int x3)] := hl
  refine lv_iconst (v := 0) hx hb d_R_meet_6 (by decide) ?_
  refine lv_istore hx hb d_R_meet_7 hl (by decide) rfl (fun ls hl => ?_)
  have hl : lv_has ls 8 [(6, .int 0), (5, .int 0), (4, .int 0), (0, .ref (q 0)), (1, .int x1), (2, .int x2), (3, .int x3)] := hl
  generalize eK9 : j_R_meet_155 = K9 at h
  have hE9 : ∀ (v1 v4 v5 : Int32) (M : Sto) (H : Heap) (locs : List Loc) (ls : Array Slot), lv_has ls 8 [(0, .ref (q 0)), (1, .int v1), (4, .int v4), (5, .int v5)] → Wd D A s (wR ct q M) H locs → K9 v1 v4 v5 M = some (rz, Mz) → W p l e rm_R_meet s m args below meth c H locs 0 0 Q (F0 m 155 ls []) := by
    intro v1 v4 v5 M H locs ls hl w h
    rw [← eK9] at h
    unfold j_R_meet_155 at h
    refine lv_aload_n hx hb d_R_meet_155 rfl (lv_at hl 0 rfl) ?_
    refine lv_iload_n hx hb d_R_meet_156 rfl (lv_at hl 1 rfl) ?_
    refine lv_iload hx hb d_R_meet_157 (lv_at hl 2 rfl) ?_
    refine lv_iload hx hb d_R_meet_159 (lv_at hl 3 rfl) ?_
    obtain ⟨r5, M6, hc7, h⟩ := bind_ok h
    try dsimp only at h
    refine U_vi (rest := []) C0 w 0 (wU_at (by decide)) rfl (c_R_becomes l D ct q hc7) wd_1065 wd_1062 wd_1064 ws_49 wd_8 (n9 := 3) (by decide +kernel) rfl ⟨(Nat.le_of_ble_eq_true rfl), (Nat.le_of_ble_eq_true rfl)⟩ hl.1 rfl (Nat.le_of_ble_eq_true rfl) d_R_meet_161 (Nat.le_of_ble_eq_true rfl) (Nat.le_of_ble_eq_true rfl) (fun H locs w => ?_)
    obtain ⟨hz9, h⟩ := if_ok h
    cases h
    exact hret _ _ _ _ d_R_meet_164 (bz_nar hz9) w
  have hL9 : ∀ (n : Nat) (v1 v2 v3 v4 v5 v6 : Int32) (M : Sto) (H : Heap) (locs : List Loc) (ls : Array Slot), lv_has ls 8 [(0, .ref (q 0)), (1, .int v1), (2, .int v2), (3, .int v3), (4, .int v4), (5, .int v5), (6, .int v6)] → Wd D A s (wR ct q M) H locs → l_R_meet_9 K9 n v1 v2 v3 v4 v5 v6 M = some (rz, Mz) → W p l e rm_R_meet s m args below meth c H locs 0 0 Q (F0 m 9 ls []) := by
    intro n
    induction n with
    | zero => intro v1 v2 v3 v4 v5 v6 M H locs ls hl w h; simp [l_R_meet_9] at h
    | succ n ih9 =>
      intro v1 v2 v3 v4 v5 v6 M H locs ls hl w h
      unfold l_R_meet_9 at h
      refine lv_iload hx hb d_R_meet_9 (lv_at hl 6 rfl) ?_
      refine lv_aload_n hx hb d_R_meet_11 rfl (lv_at hl 0 rfl) ?_
      refine U_get C0 w 0 (by decide) rfl rfl inR 1 (by decide) wd_829 rfl d_R_meet_12 ?_
      refine lv_icmp_ge (tgt := 155) hx hb d_R_meet_15 (by decide) (fun hc => ?_) (fun hc => ?_)
      · rw [if_pos hc] at h
        exact hE9 _ _ _ _ _ _ _ (lv_sub hl [0, 1, 4, 5] rfl) w h
      · rw [if_neg hc] at h
        refine lv_aload_n hx hb d_R_meet_18 rfl (lv_at hl 0 rfl) ?_
        refine U_get C0 w 0 (by decide) rfl rfl inR 14 (by decide) wd_842 rfl d_R_meet_19 ?_
        refine lv_iload_n hx hb d_R_meet_22 rfl (lv_at hl 2 rfl) ?_
        obtain ⟨hi8, h⟩ := if_ok h
        refine U_ald C0 w (iR_11 ct) hi8 d_R_meet_23 ?_
        refine lv_iload hx hb d_R_meet_24 (lv_at hl 6 rfl) ?_
        obtain ⟨r9, M10, hc11, h⟩ := bind_ok h
        try dsimp only at h
        refine U_si (rest := []) C0 w (c_R_has l D ct q hc11) wd_1014 wd_1012 wd_1013 wd_8 (n9 := 2) (by decide +kernel) rfl ⟨(Nat.le_of_ble_eq_true rfl), (Nat.le_of_ble_eq_true rfl)⟩ hl.1 rfl (Nat.le_of_ble_eq_true rfl) d_R_meet_26 (Nat.le_of_ble_eq_true rfl) (Nat.le_of_ble_eq_true rfl) (fun H locs w => ?_)
        have hJ149 : ∀ (v1 v2 v3 v4 v5 v6 : Int32) (M : Sto) (H : Heap) (locs : List Loc) (ls : Array Slot), lv_has ls 8 [(0, .ref (q 0)), (1, .int v1), (2, .int v2), (3, .int v3), (4, .int v4), (5, .int v5), (6, .int v6)] → Wd D A s (wR ct q M) H locs → j_R_meet_149 (l_R_meet_9 K9 n) K9 v1 v2 v3 v4 v5 v6 M = some (rz, Mz) → W p l e rm_R_meet s m args below meth c H locs 0 0 Q (F0 m 149 ls []) := by
          intro v1 v2 v3 v4 v5 v6 M H locs ls hl w h
          unfold j_R_meet_149 at h
          refine lv_iinc (k := 6) (v := v6 + 1) hx hb d_R_meet_149 hl rfl (inc1 _) (by decide) rfl (fun ls hl => ?_)
          have hl : lv_has ls 8 [(6, .int (v6 + 1)), (0, .ref (q 0)), (1, .int v1), (2, .int v2), (3, .int v3), (4, .int v4), (5, .int v5)] := hl
          refine lv_goto (tgt := 9) hx hb d_R_meet_152 (by decide) ?_
          exact ih9 _ _ _ _ _ _ _ _ _ _ (lv_sub hl [1, 2, 3, 4, 5, 6, 0] rfl) w h
        refine lv_if_eq (tgt := 149) hx hb d_R_meet_29 (by decide) (fun hc => ?_) (fun hc => ?_)
        · rw [if_pos hc] at h
          exact hJ149 _ _ _ _ _ _ _ _ _ _ (lv_sub hl [0, 1, 2, 3, 4, 5, 6] rfl) w h
        · rw [if_neg hc] at h
          refine lv_aload_n hx hb d_R_meet_32 rfl (lv_at hl 0 rfl) ?_
          refine U_get C0 w 0 (by decide) rfl rfl inR 27 (by decide) wd_855 rfl d_R_meet_33 ?_
          refine lv_iload hx hb d_R_meet_36 (lv_at hl 6 rfl) ?_
          obtain ⟨r12, M13, hc14, h⟩ := bind_ok h
          try dsimp only at h
          refine U_si (rest := []) C0 w (c_R_has l D ct q hc14) wd_1014 wd_1012 wd_1013 wd_8 (n9 := 2) (by decide +kernel) rfl ⟨(Nat.le_of_ble_eq_true rfl), (Nat.le_of_ble_eq_true rfl)⟩ hl.1 rfl (Nat.le_of_ble_eq_true rfl) d_R_meet_38 (Nat.le_of_ble_eq_true rfl) (Nat.le_of_ble_eq_true rfl) (fun H locs w => ?_)
          refine lv_if_eq (tgt := 149) hx hb d_R_meet_41 (by decide) (fun hc => ?_) (fun hc => ?_)
          · rw [if_pos hc] at h
            exact hJ149 _ _ _ _ _ _ _ _ _ _ (lv_sub hl [0, 1, 2, 3, 4, 5, 6] rfl) w h
          · rw [if_neg hc] at h
            refine lv_aload_n hx hb d_R_meet_44 rfl (lv_at hl 0 rfl) ?_
            refine U_get C0 w 0 (by decide) rfl rfl inR 28 (by decide) wd_856 rfl d_R_meet_45 ?_
            refine lv_iload hx hb d_R_meet_48 (lv_at hl 6 rfl) ?_
            obtain ⟨hi15, h⟩ := if_ok h
            refine U_ald C0 w (iR_23 ct) hi15 d_R_meet_50 ?_
            refine lv_iload_n hx hb d_R_meet_51 rfl (lv_at hl 2 rfl) ?_
            obtain ⟨r16, M17, hc18, h⟩ := bind_ok h
            try dsimp only at h
            refine U_si (rest := []) C0 w (c_R_has l D ct q hc18) wd_1014 wd_1012 wd_1013 wd_8 (n9 := 2) (by decide +kernel) rfl ⟨(Nat.le_of_ble_eq_true rfl), (Nat.le_of_ble_eq_true rfl)⟩ hl.1 rfl (Nat.le_of_ble_eq_true rfl) d_R_meet_52 (Nat.le_of_ble_eq_true rfl) (Nat.le_of_ble_eq_true rfl) (fun H locs w => ?_)
            refine lv_if_ne (tgt := 61) hx hb d_R_meet_55 (by decide) (fun hc => ?_) (fun hc => ?_)
            · rw [if_neg hc] at h
              refine lv_aload_n hx hb d_R_meet_61 rfl (lv_at hl 0 rfl) ?_
              refine U_get C0 w 0 (by decide) rfl rfl inR 25 (by decide) wd_853 rfl d_R_meet_62 ?_
              refine lv_bipush (v := 6) hx hb d_R_meet_65 (by decide) ?_
              refine lv_iload hx hb d_R_meet_67 (lv_at hl 6 rfl) ?_
              refine lv_imul hx hb d_R_meet_69 ?_
              refine lv_iload_n hx hb d_R_meet_70 rfl (lv_at hl 3 rfl) ?_
              refine lv_iadd hx hb d_R_meet_71 ?_
              obtain ⟨hi19, h⟩ := if_ok h
              refine U_ald C0 w (iR_21 ct) hi19 d_R_meet_72 ?_
              refine lv_istore hx hb d_R_meet_73 hl (by decide) rfl (fun ls hl => ?_)
              have hl : lv_has ls 8 [(7, .int (M17 21 ((6 * v6) + v3).toNatClampNeg)), (0, .ref (q 0)), (1, .int v1), (2, .int v2), (3, .int v3), (4, .int v4), (5, .int v5), (6, .int v6)] := hl
              refine lv_aload_n hx hb d_R_meet_75 rfl (lv_at hl 1 rfl) ?_
              refine U_get C0 w 0 (by decide) rfl rfl inR 29 (by decide) wd_857 rfl d_R_meet_76 ?_
              refine lv_iload hx hb d_R_meet_79 (lv_at hl 0 rfl) ?_
              obtain ⟨hi20, h⟩ := if_ok h
              refine U_ald C0 w (iR_24 ct) hi20 d_R_meet_81 ?_
              refine lv_iconst (v := 2) hx hb d_R_meet_82 (by decide) ?_
              have hJ115 : ∀ (v1 v2 v3 v5 v6 : Int32) (M : Sto) (H : Heap) (locs : List Loc) (ls : Array Slot), lv_has ls 8 [(0, .ref (q 0)), (1, .int v1), (2, .int v2), (3, .int v3), (5, .int v5), (6, .int v6)] → Wd D A s (wR ct q M) H locs → j_R_meet_115 (l_R_meet_9 K9 n) K9 v1 v2 v3 v5 v6 M = some (rz, Mz) → W p l e rm_R_meet s m args below meth c H locs 0 0 Q (F0 m 115 ls []) := by
                intro v1 v2 v3 v5 v6 M H locs ls hl w h
                unfold j_R_meet_115 at h
                refine lv_iconst (v := 2) hx hb d_R_meet_115 (by decide) ?_
                refine lv_istore hx hb d_R_meet_116 hl (by decide) rfl (fun ls hl => ?_)
                have hl : lv_has ls 8 [(4, .int 2), (0, .ref (q 0)), (1, .int v1), (2, .int v2), (3, .int v3), (5, .int v5), (6, .int v6)] := hl
                refine lv_goto (tgt := 149) hx hb d_R_meet_118 (by decide) ?_
                exact hJ149 _ _ _ _ _ _ _ _ _ _ (lv_sub hl [1, 2, 3, 4, 0, 5, 6] rfl) w h
              refine lv_icmp_eq (tgt := 115) hx hb d_R_meet_83 (by decide) (fun hc => ?_) (fun hc => ?_)
              · rw [if_pos hc] at h
                exact hJ115 _ _ _ _ _ _ _ _ _ (lv_sub hl [1, 2, 3, 4, 6, 7] rfl) w h
              · rw [if_neg hc] at h
                refine lv_iload hx hb d_R_meet_86 (lv_at hl 5 rfl) ?_
                refine lv_iconst (v := 1) hx hb d_R_meet_88 (by decide) ?_
                have hJ121 : ∀ (v1 v2 v3 v4 v5 v6 v7 : Int32) (M : Sto) (H : Heap) (locs : List Loc) (ls : Array Slot), lv_has ls 8 [(0, .ref (q 0)), (1, .int v1), (2, .int v2), (3, .int v3), (4, .int v4), (5, .int v5), (6, .int v6), (7, .int v7)] → Wd D A s (wR ct q M) H locs → j_R_meet_121 (l_R_meet_9 K9 n) K9 v1 v2 v3 v4 v5 v6 v7 M = some (rz, Mz) → W p l e rm_R_meet s m args below meth c H locs 0 0 Q (F0 m 121 ls []) := by
                  intro v1 v2 v3 v4 v5 v6 v7 M H locs ls hl w h
                  unfold j_R_meet_121 at h
                  refine lv_iload hx hb d_R_meet_121 (lv_at hl 4 rfl) ?_
                  refine lv_if_ne (tgt := 149) hx hb d_R_meet_123 (by decide) (fun hc => ?_) (fun hc => ?_)
                  · rw [if_neg hc] at h
                    exact hJ149 _ _ _ _ _ _ _ _ _ _ (lv_sub hl [0, 1, 2, 3, 4, 5, 6] rfl) w h
                  · rw [if_pos hc] at h
                    refine lv_aload_n hx hb d_R_meet_126 rfl (lv_at hl 0 rfl) ?_
                    refine U_get C0 w 0 (by decide) rfl rfl inR 29 (by decide) wd_857 rfl d_R_meet_127 ?_
                    refine lv_iload hx hb d_R_meet_130 (lv_at hl 7 rfl) ?_
                    obtain ⟨hi21, h⟩ := if_ok h
                    refine U_ald C0 w (iR_24 ct) hi21 d_R_meet_132 ?_
                    refine lv_iconst (v := 1) hx hb d_R_meet_133 (by decide) ?_
                    refine lv_icmp_ne (tgt := 149) hx hb d_R_meet_134 (by decide) (fun hc => ?_) (fun hc => ?_)
                    · rw [if_neg hc] at h
                      exact hJ149 _ _ _ _ _ _ _ _ _ _ (lv_sub hl [0, 1, 2, 3, 4, 5, 6] rfl) w h
                    · rw [if_pos hc] at h
                      refine lv_iconst (v := 1) hx hb d_R_meet_137 (by decide) ?_
                      refine lv_istore hx hb d_R_meet_138 hl (by decide) rfl (fun ls hl => ?_)
                      have hl : lv_has ls 8 [(4, .int 1), (0, .ref (q 0)), (1, .int v1), (2, .int v2), (3, .int v3), (5, .int v5), (6, .int v6), (7, .int v7)] := hl
                      refine lv_aload_n hx hb d_R_meet_140 rfl (lv_at hl 1 rfl) ?_
                      refine U_get C0 w 0 (by decide) rfl rfl inR 30 (by decide) wd_858 rfl d_R_meet_141 ?_
                      refine lv_iload hx hb d_R_meet_144 (lv_at hl 7 rfl) ?_
                      obtain ⟨hi22, h⟩ := if_ok h
                      refine U_ald C0 w (iR_25 ct) hi22 d_R_meet_146 ?_
                      refine lv_istore hx hb d_R_meet_147 hl (by decide) rfl (fun ls hl => ?_)
                      have hl : lv_has ls 8 [(5, .int (M 25 v7.toNatClampNeg)), (4, .int 1), (0, .ref (q 0)), (1, .int v1), (2, .int v2), (3, .int v3), (6, .int v6), (7, .int v7)] := hl
                      exact hJ149 _ _ _ _ _ _ _ _ _ _ (lv_sub hl [2, 3, 4, 5, 1, 0, 6] rfl) w h
                refine lv_icmp_ne (tgt := 121) hx hb d_R_meet_89 (by decide) (fun hc => ?_) (fun hc => ?_)
                · rw [if_neg hc] at h
                  exact hJ121 _ _ _ _ _ _ _ _ _ _ _ (lv_sub hl [1, 2, 3, 4, 5, 6, 7, 0] rfl) w h
                · rw [if_pos hc] at h
                  refine lv_aload_n hx hb d_R_meet_92 rfl (lv_at hl 1 rfl) ?_
                  refine U_get C0 w 0 (by decide) rfl rfl inR 29 (by decide) wd_857 rfl d_R_meet_93 ?_
                  refine lv_iload hx hb d_R_meet_96 (lv_at hl 0 rfl) ?_
                  obtain ⟨hi23, h⟩ := if_ok h
                  refine U_ald C0 w (iR_24 ct) hi23 d_R_meet_98 ?_
                  refine lv_iconst (v := 1) hx hb d_R_meet_99 (by decide) ?_
                  refine lv_icmp_ne (tgt := 121) hx hb d_R_meet_100 (by decide) (fun hc => ?_) (fun hc => ?_)
                  · rw [if_neg hc] at h
                    exact hJ121 _ _ _ _ _ _ _ _ _ _ _ (lv_sub hl [1, 2, 3, 4, 5, 6, 7, 0] rfl) w h
                  · rw [if_pos hc] at h
                    refine lv_aload_n hx hb d_R_meet_103 rfl (lv_at hl 1 rfl) ?_
                    refine U_get C0 w 0 (by decide) rfl rfl inR 30 (by decide) wd_858 rfl d_R_meet_104 ?_
                    refine lv_iload hx hb d_R_meet_107 (lv_at hl 0 rfl) ?_
                    obtain ⟨hi24, h⟩ := if_ok h
                    refine U_ald C0 w (iR_25 ct) hi24 d_R_meet_109 ?_
                    refine lv_iload hx hb d_R_meet_110 (lv_at hl 6 rfl) ?_
                    refine lv_icmp_eq (tgt := 121) hx hb d_R_meet_112 (by decide) (fun hc => ?_) (fun hc => ?_)
                    · rw [if_pos hc] at h
                      exact hJ121 _ _ _ _ _ _ _ _ _ _ _ (lv_sub hl [1, 2, 3, 4, 5, 6, 7, 0] rfl) w h
                    · rw [if_neg hc] at h
                      exact hJ115 _ _ _ _ _ _ _ _ _ (lv_sub hl [1, 2, 3, 4, 6, 7] rfl) w h
            · rw [if_pos hc] at h
              refine lv_goto (tgt := 149) hx hb d_R_meet_58 (by decide) ?_
              exact hJ149 _ _ _ _ _ _ _ _ _ _ (lv_sub hl [0, 1, 2, 3, 4, 5, 6] rfl) w h
  exact hL9 FU _ _ _ _ _ _ _ _ _ _ (lv_sub hl [3, 4, 5, 6, 2, 1, 0] rfl) w h
end
section
abbrev rm_R_knows : Room := { frames := 1, cells := 0, slots := 0, locals := 24 }
set_option maxHeartbeats 8000000 in
set_option maxRecDepth 100000 in
theorem c_R_knows (l : Launch) (D : va_G) (ct : Nat → ClassId) (q : Nat → Nat) {x1 : Int32} {M Mz : Sto} {rz : Int32} (h : m_R_knows x1 M = some (rz, Mz)) : KI l D ct y_R_knows b_R_knows 6 (some .boolean) 1 24 [.ref (q 0), .int x1] (wR ct q M) rz (wR ct q Mz) := by
  refine KI.ofU (by decide) (Nat.le_of_ble_eq_true rfl) rfl ?_
  intro p e s m args below meth c A Q ls C0 hl w hret
  have hx := C0.1
  have hb := C0.2.1
  have hl : lv_has ls 6 [(0, .ref (q 0)), (1, .int x1)] := hl
  unfold m_R_knows at h
  refine lv_aload_n hx hb d_R_knows_0 rfl (lv_at hl 0 rfl) ?_
  refine U_get C0 w 0 (by decide) rfl rfl inR 21 (by decide) wd_849 rfl d_R_knows_1 ?_
  refine lv_iload_n hx hb d_R_knows_4 rfl (lv_at hl 1 rfl) ?_
  obtain ⟨hi7, h⟩ := if_ok h
  refine U_ald C0 w (iR_17 ct) hi7 d_R_knows_5 ?_
  refine lv_istore_n hx hb d_R_knows_6 rfl hl (by decide) rfl (fun ls hl => ?_)
  have hl : lv_has ls 6 [(2, .int (M 17 x1.toNatClampNeg)), (0, .ref (q 0)), (1, .int x1)] := hl
  refine lv_aload_n hx hb d_R_knows_7 rfl (lv_at hl 1 rfl) ?_
  refine U_get C0 w 0 (by decide) rfl rfl inR 3 (by decide) wd_831 rfl d_R_knows_8 ?_
  refine lv_iload_n hx hb d_R_knows_11 rfl (lv_at hl 2 rfl) ?_
  obtain ⟨hi8, h⟩ := if_ok h
  refine U_ald C0 w (iR_2 ct) hi8 d_R_knows_12 ?_
  refine lv_istore_n hx hb d_R_knows_13 rfl hl (by decide) rfl (fun ls hl => ?_)
  have hl : lv_has ls 6 [(3, .int (M 2 x1.toNatClampNeg)), (2, .int (M 17 x1.toNatClampNeg)), (0, .ref (q 0)), (1, .int x1)] := hl
  refine lv_iload_n hx hb d_R_knows_14 rfl (lv_at hl 1 rfl) ?_
  refine lv_if_ge (tgt := 20) hx hb d_R_knows_15 (by decide) (fun hc => ?_) (fun hc => ?_)
  · rw [if_pos hc] at h
    refine lv_iload_n hx hb d_R_knows_20 rfl (lv_at hl 0 rfl) ?_
    refine lv_if_ne (tgt := 37) hx hb d_R_knows_21 (by decide) (fun hc => ?_) (fun hc => ?_)
    · rw [if_neg hc] at h
      refine lv_iload_n hx hb d_R_knows_37 rfl (lv_at hl 0 rfl) ?_
      refine lv_bipush (v := 6) hx hb d_R_knows_38 (by decide) ?_
      refine lv_icmp_ne (tgt := 51) hx hb d_R_knows_40 (by decide) (fun hc => ?_) (fun hc => ?_)
      · rw [if_neg hc] at h
        refine lv_aload_n hx hb d_R_knows_51 rfl (lv_at hl 2 rfl) ?_
        refine U_get C0 w 0 (by decide) rfl rfl inR 22 (by decide) wd_850 rfl d_R_knows_52 ?_
        refine lv_iload_n hx hb d_R_knows_55 rfl (lv_at hl 3 rfl) ?_
        obtain ⟨hi9, h⟩ := if_ok h
        refine U_ald C0 w (iR_18 ct) hi9 d_R_knows_56 ?_
        refine lv_istore hx hb d_R_knows_57 hl (by decide) rfl (fun ls hl => ?_)
        have hl : lv_has ls 6 [(4, .int (M 18 x1.toNatClampNeg)), (3, .int (M 2 x1.toNatClampNeg)), (2, .int (M 17 x1.toNatClampNeg)), (0, .ref (q 0)), (1, .int x1)] := hl
        refine lv_iload_n hx hb d_R_knows_59 rfl (lv_at hl 1 rfl) ?_
        refine lv_iconst (v := 1) hx hb d_R_knows_60 (by decide) ?_
        refine lv_icmp_ne (tgt := 84) hx hb d_R_knows_61 (by decide) (fun hc => ?_) (fun hc => ?_)
        · rw [if_neg hc] at h
          refine lv_aload_n hx hb d_R_knows_84 rfl (lv_at hl 3 rfl) ?_
          refine U_get C0 w 0 (by decide) rfl rfl inR 23 (by decide) wd_851 rfl d_R_knows_85 ?_
          refine lv_iload_n hx hb d_R_knows_88 rfl (lv_at hl 4 rfl) ?_
          obtain ⟨hi10, h⟩ := if_ok h
          refine U_ald C0 w (iR_19 ct) hi10 d_R_knows_89 ?_
          refine lv_istore hx hb d_R_knows_90 hl (by decide) rfl (fun ls hl => ?_)
          have hl : lv_has ls 6 [(5, .int (M 19 x1.toNatClampNeg)), (4, .int (M 18 x1.toNatClampNeg)), (3, .int (M 2 x1.toNatClampNeg)), (2, .int (M 17 x1.toNatClampNeg)), (0, .ref (q 0)), (1, .int x1)] := hl
          refine lv_aload_n hx hb d_R_knows_92 rfl (lv_at hl 4 rfl) ?_
          refine U_get C0 w 0 (by decide) rfl rfl inR 29 (by decide) wd_857 rfl d_R_knows_93 ?_
          refine lv_iload hx hb d_R_knows_96 (lv_at hl 1 rfl) ?_
          obtain ⟨hi11, h⟩ := if_ok h
          refine U_ald C0 w (iR_24 ct) hi11 d_R_knows_98 ?_
          refine lv_iconst (v := 2) hx hb d_R_knows_99 (by decide) ?_
          have hJ114 : ∀ (v2 : Int32) (M : Sto) (H : Heap) (locs : List Loc) (ls : Array Slot), lv_has ls 6 [(0, .ref (q 0)), (2, .int v2)] → Wd D A s (wR ct q M) H locs → j_R_knows_114 v2 M = some (rz, Mz) → W p l e rm_R_knows s m args below meth c H locs 0 0 Q (F0 m 114 ls []) := by
            intro v2 M H locs ls hl w h
            unfold j_R_knows_114 at h
            refine lv_aload_n hx hb d_R_knows_114 rfl (lv_at hl 0 rfl) ?_
            refine lv_iload_n hx hb d_R_knows_115 rfl (lv_at hl 1 rfl) ?_
            refine lv_iconst (v := 2) hx hb d_R_knows_116 (by decide) ?_
            refine lv_iconst (v := 0) hx hb d_R_knows_117 (by decide) ?_
            obtain ⟨r12, M13, hc14, h⟩ := bind_ok h
            try dsimp only at h
            refine U_vi (rest := []) C0 w 0 (wU_at (by decide)) rfl (c_R_becomes l D ct q hc14) wd_1065 wd_1062 wd_1064 ws_49 wd_8 (n9 := 3) (by decide +kernel) rfl ⟨(Nat.le_of_ble_eq_true rfl), (Nat.le_of_ble_eq_true rfl)⟩ hl.1 rfl (Nat.le_of_ble_eq_true rfl) d_R_knows_118 (Nat.le_of_ble_eq_true rfl) (Nat.le_of_ble_eq_true rfl) (fun H locs w => ?_)
            obtain ⟨hz9, h⟩ := if_ok h
            cases h
            exact hret _ _ _ _ d_R_knows_121 (bz_nar hz9) w
          refine lv_icmp_eq (tgt := 114) hx hb d_R_knows_100 (by decide) (fun hc => ?_) (fun hc => ?_)
          · rw [if_pos hc] at h
            exact hJ114 _ _ _ _ _ (lv_sub hl [4, 3] rfl) w h
          · rw [if_neg hc] at h
            refine lv_aload_n hx hb d_R_knows_103 rfl (lv_at hl 4 rfl) ?_
            refine U_get C0 w 0 (by decide) rfl rfl inR 29 (by decide) wd_857 rfl d_R_knows_104 ?_
            refine lv_iload hx hb d_R_knows_107 (lv_at hl 0 rfl) ?_
            obtain ⟨hi15, h⟩ := if_ok h
            refine U_ald C0 w (iR_24 ct) hi15 d_R_knows_109 ?_
            refine lv_iconst (v := 2) hx hb d_R_knows_110 (by decide) ?_
            refine lv_icmp_ne (tgt := 122) hx hb d_R_knows_111 (by decide) (fun hc => ?_) (fun hc => ?_)
            · rw [if_neg hc] at h
              refine lv_aload_n hx hb d_R_knows_122 rfl (lv_at hl 4 rfl) ?_
              refine U_get C0 w 0 (by decide) rfl rfl inR 29 (by decide) wd_857 rfl d_R_knows_123 ?_
              refine lv_iload hx hb d_R_knows_126 (lv_at hl 1 rfl) ?_
              obtain ⟨hi16, h⟩ := if_ok h
              refine U_ald C0 w (iR_24 ct) hi16 d_R_knows_128 ?_
              refine lv_iconst (v := 1) hx hb d_R_knows_129 (by decide) ?_
              have hJ177 : ∀ (s0 : Int32) (M : Sto) (H : Heap) (locs : List Loc) (ls : Array Slot), lv_has ls 6 [] → Wd D A s (wR ct q M) H locs → j_R_knows_177 s0 M = some (rz, Mz) → W p l e rm_R_knows s m args below meth c H locs 0 0 Q (F0 m 177 ls [.int s0]) := by
                intro s0 M H locs ls hl w h
                unfold j_R_knows_177 at h
                obtain ⟨hz9, h⟩ := if_ok h
                cases h
                exact hret _ _ _ _ d_R_knows_177 (bz_nar hz9) w
              have hJ176 : ∀ (M : Sto) (H : Heap) (locs : List Loc) (ls : Array Slot), lv_has ls 6 [] → Wd D A s (wR ct q M) H locs → j_R_knows_176 M = some (rz, Mz) → W p l e rm_R_knows s m args below meth c H locs 0 0 Q (F0 m 176 ls []) := by
                intro M H locs ls hl w h
                unfold j_R_knows_176 at h
                refine lv_iconst (v := 0) hx hb d_R_knows_176 (by decide) ?_
                exact hJ177 _ _ _ _ _ (lv_sub hl [] rfl) w h
              refine lv_icmp_ne (tgt := 176) hx hb d_R_knows_130 (by decide) (fun hc => ?_) (fun hc => ?_)
              · rw [if_neg hc] at h
                exact hJ176 _ _ _ _ (lv_sub hl [] rfl) w h
              · rw [if_pos hc] at h
                refine lv_aload_n hx hb d_R_knows_133 rfl (lv_at hl 4 rfl) ?_
                refine U_get C0 w 0 (by decide) rfl rfl inR 29 (by decide) wd_857 rfl d_R_knows_134 ?_
                refine lv_iload hx hb d_R_knows_137 (lv_at hl 0 rfl) ?_
                obtain ⟨hi17, h⟩ := if_ok h
                refine U_ald C0 w (iR_24 ct) hi17 d_R_knows_139 ?_
                refine lv_iconst (v := 1) hx hb d_R_knows_140 (by decide) ?_
                refine lv_icmp_ne (tgt := 176) hx hb d_R_knows_141 (by decide) (fun hc => ?_) (fun hc => ?_)
                · rw [if_neg hc] at h
                  exact hJ176 _ _ _ _ (lv_sub hl [] rfl) w h
                · rw [if_pos hc] at h
                  refine lv_aload_n hx hb d_R_knows_144 rfl (lv_at hl 4 rfl) ?_
                  refine lv_iload_n hx hb d_R_knows_145 rfl (lv_at hl 3 rfl) ?_
                  refine lv_iconst (v := 1) hx hb d_R_knows_146 (by decide) ?_
                  refine lv_aload_n hx hb d_R_knows_147 rfl (lv_at hl 4 rfl) ?_
                  refine lv_iload_n hx hb d_R_knows_148 rfl (lv_at hl 2 rfl) ?_
                  refine lv_aload_n hx hb d_R_knows_149 rfl (lv_at hl 4 rfl) ?_
                  refine U_get C0 w 0 (by decide) rfl rfl inR 30 (by decide) wd_858 rfl d_R_knows_150 ?_
                  refine lv_iload hx hb d_R_knows_153 (lv_at hl 1 rfl) ?_
                  obtain ⟨hi18, h⟩ := if_ok h
                  refine U_ald C0 w (iR_25 ct) hi18 d_R_knows_155 ?_
                  refine lv_aload_n hx hb d_R_knows_156 rfl (lv_at hl 4 rfl) ?_
                  refine U_get C0 w 0 (by decide) rfl rfl inR 30 (by decide) wd_858 rfl d_R_knows_157 ?_
                  refine lv_iload hx hb d_R_knows_160 (lv_at hl 0 rfl) ?_
                  obtain ⟨hi19, h⟩ := if_ok h
                  refine U_ald C0 w (iR_25 ct) hi19 d_R_knows_162 ?_
                  obtain ⟨r20, M21, hc22, h⟩ := bind_ok h
                  try dsimp only at h
                  refine U_vi (rest := [.int 1, .int (M 17 x1.toNatClampNeg), .ref (q 0)]) C0 w 0 (wU_at (by decide)) rfl (c_R_reckon l D ct q hc22) wd_1073 wd_1070 wd_1072 ws_51 wd_8 (n9 := 3) (by decide +kernel) rfl ⟨(Nat.le_of_ble_eq_true rfl), (Nat.le_of_ble_eq_true rfl)⟩ hl.1 rfl (Nat.le_of_ble_eq_true rfl) d_R_knows_163 (Nat.le_of_ble_eq_true rfl) (Nat.le_of_ble_eq_true rfl) (fun H locs w => ?_)
                  obtain ⟨r23, M24, hc25, h⟩ := bind_ok h
                  try dsimp only at h
                  refine U_vi (rest := []) C0 w 0 (wU_at (by decide)) rfl (c_R_becomes l D ct q hc25) wd_1065 wd_1062 wd_1064 ws_49 wd_8 (n9 := 3) (by decide +kernel) rfl ⟨(Nat.le_of_ble_eq_true rfl), (Nat.le_of_ble_eq_true rfl)⟩ hl.1 rfl (Nat.le_of_ble_eq_true rfl) d_R_knows_166 (Nat.le_of_ble_eq_true rfl) (Nat.le_of_ble_eq_true rfl) (fun H locs w => ?_)
                  refine lv_if_eq (tgt := 176) hx hb d_R_knows_169 (by decide) (fun hc => ?_) (fun hc => ?_)
                  · rw [if_pos hc] at h
                    exact hJ176 _ _ _ _ (lv_sub hl [] rfl) w h
                  · rw [if_neg hc] at h
                    refine lv_iconst (v := 1) hx hb d_R_knows_172 (by decide) ?_
                    refine lv_goto (tgt := 177) hx hb d_R_knows_173 (by decide) ?_
                    exact hJ177 _ _ _ _ _ (lv_sub hl [] rfl) w h
            · rw [if_pos hc] at h
              exact hJ114 _ _ _ _ _ (lv_sub hl [4, 3] rfl) w h
        · rw [if_pos hc] at h
          refine lv_aload_n hx hb d_R_knows_64 rfl (lv_at hl 3 rfl) ?_
          refine lv_iload_n hx hb d_R_knows_65 rfl (lv_at hl 2 rfl) ?_
          refine lv_aload_n hx hb d_R_knows_66 rfl (lv_at hl 3 rfl) ?_
          refine U_get C0 w 0 (by decide) rfl rfl inR 29 (by decide) wd_857 rfl d_R_knows_67 ?_
          refine lv_iload hx hb d_R_knows_70 (lv_at hl 0 rfl) ?_
          obtain ⟨hi26, h⟩ := if_ok h
          refine U_ald C0 w (iR_24 ct) hi26 d_R_knows_72 ?_
          refine lv_aload_n hx hb d_R_knows_73 rfl (lv_at hl 3 rfl) ?_
          refine U_get C0 w 0 (by decide) rfl rfl inR 30 (by decide) wd_858 rfl d_R_knows_74 ?_
          refine lv_iload hx hb d_R_knows_77 (lv_at hl 0 rfl) ?_
          obtain ⟨hi27, h⟩ := if_ok h
          refine U_ald C0 w (iR_25 ct) hi27 d_R_knows_79 ?_
          obtain ⟨r28, M29, hc30, h⟩ := bind_ok h
          try dsimp only at h
          refine U_vi (rest := []) C0 w 0 (wU_at (by decide)) rfl (c_R_becomes l D ct q hc30) wd_1065 wd_1062 wd_1064 ws_49 wd_8 (n9 := 3) (by decide +kernel) rfl ⟨(Nat.le_of_ble_eq_true rfl), (Nat.le_of_ble_eq_true rfl)⟩ hl.1 rfl (Nat.le_of_ble_eq_true rfl) d_R_knows_80 (Nat.le_of_ble_eq_true rfl) (Nat.le_of_ble_eq_true rfl) (fun H locs w => ?_)
          obtain ⟨hz9, h⟩ := if_ok h
          cases h
          exact hret _ _ _ _ d_R_knows_83 (bz_nar hz9) w
      · rw [if_pos hc] at h
        refine lv_aload_n hx hb d_R_knows_43 rfl (lv_at hl 2 rfl) ?_
        refine lv_iload_n hx hb d_R_knows_44 rfl (lv_at hl 1 rfl) ?_
        refine lv_iconst (v := 2) hx hb d_R_knows_45 (by decide) ?_
        refine lv_iconst (v := 0) hx hb d_R_knows_46 (by decide) ?_
        obtain ⟨r31, M32, hc33, h⟩ := bind_ok h
        try dsimp only at h
        refine U_vi (rest := []) C0 w 0 (wU_at (by decide)) rfl (c_R_becomes l D ct q hc33) wd_1065 wd_1062 wd_1064 ws_49 wd_8 (n9 := 3) (by decide +kernel) rfl ⟨(Nat.le_of_ble_eq_true rfl), (Nat.le_of_ble_eq_true rfl)⟩ hl.1 rfl (Nat.le_of_ble_eq_true rfl) d_R_knows_47 (Nat.le_of_ble_eq_true rfl) (Nat.le_of_ble_eq_true rfl) (fun H locs w => ?_)
        obtain ⟨hz9, h⟩ := if_ok h
        cases h
        exact hret _ _ _ _ d_R_knows_50 (bz_nar hz9) w
    · rw [if_pos hc] at h
      refine lv_aload_n hx hb d_R_knows_24 rfl (lv_at hl 2 rfl) ?_
      refine lv_iload_n hx hb d_R_knows_25 rfl (lv_at hl 1 rfl) ?_
      refine lv_iconst (v := 1) hx hb d_R_knows_26 (by decide) ?_
      refine lv_aload_n hx hb d_R_knows_27 rfl (lv_at hl 2 rfl) ?_
      refine U_get C0 w 0 (by decide) rfl rfl inR 5 (by decide) wd_833 rfl d_R_knows_28 ?_
      refine lv_iload_n hx hb d_R_knows_31 rfl (lv_at hl 3 rfl) ?_
      obtain ⟨hi34, h⟩ := if_ok h
      refine U_ald C0 w (iR_4 ct) hi34 d_R_knows_32 ?_
      obtain ⟨r35, M36, hc37, h⟩ := bind_ok h
      try dsimp only at h
      refine U_vi (rest := []) C0 w 0 (wU_at (by decide)) rfl (c_R_becomes l D ct q hc37) wd_1065 wd_1062 wd_1064 ws_49 wd_8 (n9 := 3) (by decide +kernel) rfl ⟨(Nat.le_of_ble_eq_true rfl), (Nat.le_of_ble_eq_true rfl)⟩ hl.1 rfl (Nat.le_of_ble_eq_true rfl) d_R_knows_33 (Nat.le_of_ble_eq_true rfl) (Nat.le_of_ble_eq_true rfl) (fun H locs w => ?_)
      obtain ⟨hz9, h⟩ := if_ok h
      cases h
      exact hret _ _ _ _ d_R_knows_36 (bz_nar hz9) w
  · rw [if_neg hc] at h
    refine lv_iconst (v := 0) hx hb d_R_knows_18 (by decide) ?_
    obtain ⟨hz9, h⟩ := if_ok h
    cases h
    exact hret _ _ _ _ d_R_knows_19 (bz_nar hz9) w
abbrev rm_R_ways : Room := { frames := 1, cells := 0, slots := 0, locals := 21 }
set_option maxHeartbeats 8000000 in
set_option maxRecDepth 100000 in
theorem c_R_ways (l : Launch) (D : va_G) (ct : Nat → ClassId) (q : Nat → Nat) {x1 : Int32} {M Mz : Sto} {rz : Int32} (h : m_R_ways x1 M = some (rz, Mz)) : KI l D ct y_R_ways b_R_ways 3 (some .int) 1 21 [.ref (q 0), .int x1] (wR ct q M) rz (wR ct q Mz) := by
  refine KI.ofU (by decide) (Nat.le_of_ble_eq_true rfl) rfl ?_
  intro p e s m args below meth c A Q ls C0 hl w hret
  have hx := C0.1
  have hb := C0.2.1
  have hl : lv_has ls 3 [(0, .ref (q 0)), (1, .int x1)] := hl
  unfold m_R_ways at h
  refine lv_aload_n hx hb d_R_ways_0 rfl (lv_at hl 0 rfl) ?_
  refine U_get C0 w 0 (by decide) rfl rfl inR 7 (by decide) wd_835 rfl d_R_ways_1 ?_
  refine lv_iload_n hx hb d_R_ways_4 rfl (lv_at hl 1 rfl) ?_
  obtain ⟨hi3, h⟩ := if_ok h
  refine U_ald C0 w (iR_6 ct) hi3 d_R_ways_5 ?_
  refine lv_iconst (v := 2) hx hb d_R_ways_6 (by decide) ?_
  refine lv_icmp_ge (tgt := 16) hx hb d_R_ways_7 (by decide) (fun hc => ?_) (fun hc => ?_)
  · rw [if_pos hc] at h
    refine lv_aload_n hx hb d_R_ways_16 rfl (lv_at hl 0 rfl) ?_
    refine U_get C0 w 0 (by decide) rfl rfl inR 24 (by decide) wd_852 rfl d_R_ways_17 ?_
    refine lv_iload_n hx hb d_R_ways_20 rfl (lv_at hl 1 rfl) ?_
    obtain ⟨hi4, h⟩ := if_ok h
    refine U_ald C0 w (iR_20 ct) hi4 d_R_ways_21 ?_
    refine lv_istore_n hx hb d_R_ways_22 rfl hl (by decide) rfl (fun ls hl => ?_)
    have hl : lv_has ls 3 [(2, .int (M 20 x1.toNatClampNeg)), (0, .ref (q 0)), (1, .int x1)] := hl
    refine lv_aload_n hx hb d_R_ways_23 rfl (lv_at hl 1 rfl) ?_
    refine U_get C0 w 0 (by decide) rfl rfl inR 29 (by decide) wd_857 rfl d_R_ways_24 ?_
    refine lv_iload_n hx hb d_R_ways_27 rfl (lv_at hl 0 rfl) ?_
    obtain ⟨hi5, h⟩ := if_ok h
    refine U_ald C0 w (iR_24 ct) hi5 d_R_ways_28 ?_
    refine lv_if_ne (tgt := 34) hx hb d_R_ways_29 (by decide) (fun hc => ?_) (fun hc => ?_)
    · rw [if_neg hc] at h
      refine lv_aload_n hx hb d_R_ways_34 rfl (lv_at hl 1 rfl) ?_
      refine U_get C0 w 0 (by decide) rfl rfl inR 29 (by decide) wd_857 rfl d_R_ways_35 ?_
      refine lv_iload_n hx hb d_R_ways_38 rfl (lv_at hl 0 rfl) ?_
      obtain ⟨hi6, h⟩ := if_ok h
      refine U_ald C0 w (iR_24 ct) hi6 d_R_ways_39 ?_
      refine lv_iconst (v := 2) hx hb d_R_ways_40 (by decide) ?_
      have hJ78 : ∀ (s0 : Int32) (M : Sto) (H : Heap) (locs : List Loc) (ls : Array Slot), lv_has ls 3 [] → Wd D A s (wR ct q M) H locs → j_R_ways_78 s0 M = some (rz, Mz) → W p l e rm_R_ways s m args below meth c H locs 0 0 Q (F0 m 78 ls [.int s0]) := by
        intro s0 M H locs ls hl w h
        unfold j_R_ways_78 at h
        cases h
        exact hret _ _ _ _ d_R_ways_78 rfl w
      refine lv_icmp_ne (tgt := 52) hx hb d_R_ways_41 (by decide) (fun hc => ?_) (fun hc => ?_)
      · rw [if_neg hc] at h
        refine lv_iconst (v := 1) hx hb d_R_ways_52 (by decide) ?_
        refine lv_aload_n hx hb d_R_ways_53 rfl (lv_at hl 1 rfl) ?_
        refine U_get C0 w 0 (by decide) rfl rfl inR 30 (by decide) wd_858 rfl d_R_ways_54 ?_
        refine lv_iload_n hx hb d_R_ways_57 rfl (lv_at hl 0 rfl) ?_
        obtain ⟨hi7, h⟩ := if_ok h
        refine U_ald C0 w (iR_25 ct) hi7 d_R_ways_58 ?_
        have hJ77 : ∀ (s0 s1 : Int32) (M : Sto) (H : Heap) (locs : List Loc) (ls : Array Slot), lv_has ls 3 [] → Wd D A s (wR ct q M) H locs → j_R_ways_77 s0 s1 M = some (rz, Mz) → W p l e rm_R_ways s m args below meth c H locs 0 0 Q (F0 m 77 ls [.int s0, .int s1]) := by
          intro s0 s1 M H locs ls hl w h
          unfold j_R_ways_77 at h
          refine lv_ishl hx hb d_R_ways_77 ?_
          exact hJ78 _ _ _ _ _ (lv_sub hl [] rfl) w h
        refine lv_if_eq (tgt := 71) hx hb d_R_ways_59 (by decide) (fun hc => ?_) (fun hc => ?_)
        · rw [if_pos hc] at h
          refine lv_aload_n hx hb d_R_ways_71 rfl (lv_at hl 1 rfl) ?_
          refine U_get C0 w 0 (by decide) rfl rfl inR 10 (by decide) wd_838 rfl d_R_ways_72 ?_
          refine lv_iload_n hx hb d_R_ways_75 rfl (lv_at hl 2 rfl) ?_
          obtain ⟨hi8, h⟩ := if_ok h
          refine U_ald C0 w (iR_9 ct) hi8 d_R_ways_76 ?_
          exact hJ77 _ _ _ _ _ _ (lv_sub hl [] rfl) w h
        · rw [if_neg hc] at h
          refine lv_aload_n hx hb d_R_ways_62 rfl (lv_at hl 1 rfl) ?_
          refine U_get C0 w 0 (by decide) rfl rfl inR 9 (by decide) wd_837 rfl d_R_ways_63 ?_
          refine lv_iload_n hx hb d_R_ways_66 rfl (lv_at hl 2 rfl) ?_
          obtain ⟨hi9, h⟩ := if_ok h
          refine U_ald C0 w (iR_8 ct) hi9 d_R_ways_67 ?_
          refine lv_goto (tgt := 77) hx hb d_R_ways_68 (by decide) ?_
          exact hJ77 _ _ _ _ _ _ (lv_sub hl [] rfl) w h
      · rw [if_pos hc] at h
        refine lv_aload_n hx hb d_R_ways_44 rfl (lv_at hl 1 rfl) ?_
        refine lv_iload_n hx hb d_R_ways_45 rfl (lv_at hl 2 rfl) ?_
        obtain ⟨r10, M11, hc12, h⟩ := bind_ok h
        try dsimp only at h
        refine U_vi (rest := []) C0 w 0 (wU_at (by decide)) rfl (c_R_leadsTo l D ct q hc12) wd_1018 wd_1015 wd_1017 ws_38 wd_8 (n9 := 1) (by decide +kernel) rfl ⟨(Nat.le_of_ble_eq_true rfl), (Nat.le_of_ble_eq_true rfl)⟩ hl.1 rfl (Nat.le_of_ble_eq_true rfl) d_R_ways_46 (Nat.le_of_ble_eq_true rfl) (Nat.le_of_ble_eq_true rfl) (fun H locs w => ?_)
        refine lv_goto (tgt := 78) hx hb d_R_ways_49 (by decide) ?_
        exact hJ78 _ _ _ _ _ (lv_sub hl [] rfl) w h
    · rw [if_pos hc] at h
      refine lv_iconst (v := 0) hx hb d_R_ways_32 (by decide) ?_
      cases h
      exact hret _ _ _ _ d_R_ways_33 rfl w
  · rw [if_neg hc] at h
    refine lv_aload_n hx hb d_R_ways_10 rfl (lv_at hl 0 rfl) ?_
    refine lv_iload_n hx hb d_R_ways_11 rfl (lv_at hl 1 rfl) ?_
    obtain ⟨r13, M14, hc15, h⟩ := bind_ok h
    try dsimp only at h
    refine U_vi (rest := []) C0 w 0 (wU_at (by decide)) rfl (c_R_leadsTo l D ct q hc15) wd_1018 wd_1015 wd_1017 ws_38 wd_8 (n9 := 1) (by decide +kernel) rfl ⟨(Nat.le_of_ble_eq_true rfl), (Nat.le_of_ble_eq_true rfl)⟩ hl.1 rfl (Nat.le_of_ble_eq_true rfl) d_R_ways_12 (Nat.le_of_ble_eq_true rfl) (Nat.le_of_ble_eq_true rfl) (fun H locs w => ?_)
    cases h
    exact hret _ _ _ _ d_R_ways_15 rfl w
abbrev rm_R_pass : Room := { frames := 2, cells := 0, slots := 0, locals := 51 }
set_option maxHeartbeats 8000000 in
set_option maxRecDepth 100000 in
theorem c_R_pass (l : Launch) (D : va_G) (ct : Nat → ClassId) (q : Nat → Nat) {M Mz : Sto} {rz : Int32} (h : m_R_pass M = some (rz, Mz)) : KI l D ct y_R_pass b_R_pass 4 (some .boolean) 2 51 [.ref (q 0)] (wR ct q M) rz (wR ct q Mz) := by
  refine KI.ofU (by decide) (Nat.le_of_ble_eq_true rfl) rfl ?_
  intro p e s m args below meth c A Q ls C0 hl w hret
  have hx := C0.1
  have hb := C0.2.1
  have hl : lv_has ls 4 [(0, .ref (q 0))] := hl
  unfold m_R_pass at h
  refine lv_iconst (v := 0) hx hb d_R_pass_0 (by decide) ?_
  refine lv_istore_n hx hb d_R_pass_1 rfl hl (by decide) rfl (fun ls hl => ?_)
  have hl : lv_has ls 4 [(1, .int 0), (0, .ref (q 0))] := hl
  refine lv_iconst (v := 0) hx hb d_R_pass_2 (by decide) ?_
  refine lv_istore_n hx hb d_R_pass_3 rfl hl (by decide) rfl (fun ls hl => ?_)
  have hl : lv_has ls 4 [(2, .int 0), (1, .int 0), (0, .ref (q 0))] := hl
  generalize eK4 : j_R_pass_173 = K4 at h
  have hE4 : ∀ (v1 : Int32) (M : Sto) (H : Heap) (locs : List Loc) (ls : Array Slot), lv_has ls 4 [(1, .int v1)] → Wd D A s (wR ct q M) H locs → K4 v1 M = some (rz, Mz) → W p l e rm_R_pass s m args below meth c H locs 0 0 Q (F0 m 173 ls []) := by
    intro v1 M H locs ls hl w h
    rw [← eK4] at h
    unfold j_R_pass_173 at h
    refine lv_iload_n hx hb d_R_pass_173 rfl (lv_at hl 0 rfl) ?_
    obtain ⟨hz9, h⟩ := if_ok h
    cases h
    exact hret _ _ _ _ d_R_pass_174 (bz_nar hz9) w
  have hL4 : ∀ (n : Nat) (v1 v2 : Int32) (M : Sto) (H : Heap) (locs : List Loc) (ls : Array Slot), lv_has ls 4 [(0, .ref (q 0)), (1, .int v1), (2, .int v2)] → Wd D A s (wR ct q M) H locs → l_R_pass_4 K4 n v1 v2 M = some (rz, Mz) → W p l e rm_R_pass s m args below meth c H locs 0 0 Q (F0 m 4 ls []) := by
    intro n
    induction n with
    | zero => intro v1 v2 M H locs ls hl w h; simp [l_R_pass_4] at h
    | succ n ih4 =>
      intro v1 v2 M H locs ls hl w h
      unfold l_R_pass_4 at h
      refine lv_iload_n hx hb d_R_pass_4 rfl (lv_at hl 2 rfl) ?_
      refine lv_aload_n hx hb d_R_pass_5 rfl (lv_at hl 0 rfl) ?_
      refine U_get C0 w 0 (by decide) rfl rfl inR 1 (by decide) wd_829 rfl d_R_pass_6 ?_
      refine lv_icmp_ge (tgt := 173) hx hb d_R_pass_9 (by decide) (fun hc => ?_) (fun hc => ?_)
      · rw [if_pos hc] at h
        exact hE4 _ _ _ _ _ (lv_sub hl [1] rfl) w h
      · rw [if_neg hc] at h
        refine lv_aload_n hx hb d_R_pass_12 rfl (lv_at hl 0 rfl) ?_
        refine U_get C0 w 0 (by decide) rfl rfl inR 27 (by decide) wd_855 rfl d_R_pass_13 ?_
        refine lv_iload_n hx hb d_R_pass_16 rfl (lv_at hl 2 rfl) ?_
        obtain ⟨r8, M9, hc10, h⟩ := bind_ok h
        try dsimp only at h
        refine U_si (rest := []) C0 w (c_R_has l D ct q hc10) wd_1014 wd_1012 wd_1013 wd_8 (n9 := 2) (by decide +kernel) rfl ⟨(Nat.le_of_ble_eq_true rfl), (Nat.le_of_ble_eq_true rfl)⟩ hl.1 rfl (Nat.le_of_ble_eq_true rfl) d_R_pass_17 (Nat.le_of_ble_eq_true rfl) (Nat.le_of_ble_eq_true rfl) (fun H locs w => ?_)
        have hJ167 : ∀ (v1 v2 : Int32) (M : Sto) (H : Heap) (locs : List Loc) (ls : Array Slot), lv_has ls 4 [(0, .ref (q 0)), (1, .int v1), (2, .int v2)] → Wd D A s (wR ct q M) H locs → j_R_pass_167 (l_R_pass_4 K4 n) K4 v1 v2 M = some (rz, Mz) → W p l e rm_R_pass s m args below meth c H locs 0 0 Q (F0 m 167 ls []) := by
          intro v1 v2 M H locs ls hl w h
          unfold j_R_pass_167 at h
          refine lv_iinc (k := 2) (v := v2 + 1) hx hb d_R_pass_167 hl rfl (inc1 _) (by decide) rfl (fun ls hl => ?_)
          have hl : lv_has ls 4 [(2, .int (v2 + 1)), (0, .ref (q 0)), (1, .int v1)] := hl
          refine lv_goto (tgt := 4) hx hb d_R_pass_170 (by decide) ?_
          exact ih4 _ _ _ _ _ _ (lv_sub hl [1, 2, 0] rfl) w h
        refine lv_if_ne (tgt := 26) hx hb d_R_pass_20 (by decide) (fun hc => ?_) (fun hc => ?_)
        · rw [if_neg hc] at h
          refine lv_iconst (v := 0) hx hb d_R_pass_26 (by decide) ?_
          refine lv_istore_n hx hb d_R_pass_27 rfl hl (by decide) rfl (fun ls hl => ?_)
          have hl : lv_has ls 4 [(3, .int 0), (0, .ref (q 0)), (1, .int v1), (2, .int v2)] := hl
          generalize eK28 : j_R_pass_75 (l_R_pass_4 K4 n) K4 = K28 at h
          have hE28 : ∀ (v1 v2 : Int32) (M : Sto) (H : Heap) (locs : List Loc) (ls : Array Slot), lv_has ls 4 [(0, .ref (q 0)), (1, .int v1), (2, .int v2)] → Wd D A s (wR ct q M) H locs → K28 v1 v2 M = some (rz, Mz) → W p l e rm_R_pass s m args below meth c H locs 0 0 Q (F0 m 75 ls []) := by
            intro v1 v2 M H locs ls hl w h
            rw [← eK28] at h
            unfold j_R_pass_75 at h
            refine lv_bipush (v := 6) hx hb d_R_pass_75 (by decide) ?_
            refine lv_iload_n hx hb d_R_pass_77 rfl (lv_at hl 2 rfl) ?_
            refine lv_imul hx hb d_R_pass_78 ?_
            refine lv_istore_n hx hb d_R_pass_79 rfl hl (by decide) rfl (fun ls hl => ?_)
            have hl : lv_has ls 4 [(3, .int (6 * v2)), (0, .ref (q 0)), (1, .int v1), (2, .int v2)] := hl
            generalize eK80 : j_R_pass_111 (l_R_pass_4 K4 n) K4 = K80 at h
            have hE80 : ∀ (v1 v2 : Int32) (M : Sto) (H : Heap) (locs : List Loc) (ls : Array Slot), lv_has ls 4 [(0, .ref (q 0)), (1, .int v1), (2, .int v2)] → Wd D A s (wR ct q M) H locs → K80 v1 v2 M = some (rz, Mz) → W p l e rm_R_pass s m args below meth c H locs 0 0 Q (F0 m 111 ls []) := by
              intro v1 v2 M H locs ls hl w h
              rw [← eK80] at h
              unfold j_R_pass_111 at h
              refine lv_aload_n hx hb d_R_pass_111 rfl (lv_at hl 0 rfl) ?_
              refine lv_iload_n hx hb d_R_pass_112 rfl (lv_at hl 2 rfl) ?_
              obtain ⟨r11, M12, hc13, h⟩ := bind_ok h
              try dsimp only at h
              refine U_vi (rest := []) C0 w 0 (wU_at (by decide)) rfl (c_R_ways l D ct q hc13) wd_1077 wd_1074 wd_1076 ws_52 wd_8 (n9 := 1) (by decide +kernel) rfl ⟨(Nat.le_of_ble_eq_true rfl), (Nat.le_of_ble_eq_true rfl)⟩ hl.1 rfl (Nat.le_of_ble_eq_true rfl) d_R_pass_113 (Nat.le_of_ble_eq_true rfl) (Nat.le_of_ble_eq_true rfl) (fun H locs w => ?_)
              refine lv_istore_n hx hb d_R_pass_116 rfl hl (by decide) rfl (fun ls hl => ?_)
              have hl : lv_has ls 4 [(3, .int r11), (0, .ref (q 0)), (1, .int v1), (2, .int v2)] := hl
              refine lv_iload_n hx hb d_R_pass_117 rfl (lv_at hl 2 rfl) ?_
              have hJ149 : ∀ (s0 v2 v3 : Int32) (M : Sto) (H : Heap) (locs : List Loc) (ls : Array Slot), lv_has ls 4 [(0, .ref (q 0)), (2, .int v2), (3, .int v3)] → Wd D A s (wR ct q M) H locs → j_R_pass_149 (l_R_pass_4 K4 n) K4 s0 v2 v3 M = some (rz, Mz) → W p l e rm_R_pass s m args below meth c H locs 0 0 Q (F0 m 149 ls [.int s0]) := by
                intro s0 v2 v3 M H locs ls hl w h
                unfold j_R_pass_149 at h
                refine lv_istore_n hx hb d_R_pass_149 rfl hl (by decide) rfl (fun ls hl => ?_)
                have hl : lv_has ls 4 [(1, .int s0), (0, .ref (q 0)), (2, .int v2), (3, .int v3)] := hl
                refine lv_aload_n hx hb d_R_pass_150 rfl (lv_at hl 1 rfl) ?_
                refine U_get C0 w 0 (by decide) rfl rfl inR 28 (by decide) wd_856 rfl d_R_pass_151 ?_
                refine lv_iload_n hx hb d_R_pass_154 rfl (lv_at hl 2 rfl) ?_
                refine lv_iload_n hx hb d_R_pass_155 rfl (lv_at hl 3 rfl) ?_
                obtain ⟨hi14, h⟩ := if_ok h
                obtain ⟨M15, eM15, h⟩ := wr_ok h
                try dsimp only at h
                refine U_ast C0 (cR_l ct) w (iR_23 ct) hi14 d_R_pass_156 eM15 (fun H locs w => ?_)
                refine lv_aload_n hx hb d_R_pass_157 rfl (lv_at hl 1 rfl) ?_
                refine lv_dup hx hb d_R_pass_158 rfl ?_
                refine U_get C0 w 0 (by decide) rfl rfl inR 27 (by decide) wd_855 rfl d_R_pass_159 ?_
                refine lv_iload_n hx hb d_R_pass_162 rfl (lv_at hl 3 rfl) ?_
                refine lv_ior hx hb d_R_pass_163 ?_
                obtain ⟨M16, eM16, h⟩ := wr_ok h
                try dsimp only at h
                refine U_put C0 (cR_l ct) w 0 (by decide) rfl rfl inR tyR_ok nmR 27 (by decide) wd_855 rfl rfl rfl (Nat.le_of_ble_eq_true rfl) d_R_pass_164 eM16 rfl (fun H locs w => ?_)
                exact hJ167 _ _ _ _ _ _ (lv_sub hl [1, 0, 2] rfl) w h
              have hJ144 : ∀ (v2 v3 : Int32) (M : Sto) (H : Heap) (locs : List Loc) (ls : Array Slot), lv_has ls 4 [(0, .ref (q 0)), (2, .int v2), (3, .int v3)] → Wd D A s (wR ct q M) H locs → j_R_pass_144 (l_R_pass_4 K4 n) K4 v2 v3 M = some (rz, Mz) → W p l e rm_R_pass s m args below meth c H locs 0 0 Q (F0 m 144 ls []) := by
                intro v2 v3 M H locs ls hl w h
                unfold j_R_pass_144 at h
                refine lv_iconst (v := 1) hx hb d_R_pass_144 (by decide) ?_
                refine lv_goto (tgt := 149) hx hb d_R_pass_145 (by decide) ?_
                exact hJ149 _ _ _ _ _ _ _ (lv_sub hl [0, 1, 2] rfl) w h
              refine lv_if_ne (tgt := 144) hx hb d_R_pass_118 (by decide) (fun hc => ?_) (fun hc => ?_)
              · rw [if_neg hc] at h
                exact hJ144 _ _ _ _ _ _ (lv_sub hl [1, 3, 0] rfl) w h
              · rw [if_pos hc] at h
                refine lv_iload_n hx hb d_R_pass_121 rfl (lv_at hl 0 rfl) ?_
                refine lv_aload_n hx hb d_R_pass_122 rfl (lv_at hl 1 rfl) ?_
                refine U_get C0 w 0 (by decide) rfl rfl inR 28 (by decide) wd_856 rfl d_R_pass_123 ?_
                refine lv_iload_n hx hb d_R_pass_126 rfl (lv_at hl 3 rfl) ?_
                obtain ⟨hi17, h⟩ := if_ok h
                refine U_ald C0 w (iR_23 ct) hi17 d_R_pass_127 ?_
                refine lv_icmp_ne (tgt := 144) hx hb d_R_pass_128 (by decide) (fun hc => ?_) (fun hc => ?_)
                · rw [if_neg hc] at h
                  exact hJ144 _ _ _ _ _ _ (lv_sub hl [1, 3, 0] rfl) w h
                · rw [if_pos hc] at h
                  refine lv_aload_n hx hb d_R_pass_131 rfl (lv_at hl 1 rfl) ?_
                  refine U_get C0 w 0 (by decide) rfl rfl inR 27 (by decide) wd_855 rfl d_R_pass_132 ?_
                  refine lv_iload_n hx hb d_R_pass_135 rfl (lv_at hl 0 rfl) ?_
                  refine lv_ior hx hb d_R_pass_136 ?_
                  refine lv_aload_n hx hb d_R_pass_137 rfl (lv_at hl 1 rfl) ?_
                  refine U_get C0 w 0 (by decide) rfl rfl inR 27 (by decide) wd_855 rfl d_R_pass_138 ?_
                  refine lv_icmp_eq (tgt := 148) hx hb d_R_pass_141 (by decide) (fun hc => ?_) (fun hc => ?_)
                  · rw [if_pos hc] at h
                    refine lv_iconst (v := 0) hx hb d_R_pass_148 (by decide) ?_
                    exact hJ149 _ _ _ _ _ _ _ (lv_sub hl [1, 3, 0] rfl) w h
                  · rw [if_neg hc] at h
                    exact hJ144 _ _ _ _ _ _ (lv_sub hl [1, 3, 0] rfl) w h
            have hL80 : ∀ (n : Nat) (v1 v2 v3 : Int32) (M : Sto) (H : Heap) (locs : List Loc) (ls : Array Slot), lv_has ls 4 [(0, .ref (q 0)), (1, .int v1), (2, .int v2), (3, .int v3)] → Wd D A s (wR ct q M) H locs → l_R_pass_80 K80 n v1 v2 v3 M = some (rz, Mz) → W p l e rm_R_pass s m args below meth c H locs 0 0 Q (F0 m 80 ls []) := by
              intro n
              induction n with
              | zero => intro v1 v2 v3 M H locs ls hl w h; simp [l_R_pass_80] at h
              | succ n ih80 =>
                intro v1 v2 v3 M H locs ls hl w h
                unfold l_R_pass_80 at h
                refine lv_iload_n hx hb d_R_pass_80 rfl (lv_at hl 3 rfl) ?_
                refine lv_bipush (v := 6) hx hb d_R_pass_81 (by decide) ?_
                refine lv_iload_n hx hb d_R_pass_83 rfl (lv_at hl 2 rfl) ?_
                refine lv_imul hx hb d_R_pass_84 ?_
                refine lv_aload_n hx hb d_R_pass_85 rfl (lv_at hl 0 rfl) ?_
                refine U_get C0 w 0 (by decide) rfl rfl inR 2 (by decide) wd_830 rfl d_R_pass_86 ?_
                refine lv_iload_n hx hb d_R_pass_89 rfl (lv_at hl 2 rfl) ?_
                obtain ⟨hi18, h⟩ := if_ok h
                refine U_ald C0 w (iR_1 ct) hi18 d_R_pass_90 ?_
                refine lv_iadd hx hb d_R_pass_91 ?_
                refine lv_icmp_ge (tgt := 111) hx hb d_R_pass_92 (by decide) (fun hc => ?_) (fun hc => ?_)
                · rw [if_pos hc] at h
                  exact hE80 _ _ _ _ _ _ (lv_sub hl [0, 1, 2] rfl) w h
                · rw [if_neg hc] at h
                  refine lv_aload_n hx hb d_R_pass_95 rfl (lv_at hl 0 rfl) ?_
                  refine lv_iload_n hx hb d_R_pass_96 rfl (lv_at hl 3 rfl) ?_
                  obtain ⟨r19, M20, hc21, h⟩ := bind_ok h
                  try dsimp only at h
                  refine U_vi (rest := []) C0 w 0 (wU_at (by decide)) rfl (c_R_knows l D ct q hc21) wd_1069 wd_1066 wd_1068 ws_50 wd_8 (n9 := 1) (by decide +kernel) rfl ⟨(Nat.le_of_ble_eq_true rfl), (Nat.le_of_ble_eq_true rfl)⟩ hl.1 rfl (Nat.le_of_ble_eq_true rfl) d_R_pass_97 (Nat.le_of_ble_eq_true rfl) (Nat.le_of_ble_eq_true rfl) (fun H locs w => ?_)
                  have hJ105 : ∀ (v1 v2 v3 : Int32) (M : Sto) (H : Heap) (locs : List Loc) (ls : Array Slot), lv_has ls 4 [(0, .ref (q 0)), (1, .int v1), (2, .int v2), (3, .int v3)] → Wd D A s (wR ct q M) H locs → j_R_pass_105 (l_R_pass_80 K80 n) K80 v1 v2 v3 M = some (rz, Mz) → W p l e rm_R_pass s m args below meth c H locs 0 0 Q (F0 m 105 ls []) := by
                    intro v1 v2 v3 M H locs ls hl w h
                    unfold j_R_pass_105 at h
                    refine lv_iinc (k := 3) (v := v3 + 1) hx hb d_R_pass_105 hl rfl (inc1 _) (by decide) rfl (fun ls hl => ?_)
                    have hl : lv_has ls 4 [(3, .int (v3 + 1)), (0, .ref (q 0)), (1, .int v1), (2, .int v2)] := hl
                    refine lv_goto (tgt := 80) hx hb d_R_pass_108 (by decide) ?_
                    exact ih80 _ _ _ _ _ _ _ (lv_sub hl [1, 2, 3, 0] rfl) w h
                  refine lv_if_eq (tgt := 105) hx hb d_R_pass_100 (by decide) (fun hc => ?_) (fun hc => ?_)
                  · rw [if_pos hc] at h
                    exact hJ105 _ _ _ _ _ _ _ (lv_sub hl [0, 1, 2, 3] rfl) w h
                  · rw [if_neg hc] at h
                    refine lv_iconst (v := 1) hx hb d_R_pass_103 (by decide) ?_
                    refine lv_istore_n hx hb d_R_pass_104 rfl hl (by decide) rfl (fun ls hl => ?_)
                    have hl : lv_has ls 4 [(1, .int 1), (0, .ref (q 0)), (2, .int v2), (3, .int v3)] := hl
                    exact hJ105 _ _ _ _ _ _ _ (lv_sub hl [1, 0, 2, 3] rfl) w h
            exact hL80 FU _ _ _ _ _ _ _ (lv_sub hl [1, 2, 3, 0] rfl) w h
          have hL28 : ∀ (n : Nat) (v1 v2 v3 : Int32) (M : Sto) (H : Heap) (locs : List Loc) (ls : Array Slot), lv_has ls 4 [(0, .ref (q 0)), (1, .int v1), (2, .int v2), (3, .int v3)] → Wd D A s (wR ct q M) H locs → l_R_pass_28 K28 n v1 v2 v3 M = some (rz, Mz) → W p l e rm_R_pass s m args below meth c H locs 0 0 Q (F0 m 28 ls []) := by
            intro n
            induction n with
            | zero => intro v1 v2 v3 M H locs ls hl w h; simp [l_R_pass_28] at h
            | succ n ih28 =>
              intro v1 v2 v3 M H locs ls hl w h
              unfold l_R_pass_28 at h
              refine lv_iload_n hx hb d_R_pass_28 rfl (lv_at hl 3 rfl) ?_
              refine lv_bipush (v := 6) hx hb d_R_pass_29 (by decide) ?_
              refine lv_icmp_ge (tgt := 75) hx hb d_R_pass_31 (by decide) (fun hc => ?_) (fun hc => ?_)
              · rw [if_pos hc] at h
                exact hE28 _ _ _ _ _ _ (lv_sub hl [0, 1, 2] rfl) w h
              · rw [if_neg hc] at h
                refine lv_aload_n hx hb d_R_pass_34 rfl (lv_at hl 0 rfl) ?_
                refine U_get C0 w 0 (by decide) rfl rfl inR 16 (by decide) wd_844 rfl d_R_pass_35 ?_
                refine lv_iload_n hx hb d_R_pass_38 rfl (lv_at hl 2 rfl) ?_
                obtain ⟨hi22, h⟩ := if_ok h
                refine U_ald C0 w (iR_13 ct) hi22 d_R_pass_39 ?_
                refine lv_iload_n hx hb d_R_pass_40 rfl (lv_at hl 3 rfl) ?_
                obtain ⟨r23, M24, hc25, h⟩ := bind_ok h
                try dsimp only at h
                refine U_si (rest := []) C0 w (c_R_has l D ct q hc25) wd_1014 wd_1012 wd_1013 wd_8 (n9 := 2) (by decide +kernel) rfl ⟨(Nat.le_of_ble_eq_true rfl), (Nat.le_of_ble_eq_true rfl)⟩ hl.1 rfl (Nat.le_of_ble_eq_true rfl) d_R_pass_41 (Nat.le_of_ble_eq_true rfl) (Nat.le_of_ble_eq_true rfl) (fun H locs w => ?_)
                have hJ69 : ∀ (v1 v2 v3 : Int32) (M : Sto) (H : Heap) (locs : List Loc) (ls : Array Slot), lv_has ls 4 [(0, .ref (q 0)), (1, .int v1), (2, .int v2), (3, .int v3)] → Wd D A s (wR ct q M) H locs → j_R_pass_69 (l_R_pass_28 K28 n) K28 v1 v2 v3 M = some (rz, Mz) → W p l e rm_R_pass s m args below meth c H locs 0 0 Q (F0 m 69 ls []) := by
                  intro v1 v2 v3 M H locs ls hl w h
                  unfold j_R_pass_69 at h
                  refine lv_iinc (k := 3) (v := v3 + 1) hx hb d_R_pass_69 hl rfl (inc1 _) (by decide) rfl (fun ls hl => ?_)
                  have hl : lv_has ls 4 [(3, .int (v3 + 1)), (0, .ref (q 0)), (1, .int v1), (2, .int v2)] := hl
                  refine lv_goto (tgt := 28) hx hb d_R_pass_72 (by decide) ?_
                  exact ih28 _ _ _ _ _ _ _ (lv_sub hl [1, 2, 3, 0] rfl) w h
                refine lv_if_eq (tgt := 69) hx hb d_R_pass_44 (by decide) (fun hc => ?_) (fun hc => ?_)
                · rw [if_pos hc] at h
                  exact hJ69 _ _ _ _ _ _ _ (lv_sub hl [0, 1, 2, 3] rfl) w h
                · rw [if_neg hc] at h
                  refine lv_aload_n hx hb d_R_pass_47 rfl (lv_at hl 0 rfl) ?_
                  refine lv_aload_n hx hb d_R_pass_48 rfl (lv_at hl 0 rfl) ?_
                  refine U_get C0 w 0 (by decide) rfl rfl inR 20 (by decide) wd_848 rfl d_R_pass_49 ?_
                  refine lv_bipush (v := 6) hx hb d_R_pass_52 (by decide) ?_
                  refine lv_iload_n hx hb d_R_pass_54 rfl (lv_at hl 2 rfl) ?_
                  refine lv_imul hx hb d_R_pass_55 ?_
                  refine lv_iload_n hx hb d_R_pass_56 rfl (lv_at hl 3 rfl) ?_
                  refine lv_iadd hx hb d_R_pass_57 ?_
                  obtain ⟨hi26, h⟩ := if_ok h
                  refine U_ald C0 w (iR_16 ct) hi26 d_R_pass_58 ?_
                  refine lv_iload_n hx hb d_R_pass_59 rfl (lv_at hl 2 rfl) ?_
                  refine lv_iload_n hx hb d_R_pass_60 rfl (lv_at hl 3 rfl) ?_
                  obtain ⟨r27, M28, hc29, h⟩ := bind_ok h
                  try dsimp only at h
                  refine U_vi (rest := []) C0 w 0 (wU_at (by decide)) rfl (c_R_meet l D ct q hc29) wd_1061 wd_1058 wd_1060 ws_48 wd_8 (n9 := 3) (by decide +kernel) rfl ⟨(Nat.le_of_ble_eq_true rfl), (Nat.le_of_ble_eq_true rfl)⟩ hl.1 rfl (Nat.le_of_ble_eq_true rfl) d_R_pass_61 (Nat.le_of_ble_eq_true rfl) (Nat.le_of_ble_eq_true rfl) (fun H locs w => ?_)
                  refine lv_if_eq (tgt := 69) hx hb d_R_pass_64 (by decide) (fun hc => ?_) (fun hc => ?_)
                  · rw [if_pos hc] at h
                    exact hJ69 _ _ _ _ _ _ _ (lv_sub hl [0, 1, 2, 3] rfl) w h
                  · rw [if_neg hc] at h
                    refine lv_iconst (v := 1) hx hb d_R_pass_67 (by decide) ?_
                    refine lv_istore_n hx hb d_R_pass_68 rfl hl (by decide) rfl (fun ls hl => ?_)
                    have hl : lv_has ls 4 [(1, .int 1), (0, .ref (q 0)), (2, .int v2), (3, .int v3)] := hl
                    exact hJ69 _ _ _ _ _ _ _ (lv_sub hl [1, 0, 2, 3] rfl) w h
          exact hL28 FU _ _ _ _ _ _ _ (lv_sub hl [1, 2, 3, 0] rfl) w h
        · rw [if_pos hc] at h
          refine lv_goto (tgt := 167) hx hb d_R_pass_23 (by decide) ?_
          exact hJ167 _ _ _ _ _ _ (lv_sub hl [0, 1, 2] rfl) w h
  exact hL4 FU _ _ _ _ _ _ (lv_sub hl [2, 1, 0] rfl) w h
abbrev rm_R_findKnown : Room := { frames := 3, cells := 0, slots := 0, locals := 74 }
set_option maxHeartbeats 8000000 in
set_option maxRecDepth 100000 in
theorem c_R_findKnown (l : Launch) (D : va_G) (ct : Nat → ClassId) (q : Nat → Nat) {M Mz : Sto} {rz : Int32} (h : m_R_findKnown M = some (rz, Mz)) : KV l D ct y_R_findKnown b_R_findKnown 2 3 74 0 0 [.ref (q 0)] (wR ct q M) (fun A t => CE D (wR ct q Mz) A t) := by
  refine KV.ofU (by decide) (Nat.le_of_ble_eq_true rfl) ?_
  intro p e s m args below meth c A Q ls C0 hl w hret
  have hx := C0.1
  have hb := C0.2.1
  have hl : lv_has ls 2 [(0, .ref (q 0))] := hl
  unfold m_R_findKnown at h
  refine lv_aload_n hx hb d_R_findKnown_0 rfl (lv_at hl 0 rfl) ?_
  refine lv_iconst (v := 1) hx hb d_R_findKnown_1 (by decide) ?_
  obtain ⟨M7, eM7, h⟩ := wr_ok h
  try dsimp only at h
  refine U_put C0 (cR_l ct) w 0 (by decide) rfl rfl inR tyR_ok nmR 27 (by decide) wd_855 rfl rfl rfl (Nat.le_of_ble_eq_true rfl) d_R_findKnown_2 eM7 rfl (fun H locs w => ?_)
  refine lv_iconst (v := 0) hx hb d_R_findKnown_5 (by decide) ?_
  refine lv_istore_n hx hb d_R_findKnown_6 rfl hl (by decide) rfl (fun ls hl => ?_)
  have hl : lv_has ls 2 [(1, .int 0), (0, .ref (q 0))] := hl
  generalize eK7 : j_R_findKnown_26 = K7 at h
  have hE7 : ∀ (M : Sto) (H : Heap) (locs : List Loc) (ls : Array Slot), lv_has ls 2 [(0, .ref (q 0))] → Wd D A s (wR ct q M) H locs → K7 M = some (rz, Mz) → W p l e rm_R_findKnown s m args below meth c H locs 0 0 Q (F0 m 26 ls []) := by
    intro M H locs ls hl w h
    rw [← eK7] at h
    unfold j_R_findKnown_26 at h
    refine lv_iconst (v := 0) hx hb d_R_findKnown_26 (by decide) ?_
    refine lv_istore_n hx hb d_R_findKnown_27 rfl hl (by decide) rfl (fun ls hl => ?_)
    have hl : lv_has ls 2 [(1, .int 0), (0, .ref (q 0))] := hl
    generalize eK28 : j_R_findKnown_72 = K28 at h
    have hE28 : ∀ (M : Sto) (H : Heap) (locs : List Loc) (ls : Array Slot), lv_has ls 2 [(0, .ref (q 0))] → Wd D A s (wR ct q M) H locs → K28 M = some (rz, Mz) → W p l e rm_R_findKnown s m args below meth c H locs 0 0 Q (F0 m 72 ls []) := by
      intro M H locs ls hl w h
      rw [← eK28] at h
      unfold j_R_findKnown_72 at h
      refine lv_iconst (v := 1) hx hb d_R_findKnown_72 (by decide) ?_
      refine lv_istore_n hx hb d_R_findKnown_73 rfl hl (by decide) rfl (fun ls hl => ?_)
      have hl : lv_has ls 2 [(1, .int 1), (0, .ref (q 0))] := hl
      generalize eK74 : j_R_findKnown_86 = K74 at h
      have hE74 : ∀ (M : Sto) (H : Heap) (locs : List Loc) (ls : Array Slot), lv_has ls 2 [] → Wd D A s (wR ct q M) H locs → K74 M = some (rz, Mz) → W p l e rm_R_findKnown s m args below meth c H locs 0 0 Q (F0 m 86 ls []) := by
        intro M H locs ls hl w h
        rw [← eK74] at h
        unfold j_R_findKnown_86 at h
        cases h
        exact hret _ _ _ _ d_R_findKnown_86 w
      have hL74 : ∀ (n : Nat) (v1 : Int32) (M : Sto) (H : Heap) (locs : List Loc) (ls : Array Slot), lv_has ls 2 [(0, .ref (q 0)), (1, .int v1)] → Wd D A s (wR ct q M) H locs → l_R_findKnown_74 K74 n v1 M = some (rz, Mz) → W p l e rm_R_findKnown s m args below meth c H locs 0 0 Q (F0 m 74 ls []) := by
        intro n
        induction n with
        | zero => intro v1 M H locs ls hl w h; simp [l_R_findKnown_74] at h
        | succ n ih74 =>
          intro v1 M H locs ls hl w h
          unfold l_R_findKnown_74 at h
          refine lv_iload_n hx hb d_R_findKnown_74 rfl (lv_at hl 1 rfl) ?_
          refine lv_if_eq (tgt := 86) hx hb d_R_findKnown_75 (by decide) (fun hc => ?_) (fun hc => ?_)
          · rw [if_pos hc] at h
            exact hE74 _ _ _ _ (lv_sub hl [] rfl) w h
          · rw [if_neg hc] at h
            refine lv_aload_n hx hb d_R_findKnown_78 rfl (lv_at hl 0 rfl) ?_
            obtain ⟨r8, M9, hc10, h⟩ := bind_ok h
            try dsimp only at h
            refine U_vi (rest := []) C0 w 0 (wU_at (by decide)) rfl (c_R_pass l D ct q hc10) wd_1057 wd_1054 wd_1056 ws_47 wd_8 (n9 := 0) (by decide +kernel) rfl ⟨(Nat.le_of_ble_eq_true rfl), (Nat.le_of_ble_eq_true rfl)⟩ hl.1 rfl (Nat.le_of_ble_eq_true rfl) d_R_findKnown_79 (Nat.le_of_ble_eq_true rfl) (Nat.le_of_ble_eq_true rfl) (fun H locs w => ?_)
            refine lv_istore_n hx hb d_R_findKnown_82 rfl hl (by decide) rfl (fun ls hl => ?_)
            have hl : lv_has ls 2 [(1, .int r8), (0, .ref (q 0))] := hl
            refine lv_goto (tgt := 74) hx hb d_R_findKnown_83 (by decide) ?_
            exact ih74 _ _ _ _ _ (lv_sub hl [1, 0] rfl) w h
      exact hL74 FU _ _ _ _ _ (lv_sub hl [1, 0] rfl) w h
    have hL28 : ∀ (n : Nat) (v1 : Int32) (M : Sto) (H : Heap) (locs : List Loc) (ls : Array Slot), lv_has ls 2 [(0, .ref (q 0)), (1, .int v1)] → Wd D A s (wR ct q M) H locs → l_R_findKnown_28 K28 n v1 M = some (rz, Mz) → W p l e rm_R_findKnown s m args below meth c H locs 0 0 Q (F0 m 28 ls []) := by
      intro n
      induction n with
      | zero => intro v1 M H locs ls hl w h; simp [l_R_findKnown_28] at h
      | succ n ih28 =>
        intro v1 M H locs ls hl w h
        unfold l_R_findKnown_28 at h
        refine lv_iload_n hx hb d_R_findKnown_28 rfl (lv_at hl 1 rfl) ?_
        refine lv_sipush (v := 130) hx hb d_R_findKnown_29 (by decide) ?_
        refine lv_icmp_ge (tgt := 72) hx hb d_R_findKnown_32 (by decide) (fun hc => ?_) (fun hc => ?_)
        · rw [if_pos hc] at h
          exact hE28 _ _ _ _ (lv_sub hl [0] rfl) w h
        · rw [if_neg hc] at h
          refine lv_aload_n hx hb d_R_findKnown_35 rfl (lv_at hl 0 rfl) ?_
          refine U_get C0 w 0 (by decide) rfl rfl inR 29 (by decide) wd_857 rfl d_R_findKnown_36 ?_
          refine lv_iload_n hx hb d_R_findKnown_39 rfl (lv_at hl 1 rfl) ?_
          refine lv_iload_n hx hb d_R_findKnown_40 rfl (lv_at hl 1 rfl) ?_
          refine lv_bipush (v := 6) hx hb d_R_findKnown_41 (by decide) ?_
          have hJ51 : ∀ (s0 s1 v1 : Int32) (M : Sto) (H : Heap) (locs : List Loc) (ls : Array Slot), lv_has ls 2 [(0, .ref (q 0)), (1, .int v1)] → Wd D A s (wR ct q M) H locs → j_R_findKnown_51 (l_R_findKnown_28 K28 n) K28 s0 s1 v1 M = some (rz, Mz) → W p l e rm_R_findKnown s m args below meth c H locs 0 0 Q (F0 m 51 ls [.int s0, .int s1, .ref (q 24)]) := by
            intro s0 s1 v1 M H locs ls hl w h
            unfold j_R_findKnown_51 at h
            obtain ⟨hi11, h⟩ := if_ok h
            obtain ⟨M12, eM12, h⟩ := wr_ok h
            try dsimp only at h
            refine U_ast C0 (cR_l ct) w (iR_24 ct) hi11 d_R_findKnown_51 eM12 (fun H locs w => ?_)
            refine lv_aload_n hx hb d_R_findKnown_52 rfl (lv_at hl 0 rfl) ?_
            refine U_get C0 w 0 (by decide) rfl rfl inR 30 (by decide) wd_858 rfl d_R_findKnown_53 ?_
            refine lv_iload_n hx hb d_R_findKnown_56 rfl (lv_at hl 1 rfl) ?_
            refine lv_iconst (v := 0) hx hb d_R_findKnown_57 (by decide) ?_
            obtain ⟨hi13, h⟩ := if_ok h
            obtain ⟨M14, eM14, h⟩ := wr_ok h
            try dsimp only at h
            refine U_ast C0 (cR_l ct) w (iR_25 ct) hi13 d_R_findKnown_58 eM14 (fun H locs w => ?_)
            refine lv_aload_n hx hb d_R_findKnown_59 rfl (lv_at hl 0 rfl) ?_
            refine U_get C0 w 0 (by decide) rfl rfl inR 31 (by decide) wd_859 rfl d_R_findKnown_60 ?_
            refine lv_iload_n hx hb d_R_findKnown_63 rfl (lv_at hl 1 rfl) ?_
            refine lv_iconst (v := 0) hx hb d_R_findKnown_64 (by decide) ?_
            obtain ⟨hi15, h⟩ := if_ok h
            obtain ⟨hz16, h⟩ := if_ok h
            obtain ⟨M17, eM17, h⟩ := wr_ok h
            try dsimp only at h
            refine U_zst C0 (cR_l ct) w (zR_26 ct) hi15 hz16 d_R_findKnown_65 eM17 (fun H locs w => ?_)
            refine lv_iinc (k := 1) (v := v1 + 1) hx hb d_R_findKnown_66 hl rfl (inc1 _) (by decide) rfl (fun ls hl => ?_)
            have hl : lv_has ls 2 [(1, .int (v1 + 1)), (0, .ref (q 0))] := hl
            refine lv_goto (tgt := 28) hx hb d_R_findKnown_69 (by decide) ?_
            exact ih28 _ _ _ _ _ (lv_sub hl [1, 0] rfl) w h
          refine lv_icmp_ge (tgt := 50) hx hb d_R_findKnown_43 (by decide) (fun hc => ?_) (fun hc => ?_)
          · rw [if_pos hc] at h
            refine lv_iconst (v := 0) hx hb d_R_findKnown_50 (by decide) ?_
            exact hJ51 _ _ _ _ _ _ _ (lv_sub hl [0, 1] rfl) w h
          · rw [if_neg hc] at h
            refine lv_iconst (v := 1) hx hb d_R_findKnown_46 (by decide) ?_
            refine lv_goto (tgt := 51) hx hb d_R_findKnown_47 (by decide) ?_
            exact hJ51 _ _ _ _ _ _ _ (lv_sub hl [0, 1] rfl) w h
    exact hL28 FU _ _ _ _ _ (lv_sub hl [1, 0] rfl) w h
  have hL7 : ∀ (n : Nat) (v1 : Int32) (M : Sto) (H : Heap) (locs : List Loc) (ls : Array Slot), lv_has ls 2 [(0, .ref (q 0)), (1, .int v1)] → Wd D A s (wR ct q M) H locs → l_R_findKnown_7 K7 n v1 M = some (rz, Mz) → W p l e rm_R_findKnown s m args below meth c H locs 0 0 Q (F0 m 7 ls []) := by
    intro n
    induction n with
    | zero => intro v1 M H locs ls hl w h; simp [l_R_findKnown_7] at h
    | succ n ih7 =>
      intro v1 M H locs ls hl w h
      unfold l_R_findKnown_7 at h
      refine lv_iload_n hx hb d_R_findKnown_7 rfl (lv_at hl 1 rfl) ?_
      refine lv_bipush (v := 10) hx hb d_R_findKnown_8 (by decide) ?_
      refine lv_icmp_ge (tgt := 26) hx hb d_R_findKnown_10 (by decide) (fun hc => ?_) (fun hc => ?_)
      · rw [if_pos hc] at h
        exact hE7 _ _ _ _ (lv_sub hl [0] rfl) w h
      · rw [if_neg hc] at h
        refine lv_aload_n hx hb d_R_findKnown_13 rfl (lv_at hl 0 rfl) ?_
        refine U_get C0 w 0 (by decide) rfl rfl inR 28 (by decide) wd_856 rfl d_R_findKnown_14 ?_
        refine lv_iload_n hx hb d_R_findKnown_17 rfl (lv_at hl 1 rfl) ?_
        refine lv_iconst (v := 0) hx hb d_R_findKnown_18 (by decide) ?_
        obtain ⟨hi18, h⟩ := if_ok h
        obtain ⟨M19, eM19, h⟩ := wr_ok h
        try dsimp only at h
        refine U_ast C0 (cR_l ct) w (iR_23 ct) hi18 d_R_findKnown_19 eM19 (fun H locs w => ?_)
        refine lv_iinc (k := 1) (v := v1 + 1) hx hb d_R_findKnown_20 hl rfl (inc1 _) (by decide) rfl (fun ls hl => ?_)
        have hl : lv_has ls 2 [(1, .int (v1 + 1)), (0, .ref (q 0))] := hl
        refine lv_goto (tgt := 7) hx hb d_R_findKnown_23 (by decide) ?_
        exact ih7 _ _ _ _ _ (lv_sub hl [1, 0] rfl) w h
  exact hL7 FU _ _ _ _ _ (lv_sub hl [1, 0] rfl) w h
abbrev rm_R_needs : Room := { frames := 0, cells := 0, slots := 0, locals := 0 }
set_option maxHeartbeats 8000000 in
set_option maxRecDepth 100000 in
theorem c_R_needs (l : Launch) (D : va_G) (ct : Nat → ClassId) (q : Nat → Nat) {x1 : Int32} {M Mz : Sto} {rz : Int32} (h : m_R_needs x1 M = some (rz, Mz)) : KI l D ct y_R_needs b_R_needs 3 (some .boolean) 0 0 [.ref (q 0), .int x1] (wR ct q M) rz (wR ct q Mz) := by
  refine KI.ofU (by decide) (Nat.le_of_ble_eq_true rfl) rfl ?_
  intro p e s m args below meth c A Q ls C0 hl w hret
  have hx := C0.1
  have hb := C0.2.1
  have hl : lv_has ls 3 [(0, .ref (q 0)), (1, .int x1)] := hl
  unfold m_R_needs at h
  refine lv_iload_n hx hb d_R_needs_0 rfl (lv_at hl 1 rfl) ?_
  have hJ18 : ∀ (s0 v1 : Int32) (M : Sto) (H : Heap) (locs : List Loc) (ls : Array Slot), lv_has ls 3 [(0, .ref (q 0)), (1, .int v1)] → Wd D A s (wR ct q M) H locs → j_R_needs_18 s0 v1 M = some (rz, Mz) → W p l e rm_R_needs s m args below meth c H locs 0 0 Q (F0 m 18 ls [.int s0]) := by
    intro s0 v1 M H locs ls hl w h
    unfold j_R_needs_18 at h
    refine lv_istore_n hx hb d_R_needs_18 rfl hl (by decide) rfl (fun ls hl => ?_)
    have hl : lv_has ls 3 [(2, .int s0), (0, .ref (q 0)), (1, .int v1)] := hl
    refine lv_iload_n hx hb d_R_needs_19 rfl (lv_at hl 0 rfl) ?_
    have hJ30 : ∀ (v2 : Int32) (M : Sto) (H : Heap) (locs : List Loc) (ls : Array Slot), lv_has ls 3 [(2, .int v2)] → Wd D A s (wR ct q M) H locs → j_R_needs_30 v2 M = some (rz, Mz) → W p l e rm_R_needs s m args below meth c H locs 0 0 Q (F0 m 30 ls []) := by
      intro v2 M H locs ls hl w h
      unfold j_R_needs_30 at h
      refine lv_iload_n hx hb d_R_needs_30 rfl (lv_at hl 0 rfl) ?_
      obtain ⟨hz9, h⟩ := if_ok h
      cases h
      exact hret _ _ _ _ d_R_needs_31 (bz_nar hz9) w
    refine lv_if_eq (tgt := 30) hx hb d_R_needs_20 (by decide) (fun hc => ?_) (fun hc => ?_)
    · rw [if_pos hc] at h
      exact hJ30 _ _ _ _ _ (lv_sub hl [0] rfl) w h
    · rw [if_neg hc] at h
      refine lv_aload_n hx hb d_R_needs_23 rfl (lv_at hl 1 rfl) ?_
      refine U_get C0 w 0 (by decide) rfl rfl inR 31 (by decide) wd_859 rfl d_R_needs_24 ?_
      refine lv_iload_n hx hb d_R_needs_27 rfl (lv_at hl 2 rfl) ?_
      refine lv_iconst (v := 1) hx hb d_R_needs_28 (by decide) ?_
      obtain ⟨hi2, h⟩ := if_ok h
      obtain ⟨hz3, h⟩ := if_ok h
      obtain ⟨M4, eM4, h⟩ := wr_ok h
      try dsimp only at h
      refine U_zst C0 (cR_l ct) w (zR_26 ct) hi2 hz3 d_R_needs_29 eM4 (fun H locs w => ?_)
      exact hJ30 _ _ _ _ _ (lv_sub hl [0] rfl) w h
  have hJ17 : ∀ (v1 : Int32) (M : Sto) (H : Heap) (locs : List Loc) (ls : Array Slot), lv_has ls 3 [(0, .ref (q 0)), (1, .int v1)] → Wd D A s (wR ct q M) H locs → j_R_needs_17 v1 M = some (rz, Mz) → W p l e rm_R_needs s m args below meth c H locs 0 0 Q (F0 m 17 ls []) := by
    intro v1 M H locs ls hl w h
    unfold j_R_needs_17 at h
    refine lv_iconst (v := 0) hx hb d_R_needs_17 (by decide) ?_
    exact hJ18 _ _ _ _ _ _ (lv_sub hl [0, 1] rfl) w h
  refine lv_if_lt (tgt := 17) hx hb d_R_needs_1 (by decide) (fun hc => ?_) (fun hc => ?_)
  · rw [if_pos hc] at h
    exact hJ17 _ _ _ _ _ (lv_sub hl [0, 1] rfl) w h
  · rw [if_neg hc] at h
    refine lv_aload_n hx hb d_R_needs_4 rfl (lv_at hl 0 rfl) ?_
    refine U_get C0 w 0 (by decide) rfl rfl inR 31 (by decide) wd_859 rfl d_R_needs_5 ?_
    refine lv_iload_n hx hb d_R_needs_8 rfl (lv_at hl 1 rfl) ?_
    obtain ⟨hi5, h⟩ := if_ok h
    refine U_zld C0 w (zR_26 ct) hi5 d_R_needs_9 ?_
    refine lv_if_ne (tgt := 17) hx hb d_R_needs_10 (by decide) (fun hc => ?_) (fun hc => ?_)
    · rw [if_neg hc] at h
      exact hJ17 _ _ _ _ _ (lv_sub hl [0, 1] rfl) w h
    · rw [if_pos hc] at h
      refine lv_iconst (v := 1) hx hb d_R_needs_13 (by decide) ?_
      refine lv_goto (tgt := 18) hx hb d_R_needs_14 (by decide) ?_
      exact hJ18 _ _ _ _ _ _ (lv_sub hl [0, 1] rfl) w h
end
section
abbrev rm_R_needsParts : Room := { frames := 1, cells := 0, slots := 0, locals := 22 }
set_option maxHeartbeats 8000000 in
set_option maxRecDepth 100000 in
theorem c_R_needsParts (l : Launch) (D : va_G) (ct : Nat → ClassId) (q : Nat → Nat) {x1 : Int32} {M Mz : Sto} {rz : Int32} (h : m_R_needsParts x1 M = some (rz, Mz)) : KI l D ct y_R_needsParts b_R_needsParts 7 (some .boolean) 1 22 [.ref (q 0), .int x1] (wR ct q M) rz (wR ct q Mz) := by
  refine KI.ofU (by decide) (Nat.le_of_ble_eq_true rfl) rfl ?_
  intro p e s m args below meth c A Q ls C0 hl w hret
  have hx := C0.1
  have hb := C0.2.1
  have hl : lv_has ls 7 [(0, .ref (q 0)), (1, .int x1)] := hl
  unfold m_R_needsParts at h
  refine lv_iload_n hx hb d_R_needsParts_0 rfl (lv_at hl 1 rfl) ?_
  refine lv_bipush (v := 6) hx hb d_R_needsParts_1 (by decide) ?_
  have hJ25 : ∀ (M : Sto) (H : Heap) (locs : List Loc) (ls : Array Slot), lv_has ls 7 [] → Wd D A s (wR ct q M) H locs → j_R_needsParts_25 M = some (rz, Mz) → W p l e rm_R_needsParts s m args below meth c H locs 0 0 Q (F0 m 25 ls []) := by
    intro M H locs ls hl w h
    unfold j_R_needsParts_25 at h
    refine lv_iconst (v := 0) hx hb d_R_needsParts_25 (by decide) ?_
    obtain ⟨hz9, h⟩ := if_ok h
    cases h
    exact hret _ _ _ _ d_R_needsParts_26 (bz_nar hz9) w
  refine lv_icmp_lt (tgt := 25) hx hb d_R_needsParts_3 (by decide) (fun hc => ?_) (fun hc => ?_)
  · rw [if_pos hc] at h
    exact hJ25 _ _ _ _ (lv_sub hl [] rfl) w h
  · rw [if_neg hc] at h
    refine lv_aload_n hx hb d_R_needsParts_6 rfl (lv_at hl 0 rfl) ?_
    refine U_get C0 w 0 (by decide) rfl rfl inR 31 (by decide) wd_859 rfl d_R_needsParts_7 ?_
    refine lv_iload_n hx hb d_R_needsParts_10 rfl (lv_at hl 1 rfl) ?_
    obtain ⟨hi7, h⟩ := if_ok h
    refine U_zld C0 w (zR_26 ct) hi7 d_R_needsParts_11 ?_
    refine lv_if_eq (tgt := 25) hx hb d_R_needsParts_12 (by decide) (fun hc => ?_) (fun hc => ?_)
    · rw [if_pos hc] at h
      exact hJ25 _ _ _ _ (lv_sub hl [] rfl) w h
    · rw [if_neg hc] at h
      refine lv_aload_n hx hb d_R_needsParts_15 rfl (lv_at hl 0 rfl) ?_
      refine U_get C0 w 0 (by decide) rfl rfl inR 29 (by decide) wd_857 rfl d_R_needsParts_16 ?_
      refine lv_iload_n hx hb d_R_needsParts_19 rfl (lv_at hl 1 rfl) ?_
      obtain ⟨hi8, h⟩ := if_ok h
      refine U_ald C0 w (iR_24 ct) hi8 d_R_needsParts_20 ?_
      refine lv_iconst (v := 1) hx hb d_R_needsParts_21 (by decide) ?_
      refine lv_icmp_ne (tgt := 27) hx hb d_R_needsParts_22 (by decide) (fun hc => ?_) (fun hc => ?_)
      · rw [if_neg hc] at h
        refine lv_aload_n hx hb d_R_needsParts_27 rfl (lv_at hl 0 rfl) ?_
        refine U_get C0 w 0 (by decide) rfl rfl inR 19 (by decide) wd_847 rfl d_R_needsParts_28 ?_
        refine lv_iload_n hx hb d_R_needsParts_31 rfl (lv_at hl 1 rfl) ?_
        obtain ⟨hi9, h⟩ := if_ok h
        refine U_ald C0 w (iR_15 ct) hi9 d_R_needsParts_32 ?_
        refine lv_istore_n hx hb d_R_needsParts_33 rfl hl (by decide) rfl (fun ls hl => ?_)
        have hl : lv_has ls 7 [(2, .int (M 15 x1.toNatClampNeg)), (0, .ref (q 0)), (1, .int x1)] := hl
        refine lv_iconst (v := 0) hx hb d_R_needsParts_34 (by decide) ?_
        refine lv_istore_n hx hb d_R_needsParts_35 rfl hl (by decide) rfl (fun ls hl => ?_)
        have hl : lv_has ls 7 [(3, .int 0), (2, .int (M 15 x1.toNatClampNeg)), (0, .ref (q 0)), (1, .int x1)] := hl
        refine lv_iload_n hx hb d_R_needsParts_36 rfl (lv_at hl 1 rfl) ?_
        refine lv_if_lt (tgt := 74) hx hb d_R_needsParts_37 (by decide) (fun hc => ?_) (fun hc => ?_)
        · rw [if_pos hc] at h
          refine lv_iconst (v := (-1)) hx hb d_R_needsParts_74 (by decide) ?_
          refine lv_iload_n hx hb d_R_needsParts_75 rfl (lv_at hl 1 rfl) ?_
          refine lv_isub hx hb d_R_needsParts_76 ?_
          refine lv_bipush (v := 6) hx hb d_R_needsParts_77 (by decide) ?_
          obtain ⟨hz10, h⟩ := nz_ok h
          refine lv_idiv hx hb d_R_needsParts_79 hz10 ?_
          refine lv_istore hx hb d_R_needsParts_80 hl (by decide) rfl (fun ls hl => ?_)
          have hl : lv_has ls 7 [(4, .int (((-1) - (M 15 x1.toNatClampNeg)) / 6)), (3, .int 0), (2, .int (M 15 x1.toNatClampNeg)), (0, .ref (q 0)), (1, .int x1)] := hl
          refine lv_iconst (v := (-1)) hx hb d_R_needsParts_82 (by decide) ?_
          refine lv_iload_n hx hb d_R_needsParts_83 rfl (lv_at hl 2 rfl) ?_
          refine lv_isub hx hb d_R_needsParts_84 ?_
          refine lv_bipush (v := 6) hx hb d_R_needsParts_85 (by decide) ?_
          obtain ⟨hz11, h⟩ := nz_ok h
          refine lv_irem hx hb d_R_needsParts_87 hz11 ?_
          refine lv_istore hx hb d_R_needsParts_88 hl (by decide) rfl (fun ls hl => ?_)
          have hl : lv_has ls 7 [(5, .int (((-1) - (M 15 x1.toNatClampNeg)) - ((-1) - (M 15 x1.toNatClampNeg)) / 6 * 6)), (4, .int (((-1) - (M 15 x1.toNatClampNeg)) / 6)), (3, .int 0), (2, .int (M 15 x1.toNatClampNeg)), (0, .ref (q 0)), (1, .int x1)] := hl
          refine lv_iconst (v := 0) hx hb d_R_needsParts_90 (by decide) ?_
          refine lv_istore hx hb d_R_needsParts_91 hl (by decide) rfl (fun ls hl => ?_)
          have hl : lv_has ls 7 [(6, .int 0), (5, .int (((-1) - (M 15 x1.toNatClampNeg)) - ((-1) - (M 15 x1.toNatClampNeg)) / 6 * 6)), (4, .int (((-1) - (M 15 x1.toNatClampNeg)) / 6)), (3, .int 0), (2, .int (M 15 x1.toNatClampNeg)), (0, .ref (q 0)), (1, .int x1)] := hl
          generalize eK93 : j_R_needsParts_172 = K93 at h
          have hE93 : ∀ (v3 : Int32) (M : Sto) (H : Heap) (locs : List Loc) (ls : Array Slot), lv_has ls 7 [(3, .int v3)] → Wd D A s (wR ct q M) H locs → K93 v3 M = some (rz, Mz) → W p l e rm_R_needsParts s m args below meth c H locs 0 0 Q (F0 m 172 ls []) := by
            intro v3 M H locs ls hl w h
            rw [← eK93] at h
            unfold j_R_needsParts_172 at h
            refine lv_iload_n hx hb d_R_needsParts_172 rfl (lv_at hl 0 rfl) ?_
            obtain ⟨hz9, h⟩ := if_ok h
            cases h
            exact hret _ _ _ _ d_R_needsParts_173 (bz_nar hz9) w
          have hL93 : ∀ (n : Nat) (v3 v4 v5 v6 : Int32) (M : Sto) (H : Heap) (locs : List Loc) (ls : Array Slot), lv_has ls 7 [(0, .ref (q 0)), (3, .int v3), (4, .int v4), (5, .int v5), (6, .int v6)] → Wd D A s (wR ct q M) H locs → l_R_needsParts_93 K93 n v3 v4 v5 v6 M = some (rz, Mz) → W p l e rm_R_needsParts s m args below meth c H locs 0 0 Q (F0 m 93 ls []) := by
            intro n
            induction n with
            | zero => intro v3 v4 v5 v6 M H locs ls hl w h; simp [l_R_needsParts_93] at h
            | succ n ih93 =>
              intro v3 v4 v5 v6 M H locs ls hl w h
              unfold l_R_needsParts_93 at h
              refine lv_iload hx hb d_R_needsParts_93 (lv_at hl 4 rfl) ?_
              refine lv_aload_n hx hb d_R_needsParts_95 rfl (lv_at hl 0 rfl) ?_
              refine U_get C0 w 0 (by decide) rfl rfl inR 1 (by decide) wd_829 rfl d_R_needsParts_96 ?_
              refine lv_icmp_ge (tgt := 172) hx hb d_R_needsParts_99 (by decide) (fun hc => ?_) (fun hc => ?_)
              · rw [if_pos hc] at h
                exact hE93 _ _ _ _ _ (lv_sub hl [1] rfl) w h
              · rw [if_neg hc] at h
                refine lv_aload_n hx hb d_R_needsParts_102 rfl (lv_at hl 0 rfl) ?_
                refine U_get C0 w 0 (by decide) rfl rfl inR 14 (by decide) wd_842 rfl d_R_needsParts_103 ?_
                refine lv_iload hx hb d_R_needsParts_106 (lv_at hl 2 rfl) ?_
                obtain ⟨hi12, h⟩ := if_ok h
                refine U_ald C0 w (iR_11 ct) hi12 d_R_needsParts_108 ?_
                refine lv_iload hx hb d_R_needsParts_109 (lv_at hl 4 rfl) ?_
                obtain ⟨r13, M14, hc15, h⟩ := bind_ok h
                try dsimp only at h
                refine U_si (rest := []) C0 w (c_R_has l D ct q hc15) wd_1014 wd_1012 wd_1013 wd_8 (n9 := 2) (by decide +kernel) rfl ⟨(Nat.le_of_ble_eq_true rfl), (Nat.le_of_ble_eq_true rfl)⟩ hl.1 rfl (Nat.le_of_ble_eq_true rfl) d_R_needsParts_111 (Nat.le_of_ble_eq_true rfl) (Nat.le_of_ble_eq_true rfl) (fun H locs w => ?_)
                have hJ166 : ∀ (v3 v4 v5 v6 : Int32) (M : Sto) (H : Heap) (locs : List Loc) (ls : Array Slot), lv_has ls 7 [(0, .ref (q 0)), (3, .int v3), (4, .int v4), (5, .int v5), (6, .int v6)] → Wd D A s (wR ct q M) H locs → j_R_needsParts_166 (l_R_needsParts_93 K93 n) K93 v3 v4 v5 v6 M = some (rz, Mz) → W p l e rm_R_needsParts s m args below meth c H locs 0 0 Q (F0 m 166 ls []) := by
                  intro v3 v4 v5 v6 M H locs ls hl w h
                  unfold j_R_needsParts_166 at h
                  refine lv_iinc (k := 4) (v := v6 + 1) hx hb d_R_needsParts_166 hl rfl (inc1 _) (by decide) rfl (fun ls hl => ?_)
                  have hl : lv_has ls 7 [(6, .int (v6 + 1)), (0, .ref (q 0)), (3, .int v3), (4, .int v4), (5, .int v5)] := hl
                  refine lv_goto (tgt := 93) hx hb d_R_needsParts_169 (by decide) ?_
                  exact ih93 _ _ _ _ _ _ _ _ (lv_sub hl [1, 2, 3, 4, 0] rfl) w h
                refine lv_if_eq (tgt := 166) hx hb d_R_needsParts_114 (by decide) (fun hc => ?_) (fun hc => ?_)
                · rw [if_pos hc] at h
                  exact hJ166 _ _ _ _ _ _ _ _ (lv_sub hl [0, 1, 2, 3, 4] rfl) w h
                · rw [if_neg hc] at h
                  refine lv_aload_n hx hb d_R_needsParts_117 rfl (lv_at hl 0 rfl) ?_
                  refine U_get C0 w 0 (by decide) rfl rfl inR 27 (by decide) wd_855 rfl d_R_needsParts_118 ?_
                  refine lv_iload hx hb d_R_needsParts_121 (lv_at hl 4 rfl) ?_
                  obtain ⟨r16, M17, hc18, h⟩ := bind_ok h
                  try dsimp only at h
                  refine U_si (rest := []) C0 w (c_R_has l D ct q hc18) wd_1014 wd_1012 wd_1013 wd_8 (n9 := 2) (by decide +kernel) rfl ⟨(Nat.le_of_ble_eq_true rfl), (Nat.le_of_ble_eq_true rfl)⟩ hl.1 rfl (Nat.le_of_ble_eq_true rfl) d_R_needsParts_123 (Nat.le_of_ble_eq_true rfl) (Nat.le_of_ble_eq_true rfl) (fun H locs w => ?_)
                  refine lv_if_eq (tgt := 166) hx hb d_R_needsParts_126 (by decide) (fun hc => ?_) (fun hc => ?_)
                  · rw [if_pos hc] at h
                    exact hJ166 _ _ _ _ _ _ _ _ (lv_sub hl [0, 1, 2, 3, 4] rfl) w h
                  · rw [if_neg hc] at h
                    refine lv_aload_n hx hb d_R_needsParts_129 rfl (lv_at hl 0 rfl) ?_
                    refine U_get C0 w 0 (by decide) rfl rfl inR 28 (by decide) wd_856 rfl d_R_needsParts_130 ?_
                    refine lv_iload hx hb d_R_needsParts_133 (lv_at hl 4 rfl) ?_
                    obtain ⟨hi19, h⟩ := if_ok h
                    refine U_ald C0 w (iR_23 ct) hi19 d_R_needsParts_135 ?_
                    refine lv_iload hx hb d_R_needsParts_136 (lv_at hl 2 rfl) ?_
                    obtain ⟨r20, M21, hc22, h⟩ := bind_ok h
                    try dsimp only at h
                    refine U_si (rest := []) C0 w (c_R_has l D ct q hc22) wd_1014 wd_1012 wd_1013 wd_8 (n9 := 2) (by decide +kernel) rfl ⟨(Nat.le_of_ble_eq_true rfl), (Nat.le_of_ble_eq_true rfl)⟩ hl.1 rfl (Nat.le_of_ble_eq_true rfl) d_R_needsParts_138 (Nat.le_of_ble_eq_true rfl) (Nat.le_of_ble_eq_true rfl) (fun H locs w => ?_)
                    refine lv_if_eq (tgt := 166) hx hb d_R_needsParts_141 (by decide) (fun hc => ?_) (fun hc => ?_)
                    · rw [if_pos hc] at h
                      exact hJ166 _ _ _ _ _ _ _ _ (lv_sub hl [0, 1, 2, 3, 4] rfl) w h
                    · rw [if_neg hc] at h
                      refine lv_aload_n hx hb d_R_needsParts_144 rfl (lv_at hl 0 rfl) ?_
                      refine lv_aload_n hx hb d_R_needsParts_145 rfl (lv_at hl 0 rfl) ?_
                      refine U_get C0 w 0 (by decide) rfl rfl inR 25 (by decide) wd_853 rfl d_R_needsParts_146 ?_
                      refine lv_bipush (v := 6) hx hb d_R_needsParts_149 (by decide) ?_
                      refine lv_iload hx hb d_R_needsParts_151 (lv_at hl 4 rfl) ?_
                      refine lv_imul hx hb d_R_needsParts_153 ?_
                      refine lv_iload hx hb d_R_needsParts_154 (lv_at hl 3 rfl) ?_
                      refine lv_iadd hx hb d_R_needsParts_156 ?_
                      obtain ⟨hi23, h⟩ := if_ok h
                      refine U_ald C0 w (iR_21 ct) hi23 d_R_needsParts_157 ?_
                      obtain ⟨r24, M25, hc26, h⟩ := bind_ok h
                      try dsimp only at h
                      refine U_vi (rest := []) C0 w 0 (wU_at (by decide)) rfl (c_R_needs l D ct q hc26) wd_1085 wd_1082 wd_1084 ws_54 wd_8 (n9 := 1) (by decide +kernel) rfl ⟨(Nat.le_of_ble_eq_true rfl), (Nat.le_of_ble_eq_true rfl)⟩ hl.1 rfl (Nat.le_of_ble_eq_true rfl) d_R_needsParts_158 (Nat.le_of_ble_eq_true rfl) (Nat.le_of_ble_eq_true rfl) (fun H locs w => ?_)
                      refine lv_if_eq (tgt := 166) hx hb d_R_needsParts_161 (by decide) (fun hc => ?_) (fun hc => ?_)
                      · rw [if_pos hc] at h
                        exact hJ166 _ _ _ _ _ _ _ _ (lv_sub hl [0, 1, 2, 3, 4] rfl) w h
                      · rw [if_neg hc] at h
                        refine lv_iconst (v := 1) hx hb d_R_needsParts_164 (by decide) ?_
                        refine lv_istore_n hx hb d_R_needsParts_165 rfl hl (by decide) rfl (fun ls hl => ?_)
                        have hl : lv_has ls 7 [(3, .int 1), (0, .ref (q 0)), (4, .int v4), (5, .int v5), (6, .int v6)] := hl
                        exact hJ166 _ _ _ _ _ _ _ _ (lv_sub hl [1, 0, 2, 3, 4] rfl) w h
          exact hL93 FU _ _ _ _ _ _ _ _ (lv_sub hl [5, 3, 2, 1, 0] rfl) w h
        · rw [if_neg hc] at h
          refine lv_aload_n hx hb d_R_needsParts_40 rfl (lv_at hl 2 rfl) ?_
          refine lv_aload_n hx hb d_R_needsParts_41 rfl (lv_at hl 2 rfl) ?_
          refine U_get C0 w 0 (by decide) rfl rfl inR 22 (by decide) wd_850 rfl d_R_needsParts_42 ?_
          refine lv_iload_n hx hb d_R_needsParts_45 rfl (lv_at hl 1 rfl) ?_
          obtain ⟨hi27, h⟩ := if_ok h
          refine U_ald C0 w (iR_18 ct) hi27 d_R_needsParts_46 ?_
          obtain ⟨r28, M29, hc30, h⟩ := bind_ok h
          try dsimp only at h
          refine U_vi (rest := []) C0 w 0 (wU_at (by decide)) rfl (c_R_needs l D ct q hc30) wd_1085 wd_1082 wd_1084 ws_54 wd_8 (n9 := 1) (by decide +kernel) rfl ⟨(Nat.le_of_ble_eq_true rfl), (Nat.le_of_ble_eq_true rfl)⟩ hl.1 rfl (Nat.le_of_ble_eq_true rfl) d_R_needsParts_47 (Nat.le_of_ble_eq_true rfl) (Nat.le_of_ble_eq_true rfl) (fun H locs w => ?_)
          refine lv_istore_n hx hb d_R_needsParts_50 rfl hl (by decide) rfl (fun ls hl => ?_)
          have hl : lv_has ls 7 [(3, .int r28), (2, .int (M 15 x1.toNatClampNeg)), (0, .ref (q 0)), (1, .int x1)] := hl
          refine lv_aload_n hx hb d_R_needsParts_51 rfl (lv_at hl 2 rfl) ?_
          refine lv_aload_n hx hb d_R_needsParts_52 rfl (lv_at hl 2 rfl) ?_
          refine U_get C0 w 0 (by decide) rfl rfl inR 23 (by decide) wd_851 rfl d_R_needsParts_53 ?_
          refine lv_iload_n hx hb d_R_needsParts_56 rfl (lv_at hl 1 rfl) ?_
          obtain ⟨hi31, h⟩ := if_ok h
          refine U_ald C0 w (iR_19 ct) hi31 d_R_needsParts_57 ?_
          obtain ⟨r32, M33, hc34, h⟩ := bind_ok h
          try dsimp only at h
          refine U_vi (rest := []) C0 w 0 (wU_at (by decide)) rfl (c_R_needs l D ct q hc34) wd_1085 wd_1082 wd_1084 ws_54 wd_8 (n9 := 1) (by decide +kernel) rfl ⟨(Nat.le_of_ble_eq_true rfl), (Nat.le_of_ble_eq_true rfl)⟩ hl.1 rfl (Nat.le_of_ble_eq_true rfl) d_R_needsParts_58 (Nat.le_of_ble_eq_true rfl) (Nat.le_of_ble_eq_true rfl) (fun H locs w => ?_)
          have hJ73 : ∀ (s0 : Int32) (M : Sto) (H : Heap) (locs : List Loc) (ls : Array Slot), lv_has ls 7 [] → Wd D A s (wR ct q M) H locs → j_R_needsParts_73 s0 M = some (rz, Mz) → W p l e rm_R_needsParts s m args below meth c H locs 0 0 Q (F0 m 73 ls [.int s0]) := by
            intro s0 M H locs ls hl w h
            unfold j_R_needsParts_73 at h
            obtain ⟨hz9, h⟩ := if_ok h
            cases h
            exact hret _ _ _ _ d_R_needsParts_73 (bz_nar hz9) w
          have hJ68 : ∀ (M : Sto) (H : Heap) (locs : List Loc) (ls : Array Slot), lv_has ls 7 [] → Wd D A s (wR ct q M) H locs → j_R_needsParts_68 M = some (rz, Mz) → W p l e rm_R_needsParts s m args below meth c H locs 0 0 Q (F0 m 68 ls []) := by
            intro M H locs ls hl w h
            unfold j_R_needsParts_68 at h
            refine lv_iconst (v := 1) hx hb d_R_needsParts_68 (by decide) ?_
            refine lv_goto (tgt := 73) hx hb d_R_needsParts_69 (by decide) ?_
            exact hJ73 _ _ _ _ _ (lv_sub hl [] rfl) w h
          refine lv_if_ne (tgt := 68) hx hb d_R_needsParts_61 (by decide) (fun hc => ?_) (fun hc => ?_)
          · rw [if_neg hc] at h
            exact hJ68 _ _ _ _ (lv_sub hl [] rfl) w h
          · rw [if_pos hc] at h
            refine lv_iload_n hx hb d_R_needsParts_64 rfl (lv_at hl 0 rfl) ?_
            refine lv_if_eq (tgt := 72) hx hb d_R_needsParts_65 (by decide) (fun hc => ?_) (fun hc => ?_)
            · rw [if_pos hc] at h
              refine lv_iconst (v := 0) hx hb d_R_needsParts_72 (by decide) ?_
              exact hJ73 _ _ _ _ _ (lv_sub hl [] rfl) w h
            · rw [if_neg hc] at h
              exact hJ68 _ _ _ _ (lv_sub hl [] rfl) w h
      · rw [if_pos hc] at h
        exact hJ25 _ _ _ _ (lv_sub hl [] rfl) w h
abbrev rm_R_findNeeded : Room := { frames := 2, cells := 0, slots := 0, locals := 48 }
set_option maxHeartbeats 8000000 in
set_option maxRecDepth 100000 in
theorem c_R_findNeeded (l : Launch) (D : va_G) (ct : Nat → ClassId) (q : Nat → Nat) {M Mz : Sto} {rz : Int32} (h : m_R_findNeeded M = some (rz, Mz)) : KV l D ct y_R_findNeeded b_R_findNeeded 3 2 48 0 0 [.ref (q 0)] (wR ct q M) (fun A t => CE D (wR ct q Mz) A t) := by
  refine KV.ofU (by decide) (Nat.le_of_ble_eq_true rfl) ?_
  intro p e s m args below meth c A Q ls C0 hl w hret
  have hx := C0.1
  have hb := C0.2.1
  have hl : lv_has ls 3 [(0, .ref (q 0))] := hl
  unfold m_R_findNeeded at h
  refine lv_iconst (v := 0) hx hb d_R_findNeeded_0 (by decide) ?_
  refine lv_istore_n hx hb d_R_findNeeded_1 rfl hl (by decide) rfl (fun ls hl => ?_)
  have hl : lv_has ls 3 [(1, .int 0), (0, .ref (q 0))] := hl
  generalize eK2 : j_R_findNeeded_136 = K2 at h
  have hE2 : ∀ (M : Sto) (H : Heap) (locs : List Loc) (ls : Array Slot), lv_has ls 3 [(0, .ref (q 0))] → Wd D A s (wR ct q M) H locs → K2 M = some (rz, Mz) → W p l e rm_R_findNeeded s m args below meth c H locs 0 0 Q (F0 m 136 ls []) := by
    intro M H locs ls hl w h
    rw [← eK2] at h
    unfold j_R_findNeeded_136 at h
    refine lv_iconst (v := 1) hx hb d_R_findNeeded_136 (by decide) ?_
    refine lv_istore_n hx hb d_R_findNeeded_137 rfl hl (by decide) rfl (fun ls hl => ?_)
    have hl : lv_has ls 3 [(1, .int 1), (0, .ref (q 0))] := hl
    generalize eK138 : j_R_findNeeded_182 = K138 at h
    have hE138 : ∀ (M : Sto) (H : Heap) (locs : List Loc) (ls : Array Slot), lv_has ls 3 [] → Wd D A s (wR ct q M) H locs → K138 M = some (rz, Mz) → W p l e rm_R_findNeeded s m args below meth c H locs 0 0 Q (F0 m 182 ls []) := by
      intro M H locs ls hl w h
      rw [← eK138] at h
      unfold j_R_findNeeded_182 at h
      cases h
      exact hret _ _ _ _ d_R_findNeeded_182 w
    have hL138 : ∀ (n : Nat) (v1 : Int32) (M : Sto) (H : Heap) (locs : List Loc) (ls : Array Slot), lv_has ls 3 [(0, .ref (q 0)), (1, .int v1)] → Wd D A s (wR ct q M) H locs → l_R_findNeeded_138 K138 n v1 M = some (rz, Mz) → W p l e rm_R_findNeeded s m args below meth c H locs 0 0 Q (F0 m 138 ls []) := by
      intro n
      induction n with
      | zero => intro v1 M H locs ls hl w h; simp [l_R_findNeeded_138] at h
      | succ n ih138 =>
        intro v1 M H locs ls hl w h
        unfold l_R_findNeeded_138 at h
        refine lv_iload_n hx hb d_R_findNeeded_138 rfl (lv_at hl 1 rfl) ?_
        refine lv_if_eq (tgt := 182) hx hb d_R_findNeeded_139 (by decide) (fun hc => ?_) (fun hc => ?_)
        · rw [if_pos hc] at h
          exact hE138 _ _ _ _ (lv_sub hl [] rfl) w h
        · rw [if_neg hc] at h
          refine lv_iconst (v := 0) hx hb d_R_findNeeded_142 (by decide) ?_
          refine lv_istore_n hx hb d_R_findNeeded_143 rfl hl (by decide) rfl (fun ls hl => ?_)
          have hl : lv_has ls 3 [(1, .int 0), (0, .ref (q 0))] := hl
          refine lv_bipush (v := 6) hx hb d_R_findNeeded_144 (by decide) ?_
          refine lv_istore_n hx hb d_R_findNeeded_146 rfl hl (by decide) rfl (fun ls hl => ?_)
          have hl : lv_has ls 3 [(2, .int 6), (1, .int 0), (0, .ref (q 0))] := hl
          generalize eK147 : j_R_findNeeded_179 (l_R_findNeeded_138 K138 n) K138 = K147 at h
          have hE147 : ∀ (v1 : Int32) (M : Sto) (H : Heap) (locs : List Loc) (ls : Array Slot), lv_has ls 3 [(0, .ref (q 0)), (1, .int v1)] → Wd D A s (wR ct q M) H locs → K147 v1 M = some (rz, Mz) → W p l e rm_R_findNeeded s m args below meth c H locs 0 0 Q (F0 m 179 ls []) := by
            intro v1 M H locs ls hl w h
            rw [← eK147] at h
            unfold j_R_findNeeded_179 at h
            refine lv_goto (tgt := 138) hx hb d_R_findNeeded_179 (by decide) ?_
            exact ih138 _ _ _ _ _ (lv_sub hl [0, 1] rfl) w h
          have hL147 : ∀ (n : Nat) (v1 v2 : Int32) (M : Sto) (H : Heap) (locs : List Loc) (ls : Array Slot), lv_has ls 3 [(0, .ref (q 0)), (1, .int v1), (2, .int v2)] → Wd D A s (wR ct q M) H locs → l_R_findNeeded_147 K147 n v1 v2 M = some (rz, Mz) → W p l e rm_R_findNeeded s m args below meth c H locs 0 0 Q (F0 m 147 ls []) := by
            intro n
            induction n with
            | zero => intro v1 v2 M H locs ls hl w h; simp [l_R_findNeeded_147] at h
            | succ n ih147 =>
              intro v1 v2 M H locs ls hl w h
              unfold l_R_findNeeded_147 at h
              refine lv_iload_n hx hb d_R_findNeeded_147 rfl (lv_at hl 2 rfl) ?_
              refine lv_aload_n hx hb d_R_findNeeded_148 rfl (lv_at hl 0 rfl) ?_
              refine U_get C0 w 0 (by decide) rfl rfl inR 17 (by decide) wd_845 rfl d_R_findNeeded_149 ?_
              refine lv_icmp_ge (tgt := 179) hx hb d_R_findNeeded_152 (by decide) (fun hc => ?_) (fun hc => ?_)
              · rw [if_pos hc] at h
                exact hE147 _ _ _ _ _ (lv_sub hl [0, 1] rfl) w h
              · rw [if_neg hc] at h
                refine lv_aload_n hx hb d_R_findNeeded_155 rfl (lv_at hl 0 rfl) ?_
                refine lv_iload_n hx hb d_R_findNeeded_156 rfl (lv_at hl 2 rfl) ?_
                obtain ⟨r6, M7, hc8, h⟩ := bind_ok h
                try dsimp only at h
                refine U_vi (rest := []) C0 w 0 (wU_at (by decide)) rfl (c_R_needsParts l D ct q hc8) wd_1089 wd_1086 wd_1088 ws_55 wd_8 (n9 := 1) (by decide +kernel) rfl ⟨(Nat.le_of_ble_eq_true rfl), (Nat.le_of_ble_eq_true rfl)⟩ hl.1 rfl (Nat.le_of_ble_eq_true rfl) d_R_findNeeded_157 (Nat.le_of_ble_eq_true rfl) (Nat.le_of_ble_eq_true rfl) (fun H locs w => ?_)
                have hJ172 : ∀ (s0 v2 : Int32) (M : Sto) (H : Heap) (locs : List Loc) (ls : Array Slot), lv_has ls 3 [(0, .ref (q 0)), (2, .int v2)] → Wd D A s (wR ct q M) H locs → j_R_findNeeded_172 (l_R_findNeeded_147 K147 n) K147 s0 v2 M = some (rz, Mz) → W p l e rm_R_findNeeded s m args below meth c H locs 0 0 Q (F0 m 172 ls [.int s0]) := by
                  intro s0 v2 M H locs ls hl w h
                  unfold j_R_findNeeded_172 at h
                  refine lv_istore_n hx hb d_R_findNeeded_172 rfl hl (by decide) rfl (fun ls hl => ?_)
                  have hl : lv_has ls 3 [(1, .int s0), (0, .ref (q 0)), (2, .int v2)] := hl
                  refine lv_iinc (k := 2) (v := v2 + 1) hx hb d_R_findNeeded_173 hl rfl (inc1 _) (by decide) rfl (fun ls hl => ?_)
                  have hl : lv_has ls 3 [(2, .int (v2 + 1)), (1, .int s0), (0, .ref (q 0))] := hl
                  refine lv_goto (tgt := 147) hx hb d_R_findNeeded_176 (by decide) ?_
                  exact ih147 _ _ _ _ _ _ (lv_sub hl [2, 1, 0] rfl) w h
                have hJ167 : ∀ (v2 : Int32) (M : Sto) (H : Heap) (locs : List Loc) (ls : Array Slot), lv_has ls 3 [(0, .ref (q 0)), (2, .int v2)] → Wd D A s (wR ct q M) H locs → j_R_findNeeded_167 (l_R_findNeeded_147 K147 n) K147 v2 M = some (rz, Mz) → W p l e rm_R_findNeeded s m args below meth c H locs 0 0 Q (F0 m 167 ls []) := by
                  intro v2 M H locs ls hl w h
                  unfold j_R_findNeeded_167 at h
                  refine lv_iconst (v := 1) hx hb d_R_findNeeded_167 (by decide) ?_
                  refine lv_goto (tgt := 172) hx hb d_R_findNeeded_168 (by decide) ?_
                  exact hJ172 _ _ _ _ _ _ (lv_sub hl [0, 1] rfl) w h
                refine lv_if_ne (tgt := 167) hx hb d_R_findNeeded_160 (by decide) (fun hc => ?_) (fun hc => ?_)
                · rw [if_neg hc] at h
                  exact hJ167 _ _ _ _ _ (lv_sub hl [0, 2] rfl) w h
                · rw [if_pos hc] at h
                  refine lv_iload_n hx hb d_R_findNeeded_163 rfl (lv_at hl 1 rfl) ?_
                  refine lv_if_eq (tgt := 171) hx hb d_R_findNeeded_164 (by decide) (fun hc => ?_) (fun hc => ?_)
                  · rw [if_pos hc] at h
                    refine lv_iconst (v := 0) hx hb d_R_findNeeded_171 (by decide) ?_
                    exact hJ172 _ _ _ _ _ _ (lv_sub hl [0, 2] rfl) w h
                  · rw [if_neg hc] at h
                    exact hJ167 _ _ _ _ _ (lv_sub hl [0, 2] rfl) w h
          exact hL147 FU _ _ _ _ _ _ (lv_sub hl [2, 1, 0] rfl) w h
    exact hL138 FU _ _ _ _ _ (lv_sub hl [1, 0] rfl) w h
  have hL2 : ∀ (n : Nat) (v1 : Int32) (M : Sto) (H : Heap) (locs : List Loc) (ls : Array Slot), lv_has ls 3 [(0, .ref (q 0)), (1, .int v1)] → Wd D A s (wR ct q M) H locs → l_R_findNeeded_2 K2 n v1 M = some (rz, Mz) → W p l e rm_R_findNeeded s m args below meth c H locs 0 0 Q (F0 m 2 ls []) := by
    intro n
    induction n with
    | zero => intro v1 M H locs ls hl w h; simp [l_R_findNeeded_2] at h
    | succ n ih2 =>
      intro v1 M H locs ls hl w h
      unfold l_R_findNeeded_2 at h
      refine lv_iload_n hx hb d_R_findNeeded_2 rfl (lv_at hl 1 rfl) ?_
      refine lv_aload_n hx hb d_R_findNeeded_3 rfl (lv_at hl 0 rfl) ?_
      refine U_get C0 w 0 (by decide) rfl rfl inR 1 (by decide) wd_829 rfl d_R_findNeeded_4 ?_
      refine lv_icmp_ge (tgt := 136) hx hb d_R_findNeeded_7 (by decide) (fun hc => ?_) (fun hc => ?_)
      · rw [if_pos hc] at h
        exact hE2 _ _ _ _ (lv_sub hl [0] rfl) w h
      · rw [if_neg hc] at h
        refine lv_aload_n hx hb d_R_findNeeded_10 rfl (lv_at hl 0 rfl) ?_
        refine U_get C0 w 0 (by decide) rfl rfl inR 27 (by decide) wd_855 rfl d_R_findNeeded_11 ?_
        refine lv_iload_n hx hb d_R_findNeeded_14 rfl (lv_at hl 1 rfl) ?_
        obtain ⟨r9, M10, hc11, h⟩ := bind_ok h
        try dsimp only at h
        refine U_si (rest := []) C0 w (c_R_has l D ct q hc11) wd_1014 wd_1012 wd_1013 wd_8 (n9 := 2) (by decide +kernel) rfl ⟨(Nat.le_of_ble_eq_true rfl), (Nat.le_of_ble_eq_true rfl)⟩ hl.1 rfl (Nat.le_of_ble_eq_true rfl) d_R_findNeeded_15 (Nat.le_of_ble_eq_true rfl) (Nat.le_of_ble_eq_true rfl) (fun H locs w => ?_)
        have hJ130 : ∀ (v1 : Int32) (M : Sto) (H : Heap) (locs : List Loc) (ls : Array Slot), lv_has ls 3 [(0, .ref (q 0)), (1, .int v1)] → Wd D A s (wR ct q M) H locs → j_R_findNeeded_130 (l_R_findNeeded_2 K2 n) K2 v1 M = some (rz, Mz) → W p l e rm_R_findNeeded s m args below meth c H locs 0 0 Q (F0 m 130 ls []) := by
          intro v1 M H locs ls hl w h
          unfold j_R_findNeeded_130 at h
          refine lv_iinc (k := 1) (v := v1 + 1) hx hb d_R_findNeeded_130 hl rfl (inc1 _) (by decide) rfl (fun ls hl => ?_)
          have hl : lv_has ls 3 [(1, .int (v1 + 1)), (0, .ref (q 0))] := hl
          refine lv_goto (tgt := 2) hx hb d_R_findNeeded_133 (by decide) ?_
          exact ih2 _ _ _ _ _ (lv_sub hl [1, 0] rfl) w h
        refine lv_if_ne (tgt := 24) hx hb d_R_findNeeded_18 (by decide) (fun hc => ?_) (fun hc => ?_)
        · rw [if_neg hc] at h
          refine lv_bipush (v := 6) hx hb d_R_findNeeded_24 (by decide) ?_
          refine lv_iload_n hx hb d_R_findNeeded_26 rfl (lv_at hl 1 rfl) ?_
          refine lv_imul hx hb d_R_findNeeded_27 ?_
          refine lv_istore_n hx hb d_R_findNeeded_28 rfl hl (by decide) rfl (fun ls hl => ?_)
          have hl : lv_has ls 3 [(2, .int (6 * v1)), (0, .ref (q 0)), (1, .int v1)] := hl
          generalize eK29 : j_R_findNeeded_94 (l_R_findNeeded_2 K2 n) K2 = K29 at h
          have hE29 : ∀ (v1 : Int32) (M : Sto) (H : Heap) (locs : List Loc) (ls : Array Slot), lv_has ls 3 [(0, .ref (q 0)), (1, .int v1)] → Wd D A s (wR ct q M) H locs → K29 v1 M = some (rz, Mz) → W p l e rm_R_findNeeded s m args below meth c H locs 0 0 Q (F0 m 94 ls []) := by
            intro v1 M H locs ls hl w h
            rw [← eK29] at h
            unfold j_R_findNeeded_94 at h
            refine lv_aload_n hx hb d_R_findNeeded_94 rfl (lv_at hl 0 rfl) ?_
            refine U_get C0 w 0 (by decide) rfl rfl inR 7 (by decide) wd_835 rfl d_R_findNeeded_95 ?_
            refine lv_iload_n hx hb d_R_findNeeded_98 rfl (lv_at hl 1 rfl) ?_
            obtain ⟨hi12, h⟩ := if_ok h
            refine U_ald C0 w (iR_6 ct) hi12 d_R_findNeeded_99 ?_
            refine lv_iconst (v := 2) hx hb d_R_findNeeded_100 (by decide) ?_
            refine lv_icmp_ne (tgt := 130) hx hb d_R_findNeeded_101 (by decide) (fun hc => ?_) (fun hc => ?_)
            · rw [if_neg hc] at h
              exact hJ130 _ _ _ _ _ (lv_sub hl [0, 1] rfl) w h
            · rw [if_pos hc] at h
              refine lv_aload_n hx hb d_R_findNeeded_104 rfl (lv_at hl 0 rfl) ?_
              refine U_get C0 w 0 (by decide) rfl rfl inR 29 (by decide) wd_857 rfl d_R_findNeeded_105 ?_
              refine lv_aload_n hx hb d_R_findNeeded_108 rfl (lv_at hl 0 rfl) ?_
              refine U_get C0 w 0 (by decide) rfl rfl inR 24 (by decide) wd_852 rfl d_R_findNeeded_109 ?_
              refine lv_iload_n hx hb d_R_findNeeded_112 rfl (lv_at hl 1 rfl) ?_
              obtain ⟨hi13, h⟩ := if_ok h
              refine U_ald C0 w (iR_20 ct) hi13 d_R_findNeeded_113 ?_
              obtain ⟨hi14, h⟩ := if_ok h
              refine U_ald C0 w (iR_24 ct) hi14 d_R_findNeeded_114 ?_
              refine lv_iconst (v := 2) hx hb d_R_findNeeded_115 (by decide) ?_
              refine lv_icmp_ne (tgt := 130) hx hb d_R_findNeeded_116 (by decide) (fun hc => ?_) (fun hc => ?_)
              · rw [if_neg hc] at h
                exact hJ130 _ _ _ _ _ (lv_sub hl [0, 1] rfl) w h
              · rw [if_pos hc] at h
                refine lv_aload_n hx hb d_R_findNeeded_119 rfl (lv_at hl 0 rfl) ?_
                refine lv_aload_n hx hb d_R_findNeeded_120 rfl (lv_at hl 0 rfl) ?_
                refine U_get C0 w 0 (by decide) rfl rfl inR 24 (by decide) wd_852 rfl d_R_findNeeded_121 ?_
                refine lv_iload_n hx hb d_R_findNeeded_124 rfl (lv_at hl 1 rfl) ?_
                obtain ⟨hi15, h⟩ := if_ok h
                refine U_ald C0 w (iR_20 ct) hi15 d_R_findNeeded_125 ?_
                obtain ⟨r16, M17, hc18, h⟩ := bind_ok h
                try dsimp only at h
                refine U_vi (rest := []) C0 w 0 (wU_at (by decide)) rfl (c_R_needs l D ct q hc18) wd_1085 wd_1082 wd_1084 ws_54 wd_8 (n9 := 1) (by decide +kernel) rfl ⟨(Nat.le_of_ble_eq_true rfl), (Nat.le_of_ble_eq_true rfl)⟩ hl.1 rfl (Nat.le_of_ble_eq_true rfl) d_R_findNeeded_126 (Nat.le_of_ble_eq_true rfl) (Nat.le_of_ble_eq_true rfl) (fun H locs w => ?_)
                refine lv_pop hx hb d_R_findNeeded_129 rfl ?_
                exact hJ130 _ _ _ _ _ (lv_sub hl [0, 1] rfl) w h
          have hL29 : ∀ (n : Nat) (v1 v2 : Int32) (M : Sto) (H : Heap) (locs : List Loc) (ls : Array Slot), lv_has ls 3 [(0, .ref (q 0)), (1, .int v1), (2, .int v2)] → Wd D A s (wR ct q M) H locs → l_R_findNeeded_29 K29 n v1 v2 M = some (rz, Mz) → W p l e rm_R_findNeeded s m args below meth c H locs 0 0 Q (F0 m 29 ls []) := by
            intro n
            induction n with
            | zero => intro v1 v2 M H locs ls hl w h; simp [l_R_findNeeded_29] at h
            | succ n ih29 =>
              intro v1 v2 M H locs ls hl w h
              unfold l_R_findNeeded_29 at h
              refine lv_iload_n hx hb d_R_findNeeded_29 rfl (lv_at hl 2 rfl) ?_
              refine lv_bipush (v := 6) hx hb d_R_findNeeded_30 (by decide) ?_
              refine lv_iload_n hx hb d_R_findNeeded_32 rfl (lv_at hl 1 rfl) ?_
              refine lv_imul hx hb d_R_findNeeded_33 ?_
              refine lv_aload_n hx hb d_R_findNeeded_34 rfl (lv_at hl 0 rfl) ?_
              refine U_get C0 w 0 (by decide) rfl rfl inR 2 (by decide) wd_830 rfl d_R_findNeeded_35 ?_
              refine lv_iload_n hx hb d_R_findNeeded_38 rfl (lv_at hl 1 rfl) ?_
              obtain ⟨hi19, h⟩ := if_ok h
              refine U_ald C0 w (iR_1 ct) hi19 d_R_findNeeded_39 ?_
              refine lv_iadd hx hb d_R_findNeeded_40 ?_
              refine lv_icmp_ge (tgt := 94) hx hb d_R_findNeeded_41 (by decide) (fun hc => ?_) (fun hc => ?_)
              · rw [if_pos hc] at h
                exact hE29 _ _ _ _ _ (lv_sub hl [0, 1] rfl) w h
              · rw [if_neg hc] at h
                refine lv_aload_n hx hb d_R_findNeeded_44 rfl (lv_at hl 0 rfl) ?_
                refine U_get C0 w 0 (by decide) rfl rfl inR 3 (by decide) wd_831 rfl d_R_findNeeded_45 ?_
                refine lv_iload_n hx hb d_R_findNeeded_48 rfl (lv_at hl 2 rfl) ?_
                obtain ⟨hi20, h⟩ := if_ok h
                refine U_ald C0 w (iR_2 ct) hi20 d_R_findNeeded_49 ?_
                refine lv_bipush (v := 7) hx hb d_R_findNeeded_50 (by decide) ?_
                have hJ66 : ∀ (v1 v2 : Int32) (M : Sto) (H : Heap) (locs : List Loc) (ls : Array Slot), lv_has ls 3 [(0, .ref (q 0)), (1, .int v1), (2, .int v2)] → Wd D A s (wR ct q M) H locs → j_R_findNeeded_66 (l_R_findNeeded_29 K29 n) K29 v1 v2 M = some (rz, Mz) → W p l e rm_R_findNeeded s m args below meth c H locs 0 0 Q (F0 m 66 ls []) := by
                  intro v1 v2 M H locs ls hl w h
                  unfold j_R_findNeeded_66 at h
                  refine lv_aload_n hx hb d_R_findNeeded_66 rfl (lv_at hl 0 rfl) ?_
                  refine U_get C0 w 0 (by decide) rfl rfl inR 3 (by decide) wd_831 rfl d_R_findNeeded_67 ?_
                  refine lv_iload_n hx hb d_R_findNeeded_70 rfl (lv_at hl 2 rfl) ?_
                  obtain ⟨hi21, h⟩ := if_ok h
                  refine U_ald C0 w (iR_2 ct) hi21 d_R_findNeeded_71 ?_
                  refine lv_bipush (v := 6) hx hb d_R_findNeeded_72 (by decide) ?_
                  have hJ88 : ∀ (v1 v2 : Int32) (M : Sto) (H : Heap) (locs : List Loc) (ls : Array Slot), lv_has ls 3 [(0, .ref (q 0)), (1, .int v1), (2, .int v2)] → Wd D A s (wR ct q M) H locs → j_R_findNeeded_88 (l_R_findNeeded_29 K29 n) K29 v1 v2 M = some (rz, Mz) → W p l e rm_R_findNeeded s m args below meth c H locs 0 0 Q (F0 m 88 ls []) := by
                    intro v1 v2 M H locs ls hl w h
                    unfold j_R_findNeeded_88 at h
                    refine lv_iinc (k := 2) (v := v2 + 1) hx hb d_R_findNeeded_88 hl rfl (inc1 _) (by decide) rfl (fun ls hl => ?_)
                    have hl : lv_has ls 3 [(2, .int (v2 + 1)), (0, .ref (q 0)), (1, .int v1)] := hl
                    refine lv_goto (tgt := 29) hx hb d_R_findNeeded_91 (by decide) ?_
                    exact ih29 _ _ _ _ _ _ (lv_sub hl [1, 2, 0] rfl) w h
                  refine lv_icmp_ne (tgt := 88) hx hb d_R_findNeeded_74 (by decide) (fun hc => ?_) (fun hc => ?_)
                  · rw [if_neg hc] at h
                    exact hJ88 _ _ _ _ _ _ (lv_sub hl [0, 1, 2] rfl) w h
                  · rw [if_pos hc] at h
                    refine lv_aload_n hx hb d_R_findNeeded_77 rfl (lv_at hl 0 rfl) ?_
                    refine lv_aload_n hx hb d_R_findNeeded_78 rfl (lv_at hl 0 rfl) ?_
                    refine U_get C0 w 0 (by decide) rfl rfl inR 21 (by decide) wd_849 rfl d_R_findNeeded_79 ?_
                    refine lv_iload_n hx hb d_R_findNeeded_82 rfl (lv_at hl 2 rfl) ?_
                    obtain ⟨hi22, h⟩ := if_ok h
                    refine U_ald C0 w (iR_17 ct) hi22 d_R_findNeeded_83 ?_
                    obtain ⟨r23, M24, hc25, h⟩ := bind_ok h
                    try dsimp only at h
                    refine U_vi (rest := []) C0 w 0 (wU_at (by decide)) rfl (c_R_needs l D ct q hc25) wd_1085 wd_1082 wd_1084 ws_54 wd_8 (n9 := 1) (by decide +kernel) rfl ⟨(Nat.le_of_ble_eq_true rfl), (Nat.le_of_ble_eq_true rfl)⟩ hl.1 rfl (Nat.le_of_ble_eq_true rfl) d_R_findNeeded_84 (Nat.le_of_ble_eq_true rfl) (Nat.le_of_ble_eq_true rfl) (fun H locs w => ?_)
                    refine lv_pop hx hb d_R_findNeeded_87 rfl ?_
                    exact hJ88 _ _ _ _ _ _ (lv_sub hl [0, 1, 2] rfl) w h
                refine lv_icmp_ne (tgt := 66) hx hb d_R_findNeeded_52 (by decide) (fun hc => ?_) (fun hc => ?_)
                · rw [if_neg hc] at h
                  exact hJ66 _ _ _ _ _ _ (lv_sub hl [0, 1, 2] rfl) w h
                · rw [if_pos hc] at h
                  refine lv_aload_n hx hb d_R_findNeeded_55 rfl (lv_at hl 0 rfl) ?_
                  refine lv_aload_n hx hb d_R_findNeeded_56 rfl (lv_at hl 0 rfl) ?_
                  refine U_get C0 w 0 (by decide) rfl rfl inR 22 (by decide) wd_850 rfl d_R_findNeeded_57 ?_
                  refine lv_iload_n hx hb d_R_findNeeded_60 rfl (lv_at hl 2 rfl) ?_
                  obtain ⟨hi26, h⟩ := if_ok h
                  refine U_ald C0 w (iR_18 ct) hi26 d_R_findNeeded_61 ?_
                  obtain ⟨r27, M28, hc29, h⟩ := bind_ok h
                  try dsimp only at h
                  refine U_vi (rest := []) C0 w 0 (wU_at (by decide)) rfl (c_R_needs l D ct q hc29) wd_1085 wd_1082 wd_1084 ws_54 wd_8 (n9 := 1) (by decide +kernel) rfl ⟨(Nat.le_of_ble_eq_true rfl), (Nat.le_of_ble_eq_true rfl)⟩ hl.1 rfl (Nat.le_of_ble_eq_true rfl) d_R_findNeeded_62 (Nat.le_of_ble_eq_true rfl) (Nat.le_of_ble_eq_true rfl) (fun H locs w => ?_)
                  refine lv_pop hx hb d_R_findNeeded_65 rfl ?_
                  exact hJ66 _ _ _ _ _ _ (lv_sub hl [0, 1, 2] rfl) w h
          exact hL29 FU _ _ _ _ _ _ (lv_sub hl [1, 2, 0] rfl) w h
        · rw [if_pos hc] at h
          refine lv_goto (tgt := 130) hx hb d_R_findNeeded_21 (by decide) ?_
          exact hJ130 _ _ _ _ _ (lv_sub hl [0, 1] rfl) w h
  exact hL2 FU _ _ _ _ _ (lv_sub hl [1, 0] rfl) w h
abbrev rm_R_build : Room := { frames := 4, cells := 0, slots := 0, locals := 95 }
set_option maxHeartbeats 8000000 in
set_option maxRecDepth 100000 in
theorem c_R_build (l : Launch) (D : va_G) (ct : Nat → ClassId) (q : Nat → Nat) {M Mz : Sto} {rz : Int32} (h : m_R_build M = some (rz, Mz)) : KI l D ct y_R_build b_R_build 1 (some .int) 4 95 [.ref (q 0)] (wR ct q M) rz (wR ct q Mz) := by
  refine KI.ofU (by decide) (Nat.le_of_ble_eq_true rfl) rfl ?_
  intro p e s m args below meth c A Q ls C0 hl w hret
  have hx := C0.1
  have hb := C0.2.1
  have hl : lv_has ls 1 [(0, .ref (q 0))] := hl
  unfold m_R_build at h
  refine lv_aload_n hx hb d_R_build_0 rfl (lv_at hl 0 rfl) ?_
  refine lv_aload_n hx hb d_R_build_1 rfl (lv_at hl 0 rfl) ?_
  refine U_get C0 w 0 (by decide) rfl rfl inR 1 (by decide) wd_829 rfl d_R_build_2 ?_
  have hJ13 : ∀ (s0 : Int32) (M : Sto) (H : Heap) (locs : List Loc) (ls : Array Slot), lv_has ls 1 [(0, .ref (q 0))] → Wd D A s (wR ct q M) H locs → j_R_build_13 s0 M = some (rz, Mz) → W p l e rm_R_build s m args below meth c H locs 0 0 Q (F0 m 13 ls [.int s0, .ref (q 0)]) := by
    intro s0 M H locs ls hl w h
    unfold j_R_build_13 at h
    refine lv_iconst (v := 1) hx hb d_R_build_13 (by decide) ?_
    obtain ⟨r9, M10, hc11, h⟩ := bind_ok h
    try dsimp only at h
    refine U_vi (rest := []) C0 w 0 (wU_at (by decide)) rfl (c_R_fails l D ct q hc11) wd_963 wd_960 wd_962 ws_34 wd_8 (n9 := 2) (by decide +kernel) rfl ⟨(Nat.le_of_ble_eq_true rfl), (Nat.le_of_ble_eq_true rfl)⟩ hl.1 rfl (Nat.le_of_ble_eq_true rfl) d_R_build_14 (Nat.le_of_ble_eq_true rfl) (Nat.le_of_ble_eq_true rfl) (fun H locs w => ?_)
    refine lv_if_eq (tgt := 22) hx hb d_R_build_17 (by decide) (fun hc => ?_) (fun hc => ?_)
    · rw [if_pos hc] at h
      refine lv_aload_n hx hb d_R_build_22 rfl (lv_at hl 0 rfl) ?_
      obtain ⟨r12, M13, hc14, h⟩ := bind_ok h
      try dsimp only at h
      refine U_vv (rest := []) C0 w 0 (wU_at (by decide)) rfl (c_R_reaches l D ct q hc14) wd_1011 wd_1008 wd_1010 ws_37 wd_8 (n9 := 0) (by decide +kernel) rfl ⟨(Nat.le_of_ble_eq_true rfl), (Nat.le_of_ble_eq_true rfl)⟩ hl.1 rfl (Nat.le_of_ble_eq_true rfl) d_R_build_23 (Nat.le_of_ble_eq_true rfl) (Nat.le_of_ble_eq_true rfl) (fun H locs w => ?_)
      refine lv_aload_n hx hb d_R_build_26 rfl (lv_at hl 0 rfl) ?_
      obtain ⟨r15, M16, hc17, h⟩ := bind_ok h
      try dsimp only at h
      refine U_vv (rest := []) C0 w 0 (wU_at (by decide)) rfl (c_R_dominates l D ct q hc17) wd_1022 wd_1019 wd_1021 ws_39 wd_8 (n9 := 0) (by decide +kernel) rfl ⟨(Nat.le_of_ble_eq_true rfl), (Nat.le_of_ble_eq_true rfl)⟩ hl.1 rfl (Nat.le_of_ble_eq_true rfl) d_R_build_27 (Nat.le_of_ble_eq_true rfl) (Nat.le_of_ble_eq_true rfl) (fun H locs w => ?_)
      refine lv_aload_n hx hb d_R_build_30 rfl (lv_at hl 0 rfl) ?_
      obtain ⟨r18, M19, hc20, h⟩ := bind_ok h
      try dsimp only at h
      refine U_vv (rest := []) C0 w 0 (wU_at (by decide)) rfl (c_R_placePhis l D ct q hc20) wd_1029 wd_1026 wd_1028 ws_40 wd_8 (n9 := 0) (by decide +kernel) rfl ⟨(Nat.le_of_ble_eq_true rfl), (Nat.le_of_ble_eq_true rfl)⟩ hl.1 rfl (Nat.le_of_ble_eq_true rfl) d_R_build_31 (Nat.le_of_ble_eq_true rfl) (Nat.le_of_ble_eq_true rfl) (fun H locs w => ?_)
      refine lv_aload_n hx hb d_R_build_34 rfl (lv_at hl 0 rfl) ?_
      obtain ⟨r21, M22, hc23, h⟩ := bind_ok h
      try dsimp only at h
      refine U_vv (rest := []) C0 w 0 (wU_at (by decide)) rfl (c_R_nameAll l D ct q hc23) wd_1041 wd_1038 wd_1040 ws_43 wd_8 (n9 := 0) (by decide +kernel) rfl ⟨(Nat.le_of_ble_eq_true rfl), (Nat.le_of_ble_eq_true rfl)⟩ hl.1 rfl (Nat.le_of_ble_eq_true rfl) d_R_build_35 (Nat.le_of_ble_eq_true rfl) (Nat.le_of_ble_eq_true rfl) (fun H locs w => ?_)
      refine lv_aload_n hx hb d_R_build_38 rfl (lv_at hl 0 rfl) ?_
      obtain ⟨r24, M25, hc26, h⟩ := bind_ok h
      try dsimp only at h
      refine U_vv (rest := []) C0 w 0 (wU_at (by decide)) rfl (c_R_findKnown l D ct q hc26) wd_1053 wd_1050 wd_1052 ws_46 wd_8 (n9 := 0) (by decide +kernel) rfl ⟨(Nat.le_of_ble_eq_true rfl), (Nat.le_of_ble_eq_true rfl)⟩ hl.1 rfl (Nat.le_of_ble_eq_true rfl) d_R_build_39 (Nat.le_of_ble_eq_true rfl) (Nat.le_of_ble_eq_true rfl) (fun H locs w => ?_)
      refine lv_aload_n hx hb d_R_build_42 rfl (lv_at hl 0 rfl) ?_
      obtain ⟨r27, M28, hc29, h⟩ := bind_ok h
      try dsimp only at h
      refine U_vv (rest := []) C0 w 0 (wU_at (by decide)) rfl (c_R_findNeeded l D ct q hc29) wd_1081 wd_1078 wd_1080 ws_53 wd_8 (n9 := 0) (by decide +kernel) rfl ⟨(Nat.le_of_ble_eq_true rfl), (Nat.le_of_ble_eq_true rfl)⟩ hl.1 rfl (Nat.le_of_ble_eq_true rfl) d_R_build_43 (Nat.le_of_ble_eq_true rfl) (Nat.le_of_ble_eq_true rfl) (fun H locs w => ?_)
      refine lv_aload_n hx hb d_R_build_46 rfl (lv_at hl 0 rfl) ?_
      refine lv_iconst (v := 1) hx hb d_R_build_47 (by decide) ?_
      obtain ⟨hz30, h⟩ := if_ok h
      obtain ⟨M31, eM31, h⟩ := wr_ok h
      try dsimp only at h
      refine U_put C0 (cR_l ct) w 0 (by decide) rfl rfl inR tyR_ok nmR 11 (by decide) wd_839 rfl (bz_nar hz30) (bz_fit hz30) (Nat.le_of_ble_eq_true rfl) d_R_build_48 eM31 rfl (fun H locs w => ?_)
      refine lv_aload_n hx hb d_R_build_51 rfl (lv_at hl 0 rfl) ?_
      refine U_get C0 w 0 (by decide) rfl rfl inR 17 (by decide) wd_845 rfl d_R_build_52 ?_
      cases h
      exact hret _ _ _ _ d_R_build_55 rfl w
    · rw [if_neg hc] at h
      refine lv_iconst (v := 0) hx hb d_R_build_20 (by decide) ?_
      cases h
      exact hret _ _ _ _ d_R_build_21 rfl w
  refine lv_if_ne (tgt := 12) hx hb d_R_build_5 (by decide) (fun hc => ?_) (fun hc => ?_)
  · rw [if_neg hc] at h
    refine lv_iconst (v := 0) hx hb d_R_build_12 (by decide) ?_
    exact hJ13 _ _ _ _ _ (lv_sub hl [0] rfl) w h
  · rw [if_pos hc] at h
    refine lv_iconst (v := 1) hx hb d_R_build_8 (by decide) ?_
    refine lv_goto (tgt := 13) hx hb d_R_build_9 (by decide) ?_
    exact hJ13 _ _ _ _ _ (lv_sub hl [0] rfl) w h
abbrev rm_R_look : Room := { frames := 1, cells := 0, slots := 0, locals := 22 }
set_option maxHeartbeats 8000000 in
set_option maxRecDepth 100000 in
theorem c_R_look (l : Launch) (D : va_G) (ct : Nat → ClassId) (q : Nat → Nat) {x1 x2 : Int32} {M Mz : Sto} {rz : Int32} (h : m_R_look x1 x2 M = some (rz, Mz)) : KI l D ct y_R_look b_R_look 4 (some .int) 1 22 [.ref (q 0), .int x1, .int x2] (wR ct q M) rz (wR ct q Mz) := by
  refine KI.ofU (by decide) (Nat.le_of_ble_eq_true rfl) rfl ?_
  intro p e s m args below meth c A Q ls C0 hl w hret
  have hx := C0.1
  have hb := C0.2.1
  have hl : lv_has ls 4 [(0, .ref (q 0)), (1, .int x1), (2, .int x2)] := hl
  unfold m_R_look at h
  refine lv_aload_n hx hb d_R_look_0 rfl (lv_at hl 0 rfl) ?_
  refine lv_aload_n hx hb d_R_look_1 rfl (lv_at hl 0 rfl) ?_
  refine lv_iload_n hx hb d_R_look_2 rfl (lv_at hl 1 rfl) ?_
  obtain ⟨r7, M8, hc9, h⟩ := bind_ok h
  try dsimp only at h
  refine U_vi (rest := [.ref (q 0)]) C0 w 0 (wU_at (by decide)) rfl (c_R_noBlock l D ct q hc9) wd_971 wd_968 wd_970 ws_35 wd_8 (n9 := 1) (by decide +kernel) rfl ⟨(Nat.le_of_ble_eq_true rfl), (Nat.le_of_ble_eq_true rfl)⟩ hl.1 rfl (Nat.le_of_ble_eq_true rfl) d_R_look_3 (Nat.le_of_ble_eq_true rfl) (Nat.le_of_ble_eq_true rfl) (fun H locs w => ?_)
  have hJ23 : ∀ (s0 v1 v2 : Int32) (M : Sto) (H : Heap) (locs : List Loc) (ls : Array Slot), lv_has ls 4 [(0, .ref (q 0)), (1, .int v1), (2, .int v2)] → Wd D A s (wR ct q M) H locs → j_R_look_23 s0 v1 v2 M = some (rz, Mz) → W p l e rm_R_look s m args below meth c H locs 0 0 Q (F0 m 23 ls [.int s0, .ref (q 0)]) := by
    intro s0 v1 v2 M H locs ls hl w h
    unfold j_R_look_23 at h
    refine lv_iconst (v := 1) hx hb d_R_look_23 (by decide) ?_
    obtain ⟨r10, M11, hc12, h⟩ := bind_ok h
    try dsimp only at h
    refine U_vi (rest := []) C0 w 0 (wU_at (by decide)) rfl (c_R_fails l D ct q hc12) wd_963 wd_960 wd_962 ws_34 wd_8 (n9 := 2) (by decide +kernel) rfl ⟨(Nat.le_of_ble_eq_true rfl), (Nat.le_of_ble_eq_true rfl)⟩ hl.1 rfl (Nat.le_of_ble_eq_true rfl) d_R_look_24 (Nat.le_of_ble_eq_true rfl) (Nat.le_of_ble_eq_true rfl) (fun H locs w => ?_)
    have hJ50 : ∀ (M : Sto) (H : Heap) (locs : List Loc) (ls : Array Slot), lv_has ls 4 [] → Wd D A s (wR ct q M) H locs → j_R_look_50 M = some (rz, Mz) → W p l e rm_R_look s m args below meth c H locs 0 0 Q (F0 m 50 ls []) := by
      intro M H locs ls hl w h
      unfold j_R_look_50 at h
      refine lv_iconst (v := 0) hx hb d_R_look_50 (by decide) ?_
      cases h
      exact hret _ _ _ _ d_R_look_51 rfl w
    refine lv_if_ne (tgt := 50) hx hb d_R_look_27 (by decide) (fun hc => ?_) (fun hc => ?_)
    · rw [if_neg hc] at h
      exact hJ50 _ _ _ _ (lv_sub hl [] rfl) w h
    · rw [if_pos hc] at h
      refine lv_aload_n hx hb d_R_look_30 rfl (lv_at hl 0 rfl) ?_
      refine lv_aload_n hx hb d_R_look_31 rfl (lv_at hl 0 rfl) ?_
      refine U_get C0 w 0 (by decide) rfl rfl inR 11 (by decide) wd_839 rfl d_R_look_32 ?_
      have hJ43 : ∀ (s0 v1 v2 : Int32) (M : Sto) (H : Heap) (locs : List Loc) (ls : Array Slot), lv_has ls 4 [(0, .ref (q 0)), (1, .int v1), (2, .int v2)] → Wd D A s (wR ct q M) H locs → j_R_look_43 s0 v1 v2 M = some (rz, Mz) → W p l e rm_R_look s m args below meth c H locs 0 0 Q (F0 m 43 ls [.int s0, .ref (q 0)]) := by
        intro s0 v1 v2 M H locs ls hl w h
        unfold j_R_look_43 at h
        refine lv_iconst (v := 2) hx hb d_R_look_43 (by decide) ?_
        obtain ⟨r13, M14, hc15, h⟩ := bind_ok h
        try dsimp only at h
        refine U_vi (rest := []) C0 w 0 (wU_at (by decide)) rfl (c_R_fails l D ct q hc15) wd_963 wd_960 wd_962 ws_34 wd_8 (n9 := 2) (by decide +kernel) rfl ⟨(Nat.le_of_ble_eq_true rfl), (Nat.le_of_ble_eq_true rfl)⟩ hl.1 rfl (Nat.le_of_ble_eq_true rfl) d_R_look_44 (Nat.le_of_ble_eq_true rfl) (Nat.le_of_ble_eq_true rfl) (fun H locs w => ?_)
        refine lv_if_eq (tgt := 52) hx hb d_R_look_47 (by decide) (fun hc => ?_) (fun hc => ?_)
        · rw [if_pos hc] at h
          refine lv_aload_n hx hb d_R_look_52 rfl (lv_at hl 0 rfl) ?_
          refine U_get C0 w 0 (by decide) rfl rfl inR 12 (by decide) wd_840 rfl d_R_look_53 ?_
          refine lv_iload_n hx hb d_R_look_56 rfl (lv_at hl 1 rfl) ?_
          obtain ⟨r16, M17, hc18, h⟩ := bind_ok h
          try dsimp only at h
          refine U_si (rest := []) C0 w (c_R_has l D ct q hc18) wd_1014 wd_1012 wd_1013 wd_8 (n9 := 2) (by decide +kernel) rfl ⟨(Nat.le_of_ble_eq_true rfl), (Nat.le_of_ble_eq_true rfl)⟩ hl.1 rfl (Nat.le_of_ble_eq_true rfl) d_R_look_57 (Nat.le_of_ble_eq_true rfl) (Nat.le_of_ble_eq_true rfl) (fun H locs w => ?_)
          refine lv_istore_n hx hb d_R_look_60 rfl hl (by decide) rfl (fun ls hl => ?_)
          have hl : lv_has ls 4 [(3, .int r16), (0, .ref (q 0)), (1, .int v1), (2, .int v2)] := hl
          refine lv_iload_n hx hb d_R_look_61 rfl (lv_at hl 3 rfl) ?_
          refine Decidable.byCases (p := v2 = 0) (fun hc19 => ?_) (fun hc19 => ?_)
          · rw [if_pos hc19] at h
            refine lv_tableIn (off := 34) (tgt := 96) hx hb d_R_look_62 (by rw [hc19]; decide) (by rw [hc19]; decide) (by rw [hc19]; decide) (by decide) ?_
            refine lv_iload_n hx hb d_R_look_96 rfl (lv_at hl 0 rfl) ?_
            have hJ105 : ∀ (s0 : Int32) (M : Sto) (H : Heap) (locs : List Loc) (ls : Array Slot), lv_has ls 4 [] → Wd D A s (wR ct q M) H locs → j_R_look_105 s0 M = some (rz, Mz) → W p l e rm_R_look s m args below meth c H locs 0 0 Q (F0 m 105 ls [.int s0]) := by
              intro s0 M H locs ls hl w h
              unfold j_R_look_105 at h
              cases h
              exact hret _ _ _ _ d_R_look_105 rfl w
            refine lv_if_eq (tgt := 104) hx hb d_R_look_97 (by decide) (fun hc => ?_) (fun hc => ?_)
            · rw [if_pos hc] at h
              refine lv_iconst (v := 0) hx hb d_R_look_104 (by decide) ?_
              exact hJ105 _ _ _ _ _ (lv_sub hl [] rfl) w h
            · rw [if_neg hc] at h
              refine lv_iconst (v := 1) hx hb d_R_look_100 (by decide) ?_
              refine lv_goto (tgt := 105) hx hb d_R_look_101 (by decide) ?_
              exact hJ105 _ _ _ _ _ (lv_sub hl [] rfl) w h
          · rw [if_neg hc19] at h
            refine Decidable.byCases (p := v2 = 1) (fun hc20 => ?_) (fun hc20 => ?_)
            · rw [if_pos hc20] at h
              refine lv_tableIn (off := 44) (tgt := 106) hx hb d_R_look_62 (by rw [hc20]; decide) (by rw [hc20]; decide) (by rw [hc20]; decide) (by decide) ?_
              refine lv_aload_n hx hb d_R_look_106 rfl (lv_at hl 1 rfl) ?_
              refine U_get C0 w 0 (by decide) rfl rfl inR 15 (by decide) wd_843 rfl d_R_look_107 ?_
              refine lv_iload_n hx hb d_R_look_110 rfl (lv_at hl 2 rfl) ?_
              obtain ⟨hi21, h⟩ := if_ok h
              refine U_ald C0 w (iR_12 ct) hi21 d_R_look_111 ?_
              cases h
              exact hret _ _ _ _ d_R_look_112 rfl w
            · rw [if_neg hc20] at h
              refine Decidable.byCases (p := v2 = 2) (fun hc22 => ?_) (fun hc22 => ?_)
              · rw [if_pos hc22] at h
                refine lv_tableIn (off := 51) (tgt := 113) hx hb d_R_look_62 (by rw [hc22]; decide) (by rw [hc22]; decide) (by rw [hc22]; decide) (by decide) ?_
                refine lv_iload_n hx hb d_R_look_113 rfl (lv_at hl 0 rfl) ?_
                have hJ130 : ∀ (s0 : Int32) (M : Sto) (H : Heap) (locs : List Loc) (ls : Array Slot), lv_has ls 4 [] → Wd D A s (wR ct q M) H locs → j_R_look_130 s0 M = some (rz, Mz) → W p l e rm_R_look s m args below meth c H locs 0 0 Q (F0 m 130 ls [.int s0]) := by
                  intro s0 M H locs ls hl w h
                  unfold j_R_look_130 at h
                  cases h
                  exact hret _ _ _ _ d_R_look_130 rfl w
                refine lv_if_eq (tgt := 129) hx hb d_R_look_114 (by decide) (fun hc => ?_) (fun hc => ?_)
                · rw [if_pos hc] at h
                  refine lv_iconst (v := 0) hx hb d_R_look_129 (by decide) ?_
                  exact hJ130 _ _ _ _ _ (lv_sub hl [] rfl) w h
                · rw [if_neg hc] at h
                  refine lv_aload_n hx hb d_R_look_117 rfl (lv_at hl 1 rfl) ?_
                  refine U_get C0 w 0 (by decide) rfl rfl inR 16 (by decide) wd_844 rfl d_R_look_118 ?_
                  refine lv_iload_n hx hb d_R_look_121 rfl (lv_at hl 2 rfl) ?_
                  obtain ⟨hi23, h⟩ := if_ok h
                  refine U_ald C0 w (iR_13 ct) hi23 d_R_look_122 ?_
                  obtain ⟨r24, M25, hc26, h⟩ := bind_ok h
                  try dsimp only at h
                  refine U_si (rest := []) C0 w (c_R_ones l D ct q hc26) wd_1025 wd_1023 wd_1024 wd_8 (n9 := 1) (by decide +kernel) rfl ⟨(Nat.le_of_ble_eq_true rfl), (Nat.le_of_ble_eq_true rfl)⟩ hl.1 rfl (Nat.le_of_ble_eq_true rfl) d_R_look_123 (Nat.le_of_ble_eq_true rfl) (Nat.le_of_ble_eq_true rfl) (fun H locs w => ?_)
                  refine lv_goto (tgt := 130) hx hb d_R_look_126 (by decide) ?_
                  exact hJ130 _ _ _ _ _ (lv_sub hl [] rfl) w h
              · rw [if_neg hc22] at h
                refine Decidable.byCases (p := v2 = 3) (fun hc27 => ?_) (fun hc27 => ?_)
                · rw [if_pos hc27] at h
                  refine lv_tableIn (off := 69) (tgt := 131) hx hb d_R_look_62 (by rw [hc27]; decide) (by rw [hc27]; decide) (by rw [hc27]; decide) (by decide) ?_
                  refine lv_iload_n hx hb d_R_look_131 rfl (lv_at hl 0 rfl) ?_
                  have hJ151 : ∀ (s0 : Int32) (M : Sto) (H : Heap) (locs : List Loc) (ls : Array Slot), lv_has ls 4 [] → Wd D A s (wR ct q M) H locs → j_R_look_151 s0 M = some (rz, Mz) → W p l e rm_R_look s m args below meth c H locs 0 0 Q (F0 m 151 ls [.int s0]) := by
                    intro s0 M H locs ls hl w h
                    unfold j_R_look_151 at h
                    cases h
                    exact hret _ _ _ _ d_R_look_151 rfl w
                  have hJ150 : ∀ (M : Sto) (H : Heap) (locs : List Loc) (ls : Array Slot), lv_has ls 4 [] → Wd D A s (wR ct q M) H locs → j_R_look_150 M = some (rz, Mz) → W p l e rm_R_look s m args below meth c H locs 0 0 Q (F0 m 150 ls []) := by
                    intro M H locs ls hl w h
                    unfold j_R_look_150 at h
                    refine lv_iconst (v := 0) hx hb d_R_look_150 (by decide) ?_
                    exact hJ151 _ _ _ _ _ (lv_sub hl [] rfl) w h
                  refine lv_if_eq (tgt := 150) hx hb d_R_look_132 (by decide) (fun hc => ?_) (fun hc => ?_)
                  · rw [if_pos hc] at h
                    exact hJ150 _ _ _ _ (lv_sub hl [] rfl) w h
                  · rw [if_neg hc] at h
                    refine lv_aload_n hx hb d_R_look_135 rfl (lv_at hl 1 rfl) ?_
                    refine U_get C0 w 0 (by decide) rfl rfl inR 27 (by decide) wd_855 rfl d_R_look_136 ?_
                    refine lv_iload_n hx hb d_R_look_139 rfl (lv_at hl 2 rfl) ?_
                    obtain ⟨r28, M29, hc30, h⟩ := bind_ok h
                    try dsimp only at h
                    refine U_si (rest := []) C0 w (c_R_has l D ct q hc30) wd_1014 wd_1012 wd_1013 wd_8 (n9 := 2) (by decide +kernel) rfl ⟨(Nat.le_of_ble_eq_true rfl), (Nat.le_of_ble_eq_true rfl)⟩ hl.1 rfl (Nat.le_of_ble_eq_true rfl) d_R_look_140 (Nat.le_of_ble_eq_true rfl) (Nat.le_of_ble_eq_true rfl) (fun H locs w => ?_)
                    refine lv_if_eq (tgt := 150) hx hb d_R_look_143 (by decide) (fun hc => ?_) (fun hc => ?_)
                    · rw [if_pos hc] at h
                      exact hJ150 _ _ _ _ (lv_sub hl [] rfl) w h
                    · rw [if_neg hc] at h
                      refine lv_iconst (v := 1) hx hb d_R_look_146 (by decide) ?_
                      refine lv_goto (tgt := 151) hx hb d_R_look_147 (by decide) ?_
                      exact hJ151 _ _ _ _ _ (lv_sub hl [] rfl) w h
                · rw [if_neg hc27] at h
                  refine Decidable.byCases (p := v2 = 4) (fun hc31 => ?_) (fun hc31 => ?_)
                  · rw [if_pos hc31] at h
                    refine lv_tableIn (off := 90) (tgt := 152) hx hb d_R_look_62 (by rw [hc31]; decide) (by rw [hc31]; decide) (by rw [hc31]; decide) (by decide) ?_
                    refine lv_aload_n hx hb d_R_look_152 rfl (lv_at hl 1 rfl) ?_
                    refine U_get C0 w 0 (by decide) rfl rfl inR 2 (by decide) wd_830 rfl d_R_look_153 ?_
                    refine lv_iload_n hx hb d_R_look_156 rfl (lv_at hl 2 rfl) ?_
                    obtain ⟨hi32, h⟩ := if_ok h
                    refine U_ald C0 w (iR_1 ct) hi32 d_R_look_157 ?_
                    cases h
                    exact hret _ _ _ _ d_R_look_158 rfl w
                  · rw [if_neg hc31] at h
                    refine lv_tableOut (tgt := 159) hx hb d_R_look_62 (sw_o_0_4 hc19 hc20 hc22 hc27 hc31) (by decide) ?_
                    refine lv_iload_n hx hb d_R_look_159 rfl (lv_at hl 0 rfl) ?_
                    have hJ173 : ∀ (s0 : Int32) (M : Sto) (H : Heap) (locs : List Loc) (ls : Array Slot), lv_has ls 4 [] → Wd D A s (wR ct q M) H locs → j_R_look_173 s0 M = some (rz, Mz) → W p l e rm_R_look s m args below meth c H locs 0 0 Q (F0 m 173 ls [.int s0]) := by
                      intro s0 M H locs ls hl w h
                      unfold j_R_look_173 at h
                      cases h
                      exact hret _ _ _ _ d_R_look_173 rfl w
                    refine lv_if_eq (tgt := 172) hx hb d_R_look_160 (by decide) (fun hc => ?_) (fun hc => ?_)
                    · rw [if_pos hc] at h
                      refine lv_iconst (v := (-1)) hx hb d_R_look_172 (by decide) ?_
                      exact hJ173 _ _ _ _ _ (lv_sub hl [] rfl) w h
                    · rw [if_neg hc] at h
                      refine lv_aload_n hx hb d_R_look_163 rfl (lv_at hl 1 rfl) ?_
                      refine U_get C0 w 0 (by decide) rfl rfl inR 24 (by decide) wd_852 rfl d_R_look_164 ?_
                      refine lv_iload_n hx hb d_R_look_167 rfl (lv_at hl 2 rfl) ?_
                      obtain ⟨hi33, h⟩ := if_ok h
                      refine U_ald C0 w (iR_20 ct) hi33 d_R_look_168 ?_
                      refine lv_goto (tgt := 173) hx hb d_R_look_169 (by decide) ?_
                      exact hJ173 _ _ _ _ _ (lv_sub hl [] rfl) w h
        · rw [if_neg hc] at h
          exact hJ50 _ _ _ _ (lv_sub hl [] rfl) w h
      refine lv_if_ne (tgt := 42) hx hb d_R_look_35 (by decide) (fun hc => ?_) (fun hc => ?_)
      · rw [if_neg hc] at h
        refine lv_iconst (v := 0) hx hb d_R_look_42 (by decide) ?_
        exact hJ43 _ _ _ _ _ _ _ (lv_sub hl [0, 1, 2] rfl) w h
      · rw [if_pos hc] at h
        refine lv_iconst (v := 1) hx hb d_R_look_38 (by decide) ?_
        refine lv_goto (tgt := 43) hx hb d_R_look_39 (by decide) ?_
        exact hJ43 _ _ _ _ _ _ _ (lv_sub hl [0, 1, 2] rfl) w h
  have hJ18 : ∀ (v1 v2 : Int32) (M : Sto) (H : Heap) (locs : List Loc) (ls : Array Slot), lv_has ls 4 [(0, .ref (q 0)), (1, .int v1), (2, .int v2)] → Wd D A s (wR ct q M) H locs → j_R_look_18 v1 v2 M = some (rz, Mz) → W p l e rm_R_look s m args below meth c H locs 0 0 Q (F0 m 18 ls [.ref (q 0)]) := by
    intro v1 v2 M H locs ls hl w h
    unfold j_R_look_18 at h
    refine lv_iconst (v := 1) hx hb d_R_look_18 (by decide) ?_
    refine lv_goto (tgt := 23) hx hb d_R_look_19 (by decide) ?_
    exact hJ23 _ _ _ _ _ _ _ (lv_sub hl [0, 1, 2] rfl) w h
  refine lv_if_ne (tgt := 18) hx hb d_R_look_6 (by decide) (fun hc => ?_) (fun hc => ?_)
  · rw [if_neg hc] at h
    exact hJ18 _ _ _ _ _ _ (lv_sub hl [0, 1, 2] rfl) w h
  · rw [if_pos hc] at h
    refine lv_iload_n hx hb d_R_look_9 rfl (lv_at hl 2 rfl) ?_
    refine lv_if_lt (tgt := 18) hx hb d_R_look_10 (by decide) (fun hc => ?_) (fun hc => ?_)
    · rw [if_pos hc] at h
      exact hJ18 _ _ _ _ _ _ (lv_sub hl [0, 1, 2] rfl) w h
    · rw [if_neg hc] at h
      refine lv_iload_n hx hb d_R_look_13 rfl (lv_at hl 2 rfl) ?_
      refine lv_iconst (v := 5) hx hb d_R_look_14 (by decide) ?_
      refine lv_icmp_le (tgt := 22) hx hb d_R_look_15 (by decide) (fun hc => ?_) (fun hc => ?_)
      · rw [if_pos hc] at h
        refine lv_iconst (v := 0) hx hb d_R_look_22 (by decide) ?_
        exact hJ23 _ _ _ _ _ _ _ (lv_sub hl [0, 1, 2] rfl) w h
      · rw [if_neg hc] at h
        exact hJ18 _ _ _ _ _ _ (lv_sub hl [0, 1, 2] rfl) w h
abbrev rm_R_phiOf : Room := { frames := 1, cells := 0, slots := 0, locals := 21 }
set_option maxHeartbeats 8000000 in
set_option maxRecDepth 100000 in
theorem c_R_phiOf (l : Launch) (D : va_G) (ct : Nat → ClassId) (q : Nat → Nat) {x1 x2 : Int32} {M Mz : Sto} {rz : Int32} (h : m_R_phiOf x1 x2 M = some (rz, Mz)) : KI l D ct y_R_phiOf b_R_phiOf 5 (some .int) 1 21 [.ref (q 0), .int x1, .int x2] (wR ct q M) rz (wR ct q Mz) := by
  refine KI.ofU (by decide) (Nat.le_of_ble_eq_true rfl) rfl ?_
  intro p e s m args below meth c A Q ls C0 hl w hret
  have hx := C0.1
  have hb := C0.2.1
  have hl : lv_has ls 5 [(0, .ref (q 0)), (1, .int x1), (2, .int x2)] := hl
  unfold m_R_phiOf at h
  refine lv_aload_n hx hb d_R_phiOf_0 rfl (lv_at hl 0 rfl) ?_
  refine lv_iload_n hx hb d_R_phiOf_1 rfl (lv_at hl 1 rfl) ?_
  obtain ⟨r4, M5, hc6, h⟩ := bind_ok h
  try dsimp only at h
  refine U_vi (rest := []) C0 w 0 (wU_at (by decide)) rfl (c_R_noBlock l D ct q hc6) wd_971 wd_968 wd_970 ws_35 wd_8 (n9 := 1) (by decide +kernel) rfl ⟨(Nat.le_of_ble_eq_true rfl), (Nat.le_of_ble_eq_true rfl)⟩ hl.1 rfl (Nat.le_of_ble_eq_true rfl) d_R_phiOf_2 (Nat.le_of_ble_eq_true rfl) (Nat.le_of_ble_eq_true rfl) (fun H locs w => ?_)
  have hJ23 : ∀ (M : Sto) (H : Heap) (locs : List Loc) (ls : Array Slot), lv_has ls 5 [] → Wd D A s (wR ct q M) H locs → j_R_phiOf_23 M = some (rz, Mz) → W p l e rm_R_phiOf s m args below meth c H locs 0 0 Q (F0 m 23 ls []) := by
    intro M H locs ls hl w h
    unfold j_R_phiOf_23 at h
    refine lv_iconst (v := (-1)) hx hb d_R_phiOf_23 (by decide) ?_
    cases h
    exact hret _ _ _ _ d_R_phiOf_24 rfl w
  refine lv_if_ne (tgt := 23) hx hb d_R_phiOf_5 (by decide) (fun hc => ?_) (fun hc => ?_)
  · rw [if_neg hc] at h
    exact hJ23 _ _ _ _ (lv_sub hl [] rfl) w h
  · rw [if_pos hc] at h
    refine lv_aload_n hx hb d_R_phiOf_8 rfl (lv_at hl 0 rfl) ?_
    refine U_get C0 w 0 (by decide) rfl rfl inR 12 (by decide) wd_840 rfl d_R_phiOf_9 ?_
    refine lv_iload_n hx hb d_R_phiOf_12 rfl (lv_at hl 1 rfl) ?_
    obtain ⟨r7, M8, hc9, h⟩ := bind_ok h
    try dsimp only at h
    refine U_si (rest := []) C0 w (c_R_has l D ct q hc9) wd_1014 wd_1012 wd_1013 wd_8 (n9 := 2) (by decide +kernel) rfl ⟨(Nat.le_of_ble_eq_true rfl), (Nat.le_of_ble_eq_true rfl)⟩ hl.1 rfl (Nat.le_of_ble_eq_true rfl) d_R_phiOf_13 (Nat.le_of_ble_eq_true rfl) (Nat.le_of_ble_eq_true rfl) (fun H locs w => ?_)
    refine lv_if_eq (tgt := 23) hx hb d_R_phiOf_16 (by decide) (fun hc => ?_) (fun hc => ?_)
    · rw [if_pos hc] at h
      exact hJ23 _ _ _ _ (lv_sub hl [] rfl) w h
    · rw [if_neg hc] at h
      refine lv_iload_n hx hb d_R_phiOf_19 rfl (lv_at hl 2 rfl) ?_
      refine lv_if_ge (tgt := 25) hx hb d_R_phiOf_20 (by decide) (fun hc => ?_) (fun hc => ?_)
      · rw [if_pos hc] at h
        refine lv_iload_n hx hb d_R_phiOf_25 rfl (lv_at hl 2 rfl) ?_
        refine lv_istore_n hx hb d_R_phiOf_26 rfl hl (by decide) rfl (fun ls hl => ?_)
        have hl : lv_has ls 5 [(3, .int x2), (0, .ref (q 0)), (1, .int x1), (2, .int x2)] := hl
        refine lv_iconst (v := 0) hx hb d_R_phiOf_27 (by decide) ?_
        refine lv_istore hx hb d_R_phiOf_28 hl (by decide) rfl (fun ls hl => ?_)
        have hl : lv_has ls 5 [(4, .int 0), (3, .int x2), (0, .ref (q 0)), (1, .int x1), (2, .int x2)] := hl
        generalize eK30 : j_R_phiOf_67 = K30 at h
        have hE30 : ∀ (M : Sto) (H : Heap) (locs : List Loc) (ls : Array Slot), lv_has ls 5 [] → Wd D A s (wR ct q M) H locs → K30 M = some (rz, Mz) → W p l e rm_R_phiOf s m args below meth c H locs 0 0 Q (F0 m 67 ls []) := by
          intro M H locs ls hl w h
          rw [← eK30] at h
          unfold j_R_phiOf_67 at h
          refine lv_iconst (v := (-1)) hx hb d_R_phiOf_67 (by decide) ?_
          cases h
          exact hret _ _ _ _ d_R_phiOf_68 rfl w
        have hL30 : ∀ (n : Nat) (v1 v3 v4 : Int32) (M : Sto) (H : Heap) (locs : List Loc) (ls : Array Slot), lv_has ls 5 [(0, .ref (q 0)), (1, .int v1), (3, .int v3), (4, .int v4)] → Wd D A s (wR ct q M) H locs → l_R_phiOf_30 K30 n v1 v3 v4 M = some (rz, Mz) → W p l e rm_R_phiOf s m args below meth c H locs 0 0 Q (F0 m 30 ls []) := by
          intro n
          induction n with
          | zero => intro v1 v3 v4 M H locs ls hl w h; simp [l_R_phiOf_30] at h
          | succ n ih30 =>
            intro v1 v3 v4 M H locs ls hl w h
            unfold l_R_phiOf_30 at h
            refine lv_iload hx hb d_R_phiOf_30 (lv_at hl 3 rfl) ?_
            refine lv_bipush (v := 6) hx hb d_R_phiOf_32 (by decide) ?_
            refine lv_icmp_ge (tgt := 67) hx hb d_R_phiOf_34 (by decide) (fun hc => ?_) (fun hc => ?_)
            · rw [if_pos hc] at h
              exact hE30 _ _ _ _ (lv_sub hl [] rfl) w h
            · rw [if_neg hc] at h
              refine lv_aload_n hx hb d_R_phiOf_37 rfl (lv_at hl 0 rfl) ?_
              refine U_get C0 w 0 (by decide) rfl rfl inR 16 (by decide) wd_844 rfl d_R_phiOf_38 ?_
              refine lv_iload_n hx hb d_R_phiOf_41 rfl (lv_at hl 1 rfl) ?_
              obtain ⟨hi10, h⟩ := if_ok h
              refine U_ald C0 w (iR_13 ct) hi10 d_R_phiOf_42 ?_
              refine lv_iload hx hb d_R_phiOf_43 (lv_at hl 3 rfl) ?_
              obtain ⟨r11, M12, hc13, h⟩ := bind_ok h
              try dsimp only at h
              refine U_si (rest := []) C0 w (c_R_has l D ct q hc13) wd_1014 wd_1012 wd_1013 wd_8 (n9 := 2) (by decide +kernel) rfl ⟨(Nat.le_of_ble_eq_true rfl), (Nat.le_of_ble_eq_true rfl)⟩ hl.1 rfl (Nat.le_of_ble_eq_true rfl) d_R_phiOf_45 (Nat.le_of_ble_eq_true rfl) (Nat.le_of_ble_eq_true rfl) (fun H locs w => ?_)
              have hJ61 : ∀ (v1 v3 v4 : Int32) (M : Sto) (H : Heap) (locs : List Loc) (ls : Array Slot), lv_has ls 5 [(0, .ref (q 0)), (1, .int v1), (3, .int v3), (4, .int v4)] → Wd D A s (wR ct q M) H locs → j_R_phiOf_61 (l_R_phiOf_30 K30 n) K30 v1 v3 v4 M = some (rz, Mz) → W p l e rm_R_phiOf s m args below meth c H locs 0 0 Q (F0 m 61 ls []) := by
                intro v1 v3 v4 M H locs ls hl w h
                unfold j_R_phiOf_61 at h
                refine lv_iinc (k := 3) (v := v4 + 1) hx hb d_R_phiOf_61 hl rfl (inc1 _) (by decide) rfl (fun ls hl => ?_)
                have hl : lv_has ls 5 [(4, .int (v4 + 1)), (0, .ref (q 0)), (1, .int v1), (3, .int v3)] := hl
                refine lv_goto (tgt := 30) hx hb d_R_phiOf_64 (by decide) ?_
                exact ih30 _ _ _ _ _ _ _ (lv_sub hl [1, 2, 3, 0] rfl) w h
              refine lv_if_eq (tgt := 61) hx hb d_R_phiOf_48 (by decide) (fun hc => ?_) (fun hc => ?_)
              · rw [if_pos hc] at h
                exact hJ61 _ _ _ _ _ _ _ (lv_sub hl [0, 1, 2, 3] rfl) w h
              · rw [if_neg hc] at h
                refine lv_iload_n hx hb d_R_phiOf_51 rfl (lv_at hl 2 rfl) ?_
                refine lv_if_ne (tgt := 58) hx hb d_R_phiOf_52 (by decide) (fun hc => ?_) (fun hc => ?_)
                · rw [if_neg hc] at h
                  refine lv_iinc (k := 2) (v := v3 + (-1)) hx hb d_R_phiOf_58 hl rfl (dec1 _) (by decide) rfl (fun ls hl => ?_)
                  have hl : lv_has ls 5 [(3, .int (v3 + (-1))), (0, .ref (q 0)), (1, .int v1), (4, .int v4)] := hl
                  exact hJ61 _ _ _ _ _ _ _ (lv_sub hl [1, 2, 0, 3] rfl) w h
                · rw [if_pos hc] at h
                  refine lv_iload hx hb d_R_phiOf_55 (lv_at hl 3 rfl) ?_
                  cases h
                  exact hret _ _ _ _ d_R_phiOf_57 rfl w
        exact hL30 FU _ _ _ _ _ _ _ (lv_sub hl [2, 3, 1, 0] rfl) w h
      · rw [if_neg hc] at h
        exact hJ23 _ _ _ _ (lv_sub hl [] rfl) w h
end
section
abbrev rm_R_phi : Room := { frames := 2, cells := 0, slots := 0, locals := 45 }
set_option maxHeartbeats 8000000 in
set_option maxRecDepth 100000 in
theorem c_R_phi (l : Launch) (D : va_G) (ct : Nat → ClassId) (q : Nat → Nat) {x1 x2 x3 : Int32} {M Mz : Sto} {rz : Int32} (h : m_R_phi x1 x2 x3 M = some (rz, Mz)) : KI l D ct y_R_phi b_R_phi 6 (some .int) 2 45 [.ref (q 0), .int x1, .int x2, .int x3] (wR ct q M) rz (wR ct q Mz) := by
  refine KI.ofU (by decide) (Nat.le_of_ble_eq_true rfl) rfl ?_
  intro p e s m args below meth c A Q ls C0 hl w hret
  have hx := C0.1
  have hb := C0.2.1
  have hl : lv_has ls 6 [(0, .ref (q 0)), (1, .int x1), (2, .int x2), (3, .int x3)] := hl
  unfold m_R_phi at h
  refine lv_aload_n hx hb d_R_phi_0 rfl (lv_at hl 0 rfl) ?_
  refine lv_aload_n hx hb d_R_phi_1 rfl (lv_at hl 0 rfl) ?_
  refine U_get C0 w 0 (by decide) rfl rfl inR 11 (by decide) wd_839 rfl d_R_phi_2 ?_
  have hJ13 : ∀ (s0 v1 v2 v3 : Int32) (M : Sto) (H : Heap) (locs : List Loc) (ls : Array Slot), lv_has ls 6 [(0, .ref (q 0)), (1, .int v1), (2, .int v2), (3, .int v3)] → Wd D A s (wR ct q M) H locs → j_R_phi_13 s0 v1 v2 v3 M = some (rz, Mz) → W p l e rm_R_phi s m args below meth c H locs 0 0 Q (F0 m 13 ls [.int s0, .ref (q 0)]) := by
    intro s0 v1 v2 v3 M H locs ls hl w h
    unfold j_R_phi_13 at h
    refine lv_iconst (v := 2) hx hb d_R_phi_13 (by decide) ?_
    obtain ⟨r5, M6, hc7, h⟩ := bind_ok h
    try dsimp only at h
    refine U_vi (rest := []) C0 w 0 (wU_at (by decide)) rfl (c_R_fails l D ct q hc7) wd_963 wd_960 wd_962 ws_34 wd_8 (n9 := 2) (by decide +kernel) rfl ⟨(Nat.le_of_ble_eq_true rfl), (Nat.le_of_ble_eq_true rfl)⟩ hl.1 rfl (Nat.le_of_ble_eq_true rfl) d_R_phi_14 (Nat.le_of_ble_eq_true rfl) (Nat.le_of_ble_eq_true rfl) (fun H locs w => ?_)
    refine lv_if_eq (tgt := 22) hx hb d_R_phi_17 (by decide) (fun hc => ?_) (fun hc => ?_)
    · rw [if_pos hc] at h
      refine lv_aload_n hx hb d_R_phi_22 rfl (lv_at hl 0 rfl) ?_
      refine lv_iload_n hx hb d_R_phi_23 rfl (lv_at hl 1 rfl) ?_
      refine lv_iload_n hx hb d_R_phi_24 rfl (lv_at hl 2 rfl) ?_
      obtain ⟨r8, M9, hc10, h⟩ := bind_ok h
      try dsimp only at h
      refine U_vi (rest := []) C0 w 0 (wU_at (by decide)) rfl (c_R_phiOf l D ct q hc10) wd_1101 wd_1098 wd_1100 ws_56 wd_8 (n9 := 2) (by decide +kernel) rfl ⟨(Nat.le_of_ble_eq_true rfl), (Nat.le_of_ble_eq_true rfl)⟩ hl.1 rfl (Nat.le_of_ble_eq_true rfl) d_R_phi_25 (Nat.le_of_ble_eq_true rfl) (Nat.le_of_ble_eq_true rfl) (fun H locs w => ?_)
      refine lv_istore hx hb d_R_phi_28 hl (by decide) rfl (fun ls hl => ?_)
      have hl : lv_has ls 6 [(4, .int r8), (0, .ref (q 0)), (1, .int v1), (2, .int v2), (3, .int v3)] := hl
      refine lv_iload hx hb d_R_phi_30 (lv_at hl 0 rfl) ?_
      have hJ71 : ∀ (s0 v1 v3 v4 : Int32) (M : Sto) (H : Heap) (locs : List Loc) (ls : Array Slot), lv_has ls 6 [(0, .ref (q 0)), (1, .int v1), (3, .int v3), (4, .int v4)] → Wd D A s (wR ct q M) H locs → j_R_phi_71 s0 v1 v3 v4 M = some (rz, Mz) → W p l e rm_R_phi s m args below meth c H locs 0 0 Q (F0 m 71 ls [.int s0]) := by
        intro s0 v1 v3 v4 M H locs ls hl w h
        unfold j_R_phi_71 at h
        refine lv_istore hx hb d_R_phi_71 hl (by decide) rfl (fun ls hl => ?_)
        have hl : lv_has ls 6 [(5, .int s0), (0, .ref (q 0)), (1, .int v1), (3, .int v3), (4, .int v4)] := hl
        refine lv_aload_n hx hb d_R_phi_73 rfl (lv_at hl 1 rfl) ?_
        refine lv_iload hx hb d_R_phi_74 (lv_at hl 0 rfl) ?_
        refine lv_iconst (v := 1) hx hb d_R_phi_76 (by decide) ?_
        obtain ⟨r11, M12, hc13, h⟩ := bind_ok h
        try dsimp only at h
        refine U_vi (rest := []) C0 w 0 (wU_at (by decide)) rfl (c_R_fails l D ct q hc13) wd_963 wd_960 wd_962 ws_34 wd_8 (n9 := 2) (by decide +kernel) rfl ⟨(Nat.le_of_ble_eq_true rfl), (Nat.le_of_ble_eq_true rfl)⟩ hl.1 rfl (Nat.le_of_ble_eq_true rfl) d_R_phi_77 (Nat.le_of_ble_eq_true rfl) (Nat.le_of_ble_eq_true rfl) (fun H locs w => ?_)
        refine lv_if_eq (tgt := 85) hx hb d_R_phi_80 (by decide) (fun hc => ?_) (fun hc => ?_)
        · rw [if_pos hc] at h
          refine lv_iload_n hx hb d_R_phi_85 rfl (lv_at hl 3 rfl) ?_
          refine lv_bipush (v := (-2)) hx hb d_R_phi_86 (by decide) ?_
          have hJ128 : ∀ (s0 : Int32) (M : Sto) (H : Heap) (locs : List Loc) (ls : Array Slot), lv_has ls 6 [] → Wd D A s (wR ct q M) H locs → j_R_phi_128 s0 M = some (rz, Mz) → W p l e rm_R_phi s m args below meth c H locs 0 0 Q (F0 m 128 ls [.int s0]) := by
            intro s0 M H locs ls hl w h
            unfold j_R_phi_128 at h
            cases h
            exact hret _ _ _ _ d_R_phi_128 rfl w
          refine lv_icmp_ne (tgt := 96) hx hb d_R_phi_88 (by decide) (fun hc => ?_) (fun hc => ?_)
          · rw [if_neg hc] at h
            refine lv_iload_n hx hb d_R_phi_96 rfl (lv_at hl 3 rfl) ?_
            refine lv_iconst (v := (-1)) hx hb d_R_phi_97 (by decide) ?_
            refine lv_icmp_ne (tgt := 116) hx hb d_R_phi_98 (by decide) (fun hc => ?_) (fun hc => ?_)
            · rw [if_neg hc] at h
              refine lv_aload_n hx hb d_R_phi_116 rfl (lv_at hl 1 rfl) ?_
              refine U_get C0 w 0 (by decide) rfl rfl inR 25 (by decide) wd_853 rfl d_R_phi_117 ?_
              refine lv_bipush (v := 6) hx hb d_R_phi_120 (by decide) ?_
              refine lv_iload_n hx hb d_R_phi_122 rfl (lv_at hl 3 rfl) ?_
              refine lv_imul hx hb d_R_phi_123 ?_
              refine lv_iload hx hb d_R_phi_124 (lv_at hl 4 rfl) ?_
              refine lv_iadd hx hb d_R_phi_126 ?_
              obtain ⟨hi14, h⟩ := if_ok h
              refine U_ald C0 w (iR_21 ct) hi14 d_R_phi_127 ?_
              exact hJ128 _ _ _ _ _ (lv_sub hl [] rfl) w h
            · rw [if_pos hc] at h
              refine lv_aload_n hx hb d_R_phi_101 rfl (lv_at hl 1 rfl) ?_
              refine U_get C0 w 0 (by decide) rfl rfl inR 20 (by decide) wd_848 rfl d_R_phi_102 ?_
              refine lv_bipush (v := 6) hx hb d_R_phi_105 (by decide) ?_
              refine lv_iload_n hx hb d_R_phi_107 rfl (lv_at hl 2 rfl) ?_
              refine lv_imul hx hb d_R_phi_108 ?_
              refine lv_iload hx hb d_R_phi_109 (lv_at hl 4 rfl) ?_
              refine lv_iadd hx hb d_R_phi_111 ?_
              obtain ⟨hi15, h⟩ := if_ok h
              refine U_ald C0 w (iR_16 ct) hi15 d_R_phi_112 ?_
              refine lv_goto (tgt := 128) hx hb d_R_phi_113 (by decide) ?_
              exact hJ128 _ _ _ _ _ (lv_sub hl [] rfl) w h
          · rw [if_pos hc] at h
            refine lv_iload hx hb d_R_phi_91 (lv_at hl 4 rfl) ?_
            refine lv_goto (tgt := 128) hx hb d_R_phi_93 (by decide) ?_
            exact hJ128 _ _ _ _ _ (lv_sub hl [] rfl) w h
        · rw [if_neg hc] at h
          refine lv_iconst (v := 0) hx hb d_R_phi_83 (by decide) ?_
          cases h
          exact hret _ _ _ _ d_R_phi_84 rfl w
      have hJ66 : ∀ (v1 v3 v4 : Int32) (M : Sto) (H : Heap) (locs : List Loc) (ls : Array Slot), lv_has ls 6 [(0, .ref (q 0)), (1, .int v1), (3, .int v3), (4, .int v4)] → Wd D A s (wR ct q M) H locs → j_R_phi_66 v1 v3 v4 M = some (rz, Mz) → W p l e rm_R_phi s m args below meth c H locs 0 0 Q (F0 m 66 ls []) := by
        intro v1 v3 v4 M H locs ls hl w h
        unfold j_R_phi_66 at h
        refine lv_iconst (v := 1) hx hb d_R_phi_66 (by decide) ?_
        refine lv_goto (tgt := 71) hx hb d_R_phi_67 (by decide) ?_
        exact hJ71 _ _ _ _ _ _ _ _ (lv_sub hl [0, 1, 2, 3] rfl) w h
      refine lv_if_lt (tgt := 66) hx hb d_R_phi_32 (by decide) (fun hc => ?_) (fun hc => ?_)
      · rw [if_pos hc] at h
        exact hJ66 _ _ _ _ _ _ _ (lv_sub hl [1, 2, 4, 0] rfl) w h
      · rw [if_neg hc] at h
        refine lv_iload_n hx hb d_R_phi_35 rfl (lv_at hl 4 rfl) ?_
        refine lv_bipush (v := (-2)) hx hb d_R_phi_36 (by decide) ?_
        refine lv_icmp_lt (tgt := 66) hx hb d_R_phi_38 (by decide) (fun hc => ?_) (fun hc => ?_)
        · rw [if_pos hc] at h
          exact hJ66 _ _ _ _ _ _ _ (lv_sub hl [1, 2, 4, 0] rfl) w h
        · rw [if_neg hc] at h
          refine lv_iload_n hx hb d_R_phi_41 rfl (lv_at hl 4 rfl) ?_
          refine lv_aload_n hx hb d_R_phi_42 rfl (lv_at hl 1 rfl) ?_
          refine U_get C0 w 0 (by decide) rfl rfl inR 1 (by decide) wd_829 rfl d_R_phi_43 ?_
          refine lv_icmp_ge (tgt := 66) hx hb d_R_phi_46 (by decide) (fun hc => ?_) (fun hc => ?_)
          · rw [if_pos hc] at h
            exact hJ66 _ _ _ _ _ _ _ (lv_sub hl [1, 2, 4, 0] rfl) w h
          · rw [if_neg hc] at h
            refine lv_iload_n hx hb d_R_phi_49 rfl (lv_at hl 4 rfl) ?_
            have hJ70 : ∀ (v1 v3 v4 : Int32) (M : Sto) (H : Heap) (locs : List Loc) (ls : Array Slot), lv_has ls 6 [(0, .ref (q 0)), (1, .int v1), (3, .int v3), (4, .int v4)] → Wd D A s (wR ct q M) H locs → j_R_phi_70 v1 v3 v4 M = some (rz, Mz) → W p l e rm_R_phi s m args below meth c H locs 0 0 Q (F0 m 70 ls []) := by
              intro v1 v3 v4 M H locs ls hl w h
              unfold j_R_phi_70 at h
              refine lv_iconst (v := 0) hx hb d_R_phi_70 (by decide) ?_
              exact hJ71 _ _ _ _ _ _ _ _ (lv_sub hl [0, 1, 2, 3] rfl) w h
            refine lv_if_lt (tgt := 70) hx hb d_R_phi_50 (by decide) (fun hc => ?_) (fun hc => ?_)
            · rw [if_pos hc] at h
              exact hJ70 _ _ _ _ _ _ _ (lv_sub hl [1, 2, 4, 0] rfl) w h
            · rw [if_neg hc] at h
              refine lv_aload_n hx hb d_R_phi_53 rfl (lv_at hl 1 rfl) ?_
              refine U_get C0 w 0 (by decide) rfl rfl inR 14 (by decide) wd_842 rfl d_R_phi_54 ?_
              refine lv_iload_n hx hb d_R_phi_57 rfl (lv_at hl 2 rfl) ?_
              obtain ⟨hi16, h⟩ := if_ok h
              refine U_ald C0 w (iR_11 ct) hi16 d_R_phi_58 ?_
              refine lv_iload_n hx hb d_R_phi_59 rfl (lv_at hl 4 rfl) ?_
              obtain ⟨r17, M18, hc19, h⟩ := bind_ok h
              try dsimp only at h
              refine U_si (rest := []) C0 w (c_R_has l D ct q hc19) wd_1014 wd_1012 wd_1013 wd_8 (n9 := 2) (by decide +kernel) rfl ⟨(Nat.le_of_ble_eq_true rfl), (Nat.le_of_ble_eq_true rfl)⟩ hl.1 rfl (Nat.le_of_ble_eq_true rfl) d_R_phi_60 (Nat.le_of_ble_eq_true rfl) (Nat.le_of_ble_eq_true rfl) (fun H locs w => ?_)
              refine lv_if_ne (tgt := 70) hx hb d_R_phi_63 (by decide) (fun hc => ?_) (fun hc => ?_)
              · rw [if_neg hc] at h
                exact hJ70 _ _ _ _ _ _ _ (lv_sub hl [1, 2, 4, 0] rfl) w h
              · rw [if_pos hc] at h
                exact hJ66 _ _ _ _ _ _ _ (lv_sub hl [1, 2, 4, 0] rfl) w h
    · rw [if_neg hc] at h
      refine lv_iconst (v := 0) hx hb d_R_phi_20 (by decide) ?_
      cases h
      exact hret _ _ _ _ d_R_phi_21 rfl w
  refine lv_if_ne (tgt := 12) hx hb d_R_phi_5 (by decide) (fun hc => ?_) (fun hc => ?_)
  · rw [if_neg hc] at h
    refine lv_iconst (v := 0) hx hb d_R_phi_12 (by decide) ?_
    exact hJ13 _ _ _ _ _ _ _ _ (lv_sub hl [0, 1, 2, 3] rfl) w h
  · rw [if_pos hc] at h
    refine lv_iconst (v := 1) hx hb d_R_phi_8 (by decide) ?_
    refine lv_goto (tgt := 13) hx hb d_R_phi_9 (by decide) ?_
    exact hJ13 _ _ _ _ _ _ _ _ (lv_sub hl [0, 1, 2, 3] rfl) w h
abbrev rm_R_uses : Room := { frames := 1, cells := 0, slots := 0, locals := 22 }
set_option maxHeartbeats 8000000 in
set_option maxRecDepth 100000 in
theorem c_R_uses (l : Launch) (D : va_G) (ct : Nat → ClassId) (q : Nat → Nat) {x1 x2 x3 : Int32} {M Mz : Sto} {rz : Int32} (h : m_R_uses x1 x2 x3 M = some (rz, Mz)) : KI l D ct y_R_uses b_R_uses 6 (some .int) 1 22 [.ref (q 0), .int x1, .int x2, .int x3] (wR ct q M) rz (wR ct q Mz) := by
  refine KI.ofU (by decide) (Nat.le_of_ble_eq_true rfl) rfl ?_
  intro p e s m args below meth c A Q ls C0 hl w hret
  have hx := C0.1
  have hb := C0.2.1
  have hl : lv_has ls 6 [(0, .ref (q 0)), (1, .int x1), (2, .int x2), (3, .int x3)] := hl
  unfold m_R_uses at h
  refine lv_aload_n hx hb d_R_uses_0 rfl (lv_at hl 0 rfl) ?_
  refine lv_aload_n hx hb d_R_uses_1 rfl (lv_at hl 0 rfl) ?_
  refine U_get C0 w 0 (by decide) rfl rfl inR 11 (by decide) wd_839 rfl d_R_uses_2 ?_
  have hJ13 : ∀ (s0 v1 v2 v3 : Int32) (M : Sto) (H : Heap) (locs : List Loc) (ls : Array Slot), lv_has ls 6 [(0, .ref (q 0)), (1, .int v1), (2, .int v2), (3, .int v3)] → Wd D A s (wR ct q M) H locs → j_R_uses_13 s0 v1 v2 v3 M = some (rz, Mz) → W p l e rm_R_uses s m args below meth c H locs 0 0 Q (F0 m 13 ls [.int s0, .ref (q 0)]) := by
    intro s0 v1 v2 v3 M H locs ls hl w h
    unfold j_R_uses_13 at h
    refine lv_iconst (v := 2) hx hb d_R_uses_13 (by decide) ?_
    obtain ⟨r5, M6, hc7, h⟩ := bind_ok h
    try dsimp only at h
    refine U_vi (rest := []) C0 w 0 (wU_at (by decide)) rfl (c_R_fails l D ct q hc7) wd_963 wd_960 wd_962 ws_34 wd_8 (n9 := 2) (by decide +kernel) rfl ⟨(Nat.le_of_ble_eq_true rfl), (Nat.le_of_ble_eq_true rfl)⟩ hl.1 rfl (Nat.le_of_ble_eq_true rfl) d_R_uses_14 (Nat.le_of_ble_eq_true rfl) (Nat.le_of_ble_eq_true rfl) (fun H locs w => ?_)
    refine lv_if_eq (tgt := 22) hx hb d_R_uses_17 (by decide) (fun hc => ?_) (fun hc => ?_)
    · rw [if_pos hc] at h
      refine lv_aload_n hx hb d_R_uses_22 rfl (lv_at hl 0 rfl) ?_
      refine lv_iload_n hx hb d_R_uses_23 rfl (lv_at hl 1 rfl) ?_
      obtain ⟨r8, M9, hc10, h⟩ := bind_ok h
      try dsimp only at h
      refine U_vi (rest := []) C0 w 0 (wU_at (by decide)) rfl (c_R_noBlock l D ct q hc10) wd_971 wd_968 wd_970 ws_35 wd_8 (n9 := 1) (by decide +kernel) rfl ⟨(Nat.le_of_ble_eq_true rfl), (Nat.le_of_ble_eq_true rfl)⟩ hl.1 rfl (Nat.le_of_ble_eq_true rfl) d_R_uses_24 (Nat.le_of_ble_eq_true rfl) (Nat.le_of_ble_eq_true rfl) (fun H locs w => ?_)
      have hJ69 : ∀ (s0 v1 v2 v3 : Int32) (M : Sto) (H : Heap) (locs : List Loc) (ls : Array Slot), lv_has ls 6 [(0, .ref (q 0)), (1, .int v1), (2, .int v2), (3, .int v3)] → Wd D A s (wR ct q M) H locs → j_R_uses_69 s0 v1 v2 v3 M = some (rz, Mz) → W p l e rm_R_uses s m args below meth c H locs 0 0 Q (F0 m 69 ls [.int s0]) := by
        intro s0 v1 v2 v3 M H locs ls hl w h
        unfold j_R_uses_69 at h
        refine lv_istore hx hb d_R_uses_69 hl (by decide) rfl (fun ls hl => ?_)
        have hl : lv_has ls 6 [(4, .int s0), (0, .ref (q 0)), (1, .int v1), (2, .int v2), (3, .int v3)] := hl
        refine lv_aload_n hx hb d_R_uses_71 rfl (lv_at hl 1 rfl) ?_
        refine lv_iload hx hb d_R_uses_72 (lv_at hl 0 rfl) ?_
        refine lv_iconst (v := 1) hx hb d_R_uses_74 (by decide) ?_
        obtain ⟨r11, M12, hc13, h⟩ := bind_ok h
        try dsimp only at h
        refine U_vi (rest := []) C0 w 0 (wU_at (by decide)) rfl (c_R_fails l D ct q hc13) wd_963 wd_960 wd_962 ws_34 wd_8 (n9 := 2) (by decide +kernel) rfl ⟨(Nat.le_of_ble_eq_true rfl), (Nat.le_of_ble_eq_true rfl)⟩ hl.1 rfl (Nat.le_of_ble_eq_true rfl) d_R_uses_75 (Nat.le_of_ble_eq_true rfl) (Nat.le_of_ble_eq_true rfl) (fun H locs w => ?_)
        refine lv_if_eq (tgt := 83) hx hb d_R_uses_78 (by decide) (fun hc => ?_) (fun hc => ?_)
        · rw [if_pos hc] at h
          refine lv_bipush (v := 6) hx hb d_R_uses_83 (by decide) ?_
          refine lv_iload_n hx hb d_R_uses_85 rfl (lv_at hl 2 rfl) ?_
          refine lv_imul hx hb d_R_uses_86 ?_
          refine lv_iload_n hx hb d_R_uses_87 rfl (lv_at hl 3 rfl) ?_
          refine lv_iadd hx hb d_R_uses_88 ?_
          refine lv_istore hx hb d_R_uses_89 hl (by decide) rfl (fun ls hl => ?_)
          have hl : lv_has ls 6 [(5, .int ((6 * v1) + v2)), (4, .int s0), (0, .ref (q 0)), (1, .int v1), (2, .int v2), (3, .int v3)] := hl
          refine lv_iload_n hx hb d_R_uses_91 rfl (lv_at hl 5 rfl) ?_
          have hJ127 : ∀ (s0 : Int32) (M : Sto) (H : Heap) (locs : List Loc) (ls : Array Slot), lv_has ls 6 [] → Wd D A s (wR ct q M) H locs → j_R_uses_127 s0 M = some (rz, Mz) → W p l e rm_R_uses s m args below meth c H locs 0 0 Q (F0 m 127 ls [.int s0]) := by
            intro s0 M H locs ls hl w h
            unfold j_R_uses_127 at h
            cases h
            exact hret _ _ _ _ d_R_uses_127 rfl w
          refine lv_if_ne (tgt := 105) hx hb d_R_uses_92 (by decide) (fun hc => ?_) (fun hc => ?_)
          · rw [if_neg hc] at h
            refine lv_iload_n hx hb d_R_uses_105 rfl (lv_at hl 5 rfl) ?_
            refine lv_iconst (v := 1) hx hb d_R_uses_106 (by decide) ?_
            refine lv_icmp_ne (tgt := 120) hx hb d_R_uses_107 (by decide) (fun hc => ?_) (fun hc => ?_)
            · rw [if_neg hc] at h
              refine lv_aload_n hx hb d_R_uses_120 rfl (lv_at hl 2 rfl) ?_
              refine U_get C0 w 0 (by decide) rfl rfl inR 23 (by decide) wd_851 rfl d_R_uses_121 ?_
              refine lv_iload hx hb d_R_uses_124 (lv_at hl 0 rfl) ?_
              obtain ⟨hi14, h⟩ := if_ok h
              refine U_ald C0 w (iR_19 ct) hi14 d_R_uses_126 ?_
              exact hJ127 _ _ _ _ _ (lv_sub hl [] rfl) w h
            · rw [if_pos hc] at h
              refine lv_aload_n hx hb d_R_uses_110 rfl (lv_at hl 2 rfl) ?_
              refine U_get C0 w 0 (by decide) rfl rfl inR 22 (by decide) wd_850 rfl d_R_uses_111 ?_
              refine lv_iload hx hb d_R_uses_114 (lv_at hl 0 rfl) ?_
              obtain ⟨hi15, h⟩ := if_ok h
              refine U_ald C0 w (iR_18 ct) hi15 d_R_uses_116 ?_
              refine lv_goto (tgt := 127) hx hb d_R_uses_117 (by decide) ?_
              exact hJ127 _ _ _ _ _ (lv_sub hl [] rfl) w h
          · rw [if_pos hc] at h
            refine lv_aload_n hx hb d_R_uses_95 rfl (lv_at hl 2 rfl) ?_
            refine U_get C0 w 0 (by decide) rfl rfl inR 21 (by decide) wd_849 rfl d_R_uses_96 ?_
            refine lv_iload hx hb d_R_uses_99 (lv_at hl 0 rfl) ?_
            obtain ⟨hi16, h⟩ := if_ok h
            refine U_ald C0 w (iR_17 ct) hi16 d_R_uses_101 ?_
            refine lv_goto (tgt := 127) hx hb d_R_uses_102 (by decide) ?_
            exact hJ127 _ _ _ _ _ (lv_sub hl [] rfl) w h
        · rw [if_neg hc] at h
          refine lv_iconst (v := 0) hx hb d_R_uses_81 (by decide) ?_
          cases h
          exact hret _ _ _ _ d_R_uses_82 rfl w
      have hJ64 : ∀ (v1 v2 v3 : Int32) (M : Sto) (H : Heap) (locs : List Loc) (ls : Array Slot), lv_has ls 6 [(0, .ref (q 0)), (1, .int v1), (2, .int v2), (3, .int v3)] → Wd D A s (wR ct q M) H locs → j_R_uses_64 v1 v2 v3 M = some (rz, Mz) → W p l e rm_R_uses s m args below meth c H locs 0 0 Q (F0 m 64 ls []) := by
        intro v1 v2 v3 M H locs ls hl w h
        unfold j_R_uses_64 at h
        refine lv_iconst (v := 1) hx hb d_R_uses_64 (by decide) ?_
        refine lv_goto (tgt := 69) hx hb d_R_uses_65 (by decide) ?_
        exact hJ69 _ _ _ _ _ _ _ _ (lv_sub hl [0, 1, 2, 3] rfl) w h
      refine lv_if_ne (tgt := 64) hx hb d_R_uses_27 (by decide) (fun hc => ?_) (fun hc => ?_)
      · rw [if_neg hc] at h
        exact hJ64 _ _ _ _ _ _ _ (lv_sub hl [0, 1, 2, 3] rfl) w h
      · rw [if_pos hc] at h
        refine lv_aload_n hx hb d_R_uses_30 rfl (lv_at hl 0 rfl) ?_
        refine U_get C0 w 0 (by decide) rfl rfl inR 12 (by decide) wd_840 rfl d_R_uses_31 ?_
        refine lv_iload_n hx hb d_R_uses_34 rfl (lv_at hl 1 rfl) ?_
        obtain ⟨r17, M18, hc19, h⟩ := bind_ok h
        try dsimp only at h
        refine U_si (rest := []) C0 w (c_R_has l D ct q hc19) wd_1014 wd_1012 wd_1013 wd_8 (n9 := 2) (by decide +kernel) rfl ⟨(Nat.le_of_ble_eq_true rfl), (Nat.le_of_ble_eq_true rfl)⟩ hl.1 rfl (Nat.le_of_ble_eq_true rfl) d_R_uses_35 (Nat.le_of_ble_eq_true rfl) (Nat.le_of_ble_eq_true rfl) (fun H locs w => ?_)
        refine lv_if_eq (tgt := 64) hx hb d_R_uses_38 (by decide) (fun hc => ?_) (fun hc => ?_)
        · rw [if_pos hc] at h
          exact hJ64 _ _ _ _ _ _ _ (lv_sub hl [0, 1, 2, 3] rfl) w h
        · rw [if_neg hc] at h
          refine lv_iload_n hx hb d_R_uses_41 rfl (lv_at hl 2 rfl) ?_
          refine lv_if_lt (tgt := 64) hx hb d_R_uses_42 (by decide) (fun hc => ?_) (fun hc => ?_)
          · rw [if_pos hc] at h
            exact hJ64 _ _ _ _ _ _ _ (lv_sub hl [0, 1, 2, 3] rfl) w h
          · rw [if_neg hc] at h
            refine lv_iload_n hx hb d_R_uses_45 rfl (lv_at hl 2 rfl) ?_
            refine lv_aload_n hx hb d_R_uses_46 rfl (lv_at hl 0 rfl) ?_
            refine U_get C0 w 0 (by decide) rfl rfl inR 2 (by decide) wd_830 rfl d_R_uses_47 ?_
            refine lv_iload_n hx hb d_R_uses_50 rfl (lv_at hl 1 rfl) ?_
            obtain ⟨hi20, h⟩ := if_ok h
            refine U_ald C0 w (iR_1 ct) hi20 d_R_uses_51 ?_
            refine lv_icmp_ge (tgt := 64) hx hb d_R_uses_52 (by decide) (fun hc => ?_) (fun hc => ?_)
            · rw [if_pos hc] at h
              exact hJ64 _ _ _ _ _ _ _ (lv_sub hl [0, 1, 2, 3] rfl) w h
            · rw [if_neg hc] at h
              refine lv_iload_n hx hb d_R_uses_55 rfl (lv_at hl 3 rfl) ?_
              refine lv_if_lt (tgt := 64) hx hb d_R_uses_56 (by decide) (fun hc => ?_) (fun hc => ?_)
              · rw [if_pos hc] at h
                exact hJ64 _ _ _ _ _ _ _ (lv_sub hl [0, 1, 2, 3] rfl) w h
              · rw [if_neg hc] at h
                refine lv_iload_n hx hb d_R_uses_59 rfl (lv_at hl 3 rfl) ?_
                refine lv_iconst (v := 2) hx hb d_R_uses_60 (by decide) ?_
                refine lv_icmp_le (tgt := 68) hx hb d_R_uses_61 (by decide) (fun hc => ?_) (fun hc => ?_)
                · rw [if_pos hc] at h
                  refine lv_iconst (v := 0) hx hb d_R_uses_68 (by decide) ?_
                  exact hJ69 _ _ _ _ _ _ _ _ (lv_sub hl [0, 1, 2, 3] rfl) w h
                · rw [if_neg hc] at h
                  exact hJ64 _ _ _ _ _ _ _ (lv_sub hl [0, 1, 2, 3] rfl) w h
    · rw [if_neg hc] at h
      refine lv_iconst (v := 0) hx hb d_R_uses_20 (by decide) ?_
      cases h
      exact hret _ _ _ _ d_R_uses_21 rfl w
  refine lv_if_ne (tgt := 12) hx hb d_R_uses_5 (by decide) (fun hc => ?_) (fun hc => ?_)
  · rw [if_neg hc] at h
    refine lv_iconst (v := 0) hx hb d_R_uses_12 (by decide) ?_
    exact hJ13 _ _ _ _ _ _ _ _ (lv_sub hl [0, 1, 2, 3] rfl) w h
  · rw [if_pos hc] at h
    refine lv_iconst (v := 1) hx hb d_R_uses_8 (by decide) ?_
    refine lv_goto (tgt := 13) hx hb d_R_uses_9 (by decide) ?_
    exact hJ13 _ _ _ _ _ _ _ _ (lv_sub hl [0, 1, 2, 3] rfl) w h
abbrev rm_R_name : Room := { frames := 1, cells := 0, slots := 0, locals := 22 }
set_option maxHeartbeats 8000000 in
set_option maxRecDepth 100000 in
theorem c_R_name (l : Launch) (D : va_G) (ct : Nat → ClassId) (q : Nat → Nat) {x1 x2 : Int32} {M Mz : Sto} {rz : Int32} (h : m_R_name x1 x2 M = some (rz, Mz)) : KI l D ct y_R_name b_R_name 3 (some .int) 1 22 [.ref (q 0), .int x1, .int x2] (wR ct q M) rz (wR ct q Mz) := by
  refine KI.ofU (by decide) (Nat.le_of_ble_eq_true rfl) rfl ?_
  intro p e s m args below meth c A Q ls C0 hl w hret
  have hx := C0.1
  have hb := C0.2.1
  have hl : lv_has ls 3 [(0, .ref (q 0)), (1, .int x1), (2, .int x2)] := hl
  unfold m_R_name at h
  refine lv_aload_n hx hb d_R_name_0 rfl (lv_at hl 0 rfl) ?_
  refine lv_aload_n hx hb d_R_name_1 rfl (lv_at hl 0 rfl) ?_
  refine U_get C0 w 0 (by decide) rfl rfl inR 11 (by decide) wd_839 rfl d_R_name_2 ?_
  have hJ13 : ∀ (s0 v1 v2 : Int32) (M : Sto) (H : Heap) (locs : List Loc) (ls : Array Slot), lv_has ls 3 [(0, .ref (q 0)), (1, .int v1), (2, .int v2)] → Wd D A s (wR ct q M) H locs → j_R_name_13 s0 v1 v2 M = some (rz, Mz) → W p l e rm_R_name s m args below meth c H locs 0 0 Q (F0 m 13 ls [.int s0, .ref (q 0)]) := by
    intro s0 v1 v2 M H locs ls hl w h
    unfold j_R_name_13 at h
    refine lv_iconst (v := 2) hx hb d_R_name_13 (by decide) ?_
    obtain ⟨r3, M4, hc5, h⟩ := bind_ok h
    try dsimp only at h
    refine U_vi (rest := []) C0 w 0 (wU_at (by decide)) rfl (c_R_fails l D ct q hc5) wd_963 wd_960 wd_962 ws_34 wd_8 (n9 := 2) (by decide +kernel) rfl ⟨(Nat.le_of_ble_eq_true rfl), (Nat.le_of_ble_eq_true rfl)⟩ hl.1 rfl (Nat.le_of_ble_eq_true rfl) d_R_name_14 (Nat.le_of_ble_eq_true rfl) (Nat.le_of_ble_eq_true rfl) (fun H locs w => ?_)
    refine lv_if_eq (tgt := 22) hx hb d_R_name_17 (by decide) (fun hc => ?_) (fun hc => ?_)
    · rw [if_pos hc] at h
      refine lv_aload_n hx hb d_R_name_22 rfl (lv_at hl 0 rfl) ?_
      refine lv_iload_n hx hb d_R_name_23 rfl (lv_at hl 1 rfl) ?_
      have hJ49 : ∀ (s0 v1 v2 : Int32) (M : Sto) (H : Heap) (locs : List Loc) (ls : Array Slot), lv_has ls 3 [(0, .ref (q 0)), (1, .int v1), (2, .int v2)] → Wd D A s (wR ct q M) H locs → j_R_name_49 s0 v1 v2 M = some (rz, Mz) → W p l e rm_R_name s m args below meth c H locs 0 0 Q (F0 m 49 ls [.int s0, .ref (q 0)]) := by
        intro s0 v1 v2 M H locs ls hl w h
        unfold j_R_name_49 at h
        refine lv_iconst (v := 1) hx hb d_R_name_49 (by decide) ?_
        obtain ⟨r6, M7, hc8, h⟩ := bind_ok h
        try dsimp only at h
        refine U_vi (rest := []) C0 w 0 (wU_at (by decide)) rfl (c_R_fails l D ct q hc8) wd_963 wd_960 wd_962 ws_34 wd_8 (n9 := 2) (by decide +kernel) rfl ⟨(Nat.le_of_ble_eq_true rfl), (Nat.le_of_ble_eq_true rfl)⟩ hl.1 rfl (Nat.le_of_ble_eq_true rfl) d_R_name_50 (Nat.le_of_ble_eq_true rfl) (Nat.le_of_ble_eq_true rfl) (fun H locs w => ?_)
        refine lv_if_eq (tgt := 58) hx hb d_R_name_53 (by decide) (fun hc => ?_) (fun hc => ?_)
        · rw [if_pos hc] at h
          refine lv_iload_n hx hb d_R_name_58 rfl (lv_at hl 2 rfl) ?_
          have hJ113 : ∀ (s0 : Int32) (M : Sto) (H : Heap) (locs : List Loc) (ls : Array Slot), lv_has ls 3 [] → Wd D A s (wR ct q M) H locs → j_R_name_113 s0 M = some (rz, Mz) → W p l e rm_R_name s m args below meth c H locs 0 0 Q (F0 m 113 ls [.int s0]) := by
            intro s0 M H locs ls hl w h
            unfold j_R_name_113 at h
            cases h
            exact hret _ _ _ _ d_R_name_113 rfl w
          refine lv_if_ne (tgt := 71) hx hb d_R_name_59 (by decide) (fun hc => ?_) (fun hc => ?_)
          · rw [if_neg hc] at h
            refine lv_iload_n hx hb d_R_name_71 rfl (lv_at hl 2 rfl) ?_
            refine lv_iconst (v := 1) hx hb d_R_name_72 (by decide) ?_
            refine lv_icmp_ne (tgt := 85) hx hb d_R_name_73 (by decide) (fun hc => ?_) (fun hc => ?_)
            · rw [if_neg hc] at h
              refine lv_iload_n hx hb d_R_name_85 rfl (lv_at hl 2 rfl) ?_
              refine lv_iconst (v := 2) hx hb d_R_name_86 (by decide) ?_
              refine lv_icmp_ne (tgt := 107) hx hb d_R_name_87 (by decide) (fun hc => ?_) (fun hc => ?_)
              · rw [if_neg hc] at h
                refine lv_aload_n hx hb d_R_name_107 rfl (lv_at hl 0 rfl) ?_
                refine U_get C0 w 0 (by decide) rfl rfl inR 18 (by decide) wd_846 rfl d_R_name_108 ?_
                refine lv_iload_n hx hb d_R_name_111 rfl (lv_at hl 1 rfl) ?_
                obtain ⟨hi9, h⟩ := if_ok h
                refine U_ald C0 w (iR_14 ct) hi9 d_R_name_112 ?_
                exact hJ113 _ _ _ _ _ (lv_sub hl [] rfl) w h
              · rw [if_pos hc] at h
                refine lv_aload_n hx hb d_R_name_90 rfl (lv_at hl 0 rfl) ?_
                refine U_get C0 w 0 (by decide) rfl rfl inR 31 (by decide) wd_859 rfl d_R_name_91 ?_
                refine lv_iload_n hx hb d_R_name_94 rfl (lv_at hl 1 rfl) ?_
                obtain ⟨hi10, h⟩ := if_ok h
                refine U_zld C0 w (zR_26 ct) hi10 d_R_name_95 ?_
                refine lv_if_eq (tgt := 103) hx hb d_R_name_96 (by decide) (fun hc => ?_) (fun hc => ?_)
                · rw [if_pos hc] at h
                  refine lv_iconst (v := 0) hx hb d_R_name_103 (by decide) ?_
                  refine lv_goto (tgt := 113) hx hb d_R_name_104 (by decide) ?_
                  exact hJ113 _ _ _ _ _ (lv_sub hl [] rfl) w h
                · rw [if_neg hc] at h
                  refine lv_iconst (v := 1) hx hb d_R_name_99 (by decide) ?_
                  refine lv_goto (tgt := 113) hx hb d_R_name_100 (by decide) ?_
                  exact hJ113 _ _ _ _ _ (lv_sub hl [] rfl) w h
            · rw [if_pos hc] at h
              refine lv_aload_n hx hb d_R_name_76 rfl (lv_at hl 0 rfl) ?_
              refine U_get C0 w 0 (by decide) rfl rfl inR 30 (by decide) wd_858 rfl d_R_name_77 ?_
              refine lv_iload_n hx hb d_R_name_80 rfl (lv_at hl 1 rfl) ?_
              obtain ⟨hi11, h⟩ := if_ok h
              refine U_ald C0 w (iR_25 ct) hi11 d_R_name_81 ?_
              refine lv_goto (tgt := 113) hx hb d_R_name_82 (by decide) ?_
              exact hJ113 _ _ _ _ _ (lv_sub hl [] rfl) w h
          · rw [if_pos hc] at h
            refine lv_aload_n hx hb d_R_name_62 rfl (lv_at hl 0 rfl) ?_
            refine U_get C0 w 0 (by decide) rfl rfl inR 29 (by decide) wd_857 rfl d_R_name_63 ?_
            refine lv_iload_n hx hb d_R_name_66 rfl (lv_at hl 1 rfl) ?_
            obtain ⟨hi12, h⟩ := if_ok h
            refine U_ald C0 w (iR_24 ct) hi12 d_R_name_67 ?_
            refine lv_goto (tgt := 113) hx hb d_R_name_68 (by decide) ?_
            exact hJ113 _ _ _ _ _ (lv_sub hl [] rfl) w h
        · rw [if_neg hc] at h
          refine lv_iconst (v := 0) hx hb d_R_name_56 (by decide) ?_
          cases h
          exact hret _ _ _ _ d_R_name_57 rfl w
      have hJ44 : ∀ (v1 v2 : Int32) (M : Sto) (H : Heap) (locs : List Loc) (ls : Array Slot), lv_has ls 3 [(0, .ref (q 0)), (1, .int v1), (2, .int v2)] → Wd D A s (wR ct q M) H locs → j_R_name_44 v1 v2 M = some (rz, Mz) → W p l e rm_R_name s m args below meth c H locs 0 0 Q (F0 m 44 ls [.ref (q 0)]) := by
        intro v1 v2 M H locs ls hl w h
        unfold j_R_name_44 at h
        refine lv_iconst (v := 1) hx hb d_R_name_44 (by decide) ?_
        refine lv_goto (tgt := 49) hx hb d_R_name_45 (by decide) ?_
        exact hJ49 _ _ _ _ _ _ _ (lv_sub hl [0, 1, 2] rfl) w h
      refine lv_if_lt (tgt := 44) hx hb d_R_name_24 (by decide) (fun hc => ?_) (fun hc => ?_)
      · rw [if_pos hc] at h
        exact hJ44 _ _ _ _ _ _ (lv_sub hl [0, 1, 2] rfl) w h
      · rw [if_neg hc] at h
        refine lv_iload_n hx hb d_R_name_27 rfl (lv_at hl 1 rfl) ?_
        refine lv_aload_n hx hb d_R_name_28 rfl (lv_at hl 0 rfl) ?_
        refine U_get C0 w 0 (by decide) rfl rfl inR 17 (by decide) wd_845 rfl d_R_name_29 ?_
        refine lv_icmp_ge (tgt := 44) hx hb d_R_name_32 (by decide) (fun hc => ?_) (fun hc => ?_)
        · rw [if_pos hc] at h
          exact hJ44 _ _ _ _ _ _ (lv_sub hl [0, 1, 2] rfl) w h
        · rw [if_neg hc] at h
          refine lv_iload_n hx hb d_R_name_35 rfl (lv_at hl 2 rfl) ?_
          refine lv_if_lt (tgt := 44) hx hb d_R_name_36 (by decide) (fun hc => ?_) (fun hc => ?_)
          · rw [if_pos hc] at h
            exact hJ44 _ _ _ _ _ _ (lv_sub hl [0, 1, 2] rfl) w h
          · rw [if_neg hc] at h
            refine lv_iload_n hx hb d_R_name_39 rfl (lv_at hl 2 rfl) ?_
            refine lv_iconst (v := 3) hx hb d_R_name_40 (by decide) ?_
            refine lv_icmp_le (tgt := 48) hx hb d_R_name_41 (by decide) (fun hc => ?_) (fun hc => ?_)
            · rw [if_pos hc] at h
              refine lv_iconst (v := 0) hx hb d_R_name_48 (by decide) ?_
              exact hJ49 _ _ _ _ _ _ _ (lv_sub hl [0, 1, 2] rfl) w h
            · rw [if_neg hc] at h
              exact hJ44 _ _ _ _ _ _ (lv_sub hl [0, 1, 2] rfl) w h
    · rw [if_neg hc] at h
      refine lv_iconst (v := 0) hx hb d_R_name_20 (by decide) ?_
      cases h
      exact hret _ _ _ _ d_R_name_21 rfl w
  refine lv_if_ne (tgt := 12) hx hb d_R_name_5 (by decide) (fun hc => ?_) (fun hc => ?_)
  · rw [if_neg hc] at h
    refine lv_iconst (v := 0) hx hb d_R_name_12 (by decide) ?_
    exact hJ13 _ _ _ _ _ _ _ (lv_sub hl [0, 1, 2] rfl) w h
  · rw [if_pos hc] at h
    refine lv_iconst (v := 1) hx hb d_R_name_8 (by decide) ?_
    refine lv_goto (tgt := 13) hx hb d_R_name_9 (by decide) ?_
    exact hJ13 _ _ _ _ _ _ _ (lv_sub hl [0, 1, 2] rfl) w h
abbrev rm_R_give : Room := { frames := 0, cells := 0, slots := 0, locals := 0 }
set_option maxHeartbeats 8000000 in
set_option maxRecDepth 100000 in
theorem c_R_give (l : Launch) (D : va_G) (ct : Nat → ClassId) (q : Nat → Nat) {x1 : Int32} {M Mz : Sto} {rz : Int32} (h : m_R_give x1 M = some (rz, Mz)) : KI l D ct y_R_give b_R_give 2 (some .boolean) 0 0 [.ref (q 0), .int x1] (wR ct q M) rz (wR ct q Mz) := by
  refine KI.ofU (by decide) (Nat.le_of_ble_eq_true rfl) rfl ?_
  intro p e s m args below meth c A Q ls C0 hl w hret
  have hx := C0.1
  have hb := C0.2.1
  have hl : lv_has ls 2 [(0, .ref (q 0)), (1, .int x1)] := hl
  unfold m_R_give at h
  refine lv_aload_n hx hb d_R_give_0 rfl (lv_at hl 0 rfl) ?_
  refine lv_iconst (v := 0) hx hb d_R_give_1 (by decide) ?_
  obtain ⟨M4, eM4, h⟩ := wr_ok h
  try dsimp only at h
  refine U_put C0 (cR_l ct) w 0 (by decide) rfl rfl inR tyR_ok nmR 0 (by decide) wd_828 rfl rfl rfl (Nat.le_of_ble_eq_true rfl) d_R_give_2 eM4 rfl (fun H locs w => ?_)
  refine lv_aload_n hx hb d_R_give_5 rfl (lv_at hl 0 rfl) ?_
  refine U_get C0 w 0 (by decide) rfl rfl inR 32 (by decide) wd_860 rfl d_R_give_6 ?_
  refine lv_bipush (v := 16) hx hb d_R_give_9 (by decide) ?_
  refine lv_icmp_ne (tgt := 16) hx hb d_R_give_11 (by decide) (fun hc => ?_) (fun hc => ?_)
  · rw [if_neg hc] at h
    refine lv_aload_n hx hb d_R_give_16 rfl (lv_at hl 0 rfl) ?_
    refine U_get C0 w 0 (by decide) rfl rfl inR 33 (by decide) wd_861 rfl d_R_give_17 ?_
    refine lv_aload_n hx hb d_R_give_20 rfl (lv_at hl 0 rfl) ?_
    refine U_get C0 w 0 (by decide) rfl rfl inR 32 (by decide) wd_860 rfl d_R_give_21 ?_
    refine lv_iload_n hx hb d_R_give_24 rfl (lv_at hl 1 rfl) ?_
    obtain ⟨hi5, h⟩ := if_ok h
    obtain ⟨M6, eM6, h⟩ := wr_ok h
    try dsimp only at h
    refine U_ast C0 (cR_l ct) w (iR_27 ct) hi5 d_R_give_25 eM6 (fun H locs w => ?_)
    refine lv_aload_n hx hb d_R_give_26 rfl (lv_at hl 0 rfl) ?_
    refine lv_dup hx hb d_R_give_27 rfl ?_
    refine U_get C0 w 0 (by decide) rfl rfl inR 32 (by decide) wd_860 rfl d_R_give_28 ?_
    refine lv_iconst (v := 1) hx hb d_R_give_31 (by decide) ?_
    refine lv_iadd hx hb d_R_give_32 ?_
    obtain ⟨M7, eM7, h⟩ := wr_ok h
    try dsimp only at h
    refine U_put C0 (cR_l ct) w 0 (by decide) rfl rfl inR tyR_ok nmR 32 (by decide) wd_860 rfl rfl rfl (Nat.le_of_ble_eq_true rfl) d_R_give_33 eM7 rfl (fun H locs w => ?_)
    refine lv_iconst (v := 1) hx hb d_R_give_36 (by decide) ?_
    obtain ⟨hz9, h⟩ := if_ok h
    cases h
    exact hret _ _ _ _ d_R_give_37 (bz_nar hz9) w
  · rw [if_pos hc] at h
    refine lv_iconst (v := 0) hx hb d_R_give_14 (by decide) ?_
    obtain ⟨hz9, h⟩ := if_ok h
    cases h
    exact hret _ _ _ _ d_R_give_15 (bz_nar hz9) w
abbrev rm_R_take : Room := { frames := 0, cells := 0, slots := 0, locals := 0 }
set_option maxHeartbeats 8000000 in
set_option maxRecDepth 100000 in
theorem c_R_take (l : Launch) (D : va_G) (ct : Nat → ClassId) (q : Nat → Nat) {M Mz : Sto} {rz : Int32} (h : m_R_take M = some (rz, Mz)) : KV l D ct y_R_take b_R_take 1 0 0 0 0 [.ref (q 0)] (wR ct q M) (fun A t => CE D (wR ct q Mz) A t) := by
  refine KV.ofU (by decide) (Nat.le_of_ble_eq_true rfl) ?_
  intro p e s m args below meth c A Q ls C0 hl w hret
  have hx := C0.1
  have hb := C0.2.1
  have hl : lv_has ls 1 [(0, .ref (q 0))] := hl
  unfold m_R_take at h
  refine lv_aload_n hx hb d_R_take_0 rfl (lv_at hl 0 rfl) ?_
  refine lv_iconst (v := 0) hx hb d_R_take_1 (by decide) ?_
  obtain ⟨M3, eM3, h⟩ := wr_ok h
  try dsimp only at h
  refine U_put C0 (cR_l ct) w 0 (by decide) rfl rfl inR tyR_ok nmR 0 (by decide) wd_828 rfl rfl rfl (Nat.le_of_ble_eq_true rfl) d_R_take_2 eM3 rfl (fun H locs w => ?_)
  refine lv_aload_n hx hb d_R_take_5 rfl (lv_at hl 0 rfl) ?_
  refine lv_iconst (v := 0) hx hb d_R_take_6 (by decide) ?_
  obtain ⟨M4, eM4, h⟩ := wr_ok h
  try dsimp only at h
  refine U_put C0 (cR_l ct) w 0 (by decide) rfl rfl inR tyR_ok nmR 32 (by decide) wd_860 rfl rfl rfl (Nat.le_of_ble_eq_true rfl) d_R_take_7 eM4 rfl (fun H locs w => ?_)
  cases h
  exact hret _ _ _ _ d_R_take_10 w
abbrev rm_R_tell : Room := { frames := 0, cells := 0, slots := 0, locals := 0 }
set_option maxHeartbeats 8000000 in
set_option maxRecDepth 100000 in
theorem c_R_tell (l : Launch) (D : va_G) (ct : Nat → ClassId) (q : Nat → Nat) {x1 : Int32} {M Mz : Sto} {rz : Int32} (h : m_R_tell x1 M = some (rz, Mz)) : KV l D ct y_R_tell b_R_tell 2 0 0 0 0 [.ref (q 0), .int x1] (wR ct q M) (fun A t => CE D (wR ct q Mz) A t) := by
  refine KV.ofU (by decide) (Nat.le_of_ble_eq_true rfl) ?_
  intro p e s m args below meth c A Q ls C0 hl w hret
  have hx := C0.1
  have hb := C0.2.1
  have hl : lv_has ls 2 [(0, .ref (q 0)), (1, .int x1)] := hl
  unfold m_R_tell at h
  refine lv_aload_n hx hb d_R_tell_0 rfl (lv_at hl 0 rfl) ?_
  refine U_get C0 w 0 (by decide) rfl rfl inR 35 (by decide) wd_863 rfl d_R_tell_1 ?_
  refine lv_bipush (v := 40) hx hb d_R_tell_4 (by decide) ?_
  have hJ19 : ∀ (M : Sto) (H : Heap) (locs : List Loc) (ls : Array Slot), lv_has ls 2 [(0, .ref (q 0))] → Wd D A s (wR ct q M) H locs → j_R_tell_19 M = some (rz, Mz) → W p l e rm_R_tell s m args below meth c H locs 0 0 Q (F0 m 19 ls []) := by
    intro M H locs ls hl w h
    unfold j_R_tell_19 at h
    refine lv_aload_n hx hb d_R_tell_19 rfl (lv_at hl 0 rfl) ?_
    refine lv_dup hx hb d_R_tell_20 rfl ?_
    refine U_get C0 w 0 (by decide) rfl rfl inR 35 (by decide) wd_863 rfl d_R_tell_21 ?_
    refine lv_iconst (v := 1) hx hb d_R_tell_24 (by decide) ?_
    refine lv_iadd hx hb d_R_tell_25 ?_
    obtain ⟨M3, eM3, h⟩ := wr_ok h
    try dsimp only at h
    refine U_put C0 (cR_l ct) w 0 (by decide) rfl rfl inR tyR_ok nmR 35 (by decide) wd_863 rfl rfl rfl (Nat.le_of_ble_eq_true rfl) d_R_tell_26 eM3 rfl (fun H locs w => ?_)
    cases h
    exact hret _ _ _ _ d_R_tell_29 w
  refine lv_icmp_ge (tgt := 19) hx hb d_R_tell_6 (by decide) (fun hc => ?_) (fun hc => ?_)
  · rw [if_pos hc] at h
    exact hJ19 _ _ _ _ (lv_sub hl [0] rfl) w h
  · rw [if_neg hc] at h
    refine lv_aload_n hx hb d_R_tell_9 rfl (lv_at hl 0 rfl) ?_
    refine U_get C0 w 0 (by decide) rfl rfl inR 36 (by decide) wd_864 rfl d_R_tell_10 ?_
    refine lv_aload_n hx hb d_R_tell_13 rfl (lv_at hl 0 rfl) ?_
    refine U_get C0 w 0 (by decide) rfl rfl inR 35 (by decide) wd_863 rfl d_R_tell_14 ?_
    refine lv_iload_n hx hb d_R_tell_17 rfl (lv_at hl 1 rfl) ?_
    obtain ⟨hi4, h⟩ := if_ok h
    obtain ⟨M5, eM5, h⟩ := wr_ok h
    try dsimp only at h
    refine U_ast C0 (cR_l ct) w (iR_28 ct) hi4 d_R_tell_18 eM5 (fun H locs w => ?_)
    exact hJ19 _ _ _ _ (lv_sub hl [0] rfl) w h
abbrev rm_R_ask : Room := { frames := 0, cells := 0, slots := 0, locals := 0 }
set_option maxHeartbeats 8000000 in
set_option maxRecDepth 100000 in
theorem c_R_ask (l : Launch) (D : va_G) (ct : Nat → ClassId) (q : Nat → Nat) {M Mz : Sto} {rz : Int32} (h : m_R_ask M = some (rz, Mz)) : KI l D ct y_R_ask b_R_ask 1 (some .int) 0 0 [.ref (q 0)] (wR ct q M) rz (wR ct q Mz) := by
  refine KI.ofU (by decide) (Nat.le_of_ble_eq_true rfl) rfl ?_
  intro p e s m args below meth c A Q ls C0 hl w hret
  have hx := C0.1
  have hb := C0.2.1
  have hl : lv_has ls 1 [(0, .ref (q 0))] := hl
  unfold m_R_ask at h
  refine lv_aload_n hx hb d_R_ask_0 rfl (lv_at hl 0 rfl) ?_
  refine lv_dup hx hb d_R_ask_1 rfl ?_
  refine U_get C0 w 0 (by decide) rfl rfl inR 34 (by decide) wd_862 rfl d_R_ask_2 ?_
  refine lv_iconst (v := 1) hx hb d_R_ask_5 (by decide) ?_
  refine lv_iadd hx hb d_R_ask_6 ?_
  obtain ⟨M2, eM2, h⟩ := wr_ok h
  try dsimp only at h
  refine U_put C0 (cR_l ct) w 0 (by decide) rfl rfl inR tyR_ok nmR 34 (by decide) wd_862 rfl rfl rfl (Nat.le_of_ble_eq_true rfl) d_R_ask_7 eM2 rfl (fun H locs w => ?_)
  refine lv_aload_n hx hb d_R_ask_10 rfl (lv_at hl 0 rfl) ?_
  refine U_get C0 w 0 (by decide) rfl rfl inR 34 (by decide) wd_862 rfl d_R_ask_11 ?_
  refine lv_aload_n hx hb d_R_ask_14 rfl (lv_at hl 0 rfl) ?_
  refine U_get C0 w 0 (by decide) rfl rfl inR 32 (by decide) wd_860 rfl d_R_ask_15 ?_
  have hJ36 : ∀ (s0 : Int32) (M : Sto) (H : Heap) (locs : List Loc) (ls : Array Slot), lv_has ls 1 [] → Wd D A s (wR ct q M) H locs → j_R_ask_36 s0 M = some (rz, Mz) → W p l e rm_R_ask s m args below meth c H locs 0 0 Q (F0 m 36 ls [.int s0]) := by
    intro s0 M H locs ls hl w h
    unfold j_R_ask_36 at h
    cases h
    exact hret _ _ _ _ d_R_ask_36 rfl w
  refine lv_icmp_gt (tgt := 35) hx hb d_R_ask_18 (by decide) (fun hc => ?_) (fun hc => ?_)
  · rw [if_pos hc] at h
    refine lv_iconst (v := 0) hx hb d_R_ask_35 (by decide) ?_
    exact hJ36 _ _ _ _ _ (lv_sub hl [] rfl) w h
  · rw [if_neg hc] at h
    refine lv_aload_n hx hb d_R_ask_21 rfl (lv_at hl 0 rfl) ?_
    refine U_get C0 w 0 (by decide) rfl rfl inR 33 (by decide) wd_861 rfl d_R_ask_22 ?_
    refine lv_aload_n hx hb d_R_ask_25 rfl (lv_at hl 0 rfl) ?_
    refine U_get C0 w 0 (by decide) rfl rfl inR 34 (by decide) wd_862 rfl d_R_ask_26 ?_
    refine lv_iconst (v := 1) hx hb d_R_ask_29 (by decide) ?_
    refine lv_isub hx hb d_R_ask_30 ?_
    obtain ⟨hi3, h⟩ := if_ok h
    refine U_ald C0 w (iR_27 ct) hi3 d_R_ask_31 ?_
    refine lv_goto (tgt := 36) hx hb d_R_ask_32 (by decide) ?_
    exact hJ36 _ _ _ _ _ (lv_sub hl [] rfl) w h
abbrev rm_R_plainValue : Room := { frames := 1, cells := 0, slots := 0, locals := 23 }
set_option maxHeartbeats 8000000 in
set_option maxRecDepth 100000 in
theorem c_R_plainValue (l : Launch) (D : va_G) (ct : Nat → ClassId) (q : Nat → Nat) {x1 : Int32} {M Mz : Sto} {rz : Int32} (h : m_R_plainValue x1 M = some (rz, Mz)) : KI l D ct y_R_plainValue b_R_plainValue 4 (some .int) 1 23 [.ref (q 0), .int x1] (wR ct q M) rz (wR ct q Mz) := by
  refine KI.ofU (by decide) (Nat.le_of_ble_eq_true rfl) rfl ?_
  intro p e s m args below meth c A Q ls C0 hl w hret
  have hx := C0.1
  have hb := C0.2.1
  have hl : lv_has ls 4 [(0, .ref (q 0)), (1, .int x1)] := hl
  unfold m_R_plainValue at h
  refine lv_aload_n hx hb d_R_plainValue_0 rfl (lv_at hl 0 rfl) ?_
  refine U_get C0 w 0 (by decide) rfl rfl inR 3 (by decide) wd_831 rfl d_R_plainValue_1 ?_
  refine lv_iload_n hx hb d_R_plainValue_4 rfl (lv_at hl 1 rfl) ?_
  obtain ⟨hi3, h⟩ := if_ok h
  refine U_ald C0 w (iR_2 ct) hi3 d_R_plainValue_5 ?_
  refine lv_istore_n hx hb d_R_plainValue_6 rfl hl (by decide) rfl (fun ls hl => ?_)
  have hl : lv_has ls 4 [(2, .int (M 2 x1.toNatClampNeg)), (0, .ref (q 0)), (1, .int x1)] := hl
  refine lv_iload_n hx hb d_R_plainValue_7 rfl (lv_at hl 0 rfl) ?_
  refine lv_if_ne (tgt := 18) hx hb d_R_plainValue_8 (by decide) (fun hc => ?_) (fun hc => ?_)
  · rw [if_neg hc] at h
    refine lv_iload_n hx hb d_R_plainValue_18 rfl (lv_at hl 0 rfl) ?_
    refine lv_bipush (v := 6) hx hb d_R_plainValue_19 (by decide) ?_
    refine lv_icmp_ne (tgt := 29) hx hb d_R_plainValue_21 (by decide) (fun hc => ?_) (fun hc => ?_)
    · rw [if_neg hc] at h
      refine lv_aload_n hx hb d_R_plainValue_29 rfl (lv_at hl 1 rfl) ?_
      refine U_get C0 w 0 (by decide) rfl rfl inR 39 (by decide) wd_867 rfl d_R_plainValue_30 ?_
      refine lv_aload_n hx hb d_R_plainValue_33 rfl (lv_at hl 1 rfl) ?_
      refine U_get C0 w 0 (by decide) rfl rfl inR 5 (by decide) wd_833 rfl d_R_plainValue_34 ?_
      refine lv_iload_n hx hb d_R_plainValue_37 rfl (lv_at hl 2 rfl) ?_
      obtain ⟨hi4, h⟩ := if_ok h
      refine U_ald C0 w (iR_4 ct) hi4 d_R_plainValue_38 ?_
      obtain ⟨hi5, h⟩ := if_ok h
      refine U_ald C0 w (iR_29 ct) hi5 d_R_plainValue_39 ?_
      refine lv_istore_n hx hb d_R_plainValue_40 rfl hl (by decide) rfl (fun ls hl => ?_)
      have hl : lv_has ls 4 [(3, .int (M 29 (M 4 x1.toNatClampNeg).toNatClampNeg)), (2, .int (M 2 x1.toNatClampNeg)), (0, .ref (q 0)), (1, .int x1)] := hl
      refine lv_iload_n hx hb d_R_plainValue_41 rfl (lv_at hl 1 rfl) ?_
      refine lv_iconst (v := 1) hx hb d_R_plainValue_42 (by decide) ?_
      have hJ67 : ∀ (s0 : Int32) (M : Sto) (H : Heap) (locs : List Loc) (ls : Array Slot), lv_has ls 4 [] → Wd D A s (wR ct q M) H locs → j_R_plainValue_67 s0 M = some (rz, Mz) → W p l e rm_R_plainValue s m args below meth c H locs 0 0 Q (F0 m 67 ls [.int s0]) := by
        intro s0 M H locs ls hl w h
        unfold j_R_plainValue_67 at h
        cases h
        exact hret _ _ _ _ d_R_plainValue_67 rfl w
      refine lv_icmp_ne (tgt := 50) hx hb d_R_plainValue_43 (by decide) (fun hc => ?_) (fun hc => ?_)
      · rw [if_neg hc] at h
        refine lv_aload_n hx hb d_R_plainValue_50 rfl (lv_at hl 2 rfl) ?_
        refine lv_iload_n hx hb d_R_plainValue_51 rfl (lv_at hl 1 rfl) ?_
        refine lv_iload_n hx hb d_R_plainValue_52 rfl (lv_at hl 0 rfl) ?_
        refine lv_aload_n hx hb d_R_plainValue_53 rfl (lv_at hl 2 rfl) ?_
        refine U_get C0 w 0 (by decide) rfl rfl inR 39 (by decide) wd_867 rfl d_R_plainValue_54 ?_
        refine lv_aload_n hx hb d_R_plainValue_57 rfl (lv_at hl 2 rfl) ?_
        refine U_get C0 w 0 (by decide) rfl rfl inR 6 (by decide) wd_834 rfl d_R_plainValue_58 ?_
        refine lv_iload_n hx hb d_R_plainValue_61 rfl (lv_at hl 3 rfl) ?_
        obtain ⟨hi6, h⟩ := if_ok h
        refine U_ald C0 w (iR_5 ct) hi6 d_R_plainValue_62 ?_
        obtain ⟨hi7, h⟩ := if_ok h
        refine U_ald C0 w (iR_29 ct) hi7 d_R_plainValue_63 ?_
        obtain ⟨r8, M9, hc10, h⟩ := bind_ok h
        try dsimp only at h
        refine U_vi (rest := []) C0 w 0 (wU_at (by decide)) rfl (c_R_reckon l D ct q hc10) wd_1073 wd_1070 wd_1072 ws_51 wd_8 (n9 := 3) (by decide +kernel) rfl ⟨(Nat.le_of_ble_eq_true rfl), (Nat.le_of_ble_eq_true rfl)⟩ hl.1 rfl (Nat.le_of_ble_eq_true rfl) d_R_plainValue_64 (Nat.le_of_ble_eq_true rfl) (Nat.le_of_ble_eq_true rfl) (fun H locs w => ?_)
        exact hJ67 _ _ _ _ _ (lv_sub hl [] rfl) w h
      · rw [if_pos hc] at h
        refine lv_iload_n hx hb d_R_plainValue_46 rfl (lv_at hl 0 rfl) ?_
        refine lv_goto (tgt := 67) hx hb d_R_plainValue_47 (by decide) ?_
        exact hJ67 _ _ _ _ _ (lv_sub hl [] rfl) w h
    · rw [if_pos hc] at h
      refine lv_aload_n hx hb d_R_plainValue_24 rfl (lv_at hl 1 rfl) ?_
      obtain ⟨r11, M12, hc13, h⟩ := bind_ok h
      try dsimp only at h
      refine U_vi (rest := []) C0 w 0 (wU_at (by decide)) rfl (c_R_ask l D ct q hc13) wd_1137 wd_1134 wd_1136 ws_60 wd_8 (n9 := 0) (by decide +kernel) rfl ⟨(Nat.le_of_ble_eq_true rfl), (Nat.le_of_ble_eq_true rfl)⟩ hl.1 rfl (Nat.le_of_ble_eq_true rfl) d_R_plainValue_25 (Nat.le_of_ble_eq_true rfl) (Nat.le_of_ble_eq_true rfl) (fun H locs w => ?_)
      cases h
      exact hret _ _ _ _ d_R_plainValue_28 rfl w
  · rw [if_pos hc] at h
    refine lv_aload_n hx hb d_R_plainValue_11 rfl (lv_at hl 1 rfl) ?_
    refine U_get C0 w 0 (by decide) rfl rfl inR 5 (by decide) wd_833 rfl d_R_plainValue_12 ?_
    refine lv_iload_n hx hb d_R_plainValue_15 rfl (lv_at hl 2 rfl) ?_
    obtain ⟨hi14, h⟩ := if_ok h
    refine U_ald C0 w (iR_4 ct) hi14 d_R_plainValue_16 ?_
    cases h
    exact hret _ _ _ _ d_R_plainValue_17 rfl w
abbrev rm_R_plainBlock : Room := { frames := 2, cells := 0, slots := 0, locals := 46 }
set_option maxHeartbeats 8000000 in
set_option maxRecDepth 100000 in
theorem c_R_plainBlock (l : Launch) (D : va_G) (ct : Nat → ClassId) (q : Nat → Nat) {x1 : Int32} {M Mz : Sto} {rz : Int32} (h : m_R_plainBlock x1 M = some (rz, Mz)) : KV l D ct y_R_plainBlock b_R_plainBlock 3 2 46 0 0 [.ref (q 0), .int x1] (wR ct q M) (fun A t => CE D (wR ct q Mz) A t) := by
  refine KV.ofU (by decide) (Nat.le_of_ble_eq_true rfl) ?_
  intro p e s m args below meth c A Q ls C0 hl w hret
  have hx := C0.1
  have hb := C0.2.1
  have hl : lv_has ls 3 [(0, .ref (q 0)), (1, .int x1)] := hl
  unfold m_R_plainBlock at h
  refine lv_bipush (v := 6) hx hb d_R_plainBlock_0 (by decide) ?_
  refine lv_iload_n hx hb d_R_plainBlock_2 rfl (lv_at hl 1 rfl) ?_
  refine lv_imul hx hb d_R_plainBlock_3 ?_
  refine lv_istore_n hx hb d_R_plainBlock_4 rfl hl (by decide) rfl (fun ls hl => ?_)
  have hl : lv_has ls 3 [(2, .int (6 * x1)), (0, .ref (q 0)), (1, .int x1)] := hl
  generalize eK5 : j_R_plainBlock_81 = K5 at h
  have hE5 : ∀ (M : Sto) (H : Heap) (locs : List Loc) (ls : Array Slot), lv_has ls 3 [] → Wd D A s (wR ct q M) H locs → K5 M = some (rz, Mz) → W p l e rm_R_plainBlock s m args below meth c H locs 0 0 Q (F0 m 81 ls []) := by
    intro M H locs ls hl w h
    rw [← eK5] at h
    unfold j_R_plainBlock_81 at h
    cases h
    exact hret _ _ _ _ d_R_plainBlock_81 w
  have hL5 : ∀ (n : Nat) (v1 v2 : Int32) (M : Sto) (H : Heap) (locs : List Loc) (ls : Array Slot), lv_has ls 3 [(0, .ref (q 0)), (1, .int v1), (2, .int v2)] → Wd D A s (wR ct q M) H locs → l_R_plainBlock_5 K5 n v1 v2 M = some (rz, Mz) → W p l e rm_R_plainBlock s m args below meth c H locs 0 0 Q (F0 m 5 ls []) := by
    intro n
    induction n with
    | zero => intro v1 v2 M H locs ls hl w h; simp [l_R_plainBlock_5] at h
    | succ n ih5 =>
      intro v1 v2 M H locs ls hl w h
      unfold l_R_plainBlock_5 at h
      refine lv_iload_n hx hb d_R_plainBlock_5 rfl (lv_at hl 2 rfl) ?_
      refine lv_bipush (v := 6) hx hb d_R_plainBlock_6 (by decide) ?_
      refine lv_iload_n hx hb d_R_plainBlock_8 rfl (lv_at hl 1 rfl) ?_
      refine lv_imul hx hb d_R_plainBlock_9 ?_
      refine lv_aload_n hx hb d_R_plainBlock_10 rfl (lv_at hl 0 rfl) ?_
      refine U_get C0 w 0 (by decide) rfl rfl inR 2 (by decide) wd_830 rfl d_R_plainBlock_11 ?_
      refine lv_iload_n hx hb d_R_plainBlock_14 rfl (lv_at hl 1 rfl) ?_
      obtain ⟨hi5, h⟩ := if_ok h
      refine U_ald C0 w (iR_1 ct) hi5 d_R_plainBlock_15 ?_
      refine lv_iadd hx hb d_R_plainBlock_16 ?_
      refine lv_icmp_ge (tgt := 81) hx hb d_R_plainBlock_17 (by decide) (fun hc => ?_) (fun hc => ?_)
      · rw [if_pos hc] at h
        exact hE5 _ _ _ _ (lv_sub hl [] rfl) w h
      · rw [if_neg hc] at h
        refine lv_aload_n hx hb d_R_plainBlock_20 rfl (lv_at hl 0 rfl) ?_
        refine lv_dup hx hb d_R_plainBlock_21 rfl ?_
        refine U_get C0 w 0 (by decide) rfl rfl inR 38 (by decide) wd_866 rfl d_R_plainBlock_22 ?_
        refine lv_iconst (v := 1) hx hb d_R_plainBlock_25 (by decide) ?_
        refine lv_iadd hx hb d_R_plainBlock_26 ?_
        obtain ⟨M6, eM6, h⟩ := wr_ok h
        try dsimp only at h
        refine U_put C0 (cR_l ct) w 0 (by decide) rfl rfl inR tyR_ok nmR 38 (by decide) wd_866 rfl rfl rfl (Nat.le_of_ble_eq_true rfl) d_R_plainBlock_27 eM6 rfl (fun H locs w => ?_)
        refine lv_aload_n hx hb d_R_plainBlock_30 rfl (lv_at hl 0 rfl) ?_
        refine U_get C0 w 0 (by decide) rfl rfl inR 3 (by decide) wd_831 rfl d_R_plainBlock_31 ?_
        refine lv_iload_n hx hb d_R_plainBlock_34 rfl (lv_at hl 2 rfl) ?_
        obtain ⟨hi7, h⟩ := if_ok h
        refine U_ald C0 w (iR_2 ct) hi7 d_R_plainBlock_35 ?_
        refine lv_bipush (v := 7) hx hb d_R_plainBlock_36 (by decide) ?_
        have hJ75 : ∀ (v1 v2 : Int32) (M : Sto) (H : Heap) (locs : List Loc) (ls : Array Slot), lv_has ls 3 [(0, .ref (q 0)), (1, .int v1), (2, .int v2)] → Wd D A s (wR ct q M) H locs → j_R_plainBlock_75 (l_R_plainBlock_5 K5 n) K5 v1 v2 M = some (rz, Mz) → W p l e rm_R_plainBlock s m args below meth c H locs 0 0 Q (F0 m 75 ls []) := by
          intro v1 v2 M H locs ls hl w h
          unfold j_R_plainBlock_75 at h
          refine lv_iinc (k := 2) (v := v2 + 1) hx hb d_R_plainBlock_75 hl rfl (inc1 _) (by decide) rfl (fun ls hl => ?_)
          have hl : lv_has ls 3 [(2, .int (v2 + 1)), (0, .ref (q 0)), (1, .int v1)] := hl
          refine lv_goto (tgt := 5) hx hb d_R_plainBlock_78 (by decide) ?_
          exact ih5 _ _ _ _ _ _ (lv_sub hl [1, 2, 0] rfl) w h
        refine lv_icmp_ne (tgt := 59) hx hb d_R_plainBlock_38 (by decide) (fun hc => ?_) (fun hc => ?_)
        · rw [if_neg hc] at h
          refine lv_aload_n hx hb d_R_plainBlock_59 rfl (lv_at hl 0 rfl) ?_
          refine U_get C0 w 0 (by decide) rfl rfl inR 39 (by decide) wd_867 rfl d_R_plainBlock_60 ?_
          refine lv_aload_n hx hb d_R_plainBlock_63 rfl (lv_at hl 0 rfl) ?_
          refine U_get C0 w 0 (by decide) rfl rfl inR 4 (by decide) wd_832 rfl d_R_plainBlock_64 ?_
          refine lv_iload_n hx hb d_R_plainBlock_67 rfl (lv_at hl 2 rfl) ?_
          obtain ⟨hi8, h⟩ := if_ok h
          refine U_ald C0 w (iR_3 ct) hi8 d_R_plainBlock_68 ?_
          refine lv_aload_n hx hb d_R_plainBlock_69 rfl (lv_at hl 0 rfl) ?_
          refine lv_iload_n hx hb d_R_plainBlock_70 rfl (lv_at hl 2 rfl) ?_
          obtain ⟨r9, M10, hc11, h⟩ := bind_ok h
          try dsimp only at h
          refine U_vi (rest := [.int (M6 3 v2.toNatClampNeg), .ref (q 29)]) C0 w 0 (wU_at (by decide)) rfl (c_R_plainValue l D ct q hc11) wd_1133 wd_1130 wd_1132 ws_59 wd_8 (n9 := 1) (by decide +kernel) rfl ⟨(Nat.le_of_ble_eq_true rfl), (Nat.le_of_ble_eq_true rfl)⟩ hl.1 rfl (Nat.le_of_ble_eq_true rfl) d_R_plainBlock_71 (Nat.le_of_ble_eq_true rfl) (Nat.le_of_ble_eq_true rfl) (fun H locs w => ?_)
          obtain ⟨hi12, h⟩ := if_ok h
          obtain ⟨M13, eM13, h⟩ := wr_ok h
          try dsimp only at h
          refine U_ast C0 (cR_l ct) w (iR_29 ct) hi12 d_R_plainBlock_74 eM13 (fun H locs w => ?_)
          exact hJ75 _ _ _ _ _ _ (lv_sub hl [0, 1, 2] rfl) w h
        · rw [if_pos hc] at h
          refine lv_aload_n hx hb d_R_plainBlock_41 rfl (lv_at hl 0 rfl) ?_
          refine lv_aload_n hx hb d_R_plainBlock_42 rfl (lv_at hl 0 rfl) ?_
          refine U_get C0 w 0 (by decide) rfl rfl inR 39 (by decide) wd_867 rfl d_R_plainBlock_43 ?_
          refine lv_aload_n hx hb d_R_plainBlock_46 rfl (lv_at hl 0 rfl) ?_
          refine U_get C0 w 0 (by decide) rfl rfl inR 5 (by decide) wd_833 rfl d_R_plainBlock_47 ?_
          refine lv_iload_n hx hb d_R_plainBlock_50 rfl (lv_at hl 2 rfl) ?_
          obtain ⟨hi14, h⟩ := if_ok h
          refine U_ald C0 w (iR_4 ct) hi14 d_R_plainBlock_51 ?_
          obtain ⟨hi15, h⟩ := if_ok h
          refine U_ald C0 w (iR_29 ct) hi15 d_R_plainBlock_52 ?_
          obtain ⟨r16, M17, hc18, h⟩ := bind_ok h
          try dsimp only at h
          refine U_vv (rest := []) C0 w 0 (wU_at (by decide)) rfl (c_R_tell l D ct q hc18) wd_1129 wd_1126 wd_1128 ws_58 wd_8 (n9 := 1) (by decide +kernel) rfl ⟨(Nat.le_of_ble_eq_true rfl), (Nat.le_of_ble_eq_true rfl)⟩ hl.1 rfl (Nat.le_of_ble_eq_true rfl) d_R_plainBlock_53 (Nat.le_of_ble_eq_true rfl) (Nat.le_of_ble_eq_true rfl) (fun H locs w => ?_)
          refine lv_goto (tgt := 75) hx hb d_R_plainBlock_56 (by decide) ?_
          exact hJ75 _ _ _ _ _ _ (lv_sub hl [0, 1, 2] rfl) w h
  exact hL5 FU _ _ _ _ _ _ (lv_sub hl [1, 2, 0] rfl) w h
abbrev rm_R_value : Room := { frames := 0, cells := 0, slots := 0, locals := 0 }
set_option maxHeartbeats 8000000 in
set_option maxRecDepth 100000 in
theorem c_R_value (l : Launch) (D : va_G) (ct : Nat → ClassId) (q : Nat → Nat) {x1 : Int32} {M Mz : Sto} {rz : Int32} (h : m_R_value x1 M = some (rz, Mz)) : KI l D ct y_R_value b_R_value 2 (some .int) 0 0 [.ref (q 0), .int x1] (wR ct q M) rz (wR ct q Mz) := by
  refine KI.ofU (by decide) (Nat.le_of_ble_eq_true rfl) rfl ?_
  intro p e s m args below meth c A Q ls C0 hl w hret
  have hx := C0.1
  have hb := C0.2.1
  have hl : lv_has ls 2 [(0, .ref (q 0)), (1, .int x1)] := hl
  unfold m_R_value at h
  refine lv_aload_n hx hb d_R_value_0 rfl (lv_at hl 0 rfl) ?_
  refine U_get C0 w 0 (by decide) rfl rfl inR 29 (by decide) wd_857 rfl d_R_value_1 ?_
  refine lv_iload_n hx hb d_R_value_4 rfl (lv_at hl 1 rfl) ?_
  obtain ⟨hi1, h⟩ := if_ok h
  refine U_ald C0 w (iR_24 ct) hi1 d_R_value_5 ?_
  refine lv_iconst (v := 1) hx hb d_R_value_6 (by decide) ?_
  have hJ25 : ∀ (s0 : Int32) (M : Sto) (H : Heap) (locs : List Loc) (ls : Array Slot), lv_has ls 2 [] → Wd D A s (wR ct q M) H locs → j_R_value_25 s0 M = some (rz, Mz) → W p l e rm_R_value s m args below meth c H locs 0 0 Q (F0 m 25 ls [.int s0]) := by
    intro s0 M H locs ls hl w h
    unfold j_R_value_25 at h
    cases h
    exact hret _ _ _ _ d_R_value_25 rfl w
  refine lv_icmp_ne (tgt := 19) hx hb d_R_value_7 (by decide) (fun hc => ?_) (fun hc => ?_)
  · rw [if_neg hc] at h
    refine lv_aload_n hx hb d_R_value_19 rfl (lv_at hl 0 rfl) ?_
    refine U_get C0 w 0 (by decide) rfl rfl inR 39 (by decide) wd_867 rfl d_R_value_20 ?_
    refine lv_iload_n hx hb d_R_value_23 rfl (lv_at hl 1 rfl) ?_
    obtain ⟨hi2, h⟩ := if_ok h
    refine U_ald C0 w (iR_29 ct) hi2 d_R_value_24 ?_
    exact hJ25 _ _ _ _ _ (lv_sub hl [] rfl) w h
  · rw [if_pos hc] at h
    refine lv_aload_n hx hb d_R_value_10 rfl (lv_at hl 0 rfl) ?_
    refine U_get C0 w 0 (by decide) rfl rfl inR 30 (by decide) wd_858 rfl d_R_value_11 ?_
    refine lv_iload_n hx hb d_R_value_14 rfl (lv_at hl 1 rfl) ?_
    obtain ⟨hi3, h⟩ := if_ok h
    refine U_ald C0 w (iR_25 ct) hi3 d_R_value_15 ?_
    refine lv_goto (tgt := 25) hx hb d_R_value_16 (by decide) ?_
    exact hJ25 _ _ _ _ _ (lv_sub hl [] rfl) w h
end
section
abbrev rm_R_formedBlock : Room := { frames := 1, cells := 0, slots := 0, locals := 23 }
set_option maxHeartbeats 8000000 in
set_option maxRecDepth 100000 in
theorem c_R_formedBlock (l : Launch) (D : va_G) (ct : Nat → ClassId) (q : Nat → Nat) {x1 x2 : Int32} {M Mz : Sto} {rz : Int32} (h : m_R_formedBlock x1 x2 M = some (rz, Mz)) : KV l D ct y_R_formedBlock b_R_formedBlock 7 1 23 0 0 [.ref (q 0), .int x1, .int x2] (wR ct q M) (fun A t => CE D (wR ct q Mz) A t) := by
  refine KV.ofU (by decide) (Nat.le_of_ble_eq_true rfl) ?_
  intro p e s m args below meth c A Q ls C0 hl w hret
  have hx := C0.1
  have hb := C0.2.1
  have hl : lv_has ls 7 [(0, .ref (q 0)), (1, .int x1), (2, .int x2)] := hl
  unfold m_R_formedBlock at h
  refine lv_iconst (v := 0) hx hb d_R_formedBlock_0 (by decide) ?_
  refine lv_istore_n hx hb d_R_formedBlock_1 rfl hl (by decide) rfl (fun ls hl => ?_)
  have hl : lv_has ls 7 [(3, .int 0), (0, .ref (q 0)), (1, .int x1), (2, .int x2)] := hl
  generalize eK2 : j_R_formedBlock_52 = K2 at h
  have hE2 : ∀ (v1 : Int32) (M : Sto) (H : Heap) (locs : List Loc) (ls : Array Slot), lv_has ls 7 [(0, .ref (q 0)), (1, .int v1)] → Wd D A s (wR ct q M) H locs → K2 v1 M = some (rz, Mz) → W p l e rm_R_formedBlock s m args below meth c H locs 0 0 Q (F0 m 52 ls []) := by
    intro v1 M H locs ls hl w h
    rw [← eK2] at h
    unfold j_R_formedBlock_52 at h
    refine lv_iconst (v := 0) hx hb d_R_formedBlock_52 (by decide) ?_
    refine lv_istore_n hx hb d_R_formedBlock_53 rfl hl (by decide) rfl (fun ls hl => ?_)
    have hl : lv_has ls 7 [(3, .int 0), (0, .ref (q 0)), (1, .int v1)] := hl
    generalize eK54 : j_R_formedBlock_101 = K54 at h
    have hE54 : ∀ (v1 : Int32) (M : Sto) (H : Heap) (locs : List Loc) (ls : Array Slot), lv_has ls 7 [(0, .ref (q 0)), (1, .int v1)] → Wd D A s (wR ct q M) H locs → K54 v1 M = some (rz, Mz) → W p l e rm_R_formedBlock s m args below meth c H locs 0 0 Q (F0 m 101 ls []) := by
      intro v1 M H locs ls hl w h
      rw [← eK54] at h
      unfold j_R_formedBlock_101 at h
      refine lv_bipush (v := 6) hx hb d_R_formedBlock_101 (by decide) ?_
      refine lv_iload_n hx hb d_R_formedBlock_103 rfl (lv_at hl 1 rfl) ?_
      refine lv_imul hx hb d_R_formedBlock_104 ?_
      refine lv_istore_n hx hb d_R_formedBlock_105 rfl hl (by decide) rfl (fun ls hl => ?_)
      have hl : lv_has ls 7 [(3, .int (6 * v1)), (0, .ref (q 0)), (1, .int v1)] := hl
      generalize eK106 : j_R_formedBlock_287 = K106 at h
      have hE106 : ∀ (M : Sto) (H : Heap) (locs : List Loc) (ls : Array Slot), lv_has ls 7 [] → Wd D A s (wR ct q M) H locs → K106 M = some (rz, Mz) → W p l e rm_R_formedBlock s m args below meth c H locs 0 0 Q (F0 m 287 ls []) := by
        intro M H locs ls hl w h
        rw [← eK106] at h
        unfold j_R_formedBlock_287 at h
        cases h
        exact hret _ _ _ _ d_R_formedBlock_287 w
      have hL106 : ∀ (n : Nat) (v1 v3 : Int32) (M : Sto) (H : Heap) (locs : List Loc) (ls : Array Slot), lv_has ls 7 [(0, .ref (q 0)), (1, .int v1), (3, .int v3)] → Wd D A s (wR ct q M) H locs → l_R_formedBlock_106 K106 n v1 v3 M = some (rz, Mz) → W p l e rm_R_formedBlock s m args below meth c H locs 0 0 Q (F0 m 106 ls []) := by
        intro n
        induction n with
        | zero => intro v1 v3 M H locs ls hl w h; simp [l_R_formedBlock_106] at h
        | succ n ih106 =>
          intro v1 v3 M H locs ls hl w h
          unfold l_R_formedBlock_106 at h
          refine lv_iload_n hx hb d_R_formedBlock_106 rfl (lv_at hl 2 rfl) ?_
          refine lv_bipush (v := 6) hx hb d_R_formedBlock_107 (by decide) ?_
          refine lv_iload_n hx hb d_R_formedBlock_109 rfl (lv_at hl 1 rfl) ?_
          refine lv_imul hx hb d_R_formedBlock_110 ?_
          refine lv_aload_n hx hb d_R_formedBlock_111 rfl (lv_at hl 0 rfl) ?_
          refine U_get C0 w 0 (by decide) rfl rfl inR 2 (by decide) wd_830 rfl d_R_formedBlock_112 ?_
          refine lv_iload_n hx hb d_R_formedBlock_115 rfl (lv_at hl 1 rfl) ?_
          obtain ⟨hi15, h⟩ := if_ok h
          refine U_ald C0 w (iR_1 ct) hi15 d_R_formedBlock_116 ?_
          refine lv_iadd hx hb d_R_formedBlock_117 ?_
          refine lv_icmp_ge (tgt := 287) hx hb d_R_formedBlock_118 (by decide) (fun hc => ?_) (fun hc => ?_)
          · rw [if_pos hc] at h
            exact hE106 _ _ _ _ (lv_sub hl [] rfl) w h
          · rw [if_neg hc] at h
            refine lv_aload_n hx hb d_R_formedBlock_121 rfl (lv_at hl 0 rfl) ?_
            refine U_get C0 w 0 (by decide) rfl rfl inR 21 (by decide) wd_849 rfl d_R_formedBlock_122 ?_
            refine lv_iload_n hx hb d_R_formedBlock_125 rfl (lv_at hl 2 rfl) ?_
            obtain ⟨hi16, h⟩ := if_ok h
            refine U_ald C0 w (iR_17 ct) hi16 d_R_formedBlock_126 ?_
            refine lv_istore hx hb d_R_formedBlock_127 hl (by decide) rfl (fun ls hl => ?_)
            have hl : lv_has ls 7 [(4, .int (M 17 v3.toNatClampNeg)), (0, .ref (q 0)), (1, .int v1), (3, .int v3)] := hl
            refine lv_aload_n hx hb d_R_formedBlock_129 rfl (lv_at hl 1 rfl) ?_
            refine U_get C0 w 0 (by decide) rfl rfl inR 3 (by decide) wd_831 rfl d_R_formedBlock_130 ?_
            refine lv_iload_n hx hb d_R_formedBlock_133 rfl (lv_at hl 3 rfl) ?_
            obtain ⟨hi17, h⟩ := if_ok h
            refine U_ald C0 w (iR_2 ct) hi17 d_R_formedBlock_134 ?_
            refine lv_bipush (v := 7) hx hb d_R_formedBlock_135 (by decide) ?_
            have hJ281 : ∀ (v1 v3 : Int32) (M : Sto) (H : Heap) (locs : List Loc) (ls : Array Slot), lv_has ls 7 [(0, .ref (q 0)), (1, .int v1), (3, .int v3)] → Wd D A s (wR ct q M) H locs → j_R_formedBlock_281 (l_R_formedBlock_106 K106 n) K106 v1 v3 M = some (rz, Mz) → W p l e rm_R_formedBlock s m args below meth c H locs 0 0 Q (F0 m 281 ls []) := by
              intro v1 v3 M H locs ls hl w h
              unfold j_R_formedBlock_281 at h
              refine lv_iinc (k := 2) (v := v3 + 1) hx hb d_R_formedBlock_281 hl rfl (inc1 _) (by decide) rfl (fun ls hl => ?_)
              have hl : lv_has ls 7 [(3, .int (v3 + 1)), (0, .ref (q 0)), (1, .int v1)] := hl
              refine lv_goto (tgt := 106) hx hb d_R_formedBlock_284 (by decide) ?_
              exact ih106 _ _ _ _ _ _ (lv_sub hl [1, 2, 0] rfl) w h
            refine lv_icmp_ne (tgt := 167) hx hb d_R_formedBlock_137 (by decide) (fun hc => ?_) (fun hc => ?_)
            · rw [if_neg hc] at h
              refine lv_aload_n hx hb d_R_formedBlock_167 rfl (lv_at hl 1 rfl) ?_
              refine U_get C0 w 0 (by decide) rfl rfl inR 31 (by decide) wd_859 rfl d_R_formedBlock_168 ?_
              refine lv_iload hx hb d_R_formedBlock_171 (lv_at hl 0 rfl) ?_
              obtain ⟨hi18, h⟩ := if_ok h
              refine U_zld C0 w (zR_26 ct) hi18 d_R_formedBlock_173 ?_
              refine lv_if_eq (tgt := 281) hx hb d_R_formedBlock_174 (by decide) (fun hc => ?_) (fun hc => ?_)
              · rw [if_pos hc] at h
                exact hJ281 _ _ _ _ _ _ (lv_sub hl [1, 2, 3] rfl) w h
              · rw [if_neg hc] at h
                refine lv_aload_n hx hb d_R_formedBlock_177 rfl (lv_at hl 1 rfl) ?_
                refine U_get C0 w 0 (by decide) rfl rfl inR 29 (by decide) wd_857 rfl d_R_formedBlock_178 ?_
                refine lv_iload hx hb d_R_formedBlock_181 (lv_at hl 0 rfl) ?_
                obtain ⟨hi19, h⟩ := if_ok h
                refine U_ald C0 w (iR_24 ct) hi19 d_R_formedBlock_183 ?_
                refine lv_iconst (v := 1) hx hb d_R_formedBlock_184 (by decide) ?_
                refine lv_icmp_eq (tgt := 281) hx hb d_R_formedBlock_185 (by decide) (fun hc => ?_) (fun hc => ?_)
                · rw [if_pos hc] at h
                  exact hJ281 _ _ _ _ _ _ (lv_sub hl [1, 2, 3] rfl) w h
                · rw [if_neg hc] at h
                  refine lv_aload_n hx hb d_R_formedBlock_188 rfl (lv_at hl 1 rfl) ?_
                  refine lv_dup hx hb d_R_formedBlock_189 rfl ?_
                  refine U_get C0 w 0 (by decide) rfl rfl inR 38 (by decide) wd_866 rfl d_R_formedBlock_190 ?_
                  refine lv_iconst (v := 1) hx hb d_R_formedBlock_193 (by decide) ?_
                  refine lv_iadd hx hb d_R_formedBlock_194 ?_
                  obtain ⟨M20, eM20, h⟩ := wr_ok h
                  try dsimp only at h
                  refine U_put C0 (cR_l ct) w 0 (by decide) rfl rfl inR tyR_ok nmR 38 (by decide) wd_866 rfl rfl rfl (Nat.le_of_ble_eq_true rfl) d_R_formedBlock_195 eM20 rfl (fun H locs w => ?_)
                  refine lv_aload_n hx hb d_R_formedBlock_198 rfl (lv_at hl 1 rfl) ?_
                  refine U_get C0 w 0 (by decide) rfl rfl inR 3 (by decide) wd_831 rfl d_R_formedBlock_199 ?_
                  refine lv_iload_n hx hb d_R_formedBlock_202 rfl (lv_at hl 3 rfl) ?_
                  obtain ⟨hi21, h⟩ := if_ok h
                  refine U_ald C0 w (iR_2 ct) hi21 d_R_formedBlock_203 ?_
                  refine lv_istore hx hb d_R_formedBlock_204 hl (by decide) rfl (fun ls hl => ?_)
                  have hl : lv_has ls 7 [(5, .int (M20 2 v3.toNatClampNeg)), (4, .int (M 17 v3.toNatClampNeg)), (0, .ref (q 0)), (1, .int v1), (3, .int v3)] := hl
                  refine lv_aload_n hx hb d_R_formedBlock_206 rfl (lv_at hl 2 rfl) ?_
                  refine U_get C0 w 0 (by decide) rfl rfl inR 22 (by decide) wd_850 rfl d_R_formedBlock_207 ?_
                  refine lv_iload_n hx hb d_R_formedBlock_210 rfl (lv_at hl 4 rfl) ?_
                  obtain ⟨hi22, h⟩ := if_ok h
                  refine U_ald C0 w (iR_18 ct) hi22 d_R_formedBlock_211 ?_
                  have hJ229 : ∀ (s0 v1 v3 v4 v5 : Int32) (M : Sto) (H : Heap) (locs : List Loc) (ls : Array Slot), lv_has ls 7 [(0, .ref (q 0)), (1, .int v1), (3, .int v3), (4, .int v4), (5, .int v5)] → Wd D A s (wR ct q M) H locs → j_R_formedBlock_229 (l_R_formedBlock_106 K106 n) K106 s0 v1 v3 v4 v5 M = some (rz, Mz) → W p l e rm_R_formedBlock s m args below meth c H locs 0 0 Q (F0 m 229 ls [.int s0]) := by
                    intro s0 v1 v3 v4 v5 M H locs ls hl w h
                    unfold j_R_formedBlock_229 at h
                    refine lv_istore hx hb d_R_formedBlock_229 hl (by decide) rfl (fun ls hl => ?_)
                    have hl : lv_has ls 7 [(6, .int s0), (0, .ref (q 0)), (1, .int v1), (3, .int v3), (4, .int v4), (5, .int v5)] := hl
                    refine lv_aload_n hx hb d_R_formedBlock_231 rfl (lv_at hl 1 rfl) ?_
                    refine U_get C0 w 0 (by decide) rfl rfl inR 39 (by decide) wd_867 rfl d_R_formedBlock_232 ?_
                    refine lv_iload hx hb d_R_formedBlock_235 (lv_at hl 4 rfl) ?_
                    refine lv_iload hx hb d_R_formedBlock_237 (lv_at hl 5 rfl) ?_
                    refine lv_bipush (v := 6) hx hb d_R_formedBlock_239 (by decide) ?_
                    have hJ280 : ∀ (s0 s1 v1 v3 : Int32) (M : Sto) (H : Heap) (locs : List Loc) (ls : Array Slot), lv_has ls 7 [(0, .ref (q 0)), (1, .int v1), (3, .int v3)] → Wd D A s (wR ct q M) H locs → j_R_formedBlock_280 (l_R_formedBlock_106 K106 n) K106 s0 s1 v1 v3 M = some (rz, Mz) → W p l e rm_R_formedBlock s m args below meth c H locs 0 0 Q (F0 m 280 ls [.int s0, .int s1, .ref (q 29)]) := by
                      intro s0 s1 v1 v3 M H locs ls hl w h
                      unfold j_R_formedBlock_280 at h
                      obtain ⟨hi23, h⟩ := if_ok h
                      obtain ⟨M24, eM24, h⟩ := wr_ok h
                      try dsimp only at h
                      refine U_ast C0 (cR_l ct) w (iR_29 ct) hi23 d_R_formedBlock_280 eM24 (fun H locs w => ?_)
                      exact hJ281 _ _ _ _ _ _ (lv_sub hl [0, 1, 2] rfl) w h
                    refine lv_icmp_ne (tgt := 251) hx hb d_R_formedBlock_241 (by decide) (fun hc => ?_) (fun hc => ?_)
                    · rw [if_neg hc] at h
                      refine lv_iload hx hb d_R_formedBlock_251 (lv_at hl 5 rfl) ?_
                      refine lv_iconst (v := 1) hx hb d_R_formedBlock_253 (by decide) ?_
                      refine lv_icmp_ne (tgt := 262) hx hb d_R_formedBlock_254 (by decide) (fun hc => ?_) (fun hc => ?_)
                      · rw [if_neg hc] at h
                        refine lv_aload_n hx hb d_R_formedBlock_262 rfl (lv_at hl 1 rfl) ?_
                        refine lv_iload hx hb d_R_formedBlock_263 (lv_at hl 5 rfl) ?_
                        refine lv_iload hx hb d_R_formedBlock_265 (lv_at hl 0 rfl) ?_
                        refine lv_aload_n hx hb d_R_formedBlock_267 rfl (lv_at hl 1 rfl) ?_
                        refine lv_aload_n hx hb d_R_formedBlock_268 rfl (lv_at hl 1 rfl) ?_
                        refine U_get C0 w 0 (by decide) rfl rfl inR 23 (by decide) wd_851 rfl d_R_formedBlock_269 ?_
                        refine lv_iload_n hx hb d_R_formedBlock_272 rfl (lv_at hl 3 rfl) ?_
                        obtain ⟨hi25, h⟩ := if_ok h
                        refine U_ald C0 w (iR_19 ct) hi25 d_R_formedBlock_273 ?_
                        obtain ⟨r26, M27, hc28, h⟩ := bind_ok h
                        try dsimp only at h
                        refine U_vi (rest := [.int s0, .int v5, .ref (q 0), .int v4, .ref (q 29)]) C0 w 0 (wU_at (by decide)) rfl (c_R_value l D ct q hc28) wd_1145 wd_1142 wd_1144 ws_62 wd_8 (n9 := 1) (by decide +kernel) rfl ⟨(Nat.le_of_ble_eq_true rfl), (Nat.le_of_ble_eq_true rfl)⟩ hl.1 rfl (Nat.le_of_ble_eq_true rfl) d_R_formedBlock_274 (Nat.le_of_ble_eq_true rfl) (Nat.le_of_ble_eq_true rfl) (fun H locs w => ?_)
                        obtain ⟨r29, M30, hc31, h⟩ := bind_ok h
                        try dsimp only at h
                        refine U_vi (rest := [.int v4, .ref (q 29)]) C0 w 0 (wU_at (by decide)) rfl (c_R_reckon l D ct q hc31) wd_1073 wd_1070 wd_1072 ws_51 wd_8 (n9 := 3) (by decide +kernel) rfl ⟨(Nat.le_of_ble_eq_true rfl), (Nat.le_of_ble_eq_true rfl)⟩ hl.1 rfl (Nat.le_of_ble_eq_true rfl) d_R_formedBlock_277 (Nat.le_of_ble_eq_true rfl) (Nat.le_of_ble_eq_true rfl) (fun H locs w => ?_)
                        exact hJ280 _ _ _ _ _ _ _ _ (lv_sub hl [1, 2, 3] rfl) w h
                      · rw [if_pos hc] at h
                        refine lv_iload hx hb d_R_formedBlock_257 (lv_at hl 0 rfl) ?_
                        refine lv_goto (tgt := 280) hx hb d_R_formedBlock_259 (by decide) ?_
                        exact hJ280 _ _ _ _ _ _ _ _ (lv_sub hl [1, 2, 3] rfl) w h
                    · rw [if_pos hc] at h
                      refine lv_aload_n hx hb d_R_formedBlock_244 rfl (lv_at hl 1 rfl) ?_
                      obtain ⟨r32, M33, hc34, h⟩ := bind_ok h
                      try dsimp only at h
                      refine U_vi (rest := [.int v4, .ref (q 29)]) C0 w 0 (wU_at (by decide)) rfl (c_R_ask l D ct q hc34) wd_1137 wd_1134 wd_1136 ws_60 wd_8 (n9 := 0) (by decide +kernel) rfl ⟨(Nat.le_of_ble_eq_true rfl), (Nat.le_of_ble_eq_true rfl)⟩ hl.1 rfl (Nat.le_of_ble_eq_true rfl) d_R_formedBlock_245 (Nat.le_of_ble_eq_true rfl) (Nat.le_of_ble_eq_true rfl) (fun H locs w => ?_)
                      refine lv_goto (tgt := 280) hx hb d_R_formedBlock_248 (by decide) ?_
                      exact hJ280 _ _ _ _ _ _ _ _ (lv_sub hl [1, 2, 3] rfl) w h
                  refine lv_if_ge (tgt := 219) hx hb d_R_formedBlock_212 (by decide) (fun hc => ?_) (fun hc => ?_)
                  · rw [if_pos hc] at h
                    refine lv_aload_n hx hb d_R_formedBlock_219 rfl (lv_at hl 2 rfl) ?_
                    refine lv_aload_n hx hb d_R_formedBlock_220 rfl (lv_at hl 2 rfl) ?_
                    refine U_get C0 w 0 (by decide) rfl rfl inR 22 (by decide) wd_850 rfl d_R_formedBlock_221 ?_
                    refine lv_iload_n hx hb d_R_formedBlock_224 rfl (lv_at hl 4 rfl) ?_
                    obtain ⟨hi35, h⟩ := if_ok h
                    refine U_ald C0 w (iR_18 ct) hi35 d_R_formedBlock_225 ?_
                    obtain ⟨r36, M37, hc38, h⟩ := bind_ok h
                    try dsimp only at h
                    refine U_vi (rest := []) C0 w 0 (wU_at (by decide)) rfl (c_R_value l D ct q hc38) wd_1145 wd_1142 wd_1144 ws_62 wd_8 (n9 := 1) (by decide +kernel) rfl ⟨(Nat.le_of_ble_eq_true rfl), (Nat.le_of_ble_eq_true rfl)⟩ hl.1 rfl (Nat.le_of_ble_eq_true rfl) d_R_formedBlock_226 (Nat.le_of_ble_eq_true rfl) (Nat.le_of_ble_eq_true rfl) (fun H locs w => ?_)
                    exact hJ229 _ _ _ _ _ _ _ _ _ (lv_sub hl [2, 3, 4, 1, 0] rfl) w h
                  · rw [if_neg hc] at h
                    refine lv_iconst (v := 0) hx hb d_R_formedBlock_215 (by decide) ?_
                    refine lv_goto (tgt := 229) hx hb d_R_formedBlock_216 (by decide) ?_
                    exact hJ229 _ _ _ _ _ _ _ _ _ (lv_sub hl [2, 3, 4, 1, 0] rfl) w h
            · rw [if_pos hc] at h
              refine lv_aload_n hx hb d_R_formedBlock_140 rfl (lv_at hl 1 rfl) ?_
              refine lv_dup hx hb d_R_formedBlock_141 rfl ?_
              refine U_get C0 w 0 (by decide) rfl rfl inR 38 (by decide) wd_866 rfl d_R_formedBlock_142 ?_
              refine lv_iconst (v := 1) hx hb d_R_formedBlock_145 (by decide) ?_
              refine lv_iadd hx hb d_R_formedBlock_146 ?_
              obtain ⟨M39, eM39, h⟩ := wr_ok h
              try dsimp only at h
              refine U_put C0 (cR_l ct) w 0 (by decide) rfl rfl inR tyR_ok nmR 38 (by decide) wd_866 rfl rfl rfl (Nat.le_of_ble_eq_true rfl) d_R_formedBlock_147 eM39 rfl (fun H locs w => ?_)
              refine lv_aload_n hx hb d_R_formedBlock_150 rfl (lv_at hl 1 rfl) ?_
              refine lv_aload_n hx hb d_R_formedBlock_151 rfl (lv_at hl 1 rfl) ?_
              refine lv_aload_n hx hb d_R_formedBlock_152 rfl (lv_at hl 1 rfl) ?_
              refine U_get C0 w 0 (by decide) rfl rfl inR 22 (by decide) wd_850 rfl d_R_formedBlock_153 ?_
              refine lv_iload_n hx hb d_R_formedBlock_156 rfl (lv_at hl 3 rfl) ?_
              obtain ⟨hi40, h⟩ := if_ok h
              refine U_ald C0 w (iR_18 ct) hi40 d_R_formedBlock_157 ?_
              obtain ⟨r41, M42, hc43, h⟩ := bind_ok h
              try dsimp only at h
              refine U_vi (rest := [.ref (q 0)]) C0 w 0 (wU_at (by decide)) rfl (c_R_value l D ct q hc43) wd_1145 wd_1142 wd_1144 ws_62 wd_8 (n9 := 1) (by decide +kernel) rfl ⟨(Nat.le_of_ble_eq_true rfl), (Nat.le_of_ble_eq_true rfl)⟩ hl.1 rfl (Nat.le_of_ble_eq_true rfl) d_R_formedBlock_158 (Nat.le_of_ble_eq_true rfl) (Nat.le_of_ble_eq_true rfl) (fun H locs w => ?_)
              obtain ⟨r44, M45, hc46, h⟩ := bind_ok h
              try dsimp only at h
              refine U_vv (rest := []) C0 w 0 (wU_at (by decide)) rfl (c_R_tell l D ct q hc46) wd_1129 wd_1126 wd_1128 ws_58 wd_8 (n9 := 1) (by decide +kernel) rfl ⟨(Nat.le_of_ble_eq_true rfl), (Nat.le_of_ble_eq_true rfl)⟩ hl.1 rfl (Nat.le_of_ble_eq_true rfl) d_R_formedBlock_161 (Nat.le_of_ble_eq_true rfl) (Nat.le_of_ble_eq_true rfl) (fun H locs w => ?_)
              refine lv_goto (tgt := 281) hx hb d_R_formedBlock_164 (by decide) ?_
              exact hJ281 _ _ _ _ _ _ (lv_sub hl [1, 2, 3] rfl) w h
      exact hL106 FU _ _ _ _ _ _ (lv_sub hl [1, 2, 0] rfl) w h
    have hL54 : ∀ (n : Nat) (v1 v3 : Int32) (M : Sto) (H : Heap) (locs : List Loc) (ls : Array Slot), lv_has ls 7 [(0, .ref (q 0)), (1, .int v1), (3, .int v3)] → Wd D A s (wR ct q M) H locs → l_R_formedBlock_54 K54 n v1 v3 M = some (rz, Mz) → W p l e rm_R_formedBlock s m args below meth c H locs 0 0 Q (F0 m 54 ls []) := by
      intro n
      induction n with
      | zero => intro v1 v3 M H locs ls hl w h; simp [l_R_formedBlock_54] at h
      | succ n ih54 =>
        intro v1 v3 M H locs ls hl w h
        unfold l_R_formedBlock_54 at h
        refine lv_iload_n hx hb d_R_formedBlock_54 rfl (lv_at hl 2 rfl) ?_
        refine lv_bipush (v := 6) hx hb d_R_formedBlock_55 (by decide) ?_
        refine lv_icmp_ge (tgt := 101) hx hb d_R_formedBlock_57 (by decide) (fun hc => ?_) (fun hc => ?_)
        · rw [if_pos hc] at h
          exact hE54 _ _ _ _ _ (lv_sub hl [0, 1] rfl) w h
        · rw [if_neg hc] at h
          refine lv_aload_n hx hb d_R_formedBlock_60 rfl (lv_at hl 0 rfl) ?_
          refine U_get C0 w 0 (by decide) rfl rfl inR 16 (by decide) wd_844 rfl d_R_formedBlock_61 ?_
          refine lv_iload_n hx hb d_R_formedBlock_64 rfl (lv_at hl 1 rfl) ?_
          obtain ⟨hi47, h⟩ := if_ok h
          refine U_ald C0 w (iR_13 ct) hi47 d_R_formedBlock_65 ?_
          refine lv_iload_n hx hb d_R_formedBlock_66 rfl (lv_at hl 2 rfl) ?_
          obtain ⟨r48, M49, hc50, h⟩ := bind_ok h
          try dsimp only at h
          refine U_si (rest := []) C0 w (c_R_has l D ct q hc50) wd_1014 wd_1012 wd_1013 wd_8 (n9 := 2) (by decide +kernel) rfl ⟨(Nat.le_of_ble_eq_true rfl), (Nat.le_of_ble_eq_true rfl)⟩ hl.1 rfl (Nat.le_of_ble_eq_true rfl) d_R_formedBlock_67 (Nat.le_of_ble_eq_true rfl) (Nat.le_of_ble_eq_true rfl) (fun H locs w => ?_)
          have hJ95 : ∀ (v1 v3 : Int32) (M : Sto) (H : Heap) (locs : List Loc) (ls : Array Slot), lv_has ls 7 [(0, .ref (q 0)), (1, .int v1), (3, .int v3)] → Wd D A s (wR ct q M) H locs → j_R_formedBlock_95 (l_R_formedBlock_54 K54 n) K54 v1 v3 M = some (rz, Mz) → W p l e rm_R_formedBlock s m args below meth c H locs 0 0 Q (F0 m 95 ls []) := by
            intro v1 v3 M H locs ls hl w h
            unfold j_R_formedBlock_95 at h
            refine lv_iinc (k := 2) (v := v3 + 1) hx hb d_R_formedBlock_95 hl rfl (inc1 _) (by decide) rfl (fun ls hl => ?_)
            have hl : lv_has ls 7 [(3, .int (v3 + 1)), (0, .ref (q 0)), (1, .int v1)] := hl
            refine lv_goto (tgt := 54) hx hb d_R_formedBlock_98 (by decide) ?_
            exact ih54 _ _ _ _ _ _ (lv_sub hl [1, 2, 0] rfl) w h
          refine lv_if_eq (tgt := 95) hx hb d_R_formedBlock_70 (by decide) (fun hc => ?_) (fun hc => ?_)
          · rw [if_pos hc] at h
            exact hJ95 _ _ _ _ _ _ (lv_sub hl [0, 1, 2] rfl) w h
          · rw [if_neg hc] at h
            refine lv_aload_n hx hb d_R_formedBlock_73 rfl (lv_at hl 0 rfl) ?_
            refine U_get C0 w 0 (by decide) rfl rfl inR 39 (by decide) wd_867 rfl d_R_formedBlock_74 ?_
            refine lv_aload_n hx hb d_R_formedBlock_77 rfl (lv_at hl 0 rfl) ?_
            refine U_get C0 w 0 (by decide) rfl rfl inR 20 (by decide) wd_848 rfl d_R_formedBlock_78 ?_
            refine lv_bipush (v := 6) hx hb d_R_formedBlock_81 (by decide) ?_
            refine lv_iload_n hx hb d_R_formedBlock_83 rfl (lv_at hl 1 rfl) ?_
            refine lv_imul hx hb d_R_formedBlock_84 ?_
            refine lv_iload_n hx hb d_R_formedBlock_85 rfl (lv_at hl 2 rfl) ?_
            refine lv_iadd hx hb d_R_formedBlock_86 ?_
            obtain ⟨hi51, h⟩ := if_ok h
            refine U_ald C0 w (iR_16 ct) hi51 d_R_formedBlock_87 ?_
            refine lv_aload_n hx hb d_R_formedBlock_88 rfl (lv_at hl 0 rfl) ?_
            refine U_get C0 w 0 (by decide) rfl rfl inR 40 (by decide) wd_868 rfl d_R_formedBlock_89 ?_
            refine lv_iload_n hx hb d_R_formedBlock_92 rfl (lv_at hl 2 rfl) ?_
            obtain ⟨hi52, h⟩ := if_ok h
            refine U_ald C0 w (iR_30 ct) hi52 d_R_formedBlock_93 ?_
            obtain ⟨hi53, h⟩ := if_ok h
            obtain ⟨M54, eM54, h⟩ := wr_ok h
            try dsimp only at h
            refine U_ast C0 (cR_l ct) w (iR_29 ct) hi53 d_R_formedBlock_94 eM54 (fun H locs w => ?_)
            exact hJ95 _ _ _ _ _ _ (lv_sub hl [0, 1, 2] rfl) w h
    exact hL54 FU _ _ _ _ _ _ (lv_sub hl [1, 2, 0] rfl) w h
  have hL2 : ∀ (n : Nat) (v1 v2 v3 : Int32) (M : Sto) (H : Heap) (locs : List Loc) (ls : Array Slot), lv_has ls 7 [(0, .ref (q 0)), (1, .int v1), (2, .int v2), (3, .int v3)] → Wd D A s (wR ct q M) H locs → l_R_formedBlock_2 K2 n v1 v2 v3 M = some (rz, Mz) → W p l e rm_R_formedBlock s m args below meth c H locs 0 0 Q (F0 m 2 ls []) := by
    intro n
    induction n with
    | zero => intro v1 v2 v3 M H locs ls hl w h; simp [l_R_formedBlock_2] at h
    | succ n ih2 =>
      intro v1 v2 v3 M H locs ls hl w h
      unfold l_R_formedBlock_2 at h
      refine lv_iload_n hx hb d_R_formedBlock_2 rfl (lv_at hl 3 rfl) ?_
      refine lv_bipush (v := 6) hx hb d_R_formedBlock_3 (by decide) ?_
      refine lv_icmp_ge (tgt := 52) hx hb d_R_formedBlock_5 (by decide) (fun hc => ?_) (fun hc => ?_)
      · rw [if_pos hc] at h
        exact hE2 _ _ _ _ _ (lv_sub hl [0, 1] rfl) w h
      · rw [if_neg hc] at h
        refine lv_aload_n hx hb d_R_formedBlock_8 rfl (lv_at hl 0 rfl) ?_
        refine U_get C0 w 0 (by decide) rfl rfl inR 40 (by decide) wd_868 rfl d_R_formedBlock_9 ?_
        refine lv_iload_n hx hb d_R_formedBlock_12 rfl (lv_at hl 3 rfl) ?_
        refine lv_aload_n hx hb d_R_formedBlock_13 rfl (lv_at hl 0 rfl) ?_
        refine U_get C0 w 0 (by decide) rfl rfl inR 16 (by decide) wd_844 rfl d_R_formedBlock_14 ?_
        refine lv_iload_n hx hb d_R_formedBlock_17 rfl (lv_at hl 1 rfl) ?_
        obtain ⟨hi55, h⟩ := if_ok h
        refine U_ald C0 w (iR_13 ct) hi55 d_R_formedBlock_18 ?_
        refine lv_iload_n hx hb d_R_formedBlock_19 rfl (lv_at hl 3 rfl) ?_
        obtain ⟨r56, M57, hc58, h⟩ := bind_ok h
        try dsimp only at h
        refine U_si (rest := [.int v3, .ref (q 30)]) C0 w (c_R_has l D ct q hc58) wd_1014 wd_1012 wd_1013 wd_8 (n9 := 2) (by decide +kernel) rfl ⟨(Nat.le_of_ble_eq_true rfl), (Nat.le_of_ble_eq_true rfl)⟩ hl.1 rfl (Nat.le_of_ble_eq_true rfl) d_R_formedBlock_20 (Nat.le_of_ble_eq_true rfl) (Nat.le_of_ble_eq_true rfl) (fun H locs w => ?_)
        have hJ45 : ∀ (s0 s1 v1 v2 v3 : Int32) (M : Sto) (H : Heap) (locs : List Loc) (ls : Array Slot), lv_has ls 7 [(0, .ref (q 0)), (1, .int v1), (2, .int v2), (3, .int v3)] → Wd D A s (wR ct q M) H locs → j_R_formedBlock_45 (l_R_formedBlock_2 K2 n) K2 s0 s1 v1 v2 v3 M = some (rz, Mz) → W p l e rm_R_formedBlock s m args below meth c H locs 0 0 Q (F0 m 45 ls [.int s0, .int s1, .ref (q 30)]) := by
          intro s0 s1 v1 v2 v3 M H locs ls hl w h
          unfold j_R_formedBlock_45 at h
          obtain ⟨hi59, h⟩ := if_ok h
          obtain ⟨M60, eM60, h⟩ := wr_ok h
          try dsimp only at h
          refine U_ast C0 (cR_l ct) w (iR_30 ct) hi59 d_R_formedBlock_45 eM60 (fun H locs w => ?_)
          refine lv_iinc (k := 3) (v := v3 + 1) hx hb d_R_formedBlock_46 hl rfl (inc1 _) (by decide) rfl (fun ls hl => ?_)
          have hl : lv_has ls 7 [(3, .int (v3 + 1)), (0, .ref (q 0)), (1, .int v1), (2, .int v2)] := hl
          refine lv_goto (tgt := 2) hx hb d_R_formedBlock_49 (by decide) ?_
          exact ih2 _ _ _ _ _ _ _ (lv_sub hl [1, 2, 3, 0] rfl) w h
        refine lv_if_eq (tgt := 44) hx hb d_R_formedBlock_23 (by decide) (fun hc => ?_) (fun hc => ?_)
        · rw [if_pos hc] at h
          refine lv_iconst (v := 0) hx hb d_R_formedBlock_44 (by decide) ?_
          exact hJ45 _ _ _ _ _ _ _ _ _ (lv_sub hl [0, 1, 2, 3] rfl) w h
        · rw [if_neg hc] at h
          refine lv_aload_n hx hb d_R_formedBlock_26 rfl (lv_at hl 0 rfl) ?_
          refine lv_aload_n hx hb d_R_formedBlock_27 rfl (lv_at hl 0 rfl) ?_
          refine U_get C0 w 0 (by decide) rfl rfl inR 25 (by decide) wd_853 rfl d_R_formedBlock_28 ?_
          refine lv_bipush (v := 6) hx hb d_R_formedBlock_31 (by decide) ?_
          refine lv_iload_n hx hb d_R_formedBlock_33 rfl (lv_at hl 2 rfl) ?_
          refine lv_imul hx hb d_R_formedBlock_34 ?_
          refine lv_iload_n hx hb d_R_formedBlock_35 rfl (lv_at hl 3 rfl) ?_
          refine lv_iadd hx hb d_R_formedBlock_36 ?_
          obtain ⟨hi61, h⟩ := if_ok h
          refine U_ald C0 w (iR_21 ct) hi61 d_R_formedBlock_37 ?_
          obtain ⟨r62, M63, hc64, h⟩ := bind_ok h
          try dsimp only at h
          refine U_vi (rest := [.int v3, .ref (q 30)]) C0 w 0 (wU_at (by decide)) rfl (c_R_value l D ct q hc64) wd_1145 wd_1142 wd_1144 ws_62 wd_8 (n9 := 1) (by decide +kernel) rfl ⟨(Nat.le_of_ble_eq_true rfl), (Nat.le_of_ble_eq_true rfl)⟩ hl.1 rfl (Nat.le_of_ble_eq_true rfl) d_R_formedBlock_38 (Nat.le_of_ble_eq_true rfl) (Nat.le_of_ble_eq_true rfl) (fun H locs w => ?_)
          refine lv_goto (tgt := 45) hx hb d_R_formedBlock_41 (by decide) ?_
          exact hJ45 _ _ _ _ _ _ _ _ _ (lv_sub hl [0, 1, 2, 3] rfl) w h
  exact hL2 FU _ _ _ _ _ _ _ (lv_sub hl [1, 2, 3, 0] rfl) w h
abbrev rm_R_behind : Room := { frames := 1, cells := 0, slots := 0, locals := 21 }
set_option maxHeartbeats 8000000 in
set_option maxRecDepth 100000 in
theorem c_R_behind (l : Launch) (D : va_G) (ct : Nat → ClassId) (q : Nat → Nat) {x1 x2 : Int32} {M Mz : Sto} {rz : Int32} (h : m_R_behind x1 x2 M = some (rz, Mz)) : KI l D ct y_R_behind b_R_behind 4 (some .int) 1 21 [.ref (q 0), .int x1, .int x2] (wR ct q M) rz (wR ct q Mz) := by
  refine KI.ofU (by decide) (Nat.le_of_ble_eq_true rfl) rfl ?_
  intro p e s m args below meth c A Q ls C0 hl w hret
  have hx := C0.1
  have hb := C0.2.1
  have hl : lv_has ls 4 [(0, .ref (q 0)), (1, .int x1), (2, .int x2)] := hl
  unfold m_R_behind at h
  refine lv_aload_n hx hb d_R_behind_0 rfl (lv_at hl 0 rfl) ?_
  refine U_get C0 w 0 (by decide) rfl rfl inR 7 (by decide) wd_835 rfl d_R_behind_1 ?_
  refine lv_iload_n hx hb d_R_behind_4 rfl (lv_at hl 1 rfl) ?_
  obtain ⟨hi2, h⟩ := if_ok h
  refine U_ald C0 w (iR_6 ct) hi2 d_R_behind_5 ?_
  refine lv_if_ne (tgt := 11) hx hb d_R_behind_6 (by decide) (fun hc => ?_) (fun hc => ?_)
  · rw [if_neg hc] at h
    refine lv_aload_n hx hb d_R_behind_11 rfl (lv_at hl 0 rfl) ?_
    refine U_get C0 w 0 (by decide) rfl rfl inR 7 (by decide) wd_835 rfl d_R_behind_12 ?_
    refine lv_iload_n hx hb d_R_behind_15 rfl (lv_at hl 1 rfl) ?_
    obtain ⟨hi3, h⟩ := if_ok h
    refine U_ald C0 w (iR_6 ct) hi3 d_R_behind_16 ?_
    refine lv_iconst (v := 1) hx hb d_R_behind_17 (by decide) ?_
    refine lv_icmp_ne (tgt := 28) hx hb d_R_behind_18 (by decide) (fun hc => ?_) (fun hc => ?_)
    · rw [if_neg hc] at h
      refine lv_iload_n hx hb d_R_behind_28 rfl (lv_at hl 2 rfl) ?_
      have hJ56 : ∀ (s0 v1 : Int32) (M : Sto) (H : Heap) (locs : List Loc) (ls : Array Slot), lv_has ls 4 [(0, .ref (q 0)), (1, .int v1)] → Wd D A s (wR ct q M) H locs → j_R_behind_56 s0 v1 M = some (rz, Mz) → W p l e rm_R_behind s m args below meth c H locs 0 0 Q (F0 m 56 ls [.int s0]) := by
        intro s0 v1 M H locs ls hl w h
        unfold j_R_behind_56 at h
        refine lv_istore_n hx hb d_R_behind_56 rfl hl (by decide) rfl (fun ls hl => ?_)
        have hl : lv_has ls 4 [(3, .int s0), (0, .ref (q 0)), (1, .int v1)] := hl
        refine lv_iload_n hx hb d_R_behind_57 rfl (lv_at hl 0 rfl) ?_
        have hJ76 : ∀ (s0 : Int32) (M : Sto) (H : Heap) (locs : List Loc) (ls : Array Slot), lv_has ls 4 [] → Wd D A s (wR ct q M) H locs → j_R_behind_76 s0 M = some (rz, Mz) → W p l e rm_R_behind s m args below meth c H locs 0 0 Q (F0 m 76 ls [.int s0]) := by
          intro s0 M H locs ls hl w h
          unfold j_R_behind_76 at h
          cases h
          exact hret _ _ _ _ d_R_behind_76 rfl w
        refine lv_if_eq (tgt := 70) hx hb d_R_behind_58 (by decide) (fun hc => ?_) (fun hc => ?_)
        · rw [if_pos hc] at h
          refine lv_aload_n hx hb d_R_behind_70 rfl (lv_at hl 1 rfl) ?_
          refine U_get C0 w 0 (by decide) rfl rfl inR 10 (by decide) wd_838 rfl d_R_behind_71 ?_
          refine lv_iload_n hx hb d_R_behind_74 rfl (lv_at hl 2 rfl) ?_
          obtain ⟨hi4, h⟩ := if_ok h
          refine U_ald C0 w (iR_9 ct) hi4 d_R_behind_75 ?_
          exact hJ76 _ _ _ _ _ (lv_sub hl [] rfl) w h
        · rw [if_neg hc] at h
          refine lv_aload_n hx hb d_R_behind_61 rfl (lv_at hl 1 rfl) ?_
          refine U_get C0 w 0 (by decide) rfl rfl inR 9 (by decide) wd_837 rfl d_R_behind_62 ?_
          refine lv_iload_n hx hb d_R_behind_65 rfl (lv_at hl 2 rfl) ?_
          obtain ⟨hi5, h⟩ := if_ok h
          refine U_ald C0 w (iR_8 ct) hi5 d_R_behind_66 ?_
          refine lv_goto (tgt := 76) hx hb d_R_behind_67 (by decide) ?_
          exact hJ76 _ _ _ _ _ (lv_sub hl [] rfl) w h
      refine lv_if_eq (tgt := 46) hx hb d_R_behind_29 (by decide) (fun hc => ?_) (fun hc => ?_)
      · rw [if_pos hc] at h
        refine lv_aload_n hx hb d_R_behind_46 rfl (lv_at hl 0 rfl) ?_
        refine lv_aload_n hx hb d_R_behind_47 rfl (lv_at hl 0 rfl) ?_
        refine U_get C0 w 0 (by decide) rfl rfl inR 24 (by decide) wd_852 rfl d_R_behind_48 ?_
        refine lv_iload_n hx hb d_R_behind_51 rfl (lv_at hl 1 rfl) ?_
        obtain ⟨hi6, h⟩ := if_ok h
        refine U_ald C0 w (iR_20 ct) hi6 d_R_behind_52 ?_
        obtain ⟨r7, M8, hc9, h⟩ := bind_ok h
        try dsimp only at h
        refine U_vi (rest := []) C0 w 0 (wU_at (by decide)) rfl (c_R_value l D ct q hc9) wd_1145 wd_1142 wd_1144 ws_62 wd_8 (n9 := 1) (by decide +kernel) rfl ⟨(Nat.le_of_ble_eq_true rfl), (Nat.le_of_ble_eq_true rfl)⟩ hl.1 rfl (Nat.le_of_ble_eq_true rfl) d_R_behind_53 (Nat.le_of_ble_eq_true rfl) (Nat.le_of_ble_eq_true rfl) (fun H locs w => ?_)
        exact hJ56 _ _ _ _ _ _ (lv_sub hl [0, 1] rfl) w h
      · rw [if_neg hc] at h
        refine lv_aload_n hx hb d_R_behind_32 rfl (lv_at hl 0 rfl) ?_
        refine U_get C0 w 0 (by decide) rfl rfl inR 39 (by decide) wd_867 rfl d_R_behind_33 ?_
        refine lv_aload_n hx hb d_R_behind_36 rfl (lv_at hl 0 rfl) ?_
        refine U_get C0 w 0 (by decide) rfl rfl inR 8 (by decide) wd_836 rfl d_R_behind_37 ?_
        refine lv_iload_n hx hb d_R_behind_40 rfl (lv_at hl 1 rfl) ?_
        obtain ⟨hi10, h⟩ := if_ok h
        refine U_ald C0 w (iR_7 ct) hi10 d_R_behind_41 ?_
        obtain ⟨hi11, h⟩ := if_ok h
        refine U_ald C0 w (iR_29 ct) hi11 d_R_behind_42 ?_
        refine lv_goto (tgt := 56) hx hb d_R_behind_43 (by decide) ?_
        exact hJ56 _ _ _ _ _ _ (lv_sub hl [0, 1] rfl) w h
    · rw [if_pos hc] at h
      refine lv_aload_n hx hb d_R_behind_21 rfl (lv_at hl 0 rfl) ?_
      refine U_get C0 w 0 (by decide) rfl rfl inR 9 (by decide) wd_837 rfl d_R_behind_22 ?_
      refine lv_iload_n hx hb d_R_behind_25 rfl (lv_at hl 1 rfl) ?_
      obtain ⟨hi12, h⟩ := if_ok h
      refine U_ald C0 w (iR_8 ct) hi12 d_R_behind_26 ?_
      cases h
      exact hret _ _ _ _ d_R_behind_27 rfl w
  · rw [if_pos hc] at h
    refine lv_iconst (v := (-1)) hx hb d_R_behind_9 (by decide) ?_
    cases h
    exact hret _ _ _ _ d_R_behind_10 rfl w
abbrev rm_R_run : Room := { frames := 3, cells := 0, slots := 0, locals := 68 }
set_option maxHeartbeats 8000000 in
set_option maxRecDepth 100000 in
theorem c_R_run (l : Launch) (D : va_G) (ct : Nat → ClassId) (q : Nat → Nat) {x1 x2 : Int32} {M Mz : Sto} {rz : Int32} (h : m_R_run x1 x2 M = some (rz, Mz)) : KI l D ct y_R_run b_R_run 5 (some .int) 3 68 [.ref (q 0), .int x1, .int x2] (wR ct q M) rz (wR ct q Mz) := by
  refine KI.ofU (by decide) (Nat.le_of_ble_eq_true rfl) rfl ?_
  intro p e s m args below meth c A Q ls C0 hl w hret
  have hx := C0.1
  have hb := C0.2.1
  have hl : lv_has ls 5 [(0, .ref (q 0)), (1, .int x1), (2, .int x2)] := hl
  unfold m_R_run at h
  refine lv_aload_n hx hb d_R_run_0 rfl (lv_at hl 0 rfl) ?_
  refine lv_iload_n hx hb d_R_run_1 rfl (lv_at hl 2 rfl) ?_
  have hJ17 : ∀ (s0 v1 v2 : Int32) (M : Sto) (H : Heap) (locs : List Loc) (ls : Array Slot), lv_has ls 5 [(0, .ref (q 0)), (1, .int v1), (2, .int v2)] → Wd D A s (wR ct q M) H locs → j_R_run_17 s0 v1 v2 M = some (rz, Mz) → W p l e rm_R_run s m args below meth c H locs 0 0 Q (F0 m 17 ls [.int s0, .ref (q 0)]) := by
    intro s0 v1 v2 M H locs ls hl w h
    unfold j_R_run_17 at h
    refine lv_iconst (v := 1) hx hb d_R_run_17 (by decide) ?_
    obtain ⟨r12, M13, hc14, h⟩ := bind_ok h
    try dsimp only at h
    refine U_vi (rest := []) C0 w 0 (wU_at (by decide)) rfl (c_R_fails l D ct q hc14) wd_963 wd_960 wd_962 ws_34 wd_8 (n9 := 2) (by decide +kernel) rfl ⟨(Nat.le_of_ble_eq_true rfl), (Nat.le_of_ble_eq_true rfl)⟩ hl.1 rfl (Nat.le_of_ble_eq_true rfl) d_R_run_18 (Nat.le_of_ble_eq_true rfl) (Nat.le_of_ble_eq_true rfl) (fun H locs w => ?_)
    have hJ44 : ∀ (M : Sto) (H : Heap) (locs : List Loc) (ls : Array Slot), lv_has ls 5 [] → Wd D A s (wR ct q M) H locs → j_R_run_44 M = some (rz, Mz) → W p l e rm_R_run s m args below meth c H locs 0 0 Q (F0 m 44 ls []) := by
      intro M H locs ls hl w h
      unfold j_R_run_44 at h
      refine lv_iconst (v := 0) hx hb d_R_run_44 (by decide) ?_
      cases h
      exact hret _ _ _ _ d_R_run_45 rfl w
    refine lv_if_ne (tgt := 44) hx hb d_R_run_21 (by decide) (fun hc => ?_) (fun hc => ?_)
    · rw [if_neg hc] at h
      exact hJ44 _ _ _ _ (lv_sub hl [] rfl) w h
    · rw [if_pos hc] at h
      refine lv_aload_n hx hb d_R_run_24 rfl (lv_at hl 0 rfl) ?_
      refine lv_aload_n hx hb d_R_run_25 rfl (lv_at hl 0 rfl) ?_
      refine U_get C0 w 0 (by decide) rfl rfl inR 11 (by decide) wd_839 rfl d_R_run_26 ?_
      have hJ37 : ∀ (s0 v1 v2 : Int32) (M : Sto) (H : Heap) (locs : List Loc) (ls : Array Slot), lv_has ls 5 [(0, .ref (q 0)), (1, .int v1), (2, .int v2)] → Wd D A s (wR ct q M) H locs → j_R_run_37 s0 v1 v2 M = some (rz, Mz) → W p l e rm_R_run s m args below meth c H locs 0 0 Q (F0 m 37 ls [.int s0, .ref (q 0)]) := by
        intro s0 v1 v2 M H locs ls hl w h
        unfold j_R_run_37 at h
        refine lv_iconst (v := 2) hx hb d_R_run_37 (by decide) ?_
        obtain ⟨r15, M16, hc17, h⟩ := bind_ok h
        try dsimp only at h
        refine U_vi (rest := []) C0 w 0 (wU_at (by decide)) rfl (c_R_fails l D ct q hc17) wd_963 wd_960 wd_962 ws_34 wd_8 (n9 := 2) (by decide +kernel) rfl ⟨(Nat.le_of_ble_eq_true rfl), (Nat.le_of_ble_eq_true rfl)⟩ hl.1 rfl (Nat.le_of_ble_eq_true rfl) d_R_run_38 (Nat.le_of_ble_eq_true rfl) (Nat.le_of_ble_eq_true rfl) (fun H locs w => ?_)
        refine lv_if_eq (tgt := 46) hx hb d_R_run_41 (by decide) (fun hc => ?_) (fun hc => ?_)
        · rw [if_pos hc] at h
          refine lv_aload_n hx hb d_R_run_46 rfl (lv_at hl 0 rfl) ?_
          refine lv_iconst (v := 0) hx hb d_R_run_47 (by decide) ?_
          obtain ⟨M18, eM18, h⟩ := wr_ok h
          try dsimp only at h
          refine U_put C0 (cR_l ct) w 0 (by decide) rfl rfl inR tyR_ok nmR 35 (by decide) wd_863 rfl rfl rfl (Nat.le_of_ble_eq_true rfl) d_R_run_48 eM18 rfl (fun H locs w => ?_)
          refine lv_aload_n hx hb d_R_run_51 rfl (lv_at hl 0 rfl) ?_
          refine lv_iconst (v := 0) hx hb d_R_run_52 (by decide) ?_
          obtain ⟨M19, eM19, h⟩ := wr_ok h
          try dsimp only at h
          refine U_put C0 (cR_l ct) w 0 (by decide) rfl rfl inR tyR_ok nmR 37 (by decide) wd_865 rfl rfl rfl (Nat.le_of_ble_eq_true rfl) d_R_run_53 eM19 rfl (fun H locs w => ?_)
          refine lv_aload_n hx hb d_R_run_56 rfl (lv_at hl 0 rfl) ?_
          refine lv_iconst (v := 0) hx hb d_R_run_57 (by decide) ?_
          obtain ⟨M20, eM20, h⟩ := wr_ok h
          try dsimp only at h
          refine U_put C0 (cR_l ct) w 0 (by decide) rfl rfl inR tyR_ok nmR 38 (by decide) wd_866 rfl rfl rfl (Nat.le_of_ble_eq_true rfl) d_R_run_58 eM20 rfl (fun H locs w => ?_)
          refine lv_aload_n hx hb d_R_run_61 rfl (lv_at hl 0 rfl) ?_
          refine lv_iconst (v := 0) hx hb d_R_run_62 (by decide) ?_
          obtain ⟨M21, eM21, h⟩ := wr_ok h
          try dsimp only at h
          refine U_put C0 (cR_l ct) w 0 (by decide) rfl rfl inR tyR_ok nmR 34 (by decide) wd_862 rfl rfl rfl (Nat.le_of_ble_eq_true rfl) d_R_run_63 eM21 rfl (fun H locs w => ?_)
          refine lv_iconst (v := 0) hx hb d_R_run_66 (by decide) ?_
          refine lv_istore_n hx hb d_R_run_67 rfl hl (by decide) rfl (fun ls hl => ?_)
          have hl : lv_has ls 5 [(3, .int 0), (0, .ref (q 0)), (1, .int v1), (2, .int v2)] := hl
          generalize eK68 : j_R_run_88 = K68 at h
          have hE68 : ∀ (v1 v2 : Int32) (M : Sto) (H : Heap) (locs : List Loc) (ls : Array Slot), lv_has ls 5 [(0, .ref (q 0)), (1, .int v1), (2, .int v2)] → Wd D A s (wR ct q M) H locs → K68 v1 v2 M = some (rz, Mz) → W p l e rm_R_run s m args below meth c H locs 0 0 Q (F0 m 88 ls []) := by
            intro v1 v2 M H locs ls hl w h
            rw [← eK68] at h
            unfold j_R_run_88 at h
            refine lv_iconst (v := 0) hx hb d_R_run_88 (by decide) ?_
            refine lv_istore_n hx hb d_R_run_89 rfl hl (by decide) rfl (fun ls hl => ?_)
            have hl : lv_has ls 5 [(3, .int 0), (0, .ref (q 0)), (1, .int v1), (2, .int v2)] := hl
            refine lv_iconst (v := 0) hx hb d_R_run_90 (by decide) ?_
            refine lv_istore hx hb d_R_run_91 hl (by decide) rfl (fun ls hl => ?_)
            have hl : lv_has ls 5 [(4, .int 0), (3, .int 0), (0, .ref (q 0)), (1, .int v1), (2, .int v2)] := hl
            generalize eK93 : j_R_run_147 = K93 at h
            have hE93 : ∀ (v3 : Int32) (M : Sto) (H : Heap) (locs : List Loc) (ls : Array Slot), lv_has ls 5 [(3, .int v3)] → Wd D A s (wR ct q M) H locs → K93 v3 M = some (rz, Mz) → W p l e rm_R_run s m args below meth c H locs 0 0 Q (F0 m 147 ls []) := by
              intro v3 M H locs ls hl w h
              rw [← eK93] at h
              unfold j_R_run_147 at h
              refine lv_iload_n hx hb d_R_run_147 rfl (lv_at hl 0 rfl) ?_
              have hJ156 : ∀ (s0 : Int32) (M : Sto) (H : Heap) (locs : List Loc) (ls : Array Slot), lv_has ls 5 [] → Wd D A s (wR ct q M) H locs → j_R_run_156 s0 M = some (rz, Mz) → W p l e rm_R_run s m args below meth c H locs 0 0 Q (F0 m 156 ls [.int s0]) := by
                intro s0 M H locs ls hl w h
                unfold j_R_run_156 at h
                cases h
                exact hret _ _ _ _ d_R_run_156 rfl w
              refine lv_if_ge (tgt := 155) hx hb d_R_run_148 (by decide) (fun hc => ?_) (fun hc => ?_)
              · rw [if_pos hc] at h
                refine lv_iconst (v := 1) hx hb d_R_run_155 (by decide) ?_
                exact hJ156 _ _ _ _ _ (lv_sub hl [] rfl) w h
              · rw [if_neg hc] at h
                refine lv_iconst (v := 0) hx hb d_R_run_151 (by decide) ?_
                refine lv_goto (tgt := 156) hx hb d_R_run_152 (by decide) ?_
                exact hJ156 _ _ _ _ _ (lv_sub hl [] rfl) w h
            have hL93 : ∀ (n : Nat) (v1 v2 v3 v4 : Int32) (M : Sto) (H : Heap) (locs : List Loc) (ls : Array Slot), lv_has ls 5 [(0, .ref (q 0)), (1, .int v1), (2, .int v2), (3, .int v3), (4, .int v4)] → Wd D A s (wR ct q M) H locs → l_R_run_93 K93 n v1 v2 v3 v4 M = some (rz, Mz) → W p l e rm_R_run s m args below meth c H locs 0 0 Q (F0 m 93 ls []) := by
              intro n
              induction n with
              | zero => intro v1 v2 v3 v4 M H locs ls hl w h; simp [l_R_run_93] at h
              | succ n ih93 =>
                intro v1 v2 v3 v4 M H locs ls hl w h
                unfold l_R_run_93 at h
                refine lv_iload_n hx hb d_R_run_93 rfl (lv_at hl 3 rfl) ?_
                refine lv_if_lt (tgt := 147) hx hb d_R_run_94 (by decide) (fun hc => ?_) (fun hc => ?_)
                · rw [if_pos hc] at h
                  exact hE93 _ _ _ _ _ (lv_sub hl [3] rfl) w h
                · rw [if_neg hc] at h
                  refine lv_aload_n hx hb d_R_run_97 rfl (lv_at hl 0 rfl) ?_
                  refine U_get C0 w 0 (by decide) rfl rfl inR 37 (by decide) wd_865 rfl d_R_run_98 ?_
                  refine lv_iload_n hx hb d_R_run_101 rfl (lv_at hl 2 rfl) ?_
                  refine lv_icmp_ge (tgt := 147) hx hb d_R_run_102 (by decide) (fun hc => ?_) (fun hc => ?_)
                  · rw [if_pos hc] at h
                    exact hE93 _ _ _ _ _ (lv_sub hl [3] rfl) w h
                  · rw [if_neg hc] at h
                    refine lv_aload_n hx hb d_R_run_105 rfl (lv_at hl 0 rfl) ?_
                    refine lv_dup hx hb d_R_run_106 rfl ?_
                    refine U_get C0 w 0 (by decide) rfl rfl inR 37 (by decide) wd_865 rfl d_R_run_107 ?_
                    refine lv_iconst (v := 1) hx hb d_R_run_110 (by decide) ?_
                    refine lv_iadd hx hb d_R_run_111 ?_
                    obtain ⟨M22, eM22, h⟩ := wr_ok h
                    try dsimp only at h
                    refine U_put C0 (cR_l ct) w 0 (by decide) rfl rfl inR tyR_ok nmR 37 (by decide) wd_865 rfl rfl rfl (Nat.le_of_ble_eq_true rfl) d_R_run_112 eM22 rfl (fun H locs w => ?_)
                    refine lv_iload_n hx hb d_R_run_115 rfl (lv_at hl 1 rfl) ?_
                    have hJ134 : ∀ (v1 v2 v3 : Int32) (M : Sto) (H : Heap) (locs : List Loc) (ls : Array Slot), lv_has ls 5 [(0, .ref (q 0)), (1, .int v1), (2, .int v2), (3, .int v3)] → Wd D A s (wR ct q M) H locs → j_R_run_134 (l_R_run_93 K93 n) K93 v1 v2 v3 M = some (rz, Mz) → W p l e rm_R_run s m args below meth c H locs 0 0 Q (F0 m 134 ls []) := by
                      intro v1 v2 v3 M H locs ls hl w h
                      unfold j_R_run_134 at h
                      refine lv_iload_n hx hb d_R_run_134 rfl (lv_at hl 3 rfl) ?_
                      refine lv_istore hx hb d_R_run_135 hl (by decide) rfl (fun ls hl => ?_)
                      have hl : lv_has ls 5 [(4, .int v3), (0, .ref (q 0)), (1, .int v1), (2, .int v2), (3, .int v3)] := hl
                      refine lv_aload_n hx hb d_R_run_137 rfl (lv_at hl 1 rfl) ?_
                      refine lv_iload_n hx hb d_R_run_138 rfl (lv_at hl 4 rfl) ?_
                      refine lv_iload_n hx hb d_R_run_139 rfl (lv_at hl 2 rfl) ?_
                      obtain ⟨r23, M24, hc25, h⟩ := bind_ok h
                      try dsimp only at h
                      refine U_vi (rest := []) C0 w 0 (wU_at (by decide)) rfl (c_R_behind l D ct q hc25) wd_1149 wd_1146 wd_1148 ws_63 wd_8 (n9 := 2) (by decide +kernel) rfl ⟨(Nat.le_of_ble_eq_true rfl), (Nat.le_of_ble_eq_true rfl)⟩ hl.1 rfl (Nat.le_of_ble_eq_true rfl) d_R_run_140 (Nat.le_of_ble_eq_true rfl) (Nat.le_of_ble_eq_true rfl) (fun H locs w => ?_)
                      refine lv_istore_n hx hb d_R_run_143 rfl hl (by decide) rfl (fun ls hl => ?_)
                      have hl : lv_has ls 5 [(3, .int r23), (4, .int v3), (0, .ref (q 0)), (1, .int v1), (2, .int v2)] := hl
                      refine lv_goto (tgt := 93) hx hb d_R_run_144 (by decide) ?_
                      exact ih93 _ _ _ _ _ _ _ _ (lv_sub hl [2, 3, 4, 0, 1] rfl) w h
                    refine lv_if_eq (tgt := 127) hx hb d_R_run_116 (by decide) (fun hc => ?_) (fun hc => ?_)
                    · rw [if_pos hc] at h
                      refine lv_aload_n hx hb d_R_run_127 rfl (lv_at hl 0 rfl) ?_
                      refine lv_iload_n hx hb d_R_run_128 rfl (lv_at hl 3 rfl) ?_
                      refine lv_iload hx hb d_R_run_129 (lv_at hl 4 rfl) ?_
                      obtain ⟨r26, M27, hc28, h⟩ := bind_ok h
                      try dsimp only at h
                      refine U_vv (rest := []) C0 w 0 (wU_at (by decide)) rfl (c_R_formedBlock l D ct q hc28) wd_1141 wd_1138 wd_1140 ws_61 wd_8 (n9 := 2) (by decide +kernel) rfl ⟨(Nat.le_of_ble_eq_true rfl), (Nat.le_of_ble_eq_true rfl)⟩ hl.1 rfl (Nat.le_of_ble_eq_true rfl) d_R_run_131 (Nat.le_of_ble_eq_true rfl) (Nat.le_of_ble_eq_true rfl) (fun H locs w => ?_)
                      exact hJ134 _ _ _ _ _ _ _ (lv_sub hl [0, 1, 2, 3] rfl) w h
                    · rw [if_neg hc] at h
                      refine lv_aload_n hx hb d_R_run_119 rfl (lv_at hl 0 rfl) ?_
                      refine lv_iload_n hx hb d_R_run_120 rfl (lv_at hl 3 rfl) ?_
                      obtain ⟨r29, M30, hc31, h⟩ := bind_ok h
                      try dsimp only at h
                      refine U_vv (rest := []) C0 w 0 (wU_at (by decide)) rfl (c_R_plainBlock l D ct q hc31) wd_1125 wd_1122 wd_1124 ws_57 wd_8 (n9 := 1) (by decide +kernel) rfl ⟨(Nat.le_of_ble_eq_true rfl), (Nat.le_of_ble_eq_true rfl)⟩ hl.1 rfl (Nat.le_of_ble_eq_true rfl) d_R_run_121 (Nat.le_of_ble_eq_true rfl) (Nat.le_of_ble_eq_true rfl) (fun H locs w => ?_)
                      refine lv_goto (tgt := 134) hx hb d_R_run_124 (by decide) ?_
                      exact hJ134 _ _ _ _ _ _ _ (lv_sub hl [0, 1, 2, 3] rfl) w h
            exact hL93 FU _ _ _ _ _ _ _ _ (lv_sub hl [2, 3, 4, 1, 0] rfl) w h
          have hL68 : ∀ (n : Nat) (v1 v2 v3 : Int32) (M : Sto) (H : Heap) (locs : List Loc) (ls : Array Slot), lv_has ls 5 [(0, .ref (q 0)), (1, .int v1), (2, .int v2), (3, .int v3)] → Wd D A s (wR ct q M) H locs → l_R_run_68 K68 n v1 v2 v3 M = some (rz, Mz) → W p l e rm_R_run s m args below meth c H locs 0 0 Q (F0 m 68 ls []) := by
            intro n
            induction n with
            | zero => intro v1 v2 v3 M H locs ls hl w h; simp [l_R_run_68] at h
            | succ n ih68 =>
              intro v1 v2 v3 M H locs ls hl w h
              unfold l_R_run_68 at h
              refine lv_iload_n hx hb d_R_run_68 rfl (lv_at hl 3 rfl) ?_
              refine lv_sipush (v := 130) hx hb d_R_run_69 (by decide) ?_
              refine lv_icmp_ge (tgt := 88) hx hb d_R_run_72 (by decide) (fun hc => ?_) (fun hc => ?_)
              · rw [if_pos hc] at h
                exact hE68 _ _ _ _ _ _ (lv_sub hl [0, 1, 2] rfl) w h
              · rw [if_neg hc] at h
                refine lv_aload_n hx hb d_R_run_75 rfl (lv_at hl 0 rfl) ?_
                refine U_get C0 w 0 (by decide) rfl rfl inR 39 (by decide) wd_867 rfl d_R_run_76 ?_
                refine lv_iload_n hx hb d_R_run_79 rfl (lv_at hl 3 rfl) ?_
                refine lv_iconst (v := 0) hx hb d_R_run_80 (by decide) ?_
                obtain ⟨hi32, h⟩ := if_ok h
                obtain ⟨M33, eM33, h⟩ := wr_ok h
                try dsimp only at h
                refine U_ast C0 (cR_l ct) w (iR_29 ct) hi32 d_R_run_81 eM33 (fun H locs w => ?_)
                refine lv_iinc (k := 3) (v := v3 + 1) hx hb d_R_run_82 hl rfl (inc1 _) (by decide) rfl (fun ls hl => ?_)
                have hl : lv_has ls 5 [(3, .int (v3 + 1)), (0, .ref (q 0)), (1, .int v1), (2, .int v2)] := hl
                refine lv_goto (tgt := 68) hx hb d_R_run_85 (by decide) ?_
                exact ih68 _ _ _ _ _ _ _ (lv_sub hl [1, 2, 3, 0] rfl) w h
          exact hL68 FU _ _ _ _ _ _ _ (lv_sub hl [1, 2, 3, 0] rfl) w h
        · rw [if_neg hc] at h
          exact hJ44 _ _ _ _ (lv_sub hl [] rfl) w h
      refine lv_if_ne (tgt := 36) hx hb d_R_run_29 (by decide) (fun hc => ?_) (fun hc => ?_)
      · rw [if_neg hc] at h
        refine lv_iconst (v := 0) hx hb d_R_run_36 (by decide) ?_
        exact hJ37 _ _ _ _ _ _ _ (lv_sub hl [0, 1, 2] rfl) w h
      · rw [if_pos hc] at h
        refine lv_iconst (v := 1) hx hb d_R_run_32 (by decide) ?_
        refine lv_goto (tgt := 37) hx hb d_R_run_33 (by decide) ?_
        exact hJ37 _ _ _ _ _ _ _ (lv_sub hl [0, 1, 2] rfl) w h
  have hJ12 : ∀ (v1 v2 : Int32) (M : Sto) (H : Heap) (locs : List Loc) (ls : Array Slot), lv_has ls 5 [(0, .ref (q 0)), (1, .int v1), (2, .int v2)] → Wd D A s (wR ct q M) H locs → j_R_run_12 v1 v2 M = some (rz, Mz) → W p l e rm_R_run s m args below meth c H locs 0 0 Q (F0 m 12 ls [.ref (q 0)]) := by
    intro v1 v2 M H locs ls hl w h
    unfold j_R_run_12 at h
    refine lv_iconst (v := 1) hx hb d_R_run_12 (by decide) ?_
    refine lv_goto (tgt := 17) hx hb d_R_run_13 (by decide) ?_
    exact hJ17 _ _ _ _ _ _ _ (lv_sub hl [0, 1, 2] rfl) w h
  refine lv_if_lt (tgt := 12) hx hb d_R_run_2 (by decide) (fun hc => ?_) (fun hc => ?_)
  · rw [if_pos hc] at h
    exact hJ12 _ _ _ _ _ _ (lv_sub hl [0, 1, 2] rfl) w h
  · rw [if_neg hc] at h
    refine lv_iload_n hx hb d_R_run_5 rfl (lv_at hl 2 rfl) ?_
    refine lv_sipush (v := 200) hx hb d_R_run_6 (by decide) ?_
    refine lv_icmp_le (tgt := 16) hx hb d_R_run_9 (by decide) (fun hc => ?_) (fun hc => ?_)
    · rw [if_pos hc] at h
      refine lv_iconst (v := 0) hx hb d_R_run_16 (by decide) ?_
      exact hJ17 _ _ _ _ _ _ _ (lv_sub hl [0, 1, 2] rfl) w h
    · rw [if_neg hc] at h
      exact hJ12 _ _ _ _ _ _ (lv_sub hl [0, 1, 2] rfl) w h
abbrev rm_R_told : Room := { frames := 0, cells := 0, slots := 0, locals := 0 }
set_option maxHeartbeats 8000000 in
set_option maxRecDepth 100000 in
theorem c_R_told (l : Launch) (D : va_G) (ct : Nat → ClassId) (q : Nat → Nat) {M Mz : Sto} {rz : Int32} (h : m_R_told M = some (rz, Mz)) : KI l D ct y_R_told b_R_told 1 (some .int) 0 0 [.ref (q 0)] (wR ct q M) rz (wR ct q Mz) := by
  refine KI.ofU (by decide) (Nat.le_of_ble_eq_true rfl) rfl ?_
  intro p e s m args below meth c A Q ls C0 hl w hret
  have hx := C0.1
  have hb := C0.2.1
  have hl : lv_has ls 1 [(0, .ref (q 0))] := hl
  unfold m_R_told at h
  refine lv_aload_n hx hb d_R_told_0 rfl (lv_at hl 0 rfl) ?_
  refine lv_iconst (v := 0) hx hb d_R_told_1 (by decide) ?_
  obtain ⟨M2, eM2, h⟩ := wr_ok h
  try dsimp only at h
  refine U_put C0 (cR_l ct) w 0 (by decide) rfl rfl inR tyR_ok nmR 0 (by decide) wd_828 rfl rfl rfl (Nat.le_of_ble_eq_true rfl) d_R_told_2 eM2 rfl (fun H locs w => ?_)
  refine lv_aload_n hx hb d_R_told_5 rfl (lv_at hl 0 rfl) ?_
  refine U_get C0 w 0 (by decide) rfl rfl inR 35 (by decide) wd_863 rfl d_R_told_6 ?_
  cases h
  exact hret _ _ _ _ d_R_told_9 rfl w
abbrev rm_R_heard : Room := { frames := 1, cells := 0, slots := 0, locals := 22 }
set_option maxHeartbeats 8000000 in
set_option maxRecDepth 100000 in
theorem c_R_heard (l : Launch) (D : va_G) (ct : Nat → ClassId) (q : Nat → Nat) {x1 : Int32} {M Mz : Sto} {rz : Int32} (h : m_R_heard x1 M = some (rz, Mz)) : KI l D ct y_R_heard b_R_heard 2 (some .int) 1 22 [.ref (q 0), .int x1] (wR ct q M) rz (wR ct q Mz) := by
  refine KI.ofU (by decide) (Nat.le_of_ble_eq_true rfl) rfl ?_
  intro p e s m args below meth c A Q ls C0 hl w hret
  have hx := C0.1
  have hb := C0.2.1
  have hl : lv_has ls 2 [(0, .ref (q 0)), (1, .int x1)] := hl
  unfold m_R_heard at h
  refine lv_aload_n hx hb d_R_heard_0 rfl (lv_at hl 0 rfl) ?_
  refine lv_iload_n hx hb d_R_heard_1 rfl (lv_at hl 1 rfl) ?_
  have hJ24 : ∀ (s0 v1 : Int32) (M : Sto) (H : Heap) (locs : List Loc) (ls : Array Slot), lv_has ls 2 [(0, .ref (q 0)), (1, .int v1)] → Wd D A s (wR ct q M) H locs → j_R_heard_24 s0 v1 M = some (rz, Mz) → W p l e rm_R_heard s m args below meth c H locs 0 0 Q (F0 m 24 ls [.int s0, .ref (q 0)]) := by
    intro s0 v1 M H locs ls hl w h
    unfold j_R_heard_24 at h
    refine lv_iconst (v := 1) hx hb d_R_heard_24 (by decide) ?_
    obtain ⟨r2, M3, hc4, h⟩ := bind_ok h
    try dsimp only at h
    refine U_vi (rest := []) C0 w 0 (wU_at (by decide)) rfl (c_R_fails l D ct q hc4) wd_963 wd_960 wd_962 ws_34 wd_8 (n9 := 2) (by decide +kernel) rfl ⟨(Nat.le_of_ble_eq_true rfl), (Nat.le_of_ble_eq_true rfl)⟩ hl.1 rfl (Nat.le_of_ble_eq_true rfl) d_R_heard_25 (Nat.le_of_ble_eq_true rfl) (Nat.le_of_ble_eq_true rfl) (fun H locs w => ?_)
    have hJ41 : ∀ (s0 : Int32) (M : Sto) (H : Heap) (locs : List Loc) (ls : Array Slot), lv_has ls 2 [] → Wd D A s (wR ct q M) H locs → j_R_heard_41 s0 M = some (rz, Mz) → W p l e rm_R_heard s m args below meth c H locs 0 0 Q (F0 m 41 ls [.int s0]) := by
      intro s0 M H locs ls hl w h
      unfold j_R_heard_41 at h
      cases h
      exact hret _ _ _ _ d_R_heard_41 rfl w
    refine lv_if_eq (tgt := 35) hx hb d_R_heard_28 (by decide) (fun hc => ?_) (fun hc => ?_)
    · rw [if_pos hc] at h
      refine lv_aload_n hx hb d_R_heard_35 rfl (lv_at hl 0 rfl) ?_
      refine U_get C0 w 0 (by decide) rfl rfl inR 36 (by decide) wd_864 rfl d_R_heard_36 ?_
      refine lv_iload_n hx hb d_R_heard_39 rfl (lv_at hl 1 rfl) ?_
      obtain ⟨hi5, h⟩ := if_ok h
      refine U_ald C0 w (iR_28 ct) hi5 d_R_heard_40 ?_
      exact hJ41 _ _ _ _ _ (lv_sub hl [] rfl) w h
    · rw [if_neg hc] at h
      refine lv_iconst (v := 0) hx hb d_R_heard_31 (by decide) ?_
      refine lv_goto (tgt := 41) hx hb d_R_heard_32 (by decide) ?_
      exact hJ41 _ _ _ _ _ (lv_sub hl [] rfl) w h
  have hJ19 : ∀ (v1 : Int32) (M : Sto) (H : Heap) (locs : List Loc) (ls : Array Slot), lv_has ls 2 [(0, .ref (q 0)), (1, .int v1)] → Wd D A s (wR ct q M) H locs → j_R_heard_19 v1 M = some (rz, Mz) → W p l e rm_R_heard s m args below meth c H locs 0 0 Q (F0 m 19 ls [.ref (q 0)]) := by
    intro v1 M H locs ls hl w h
    unfold j_R_heard_19 at h
    refine lv_iconst (v := 1) hx hb d_R_heard_19 (by decide) ?_
    refine lv_goto (tgt := 24) hx hb d_R_heard_20 (by decide) ?_
    exact hJ24 _ _ _ _ _ _ (lv_sub hl [0, 1] rfl) w h
  refine lv_if_lt (tgt := 19) hx hb d_R_heard_2 (by decide) (fun hc => ?_) (fun hc => ?_)
  · rw [if_pos hc] at h
    exact hJ19 _ _ _ _ _ (lv_sub hl [0, 1] rfl) w h
  · rw [if_neg hc] at h
    refine lv_iload_n hx hb d_R_heard_5 rfl (lv_at hl 1 rfl) ?_
    refine lv_aload_n hx hb d_R_heard_6 rfl (lv_at hl 0 rfl) ?_
    refine U_get C0 w 0 (by decide) rfl rfl inR 35 (by decide) wd_863 rfl d_R_heard_7 ?_
    refine lv_icmp_ge (tgt := 19) hx hb d_R_heard_10 (by decide) (fun hc => ?_) (fun hc => ?_)
    · rw [if_pos hc] at h
      exact hJ19 _ _ _ _ _ (lv_sub hl [0, 1] rfl) w h
    · rw [if_neg hc] at h
      refine lv_iload_n hx hb d_R_heard_13 rfl (lv_at hl 1 rfl) ?_
      refine lv_bipush (v := 40) hx hb d_R_heard_14 (by decide) ?_
      refine lv_icmp_lt (tgt := 23) hx hb d_R_heard_16 (by decide) (fun hc => ?_) (fun hc => ?_)
      · rw [if_pos hc] at h
        refine lv_iconst (v := 0) hx hb d_R_heard_23 (by decide) ?_
        exact hJ24 _ _ _ _ _ _ (lv_sub hl [0, 1] rfl) w h
      · rw [if_neg hc] at h
        exact hJ19 _ _ _ _ _ (lv_sub hl [0, 1] rfl) w h
abbrev rm_R_spent : Room := { frames := 0, cells := 0, slots := 0, locals := 0 }
set_option maxHeartbeats 8000000 in
set_option maxRecDepth 100000 in
theorem c_R_spent (l : Launch) (D : va_G) (ct : Nat → ClassId) (q : Nat → Nat) {x1 : Int32} {M Mz : Sto} {rz : Int32} (h : m_R_spent x1 M = some (rz, Mz)) : KI l D ct y_R_spent b_R_spent 2 (some .int) 0 0 [.ref (q 0), .int x1] (wR ct q M) rz (wR ct q Mz) := by
  refine KI.ofU (by decide) (Nat.le_of_ble_eq_true rfl) rfl ?_
  intro p e s m args below meth c A Q ls C0 hl w hret
  have hx := C0.1
  have hb := C0.2.1
  have hl : lv_has ls 2 [(0, .ref (q 0)), (1, .int x1)] := hl
  unfold m_R_spent at h
  refine lv_aload_n hx hb d_R_spent_0 rfl (lv_at hl 0 rfl) ?_
  refine lv_iconst (v := 0) hx hb d_R_spent_1 (by decide) ?_
  obtain ⟨M2, eM2, h⟩ := wr_ok h
  try dsimp only at h
  refine U_put C0 (cR_l ct) w 0 (by decide) rfl rfl inR tyR_ok nmR 0 (by decide) wd_828 rfl rfl rfl (Nat.le_of_ble_eq_true rfl) d_R_spent_2 eM2 rfl (fun H locs w => ?_)
  refine lv_iload_n hx hb d_R_spent_5 rfl (lv_at hl 1 rfl) ?_
  have hJ41 : ∀ (s0 : Int32) (M : Sto) (H : Heap) (locs : List Loc) (ls : Array Slot), lv_has ls 2 [] → Wd D A s (wR ct q M) H locs → j_R_spent_41 s0 M = some (rz, Mz) → W p l e rm_R_spent s m args below meth c H locs 0 0 Q (F0 m 41 ls [.int s0]) := by
    intro s0 M H locs ls hl w h
    unfold j_R_spent_41 at h
    cases h
    exact hret _ _ _ _ d_R_spent_41 rfl w
  refine lv_if_ne (tgt := 16) hx hb d_R_spent_6 (by decide) (fun hc => ?_) (fun hc => ?_)
  · rw [if_neg hc] at h
    refine lv_iload_n hx hb d_R_spent_16 rfl (lv_at hl 1 rfl) ?_
    refine lv_iconst (v := 1) hx hb d_R_spent_17 (by decide) ?_
    refine lv_icmp_ne (tgt := 28) hx hb d_R_spent_18 (by decide) (fun hc => ?_) (fun hc => ?_)
    · rw [if_neg hc] at h
      refine lv_iload_n hx hb d_R_spent_28 rfl (lv_at hl 1 rfl) ?_
      refine lv_iconst (v := 2) hx hb d_R_spent_29 (by decide) ?_
      refine lv_icmp_ne (tgt := 40) hx hb d_R_spent_30 (by decide) (fun hc => ?_) (fun hc => ?_)
      · rw [if_neg hc] at h
        refine lv_iconst (v := (-1)) hx hb d_R_spent_40 (by decide) ?_
        exact hJ41 _ _ _ _ _ (lv_sub hl [] rfl) w h
      · rw [if_pos hc] at h
        refine lv_aload_n hx hb d_R_spent_33 rfl (lv_at hl 0 rfl) ?_
        refine U_get C0 w 0 (by decide) rfl rfl inR 34 (by decide) wd_862 rfl d_R_spent_34 ?_
        refine lv_goto (tgt := 41) hx hb d_R_spent_37 (by decide) ?_
        exact hJ41 _ _ _ _ _ (lv_sub hl [] rfl) w h
    · rw [if_pos hc] at h
      refine lv_aload_n hx hb d_R_spent_21 rfl (lv_at hl 0 rfl) ?_
      refine U_get C0 w 0 (by decide) rfl rfl inR 38 (by decide) wd_866 rfl d_R_spent_22 ?_
      refine lv_goto (tgt := 41) hx hb d_R_spent_25 (by decide) ?_
      exact hJ41 _ _ _ _ _ (lv_sub hl [] rfl) w h
  · rw [if_pos hc] at h
    refine lv_aload_n hx hb d_R_spent_9 rfl (lv_at hl 0 rfl) ?_
    refine U_get C0 w 0 (by decide) rfl rfl inR 37 (by decide) wd_865 rfl d_R_spent_10 ?_
    refine lv_goto (tgt := 41) hx hb d_R_spent_13 (by decide) ?_
    exact hJ41 _ _ _ _ _ (lv_sub hl [] rfl) w h
end
