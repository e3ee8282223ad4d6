abbrev rx_N_block_IllegalStateException : Room := { frames := 6, cells := 1, slots := 6, locals := 90 }
set_option maxHeartbeats 8000000 in
set_option maxRecDepth 100000 in
theorem x_N_block_IllegalStateException (l : Launch) (htl : l.stackTraces = false) (D : va_G) (ct : Nat → ClassId) (q : Nat → Nat) {M Mz : Sto} {rz : Int32} (h : m_N_block M = some (2, rz, Mz)) : KXU l D ct y_N_block b_N_block 1 (some .int) 6 90 [.ref (q 0)] (wX ct q M) "java/lang/IllegalStateException" (wX ct q Mz) := by
  refine KXU.ofB (by decide) (Nat.le_of_ble_eq_true rfl) ?_
  intro p e s m args below meth c A ls C0 hemp hlk hl w
  have hx := C0.1
  have hb := C0.2.1
  have hl : lv_has ls 1 [(0, .ref (q 0))] := hl
  unfold m_N_block at h
  refine lv_aload_n hx hb d_N_block_0 rfl (lv_at hl 0 rfl) ?_
  refine U_get C0 w 0 (by decide) rfl rfl inN 0 (by decide) wd_339 rfl d_N_block_1 ?_
  refine U_get C0 w 1 (by decide) rfl rfl inP 0 (by decide) wd_33 rfl d_N_block_4 ?_
  refine lv_bipush (v := 10) hx hb d_N_block_7 (by decide) ?_
  refine lv_icmp_lt (tgt := 22) hx hb d_N_block_9 (by decide) (fun hc => ?_) (fun hc => ?_)
  · rw [if_pos hc] at h
    refine lv_aload_n hx hb d_N_block_22 rfl (lv_at hl 0 rfl) ?_
    refine lv_iconst (v := 0) hx hb d_N_block_23 (by decide) ?_
    obtain ⟨hz1, h⟩ := if_ok h
    obtain ⟨M2, eM2, h⟩ := wr_ok h
    try dsimp only at h
    refine U_put C0 (cX_l ct) w 0 (by decide) rfl rfl inN tyN_ok nmN 6 (by decide) wd_345 rfl (bz_nar hz1) (bz_fit hz1) (Nat.le_of_ble_eq_true rfl) d_N_block_24 eM2 rfl (fun H locs w => ?_)
    refine lv_aload_n hx hb d_N_block_27 rfl (lv_at hl 0 rfl) ?_
    refine U_get C0 w 0 (by decide) rfl rfl inN 0 (by decide) wd_339 rfl d_N_block_28 ?_
    obtain ⟨r3, M4, hc5, h⟩ := bind_ok h
    try dsimp only at h
    refine U_vi (rest := []) C0 w 1 (wU_at (by decide)) rfl (c_P_addBlock l D ct q hc5) wd_464 wd_461 wd_462 wd_463 wd_2 (n9 := 0) (by decide +kernel) rfl ⟨(Nat.le_of_ble_eq_true rfl), (Nat.le_of_ble_eq_true rfl)⟩ hl.1 rfl (Nat.le_of_ble_eq_true rfl) d_N_block_31 (Nat.le_of_ble_eq_true rfl) (Nat.le_of_ble_eq_true rfl) (fun H locs w => ?_)
    simp at h
  · rw [if_neg hc] at h
    cases h
    exact R_throwU C0 w htl (ix := ix_IllegalStateException) (rx := rx_IllegalStateException) (names := up_IllegalStateException) (tx := "there are 10 blocks") xa_IllegalStateException xb_IllegalStateException xc_IllegalStateException xd_IllegalStateException (by decide) (by decide) rfl at_IllegalStateException wd_393 wd_12 wd_394 (by decide) hl.1 d_N_block_12 d_N_block_15 d_N_block_16 d_N_block_18 d_N_block_21 hemp hlk (Nat.le_of_ble_eq_true rfl) (Nat.le_of_ble_eq_true rfl) (Nat.le_of_ble_eq_true rfl) (Nat.le_of_ble_eq_true rfl)
abbrev rx_N_put_IllegalArgumentException : Room := { frames := 6, cells := 1, slots := 6, locals := 90 }
set_option maxHeartbeats 8000000 in
set_option maxRecDepth 100000 in
theorem x_N_put_IllegalArgumentException (l : Launch) (htl : l.stackTraces = false) (D : va_G) (ct : Nat → ClassId) (q : Nat → Nat) {x1 x2 x3 x4 x5 : Int32} {M Mz : Sto} {rz : Int32} (h : m_N_put x1 x2 x3 x4 x5 M = some (1, rz, Mz)) : KXU l D ct y_N_put b_N_put 6 (some .int) 6 90 [.ref (q 0), .int x1, .int x2, .int x3, .int x4, .int x5] (wX ct q M) "java/lang/IllegalArgumentException" (wX ct q Mz) := by
  refine KXU.ofB (by decide) (Nat.le_of_ble_eq_true rfl) ?_
  intro p e s m args below meth c A ls C0 hemp hlk hl w
  have hx := C0.1
  have hb := C0.2.1
  have hl : lv_has ls 6 [(0, .ref (q 0)), (1, .int x1), (2, .int x2), (3, .int x3), (4, .int x4), (5, .int x5)] := hl
  unfold m_N_put at h
  refine lv_aload_n hx hb d_N_put_0 rfl (lv_at hl 0 rfl) ?_
  refine U_get C0 w 0 (by decide) rfl rfl inN 0 (by decide) wd_339 rfl d_N_put_1 ?_
  refine lv_iload_n hx hb d_N_put_4 rfl (lv_at hl 1 rfl) ?_
  obtain ⟨r1, M2, hc3, h⟩ := bind_ok h
  try dsimp only at h
  refine U_vi (rest := []) C0 w 1 (wU_at (by decide)) rfl (c_P_has l D ct q hc3) wd_480 wd_477 wd_478 wd_479 wd_2 (n9 := 1) (by decide +kernel) rfl ⟨(Nat.le_of_ble_eq_true rfl), (Nat.le_of_ble_eq_true rfl)⟩ hl.1 rfl (Nat.le_of_ble_eq_true rfl) d_N_put_5 (Nat.le_of_ble_eq_true rfl) (Nat.le_of_ble_eq_true rfl) (fun H locs w => ?_)
  have hJ23 : ∀ (M : Sto) (H : Heap) (locs : List Loc) (ls : Array Slot), lv_has ls 6 [] → Wd D A s (wX ct q M) H locs → j_N_put_23 M = some (1, rz, Mz) → W p l e rx_N_put_IllegalArgumentException s m args below meth c H locs 0 0 (XQU D (wX ct q Mz) A below "java/lang/IllegalArgumentException" s) (F0 m 23 ls []) := by
    intro M H locs ls hl w h
    unfold j_N_put_23 at h
    cases h
    exact R_throwU C0 w htl (ix := ix_IllegalArgumentException) (rx := rx_IllegalArgumentException) (names := up_IllegalArgumentException) (tx := "no such block, kind or variable") xa_IllegalArgumentException xb_IllegalArgumentException xc_IllegalArgumentException xd_IllegalArgumentException (by decide) (by decide) rfl at_IllegalArgumentException wd_496 wd_13 wd_497 (by decide) hl.1 d_N_put_23 d_N_put_26 d_N_put_27 d_N_put_29 d_N_put_32 hemp hlk (Nat.le_of_ble_eq_true rfl) (Nat.le_of_ble_eq_true rfl) (Nat.le_of_ble_eq_true rfl) (Nat.le_of_ble_eq_true rfl)
  refine lv_if_eq (tgt := 23) hx hb d_N_put_8 (by decide) (fun hc => ?_) (fun hc => ?_)
  · rw [if_pos hc] at h
    exact hJ23 _ _ _ _ (lv_sub hl [] rfl) w h
  · rw [if_neg hc] at h
    refine lv_iload_n hx hb d_N_put_11 rfl (lv_at hl 2 rfl) ?_
    refine lv_iload_n hx hb d_N_put_12 rfl (lv_at hl 3 rfl) ?_
    refine lv_iload hx hb d_N_put_13 (lv_at hl 4 rfl) ?_
    refine lv_iload hx hb d_N_put_15 (lv_at hl 5 rfl) ?_
    obtain ⟨r4, M5, hc6, h⟩ := bind_ok h
    try dsimp only at h
    refine U_si (rest := []) C0 w (c_N_isInstruction l D ct q hc6) wd_483 wd_481 wd_482 wd_1 (n9 := 4) (by decide +kernel) rfl ⟨(Nat.le_of_ble_eq_true rfl), (Nat.le_of_ble_eq_true rfl)⟩ hl.1 rfl (Nat.le_of_ble_eq_true rfl) d_N_put_17 (Nat.le_of_ble_eq_true rfl) (Nat.le_of_ble_eq_true rfl) (fun H locs w => ?_)
    refine lv_if_ne (tgt := 33) hx hb d_N_put_20 (by decide) (fun hc => ?_) (fun hc => ?_)
    · rw [if_neg hc] at h
      refine lv_aload_n hx hb d_N_put_33 rfl (lv_at hl 0 rfl) ?_
      refine U_get C0 w 0 (by decide) rfl rfl inN 0 (by decide) wd_339 rfl d_N_put_34 ?_
      refine U_get C0 w 1 (by decide) rfl rfl inP 1 (by decide) wd_41 rfl d_N_put_37 ?_
      refine lv_iload_n hx hb d_N_put_40 rfl (lv_at hl 1 rfl) ?_
      obtain ⟨hi7, h⟩ := if_ok h
      refine U_ald C0 w (iX_7 ct) hi7 d_N_put_41 ?_
      refine lv_bipush (v := 6) hx hb d_N_put_42 (by decide) ?_
      refine lv_icmp_lt (tgt := 57) hx hb d_N_put_44 (by decide) (fun hc => ?_) (fun hc => ?_)
      · rw [if_pos hc] at h
        refine lv_aload_n hx hb d_N_put_57 rfl (lv_at hl 0 rfl) ?_
        refine lv_iconst (v := 0) hx hb d_N_put_58 (by decide) ?_
        obtain ⟨hz8, h⟩ := if_ok h
        obtain ⟨M9, eM9, h⟩ := wr_ok h
        try dsimp only at h
        refine U_put C0 (cX_l ct) w 0 (by decide) rfl rfl inN tyN_ok nmN 6 (by decide) wd_345 rfl (bz_nar hz8) (bz_fit hz8) (Nat.le_of_ble_eq_true rfl) d_N_put_59 eM9 rfl (fun H locs w => ?_)
        refine lv_aload_n hx hb d_N_put_62 rfl (lv_at hl 0 rfl) ?_
        refine U_get C0 w 0 (by decide) rfl rfl inN 0 (by decide) wd_339 rfl d_N_put_63 ?_
        refine lv_iload_n hx hb d_N_put_66 rfl (lv_at hl 1 rfl) ?_
        refine lv_iload_n hx hb d_N_put_67 rfl (lv_at hl 2 rfl) ?_
        refine lv_iload_n hx hb d_N_put_68 rfl (lv_at hl 3 rfl) ?_
        refine lv_iload hx hb d_N_put_69 (lv_at hl 4 rfl) ?_
        refine lv_iload hx hb d_N_put_71 (lv_at hl 5 rfl) ?_
        obtain ⟨r10, M11, hc12, h⟩ := bind_ok h
        try dsimp only at h
        refine U_vi (rest := []) C0 w 1 (wU_at (by decide)) rfl (c_P_append l D ct q hc12) wd_516 wd_513 wd_514 wd_515 wd_2 (n9 := 5) (by decide +kernel) rfl ⟨(Nat.le_of_ble_eq_true rfl), (Nat.le_of_ble_eq_true rfl)⟩ hl.1 rfl (Nat.le_of_ble_eq_true rfl) d_N_put_73 (Nat.le_of_ble_eq_true rfl) (Nat.le_of_ble_eq_true rfl) (fun H locs w => ?_)
        simp at h
      · rw [if_neg hc] at h
        simp at h
    · rw [if_pos hc] at h
      exact hJ23 _ _ _ _ (lv_sub hl [] rfl) w h
abbrev rx_N_put_IllegalStateException : Room := { frames := 6, cells := 1, slots := 6, locals := 90 }
set_option maxHeartbeats 8000000 in
set_option maxRecDepth 100000 in
theorem x_N_put_IllegalStateException (l : Launch) (htl : l.stackTraces = false) (D : va_G) (ct : Nat → ClassId) (q : Nat → Nat) {x1 x2 x3 x4 x5 : Int32} {M Mz : Sto} {rz : Int32} (h : m_N_put x1 x2 x3 x4 x5 M = some (2, rz, Mz)) : KXU l D ct y_N_put b_N_put 6 (some .int) 6 90 [.ref (q 0), .int x1, .int x2, .int x3, .int x4, .int x5] (wX ct q M) "java/lang/IllegalStateException" (wX ct q Mz) := by
  refine KXU.ofB (by decide) (Nat.le_of_ble_eq_true rfl) ?_
  intro p e s m args below meth c A ls C0 hemp hlk hl w
  have hx := C0.1
  have hb := C0.2.1
  have hl : lv_has ls 6 [(0, .ref (q 0)), (1, .int x1), (2, .int x2), (3, .int x3), (4, .int x4), (5, .int x5)] := hl
  unfold m_N_put at h
  refine lv_aload_n hx hb d_N_put_0 rfl (lv_at hl 0 rfl) ?_
  refine U_get C0 w 0 (by decide) rfl rfl inN 0 (by decide) wd_339 rfl d_N_put_1 ?_
  refine lv_iload_n hx hb d_N_put_4 rfl (lv_at hl 1 rfl) ?_
  obtain ⟨r1, M2, hc3, h⟩ := bind_ok h
  try dsimp only at h
  refine U_vi (rest := []) C0 w 1 (wU_at (by decide)) rfl (c_P_has l D ct q hc3) wd_480 wd_477 wd_478 wd_479 wd_2 (n9 := 1) (by decide +kernel) rfl ⟨(Nat.le_of_ble_eq_true rfl), (Nat.le_of_ble_eq_true rfl)⟩ hl.1 rfl (Nat.le_of_ble_eq_true rfl) d_N_put_5 (Nat.le_of_ble_eq_true rfl) (Nat.le_of_ble_eq_true rfl) (fun H locs w => ?_)
  have hJ23 : ∀ (M : Sto) (H : Heap) (locs : List Loc) (ls : Array Slot), lv_has ls 6 [] → Wd D A s (wX ct q M) H locs → j_N_put_23 M = some (2, rz, Mz) → W p l e rx_N_put_IllegalStateException s m args below meth c H locs 0 0 (XQU D (wX ct q Mz) A below "java/lang/IllegalStateException" s) (F0 m 23 ls []) := by
    intro M H locs ls hl w h
    unfold j_N_put_23 at h
    simp at h
  refine lv_if_eq (tgt := 23) hx hb d_N_put_8 (by decide) (fun hc => ?_) (fun hc => ?_)
  · rw [if_pos hc] at h
    exact hJ23 _ _ _ _ (lv_sub hl [] rfl) w h
  · rw [if_neg hc] at h
    refine lv_iload_n hx hb d_N_put_11 rfl (lv_at hl 2 rfl) ?_
    refine lv_iload_n hx hb d_N_put_12 rfl (lv_at hl 3 rfl) ?_
    refine lv_iload hx hb d_N_put_13 (lv_at hl 4 rfl) ?_
    refine lv_iload hx hb d_N_put_15 (lv_at hl 5 rfl) ?_
    obtain ⟨r4, M5, hc6, h⟩ := bind_ok h
    try dsimp only at h
    refine U_si (rest := []) C0 w (c_N_isInstruction l D ct q hc6) wd_483 wd_481 wd_482 wd_1 (n9 := 4) (by decide +kernel) rfl ⟨(Nat.le_of_ble_eq_true rfl), (Nat.le_of_ble_eq_true rfl)⟩ hl.1 rfl (Nat.le_of_ble_eq_true rfl) d_N_put_17 (Nat.le_of_ble_eq_true rfl) (Nat.le_of_ble_eq_true rfl) (fun H locs w => ?_)
    refine lv_if_ne (tgt := 33) hx hb d_N_put_20 (by decide) (fun hc => ?_) (fun hc => ?_)
    · rw [if_neg hc] at h
      refine lv_aload_n hx hb d_N_put_33 rfl (lv_at hl 0 rfl) ?_
      refine U_get C0 w 0 (by decide) rfl rfl inN 0 (by decide) wd_339 rfl d_N_put_34 ?_
      refine U_get C0 w 1 (by decide) rfl rfl inP 1 (by decide) wd_41 rfl d_N_put_37 ?_
      refine lv_iload_n hx hb d_N_put_40 rfl (lv_at hl 1 rfl) ?_
      obtain ⟨hi7, h⟩ := if_ok h
      refine U_ald C0 w (iX_7 ct) hi7 d_N_put_41 ?_
      refine lv_bipush (v := 6) hx hb d_N_put_42 (by decide) ?_
      refine lv_icmp_lt (tgt := 57) hx hb d_N_put_44 (by decide) (fun hc => ?_) (fun hc => ?_)
      · rw [if_pos hc] at h
        refine lv_aload_n hx hb d_N_put_57 rfl (lv_at hl 0 rfl) ?_
        refine lv_iconst (v := 0) hx hb d_N_put_58 (by decide) ?_
        obtain ⟨hz8, h⟩ := if_ok h
        obtain ⟨M9, eM9, h⟩ := wr_ok h
        try dsimp only at h
        refine U_put C0 (cX_l ct) w 0 (by decide) rfl rfl inN tyN_ok nmN 6 (by decide) wd_345 rfl (bz_nar hz8) (bz_fit hz8) (Nat.le_of_ble_eq_true rfl) d_N_put_59 eM9 rfl (fun H locs w => ?_)
        refine lv_aload_n hx hb d_N_put_62 rfl (lv_at hl 0 rfl) ?_
        refine U_get C0 w 0 (by decide) rfl rfl inN 0 (by decide) wd_339 rfl d_N_put_63 ?_
        refine lv_iload_n hx hb d_N_put_66 rfl (lv_at hl 1 rfl) ?_
        refine lv_iload_n hx hb d_N_put_67 rfl (lv_at hl 2 rfl) ?_
        refine lv_iload_n hx hb d_N_put_68 rfl (lv_at hl 3 rfl) ?_
        refine lv_iload hx hb d_N_put_69 (lv_at hl 4 rfl) ?_
        refine lv_iload hx hb d_N_put_71 (lv_at hl 5 rfl) ?_
        obtain ⟨r10, M11, hc12, h⟩ := bind_ok h
        try dsimp only at h
        refine U_vi (rest := []) C0 w 1 (wU_at (by decide)) rfl (c_P_append l D ct q hc12) wd_516 wd_513 wd_514 wd_515 wd_2 (n9 := 5) (by decide +kernel) rfl ⟨(Nat.le_of_ble_eq_true rfl), (Nat.le_of_ble_eq_true rfl)⟩ hl.1 rfl (Nat.le_of_ble_eq_true rfl) d_N_put_73 (Nat.le_of_ble_eq_true rfl) (Nat.le_of_ble_eq_true rfl) (fun H locs w => ?_)
        simp at h
      · rw [if_neg hc] at h
        cases h
        exact R_throwU C0 w htl (ix := ix_IllegalStateException) (rx := rx_IllegalStateException) (names := up_IllegalStateException) (tx := "the block has 6 instructions") xa_IllegalStateException xb_IllegalStateException xc_IllegalStateException xd_IllegalStateException (by decide) (by decide) rfl at_IllegalStateException wd_393 wd_12 wd_394 (by decide) hl.1 d_N_put_47 d_N_put_50 d_N_put_51 d_N_put_53 d_N_put_56 hemp hlk (Nat.le_of_ble_eq_true rfl) (Nat.le_of_ble_eq_true rfl) (Nat.le_of_ble_eq_true rfl) (Nat.le_of_ble_eq_true rfl)
    · rw [if_pos hc] at h
      exact hJ23 _ _ _ _ (lv_sub hl [] rfl) w h
abbrev rx_N_go_IllegalArgumentException : Room := { frames := 6, cells := 1, slots := 6, locals := 90 }
set_option maxHeartbeats 8000000 in
set_option maxRecDepth 100000 in
theorem x_N_go_IllegalArgumentException (l : Launch) (htl : l.stackTraces = false) (D : va_G) (ct : Nat → ClassId) (q : Nat → Nat) {x1 x2 : Int32} {M Mz : Sto} {rz : Int32} (h : m_N_go x1 x2 M = some (1, rz, Mz)) : KXU l D ct y_N_go b_N_go 3 none 6 90 [.ref (q 0), .int x1, .int x2] (wX ct q M) "java/lang/IllegalArgumentException" (wX ct q Mz) := by
  refine KXU.ofB (by decide) (Nat.le_of_ble_eq_true rfl) ?_
  intro p e s m args below meth c A ls C0 hemp hlk hl w
  have hx := C0.1
  have hb := C0.2.1
  have hl : lv_has ls 3 [(0, .ref (q 0)), (1, .int x1), (2, .int x2)] := hl
  unfold m_N_go at h
  refine lv_aload_n hx hb d_N_go_0 rfl (lv_at hl 0 rfl) ?_
  refine U_get C0 w 0 (by decide) rfl rfl inN 0 (by decide) wd_339 rfl d_N_go_1 ?_
  refine lv_iload_n hx hb d_N_go_4 rfl (lv_at hl 1 rfl) ?_
  obtain ⟨r1, M2, hc3, h⟩ := bind_ok h
  try dsimp only at h
  refine U_vi (rest := []) C0 w 1 (wU_at (by decide)) rfl (c_P_has l D ct q hc3) wd_480 wd_477 wd_478 wd_479 wd_2 (n9 := 1) (by decide +kernel) rfl ⟨(Nat.le_of_ble_eq_true rfl), (Nat.le_of_ble_eq_true rfl)⟩ hl.1 rfl (Nat.le_of_ble_eq_true rfl) d_N_go_5 (Nat.le_of_ble_eq_true rfl) (Nat.le_of_ble_eq_true rfl) (fun H locs w => ?_)
  have hJ22 : ∀ (M : Sto) (H : Heap) (locs : List Loc) (ls : Array Slot), lv_has ls 3 [] → Wd D A s (wX ct q M) H locs → j_N_go_22 M = some (1, rz, Mz) → W p l e rx_N_go_IllegalArgumentException s m args below meth c H locs 0 0 (XQU D (wX ct q Mz) A below "java/lang/IllegalArgumentException" s) (F0 m 22 ls []) := by
    intro M H locs ls hl w h
    unfold j_N_go_22 at h
    cases h
    exact R_throwU C0 w htl (ix := ix_IllegalArgumentException) (rx := rx_IllegalArgumentException) (names := up_IllegalArgumentException) (tx := "no such block, or none to go to") xa_IllegalArgumentException xb_IllegalArgumentException xc_IllegalArgumentException xd_IllegalArgumentException (by decide) (by decide) rfl at_IllegalArgumentException wd_496 wd_13 wd_497 (by decide) hl.1 d_N_go_22 d_N_go_25 d_N_go_26 d_N_go_28 d_N_go_31 hemp hlk (Nat.le_of_ble_eq_true rfl) (Nat.le_of_ble_eq_true rfl) (Nat.le_of_ble_eq_true rfl) (Nat.le_of_ble_eq_true rfl)
  refine lv_if_eq (tgt := 22) hx hb d_N_go_8 (by decide) (fun hc => ?_) (fun hc => ?_)
  · rw [if_pos hc] at h
    exact hJ22 _ _ _ _ (lv_sub hl [] rfl) w h
  · rw [if_neg hc] at h
    refine lv_aload_n hx hb d_N_go_11 rfl (lv_at hl 0 rfl) ?_
    refine U_get C0 w 0 (by decide) rfl rfl inN 0 (by decide) wd_339 rfl d_N_go_12 ?_
    refine lv_iload_n hx hb d_N_go_15 rfl (lv_at hl 2 rfl) ?_
    obtain ⟨r4, M5, hc6, h⟩ := bind_ok h
    try dsimp only at h
    refine U_vi (rest := []) C0 w 1 (wU_at (by decide)) rfl (c_P_isTarget l D ct q hc6) wd_527 wd_524 wd_525 wd_526 wd_2 (n9 := 1) (by decide +kernel) rfl ⟨(Nat.le_of_ble_eq_true rfl), (Nat.le_of_ble_eq_true rfl)⟩ hl.1 rfl (Nat.le_of_ble_eq_true rfl) d_N_go_16 (Nat.le_of_ble_eq_true rfl) (Nat.le_of_ble_eq_true rfl) (fun H locs w => ?_)
    refine lv_if_ne (tgt := 32) hx hb d_N_go_19 (by decide) (fun hc => ?_) (fun hc => ?_)
    · rw [if_neg hc] at h
      refine lv_aload_n hx hb d_N_go_32 rfl (lv_at hl 0 rfl) ?_
      refine lv_iconst (v := 0) hx hb d_N_go_33 (by decide) ?_
      obtain ⟨hz7, h⟩ := if_ok h
      obtain ⟨M8, eM8, h⟩ := wr_ok h
      try dsimp only at h
      refine U_put C0 (cX_l ct) w 0 (by decide) rfl rfl inN tyN_ok nmN 6 (by decide) wd_345 rfl (bz_nar hz7) (bz_fit hz7) (Nat.le_of_ble_eq_true rfl) d_N_go_34 eM8 rfl (fun H locs w => ?_)
      refine lv_aload_n hx hb d_N_go_37 rfl (lv_at hl 0 rfl) ?_
      refine U_get C0 w 0 (by decide) rfl rfl inN 0 (by decide) wd_339 rfl d_N_go_38 ?_
      refine lv_iload_n hx hb d_N_go_41 rfl (lv_at hl 1 rfl) ?_
      refine lv_iconst (v := 1) hx hb d_N_go_42 (by decide) ?_
      refine lv_iconst (v := 0) hx hb d_N_go_43 (by decide) ?_
      refine lv_iload_n hx hb d_N_go_44 rfl (lv_at hl 2 rfl) ?_
      refine lv_iload_n hx hb d_N_go_45 rfl (lv_at hl 2 rfl) ?_
      obtain ⟨r9, M10, hc11, h⟩ := bind_ok h
      try dsimp only at h
      refine U_vv (rest := []) C0 w 1 (wU_at (by decide)) rfl (c_P_setEnd l D ct q hc11) wd_468 wd_530 wd_466 wd_467 wd_2 (n9 := 5) (by decide +kernel) rfl ⟨(Nat.le_of_ble_eq_true rfl), (Nat.le_of_ble_eq_true rfl)⟩ hl.1 rfl (Nat.le_of_ble_eq_true rfl) d_N_go_46 (Nat.le_of_ble_eq_true rfl) (Nat.le_of_ble_eq_true rfl) (fun H locs w => ?_)
      simp at h
    · rw [if_pos hc] at h
      exact hJ22 _ _ _ _ (lv_sub hl [] rfl) w h
abbrev rx_N_fork_IllegalArgumentException : Room := { frames := 6, cells := 1, slots := 6, locals := 90 }
set_option maxHeartbeats 8000000 in
set_option maxRecDepth 100000 in
theorem x_N_fork_IllegalArgumentException (l : Launch) (htl : l.stackTraces = false) (D : va_G) (ct : Nat → ClassId) (q : Nat → Nat) {x1 x2 x3 x4 : Int32} {M Mz : Sto} {rz : Int32} (h : m_N_fork x1 x2 x3 x4 M = some (1, rz, Mz)) : KXU l D ct y_N_fork b_N_fork 5 none 6 90 [.ref (q 0), .int x1, .int x2, .int x3, .int x4] (wX ct q M) "java/lang/IllegalArgumentException" (wX ct q Mz) := by
  refine KXU.ofB (by decide) (Nat.le_of_ble_eq_true rfl) ?_
  intro p e s m args below meth c A ls C0 hemp hlk hl w
  have hx := C0.1
  have hb := C0.2.1
  have hl : lv_has ls 5 [(0, .ref (q 0)), (1, .int x1), (2, .int x2), (3, .int x3), (4, .int x4)] := hl
  unfold m_N_fork at h
  refine lv_aload_n hx hb d_N_fork_0 rfl (lv_at hl 0 rfl) ?_
  refine U_get C0 w 0 (by decide) rfl rfl inN 0 (by decide) wd_339 rfl d_N_fork_1 ?_
  refine lv_iload_n hx hb d_N_fork_4 rfl (lv_at hl 1 rfl) ?_
  obtain ⟨r1, M2, hc3, h⟩ := bind_ok h
  try dsimp only at h
  refine U_vi (rest := []) C0 w 1 (wU_at (by decide)) rfl (c_P_has l D ct q hc3) wd_480 wd_477 wd_478 wd_479 wd_2 (n9 := 1) (by decide +kernel) rfl ⟨(Nat.le_of_ble_eq_true rfl), (Nat.le_of_ble_eq_true rfl)⟩ hl.1 rfl (Nat.le_of_ble_eq_true rfl) d_N_fork_5 (Nat.le_of_ble_eq_true rfl) (Nat.le_of_ble_eq_true rfl) (fun H locs w => ?_)
  have hJ41 : ∀ (M : Sto) (H : Heap) (locs : List Loc) (ls : Array Slot), lv_has ls 5 [] → Wd D A s (wX ct q M) H locs → j_N_fork_41 M = some (1, rz, Mz) → W p l e rx_N_fork_IllegalArgumentException s m args below meth c H locs 0 0 (XQU D (wX ct q Mz) A below "java/lang/IllegalArgumentException" s) (F0 m 41 ls []) := by
    intro M H locs ls hl w h
    unfold j_N_fork_41 at h
    cases h
    exact R_throwU C0 w htl (ix := ix_IllegalArgumentException) (rx := rx_IllegalArgumentException) (names := up_IllegalArgumentException) (tx := "no such block or variable, or none to go to") xa_IllegalArgumentException xb_IllegalArgumentException xc_IllegalArgumentException xd_IllegalArgumentException (by decide) (by decide) rfl at_IllegalArgumentException wd_496 wd_13 wd_497 (by decide) hl.1 d_N_fork_41 d_N_fork_44 d_N_fork_45 d_N_fork_47 d_N_fork_50 hemp hlk (Nat.le_of_ble_eq_true rfl) (Nat.le_of_ble_eq_true rfl) (Nat.le_of_ble_eq_true rfl) (Nat.le_of_ble_eq_true rfl)
  refine lv_if_eq (tgt := 41) hx hb d_N_fork_8 (by decide) (fun hc => ?_) (fun hc => ?_)
  · rw [if_pos hc] at h
    exact hJ41 _ _ _ _ (lv_sub hl [] rfl) w h
  · rw [if_neg hc] at h
    refine lv_iload_n hx hb d_N_fork_11 rfl (lv_at hl 2 rfl) ?_
    obtain ⟨r4, M5, hc6, h⟩ := bind_ok h
    try dsimp only at h
    refine U_si (rest := []) C0 w (c_N_isVariable l D ct q hc6) wd_489 wd_487 wd_488 wd_1 (n9 := 1) (by decide +kernel) rfl ⟨(Nat.le_of_ble_eq_true rfl), (Nat.le_of_ble_eq_true rfl)⟩ hl.1 rfl (Nat.le_of_ble_eq_true rfl) d_N_fork_12 (Nat.le_of_ble_eq_true rfl) (Nat.le_of_ble_eq_true rfl) (fun H locs w => ?_)
    refine lv_if_eq (tgt := 41) hx hb d_N_fork_15 (by decide) (fun hc => ?_) (fun hc => ?_)
    · rw [if_pos hc] at h
      exact hJ41 _ _ _ _ (lv_sub hl [] rfl) w h
    · rw [if_neg hc] at h
      refine lv_aload_n hx hb d_N_fork_18 rfl (lv_at hl 0 rfl) ?_
      refine U_get C0 w 0 (by decide) rfl rfl inN 0 (by decide) wd_339 rfl d_N_fork_19 ?_
      refine lv_iload_n hx hb d_N_fork_22 rfl (lv_at hl 3 rfl) ?_
      obtain ⟨r7, M8, hc9, h⟩ := bind_ok h
      try dsimp only at h
      refine U_vi (rest := []) C0 w 1 (wU_at (by decide)) rfl (c_P_isTarget l D ct q hc9) wd_527 wd_524 wd_525 wd_526 wd_2 (n9 := 1) (by decide +kernel) rfl ⟨(Nat.le_of_ble_eq_true rfl), (Nat.le_of_ble_eq_true rfl)⟩ hl.1 rfl (Nat.le_of_ble_eq_true rfl) d_N_fork_23 (Nat.le_of_ble_eq_true rfl) (Nat.le_of_ble_eq_true rfl) (fun H locs w => ?_)
      refine lv_if_eq (tgt := 41) hx hb d_N_fork_26 (by decide) (fun hc => ?_) (fun hc => ?_)
      · rw [if_pos hc] at h
        exact hJ41 _ _ _ _ (lv_sub hl [] rfl) w h
      · rw [if_neg hc] at h
        refine lv_aload_n hx hb d_N_fork_29 rfl (lv_at hl 0 rfl) ?_
        refine U_get C0 w 0 (by decide) rfl rfl inN 0 (by decide) wd_339 rfl d_N_fork_30 ?_
        refine lv_iload hx hb d_N_fork_33 (lv_at hl 4 rfl) ?_
        obtain ⟨r10, M11, hc12, h⟩ := bind_ok h
        try dsimp only at h
        refine U_vi (rest := []) C0 w 1 (wU_at (by decide)) rfl (c_P_isTarget l D ct q hc12) wd_527 wd_524 wd_525 wd_526 wd_2 (n9 := 1) (by decide +kernel) rfl ⟨(Nat.le_of_ble_eq_true rfl), (Nat.le_of_ble_eq_true rfl)⟩ hl.1 rfl (Nat.le_of_ble_eq_true rfl) d_N_fork_35 (Nat.le_of_ble_eq_true rfl) (Nat.le_of_ble_eq_true rfl) (fun H locs w => ?_)
        refine lv_if_ne (tgt := 51) hx hb d_N_fork_38 (by decide) (fun hc => ?_) (fun hc => ?_)
        · rw [if_neg hc] at h
          refine lv_aload_n hx hb d_N_fork_51 rfl (lv_at hl 0 rfl) ?_
          refine lv_iconst (v := 0) hx hb d_N_fork_52 (by decide) ?_
          obtain ⟨hz13, h⟩ := if_ok h
          obtain ⟨M14, eM14, h⟩ := wr_ok h
          try dsimp only at h
          refine U_put C0 (cX_l ct) w 0 (by decide) rfl rfl inN tyN_ok nmN 6 (by decide) wd_345 rfl (bz_nar hz13) (bz_fit hz13) (Nat.le_of_ble_eq_true rfl) d_N_fork_53 eM14 rfl (fun H locs w => ?_)
          refine lv_aload_n hx hb d_N_fork_56 rfl (lv_at hl 0 rfl) ?_
          refine U_get C0 w 0 (by decide) rfl rfl inN 0 (by decide) wd_339 rfl d_N_fork_57 ?_
          refine lv_iload_n hx hb d_N_fork_60 rfl (lv_at hl 1 rfl) ?_
          refine lv_iconst (v := 2) hx hb d_N_fork_61 (by decide) ?_
          refine lv_iload_n hx hb d_N_fork_62 rfl (lv_at hl 2 rfl) ?_
          refine lv_iload_n hx hb d_N_fork_63 rfl (lv_at hl 3 rfl) ?_
          refine lv_iload hx hb d_N_fork_64 (lv_at hl 4 rfl) ?_
          obtain ⟨r15, M16, hc17, h⟩ := bind_ok h
          try dsimp only at h
          refine U_vv (rest := []) C0 w 1 (wU_at (by decide)) rfl (c_P_setEnd l D ct q hc17) wd_468 wd_530 wd_466 wd_467 wd_2 (n9 := 5) (by decide +kernel) rfl ⟨(Nat.le_of_ble_eq_true rfl), (Nat.le_of_ble_eq_true rfl)⟩ hl.1 rfl (Nat.le_of_ble_eq_true rfl) d_N_fork_66 (Nat.le_of_ble_eq_true rfl) (Nat.le_of_ble_eq_true rfl) (fun H locs w => ?_)
          simp at h
        · rw [if_pos hc] at h
          exact hJ41 _ _ _ _ (lv_sub hl [] rfl) w h
abbrev rx_N_stop_IllegalArgumentException : Room := { frames := 6, cells := 1, slots := 6, locals := 90 }
set_option maxHeartbeats 8000000 in
set_option maxRecDepth 100000 in
theorem x_N_stop_IllegalArgumentException (l : Launch) (htl : l.stackTraces = false) (D : va_G) (ct : Nat → ClassId) (q : Nat → Nat) {x1 : Int32} {M Mz : Sto} {rz : Int32} (h : m_N_stop x1 M = some (1, rz, Mz)) : KXU l D ct y_N_stop b_N_stop 2 none 6 90 [.ref (q 0), .int x1] (wX ct q M) "java/lang/IllegalArgumentException" (wX ct q Mz) := by
  refine KXU.ofB (by decide) (Nat.le_of_ble_eq_true rfl) ?_
  intro p e s m args below meth c A ls C0 hemp hlk hl w
  have hx := C0.1
  have hb := C0.2.1
  have hl : lv_has ls 2 [(0, .ref (q 0)), (1, .int x1)] := hl
  unfold m_N_stop at h
  refine lv_aload_n hx hb d_N_stop_0 rfl (lv_at hl 0 rfl) ?_
  refine U_get C0 w 0 (by decide) rfl rfl inN 0 (by decide) wd_339 rfl d_N_stop_1 ?_
  refine lv_iload_n hx hb d_N_stop_4 rfl (lv_at hl 1 rfl) ?_
  obtain ⟨r1, M2, hc3, h⟩ := bind_ok h
  try dsimp only at h
  refine U_vi (rest := []) C0 w 1 (wU_at (by decide)) rfl (c_P_has l D ct q hc3) wd_480 wd_477 wd_478 wd_479 wd_2 (n9 := 1) (by decide +kernel) rfl ⟨(Nat.le_of_ble_eq_true rfl), (Nat.le_of_ble_eq_true rfl)⟩ hl.1 rfl (Nat.le_of_ble_eq_true rfl) d_N_stop_5 (Nat.le_of_ble_eq_true rfl) (Nat.le_of_ble_eq_true rfl) (fun H locs w => ?_)
  refine lv_if_ne (tgt := 21) hx hb d_N_stop_8 (by decide) (fun hc => ?_) (fun hc => ?_)
  · rw [if_neg hc] at h
    refine lv_aload_n hx hb d_N_stop_21 rfl (lv_at hl 0 rfl) ?_
    refine lv_iconst (v := 0) hx hb d_N_stop_22 (by decide) ?_
    obtain ⟨hz4, h⟩ := if_ok h
    obtain ⟨M5, eM5, h⟩ := wr_ok h
    try dsimp only at h
    refine U_put C0 (cX_l ct) w 0 (by decide) rfl rfl inN tyN_ok nmN 6 (by decide) wd_345 rfl (bz_nar hz4) (bz_fit hz4) (Nat.le_of_ble_eq_true rfl) d_N_stop_23 eM5 rfl (fun H locs w => ?_)
    refine lv_aload_n hx hb d_N_stop_26 rfl (lv_at hl 0 rfl) ?_
    refine U_get C0 w 0 (by decide) rfl rfl inN 0 (by decide) wd_339 rfl d_N_stop_27 ?_
    refine lv_iload_n hx hb d_N_stop_30 rfl (lv_at hl 1 rfl) ?_
    refine lv_iconst (v := 0) hx hb d_N_stop_31 (by decide) ?_
    refine lv_iconst (v := 0) hx hb d_N_stop_32 (by decide) ?_
    refine lv_iconst (v := 0) hx hb d_N_stop_33 (by decide) ?_
    refine lv_iconst (v := 0) hx hb d_N_stop_34 (by decide) ?_
    obtain ⟨r6, M7, hc8, h⟩ := bind_ok h
    try dsimp only at h
    refine U_vv (rest := []) C0 w 1 (wU_at (by decide)) rfl (c_P_setEnd l D ct q hc8) wd_468 wd_530 wd_466 wd_467 wd_2 (n9 := 5) (by decide +kernel) rfl ⟨(Nat.le_of_ble_eq_true rfl), (Nat.le_of_ble_eq_true rfl)⟩ hl.1 rfl (Nat.le_of_ble_eq_true rfl) d_N_stop_35 (Nat.le_of_ble_eq_true rfl) (Nat.le_of_ble_eq_true rfl) (fun H locs w => ?_)
    simp at h
  · rw [if_pos hc] at h
    cases h
    exact R_throwU C0 w htl (ix := ix_IllegalArgumentException) (rx := rx_IllegalArgumentException) (names := up_IllegalArgumentException) (tx := "no such block") xa_IllegalArgumentException xb_IllegalArgumentException xc_IllegalArgumentException xd_IllegalArgumentException (by decide) (by decide) rfl at_IllegalArgumentException wd_496 wd_13 wd_497 (by decide) hl.1 d_N_stop_11 d_N_stop_14 d_N_stop_15 d_N_stop_17 d_N_stop_20 hemp hlk (Nat.le_of_ble_eq_true rfl) (Nat.le_of_ble_eq_true rfl) (Nat.le_of_ble_eq_true rfl) (Nat.le_of_ble_eq_true rfl)
abbrev rx_N_build_IllegalStateException : Room := { frames := 6, cells := 1, slots := 6, locals := 131 }
set_option maxHeartbeats 8000000 in
set_option maxRecDepth 100000 in
theorem x_N_build_IllegalStateException (l : Launch) (htl : l.stackTraces = false) (D : va_G) (ct : Nat → ClassId) (q : Nat → Nat) {M Mz : Sto} {rz : Int32} (h : m_N_build M = some (2, rz, Mz)) : KXU l D ct y_N_build b_N_build 1 (some .int) 6 131 [.ref (q 0)] (wX ct q M) "java/lang/IllegalStateException" (wX ct q Mz) := by
  refine KXU.ofB (by decide) (Nat.le_of_ble_eq_true rfl) ?_
  intro p e s m args below meth c A ls C0 hemp hlk hl w
  have hx := C0.1
  have hb := C0.2.1
  have hl : lv_has ls 1 [(0, .ref (q 0))] := hl
  unfold m_N_build at h
  refine lv_aload_n hx hb d_N_build_0 rfl (lv_at hl 0 rfl) ?_
  refine U_get C0 w 0 (by decide) rfl rfl inN 0 (by decide) wd_339 rfl d_N_build_1 ?_
  refine U_get C0 w 1 (by decide) rfl rfl inP 0 (by decide) wd_33 rfl d_N_build_4 ?_
  refine lv_if_ne (tgt := 20) hx hb d_N_build_7 (by decide) (fun hc => ?_) (fun hc => ?_)
  · rw [if_neg hc] at h
    refine lv_aload_n hx hb d_N_build_20 rfl (lv_at hl 0 rfl) ?_
    refine U_get C0 w 0 (by decide) rfl rfl inN 1 (by decide) wd_340 rfl d_N_build_21 ?_
    obtain ⟨r1, M2, hc3, h⟩ := bind_ok h
    try dsimp only at h
    refine U_vv (rest := []) C0 w 2 (wU_at (by decide)) rfl (c_S_survey l D ct q hc3) wd_558 wd_555 wd_556 wd_557 wd_3 (n9 := 0) (by decide +kernel) rfl ⟨(Nat.le_of_ble_eq_true rfl), (Nat.le_of_ble_eq_true rfl)⟩ hl.1 rfl (Nat.le_of_ble_eq_true rfl) d_N_build_24 (Nat.le_of_ble_eq_true rfl) (Nat.le_of_ble_eq_true rfl) (fun H locs w => ?_)
    refine lv_aload_n hx hb d_N_build_27 rfl (lv_at hl 0 rfl) ?_
    refine U_get C0 w 0 (by decide) rfl rfl inN 2 (by decide) wd_341 rfl d_N_build_28 ?_
    obtain ⟨r4, M5, hc6, h⟩ := bind_ok h
    try dsimp only at h
    refine U_vv (rest := []) C0 w 3 (wU_at (by decide)) rfl (c_G_nameAll l D ct q hc6) wd_594 wd_591 wd_592 wd_593 wd_4 (n9 := 0) (by decide +kernel) rfl ⟨(Nat.le_of_ble_eq_true rfl), (Nat.le_of_ble_eq_true rfl)⟩ hl.1 rfl (Nat.le_of_ble_eq_true rfl) d_N_build_31 (Nat.le_of_ble_eq_true rfl) (Nat.le_of_ble_eq_true rfl) (fun H locs w => ?_)
    refine lv_aload_n hx hb d_N_build_34 rfl (lv_at hl 0 rfl) ?_
    refine U_get C0 w 0 (by decide) rfl rfl inN 3 (by decide) wd_342 rfl d_N_build_35 ?_
    obtain ⟨r7, M8, hc9, h⟩ := bind_ok h
    try dsimp only at h
    refine U_vv (rest := []) C0 w 4 (wU_at (by decide)) rfl (c_K_settle l D ct q hc9) wd_630 wd_627 wd_628 wd_629 wd_5 (n9 := 0) (by decide +kernel) rfl ⟨(Nat.le_of_ble_eq_true rfl), (Nat.le_of_ble_eq_true rfl)⟩ hl.1 rfl (Nat.le_of_ble_eq_true rfl) d_N_build_38 (Nat.le_of_ble_eq_true rfl) (Nat.le_of_ble_eq_true rfl) (fun H locs w => ?_)
    refine lv_aload_n hx hb d_N_build_41 rfl (lv_at hl 0 rfl) ?_
    refine U_get C0 w 0 (by decide) rfl rfl inN 4 (by decide) wd_343 rfl d_N_build_42 ?_
    obtain ⟨r10, M11, hc12, h⟩ := bind_ok h
    try dsimp only at h
    refine U_vv (rest := []) C0 w 5 (wU_at (by decide)) rfl (c_D_collect l D ct q hc12) wd_669 wd_666 wd_667 wd_668 wd_6 (n9 := 0) (by decide +kernel) rfl ⟨(Nat.le_of_ble_eq_true rfl), (Nat.le_of_ble_eq_true rfl)⟩ hl.1 rfl (Nat.le_of_ble_eq_true rfl) d_N_build_45 (Nat.le_of_ble_eq_true rfl) (Nat.le_of_ble_eq_true rfl) (fun H locs w => ?_)
    refine lv_aload_n hx hb d_N_build_48 rfl (lv_at hl 0 rfl) ?_
    refine lv_iconst (v := 1) hx hb d_N_build_49 (by decide) ?_
    obtain ⟨hz13, h⟩ := if_ok h
    obtain ⟨M14, eM14, h⟩ := wr_ok h
    try dsimp only at h
    refine U_put C0 (cX_l ct) w 0 (by decide) rfl rfl inN tyN_ok nmN 6 (by decide) wd_345 rfl (bz_nar hz13) (bz_fit hz13) (Nat.le_of_ble_eq_true rfl) d_N_build_50 eM14 rfl (fun H locs w => ?_)
    refine lv_aload_n hx hb d_N_build_53 rfl (lv_at hl 0 rfl) ?_
    refine U_get C0 w 0 (by decide) rfl rfl inN 2 (by decide) wd_341 rfl d_N_build_54 ?_
    refine U_get C0 w 3 (by decide) rfl rfl inG 2 (by decide) wd_147 rfl d_N_build_57 ?_
    simp at h
  · rw [if_pos hc] at h
    cases h
    exact R_throwU C0 w htl (ix := ix_IllegalStateException) (rx := rx_IllegalStateException) (names := up_IllegalStateException) (tx := "there is no block") xa_IllegalStateException xb_IllegalStateException xc_IllegalStateException xd_IllegalStateException (by decide) (by decide) rfl at_IllegalStateException wd_393 wd_12 wd_394 (by decide) hl.1 d_N_build_10 d_N_build_13 d_N_build_14 d_N_build_16 d_N_build_19 hemp hlk (Nat.le_of_ble_eq_true rfl) (Nat.le_of_ble_eq_true rfl) (Nat.le_of_ble_eq_true rfl) (Nat.le_of_ble_eq_true rfl)
abbrev rx_N_look_IllegalStateException : Room := { frames := 6, cells := 1, slots := 6, locals := 90 }
set_option maxHeartbeats 8000000 in
set_option maxRecDepth 100000 in
theorem x_N_look_IllegalStateException (l : Launch) (htl : l.stackTraces = false) (D : va_G) (ct : Nat → ClassId) (q : Nat → Nat) {x1 x2 : Int32} {M Mz : Sto} {rz : Int32} (h : m_N_look x1 x2 M = some (2, rz, Mz)) : KXU l D ct y_N_look b_N_look 3 (some .int) 6 90 [.ref (q 0), .int x1, .int x2] (wX ct q M) "java/lang/IllegalStateException" (wX ct q Mz) := by
  refine KXU.ofB (by decide) (Nat.le_of_ble_eq_true rfl) ?_
  intro p e s m args below meth c A ls C0 hemp hlk hl w
  have hx := C0.1
  have hb := C0.2.1
  have hl : lv_has ls 3 [(0, .ref (q 0)), (1, .int x1), (2, .int x2)] := hl
  unfold m_N_look at h
  refine lv_aload_n hx hb d_N_look_0 rfl (lv_at hl 0 rfl) ?_
  refine U_get C0 w 0 (by decide) rfl rfl inN 0 (by decide) wd_339 rfl d_N_look_1 ?_
  refine lv_iload_n hx hb d_N_look_4 rfl (lv_at hl 1 rfl) ?_
  obtain ⟨r1, M2, hc3, h⟩ := bind_ok h
  try dsimp only at h
  refine U_vi (rest := []) C0 w 1 (wU_at (by decide)) rfl (c_P_has l D ct q hc3) wd_480 wd_477 wd_478 wd_479 wd_2 (n9 := 1) (by decide +kernel) rfl ⟨(Nat.le_of_ble_eq_true rfl), (Nat.le_of_ble_eq_true rfl)⟩ hl.1 rfl (Nat.le_of_ble_eq_true rfl) d_N_look_5 (Nat.le_of_ble_eq_true rfl) (Nat.le_of_ble_eq_true rfl) (fun H locs w => ?_)
  have hJ20 : ∀ (M : Sto) (H : Heap) (locs : List Loc) (ls : Array Slot), lv_has ls 3 [] → Wd D A s (wX ct q M) H locs → j_N_look_20 M = some (2, rz, Mz) → W p l e rx_N_look_IllegalStateException s m args below meth c H locs 0 0 (XQU D (wX ct q Mz) A below "java/lang/IllegalStateException" s) (F0 m 20 ls []) := by
    intro M H locs ls hl w h
    unfold j_N_look_20 at h
    simp at h
  refine lv_if_eq (tgt := 20) hx hb d_N_look_8 (by decide) (fun hc => ?_) (fun hc => ?_)
  · rw [if_pos hc] at h
    exact hJ20 _ _ _ _ (lv_sub hl [] rfl) w h
  · rw [if_neg hc] at h
    refine lv_iload_n hx hb d_N_look_11 rfl (lv_at hl 2 rfl) ?_
    refine lv_if_lt (tgt := 20) hx hb d_N_look_12 (by decide) (fun hc => ?_) (fun hc => ?_)
    · rw [if_pos hc] at h
      exact hJ20 _ _ _ _ (lv_sub hl [] rfl) w h
    · rw [if_neg hc] at h
      refine lv_iload_n hx hb d_N_look_15 rfl (lv_at hl 2 rfl) ?_
      refine lv_iconst (v := 5) hx hb d_N_look_16 (by decide) ?_
      refine lv_icmp_le (tgt := 30) hx hb d_N_look_17 (by decide) (fun hc => ?_) (fun hc => ?_)
      · rw [if_pos hc] at h
        refine lv_aload_n hx hb d_N_look_30 rfl (lv_at hl 0 rfl) ?_
        refine U_get C0 w 0 (by decide) rfl rfl inN 6 (by decide) wd_345 rfl d_N_look_31 ?_
        refine lv_if_ne (tgt := 47) hx hb d_N_look_34 (by decide) (fun hc => ?_) (fun hc => ?_)
        · rw [if_neg hc] at h
          refine lv_iload_n hx hb d_N_look_47 rfl (lv_at hl 2 rfl) ?_
          refine Decidable.byCases (p := x2 = 0) (fun hc4 => ?_) (fun hc4 => ?_)
          · rw [if_pos hc4] at h
            refine lv_tableIn (off := 36) (tgt := 84) hx hb d_N_look_48 (by rw [hc4]; decide) (by rw [hc4]; decide) (by rw [hc4]; decide) (by decide) ?_
            refine lv_aload_n hx hb d_N_look_84 rfl (lv_at hl 0 rfl) ?_
            refine U_get C0 w 0 (by decide) rfl rfl inN 1 (by decide) wd_340 rfl d_N_look_85 ?_
            refine U_get C0 w 2 (by decide) rfl rfl inS 1 (by decide) wd_102 rfl d_N_look_88 ?_
            refine lv_iload_n hx hb d_N_look_91 rfl (lv_at hl 1 rfl) ?_
            obtain ⟨r5, M6, hc7, h⟩ := bind_ok h
            try dsimp only at h
            refine U_si (rest := []) C0 w (c_N_holds l D ct q hc7) wd_568 wd_713 wd_567 wd_1 (n9 := 2) (by decide +kernel) rfl ⟨(Nat.le_of_ble_eq_true rfl), (Nat.le_of_ble_eq_true rfl)⟩ hl.1 rfl (Nat.le_of_ble_eq_true rfl) d_N_look_92 (Nat.le_of_ble_eq_true rfl) (Nat.le_of_ble_eq_true rfl) (fun H locs w => ?_)
            have hJ103 : ∀ (s0 : Int32) (M : Sto) (H : Heap) (locs : List Loc) (ls : Array Slot), lv_has ls 3 [] → Wd D A s (wX ct q M) H locs → j_N_look_103 s0 M = some (2, rz, Mz) → W p l e rx_N_look_IllegalStateException s m args below meth c H locs 0 0 (XQU D (wX ct q Mz) A below "java/lang/IllegalStateException" s) (F0 m 103 ls [.int s0]) := by
              intro s0 M H locs ls hl w h
              unfold j_N_look_103 at h
              simp at h
            refine lv_if_eq (tgt := 102) hx hb d_N_look_95 (by decide) (fun hc => ?_) (fun hc => ?_)
            · rw [if_pos hc] at h
              refine lv_iconst (v := 0) hx hb d_N_look_102 (by decide) ?_
              exact hJ103 _ _ _ _ _ (lv_sub hl [] rfl) w h
            · rw [if_neg hc] at h
              refine lv_iconst (v := 1) hx hb d_N_look_98 (by decide) ?_
              refine lv_goto (tgt := 103) hx hb d_N_look_99 (by decide) ?_
              exact hJ103 _ _ _ _ _ (lv_sub hl [] rfl) w h
          · rw [if_neg hc4] at h
            refine Decidable.byCases (p := x2 = 1) (fun hc8 => ?_) (fun hc8 => ?_)
            · rw [if_pos hc8] at h
              refine lv_tableIn (off := 56) (tgt := 104) hx hb d_N_look_48 (by rw [hc8]; decide) (by rw [hc8]; decide) (by rw [hc8]; decide) (by decide) ?_
              refine lv_aload_n hx hb d_N_look_104 rfl (lv_at hl 0 rfl) ?_
              refine U_get C0 w 0 (by decide) rfl rfl inN 1 (by decide) wd_340 rfl d_N_look_105 ?_
              refine U_get C0 w 2 (by decide) rfl rfl inS 4 (by decide) wd_108 rfl d_N_look_108 ?_
              refine lv_iload_n hx hb d_N_look_111 rfl (lv_at hl 1 rfl) ?_
              obtain ⟨hi9, h⟩ := if_ok h
              refine U_ald C0 w (iX_14 ct) hi9 d_N_look_112 ?_
              simp at h
            · rw [if_neg hc8] at h
              refine Decidable.byCases (p := x2 = 2) (fun hc10 => ?_) (fun hc10 => ?_)
              · rw [if_pos hc10] at h
                refine lv_tableIn (off := 66) (tgt := 114) hx hb d_N_look_48 (by rw [hc10]; decide) (by rw [hc10]; decide) (by rw [hc10]; decide) (by decide) ?_
                refine lv_aload_n hx hb d_N_look_114 rfl (lv_at hl 0 rfl) ?_
                refine U_get C0 w 0 (by decide) rfl rfl inN 2 (by decide) wd_341 rfl d_N_look_115 ?_
                refine U_get C0 w 3 (by decide) rfl rfl inG 3 (by decide) wd_151 rfl d_N_look_118 ?_
                refine lv_iload_n hx hb d_N_look_121 rfl (lv_at hl 1 rfl) ?_
                obtain ⟨hi11, h⟩ := if_ok h
                refine U_ald C0 w (iX_18 ct) hi11 d_N_look_122 ?_
                refine U_bits (rest := []) C0 w wd_714 d_N_look_123 hl.1 ⟨(Nat.le_of_ble_eq_true rfl), (Nat.le_of_ble_eq_true rfl)⟩ (Nat.le_of_ble_eq_true rfl) ?_
                simp at h
              · rw [if_neg hc10] at h
                refine Decidable.byCases (p := x2 = 3) (fun hc12 => ?_) (fun hc12 => ?_)
                · rw [if_pos hc12] at h
                  refine lv_tableIn (off := 79) (tgt := 127) hx hb d_N_look_48 (by rw [hc12]; decide) (by rw [hc12]; decide) (by rw [hc12]; decide) (by decide) ?_
                  refine lv_aload_n hx hb d_N_look_127 rfl (lv_at hl 0 rfl) ?_
                  refine U_get C0 w 0 (by decide) rfl rfl inN 3 (by decide) wd_342 rfl d_N_look_128 ?_
                  refine U_get C0 w 4 (by decide) rfl rfl inK 3 (by decide) wd_229 rfl d_N_look_131 ?_
                  refine lv_iload_n hx hb d_N_look_134 rfl (lv_at hl 1 rfl) ?_
                  obtain ⟨r13, M14, hc15, h⟩ := bind_ok h
                  try dsimp only at h
                  refine U_si (rest := []) C0 w (c_N_holds l D ct q hc15) wd_568 wd_713 wd_567 wd_1 (n9 := 2) (by decide +kernel) rfl ⟨(Nat.le_of_ble_eq_true rfl), (Nat.le_of_ble_eq_true rfl)⟩ hl.1 rfl (Nat.le_of_ble_eq_true rfl) d_N_look_135 (Nat.le_of_ble_eq_true rfl) (Nat.le_of_ble_eq_true rfl) (fun H locs w => ?_)
                  have hJ146 : ∀ (s0 : Int32) (M : Sto) (H : Heap) (locs : List Loc) (ls : Array Slot), lv_has ls 3 [] → Wd D A s (wX ct q M) H locs → j_N_look_146 s0 M = some (2, rz, Mz) → W p l e rx_N_look_IllegalStateException s m args below meth c H locs 0 0 (XQU D (wX ct q Mz) A below "java/lang/IllegalStateException" s) (F0 m 146 ls [.int s0]) := by
                    intro s0 M H locs ls hl w h
                    unfold j_N_look_146 at h
                    simp at h
                  refine lv_if_eq (tgt := 145) hx hb d_N_look_138 (by decide) (fun hc => ?_) (fun hc => ?_)
                  · rw [if_pos hc] at h
                    refine lv_iconst (v := 0) hx hb d_N_look_145 (by decide) ?_
                    exact hJ146 _ _ _ _ _ (lv_sub hl [] rfl) w h
                  · rw [if_neg hc] at h
                    refine lv_iconst (v := 1) hx hb d_N_look_141 (by decide) ?_
                    refine lv_goto (tgt := 146) hx hb d_N_look_142 (by decide) ?_
                    exact hJ146 _ _ _ _ _ (lv_sub hl [] rfl) w h
                · rw [if_neg hc12] at h
                  refine Decidable.byCases (p := x2 = 4) (fun hc16 => ?_) (fun hc16 => ?_)
                  · rw [if_pos hc16] at h
                    refine lv_tableIn (off := 99) (tgt := 147) hx hb d_N_look_48 (by rw [hc16]; decide) (by rw [hc16]; decide) (by rw [hc16]; decide) (by decide) ?_
                    refine lv_aload_n hx hb d_N_look_147 rfl (lv_at hl 0 rfl) ?_
                    refine U_get C0 w 0 (by decide) rfl rfl inN 0 (by decide) wd_339 rfl d_N_look_148 ?_
                    refine U_get C0 w 1 (by decide) rfl rfl inP 1 (by decide) wd_41 rfl d_N_look_151 ?_
                    refine lv_iload_n hx hb d_N_look_154 rfl (lv_at hl 1 rfl) ?_
                    obtain ⟨hi17, h⟩ := if_ok h
                    refine U_ald C0 w (iX_7 ct) hi17 d_N_look_155 ?_
                    simp at h
                  · rw [if_neg hc16] at h
                    refine lv_tableOut (tgt := 157) hx hb d_N_look_48 (sw_o_0_4 hc4 hc8 hc10 hc12 hc16) (by decide) ?_
                    refine lv_aload_n hx hb d_N_look_157 rfl (lv_at hl 0 rfl) ?_
                    refine U_get C0 w 0 (by decide) rfl rfl inN 2 (by decide) wd_341 rfl d_N_look_158 ?_
                    refine U_get C0 w 3 (by decide) rfl rfl inG 10 (by decide) wd_181 rfl d_N_look_161 ?_
                    refine lv_iload_n hx hb d_N_look_164 rfl (lv_at hl 1 rfl) ?_
                    obtain ⟨hi18, h⟩ := if_ok h
                    refine U_ald C0 w (iX_20 ct) hi18 d_N_look_165 ?_
                    simp at h
        · rw [if_pos hc] at h
          cases h
          exact R_throwU C0 w htl (ix := ix_IllegalStateException) (rx := rx_IllegalStateException) (names := up_IllegalStateException) (tx := "it is not built") xa_IllegalStateException xb_IllegalStateException xc_IllegalStateException xd_IllegalStateException (by decide) (by decide) rfl at_IllegalStateException wd_393 wd_12 wd_394 (by decide) hl.1 d_N_look_37 d_N_look_40 d_N_look_41 d_N_look_43 d_N_look_46 hemp hlk (Nat.le_of_ble_eq_true rfl) (Nat.le_of_ble_eq_true rfl) (Nat.le_of_ble_eq_true rfl) (Nat.le_of_ble_eq_true rfl)
      · rw [if_neg hc] at h
        exact hJ20 _ _ _ _ (lv_sub hl [] rfl) w h
abbrev rx_N_look_NoSuchElementException : Room := { frames := 6, cells := 1, slots := 6, locals := 90 }
set_option maxHeartbeats 8000000 in
set_option maxRecDepth 100000 in
theorem x_N_look_NoSuchElementException (l : Launch) (htl : l.stackTraces = false) (D : va_G) (ct : Nat → ClassId) (q : Nat → Nat) {x1 x2 : Int32} {M Mz : Sto} {rz : Int32} (h : m_N_look x1 x2 M = some (3, rz, Mz)) : KXU l D ct y_N_look b_N_look 3 (some .int) 6 90 [.ref (q 0), .int x1, .int x2] (wX ct q M) "java/util/NoSuchElementException" (wX ct q Mz) := by
  refine KXU.ofB (by decide) (Nat.le_of_ble_eq_true rfl) ?_
  intro p e s m args below meth c A ls C0 hemp hlk hl w
  have hx := C0.1
  have hb := C0.2.1
  have hl : lv_has ls 3 [(0, .ref (q 0)), (1, .int x1), (2, .int x2)] := hl
  unfold m_N_look at h
  refine lv_aload_n hx hb d_N_look_0 rfl (lv_at hl 0 rfl) ?_
  refine U_get C0 w 0 (by decide) rfl rfl inN 0 (by decide) wd_339 rfl d_N_look_1 ?_
  refine lv_iload_n hx hb d_N_look_4 rfl (lv_at hl 1 rfl) ?_
  obtain ⟨r1, M2, hc3, h⟩ := bind_ok h
  try dsimp only at h
  refine U_vi (rest := []) C0 w 1 (wU_at (by decide)) rfl (c_P_has l D ct q hc3) wd_480 wd_477 wd_478 wd_479 wd_2 (n9 := 1) (by decide +kernel) rfl ⟨(Nat.le_of_ble_eq_true rfl), (Nat.le_of_ble_eq_true rfl)⟩ hl.1 rfl (Nat.le_of_ble_eq_true rfl) d_N_look_5 (Nat.le_of_ble_eq_true rfl) (Nat.le_of_ble_eq_true rfl) (fun H locs w => ?_)
  have hJ20 : ∀ (M : Sto) (H : Heap) (locs : List Loc) (ls : Array Slot), lv_has ls 3 [] → Wd D A s (wX ct q M) H locs → j_N_look_20 M = some (3, rz, Mz) → W p l e rx_N_look_NoSuchElementException s m args below meth c H locs 0 0 (XQU D (wX ct q Mz) A below "java/util/NoSuchElementException" s) (F0 m 20 ls []) := by
    intro M H locs ls hl w h
    unfold j_N_look_20 at h
    cases h
    exact R_throwU C0 w htl (ix := ix_NoSuchElementException) (rx := rx_NoSuchElementException) (names := up_NoSuchElementException) (tx := "no such block or what") xa_NoSuchElementException xb_NoSuchElementException xc_NoSuchElementException xd_NoSuchElementException (by decide) (by decide) rfl at_NoSuchElementException wd_696 wd_15 wd_697 (by decide) hl.1 d_N_look_20 d_N_look_23 d_N_look_24 d_N_look_26 d_N_look_29 hemp hlk (Nat.le_of_ble_eq_true rfl) (Nat.le_of_ble_eq_true rfl) (Nat.le_of_ble_eq_true rfl) (Nat.le_of_ble_eq_true rfl)
  refine lv_if_eq (tgt := 20) hx hb d_N_look_8 (by decide) (fun hc => ?_) (fun hc => ?_)
  · rw [if_pos hc] at h
    exact hJ20 _ _ _ _ (lv_sub hl [] rfl) w h
  · rw [if_neg hc] at h
    refine lv_iload_n hx hb d_N_look_11 rfl (lv_at hl 2 rfl) ?_
    refine lv_if_lt (tgt := 20) hx hb d_N_look_12 (by decide) (fun hc => ?_) (fun hc => ?_)
    · rw [if_pos hc] at h
      exact hJ20 _ _ _ _ (lv_sub hl [] rfl) w h
    · rw [if_neg hc] at h
      refine lv_iload_n hx hb d_N_look_15 rfl (lv_at hl 2 rfl) ?_
      refine lv_iconst (v := 5) hx hb d_N_look_16 (by decide) ?_
      refine lv_icmp_le (tgt := 30) hx hb d_N_look_17 (by decide) (fun hc => ?_) (fun hc => ?_)
      · rw [if_pos hc] at h
        refine lv_aload_n hx hb d_N_look_30 rfl (lv_at hl 0 rfl) ?_
        refine U_get C0 w 0 (by decide) rfl rfl inN 6 (by decide) wd_345 rfl d_N_look_31 ?_
        refine lv_if_ne (tgt := 47) hx hb d_N_look_34 (by decide) (fun hc => ?_) (fun hc => ?_)
        · rw [if_neg hc] at h
          refine lv_iload_n hx hb d_N_look_47 rfl (lv_at hl 2 rfl) ?_
          refine Decidable.byCases (p := x2 = 0) (fun hc4 => ?_) (fun hc4 => ?_)
          · rw [if_pos hc4] at h
            refine lv_tableIn (off := 36) (tgt := 84) hx hb d_N_look_48 (by rw [hc4]; decide) (by rw [hc4]; decide) (by rw [hc4]; decide) (by decide) ?_
            refine lv_aload_n hx hb d_N_look_84 rfl (lv_at hl 0 rfl) ?_
            refine U_get C0 w 0 (by decide) rfl rfl inN 1 (by decide) wd_340 rfl d_N_look_85 ?_
            refine U_get C0 w 2 (by decide) rfl rfl inS 1 (by decide) wd_102 rfl d_N_look_88 ?_
            refine lv_iload_n hx hb d_N_look_91 rfl (lv_at hl 1 rfl) ?_
            obtain ⟨r5, M6, hc7, h⟩ := bind_ok h
            try dsimp only at h
            refine U_si (rest := []) C0 w (c_N_holds l D ct q hc7) wd_568 wd_713 wd_567 wd_1 (n9 := 2) (by decide +kernel) rfl ⟨(Nat.le_of_ble_eq_true rfl), (Nat.le_of_ble_eq_true rfl)⟩ hl.1 rfl (Nat.le_of_ble_eq_true rfl) d_N_look_92 (Nat.le_of_ble_eq_true rfl) (Nat.le_of_ble_eq_true rfl) (fun H locs w => ?_)
            have hJ103 : ∀ (s0 : Int32) (M : Sto) (H : Heap) (locs : List Loc) (ls : Array Slot), lv_has ls 3 [] → Wd D A s (wX ct q M) H locs → j_N_look_103 s0 M = some (3, rz, Mz) → W p l e rx_N_look_NoSuchElementException s m args below meth c H locs 0 0 (XQU D (wX ct q Mz) A below "java/util/NoSuchElementException" s) (F0 m 103 ls [.int s0]) := by
              intro s0 M H locs ls hl w h
              unfold j_N_look_103 at h
              simp at h
            refine lv_if_eq (tgt := 102) hx hb d_N_look_95 (by decide) (fun hc => ?_) (fun hc => ?_)
            · rw [if_pos hc] at h
              refine lv_iconst (v := 0) hx hb d_N_look_102 (by decide) ?_
              exact hJ103 _ _ _ _ _ (lv_sub hl [] rfl) w h
            · rw [if_neg hc] at h
              refine lv_iconst (v := 1) hx hb d_N_look_98 (by decide) ?_
              refine lv_goto (tgt := 103) hx hb d_N_look_99 (by decide) ?_
              exact hJ103 _ _ _ _ _ (lv_sub hl [] rfl) w h
          · rw [if_neg hc4] at h
            refine Decidable.byCases (p := x2 = 1) (fun hc8 => ?_) (fun hc8 => ?_)
            · rw [if_pos hc8] at h
              refine lv_tableIn (off := 56) (tgt := 104) hx hb d_N_look_48 (by rw [hc8]; decide) (by rw [hc8]; decide) (by rw [hc8]; decide) (by decide) ?_
              refine lv_aload_n hx hb d_N_look_104 rfl (lv_at hl 0 rfl) ?_
              refine U_get C0 w 0 (by decide) rfl rfl inN 1 (by decide) wd_340 rfl d_N_look_105 ?_
              refine U_get C0 w 2 (by decide) rfl rfl inS 4 (by decide) wd_108 rfl d_N_look_108 ?_
              refine lv_iload_n hx hb d_N_look_111 rfl (lv_at hl 1 rfl) ?_
              obtain ⟨hi9, h⟩ := if_ok h
              refine U_ald C0 w (iX_14 ct) hi9 d_N_look_112 ?_
              simp at h
            · rw [if_neg hc8] at h
              refine Decidable.byCases (p := x2 = 2) (fun hc10 => ?_) (fun hc10 => ?_)
              · rw [if_pos hc10] at h
                refine lv_tableIn (off := 66) (tgt := 114) hx hb d_N_look_48 (by rw [hc10]; decide) (by rw [hc10]; decide) (by rw [hc10]; decide) (by decide) ?_
                refine lv_aload_n hx hb d_N_look_114 rfl (lv_at hl 0 rfl) ?_
                refine U_get C0 w 0 (by decide) rfl rfl inN 2 (by decide) wd_341 rfl d_N_look_115 ?_
                refine U_get C0 w 3 (by decide) rfl rfl inG 3 (by decide) wd_151 rfl d_N_look_118 ?_
                refine lv_iload_n hx hb d_N_look_121 rfl (lv_at hl 1 rfl) ?_
                obtain ⟨hi11, h⟩ := if_ok h
                refine U_ald C0 w (iX_18 ct) hi11 d_N_look_122 ?_
                refine U_bits (rest := []) C0 w wd_714 d_N_look_123 hl.1 ⟨(Nat.le_of_ble_eq_true rfl), (Nat.le_of_ble_eq_true rfl)⟩ (Nat.le_of_ble_eq_true rfl) ?_
                simp at h
              · rw [if_neg hc10] at h
                refine Decidable.byCases (p := x2 = 3) (fun hc12 => ?_) (fun hc12 => ?_)
                · rw [if_pos hc12] at h
                  refine lv_tableIn (off := 79) (tgt := 127) hx hb d_N_look_48 (by rw [hc12]; decide) (by rw [hc12]; decide) (by rw [hc12]; decide) (by decide) ?_
                  refine lv_aload_n hx hb d_N_look_127 rfl (lv_at hl 0 rfl) ?_
                  refine U_get C0 w 0 (by decide) rfl rfl inN 3 (by decide) wd_342 rfl d_N_look_128 ?_
                  refine U_get C0 w 4 (by decide) rfl rfl inK 3 (by decide) wd_229 rfl d_N_look_131 ?_
                  refine lv_iload_n hx hb d_N_look_134 rfl (lv_at hl 1 rfl) ?_
                  obtain ⟨r13, M14, hc15, h⟩ := bind_ok h
                  try dsimp only at h
                  refine U_si (rest := []) C0 w (c_N_holds l D ct q hc15) wd_568 wd_713 wd_567 wd_1 (n9 := 2) (by decide +kernel) rfl ⟨(Nat.le_of_ble_eq_true rfl), (Nat.le_of_ble_eq_true rfl)⟩ hl.1 rfl (Nat.le_of_ble_eq_true rfl) d_N_look_135 (Nat.le_of_ble_eq_true rfl) (Nat.le_of_ble_eq_true rfl) (fun H locs w => ?_)
                  have hJ146 : ∀ (s0 : Int32) (M : Sto) (H : Heap) (locs : List Loc) (ls : Array Slot), lv_has ls 3 [] → Wd D A s (wX ct q M) H locs → j_N_look_146 s0 M = some (3, rz, Mz) → W p l e rx_N_look_NoSuchElementException s m args below meth c H locs 0 0 (XQU D (wX ct q Mz) A below "java/util/NoSuchElementException" s) (F0 m 146 ls [.int s0]) := by
                    intro s0 M H locs ls hl w h
                    unfold j_N_look_146 at h
                    simp at h
                  refine lv_if_eq (tgt := 145) hx hb d_N_look_138 (by decide) (fun hc => ?_) (fun hc => ?_)
                  · rw [if_pos hc] at h
                    refine lv_iconst (v := 0) hx hb d_N_look_145 (by decide) ?_
                    exact hJ146 _ _ _ _ _ (lv_sub hl [] rfl) w h
                  · rw [if_neg hc] at h
                    refine lv_iconst (v := 1) hx hb d_N_look_141 (by decide) ?_
                    refine lv_goto (tgt := 146) hx hb d_N_look_142 (by decide) ?_
                    exact hJ146 _ _ _ _ _ (lv_sub hl [] rfl) w h
                · rw [if_neg hc12] at h
                  refine Decidable.byCases (p := x2 = 4) (fun hc16 => ?_) (fun hc16 => ?_)
                  · rw [if_pos hc16] at h
                    refine lv_tableIn (off := 99) (tgt := 147) hx hb d_N_look_48 (by rw [hc16]; decide) (by rw [hc16]; decide) (by rw [hc16]; decide) (by decide) ?_
                    refine lv_aload_n hx hb d_N_look_147 rfl (lv_at hl 0 rfl) ?_
                    refine U_get C0 w 0 (by decide) rfl rfl inN 0 (by decide) wd_339 rfl d_N_look_148 ?_
                    refine U_get C0 w 1 (by decide) rfl rfl inP 1 (by decide) wd_41 rfl d_N_look_151 ?_
                    refine lv_iload_n hx hb d_N_look_154 rfl (lv_at hl 1 rfl) ?_
                    obtain ⟨hi17, h⟩ := if_ok h
                    refine U_ald C0 w (iX_7 ct) hi17 d_N_look_155 ?_
                    simp at h
                  · rw [if_neg hc16] at h
                    refine lv_tableOut (tgt := 157) hx hb d_N_look_48 (sw_o_0_4 hc4 hc8 hc10 hc12 hc16) (by decide) ?_
                    refine lv_aload_n hx hb d_N_look_157 rfl (lv_at hl 0 rfl) ?_
                    refine U_get C0 w 0 (by decide) rfl rfl inN 2 (by decide) wd_341 rfl d_N_look_158 ?_
                    refine U_get C0 w 3 (by decide) rfl rfl inG 10 (by decide) wd_181 rfl d_N_look_161 ?_
                    refine lv_iload_n hx hb d_N_look_164 rfl (lv_at hl 1 rfl) ?_
                    obtain ⟨hi18, h⟩ := if_ok h
                    refine U_ald C0 w (iX_20 ct) hi18 d_N_look_165 ?_
                    simp at h
        · rw [if_pos hc] at h
          simp at h
      · rw [if_neg hc] at h
        exact hJ20 _ _ _ _ (lv_sub hl [] rfl) w h
abbrev rx_N_phi_IllegalStateException : Room := { frames := 6, cells := 1, slots := 6, locals := 90 }
set_option maxHeartbeats 8000000 in
set_option maxRecDepth 100000 in
theorem x_N_phi_IllegalStateException (l : Launch) (htl : l.stackTraces = false) (D : va_G) (ct : Nat → ClassId) (q : Nat → Nat) {x1 x2 x3 : Int32} {M Mz : Sto} {rz : Int32} (h : m_N_phi x1 x2 x3 M = some (2, rz, Mz)) : KXU l D ct y_N_phi b_N_phi 5 (some .int) 6 90 [.ref (q 0), .int x1, .int x2, .int x3] (wX ct q M) "java/lang/IllegalStateException" (wX ct q Mz) := by
  refine KXU.ofB (by decide) (Nat.le_of_ble_eq_true rfl) ?_
  intro p e s m args below meth c A ls C0 hemp hlk hl w
  have hx := C0.1
  have hb := C0.2.1
  have hl : lv_has ls 5 [(0, .ref (q 0)), (1, .int x1), (2, .int x2), (3, .int x3)] := hl
  unfold m_N_phi at h
  refine lv_aload_n hx hb d_N_phi_0 rfl (lv_at hl 0 rfl) ?_
  refine U_get C0 w 0 (by decide) rfl rfl inN 6 (by decide) wd_345 rfl d_N_phi_1 ?_
  refine lv_if_ne (tgt := 17) hx hb d_N_phi_4 (by decide) (fun hc => ?_) (fun hc => ?_)
  · rw [if_neg hc] at h
    refine lv_aload_n hx hb d_N_phi_17 rfl (lv_at hl 0 rfl) ?_
    refine U_get C0 w 0 (by decide) rfl rfl inN 0 (by decide) wd_339 rfl d_N_phi_18 ?_
    refine lv_iload_n hx hb d_N_phi_21 rfl (lv_at hl 1 rfl) ?_
    obtain ⟨r1, M2, hc3, h⟩ := bind_ok h
    try dsimp only at h
    refine U_vi (rest := []) C0 w 1 (wU_at (by decide)) rfl (c_P_has l D ct q hc3) wd_480 wd_477 wd_478 wd_479 wd_2 (n9 := 1) (by decide +kernel) rfl ⟨(Nat.le_of_ble_eq_true rfl), (Nat.le_of_ble_eq_true rfl)⟩ hl.1 rfl (Nat.le_of_ble_eq_true rfl) d_N_phi_22 (Nat.le_of_ble_eq_true rfl) (Nat.le_of_ble_eq_true rfl) (fun H locs w => ?_)
    have hJ41 : ∀ (s0 v1 v3 : Int32) (M : Sto) (H : Heap) (locs : List Loc) (ls : Array Slot), lv_has ls 5 [(0, .ref (q 0)), (1, .int v1), (3, .int v3)] → Wd D A s (wX ct q M) H locs → j_N_phi_41 s0 v1 v3 M = some (2, rz, Mz) → W p l e rx_N_phi_IllegalStateException s m args below meth c H locs 0 0 (XQU D (wX ct q Mz) A below "java/lang/IllegalStateException" s) (F0 m 41 ls [.int s0]) := by
      intro s0 v1 v3 M H locs ls hl w h
      unfold j_N_phi_41 at h
      refine lv_istore hx hb d_N_phi_41 hl (by decide) rfl (fun ls hl => ?_)
      have hl : lv_has ls 5 [(4, .int s0), (0, .ref (q 0)), (1, .int v1), (3, .int v3)] := hl
      refine lv_iload hx hb d_N_phi_43 (lv_at hl 0 rfl) ?_
      refine lv_iconst (v := (-1)) hx hb d_N_phi_45 (by decide) ?_
      have hJ58 : ∀ (M : Sto) (H : Heap) (locs : List Loc) (ls : Array Slot), lv_has ls 5 [] → Wd D A s (wX ct q M) H locs → j_N_phi_58 M = some (2, rz, Mz) → W p l e rx_N_phi_IllegalStateException s m args below meth c H locs 0 0 (XQU D (wX ct q Mz) A below "java/lang/IllegalStateException" s) (F0 m 58 ls []) := by
        intro M H locs ls hl w h
        unfold j_N_phi_58 at h
        simp at h
      refine lv_icmp_eq (tgt := 58) hx hb d_N_phi_46 (by decide) (fun hc => ?_) (fun hc => ?_)
      · rw [if_pos hc] at h
        exact hJ58 _ _ _ _ (lv_sub hl [] rfl) w h
      · rw [if_neg hc] at h
        refine lv_aload_n hx hb d_N_phi_49 rfl (lv_at hl 1 rfl) ?_
        refine lv_iload_n hx hb d_N_phi_50 rfl (lv_at hl 2 rfl) ?_
        refine lv_iload_n hx hb d_N_phi_51 rfl (lv_at hl 3 rfl) ?_
        obtain ⟨r4, M5, hc6, h⟩ := bind_ok h
        try dsimp only at h
        refine U_vi (rest := []) C0 w 0 (wU_at (by decide)) rfl (c_N_isPhiWhat l D ct q hc6) wd_734 wd_731 wd_733 ws_22 wd_1 (n9 := 2) (by decide +kernel) rfl ⟨(Nat.le_of_ble_eq_true rfl), (Nat.le_of_ble_eq_true rfl)⟩ hl.1 rfl (Nat.le_of_ble_eq_true rfl) d_N_phi_52 (Nat.le_of_ble_eq_true rfl) (Nat.le_of_ble_eq_true rfl) (fun H locs w => ?_)
        refine lv_if_ne (tgt := 68) hx hb d_N_phi_55 (by decide) (fun hc => ?_) (fun hc => ?_)
        · rw [if_neg hc] at h
          refine lv_iload_n hx hb d_N_phi_68 rfl (lv_at hl 3 rfl) ?_
          refine lv_iconst (v := (-1)) hx hb d_N_phi_69 (by decide) ?_
          refine lv_icmp_ne (tgt := 86) hx hb d_N_phi_70 (by decide) (fun hc => ?_) (fun hc => ?_)
          · rw [if_neg hc] at h
            refine lv_iload_n hx hb d_N_phi_86 rfl (lv_at hl 3 rfl) ?_
            refine lv_bipush (v := (-2)) hx hb d_N_phi_87 (by decide) ?_
            refine lv_icmp_ne (tgt := 95) hx hb d_N_phi_89 (by decide) (fun hc => ?_) (fun hc => ?_)
            · rw [if_neg hc] at h
              refine lv_aload_n hx hb d_N_phi_95 rfl (lv_at hl 1 rfl) ?_
              refine U_get C0 w 0 (by decide) rfl rfl inN 2 (by decide) wd_341 rfl d_N_phi_96 ?_
              refine U_get C0 w 3 (by decide) rfl rfl inG 6 (by decide) wd_161 rfl d_N_phi_99 ?_
              refine lv_iload_n hx hb d_N_phi_102 rfl (lv_at hl 3 rfl) ?_
              obtain ⟨hi7, h⟩ := if_ok h
              refine U_gld C0 w (gX_39 ct) hi7 d_N_phi_103 ?_
              refine lv_iload hx hb d_N_phi_104 (lv_at hl 0 rfl) ?_
              obtain ⟨hi8, h⟩ := if_ok h
              refine U_ald C0 w (rowI ct (b := 93) (by decide) (by decide) hi7) hi8 d_N_phi_106 ?_
              simp at h
            · rw [if_pos hc] at h
              refine lv_iload hx hb d_N_phi_92 (lv_at hl 0 rfl) ?_
              simp at h
          · rw [if_pos hc] at h
            refine lv_aload_n hx hb d_N_phi_73 rfl (lv_at hl 1 rfl) ?_
            refine U_get C0 w 0 (by decide) rfl rfl inN 2 (by decide) wd_341 rfl d_N_phi_74 ?_
            refine U_get C0 w 3 (by decide) rfl rfl inG 5 (by decide) wd_156 rfl d_N_phi_77 ?_
            refine lv_iload_n hx hb d_N_phi_80 rfl (lv_at hl 2 rfl) ?_
            obtain ⟨hi9, h⟩ := if_ok h
            refine U_gld C0 w (gX_38 ct) hi9 d_N_phi_81 ?_
            refine lv_iload hx hb d_N_phi_82 (lv_at hl 0 rfl) ?_
            obtain ⟨hi10, h⟩ := if_ok h
            refine U_ald C0 w (rowI ct (b := 83) (by decide) (by decide) hi9) hi10 d_N_phi_84 ?_
            simp at h
        · rw [if_pos hc] at h
          exact hJ58 _ _ _ _ (lv_sub hl [] rfl) w h
    refine lv_if_eq (tgt := 40) hx hb d_N_phi_25 (by decide) (fun hc => ?_) (fun hc => ?_)
    · rw [if_pos hc] at h
      refine lv_iconst (v := (-1)) hx hb d_N_phi_40 (by decide) ?_
      exact hJ41 _ _ _ _ _ _ _ (lv_sub hl [0, 1, 3] rfl) w h
    · rw [if_neg hc] at h
      refine lv_aload_n hx hb d_N_phi_28 rfl (lv_at hl 0 rfl) ?_
      refine U_get C0 w 0 (by decide) rfl rfl inN 2 (by decide) wd_341 rfl d_N_phi_29 ?_
      refine lv_iload_n hx hb d_N_phi_32 rfl (lv_at hl 1 rfl) ?_
      refine lv_iload_n hx hb d_N_phi_33 rfl (lv_at hl 2 rfl) ?_
      obtain ⟨r11, M12, hc13, h⟩ := bind_ok h
      try dsimp only at h
      refine U_vi (rest := []) C0 w 3 (wU_at (by decide)) rfl (c_G_phiVariable l D ct q hc13) wd_730 wd_727 wd_728 wd_729 wd_4 (n9 := 2) (by decide +kernel) rfl ⟨(Nat.le_of_ble_eq_true rfl), (Nat.le_of_ble_eq_true rfl)⟩ hl.1 rfl (Nat.le_of_ble_eq_true rfl) d_N_phi_34 (Nat.le_of_ble_eq_true rfl) (Nat.le_of_ble_eq_true rfl) (fun H locs w => ?_)
      refine lv_goto (tgt := 41) hx hb d_N_phi_37 (by decide) ?_
      exact hJ41 _ _ _ _ _ _ _ (lv_sub hl [0, 1, 3] rfl) w h
  · rw [if_pos hc] at h
    cases h
    exact R_throwU C0 w htl (ix := ix_IllegalStateException) (rx := rx_IllegalStateException) (names := up_IllegalStateException) (tx := "it is not built") xa_IllegalStateException xb_IllegalStateException xc_IllegalStateException xd_IllegalStateException (by decide) (by decide) rfl at_IllegalStateException wd_393 wd_12 wd_394 (by decide) hl.1 d_N_phi_7 d_N_phi_10 d_N_phi_11 d_N_phi_13 d_N_phi_16 hemp hlk (Nat.le_of_ble_eq_true rfl) (Nat.le_of_ble_eq_true rfl) (Nat.le_of_ble_eq_true rfl) (Nat.le_of_ble_eq_true rfl)
abbrev rx_N_phi_NoSuchElementException : Room := { frames := 6, cells := 1, slots := 6, locals := 90 }
set_option maxHeartbeats 8000000 in
set_option maxRecDepth 100000 in
theorem x_N_phi_NoSuchElementException (l : Launch) (htl : l.stackTraces = false) (D : va_G) (ct : Nat → ClassId) (q : Nat → Nat) {x1 x2 x3 : Int32} {M Mz : Sto} {rz : Int32} (h : m_N_phi x1 x2 x3 M = some (3, rz, Mz)) : KXU l D ct y_N_phi b_N_phi 5 (some .int) 6 90 [.ref (q 0), .int x1, .int x2, .int x3] (wX ct q M) "java/util/NoSuchElementException" (wX ct q Mz) := by
  refine KXU.ofB (by decide) (Nat.le_of_ble_eq_true rfl) ?_
  intro p e s m args below meth c A ls C0 hemp hlk hl w
  have hx := C0.1
  have hb := C0.2.1
  have hl : lv_has ls 5 [(0, .ref (q 0)), (1, .int x1), (2, .int x2), (3, .int x3)] := hl
  unfold m_N_phi at h
  refine lv_aload_n hx hb d_N_phi_0 rfl (lv_at hl 0 rfl) ?_
  refine U_get C0 w 0 (by decide) rfl rfl inN 6 (by decide) wd_345 rfl d_N_phi_1 ?_
  refine lv_if_ne (tgt := 17) hx hb d_N_phi_4 (by decide) (fun hc => ?_) (fun hc => ?_)
  · rw [if_neg hc] at h
    refine lv_aload_n hx hb d_N_phi_17 rfl (lv_at hl 0 rfl) ?_
    refine U_get C0 w 0 (by decide) rfl rfl inN 0 (by decide) wd_339 rfl d_N_phi_18 ?_
    refine lv_iload_n hx hb d_N_phi_21 rfl (lv_at hl 1 rfl) ?_
    obtain ⟨r1, M2, hc3, h⟩ := bind_ok h
    try dsimp only at h
    refine U_vi (rest := []) C0 w 1 (wU_at (by decide)) rfl (c_P_has l D ct q hc3) wd_480 wd_477 wd_478 wd_479 wd_2 (n9 := 1) (by decide +kernel) rfl ⟨(Nat.le_of_ble_eq_true rfl), (Nat.le_of_ble_eq_true rfl)⟩ hl.1 rfl (Nat.le_of_ble_eq_true rfl) d_N_phi_22 (Nat.le_of_ble_eq_true rfl) (Nat.le_of_ble_eq_true rfl) (fun H locs w => ?_)
    have hJ41 : ∀ (s0 v1 v3 : Int32) (M : Sto) (H : Heap) (locs : List Loc) (ls : Array Slot), lv_has ls 5 [(0, .ref (q 0)), (1, .int v1), (3, .int v3)] → Wd D A s (wX ct q M) H locs → j_N_phi_41 s0 v1 v3 M = some (3, rz, Mz) → W p l e rx_N_phi_NoSuchElementException s m args below meth c H locs 0 0 (XQU D (wX ct q Mz) A below "java/util/NoSuchElementException" s) (F0 m 41 ls [.int s0]) := by
      intro s0 v1 v3 M H locs ls hl w h
      unfold j_N_phi_41 at h
      refine lv_istore hx hb d_N_phi_41 hl (by decide) rfl (fun ls hl => ?_)
      have hl : lv_has ls 5 [(4, .int s0), (0, .ref (q 0)), (1, .int v1), (3, .int v3)] := hl
      refine lv_iload hx hb d_N_phi_43 (lv_at hl 0 rfl) ?_
      refine lv_iconst (v := (-1)) hx hb d_N_phi_45 (by decide) ?_
      have hJ58 : ∀ (M : Sto) (H : Heap) (locs : List Loc) (ls : Array Slot), lv_has ls 5 [] → Wd D A s (wX ct q M) H locs → j_N_phi_58 M = some (3, rz, Mz) → W p l e rx_N_phi_NoSuchElementException s m args below meth c H locs 0 0 (XQU D (wX ct q Mz) A below "java/util/NoSuchElementException" s) (F0 m 58 ls []) := by
        intro M H locs ls hl w h
        unfold j_N_phi_58 at h
        cases h
        exact R_throwU C0 w htl (ix := ix_NoSuchElementException) (rx := rx_NoSuchElementException) (names := up_NoSuchElementException) (tx := "no such phi or what") xa_NoSuchElementException xb_NoSuchElementException xc_NoSuchElementException xd_NoSuchElementException (by decide) (by decide) rfl at_NoSuchElementException wd_696 wd_15 wd_697 (by decide) hl.1 d_N_phi_58 d_N_phi_61 d_N_phi_62 d_N_phi_64 d_N_phi_67 hemp hlk (Nat.le_of_ble_eq_true rfl) (Nat.le_of_ble_eq_true rfl) (Nat.le_of_ble_eq_true rfl) (Nat.le_of_ble_eq_true rfl)
      refine lv_icmp_eq (tgt := 58) hx hb d_N_phi_46 (by decide) (fun hc => ?_) (fun hc => ?_)
      · rw [if_pos hc] at h
        exact hJ58 _ _ _ _ (lv_sub hl [] rfl) w h
      · rw [if_neg hc] at h
        refine lv_aload_n hx hb d_N_phi_49 rfl (lv_at hl 1 rfl) ?_
        refine lv_iload_n hx hb d_N_phi_50 rfl (lv_at hl 2 rfl) ?_
        refine lv_iload_n hx hb d_N_phi_51 rfl (lv_at hl 3 rfl) ?_
        obtain ⟨r4, M5, hc6, h⟩ := bind_ok h
        try dsimp only at h
        refine U_vi (rest := []) C0 w 0 (wU_at (by decide)) rfl (c_N_isPhiWhat l D ct q hc6) wd_734 wd_731 wd_733 ws_22 wd_1 (n9 := 2) (by decide +kernel) rfl ⟨(Nat.le_of_ble_eq_true rfl), (Nat.le_of_ble_eq_true rfl)⟩ hl.1 rfl (Nat.le_of_ble_eq_true rfl) d_N_phi_52 (Nat.le_of_ble_eq_true rfl) (Nat.le_of_ble_eq_true rfl) (fun H locs w => ?_)
        refine lv_if_ne (tgt := 68) hx hb d_N_phi_55 (by decide) (fun hc => ?_) (fun hc => ?_)
        · rw [if_neg hc] at h
          refine lv_iload_n hx hb d_N_phi_68 rfl (lv_at hl 3 rfl) ?_
          refine lv_iconst (v := (-1)) hx hb d_N_phi_69 (by decide) ?_
          refine lv_icmp_ne (tgt := 86) hx hb d_N_phi_70 (by decide) (fun hc => ?_) (fun hc => ?_)
          · rw [if_neg hc] at h
            refine lv_iload_n hx hb d_N_phi_86 rfl (lv_at hl 3 rfl) ?_
            refine lv_bipush (v := (-2)) hx hb d_N_phi_87 (by decide) ?_
            refine lv_icmp_ne (tgt := 95) hx hb d_N_phi_89 (by decide) (fun hc => ?_) (fun hc => ?_)
            · rw [if_neg hc] at h
              refine lv_aload_n hx hb d_N_phi_95 rfl (lv_at hl 1 rfl) ?_
              refine U_get C0 w 0 (by decide) rfl rfl inN 2 (by decide) wd_341 rfl d_N_phi_96 ?_
              refine U_get C0 w 3 (by decide) rfl rfl inG 6 (by decide) wd_161 rfl d_N_phi_99 ?_
              refine lv_iload_n hx hb d_N_phi_102 rfl (lv_at hl 3 rfl) ?_
              obtain ⟨hi7, h⟩ := if_ok h
              refine U_gld C0 w (gX_39 ct) hi7 d_N_phi_103 ?_
              refine lv_iload hx hb d_N_phi_104 (lv_at hl 0 rfl) ?_
              obtain ⟨hi8, h⟩ := if_ok h
              refine U_ald C0 w (rowI ct (b := 93) (by decide) (by decide) hi7) hi8 d_N_phi_106 ?_
              simp at h
            · rw [if_pos hc] at h
              refine lv_iload hx hb d_N_phi_92 (lv_at hl 0 rfl) ?_
              simp at h
          · rw [if_pos hc] at h
            refine lv_aload_n hx hb d_N_phi_73 rfl (lv_at hl 1 rfl) ?_
            refine U_get C0 w 0 (by decide) rfl rfl inN 2 (by decide) wd_341 rfl d_N_phi_74 ?_
            refine U_get C0 w 3 (by decide) rfl rfl inG 5 (by decide) wd_156 rfl d_N_phi_77 ?_
            refine lv_iload_n hx hb d_N_phi_80 rfl (lv_at hl 2 rfl) ?_
            obtain ⟨hi9, h⟩ := if_ok h
            refine U_gld C0 w (gX_38 ct) hi9 d_N_phi_81 ?_
            refine lv_iload hx hb d_N_phi_82 (lv_at hl 0 rfl) ?_
            obtain ⟨hi10, h⟩ := if_ok h
            refine U_ald C0 w (rowI ct (b := 83) (by decide) (by decide) hi9) hi10 d_N_phi_84 ?_
            simp at h
        · rw [if_pos hc] at h
          exact hJ58 _ _ _ _ (lv_sub hl [] rfl) w h
    refine lv_if_eq (tgt := 40) hx hb d_N_phi_25 (by decide) (fun hc => ?_) (fun hc => ?_)
    · rw [if_pos hc] at h
      refine lv_iconst (v := (-1)) hx hb d_N_phi_40 (by decide) ?_
      exact hJ41 _ _ _ _ _ _ _ (lv_sub hl [0, 1, 3] rfl) w h
    · rw [if_neg hc] at h
      refine lv_aload_n hx hb d_N_phi_28 rfl (lv_at hl 0 rfl) ?_
      refine U_get C0 w 0 (by decide) rfl rfl inN 2 (by decide) wd_341 rfl d_N_phi_29 ?_
      refine lv_iload_n hx hb d_N_phi_32 rfl (lv_at hl 1 rfl) ?_
      refine lv_iload_n hx hb d_N_phi_33 rfl (lv_at hl 2 rfl) ?_
      obtain ⟨r11, M12, hc13, h⟩ := bind_ok h
      try dsimp only at h
      refine U_vi (rest := []) C0 w 3 (wU_at (by decide)) rfl (c_G_phiVariable l D ct q hc13) wd_730 wd_727 wd_728 wd_729 wd_4 (n9 := 2) (by decide +kernel) rfl ⟨(Nat.le_of_ble_eq_true rfl), (Nat.le_of_ble_eq_true rfl)⟩ hl.1 rfl (Nat.le_of_ble_eq_true rfl) d_N_phi_34 (Nat.le_of_ble_eq_true rfl) (Nat.le_of_ble_eq_true rfl) (fun H locs w => ?_)
      refine lv_goto (tgt := 41) hx hb d_N_phi_37 (by decide) ?_
      exact hJ41 _ _ _ _ _ _ _ (lv_sub hl [0, 1, 3] rfl) w h
  · rw [if_pos hc] at h
    simp at h
abbrev rx_N_uses_IllegalStateException : Room := { frames := 6, cells := 1, slots := 6, locals := 90 }
set_option maxHeartbeats 8000000 in
set_option maxRecDepth 100000 in
theorem x_N_uses_IllegalStateException (l : Launch) (htl : l.stackTraces = false) (D : va_G) (ct : Nat → ClassId) (q : Nat → Nat) {x1 x2 x3 : Int32} {M Mz : Sto} {rz : Int32} (h : m_N_uses x1 x2 x3 M = some (2, rz, Mz)) : KXU l D ct y_N_uses b_N_uses 4 (some .int) 6 90 [.ref (q 0), .int x1, .int x2, .int x3] (wX ct q M) "java/lang/IllegalStateException" (wX ct q Mz) := by
  refine KXU.ofB (by decide) (Nat.le_of_ble_eq_true rfl) ?_
  intro p e s m args below meth c A ls C0 hemp hlk hl w
  have hx := C0.1
  have hb := C0.2.1
  have hl : lv_has ls 4 [(0, .ref (q 0)), (1, .int x1), (2, .int x2), (3, .int x3)] := hl
  unfold m_N_uses at h
  refine lv_aload_n hx hb d_N_uses_0 rfl (lv_at hl 0 rfl) ?_
  refine U_get C0 w 0 (by decide) rfl rfl inN 6 (by decide) wd_345 rfl d_N_uses_1 ?_
  refine lv_if_ne (tgt := 17) hx hb d_N_uses_4 (by decide) (fun hc => ?_) (fun hc => ?_)
  · rw [if_neg hc] at h
    refine lv_aload_n hx hb d_N_uses_17 rfl (lv_at hl 0 rfl) ?_
    refine lv_iload_n hx hb d_N_uses_18 rfl (lv_at hl 1 rfl) ?_
    refine lv_iload_n hx hb d_N_uses_19 rfl (lv_at hl 2 rfl) ?_
    obtain ⟨r1, M2, hc3, h⟩ := bind_ok h
    try dsimp only at h
    refine U_vi (rest := []) C0 w 0 (wU_at (by decide)) rfl (c_N_isReachedInstruction l D ct q hc3) wd_746 wd_743 wd_745 ws_23 wd_1 (n9 := 2) (by decide +kernel) rfl ⟨(Nat.le_of_ble_eq_true rfl), (Nat.le_of_ble_eq_true rfl)⟩ hl.1 rfl (Nat.le_of_ble_eq_true rfl) d_N_uses_20 (Nat.le_of_ble_eq_true rfl) (Nat.le_of_ble_eq_true rfl) (fun H locs w => ?_)
    have hJ35 : ∀ (M : Sto) (H : Heap) (locs : List Loc) (ls : Array Slot), lv_has ls 4 [] → Wd D A s (wX ct q M) H locs → j_N_uses_35 M = some (2, rz, Mz) → W p l e rx_N_uses_IllegalStateException s m args below meth c H locs 0 0 (XQU D (wX ct q Mz) A below "java/lang/IllegalStateException" s) (F0 m 35 ls []) := by
      intro M H locs ls hl w h
      unfold j_N_uses_35 at h
      simp at h
    refine lv_if_eq (tgt := 35) hx hb d_N_uses_23 (by decide) (fun hc => ?_) (fun hc => ?_)
    · rw [if_pos hc] at h
      exact hJ35 _ _ _ _ (lv_sub hl [] rfl) w h
    · rw [if_neg hc] at h
      refine lv_iload_n hx hb d_N_uses_26 rfl (lv_at hl 3 rfl) ?_
      refine lv_if_lt (tgt := 35) hx hb d_N_uses_27 (by decide) (fun hc => ?_) (fun hc => ?_)
      · rw [if_pos hc] at h
        exact hJ35 _ _ _ _ (lv_sub hl [] rfl) w h
      · rw [if_neg hc] at h
        refine lv_iload_n hx hb d_N_uses_30 rfl (lv_at hl 3 rfl) ?_
        refine lv_iconst (v := 2) hx hb d_N_uses_31 (by decide) ?_
        refine lv_icmp_le (tgt := 45) hx hb d_N_uses_32 (by decide) (fun hc => ?_) (fun hc => ?_)
        · rw [if_pos hc] at h
          refine lv_iload_n hx hb d_N_uses_45 rfl (lv_at hl 3 rfl) ?_
          refine Decidable.byCases (p := x3 = 0) (fun hc4 => ?_) (fun hc4 => ?_)
          · rw [if_pos hc4] at h
            refine lv_lookup (off := 26) (tgt := 72) hx hb d_N_uses_46 (by decide) (by rw [hc4]; decide) (by decide) ?_
            refine lv_aload_n hx hb d_N_uses_72 rfl (lv_at hl 0 rfl) ?_
            refine U_get C0 w 0 (by decide) rfl rfl inN 2 (by decide) wd_341 rfl d_N_uses_73 ?_
            refine U_get C0 w 3 (by decide) rfl rfl inG 7 (by decide) wd_166 rfl d_N_uses_76 ?_
            refine lv_iload_n hx hb d_N_uses_79 rfl (lv_at hl 1 rfl) ?_
            obtain ⟨hi5, h⟩ := if_ok h
            refine U_gld C0 w (gX_40 ct) hi5 d_N_uses_80 ?_
            refine lv_iload_n hx hb d_N_uses_81 rfl (lv_at hl 2 rfl) ?_
            obtain ⟨hi6, h⟩ := if_ok h
            refine U_ald C0 w (rowI ct (b := 103) (by decide) (by decide) hi5) hi6 d_N_uses_82 ?_
            simp at h
          · rw [if_neg hc4] at h
            refine Decidable.byCases (p := x3 = 1) (fun hc7 => ?_) (fun hc7 => ?_)
            · rw [if_pos hc7] at h
              refine lv_lookup (off := 38) (tgt := 84) hx hb d_N_uses_46 (by decide) (by rw [hc7]; decide) (by decide) ?_
              refine lv_aload_n hx hb d_N_uses_84 rfl (lv_at hl 0 rfl) ?_
              refine U_get C0 w 0 (by decide) rfl rfl inN 2 (by decide) wd_341 rfl d_N_uses_85 ?_
              refine U_get C0 w 3 (by decide) rfl rfl inG 8 (by decide) wd_171 rfl d_N_uses_88 ?_
              refine lv_iload_n hx hb d_N_uses_91 rfl (lv_at hl 1 rfl) ?_
              obtain ⟨hi8, h⟩ := if_ok h
              refine U_gld C0 w (gX_41 ct) hi8 d_N_uses_92 ?_
              refine lv_iload_n hx hb d_N_uses_93 rfl (lv_at hl 2 rfl) ?_
              obtain ⟨hi9, h⟩ := if_ok h
              refine U_ald C0 w (rowI ct (b := 113) (by decide) (by decide) hi8) hi9 d_N_uses_94 ?_
              simp at h
            · rw [if_neg hc7] at h
              refine lv_lookup (off := 50) (tgt := 96) hx hb d_N_uses_46 (by decide) (by show Op.lookupswitch.offset [(0, 26), (1, 38)] 50 _ = 50; rw [lv_osw (k := 0) hc4 (by decide), lv_osw (k := 1) hc7 (by decide)]; rfl) (by decide) ?_
              refine lv_aload_n hx hb d_N_uses_96 rfl (lv_at hl 0 rfl) ?_
              refine U_get C0 w 0 (by decide) rfl rfl inN 2 (by decide) wd_341 rfl d_N_uses_97 ?_
              refine U_get C0 w 3 (by decide) rfl rfl inG 9 (by decide) wd_176 rfl d_N_uses_100 ?_
              refine lv_iload_n hx hb d_N_uses_103 rfl (lv_at hl 1 rfl) ?_
              obtain ⟨hi10, h⟩ := if_ok h
              refine U_gld C0 w (gX_42 ct) hi10 d_N_uses_104 ?_
              refine lv_iload_n hx hb d_N_uses_105 rfl (lv_at hl 2 rfl) ?_
              obtain ⟨hi11, h⟩ := if_ok h
              refine U_ald C0 w (rowI ct (b := 123) (by decide) (by decide) hi10) hi11 d_N_uses_106 ?_
              simp at h
        · rw [if_neg hc] at h
          exact hJ35 _ _ _ _ (lv_sub hl [] rfl) w h
  · rw [if_pos hc] at h
    cases h
    exact R_throwU C0 w htl (ix := ix_IllegalStateException) (rx := rx_IllegalStateException) (names := up_IllegalStateException) (tx := "it is not built") xa_IllegalStateException xb_IllegalStateException xc_IllegalStateException xd_IllegalStateException (by decide) (by decide) rfl at_IllegalStateException wd_393 wd_12 wd_394 (by decide) hl.1 d_N_uses_7 d_N_uses_10 d_N_uses_11 d_N_uses_13 d_N_uses_16 hemp hlk (Nat.le_of_ble_eq_true rfl) (Nat.le_of_ble_eq_true rfl) (Nat.le_of_ble_eq_true rfl) (Nat.le_of_ble_eq_true rfl)
abbrev rx_N_uses_NoSuchElementException : Room := { frames := 6, cells := 1, slots := 6, locals := 90 }
set_option maxHeartbeats 8000000 in
set_option maxRecDepth 100000 in
theorem x_N_uses_NoSuchElementException (l : Launch) (htl : l.stackTraces = false) (D : va_G) (ct : Nat → ClassId) (q : Nat → Nat) {x1 x2 x3 : Int32} {M Mz : Sto} {rz : Int32} (h : m_N_uses x1 x2 x3 M = some (3, rz, Mz)) : KXU l D ct y_N_uses b_N_uses 4 (some .int) 6 90 [.ref (q 0), .int x1, .int x2, .int x3] (wX ct q M) "java/util/NoSuchElementException" (wX ct q Mz) := by
  refine KXU.ofB (by decide) (Nat.le_of_ble_eq_true rfl) ?_
  intro p e s m args below meth c A ls C0 hemp hlk hl w
  have hx := C0.1
  have hb := C0.2.1
  have hl : lv_has ls 4 [(0, .ref (q 0)), (1, .int x1), (2, .int x2), (3, .int x3)] := hl
  unfold m_N_uses at h
  refine lv_aload_n hx hb d_N_uses_0 rfl (lv_at hl 0 rfl) ?_
  refine U_get C0 w 0 (by decide) rfl rfl inN 6 (by decide) wd_345 rfl d_N_uses_1 ?_
  refine lv_if_ne (tgt := 17) hx hb d_N_uses_4 (by decide) (fun hc => ?_) (fun hc => ?_)
  · rw [if_neg hc] at h
    refine lv_aload_n hx hb d_N_uses_17 rfl (lv_at hl 0 rfl) ?_
    refine lv_iload_n hx hb d_N_uses_18 rfl (lv_at hl 1 rfl) ?_
    refine lv_iload_n hx hb d_N_uses_19 rfl (lv_at hl 2 rfl) ?_
    obtain ⟨r1, M2, hc3, h⟩ := bind_ok h
    try dsimp only at h
    refine U_vi (rest := []) C0 w 0 (wU_at (by decide)) rfl (c_N_isReachedInstruction l D ct q hc3) wd_746 wd_743 wd_745 ws_23 wd_1 (n9 := 2) (by decide +kernel) rfl ⟨(Nat.le_of_ble_eq_true rfl), (Nat.le_of_ble_eq_true rfl)⟩ hl.1 rfl (Nat.le_of_ble_eq_true rfl) d_N_uses_20 (Nat.le_of_ble_eq_true rfl) (Nat.le_of_ble_eq_true rfl) (fun H locs w => ?_)
    have hJ35 : ∀ (M : Sto) (H : Heap) (locs : List Loc) (ls : Array Slot), lv_has ls 4 [] → Wd D A s (wX ct q M) H locs → j_N_uses_35 M = some (3, rz, Mz) → W p l e rx_N_uses_NoSuchElementException s m args below meth c H locs 0 0 (XQU D (wX ct q Mz) A below "java/util/NoSuchElementException" s) (F0 m 35 ls []) := by
      intro M H locs ls hl w h
      unfold j_N_uses_35 at h
      cases h
      exact R_throwU C0 w htl (ix := ix_NoSuchElementException) (rx := rx_NoSuchElementException) (names := up_NoSuchElementException) (tx := "no such instruction or what") xa_NoSuchElementException xb_NoSuchElementException xc_NoSuchElementException xd_NoSuchElementException (by decide) (by decide) rfl at_NoSuchElementException wd_696 wd_15 wd_697 (by decide) hl.1 d_N_uses_35 d_N_uses_38 d_N_uses_39 d_N_uses_41 d_N_uses_44 hemp hlk (Nat.le_of_ble_eq_true rfl) (Nat.le_of_ble_eq_true rfl) (Nat.le_of_ble_eq_true rfl) (Nat.le_of_ble_eq_true rfl)
    refine lv_if_eq (tgt := 35) hx hb d_N_uses_23 (by decide) (fun hc => ?_) (fun hc => ?_)
    · rw [if_pos hc] at h
      exact hJ35 _ _ _ _ (lv_sub hl [] rfl) w h
    · rw [if_neg hc] at h
      refine lv_iload_n hx hb d_N_uses_26 rfl (lv_at hl 3 rfl) ?_
      refine lv_if_lt (tgt := 35) hx hb d_N_uses_27 (by decide) (fun hc => ?_) (fun hc => ?_)
      · rw [if_pos hc] at h
        exact hJ35 _ _ _ _ (lv_sub hl [] rfl) w h
      · rw [if_neg hc] at h
        refine lv_iload_n hx hb d_N_uses_30 rfl (lv_at hl 3 rfl) ?_
        refine lv_iconst (v := 2) hx hb d_N_uses_31 (by decide) ?_
        refine lv_icmp_le (tgt := 45) hx hb d_N_uses_32 (by decide) (fun hc => ?_) (fun hc => ?_)
        · rw [if_pos hc] at h
          refine lv_iload_n hx hb d_N_uses_45 rfl (lv_at hl 3 rfl) ?_
          refine Decidable.byCases (p := x3 = 0) (fun hc4 => ?_) (fun hc4 => ?_)
          · rw [if_pos hc4] at h
            refine lv_lookup (off := 26) (tgt := 72) hx hb d_N_uses_46 (by decide) (by rw [hc4]; decide) (by decide) ?_
            refine lv_aload_n hx hb d_N_uses_72 rfl (lv_at hl 0 rfl) ?_
            refine U_get C0 w 0 (by decide) rfl rfl inN 2 (by decide) wd_341 rfl d_N_uses_73 ?_
            refine U_get C0 w 3 (by decide) rfl rfl inG 7 (by decide) wd_166 rfl d_N_uses_76 ?_
            refine lv_iload_n hx hb d_N_uses_79 rfl (lv_at hl 1 rfl) ?_
            obtain ⟨hi5, h⟩ := if_ok h
            refine U_gld C0 w (gX_40 ct) hi5 d_N_uses_80 ?_
            refine lv_iload_n hx hb d_N_uses_81 rfl (lv_at hl 2 rfl) ?_
            obtain ⟨hi6, h⟩ := if_ok h
            refine U_ald C0 w (rowI ct (b := 103) (by decide) (by decide) hi5) hi6 d_N_uses_82 ?_
            simp at h
          · rw [if_neg hc4] at h
            refine Decidable.byCases (p := x3 = 1) (fun hc7 => ?_) (fun hc7 => ?_)
            · rw [if_pos hc7] at h
              refine lv_lookup (off := 38) (tgt := 84) hx hb d_N_uses_46 (by decide) (by rw [hc7]; decide) (by decide) ?_
              refine lv_aload_n hx hb d_N_uses_84 rfl (lv_at hl 0 rfl) ?_
              refine U_get C0 w 0 (by decide) rfl rfl inN 2 (by decide) wd_341 rfl d_N_uses_85 ?_
              refine U_get C0 w 3 (by decide) rfl rfl inG 8 (by decide) wd_171 rfl d_N_uses_88 ?_
              refine lv_iload_n hx hb d_N_uses_91 rfl (lv_at hl 1 rfl) ?_
              obtain ⟨hi8, h⟩ := if_ok h
              refine U_gld C0 w (gX_41 ct) hi8 d_N_uses_92 ?_
              refine lv_iload_n hx hb d_N_uses_93 rfl (lv_at hl 2 rfl) ?_
              obtain ⟨hi9, h⟩ := if_ok h
              refine U_ald C0 w (rowI ct (b := 113) (by decide) (by decide) hi8) hi9 d_N_uses_94 ?_
              simp at h
            · rw [if_neg hc7] at h
              refine lv_lookup (off := 50) (tgt := 96) hx hb d_N_uses_46 (by decide) (by show Op.lookupswitch.offset [(0, 26), (1, 38)] 50 _ = 50; rw [lv_osw (k := 0) hc4 (by decide), lv_osw (k := 1) hc7 (by decide)]; rfl) (by decide) ?_
              refine lv_aload_n hx hb d_N_uses_96 rfl (lv_at hl 0 rfl) ?_
              refine U_get C0 w 0 (by decide) rfl rfl inN 2 (by decide) wd_341 rfl d_N_uses_97 ?_
              refine U_get C0 w 3 (by decide) rfl rfl inG 9 (by decide) wd_176 rfl d_N_uses_100 ?_
              refine lv_iload_n hx hb d_N_uses_103 rfl (lv_at hl 1 rfl) ?_
              obtain ⟨hi10, h⟩ := if_ok h
              refine U_gld C0 w (gX_42 ct) hi10 d_N_uses_104 ?_
              refine lv_iload_n hx hb d_N_uses_105 rfl (lv_at hl 2 rfl) ?_
              obtain ⟨hi11, h⟩ := if_ok h
              refine U_ald C0 w (rowI ct (b := 123) (by decide) (by decide) hi10) hi11 d_N_uses_106 ?_
              simp at h
        · rw [if_neg hc] at h
          exact hJ35 _ _ _ _ (lv_sub hl [] rfl) w h
  · rw [if_pos hc] at h
    simp at h
abbrev rx_N_name_IllegalStateException : Room := { frames := 6, cells := 1, slots := 6, locals := 90 }
set_option maxHeartbeats 8000000 in
set_option maxRecDepth 100000 in
theorem x_N_name_IllegalStateException (l : Launch) (htl : l.stackTraces = false) (D : va_G) (ct : Nat → ClassId) (q : Nat → Nat) {x1 x2 : Int32} {M Mz : Sto} {rz : Int32} (h : m_N_name x1 x2 M = some (2, rz, Mz)) : KXU l D ct y_N_name b_N_name 3 (some .int) 6 90 [.ref (q 0), .int x1, .int x2] (wX ct q M) "java/lang/IllegalStateException" (wX ct q Mz) := by
  refine KXU.ofB (by decide) (Nat.le_of_ble_eq_true rfl) ?_
  intro p e s m args below meth c A ls C0 hemp hlk hl w
  have hx := C0.1
  have hb := C0.2.1
  have hl : lv_has ls 3 [(0, .ref (q 0)), (1, .int x1), (2, .int x2)] := hl
  unfold m_N_name at h
  refine lv_aload_n hx hb d_N_name_0 rfl (lv_at hl 0 rfl) ?_
  refine U_get C0 w 0 (by decide) rfl rfl inN 6 (by decide) wd_345 rfl d_N_name_1 ?_
  refine lv_if_ne (tgt := 17) hx hb d_N_name_4 (by decide) (fun hc => ?_) (fun hc => ?_)
  · rw [if_neg hc] at h
    refine lv_iload_n hx hb d_N_name_17 rfl (lv_at hl 1 rfl) ?_
    have hJ41 : ∀ (M : Sto) (H : Heap) (locs : List Loc) (ls : Array Slot), lv_has ls 3 [] → Wd D A s (wX ct q M) H locs → j_N_name_41 M = some (2, rz, Mz) → W p l e rx_N_name_IllegalStateException s m args below meth c H locs 0 0 (XQU D (wX ct q Mz) A below "java/lang/IllegalStateException" s) (F0 m 41 ls []) := by
      intro M H locs ls hl w h
      unfold j_N_name_41 at h
      simp at h
    refine lv_if_lt (tgt := 41) hx hb d_N_name_18 (by decide) (fun hc => ?_) (fun hc => ?_)
    · rw [if_pos hc] at h
      exact hJ41 _ _ _ _ (lv_sub hl [] rfl) w h
    · rw [if_neg hc] at h
      refine lv_iload_n hx hb d_N_name_21 rfl (lv_at hl 1 rfl) ?_
      refine lv_aload_n hx hb d_N_name_22 rfl (lv_at hl 0 rfl) ?_
      refine U_get C0 w 0 (by decide) rfl rfl inN 2 (by decide) wd_341 rfl d_N_name_23 ?_
      refine U_get C0 w 3 (by decide) rfl rfl inG 2 (by decide) wd_147 rfl d_N_name_26 ?_
      refine lv_icmp_ge (tgt := 41) hx hb d_N_name_29 (by decide) (fun hc => ?_) (fun hc => ?_)
      · rw [if_pos hc] at h
        exact hJ41 _ _ _ _ (lv_sub hl [] rfl) w h
      · rw [if_neg hc] at h
        refine lv_iload_n hx hb d_N_name_32 rfl (lv_at hl 2 rfl) ?_
        refine lv_if_lt (tgt := 41) hx hb d_N_name_33 (by decide) (fun hc => ?_) (fun hc => ?_)
        · rw [if_pos hc] at h
          exact hJ41 _ _ _ _ (lv_sub hl [] rfl) w h
        · rw [if_neg hc] at h
          refine lv_iload_n hx hb d_N_name_36 rfl (lv_at hl 2 rfl) ?_
          refine lv_iconst (v := 3) hx hb d_N_name_37 (by decide) ?_
          refine lv_icmp_le (tgt := 51) hx hb d_N_name_38 (by decide) (fun hc => ?_) (fun hc => ?_)
          · rw [if_pos hc] at h
            refine lv_iload_n hx hb d_N_name_51 rfl (lv_at hl 2 rfl) ?_
            refine Decidable.byCases (p := x2 = 0) (fun hc1 => ?_) (fun hc1 => ?_)
            · rw [if_pos hc1] at h
              refine lv_tableIn (off := 28) (tgt := 80) hx hb d_N_name_52 (by rw [hc1]; decide) (by rw [hc1]; decide) (by rw [hc1]; decide) (by decide) ?_
              refine lv_aload_n hx hb d_N_name_80 rfl (lv_at hl 0 rfl) ?_
              refine U_get C0 w 0 (by decide) rfl rfl inN 3 (by decide) wd_342 rfl d_N_name_81 ?_
              refine U_get C0 w 4 (by decide) rfl rfl inK 5 (by decide) wd_234 rfl d_N_name_84 ?_
              refine lv_iload_n hx hb d_N_name_87 rfl (lv_at hl 1 rfl) ?_
              obtain ⟨hi2, h⟩ := if_ok h
              refine U_ald C0 w (iX_25 ct) hi2 d_N_name_88 ?_
              simp at h
            · rw [if_neg hc1] at h
              refine Decidable.byCases (p := x2 = 1) (fun hc3 => ?_) (fun hc3 => ?_)
              · rw [if_pos hc3] at h
                refine lv_tableIn (off := 38) (tgt := 90) hx hb d_N_name_52 (by rw [hc3]; decide) (by rw [hc3]; decide) (by rw [hc3]; decide) (by decide) ?_
                refine lv_aload_n hx hb d_N_name_90 rfl (lv_at hl 0 rfl) ?_
                refine U_get C0 w 0 (by decide) rfl rfl inN 3 (by decide) wd_342 rfl d_N_name_91 ?_
                refine U_get C0 w 4 (by decide) rfl rfl inK 6 (by decide) wd_237 rfl d_N_name_94 ?_
                refine lv_iload_n hx hb d_N_name_97 rfl (lv_at hl 1 rfl) ?_
                obtain ⟨hi4, h⟩ := if_ok h
                refine U_ald C0 w (iX_26 ct) hi4 d_N_name_98 ?_
                simp at h
              · rw [if_neg hc3] at h
                refine Decidable.byCases (p := x2 = 2) (fun hc5 => ?_) (fun hc5 => ?_)
                · rw [if_pos hc5] at h
                  refine lv_tableIn (off := 48) (tgt := 100) hx hb d_N_name_52 (by rw [hc5]; decide) (by rw [hc5]; decide) (by rw [hc5]; decide) (by decide) ?_
                  refine lv_aload_n hx hb d_N_name_100 rfl (lv_at hl 0 rfl) ?_
                  refine U_get C0 w 0 (by decide) rfl rfl inN 4 (by decide) wd_343 rfl d_N_name_101 ?_
                  refine U_get C0 w 5 (by decide) rfl rfl inD 3 (by decide) wd_267 rfl d_N_name_104 ?_
                  refine lv_iload_n hx hb d_N_name_107 rfl (lv_at hl 1 rfl) ?_
                  obtain ⟨hi6, h⟩ := if_ok h
                  refine U_zld C0 w (zX_27 ct) hi6 d_N_name_108 ?_
                  have hJ117 : ∀ (s0 : Int32) (M : Sto) (H : Heap) (locs : List Loc) (ls : Array Slot), lv_has ls 3 [] → Wd D A s (wX ct q M) H locs → j_N_name_117 s0 M = some (2, rz, Mz) → W p l e rx_N_name_IllegalStateException s m args below meth c H locs 0 0 (XQU D (wX ct q Mz) A below "java/lang/IllegalStateException" s) (F0 m 117 ls [.int s0]) := by
                    intro s0 M H locs ls hl w h
                    unfold j_N_name_117 at h
                    simp at h
                  refine lv_if_eq (tgt := 116) hx hb d_N_name_109 (by decide) (fun hc => ?_) (fun hc => ?_)
                  · rw [if_pos hc] at h
                    refine lv_iconst (v := 0) hx hb d_N_name_116 (by decide) ?_
                    exact hJ117 _ _ _ _ _ (lv_sub hl [] rfl) w h
                  · rw [if_neg hc] at h
                    refine lv_iconst (v := 1) hx hb d_N_name_112 (by decide) ?_
                    refine lv_goto (tgt := 117) hx hb d_N_name_113 (by decide) ?_
                    exact hJ117 _ _ _ _ _ (lv_sub hl [] rfl) w h
                · rw [if_neg hc5] at h
                  refine lv_tableOut (tgt := 118) hx hb d_N_name_52 (sw_o_0_2 hc1 hc3 hc5) (by decide) ?_
                  refine lv_aload_n hx hb d_N_name_118 rfl (lv_at hl 0 rfl) ?_
                  refine U_get C0 w 0 (by decide) rfl rfl inN 2 (by decide) wd_341 rfl d_N_name_119 ?_
                  refine U_get C0 w 3 (by decide) rfl rfl inG 11 (by decide) wd_184 rfl d_N_name_122 ?_
                  refine lv_iload_n hx hb d_N_name_125 rfl (lv_at hl 1 rfl) ?_
                  obtain ⟨hi7, h⟩ := if_ok h
                  refine U_ald C0 w (iX_21 ct) hi7 d_N_name_126 ?_
                  simp at h
          · rw [if_neg hc] at h
            exact hJ41 _ _ _ _ (lv_sub hl [] rfl) w h
  · rw [if_pos hc] at h
    cases h
    exact R_throwU C0 w htl (ix := ix_IllegalStateException) (rx := rx_IllegalStateException) (names := up_IllegalStateException) (tx := "it is not built") xa_IllegalStateException xb_IllegalStateException xc_IllegalStateException xd_IllegalStateException (by decide) (by decide) rfl at_IllegalStateException wd_393 wd_12 wd_394 (by decide) hl.1 d_N_name_7 d_N_name_10 d_N_name_11 d_N_name_13 d_N_name_16 hemp hlk (Nat.le_of_ble_eq_true rfl) (Nat.le_of_ble_eq_true rfl) (Nat.le_of_ble_eq_true rfl) (Nat.le_of_ble_eq_true rfl)
abbrev rx_N_name_NoSuchElementException : Room := { frames := 6, cells := 1, slots := 6, locals := 90 }
set_option maxHeartbeats 8000000 in
set_option maxRecDepth 100000 in
theorem x_N_name_NoSuchElementException (l : Launch) (htl : l.stackTraces = false) (D : va_G) (ct : Nat → ClassId) (q : Nat → Nat) {x1 x2 : Int32} {M Mz : Sto} {rz : Int32} (h : m_N_name x1 x2 M = some (3, rz, Mz)) : KXU l D ct y_N_name b_N_name 3 (some .int) 6 90 [.ref (q 0), .int x1, .int x2] (wX ct q M) "java/util/NoSuchElementException" (wX ct q Mz) := by
  refine KXU.ofB (by decide) (Nat.le_of_ble_eq_true rfl) ?_
  intro p e s m args below meth c A ls C0 hemp hlk hl w
  have hx := C0.1
  have hb := C0.2.1
  have hl : lv_has ls 3 [(0, .ref (q 0)), (1, .int x1), (2, .int x2)] := hl
  unfold m_N_name at h
  refine lv_aload_n hx hb d_N_name_0 rfl (lv_at hl 0 rfl) ?_
  refine U_get C0 w 0 (by decide) rfl rfl inN 6 (by decide) wd_345 rfl d_N_name_1 ?_
  refine lv_if_ne (tgt := 17) hx hb d_N_name_4 (by decide) (fun hc => ?_) (fun hc => ?_)
  · rw [if_neg hc] at h
    refine lv_iload_n hx hb d_N_name_17 rfl (lv_at hl 1 rfl) ?_
    have hJ41 : ∀ (M : Sto) (H : Heap) (locs : List Loc) (ls : Array Slot), lv_has ls 3 [] → Wd D A s (wX ct q M) H locs → j_N_name_41 M = some (3, rz, Mz) → W p l e rx_N_name_NoSuchElementException s m args below meth c H locs 0 0 (XQU D (wX ct q Mz) A below "java/util/NoSuchElementException" s) (F0 m 41 ls []) := by
      intro M H locs ls hl w h
      unfold j_N_name_41 at h
      cases h
      exact R_throwU C0 w htl (ix := ix_NoSuchElementException) (rx := rx_NoSuchElementException) (names := up_NoSuchElementException) (tx := "no such name or what") xa_NoSuchElementException xb_NoSuchElementException xc_NoSuchElementException xd_NoSuchElementException (by decide) (by decide) rfl at_NoSuchElementException wd_696 wd_15 wd_697 (by decide) hl.1 d_N_name_41 d_N_name_44 d_N_name_45 d_N_name_47 d_N_name_50 hemp hlk (Nat.le_of_ble_eq_true rfl) (Nat.le_of_ble_eq_true rfl) (Nat.le_of_ble_eq_true rfl) (Nat.le_of_ble_eq_true rfl)
    refine lv_if_lt (tgt := 41) hx hb d_N_name_18 (by decide) (fun hc => ?_) (fun hc => ?_)
    · rw [if_pos hc] at h
      exact hJ41 _ _ _ _ (lv_sub hl [] rfl) w h
    · rw [if_neg hc] at h
      refine lv_iload_n hx hb d_N_name_21 rfl (lv_at hl 1 rfl) ?_
      refine lv_aload_n hx hb d_N_name_22 rfl (lv_at hl 0 rfl) ?_
      refine U_get C0 w 0 (by decide) rfl rfl inN 2 (by decide) wd_341 rfl d_N_name_23 ?_
      refine U_get C0 w 3 (by decide) rfl rfl inG 2 (by decide) wd_147 rfl d_N_name_26 ?_
      refine lv_icmp_ge (tgt := 41) hx hb d_N_name_29 (by decide) (fun hc => ?_) (fun hc => ?_)
      · rw [if_pos hc] at h
        exact hJ41 _ _ _ _ (lv_sub hl [] rfl) w h
      · rw [if_neg hc] at h
        refine lv_iload_n hx hb d_N_name_32 rfl (lv_at hl 2 rfl) ?_
        refine lv_if_lt (tgt := 41) hx hb d_N_name_33 (by decide) (fun hc => ?_) (fun hc => ?_)
        · rw [if_pos hc] at h
          exact hJ41 _ _ _ _ (lv_sub hl [] rfl) w h
        · rw [if_neg hc] at h
          refine lv_iload_n hx hb d_N_name_36 rfl (lv_at hl 2 rfl) ?_
          refine lv_iconst (v := 3) hx hb d_N_name_37 (by decide) ?_
          refine lv_icmp_le (tgt := 51) hx hb d_N_name_38 (by decide) (fun hc => ?_) (fun hc => ?_)
          · rw [if_pos hc] at h
            refine lv_iload_n hx hb d_N_name_51 rfl (lv_at hl 2 rfl) ?_
            refine Decidable.byCases (p := x2 = 0) (fun hc1 => ?_) (fun hc1 => ?_)
            · rw [if_pos hc1] at h
              refine lv_tableIn (off := 28) (tgt := 80) hx hb d_N_name_52 (by rw [hc1]; decide) (by rw [hc1]; decide) (by rw [hc1]; decide) (by decide) ?_
              refine lv_aload_n hx hb d_N_name_80 rfl (lv_at hl 0 rfl) ?_
              refine U_get C0 w 0 (by decide) rfl rfl inN 3 (by decide) wd_342 rfl d_N_name_81 ?_
              refine U_get C0 w 4 (by decide) rfl rfl inK 5 (by decide) wd_234 rfl d_N_name_84 ?_
              refine lv_iload_n hx hb d_N_name_87 rfl (lv_at hl 1 rfl) ?_
              obtain ⟨hi2, h⟩ := if_ok h
              refine U_ald C0 w (iX_25 ct) hi2 d_N_name_88 ?_
              simp at h
            · rw [if_neg hc1] at h
              refine Decidable.byCases (p := x2 = 1) (fun hc3 => ?_) (fun hc3 => ?_)
              · rw [if_pos hc3] at h
                refine lv_tableIn (off := 38) (tgt := 90) hx hb d_N_name_52 (by rw [hc3]; decide) (by rw [hc3]; decide) (by rw [hc3]; decide) (by decide) ?_
                refine lv_aload_n hx hb d_N_name_90 rfl (lv_at hl 0 rfl) ?_
                refine U_get C0 w 0 (by decide) rfl rfl inN 3 (by decide) wd_342 rfl d_N_name_91 ?_
                refine U_get C0 w 4 (by decide) rfl rfl inK 6 (by decide) wd_237 rfl d_N_name_94 ?_
                refine lv_iload_n hx hb d_N_name_97 rfl (lv_at hl 1 rfl) ?_
                obtain ⟨hi4, h⟩ := if_ok h
                refine U_ald C0 w (iX_26 ct) hi4 d_N_name_98 ?_
                simp at h
              · rw [if_neg hc3] at h
                refine Decidable.byCases (p := x2 = 2) (fun hc5 => ?_) (fun hc5 => ?_)
                · rw [if_pos hc5] at h
                  refine lv_tableIn (off := 48) (tgt := 100) hx hb d_N_name_52 (by rw [hc5]; decide) (by rw [hc5]; decide) (by rw [hc5]; decide) (by decide) ?_
                  refine lv_aload_n hx hb d_N_name_100 rfl (lv_at hl 0 rfl) ?_
                  refine U_get C0 w 0 (by decide) rfl rfl inN 4 (by decide) wd_343 rfl d_N_name_101 ?_
                  refine U_get C0 w 5 (by decide) rfl rfl inD 3 (by decide) wd_267 rfl d_N_name_104 ?_
                  refine lv_iload_n hx hb d_N_name_107 rfl (lv_at hl 1 rfl) ?_
                  obtain ⟨hi6, h⟩ := if_ok h
                  refine U_zld C0 w (zX_27 ct) hi6 d_N_name_108 ?_
                  have hJ117 : ∀ (s0 : Int32) (M : Sto) (H : Heap) (locs : List Loc) (ls : Array Slot), lv_has ls 3 [] → Wd D A s (wX ct q M) H locs → j_N_name_117 s0 M = some (3, rz, Mz) → W p l e rx_N_name_NoSuchElementException s m args below meth c H locs 0 0 (XQU D (wX ct q Mz) A below "java/util/NoSuchElementException" s) (F0 m 117 ls [.int s0]) := by
                    intro s0 M H locs ls hl w h
                    unfold j_N_name_117 at h
                    simp at h
                  refine lv_if_eq (tgt := 116) hx hb d_N_name_109 (by decide) (fun hc => ?_) (fun hc => ?_)
                  · rw [if_pos hc] at h
                    refine lv_iconst (v := 0) hx hb d_N_name_116 (by decide) ?_
                    exact hJ117 _ _ _ _ _ (lv_sub hl [] rfl) w h
                  · rw [if_neg hc] at h
                    refine lv_iconst (v := 1) hx hb d_N_name_112 (by decide) ?_
                    refine lv_goto (tgt := 117) hx hb d_N_name_113 (by decide) ?_
                    exact hJ117 _ _ _ _ _ (lv_sub hl [] rfl) w h
                · rw [if_neg hc5] at h
                  refine lv_tableOut (tgt := 118) hx hb d_N_name_52 (sw_o_0_2 hc1 hc3 hc5) (by decide) ?_
                  refine lv_aload_n hx hb d_N_name_118 rfl (lv_at hl 0 rfl) ?_
                  refine U_get C0 w 0 (by decide) rfl rfl inN 2 (by decide) wd_341 rfl d_N_name_119 ?_
                  refine U_get C0 w 3 (by decide) rfl rfl inG 11 (by decide) wd_184 rfl d_N_name_122 ?_
                  refine lv_iload_n hx hb d_N_name_125 rfl (lv_at hl 1 rfl) ?_
                  obtain ⟨hi7, h⟩ := if_ok h
                  refine U_ald C0 w (iX_21 ct) hi7 d_N_name_126 ?_
                  simp at h
          · rw [if_neg hc] at h
            exact hJ41 _ _ _ _ (lv_sub hl [] rfl) w h
  · rw [if_pos hc] at h
    simp at h
abbrev rx_N_run_IllegalArgumentException : Room := { frames := 6, cells := 1, slots := 6, locals := 117 }
set_option maxHeartbeats 8000000 in
set_option maxRecDepth 100000 in
theorem x_N_run_IllegalArgumentException (l : Launch) (htl : l.stackTraces = false) (D : va_G) (ct : Nat → ClassId) (q : Nat → Nat) {x1 x2 : Int32} {M Mz : Sto} {rz : Int32} (h : m_N_run x1 x2 M = some (1, rz, Mz)) : KXU l D ct y_N_run b_N_run 3 (some .int) 6 117 [.ref (q 0), .int x1, .int x2] (wX ct q M) "java/lang/IllegalArgumentException" (wX ct q Mz) := by
  refine KXU.ofB (by decide) (Nat.le_of_ble_eq_true rfl) ?_
  intro p e s m args below meth c A ls C0 hemp hlk hl w
  have hx := C0.1
  have hb := C0.2.1
  have hl : lv_has ls 3 [(0, .ref (q 0)), (1, .int x1), (2, .int x2)] := hl
  unfold m_N_run at h
  refine lv_iload_n hx hb d_N_run_0 rfl (lv_at hl 2 rfl) ?_
  have hJ11 : ∀ (M : Sto) (H : Heap) (locs : List Loc) (ls : Array Slot), lv_has ls 3 [] → Wd D A s (wX ct q M) H locs → j_N_run_11 M = some (1, rz, Mz) → W p l e rx_N_run_IllegalArgumentException s m args below meth c H locs 0 0 (XQU D (wX ct q Mz) A below "java/lang/IllegalArgumentException" s) (F0 m 11 ls []) := by
    intro M H locs ls hl w h
    unfold j_N_run_11 at h
    cases h
    exact R_throwU C0 w htl (ix := ix_IllegalArgumentException) (rx := rx_IllegalArgumentException) (names := up_IllegalArgumentException) (tx := "steps are 0 to 200") xa_IllegalArgumentException xb_IllegalArgumentException xc_IllegalArgumentException xd_IllegalArgumentException (by decide) (by decide) rfl at_IllegalArgumentException wd_496 wd_13 wd_497 (by decide) hl.1 d_N_run_11 d_N_run_14 d_N_run_15 d_N_run_17 d_N_run_20 hemp hlk (Nat.le_of_ble_eq_true rfl) (Nat.le_of_ble_eq_true rfl) (Nat.le_of_ble_eq_true rfl) (Nat.le_of_ble_eq_true rfl)
  refine lv_if_lt (tgt := 11) hx hb d_N_run_1 (by decide) (fun hc => ?_) (fun hc => ?_)
  · rw [if_pos hc] at h
    exact hJ11 _ _ _ _ (lv_sub hl [] rfl) w h
  · rw [if_neg hc] at h
    refine lv_iload_n hx hb d_N_run_4 rfl (lv_at hl 2 rfl) ?_
    refine lv_sipush (v := 200) hx hb d_N_run_5 (by decide) ?_
    refine lv_icmp_le (tgt := 21) hx hb d_N_run_8 (by decide) (fun hc => ?_) (fun hc => ?_)
    · rw [if_pos hc] at h
      refine lv_aload_n hx hb d_N_run_21 rfl (lv_at hl 0 rfl) ?_
      refine U_get C0 w 0 (by decide) rfl rfl inN 6 (by decide) wd_345 rfl d_N_run_22 ?_
      refine lv_if_ne (tgt := 38) hx hb d_N_run_25 (by decide) (fun hc => ?_) (fun hc => ?_)
      · rw [if_neg hc] at h
        refine lv_aload_n hx hb d_N_run_38 rfl (lv_at hl 0 rfl) ?_
        refine U_get C0 w 0 (by decide) rfl rfl inN 5 (by decide) wd_344 rfl d_N_run_39 ?_
        refine lv_iload_n hx hb d_N_run_42 rfl (lv_at hl 1 rfl) ?_
        refine lv_iload_n hx hb d_N_run_43 rfl (lv_at hl 2 rfl) ?_
        obtain ⟨r1, M2, hc3, h⟩ := bind_ok h
        try dsimp only at h
        refine U_vi (rest := []) C0 w 6 (wU_at (by decide)) rfl (c_A_execute l D ct q hc3) wd_767 wd_764 wd_765 wd_766 wd_7 (n9 := 2) (by decide +kernel) rfl ⟨(Nat.le_of_ble_eq_true rfl), (Nat.le_of_ble_eq_true rfl)⟩ hl.1 rfl (Nat.le_of_ble_eq_true rfl) d_N_run_44 (Nat.le_of_ble_eq_true rfl) (Nat.le_of_ble_eq_true rfl) (fun H locs w => ?_)
        have hJ55 : ∀ (s0 : Int32) (M : Sto) (H : Heap) (locs : List Loc) (ls : Array Slot), lv_has ls 3 [] → Wd D A s (wX ct q M) H locs → j_N_run_55 s0 M = some (1, rz, Mz) → W p l e rx_N_run_IllegalArgumentException s m args below meth c H locs 0 0 (XQU D (wX ct q Mz) A below "java/lang/IllegalArgumentException" s) (F0 m 55 ls [.int s0]) := by
          intro s0 M H locs ls hl w h
          unfold j_N_run_55 at h
          simp at h
        refine lv_if_eq (tgt := 54) hx hb d_N_run_47 (by decide) (fun hc => ?_) (fun hc => ?_)
        · rw [if_pos hc] at h
          refine lv_iconst (v := 1) hx hb d_N_run_54 (by decide) ?_
          exact hJ55 _ _ _ _ _ (lv_sub hl [] rfl) w h
        · rw [if_neg hc] at h
          refine lv_iconst (v := 0) hx hb d_N_run_50 (by decide) ?_
          refine lv_goto (tgt := 55) hx hb d_N_run_51 (by decide) ?_
          exact hJ55 _ _ _ _ _ (lv_sub hl [] rfl) w h
      · rw [if_pos hc] at h
        simp at h
    · rw [if_neg hc] at h
      exact hJ11 _ _ _ _ (lv_sub hl [] rfl) w h
abbrev rx_N_run_IllegalStateException : Room := { frames := 6, cells := 1, slots := 6, locals := 117 }
set_option maxHeartbeats 8000000 in
set_option maxRecDepth 100000 in
theorem x_N_run_IllegalStateException (l : Launch) (htl : l.stackTraces = false) (D : va_G) (ct : Nat → ClassId) (q : Nat → Nat) {x1 x2 : Int32} {M Mz : Sto} {rz : Int32} (h : m_N_run x1 x2 M = some (2, rz, Mz)) : KXU l D ct y_N_run b_N_run 3 (some .int) 6 117 [.ref (q 0), .int x1, .int x2] (wX ct q M) "java/lang/IllegalStateException" (wX ct q Mz) := by
  refine KXU.ofB (by decide) (Nat.le_of_ble_eq_true rfl) ?_
  intro p e s m args below meth c A ls C0 hemp hlk hl w
  have hx := C0.1
  have hb := C0.2.1
  have hl : lv_has ls 3 [(0, .ref (q 0)), (1, .int x1), (2, .int x2)] := hl
  unfold m_N_run at h
  refine lv_iload_n hx hb d_N_run_0 rfl (lv_at hl 2 rfl) ?_
  have hJ11 : ∀ (M : Sto) (H : Heap) (locs : List Loc) (ls : Array Slot), lv_has ls 3 [] → Wd D A s (wX ct q M) H locs → j_N_run_11 M = some (2, rz, Mz) → W p l e rx_N_run_IllegalStateException s m args below meth c H locs 0 0 (XQU D (wX ct q Mz) A below "java/lang/IllegalStateException" s) (F0 m 11 ls []) := by
    intro M H locs ls hl w h
    unfold j_N_run_11 at h
    simp at h
  refine lv_if_lt (tgt := 11) hx hb d_N_run_1 (by decide) (fun hc => ?_) (fun hc => ?_)
  · rw [if_pos hc] at h
    exact hJ11 _ _ _ _ (lv_sub hl [] rfl) w h
  · rw [if_neg hc] at h
    refine lv_iload_n hx hb d_N_run_4 rfl (lv_at hl 2 rfl) ?_
    refine lv_sipush (v := 200) hx hb d_N_run_5 (by decide) ?_
    refine lv_icmp_le (tgt := 21) hx hb d_N_run_8 (by decide) (fun hc => ?_) (fun hc => ?_)
    · rw [if_pos hc] at h
      refine lv_aload_n hx hb d_N_run_21 rfl (lv_at hl 0 rfl) ?_
      refine U_get C0 w 0 (by decide) rfl rfl inN 6 (by decide) wd_345 rfl d_N_run_22 ?_
      refine lv_if_ne (tgt := 38) hx hb d_N_run_25 (by decide) (fun hc => ?_) (fun hc => ?_)
      · rw [if_neg hc] at h
        refine lv_aload_n hx hb d_N_run_38 rfl (lv_at hl 0 rfl) ?_
        refine U_get C0 w 0 (by decide) rfl rfl inN 5 (by decide) wd_344 rfl d_N_run_39 ?_
        refine lv_iload_n hx hb d_N_run_42 rfl (lv_at hl 1 rfl) ?_
        refine lv_iload_n hx hb d_N_run_43 rfl (lv_at hl 2 rfl) ?_
        obtain ⟨r1, M2, hc3, h⟩ := bind_ok h
        try dsimp only at h
        refine U_vi (rest := []) C0 w 6 (wU_at (by decide)) rfl (c_A_execute l D ct q hc3) wd_767 wd_764 wd_765 wd_766 wd_7 (n9 := 2) (by decide +kernel) rfl ⟨(Nat.le_of_ble_eq_true rfl), (Nat.le_of_ble_eq_true rfl)⟩ hl.1 rfl (Nat.le_of_ble_eq_true rfl) d_N_run_44 (Nat.le_of_ble_eq_true rfl) (Nat.le_of_ble_eq_true rfl) (fun H locs w => ?_)
        have hJ55 : ∀ (s0 : Int32) (M : Sto) (H : Heap) (locs : List Loc) (ls : Array Slot), lv_has ls 3 [] → Wd D A s (wX ct q M) H locs → j_N_run_55 s0 M = some (2, rz, Mz) → W p l e rx_N_run_IllegalStateException s m args below meth c H locs 0 0 (XQU D (wX ct q Mz) A below "java/lang/IllegalStateException" s) (F0 m 55 ls [.int s0]) := by
          intro s0 M H locs ls hl w h
          unfold j_N_run_55 at h
          simp at h
        refine lv_if_eq (tgt := 54) hx hb d_N_run_47 (by decide) (fun hc => ?_) (fun hc => ?_)
        · rw [if_pos hc] at h
          refine lv_iconst (v := 1) hx hb d_N_run_54 (by decide) ?_
          exact hJ55 _ _ _ _ _ (lv_sub hl [] rfl) w h
        · rw [if_neg hc] at h
          refine lv_iconst (v := 0) hx hb d_N_run_50 (by decide) ?_
          refine lv_goto (tgt := 55) hx hb d_N_run_51 (by decide) ?_
          exact hJ55 _ _ _ _ _ (lv_sub hl [] rfl) w h
      · rw [if_pos hc] at h
        cases h
        exact R_throwU C0 w htl (ix := ix_IllegalStateException) (rx := rx_IllegalStateException) (names := up_IllegalStateException) (tx := "it is not built") xa_IllegalStateException xb_IllegalStateException xc_IllegalStateException xd_IllegalStateException (by decide) (by decide) rfl at_IllegalStateException wd_393 wd_12 wd_394 (by decide) hl.1 d_N_run_28 d_N_run_31 d_N_run_32 d_N_run_34 d_N_run_37 hemp hlk (Nat.le_of_ble_eq_true rfl) (Nat.le_of_ble_eq_true rfl) (Nat.le_of_ble_eq_true rfl) (Nat.le_of_ble_eq_true rfl)
    · rw [if_neg hc] at h
      exact hJ11 _ _ _ _ (lv_sub hl [] rfl) w h
abbrev rx_N_heard_NoSuchElementException : Room := { frames := 6, cells := 1, slots := 6, locals := 90 }
set_option maxHeartbeats 8000000 in
set_option maxRecDepth 100000 in
theorem x_N_heard_NoSuchElementException (l : Launch) (htl : l.stackTraces = false) (D : va_G) (ct : Nat → ClassId) (q : Nat → Nat) {x1 : Int32} {M Mz : Sto} {rz : Int32} (h : m_N_heard x1 M = some (3, rz, Mz)) : KXU l D ct y_N_heard b_N_heard 2 (some .int) 6 90 [.ref (q 0), .int x1] (wX ct q M) "java/util/NoSuchElementException" (wX ct q Mz) := by
  refine KXU.ofB (by decide) (Nat.le_of_ble_eq_true rfl) ?_
  intro p e s m args below meth c A ls C0 hemp hlk hl w
  have hx := C0.1
  have hb := C0.2.1
  have hl : lv_has ls 2 [(0, .ref (q 0)), (1, .int x1)] := hl
  unfold m_N_heard at h
  refine lv_iload_n hx hb d_N_heard_0 rfl (lv_at hl 1 rfl) ?_
  have hJ21 : ∀ (M : Sto) (H : Heap) (locs : List Loc) (ls : Array Slot), lv_has ls 2 [] → Wd D A s (wX ct q M) H locs → j_N_heard_21 M = some (3, rz, Mz) → W p l e rx_N_heard_NoSuchElementException s m args below meth c H locs 0 0 (XQU D (wX ct q Mz) A below "java/util/NoSuchElementException" s) (F0 m 21 ls []) := by
    intro M H locs ls hl w h
    unfold j_N_heard_21 at h
    cases h
    exact R_throwU C0 w htl (ix := ix_NoSuchElementException) (rx := rx_NoSuchElementException) (names := up_NoSuchElementException) (tx := "not kept") xa_NoSuchElementException xb_NoSuchElementException xc_NoSuchElementException xd_NoSuchElementException (by decide) (by decide) rfl at_NoSuchElementException wd_696 wd_15 wd_697 (by decide) hl.1 d_N_heard_21 d_N_heard_24 d_N_heard_25 d_N_heard_27 d_N_heard_30 hemp hlk (Nat.le_of_ble_eq_true rfl) (Nat.le_of_ble_eq_true rfl) (Nat.le_of_ble_eq_true rfl) (Nat.le_of_ble_eq_true rfl)
  refine lv_if_lt (tgt := 21) hx hb d_N_heard_1 (by decide) (fun hc => ?_) (fun hc => ?_)
  · rw [if_pos hc] at h
    exact hJ21 _ _ _ _ (lv_sub hl [] rfl) w h
  · rw [if_neg hc] at h
    refine lv_iload_n hx hb d_N_heard_4 rfl (lv_at hl 1 rfl) ?_
    refine lv_bipush (v := 40) hx hb d_N_heard_5 (by decide) ?_
    refine lv_icmp_ge (tgt := 21) hx hb d_N_heard_7 (by decide) (fun hc => ?_) (fun hc => ?_)
    · rw [if_pos hc] at h
      exact hJ21 _ _ _ _ (lv_sub hl [] rfl) w h
    · rw [if_neg hc] at h
      refine lv_iload_n hx hb d_N_heard_10 rfl (lv_at hl 1 rfl) ?_
      refine lv_aload_n hx hb d_N_heard_11 rfl (lv_at hl 0 rfl) ?_
      refine U_get C0 w 0 (by decide) rfl rfl inN 5 (by decide) wd_344 rfl d_N_heard_12 ?_
      refine U_get C0 w 6 (by decide) rfl rfl inA 9 (by decide) wd_301 rfl d_N_heard_15 ?_
      refine lv_icmp_lt (tgt := 31) hx hb d_N_heard_18 (by decide) (fun hc => ?_) (fun hc => ?_)
      · rw [if_pos hc] at h
        refine lv_aload_n hx hb d_N_heard_31 rfl (lv_at hl 0 rfl) ?_
        refine U_get C0 w 0 (by decide) rfl rfl inN 5 (by decide) wd_344 rfl d_N_heard_32 ?_
        refine U_get C0 w 6 (by decide) rfl rfl inA 10 (by decide) wd_303 rfl d_N_heard_35 ?_
        refine lv_iload_n hx hb d_N_heard_38 rfl (lv_at hl 1 rfl) ?_
        obtain ⟨hi1, h⟩ := if_ok h
        refine U_ald C0 w (iX_33 ct) hi1 d_N_heard_39 ?_
        simp at h
      · rw [if_neg hc] at h
        exact hJ21 _ _ _ _ (lv_sub hl [] rfl) w h
