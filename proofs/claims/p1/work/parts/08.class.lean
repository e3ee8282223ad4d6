set_option maxHeartbeats 4000000 in
set_option maxRecDepth 100000 in
theorem c_has (l : Launch) (D : va_G) (cI cB cJ : ClassId) (h : Nat) (q : Nat → Nat) (b : Int32) : KR l D cI cB cJ y_P_has b_P_has 2 (some .boolean) 0 0 [.ref h, .int b] [(h, .inr (1, fP 0 q))] 0 := by
  refine KR.ofW (by decide) (Nat.le_of_ble_eq_true rfl) rfl rfl ?_
  intro p e s m args below meth c A Q ls C0 hl w hret
  have hx := C0.1
  have hb := C0.2.1
  have hl : lv_has ls 2 [(0, .ref h), (1, .int b)] := hl
  refine lv_iload_n hx hb d_P_has_0 rfl (lv_at hl 1 rfl) ?_
  refine lv_if_lt (tgt := 16) hx hb d_P_has_1 (by decide) (fun hc1 => ?_) (fun hc1 => ?_)
  · refine lv_iconst (v := 0) hx hb d_P_has_16 (by decide) ?_
    exact hret _ _ d_P_has_17
  · refine lv_iload_n hx hb d_P_has_4 rfl (lv_at hl 1 rfl) ?_
    refine lv_aload_n hx hb d_P_has_5 rfl (lv_at hl 0 rfl) ?_
    refine R_get C0 w 0 rfl rfl inP 0 (by decide) wd_34 rfl d_P_has_6 ?_
    refine lv_icmp_ge (tgt := 16) hx hb d_P_has_9 (by decide) (fun hc9 => ?_) (fun hc => absurd (Int32.not_lt.mp hc1) hc)
    refine lv_iconst (v := 0) hx hb d_P_has_16 (by decide) ?_
    exact hret _ _ d_P_has_17
set_option maxHeartbeats 4000000 in
set_option maxRecDepth 100000 in
theorem c_setEnd (l : Launch) (D : va_G) (cI cB cJ : ClassId) (h : Nat) (q : Nat → Nat) : KV l D cI cB cJ y_P_setEnd b_P_setEnd 6 0 0 0 0 [.ref h, .int 0, .int 0, .int 0, .int 0, .int 0] [(h, .inr (1, fP 0 q)), ((q 6), .inl (cI, 10, .inl (fun _ => 0))), ((q 7), .inl (cI, 10, .inl (fun _ => 0))), ((q 8), .inl (cI, 10, .inl (fun _ => 0))), ((q 9), .inl (cI, 10, .inl (fun _ => 0)))] (fun A t => CE D [(h, .inr (1, fP 0 q))] A t) := by
  refine KV.ofW (by decide) (Nat.le_of_ble_eq_true rfl) ?_
  intro p e s m args below meth c A Q ls C0 hin hl w hret
  have hin : meth.name = "setEnd" := hin
  have hx := C0.1
  have hb := C0.2.1
  have hl : lv_has ls 6 [(0, .ref h), (1, .int 0), (2, .int 0), (3, .int 0), (4, .int 0), (5, .int 0)] := hl
  refine lv_aload_n hx hb d_P_setEnd_0 rfl (lv_at hl 0 rfl) ?_
  refine R_get C0 w 0 rfl rfl inP 6 (by decide) wd_60 rfl d_P_setEnd_1 ?_
  refine lv_iload_n hx hb d_P_setEnd_4 rfl (lv_at hl 1 rfl) ?_
  refine lv_iload_n hx hb d_P_setEnd_5 rfl (lv_at hl 2 rfl) ?_
  refine R_ast C0 w 1 rfl (vin (by decide)) d_P_setEnd_6 (fun H locs w => ?_)
  have w : Wd D A s [(h, .inr (1, fP 0 q)), ((q 6), .inl (cI, 10, .inl (upd (fun _ => 0) (0 : Int32).toNatClampNeg 0))), ((q 7), .inl (cI, 10, .inl (fun _ => 0))), ((q 8), .inl (cI, 10, .inl (fun _ => 0))), ((q 9), .inl (cI, 10, .inl (fun _ => 0)))] H _ := w
  refine lv_aload_n hx hb d_P_setEnd_7 rfl (lv_at hl 0 rfl) ?_
  refine R_get C0 w 0 rfl rfl inP 7 (by decide) wd_63 rfl d_P_setEnd_8 ?_
  refine lv_iload_n hx hb d_P_setEnd_11 rfl (lv_at hl 1 rfl) ?_
  refine lv_iload_n hx hb d_P_setEnd_12 rfl (lv_at hl 3 rfl) ?_
  refine R_ast C0 w 2 rfl (vin (by decide)) d_P_setEnd_13 (fun H locs w => ?_)
  have w : Wd D A s [(h, .inr (1, fP 0 q)), ((q 6), .inl (cI, 10, .inl (upd (fun _ => 0) (0 : Int32).toNatClampNeg 0))), ((q 7), .inl (cI, 10, .inl (upd (fun _ => 0) (0 : Int32).toNatClampNeg 0))), ((q 8), .inl (cI, 10, .inl (fun _ => 0))), ((q 9), .inl (cI, 10, .inl (fun _ => 0)))] H _ := w
  refine lv_aload_n hx hb d_P_setEnd_14 rfl (lv_at hl 0 rfl) ?_
  refine R_get C0 w 0 rfl rfl inP 8 (by decide) wd_66 rfl d_P_setEnd_15 ?_
  refine lv_iload_n hx hb d_P_setEnd_18 rfl (lv_at hl 1 rfl) ?_
  refine lv_iload hx hb d_P_setEnd_19 (lv_at hl 4 rfl) ?_
  refine R_ast C0 w 3 rfl (vin (by decide)) d_P_setEnd_21 (fun H locs w => ?_)
  have w : Wd D A s [(h, .inr (1, fP 0 q)), ((q 6), .inl (cI, 10, .inl (upd (fun _ => 0) (0 : Int32).toNatClampNeg 0))), ((q 7), .inl (cI, 10, .inl (upd (fun _ => 0) (0 : Int32).toNatClampNeg 0))), ((q 8), .inl (cI, 10, .inl (upd (fun _ => 0) (0 : Int32).toNatClampNeg 0))), ((q 9), .inl (cI, 10, .inl (fun _ => 0)))] H _ := w
  refine lv_aload_n hx hb d_P_setEnd_22 rfl (lv_at hl 0 rfl) ?_
  refine R_get C0 w 0 rfl rfl inP 9 (by decide) wd_69 rfl d_P_setEnd_23 ?_
  refine lv_iload_n hx hb d_P_setEnd_26 rfl (lv_at hl 1 rfl) ?_
  refine lv_iload hx hb d_P_setEnd_27 (lv_at hl 5 rfl) ?_
  refine R_ast C0 w 4 rfl (vin (by decide)) d_P_setEnd_29 (fun H locs w => ?_)
  have w : Wd D A s [(h, .inr (1, fP 0 q)), ((q 6), .inl (cI, 10, .inl (upd (fun _ => 0) (0 : Int32).toNatClampNeg 0))), ((q 7), .inl (cI, 10, .inl (upd (fun _ => 0) (0 : Int32).toNatClampNeg 0))), ((q 8), .inl (cI, 10, .inl (upd (fun _ => 0) (0 : Int32).toNatClampNeg 0))), ((q 9), .inl (cI, 10, .inl (upd (fun _ => 0) (0 : Int32).toNatClampNeg 0)))] H _ := w
  exact hret _ _ _ _ d_P_setEnd_30 w.2.2.1 (fun t ht => ⟨by rw [ht]; exact (w.sub [0] rfl rfl).1, (w.sub [0] rfl rfl).2.1⟩)
set_option maxHeartbeats 4000000 in
set_option maxRecDepth 100000 in
theorem c_addBlock (l : Launch) (D : va_G) (cI cB cJ : ClassId) (h : Nat) (q : Nat → Nat) : KI l D cI cB cJ y_P_addBlock b_P_addBlock 2 (some .int) 1 25 [.ref h] [(h, .inr (1, fP 0 q)), ((q 1), .inl (cI, 10, .inl (fun _ => 0))), ((q 6), .inl (cI, 10, .inl (fun _ => 0))), ((q 7), .inl (cI, 10, .inl (fun _ => 0))), ((q 8), .inl (cI, 10, .inl (fun _ => 0))), ((q 9), .inl (cI, 10, .inl (fun _ => 0)))] 0 [] := by
  refine KI.ofW (by decide) (Nat.le_of_ble_eq_true rfl) rfl rfl ?_
  intro p e s m args below meth c A Q ls C0 hl w hret
  have hx := C0.1
  have hb := C0.2.1
  have hl : lv_has ls 2 [(0, .ref h)] := hl
  refine lv_aload_n hx hb d_P_addBlock_0 rfl (lv_at hl 0 rfl) ?_
  refine R_get C0 w 0 rfl rfl inP 0 (by decide) wd_34 rfl d_P_addBlock_1 ?_
  refine lv_istore_n hx hb d_P_addBlock_4 rfl hl (by decide) rfl (fun ls hl => ?_)
  have hl : lv_has ls 2 [(1, .int 0), (0, .ref h)] := hl
  refine lv_aload_n hx hb d_P_addBlock_5 rfl (lv_at hl 1 rfl) ?_
  refine R_get C0 w 0 rfl rfl inP 1 (by decide) wd_39 rfl d_P_addBlock_6 ?_
  refine lv_iload_n hx hb d_P_addBlock_9 rfl (lv_at hl 0 rfl) ?_
  refine lv_iconst (v := 0) hx hb d_P_addBlock_10 (by decide) ?_
  refine R_ast C0 w 1 rfl (vin (by decide)) d_P_addBlock_11 (fun H locs w => ?_)
  have w : Wd D A s [(h, .inr (1, fP 0 q)), ((q 1), .inl (cI, 10, .inl (upd (fun _ => 0) (0 : Int32).toNatClampNeg 0))), ((q 6), .inl (cI, 10, .inl (fun _ => 0))), ((q 7), .inl (cI, 10, .inl (fun _ => 0))), ((q 8), .inl (cI, 10, .inl (fun _ => 0))), ((q 9), .inl (cI, 10, .inl (fun _ => 0)))] H _ := w
  refine lv_aload_n hx hb d_P_addBlock_12 rfl (lv_at hl 1 rfl) ?_
  refine lv_iload_n hx hb d_P_addBlock_13 rfl (lv_at hl 0 rfl) ?_
  refine lv_iconst (v := 0) hx hb d_P_addBlock_14 (by decide) ?_
  refine lv_iconst (v := 0) hx hb d_P_addBlock_15 (by decide) ?_
  refine lv_iconst (v := 0) hx hb d_P_addBlock_16 (by decide) ?_
  refine lv_iconst (v := 0) hx hb d_P_addBlock_17 (by decide) ?_
  refine R_vv C0 w (rest := []) (wr := [((q 1), .inl (cI, 10, .inl (upd (fun _ => 0) (0 : Int32).toNatClampNeg 0)))]) (w1 := [(h, .inr (1, fP 0 q))]) 0 rfl rfl [0, 2, 3, 4, 5] [1] (c_setEnd l D cI cB cJ h q) rfl rfl rfl rfl (by decide) wd_468 wd_465 wd_466 wd_467 wd_2 (n9 := 5) (by decide +kernel) rfl ⟨(Nat.le_of_ble_eq_true rfl), (Nat.le_of_ble_eq_true rfl)⟩ hl.1 rfl (Nat.le_of_ble_eq_true rfl) d_P_addBlock_18 (Nat.le_of_ble_eq_true rfl) (Nat.le_of_ble_eq_true rfl) (fun H locs w => ?_)
  have w : Wd D A s [((q 1), .inl (cI, 10, .inl (upd (fun _ => 0) (0 : Int32).toNatClampNeg 0))), (h, .inr (1, fP 0 q))] H _ := w
  refine lv_aload_n hx hb d_P_addBlock_21 rfl (lv_at hl 1 rfl) ?_
  refine lv_dup hx hb d_P_addBlock_22 rfl ?_
  refine R_get C0 w 1 rfl rfl inP 0 (by decide) wd_34 rfl d_P_addBlock_23 ?_
  refine lv_iconst (v := 1) hx hb d_P_addBlock_26 (by decide) ?_
  refine lv_iadd hx hb d_P_addBlock_27 ?_
  refine lv_cst (x := 0 + 1) (y := 1) (by decide) ?_
  refine R_put C0 w 1 rfl rfl inP tyP_ok nmP 0 (by decide) wd_34 rfl rfl rfl (Nat.le_of_ble_eq_true rfl) d_P_addBlock_28 (fun H locs w => ?_)
  have w : Wd D A s [((q 1), .inl (cI, 10, .inl (upd (fun _ => 0) (0 : Int32).toNatClampNeg 0))), (h, .inr (1, fP 1 q))] H _ := w
  refine lv_iload_n hx hb d_P_addBlock_31 rfl (lv_at hl 0 rfl) ?_
  exact hret _ _ _ _ d_P_addBlock_32 (w.sub [] rfl rfl)
set_option maxHeartbeats 4000000 in
set_option maxRecDepth 100000 in
theorem c_N_block (l : Launch) (D : va_G) (cI cB cJ : ClassId) (h : Nat) (qn : Nat → Nat) (qp : Nat → Nat) : KI l D cI cB cJ y_N_block b_N_block 1 (some .int) 2 46 [.ref h] [(h, .inr (0, fN 0 qn)), ((qn 0), .inr (1, fP 0 qp)), ((qp 1), .inl (cI, 10, .inl (fun _ => 0))), ((qp 6), .inl (cI, 10, .inl (fun _ => 0))), ((qp 7), .inl (cI, 10, .inl (fun _ => 0))), ((qp 8), .inl (cI, 10, .inl (fun _ => 0))), ((qp 9), .inl (cI, 10, .inl (fun _ => 0)))] 0 [] := by
  refine KI.ofW (by decide) (Nat.le_of_ble_eq_true rfl) rfl rfl ?_
  intro p e s m args below meth c A Q ls C0 hl w hret
  have hx := C0.1
  have hb := C0.2.1
  have hl : lv_has ls 1 [(0, .ref h)] := hl
  refine lv_aload_n hx hb d_N_block_0 rfl (lv_at hl 0 rfl) ?_
  refine R_get C0 w 0 rfl rfl inN 0 (by decide) wd_339 rfl d_N_block_1 ?_
  refine R_get C0 w 1 rfl rfl inP 0 (by decide) wd_33 rfl d_N_block_4 ?_
  refine lv_bipush (v := 10) hx hb d_N_block_7 (by decide) ?_
  refine lv_icmp_lt (tgt := 22) hx hb d_N_block_9 (by decide) (fun hc9 => ?_) (fun hc => absurd (by decide) hc)
  refine lv_aload_n hx hb d_N_block_22 rfl (lv_at hl 0 rfl) ?_
  refine lv_iconst (v := 0) hx hb d_N_block_23 (by decide) ?_
  refine R_put C0 w 0 rfl rfl inN tyN_ok nmN 6 (by decide) wd_345 rfl nz0 fz0 (Nat.le_of_ble_eq_true rfl) d_N_block_24 (fun H locs w => ?_)
  have w : Wd D A s [(h, .inr (0, fN 0 qn)), ((qn 0), .inr (1, fP 0 qp)), ((qp 1), .inl (cI, 10, .inl (fun _ => 0))), ((qp 6), .inl (cI, 10, .inl (fun _ => 0))), ((qp 7), .inl (cI, 10, .inl (fun _ => 0))), ((qp 8), .inl (cI, 10, .inl (fun _ => 0))), ((qp 9), .inl (cI, 10, .inl (fun _ => 0)))] H _ := w
  refine lv_aload_n hx hb d_N_block_27 rfl (lv_at hl 0 rfl) ?_
  refine R_get C0 w 0 rfl rfl inN 0 (by decide) wd_339 rfl d_N_block_28 ?_
  refine R_vi C0 w (rest := []) (wr := [(h, .inr (0, fN 0 qn))]) (w1 := []) 1 rfl rfl [1, 2, 3, 4, 5, 6] [0] (c_addBlock l D cI cB cJ (qn 0) qp) rfl rfl rfl rfl (by decide) wd_464 wd_461 wd_462 wd_463 wd_2 (n9 := 0) (by decide +kernel) rfl ⟨(Nat.le_of_ble_eq_true rfl), (Nat.le_of_ble_eq_true rfl)⟩ hl.1 rfl (Nat.le_of_ble_eq_true rfl) d_N_block_31 (Nat.le_of_ble_eq_true rfl) (Nat.le_of_ble_eq_true rfl) (fun H locs w => ?_)
  have w : Wd D A s [(h, .inr (0, fN 0 qn))] H _ := w
  exact hret _ _ _ _ d_N_block_34 (w.sub [] rfl rfl)
set_option maxHeartbeats 4000000 in
set_option maxRecDepth 100000 in
theorem c_N_put (l : Launch) (D : va_G) (cI cB cJ : ClassId) (h : Nat) (qn : Nat → Nat) (qp : Nat → Nat) (b : Int32) (k : Int32) (d : Int32) (x : Int32) (y : Int32) (htl : l.stackTraces = false) : KX l D cI cB cJ y_N_put b_N_put 6 (some .int) 6 82 [.ref h, .int b, .int k, .int d, .int x, .int y] [(h, .inr (0, fN 0 qn)), ((qn 0), .inr (1, fP 0 qp))] "java/lang/IllegalArgumentException" := by
  refine KX.ofB (by decide) (Nat.le_of_ble_eq_true rfl) ?_
  intro p e s m args below meth c A ls C0 hemp hlk hl w
  have hx := C0.1
  have hb := C0.2.1
  have hl : lv_has ls 6 [(0, .ref h), (1, .int b), (2, .int k), (3, .int d), (4, .int x), (5, .int y)] := hl
  refine lv_aload_n hx hb d_N_put_0 rfl (lv_at hl 0 rfl) ?_
  refine R_get C0 w 0 rfl rfl inN 0 (by decide) wd_339 rfl d_N_put_1 ?_
  refine lv_iload_n hx hb d_N_put_4 rfl (lv_at hl 1 rfl) ?_
  refine R_ri C0 w (rest := []) 1 rfl rfl [1] (c_has l D cI cB cJ (qn 0) qp b) rfl rfl wd_480 wd_477 wd_478 wd_479 wd_2 (n9 := 1) (by decide +kernel) rfl ⟨(Nat.le_of_ble_eq_true rfl), (Nat.le_of_ble_eq_true rfl)⟩ hl.1 rfl (Nat.le_of_ble_eq_true rfl) d_N_put_5 (Nat.le_of_ble_eq_true rfl) (Nat.le_of_ble_eq_true rfl) ?_
  refine lv_if_eq (tgt := 23) hx hb d_N_put_8 (by decide) (fun hc8 => ?_) (fun hc => absurd (by decide) hc)
  exact R_throw C0 htl (ix := ix_IllegalArgumentException) (rx := rx_IllegalArgumentException) (names := up_IllegalArgumentException) (tx := "no such block, kind or variable") xa_IllegalArgumentException xb_IllegalArgumentException xc_IllegalArgumentException xd_IllegalArgumentException (by decide) (by decide) rfl at_IllegalArgumentException wd_496 wd_13 wd_497 (by decide) hl.1 d_N_put_23 d_N_put_26 d_N_put_27 d_N_put_29 d_N_put_32 hemp hlk (Nat.le_of_ble_eq_true rfl) (Nat.le_of_ble_eq_true rfl) (Nat.le_of_ble_eq_true rfl) (Nat.le_of_ble_eq_true rfl)
set_option maxHeartbeats 4000000 in
set_option maxRecDepth 100000 in
theorem c_N_go (l : Launch) (D : va_G) (cI cB cJ : ClassId) (h : Nat) (qn : Nat → Nat) (qp : Nat → Nat) (b : Int32) (t : Int32) (htl : l.stackTraces = false) : KX l D cI cB cJ y_N_go b_N_go 3 none 6 82 [.ref h, .int b, .int t] [(h, .inr (0, fN 0 qn)), ((qn 0), .inr (1, fP 0 qp))] "java/lang/IllegalArgumentException" := by
  refine KX.ofB (by decide) (Nat.le_of_ble_eq_true rfl) ?_
  intro p e s m args below meth c A ls C0 hemp hlk hl w
  have hx := C0.1
  have hb := C0.2.1
  have hl : lv_has ls 3 [(0, .ref h), (1, .int b), (2, .int t)] := hl
  refine lv_aload_n hx hb d_N_go_0 rfl (lv_at hl 0 rfl) ?_
  refine R_get C0 w 0 rfl rfl inN 0 (by decide) wd_339 rfl d_N_go_1 ?_
  refine lv_iload_n hx hb d_N_go_4 rfl (lv_at hl 1 rfl) ?_
  refine R_ri C0 w (rest := []) 1 rfl rfl [1] (c_has l D cI cB cJ (qn 0) qp b) rfl rfl wd_480 wd_477 wd_478 wd_479 wd_2 (n9 := 1) (by decide +kernel) rfl ⟨(Nat.le_of_ble_eq_true rfl), (Nat.le_of_ble_eq_true rfl)⟩ hl.1 rfl (Nat.le_of_ble_eq_true rfl) d_N_go_5 (Nat.le_of_ble_eq_true rfl) (Nat.le_of_ble_eq_true rfl) ?_
  refine lv_if_eq (tgt := 22) hx hb d_N_go_8 (by decide) (fun hc8 => ?_) (fun hc => absurd (by decide) hc)
  exact R_throw C0 htl (ix := ix_IllegalArgumentException) (rx := rx_IllegalArgumentException) (names := up_IllegalArgumentException) (tx := "no such block, or none to go to") xa_IllegalArgumentException xb_IllegalArgumentException xc_IllegalArgumentException xd_IllegalArgumentException (by decide) (by decide) rfl at_IllegalArgumentException wd_496 wd_13 wd_497 (by decide) hl.1 d_N_go_22 d_N_go_25 d_N_go_26 d_N_go_28 d_N_go_31 hemp hlk (Nat.le_of_ble_eq_true rfl) (Nat.le_of_ble_eq_true rfl) (Nat.le_of_ble_eq_true rfl) (Nat.le_of_ble_eq_true rfl)
set_option maxHeartbeats 4000000 in
set_option maxRecDepth 100000 in
theorem c_N_fork (l : Launch) (D : va_G) (cI cB cJ : ClassId) (h : Nat) (qn : Nat → Nat) (qp : Nat → Nat) (b : Int32) (x : Int32) (t : Int32) (u : Int32) (htl : l.stackTraces = false) : KX l D cI cB cJ y_N_fork b_N_fork 5 none 6 82 [.ref h, .int b, .int x, .int t, .int u] [(h, .inr (0, fN 0 qn)), ((qn 0), .inr (1, fP 0 qp))] "java/lang/IllegalArgumentException" := by
  refine KX.ofB (by decide) (Nat.le_of_ble_eq_true rfl) ?_
  intro p e s m args below meth c A ls C0 hemp hlk hl w
  have hx := C0.1
  have hb := C0.2.1
  have hl : lv_has ls 5 [(0, .ref h), (1, .int b), (2, .int x), (3, .int t), (4, .int u)] := hl
  refine lv_aload_n hx hb d_N_fork_0 rfl (lv_at hl 0 rfl) ?_
  refine R_get C0 w 0 rfl rfl inN 0 (by decide) wd_339 rfl d_N_fork_1 ?_
  refine lv_iload_n hx hb d_N_fork_4 rfl (lv_at hl 1 rfl) ?_
  refine R_ri C0 w (rest := []) 1 rfl rfl [1] (c_has l D cI cB cJ (qn 0) qp b) rfl rfl wd_480 wd_477 wd_478 wd_479 wd_2 (n9 := 1) (by decide +kernel) rfl ⟨(Nat.le_of_ble_eq_true rfl), (Nat.le_of_ble_eq_true rfl)⟩ hl.1 rfl (Nat.le_of_ble_eq_true rfl) d_N_fork_5 (Nat.le_of_ble_eq_true rfl) (Nat.le_of_ble_eq_true rfl) ?_
  refine lv_if_eq (tgt := 41) hx hb d_N_fork_8 (by decide) (fun hc8 => ?_) (fun hc => absurd (by decide) hc)
  exact R_throw C0 htl (ix := ix_IllegalArgumentException) (rx := rx_IllegalArgumentException) (names := up_IllegalArgumentException) (tx := "no such block or variable, or none to go to") xa_IllegalArgumentException xb_IllegalArgumentException xc_IllegalArgumentException xd_IllegalArgumentException (by decide) (by decide) rfl at_IllegalArgumentException wd_496 wd_13 wd_497 (by decide) hl.1 d_N_fork_41 d_N_fork_44 d_N_fork_45 d_N_fork_47 d_N_fork_50 hemp hlk (Nat.le_of_ble_eq_true rfl) (Nat.le_of_ble_eq_true rfl) (Nat.le_of_ble_eq_true rfl) (Nat.le_of_ble_eq_true rfl)
set_option maxHeartbeats 4000000 in
set_option maxRecDepth 100000 in
theorem c_N_stop (l : Launch) (D : va_G) (cI cB cJ : ClassId) (h : Nat) (qn : Nat → Nat) (qp : Nat → Nat) (b : Int32) (htl : l.stackTraces = false) : KX l D cI cB cJ y_N_stop b_N_stop 2 none 6 82 [.ref h, .int b] [(h, .inr (0, fN 0 qn)), ((qn 0), .inr (1, fP 0 qp))] "java/lang/IllegalArgumentException" := by
  refine KX.ofB (by decide) (Nat.le_of_ble_eq_true rfl) ?_
  intro p e s m args below meth c A ls C0 hemp hlk hl w
  have hx := C0.1
  have hb := C0.2.1
  have hl : lv_has ls 2 [(0, .ref h), (1, .int b)] := hl
  refine lv_aload_n hx hb d_N_stop_0 rfl (lv_at hl 0 rfl) ?_
  refine R_get C0 w 0 rfl rfl inN 0 (by decide) wd_339 rfl d_N_stop_1 ?_
  refine lv_iload_n hx hb d_N_stop_4 rfl (lv_at hl 1 rfl) ?_
  refine R_ri C0 w (rest := []) 1 rfl rfl [1] (c_has l D cI cB cJ (qn 0) qp b) rfl rfl wd_480 wd_477 wd_478 wd_479 wd_2 (n9 := 1) (by decide +kernel) rfl ⟨(Nat.le_of_ble_eq_true rfl), (Nat.le_of_ble_eq_true rfl)⟩ hl.1 rfl (Nat.le_of_ble_eq_true rfl) d_N_stop_5 (Nat.le_of_ble_eq_true rfl) (Nat.le_of_ble_eq_true rfl) ?_
  refine lv_if_ne (tgt := 21) hx hb d_N_stop_8 (by decide) (fun hc => absurd (by decide) hc) (fun hc8 => ?_)
  exact R_throw C0 htl (ix := ix_IllegalArgumentException) (rx := rx_IllegalArgumentException) (names := up_IllegalArgumentException) (tx := "no such block") xa_IllegalArgumentException xb_IllegalArgumentException xc_IllegalArgumentException xd_IllegalArgumentException (by decide) (by decide) rfl at_IllegalArgumentException wd_496 wd_13 wd_497 (by decide) hl.1 d_N_stop_11 d_N_stop_14 d_N_stop_15 d_N_stop_17 d_N_stop_20 hemp hlk (Nat.le_of_ble_eq_true rfl) (Nat.le_of_ble_eq_true rfl) (Nat.le_of_ble_eq_true rfl) (Nat.le_of_ble_eq_true rfl)
set_option maxHeartbeats 4000000 in
set_option maxRecDepth 100000 in
theorem c_N_build (l : Launch) (D : va_G) (cI cB cJ : ClassId) (h : Nat) (qn : Nat → Nat) (qp : Nat → Nat) (htl : l.stackTraces = false) : KX l D cI cB cJ y_N_build b_N_build 1 (some .int) 6 82 [.ref h] [(h, .inr (0, fN 0 qn)), ((qn 0), .inr (1, fP 0 qp))] "java/lang/IllegalStateException" := by
  refine KX.ofB (by decide) (Nat.le_of_ble_eq_true rfl) ?_
  intro p e s m args below meth c A ls C0 hemp hlk hl w
  have hx := C0.1
  have hb := C0.2.1
  have hl : lv_has ls 1 [(0, .ref h)] := hl
  refine lv_aload_n hx hb d_N_build_0 rfl (lv_at hl 0 rfl) ?_
  refine R_get C0 w 0 rfl rfl inN 0 (by decide) wd_339 rfl d_N_build_1 ?_
  refine R_get C0 w 1 rfl rfl inP 0 (by decide) wd_33 rfl d_N_build_4 ?_
  refine lv_if_ne (tgt := 20) hx hb d_N_build_7 (by decide) (fun hc => absurd (by decide) hc) (fun hc7 => ?_)
  exact R_throw C0 htl (ix := ix_IllegalStateException) (rx := rx_IllegalStateException) (names := up_IllegalStateException) (tx := "there is no block") xa_IllegalStateException xb_IllegalStateException xc_IllegalStateException xd_IllegalStateException (by decide) (by decide) rfl at_IllegalStateException wd_393 wd_12 wd_394 (by decide) hl.1 d_N_build_10 d_N_build_13 d_N_build_14 d_N_build_16 d_N_build_19 hemp hlk (Nat.le_of_ble_eq_true rfl) (Nat.le_of_ble_eq_true rfl) (Nat.le_of_ble_eq_true rfl) (Nat.le_of_ble_eq_true rfl)
set_option maxHeartbeats 4000000 in
set_option maxRecDepth 100000 in
theorem c_N_look (l : Launch) (D : va_G) (cI cB cJ : ClassId) (h : Nat) (qn : Nat → Nat) (qp : Nat → Nat) (b : Int32) (k : Int32) (htl : l.stackTraces = false) : KX l D cI cB cJ y_N_look b_N_look 3 (some .int) 6 82 [.ref h, .int b, .int k] [(h, .inr (0, fN 0 qn)), ((qn 0), .inr (1, fP 0 qp))] "java/util/NoSuchElementException" := by
  refine KX.ofB (by decide) (Nat.le_of_ble_eq_true rfl) ?_
  intro p e s m args below meth c A ls C0 hemp hlk hl w
  have hx := C0.1
  have hb := C0.2.1
  have hl : lv_has ls 3 [(0, .ref h), (1, .int b), (2, .int k)] := hl
  refine lv_aload_n hx hb d_N_look_0 rfl (lv_at hl 0 rfl) ?_
  refine R_get C0 w 0 rfl rfl inN 0 (by decide) wd_339 rfl d_N_look_1 ?_
  refine lv_iload_n hx hb d_N_look_4 rfl (lv_at hl 1 rfl) ?_
  refine R_ri C0 w (rest := []) 1 rfl rfl [1] (c_has l D cI cB cJ (qn 0) qp b) rfl rfl wd_480 wd_477 wd_478 wd_479 wd_2 (n9 := 1) (by decide +kernel) rfl ⟨(Nat.le_of_ble_eq_true rfl), (Nat.le_of_ble_eq_true rfl)⟩ hl.1 rfl (Nat.le_of_ble_eq_true rfl) d_N_look_5 (Nat.le_of_ble_eq_true rfl) (Nat.le_of_ble_eq_true rfl) ?_
  refine lv_if_eq (tgt := 20) hx hb d_N_look_8 (by decide) (fun hc8 => ?_) (fun hc => absurd (by decide) hc)
  exact R_throw C0 htl (ix := ix_NoSuchElementException) (rx := rx_NoSuchElementException) (names := up_NoSuchElementException) (tx := "no such block or what") xa_NoSuchElementException xb_NoSuchElementException xc_NoSuchElementException xd_NoSuchElementException (by decide) (by decide) rfl at_NoSuchElementException wd_696 wd_15 wd_697 (by decide) hl.1 d_N_look_20 d_N_look_23 d_N_look_24 d_N_look_26 d_N_look_29 hemp hlk (Nat.le_of_ble_eq_true rfl) (Nat.le_of_ble_eq_true rfl) (Nat.le_of_ble_eq_true rfl) (Nat.le_of_ble_eq_true rfl)
set_option maxHeartbeats 4000000 in
set_option maxRecDepth 100000 in
theorem c_N_phi (l : Launch) (D : va_G) (cI cB cJ : ClassId) (h : Nat) (qn : Nat → Nat) (b : Int32) (k : Int32) (x : Int32) (htl : l.stackTraces = false) : KX l D cI cB cJ y_N_phi b_N_phi 5 (some .int) 6 82 [.ref h, .int b, .int k, .int x] [(h, .inr (0, fN 0 qn))] "java/lang/IllegalStateException" := by
  refine KX.ofB (by decide) (Nat.le_of_ble_eq_true rfl) ?_
  intro p e s m args below meth c A ls C0 hemp hlk hl w
  have hx := C0.1
  have hb := C0.2.1
  have hl : lv_has ls 5 [(0, .ref h), (1, .int b), (2, .int k), (3, .int x)] := hl
  refine lv_aload_n hx hb d_N_phi_0 rfl (lv_at hl 0 rfl) ?_
  refine R_get C0 w 0 rfl rfl inN 6 (by decide) wd_345 rfl d_N_phi_1 ?_
  refine lv_if_ne (tgt := 17) hx hb d_N_phi_4 (by decide) (fun hc => absurd (by decide) hc) (fun hc4 => ?_)
  exact R_throw C0 htl (ix := ix_IllegalStateException) (rx := rx_IllegalStateException) (names := up_IllegalStateException) (tx := "it is not built") xa_IllegalStateException xb_IllegalStateException xc_IllegalStateException xd_IllegalStateException (by decide) (by decide) rfl at_IllegalStateException wd_393 wd_12 wd_394 (by decide) hl.1 d_N_phi_7 d_N_phi_10 d_N_phi_11 d_N_phi_13 d_N_phi_16 hemp hlk (Nat.le_of_ble_eq_true rfl) (Nat.le_of_ble_eq_true rfl) (Nat.le_of_ble_eq_true rfl) (Nat.le_of_ble_eq_true rfl)
set_option maxHeartbeats 4000000 in
set_option maxRecDepth 100000 in
theorem c_N_uses (l : Launch) (D : va_G) (cI cB cJ : ClassId) (h : Nat) (qn : Nat → Nat) (b : Int32) (k : Int32) (x : Int32) (htl : l.stackTraces = false) : KX l D cI cB cJ y_N_uses b_N_uses 4 (some .int) 6 82 [.ref h, .int b, .int k, .int x] [(h, .inr (0, fN 0 qn))] "java/lang/IllegalStateException" := by
  refine KX.ofB (by decide) (Nat.le_of_ble_eq_true rfl) ?_
  intro p e s m args below meth c A ls C0 hemp hlk hl w
  have hx := C0.1
  have hb := C0.2.1
  have hl : lv_has ls 4 [(0, .ref h), (1, .int b), (2, .int k), (3, .int x)] := hl
  refine lv_aload_n hx hb d_N_uses_0 rfl (lv_at hl 0 rfl) ?_
  refine R_get C0 w 0 rfl rfl inN 6 (by decide) wd_345 rfl d_N_uses_1 ?_
  refine lv_if_ne (tgt := 17) hx hb d_N_uses_4 (by decide) (fun hc => absurd (by decide) hc) (fun hc4 => ?_)
  exact R_throw C0 htl (ix := ix_IllegalStateException) (rx := rx_IllegalStateException) (names := up_IllegalStateException) (tx := "it is not built") xa_IllegalStateException xb_IllegalStateException xc_IllegalStateException xd_IllegalStateException (by decide) (by decide) rfl at_IllegalStateException wd_393 wd_12 wd_394 (by decide) hl.1 d_N_uses_7 d_N_uses_10 d_N_uses_11 d_N_uses_13 d_N_uses_16 hemp hlk (Nat.le_of_ble_eq_true rfl) (Nat.le_of_ble_eq_true rfl) (Nat.le_of_ble_eq_true rfl) (Nat.le_of_ble_eq_true rfl)
set_option maxHeartbeats 4000000 in
set_option maxRecDepth 100000 in
theorem c_N_name (l : Launch) (D : va_G) (cI cB cJ : ClassId) (h : Nat) (qn : Nat → Nat) (b : Int32) (k : Int32) (htl : l.stackTraces = false) : KX l D cI cB cJ y_N_name b_N_name 3 (some .int) 6 82 [.ref h, .int b, .int k] [(h, .inr (0, fN 0 qn))] "java/lang/IllegalStateException" := by
  refine KX.ofB (by decide) (Nat.le_of_ble_eq_true rfl) ?_
  intro p e s m args below meth c A ls C0 hemp hlk hl w
  have hx := C0.1
  have hb := C0.2.1
  have hl : lv_has ls 3 [(0, .ref h), (1, .int b), (2, .int k)] := hl
  refine lv_aload_n hx hb d_N_name_0 rfl (lv_at hl 0 rfl) ?_
  refine R_get C0 w 0 rfl rfl inN 6 (by decide) wd_345 rfl d_N_name_1 ?_
  refine lv_if_ne (tgt := 17) hx hb d_N_name_4 (by decide) (fun hc => absurd (by decide) hc) (fun hc4 => ?_)
  exact R_throw C0 htl (ix := ix_IllegalStateException) (rx := rx_IllegalStateException) (names := up_IllegalStateException) (tx := "it is not built") xa_IllegalStateException xb_IllegalStateException xc_IllegalStateException xd_IllegalStateException (by decide) (by decide) rfl at_IllegalStateException wd_393 wd_12 wd_394 (by decide) hl.1 d_N_name_7 d_N_name_10 d_N_name_11 d_N_name_13 d_N_name_16 hemp hlk (Nat.le_of_ble_eq_true rfl) (Nat.le_of_ble_eq_true rfl) (Nat.le_of_ble_eq_true rfl) (Nat.le_of_ble_eq_true rfl)
set_option maxHeartbeats 4000000 in
set_option maxRecDepth 100000 in
theorem c_N_runA (l : Launch) (D : va_G) (cI cB cJ : ClassId) (h : Nat) (qn : Nat → Nat) (b : Int32) (k : Int32) (htl : l.stackTraces = false) (hs : k < 0) : KX l D cI cB cJ y_N_run b_N_run 3 (some .int) 6 82 [.ref h, .int b, .int k] [(h, .inr (0, fN 0 qn))] "java/lang/IllegalArgumentException" := by
  refine KX.ofB (by decide) (Nat.le_of_ble_eq_true rfl) ?_
  intro p e s m args below meth c A ls C0 hemp hlk hl w
  have hx := C0.1
  have hb := C0.2.1
  have hl : lv_has ls 3 [(0, .ref h), (1, .int b), (2, .int k)] := hl
  refine lv_iload_n hx hb d_N_run_0 rfl (lv_at hl 2 rfl) ?_
  refine lv_if_lt (tgt := 11) hx hb d_N_run_1 (by decide) (fun hc1 => ?_) (fun hc => absurd hs hc)
  exact R_throw C0 htl (ix := ix_IllegalArgumentException) (rx := rx_IllegalArgumentException) (names := up_IllegalArgumentException) (tx := "steps are 0 to 200") xa_IllegalArgumentException xb_IllegalArgumentException xc_IllegalArgumentException xd_IllegalArgumentException (by decide) (by decide) rfl at_IllegalArgumentException wd_496 wd_13 wd_497 (by decide) hl.1 d_N_run_11 d_N_run_14 d_N_run_15 d_N_run_17 d_N_run_20 hemp hlk (Nat.le_of_ble_eq_true rfl) (Nat.le_of_ble_eq_true rfl) (Nat.le_of_ble_eq_true rfl) (Nat.le_of_ble_eq_true rfl)
set_option maxHeartbeats 4000000 in
set_option maxRecDepth 100000 in
theorem c_N_runB (l : Launch) (D : va_G) (cI cB cJ : ClassId) (h : Nat) (qn : Nat → Nat) (b : Int32) (k : Int32) (htl : l.stackTraces = false) (hs : ¬ k < 0) (ht : ¬ k ≤ 200) : KX l D cI cB cJ y_N_run b_N_run 3 (some .int) 6 82 [.ref h, .int b, .int k] [(h, .inr (0, fN 0 qn))] "java/lang/IllegalArgumentException" := by
  refine KX.ofB (by decide) (Nat.le_of_ble_eq_true rfl) ?_
  intro p e s m args below meth c A ls C0 hemp hlk hl w
  have hx := C0.1
  have hb := C0.2.1
  have hl : lv_has ls 3 [(0, .ref h), (1, .int b), (2, .int k)] := hl
  refine lv_iload_n hx hb d_N_run_0 rfl (lv_at hl 2 rfl) ?_
  refine lv_if_lt (tgt := 11) hx hb d_N_run_1 (by decide) (fun hc => absurd hc hs) (fun hc1 => ?_)
  refine lv_iload_n hx hb d_N_run_4 rfl (lv_at hl 2 rfl) ?_
  refine lv_sipush (v := 200) hx hb d_N_run_5 (by decide) ?_
  refine lv_icmp_le (tgt := 21) hx hb d_N_run_8 (by decide) (fun hc => absurd hc ht) (fun hc8 => ?_)
  exact R_throw C0 htl (ix := ix_IllegalArgumentException) (rx := rx_IllegalArgumentException) (names := up_IllegalArgumentException) (tx := "steps are 0 to 200") xa_IllegalArgumentException xb_IllegalArgumentException xc_IllegalArgumentException xd_IllegalArgumentException (by decide) (by decide) rfl at_IllegalArgumentException wd_496 wd_13 wd_497 (by decide) hl.1 d_N_run_11 d_N_run_14 d_N_run_15 d_N_run_17 d_N_run_20 hemp hlk (Nat.le_of_ble_eq_true rfl) (Nat.le_of_ble_eq_true rfl) (Nat.le_of_ble_eq_true rfl) (Nat.le_of_ble_eq_true rfl)
set_option maxHeartbeats 4000000 in
set_option maxRecDepth 100000 in
theorem c_N_runC (l : Launch) (D : va_G) (cI cB cJ : ClassId) (h : Nat) (qn : Nat → Nat) (b : Int32) (k : Int32) (htl : l.stackTraces = false) (hs : ¬ k < 0) (ht : k ≤ 200) : KX l D cI cB cJ y_N_run b_N_run 3 (some .int) 6 82 [.ref h, .int b, .int k] [(h, .inr (0, fN 0 qn))] "java/lang/IllegalStateException" := by
  refine KX.ofB (by decide) (Nat.le_of_ble_eq_true rfl) ?_
  intro p e s m args below meth c A ls C0 hemp hlk hl w
  have hx := C0.1
  have hb := C0.2.1
  have hl : lv_has ls 3 [(0, .ref h), (1, .int b), (2, .int k)] := hl
  refine lv_iload_n hx hb d_N_run_0 rfl (lv_at hl 2 rfl) ?_
  refine lv_if_lt (tgt := 11) hx hb d_N_run_1 (by decide) (fun hc => absurd hc hs) (fun hc1 => ?_)
  refine lv_iload_n hx hb d_N_run_4 rfl (lv_at hl 2 rfl) ?_
  refine lv_sipush (v := 200) hx hb d_N_run_5 (by decide) ?_
  refine lv_icmp_le (tgt := 21) hx hb d_N_run_8 (by decide) (fun hc8 => ?_) (fun hc => absurd ht hc)
  refine lv_aload_n hx hb d_N_run_21 rfl (lv_at hl 0 rfl) ?_
  refine R_get C0 w 0 rfl rfl inN 6 (by decide) wd_345 rfl d_N_run_22 ?_
  refine lv_if_ne (tgt := 38) hx hb d_N_run_25 (by decide) (fun hc => absurd (by decide) hc) (fun hc25 => ?_)
  exact R_throw C0 htl (ix := ix_IllegalStateException) (rx := rx_IllegalStateException) (names := up_IllegalStateException) (tx := "it is not built") xa_IllegalStateException xb_IllegalStateException xc_IllegalStateException xd_IllegalStateException (by decide) (by decide) rfl at_IllegalStateException wd_393 wd_12 wd_394 (by decide) hl.1 d_N_run_28 d_N_run_31 d_N_run_32 d_N_run_34 d_N_run_37 hemp hlk (Nat.le_of_ble_eq_true rfl) (Nat.le_of_ble_eq_true rfl) (Nat.le_of_ble_eq_true rfl) (Nat.le_of_ble_eq_true rfl)
set_option maxHeartbeats 4000000 in
set_option maxRecDepth 100000 in
theorem c_N_heard (l : Launch) (D : va_G) (cI cB cJ : ClassId) (h : Nat) (qn : Nat → Nat) (qm : Nat → Nat) (k : Int32) (htl : l.stackTraces = false) : KX l D cI cB cJ y_N_heard b_N_heard 2 (some .int) 6 82 [.ref h, .int k] [(h, .inr (0, fN 0 qn)), ((qn 5), .inr (6, fA 0 qm))] "java/util/NoSuchElementException" := by
  refine KX.ofB (by decide) (Nat.le_of_ble_eq_true rfl) ?_
  intro p e s m args below meth c A ls C0 hemp hlk hl w
  have hx := C0.1
  have hb := C0.2.1
  have hl : lv_has ls 2 [(0, .ref h), (1, .int k)] := hl
  refine lv_iload_n hx hb d_N_heard_0 rfl (lv_at hl 1 rfl) ?_
  refine lv_if_lt (tgt := 21) hx hb d_N_heard_1 (by decide) (fun hc1 => ?_) (fun hc1 => ?_)
  · exact R_throw C0 htl (ix := ix_NoSuchElementException) (rx := rx_NoSuchElementException) (names := up_NoSuchElementException) (tx := "not kept") xa_NoSuchElementException xb_NoSuchElementException xc_NoSuchElementException xd_NoSuchElementException (by decide) (by decide) rfl at_NoSuchElementException wd_696 wd_15 wd_697 (by decide) hl.1 d_N_heard_21 d_N_heard_24 d_N_heard_25 d_N_heard_27 d_N_heard_30 hemp hlk (Nat.le_of_ble_eq_true rfl) (Nat.le_of_ble_eq_true rfl) (Nat.le_of_ble_eq_true rfl) (Nat.le_of_ble_eq_true rfl)
  · refine lv_iload_n hx hb d_N_heard_4 rfl (lv_at hl 1 rfl) ?_
    refine lv_bipush (v := 40) hx hb d_N_heard_5 (by decide) ?_
    refine lv_icmp_ge (tgt := 21) hx hb d_N_heard_7 (by decide) (fun hc7 => ?_) (fun hc7 => ?_)
    · exact R_throw C0 htl (ix := ix_NoSuchElementException) (rx := rx_NoSuchElementException) (names := up_NoSuchElementException) (tx := "not kept") xa_NoSuchElementException xb_NoSuchElementException xc_NoSuchElementException xd_NoSuchElementException (by decide) (by decide) rfl at_NoSuchElementException wd_696 wd_15 wd_697 (by decide) hl.1 d_N_heard_21 d_N_heard_24 d_N_heard_25 d_N_heard_27 d_N_heard_30 hemp hlk (Nat.le_of_ble_eq_true rfl) (Nat.le_of_ble_eq_true rfl) (Nat.le_of_ble_eq_true rfl) (Nat.le_of_ble_eq_true rfl)
    · refine lv_iload_n hx hb d_N_heard_10 rfl (lv_at hl 1 rfl) ?_
      refine lv_aload_n hx hb d_N_heard_11 rfl (lv_at hl 0 rfl) ?_
      refine R_get C0 w 0 rfl rfl inN 5 (by decide) wd_344 rfl d_N_heard_12 ?_
      refine R_get C0 w 1 rfl rfl inA 9 (by decide) wd_301 rfl d_N_heard_15 ?_
      refine lv_icmp_lt (tgt := 31) hx hb d_N_heard_18 (by decide) (fun hc => absurd hc (fun h9 => hc1 h9)) (fun hc18 => ?_)
      exact R_throw C0 htl (ix := ix_NoSuchElementException) (rx := rx_NoSuchElementException) (names := up_NoSuchElementException) (tx := "not kept") xa_NoSuchElementException xb_NoSuchElementException xc_NoSuchElementException xd_NoSuchElementException (by decide) (by decide) rfl at_NoSuchElementException wd_696 wd_15 wd_697 (by decide) hl.1 d_N_heard_21 d_N_heard_24 d_N_heard_25 d_N_heard_27 d_N_heard_30 hemp hlk (Nat.le_of_ble_eq_true rfl) (Nat.le_of_ble_eq_true rfl) (Nat.le_of_ble_eq_true rfl) (Nat.le_of_ble_eq_true rfl)
set_option maxHeartbeats 4000000 in
set_option maxRecDepth 100000 in
theorem c_N_clear (l : Launch) (D : va_G) (cI cB cJ : ClassId) (h : Nat) (qn : Nat → Nat) (qp : Nat → Nat) : KV l D cI cB cJ y_N_clear b_N_clear 1 0 0 0 0 [.ref h] [(h, .inr (0, fN 0 qn)), ((qn 0), .inr (1, fP 0 qp))] (fun A t => CE D [] A t) := by
  refine KV.ofW (by decide) (Nat.le_of_ble_eq_true rfl) ?_
  intro p e s m args below meth c A Q ls C0 hin hl w hret
  have hin : meth.name = "clear" := hin
  have hx := C0.1
  have hb := C0.2.1
  have hl : lv_has ls 1 [(0, .ref h)] := hl
  refine lv_aload_n hx hb d_N_clear_0 rfl (lv_at hl 0 rfl) ?_
  refine lv_iconst (v := 0) hx hb d_N_clear_1 (by decide) ?_
  refine R_put C0 w 0 rfl rfl inN tyN_ok nmN 6 (by decide) wd_345 rfl nz0 fz0 (Nat.le_of_ble_eq_true rfl) d_N_clear_2 (fun H locs w => ?_)
  have w : Wd D A s [(h, .inr (0, fN 0 qn)), ((qn 0), .inr (1, fP 0 qp))] H _ := w
  refine lv_aload_n hx hb d_N_clear_5 rfl (lv_at hl 0 rfl) ?_
  refine R_get C0 w 0 rfl rfl inN 0 (by decide) wd_339 rfl d_N_clear_6 ?_
  refine lv_iconst (v := 0) hx hb d_N_clear_9 (by decide) ?_
  refine R_put C0 w 1 rfl rfl inP tyP_ok nmP 0 (by decide) wd_33 rfl rfl rfl (Nat.le_of_ble_eq_true rfl) d_N_clear_10 (fun H locs w => ?_)
  have w : Wd D A s [(h, .inr (0, fN 0 qn)), ((qn 0), .inr (1, fP 0 qp))] H _ := w
  exact hret _ _ _ _ d_N_clear_13 w.2.2.1 (fun t ht => ⟨by rw [ht]; exact (w.sub [] rfl rfl).1, (w.sub [] rfl rfl).2.1⟩)
set_option maxHeartbeats 4000000 in
set_option maxRecDepth 100000 in
theorem c_N_take (l : Launch) (D : va_G) (cI cB cJ : ClassId) (h : Nat) (qn : Nat → Nat) (qm : Nat → Nat) : KV l D cI cB cJ y_N_take b_N_take 1 0 0 0 0 [.ref h] [(h, .inr (0, fN 0 qn)), ((qn 5), .inr (6, fA 0 qm))] (fun A t => CE D [] A t) := by
  refine KV.ofW (by decide) (Nat.le_of_ble_eq_true rfl) ?_
  intro p e s m args below meth c A Q ls C0 hin hl w hret
  have hin : meth.name = "take" := hin
  have hx := C0.1
  have hb := C0.2.1
  have hl : lv_has ls 1 [(0, .ref h)] := hl
  refine lv_aload_n hx hb d_N_take_0 rfl (lv_at hl 0 rfl) ?_
  refine R_get C0 w 0 rfl rfl inN 5 (by decide) wd_344 rfl d_N_take_1 ?_
  refine lv_iconst (v := 0) hx hb d_N_take_4 (by decide) ?_
  refine R_put C0 w 1 rfl rfl inA tyA_ok nmA 4 (by decide) wd_295 rfl rfl rfl (Nat.le_of_ble_eq_true rfl) d_N_take_5 (fun H locs w => ?_)
  have w : Wd D A s [(h, .inr (0, fN 0 qn)), ((qn 5), .inr (6, fA 0 qm))] H _ := w
  exact hret _ _ _ _ d_N_take_8 w.2.2.1 (fun t ht => ⟨by rw [ht]; exact (w.sub [] rfl rfl).1, (w.sub [] rfl rfl).2.1⟩)
set_option maxHeartbeats 4000000 in
set_option maxRecDepth 100000 in
theorem c_addInput (l : Launch) (D : va_G) (cI cB cJ : ClassId) (h : Nat) (q : Nat → Nat) (v : Int32) : KI l D cI cB cJ y_A_addInput b_A_addInput 2 (some .boolean) 0 0 [.ref h, .int v] [(h, .inr (6, fA 0 q)), ((q 5), .inl (cI, 16, .inl (fun _ => 0)))] 1 [] := by
  refine KI.ofW (by decide) (Nat.le_of_ble_eq_true rfl) rfl rfl ?_
  intro p e s m args below meth c A Q ls C0 hl w hret
  have hx := C0.1
  have hb := C0.2.1
  have hl : lv_has ls 2 [(0, .ref h), (1, .int v)] := hl
  refine lv_aload_n hx hb d_A_addInput_0 rfl (lv_at hl 0 rfl) ?_
  refine R_get C0 w 0 rfl rfl inA 4 (by decide) wd_294 rfl d_A_addInput_1 ?_
  refine lv_bipush (v := 16) hx hb d_A_addInput_4 (by decide) ?_
  refine lv_icmp_lt (tgt := 11) hx hb d_A_addInput_6 (by decide) (fun hc6 => ?_) (fun hc => absurd (by decide) hc)
  refine lv_aload_n hx hb d_A_addInput_11 rfl (lv_at hl 0 rfl) ?_
  refine R_get C0 w 0 rfl rfl inA 5 (by decide) wd_296 rfl d_A_addInput_12 ?_
  refine lv_aload_n hx hb d_A_addInput_15 rfl (lv_at hl 0 rfl) ?_
  refine R_get C0 w 0 rfl rfl inA 4 (by decide) wd_294 rfl d_A_addInput_16 ?_
  refine lv_iload_n hx hb d_A_addInput_19 rfl (lv_at hl 1 rfl) ?_
  refine R_ast C0 w 1 rfl (vin (by decide)) d_A_addInput_20 (fun H locs w => ?_)
  have w : Wd D A s [(h, .inr (6, fA 0 q)), ((q 5), .inl (cI, 16, .inl (upd (fun _ => 0) (0 : Int32).toNatClampNeg v)))] H _ := w
  refine lv_aload_n hx hb d_A_addInput_21 rfl (lv_at hl 0 rfl) ?_
  refine lv_dup hx hb d_A_addInput_22 rfl ?_
  refine R_get C0 w 0 rfl rfl inA 4 (by decide) wd_294 rfl d_A_addInput_23 ?_
  refine lv_iconst (v := 1) hx hb d_A_addInput_26 (by decide) ?_
  refine lv_iadd hx hb d_A_addInput_27 ?_
  refine lv_cst (x := 0 + 1) (y := 1) (by decide) ?_
  refine R_put C0 w 0 rfl rfl inA tyA_ok nmA 4 (by decide) wd_294 rfl rfl rfl (Nat.le_of_ble_eq_true rfl) d_A_addInput_28 (fun H locs w => ?_)
  have w : Wd D A s [(h, .inr (6, fA 1 q)), ((q 5), .inl (cI, 16, .inl (upd (fun _ => 0) (0 : Int32).toNatClampNeg v)))] H _ := w
  refine lv_iconst (v := 1) hx hb d_A_addInput_31 (by decide) ?_
  exact hret _ _ _ _ d_A_addInput_32 (w.sub [] rfl rfl)
set_option maxHeartbeats 4000000 in
set_option maxRecDepth 100000 in
theorem c_N_give (l : Launch) (D : va_G) (cI cB cJ : ClassId) (h : Nat) (qn : Nat → Nat) (qm : Nat → Nat) (v : Int32) : KI l D cI cB cJ y_N_give b_N_give 2 (some .boolean) 1 21 [.ref h, .int v] [(h, .inr (0, fN 0 qn)), ((qn 5), .inr (6, fA 0 qm)), ((qm 5), .inl (cI, 16, .inl (fun _ => 0)))] 1 [] := by
  refine KI.ofW (by decide) (Nat.le_of_ble_eq_true rfl) rfl rfl ?_
  intro p e s m args below meth c A Q ls C0 hl w hret
  have hx := C0.1
  have hb := C0.2.1
  have hl : lv_has ls 2 [(0, .ref h), (1, .int v)] := hl
  refine lv_aload_n hx hb d_N_give_0 rfl (lv_at hl 0 rfl) ?_
  refine R_get C0 w 0 rfl rfl inN 5 (by decide) wd_344 rfl d_N_give_1 ?_
  refine lv_iload_n hx hb d_N_give_4 rfl (lv_at hl 1 rfl) ?_
  refine R_vi C0 w (rest := []) (wr := [(h, .inr (0, fN 0 qn))]) (w1 := []) 1 rfl rfl [1, 2] [0] (c_addInput l D cI cB cJ (qn 5) qm v) rfl rfl rfl rfl (by decide) wd_372 wd_369 wd_370 wd_371 wd_7 (n9 := 1) (by decide +kernel) rfl ⟨(Nat.le_of_ble_eq_true rfl), (Nat.le_of_ble_eq_true rfl)⟩ hl.1 rfl (Nat.le_of_ble_eq_true rfl) d_N_give_5 (Nat.le_of_ble_eq_true rfl) (Nat.le_of_ble_eq_true rfl) (fun H locs w => ?_)
  have w : Wd D A s [(h, .inr (0, fN 0 qn))] H _ := w
  exact hret _ _ _ _ d_N_give_8 (w.sub [] rfl rfl)
set_option maxHeartbeats 4000000 in
set_option maxRecDepth 100000 in
theorem c_N_told (l : Launch) (D : va_G) (cI cB cJ : ClassId) (h : Nat) (qn : Nat → Nat) (qm : Nat → Nat) : KR l D cI cB cJ y_N_told b_N_told 1 (some .int) 0 0 [.ref h] [(h, .inr (0, fN 0 qn)), ((qn 5), .inr (6, fA 0 qm))] 0 := by
  refine KR.ofW (by decide) (Nat.le_of_ble_eq_true rfl) rfl rfl ?_
  intro p e s m args below meth c A Q ls C0 hl w hret
  have hx := C0.1
  have hb := C0.2.1
  have hl : lv_has ls 1 [(0, .ref h)] := hl
  refine lv_aload_n hx hb d_N_told_0 rfl (lv_at hl 0 rfl) ?_
  refine R_get C0 w 0 rfl rfl inN 5 (by decide) wd_344 rfl d_N_told_1 ?_
  refine R_get C0 w 1 rfl rfl inA 9 (by decide) wd_301 rfl d_N_told_4 ?_
  exact hret _ _ d_N_told_7
set_option maxHeartbeats 4000000 in
set_option maxRecDepth 100000 in
theorem c_N_spent0 (l : Launch) (D : va_G) (cI cB cJ : ClassId) (h : Nat) (qn : Nat → Nat) (qm : Nat → Nat) : KR l D cI cB cJ y_N_spent b_N_spent 2 (some .int) 0 0 [.ref h, .int 0] [(h, .inr (0, fN 0 qn)), ((qn 5), .inr (6, fA 0 qm))] 0 := by
  refine KR.ofW (by decide) (Nat.le_of_ble_eq_true rfl) rfl rfl ?_
  intro p e s m args below meth c A Q ls C0 hl w hret
  have hx := C0.1
  have hb := C0.2.1
  have hl : lv_has ls 2 [(0, .ref h), (1, .int 0)] := hl
  refine lv_iload_n hx hb d_N_spent_0 rfl (lv_at hl 1 rfl) ?_
  refine lv_tableIn (off := 27) (tgt := 28) hx hb d_N_spent_1 (by decide) (by decide) (by decide) (by decide) ?_
  refine lv_aload_n hx hb d_N_spent_28 rfl (lv_at hl 0 rfl) ?_
  refine R_get C0 w 0 rfl rfl inN 5 (by decide) wd_344 rfl d_N_spent_29 ?_
  refine R_get C0 w 1 rfl rfl inA 11 (by decide) wd_305 rfl d_N_spent_32 ?_
  exact hret _ _ d_N_spent_35
set_option maxHeartbeats 4000000 in
set_option maxRecDepth 100000 in
theorem c_N_spent1 (l : Launch) (D : va_G) (cI cB cJ : ClassId) (h : Nat) (qn : Nat → Nat) (qm : Nat → Nat) : KR l D cI cB cJ y_N_spent b_N_spent 2 (some .int) 0 0 [.ref h, .int 1] [(h, .inr (0, fN 0 qn)), ((qn 5), .inr (6, fA 0 qm))] 0 := by
  refine KR.ofW (by decide) (Nat.le_of_ble_eq_true rfl) rfl rfl ?_
  intro p e s m args below meth c A Q ls C0 hl w hret
  have hx := C0.1
  have hb := C0.2.1
  have hl : lv_has ls 2 [(0, .ref h), (1, .int 1)] := hl
  refine lv_iload_n hx hb d_N_spent_0 rfl (lv_at hl 1 rfl) ?_
  refine lv_tableIn (off := 35) (tgt := 36) hx hb d_N_spent_1 (by decide) (by decide) (by decide) (by decide) ?_
  refine lv_aload_n hx hb d_N_spent_36 rfl (lv_at hl 0 rfl) ?_
  refine R_get C0 w 0 rfl rfl inN 5 (by decide) wd_344 rfl d_N_spent_37 ?_
  refine R_get C0 w 1 rfl rfl inA 12 (by decide) wd_307 rfl d_N_spent_40 ?_
  exact hret _ _ d_N_spent_43
set_option maxHeartbeats 4000000 in
set_option maxRecDepth 100000 in
theorem c_N_spent2 (l : Launch) (D : va_G) (cI cB cJ : ClassId) (h : Nat) (qn : Nat → Nat) (qm : Nat → Nat) : KR l D cI cB cJ y_N_spent b_N_spent 2 (some .int) 0 0 [.ref h, .int 2] [(h, .inr (0, fN 0 qn)), ((qn 5), .inr (6, fA 0 qm))] 0 := by
  refine KR.ofW (by decide) (Nat.le_of_ble_eq_true rfl) rfl rfl ?_
  intro p e s m args below meth c A Q ls C0 hl w hret
  have hx := C0.1
  have hb := C0.2.1
  have hl : lv_has ls 2 [(0, .ref h), (1, .int 2)] := hl
  refine lv_iload_n hx hb d_N_spent_0 rfl (lv_at hl 1 rfl) ?_
  refine lv_tableIn (off := 43) (tgt := 44) hx hb d_N_spent_1 (by decide) (by decide) (by decide) (by decide) ?_
  refine lv_aload_n hx hb d_N_spent_44 rfl (lv_at hl 0 rfl) ?_
  refine R_get C0 w 0 rfl rfl inN 5 (by decide) wd_344 rfl d_N_spent_45 ?_
  refine R_get C0 w 1 rfl rfl inA 13 (by decide) wd_309 rfl d_N_spent_48 ?_
  exact hret _ _ d_N_spent_51
set_option maxHeartbeats 4000000 in
set_option maxRecDepth 100000 in
theorem c_N_spentD (l : Launch) (D : va_G) (cI cB cJ : ClassId) (h : Nat) (qn : Nat → Nat) (qm : Nat → Nat) (k : Int32) (h0 : ¬ k = 0) (h1 : ¬ k = 1) (h2 : ¬ k = 2) : KR l D cI cB cJ y_N_spent b_N_spent 2 (some .int) 0 0 [.ref h, .int k] [(h, .inr (0, fN 0 qn)), ((qn 5), .inr (6, fA 0 qm))] (-1) := by
  refine KR.ofW (by decide) (Nat.le_of_ble_eq_true rfl) rfl rfl ?_
  intro p e s m args below meth c A Q ls C0 hl w hret
  have hx := C0.1
  have hb := C0.2.1
  have hl : lv_has ls 2 [(0, .ref h), (1, .int k)] := hl
  refine lv_iload_n hx hb d_N_spent_0 rfl (lv_at hl 1 rfl) ?_
  refine lv_tableOut (tgt := 52) hx hb d_N_spent_1 (sp_out h0 h1 h2) (by decide) ?_
  refine lv_iconst (v := (-1)) hx hb d_N_spent_52 (by decide) ?_
  exact hret _ _ d_N_spent_53
