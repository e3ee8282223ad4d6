set_option maxHeartbeats 4000000 in
set_option maxRecDepth 100000 in
theorem c_failsT (l : Launch) (D : va_G) (cI cB cJ : ClassId) (h : Nat) (q : Nat → Nat) (k : Int32) : KI l D cI cB cJ y_R_fails b_R_fails 3 (some .boolean) 0 0 [.ref h, .int 1, .int k] [(h, .inr (7, fR 0 0 0 0 q))] 1 [(h, .inr (7, fR k 0 0 0 q))] := by
  refine KI.ofW (by decide) (Nat.le_of_ble_eq_true rfl) rfl rfl ?_
  intro p e s m args below meth c A Q ls C0 hl w hret
  have hx := C0.1
  have hb := C0.2.1
  have hl : lv_has ls 3 [(0, .ref h), (1, .int 1), (2, .int k)] := hl
  refine lv_aload_n hx hb d_R_fails_0 rfl (lv_at hl 0 rfl) ?_
  refine lv_iload_n hx hb d_R_fails_1 rfl (lv_at hl 1 rfl) ?_
  refine lv_if_eq (tgt := 9) hx hb d_R_fails_2 (by decide) (fun hc => absurd hc (by decide)) (fun hc2 => ?_)
  refine lv_iload_n hx hb d_R_fails_5 rfl (lv_at hl 2 rfl) ?_
  refine lv_goto (tgt := 10) hx hb d_R_fails_6 (by decide) ?_
  refine R_put C0 w 0 rfl rfl inR tyR_ok nmR 0 (by decide) wd_828 rfl rfl rfl (Nat.le_of_ble_eq_true rfl) d_R_fails_10 (fun H locs w => ?_)
  have w : Wd D A s [(h, .inr (7, fR k 0 0 0 q))] H _ := w
  refine lv_iload_n hx hb d_R_fails_13 rfl (lv_at hl 1 rfl) ?_
  exact hret _ _ _ _ d_R_fails_14 (w.sub [0] rfl rfl)
set_option maxHeartbeats 4000000 in
set_option maxRecDepth 100000 in
theorem c_failsF (l : Launch) (D : va_G) (cI cB cJ : ClassId) (h : Nat) (q : Nat → Nat) (k : Int32) : KI l D cI cB cJ y_R_fails b_R_fails 3 (some .boolean) 0 0 [.ref h, .int 0, .int k] [(h, .inr (7, fR 0 0 0 0 q))] 0 [(h, .inr (7, fR 0 0 0 0 q))] := by
  refine KI.ofW (by decide) (Nat.le_of_ble_eq_true rfl) rfl rfl ?_
  intro p e s m args below meth c A Q ls C0 hl w hret
  have hx := C0.1
  have hb := C0.2.1
  have hl : lv_has ls 3 [(0, .ref h), (1, .int 0), (2, .int k)] := hl
  refine lv_aload_n hx hb d_R_fails_0 rfl (lv_at hl 0 rfl) ?_
  refine lv_iload_n hx hb d_R_fails_1 rfl (lv_at hl 1 rfl) ?_
  refine lv_if_eq (tgt := 9) hx hb d_R_fails_2 (by decide) (fun hc2 => ?_) (fun hc => absurd (by decide) hc)
  refine lv_iconst (v := 0) hx hb d_R_fails_9 (by decide) ?_
  refine R_put C0 w 0 rfl rfl inR tyR_ok nmR 0 (by decide) wd_828 rfl rfl rfl (Nat.le_of_ble_eq_true rfl) d_R_fails_10 (fun H locs w => ?_)
  have w : Wd D A s [(h, .inr (7, fR 0 0 0 0 q))] H _ := w
  refine lv_iload_n hx hb d_R_fails_13 rfl (lv_at hl 1 rfl) ?_
  exact hret _ _ _ _ d_R_fails_14 (w.sub [0] rfl rfl)
set_option maxHeartbeats 4000000 in
set_option maxRecDepth 100000 in
theorem c_noBlock (l : Launch) (D : va_G) (cI cB cJ : ClassId) (h : Nat) (q : Nat → Nat) (b : Int32) : KR l D cI cB cJ y_R_noBlock b_R_noBlock 2 (some .boolean) 0 0 [.ref h, .int b] [(h, .inr (7, fR 0 0 0 0 q))] 1 := by
  refine KR.ofW (by decide) (Nat.le_of_ble_eq_true rfl) rfl rfl ?_
  intro p e s m args below meth c A Q ls C0 hl w hret
  have hx := C0.1
  have hb := C0.2.1
  have hl : lv_has ls 2 [(0, .ref h), (1, .int b)] := hl
  refine lv_iload_n hx hb d_R_noBlock_0 rfl (lv_at hl 1 rfl) ?_
  refine lv_if_lt (tgt := 12) hx hb d_R_noBlock_1 (by decide) (fun hc1 => ?_) (fun hc1 => ?_)
  · refine lv_iconst (v := 1) hx hb d_R_noBlock_12 (by decide) ?_
    refine lv_goto (tgt := 17) hx hb d_R_noBlock_13 (by decide) ?_
    exact hret _ _ d_R_noBlock_17
  · refine lv_iload_n hx hb d_R_noBlock_4 rfl (lv_at hl 1 rfl) ?_
    refine lv_aload_n hx hb d_R_noBlock_5 rfl (lv_at hl 0 rfl) ?_
    refine R_get C0 w 0 rfl rfl inR 1 (by decide) wd_829 rfl d_R_noBlock_6 ?_
    refine lv_icmp_lt (tgt := 16) hx hb d_R_noBlock_9 (by decide) (fun hc => absurd hc (fun h9 => hc1 h9)) (fun hc9 => ?_)
    refine lv_iconst (v := 1) hx hb d_R_noBlock_12 (by decide) ?_
    refine lv_goto (tgt := 17) hx hb d_R_noBlock_13 (by decide) ?_
    exact hret _ _ d_R_noBlock_17
set_option maxHeartbeats 4000000 in
set_option maxRecDepth 100000 in
theorem c_thrown (l : Launch) (D : va_G) (cI cB cJ : ClassId) (h : Nat) (q : Nat → Nat) (v0 : Int32) (v1 : Int32) (v2 : Int32) (v3 : Int32) : KR l D cI cB cJ y_R_thrown b_R_thrown 1 (some .int) 0 0 [.ref h] [(h, .inr (7, fR v0 v1 v2 v3 q))] v0 := by
  refine KR.ofW (by decide) (Nat.le_of_ble_eq_true rfl) rfl rfl ?_
  intro p e s m args below meth c A Q ls C0 hl w hret
  have hx := C0.1
  have hb := C0.2.1
  have hl : lv_has ls 1 [(0, .ref h)] := hl
  refine lv_aload_n hx hb d_R_thrown_0 rfl (lv_at hl 0 rfl) ?_
  refine R_get C0 w 0 rfl rfl inR 0 (by decide) wd_828 rfl d_R_thrown_1 ?_
  exact hret _ _ d_R_thrown_4
set_option maxHeartbeats 4000000 in
set_option maxRecDepth 100000 in
theorem c_R_block (l : Launch) (D : va_G) (cI cB cJ : ClassId) (h : Nat) (q : Nat → Nat) : KI l D cI cB cJ y_R_block b_R_block 1 (some .int) 1 22 [.ref h] [(h, .inr (7, fR 0 0 0 0 q)), ((q 2), .inl (cI, 10, .inl (fun _ => 0))), ((q 7), .inl (cI, 10, .inl (fun _ => 0)))] 0 [(h, .inr (7, fR 0 1 0 0 q))] := by
  refine KI.ofW (by decide) (Nat.le_of_ble_eq_true rfl) rfl rfl ?_
  intro p e s m args below meth c A Q ls C0 hl w hret
  have hx := C0.1
  have hb := C0.2.1
  have hl : lv_has ls 1 [(0, .ref h)] := hl
  refine lv_aload_n hx hb d_R_block_0 rfl (lv_at hl 0 rfl) ?_
  refine lv_aload_n hx hb d_R_block_1 rfl (lv_at hl 0 rfl) ?_
  refine R_get C0 w 0 rfl rfl inR 1 (by decide) wd_829 rfl d_R_block_2 ?_
  refine lv_bipush (v := 10) hx hb d_R_block_5 (by decide) ?_
  refine lv_icmp_ne (tgt := 14) hx hb d_R_block_7 (by decide) (fun hc7 => ?_) (fun hc => absurd hc (by decide))
  refine lv_iconst (v := 0) hx hb d_R_block_14 (by decide) ?_
  refine lv_iconst (v := 1) hx hb d_R_block_15 (by decide) ?_
  refine R_vi C0 w (rest := []) (wr := [((q 2), .inl (cI, 10, .inl (fun _ => 0))), ((q 7), .inl (cI, 10, .inl (fun _ => 0)))]) (w1 := [(h, .inr (7, fR 0 0 0 0 q))]) 0 rfl rfl [0] [1, 2] (c_failsF l D cI cB cJ h q 1) rfl rfl rfl rfl (by decide) wd_963 wd_960 wd_962 ws_34 wd_8 (n9 := 2) (by decide +kernel) rfl ⟨(Nat.le_of_ble_eq_true rfl), (Nat.le_of_ble_eq_true rfl)⟩ hl.1 rfl (Nat.le_of_ble_eq_true rfl) d_R_block_16 (Nat.le_of_ble_eq_true rfl) (Nat.le_of_ble_eq_true rfl) (fun H locs w => ?_)
  have w : Wd D A s [((q 2), .inl (cI, 10, .inl (fun _ => 0))), ((q 7), .inl (cI, 10, .inl (fun _ => 0))), (h, .inr (7, fR 0 0 0 0 q))] H _ := w
  refine lv_if_eq (tgt := 24) hx hb d_R_block_19 (by decide) (fun hc19 => ?_) (fun hc => absurd (by decide) hc)
  refine lv_aload_n hx hb d_R_block_24 rfl (lv_at hl 0 rfl) ?_
  refine R_get C0 w 2 rfl rfl inR 2 (by decide) wd_830 rfl d_R_block_25 ?_
  refine lv_aload_n hx hb d_R_block_28 rfl (lv_at hl 0 rfl) ?_
  refine R_get C0 w 2 rfl rfl inR 1 (by decide) wd_829 rfl d_R_block_29 ?_
  refine lv_iconst (v := 0) hx hb d_R_block_32 (by decide) ?_
  refine R_ast C0 w 0 rfl (vin (by decide)) d_R_block_33 (fun H locs w => ?_)
  have w : Wd D A s [((q 2), .inl (cI, 10, .inl (upd (fun _ => 0) (0 : Int32).toNatClampNeg 0))), ((q 7), .inl (cI, 10, .inl (fun _ => 0))), (h, .inr (7, fR 0 0 0 0 q))] H _ := w
  refine lv_aload_n hx hb d_R_block_34 rfl (lv_at hl 0 rfl) ?_
  refine R_get C0 w 2 rfl rfl inR 7 (by decide) wd_835 rfl d_R_block_35 ?_
  refine lv_aload_n hx hb d_R_block_38 rfl (lv_at hl 0 rfl) ?_
  refine R_get C0 w 2 rfl rfl inR 1 (by decide) wd_829 rfl d_R_block_39 ?_
  refine lv_iconst (v := 0) hx hb d_R_block_42 (by decide) ?_
  refine R_ast C0 w 1 rfl (vin (by decide)) d_R_block_43 (fun H locs w => ?_)
  have w : Wd D A s [((q 2), .inl (cI, 10, .inl (upd (fun _ => 0) (0 : Int32).toNatClampNeg 0))), ((q 7), .inl (cI, 10, .inl (upd (fun _ => 0) (0 : Int32).toNatClampNeg 0))), (h, .inr (7, fR 0 0 0 0 q))] H _ := w
  refine lv_aload_n hx hb d_R_block_44 rfl (lv_at hl 0 rfl) ?_
  refine lv_dup hx hb d_R_block_45 rfl ?_
  refine R_get C0 w 2 rfl rfl inR 1 (by decide) wd_829 rfl d_R_block_46 ?_
  refine lv_iconst (v := 1) hx hb d_R_block_49 (by decide) ?_
  refine lv_iadd hx hb d_R_block_50 ?_
  refine lv_cst (x := 0 + 1) (y := 1) (by decide) ?_
  refine R_put C0 w 2 rfl rfl inR tyR_ok nmR 1 (by decide) wd_829 rfl rfl rfl (Nat.le_of_ble_eq_true rfl) d_R_block_51 (fun H locs w => ?_)
  have w : Wd D A s [((q 2), .inl (cI, 10, .inl (upd (fun _ => 0) (0 : Int32).toNatClampNeg 0))), ((q 7), .inl (cI, 10, .inl (upd (fun _ => 0) (0 : Int32).toNatClampNeg 0))), (h, .inr (7, fR 0 1 0 0 q))] H _ := w
  refine lv_aload_n hx hb d_R_block_54 rfl (lv_at hl 0 rfl) ?_
  refine lv_iconst (v := 0) hx hb d_R_block_55 (by decide) ?_
  refine R_put C0 w 2 rfl rfl inR tyR_ok nmR 11 (by decide) wd_839 rfl nz0 fz0 (Nat.le_of_ble_eq_true rfl) d_R_block_56 (fun H locs w => ?_)
  have w : Wd D A s [((q 2), .inl (cI, 10, .inl (upd (fun _ => 0) (0 : Int32).toNatClampNeg 0))), ((q 7), .inl (cI, 10, .inl (upd (fun _ => 0) (0 : Int32).toNatClampNeg 0))), (h, .inr (7, fR 0 1 0 0 q))] H _ := w
  refine lv_aload_n hx hb d_R_block_59 rfl (lv_at hl 0 rfl) ?_
  refine R_get C0 w 2 rfl rfl inR 1 (by decide) wd_829 rfl d_R_block_60 ?_
  refine lv_iconst (v := 1) hx hb d_R_block_63 (by decide) ?_
  refine lv_isub hx hb d_R_block_64 ?_
  refine lv_cst (x := 1 - 1) (y := 0) (by decide) ?_
  exact hret _ _ _ _ d_R_block_65 (w.sub [2] rfl rfl)
set_option maxHeartbeats 4000000 in
set_option maxRecDepth 100000 in
theorem c_R_put (l : Launch) (D : va_G) (cI cB cJ : ClassId) (h : Nat) (q : Nat → Nat) (b : Int32) (k : Int32) (d : Int32) (x : Int32) (y : Int32) : KI l D cI cB cJ y_R_put b_R_put 8 (some .int) 1 22 [.ref h, .int b, .int k, .int d, .int x, .int y] [(h, .inr (7, fR 0 0 0 0 q))] 0 [(h, .inr (7, fR 1 0 0 0 q))] := by
  refine KI.ofW (by decide) (Nat.le_of_ble_eq_true rfl) rfl rfl ?_
  intro p e s m args below meth c A Q ls C0 hl w hret
  have hx := C0.1
  have hb := C0.2.1
  have hl : lv_has ls 8 [(0, .ref h), (1, .int b), (2, .int k), (3, .int d), (4, .int x), (5, .int y)] := hl
  refine lv_aload_n hx hb d_R_put_0 rfl (lv_at hl 0 rfl) ?_
  refine lv_iload_n hx hb d_R_put_1 rfl (lv_at hl 1 rfl) ?_
  refine R_ri C0 w (rest := []) 0 rfl rfl [0] (c_noBlock l D cI cB cJ h q b) rfl rfl wd_971 wd_968 wd_970 ws_35 wd_8 (n9 := 1) (by decide +kernel) rfl ⟨(Nat.le_of_ble_eq_true rfl), (Nat.le_of_ble_eq_true rfl)⟩ hl.1 rfl (Nat.le_of_ble_eq_true rfl) d_R_put_2 (Nat.le_of_ble_eq_true rfl) (Nat.le_of_ble_eq_true rfl) ?_
  refine lv_if_ne (tgt := 62) hx hb d_R_put_5 (by decide) (fun hc5 => ?_) (fun hc => absurd hc (by decide))
  refine lv_iconst (v := 1) hx hb d_R_put_62 (by decide) ?_
  refine lv_goto (tgt := 67) hx hb d_R_put_63 (by decide) ?_
  refine lv_istore hx hb d_R_put_67 hl (by decide) rfl (fun ls hl => ?_)
  have hl : lv_has ls 8 [(6, .int 1), (0, .ref h), (1, .int b), (2, .int k), (3, .int d), (4, .int x), (5, .int y)] := hl
  refine lv_aload_n hx hb d_R_put_69 rfl (lv_at hl 1 rfl) ?_
  refine lv_iload hx hb d_R_put_70 (lv_at hl 0 rfl) ?_
  refine lv_iconst (v := 1) hx hb d_R_put_72 (by decide) ?_
  refine R_vi C0 w (rest := []) (wr := []) (w1 := [(h, .inr (7, fR 1 0 0 0 q))]) 0 rfl rfl [0] [] (c_failsT l D cI cB cJ h q 1) rfl rfl rfl rfl (by decide) wd_963 wd_960 wd_962 ws_34 wd_8 (n9 := 2) (by decide +kernel) rfl ⟨(Nat.le_of_ble_eq_true rfl), (Nat.le_of_ble_eq_true rfl)⟩ hl.1 rfl (Nat.le_of_ble_eq_true rfl) d_R_put_73 (Nat.le_of_ble_eq_true rfl) (Nat.le_of_ble_eq_true rfl) (fun H locs w => ?_)
  have w : Wd D A s [(h, .inr (7, fR 1 0 0 0 q))] H _ := w
  refine lv_if_ne (tgt := 103) hx hb d_R_put_76 (by decide) (fun hc76 => ?_) (fun hc => absurd hc (by decide))
  refine lv_iconst (v := 0) hx hb d_R_put_103 (by decide) ?_
  exact hret _ _ _ _ d_R_put_104 (w.sub [0] rfl rfl)
set_option maxHeartbeats 4000000 in
set_option maxRecDepth 100000 in
theorem c_R_go (l : Launch) (D : va_G) (cI cB cJ : ClassId) (h : Nat) (q : Nat → Nat) (b : Int32) (t : Int32) : KV l D cI cB cJ y_R_go b_R_go 3 1 22 0 0 [.ref h, .int b, .int t] [(h, .inr (7, fR 0 0 0 0 q))] (fun A t => CE D [(h, .inr (7, fR 1 0 0 0 q))] A t) := by
  refine KV.ofW (by decide) (Nat.le_of_ble_eq_true rfl) ?_
  intro p e s m args below meth c A Q ls C0 hin hl w hret
  have hin : meth.name = "go" := hin
  have hx := C0.1
  have hb := C0.2.1
  have hl : lv_has ls 3 [(0, .ref h), (1, .int b), (2, .int t)] := hl
  refine lv_aload_n hx hb d_R_go_0 rfl (lv_at hl 0 rfl) ?_
  refine lv_aload_n hx hb d_R_go_1 rfl (lv_at hl 0 rfl) ?_
  refine lv_iload_n hx hb d_R_go_2 rfl (lv_at hl 1 rfl) ?_
  refine R_ri C0 w (rest := [.ref h]) 0 rfl rfl [0] (c_noBlock l D cI cB cJ h q b) rfl rfl wd_971 wd_968 wd_970 ws_35 wd_8 (n9 := 1) (by decide +kernel) rfl ⟨(Nat.le_of_ble_eq_true rfl), (Nat.le_of_ble_eq_true rfl)⟩ hl.1 rfl (Nat.le_of_ble_eq_true rfl) d_R_go_3 (Nat.le_of_ble_eq_true rfl) (Nat.le_of_ble_eq_true rfl) ?_
  refine lv_if_ne (tgt := 17) hx hb d_R_go_6 (by decide) (fun hc6 => ?_) (fun hc => absurd hc (by decide))
  refine lv_iconst (v := 1) hx hb d_R_go_17 (by decide) ?_
  refine lv_goto (tgt := 22) hx hb d_R_go_18 (by decide) ?_
  refine lv_iconst (v := 1) hx hb d_R_go_22 (by decide) ?_
  refine R_vi C0 w (rest := []) (wr := []) (w1 := [(h, .inr (7, fR 1 0 0 0 q))]) 0 rfl rfl [0] [] (c_failsT l D cI cB cJ h q 1) rfl rfl rfl rfl (by decide) wd_963 wd_960 wd_962 ws_34 wd_8 (n9 := 2) (by decide +kernel) rfl ⟨(Nat.le_of_ble_eq_true rfl), (Nat.le_of_ble_eq_true rfl)⟩ hl.1 rfl (Nat.le_of_ble_eq_true rfl) d_R_go_23 (Nat.le_of_ble_eq_true rfl) (Nat.le_of_ble_eq_true rfl) (fun H locs w => ?_)
  have w : Wd D A s [(h, .inr (7, fR 1 0 0 0 q))] H _ := w
  refine lv_if_eq (tgt := 30) hx hb d_R_go_26 (by decide) (fun hc => absurd hc (by decide)) (fun hc26 => ?_)
  exact hret _ _ _ _ d_R_go_29 w.2.2.1 (fun t ht => ⟨by rw [ht]; exact (w.sub [0] rfl rfl).1, (w.sub [0] rfl rfl).2.1⟩)
set_option maxHeartbeats 4000000 in
set_option maxRecDepth 100000 in
theorem c_R_fork (l : Launch) (D : va_G) (cI cB cJ : ClassId) (h : Nat) (q : Nat → Nat) (b : Int32) (x : Int32) (t : Int32) (u : Int32) : KV l D cI cB cJ y_R_fork b_R_fork 5 1 22 0 0 [.ref h, .int b, .int x, .int t, .int u] [(h, .inr (7, fR 0 0 0 0 q))] (fun A t => CE D [(h, .inr (7, fR 1 0 0 0 q))] A t) := by
  refine KV.ofW (by decide) (Nat.le_of_ble_eq_true rfl) ?_
  intro p e s m args below meth c A Q ls C0 hin hl w hret
  have hin : meth.name = "fork" := hin
  have hx := C0.1
  have hb := C0.2.1
  have hl : lv_has ls 5 [(0, .ref h), (1, .int b), (2, .int x), (3, .int t), (4, .int u)] := hl
  refine lv_aload_n hx hb d_R_fork_0 rfl (lv_at hl 0 rfl) ?_
  refine lv_aload_n hx hb d_R_fork_1 rfl (lv_at hl 0 rfl) ?_
  refine lv_iload_n hx hb d_R_fork_2 rfl (lv_at hl 1 rfl) ?_
  refine R_ri C0 w (rest := [.ref h]) 0 rfl rfl [0] (c_noBlock l D cI cB cJ h q b) rfl rfl wd_971 wd_968 wd_970 ws_35 wd_8 (n9 := 1) (by decide +kernel) rfl ⟨(Nat.le_of_ble_eq_true rfl), (Nat.le_of_ble_eq_true rfl)⟩ hl.1 rfl (Nat.le_of_ble_eq_true rfl) d_R_fork_3 (Nat.le_of_ble_eq_true rfl) (Nat.le_of_ble_eq_true rfl) ?_
  refine lv_if_ne (tgt := 33) hx hb d_R_fork_6 (by decide) (fun hc6 => ?_) (fun hc => absurd hc (by decide))
  refine lv_iconst (v := 1) hx hb d_R_fork_33 (by decide) ?_
  refine lv_goto (tgt := 38) hx hb d_R_fork_34 (by decide) ?_
  refine lv_iconst (v := 1) hx hb d_R_fork_38 (by decide) ?_
  refine R_vi C0 w (rest := []) (wr := []) (w1 := [(h, .inr (7, fR 1 0 0 0 q))]) 0 rfl rfl [0] [] (c_failsT l D cI cB cJ h q 1) rfl rfl rfl rfl (by decide) wd_963 wd_960 wd_962 ws_34 wd_8 (n9 := 2) (by decide +kernel) rfl ⟨(Nat.le_of_ble_eq_true rfl), (Nat.le_of_ble_eq_true rfl)⟩ hl.1 rfl (Nat.le_of_ble_eq_true rfl) d_R_fork_39 (Nat.le_of_ble_eq_true rfl) (Nat.le_of_ble_eq_true rfl) (fun H locs w => ?_)
  have w : Wd D A s [(h, .inr (7, fR 1 0 0 0 q))] H _ := w
  refine lv_if_eq (tgt := 46) hx hb d_R_fork_42 (by decide) (fun hc => absurd hc (by decide)) (fun hc42 => ?_)
  exact hret _ _ _ _ d_R_fork_45 w.2.2.1 (fun t ht => ⟨by rw [ht]; exact (w.sub [0] rfl rfl).1, (w.sub [0] rfl rfl).2.1⟩)
set_option maxHeartbeats 4000000 in
set_option maxRecDepth 100000 in
theorem c_R_stop (l : Launch) (D : va_G) (cI cB cJ : ClassId) (h : Nat) (q : Nat → Nat) (b : Int32) : KV l D cI cB cJ y_R_stop b_R_stop 2 1 22 0 0 [.ref h, .int b] [(h, .inr (7, fR 0 0 0 0 q))] (fun A t => CE D [(h, .inr (7, fR 1 0 0 0 q))] A t) := by
  refine KV.ofW (by decide) (Nat.le_of_ble_eq_true rfl) ?_
  intro p e s m args below meth c A Q ls C0 hin hl w hret
  have hin : meth.name = "stop" := hin
  have hx := C0.1
  have hb := C0.2.1
  have hl : lv_has ls 2 [(0, .ref h), (1, .int b)] := hl
  refine lv_aload_n hx hb d_R_stop_0 rfl (lv_at hl 0 rfl) ?_
  refine lv_aload_n hx hb d_R_stop_1 rfl (lv_at hl 0 rfl) ?_
  refine lv_iload_n hx hb d_R_stop_2 rfl (lv_at hl 1 rfl) ?_
  refine R_ri C0 w (rest := [.ref h]) 0 rfl rfl [0] (c_noBlock l D cI cB cJ h q b) rfl rfl wd_971 wd_968 wd_970 ws_35 wd_8 (n9 := 1) (by decide +kernel) rfl ⟨(Nat.le_of_ble_eq_true rfl), (Nat.le_of_ble_eq_true rfl)⟩ hl.1 rfl (Nat.le_of_ble_eq_true rfl) d_R_stop_3 (Nat.le_of_ble_eq_true rfl) (Nat.le_of_ble_eq_true rfl) ?_
  refine lv_iconst (v := 1) hx hb d_R_stop_6 (by decide) ?_
  refine R_vi C0 w (rest := []) (wr := []) (w1 := [(h, .inr (7, fR 1 0 0 0 q))]) 0 rfl rfl [0] [] (c_failsT l D cI cB cJ h q 1) rfl rfl rfl rfl (by decide) wd_963 wd_960 wd_962 ws_34 wd_8 (n9 := 2) (by decide +kernel) rfl ⟨(Nat.le_of_ble_eq_true rfl), (Nat.le_of_ble_eq_true rfl)⟩ hl.1 rfl (Nat.le_of_ble_eq_true rfl) d_R_stop_7 (Nat.le_of_ble_eq_true rfl) (Nat.le_of_ble_eq_true rfl) (fun H locs w => ?_)
  have w : Wd D A s [(h, .inr (7, fR 1 0 0 0 q))] H _ := w
  refine lv_if_eq (tgt := 14) hx hb d_R_stop_10 (by decide) (fun hc => absurd hc (by decide)) (fun hc10 => ?_)
  exact hret _ _ _ _ d_R_stop_13 w.2.2.1 (fun t ht => ⟨by rw [ht]; exact (w.sub [0] rfl rfl).1, (w.sub [0] rfl rfl).2.1⟩)
set_option maxHeartbeats 4000000 in
set_option maxRecDepth 100000 in
theorem c_R_clear (l : Launch) (D : va_G) (cI cB cJ : ClassId) (h : Nat) (q : Nat → Nat) : KV l D cI cB cJ y_R_clear b_R_clear 1 0 0 0 0 [.ref h] [(h, .inr (7, fR 0 0 0 0 q))] (fun A t => CE D [(h, .inr (7, fR 0 0 0 0 q))] A t) := by
  refine KV.ofW (by decide) (Nat.le_of_ble_eq_true rfl) ?_
  intro p e s m args below meth c A Q ls C0 hin hl w hret
  have hin : meth.name = "clear" := hin
  have hx := C0.1
  have hb := C0.2.1
  have hl : lv_has ls 1 [(0, .ref h)] := hl
  refine lv_aload_n hx hb d_R_clear_0 rfl (lv_at hl 0 rfl) ?_
  refine lv_iconst (v := 0) hx hb d_R_clear_1 (by decide) ?_
  refine R_put C0 w 0 rfl rfl inR tyR_ok nmR 0 (by decide) wd_828 rfl rfl rfl (Nat.le_of_ble_eq_true rfl) d_R_clear_2 (fun H locs w => ?_)
  have w : Wd D A s [(h, .inr (7, fR 0 0 0 0 q))] H _ := w
  refine lv_aload_n hx hb d_R_clear_5 rfl (lv_at hl 0 rfl) ?_
  refine lv_iconst (v := 0) hx hb d_R_clear_6 (by decide) ?_
  refine R_put C0 w 0 rfl rfl inR tyR_ok nmR 1 (by decide) wd_829 rfl rfl rfl (Nat.le_of_ble_eq_true rfl) d_R_clear_7 (fun H locs w => ?_)
  have w : Wd D A s [(h, .inr (7, fR 0 0 0 0 q))] H _ := w
  refine lv_aload_n hx hb d_R_clear_10 rfl (lv_at hl 0 rfl) ?_
  refine lv_iconst (v := 0) hx hb d_R_clear_11 (by decide) ?_
  refine R_put C0 w 0 rfl rfl inR tyR_ok nmR 11 (by decide) wd_839 rfl nz0 fz0 (Nat.le_of_ble_eq_true rfl) d_R_clear_12 (fun H locs w => ?_)
  have w : Wd D A s [(h, .inr (7, fR 0 0 0 0 q))] H _ := w
  exact hret _ _ _ _ d_R_clear_15 w.2.2.1 (fun t ht => ⟨by rw [ht]; exact (w.sub [0] rfl rfl).1, (w.sub [0] rfl rfl).2.1⟩)
set_option maxHeartbeats 4000000 in
set_option maxRecDepth 100000 in
theorem c_R_build (l : Launch) (D : va_G) (cI cB cJ : ClassId) (h : Nat) (q : Nat → Nat) : KI l D cI cB cJ y_R_build b_R_build 1 (some .int) 1 22 [.ref h] [(h, .inr (7, fR 0 0 0 0 q))] 0 [(h, .inr (7, fR 1 0 0 0 q))] := by
  refine KI.ofW (by decide) (Nat.le_of_ble_eq_true rfl) rfl rfl ?_
  intro p e s m args below meth c A Q ls C0 hl w hret
  have hx := C0.1
  have hb := C0.2.1
  have hl : lv_has ls 1 [(0, .ref h)] := hl
  refine lv_aload_n hx hb d_R_build_0 rfl (lv_at hl 0 rfl) ?_
  refine lv_aload_n hx hb d_R_build_1 rfl (lv_at hl 0 rfl) ?_
  refine R_get C0 w 0 rfl rfl inR 1 (by decide) wd_829 rfl d_R_build_2 ?_
  refine lv_if_ne (tgt := 12) hx hb d_R_build_5 (by decide) (fun hc => absurd (by decide) hc) (fun hc5 => ?_)
  refine lv_iconst (v := 1) hx hb d_R_build_8 (by decide) ?_
  refine lv_goto (tgt := 13) hx hb d_R_build_9 (by decide) ?_
  refine lv_iconst (v := 1) hx hb d_R_build_13 (by decide) ?_
  refine R_vi C0 w (rest := []) (wr := []) (w1 := [(h, .inr (7, fR 1 0 0 0 q))]) 0 rfl rfl [0] [] (c_failsT l D cI cB cJ h q 1) rfl rfl rfl rfl (by decide) wd_963 wd_960 wd_962 ws_34 wd_8 (n9 := 2) (by decide +kernel) rfl ⟨(Nat.le_of_ble_eq_true rfl), (Nat.le_of_ble_eq_true rfl)⟩ hl.1 rfl (Nat.le_of_ble_eq_true rfl) d_R_build_14 (Nat.le_of_ble_eq_true rfl) (Nat.le_of_ble_eq_true rfl) (fun H locs w => ?_)
  have w : Wd D A s [(h, .inr (7, fR 1 0 0 0 q))] H _ := w
  refine lv_if_eq (tgt := 22) hx hb d_R_build_17 (by decide) (fun hc => absurd hc (by decide)) (fun hc17 => ?_)
  refine lv_iconst (v := 0) hx hb d_R_build_20 (by decide) ?_
  exact hret _ _ _ _ d_R_build_21 (w.sub [0] rfl rfl)
set_option maxHeartbeats 4000000 in
set_option maxRecDepth 100000 in
theorem c_R_look (l : Launch) (D : va_G) (cI cB cJ : ClassId) (h : Nat) (q : Nat → Nat) (b : Int32) (k : Int32) : KI l D cI cB cJ y_R_look b_R_look 4 (some .int) 1 22 [.ref h, .int b, .int k] [(h, .inr (7, fR 0 0 0 0 q))] 0 [(h, .inr (7, fR 1 0 0 0 q))] := by
  refine KI.ofW (by decide) (Nat.le_of_ble_eq_true rfl) rfl rfl ?_
  intro p e s m args below meth c A Q ls C0 hl w hret
  have hx := C0.1
  have hb := C0.2.1
  have hl : lv_has ls 4 [(0, .ref h), (1, .int b), (2, .int k)] := hl
  refine lv_aload_n hx hb d_R_look_0 rfl (lv_at hl 0 rfl) ?_
  refine lv_aload_n hx hb d_R_look_1 rfl (lv_at hl 0 rfl) ?_
  refine lv_iload_n hx hb d_R_look_2 rfl (lv_at hl 1 rfl) ?_
  refine R_ri C0 w (rest := [.ref h]) 0 rfl rfl [0] (c_noBlock l D cI cB cJ h q b) rfl rfl wd_971 wd_968 wd_970 ws_35 wd_8 (n9 := 1) (by decide +kernel) rfl ⟨(Nat.le_of_ble_eq_true rfl), (Nat.le_of_ble_eq_true rfl)⟩ hl.1 rfl (Nat.le_of_ble_eq_true rfl) d_R_look_3 (Nat.le_of_ble_eq_true rfl) (Nat.le_of_ble_eq_true rfl) ?_
  refine lv_if_ne (tgt := 18) hx hb d_R_look_6 (by decide) (fun hc6 => ?_) (fun hc => absurd hc (by decide))
  refine lv_iconst (v := 1) hx hb d_R_look_18 (by decide) ?_
  refine lv_goto (tgt := 23) hx hb d_R_look_19 (by decide) ?_
  refine lv_iconst (v := 1) hx hb d_R_look_23 (by decide) ?_
  refine R_vi C0 w (rest := []) (wr := []) (w1 := [(h, .inr (7, fR 1 0 0 0 q))]) 0 rfl rfl [0] [] (c_failsT l D cI cB cJ h q 1) rfl rfl rfl rfl (by decide) wd_963 wd_960 wd_962 ws_34 wd_8 (n9 := 2) (by decide +kernel) rfl ⟨(Nat.le_of_ble_eq_true rfl), (Nat.le_of_ble_eq_true rfl)⟩ hl.1 rfl (Nat.le_of_ble_eq_true rfl) d_R_look_24 (Nat.le_of_ble_eq_true rfl) (Nat.le_of_ble_eq_true rfl) (fun H locs w => ?_)
  have w : Wd D A s [(h, .inr (7, fR 1 0 0 0 q))] H _ := w
  refine lv_if_ne (tgt := 50) hx hb d_R_look_27 (by decide) (fun hc27 => ?_) (fun hc => absurd hc (by decide))
  refine lv_iconst (v := 0) hx hb d_R_look_50 (by decide) ?_
  exact hret _ _ _ _ d_R_look_51 (w.sub [0] rfl rfl)
set_option maxHeartbeats 4000000 in
set_option maxRecDepth 100000 in
theorem c_R_phi (l : Launch) (D : va_G) (cI cB cJ : ClassId) (h : Nat) (q : Nat → Nat) (b : Int32) (k : Int32) (x : Int32) : KI l D cI cB cJ y_R_phi b_R_phi 6 (some .int) 1 22 [.ref h, .int b, .int k, .int x] [(h, .inr (7, fR 0 0 0 0 q))] 0 [(h, .inr (7, fR 2 0 0 0 q))] := by
  refine KI.ofW (by decide) (Nat.le_of_ble_eq_true rfl) rfl rfl ?_
  intro p e s m args below meth c A Q ls C0 hl w hret
  have hx := C0.1
  have hb := C0.2.1
  have hl : lv_has ls 6 [(0, .ref h), (1, .int b), (2, .int k), (3, .int x)] := hl
  refine lv_aload_n hx hb d_R_phi_0 rfl (lv_at hl 0 rfl) ?_
  refine lv_aload_n hx hb d_R_phi_1 rfl (lv_at hl 0 rfl) ?_
  refine R_get C0 w 0 rfl rfl inR 11 (by decide) wd_839 rfl d_R_phi_2 ?_
  refine lv_if_ne (tgt := 12) hx hb d_R_phi_5 (by decide) (fun hc => absurd (by decide) hc) (fun hc5 => ?_)
  refine lv_iconst (v := 1) hx hb d_R_phi_8 (by decide) ?_
  refine lv_goto (tgt := 13) hx hb d_R_phi_9 (by decide) ?_
  refine lv_iconst (v := 2) hx hb d_R_phi_13 (by decide) ?_
  refine R_vi C0 w (rest := []) (wr := []) (w1 := [(h, .inr (7, fR 2 0 0 0 q))]) 0 rfl rfl [0] [] (c_failsT l D cI cB cJ h q 2) rfl rfl rfl rfl (by decide) wd_963 wd_960 wd_962 ws_34 wd_8 (n9 := 2) (by decide +kernel) rfl ⟨(Nat.le_of_ble_eq_true rfl), (Nat.le_of_ble_eq_true rfl)⟩ hl.1 rfl (Nat.le_of_ble_eq_true rfl) d_R_phi_14 (Nat.le_of_ble_eq_true rfl) (Nat.le_of_ble_eq_true rfl) (fun H locs w => ?_)
  have w : Wd D A s [(h, .inr (7, fR 2 0 0 0 q))] H _ := w
  refine lv_if_eq (tgt := 22) hx hb d_R_phi_17 (by decide) (fun hc => absurd hc (by decide)) (fun hc17 => ?_)
  refine lv_iconst (v := 0) hx hb d_R_phi_20 (by decide) ?_
  exact hret _ _ _ _ d_R_phi_21 (w.sub [0] rfl rfl)
set_option maxHeartbeats 4000000 in
set_option maxRecDepth 100000 in
theorem c_R_uses (l : Launch) (D : va_G) (cI cB cJ : ClassId) (h : Nat) (q : Nat → Nat) (b : Int32) (k : Int32) (x : Int32) : KI l D cI cB cJ y_R_uses b_R_uses 6 (some .int) 1 22 [.ref h, .int b, .int k, .int x] [(h, .inr (7, fR 0 0 0 0 q))] 0 [(h, .inr (7, fR 2 0 0 0 q))] := by
  refine KI.ofW (by decide) (Nat.le_of_ble_eq_true rfl) rfl rfl ?_
  intro p e s m args below meth c A Q ls C0 hl w hret
  have hx := C0.1
  have hb := C0.2.1
  have hl : lv_has ls 6 [(0, .ref h), (1, .int b), (2, .int k), (3, .int x)] := hl
  refine lv_aload_n hx hb d_R_uses_0 rfl (lv_at hl 0 rfl) ?_
  refine lv_aload_n hx hb d_R_uses_1 rfl (lv_at hl 0 rfl) ?_
  refine R_get C0 w 0 rfl rfl inR 11 (by decide) wd_839 rfl d_R_uses_2 ?_
  refine lv_if_ne (tgt := 12) hx hb d_R_uses_5 (by decide) (fun hc => absurd (by decide) hc) (fun hc5 => ?_)
  refine lv_iconst (v := 1) hx hb d_R_uses_8 (by decide) ?_
  refine lv_goto (tgt := 13) hx hb d_R_uses_9 (by decide) ?_
  refine lv_iconst (v := 2) hx hb d_R_uses_13 (by decide) ?_
  refine R_vi C0 w (rest := []) (wr := []) (w1 := [(h, .inr (7, fR 2 0 0 0 q))]) 0 rfl rfl [0] [] (c_failsT l D cI cB cJ h q 2) rfl rfl rfl rfl (by decide) wd_963 wd_960 wd_962 ws_34 wd_8 (n9 := 2) (by decide +kernel) rfl ⟨(Nat.le_of_ble_eq_true rfl), (Nat.le_of_ble_eq_true rfl)⟩ hl.1 rfl (Nat.le_of_ble_eq_true rfl) d_R_uses_14 (Nat.le_of_ble_eq_true rfl) (Nat.le_of_ble_eq_true rfl) (fun H locs w => ?_)
  have w : Wd D A s [(h, .inr (7, fR 2 0 0 0 q))] H _ := w
  refine lv_if_eq (tgt := 22) hx hb d_R_uses_17 (by decide) (fun hc => absurd hc (by decide)) (fun hc17 => ?_)
  refine lv_iconst (v := 0) hx hb d_R_uses_20 (by decide) ?_
  exact hret _ _ _ _ d_R_uses_21 (w.sub [0] rfl rfl)
set_option maxHeartbeats 4000000 in
set_option maxRecDepth 100000 in
theorem c_R_name (l : Launch) (D : va_G) (cI cB cJ : ClassId) (h : Nat) (q : Nat → Nat) (b : Int32) (k : Int32) : KI l D cI cB cJ y_R_name b_R_name 3 (some .int) 1 22 [.ref h, .int b, .int k] [(h, .inr (7, fR 0 0 0 0 q))] 0 [(h, .inr (7, fR 2 0 0 0 q))] := by
  refine KI.ofW (by decide) (Nat.le_of_ble_eq_true rfl) rfl rfl ?_
  intro p e s m args below meth c A Q ls C0 hl w hret
  have hx := C0.1
  have hb := C0.2.1
  have hl : lv_has ls 3 [(0, .ref h), (1, .int b), (2, .int k)] := hl
  refine lv_aload_n hx hb d_R_name_0 rfl (lv_at hl 0 rfl) ?_
  refine lv_aload_n hx hb d_R_name_1 rfl (lv_at hl 0 rfl) ?_
  refine R_get C0 w 0 rfl rfl inR 11 (by decide) wd_839 rfl d_R_name_2 ?_
  refine lv_if_ne (tgt := 12) hx hb d_R_name_5 (by decide) (fun hc => absurd (by decide) hc) (fun hc5 => ?_)
  refine lv_iconst (v := 1) hx hb d_R_name_8 (by decide) ?_
  refine lv_goto (tgt := 13) hx hb d_R_name_9 (by decide) ?_
  refine lv_iconst (v := 2) hx hb d_R_name_13 (by decide) ?_
  refine R_vi C0 w (rest := []) (wr := []) (w1 := [(h, .inr (7, fR 2 0 0 0 q))]) 0 rfl rfl [0] [] (c_failsT l D cI cB cJ h q 2) rfl rfl rfl rfl (by decide) wd_963 wd_960 wd_962 ws_34 wd_8 (n9 := 2) (by decide +kernel) rfl ⟨(Nat.le_of_ble_eq_true rfl), (Nat.le_of_ble_eq_true rfl)⟩ hl.1 rfl (Nat.le_of_ble_eq_true rfl) d_R_name_14 (Nat.le_of_ble_eq_true rfl) (Nat.le_of_ble_eq_true rfl) (fun H locs w => ?_)
  have w : Wd D A s [(h, .inr (7, fR 2 0 0 0 q))] H _ := w
  refine lv_if_eq (tgt := 22) hx hb d_R_name_17 (by decide) (fun hc => absurd hc (by decide)) (fun hc17 => ?_)
  refine lv_iconst (v := 0) hx hb d_R_name_20 (by decide) ?_
  exact hret _ _ _ _ d_R_name_21 (w.sub [0] rfl rfl)
set_option maxHeartbeats 4000000 in
set_option maxRecDepth 100000 in
theorem c_R_give (l : Launch) (D : va_G) (cI cB cJ : ClassId) (h : Nat) (q : Nat → Nat) (v : Int32) : KI l D cI cB cJ y_R_give b_R_give 2 (some .boolean) 0 0 [.ref h, .int v] [(h, .inr (7, fR 0 0 0 0 q)), ((q 33), .inl (cI, 16, .inl (fun _ => 0)))] 1 [(h, .inr (7, fR 0 0 0 1 q))] := by
  refine KI.ofW (by decide) (Nat.le_of_ble_eq_true rfl) rfl rfl ?_
  intro p e s m args below meth c A Q ls C0 hl w hret
  have hx := C0.1
  have hb := C0.2.1
  have hl : lv_has ls 2 [(0, .ref h), (1, .int v)] := hl
  refine lv_aload_n hx hb d_R_give_0 rfl (lv_at hl 0 rfl) ?_
  refine lv_iconst (v := 0) hx hb d_R_give_1 (by decide) ?_
  refine R_put C0 w 0 rfl rfl inR tyR_ok nmR 0 (by decide) wd_828 rfl rfl rfl (Nat.le_of_ble_eq_true rfl) d_R_give_2 (fun H locs w => ?_)
  have w : Wd D A s [(h, .inr (7, fR 0 0 0 0 q)), ((q 33), .inl (cI, 16, .inl (fun _ => 0)))] H _ := w
  refine lv_aload_n hx hb d_R_give_5 rfl (lv_at hl 0 rfl) ?_
  refine R_get C0 w 0 rfl rfl inR 32 (by decide) wd_860 rfl d_R_give_6 ?_
  refine lv_bipush (v := 16) hx hb d_R_give_9 (by decide) ?_
  refine lv_icmp_ne (tgt := 16) hx hb d_R_give_11 (by decide) (fun hc11 => ?_) (fun hc => absurd hc (by decide))
  refine lv_aload_n hx hb d_R_give_16 rfl (lv_at hl 0 rfl) ?_
  refine R_get C0 w 0 rfl rfl inR 33 (by decide) wd_861 rfl d_R_give_17 ?_
  refine lv_aload_n hx hb d_R_give_20 rfl (lv_at hl 0 rfl) ?_
  refine R_get C0 w 0 rfl rfl inR 32 (by decide) wd_860 rfl d_R_give_21 ?_
  refine lv_iload_n hx hb d_R_give_24 rfl (lv_at hl 1 rfl) ?_
  refine R_ast C0 w 1 rfl (vin (by decide)) d_R_give_25 (fun H locs w => ?_)
  have w : Wd D A s [(h, .inr (7, fR 0 0 0 0 q)), ((q 33), .inl (cI, 16, .inl (upd (fun _ => 0) (0 : Int32).toNatClampNeg v)))] H _ := w
  refine lv_aload_n hx hb d_R_give_26 rfl (lv_at hl 0 rfl) ?_
  refine lv_dup hx hb d_R_give_27 rfl ?_
  refine R_get C0 w 0 rfl rfl inR 32 (by decide) wd_860 rfl d_R_give_28 ?_
  refine lv_iconst (v := 1) hx hb d_R_give_31 (by decide) ?_
  refine lv_iadd hx hb d_R_give_32 ?_
  refine lv_cst (x := 0 + 1) (y := 1) (by decide) ?_
  refine R_put C0 w 0 rfl rfl inR tyR_ok nmR 32 (by decide) wd_860 rfl rfl rfl (Nat.le_of_ble_eq_true rfl) d_R_give_33 (fun H locs w => ?_)
  have w : Wd D A s [(h, .inr (7, fR 0 0 0 1 q)), ((q 33), .inl (cI, 16, .inl (upd (fun _ => 0) (0 : Int32).toNatClampNeg v)))] H _ := w
  refine lv_iconst (v := 1) hx hb d_R_give_36 (by decide) ?_
  exact hret _ _ _ _ d_R_give_37 (w.sub [0] rfl rfl)
set_option maxHeartbeats 4000000 in
set_option maxRecDepth 100000 in
theorem c_R_take (l : Launch) (D : va_G) (cI cB cJ : ClassId) (h : Nat) (q : Nat → Nat) : KV l D cI cB cJ y_R_take b_R_take 1 0 0 0 0 [.ref h] [(h, .inr (7, fR 0 0 0 0 q))] (fun A t => CE D [(h, .inr (7, fR 0 0 0 0 q))] A t) := by
  refine KV.ofW (by decide) (Nat.le_of_ble_eq_true rfl) ?_
  intro p e s m args below meth c A Q ls C0 hin hl w hret
  have hin : meth.name = "take" := hin
  have hx := C0.1
  have hb := C0.2.1
  have hl : lv_has ls 1 [(0, .ref h)] := hl
  refine lv_aload_n hx hb d_R_take_0 rfl (lv_at hl 0 rfl) ?_
  refine lv_iconst (v := 0) hx hb d_R_take_1 (by decide) ?_
  refine R_put C0 w 0 rfl rfl inR tyR_ok nmR 0 (by decide) wd_828 rfl rfl rfl (Nat.le_of_ble_eq_true rfl) d_R_take_2 (fun H locs w => ?_)
  have w : Wd D A s [(h, .inr (7, fR 0 0 0 0 q))] H _ := w
  refine lv_aload_n hx hb d_R_take_5 rfl (lv_at hl 0 rfl) ?_
  refine lv_iconst (v := 0) hx hb d_R_take_6 (by decide) ?_
  refine R_put C0 w 0 rfl rfl inR tyR_ok nmR 32 (by decide) wd_860 rfl rfl rfl (Nat.le_of_ble_eq_true rfl) d_R_take_7 (fun H locs w => ?_)
  have w : Wd D A s [(h, .inr (7, fR 0 0 0 0 q))] H _ := w
  exact hret _ _ _ _ d_R_take_10 w.2.2.1 (fun t ht => ⟨by rw [ht]; exact (w.sub [0] rfl rfl).1, (w.sub [0] rfl rfl).2.1⟩)
set_option maxHeartbeats 4000000 in
set_option maxRecDepth 100000 in
theorem c_R_runA (l : Launch) (D : va_G) (cI cB cJ : ClassId) (h : Nat) (q : Nat → Nat) (b : Int32) (k : Int32) (hs : k < 0) : KI l D cI cB cJ y_R_run b_R_run 5 (some .int) 1 22 [.ref h, .int b, .int k] [(h, .inr (7, fR 0 0 0 0 q))] 0 [(h, .inr (7, fR 1 0 0 0 q))] := by
  refine KI.ofW (by decide) (Nat.le_of_ble_eq_true rfl) rfl rfl ?_
  intro p e s m args below meth c A Q ls C0 hl w hret
  have hx := C0.1
  have hb := C0.2.1
  have hl : lv_has ls 5 [(0, .ref h), (1, .int b), (2, .int k)] := hl
  refine lv_aload_n hx hb d_R_run_0 rfl (lv_at hl 0 rfl) ?_
  refine lv_iload_n hx hb d_R_run_1 rfl (lv_at hl 2 rfl) ?_
  refine lv_if_lt (tgt := 12) hx hb d_R_run_2 (by decide) (fun hc2 => ?_) (fun hc => absurd hs hc)
  refine lv_iconst (v := 1) hx hb d_R_run_12 (by decide) ?_
  refine lv_goto (tgt := 17) hx hb d_R_run_13 (by decide) ?_
  refine lv_iconst (v := 1) hx hb d_R_run_17 (by decide) ?_
  refine R_vi C0 w (rest := []) (wr := []) (w1 := [(h, .inr (7, fR 1 0 0 0 q))]) 0 rfl rfl [0] [] (c_failsT l D cI cB cJ h q 1) rfl rfl rfl rfl (by decide) wd_963 wd_960 wd_962 ws_34 wd_8 (n9 := 2) (by decide +kernel) rfl ⟨(Nat.le_of_ble_eq_true rfl), (Nat.le_of_ble_eq_true rfl)⟩ hl.1 rfl (Nat.le_of_ble_eq_true rfl) d_R_run_18 (Nat.le_of_ble_eq_true rfl) (Nat.le_of_ble_eq_true rfl) (fun H locs w => ?_)
  have w : Wd D A s [(h, .inr (7, fR 1 0 0 0 q))] H _ := w
  refine lv_if_ne (tgt := 44) hx hb d_R_run_21 (by decide) (fun hc21 => ?_) (fun hc => absurd hc (by decide))
  refine lv_iconst (v := 0) hx hb d_R_run_44 (by decide) ?_
  exact hret _ _ _ _ d_R_run_45 (w.sub [0] rfl rfl)
set_option maxHeartbeats 4000000 in
set_option maxRecDepth 100000 in
theorem c_R_runB (l : Launch) (D : va_G) (cI cB cJ : ClassId) (h : Nat) (q : Nat → Nat) (b : Int32) (k : Int32) (hs : ¬ k < 0) (ht : ¬ k ≤ 200) : KI l D cI cB cJ y_R_run b_R_run 5 (some .int) 1 22 [.ref h, .int b, .int k] [(h, .inr (7, fR 0 0 0 0 q))] 0 [(h, .inr (7, fR 1 0 0 0 q))] := by
  refine KI.ofW (by decide) (Nat.le_of_ble_eq_true rfl) rfl rfl ?_
  intro p e s m args below meth c A Q ls C0 hl w hret
  have hx := C0.1
  have hb := C0.2.1
  have hl : lv_has ls 5 [(0, .ref h), (1, .int b), (2, .int k)] := hl
  refine lv_aload_n hx hb d_R_run_0 rfl (lv_at hl 0 rfl) ?_
  refine lv_iload_n hx hb d_R_run_1 rfl (lv_at hl 2 rfl) ?_
  refine lv_if_lt (tgt := 12) hx hb d_R_run_2 (by decide) (fun hc => absurd hc hs) (fun hc2 => ?_)
  refine lv_iload_n hx hb d_R_run_5 rfl (lv_at hl 2 rfl) ?_
  refine lv_sipush (v := 200) hx hb d_R_run_6 (by decide) ?_
  refine lv_icmp_le (tgt := 16) hx hb d_R_run_9 (by decide) (fun hc => absurd hc ht) (fun hc9 => ?_)
  refine lv_iconst (v := 1) hx hb d_R_run_12 (by decide) ?_
  refine lv_goto (tgt := 17) hx hb d_R_run_13 (by decide) ?_
  refine lv_iconst (v := 1) hx hb d_R_run_17 (by decide) ?_
  refine R_vi C0 w (rest := []) (wr := []) (w1 := [(h, .inr (7, fR 1 0 0 0 q))]) 0 rfl rfl [0] [] (c_failsT l D cI cB cJ h q 1) rfl rfl rfl rfl (by decide) wd_963 wd_960 wd_962 ws_34 wd_8 (n9 := 2) (by decide +kernel) rfl ⟨(Nat.le_of_ble_eq_true rfl), (Nat.le_of_ble_eq_true rfl)⟩ hl.1 rfl (Nat.le_of_ble_eq_true rfl) d_R_run_18 (Nat.le_of_ble_eq_true rfl) (Nat.le_of_ble_eq_true rfl) (fun H locs w => ?_)
  have w : Wd D A s [(h, .inr (7, fR 1 0 0 0 q))] H _ := w
  refine lv_if_ne (tgt := 44) hx hb d_R_run_21 (by decide) (fun hc21 => ?_) (fun hc => absurd hc (by decide))
  refine lv_iconst (v := 0) hx hb d_R_run_44 (by decide) ?_
  exact hret _ _ _ _ d_R_run_45 (w.sub [0] rfl rfl)
set_option maxHeartbeats 4000000 in
set_option maxRecDepth 100000 in
theorem c_R_runC (l : Launch) (D : va_G) (cI cB cJ : ClassId) (h : Nat) (q : Nat → Nat) (b : Int32) (k : Int32) (hs : ¬ k < 0) (ht : k ≤ 200) : KI l D cI cB cJ y_R_run b_R_run 5 (some .int) 1 22 [.ref h, .int b, .int k] [(h, .inr (7, fR 0 0 0 0 q))] 0 [(h, .inr (7, fR 2 0 0 0 q))] := by
  refine KI.ofW (by decide) (Nat.le_of_ble_eq_true rfl) rfl rfl ?_
  intro p e s m args below meth c A Q ls C0 hl w hret
  have hx := C0.1
  have hb := C0.2.1
  have hl : lv_has ls 5 [(0, .ref h), (1, .int b), (2, .int k)] := hl
  refine lv_aload_n hx hb d_R_run_0 rfl (lv_at hl 0 rfl) ?_
  refine lv_iload_n hx hb d_R_run_1 rfl (lv_at hl 2 rfl) ?_
  refine lv_if_lt (tgt := 12) hx hb d_R_run_2 (by decide) (fun hc => absurd hc hs) (fun hc2 => ?_)
  refine lv_iload_n hx hb d_R_run_5 rfl (lv_at hl 2 rfl) ?_
  refine lv_sipush (v := 200) hx hb d_R_run_6 (by decide) ?_
  refine lv_icmp_le (tgt := 16) hx hb d_R_run_9 (by decide) (fun hc9 => ?_) (fun hc => absurd ht hc)
  refine lv_iconst (v := 0) hx hb d_R_run_16 (by decide) ?_
  refine lv_iconst (v := 1) hx hb d_R_run_17 (by decide) ?_
  refine R_vi C0 w (rest := []) (wr := []) (w1 := [(h, .inr (7, fR 0 0 0 0 q))]) 0 rfl rfl [0] [] (c_failsF l D cI cB cJ h q 1) rfl rfl rfl rfl (by decide) wd_963 wd_960 wd_962 ws_34 wd_8 (n9 := 2) (by decide +kernel) rfl ⟨(Nat.le_of_ble_eq_true rfl), (Nat.le_of_ble_eq_true rfl)⟩ hl.1 rfl (Nat.le_of_ble_eq_true rfl) d_R_run_18 (Nat.le_of_ble_eq_true rfl) (Nat.le_of_ble_eq_true rfl) (fun H locs w => ?_)
  have w : Wd D A s [(h, .inr (7, fR 0 0 0 0 q))] H _ := w
  refine lv_if_ne (tgt := 44) hx hb d_R_run_21 (by decide) (fun hc => absurd (by decide) hc) (fun hc21 => ?_)
  refine lv_aload_n hx hb d_R_run_24 rfl (lv_at hl 0 rfl) ?_
  refine lv_aload_n hx hb d_R_run_25 rfl (lv_at hl 0 rfl) ?_
  refine R_get C0 w 0 rfl rfl inR 11 (by decide) wd_839 rfl d_R_run_26 ?_
  refine lv_if_ne (tgt := 36) hx hb d_R_run_29 (by decide) (fun hc => absurd (by decide) hc) (fun hc29 => ?_)
  refine lv_iconst (v := 1) hx hb d_R_run_32 (by decide) ?_
  refine lv_goto (tgt := 37) hx hb d_R_run_33 (by decide) ?_
  refine lv_iconst (v := 2) hx hb d_R_run_37 (by decide) ?_
  refine R_vi C0 w (rest := []) (wr := []) (w1 := [(h, .inr (7, fR 2 0 0 0 q))]) 0 rfl rfl [0] [] (c_failsT l D cI cB cJ h q 2) rfl rfl rfl rfl (by decide) wd_963 wd_960 wd_962 ws_34 wd_8 (n9 := 2) (by decide +kernel) rfl ⟨(Nat.le_of_ble_eq_true rfl), (Nat.le_of_ble_eq_true rfl)⟩ hl.1 rfl (Nat.le_of_ble_eq_true rfl) d_R_run_38 (Nat.le_of_ble_eq_true rfl) (Nat.le_of_ble_eq_true rfl) (fun H locs w => ?_)
  have w : Wd D A s [(h, .inr (7, fR 2 0 0 0 q))] H _ := w
  refine lv_if_eq (tgt := 46) hx hb d_R_run_41 (by decide) (fun hc => absurd hc (by decide)) (fun hc41 => ?_)
  refine lv_iconst (v := 0) hx hb d_R_run_44 (by decide) ?_
  exact hret _ _ _ _ d_R_run_45 (w.sub [0] rfl rfl)
set_option maxHeartbeats 4000000 in
set_option maxRecDepth 100000 in
theorem c_R_told (l : Launch) (D : va_G) (cI cB cJ : ClassId) (h : Nat) (q : Nat → Nat) : KI l D cI cB cJ y_R_told b_R_told 1 (some .int) 0 0 [.ref h] [(h, .inr (7, fR 0 0 0 0 q))] 0 [(h, .inr (7, fR 0 0 0 0 q))] := by
  refine KI.ofW (by decide) (Nat.le_of_ble_eq_true rfl) rfl rfl ?_
  intro p e s m args below meth c A Q ls C0 hl w hret
  have hx := C0.1
  have hb := C0.2.1
  have hl : lv_has ls 1 [(0, .ref h)] := hl
  refine lv_aload_n hx hb d_R_told_0 rfl (lv_at hl 0 rfl) ?_
  refine lv_iconst (v := 0) hx hb d_R_told_1 (by decide) ?_
  refine R_put C0 w 0 rfl rfl inR tyR_ok nmR 0 (by decide) wd_828 rfl rfl rfl (Nat.le_of_ble_eq_true rfl) d_R_told_2 (fun H locs w => ?_)
  have w : Wd D A s [(h, .inr (7, fR 0 0 0 0 q))] H _ := w
  refine lv_aload_n hx hb d_R_told_5 rfl (lv_at hl 0 rfl) ?_
  refine R_get C0 w 0 rfl rfl inR 35 (by decide) wd_863 rfl d_R_told_6 ?_
  exact hret _ _ _ _ d_R_told_9 (w.sub [0] rfl rfl)
set_option maxHeartbeats 4000000 in
set_option maxRecDepth 100000 in
theorem c_R_heard (l : Launch) (D : va_G) (cI cB cJ : ClassId) (h : Nat) (q : Nat → Nat) (k : Int32) : KI l D cI cB cJ y_R_heard b_R_heard 2 (some .int) 1 22 [.ref h, .int k] [(h, .inr (7, fR 0 0 0 0 q))] 0 [(h, .inr (7, fR 1 0 0 0 q))] := by
  refine KI.ofW (by decide) (Nat.le_of_ble_eq_true rfl) rfl rfl ?_
  intro p e s m args below meth c A Q ls C0 hl w hret
  have hx := C0.1
  have hb := C0.2.1
  have hl : lv_has ls 2 [(0, .ref h), (1, .int k)] := hl
  refine lv_aload_n hx hb d_R_heard_0 rfl (lv_at hl 0 rfl) ?_
  refine lv_iload_n hx hb d_R_heard_1 rfl (lv_at hl 1 rfl) ?_
  refine lv_if_lt (tgt := 19) hx hb d_R_heard_2 (by decide) (fun hc2 => ?_) (fun hc2 => ?_)
  · refine lv_iconst (v := 1) hx hb d_R_heard_19 (by decide) ?_
    refine lv_goto (tgt := 24) hx hb d_R_heard_20 (by decide) ?_
    refine lv_iconst (v := 1) hx hb d_R_heard_24 (by decide) ?_
    refine R_vi C0 w (rest := []) (wr := []) (w1 := [(h, .inr (7, fR 1 0 0 0 q))]) 0 rfl rfl [0] [] (c_failsT l D cI cB cJ h q 1) rfl rfl rfl rfl (by decide) wd_963 wd_960 wd_962 ws_34 wd_8 (n9 := 2) (by decide +kernel) rfl ⟨(Nat.le_of_ble_eq_true rfl), (Nat.le_of_ble_eq_true rfl)⟩ hl.1 rfl (Nat.le_of_ble_eq_true rfl) d_R_heard_25 (Nat.le_of_ble_eq_true rfl) (Nat.le_of_ble_eq_true rfl) (fun H locs w => ?_)
    have w : Wd D A s [(h, .inr (7, fR 1 0 0 0 q))] H _ := w
    refine lv_if_eq (tgt := 35) hx hb d_R_heard_28 (by decide) (fun hc => absurd hc (by decide)) (fun hc28 => ?_)
    refine lv_iconst (v := 0) hx hb d_R_heard_31 (by decide) ?_
    refine lv_goto (tgt := 41) hx hb d_R_heard_32 (by decide) ?_
    exact hret _ _ _ _ d_R_heard_41 (w.sub [0] rfl rfl)
  · refine lv_iload_n hx hb d_R_heard_5 rfl (lv_at hl 1 rfl) ?_
    refine lv_aload_n hx hb d_R_heard_6 rfl (lv_at hl 0 rfl) ?_
    refine R_get C0 w 0 rfl rfl inR 35 (by decide) wd_863 rfl d_R_heard_7 ?_
    refine lv_icmp_ge (tgt := 19) hx hb d_R_heard_10 (by decide) (fun hc10 => ?_) (fun hc => absurd (Int32.not_lt.mp hc2) hc)
    refine lv_iconst (v := 1) hx hb d_R_heard_19 (by decide) ?_
    refine lv_goto (tgt := 24) hx hb d_R_heard_20 (by decide) ?_
    refine lv_iconst (v := 1) hx hb d_R_heard_24 (by decide) ?_
    refine R_vi C0 w (rest := []) (wr := []) (w1 := [(h, .inr (7, fR 1 0 0 0 q))]) 0 rfl rfl [0] [] (c_failsT l D cI cB cJ h q 1) rfl rfl rfl rfl (by decide) wd_963 wd_960 wd_962 ws_34 wd_8 (n9 := 2) (by decide +kernel) rfl ⟨(Nat.le_of_ble_eq_true rfl), (Nat.le_of_ble_eq_true rfl)⟩ hl.1 rfl (Nat.le_of_ble_eq_true rfl) d_R_heard_25 (Nat.le_of_ble_eq_true rfl) (Nat.le_of_ble_eq_true rfl) (fun H locs w => ?_)
    have w : Wd D A s [(h, .inr (7, fR 1 0 0 0 q))] H _ := w
    refine lv_if_eq (tgt := 35) hx hb d_R_heard_28 (by decide) (fun hc => absurd hc (by decide)) (fun hc28 => ?_)
    refine lv_iconst (v := 0) hx hb d_R_heard_31 (by decide) ?_
    refine lv_goto (tgt := 41) hx hb d_R_heard_32 (by decide) ?_
    exact hret _ _ _ _ d_R_heard_41 (w.sub [0] rfl rfl)
set_option maxHeartbeats 4000000 in
set_option maxRecDepth 100000 in
theorem c_R_spent0 (l : Launch) (D : va_G) (cI cB cJ : ClassId) (h : Nat) (q : Nat → Nat) : KI l D cI cB cJ y_R_spent b_R_spent 2 (some .int) 0 0 [.ref h, .int 0] [(h, .inr (7, fR 0 0 0 0 q))] 0 [(h, .inr (7, fR 0 0 0 0 q))] := by
  refine KI.ofW (by decide) (Nat.le_of_ble_eq_true rfl) rfl rfl ?_
  intro p e s m args below meth c A Q ls C0 hl w hret
  have hx := C0.1
  have hb := C0.2.1
  have hl : lv_has ls 2 [(0, .ref h), (1, .int 0)] := hl
  refine lv_aload_n hx hb d_R_spent_0 rfl (lv_at hl 0 rfl) ?_
  refine lv_iconst (v := 0) hx hb d_R_spent_1 (by decide) ?_
  refine R_put C0 w 0 rfl rfl inR tyR_ok nmR 0 (by decide) wd_828 rfl rfl rfl (Nat.le_of_ble_eq_true rfl) d_R_spent_2 (fun H locs w => ?_)
  have w : Wd D A s [(h, .inr (7, fR 0 0 0 0 q))] H _ := w
  refine lv_iload_n hx hb d_R_spent_5 rfl (lv_at hl 1 rfl) ?_
  refine lv_if_ne (tgt := 16) hx hb d_R_spent_6 (by decide) (fun hc => absurd (by decide) hc) (fun hc6 => ?_)
  refine lv_aload_n hx hb d_R_spent_9 rfl (lv_at hl 0 rfl) ?_
  refine R_get C0 w 0 rfl rfl inR 37 (by decide) wd_865 rfl d_R_spent_10 ?_
  refine lv_goto (tgt := 41) hx hb d_R_spent_13 (by decide) ?_
  exact hret _ _ _ _ d_R_spent_41 (w.sub [0] rfl rfl)
set_option maxHeartbeats 4000000 in
set_option maxRecDepth 100000 in
theorem c_R_spent1 (l : Launch) (D : va_G) (cI cB cJ : ClassId) (h : Nat) (q : Nat → Nat) : KI l D cI cB cJ y_R_spent b_R_spent 2 (some .int) 0 0 [.ref h, .int 1] [(h, .inr (7, fR 0 0 0 0 q))] 0 [(h, .inr (7, fR 0 0 0 0 q))] := by
  refine KI.ofW (by decide) (Nat.le_of_ble_eq_true rfl) rfl rfl ?_
  intro p e s m args below meth c A Q ls C0 hl w hret
  have hx := C0.1
  have hb := C0.2.1
  have hl : lv_has ls 2 [(0, .ref h), (1, .int 1)] := hl
  refine lv_aload_n hx hb d_R_spent_0 rfl (lv_at hl 0 rfl) ?_
  refine lv_iconst (v := 0) hx hb d_R_spent_1 (by decide) ?_
  refine R_put C0 w 0 rfl rfl inR tyR_ok nmR 0 (by decide) wd_828 rfl rfl rfl (Nat.le_of_ble_eq_true rfl) d_R_spent_2 (fun H locs w => ?_)
  have w : Wd D A s [(h, .inr (7, fR 0 0 0 0 q))] H _ := w
  refine lv_iload_n hx hb d_R_spent_5 rfl (lv_at hl 1 rfl) ?_
  refine lv_if_ne (tgt := 16) hx hb d_R_spent_6 (by decide) (fun hc6 => ?_) (fun hc => absurd hc (by decide))
  refine lv_iload_n hx hb d_R_spent_16 rfl (lv_at hl 1 rfl) ?_
  refine lv_iconst (v := 1) hx hb d_R_spent_17 (by decide) ?_
  refine lv_icmp_ne (tgt := 28) hx hb d_R_spent_18 (by decide) (fun hc => absurd (by decide) hc) (fun hc18 => ?_)
  refine lv_aload_n hx hb d_R_spent_21 rfl (lv_at hl 0 rfl) ?_
  refine R_get C0 w 0 rfl rfl inR 38 (by decide) wd_866 rfl d_R_spent_22 ?_
  refine lv_goto (tgt := 41) hx hb d_R_spent_25 (by decide) ?_
  exact hret _ _ _ _ d_R_spent_41 (w.sub [0] rfl rfl)
set_option maxHeartbeats 4000000 in
set_option maxRecDepth 100000 in
theorem c_R_spent2 (l : Launch) (D : va_G) (cI cB cJ : ClassId) (h : Nat) (q : Nat → Nat) : KI l D cI cB cJ y_R_spent b_R_spent 2 (some .int) 0 0 [.ref h, .int 2] [(h, .inr (7, fR 0 0 0 0 q))] 0 [(h, .inr (7, fR 0 0 0 0 q))] := by
  refine KI.ofW (by decide) (Nat.le_of_ble_eq_true rfl) rfl rfl ?_
  intro p e s m args below meth c A Q ls C0 hl w hret
  have hx := C0.1
  have hb := C0.2.1
  have hl : lv_has ls 2 [(0, .ref h), (1, .int 2)] := hl
  refine lv_aload_n hx hb d_R_spent_0 rfl (lv_at hl 0 rfl) ?_
  refine lv_iconst (v := 0) hx hb d_R_spent_1 (by decide) ?_
  refine R_put C0 w 0 rfl rfl inR tyR_ok nmR 0 (by decide) wd_828 rfl rfl rfl (Nat.le_of_ble_eq_true rfl) d_R_spent_2 (fun H locs w => ?_)
  have w : Wd D A s [(h, .inr (7, fR 0 0 0 0 q))] H _ := w
  refine lv_iload_n hx hb d_R_spent_5 rfl (lv_at hl 1 rfl) ?_
  refine lv_if_ne (tgt := 16) hx hb d_R_spent_6 (by decide) (fun hc6 => ?_) (fun hc => absurd hc (by decide))
  refine lv_iload_n hx hb d_R_spent_16 rfl (lv_at hl 1 rfl) ?_
  refine lv_iconst (v := 1) hx hb d_R_spent_17 (by decide) ?_
  refine lv_icmp_ne (tgt := 28) hx hb d_R_spent_18 (by decide) (fun hc18 => ?_) (fun hc => absurd hc (by decide))
  refine lv_iload_n hx hb d_R_spent_28 rfl (lv_at hl 1 rfl) ?_
  refine lv_iconst (v := 2) hx hb d_R_spent_29 (by decide) ?_
  refine lv_icmp_ne (tgt := 40) hx hb d_R_spent_30 (by decide) (fun hc => absurd (by decide) hc) (fun hc30 => ?_)
  refine lv_aload_n hx hb d_R_spent_33 rfl (lv_at hl 0 rfl) ?_
  refine R_get C0 w 0 rfl rfl inR 34 (by decide) wd_862 rfl d_R_spent_34 ?_
  refine lv_goto (tgt := 41) hx hb d_R_spent_37 (by decide) ?_
  exact hret _ _ _ _ d_R_spent_41 (w.sub [0] rfl rfl)
set_option maxHeartbeats 4000000 in
set_option maxRecDepth 100000 in
theorem c_R_spentD (l : Launch) (D : va_G) (cI cB cJ : ClassId) (h : Nat) (q : Nat → Nat) (k : Int32) (h0 : ¬ k = 0) (h1 : ¬ k = 1) (h2 : ¬ k = 2) : KI l D cI cB cJ y_R_spent b_R_spent 2 (some .int) 0 0 [.ref h, .int k] [(h, .inr (7, fR 0 0 0 0 q))] (-1) [(h, .inr (7, fR 0 0 0 0 q))] := by
  refine KI.ofW (by decide) (Nat.le_of_ble_eq_true rfl) rfl rfl ?_
  intro p e s m args below meth c A Q ls C0 hl w hret
  have hx := C0.1
  have hb := C0.2.1
  have hl : lv_has ls 2 [(0, .ref h), (1, .int k)] := hl
  refine lv_aload_n hx hb d_R_spent_0 rfl (lv_at hl 0 rfl) ?_
  refine lv_iconst (v := 0) hx hb d_R_spent_1 (by decide) ?_
  refine R_put C0 w 0 rfl rfl inR tyR_ok nmR 0 (by decide) wd_828 rfl rfl rfl (Nat.le_of_ble_eq_true rfl) d_R_spent_2 (fun H locs w => ?_)
  have w : Wd D A s [(h, .inr (7, fR 0 0 0 0 q))] H _ := w
  refine lv_iload_n hx hb d_R_spent_5 rfl (lv_at hl 1 rfl) ?_
  refine lv_if_ne (tgt := 16) hx hb d_R_spent_6 (by decide) (fun hc6 => ?_) (fun hc => absurd hc h0)
  refine lv_iload_n hx hb d_R_spent_16 rfl (lv_at hl 1 rfl) ?_
  refine lv_iconst (v := 1) hx hb d_R_spent_17 (by decide) ?_
  refine lv_icmp_ne (tgt := 28) hx hb d_R_spent_18 (by decide) (fun hc18 => ?_) (fun hc => absurd hc h1)
  refine lv_iload_n hx hb d_R_spent_28 rfl (lv_at hl 1 rfl) ?_
  refine lv_iconst (v := 2) hx hb d_R_spent_29 (by decide) ?_
  refine lv_icmp_ne (tgt := 40) hx hb d_R_spent_30 (by decide) (fun hc30 => ?_) (fun hc => absurd hc h2)
  refine lv_iconst (v := (-1)) hx hb d_R_spent_40 (by decide) ?_
  exact hret _ _ _ _ d_R_spent_41 (w.sub [0] rfl rfl)
