set_option maxHeartbeats 4000000 in
set_option maxRecDepth 100000 in
theorem c_L_block (l : Launch) (D : va_G) (cI cB cJ : ClassId) (h : Nat) (qn : Nat → Nat) (qp : Nat → Nat) (o : Nat) (htl : l.stackTraces = false) : KH l D cI cB cJ y_L_block b_L_block 3 [(0, 8, 11, 13)] 3 66 [.ref h, .ref o] [(h, .inr (0, fN 0 qn)), ((qn 0), .inr (1, fP 0 qp)), ((qp 1), .inl (cI, 10, .inl (fun _ => 0))), ((qp 6), .inl (cI, 10, .inl (fun _ => 0))), ((qp 7), .inl (cI, 10, .inl (fun _ => 0))), ((qp 8), .inl (cI, 10, .inl (fun _ => 0))), ((qp 9), .inl (cI, 10, .inl (fun _ => 0))), (o, .inl (cJ, 1, .inr (.inl (fun _ => 0))))] 0 [(o, .inl (cJ, 1, .inr (.inl (vp_updL (fun _ => 0) (0 : Int32).toNatClampNeg ((0 : Int32).toInt64)))))] := by
  refine KH.ofW (by decide) (Nat.le_of_ble_eq_true rfl) ?_
  intro p e s m args below meth c A Q ls C0 htab hl w hret
  have hx := C0.1
  have hb := C0.2.1
  have hl : lv_has ls 3 [(0, .ref h), (1, .ref o)] := hl
  refine lv_aload_n hx hb d_L_block_0 rfl (lv_at hl 1 rfl) ?_
  refine lv_iconst (v := 0) hx hb d_L_block_1 (by decide) ?_
  refine lv_aload_n hx hb d_L_block_2 rfl (lv_at hl 0 rfl) ?_
  refine R_vi C0 w (rest := [.int 0, .ref o]) (wr := [(o, .inl (cJ, 1, .inr (.inl (fun _ => 0))))]) (w1 := []) 0 rfl rfl [0, 1, 2, 3, 4, 5, 6] [7] (c_N_block l D cI cB cJ h qn qp) rfl rfl rfl rfl (by decide) wd_392 wd_389 wd_390 wd_391 wd_1 (n9 := 0) (by decide +kernel) rfl ⟨(Nat.le_of_ble_eq_true rfl), (Nat.le_of_ble_eq_true rfl)⟩ hl.1 rfl (Nat.le_of_ble_eq_true rfl) d_L_block_3 (Nat.le_of_ble_eq_true rfl) (Nat.le_of_ble_eq_true rfl) (fun H locs w => ?_)
  have w : Wd D A s [(o, .inl (cJ, 1, .inr (.inl (fun _ => 0))))] H _ := w
  refine lv_i2l (v := (0 : Int32).toInt64) hx hb d_L_block_6 rfl ?_
  refine R_last C0 w 0 rfl (vin (by decide)) d_L_block_7 (fun H locs w => ?_)
  have w : Wd D A s [(o, .inl (cJ, 1, .inr (.inl (vp_updL (fun _ => 0) (0 : Int32).toNatClampNeg ((0 : Int32).toInt64)))))] H _ := w
  refine lv_goto (tgt := 14) hx hb d_L_block_8 (by decide) ?_
  refine lv_iconst (v := 0) hx hb d_L_block_14 (by decide) ?_
  refine W.widen (k := 1) (n := 6) (by decide) (by decide) ?_
  exact hret _ _ _ _ d_L_block_15 (w.sub [0] rfl rfl)
set_option maxHeartbeats 4000000 in
set_option maxRecDepth 100000 in
theorem c_L_put (l : Launch) (D : va_G) (cI cB cJ : ClassId) (h : Nat) (qn : Nat → Nat) (qp : Nat → Nat) (b : Int32) (k : Int32) (d : Int32) (x : Int32) (y : Int32) (o : Nat) (htl : l.stackTraces = false) : KH l D cI cB cJ y_L_put b_L_put 8 [(0, 16, 19, 19), (0, 16, 23, 13)] 7 107 [.ref h, .int b, .int k, .int d, .int x, .int y, .ref o] [(h, .inr (0, fN 0 qn)), ((qn 0), .inr (1, fP 0 qp))] 1 [] := by
  refine KH.ofW (by decide) (Nat.le_of_ble_eq_true rfl) ?_
  intro p e s m args below meth c A Q ls C0 htab hl w hret
  have hx := C0.1
  have hb := C0.2.1
  have hl : lv_has ls 8 [(0, .ref h), (1, .int b), (2, .int k), (3, .int d), (4, .int x), (5, .int y), (6, .ref o)] := hl
  refine lv_aload hx hb d_L_put_0 (lv_at hl 6 rfl) ?_
  refine lv_iconst (v := 0) hx hb d_L_put_2 (by decide) ?_
  refine lv_aload_n hx hb d_L_put_3 rfl (lv_at hl 0 rfl) ?_
  refine lv_iload_n hx hb d_L_put_4 rfl (lv_at hl 1 rfl) ?_
  refine lv_iload_n hx hb d_L_put_5 rfl (lv_at hl 2 rfl) ?_
  refine lv_iload_n hx hb d_L_put_6 rfl (lv_at hl 3 rfl) ?_
  refine lv_iload hx hb d_L_put_7 (lv_at hl 4 rfl) ?_
  refine lv_iload hx hb d_L_put_9 (lv_at hl 5 rfl) ?_
  obtain ⟨z0, hz0, z1, hz1, hsp⟩ := tab2 htab
  refine R_catch C0 w (rest := [.int 0, .ref o]) (pre := []) (x := z0) (suf := [z1]) 0 rfl rfl [0, 1] (c_N_put l D cI cB cJ h qn qp b k d x y htl) rfl rfl wd_476 wd_473 wd_474 wd_475 wd_1 (n9 := 5) (by decide +kernel) rfl ⟨(Nat.le_of_ble_eq_true rfl), (Nat.le_of_ble_eq_true rfl)⟩ hl.1 rfl (Nat.le_of_ble_eq_true rfl) d_L_put_11 (Nat.le_of_ble_eq_true rfl) (Nat.le_of_ble_eq_true rfl) hsp (fun z hz => by cases hz) (by rw [cov_eq hz0]; decide) (by rw [ct_eq hz0]; decide) (by rw [ct_eq hz0]; exact wd_472) (by decide) (fun q9 H w => ?_)
  rw [hpc_eq hz0]
  refine W.cs (cells' := 1) (slots' := 6) rfl rfl ?_
  have w : Wd D A s [(h, .inr (0, fN 0 qn)), ((qn 0), .inr (1, fP 0 qp))] H _ := w
  refine lv_astore hx hb d_L_put_19 hl (by decide) rfl (fun ls hl => ?_)
  have hl : lv_has ls 8 [(7, .ref q9), (0, .ref h), (1, .int b), (2, .int k), (3, .int d), (4, .int x), (5, .int y), (6, .ref o)] := hl
  refine lv_iconst (v := 1) hx hb d_L_put_21 (by decide) ?_
  refine W.widen (k := 1) (n := 6) (by decide) (by decide) ?_
  exact hret _ _ _ _ d_L_put_22 (w.sub [] rfl rfl)
set_option maxHeartbeats 4000000 in
set_option maxRecDepth 100000 in
theorem c_L_go (l : Launch) (D : va_G) (cI cB cJ : ClassId) (h : Nat) (qn : Nat → Nat) (qp : Nat → Nat) (b : Int32) (t : Int32) (htl : l.stackTraces = false) : KH l D cI cB cJ y_L_go b_L_go 4 [(0, 6, 9, 19)] 7 104 [.ref h, .int b, .int t] [(h, .inr (0, fN 0 qn)), ((qn 0), .inr (1, fP 0 qp))] 1 [] := by
  refine KH.ofW (by decide) (Nat.le_of_ble_eq_true rfl) ?_
  intro p e s m args below meth c A Q ls C0 htab hl w hret
  have hx := C0.1
  have hb := C0.2.1
  have hl : lv_has ls 4 [(0, .ref h), (1, .int b), (2, .int t)] := hl
  refine lv_aload_n hx hb d_L_go_0 rfl (lv_at hl 0 rfl) ?_
  refine lv_iload_n hx hb d_L_go_1 rfl (lv_at hl 1 rfl) ?_
  refine lv_iload_n hx hb d_L_go_2 rfl (lv_at hl 2 rfl) ?_
  obtain ⟨z0, hz0, hsp⟩ := tab1 htab
  refine R_catch C0 w (rest := []) (pre := []) (x := z0) (suf := []) 0 rfl rfl [0, 1] (c_N_go l D cI cB cJ h qn qp b t htl) rfl rfl wd_523 wd_520 wd_521 wd_522 wd_1 (n9 := 2) (by decide +kernel) rfl ⟨(Nat.le_of_ble_eq_true rfl), (Nat.le_of_ble_eq_true rfl)⟩ hl.1 rfl (Nat.le_of_ble_eq_true rfl) d_L_go_3 (Nat.le_of_ble_eq_true rfl) (Nat.le_of_ble_eq_true rfl) hsp (fun z hz => by cases hz) (by rw [cov_eq hz0]; decide) (by rw [ct_eq hz0]; decide) (by rw [ct_eq hz0]; exact wd_472) (by decide) (fun q9 H w => ?_)
  rw [hpc_eq hz0]
  refine W.cs (cells' := 1) (slots' := 6) rfl rfl ?_
  have w : Wd D A s [(h, .inr (0, fN 0 qn)), ((qn 0), .inr (1, fP 0 qp))] H _ := w
  refine lv_astore_n hx hb d_L_go_9 rfl hl (by decide) rfl (fun ls hl => ?_)
  have hl : lv_has ls 4 [(3, .ref q9), (0, .ref h), (1, .int b), (2, .int t)] := hl
  refine lv_iconst (v := 1) hx hb d_L_go_10 (by decide) ?_
  refine W.widen (k := 1) (n := 6) (by decide) (by decide) ?_
  exact hret _ _ _ _ d_L_go_11 (w.sub [] rfl rfl)
set_option maxHeartbeats 4000000 in
set_option maxRecDepth 100000 in
theorem c_L_fork (l : Launch) (D : va_G) (cI cB cJ : ClassId) (h : Nat) (qn : Nat → Nat) (qp : Nat → Nat) (b : Int32) (x : Int32) (t : Int32) (u : Int32) (htl : l.stackTraces = false) : KH l D cI cB cJ y_L_fork b_L_fork 6 [(0, 9, 12, 19)] 7 106 [.ref h, .int b, .int x, .int t, .int u] [(h, .inr (0, fN 0 qn)), ((qn 0), .inr (1, fP 0 qp))] 1 [] := by
  refine KH.ofW (by decide) (Nat.le_of_ble_eq_true rfl) ?_
  intro p e s m args below meth c A Q ls C0 htab hl w hret
  have hx := C0.1
  have hb := C0.2.1
  have hl : lv_has ls 6 [(0, .ref h), (1, .int b), (2, .int x), (3, .int t), (4, .int u)] := hl
  refine lv_aload_n hx hb d_L_fork_0 rfl (lv_at hl 0 rfl) ?_
  refine lv_iload_n hx hb d_L_fork_1 rfl (lv_at hl 1 rfl) ?_
  refine lv_iload_n hx hb d_L_fork_2 rfl (lv_at hl 2 rfl) ?_
  refine lv_iload_n hx hb d_L_fork_3 rfl (lv_at hl 3 rfl) ?_
  refine lv_iload hx hb d_L_fork_4 (lv_at hl 4 rfl) ?_
  obtain ⟨z0, hz0, hsp⟩ := tab1 htab
  refine R_catch C0 w (rest := []) (pre := []) (x := z0) (suf := []) 0 rfl rfl [0, 1] (c_N_fork l D cI cB cJ h qn qp b x t u htl) rfl rfl wd_537 wd_534 wd_535 wd_536 wd_1 (n9 := 4) (by decide +kernel) rfl ⟨(Nat.le_of_ble_eq_true rfl), (Nat.le_of_ble_eq_true rfl)⟩ hl.1 rfl (Nat.le_of_ble_eq_true rfl) d_L_fork_6 (Nat.le_of_ble_eq_true rfl) (Nat.le_of_ble_eq_true rfl) hsp (fun z hz => by cases hz) (by rw [cov_eq hz0]; decide) (by rw [ct_eq hz0]; decide) (by rw [ct_eq hz0]; exact wd_472) (by decide) (fun q9 H w => ?_)
  rw [hpc_eq hz0]
  refine W.cs (cells' := 1) (slots' := 6) rfl rfl ?_
  have w : Wd D A s [(h, .inr (0, fN 0 qn)), ((qn 0), .inr (1, fP 0 qp))] H _ := w
  refine lv_astore hx hb d_L_fork_12 hl (by decide) rfl (fun ls hl => ?_)
  have hl : lv_has ls 6 [(5, .ref q9), (0, .ref h), (1, .int b), (2, .int x), (3, .int t), (4, .int u)] := hl
  refine lv_iconst (v := 1) hx hb d_L_fork_14 (by decide) ?_
  refine W.widen (k := 1) (n := 6) (by decide) (by decide) ?_
  exact hret _ _ _ _ d_L_fork_15 (w.sub [] rfl rfl)
set_option maxHeartbeats 4000000 in
set_option maxRecDepth 100000 in
theorem c_L_stop (l : Launch) (D : va_G) (cI cB cJ : ClassId) (h : Nat) (qn : Nat → Nat) (qp : Nat → Nat) (b : Int32) (htl : l.stackTraces = false) : KH l D cI cB cJ y_L_stop b_L_stop 3 [(0, 5, 8, 19)] 7 103 [.ref h, .int b] [(h, .inr (0, fN 0 qn)), ((qn 0), .inr (1, fP 0 qp))] 1 [] := by
  refine KH.ofW (by decide) (Nat.le_of_ble_eq_true rfl) ?_
  intro p e s m args below meth c A Q ls C0 htab hl w hret
  have hx := C0.1
  have hb := C0.2.1
  have hl : lv_has ls 3 [(0, .ref h), (1, .int b)] := hl
  refine lv_aload_n hx hb d_L_stop_0 rfl (lv_at hl 0 rfl) ?_
  refine lv_iload_n hx hb d_L_stop_1 rfl (lv_at hl 1 rfl) ?_
  obtain ⟨z0, hz0, hsp⟩ := tab1 htab
  refine R_catch C0 w (rest := []) (pre := []) (x := z0) (suf := []) 0 rfl rfl [0, 1] (c_N_stop l D cI cB cJ h qn qp b htl) rfl rfl wd_545 wd_542 wd_543 wd_544 wd_1 (n9 := 1) (by decide +kernel) rfl ⟨(Nat.le_of_ble_eq_true rfl), (Nat.le_of_ble_eq_true rfl)⟩ hl.1 rfl (Nat.le_of_ble_eq_true rfl) d_L_stop_2 (Nat.le_of_ble_eq_true rfl) (Nat.le_of_ble_eq_true rfl) hsp (fun z hz => by cases hz) (by rw [cov_eq hz0]; decide) (by rw [ct_eq hz0]; decide) (by rw [ct_eq hz0]; exact wd_472) (by decide) (fun q9 H w => ?_)
  rw [hpc_eq hz0]
  refine W.cs (cells' := 1) (slots' := 6) rfl rfl ?_
  have w : Wd D A s [(h, .inr (0, fN 0 qn)), ((qn 0), .inr (1, fP 0 qp))] H _ := w
  refine lv_astore_n hx hb d_L_stop_8 rfl hl (by decide) rfl (fun ls hl => ?_)
  have hl : lv_has ls 3 [(2, .ref q9), (0, .ref h), (1, .int b)] := hl
  refine lv_iconst (v := 1) hx hb d_L_stop_9 (by decide) ?_
  refine W.widen (k := 1) (n := 6) (by decide) (by decide) ?_
  exact hret _ _ _ _ d_L_stop_10 (w.sub [] rfl rfl)
set_option maxHeartbeats 4000000 in
set_option maxRecDepth 100000 in
theorem c_L_build (l : Launch) (D : va_G) (cI cB cJ : ClassId) (h : Nat) (qn : Nat → Nat) (qp : Nat → Nat) (o : Nat) (htl : l.stackTraces = false) : KH l D cI cB cJ y_L_build b_L_build 3 [(0, 8, 11, 13)] 7 102 [.ref h, .ref o] [(h, .inr (0, fN 0 qn)), ((qn 0), .inr (1, fP 0 qp))] 1 [] := by
  refine KH.ofW (by decide) (Nat.le_of_ble_eq_true rfl) ?_
  intro p e s m args below meth c A Q ls C0 htab hl w hret
  have hx := C0.1
  have hb := C0.2.1
  have hl : lv_has ls 3 [(0, .ref h), (1, .ref o)] := hl
  refine lv_aload_n hx hb d_L_build_0 rfl (lv_at hl 1 rfl) ?_
  refine lv_iconst (v := 0) hx hb d_L_build_1 (by decide) ?_
  refine lv_aload_n hx hb d_L_build_2 rfl (lv_at hl 0 rfl) ?_
  obtain ⟨z0, hz0, hsp⟩ := tab1 htab
  refine R_catch C0 w (rest := [.int 0, .ref o]) (pre := []) (x := z0) (suf := []) 0 rfl rfl [0, 1] (c_N_build l D cI cB cJ h qn qp htl) rfl rfl wd_553 wd_550 wd_551 wd_552 wd_1 (n9 := 0) (by decide +kernel) rfl ⟨(Nat.le_of_ble_eq_true rfl), (Nat.le_of_ble_eq_true rfl)⟩ hl.1 rfl (Nat.le_of_ble_eq_true rfl) d_L_build_3 (Nat.le_of_ble_eq_true rfl) (Nat.le_of_ble_eq_true rfl) hsp (fun z hz => by cases hz) (by rw [cov_eq hz0]; decide) (by rw [ct_eq hz0]; decide) (by rw [ct_eq hz0]; exact wd_388) (by decide) (fun q9 H w => ?_)
  rw [hpc_eq hz0]
  refine W.cs (cells' := 1) (slots' := 6) rfl rfl ?_
  have w : Wd D A s [(h, .inr (0, fN 0 qn)), ((qn 0), .inr (1, fP 0 qp))] H _ := w
  refine lv_astore_n hx hb d_L_build_11 rfl hl (by decide) rfl (fun ls hl => ?_)
  have hl : lv_has ls 3 [(2, .ref q9), (0, .ref h), (1, .ref o)] := hl
  refine lv_iconst (v := 1) hx hb d_L_build_12 (by decide) ?_
  refine W.widen (k := 1) (n := 6) (by decide) (by decide) ?_
  exact hret _ _ _ _ d_L_build_13 (w.sub [] rfl rfl)
set_option maxHeartbeats 4000000 in
set_option maxRecDepth 100000 in
theorem c_L_look (l : Launch) (D : va_G) (cI cB cJ : ClassId) (h : Nat) (qn : Nat → Nat) (qp : Nat → Nat) (b : Int32) (k : Int32) (o : Nat) (htl : l.stackTraces = false) : KH l D cI cB cJ y_L_look b_L_look 5 [(0, 10, 13, 40), (0, 10, 17, 13)] 7 104 [.ref h, .int b, .int k, .ref o] [(h, .inr (0, fN 0 qn)), ((qn 0), .inr (1, fP 0 qp))] 1 [] := by
  refine KH.ofW (by decide) (Nat.le_of_ble_eq_true rfl) ?_
  intro p e s m args below meth c A Q ls C0 htab hl w hret
  have hx := C0.1
  have hb := C0.2.1
  have hl : lv_has ls 5 [(0, .ref h), (1, .int b), (2, .int k), (3, .ref o)] := hl
  refine lv_aload_n hx hb d_L_look_0 rfl (lv_at hl 3 rfl) ?_
  refine lv_iconst (v := 0) hx hb d_L_look_1 (by decide) ?_
  refine lv_aload_n hx hb d_L_look_2 rfl (lv_at hl 0 rfl) ?_
  refine lv_iload_n hx hb d_L_look_3 rfl (lv_at hl 1 rfl) ?_
  refine lv_iload_n hx hb d_L_look_4 rfl (lv_at hl 2 rfl) ?_
  obtain ⟨z0, hz0, z1, hz1, hsp⟩ := tab2 htab
  refine R_catch C0 w (rest := [.int 0, .ref o]) (pre := []) (x := z0) (suf := [z1]) 0 rfl rfl [0, 1] (c_N_look l D cI cB cJ h qn qp b k htl) rfl rfl wd_695 wd_692 wd_693 wd_694 wd_1 (n9 := 2) (by decide +kernel) rfl ⟨(Nat.le_of_ble_eq_true rfl), (Nat.le_of_ble_eq_true rfl)⟩ hl.1 rfl (Nat.le_of_ble_eq_true rfl) d_L_look_5 (Nat.le_of_ble_eq_true rfl) (Nat.le_of_ble_eq_true rfl) hsp (fun z hz => by cases hz) (by rw [cov_eq hz0]; decide) (by rw [ct_eq hz0]; decide) (by rw [ct_eq hz0]; exact wd_691) (by decide) (fun q9 H w => ?_)
  rw [hpc_eq hz0]
  refine W.cs (cells' := 1) (slots' := 6) rfl rfl ?_
  have w : Wd D A s [(h, .inr (0, fN 0 qn)), ((qn 0), .inr (1, fP 0 qp))] H _ := w
  refine lv_astore hx hb d_L_look_13 hl (by decide) rfl (fun ls hl => ?_)
  have hl : lv_has ls 5 [(4, .ref q9), (0, .ref h), (1, .int b), (2, .int k), (3, .ref o)] := hl
  refine lv_iconst (v := 1) hx hb d_L_look_15 (by decide) ?_
  refine W.widen (k := 1) (n := 6) (by decide) (by decide) ?_
  exact hret _ _ _ _ d_L_look_16 (w.sub [] rfl rfl)
set_option maxHeartbeats 4000000 in
set_option maxRecDepth 100000 in
theorem c_L_phi (l : Launch) (D : va_G) (cI cB cJ : ClassId) (h : Nat) (qn : Nat → Nat) (b : Int32) (k : Int32) (x : Int32) (o : Nat) (htl : l.stackTraces = false) : KH l D cI cB cJ y_L_phi b_L_phi 6 [(0, 12, 15, 40), (0, 12, 19, 13)] 7 106 [.ref h, .int b, .int k, .int x, .ref o] [(h, .inr (0, fN 0 qn))] 2 [] := by
  refine KH.ofW (by decide) (Nat.le_of_ble_eq_true rfl) ?_
  intro p e s m args below meth c A Q ls C0 htab hl w hret
  have hx := C0.1
  have hb := C0.2.1
  have hl : lv_has ls 6 [(0, .ref h), (1, .int b), (2, .int k), (3, .int x), (4, .ref o)] := hl
  refine lv_aload hx hb d_L_phi_0 (lv_at hl 4 rfl) ?_
  refine lv_iconst (v := 0) hx hb d_L_phi_2 (by decide) ?_
  refine lv_aload_n hx hb d_L_phi_3 rfl (lv_at hl 0 rfl) ?_
  refine lv_iload_n hx hb d_L_phi_4 rfl (lv_at hl 1 rfl) ?_
  refine lv_iload_n hx hb d_L_phi_5 rfl (lv_at hl 2 rfl) ?_
  refine lv_iload_n hx hb d_L_phi_6 rfl (lv_at hl 3 rfl) ?_
  obtain ⟨z0, hz0, z1, hz1, hsp⟩ := tab2 htab
  refine R_catch C0 w (rest := [.int 0, .ref o]) (pre := [z0]) (x := z1) (suf := []) 0 rfl rfl [0] (c_N_phi l D cI cB cJ h qn b k x htl) rfl rfl wd_726 wd_723 wd_724 wd_725 wd_1 (n9 := 3) (by decide +kernel) rfl ⟨(Nat.le_of_ble_eq_true rfl), (Nat.le_of_ble_eq_true rfl)⟩ hl.1 rfl (Nat.le_of_ble_eq_true rfl) d_L_phi_7 (Nat.le_of_ble_eq_true rfl) (Nat.le_of_ble_eq_true rfl) hsp (fun z hz => by rw [List.mem_singleton.mp hz, ct_eq hz0]; exact ⟨by decide, "java/util/NoSuchElementException", wd_691, by decide⟩) (by rw [cov_eq hz1]; decide) (by rw [ct_eq hz1]; decide) (by rw [ct_eq hz1]; exact wd_388) (by decide) (fun q9 H w => ?_)
  rw [hpc_eq hz1]
  refine W.cs (cells' := 1) (slots' := 6) rfl rfl ?_
  have w : Wd D A s [(h, .inr (0, fN 0 qn))] H _ := w
  refine lv_astore hx hb d_L_phi_19 hl (by decide) rfl (fun ls hl => ?_)
  have hl : lv_has ls 6 [(5, .ref q9), (0, .ref h), (1, .int b), (2, .int k), (3, .int x), (4, .ref o)] := hl
  refine lv_iconst (v := 2) hx hb d_L_phi_21 (by decide) ?_
  refine W.widen (k := 1) (n := 6) (by decide) (by decide) ?_
  exact hret _ _ _ _ d_L_phi_22 (w.sub [] rfl rfl)
set_option maxHeartbeats 4000000 in
set_option maxRecDepth 100000 in
theorem c_L_uses (l : Launch) (D : va_G) (cI cB cJ : ClassId) (h : Nat) (qn : Nat → Nat) (b : Int32) (k : Int32) (x : Int32) (o : Nat) (htl : l.stackTraces = false) : KH l D cI cB cJ y_L_uses b_L_uses 6 [(0, 12, 15, 40), (0, 12, 19, 13)] 7 105 [.ref h, .int b, .int k, .int x, .ref o] [(h, .inr (0, fN 0 qn))] 2 [] := by
  refine KH.ofW (by decide) (Nat.le_of_ble_eq_true rfl) ?_
  intro p e s m args below meth c A Q ls C0 htab hl w hret
  have hx := C0.1
  have hb := C0.2.1
  have hl : lv_has ls 6 [(0, .ref h), (1, .int b), (2, .int k), (3, .int x), (4, .ref o)] := hl
  refine lv_aload hx hb d_L_uses_0 (lv_at hl 4 rfl) ?_
  refine lv_iconst (v := 0) hx hb d_L_uses_2 (by decide) ?_
  refine lv_aload_n hx hb d_L_uses_3 rfl (lv_at hl 0 rfl) ?_
  refine lv_iload_n hx hb d_L_uses_4 rfl (lv_at hl 1 rfl) ?_
  refine lv_iload_n hx hb d_L_uses_5 rfl (lv_at hl 2 rfl) ?_
  refine lv_iload_n hx hb d_L_uses_6 rfl (lv_at hl 3 rfl) ?_
  obtain ⟨z0, hz0, z1, hz1, hsp⟩ := tab2 htab
  refine R_catch C0 w (rest := [.int 0, .ref o]) (pre := [z0]) (x := z1) (suf := []) 0 rfl rfl [0] (c_N_uses l D cI cB cJ h qn b k x htl) rfl rfl wd_742 wd_739 wd_740 wd_741 wd_1 (n9 := 3) (by decide +kernel) rfl ⟨(Nat.le_of_ble_eq_true rfl), (Nat.le_of_ble_eq_true rfl)⟩ hl.1 rfl (Nat.le_of_ble_eq_true rfl) d_L_uses_7 (Nat.le_of_ble_eq_true rfl) (Nat.le_of_ble_eq_true rfl) hsp (fun z hz => by rw [List.mem_singleton.mp hz, ct_eq hz0]; exact ⟨by decide, "java/util/NoSuchElementException", wd_691, by decide⟩) (by rw [cov_eq hz1]; decide) (by rw [ct_eq hz1]; decide) (by rw [ct_eq hz1]; exact wd_388) (by decide) (fun q9 H w => ?_)
  rw [hpc_eq hz1]
  refine W.cs (cells' := 1) (slots' := 6) rfl rfl ?_
  have w : Wd D A s [(h, .inr (0, fN 0 qn))] H _ := w
  refine lv_astore hx hb d_L_uses_19 hl (by decide) rfl (fun ls hl => ?_)
  have hl : lv_has ls 6 [(5, .ref q9), (0, .ref h), (1, .int b), (2, .int k), (3, .int x), (4, .ref o)] := hl
  refine lv_iconst (v := 2) hx hb d_L_uses_21 (by decide) ?_
  refine W.widen (k := 1) (n := 6) (by decide) (by decide) ?_
  exact hret _ _ _ _ d_L_uses_22 (w.sub [] rfl rfl)
set_option maxHeartbeats 4000000 in
set_option maxRecDepth 100000 in
theorem c_L_name (l : Launch) (D : va_G) (cI cB cJ : ClassId) (h : Nat) (qn : Nat → Nat) (b : Int32) (k : Int32) (o : Nat) (htl : l.stackTraces = false) : KH l D cI cB cJ y_L_name b_L_name 5 [(0, 10, 13, 40), (0, 10, 17, 13)] 7 104 [.ref h, .int b, .int k, .ref o] [(h, .inr (0, fN 0 qn))] 2 [] := by
  refine KH.ofW (by decide) (Nat.le_of_ble_eq_true rfl) ?_
  intro p e s m args below meth c A Q ls C0 htab hl w hret
  have hx := C0.1
  have hb := C0.2.1
  have hl : lv_has ls 5 [(0, .ref h), (1, .int b), (2, .int k), (3, .ref o)] := hl
  refine lv_aload_n hx hb d_L_name_0 rfl (lv_at hl 3 rfl) ?_
  refine lv_iconst (v := 0) hx hb d_L_name_1 (by decide) ?_
  refine lv_aload_n hx hb d_L_name_2 rfl (lv_at hl 0 rfl) ?_
  refine lv_iload_n hx hb d_L_name_3 rfl (lv_at hl 1 rfl) ?_
  refine lv_iload_n hx hb d_L_name_4 rfl (lv_at hl 2 rfl) ?_
  obtain ⟨z0, hz0, z1, hz1, hsp⟩ := tab2 htab
  refine R_catch C0 w (rest := [.int 0, .ref o]) (pre := [z0]) (x := z1) (suf := []) 0 rfl rfl [0] (c_N_name l D cI cB cJ h qn b k htl) rfl rfl wd_754 wd_751 wd_752 wd_753 wd_1 (n9 := 2) (by decide +kernel) rfl ⟨(Nat.le_of_ble_eq_true rfl), (Nat.le_of_ble_eq_true rfl)⟩ hl.1 rfl (Nat.le_of_ble_eq_true rfl) d_L_name_5 (Nat.le_of_ble_eq_true rfl) (Nat.le_of_ble_eq_true rfl) hsp (fun z hz => by rw [List.mem_singleton.mp hz, ct_eq hz0]; exact ⟨by decide, "java/util/NoSuchElementException", wd_691, by decide⟩) (by rw [cov_eq hz1]; decide) (by rw [ct_eq hz1]; decide) (by rw [ct_eq hz1]; exact wd_388) (by decide) (fun q9 H w => ?_)
  rw [hpc_eq hz1]
  refine W.cs (cells' := 1) (slots' := 6) rfl rfl ?_
  have w : Wd D A s [(h, .inr (0, fN 0 qn))] H _ := w
  refine lv_astore hx hb d_L_name_17 hl (by decide) rfl (fun ls hl => ?_)
  have hl : lv_has ls 5 [(4, .ref q9), (0, .ref h), (1, .int b), (2, .int k), (3, .ref o)] := hl
  refine lv_iconst (v := 2) hx hb d_L_name_19 (by decide) ?_
  refine W.widen (k := 1) (n := 6) (by decide) (by decide) ?_
  exact hret _ _ _ _ d_L_name_20 (w.sub [] rfl rfl)
set_option maxHeartbeats 4000000 in
set_option maxRecDepth 100000 in
theorem c_L_runA (l : Launch) (D : va_G) (cI cB cJ : ClassId) (h : Nat) (qn : Nat → Nat) (b : Int32) (k : Int32) (o : Nat) (htl : l.stackTraces = false) (hs : k < 0) : KH l D cI cB cJ y_L_run b_L_run 5 [(0, 10, 13, 19), (0, 10, 17, 13)] 7 104 [.ref h, .int b, .int k, .ref o] [(h, .inr (0, fN 0 qn))] 1 [] := by
  refine KH.ofW (by decide) (Nat.le_of_ble_eq_true rfl) ?_
  intro p e s m args below meth c A Q ls C0 htab hl w hret
  have hx := C0.1
  have hb := C0.2.1
  have hl : lv_has ls 5 [(0, .ref h), (1, .int b), (2, .int k), (3, .ref o)] := hl
  refine lv_aload_n hx hb d_L_run_0 rfl (lv_at hl 3 rfl) ?_
  refine lv_iconst (v := 0) hx hb d_L_run_1 (by decide) ?_
  refine lv_aload_n hx hb d_L_run_2 rfl (lv_at hl 0 rfl) ?_
  refine lv_iload_n hx hb d_L_run_3 rfl (lv_at hl 1 rfl) ?_
  refine lv_iload_n hx hb d_L_run_4 rfl (lv_at hl 2 rfl) ?_
  obtain ⟨z0, hz0, z1, hz1, hsp⟩ := tab2 htab
  refine R_catch C0 w (rest := [.int 0, .ref o]) (pre := []) (x := z0) (suf := [z1]) 0 rfl rfl [0] (c_N_runA l D cI cB cJ h qn b k htl hs) rfl rfl wd_762 wd_759 wd_760 wd_761 wd_1 (n9 := 2) (by decide +kernel) rfl ⟨(Nat.le_of_ble_eq_true rfl), (Nat.le_of_ble_eq_true rfl)⟩ hl.1 rfl (Nat.le_of_ble_eq_true rfl) d_L_run_5 (Nat.le_of_ble_eq_true rfl) (Nat.le_of_ble_eq_true rfl) hsp (fun z hz => by cases hz) (by rw [cov_eq hz0]; decide) (by rw [ct_eq hz0]; decide) (by rw [ct_eq hz0]; exact wd_472) (by decide) (fun q9 H w => ?_)
  rw [hpc_eq hz0]
  refine W.cs (cells' := 1) (slots' := 6) rfl rfl ?_
  have w : Wd D A s [(h, .inr (0, fN 0 qn))] H _ := w
  refine lv_astore hx hb d_L_run_13 hl (by decide) rfl (fun ls hl => ?_)
  have hl : lv_has ls 5 [(4, .ref q9), (0, .ref h), (1, .int b), (2, .int k), (3, .ref o)] := hl
  refine lv_iconst (v := 1) hx hb d_L_run_15 (by decide) ?_
  refine W.widen (k := 1) (n := 6) (by decide) (by decide) ?_
  exact hret _ _ _ _ d_L_run_16 (w.sub [] rfl rfl)
set_option maxHeartbeats 4000000 in
set_option maxRecDepth 100000 in
theorem c_L_runB (l : Launch) (D : va_G) (cI cB cJ : ClassId) (h : Nat) (qn : Nat → Nat) (b : Int32) (k : Int32) (o : Nat) (htl : l.stackTraces = false) (hs : ¬ k < 0) (ht : ¬ k ≤ 200) : KH l D cI cB cJ y_L_run b_L_run 5 [(0, 10, 13, 19), (0, 10, 17, 13)] 7 104 [.ref h, .int b, .int k, .ref o] [(h, .inr (0, fN 0 qn))] 1 [] := by
  refine KH.ofW (by decide) (Nat.le_of_ble_eq_true rfl) ?_
  intro p e s m args below meth c A Q ls C0 htab hl w hret
  have hx := C0.1
  have hb := C0.2.1
  have hl : lv_has ls 5 [(0, .ref h), (1, .int b), (2, .int k), (3, .ref o)] := hl
  refine lv_aload_n hx hb d_L_run_0 rfl (lv_at hl 3 rfl) ?_
  refine lv_iconst (v := 0) hx hb d_L_run_1 (by decide) ?_
  refine lv_aload_n hx hb d_L_run_2 rfl (lv_at hl 0 rfl) ?_
  refine lv_iload_n hx hb d_L_run_3 rfl (lv_at hl 1 rfl) ?_
  refine lv_iload_n hx hb d_L_run_4 rfl (lv_at hl 2 rfl) ?_
  obtain ⟨z0, hz0, z1, hz1, hsp⟩ := tab2 htab
  refine R_catch C0 w (rest := [.int 0, .ref o]) (pre := []) (x := z0) (suf := [z1]) 0 rfl rfl [0] (c_N_runB l D cI cB cJ h qn b k htl hs ht) rfl rfl wd_762 wd_759 wd_760 wd_761 wd_1 (n9 := 2) (by decide +kernel) rfl ⟨(Nat.le_of_ble_eq_true rfl), (Nat.le_of_ble_eq_true rfl)⟩ hl.1 rfl (Nat.le_of_ble_eq_true rfl) d_L_run_5 (Nat.le_of_ble_eq_true rfl) (Nat.le_of_ble_eq_true rfl) hsp (fun z hz => by cases hz) (by rw [cov_eq hz0]; decide) (by rw [ct_eq hz0]; decide) (by rw [ct_eq hz0]; exact wd_472) (by decide) (fun q9 H w => ?_)
  rw [hpc_eq hz0]
  refine W.cs (cells' := 1) (slots' := 6) rfl rfl ?_
  have w : Wd D A s [(h, .inr (0, fN 0 qn))] H _ := w
  refine lv_astore hx hb d_L_run_13 hl (by decide) rfl (fun ls hl => ?_)
  have hl : lv_has ls 5 [(4, .ref q9), (0, .ref h), (1, .int b), (2, .int k), (3, .ref o)] := hl
  refine lv_iconst (v := 1) hx hb d_L_run_15 (by decide) ?_
  refine W.widen (k := 1) (n := 6) (by decide) (by decide) ?_
  exact hret _ _ _ _ d_L_run_16 (w.sub [] rfl rfl)
set_option maxHeartbeats 4000000 in
set_option maxRecDepth 100000 in
theorem c_L_runC (l : Launch) (D : va_G) (cI cB cJ : ClassId) (h : Nat) (qn : Nat → Nat) (b : Int32) (k : Int32) (o : Nat) (htl : l.stackTraces = false) (hs : ¬ k < 0) (ht : k ≤ 200) : KH l D cI cB cJ y_L_run b_L_run 5 [(0, 10, 13, 19), (0, 10, 17, 13)] 7 104 [.ref h, .int b, .int k, .ref o] [(h, .inr (0, fN 0 qn))] 2 [] := by
  refine KH.ofW (by decide) (Nat.le_of_ble_eq_true rfl) ?_
  intro p e s m args below meth c A Q ls C0 htab hl w hret
  have hx := C0.1
  have hb := C0.2.1
  have hl : lv_has ls 5 [(0, .ref h), (1, .int b), (2, .int k), (3, .ref o)] := hl
  refine lv_aload_n hx hb d_L_run_0 rfl (lv_at hl 3 rfl) ?_
  refine lv_iconst (v := 0) hx hb d_L_run_1 (by decide) ?_
  refine lv_aload_n hx hb d_L_run_2 rfl (lv_at hl 0 rfl) ?_
  refine lv_iload_n hx hb d_L_run_3 rfl (lv_at hl 1 rfl) ?_
  refine lv_iload_n hx hb d_L_run_4 rfl (lv_at hl 2 rfl) ?_
  obtain ⟨z0, hz0, z1, hz1, hsp⟩ := tab2 htab
  refine R_catch C0 w (rest := [.int 0, .ref o]) (pre := [z0]) (x := z1) (suf := []) 0 rfl rfl [0] (c_N_runC l D cI cB cJ h qn b k htl hs ht) rfl rfl wd_762 wd_759 wd_760 wd_761 wd_1 (n9 := 2) (by decide +kernel) rfl ⟨(Nat.le_of_ble_eq_true rfl), (Nat.le_of_ble_eq_true rfl)⟩ hl.1 rfl (Nat.le_of_ble_eq_true rfl) d_L_run_5 (Nat.le_of_ble_eq_true rfl) (Nat.le_of_ble_eq_true rfl) hsp (fun z hz => by rw [List.mem_singleton.mp hz, ct_eq hz0]; exact ⟨by decide, "java/lang/IllegalArgumentException", wd_472, by decide⟩) (by rw [cov_eq hz1]; decide) (by rw [ct_eq hz1]; decide) (by rw [ct_eq hz1]; exact wd_388) (by decide) (fun q9 H w => ?_)
  rw [hpc_eq hz1]
  refine W.cs (cells' := 1) (slots' := 6) rfl rfl ?_
  have w : Wd D A s [(h, .inr (0, fN 0 qn))] H _ := w
  refine lv_astore hx hb d_L_run_17 hl (by decide) rfl (fun ls hl => ?_)
  have hl : lv_has ls 5 [(4, .ref q9), (0, .ref h), (1, .int b), (2, .int k), (3, .ref o)] := hl
  refine lv_iconst (v := 2) hx hb d_L_run_19 (by decide) ?_
  refine W.widen (k := 1) (n := 6) (by decide) (by decide) ?_
  exact hret _ _ _ _ d_L_run_20 (w.sub [] rfl rfl)
set_option maxHeartbeats 4000000 in
set_option maxRecDepth 100000 in
theorem c_L_heard (l : Launch) (D : va_G) (cI cB cJ : ClassId) (h : Nat) (qn : Nat → Nat) (qm : Nat → Nat) (k : Int32) (o : Nat) (htl : l.stackTraces = false) : KH l D cI cB cJ y_L_heard b_L_heard 4 [(0, 9, 12, 40)] 7 103 [.ref h, .int k, .ref o] [(h, .inr (0, fN 0 qn)), ((qn 5), .inr (6, fA 0 qm))] 1 [] := by
  refine KH.ofW (by decide) (Nat.le_of_ble_eq_true rfl) ?_
  intro p e s m args below meth c A Q ls C0 htab hl w hret
  have hx := C0.1
  have hb := C0.2.1
  have hl : lv_has ls 4 [(0, .ref h), (1, .int k), (2, .ref o)] := hl
  refine lv_aload_n hx hb d_L_heard_0 rfl (lv_at hl 2 rfl) ?_
  refine lv_iconst (v := 0) hx hb d_L_heard_1 (by decide) ?_
  refine lv_aload_n hx hb d_L_heard_2 rfl (lv_at hl 0 rfl) ?_
  refine lv_iload_n hx hb d_L_heard_3 rfl (lv_at hl 1 rfl) ?_
  obtain ⟨z0, hz0, hsp⟩ := tab1 htab
  refine R_catch C0 w (rest := [.int 0, .ref o]) (pre := []) (x := z0) (suf := []) 0 rfl rfl [0, 1] (c_N_heard l D cI cB cJ h qn qm k htl) rfl rfl wd_820 wd_817 wd_818 wd_819 wd_1 (n9 := 1) (by decide +kernel) rfl ⟨(Nat.le_of_ble_eq_true rfl), (Nat.le_of_ble_eq_true rfl)⟩ hl.1 rfl (Nat.le_of_ble_eq_true rfl) d_L_heard_4 (Nat.le_of_ble_eq_true rfl) (Nat.le_of_ble_eq_true rfl) hsp (fun z hz => by cases hz) (by rw [cov_eq hz0]; decide) (by rw [ct_eq hz0]; decide) (by rw [ct_eq hz0]; exact wd_691) (by decide) (fun q9 H w => ?_)
  rw [hpc_eq hz0]
  refine W.cs (cells' := 1) (slots' := 6) rfl rfl ?_
  have w : Wd D A s [(h, .inr (0, fN 0 qn)), ((qn 5), .inr (6, fA 0 qm))] H _ := w
  refine lv_astore_n hx hb d_L_heard_12 rfl hl (by decide) rfl (fun ls hl => ?_)
  have hl : lv_has ls 4 [(3, .ref q9), (0, .ref h), (1, .int k), (2, .ref o)] := hl
  refine lv_iconst (v := 1) hx hb d_L_heard_13 (by decide) ?_
  refine W.widen (k := 1) (n := 6) (by decide) (by decide) ?_
  exact hret _ _ _ _ d_L_heard_14 (w.sub [] rfl rfl)
