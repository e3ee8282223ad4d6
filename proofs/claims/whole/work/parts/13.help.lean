def kc (a c : Nat) : Int32 := if c = 0 then 0 else if c = a then 1 else 2
theorem kc_zero {a c : Nat} (h : kc a c = 0) : c = 0 := by
  unfold kc at h
  by_cases h0 : c = 0
  · exact h0
  · rw [if_neg h0] at h
    by_cases h1 : c = a
    · rw [if_pos h1] at h; exact absurd h (by decide)
    · rw [if_neg h1] at h; exact absurd h (by decide)
def fo (c : Nat) (r : Int32) (f : Nat → Int64) : Nat → Int64 := if c = 0 then vp_updL f (0 : Int32).toNatClampNeg r.toInt64 else f
set_option maxHeartbeats 1000000 in
set_option maxRecDepth 20000 in
theorem h_block (l : Launch) (htl : l.stackTraces = false) (D : va_G) (ct : Nat → ClassId) (q : Nat → Nat) (o : Nat) (f : Nat → Int64) {M Mz : Sto} {rz : Int32} {cz : Nat} (h : m_N_block M = some (cz, rz, Mz)) (hcz : cz ∈ [0, 2]) : KH l D ct y_L_block b_L_block 3 [(0, 8, 11, 13)] 7 110 [.ref (q 0), .ref o] ([(o, .inl (ct 2, 1, .inr (.inl f)))] ++ wX ct q M) (kc 2 cz) ([(o, .inl (ct 2, 1, .inr (.inl (fo cz rz f))))] ++ wX ct q Mz) := by
  simp only [List.mem_cons, List.not_mem_nil, or_false] at hcz
  rcases hcz with rfl | rfl
  · refine KH.ofW (by decide) (Nat.le_of_ble_eq_true rfl) ?_
    intro p e s m args below meth c A Q ls C0 htab hl w hret
    have hx := C0.1
    have hb := C0.2.1
    have hl : lv_has ls 3 [(0, .ref (q 0)), (1, .ref o)] := hl
    refine lv_aload_n hx hb d_L_block_0 rfl (lv_at hl 1 rfl) ?_
    refine lv_iconst (v := 0) hx hb d_L_block_1 (by decide) ?_
    refine lv_aload_n hx hb d_L_block_2 rfl (lv_at hl 0 rfl) ?_
    refine S_vi C0 w (rest := [.int 0, .ref o]) 0 (wU_at (by decide)) rfl (c_N_block l D ct q h) wd_392 wd_389 wd_390 wd_391 wd_1 (n9 := 0) (by decide +kernel) rfl ⟨(Nat.le_of_ble_eq_true rfl), (Nat.le_of_ble_eq_true rfl)⟩ hl.1 rfl (Nat.le_of_ble_eq_true rfl) d_L_block_3 (Nat.le_of_ble_eq_true rfl) (Nat.le_of_ble_eq_true rfl) (fun H locs w => ?_)
    have w : Wd D A s ([(o, .inl (ct 2, 1, .inr (.inl f)))] ++ wX ct q Mz) H _ := w
    refine lv_i2l (v := rz.toInt64) hx hb d_L_block_6 rfl ?_
    refine R_last C0 w 0 rfl (vin (by decide)) d_L_block_7 (fun H locs w => ?_)
    have w : Wd D A s ([(o, .inl (ct 2, 1, .inr (.inl (vp_updL f (0 : Int32).toNatClampNeg rz.toInt64))))] ++ wX ct q Mz) H _ := w
    refine lv_goto (tgt := 14) hx hb d_L_block_8 (by decide) ?_
    refine lv_iconst (v := 0) hx hb d_L_block_14 (by decide) ?_
    refine W.widen (k := 1) (n := 6) (by decide) (by decide) ?_
    exact hret _ _ _ _ d_L_block_15 w
  · refine KH.ofW (by decide) (Nat.le_of_ble_eq_true rfl) ?_
    intro p e s m args below meth c A Q ls C0 htab hl w hret
    have hx := C0.1
    have hb := C0.2.1
    have hl : lv_has ls 3 [(0, .ref (q 0)), (1, .ref o)] := hl
    refine lv_aload_n hx hb d_L_block_0 rfl (lv_at hl 1 rfl) ?_
    refine lv_iconst (v := 0) hx hb d_L_block_1 (by decide) ?_
    refine lv_aload_n hx hb d_L_block_2 rfl (lv_at hl 0 rfl) ?_
    obtain ⟨z0, hz0, hsp⟩ := tab1 htab
    refine S_catch C0 w (rest := [.int 0, .ref o]) (pre := []) (x := z0) (suf := []) 0 (wU_at (by decide)) rfl (x_N_block_IllegalStateException l htl D ct q h) wd_392 wd_389 wd_390 wd_391 wd_1 (n9 := 0) (by decide +kernel) rfl ⟨(Nat.le_of_ble_eq_true rfl), (Nat.le_of_ble_eq_true rfl)⟩ hl.1 rfl (Nat.le_of_ble_eq_true rfl) d_L_block_3 (Nat.le_of_ble_eq_true rfl) (Nat.le_of_ble_eq_true rfl) hsp (fun z hz => by cases hz) (by rw [cov_eq hz0]; decide) (by rw [ct_eq hz0]; decide) (by rw [ct_eq hz0]; exact wd_388) (by decide) (fun q9 H locs w => ?_)
    rw [hpc_eq hz0]
    refine W.cs (cells' := 1) (slots' := 6) rfl rfl ?_
    have w : Wd D A s ([(o, .inl (ct 2, 1, .inr (.inl f)))] ++ wX ct q Mz) H _ := w
    refine lv_astore_n hx hb d_L_block_11 rfl hl (by decide) rfl (fun ls hl => ?_)
    have hl : lv_has ls 3 [(2, .ref q9), (0, .ref (q 0)), (1, .ref o)] := hl
    refine lv_iconst (v := 1) hx hb d_L_block_12 (by decide) ?_
    exact hret _ _ _ _ d_L_block_13 w
set_option maxHeartbeats 1000000 in
set_option maxRecDepth 20000 in
theorem h_put (l : Launch) (htl : l.stackTraces = false) (D : va_G) (ct : Nat → ClassId) (q : Nat → Nat) (o : Nat) (f : Nat → Int64) {x1 x2 x3 x4 x5 : Int32} {M Mz : Sto} {rz : Int32} {cz : Nat} (h : m_N_put x1 x2 x3 x4 x5 M = some (cz, rz, Mz)) (hcz : cz ∈ [0, 1, 2]) : KH l D ct y_L_put b_L_put 8 [(0, 16, 19, 19), (0, 16, 23, 13)] 7 115 [.ref (q 0), .int x1, .int x2, .int x3, .int x4, .int x5, .ref o] ([(o, .inl (ct 2, 1, .inr (.inl f)))] ++ wX ct q M) (kc 1 cz) ([(o, .inl (ct 2, 1, .inr (.inl (fo cz rz f))))] ++ wX ct q Mz) := by
  simp only [List.mem_cons, List.not_mem_nil, or_false] at hcz
  rcases hcz with rfl | rfl | rfl
  · refine KH.ofW (by decide) (Nat.le_of_ble_eq_true rfl) ?_
    intro p e s m args below meth c A Q ls C0 htab hl w hret
    have hx := C0.1
    have hb := C0.2.1
    have hl : lv_has ls 8 [(0, .ref (q 0)), (1, .int x1), (2, .int x2), (3, .int x3), (4, .int x4), (5, .int x5), (6, .ref o)] := hl
    refine lv_aload hx hb d_L_put_0 (lv_at hl 6 rfl) ?_
    refine lv_iconst (v := 0) hx hb d_L_put_2 (by decide) ?_
    refine lv_aload_n hx hb d_L_put_3 rfl (lv_at hl 0 rfl) ?_
    refine lv_iload_n hx hb d_L_put_4 rfl (lv_at hl 1 rfl) ?_
    refine lv_iload_n hx hb d_L_put_5 rfl (lv_at hl 2 rfl) ?_
    refine lv_iload_n hx hb d_L_put_6 rfl (lv_at hl 3 rfl) ?_
    refine lv_iload hx hb d_L_put_7 (lv_at hl 4 rfl) ?_
    refine lv_iload hx hb d_L_put_9 (lv_at hl 5 rfl) ?_
    refine S_vi C0 w (rest := [.int 0, .ref o]) 0 (wU_at (by decide)) rfl (c_N_put l D ct q h) wd_476 wd_473 wd_474 wd_475 wd_1 (n9 := 5) (by decide +kernel) rfl ⟨(Nat.le_of_ble_eq_true rfl), (Nat.le_of_ble_eq_true rfl)⟩ hl.1 rfl (Nat.le_of_ble_eq_true rfl) d_L_put_11 (Nat.le_of_ble_eq_true rfl) (Nat.le_of_ble_eq_true rfl) (fun H locs w => ?_)
    have w : Wd D A s ([(o, .inl (ct 2, 1, .inr (.inl f)))] ++ wX ct q Mz) H _ := w
    refine lv_i2l (v := rz.toInt64) hx hb d_L_put_14 rfl ?_
    refine R_last C0 w 0 rfl (vin (by decide)) d_L_put_15 (fun H locs w => ?_)
    have w : Wd D A s ([(o, .inl (ct 2, 1, .inr (.inl (vp_updL f (0 : Int32).toNatClampNeg rz.toInt64))))] ++ wX ct q Mz) H _ := w
    refine lv_goto (tgt := 27) hx hb d_L_put_16 (by decide) ?_
    refine lv_iconst (v := 0) hx hb d_L_put_27 (by decide) ?_
    refine W.widen (k := 1) (n := 6) (by decide) (by decide) ?_
    exact hret _ _ _ _ d_L_put_28 w
  · refine KH.ofW (by decide) (Nat.le_of_ble_eq_true rfl) ?_
    intro p e s m args below meth c A Q ls C0 htab hl w hret
    have hx := C0.1
    have hb := C0.2.1
    have hl : lv_has ls 8 [(0, .ref (q 0)), (1, .int x1), (2, .int x2), (3, .int x3), (4, .int x4), (5, .int x5), (6, .ref o)] := hl
    refine lv_aload hx hb d_L_put_0 (lv_at hl 6 rfl) ?_
    refine lv_iconst (v := 0) hx hb d_L_put_2 (by decide) ?_
    refine lv_aload_n hx hb d_L_put_3 rfl (lv_at hl 0 rfl) ?_
    refine lv_iload_n hx hb d_L_put_4 rfl (lv_at hl 1 rfl) ?_
    refine lv_iload_n hx hb d_L_put_5 rfl (lv_at hl 2 rfl) ?_
    refine lv_iload_n hx hb d_L_put_6 rfl (lv_at hl 3 rfl) ?_
    refine lv_iload hx hb d_L_put_7 (lv_at hl 4 rfl) ?_
    refine lv_iload hx hb d_L_put_9 (lv_at hl 5 rfl) ?_
    obtain ⟨z0, hz0, z1, hz1, hsp⟩ := tab2 htab
    refine S_catch C0 w (rest := [.int 0, .ref o]) (pre := []) (x := z0) (suf := [z1]) 0 (wU_at (by decide)) rfl (x_N_put_IllegalArgumentException l htl D ct q h) wd_476 wd_473 wd_474 wd_475 wd_1 (n9 := 5) (by decide +kernel) rfl ⟨(Nat.le_of_ble_eq_true rfl), (Nat.le_of_ble_eq_true rfl)⟩ hl.1 rfl (Nat.le_of_ble_eq_true rfl) d_L_put_11 (Nat.le_of_ble_eq_true rfl) (Nat.le_of_ble_eq_true rfl) hsp (fun z hz => by cases hz) (by rw [cov_eq hz0]; decide) (by rw [ct_eq hz0]; decide) (by rw [ct_eq hz0]; exact wd_472) (by decide) (fun q9 H locs w => ?_)
    rw [hpc_eq hz0]
    refine W.cs (cells' := 1) (slots' := 6) rfl rfl ?_
    have w : Wd D A s ([(o, .inl (ct 2, 1, .inr (.inl f)))] ++ wX ct q Mz) H _ := w
    refine lv_astore hx hb d_L_put_19 hl (by decide) rfl (fun ls hl => ?_)
    have hl : lv_has ls 8 [(7, .ref q9), (0, .ref (q 0)), (1, .int x1), (2, .int x2), (3, .int x3), (4, .int x4), (5, .int x5), (6, .ref o)] := hl
    refine lv_iconst (v := 1) hx hb d_L_put_21 (by decide) ?_
    exact hret _ _ _ _ d_L_put_22 w
  · refine KH.ofW (by decide) (Nat.le_of_ble_eq_true rfl) ?_
    intro p e s m args below meth c A Q ls C0 htab hl w hret
    have hx := C0.1
    have hb := C0.2.1
    have hl : lv_has ls 8 [(0, .ref (q 0)), (1, .int x1), (2, .int x2), (3, .int x3), (4, .int x4), (5, .int x5), (6, .ref o)] := hl
    refine lv_aload hx hb d_L_put_0 (lv_at hl 6 rfl) ?_
    refine lv_iconst (v := 0) hx hb d_L_put_2 (by decide) ?_
    refine lv_aload_n hx hb d_L_put_3 rfl (lv_at hl 0 rfl) ?_
    refine lv_iload_n hx hb d_L_put_4 rfl (lv_at hl 1 rfl) ?_
    refine lv_iload_n hx hb d_L_put_5 rfl (lv_at hl 2 rfl) ?_
    refine lv_iload_n hx hb d_L_put_6 rfl (lv_at hl 3 rfl) ?_
    refine lv_iload hx hb d_L_put_7 (lv_at hl 4 rfl) ?_
    refine lv_iload hx hb d_L_put_9 (lv_at hl 5 rfl) ?_
    obtain ⟨z0, hz0, z1, hz1, hsp⟩ := tab2 htab
    refine S_catch C0 w (rest := [.int 0, .ref o]) (pre := [z0]) (x := z1) (suf := []) 0 (wU_at (by decide)) rfl (x_N_put_IllegalStateException l htl D ct q h) wd_476 wd_473 wd_474 wd_475 wd_1 (n9 := 5) (by decide +kernel) rfl ⟨(Nat.le_of_ble_eq_true rfl), (Nat.le_of_ble_eq_true rfl)⟩ hl.1 rfl (Nat.le_of_ble_eq_true rfl) d_L_put_11 (Nat.le_of_ble_eq_true rfl) (Nat.le_of_ble_eq_true rfl) hsp (fun z hz => by rw [List.mem_singleton.mp hz, ct_eq hz0]; exact ⟨by decide, "java/lang/IllegalArgumentException", wd_472, by decide⟩) (by rw [cov_eq hz1]; decide) (by rw [ct_eq hz1]; decide) (by rw [ct_eq hz1]; exact wd_388) (by decide) (fun q9 H locs w => ?_)
    rw [hpc_eq hz1]
    refine W.cs (cells' := 1) (slots' := 6) rfl rfl ?_
    have w : Wd D A s ([(o, .inl (ct 2, 1, .inr (.inl f)))] ++ wX ct q Mz) H _ := w
    refine lv_astore hx hb d_L_put_23 hl (by decide) rfl (fun ls hl => ?_)
    have hl : lv_has ls 8 [(7, .ref q9), (0, .ref (q 0)), (1, .int x1), (2, .int x2), (3, .int x3), (4, .int x4), (5, .int x5), (6, .ref o)] := hl
    refine lv_iconst (v := 2) hx hb d_L_put_25 (by decide) ?_
    exact hret _ _ _ _ d_L_put_26 w
set_option maxHeartbeats 1000000 in
set_option maxRecDepth 20000 in
theorem h_go (l : Launch) (htl : l.stackTraces = false) (D : va_G) (ct : Nat → ClassId) (q : Nat → Nat) {x1 x2 : Int32} {M Mz : Sto} {rz : Int32} {cz : Nat} (h : m_N_go x1 x2 M = some (cz, rz, Mz)) (hcz : cz ∈ [0, 1]) : KH l D ct y_L_go b_L_go 4 [(0, 6, 9, 19)] 7 112 [.ref (q 0), .int x1, .int x2] (wX ct q M) (kc 1 cz) (wX ct q Mz) := by
  simp only [List.mem_cons, List.not_mem_nil, or_false] at hcz
  rcases hcz with rfl | rfl
  · refine KH.ofW (by decide) (Nat.le_of_ble_eq_true rfl) ?_
    intro p e s m args below meth c A Q ls C0 htab hl w hret
    have hx := C0.1
    have hb := C0.2.1
    have hl : lv_has ls 4 [(0, .ref (q 0)), (1, .int x1), (2, .int x2)] := hl
    refine lv_aload_n hx hb d_L_go_0 rfl (lv_at hl 0 rfl) ?_
    refine lv_iload_n hx hb d_L_go_1 rfl (lv_at hl 1 rfl) ?_
    refine lv_iload_n hx hb d_L_go_2 rfl (lv_at hl 2 rfl) ?_
    have w : Wd D A s ([] ++ wX ct q M) s.heap _ := w
    refine S_vv C0 w (rest := []) 0 (wU_at (by decide)) rfl (c_N_go l D ct q h) wd_523 wd_520 wd_521 wd_522 wd_1 (n9 := 2) (by decide +kernel) rfl ⟨(Nat.le_of_ble_eq_true rfl), (Nat.le_of_ble_eq_true rfl)⟩ hl.1 rfl (Nat.le_of_ble_eq_true rfl) d_L_go_3 (Nat.le_of_ble_eq_true rfl) (Nat.le_of_ble_eq_true rfl) (fun H locs w => ?_)
    have w : Wd D A s (wX ct q Mz) H _ := w
    refine lv_goto (tgt := 12) hx hb d_L_go_6 (by decide) ?_
    refine lv_iconst (v := 0) hx hb d_L_go_12 (by decide) ?_
    refine W.widen (k := 1) (n := 6) (by decide) (by decide) ?_
    exact hret _ _ _ _ d_L_go_13 w
  · refine KH.ofW (by decide) (Nat.le_of_ble_eq_true rfl) ?_
    intro p e s m args below meth c A Q ls C0 htab hl w hret
    have hx := C0.1
    have hb := C0.2.1
    have hl : lv_has ls 4 [(0, .ref (q 0)), (1, .int x1), (2, .int x2)] := hl
    refine lv_aload_n hx hb d_L_go_0 rfl (lv_at hl 0 rfl) ?_
    refine lv_iload_n hx hb d_L_go_1 rfl (lv_at hl 1 rfl) ?_
    refine lv_iload_n hx hb d_L_go_2 rfl (lv_at hl 2 rfl) ?_
    have w : Wd D A s ([] ++ wX ct q M) s.heap _ := w
    obtain ⟨z0, hz0, hsp⟩ := tab1 htab
    refine S_catch C0 w (rest := []) (pre := []) (x := z0) (suf := []) 0 (wU_at (by decide)) rfl (x_N_go_IllegalArgumentException l htl D ct q h) wd_523 wd_520 wd_521 wd_522 wd_1 (n9 := 2) (by decide +kernel) rfl ⟨(Nat.le_of_ble_eq_true rfl), (Nat.le_of_ble_eq_true rfl)⟩ hl.1 rfl (Nat.le_of_ble_eq_true rfl) d_L_go_3 (Nat.le_of_ble_eq_true rfl) (Nat.le_of_ble_eq_true rfl) hsp (fun z hz => by cases hz) (by rw [cov_eq hz0]; decide) (by rw [ct_eq hz0]; decide) (by rw [ct_eq hz0]; exact wd_472) (by decide) (fun q9 H locs w => ?_)
    rw [hpc_eq hz0]
    refine W.cs (cells' := 1) (slots' := 6) rfl rfl ?_
    have w : Wd D A s (wX ct q Mz) H _ := w
    refine lv_astore_n hx hb d_L_go_9 rfl hl (by decide) rfl (fun ls hl => ?_)
    have hl : lv_has ls 4 [(3, .ref q9), (0, .ref (q 0)), (1, .int x1), (2, .int x2)] := hl
    refine lv_iconst (v := 1) hx hb d_L_go_10 (by decide) ?_
    exact hret _ _ _ _ d_L_go_11 w
set_option maxHeartbeats 1000000 in
set_option maxRecDepth 20000 in
theorem h_fork (l : Launch) (htl : l.stackTraces = false) (D : va_G) (ct : Nat → ClassId) (q : Nat → Nat) {x1 x2 x3 x4 : Int32} {M Mz : Sto} {rz : Int32} {cz : Nat} (h : m_N_fork x1 x2 x3 x4 M = some (cz, rz, Mz)) (hcz : cz ∈ [0, 1]) : KH l D ct y_L_fork b_L_fork 6 [(0, 9, 12, 19)] 7 114 [.ref (q 0), .int x1, .int x2, .int x3, .int x4] (wX ct q M) (kc 1 cz) (wX ct q Mz) := by
  simp only [List.mem_cons, List.not_mem_nil, or_false] at hcz
  rcases hcz with rfl | rfl
  · refine KH.ofW (by decide) (Nat.le_of_ble_eq_true rfl) ?_
    intro p e s m args below meth c A Q ls C0 htab hl w hret
    have hx := C0.1
    have hb := C0.2.1
    have hl : lv_has ls 6 [(0, .ref (q 0)), (1, .int x1), (2, .int x2), (3, .int x3), (4, .int x4)] := hl
    refine lv_aload_n hx hb d_L_fork_0 rfl (lv_at hl 0 rfl) ?_
    refine lv_iload_n hx hb d_L_fork_1 rfl (lv_at hl 1 rfl) ?_
    refine lv_iload_n hx hb d_L_fork_2 rfl (lv_at hl 2 rfl) ?_
    refine lv_iload_n hx hb d_L_fork_3 rfl (lv_at hl 3 rfl) ?_
    refine lv_iload hx hb d_L_fork_4 (lv_at hl 4 rfl) ?_
    have w : Wd D A s ([] ++ wX ct q M) s.heap _ := w
    refine S_vv C0 w (rest := []) 0 (wU_at (by decide)) rfl (c_N_fork l D ct q h) wd_537 wd_534 wd_535 wd_536 wd_1 (n9 := 4) (by decide +kernel) rfl ⟨(Nat.le_of_ble_eq_true rfl), (Nat.le_of_ble_eq_true rfl)⟩ hl.1 rfl (Nat.le_of_ble_eq_true rfl) d_L_fork_6 (Nat.le_of_ble_eq_true rfl) (Nat.le_of_ble_eq_true rfl) (fun H locs w => ?_)
    have w : Wd D A s (wX ct q Mz) H _ := w
    refine lv_goto (tgt := 16) hx hb d_L_fork_9 (by decide) ?_
    refine lv_iconst (v := 0) hx hb d_L_fork_16 (by decide) ?_
    refine W.widen (k := 1) (n := 6) (by decide) (by decide) ?_
    exact hret _ _ _ _ d_L_fork_17 w
  · refine KH.ofW (by decide) (Nat.le_of_ble_eq_true rfl) ?_
    intro p e s m args below meth c A Q ls C0 htab hl w hret
    have hx := C0.1
    have hb := C0.2.1
    have hl : lv_has ls 6 [(0, .ref (q 0)), (1, .int x1), (2, .int x2), (3, .int x3), (4, .int x4)] := hl
    refine lv_aload_n hx hb d_L_fork_0 rfl (lv_at hl 0 rfl) ?_
    refine lv_iload_n hx hb d_L_fork_1 rfl (lv_at hl 1 rfl) ?_
    refine lv_iload_n hx hb d_L_fork_2 rfl (lv_at hl 2 rfl) ?_
    refine lv_iload_n hx hb d_L_fork_3 rfl (lv_at hl 3 rfl) ?_
    refine lv_iload hx hb d_L_fork_4 (lv_at hl 4 rfl) ?_
    have w : Wd D A s ([] ++ wX ct q M) s.heap _ := w
    obtain ⟨z0, hz0, hsp⟩ := tab1 htab
    refine S_catch C0 w (rest := []) (pre := []) (x := z0) (suf := []) 0 (wU_at (by decide)) rfl (x_N_fork_IllegalArgumentException l htl D ct q h) wd_537 wd_534 wd_535 wd_536 wd_1 (n9 := 4) (by decide +kernel) rfl ⟨(Nat.le_of_ble_eq_true rfl), (Nat.le_of_ble_eq_true rfl)⟩ hl.1 rfl (Nat.le_of_ble_eq_true rfl) d_L_fork_6 (Nat.le_of_ble_eq_true rfl) (Nat.le_of_ble_eq_true rfl) hsp (fun z hz => by cases hz) (by rw [cov_eq hz0]; decide) (by rw [ct_eq hz0]; decide) (by rw [ct_eq hz0]; exact wd_472) (by decide) (fun q9 H locs w => ?_)
    rw [hpc_eq hz0]
    refine W.cs (cells' := 1) (slots' := 6) rfl rfl ?_
    have w : Wd D A s (wX ct q Mz) H _ := w
    refine lv_astore hx hb d_L_fork_12 hl (by decide) rfl (fun ls hl => ?_)
    have hl : lv_has ls 6 [(5, .ref q9), (0, .ref (q 0)), (1, .int x1), (2, .int x2), (3, .int x3), (4, .int x4)] := hl
    refine lv_iconst (v := 1) hx hb d_L_fork_14 (by decide) ?_
    exact hret _ _ _ _ d_L_fork_15 w
set_option maxHeartbeats 1000000 in
set_option maxRecDepth 20000 in
theorem h_stop (l : Launch) (htl : l.stackTraces = false) (D : va_G) (ct : Nat → ClassId) (q : Nat → Nat) {x1 : Int32} {M Mz : Sto} {rz : Int32} {cz : Nat} (h : m_N_stop x1 M = some (cz, rz, Mz)) (hcz : cz ∈ [0, 1]) : KH l D ct y_L_stop b_L_stop 3 [(0, 5, 8, 19)] 7 111 [.ref (q 0), .int x1] (wX ct q M) (kc 1 cz) (wX ct q Mz) := by
  simp only [List.mem_cons, List.not_mem_nil, or_false] at hcz
  rcases hcz with rfl | rfl
  · refine KH.ofW (by decide) (Nat.le_of_ble_eq_true rfl) ?_
    intro p e s m args below meth c A Q ls C0 htab hl w hret
    have hx := C0.1
    have hb := C0.2.1
    have hl : lv_has ls 3 [(0, .ref (q 0)), (1, .int x1)] := hl
    refine lv_aload_n hx hb d_L_stop_0 rfl (lv_at hl 0 rfl) ?_
    refine lv_iload_n hx hb d_L_stop_1 rfl (lv_at hl 1 rfl) ?_
    have w : Wd D A s ([] ++ wX ct q M) s.heap _ := w
    refine S_vv C0 w (rest := []) 0 (wU_at (by decide)) rfl (c_N_stop l D ct q h) wd_545 wd_542 wd_543 wd_544 wd_1 (n9 := 1) (by decide +kernel) rfl ⟨(Nat.le_of_ble_eq_true rfl), (Nat.le_of_ble_eq_true rfl)⟩ hl.1 rfl (Nat.le_of_ble_eq_true rfl) d_L_stop_2 (Nat.le_of_ble_eq_true rfl) (Nat.le_of_ble_eq_true rfl) (fun H locs w => ?_)
    have w : Wd D A s (wX ct q Mz) H _ := w
    refine lv_goto (tgt := 11) hx hb d_L_stop_5 (by decide) ?_
    refine lv_iconst (v := 0) hx hb d_L_stop_11 (by decide) ?_
    refine W.widen (k := 1) (n := 6) (by decide) (by decide) ?_
    exact hret _ _ _ _ d_L_stop_12 w
  · refine KH.ofW (by decide) (Nat.le_of_ble_eq_true rfl) ?_
    intro p e s m args below meth c A Q ls C0 htab hl w hret
    have hx := C0.1
    have hb := C0.2.1
    have hl : lv_has ls 3 [(0, .ref (q 0)), (1, .int x1)] := hl
    refine lv_aload_n hx hb d_L_stop_0 rfl (lv_at hl 0 rfl) ?_
    refine lv_iload_n hx hb d_L_stop_1 rfl (lv_at hl 1 rfl) ?_
    have w : Wd D A s ([] ++ wX ct q M) s.heap _ := w
    obtain ⟨z0, hz0, hsp⟩ := tab1 htab
    refine S_catch C0 w (rest := []) (pre := []) (x := z0) (suf := []) 0 (wU_at (by decide)) rfl (x_N_stop_IllegalArgumentException l htl D ct q h) wd_545 wd_542 wd_543 wd_544 wd_1 (n9 := 1) (by decide +kernel) rfl ⟨(Nat.le_of_ble_eq_true rfl), (Nat.le_of_ble_eq_true rfl)⟩ hl.1 rfl (Nat.le_of_ble_eq_true rfl) d_L_stop_2 (Nat.le_of_ble_eq_true rfl) (Nat.le_of_ble_eq_true rfl) hsp (fun z hz => by cases hz) (by rw [cov_eq hz0]; decide) (by rw [ct_eq hz0]; decide) (by rw [ct_eq hz0]; exact wd_472) (by decide) (fun q9 H locs w => ?_)
    rw [hpc_eq hz0]
    refine W.cs (cells' := 1) (slots' := 6) rfl rfl ?_
    have w : Wd D A s (wX ct q Mz) H _ := w
    refine lv_astore_n hx hb d_L_stop_8 rfl hl (by decide) rfl (fun ls hl => ?_)
    have hl : lv_has ls 3 [(2, .ref q9), (0, .ref (q 0)), (1, .int x1)] := hl
    refine lv_iconst (v := 1) hx hb d_L_stop_9 (by decide) ?_
    exact hret _ _ _ _ d_L_stop_10 w
set_option maxHeartbeats 1000000 in
set_option maxRecDepth 20000 in
theorem h_build (l : Launch) (htl : l.stackTraces = false) (D : va_G) (ct : Nat → ClassId) (q : Nat → Nat) (o : Nat) (f : Nat → Int64) {M Mz : Sto} {rz : Int32} {cz : Nat} (h : m_N_build M = some (cz, rz, Mz)) (hcz : cz ∈ [0, 2]) : KH l D ct y_L_build b_L_build 3 [(0, 8, 11, 13)] 7 151 [.ref (q 0), .ref o] ([(o, .inl (ct 2, 1, .inr (.inl f)))] ++ wX ct q M) (kc 2 cz) ([(o, .inl (ct 2, 1, .inr (.inl (fo cz rz f))))] ++ wX ct q Mz) := by
  simp only [List.mem_cons, List.not_mem_nil, or_false] at hcz
  rcases hcz with rfl | rfl
  · refine KH.ofW (by decide) (Nat.le_of_ble_eq_true rfl) ?_
    intro p e s m args below meth c A Q ls C0 htab hl w hret
    have hx := C0.1
    have hb := C0.2.1
    have hl : lv_has ls 3 [(0, .ref (q 0)), (1, .ref o)] := hl
    refine lv_aload_n hx hb d_L_build_0 rfl (lv_at hl 1 rfl) ?_
    refine lv_iconst (v := 0) hx hb d_L_build_1 (by decide) ?_
    refine lv_aload_n hx hb d_L_build_2 rfl (lv_at hl 0 rfl) ?_
    refine S_vi C0 w (rest := [.int 0, .ref o]) 0 (wU_at (by decide)) rfl (c_N_build l D ct q h) wd_553 wd_550 wd_551 wd_552 wd_1 (n9 := 0) (by decide +kernel) rfl ⟨(Nat.le_of_ble_eq_true rfl), (Nat.le_of_ble_eq_true rfl)⟩ hl.1 rfl (Nat.le_of_ble_eq_true rfl) d_L_build_3 (Nat.le_of_ble_eq_true rfl) (Nat.le_of_ble_eq_true rfl) (fun H locs w => ?_)
    have w : Wd D A s ([(o, .inl (ct 2, 1, .inr (.inl f)))] ++ wX ct q Mz) H _ := w
    refine lv_i2l (v := rz.toInt64) hx hb d_L_build_6 rfl ?_
    refine R_last C0 w 0 rfl (vin (by decide)) d_L_build_7 (fun H locs w => ?_)
    have w : Wd D A s ([(o, .inl (ct 2, 1, .inr (.inl (vp_updL f (0 : Int32).toNatClampNeg rz.toInt64))))] ++ wX ct q Mz) H _ := w
    refine lv_goto (tgt := 14) hx hb d_L_build_8 (by decide) ?_
    refine lv_iconst (v := 0) hx hb d_L_build_14 (by decide) ?_
    refine W.widen (k := 1) (n := 6) (by decide) (by decide) ?_
    exact hret _ _ _ _ d_L_build_15 w
  · refine KH.ofW (by decide) (Nat.le_of_ble_eq_true rfl) ?_
    intro p e s m args below meth c A Q ls C0 htab hl w hret
    have hx := C0.1
    have hb := C0.2.1
    have hl : lv_has ls 3 [(0, .ref (q 0)), (1, .ref o)] := hl
    refine lv_aload_n hx hb d_L_build_0 rfl (lv_at hl 1 rfl) ?_
    refine lv_iconst (v := 0) hx hb d_L_build_1 (by decide) ?_
    refine lv_aload_n hx hb d_L_build_2 rfl (lv_at hl 0 rfl) ?_
    obtain ⟨z0, hz0, hsp⟩ := tab1 htab
    refine S_catch C0 w (rest := [.int 0, .ref o]) (pre := []) (x := z0) (suf := []) 0 (wU_at (by decide)) rfl (x_N_build_IllegalStateException l htl D ct q h) wd_553 wd_550 wd_551 wd_552 wd_1 (n9 := 0) (by decide +kernel) rfl ⟨(Nat.le_of_ble_eq_true rfl), (Nat.le_of_ble_eq_true rfl)⟩ hl.1 rfl (Nat.le_of_ble_eq_true rfl) d_L_build_3 (Nat.le_of_ble_eq_true rfl) (Nat.le_of_ble_eq_true rfl) hsp (fun z hz => by cases hz) (by rw [cov_eq hz0]; decide) (by rw [ct_eq hz0]; decide) (by rw [ct_eq hz0]; exact wd_388) (by decide) (fun q9 H locs w => ?_)
    rw [hpc_eq hz0]
    refine W.cs (cells' := 1) (slots' := 6) rfl rfl ?_
    have w : Wd D A s ([(o, .inl (ct 2, 1, .inr (.inl f)))] ++ wX ct q Mz) H _ := w
    refine lv_astore_n hx hb d_L_build_11 rfl hl (by decide) rfl (fun ls hl => ?_)
    have hl : lv_has ls 3 [(2, .ref q9), (0, .ref (q 0)), (1, .ref o)] := hl
    refine lv_iconst (v := 1) hx hb d_L_build_12 (by decide) ?_
    exact hret _ _ _ _ d_L_build_13 w
set_option maxHeartbeats 1000000 in
set_option maxRecDepth 20000 in
theorem h_look (l : Launch) (htl : l.stackTraces = false) (D : va_G) (ct : Nat → ClassId) (q : Nat → Nat) (o : Nat) (f : Nat → Int64) {x1 x2 : Int32} {M Mz : Sto} {rz : Int32} {cz : Nat} (h : m_N_look x1 x2 M = some (cz, rz, Mz)) (hcz : cz ∈ [0, 3, 2]) : KH l D ct y_L_look b_L_look 5 [(0, 10, 13, 40), (0, 10, 17, 13)] 7 112 [.ref (q 0), .int x1, .int x2, .ref o] ([(o, .inl (ct 2, 1, .inr (.inl f)))] ++ wX ct q M) (kc 3 cz) ([(o, .inl (ct 2, 1, .inr (.inl (fo cz rz f))))] ++ wX ct q Mz) := by
  simp only [List.mem_cons, List.not_mem_nil, or_false] at hcz
  rcases hcz with rfl | rfl | rfl
  · refine KH.ofW (by decide) (Nat.le_of_ble_eq_true rfl) ?_
    intro p e s m args below meth c A Q ls C0 htab hl w hret
    have hx := C0.1
    have hb := C0.2.1
    have hl : lv_has ls 5 [(0, .ref (q 0)), (1, .int x1), (2, .int x2), (3, .ref o)] := hl
    refine lv_aload_n hx hb d_L_look_0 rfl (lv_at hl 3 rfl) ?_
    refine lv_iconst (v := 0) hx hb d_L_look_1 (by decide) ?_
    refine lv_aload_n hx hb d_L_look_2 rfl (lv_at hl 0 rfl) ?_
    refine lv_iload_n hx hb d_L_look_3 rfl (lv_at hl 1 rfl) ?_
    refine lv_iload_n hx hb d_L_look_4 rfl (lv_at hl 2 rfl) ?_
    refine S_vi C0 w (rest := [.int 0, .ref o]) 0 (wU_at (by decide)) rfl (c_N_look l D ct q h) wd_695 wd_692 wd_693 wd_694 wd_1 (n9 := 2) (by decide +kernel) rfl ⟨(Nat.le_of_ble_eq_true rfl), (Nat.le_of_ble_eq_true rfl)⟩ hl.1 rfl (Nat.le_of_ble_eq_true rfl) d_L_look_5 (Nat.le_of_ble_eq_true rfl) (Nat.le_of_ble_eq_true rfl) (fun H locs w => ?_)
    have w : Wd D A s ([(o, .inl (ct 2, 1, .inr (.inl f)))] ++ wX ct q Mz) H _ := w
    refine lv_i2l (v := rz.toInt64) hx hb d_L_look_8 rfl ?_
    refine R_last C0 w 0 rfl (vin (by decide)) d_L_look_9 (fun H locs w => ?_)
    have w : Wd D A s ([(o, .inl (ct 2, 1, .inr (.inl (vp_updL f (0 : Int32).toNatClampNeg rz.toInt64))))] ++ wX ct q Mz) H _ := w
    refine lv_goto (tgt := 21) hx hb d_L_look_10 (by decide) ?_
    refine lv_iconst (v := 0) hx hb d_L_look_21 (by decide) ?_
    refine W.widen (k := 1) (n := 6) (by decide) (by decide) ?_
    exact hret _ _ _ _ d_L_look_22 w
  · refine KH.ofW (by decide) (Nat.le_of_ble_eq_true rfl) ?_
    intro p e s m args below meth c A Q ls C0 htab hl w hret
    have hx := C0.1
    have hb := C0.2.1
    have hl : lv_has ls 5 [(0, .ref (q 0)), (1, .int x1), (2, .int x2), (3, .ref o)] := hl
    refine lv_aload_n hx hb d_L_look_0 rfl (lv_at hl 3 rfl) ?_
    refine lv_iconst (v := 0) hx hb d_L_look_1 (by decide) ?_
    refine lv_aload_n hx hb d_L_look_2 rfl (lv_at hl 0 rfl) ?_
    refine lv_iload_n hx hb d_L_look_3 rfl (lv_at hl 1 rfl) ?_
    refine lv_iload_n hx hb d_L_look_4 rfl (lv_at hl 2 rfl) ?_
    obtain ⟨z0, hz0, z1, hz1, hsp⟩ := tab2 htab
    refine S_catch C0 w (rest := [.int 0, .ref o]) (pre := []) (x := z0) (suf := [z1]) 0 (wU_at (by decide)) rfl (x_N_look_NoSuchElementException l htl D ct q h) wd_695 wd_692 wd_693 wd_694 wd_1 (n9 := 2) (by decide +kernel) rfl ⟨(Nat.le_of_ble_eq_true rfl), (Nat.le_of_ble_eq_true rfl)⟩ hl.1 rfl (Nat.le_of_ble_eq_true rfl) d_L_look_5 (Nat.le_of_ble_eq_true rfl) (Nat.le_of_ble_eq_true rfl) hsp (fun z hz => by cases hz) (by rw [cov_eq hz0]; decide) (by rw [ct_eq hz0]; decide) (by rw [ct_eq hz0]; exact wd_691) (by decide) (fun q9 H locs w => ?_)
    rw [hpc_eq hz0]
    refine W.cs (cells' := 1) (slots' := 6) rfl rfl ?_
    have w : Wd D A s ([(o, .inl (ct 2, 1, .inr (.inl f)))] ++ wX ct q Mz) H _ := w
    refine lv_astore hx hb d_L_look_13 hl (by decide) rfl (fun ls hl => ?_)
    have hl : lv_has ls 5 [(4, .ref q9), (0, .ref (q 0)), (1, .int x1), (2, .int x2), (3, .ref o)] := hl
    refine lv_iconst (v := 1) hx hb d_L_look_15 (by decide) ?_
    exact hret _ _ _ _ d_L_look_16 w
  · refine KH.ofW (by decide) (Nat.le_of_ble_eq_true rfl) ?_
    intro p e s m args below meth c A Q ls C0 htab hl w hret
    have hx := C0.1
    have hb := C0.2.1
    have hl : lv_has ls 5 [(0, .ref (q 0)), (1, .int x1), (2, .int x2), (3, .ref o)] := hl
    refine lv_aload_n hx hb d_L_look_0 rfl (lv_at hl 3 rfl) ?_
    refine lv_iconst (v := 0) hx hb d_L_look_1 (by decide) ?_
    refine lv_aload_n hx hb d_L_look_2 rfl (lv_at hl 0 rfl) ?_
    refine lv_iload_n hx hb d_L_look_3 rfl (lv_at hl 1 rfl) ?_
    refine lv_iload_n hx hb d_L_look_4 rfl (lv_at hl 2 rfl) ?_
    obtain ⟨z0, hz0, z1, hz1, hsp⟩ := tab2 htab
    refine S_catch C0 w (rest := [.int 0, .ref o]) (pre := [z0]) (x := z1) (suf := []) 0 (wU_at (by decide)) rfl (x_N_look_IllegalStateException l htl D ct q h) wd_695 wd_692 wd_693 wd_694 wd_1 (n9 := 2) (by decide +kernel) rfl ⟨(Nat.le_of_ble_eq_true rfl), (Nat.le_of_ble_eq_true rfl)⟩ hl.1 rfl (Nat.le_of_ble_eq_true rfl) d_L_look_5 (Nat.le_of_ble_eq_true rfl) (Nat.le_of_ble_eq_true rfl) hsp (fun z hz => by rw [List.mem_singleton.mp hz, ct_eq hz0]; exact ⟨by decide, "java/util/NoSuchElementException", wd_691, by decide⟩) (by rw [cov_eq hz1]; decide) (by rw [ct_eq hz1]; decide) (by rw [ct_eq hz1]; exact wd_388) (by decide) (fun q9 H locs w => ?_)
    rw [hpc_eq hz1]
    refine W.cs (cells' := 1) (slots' := 6) rfl rfl ?_
    have w : Wd D A s ([(o, .inl (ct 2, 1, .inr (.inl f)))] ++ wX ct q Mz) H _ := w
    refine lv_astore hx hb d_L_look_17 hl (by decide) rfl (fun ls hl => ?_)
    have hl : lv_has ls 5 [(4, .ref q9), (0, .ref (q 0)), (1, .int x1), (2, .int x2), (3, .ref o)] := hl
    refine lv_iconst (v := 2) hx hb d_L_look_19 (by decide) ?_
    exact hret _ _ _ _ d_L_look_20 w
set_option maxHeartbeats 1000000 in
set_option maxRecDepth 20000 in
theorem h_phi (l : Launch) (htl : l.stackTraces = false) (D : va_G) (ct : Nat → ClassId) (q : Nat → Nat) (o : Nat) (f : Nat → Int64) {x1 x2 x3 : Int32} {M Mz : Sto} {rz : Int32} {cz : Nat} (h : m_N_phi x1 x2 x3 M = some (cz, rz, Mz)) (hcz : cz ∈ [0, 3, 2]) : KH l D ct y_L_phi b_L_phi 6 [(0, 12, 15, 40), (0, 12, 19, 13)] 7 114 [.ref (q 0), .int x1, .int x2, .int x3, .ref o] ([(o, .inl (ct 2, 1, .inr (.inl f)))] ++ wX ct q M) (kc 3 cz) ([(o, .inl (ct 2, 1, .inr (.inl (fo cz rz f))))] ++ wX ct q Mz) := by
  simp only [List.mem_cons, List.not_mem_nil, or_false] at hcz
  rcases hcz with rfl | rfl | rfl
  · refine KH.ofW (by decide) (Nat.le_of_ble_eq_true rfl) ?_
    intro p e s m args below meth c A Q ls C0 htab hl w hret
    have hx := C0.1
    have hb := C0.2.1
    have hl : lv_has ls 6 [(0, .ref (q 0)), (1, .int x1), (2, .int x2), (3, .int x3), (4, .ref o)] := hl
    refine lv_aload hx hb d_L_phi_0 (lv_at hl 4 rfl) ?_
    refine lv_iconst (v := 0) hx hb d_L_phi_2 (by decide) ?_
    refine lv_aload_n hx hb d_L_phi_3 rfl (lv_at hl 0 rfl) ?_
    refine lv_iload_n hx hb d_L_phi_4 rfl (lv_at hl 1 rfl) ?_
    refine lv_iload_n hx hb d_L_phi_5 rfl (lv_at hl 2 rfl) ?_
    refine lv_iload_n hx hb d_L_phi_6 rfl (lv_at hl 3 rfl) ?_
    refine S_vi C0 w (rest := [.int 0, .ref o]) 0 (wU_at (by decide)) rfl (c_N_phi l D ct q h) wd_726 wd_723 wd_724 wd_725 wd_1 (n9 := 3) (by decide +kernel) rfl ⟨(Nat.le_of_ble_eq_true rfl), (Nat.le_of_ble_eq_true rfl)⟩ hl.1 rfl (Nat.le_of_ble_eq_true rfl) d_L_phi_7 (Nat.le_of_ble_eq_true rfl) (Nat.le_of_ble_eq_true rfl) (fun H locs w => ?_)
    have w : Wd D A s ([(o, .inl (ct 2, 1, .inr (.inl f)))] ++ wX ct q Mz) H _ := w
    refine lv_i2l (v := rz.toInt64) hx hb d_L_phi_10 rfl ?_
    refine R_last C0 w 0 rfl (vin (by decide)) d_L_phi_11 (fun H locs w => ?_)
    have w : Wd D A s ([(o, .inl (ct 2, 1, .inr (.inl (vp_updL f (0 : Int32).toNatClampNeg rz.toInt64))))] ++ wX ct q Mz) H _ := w
    refine lv_goto (tgt := 23) hx hb d_L_phi_12 (by decide) ?_
    refine lv_iconst (v := 0) hx hb d_L_phi_23 (by decide) ?_
    refine W.widen (k := 1) (n := 6) (by decide) (by decide) ?_
    exact hret _ _ _ _ d_L_phi_24 w
  · refine KH.ofW (by decide) (Nat.le_of_ble_eq_true rfl) ?_
    intro p e s m args below meth c A Q ls C0 htab hl w hret
    have hx := C0.1
    have hb := C0.2.1
    have hl : lv_has ls 6 [(0, .ref (q 0)), (1, .int x1), (2, .int x2), (3, .int x3), (4, .ref o)] := hl
    refine lv_aload hx hb d_L_phi_0 (lv_at hl 4 rfl) ?_
    refine lv_iconst (v := 0) hx hb d_L_phi_2 (by decide) ?_
    refine lv_aload_n hx hb d_L_phi_3 rfl (lv_at hl 0 rfl) ?_
    refine lv_iload_n hx hb d_L_phi_4 rfl (lv_at hl 1 rfl) ?_
    refine lv_iload_n hx hb d_L_phi_5 rfl (lv_at hl 2 rfl) ?_
    refine lv_iload_n hx hb d_L_phi_6 rfl (lv_at hl 3 rfl) ?_
    obtain ⟨z0, hz0, z1, hz1, hsp⟩ := tab2 htab
    refine S_catch C0 w (rest := [.int 0, .ref o]) (pre := []) (x := z0) (suf := [z1]) 0 (wU_at (by decide)) rfl (x_N_phi_NoSuchElementException l htl D ct q h) wd_726 wd_723 wd_724 wd_725 wd_1 (n9 := 3) (by decide +kernel) rfl ⟨(Nat.le_of_ble_eq_true rfl), (Nat.le_of_ble_eq_true rfl)⟩ hl.1 rfl (Nat.le_of_ble_eq_true rfl) d_L_phi_7 (Nat.le_of_ble_eq_true rfl) (Nat.le_of_ble_eq_true rfl) hsp (fun z hz => by cases hz) (by rw [cov_eq hz0]; decide) (by rw [ct_eq hz0]; decide) (by rw [ct_eq hz0]; exact wd_691) (by decide) (fun q9 H locs w => ?_)
    rw [hpc_eq hz0]
    refine W.cs (cells' := 1) (slots' := 6) rfl rfl ?_
    have w : Wd D A s ([(o, .inl (ct 2, 1, .inr (.inl f)))] ++ wX ct q Mz) H _ := w
    refine lv_astore hx hb d_L_phi_15 hl (by decide) rfl (fun ls hl => ?_)
    have hl : lv_has ls 6 [(5, .ref q9), (0, .ref (q 0)), (1, .int x1), (2, .int x2), (3, .int x3), (4, .ref o)] := hl
    refine lv_iconst (v := 1) hx hb d_L_phi_17 (by decide) ?_
    exact hret _ _ _ _ d_L_phi_18 w
  · refine KH.ofW (by decide) (Nat.le_of_ble_eq_true rfl) ?_
    intro p e s m args below meth c A Q ls C0 htab hl w hret
    have hx := C0.1
    have hb := C0.2.1
    have hl : lv_has ls 6 [(0, .ref (q 0)), (1, .int x1), (2, .int x2), (3, .int x3), (4, .ref o)] := hl
    refine lv_aload hx hb d_L_phi_0 (lv_at hl 4 rfl) ?_
    refine lv_iconst (v := 0) hx hb d_L_phi_2 (by decide) ?_
    refine lv_aload_n hx hb d_L_phi_3 rfl (lv_at hl 0 rfl) ?_
    refine lv_iload_n hx hb d_L_phi_4 rfl (lv_at hl 1 rfl) ?_
    refine lv_iload_n hx hb d_L_phi_5 rfl (lv_at hl 2 rfl) ?_
    refine lv_iload_n hx hb d_L_phi_6 rfl (lv_at hl 3 rfl) ?_
    obtain ⟨z0, hz0, z1, hz1, hsp⟩ := tab2 htab
    refine S_catch C0 w (rest := [.int 0, .ref o]) (pre := [z0]) (x := z1) (suf := []) 0 (wU_at (by decide)) rfl (x_N_phi_IllegalStateException l htl D ct q h) wd_726 wd_723 wd_724 wd_725 wd_1 (n9 := 3) (by decide +kernel) rfl ⟨(Nat.le_of_ble_eq_true rfl), (Nat.le_of_ble_eq_true rfl)⟩ hl.1 rfl (Nat.le_of_ble_eq_true rfl) d_L_phi_7 (Nat.le_of_ble_eq_true rfl) (Nat.le_of_ble_eq_true rfl) hsp (fun z hz => by rw [List.mem_singleton.mp hz, ct_eq hz0]; exact ⟨by decide, "java/util/NoSuchElementException", wd_691, by decide⟩) (by rw [cov_eq hz1]; decide) (by rw [ct_eq hz1]; decide) (by rw [ct_eq hz1]; exact wd_388) (by decide) (fun q9 H locs w => ?_)
    rw [hpc_eq hz1]
    refine W.cs (cells' := 1) (slots' := 6) rfl rfl ?_
    have w : Wd D A s ([(o, .inl (ct 2, 1, .inr (.inl f)))] ++ wX ct q Mz) H _ := w
    refine lv_astore hx hb d_L_phi_19 hl (by decide) rfl (fun ls hl => ?_)
    have hl : lv_has ls 6 [(5, .ref q9), (0, .ref (q 0)), (1, .int x1), (2, .int x2), (3, .int x3), (4, .ref o)] := hl
    refine lv_iconst (v := 2) hx hb d_L_phi_21 (by decide) ?_
    exact hret _ _ _ _ d_L_phi_22 w
set_option maxHeartbeats 1000000 in
set_option maxRecDepth 20000 in
theorem h_uses (l : Launch) (htl : l.stackTraces = false) (D : va_G) (ct : Nat → ClassId) (q : Nat → Nat) (o : Nat) (f : Nat → Int64) {x1 x2 x3 : Int32} {M Mz : Sto} {rz : Int32} {cz : Nat} (h : m_N_uses x1 x2 x3 M = some (cz, rz, Mz)) (hcz : cz ∈ [0, 3, 2]) : KH l D ct y_L_uses b_L_uses 6 [(0, 12, 15, 40), (0, 12, 19, 13)] 7 113 [.ref (q 0), .int x1, .int x2, .int x3, .ref o] ([(o, .inl (ct 2, 1, .inr (.inl f)))] ++ wX ct q M) (kc 3 cz) ([(o, .inl (ct 2, 1, .inr (.inl (fo cz rz f))))] ++ wX ct q Mz) := by
  simp only [List.mem_cons, List.not_mem_nil, or_false] at hcz
  rcases hcz with rfl | rfl | rfl
  · refine KH.ofW (by decide) (Nat.le_of_ble_eq_true rfl) ?_
    intro p e s m args below meth c A Q ls C0 htab hl w hret
    have hx := C0.1
    have hb := C0.2.1
    have hl : lv_has ls 6 [(0, .ref (q 0)), (1, .int x1), (2, .int x2), (3, .int x3), (4, .ref o)] := hl
    refine lv_aload hx hb d_L_uses_0 (lv_at hl 4 rfl) ?_
    refine lv_iconst (v := 0) hx hb d_L_uses_2 (by decide) ?_
    refine lv_aload_n hx hb d_L_uses_3 rfl (lv_at hl 0 rfl) ?_
    refine lv_iload_n hx hb d_L_uses_4 rfl (lv_at hl 1 rfl) ?_
    refine lv_iload_n hx hb d_L_uses_5 rfl (lv_at hl 2 rfl) ?_
    refine lv_iload_n hx hb d_L_uses_6 rfl (lv_at hl 3 rfl) ?_
    refine S_vi C0 w (rest := [.int 0, .ref o]) 0 (wU_at (by decide)) rfl (c_N_uses l D ct q h) wd_742 wd_739 wd_740 wd_741 wd_1 (n9 := 3) (by decide +kernel) rfl ⟨(Nat.le_of_ble_eq_true rfl), (Nat.le_of_ble_eq_true rfl)⟩ hl.1 rfl (Nat.le_of_ble_eq_true rfl) d_L_uses_7 (Nat.le_of_ble_eq_true rfl) (Nat.le_of_ble_eq_true rfl) (fun H locs w => ?_)
    have w : Wd D A s ([(o, .inl (ct 2, 1, .inr (.inl f)))] ++ wX ct q Mz) H _ := w
    refine lv_i2l (v := rz.toInt64) hx hb d_L_uses_10 rfl ?_
    refine R_last C0 w 0 rfl (vin (by decide)) d_L_uses_11 (fun H locs w => ?_)
    have w : Wd D A s ([(o, .inl (ct 2, 1, .inr (.inl (vp_updL f (0 : Int32).toNatClampNeg rz.toInt64))))] ++ wX ct q Mz) H _ := w
    refine lv_goto (tgt := 23) hx hb d_L_uses_12 (by decide) ?_
    refine lv_iconst (v := 0) hx hb d_L_uses_23 (by decide) ?_
    refine W.widen (k := 1) (n := 6) (by decide) (by decide) ?_
    exact hret _ _ _ _ d_L_uses_24 w
  · refine KH.ofW (by decide) (Nat.le_of_ble_eq_true rfl) ?_
    intro p e s m args below meth c A Q ls C0 htab hl w hret
    have hx := C0.1
    have hb := C0.2.1
    have hl : lv_has ls 6 [(0, .ref (q 0)), (1, .int x1), (2, .int x2), (3, .int x3), (4, .ref o)] := hl
    refine lv_aload hx hb d_L_uses_0 (lv_at hl 4 rfl) ?_
    refine lv_iconst (v := 0) hx hb d_L_uses_2 (by decide) ?_
    refine lv_aload_n hx hb d_L_uses_3 rfl (lv_at hl 0 rfl) ?_
    refine lv_iload_n hx hb d_L_uses_4 rfl (lv_at hl 1 rfl) ?_
    refine lv_iload_n hx hb d_L_uses_5 rfl (lv_at hl 2 rfl) ?_
    refine lv_iload_n hx hb d_L_uses_6 rfl (lv_at hl 3 rfl) ?_
    obtain ⟨z0, hz0, z1, hz1, hsp⟩ := tab2 htab
    refine S_catch C0 w (rest := [.int 0, .ref o]) (pre := []) (x := z0) (suf := [z1]) 0 (wU_at (by decide)) rfl (x_N_uses_NoSuchElementException l htl D ct q h) wd_742 wd_739 wd_740 wd_741 wd_1 (n9 := 3) (by decide +kernel) rfl ⟨(Nat.le_of_ble_eq_true rfl), (Nat.le_of_ble_eq_true rfl)⟩ hl.1 rfl (Nat.le_of_ble_eq_true rfl) d_L_uses_7 (Nat.le_of_ble_eq_true rfl) (Nat.le_of_ble_eq_true rfl) hsp (fun z hz => by cases hz) (by rw [cov_eq hz0]; decide) (by rw [ct_eq hz0]; decide) (by rw [ct_eq hz0]; exact wd_691) (by decide) (fun q9 H locs w => ?_)
    rw [hpc_eq hz0]
    refine W.cs (cells' := 1) (slots' := 6) rfl rfl ?_
    have w : Wd D A s ([(o, .inl (ct 2, 1, .inr (.inl f)))] ++ wX ct q Mz) H _ := w
    refine lv_astore hx hb d_L_uses_15 hl (by decide) rfl (fun ls hl => ?_)
    have hl : lv_has ls 6 [(5, .ref q9), (0, .ref (q 0)), (1, .int x1), (2, .int x2), (3, .int x3), (4, .ref o)] := hl
    refine lv_iconst (v := 1) hx hb d_L_uses_17 (by decide) ?_
    exact hret _ _ _ _ d_L_uses_18 w
  · refine KH.ofW (by decide) (Nat.le_of_ble_eq_true rfl) ?_
    intro p e s m args below meth c A Q ls C0 htab hl w hret
    have hx := C0.1
    have hb := C0.2.1
    have hl : lv_has ls 6 [(0, .ref (q 0)), (1, .int x1), (2, .int x2), (3, .int x3), (4, .ref o)] := hl
    refine lv_aload hx hb d_L_uses_0 (lv_at hl 4 rfl) ?_
    refine lv_iconst (v := 0) hx hb d_L_uses_2 (by decide) ?_
    refine lv_aload_n hx hb d_L_uses_3 rfl (lv_at hl 0 rfl) ?_
    refine lv_iload_n hx hb d_L_uses_4 rfl (lv_at hl 1 rfl) ?_
    refine lv_iload_n hx hb d_L_uses_5 rfl (lv_at hl 2 rfl) ?_
    refine lv_iload_n hx hb d_L_uses_6 rfl (lv_at hl 3 rfl) ?_
    obtain ⟨z0, hz0, z1, hz1, hsp⟩ := tab2 htab
    refine S_catch C0 w (rest := [.int 0, .ref o]) (pre := [z0]) (x := z1) (suf := []) 0 (wU_at (by decide)) rfl (x_N_uses_IllegalStateException l htl D ct q h) wd_742 wd_739 wd_740 wd_741 wd_1 (n9 := 3) (by decide +kernel) rfl ⟨(Nat.le_of_ble_eq_true rfl), (Nat.le_of_ble_eq_true rfl)⟩ hl.1 rfl (Nat.le_of_ble_eq_true rfl) d_L_uses_7 (Nat.le_of_ble_eq_true rfl) (Nat.le_of_ble_eq_true rfl) hsp (fun z hz => by rw [List.mem_singleton.mp hz, ct_eq hz0]; exact ⟨by decide, "java/util/NoSuchElementException", wd_691, by decide⟩) (by rw [cov_eq hz1]; decide) (by rw [ct_eq hz1]; decide) (by rw [ct_eq hz1]; exact wd_388) (by decide) (fun q9 H locs w => ?_)
    rw [hpc_eq hz1]
    refine W.cs (cells' := 1) (slots' := 6) rfl rfl ?_
    have w : Wd D A s ([(o, .inl (ct 2, 1, .inr (.inl f)))] ++ wX ct q Mz) H _ := w
    refine lv_astore hx hb d_L_uses_19 hl (by decide) rfl (fun ls hl => ?_)
    have hl : lv_has ls 6 [(5, .ref q9), (0, .ref (q 0)), (1, .int x1), (2, .int x2), (3, .int x3), (4, .ref o)] := hl
    refine lv_iconst (v := 2) hx hb d_L_uses_21 (by decide) ?_
    exact hret _ _ _ _ d_L_uses_22 w
set_option maxHeartbeats 1000000 in
set_option maxRecDepth 20000 in
theorem h_name (l : Launch) (htl : l.stackTraces = false) (D : va_G) (ct : Nat → ClassId) (q : Nat → Nat) (o : Nat) (f : Nat → Int64) {x1 x2 : Int32} {M Mz : Sto} {rz : Int32} {cz : Nat} (h : m_N_name x1 x2 M = some (cz, rz, Mz)) (hcz : cz ∈ [0, 3, 2]) : KH l D ct y_L_name b_L_name 5 [(0, 10, 13, 40), (0, 10, 17, 13)] 7 112 [.ref (q 0), .int x1, .int x2, .ref o] ([(o, .inl (ct 2, 1, .inr (.inl f)))] ++ wX ct q M) (kc 3 cz) ([(o, .inl (ct 2, 1, .inr (.inl (fo cz rz f))))] ++ wX ct q Mz) := by
  simp only [List.mem_cons, List.not_mem_nil, or_false] at hcz
  rcases hcz with rfl | rfl | rfl
  · refine KH.ofW (by decide) (Nat.le_of_ble_eq_true rfl) ?_
    intro p e s m args below meth c A Q ls C0 htab hl w hret
    have hx := C0.1
    have hb := C0.2.1
    have hl : lv_has ls 5 [(0, .ref (q 0)), (1, .int x1), (2, .int x2), (3, .ref o)] := hl
    refine lv_aload_n hx hb d_L_name_0 rfl (lv_at hl 3 rfl) ?_
    refine lv_iconst (v := 0) hx hb d_L_name_1 (by decide) ?_
    refine lv_aload_n hx hb d_L_name_2 rfl (lv_at hl 0 rfl) ?_
    refine lv_iload_n hx hb d_L_name_3 rfl (lv_at hl 1 rfl) ?_
    refine lv_iload_n hx hb d_L_name_4 rfl (lv_at hl 2 rfl) ?_
    refine S_vi C0 w (rest := [.int 0, .ref o]) 0 (wU_at (by decide)) rfl (c_N_name l D ct q h) wd_754 wd_751 wd_752 wd_753 wd_1 (n9 := 2) (by decide +kernel) rfl ⟨(Nat.le_of_ble_eq_true rfl), (Nat.le_of_ble_eq_true rfl)⟩ hl.1 rfl (Nat.le_of_ble_eq_true rfl) d_L_name_5 (Nat.le_of_ble_eq_true rfl) (Nat.le_of_ble_eq_true rfl) (fun H locs w => ?_)
    have w : Wd D A s ([(o, .inl (ct 2, 1, .inr (.inl f)))] ++ wX ct q Mz) H _ := w
    refine lv_i2l (v := rz.toInt64) hx hb d_L_name_8 rfl ?_
    refine R_last C0 w 0 rfl (vin (by decide)) d_L_name_9 (fun H locs w => ?_)
    have w : Wd D A s ([(o, .inl (ct 2, 1, .inr (.inl (vp_updL f (0 : Int32).toNatClampNeg rz.toInt64))))] ++ wX ct q Mz) H _ := w
    refine lv_goto (tgt := 21) hx hb d_L_name_10 (by decide) ?_
    refine lv_iconst (v := 0) hx hb d_L_name_21 (by decide) ?_
    refine W.widen (k := 1) (n := 6) (by decide) (by decide) ?_
    exact hret _ _ _ _ d_L_name_22 w
  · refine KH.ofW (by decide) (Nat.le_of_ble_eq_true rfl) ?_
    intro p e s m args below meth c A Q ls C0 htab hl w hret
    have hx := C0.1
    have hb := C0.2.1
    have hl : lv_has ls 5 [(0, .ref (q 0)), (1, .int x1), (2, .int x2), (3, .ref o)] := hl
    refine lv_aload_n hx hb d_L_name_0 rfl (lv_at hl 3 rfl) ?_
    refine lv_iconst (v := 0) hx hb d_L_name_1 (by decide) ?_
    refine lv_aload_n hx hb d_L_name_2 rfl (lv_at hl 0 rfl) ?_
    refine lv_iload_n hx hb d_L_name_3 rfl (lv_at hl 1 rfl) ?_
    refine lv_iload_n hx hb d_L_name_4 rfl (lv_at hl 2 rfl) ?_
    obtain ⟨z0, hz0, z1, hz1, hsp⟩ := tab2 htab
    refine S_catch C0 w (rest := [.int 0, .ref o]) (pre := []) (x := z0) (suf := [z1]) 0 (wU_at (by decide)) rfl (x_N_name_NoSuchElementException l htl D ct q h) wd_754 wd_751 wd_752 wd_753 wd_1 (n9 := 2) (by decide +kernel) rfl ⟨(Nat.le_of_ble_eq_true rfl), (Nat.le_of_ble_eq_true rfl)⟩ hl.1 rfl (Nat.le_of_ble_eq_true rfl) d_L_name_5 (Nat.le_of_ble_eq_true rfl) (Nat.le_of_ble_eq_true rfl) hsp (fun z hz => by cases hz) (by rw [cov_eq hz0]; decide) (by rw [ct_eq hz0]; decide) (by rw [ct_eq hz0]; exact wd_691) (by decide) (fun q9 H locs w => ?_)
    rw [hpc_eq hz0]
    refine W.cs (cells' := 1) (slots' := 6) rfl rfl ?_
    have w : Wd D A s ([(o, .inl (ct 2, 1, .inr (.inl f)))] ++ wX ct q Mz) H _ := w
    refine lv_astore hx hb d_L_name_13 hl (by decide) rfl (fun ls hl => ?_)
    have hl : lv_has ls 5 [(4, .ref q9), (0, .ref (q 0)), (1, .int x1), (2, .int x2), (3, .ref o)] := hl
    refine lv_iconst (v := 1) hx hb d_L_name_15 (by decide) ?_
    exact hret _ _ _ _ d_L_name_16 w
  · refine KH.ofW (by decide) (Nat.le_of_ble_eq_true rfl) ?_
    intro p e s m args below meth c A Q ls C0 htab hl w hret
    have hx := C0.1
    have hb := C0.2.1
    have hl : lv_has ls 5 [(0, .ref (q 0)), (1, .int x1), (2, .int x2), (3, .ref o)] := hl
    refine lv_aload_n hx hb d_L_name_0 rfl (lv_at hl 3 rfl) ?_
    refine lv_iconst (v := 0) hx hb d_L_name_1 (by decide) ?_
    refine lv_aload_n hx hb d_L_name_2 rfl (lv_at hl 0 rfl) ?_
    refine lv_iload_n hx hb d_L_name_3 rfl (lv_at hl 1 rfl) ?_
    refine lv_iload_n hx hb d_L_name_4 rfl (lv_at hl 2 rfl) ?_
    obtain ⟨z0, hz0, z1, hz1, hsp⟩ := tab2 htab
    refine S_catch C0 w (rest := [.int 0, .ref o]) (pre := [z0]) (x := z1) (suf := []) 0 (wU_at (by decide)) rfl (x_N_name_IllegalStateException l htl D ct q h) wd_754 wd_751 wd_752 wd_753 wd_1 (n9 := 2) (by decide +kernel) rfl ⟨(Nat.le_of_ble_eq_true rfl), (Nat.le_of_ble_eq_true rfl)⟩ hl.1 rfl (Nat.le_of_ble_eq_true rfl) d_L_name_5 (Nat.le_of_ble_eq_true rfl) (Nat.le_of_ble_eq_true rfl) hsp (fun z hz => by rw [List.mem_singleton.mp hz, ct_eq hz0]; exact ⟨by decide, "java/util/NoSuchElementException", wd_691, by decide⟩) (by rw [cov_eq hz1]; decide) (by rw [ct_eq hz1]; decide) (by rw [ct_eq hz1]; exact wd_388) (by decide) (fun q9 H locs w => ?_)
    rw [hpc_eq hz1]
    refine W.cs (cells' := 1) (slots' := 6) rfl rfl ?_
    have w : Wd D A s ([(o, .inl (ct 2, 1, .inr (.inl f)))] ++ wX ct q Mz) H _ := w
    refine lv_astore hx hb d_L_name_17 hl (by decide) rfl (fun ls hl => ?_)
    have hl : lv_has ls 5 [(4, .ref q9), (0, .ref (q 0)), (1, .int x1), (2, .int x2), (3, .ref o)] := hl
    refine lv_iconst (v := 2) hx hb d_L_name_19 (by decide) ?_
    exact hret _ _ _ _ d_L_name_20 w
set_option maxHeartbeats 1000000 in
set_option maxRecDepth 20000 in
theorem h_run (l : Launch) (htl : l.stackTraces = false) (D : va_G) (ct : Nat → ClassId) (q : Nat → Nat) (o : Nat) (f : Nat → Int64) {x1 x2 : Int32} {M Mz : Sto} {rz : Int32} {cz : Nat} (h : m_N_run x1 x2 M = some (cz, rz, Mz)) (hcz : cz ∈ [0, 1, 2]) : KH l D ct y_L_run b_L_run 5 [(0, 10, 13, 19), (0, 10, 17, 13)] 7 139 [.ref (q 0), .int x1, .int x2, .ref o] ([(o, .inl (ct 2, 1, .inr (.inl f)))] ++ wX ct q M) (kc 1 cz) ([(o, .inl (ct 2, 1, .inr (.inl (fo cz rz f))))] ++ wX ct q Mz) := by
  simp only [List.mem_cons, List.not_mem_nil, or_false] at hcz
  rcases hcz with rfl | rfl | rfl
  · refine KH.ofW (by decide) (Nat.le_of_ble_eq_true rfl) ?_
    intro p e s m args below meth c A Q ls C0 htab hl w hret
    have hx := C0.1
    have hb := C0.2.1
    have hl : lv_has ls 5 [(0, .ref (q 0)), (1, .int x1), (2, .int x2), (3, .ref o)] := hl
    refine lv_aload_n hx hb d_L_run_0 rfl (lv_at hl 3 rfl) ?_
    refine lv_iconst (v := 0) hx hb d_L_run_1 (by decide) ?_
    refine lv_aload_n hx hb d_L_run_2 rfl (lv_at hl 0 rfl) ?_
    refine lv_iload_n hx hb d_L_run_3 rfl (lv_at hl 1 rfl) ?_
    refine lv_iload_n hx hb d_L_run_4 rfl (lv_at hl 2 rfl) ?_
    refine S_vi C0 w (rest := [.int 0, .ref o]) 0 (wU_at (by decide)) rfl (c_N_run l D ct q h) wd_762 wd_759 wd_760 wd_761 wd_1 (n9 := 2) (by decide +kernel) rfl ⟨(Nat.le_of_ble_eq_true rfl), (Nat.le_of_ble_eq_true rfl)⟩ hl.1 rfl (Nat.le_of_ble_eq_true rfl) d_L_run_5 (Nat.le_of_ble_eq_true rfl) (Nat.le_of_ble_eq_true rfl) (fun H locs w => ?_)
    have w : Wd D A s ([(o, .inl (ct 2, 1, .inr (.inl f)))] ++ wX ct q Mz) H _ := w
    refine lv_i2l (v := rz.toInt64) hx hb d_L_run_8 rfl ?_
    refine R_last C0 w 0 rfl (vin (by decide)) d_L_run_9 (fun H locs w => ?_)
    have w : Wd D A s ([(o, .inl (ct 2, 1, .inr (.inl (vp_updL f (0 : Int32).toNatClampNeg rz.toInt64))))] ++ wX ct q Mz) H _ := w
    refine lv_goto (tgt := 21) hx hb d_L_run_10 (by decide) ?_
    refine lv_iconst (v := 0) hx hb d_L_run_21 (by decide) ?_
    refine W.widen (k := 1) (n := 6) (by decide) (by decide) ?_
    exact hret _ _ _ _ d_L_run_22 w
  · refine KH.ofW (by decide) (Nat.le_of_ble_eq_true rfl) ?_
    intro p e s m args below meth c A Q ls C0 htab hl w hret
    have hx := C0.1
    have hb := C0.2.1
    have hl : lv_has ls 5 [(0, .ref (q 0)), (1, .int x1), (2, .int x2), (3, .ref o)] := hl
    refine lv_aload_n hx hb d_L_run_0 rfl (lv_at hl 3 rfl) ?_
    refine lv_iconst (v := 0) hx hb d_L_run_1 (by decide) ?_
    refine lv_aload_n hx hb d_L_run_2 rfl (lv_at hl 0 rfl) ?_
    refine lv_iload_n hx hb d_L_run_3 rfl (lv_at hl 1 rfl) ?_
    refine lv_iload_n hx hb d_L_run_4 rfl (lv_at hl 2 rfl) ?_
    obtain ⟨z0, hz0, z1, hz1, hsp⟩ := tab2 htab
    refine S_catch C0 w (rest := [.int 0, .ref o]) (pre := []) (x := z0) (suf := [z1]) 0 (wU_at (by decide)) rfl (x_N_run_IllegalArgumentException l htl D ct q h) wd_762 wd_759 wd_760 wd_761 wd_1 (n9 := 2) (by decide +kernel) rfl ⟨(Nat.le_of_ble_eq_true rfl), (Nat.le_of_ble_eq_true rfl)⟩ hl.1 rfl (Nat.le_of_ble_eq_true rfl) d_L_run_5 (Nat.le_of_ble_eq_true rfl) (Nat.le_of_ble_eq_true rfl) hsp (fun z hz => by cases hz) (by rw [cov_eq hz0]; decide) (by rw [ct_eq hz0]; decide) (by rw [ct_eq hz0]; exact wd_472) (by decide) (fun q9 H locs w => ?_)
    rw [hpc_eq hz0]
    refine W.cs (cells' := 1) (slots' := 6) rfl rfl ?_
    have w : Wd D A s ([(o, .inl (ct 2, 1, .inr (.inl f)))] ++ wX ct q Mz) H _ := w
    refine lv_astore hx hb d_L_run_13 hl (by decide) rfl (fun ls hl => ?_)
    have hl : lv_has ls 5 [(4, .ref q9), (0, .ref (q 0)), (1, .int x1), (2, .int x2), (3, .ref o)] := hl
    refine lv_iconst (v := 1) hx hb d_L_run_15 (by decide) ?_
    exact hret _ _ _ _ d_L_run_16 w
  · refine KH.ofW (by decide) (Nat.le_of_ble_eq_true rfl) ?_
    intro p e s m args below meth c A Q ls C0 htab hl w hret
    have hx := C0.1
    have hb := C0.2.1
    have hl : lv_has ls 5 [(0, .ref (q 0)), (1, .int x1), (2, .int x2), (3, .ref o)] := hl
    refine lv_aload_n hx hb d_L_run_0 rfl (lv_at hl 3 rfl) ?_
    refine lv_iconst (v := 0) hx hb d_L_run_1 (by decide) ?_
    refine lv_aload_n hx hb d_L_run_2 rfl (lv_at hl 0 rfl) ?_
    refine lv_iload_n hx hb d_L_run_3 rfl (lv_at hl 1 rfl) ?_
    refine lv_iload_n hx hb d_L_run_4 rfl (lv_at hl 2 rfl) ?_
    obtain ⟨z0, hz0, z1, hz1, hsp⟩ := tab2 htab
    refine S_catch C0 w (rest := [.int 0, .ref o]) (pre := [z0]) (x := z1) (suf := []) 0 (wU_at (by decide)) rfl (x_N_run_IllegalStateException l htl D ct q h) wd_762 wd_759 wd_760 wd_761 wd_1 (n9 := 2) (by decide +kernel) rfl ⟨(Nat.le_of_ble_eq_true rfl), (Nat.le_of_ble_eq_true rfl)⟩ hl.1 rfl (Nat.le_of_ble_eq_true rfl) d_L_run_5 (Nat.le_of_ble_eq_true rfl) (Nat.le_of_ble_eq_true rfl) hsp (fun z hz => by rw [List.mem_singleton.mp hz, ct_eq hz0]; exact ⟨by decide, "java/lang/IllegalArgumentException", wd_472, by decide⟩) (by rw [cov_eq hz1]; decide) (by rw [ct_eq hz1]; decide) (by rw [ct_eq hz1]; exact wd_388) (by decide) (fun q9 H locs w => ?_)
    rw [hpc_eq hz1]
    refine W.cs (cells' := 1) (slots' := 6) rfl rfl ?_
    have w : Wd D A s ([(o, .inl (ct 2, 1, .inr (.inl f)))] ++ wX ct q Mz) H _ := w
    refine lv_astore hx hb d_L_run_17 hl (by decide) rfl (fun ls hl => ?_)
    have hl : lv_has ls 5 [(4, .ref q9), (0, .ref (q 0)), (1, .int x1), (2, .int x2), (3, .ref o)] := hl
    refine lv_iconst (v := 2) hx hb d_L_run_19 (by decide) ?_
    exact hret _ _ _ _ d_L_run_20 w
set_option maxHeartbeats 1000000 in
set_option maxRecDepth 20000 in
theorem h_heard (l : Launch) (htl : l.stackTraces = false) (D : va_G) (ct : Nat → ClassId) (q : Nat → Nat) (o : Nat) (f : Nat → Int64) {x1 : Int32} {M Mz : Sto} {rz : Int32} {cz : Nat} (h : m_N_heard x1 M = some (cz, rz, Mz)) (hcz : cz ∈ [0, 3]) : KH l D ct y_L_heard b_L_heard 4 [(0, 9, 12, 40)] 7 111 [.ref (q 0), .int x1, .ref o] ([(o, .inl (ct 2, 1, .inr (.inl f)))] ++ wX ct q M) (kc 3 cz) ([(o, .inl (ct 2, 1, .inr (.inl (fo cz rz f))))] ++ wX ct q Mz) := by
  simp only [List.mem_cons, List.not_mem_nil, or_false] at hcz
  rcases hcz with rfl | rfl
  · refine KH.ofW (by decide) (Nat.le_of_ble_eq_true rfl) ?_
    intro p e s m args below meth c A Q ls C0 htab hl w hret
    have hx := C0.1
    have hb := C0.2.1
    have hl : lv_has ls 4 [(0, .ref (q 0)), (1, .int x1), (2, .ref o)] := hl
    refine lv_aload_n hx hb d_L_heard_0 rfl (lv_at hl 2 rfl) ?_
    refine lv_iconst (v := 0) hx hb d_L_heard_1 (by decide) ?_
    refine lv_aload_n hx hb d_L_heard_2 rfl (lv_at hl 0 rfl) ?_
    refine lv_iload_n hx hb d_L_heard_3 rfl (lv_at hl 1 rfl) ?_
    refine S_vi C0 w (rest := [.int 0, .ref o]) 0 (wU_at (by decide)) rfl (c_N_heard l D ct q h) wd_820 wd_817 wd_818 wd_819 wd_1 (n9 := 1) (by decide +kernel) rfl ⟨(Nat.le_of_ble_eq_true rfl), (Nat.le_of_ble_eq_true rfl)⟩ hl.1 rfl (Nat.le_of_ble_eq_true rfl) d_L_heard_4 (Nat.le_of_ble_eq_true rfl) (Nat.le_of_ble_eq_true rfl) (fun H locs w => ?_)
    have w : Wd D A s ([(o, .inl (ct 2, 1, .inr (.inl f)))] ++ wX ct q Mz) H _ := w
    refine lv_i2l (v := rz.toInt64) hx hb d_L_heard_7 rfl ?_
    refine R_last C0 w 0 rfl (vin (by decide)) d_L_heard_8 (fun H locs w => ?_)
    have w : Wd D A s ([(o, .inl (ct 2, 1, .inr (.inl (vp_updL f (0 : Int32).toNatClampNeg rz.toInt64))))] ++ wX ct q Mz) H _ := w
    refine lv_goto (tgt := 15) hx hb d_L_heard_9 (by decide) ?_
    refine lv_iconst (v := 0) hx hb d_L_heard_15 (by decide) ?_
    refine W.widen (k := 1) (n := 6) (by decide) (by decide) ?_
    exact hret _ _ _ _ d_L_heard_16 w
  · refine KH.ofW (by decide) (Nat.le_of_ble_eq_true rfl) ?_
    intro p e s m args below meth c A Q ls C0 htab hl w hret
    have hx := C0.1
    have hb := C0.2.1
    have hl : lv_has ls 4 [(0, .ref (q 0)), (1, .int x1), (2, .ref o)] := hl
    refine lv_aload_n hx hb d_L_heard_0 rfl (lv_at hl 2 rfl) ?_
    refine lv_iconst (v := 0) hx hb d_L_heard_1 (by decide) ?_
    refine lv_aload_n hx hb d_L_heard_2 rfl (lv_at hl 0 rfl) ?_
    refine lv_iload_n hx hb d_L_heard_3 rfl (lv_at hl 1 rfl) ?_
    obtain ⟨z0, hz0, hsp⟩ := tab1 htab
    refine S_catch C0 w (rest := [.int 0, .ref o]) (pre := []) (x := z0) (suf := []) 0 (wU_at (by decide)) rfl (x_N_heard_NoSuchElementException l htl D ct q h) wd_820 wd_817 wd_818 wd_819 wd_1 (n9 := 1) (by decide +kernel) rfl ⟨(Nat.le_of_ble_eq_true rfl), (Nat.le_of_ble_eq_true rfl)⟩ hl.1 rfl (Nat.le_of_ble_eq_true rfl) d_L_heard_4 (Nat.le_of_ble_eq_true rfl) (Nat.le_of_ble_eq_true rfl) hsp (fun z hz => by cases hz) (by rw [cov_eq hz0]; decide) (by rw [ct_eq hz0]; decide) (by rw [ct_eq hz0]; exact wd_691) (by decide) (fun q9 H locs w => ?_)
    rw [hpc_eq hz0]
    refine W.cs (cells' := 1) (slots' := 6) rfl rfl ?_
    have w : Wd D A s ([(o, .inl (ct 2, 1, .inr (.inl f)))] ++ wX ct q Mz) H _ := w
    refine lv_astore_n hx hb d_L_heard_12 rfl hl (by decide) rfl (fun ls hl => ?_)
    have hl : lv_has ls 4 [(3, .ref q9), (0, .ref (q 0)), (1, .int x1), (2, .ref o)] := hl
    refine lv_iconst (v := 1) hx hb d_L_heard_13 (by decide) ?_
    exact hret _ _ _ _ d_L_heard_14 w
