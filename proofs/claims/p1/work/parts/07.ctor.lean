abbrev fN (v0 : Int32) (q : Nat → Nat) : List Value := [.ref (q 0), .ref (q 1), .ref (q 2), .ref (q 3), .ref (q 4), .ref (q 5), .int v0]
abbrev fP (v0 : Int32) (q : Nat → Nat) : List Value := [.int v0, .ref (q 1), .ref (q 2), .ref (q 3), .ref (q 4), .ref (q 5), .ref (q 6), .ref (q 7), .ref (q 8), .ref (q 9)]
abbrev fA (v0 : Int32) (q : Nat → Nat) : List Value := [.ref (q 0), .ref (q 1), .ref (q 2), .ref (q 3), .int v0, .ref (q 5), .ref (q 6), .ref (q 7), .ref (q 8), .int 0, .ref (q 10), .int 0, .int 0, .int 0]
abbrev fR (v0 : Int32) (v1 : Int32) (v2 : Int32) (v3 : Int32) (q : Nat → Nat) : List Value := [.int v0, .int v1, .ref (q 2), .ref (q 3), .ref (q 4), .ref (q 5), .ref (q 6), .ref (q 7), .ref (q 8), .ref (q 9), .ref (q 10), .int v2, .int 0, .ref (q 13), .ref (q 14), .ref (q 15), .ref (q 16), .int 0, .ref (q 18), .ref (q 19), .ref (q 20), .ref (q 21), .ref (q 22), .ref (q 23), .ref (q 24), .ref (q 25), .ref (q 26), .int 0, .ref (q 28), .ref (q 29), .ref (q 30), .ref (q 31), .int v3, .ref (q 33), .int 0, .int 0, .ref (q 36), .int 0, .int 0, .ref (q 39), .ref (q 40)]
theorem bornN : ∀ j, j < 7 → defaultValue (tyN j) = vp_V [.null, .null, .null, .null, .null, .null, .int 0] j := fun j hj => match j, hj with
  | 0, _ => rfl
  | 1, _ => rfl
  | 2, _ => rfl
  | 3, _ => rfl
  | 4, _ => rfl
  | 5, _ => rfl
  | 6, _ => rfl
  | k + 7, h => absurd h (by omega)
theorem bornP : ∀ j, j < 10 → defaultValue (tyP j) = vp_V [.int 0, .null, .null, .null, .null, .null, .null, .null, .null, .null] j := fun j hj => match j, hj with
  | 0, _ => rfl
  | 1, _ => rfl
  | 2, _ => rfl
  | 3, _ => rfl
  | 4, _ => rfl
  | 5, _ => rfl
  | 6, _ => rfl
  | 7, _ => rfl
  | 8, _ => rfl
  | 9, _ => rfl
  | k + 10, h => absurd h (by omega)
theorem bornS : ∀ j, j < 9 → defaultValue (tyS j) = vp_V [.null, .int 0, .null, .null, .null, .null, .null, .int 0, .null] j := fun j hj => match j, hj with
  | 0, _ => rfl
  | 1, _ => rfl
  | 2, _ => rfl
  | 3, _ => rfl
  | 4, _ => rfl
  | 5, _ => rfl
  | 6, _ => rfl
  | 7, _ => rfl
  | 8, _ => rfl
  | k + 9, h => absurd h (by omega)
theorem bornG : ∀ j, j < 14 → defaultValue (tyG j) = vp_V [.null, .null, .int 0, .null, .null, .null, .null, .null, .null, .null, .null, .null, .null, .null] j := fun j hj => match j, hj with
  | 0, _ => rfl
  | 1, _ => rfl
  | 2, _ => rfl
  | 3, _ => rfl
  | 4, _ => rfl
  | 5, _ => rfl
  | 6, _ => rfl
  | 7, _ => rfl
  | 8, _ => rfl
  | 9, _ => rfl
  | 10, _ => rfl
  | 11, _ => rfl
  | 12, _ => rfl
  | 13, _ => rfl
  | k + 14, h => absurd h (by omega)
theorem bornK : ∀ j, j < 8 → defaultValue (tyK j) = vp_V [.null, .null, .null, .int 0, .null, .null, .null, .int 0] j := fun j hj => match j, hj with
  | 0, _ => rfl
  | 1, _ => rfl
  | 2, _ => rfl
  | 3, _ => rfl
  | 4, _ => rfl
  | 5, _ => rfl
  | 6, _ => rfl
  | 7, _ => rfl
  | k + 8, h => absurd h (by omega)
theorem bornD : ∀ j, j < 6 → defaultValue (tyD j) = vp_V [.null, .null, .null, .null, .null, .int 0] j := fun j hj => match j, hj with
  | 0, _ => rfl
  | 1, _ => rfl
  | 2, _ => rfl
  | 3, _ => rfl
  | 4, _ => rfl
  | 5, _ => rfl
  | k + 6, h => absurd h (by omega)
theorem bornA : ∀ j, j < 14 → defaultValue (tyA j) = vp_V [.null, .null, .null, .null, .int 0, .null, .null, .null, .null, .int 0, .null, .int 0, .int 0, .int 0] j := fun j hj => match j, hj with
  | 0, _ => rfl
  | 1, _ => rfl
  | 2, _ => rfl
  | 3, _ => rfl
  | 4, _ => rfl
  | 5, _ => rfl
  | 6, _ => rfl
  | 7, _ => rfl
  | 8, _ => rfl
  | 9, _ => rfl
  | 10, _ => rfl
  | 11, _ => rfl
  | 12, _ => rfl
  | 13, _ => rfl
  | k + 14, h => absurd h (by omega)
theorem bornR : ∀ j, j < 41 → defaultValue (tyR j) = vp_V [.int 0, .int 0, .null, .null, .null, .null, .null, .null, .null, .null, .null, .int 0, .int 0, .null, .null, .null, .null, .int 0, .null, .null, .null, .null, .null, .null, .null, .null, .null, .int 0, .null, .null, .null, .null, .int 0, .null, .int 0, .int 0, .null, .int 0, .int 0, .null, .null] j := fun j hj => match j, hj with
  | 0, _ => rfl
  | 1, _ => rfl
  | 2, _ => rfl
  | 3, _ => rfl
  | 4, _ => rfl
  | 5, _ => rfl
  | 6, _ => rfl
  | 7, _ => rfl
  | 8, _ => rfl
  | 9, _ => rfl
  | 10, _ => rfl
  | 11, _ => rfl
  | 12, _ => rfl
  | 13, _ => rfl
  | 14, _ => rfl
  | 15, _ => rfl
  | 16, _ => rfl
  | 17, _ => rfl
  | 18, _ => rfl
  | 19, _ => rfl
  | 20, _ => rfl
  | 21, _ => rfl
  | 22, _ => rfl
  | 23, _ => rfl
  | 24, _ => rfl
  | 25, _ => rfl
  | 26, _ => rfl
  | 27, _ => rfl
  | 28, _ => rfl
  | 29, _ => rfl
  | 30, _ => rfl
  | 31, _ => rfl
  | 32, _ => rfl
  | 33, _ => rfl
  | 34, _ => rfl
  | 35, _ => rfl
  | 36, _ => rfl
  | 37, _ => rfl
  | 38, _ => rfl
  | 39, _ => rfl
  | 40, _ => rfl
  | k + 41, h => absurd h (by omega)
abbrev wP (cI : ClassId) (h : Nat) (q : Nat → Nat) : va_W := [(h, .inr (1, fP 0 q)), ((q 1), .inl (cI, 10, .inl (fun _ => 0))), ((q 6), .inl (cI, 10, .inl (fun _ => 0))), ((q 7), .inl (cI, 10, .inl (fun _ => 0))), ((q 8), .inl (cI, 10, .inl (fun _ => 0))), ((q 9), .inl (cI, 10, .inl (fun _ => 0)))]
abbrev wA (cI : ClassId) (h : Nat) (q : Nat → Nat) : va_W := [(h, .inr (6, fA 0 q)), ((q 5), .inl (cI, 16, .inl (fun _ => 0)))]
abbrev wR (cI : ClassId) (h : Nat) (q : Nat → Nat) : va_W := [(h, .inr (7, fR 0 0 0 0 q)), ((q 2), .inl (cI, 10, .inl (fun _ => 0))), ((q 7), .inl (cI, 10, .inl (fun _ => 0))), ((q 33), .inl (cI, 16, .inl (fun _ => 0)))]
abbrev wN (cI : ClassId) (h : Nat) (qn qp qm : Nat → Nat) : va_W := [(h, .inr (0, fN 0 qn)), ((qn 0), .inr (1, fP 0 qp)), ((qn 5), .inr (6, fA 0 qm)), ((qp 1), .inl (cI, 10, .inl (fun _ => 0))), ((qp 6), .inl (cI, 10, .inl (fun _ => 0))), ((qp 7), .inl (cI, 10, .inl (fun _ => 0))), ((qp 8), .inl (cI, 10, .inl (fun _ => 0))), ((qp 9), .inl (cI, 10, .inl (fun _ => 0))), ((qm 5), .inl (cI, 16, .inl (fun _ => 0)))]
theorem CE_nil {D : va_G} {A : Nat → Prop} {t : State} : CE D [] A t := ⟨fun k q hk => (by cases hk), ⟨fun i j p q hi => (by cases hi), fun k q hk => (by cases hk)⟩⟩
set_option maxHeartbeats 4000000 in
set_option maxRecDepth 100000 in
theorem c_P_init (l : Launch) (D : va_G) (cI cB cJ : ClassId) (h : Nat) : KV l D cI cB cJ y_P_init b_P_init 1 1 12 49 330 [.ref h] [(h, .inr (1, [.int 0, .null, .null, .null, .null, .null, .null, .null, .null, .null]))] (fun A t => ∃ q : Nat → Nat, CE D (wP cI h q) A t) := by
  refine KV.ofW (by decide) (Nat.le_of_ble_eq_true rfl) ?_
  intro p e s m args below meth c A Q ls C0 hin hl w hret
  have hin : meth.name = "<init>" := hin
  have hx := C0.1
  have hb := C0.2.1
  have hl : lv_has ls 1 [(0, .ref h)] := hl
  refine lv_aload_n hx hb d_P_init_0 rfl (lv_at hl 0 rfl) ?_
  refine W.objInit hx hb C0.2.2.2.1 (C0.2.2.2.2.1 _ wd_30) (C0.2.2.2.2.1 _ wd_23) (C0.2.2.2.2.1 _ wd_24) rfl (by rw [C0.2.2.1]; exact hl.1) rfl d_P_init_1 (Nat.le_of_ble_eq_true rfl) (Nat.le_of_ble_eq_true rfl) ?_
  refine W.eq (g2 := F0 m 4 ls []) rfl ?_
  refine lv_aload_n hx hb d_P_init_4 rfl (lv_at hl 0 rfl) ?_
  refine lv_bipush (v := 10) hx hb d_P_init_5 (by decide) ?_
  refine R_newI (N := 10) C0 w wd_93 (by decide) (by decide) (by decide) (Nat.le_of_ble_eq_true rfl) (Nat.le_of_ble_eq_true rfl) d_P_init_7 (fun q1 H w => ?_)
  refine W.cs (cells' := 1) (slots' := 10) rfl rfl ?_
  have w : Wd D A s [(h, .inr (1, [.int 0, .null, .null, .null, .null, .null, .null, .null, .null, .null])), (q1, .inl (cI, 10, .inl (fun _ => 0)))] H _ := w
  refine R_putF C0 w 0 rfl rfl inP tyP_ok nmP 1 (by decide) wd_39 rfl hin rfl rfl rfl (Nat.le_of_ble_eq_true rfl) d_P_init_9 (fun H locs w => ?_)
  have w : Wd D A s [(h, .inr (1, [.int 0, .ref q1, .null, .null, .null, .null, .null, .null, .null, .null])), (q1, .inl (cI, 10, .inl (fun _ => 0)))] H _ := w
  refine lv_aload_n hx hb d_P_init_12 rfl (lv_at hl 0 rfl) ?_
  refine lv_bipush (v := 10) hx hb d_P_init_13 (by decide) ?_
  refine lv_bipush (v := 6) hx hb d_P_init_15 (by decide) ?_
  refine R_mna (N := 10) (K := 6) C0 w wd_31 wd_93 (by decide) (by decide) (by decide) (by decide) (by decide) (by decide) (Nat.le_of_ble_eq_true rfl) (Nat.le_of_ble_eq_true rfl) d_P_init_17 (fun q2 H w => ?_)
  refine W.cs (cells' := 12) (slots' := 80) rfl rfl ?_
  have w : Wd D A s [(h, .inr (1, [.int 0, .ref q1, .null, .null, .null, .null, .null, .null, .null, .null])), (q1, .inl (cI, 10, .inl (fun _ => 0)))] H _ := w
  refine R_putF C0 w 0 rfl rfl inP tyP_ok nmP 2 (by decide) wd_45 rfl hin rfl rfl rfl (Nat.le_of_ble_eq_true rfl) d_P_init_21 (fun H locs w => ?_)
  have w : Wd D A s [(h, .inr (1, [.int 0, .ref q1, .ref q2, .null, .null, .null, .null, .null, .null, .null])), (q1, .inl (cI, 10, .inl (fun _ => 0)))] H _ := w
  refine lv_aload_n hx hb d_P_init_24 rfl (lv_at hl 0 rfl) ?_
  refine lv_bipush (v := 10) hx hb d_P_init_25 (by decide) ?_
  refine lv_bipush (v := 6) hx hb d_P_init_27 (by decide) ?_
  refine R_mna (N := 10) (K := 6) C0 w wd_31 wd_93 (by decide) (by decide) (by decide) (by decide) (by decide) (by decide) (Nat.le_of_ble_eq_true rfl) (Nat.le_of_ble_eq_true rfl) d_P_init_29 (fun q3 H w => ?_)
  refine W.cs (cells' := 23) (slots' := 150) rfl rfl ?_
  have w : Wd D A s [(h, .inr (1, [.int 0, .ref q1, .ref q2, .null, .null, .null, .null, .null, .null, .null])), (q1, .inl (cI, 10, .inl (fun _ => 0)))] H _ := w
  refine R_putF C0 w 0 rfl rfl inP tyP_ok nmP 3 (by decide) wd_50 rfl hin rfl rfl rfl (Nat.le_of_ble_eq_true rfl) d_P_init_33 (fun H locs w => ?_)
  have w : Wd D A s [(h, .inr (1, [.int 0, .ref q1, .ref q2, .ref q3, .null, .null, .null, .null, .null, .null])), (q1, .inl (cI, 10, .inl (fun _ => 0)))] H _ := w
  refine lv_aload_n hx hb d_P_init_36 rfl (lv_at hl 0 rfl) ?_
  refine lv_bipush (v := 10) hx hb d_P_init_37 (by decide) ?_
  refine lv_bipush (v := 6) hx hb d_P_init_39 (by decide) ?_
  refine R_mna (N := 10) (K := 6) C0 w wd_31 wd_93 (by decide) (by decide) (by decide) (by decide) (by decide) (by decide) (Nat.le_of_ble_eq_true rfl) (Nat.le_of_ble_eq_true rfl) d_P_init_41 (fun q4 H w => ?_)
  refine W.cs (cells' := 34) (slots' := 220) rfl rfl ?_
  have w : Wd D A s [(h, .inr (1, [.int 0, .ref q1, .ref q2, .ref q3, .null, .null, .null, .null, .null, .null])), (q1, .inl (cI, 10, .inl (fun _ => 0)))] H _ := w
  refine R_putF C0 w 0 rfl rfl inP tyP_ok nmP 4 (by decide) wd_53 rfl hin rfl rfl rfl (Nat.le_of_ble_eq_true rfl) d_P_init_45 (fun H locs w => ?_)
  have w : Wd D A s [(h, .inr (1, [.int 0, .ref q1, .ref q2, .ref q3, .ref q4, .null, .null, .null, .null, .null])), (q1, .inl (cI, 10, .inl (fun _ => 0)))] H _ := w
  refine lv_aload_n hx hb d_P_init_48 rfl (lv_at hl 0 rfl) ?_
  refine lv_bipush (v := 10) hx hb d_P_init_49 (by decide) ?_
  refine lv_bipush (v := 6) hx hb d_P_init_51 (by decide) ?_
  refine R_mna (N := 10) (K := 6) C0 w wd_31 wd_93 (by decide) (by decide) (by decide) (by decide) (by decide) (by decide) (Nat.le_of_ble_eq_true rfl) (Nat.le_of_ble_eq_true rfl) d_P_init_53 (fun q5 H w => ?_)
  refine W.cs (cells' := 45) (slots' := 290) rfl rfl ?_
  have w : Wd D A s [(h, .inr (1, [.int 0, .ref q1, .ref q2, .ref q3, .ref q4, .null, .null, .null, .null, .null])), (q1, .inl (cI, 10, .inl (fun _ => 0)))] H _ := w
  refine R_putF C0 w 0 rfl rfl inP tyP_ok nmP 5 (by decide) wd_57 rfl hin rfl rfl rfl (Nat.le_of_ble_eq_true rfl) d_P_init_57 (fun H locs w => ?_)
  have w : Wd D A s [(h, .inr (1, [.int 0, .ref q1, .ref q2, .ref q3, .ref q4, .ref q5, .null, .null, .null, .null])), (q1, .inl (cI, 10, .inl (fun _ => 0)))] H _ := w
  refine lv_aload_n hx hb d_P_init_60 rfl (lv_at hl 0 rfl) ?_
  refine lv_bipush (v := 10) hx hb d_P_init_61 (by decide) ?_
  refine R_newI (N := 10) C0 w wd_93 (by decide) (by decide) (by decide) (Nat.le_of_ble_eq_true rfl) (Nat.le_of_ble_eq_true rfl) d_P_init_63 (fun q6 H w => ?_)
  refine W.cs (cells' := 46) (slots' := 300) rfl rfl ?_
  have w : Wd D A s [(h, .inr (1, [.int 0, .ref q1, .ref q2, .ref q3, .ref q4, .ref q5, .null, .null, .null, .null])), (q1, .inl (cI, 10, .inl (fun _ => 0))), (q6, .inl (cI, 10, .inl (fun _ => 0)))] H _ := w
  refine R_putF C0 w 0 rfl rfl inP tyP_ok nmP 6 (by decide) wd_60 rfl hin rfl rfl rfl (Nat.le_of_ble_eq_true rfl) d_P_init_65 (fun H locs w => ?_)
  have w : Wd D A s [(h, .inr (1, [.int 0, .ref q1, .ref q2, .ref q3, .ref q4, .ref q5, .ref q6, .null, .null, .null])), (q1, .inl (cI, 10, .inl (fun _ => 0))), (q6, .inl (cI, 10, .inl (fun _ => 0)))] H _ := w
  refine lv_aload_n hx hb d_P_init_68 rfl (lv_at hl 0 rfl) ?_
  refine lv_bipush (v := 10) hx hb d_P_init_69 (by decide) ?_
  refine R_newI (N := 10) C0 w wd_93 (by decide) (by decide) (by decide) (Nat.le_of_ble_eq_true rfl) (Nat.le_of_ble_eq_true rfl) d_P_init_71 (fun q7 H w => ?_)
  refine W.cs (cells' := 47) (slots' := 310) rfl rfl ?_
  have w : Wd D A s [(h, .inr (1, [.int 0, .ref q1, .ref q2, .ref q3, .ref q4, .ref q5, .ref q6, .null, .null, .null])), (q1, .inl (cI, 10, .inl (fun _ => 0))), (q6, .inl (cI, 10, .inl (fun _ => 0))), (q7, .inl (cI, 10, .inl (fun _ => 0)))] H _ := w
  refine R_putF C0 w 0 rfl rfl inP tyP_ok nmP 7 (by decide) wd_63 rfl hin rfl rfl rfl (Nat.le_of_ble_eq_true rfl) d_P_init_73 (fun H locs w => ?_)
  have w : Wd D A s [(h, .inr (1, [.int 0, .ref q1, .ref q2, .ref q3, .ref q4, .ref q5, .ref q6, .ref q7, .null, .null])), (q1, .inl (cI, 10, .inl (fun _ => 0))), (q6, .inl (cI, 10, .inl (fun _ => 0))), (q7, .inl (cI, 10, .inl (fun _ => 0)))] H _ := w
  refine lv_aload_n hx hb d_P_init_76 rfl (lv_at hl 0 rfl) ?_
  refine lv_bipush (v := 10) hx hb d_P_init_77 (by decide) ?_
  refine R_newI (N := 10) C0 w wd_93 (by decide) (by decide) (by decide) (Nat.le_of_ble_eq_true rfl) (Nat.le_of_ble_eq_true rfl) d_P_init_79 (fun q8 H w => ?_)
  refine W.cs (cells' := 48) (slots' := 320) rfl rfl ?_
  have w : Wd D A s [(h, .inr (1, [.int 0, .ref q1, .ref q2, .ref q3, .ref q4, .ref q5, .ref q6, .ref q7, .null, .null])), (q1, .inl (cI, 10, .inl (fun _ => 0))), (q6, .inl (cI, 10, .inl (fun _ => 0))), (q7, .inl (cI, 10, .inl (fun _ => 0))), (q8, .inl (cI, 10, .inl (fun _ => 0)))] H _ := w
  refine R_putF C0 w 0 rfl rfl inP tyP_ok nmP 8 (by decide) wd_66 rfl hin rfl rfl rfl (Nat.le_of_ble_eq_true rfl) d_P_init_81 (fun H locs w => ?_)
  have w : Wd D A s [(h, .inr (1, [.int 0, .ref q1, .ref q2, .ref q3, .ref q4, .ref q5, .ref q6, .ref q7, .ref q8, .null])), (q1, .inl (cI, 10, .inl (fun _ => 0))), (q6, .inl (cI, 10, .inl (fun _ => 0))), (q7, .inl (cI, 10, .inl (fun _ => 0))), (q8, .inl (cI, 10, .inl (fun _ => 0)))] H _ := w
  refine lv_aload_n hx hb d_P_init_84 rfl (lv_at hl 0 rfl) ?_
  refine lv_bipush (v := 10) hx hb d_P_init_85 (by decide) ?_
  refine R_newI (N := 10) C0 w wd_93 (by decide) (by decide) (by decide) (Nat.le_of_ble_eq_true rfl) (Nat.le_of_ble_eq_true rfl) d_P_init_87 (fun q9 H w => ?_)
  refine W.cs (cells' := 49) (slots' := 330) rfl rfl ?_
  have w : Wd D A s [(h, .inr (1, [.int 0, .ref q1, .ref q2, .ref q3, .ref q4, .ref q5, .ref q6, .ref q7, .ref q8, .null])), (q1, .inl (cI, 10, .inl (fun _ => 0))), (q6, .inl (cI, 10, .inl (fun _ => 0))), (q7, .inl (cI, 10, .inl (fun _ => 0))), (q8, .inl (cI, 10, .inl (fun _ => 0))), (q9, .inl (cI, 10, .inl (fun _ => 0)))] H _ := w
  refine R_putF C0 w 0 rfl rfl inP tyP_ok nmP 9 (by decide) wd_69 rfl hin rfl rfl rfl (Nat.le_of_ble_eq_true rfl) d_P_init_89 (fun H locs w => ?_)
  have w : Wd D A s [(h, .inr (1, [.int 0, .ref q1, .ref q2, .ref q3, .ref q4, .ref q5, .ref q6, .ref q7, .ref q8, .ref q9])), (q1, .inl (cI, 10, .inl (fun _ => 0))), (q6, .inl (cI, 10, .inl (fun _ => 0))), (q7, .inl (cI, 10, .inl (fun _ => 0))), (q8, .inl (cI, 10, .inl (fun _ => 0))), (q9, .inl (cI, 10, .inl (fun _ => 0)))] H _ := w
  exact hret _ _ _ _ d_P_init_92 w.2.2.1 (fun t ht => ⟨fun k => [0, q1, q2, q3, q4, q5, q6, q7, q8, q9].getD k 0, by rw [ht]; exact (w.sub [0, 1, 2, 3, 4, 5] rfl rfl).1, (w.sub [0, 1, 2, 3, 4, 5] rfl rfl).2.1⟩)
set_option maxHeartbeats 4000000 in
set_option maxRecDepth 100000 in
theorem c_S_init (l : Launch) (D : va_G) (cI cB cJ : ClassId) (h : Nat) (a1 : Nat) : KV l D cI cB cJ y_S_init b_S_init 2 1 12 6 60 [.ref h, .ref a1] [(h, .inr (2, [.null, .int 0, .null, .null, .null, .null, .null, .int 0, .null]))] (fun _ _ => True) := by
  refine KV.ofW (by decide) (Nat.le_of_ble_eq_true rfl) ?_
  intro p e s m args below meth c A Q ls C0 hin hl w hret
  have hin : meth.name = "<init>" := hin
  have hx := C0.1
  have hb := C0.2.1
  have hl : lv_has ls 2 [(0, .ref h), (1, .ref a1)] := hl
  refine lv_aload_n hx hb d_S_init_0 rfl (lv_at hl 0 rfl) ?_
  refine W.objInit hx hb C0.2.2.2.1 (C0.2.2.2.2.1 _ wd_99) (C0.2.2.2.2.1 _ wd_23) (C0.2.2.2.2.1 _ wd_24) rfl (by rw [C0.2.2.1]; exact hl.1) rfl d_S_init_1 (Nat.le_of_ble_eq_true rfl) (Nat.le_of_ble_eq_true rfl) ?_
  refine W.eq (g2 := F0 m 4 ls []) rfl ?_
  refine lv_aload_n hx hb d_S_init_4 rfl (lv_at hl 0 rfl) ?_
  refine lv_bipush (v := 10) hx hb d_S_init_5 (by decide) ?_
  refine R_newX (atype := .int) (N := 10) C0 w wd_93 (by decide) (by decide) (by decide) (Nat.le_of_ble_eq_true rfl) (Nat.le_of_ble_eq_true rfl) d_S_init_7 (fun q1 H w => ?_)
  refine W.cs (cells' := 1) (slots' := 10) rfl rfl ?_
  have w : Wd D A s [(h, .inr (2, [.null, .int 0, .null, .null, .null, .null, .null, .int 0, .null]))] H _ := w
  refine R_putF C0 w 0 rfl rfl inS tyS_ok nmS 2 (by decide) wd_103 rfl hin rfl rfl rfl (Nat.le_of_ble_eq_true rfl) d_S_init_9 (fun H locs w => ?_)
  have w : Wd D A s [(h, .inr (2, [.null, .int 0, .ref q1, .null, .null, .null, .null, .int 0, .null]))] H _ := w
  refine lv_aload_n hx hb d_S_init_12 rfl (lv_at hl 0 rfl) ?_
  refine lv_bipush (v := 10) hx hb d_S_init_13 (by decide) ?_
  refine R_newX (atype := .int) (N := 10) C0 w wd_93 (by decide) (by decide) (by decide) (Nat.le_of_ble_eq_true rfl) (Nat.le_of_ble_eq_true rfl) d_S_init_15 (fun q2 H w => ?_)
  refine W.cs (cells' := 2) (slots' := 20) rfl rfl ?_
  have w : Wd D A s [(h, .inr (2, [.null, .int 0, .ref q1, .null, .null, .null, .null, .int 0, .null]))] H _ := w
  refine R_putF C0 w 0 rfl rfl inS tyS_ok nmS 3 (by decide) wd_105 rfl hin rfl rfl rfl (Nat.le_of_ble_eq_true rfl) d_S_init_17 (fun H locs w => ?_)
  have w : Wd D A s [(h, .inr (2, [.null, .int 0, .ref q1, .ref q2, .null, .null, .null, .int 0, .null]))] H _ := w
  refine lv_aload_n hx hb d_S_init_20 rfl (lv_at hl 0 rfl) ?_
  refine lv_bipush (v := 10) hx hb d_S_init_21 (by decide) ?_
  refine R_newX (atype := .int) (N := 10) C0 w wd_93 (by decide) (by decide) (by decide) (Nat.le_of_ble_eq_true rfl) (Nat.le_of_ble_eq_true rfl) d_S_init_23 (fun q3 H w => ?_)
  refine W.cs (cells' := 3) (slots' := 30) rfl rfl ?_
  have w : Wd D A s [(h, .inr (2, [.null, .int 0, .ref q1, .ref q2, .null, .null, .null, .int 0, .null]))] H _ := w
  refine R_putF C0 w 0 rfl rfl inS tyS_ok nmS 4 (by decide) wd_106 rfl hin rfl rfl rfl (Nat.le_of_ble_eq_true rfl) d_S_init_25 (fun H locs w => ?_)
  have w : Wd D A s [(h, .inr (2, [.null, .int 0, .ref q1, .ref q2, .ref q3, .null, .null, .int 0, .null]))] H _ := w
  refine lv_aload_n hx hb d_S_init_28 rfl (lv_at hl 0 rfl) ?_
  refine lv_bipush (v := 10) hx hb d_S_init_29 (by decide) ?_
  refine R_newX (atype := .int) (N := 10) C0 w wd_93 (by decide) (by decide) (by decide) (Nat.le_of_ble_eq_true rfl) (Nat.le_of_ble_eq_true rfl) d_S_init_31 (fun q4 H w => ?_)
  refine W.cs (cells' := 4) (slots' := 40) rfl rfl ?_
  have w : Wd D A s [(h, .inr (2, [.null, .int 0, .ref q1, .ref q2, .ref q3, .null, .null, .int 0, .null]))] H _ := w
  refine R_putF C0 w 0 rfl rfl inS tyS_ok nmS 5 (by decide) wd_109 rfl hin rfl rfl rfl (Nat.le_of_ble_eq_true rfl) d_S_init_33 (fun H locs w => ?_)
  have w : Wd D A s [(h, .inr (2, [.null, .int 0, .ref q1, .ref q2, .ref q3, .ref q4, .null, .int 0, .null]))] H _ := w
  refine lv_aload_n hx hb d_S_init_36 rfl (lv_at hl 0 rfl) ?_
  refine lv_bipush (v := 10) hx hb d_S_init_37 (by decide) ?_
  refine R_newX (atype := .int) (N := 10) C0 w wd_93 (by decide) (by decide) (by decide) (Nat.le_of_ble_eq_true rfl) (Nat.le_of_ble_eq_true rfl) d_S_init_39 (fun q5 H w => ?_)
  refine W.cs (cells' := 5) (slots' := 50) rfl rfl ?_
  have w : Wd D A s [(h, .inr (2, [.null, .int 0, .ref q1, .ref q2, .ref q3, .ref q4, .null, .int 0, .null]))] H _ := w
  refine R_putF C0 w 0 rfl rfl inS tyS_ok nmS 6 (by decide) wd_111 rfl hin rfl rfl rfl (Nat.le_of_ble_eq_true rfl) d_S_init_41 (fun H locs w => ?_)
  have w : Wd D A s [(h, .inr (2, [.null, .int 0, .ref q1, .ref q2, .ref q3, .ref q4, .ref q5, .int 0, .null]))] H _ := w
  refine lv_aload_n hx hb d_S_init_44 rfl (lv_at hl 0 rfl) ?_
  refine lv_bipush (v := 10) hx hb d_S_init_45 (by decide) ?_
  refine R_newX (atype := .int) (N := 10) C0 w wd_93 (by decide) (by decide) (by decide) (Nat.le_of_ble_eq_true rfl) (Nat.le_of_ble_eq_true rfl) d_S_init_47 (fun q6 H w => ?_)
  refine W.cs (cells' := 6) (slots' := 60) rfl rfl ?_
  have w : Wd D A s [(h, .inr (2, [.null, .int 0, .ref q1, .ref q2, .ref q3, .ref q4, .ref q5, .int 0, .null]))] H _ := w
  refine R_putF C0 w 0 rfl rfl inS tyS_ok nmS 8 (by decide) wd_117 rfl hin rfl rfl rfl (Nat.le_of_ble_eq_true rfl) d_S_init_49 (fun H locs w => ?_)
  have w : Wd D A s [(h, .inr (2, [.null, .int 0, .ref q1, .ref q2, .ref q3, .ref q4, .ref q5, .int 0, .ref q6]))] H _ := w
  refine lv_aload_n hx hb d_S_init_52 rfl (lv_at hl 0 rfl) ?_
  refine lv_aload_n hx hb d_S_init_53 rfl (lv_at hl 1 rfl) ?_
  refine R_putF C0 w 0 rfl rfl inS tyS_ok nmS 0 (by decide) wd_100 rfl hin rfl rfl rfl (Nat.le_of_ble_eq_true rfl) d_S_init_54 (fun H locs w => ?_)
  have w : Wd D A s [(h, .inr (2, [.ref a1, .int 0, .ref q1, .ref q2, .ref q3, .ref q4, .ref q5, .int 0, .ref q6]))] H _ := w
  exact hret _ _ _ _ d_S_init_57 w.2.2.1 (fun _ _ => trivial)
set_option maxHeartbeats 4000000 in
set_option maxRecDepth 100000 in
theorem c_G_init (l : Launch) (D : va_G) (cI cB cJ : ClassId) (h : Nat) (a1 : Nat) (a2 : Nat) : KV l D cI cB cJ y_G_init b_G_init 3 1 12 61 758 [.ref h, .ref a1, .ref a2] [(h, .inr (3, [.null, .null, .int 0, .null, .null, .null, .null, .null, .null, .null, .null, .null, .null, .null]))] (fun _ _ => True) := by
  refine KV.ofW (by decide) (Nat.le_of_ble_eq_true rfl) ?_
  intro p e s m args below meth c A Q ls C0 hin hl w hret
  have hin : meth.name = "<init>" := hin
  have hx := C0.1
  have hb := C0.2.1
  have hl : lv_has ls 3 [(0, .ref h), (1, .ref a1), (2, .ref a2)] := hl
  refine lv_aload_n hx hb d_G_init_0 rfl (lv_at hl 0 rfl) ?_
  refine W.objInit hx hb C0.2.2.2.1 (C0.2.2.2.2.1 _ wd_142) (C0.2.2.2.2.1 _ wd_23) (C0.2.2.2.2.1 _ wd_24) rfl (by rw [C0.2.2.1]; exact hl.1) rfl d_G_init_1 (Nat.le_of_ble_eq_true rfl) (Nat.le_of_ble_eq_true rfl) ?_
  refine W.eq (g2 := F0 m 4 ls []) rfl ?_
  refine lv_aload_n hx hb d_G_init_4 rfl (lv_at hl 0 rfl) ?_
  refine lv_bipush (v := 10) hx hb d_G_init_5 (by decide) ?_
  refine R_newX (atype := .int) (N := 10) C0 w wd_93 (by decide) (by decide) (by decide) (Nat.le_of_ble_eq_true rfl) (Nat.le_of_ble_eq_true rfl) d_G_init_7 (fun q1 H w => ?_)
  refine W.cs (cells' := 1) (slots' := 10) rfl rfl ?_
  have w : Wd D A s [(h, .inr (3, [.null, .null, .int 0, .null, .null, .null, .null, .null, .null, .null, .null, .null, .null, .null]))] H _ := w
  refine R_putF C0 w 0 rfl rfl inG tyG_ok nmG 3 (by decide) wd_148 rfl hin rfl rfl rfl (Nat.le_of_ble_eq_true rfl) d_G_init_9 (fun H locs w => ?_)
  have w : Wd D A s [(h, .inr (3, [.null, .null, .int 0, .ref q1, .null, .null, .null, .null, .null, .null, .null, .null, .null, .null]))] H _ := w
  refine lv_aload_n hx hb d_G_init_12 rfl (lv_at hl 0 rfl) ?_
  refine lv_bipush (v := 10) hx hb d_G_init_13 (by decide) ?_
  refine R_newX (atype := .int) (N := 10) C0 w wd_93 (by decide) (by decide) (by decide) (Nat.le_of_ble_eq_true rfl) (Nat.le_of_ble_eq_true rfl) d_G_init_15 (fun q2 H w => ?_)
  refine W.cs (cells' := 2) (slots' := 20) rfl rfl ?_
  have w : Wd D A s [(h, .inr (3, [.null, .null, .int 0, .ref q1, .null, .null, .null, .null, .null, .null, .null, .null, .null, .null]))] H _ := w
  refine R_putF C0 w 0 rfl rfl inG tyG_ok nmG 4 (by decide) wd_152 rfl hin rfl rfl rfl (Nat.le_of_ble_eq_true rfl) d_G_init_17 (fun H locs w => ?_)
  have w : Wd D A s [(h, .inr (3, [.null, .null, .int 0, .ref q1, .ref q2, .null, .null, .null, .null, .null, .null, .null, .null, .null]))] H _ := w
  refine lv_aload_n hx hb d_G_init_20 rfl (lv_at hl 0 rfl) ?_
  refine lv_bipush (v := 10) hx hb d_G_init_21 (by decide) ?_
  refine lv_bipush (v := 6) hx hb d_G_init_23 (by decide) ?_
  refine R_mna (N := 10) (K := 6) C0 w wd_143 wd_93 (by decide) (by decide) (by decide) (by decide) (by decide) (by decide) (Nat.le_of_ble_eq_true rfl) (Nat.le_of_ble_eq_true rfl) d_G_init_25 (fun q3 H w => ?_)
  refine W.cs (cells' := 13) (slots' := 90) rfl rfl ?_
  have w : Wd D A s [(h, .inr (3, [.null, .null, .int 0, .ref q1, .ref q2, .null, .null, .null, .null, .null, .null, .null, .null, .null]))] H _ := w
  refine R_putF C0 w 0 rfl rfl inG tyG_ok nmG 5 (by decide) wd_153 rfl hin rfl rfl rfl (Nat.le_of_ble_eq_true rfl) d_G_init_29 (fun H locs w => ?_)
  have w : Wd D A s [(h, .inr (3, [.null, .null, .int 0, .ref q1, .ref q2, .ref q3, .null, .null, .null, .null, .null, .null, .null, .null]))] H _ := w
  refine lv_aload_n hx hb d_G_init_32 rfl (lv_at hl 0 rfl) ?_
  refine lv_bipush (v := 10) hx hb d_G_init_33 (by decide) ?_
  refine lv_bipush (v := 6) hx hb d_G_init_35 (by decide) ?_
  refine R_mna (N := 10) (K := 6) C0 w wd_143 wd_93 (by decide) (by decide) (by decide) (by decide) (by decide) (by decide) (Nat.le_of_ble_eq_true rfl) (Nat.le_of_ble_eq_true rfl) d_G_init_37 (fun q4 H w => ?_)
  refine W.cs (cells' := 24) (slots' := 160) rfl rfl ?_
  have w : Wd D A s [(h, .inr (3, [.null, .null, .int 0, .ref q1, .ref q2, .ref q3, .null, .null, .null, .null, .null, .null, .null, .null]))] H _ := w
  refine R_putF C0 w 0 rfl rfl inG tyG_ok nmG 6 (by decide) wd_157 rfl hin rfl rfl rfl (Nat.le_of_ble_eq_true rfl) d_G_init_41 (fun H locs w => ?_)
  have w : Wd D A s [(h, .inr (3, [.null, .null, .int 0, .ref q1, .ref q2, .ref q3, .ref q4, .null, .null, .null, .null, .null, .null, .null]))] H _ := w
  refine lv_aload_n hx hb d_G_init_44 rfl (lv_at hl 0 rfl) ?_
  refine lv_bipush (v := 10) hx hb d_G_init_45 (by decide) ?_
  refine lv_bipush (v := 6) hx hb d_G_init_47 (by decide) ?_
  refine R_mna (N := 10) (K := 6) C0 w wd_143 wd_93 (by decide) (by decide) (by decide) (by decide) (by decide) (by decide) (Nat.le_of_ble_eq_true rfl) (Nat.le_of_ble_eq_true rfl) d_G_init_49 (fun q5 H w => ?_)
  refine W.cs (cells' := 35) (slots' := 230) rfl rfl ?_
  have w : Wd D A s [(h, .inr (3, [.null, .null, .int 0, .ref q1, .ref q2, .ref q3, .ref q4, .null, .null, .null, .null, .null, .null, .null]))] H _ := w
  refine R_putF C0 w 0 rfl rfl inG tyG_ok nmG 7 (by decide) wd_162 rfl hin rfl rfl rfl (Nat.le_of_ble_eq_true rfl) d_G_init_53 (fun H locs w => ?_)
  have w : Wd D A s [(h, .inr (3, [.null, .null, .int 0, .ref q1, .ref q2, .ref q3, .ref q4, .ref q5, .null, .null, .null, .null, .null, .null]))] H _ := w
  refine lv_aload_n hx hb d_G_init_56 rfl (lv_at hl 0 rfl) ?_
  refine lv_bipush (v := 10) hx hb d_G_init_57 (by decide) ?_
  refine lv_bipush (v := 6) hx hb d_G_init_59 (by decide) ?_
  refine R_mna (N := 10) (K := 6) C0 w wd_143 wd_93 (by decide) (by decide) (by decide) (by decide) (by decide) (by decide) (Nat.le_of_ble_eq_true rfl) (Nat.le_of_ble_eq_true rfl) d_G_init_61 (fun q6 H w => ?_)
  refine W.cs (cells' := 46) (slots' := 300) rfl rfl ?_
  have w : Wd D A s [(h, .inr (3, [.null, .null, .int 0, .ref q1, .ref q2, .ref q3, .ref q4, .ref q5, .null, .null, .null, .null, .null, .null]))] H _ := w
  refine R_putF C0 w 0 rfl rfl inG tyG_ok nmG 8 (by decide) wd_167 rfl hin rfl rfl rfl (Nat.le_of_ble_eq_true rfl) d_G_init_65 (fun H locs w => ?_)
  have w : Wd D A s [(h, .inr (3, [.null, .null, .int 0, .ref q1, .ref q2, .ref q3, .ref q4, .ref q5, .ref q6, .null, .null, .null, .null, .null]))] H _ := w
  refine lv_aload_n hx hb d_G_init_68 rfl (lv_at hl 0 rfl) ?_
  refine lv_bipush (v := 10) hx hb d_G_init_69 (by decide) ?_
  refine lv_bipush (v := 6) hx hb d_G_init_71 (by decide) ?_
  refine R_mna (N := 10) (K := 6) C0 w wd_143 wd_93 (by decide) (by decide) (by decide) (by decide) (by decide) (by decide) (Nat.le_of_ble_eq_true rfl) (Nat.le_of_ble_eq_true rfl) d_G_init_73 (fun q7 H w => ?_)
  refine W.cs (cells' := 57) (slots' := 370) rfl rfl ?_
  have w : Wd D A s [(h, .inr (3, [.null, .null, .int 0, .ref q1, .ref q2, .ref q3, .ref q4, .ref q5, .ref q6, .null, .null, .null, .null, .null]))] H _ := w
  refine R_putF C0 w 0 rfl rfl inG tyG_ok nmG 9 (by decide) wd_172 rfl hin rfl rfl rfl (Nat.le_of_ble_eq_true rfl) d_G_init_77 (fun H locs w => ?_)
  have w : Wd D A s [(h, .inr (3, [.null, .null, .int 0, .ref q1, .ref q2, .ref q3, .ref q4, .ref q5, .ref q6, .ref q7, .null, .null, .null, .null]))] H _ := w
  refine lv_aload_n hx hb d_G_init_80 rfl (lv_at hl 0 rfl) ?_
  refine lv_bipush (v := 10) hx hb d_G_init_81 (by decide) ?_
  refine R_newX (atype := .int) (N := 10) C0 w wd_93 (by decide) (by decide) (by decide) (Nat.le_of_ble_eq_true rfl) (Nat.le_of_ble_eq_true rfl) d_G_init_83 (fun q8 H w => ?_)
  refine W.cs (cells' := 58) (slots' := 380) rfl rfl ?_
  have w : Wd D A s [(h, .inr (3, [.null, .null, .int 0, .ref q1, .ref q2, .ref q3, .ref q4, .ref q5, .ref q6, .ref q7, .null, .null, .null, .null]))] H _ := w
  refine R_putF C0 w 0 rfl rfl inG tyG_ok nmG 10 (by decide) wd_177 rfl hin rfl rfl rfl (Nat.le_of_ble_eq_true rfl) d_G_init_85 (fun H locs w => ?_)
  have w : Wd D A s [(h, .inr (3, [.null, .null, .int 0, .ref q1, .ref q2, .ref q3, .ref q4, .ref q5, .ref q6, .ref q7, .ref q8, .null, .null, .null]))] H _ := w
  refine lv_aload_n hx hb d_G_init_88 rfl (lv_at hl 0 rfl) ?_
  refine lv_bipush (v := 126) hx hb d_G_init_89 (by decide) ?_
  refine R_newX (atype := .int) (N := 126) C0 w wd_93 (by decide) (by decide) (by decide) (Nat.le_of_ble_eq_true rfl) (Nat.le_of_ble_eq_true rfl) d_G_init_91 (fun q9 H w => ?_)
  refine W.cs (cells' := 59) (slots' := 506) rfl rfl ?_
  have w : Wd D A s [(h, .inr (3, [.null, .null, .int 0, .ref q1, .ref q2, .ref q3, .ref q4, .ref q5, .ref q6, .ref q7, .ref q8, .null, .null, .null]))] H _ := w
  refine R_putF C0 w 0 rfl rfl inG tyG_ok nmG 11 (by decide) wd_182 rfl hin rfl rfl rfl (Nat.le_of_ble_eq_true rfl) d_G_init_93 (fun H locs w => ?_)
  have w : Wd D A s [(h, .inr (3, [.null, .null, .int 0, .ref q1, .ref q2, .ref q3, .ref q4, .ref q5, .ref q6, .ref q7, .ref q8, .ref q9, .null, .null]))] H _ := w
  refine lv_aload_n hx hb d_G_init_96 rfl (lv_at hl 0 rfl) ?_
  refine lv_bipush (v := 126) hx hb d_G_init_97 (by decide) ?_
  refine R_newX (atype := .int) (N := 126) C0 w wd_93 (by decide) (by decide) (by decide) (Nat.le_of_ble_eq_true rfl) (Nat.le_of_ble_eq_true rfl) d_G_init_99 (fun q10 H w => ?_)
  refine W.cs (cells' := 60) (slots' := 632) rfl rfl ?_
  have w : Wd D A s [(h, .inr (3, [.null, .null, .int 0, .ref q1, .ref q2, .ref q3, .ref q4, .ref q5, .ref q6, .ref q7, .ref q8, .ref q9, .null, .null]))] H _ := w
  refine R_putF C0 w 0 rfl rfl inG tyG_ok nmG 12 (by decide) wd_185 rfl hin rfl rfl rfl (Nat.le_of_ble_eq_true rfl) d_G_init_101 (fun H locs w => ?_)
  have w : Wd D A s [(h, .inr (3, [.null, .null, .int 0, .ref q1, .ref q2, .ref q3, .ref q4, .ref q5, .ref q6, .ref q7, .ref q8, .ref q9, .ref q10, .null]))] H _ := w
  refine lv_aload_n hx hb d_G_init_104 rfl (lv_at hl 0 rfl) ?_
  refine lv_bipush (v := 126) hx hb d_G_init_105 (by decide) ?_
  refine R_newX (atype := .int) (N := 126) C0 w wd_93 (by decide) (by decide) (by decide) (Nat.le_of_ble_eq_true rfl) (Nat.le_of_ble_eq_true rfl) d_G_init_107 (fun q11 H w => ?_)
  refine W.cs (cells' := 61) (slots' := 758) rfl rfl ?_
  have w : Wd D A s [(h, .inr (3, [.null, .null, .int 0, .ref q1, .ref q2, .ref q3, .ref q4, .ref q5, .ref q6, .ref q7, .ref q8, .ref q9, .ref q10, .null]))] H _ := w
  refine R_putF C0 w 0 rfl rfl inG tyG_ok nmG 13 (by decide) wd_187 rfl hin rfl rfl rfl (Nat.le_of_ble_eq_true rfl) d_G_init_109 (fun H locs w => ?_)
  have w : Wd D A s [(h, .inr (3, [.null, .null, .int 0, .ref q1, .ref q2, .ref q3, .ref q4, .ref q5, .ref q6, .ref q7, .ref q8, .ref q9, .ref q10, .ref q11]))] H _ := w
  refine lv_aload_n hx hb d_G_init_112 rfl (lv_at hl 0 rfl) ?_
  refine lv_aload_n hx hb d_G_init_113 rfl (lv_at hl 1 rfl) ?_
  refine R_putF C0 w 0 rfl rfl inG tyG_ok nmG 0 (by decide) wd_144 rfl hin rfl rfl rfl (Nat.le_of_ble_eq_true rfl) d_G_init_114 (fun H locs w => ?_)
  have w : Wd D A s [(h, .inr (3, [.ref a1, .null, .int 0, .ref q1, .ref q2, .ref q3, .ref q4, .ref q5, .ref q6, .ref q7, .ref q8, .ref q9, .ref q10, .ref q11]))] H _ := w
  refine lv_aload_n hx hb d_G_init_117 rfl (lv_at hl 0 rfl) ?_
  refine lv_aload_n hx hb d_G_init_118 rfl (lv_at hl 2 rfl) ?_
  refine R_putF C0 w 0 rfl rfl inG tyG_ok nmG 1 (by decide) wd_145 rfl hin rfl rfl rfl (Nat.le_of_ble_eq_true rfl) d_G_init_119 (fun H locs w => ?_)
  have w : Wd D A s [(h, .inr (3, [.ref a1, .ref a2, .int 0, .ref q1, .ref q2, .ref q3, .ref q4, .ref q5, .ref q6, .ref q7, .ref q8, .ref q9, .ref q10, .ref q11]))] H _ := w
  exact hret _ _ _ _ d_G_init_122 w.2.2.1 (fun _ _ => trivial)
set_option maxHeartbeats 4000000 in
set_option maxRecDepth 100000 in
theorem c_K_init (l : Launch) (D : va_G) (cI cB cJ : ClassId) (h : Nat) (a1 : Nat) (a2 : Nat) (a3 : Nat) : KV l D cI cB cJ y_K_init b_K_init 4 1 12 3 262 [.ref h, .ref a1, .ref a2, .ref a3] [(h, .inr (4, [.null, .null, .null, .int 0, .null, .null, .null, .int 0]))] (fun _ _ => True) := by
  refine KV.ofW (by decide) (Nat.le_of_ble_eq_true rfl) ?_
  intro p e s m args below meth c A Q ls C0 hin hl w hret
  have hin : meth.name = "<init>" := hin
  have hx := C0.1
  have hb := C0.2.1
  have hl : lv_has ls 4 [(0, .ref h), (1, .ref a1), (2, .ref a2), (3, .ref a3)] := hl
  refine lv_aload_n hx hb d_K_init_0 rfl (lv_at hl 0 rfl) ?_
  refine W.objInit hx hb C0.2.2.2.1 (C0.2.2.2.2.1 _ wd_223) (C0.2.2.2.2.1 _ wd_23) (C0.2.2.2.2.1 _ wd_24) rfl (by rw [C0.2.2.1]; exact hl.1) rfl d_K_init_1 (Nat.le_of_ble_eq_true rfl) (Nat.le_of_ble_eq_true rfl) ?_
  refine W.eq (g2 := F0 m 4 ls []) rfl ?_
  refine lv_aload_n hx hb d_K_init_4 rfl (lv_at hl 0 rfl) ?_
  refine lv_bipush (v := 10) hx hb d_K_init_5 (by decide) ?_
  refine R_newX (atype := .int) (N := 10) C0 w wd_93 (by decide) (by decide) (by decide) (Nat.le_of_ble_eq_true rfl) (Nat.le_of_ble_eq_true rfl) d_K_init_7 (fun q1 H w => ?_)
  refine W.cs (cells' := 1) (slots' := 10) rfl rfl ?_
  have w : Wd D A s [(h, .inr (4, [.null, .null, .null, .int 0, .null, .null, .null, .int 0]))] H _ := w
  refine R_putF C0 w 0 rfl rfl inK tyK_ok nmK 4 (by decide) wd_230 rfl hin rfl rfl rfl (Nat.le_of_ble_eq_true rfl) d_K_init_9 (fun H locs w => ?_)
  have w : Wd D A s [(h, .inr (4, [.null, .null, .null, .int 0, .ref q1, .null, .null, .int 0]))] H _ := w
  refine lv_aload_n hx hb d_K_init_12 rfl (lv_at hl 0 rfl) ?_
  refine lv_bipush (v := 126) hx hb d_K_init_13 (by decide) ?_
  refine R_newX (atype := .int) (N := 126) C0 w wd_93 (by decide) (by decide) (by decide) (Nat.le_of_ble_eq_true rfl) (Nat.le_of_ble_eq_true rfl) d_K_init_15 (fun q2 H w => ?_)
  refine W.cs (cells' := 2) (slots' := 136) rfl rfl ?_
  have w : Wd D A s [(h, .inr (4, [.null, .null, .null, .int 0, .ref q1, .null, .null, .int 0]))] H _ := w
  refine R_putF C0 w 0 rfl rfl inK tyK_ok nmK 5 (by decide) wd_231 rfl hin rfl rfl rfl (Nat.le_of_ble_eq_true rfl) d_K_init_17 (fun H locs w => ?_)
  have w : Wd D A s [(h, .inr (4, [.null, .null, .null, .int 0, .ref q1, .ref q2, .null, .int 0]))] H _ := w
  refine lv_aload_n hx hb d_K_init_20 rfl (lv_at hl 0 rfl) ?_
  refine lv_bipush (v := 126) hx hb d_K_init_21 (by decide) ?_
  refine R_newX (atype := .int) (N := 126) C0 w wd_93 (by decide) (by decide) (by decide) (Nat.le_of_ble_eq_true rfl) (Nat.le_of_ble_eq_true rfl) d_K_init_23 (fun q3 H w => ?_)
  refine W.cs (cells' := 3) (slots' := 262) rfl rfl ?_
  have w : Wd D A s [(h, .inr (4, [.null, .null, .null, .int 0, .ref q1, .ref q2, .null, .int 0]))] H _ := w
  refine R_putF C0 w 0 rfl rfl inK tyK_ok nmK 6 (by decide) wd_235 rfl hin rfl rfl rfl (Nat.le_of_ble_eq_true rfl) d_K_init_25 (fun H locs w => ?_)
  have w : Wd D A s [(h, .inr (4, [.null, .null, .null, .int 0, .ref q1, .ref q2, .ref q3, .int 0]))] H _ := w
  refine lv_aload_n hx hb d_K_init_28 rfl (lv_at hl 0 rfl) ?_
  refine lv_aload_n hx hb d_K_init_29 rfl (lv_at hl 1 rfl) ?_
  refine R_putF C0 w 0 rfl rfl inK tyK_ok nmK 0 (by decide) wd_224 rfl hin rfl rfl rfl (Nat.le_of_ble_eq_true rfl) d_K_init_30 (fun H locs w => ?_)
  have w : Wd D A s [(h, .inr (4, [.ref a1, .null, .null, .int 0, .ref q1, .ref q2, .ref q3, .int 0]))] H _ := w
  refine lv_aload_n hx hb d_K_init_33 rfl (lv_at hl 0 rfl) ?_
  refine lv_aload_n hx hb d_K_init_34 rfl (lv_at hl 2 rfl) ?_
  refine R_putF C0 w 0 rfl rfl inK tyK_ok nmK 1 (by decide) wd_225 rfl hin rfl rfl rfl (Nat.le_of_ble_eq_true rfl) d_K_init_35 (fun H locs w => ?_)
  have w : Wd D A s [(h, .inr (4, [.ref a1, .ref a2, .null, .int 0, .ref q1, .ref q2, .ref q3, .int 0]))] H _ := w
  refine lv_aload_n hx hb d_K_init_38 rfl (lv_at hl 0 rfl) ?_
  refine lv_aload_n hx hb d_K_init_39 rfl (lv_at hl 3 rfl) ?_
  refine R_putF C0 w 0 rfl rfl inK tyK_ok nmK 2 (by decide) wd_226 rfl hin rfl rfl rfl (Nat.le_of_ble_eq_true rfl) d_K_init_40 (fun H locs w => ?_)
  have w : Wd D A s [(h, .inr (4, [.ref a1, .ref a2, .ref a3, .int 0, .ref q1, .ref q2, .ref q3, .int 0]))] H _ := w
  exact hret _ _ _ _ d_K_init_43 w.2.2.1 (fun _ _ => trivial)
set_option maxHeartbeats 4000000 in
set_option maxRecDepth 100000 in
theorem c_D_init (l : Launch) (D : va_G) (cI cB cJ : ClassId) (h : Nat) (a1 : Nat) (a2 : Nat) (a3 : Nat) : KV l D cI cB cJ y_D_init b_D_init 4 1 12 2 252 [.ref h, .ref a1, .ref a2, .ref a3] [(h, .inr (5, [.null, .null, .null, .null, .null, .int 0]))] (fun _ _ => True) := by
  refine KV.ofW (by decide) (Nat.le_of_ble_eq_true rfl) ?_
  intro p e s m args below meth c A Q ls C0 hin hl w hret
  have hin : meth.name = "<init>" := hin
  have hx := C0.1
  have hb := C0.2.1
  have hl : lv_has ls 4 [(0, .ref h), (1, .ref a1), (2, .ref a2), (3, .ref a3)] := hl
  refine lv_aload_n hx hb d_D_init_0 rfl (lv_at hl 0 rfl) ?_
  refine W.objInit hx hb C0.2.2.2.1 (C0.2.2.2.2.1 _ wd_261) (C0.2.2.2.2.1 _ wd_23) (C0.2.2.2.2.1 _ wd_24) rfl (by rw [C0.2.2.1]; exact hl.1) rfl d_D_init_1 (Nat.le_of_ble_eq_true rfl) (Nat.le_of_ble_eq_true rfl) ?_
  refine W.eq (g2 := F0 m 4 ls []) rfl ?_
  refine lv_aload_n hx hb d_D_init_4 rfl (lv_at hl 0 rfl) ?_
  refine lv_bipush (v := 126) hx hb d_D_init_5 (by decide) ?_
  refine R_newX (atype := .boolean) (N := 126) C0 w wd_283 (by decide) (by decide) (by decide) (Nat.le_of_ble_eq_true rfl) (Nat.le_of_ble_eq_true rfl) d_D_init_7 (fun q1 H w => ?_)
  refine W.cs (cells' := 1) (slots' := 126) rfl rfl ?_
  have w : Wd D A s [(h, .inr (5, [.null, .null, .null, .null, .null, .int 0]))] H _ := w
  refine R_putF C0 w 0 rfl rfl inD tyD_ok nmD 3 (by decide) wd_265 rfl hin rfl rfl rfl (Nat.le_of_ble_eq_true rfl) d_D_init_9 (fun H locs w => ?_)
  have w : Wd D A s [(h, .inr (5, [.null, .null, .null, .ref q1, .null, .int 0]))] H _ := w
  refine lv_aload_n hx hb d_D_init_12 rfl (lv_at hl 0 rfl) ?_
  refine lv_bipush (v := 126) hx hb d_D_init_13 (by decide) ?_
  refine R_newX (atype := .int) (N := 126) C0 w wd_93 (by decide) (by decide) (by decide) (Nat.le_of_ble_eq_true rfl) (Nat.le_of_ble_eq_true rfl) d_D_init_15 (fun q2 H w => ?_)
  refine W.cs (cells' := 2) (slots' := 252) rfl rfl ?_
  have w : Wd D A s [(h, .inr (5, [.null, .null, .null, .ref q1, .null, .int 0]))] H _ := w
  refine R_putF C0 w 0 rfl rfl inD tyD_ok nmD 4 (by decide) wd_268 rfl hin rfl rfl rfl (Nat.le_of_ble_eq_true rfl) d_D_init_17 (fun H locs w => ?_)
  have w : Wd D A s [(h, .inr (5, [.null, .null, .null, .ref q1, .ref q2, .int 0]))] H _ := w
  refine lv_aload_n hx hb d_D_init_20 rfl (lv_at hl 0 rfl) ?_
  refine lv_aload_n hx hb d_D_init_21 rfl (lv_at hl 1 rfl) ?_
  refine R_putF C0 w 0 rfl rfl inD tyD_ok nmD 0 (by decide) wd_262 rfl hin rfl rfl rfl (Nat.le_of_ble_eq_true rfl) d_D_init_22 (fun H locs w => ?_)
  have w : Wd D A s [(h, .inr (5, [.ref a1, .null, .null, .ref q1, .ref q2, .int 0]))] H _ := w
  refine lv_aload_n hx hb d_D_init_25 rfl (lv_at hl 0 rfl) ?_
  refine lv_aload_n hx hb d_D_init_26 rfl (lv_at hl 2 rfl) ?_
  refine R_putF C0 w 0 rfl rfl inD tyD_ok nmD 1 (by decide) wd_263 rfl hin rfl rfl rfl (Nat.le_of_ble_eq_true rfl) d_D_init_27 (fun H locs w => ?_)
  have w : Wd D A s [(h, .inr (5, [.ref a1, .ref a2, .null, .ref q1, .ref q2, .int 0]))] H _ := w
  refine lv_aload_n hx hb d_D_init_30 rfl (lv_at hl 0 rfl) ?_
  refine lv_aload_n hx hb d_D_init_31 rfl (lv_at hl 3 rfl) ?_
  refine R_putF C0 w 0 rfl rfl inD tyD_ok nmD 2 (by decide) wd_264 rfl hin rfl rfl rfl (Nat.le_of_ble_eq_true rfl) d_D_init_32 (fun H locs w => ?_)
  have w : Wd D A s [(h, .inr (5, [.ref a1, .ref a2, .ref a3, .ref q1, .ref q2, .int 0]))] H _ := w
  exact hret _ _ _ _ d_D_init_35 w.2.2.1 (fun _ _ => trivial)
set_option maxHeartbeats 4000000 in
set_option maxRecDepth 100000 in
theorem c_A_init (l : Launch) (D : va_G) (cI cB cJ : ClassId) (h : Nat) (a1 : Nat) (a2 : Nat) (a3 : Nat) (a4 : Nat) : KV l D cI cB cJ y_A_init b_A_init 5 1 12 5 194 [.ref h, .ref a1, .ref a2, .ref a3, .ref a4] [(h, .inr (6, [.null, .null, .null, .null, .int 0, .null, .null, .null, .null, .int 0, .null, .int 0, .int 0, .int 0]))] (fun A t => ∃ q : Nat → Nat, CE D (wA cI h q) A t) := by
  refine KV.ofW (by decide) (Nat.le_of_ble_eq_true rfl) ?_
  intro p e s m args below meth c A Q ls C0 hin hl w hret
  have hin : meth.name = "<init>" := hin
  have hx := C0.1
  have hb := C0.2.1
  have hl : lv_has ls 5 [(0, .ref h), (1, .ref a1), (2, .ref a2), (3, .ref a3), (4, .ref a4)] := hl
  refine lv_aload_n hx hb d_A_init_0 rfl (lv_at hl 0 rfl) ?_
  refine W.objInit hx hb C0.2.2.2.1 (C0.2.2.2.2.1 _ wd_289) (C0.2.2.2.2.1 _ wd_23) (C0.2.2.2.2.1 _ wd_24) rfl (by rw [C0.2.2.1]; exact hl.1) rfl d_A_init_1 (Nat.le_of_ble_eq_true rfl) (Nat.le_of_ble_eq_true rfl) ?_
  refine W.eq (g2 := F0 m 4 ls []) rfl ?_
  refine lv_aload_n hx hb d_A_init_4 rfl (lv_at hl 0 rfl) ?_
  refine lv_bipush (v := 16) hx hb d_A_init_5 (by decide) ?_
  refine R_newI (N := 16) C0 w wd_93 (by decide) (by decide) (by decide) (Nat.le_of_ble_eq_true rfl) (Nat.le_of_ble_eq_true rfl) d_A_init_7 (fun q1 H w => ?_)
  refine W.cs (cells' := 1) (slots' := 16) rfl rfl ?_
  have w : Wd D A s [(h, .inr (6, [.null, .null, .null, .null, .int 0, .null, .null, .null, .null, .int 0, .null, .int 0, .int 0, .int 0])), (q1, .inl (cI, 16, .inl (fun _ => 0)))] H _ := w
  refine R_putF C0 w 0 rfl rfl inA tyA_ok nmA 5 (by decide) wd_296 rfl hin rfl rfl rfl (Nat.le_of_ble_eq_true rfl) d_A_init_9 (fun H locs w => ?_)
  have w : Wd D A s [(h, .inr (6, [.null, .null, .null, .null, .int 0, .ref q1, .null, .null, .null, .int 0, .null, .int 0, .int 0, .int 0])), (q1, .inl (cI, 16, .inl (fun _ => 0)))] H _ := w
  refine lv_aload_n hx hb d_A_init_12 rfl (lv_at hl 0 rfl) ?_
  refine lv_bipush (v := 6) hx hb d_A_init_13 (by decide) ?_
  refine R_newX (atype := .int) (N := 6) C0 w wd_93 (by decide) (by decide) (by decide) (Nat.le_of_ble_eq_true rfl) (Nat.le_of_ble_eq_true rfl) d_A_init_15 (fun q2 H w => ?_)
  refine W.cs (cells' := 2) (slots' := 22) rfl rfl ?_
  have w : Wd D A s [(h, .inr (6, [.null, .null, .null, .null, .int 0, .ref q1, .null, .null, .null, .int 0, .null, .int 0, .int 0, .int 0])), (q1, .inl (cI, 16, .inl (fun _ => 0)))] H _ := w
  refine R_putF C0 w 0 rfl rfl inA tyA_ok nmA 6 (by decide) wd_297 rfl hin rfl rfl rfl (Nat.le_of_ble_eq_true rfl) d_A_init_17 (fun H locs w => ?_)
  have w : Wd D A s [(h, .inr (6, [.null, .null, .null, .null, .int 0, .ref q1, .ref q2, .null, .null, .int 0, .null, .int 0, .int 0, .int 0])), (q1, .inl (cI, 16, .inl (fun _ => 0)))] H _ := w
  refine lv_aload_n hx hb d_A_init_20 rfl (lv_at hl 0 rfl) ?_
  refine lv_bipush (v := 126) hx hb d_A_init_21 (by decide) ?_
  refine R_newX (atype := .int) (N := 126) C0 w wd_93 (by decide) (by decide) (by decide) (Nat.le_of_ble_eq_true rfl) (Nat.le_of_ble_eq_true rfl) d_A_init_23 (fun q3 H w => ?_)
  refine W.cs (cells' := 3) (slots' := 148) rfl rfl ?_
  have w : Wd D A s [(h, .inr (6, [.null, .null, .null, .null, .int 0, .ref q1, .ref q2, .null, .null, .int 0, .null, .int 0, .int 0, .int 0])), (q1, .inl (cI, 16, .inl (fun _ => 0)))] H _ := w
  refine R_putF C0 w 0 rfl rfl inA tyA_ok nmA 7 (by decide) wd_298 rfl hin rfl rfl rfl (Nat.le_of_ble_eq_true rfl) d_A_init_25 (fun H locs w => ?_)
  have w : Wd D A s [(h, .inr (6, [.null, .null, .null, .null, .int 0, .ref q1, .ref q2, .ref q3, .null, .int 0, .null, .int 0, .int 0, .int 0])), (q1, .inl (cI, 16, .inl (fun _ => 0)))] H _ := w
  refine lv_aload_n hx hb d_A_init_28 rfl (lv_at hl 0 rfl) ?_
  refine lv_bipush (v := 6) hx hb d_A_init_29 (by decide) ?_
  refine R_newX (atype := .int) (N := 6) C0 w wd_93 (by decide) (by decide) (by decide) (Nat.le_of_ble_eq_true rfl) (Nat.le_of_ble_eq_true rfl) d_A_init_31 (fun q4 H w => ?_)
  refine W.cs (cells' := 4) (slots' := 154) rfl rfl ?_
  have w : Wd D A s [(h, .inr (6, [.null, .null, .null, .null, .int 0, .ref q1, .ref q2, .ref q3, .null, .int 0, .null, .int 0, .int 0, .int 0])), (q1, .inl (cI, 16, .inl (fun _ => 0)))] H _ := w
  refine R_putF C0 w 0 rfl rfl inA tyA_ok nmA 8 (by decide) wd_299 rfl hin rfl rfl rfl (Nat.le_of_ble_eq_true rfl) d_A_init_33 (fun H locs w => ?_)
  have w : Wd D A s [(h, .inr (6, [.null, .null, .null, .null, .int 0, .ref q1, .ref q2, .ref q3, .ref q4, .int 0, .null, .int 0, .int 0, .int 0])), (q1, .inl (cI, 16, .inl (fun _ => 0)))] H _ := w
  refine lv_aload_n hx hb d_A_init_36 rfl (lv_at hl 0 rfl) ?_
  refine lv_bipush (v := 40) hx hb d_A_init_37 (by decide) ?_
  refine R_newX (atype := .int) (N := 40) C0 w wd_93 (by decide) (by decide) (by decide) (Nat.le_of_ble_eq_true rfl) (Nat.le_of_ble_eq_true rfl) d_A_init_39 (fun q5 H w => ?_)
  refine W.cs (cells' := 5) (slots' := 194) rfl rfl ?_
  have w : Wd D A s [(h, .inr (6, [.null, .null, .null, .null, .int 0, .ref q1, .ref q2, .ref q3, .ref q4, .int 0, .null, .int 0, .int 0, .int 0])), (q1, .inl (cI, 16, .inl (fun _ => 0)))] H _ := w
  refine R_putF C0 w 0 rfl rfl inA tyA_ok nmA 10 (by decide) wd_302 rfl hin rfl rfl rfl (Nat.le_of_ble_eq_true rfl) d_A_init_41 (fun H locs w => ?_)
  have w : Wd D A s [(h, .inr (6, [.null, .null, .null, .null, .int 0, .ref q1, .ref q2, .ref q3, .ref q4, .int 0, .ref q5, .int 0, .int 0, .int 0])), (q1, .inl (cI, 16, .inl (fun _ => 0)))] H _ := w
  refine lv_aload_n hx hb d_A_init_44 rfl (lv_at hl 0 rfl) ?_
  refine lv_aload_n hx hb d_A_init_45 rfl (lv_at hl 1 rfl) ?_
  refine R_putF C0 w 0 rfl rfl inA tyA_ok nmA 0 (by decide) wd_290 rfl hin rfl rfl rfl (Nat.le_of_ble_eq_true rfl) d_A_init_46 (fun H locs w => ?_)
  have w : Wd D A s [(h, .inr (6, [.ref a1, .null, .null, .null, .int 0, .ref q1, .ref q2, .ref q3, .ref q4, .int 0, .ref q5, .int 0, .int 0, .int 0])), (q1, .inl (cI, 16, .inl (fun _ => 0)))] H _ := w
  refine lv_aload_n hx hb d_A_init_49 rfl (lv_at hl 0 rfl) ?_
  refine lv_aload_n hx hb d_A_init_50 rfl (lv_at hl 2 rfl) ?_
  refine R_putF C0 w 0 rfl rfl inA tyA_ok nmA 1 (by decide) wd_291 rfl hin rfl rfl rfl (Nat.le_of_ble_eq_true rfl) d_A_init_51 (fun H locs w => ?_)
  have w : Wd D A s [(h, .inr (6, [.ref a1, .ref a2, .null, .null, .int 0, .ref q1, .ref q2, .ref q3, .ref q4, .int 0, .ref q5, .int 0, .int 0, .int 0])), (q1, .inl (cI, 16, .inl (fun _ => 0)))] H _ := w
  refine lv_aload_n hx hb d_A_init_54 rfl (lv_at hl 0 rfl) ?_
  refine lv_aload_n hx hb d_A_init_55 rfl (lv_at hl 3 rfl) ?_
  refine R_putF C0 w 0 rfl rfl inA tyA_ok nmA 2 (by decide) wd_292 rfl hin rfl rfl rfl (Nat.le_of_ble_eq_true rfl) d_A_init_56 (fun H locs w => ?_)
  have w : Wd D A s [(h, .inr (6, [.ref a1, .ref a2, .ref a3, .null, .int 0, .ref q1, .ref q2, .ref q3, .ref q4, .int 0, .ref q5, .int 0, .int 0, .int 0])), (q1, .inl (cI, 16, .inl (fun _ => 0)))] H _ := w
  refine lv_aload_n hx hb d_A_init_59 rfl (lv_at hl 0 rfl) ?_
  refine lv_aload hx hb d_A_init_60 (lv_at hl 4 rfl) ?_
  refine R_putF C0 w 0 rfl rfl inA tyA_ok nmA 3 (by decide) wd_293 rfl hin rfl rfl rfl (Nat.le_of_ble_eq_true rfl) d_A_init_62 (fun H locs w => ?_)
  have w : Wd D A s [(h, .inr (6, [.ref a1, .ref a2, .ref a3, .ref a4, .int 0, .ref q1, .ref q2, .ref q3, .ref q4, .int 0, .ref q5, .int 0, .int 0, .int 0])), (q1, .inl (cI, 16, .inl (fun _ => 0)))] H _ := w
  exact hret _ _ _ _ d_A_init_65 w.2.2.1 (fun t ht => ⟨fun k => [a1, a2, a3, a4, 0, q1, q2, q3, q4, 0, q5, 0, 0, 0].getD k 0, by rw [ht]; exact (w.sub [0, 1] rfl rfl).1, (w.sub [0, 1] rfl rfl).2.1⟩)
set_option maxHeartbeats 4000000 in
set_option maxRecDepth 100000 in
theorem c_R_init (l : Launch) (D : va_G) (cI cB cJ : ClassId) (h : Nat) : KV l D cI cB cJ y_R_init b_R_init 1 1 12 30 1504 [.ref h] [(h, .inr (7, [.int 0, .int 0, .null, .null, .null, .null, .null, .null, .null, .null, .null, .int 0, .int 0, .null, .null, .null, .null, .int 0, .null, .null, .null, .null, .null, .null, .null, .null, .null, .int 0, .null, .null, .null, .null, .int 0, .null, .int 0, .int 0, .null, .int 0, .int 0, .null, .null]))] (fun A t => ∃ q : Nat → Nat, CE D (wR cI h q) A t) := by
  refine KV.ofW (by decide) (Nat.le_of_ble_eq_true rfl) ?_
  intro p e s m args below meth c A Q ls C0 hin hl w hret
  have hin : meth.name = "<init>" := hin
  have hx := C0.1
  have hb := C0.2.1
  have hl : lv_has ls 1 [(0, .ref h)] := hl
  refine lv_aload_n hx hb d_R_init_0 rfl (lv_at hl 0 rfl) ?_
  refine W.objInit hx hb C0.2.2.2.1 (C0.2.2.2.2.1 _ wd_827) (C0.2.2.2.2.1 _ wd_23) (C0.2.2.2.2.1 _ wd_24) rfl (by rw [C0.2.2.1]; exact hl.1) rfl d_R_init_1 (Nat.le_of_ble_eq_true rfl) (Nat.le_of_ble_eq_true rfl) ?_
  refine W.eq (g2 := F0 m 4 ls []) rfl ?_
  refine lv_aload_n hx hb d_R_init_4 rfl (lv_at hl 0 rfl) ?_
  refine lv_bipush (v := 10) hx hb d_R_init_5 (by decide) ?_
  refine R_newI (N := 10) C0 w wd_93 (by decide) (by decide) (by decide) (Nat.le_of_ble_eq_true rfl) (Nat.le_of_ble_eq_true rfl) d_R_init_7 (fun q1 H w => ?_)
  refine W.cs (cells' := 1) (slots' := 10) rfl rfl ?_
  have w : Wd D A s [(h, .inr (7, [.int 0, .int 0, .null, .null, .null, .null, .null, .null, .null, .null, .null, .int 0, .int 0, .null, .null, .null, .null, .int 0, .null, .null, .null, .null, .null, .null, .null, .null, .null, .int 0, .null, .null, .null, .null, .int 0, .null, .int 0, .int 0, .null, .int 0, .int 0, .null, .null])), (q1, .inl (cI, 10, .inl (fun _ => 0)))] H _ := w
  refine R_putF C0 w 0 rfl rfl inR tyR_ok nmR 2 (by decide) wd_830 rfl hin rfl rfl rfl (Nat.le_of_ble_eq_true rfl) d_R_init_9 (fun H locs w => ?_)
  have w : Wd D A s [(h, .inr (7, [.int 0, .int 0, .ref q1, .null, .null, .null, .null, .null, .null, .null, .null, .int 0, .int 0, .null, .null, .null, .null, .int 0, .null, .null, .null, .null, .null, .null, .null, .null, .null, .int 0, .null, .null, .null, .null, .int 0, .null, .int 0, .int 0, .null, .int 0, .int 0, .null, .null])), (q1, .inl (cI, 10, .inl (fun _ => 0)))] H _ := w
  refine lv_aload_n hx hb d_R_init_12 rfl (lv_at hl 0 rfl) ?_
  refine lv_bipush (v := 60) hx hb d_R_init_13 (by decide) ?_
  refine R_newX (atype := .int) (N := 60) C0 w wd_93 (by decide) (by decide) (by decide) (Nat.le_of_ble_eq_true rfl) (Nat.le_of_ble_eq_true rfl) d_R_init_15 (fun q2 H w => ?_)
  refine W.cs (cells' := 2) (slots' := 70) rfl rfl ?_
  have w : Wd D A s [(h, .inr (7, [.int 0, .int 0, .ref q1, .null, .null, .null, .null, .null, .null, .null, .null, .int 0, .int 0, .null, .null, .null, .null, .int 0, .null, .null, .null, .null, .null, .null, .null, .null, .null, .int 0, .null, .null, .null, .null, .int 0, .null, .int 0, .int 0, .null, .int 0, .int 0, .null, .null])), (q1, .inl (cI, 10, .inl (fun _ => 0)))] H _ := w
  refine R_putF C0 w 0 rfl rfl inR tyR_ok nmR 3 (by decide) wd_831 rfl hin rfl rfl rfl (Nat.le_of_ble_eq_true rfl) d_R_init_17 (fun H locs w => ?_)
  have w : Wd D A s [(h, .inr (7, [.int 0, .int 0, .ref q1, .ref q2, .null, .null, .null, .null, .null, .null, .null, .int 0, .int 0, .null, .null, .null, .null, .int 0, .null, .null, .null, .null, .null, .null, .null, .null, .null, .int 0, .null, .null, .null, .null, .int 0, .null, .int 0, .int 0, .null, .int 0, .int 0, .null, .null])), (q1, .inl (cI, 10, .inl (fun _ => 0)))] H _ := w
  refine lv_aload_n hx hb d_R_init_20 rfl (lv_at hl 0 rfl) ?_
  refine lv_bipush (v := 60) hx hb d_R_init_21 (by decide) ?_
  refine R_newX (atype := .int) (N := 60) C0 w wd_93 (by decide) (by decide) (by decide) (Nat.le_of_ble_eq_true rfl) (Nat.le_of_ble_eq_true rfl) d_R_init_23 (fun q3 H w => ?_)
  refine W.cs (cells' := 3) (slots' := 130) rfl rfl ?_
  have w : Wd D A s [(h, .inr (7, [.int 0, .int 0, .ref q1, .ref q2, .null, .null, .null, .null, .null, .null, .null, .int 0, .int 0, .null, .null, .null, .null, .int 0, .null, .null, .null, .null, .null, .null, .null, .null, .null, .int 0, .null, .null, .null, .null, .int 0, .null, .int 0, .int 0, .null, .int 0, .int 0, .null, .null])), (q1, .inl (cI, 10, .inl (fun _ => 0)))] H _ := w
  refine R_putF C0 w 0 rfl rfl inR tyR_ok nmR 4 (by decide) wd_832 rfl hin rfl rfl rfl (Nat.le_of_ble_eq_true rfl) d_R_init_25 (fun H locs w => ?_)
  have w : Wd D A s [(h, .inr (7, [.int 0, .int 0, .ref q1, .ref q2, .ref q3, .null, .null, .null, .null, .null, .null, .int 0, .int 0, .null, .null, .null, .null, .int 0, .null, .null, .null, .null, .null, .null, .null, .null, .null, .int 0, .null, .null, .null, .null, .int 0, .null, .int 0, .int 0, .null, .int 0, .int 0, .null, .null])), (q1, .inl (cI, 10, .inl (fun _ => 0)))] H _ := w
  refine lv_aload_n hx hb d_R_init_28 rfl (lv_at hl 0 rfl) ?_
  refine lv_bipush (v := 60) hx hb d_R_init_29 (by decide) ?_
  refine R_newX (atype := .int) (N := 60) C0 w wd_93 (by decide) (by decide) (by decide) (Nat.le_of_ble_eq_true rfl) (Nat.le_of_ble_eq_true rfl) d_R_init_31 (fun q4 H w => ?_)
  refine W.cs (cells' := 4) (slots' := 190) rfl rfl ?_
  have w : Wd D A s [(h, .inr (7, [.int 0, .int 0, .ref q1, .ref q2, .ref q3, .null, .null, .null, .null, .null, .null, .int 0, .int 0, .null, .null, .null, .null, .int 0, .null, .null, .null, .null, .null, .null, .null, .null, .null, .int 0, .null, .null, .null, .null, .int 0, .null, .int 0, .int 0, .null, .int 0, .int 0, .null, .null])), (q1, .inl (cI, 10, .inl (fun _ => 0)))] H _ := w
  refine R_putF C0 w 0 rfl rfl inR tyR_ok nmR 5 (by decide) wd_833 rfl hin rfl rfl rfl (Nat.le_of_ble_eq_true rfl) d_R_init_33 (fun H locs w => ?_)
  have w : Wd D A s [(h, .inr (7, [.int 0, .int 0, .ref q1, .ref q2, .ref q3, .ref q4, .null, .null, .null, .null, .null, .int 0, .int 0, .null, .null, .null, .null, .int 0, .null, .null, .null, .null, .null, .null, .null, .null, .null, .int 0, .null, .null, .null, .null, .int 0, .null, .int 0, .int 0, .null, .int 0, .int 0, .null, .null])), (q1, .inl (cI, 10, .inl (fun _ => 0)))] H _ := w
  refine lv_aload_n hx hb d_R_init_36 rfl (lv_at hl 0 rfl) ?_
  refine lv_bipush (v := 60) hx hb d_R_init_37 (by decide) ?_
  refine R_newX (atype := .int) (N := 60) C0 w wd_93 (by decide) (by decide) (by decide) (Nat.le_of_ble_eq_true rfl) (Nat.le_of_ble_eq_true rfl) d_R_init_39 (fun q5 H w => ?_)
  refine W.cs (cells' := 5) (slots' := 250) rfl rfl ?_
  have w : Wd D A s [(h, .inr (7, [.int 0, .int 0, .ref q1, .ref q2, .ref q3, .ref q4, .null, .null, .null, .null, .null, .int 0, .int 0, .null, .null, .null, .null, .int 0, .null, .null, .null, .null, .null, .null, .null, .null, .null, .int 0, .null, .null, .null, .null, .int 0, .null, .int 0, .int 0, .null, .int 0, .int 0, .null, .null])), (q1, .inl (cI, 10, .inl (fun _ => 0)))] H _ := w
  refine R_putF C0 w 0 rfl rfl inR tyR_ok nmR 6 (by decide) wd_834 rfl hin rfl rfl rfl (Nat.le_of_ble_eq_true rfl) d_R_init_41 (fun H locs w => ?_)
  have w : Wd D A s [(h, .inr (7, [.int 0, .int 0, .ref q1, .ref q2, .ref q3, .ref q4, .ref q5, .null, .null, .null, .null, .int 0, .int 0, .null, .null, .null, .null, .int 0, .null, .null, .null, .null, .null, .null, .null, .null, .null, .int 0, .null, .null, .null, .null, .int 0, .null, .int 0, .int 0, .null, .int 0, .int 0, .null, .null])), (q1, .inl (cI, 10, .inl (fun _ => 0)))] H _ := w
  refine lv_aload_n hx hb d_R_init_44 rfl (lv_at hl 0 rfl) ?_
  refine lv_bipush (v := 10) hx hb d_R_init_45 (by decide) ?_
  refine R_newI (N := 10) C0 w wd_93 (by decide) (by decide) (by decide) (Nat.le_of_ble_eq_true rfl) (Nat.le_of_ble_eq_true rfl) d_R_init_47 (fun q6 H w => ?_)
  refine W.cs (cells' := 6) (slots' := 260) rfl rfl ?_
  have w : Wd D A s [(h, .inr (7, [.int 0, .int 0, .ref q1, .ref q2, .ref q3, .ref q4, .ref q5, .null, .null, .null, .null, .int 0, .int 0, .null, .null, .null, .null, .int 0, .null, .null, .null, .null, .null, .null, .null, .null, .null, .int 0, .null, .null, .null, .null, .int 0, .null, .int 0, .int 0, .null, .int 0, .int 0, .null, .null])), (q1, .inl (cI, 10, .inl (fun _ => 0))), (q6, .inl (cI, 10, .inl (fun _ => 0)))] H _ := w
  refine R_putF C0 w 0 rfl rfl inR tyR_ok nmR 7 (by decide) wd_835 rfl hin rfl rfl rfl (Nat.le_of_ble_eq_true rfl) d_R_init_49 (fun H locs w => ?_)
  have w : Wd D A s [(h, .inr (7, [.int 0, .int 0, .ref q1, .ref q2, .ref q3, .ref q4, .ref q5, .ref q6, .null, .null, .null, .int 0, .int 0, .null, .null, .null, .null, .int 0, .null, .null, .null, .null, .null, .null, .null, .null, .null, .int 0, .null, .null, .null, .null, .int 0, .null, .int 0, .int 0, .null, .int 0, .int 0, .null, .null])), (q1, .inl (cI, 10, .inl (fun _ => 0))), (q6, .inl (cI, 10, .inl (fun _ => 0)))] H _ := w
  refine lv_aload_n hx hb d_R_init_52 rfl (lv_at hl 0 rfl) ?_
  refine lv_bipush (v := 10) hx hb d_R_init_53 (by decide) ?_
  refine R_newX (atype := .int) (N := 10) C0 w wd_93 (by decide) (by decide) (by decide) (Nat.le_of_ble_eq_true rfl) (Nat.le_of_ble_eq_true rfl) d_R_init_55 (fun q7 H w => ?_)
  refine W.cs (cells' := 7) (slots' := 270) rfl rfl ?_
  have w : Wd D A s [(h, .inr (7, [.int 0, .int 0, .ref q1, .ref q2, .ref q3, .ref q4, .ref q5, .ref q6, .null, .null, .null, .int 0, .int 0, .null, .null, .null, .null, .int 0, .null, .null, .null, .null, .null, .null, .null, .null, .null, .int 0, .null, .null, .null, .null, .int 0, .null, .int 0, .int 0, .null, .int 0, .int 0, .null, .null])), (q1, .inl (cI, 10, .inl (fun _ => 0))), (q6, .inl (cI, 10, .inl (fun _ => 0)))] H _ := w
  refine R_putF C0 w 0 rfl rfl inR tyR_ok nmR 8 (by decide) wd_836 rfl hin rfl rfl rfl (Nat.le_of_ble_eq_true rfl) d_R_init_57 (fun H locs w => ?_)
  have w : Wd D A s [(h, .inr (7, [.int 0, .int 0, .ref q1, .ref q2, .ref q3, .ref q4, .ref q5, .ref q6, .ref q7, .null, .null, .int 0, .int 0, .null, .null, .null, .null, .int 0, .null, .null, .null, .null, .null, .null, .null, .null, .null, .int 0, .null, .null, .null, .null, .int 0, .null, .int 0, .int 0, .null, .int 0, .int 0, .null, .null])), (q1, .inl (cI, 10, .inl (fun _ => 0))), (q6, .inl (cI, 10, .inl (fun _ => 0)))] H _ := w
  refine lv_aload_n hx hb d_R_init_60 rfl (lv_at hl 0 rfl) ?_
  refine lv_bipush (v := 10) hx hb d_R_init_61 (by decide) ?_
  refine R_newX (atype := .int) (N := 10) C0 w wd_93 (by decide) (by decide) (by decide) (Nat.le_of_ble_eq_true rfl) (Nat.le_of_ble_eq_true rfl) d_R_init_63 (fun q8 H w => ?_)
  refine W.cs (cells' := 8) (slots' := 280) rfl rfl ?_
  have w : Wd D A s [(h, .inr (7, [.int 0, .int 0, .ref q1, .ref q2, .ref q3, .ref q4, .ref q5, .ref q6, .ref q7, .null, .null, .int 0, .int 0, .null, .null, .null, .null, .int 0, .null, .null, .null, .null, .null, .null, .null, .null, .null, .int 0, .null, .null, .null, .null, .int 0, .null, .int 0, .int 0, .null, .int 0, .int 0, .null, .null])), (q1, .inl (cI, 10, .inl (fun _ => 0))), (q6, .inl (cI, 10, .inl (fun _ => 0)))] H _ := w
  refine R_putF C0 w 0 rfl rfl inR tyR_ok nmR 9 (by decide) wd_837 rfl hin rfl rfl rfl (Nat.le_of_ble_eq_true rfl) d_R_init_65 (fun H locs w => ?_)
  have w : Wd D A s [(h, .inr (7, [.int 0, .int 0, .ref q1, .ref q2, .ref q3, .ref q4, .ref q5, .ref q6, .ref q7, .ref q8, .null, .int 0, .int 0, .null, .null, .null, .null, .int 0, .null, .null, .null, .null, .null, .null, .null, .null, .null, .int 0, .null, .null, .null, .null, .int 0, .null, .int 0, .int 0, .null, .int 0, .int 0, .null, .null])), (q1, .inl (cI, 10, .inl (fun _ => 0))), (q6, .inl (cI, 10, .inl (fun _ => 0)))] H _ := w
  refine lv_aload_n hx hb d_R_init_68 rfl (lv_at hl 0 rfl) ?_
  refine lv_bipush (v := 10) hx hb d_R_init_69 (by decide) ?_
  refine R_newX (atype := .int) (N := 10) C0 w wd_93 (by decide) (by decide) (by decide) (Nat.le_of_ble_eq_true rfl) (Nat.le_of_ble_eq_true rfl) d_R_init_71 (fun q9 H w => ?_)
  refine W.cs (cells' := 9) (slots' := 290) rfl rfl ?_
  have w : Wd D A s [(h, .inr (7, [.int 0, .int 0, .ref q1, .ref q2, .ref q3, .ref q4, .ref q5, .ref q6, .ref q7, .ref q8, .null, .int 0, .int 0, .null, .null, .null, .null, .int 0, .null, .null, .null, .null, .null, .null, .null, .null, .null, .int 0, .null, .null, .null, .null, .int 0, .null, .int 0, .int 0, .null, .int 0, .int 0, .null, .null])), (q1, .inl (cI, 10, .inl (fun _ => 0))), (q6, .inl (cI, 10, .inl (fun _ => 0)))] H _ := w
  refine R_putF C0 w 0 rfl rfl inR tyR_ok nmR 10 (by decide) wd_838 rfl hin rfl rfl rfl (Nat.le_of_ble_eq_true rfl) d_R_init_73 (fun H locs w => ?_)
  have w : Wd D A s [(h, .inr (7, [.int 0, .int 0, .ref q1, .ref q2, .ref q3, .ref q4, .ref q5, .ref q6, .ref q7, .ref q8, .ref q9, .int 0, .int 0, .null, .null, .null, .null, .int 0, .null, .null, .null, .null, .null, .null, .null, .null, .null, .int 0, .null, .null, .null, .null, .int 0, .null, .int 0, .int 0, .null, .int 0, .int 0, .null, .null])), (q1, .inl (cI, 10, .inl (fun _ => 0))), (q6, .inl (cI, 10, .inl (fun _ => 0)))] H _ := w
  refine lv_aload_n hx hb d_R_init_76 rfl (lv_at hl 0 rfl) ?_
  refine lv_bipush (v := 10) hx hb d_R_init_77 (by decide) ?_
  refine R_newX (atype := .int) (N := 10) C0 w wd_93 (by decide) (by decide) (by decide) (Nat.le_of_ble_eq_true rfl) (Nat.le_of_ble_eq_true rfl) d_R_init_79 (fun q10 H w => ?_)
  refine W.cs (cells' := 10) (slots' := 300) rfl rfl ?_
  have w : Wd D A s [(h, .inr (7, [.int 0, .int 0, .ref q1, .ref q2, .ref q3, .ref q4, .ref q5, .ref q6, .ref q7, .ref q8, .ref q9, .int 0, .int 0, .null, .null, .null, .null, .int 0, .null, .null, .null, .null, .null, .null, .null, .null, .null, .int 0, .null, .null, .null, .null, .int 0, .null, .int 0, .int 0, .null, .int 0, .int 0, .null, .null])), (q1, .inl (cI, 10, .inl (fun _ => 0))), (q6, .inl (cI, 10, .inl (fun _ => 0)))] H _ := w
  refine R_putF C0 w 0 rfl rfl inR tyR_ok nmR 13 (by decide) wd_841 rfl hin rfl rfl rfl (Nat.le_of_ble_eq_true rfl) d_R_init_81 (fun H locs w => ?_)
  have w : Wd D A s [(h, .inr (7, [.int 0, .int 0, .ref q1, .ref q2, .ref q3, .ref q4, .ref q5, .ref q6, .ref q7, .ref q8, .ref q9, .int 0, .int 0, .ref q10, .null, .null, .null, .int 0, .null, .null, .null, .null, .null, .null, .null, .null, .null, .int 0, .null, .null, .null, .null, .int 0, .null, .int 0, .int 0, .null, .int 0, .int 0, .null, .null])), (q1, .inl (cI, 10, .inl (fun _ => 0))), (q6, .inl (cI, 10, .inl (fun _ => 0)))] H _ := w
  refine lv_aload_n hx hb d_R_init_84 rfl (lv_at hl 0 rfl) ?_
  refine lv_bipush (v := 10) hx hb d_R_init_85 (by decide) ?_
  refine R_newX (atype := .int) (N := 10) C0 w wd_93 (by decide) (by decide) (by decide) (Nat.le_of_ble_eq_true rfl) (Nat.le_of_ble_eq_true rfl) d_R_init_87 (fun q11 H w => ?_)
  refine W.cs (cells' := 11) (slots' := 310) rfl rfl ?_
  have w : Wd D A s [(h, .inr (7, [.int 0, .int 0, .ref q1, .ref q2, .ref q3, .ref q4, .ref q5, .ref q6, .ref q7, .ref q8, .ref q9, .int 0, .int 0, .ref q10, .null, .null, .null, .int 0, .null, .null, .null, .null, .null, .null, .null, .null, .null, .int 0, .null, .null, .null, .null, .int 0, .null, .int 0, .int 0, .null, .int 0, .int 0, .null, .null])), (q1, .inl (cI, 10, .inl (fun _ => 0))), (q6, .inl (cI, 10, .inl (fun _ => 0)))] H _ := w
  refine R_putF C0 w 0 rfl rfl inR tyR_ok nmR 14 (by decide) wd_842 rfl hin rfl rfl rfl (Nat.le_of_ble_eq_true rfl) d_R_init_89 (fun H locs w => ?_)
  have w : Wd D A s [(h, .inr (7, [.int 0, .int 0, .ref q1, .ref q2, .ref q3, .ref q4, .ref q5, .ref q6, .ref q7, .ref q8, .ref q9, .int 0, .int 0, .ref q10, .ref q11, .null, .null, .int 0, .null, .null, .null, .null, .null, .null, .null, .null, .null, .int 0, .null, .null, .null, .null, .int 0, .null, .int 0, .int 0, .null, .int 0, .int 0, .null, .null])), (q1, .inl (cI, 10, .inl (fun _ => 0))), (q6, .inl (cI, 10, .inl (fun _ => 0)))] H _ := w
  refine lv_aload_n hx hb d_R_init_92 rfl (lv_at hl 0 rfl) ?_
  refine lv_bipush (v := 10) hx hb d_R_init_93 (by decide) ?_
  refine R_newX (atype := .int) (N := 10) C0 w wd_93 (by decide) (by decide) (by decide) (Nat.le_of_ble_eq_true rfl) (Nat.le_of_ble_eq_true rfl) d_R_init_95 (fun q12 H w => ?_)
  refine W.cs (cells' := 12) (slots' := 320) rfl rfl ?_
  have w : Wd D A s [(h, .inr (7, [.int 0, .int 0, .ref q1, .ref q2, .ref q3, .ref q4, .ref q5, .ref q6, .ref q7, .ref q8, .ref q9, .int 0, .int 0, .ref q10, .ref q11, .null, .null, .int 0, .null, .null, .null, .null, .null, .null, .null, .null, .null, .int 0, .null, .null, .null, .null, .int 0, .null, .int 0, .int 0, .null, .int 0, .int 0, .null, .null])), (q1, .inl (cI, 10, .inl (fun _ => 0))), (q6, .inl (cI, 10, .inl (fun _ => 0)))] H _ := w
  refine R_putF C0 w 0 rfl rfl inR tyR_ok nmR 15 (by decide) wd_843 rfl hin rfl rfl rfl (Nat.le_of_ble_eq_true rfl) d_R_init_97 (fun H locs w => ?_)
  have w : Wd D A s [(h, .inr (7, [.int 0, .int 0, .ref q1, .ref q2, .ref q3, .ref q4, .ref q5, .ref q6, .ref q7, .ref q8, .ref q9, .int 0, .int 0, .ref q10, .ref q11, .ref q12, .null, .int 0, .null, .null, .null, .null, .null, .null, .null, .null, .null, .int 0, .null, .null, .null, .null, .int 0, .null, .int 0, .int 0, .null, .int 0, .int 0, .null, .null])), (q1, .inl (cI, 10, .inl (fun _ => 0))), (q6, .inl (cI, 10, .inl (fun _ => 0)))] H _ := w
  refine lv_aload_n hx hb d_R_init_100 rfl (lv_at hl 0 rfl) ?_
  refine lv_bipush (v := 10) hx hb d_R_init_101 (by decide) ?_
  refine R_newX (atype := .int) (N := 10) C0 w wd_93 (by decide) (by decide) (by decide) (Nat.le_of_ble_eq_true rfl) (Nat.le_of_ble_eq_true rfl) d_R_init_103 (fun q13 H w => ?_)
  refine W.cs (cells' := 13) (slots' := 330) rfl rfl ?_
  have w : Wd D A s [(h, .inr (7, [.int 0, .int 0, .ref q1, .ref q2, .ref q3, .ref q4, .ref q5, .ref q6, .ref q7, .ref q8, .ref q9, .int 0, .int 0, .ref q10, .ref q11, .ref q12, .null, .int 0, .null, .null, .null, .null, .null, .null, .null, .null, .null, .int 0, .null, .null, .null, .null, .int 0, .null, .int 0, .int 0, .null, .int 0, .int 0, .null, .null])), (q1, .inl (cI, 10, .inl (fun _ => 0))), (q6, .inl (cI, 10, .inl (fun _ => 0)))] H _ := w
  refine R_putF C0 w 0 rfl rfl inR tyR_ok nmR 16 (by decide) wd_844 rfl hin rfl rfl rfl (Nat.le_of_ble_eq_true rfl) d_R_init_105 (fun H locs w => ?_)
  have w : Wd D A s [(h, .inr (7, [.int 0, .int 0, .ref q1, .ref q2, .ref q3, .ref q4, .ref q5, .ref q6, .ref q7, .ref q8, .ref q9, .int 0, .int 0, .ref q10, .ref q11, .ref q12, .ref q13, .int 0, .null, .null, .null, .null, .null, .null, .null, .null, .null, .int 0, .null, .null, .null, .null, .int 0, .null, .int 0, .int 0, .null, .int 0, .int 0, .null, .null])), (q1, .inl (cI, 10, .inl (fun _ => 0))), (q6, .inl (cI, 10, .inl (fun _ => 0)))] H _ := w
  refine lv_aload_n hx hb d_R_init_108 rfl (lv_at hl 0 rfl) ?_
  refine lv_sipush (v := 130) hx hb d_R_init_109 (by decide) ?_
  refine R_newX (atype := .int) (N := 130) C0 w wd_93 (by decide) (by decide) (by decide) (Nat.le_of_ble_eq_true rfl) (Nat.le_of_ble_eq_true rfl) d_R_init_112 (fun q14 H w => ?_)
  refine W.cs (cells' := 14) (slots' := 460) rfl rfl ?_
  have w : Wd D A s [(h, .inr (7, [.int 0, .int 0, .ref q1, .ref q2, .ref q3, .ref q4, .ref q5, .ref q6, .ref q7, .ref q8, .ref q9, .int 0, .int 0, .ref q10, .ref q11, .ref q12, .ref q13, .int 0, .null, .null, .null, .null, .null, .null, .null, .null, .null, .int 0, .null, .null, .null, .null, .int 0, .null, .int 0, .int 0, .null, .int 0, .int 0, .null, .null])), (q1, .inl (cI, 10, .inl (fun _ => 0))), (q6, .inl (cI, 10, .inl (fun _ => 0)))] H _ := w
  refine R_putF C0 w 0 rfl rfl inR tyR_ok nmR 18 (by decide) wd_846 rfl hin rfl rfl rfl (Nat.le_of_ble_eq_true rfl) d_R_init_114 (fun H locs w => ?_)
  have w : Wd D A s [(h, .inr (7, [.int 0, .int 0, .ref q1, .ref q2, .ref q3, .ref q4, .ref q5, .ref q6, .ref q7, .ref q8, .ref q9, .int 0, .int 0, .ref q10, .ref q11, .ref q12, .ref q13, .int 0, .ref q14, .null, .null, .null, .null, .null, .null, .null, .null, .int 0, .null, .null, .null, .null, .int 0, .null, .int 0, .int 0, .null, .int 0, .int 0, .null, .null])), (q1, .inl (cI, 10, .inl (fun _ => 0))), (q6, .inl (cI, 10, .inl (fun _ => 0)))] H _ := w
  refine lv_aload_n hx hb d_R_init_117 rfl (lv_at hl 0 rfl) ?_
  refine lv_sipush (v := 130) hx hb d_R_init_118 (by decide) ?_
  refine R_newX (atype := .int) (N := 130) C0 w wd_93 (by decide) (by decide) (by decide) (Nat.le_of_ble_eq_true rfl) (Nat.le_of_ble_eq_true rfl) d_R_init_121 (fun q15 H w => ?_)
  refine W.cs (cells' := 15) (slots' := 590) rfl rfl ?_
  have w : Wd D A s [(h, .inr (7, [.int 0, .int 0, .ref q1, .ref q2, .ref q3, .ref q4, .ref q5, .ref q6, .ref q7, .ref q8, .ref q9, .int 0, .int 0, .ref q10, .ref q11, .ref q12, .ref q13, .int 0, .ref q14, .null, .null, .null, .null, .null, .null, .null, .null, .int 0, .null, .null, .null, .null, .int 0, .null, .int 0, .int 0, .null, .int 0, .int 0, .null, .null])), (q1, .inl (cI, 10, .inl (fun _ => 0))), (q6, .inl (cI, 10, .inl (fun _ => 0)))] H _ := w
  refine R_putF C0 w 0 rfl rfl inR tyR_ok nmR 19 (by decide) wd_847 rfl hin rfl rfl rfl (Nat.le_of_ble_eq_true rfl) d_R_init_123 (fun H locs w => ?_)
  have w : Wd D A s [(h, .inr (7, [.int 0, .int 0, .ref q1, .ref q2, .ref q3, .ref q4, .ref q5, .ref q6, .ref q7, .ref q8, .ref q9, .int 0, .int 0, .ref q10, .ref q11, .ref q12, .ref q13, .int 0, .ref q14, .ref q15, .null, .null, .null, .null, .null, .null, .null, .int 0, .null, .null, .null, .null, .int 0, .null, .int 0, .int 0, .null, .int 0, .int 0, .null, .null])), (q1, .inl (cI, 10, .inl (fun _ => 0))), (q6, .inl (cI, 10, .inl (fun _ => 0)))] H _ := w
  refine lv_aload_n hx hb d_R_init_126 rfl (lv_at hl 0 rfl) ?_
  refine lv_bipush (v := 60) hx hb d_R_init_127 (by decide) ?_
  refine R_newX (atype := .int) (N := 60) C0 w wd_93 (by decide) (by decide) (by decide) (Nat.le_of_ble_eq_true rfl) (Nat.le_of_ble_eq_true rfl) d_R_init_129 (fun q16 H w => ?_)
  refine W.cs (cells' := 16) (slots' := 650) rfl rfl ?_
  have w : Wd D A s [(h, .inr (7, [.int 0, .int 0, .ref q1, .ref q2, .ref q3, .ref q4, .ref q5, .ref q6, .ref q7, .ref q8, .ref q9, .int 0, .int 0, .ref q10, .ref q11, .ref q12, .ref q13, .int 0, .ref q14, .ref q15, .null, .null, .null, .null, .null, .null, .null, .int 0, .null, .null, .null, .null, .int 0, .null, .int 0, .int 0, .null, .int 0, .int 0, .null, .null])), (q1, .inl (cI, 10, .inl (fun _ => 0))), (q6, .inl (cI, 10, .inl (fun _ => 0)))] H _ := w
  refine R_putF C0 w 0 rfl rfl inR tyR_ok nmR 20 (by decide) wd_848 rfl hin rfl rfl rfl (Nat.le_of_ble_eq_true rfl) d_R_init_131 (fun H locs w => ?_)
  have w : Wd D A s [(h, .inr (7, [.int 0, .int 0, .ref q1, .ref q2, .ref q3, .ref q4, .ref q5, .ref q6, .ref q7, .ref q8, .ref q9, .int 0, .int 0, .ref q10, .ref q11, .ref q12, .ref q13, .int 0, .ref q14, .ref q15, .ref q16, .null, .null, .null, .null, .null, .null, .int 0, .null, .null, .null, .null, .int 0, .null, .int 0, .int 0, .null, .int 0, .int 0, .null, .null])), (q1, .inl (cI, 10, .inl (fun _ => 0))), (q6, .inl (cI, 10, .inl (fun _ => 0)))] H _ := w
  refine lv_aload_n hx hb d_R_init_134 rfl (lv_at hl 0 rfl) ?_
  refine lv_bipush (v := 60) hx hb d_R_init_135 (by decide) ?_
  refine R_newX (atype := .int) (N := 60) C0 w wd_93 (by decide) (by decide) (by decide) (Nat.le_of_ble_eq_true rfl) (Nat.le_of_ble_eq_true rfl) d_R_init_137 (fun q17 H w => ?_)
  refine W.cs (cells' := 17) (slots' := 710) rfl rfl ?_
  have w : Wd D A s [(h, .inr (7, [.int 0, .int 0, .ref q1, .ref q2, .ref q3, .ref q4, .ref q5, .ref q6, .ref q7, .ref q8, .ref q9, .int 0, .int 0, .ref q10, .ref q11, .ref q12, .ref q13, .int 0, .ref q14, .ref q15, .ref q16, .null, .null, .null, .null, .null, .null, .int 0, .null, .null, .null, .null, .int 0, .null, .int 0, .int 0, .null, .int 0, .int 0, .null, .null])), (q1, .inl (cI, 10, .inl (fun _ => 0))), (q6, .inl (cI, 10, .inl (fun _ => 0)))] H _ := w
  refine R_putF C0 w 0 rfl rfl inR tyR_ok nmR 21 (by decide) wd_849 rfl hin rfl rfl rfl (Nat.le_of_ble_eq_true rfl) d_R_init_139 (fun H locs w => ?_)
  have w : Wd D A s [(h, .inr (7, [.int 0, .int 0, .ref q1, .ref q2, .ref q3, .ref q4, .ref q5, .ref q6, .ref q7, .ref q8, .ref q9, .int 0, .int 0, .ref q10, .ref q11, .ref q12, .ref q13, .int 0, .ref q14, .ref q15, .ref q16, .ref q17, .null, .null, .null, .null, .null, .int 0, .null, .null, .null, .null, .int 0, .null, .int 0, .int 0, .null, .int 0, .int 0, .null, .null])), (q1, .inl (cI, 10, .inl (fun _ => 0))), (q6, .inl (cI, 10, .inl (fun _ => 0)))] H _ := w
  refine lv_aload_n hx hb d_R_init_142 rfl (lv_at hl 0 rfl) ?_
  refine lv_bipush (v := 60) hx hb d_R_init_143 (by decide) ?_
  refine R_newX (atype := .int) (N := 60) C0 w wd_93 (by decide) (by decide) (by decide) (Nat.le_of_ble_eq_true rfl) (Nat.le_of_ble_eq_true rfl) d_R_init_145 (fun q18 H w => ?_)
  refine W.cs (cells' := 18) (slots' := 770) rfl rfl ?_
  have w : Wd D A s [(h, .inr (7, [.int 0, .int 0, .ref q1, .ref q2, .ref q3, .ref q4, .ref q5, .ref q6, .ref q7, .ref q8, .ref q9, .int 0, .int 0, .ref q10, .ref q11, .ref q12, .ref q13, .int 0, .ref q14, .ref q15, .ref q16, .ref q17, .null, .null, .null, .null, .null, .int 0, .null, .null, .null, .null, .int 0, .null, .int 0, .int 0, .null, .int 0, .int 0, .null, .null])), (q1, .inl (cI, 10, .inl (fun _ => 0))), (q6, .inl (cI, 10, .inl (fun _ => 0)))] H _ := w
  refine R_putF C0 w 0 rfl rfl inR tyR_ok nmR 22 (by decide) wd_850 rfl hin rfl rfl rfl (Nat.le_of_ble_eq_true rfl) d_R_init_147 (fun H locs w => ?_)
  have w : Wd D A s [(h, .inr (7, [.int 0, .int 0, .ref q1, .ref q2, .ref q3, .ref q4, .ref q5, .ref q6, .ref q7, .ref q8, .ref q9, .int 0, .int 0, .ref q10, .ref q11, .ref q12, .ref q13, .int 0, .ref q14, .ref q15, .ref q16, .ref q17, .ref q18, .null, .null, .null, .null, .int 0, .null, .null, .null, .null, .int 0, .null, .int 0, .int 0, .null, .int 0, .int 0, .null, .null])), (q1, .inl (cI, 10, .inl (fun _ => 0))), (q6, .inl (cI, 10, .inl (fun _ => 0)))] H _ := w
  refine lv_aload_n hx hb d_R_init_150 rfl (lv_at hl 0 rfl) ?_
  refine lv_bipush (v := 60) hx hb d_R_init_151 (by decide) ?_
  refine R_newX (atype := .int) (N := 60) C0 w wd_93 (by decide) (by decide) (by decide) (Nat.le_of_ble_eq_true rfl) (Nat.le_of_ble_eq_true rfl) d_R_init_153 (fun q19 H w => ?_)
  refine W.cs (cells' := 19) (slots' := 830) rfl rfl ?_
  have w : Wd D A s [(h, .inr (7, [.int 0, .int 0, .ref q1, .ref q2, .ref q3, .ref q4, .ref q5, .ref q6, .ref q7, .ref q8, .ref q9, .int 0, .int 0, .ref q10, .ref q11, .ref q12, .ref q13, .int 0, .ref q14, .ref q15, .ref q16, .ref q17, .ref q18, .null, .null, .null, .null, .int 0, .null, .null, .null, .null, .int 0, .null, .int 0, .int 0, .null, .int 0, .int 0, .null, .null])), (q1, .inl (cI, 10, .inl (fun _ => 0))), (q6, .inl (cI, 10, .inl (fun _ => 0)))] H _ := w
  refine R_putF C0 w 0 rfl rfl inR tyR_ok nmR 23 (by decide) wd_851 rfl hin rfl rfl rfl (Nat.le_of_ble_eq_true rfl) d_R_init_155 (fun H locs w => ?_)
  have w : Wd D A s [(h, .inr (7, [.int 0, .int 0, .ref q1, .ref q2, .ref q3, .ref q4, .ref q5, .ref q6, .ref q7, .ref q8, .ref q9, .int 0, .int 0, .ref q10, .ref q11, .ref q12, .ref q13, .int 0, .ref q14, .ref q15, .ref q16, .ref q17, .ref q18, .ref q19, .null, .null, .null, .int 0, .null, .null, .null, .null, .int 0, .null, .int 0, .int 0, .null, .int 0, .int 0, .null, .null])), (q1, .inl (cI, 10, .inl (fun _ => 0))), (q6, .inl (cI, 10, .inl (fun _ => 0)))] H _ := w
  refine lv_aload_n hx hb d_R_init_158 rfl (lv_at hl 0 rfl) ?_
  refine lv_bipush (v := 10) hx hb d_R_init_159 (by decide) ?_
  refine R_newX (atype := .int) (N := 10) C0 w wd_93 (by decide) (by decide) (by decide) (Nat.le_of_ble_eq_true rfl) (Nat.le_of_ble_eq_true rfl) d_R_init_161 (fun q20 H w => ?_)
  refine W.cs (cells' := 20) (slots' := 840) rfl rfl ?_
  have w : Wd D A s [(h, .inr (7, [.int 0, .int 0, .ref q1, .ref q2, .ref q3, .ref q4, .ref q5, .ref q6, .ref q7, .ref q8, .ref q9, .int 0, .int 0, .ref q10, .ref q11, .ref q12, .ref q13, .int 0, .ref q14, .ref q15, .ref q16, .ref q17, .ref q18, .ref q19, .null, .null, .null, .int 0, .null, .null, .null, .null, .int 0, .null, .int 0, .int 0, .null, .int 0, .int 0, .null, .null])), (q1, .inl (cI, 10, .inl (fun _ => 0))), (q6, .inl (cI, 10, .inl (fun _ => 0)))] H _ := w
  refine R_putF C0 w 0 rfl rfl inR tyR_ok nmR 24 (by decide) wd_852 rfl hin rfl rfl rfl (Nat.le_of_ble_eq_true rfl) d_R_init_163 (fun H locs w => ?_)
  have w : Wd D A s [(h, .inr (7, [.int 0, .int 0, .ref q1, .ref q2, .ref q3, .ref q4, .ref q5, .ref q6, .ref q7, .ref q8, .ref q9, .int 0, .int 0, .ref q10, .ref q11, .ref q12, .ref q13, .int 0, .ref q14, .ref q15, .ref q16, .ref q17, .ref q18, .ref q19, .ref q20, .null, .null, .int 0, .null, .null, .null, .null, .int 0, .null, .int 0, .int 0, .null, .int 0, .int 0, .null, .null])), (q1, .inl (cI, 10, .inl (fun _ => 0))), (q6, .inl (cI, 10, .inl (fun _ => 0)))] H _ := w
  refine lv_aload_n hx hb d_R_init_166 rfl (lv_at hl 0 rfl) ?_
  refine lv_bipush (v := 60) hx hb d_R_init_167 (by decide) ?_
  refine R_newX (atype := .int) (N := 60) C0 w wd_93 (by decide) (by decide) (by decide) (Nat.le_of_ble_eq_true rfl) (Nat.le_of_ble_eq_true rfl) d_R_init_169 (fun q21 H w => ?_)
  refine W.cs (cells' := 21) (slots' := 900) rfl rfl ?_
  have w : Wd D A s [(h, .inr (7, [.int 0, .int 0, .ref q1, .ref q2, .ref q3, .ref q4, .ref q5, .ref q6, .ref q7, .ref q8, .ref q9, .int 0, .int 0, .ref q10, .ref q11, .ref q12, .ref q13, .int 0, .ref q14, .ref q15, .ref q16, .ref q17, .ref q18, .ref q19, .ref q20, .null, .null, .int 0, .null, .null, .null, .null, .int 0, .null, .int 0, .int 0, .null, .int 0, .int 0, .null, .null])), (q1, .inl (cI, 10, .inl (fun _ => 0))), (q6, .inl (cI, 10, .inl (fun _ => 0)))] H _ := w
  refine R_putF C0 w 0 rfl rfl inR tyR_ok nmR 25 (by decide) wd_853 rfl hin rfl rfl rfl (Nat.le_of_ble_eq_true rfl) d_R_init_171 (fun H locs w => ?_)
  have w : Wd D A s [(h, .inr (7, [.int 0, .int 0, .ref q1, .ref q2, .ref q3, .ref q4, .ref q5, .ref q6, .ref q7, .ref q8, .ref q9, .int 0, .int 0, .ref q10, .ref q11, .ref q12, .ref q13, .int 0, .ref q14, .ref q15, .ref q16, .ref q17, .ref q18, .ref q19, .ref q20, .ref q21, .null, .int 0, .null, .null, .null, .null, .int 0, .null, .int 0, .int 0, .null, .int 0, .int 0, .null, .null])), (q1, .inl (cI, 10, .inl (fun _ => 0))), (q6, .inl (cI, 10, .inl (fun _ => 0)))] H _ := w
  refine lv_aload_n hx hb d_R_init_174 rfl (lv_at hl 0 rfl) ?_
  refine lv_bipush (v := 12) hx hb d_R_init_175 (by decide) ?_
  refine R_newX (atype := .int) (N := 12) C0 w wd_93 (by decide) (by decide) (by decide) (Nat.le_of_ble_eq_true rfl) (Nat.le_of_ble_eq_true rfl) d_R_init_177 (fun q22 H w => ?_)
  refine W.cs (cells' := 22) (slots' := 912) rfl rfl ?_
  have w : Wd D A s [(h, .inr (7, [.int 0, .int 0, .ref q1, .ref q2, .ref q3, .ref q4, .ref q5, .ref q6, .ref q7, .ref q8, .ref q9, .int 0, .int 0, .ref q10, .ref q11, .ref q12, .ref q13, .int 0, .ref q14, .ref q15, .ref q16, .ref q17, .ref q18, .ref q19, .ref q20, .ref q21, .null, .int 0, .null, .null, .null, .null, .int 0, .null, .int 0, .int 0, .null, .int 0, .int 0, .null, .null])), (q1, .inl (cI, 10, .inl (fun _ => 0))), (q6, .inl (cI, 10, .inl (fun _ => 0)))] H _ := w
  refine R_putF C0 w 0 rfl rfl inR tyR_ok nmR 26 (by decide) wd_854 rfl hin rfl rfl rfl (Nat.le_of_ble_eq_true rfl) d_R_init_179 (fun H locs w => ?_)
  have w : Wd D A s [(h, .inr (7, [.int 0, .int 0, .ref q1, .ref q2, .ref q3, .ref q4, .ref q5, .ref q6, .ref q7, .ref q8, .ref q9, .int 0, .int 0, .ref q10, .ref q11, .ref q12, .ref q13, .int 0, .ref q14, .ref q15, .ref q16, .ref q17, .ref q18, .ref q19, .ref q20, .ref q21, .ref q22, .int 0, .null, .null, .null, .null, .int 0, .null, .int 0, .int 0, .null, .int 0, .int 0, .null, .null])), (q1, .inl (cI, 10, .inl (fun _ => 0))), (q6, .inl (cI, 10, .inl (fun _ => 0)))] H _ := w
  refine lv_aload_n hx hb d_R_init_182 rfl (lv_at hl 0 rfl) ?_
  refine lv_bipush (v := 10) hx hb d_R_init_183 (by decide) ?_
  refine R_newX (atype := .int) (N := 10) C0 w wd_93 (by decide) (by decide) (by decide) (Nat.le_of_ble_eq_true rfl) (Nat.le_of_ble_eq_true rfl) d_R_init_185 (fun q23 H w => ?_)
  refine W.cs (cells' := 23) (slots' := 922) rfl rfl ?_
  have w : Wd D A s [(h, .inr (7, [.int 0, .int 0, .ref q1, .ref q2, .ref q3, .ref q4, .ref q5, .ref q6, .ref q7, .ref q8, .ref q9, .int 0, .int 0, .ref q10, .ref q11, .ref q12, .ref q13, .int 0, .ref q14, .ref q15, .ref q16, .ref q17, .ref q18, .ref q19, .ref q20, .ref q21, .ref q22, .int 0, .null, .null, .null, .null, .int 0, .null, .int 0, .int 0, .null, .int 0, .int 0, .null, .null])), (q1, .inl (cI, 10, .inl (fun _ => 0))), (q6, .inl (cI, 10, .inl (fun _ => 0)))] H _ := w
  refine R_putF C0 w 0 rfl rfl inR tyR_ok nmR 28 (by decide) wd_856 rfl hin rfl rfl rfl (Nat.le_of_ble_eq_true rfl) d_R_init_187 (fun H locs w => ?_)
  have w : Wd D A s [(h, .inr (7, [.int 0, .int 0, .ref q1, .ref q2, .ref q3, .ref q4, .ref q5, .ref q6, .ref q7, .ref q8, .ref q9, .int 0, .int 0, .ref q10, .ref q11, .ref q12, .ref q13, .int 0, .ref q14, .ref q15, .ref q16, .ref q17, .ref q18, .ref q19, .ref q20, .ref q21, .ref q22, .int 0, .ref q23, .null, .null, .null, .int 0, .null, .int 0, .int 0, .null, .int 0, .int 0, .null, .null])), (q1, .inl (cI, 10, .inl (fun _ => 0))), (q6, .inl (cI, 10, .inl (fun _ => 0)))] H _ := w
  refine lv_aload_n hx hb d_R_init_190 rfl (lv_at hl 0 rfl) ?_
  refine lv_sipush (v := 130) hx hb d_R_init_191 (by decide) ?_
  refine R_newX (atype := .int) (N := 130) C0 w wd_93 (by decide) (by decide) (by decide) (Nat.le_of_ble_eq_true rfl) (Nat.le_of_ble_eq_true rfl) d_R_init_194 (fun q24 H w => ?_)
  refine W.cs (cells' := 24) (slots' := 1052) rfl rfl ?_
  have w : Wd D A s [(h, .inr (7, [.int 0, .int 0, .ref q1, .ref q2, .ref q3, .ref q4, .ref q5, .ref q6, .ref q7, .ref q8, .ref q9, .int 0, .int 0, .ref q10, .ref q11, .ref q12, .ref q13, .int 0, .ref q14, .ref q15, .ref q16, .ref q17, .ref q18, .ref q19, .ref q20, .ref q21, .ref q22, .int 0, .ref q23, .null, .null, .null, .int 0, .null, .int 0, .int 0, .null, .int 0, .int 0, .null, .null])), (q1, .inl (cI, 10, .inl (fun _ => 0))), (q6, .inl (cI, 10, .inl (fun _ => 0)))] H _ := w
  refine R_putF C0 w 0 rfl rfl inR tyR_ok nmR 29 (by decide) wd_857 rfl hin rfl rfl rfl (Nat.le_of_ble_eq_true rfl) d_R_init_196 (fun H locs w => ?_)
  have w : Wd D A s [(h, .inr (7, [.int 0, .int 0, .ref q1, .ref q2, .ref q3, .ref q4, .ref q5, .ref q6, .ref q7, .ref q8, .ref q9, .int 0, .int 0, .ref q10, .ref q11, .ref q12, .ref q13, .int 0, .ref q14, .ref q15, .ref q16, .ref q17, .ref q18, .ref q19, .ref q20, .ref q21, .ref q22, .int 0, .ref q23, .ref q24, .null, .null, .int 0, .null, .int 0, .int 0, .null, .int 0, .int 0, .null, .null])), (q1, .inl (cI, 10, .inl (fun _ => 0))), (q6, .inl (cI, 10, .inl (fun _ => 0)))] H _ := w
  refine lv_aload_n hx hb d_R_init_199 rfl (lv_at hl 0 rfl) ?_
  refine lv_sipush (v := 130) hx hb d_R_init_200 (by decide) ?_
  refine R_newX (atype := .int) (N := 130) C0 w wd_93 (by decide) (by decide) (by decide) (Nat.le_of_ble_eq_true rfl) (Nat.le_of_ble_eq_true rfl) d_R_init_203 (fun q25 H w => ?_)
  refine W.cs (cells' := 25) (slots' := 1182) rfl rfl ?_
  have w : Wd D A s [(h, .inr (7, [.int 0, .int 0, .ref q1, .ref q2, .ref q3, .ref q4, .ref q5, .ref q6, .ref q7, .ref q8, .ref q9, .int 0, .int 0, .ref q10, .ref q11, .ref q12, .ref q13, .int 0, .ref q14, .ref q15, .ref q16, .ref q17, .ref q18, .ref q19, .ref q20, .ref q21, .ref q22, .int 0, .ref q23, .ref q24, .null, .null, .int 0, .null, .int 0, .int 0, .null, .int 0, .int 0, .null, .null])), (q1, .inl (cI, 10, .inl (fun _ => 0))), (q6, .inl (cI, 10, .inl (fun _ => 0)))] H _ := w
  refine R_putF C0 w 0 rfl rfl inR tyR_ok nmR 30 (by decide) wd_858 rfl hin rfl rfl rfl (Nat.le_of_ble_eq_true rfl) d_R_init_205 (fun H locs w => ?_)
  have w : Wd D A s [(h, .inr (7, [.int 0, .int 0, .ref q1, .ref q2, .ref q3, .ref q4, .ref q5, .ref q6, .ref q7, .ref q8, .ref q9, .int 0, .int 0, .ref q10, .ref q11, .ref q12, .ref q13, .int 0, .ref q14, .ref q15, .ref q16, .ref q17, .ref q18, .ref q19, .ref q20, .ref q21, .ref q22, .int 0, .ref q23, .ref q24, .ref q25, .null, .int 0, .null, .int 0, .int 0, .null, .int 0, .int 0, .null, .null])), (q1, .inl (cI, 10, .inl (fun _ => 0))), (q6, .inl (cI, 10, .inl (fun _ => 0)))] H _ := w
  refine lv_aload_n hx hb d_R_init_208 rfl (lv_at hl 0 rfl) ?_
  refine lv_sipush (v := 130) hx hb d_R_init_209 (by decide) ?_
  refine R_newX (atype := .boolean) (N := 130) C0 w wd_283 (by decide) (by decide) (by decide) (Nat.le_of_ble_eq_true rfl) (Nat.le_of_ble_eq_true rfl) d_R_init_212 (fun q26 H w => ?_)
  refine W.cs (cells' := 26) (slots' := 1312) rfl rfl ?_
  have w : Wd D A s [(h, .inr (7, [.int 0, .int 0, .ref q1, .ref q2, .ref q3, .ref q4, .ref q5, .ref q6, .ref q7, .ref q8, .ref q9, .int 0, .int 0, .ref q10, .ref q11, .ref q12, .ref q13, .int 0, .ref q14, .ref q15, .ref q16, .ref q17, .ref q18, .ref q19, .ref q20, .ref q21, .ref q22, .int 0, .ref q23, .ref q24, .ref q25, .null, .int 0, .null, .int 0, .int 0, .null, .int 0, .int 0, .null, .null])), (q1, .inl (cI, 10, .inl (fun _ => 0))), (q6, .inl (cI, 10, .inl (fun _ => 0)))] H _ := w
  refine R_putF C0 w 0 rfl rfl inR tyR_ok nmR 31 (by decide) wd_859 rfl hin rfl rfl rfl (Nat.le_of_ble_eq_true rfl) d_R_init_214 (fun H locs w => ?_)
  have w : Wd D A s [(h, .inr (7, [.int 0, .int 0, .ref q1, .ref q2, .ref q3, .ref q4, .ref q5, .ref q6, .ref q7, .ref q8, .ref q9, .int 0, .int 0, .ref q10, .ref q11, .ref q12, .ref q13, .int 0, .ref q14, .ref q15, .ref q16, .ref q17, .ref q18, .ref q19, .ref q20, .ref q21, .ref q22, .int 0, .ref q23, .ref q24, .ref q25, .ref q26, .int 0, .null, .int 0, .int 0, .null, .int 0, .int 0, .null, .null])), (q1, .inl (cI, 10, .inl (fun _ => 0))), (q6, .inl (cI, 10, .inl (fun _ => 0)))] H _ := w
  refine lv_aload_n hx hb d_R_init_217 rfl (lv_at hl 0 rfl) ?_
  refine lv_bipush (v := 16) hx hb d_R_init_218 (by decide) ?_
  refine R_newI (N := 16) C0 w wd_93 (by decide) (by decide) (by decide) (Nat.le_of_ble_eq_true rfl) (Nat.le_of_ble_eq_true rfl) d_R_init_220 (fun q27 H w => ?_)
  refine W.cs (cells' := 27) (slots' := 1328) rfl rfl ?_
  have w : Wd D A s [(h, .inr (7, [.int 0, .int 0, .ref q1, .ref q2, .ref q3, .ref q4, .ref q5, .ref q6, .ref q7, .ref q8, .ref q9, .int 0, .int 0, .ref q10, .ref q11, .ref q12, .ref q13, .int 0, .ref q14, .ref q15, .ref q16, .ref q17, .ref q18, .ref q19, .ref q20, .ref q21, .ref q22, .int 0, .ref q23, .ref q24, .ref q25, .ref q26, .int 0, .null, .int 0, .int 0, .null, .int 0, .int 0, .null, .null])), (q1, .inl (cI, 10, .inl (fun _ => 0))), (q6, .inl (cI, 10, .inl (fun _ => 0))), (q27, .inl (cI, 16, .inl (fun _ => 0)))] H _ := w
  refine R_putF C0 w 0 rfl rfl inR tyR_ok nmR 33 (by decide) wd_861 rfl hin rfl rfl rfl (Nat.le_of_ble_eq_true rfl) d_R_init_222 (fun H locs w => ?_)
  have w : Wd D A s [(h, .inr (7, [.int 0, .int 0, .ref q1, .ref q2, .ref q3, .ref q4, .ref q5, .ref q6, .ref q7, .ref q8, .ref q9, .int 0, .int 0, .ref q10, .ref q11, .ref q12, .ref q13, .int 0, .ref q14, .ref q15, .ref q16, .ref q17, .ref q18, .ref q19, .ref q20, .ref q21, .ref q22, .int 0, .ref q23, .ref q24, .ref q25, .ref q26, .int 0, .ref q27, .int 0, .int 0, .null, .int 0, .int 0, .null, .null])), (q1, .inl (cI, 10, .inl (fun _ => 0))), (q6, .inl (cI, 10, .inl (fun _ => 0))), (q27, .inl (cI, 16, .inl (fun _ => 0)))] H _ := w
  refine lv_aload_n hx hb d_R_init_225 rfl (lv_at hl 0 rfl) ?_
  refine lv_bipush (v := 40) hx hb d_R_init_226 (by decide) ?_
  refine R_newX (atype := .int) (N := 40) C0 w wd_93 (by decide) (by decide) (by decide) (Nat.le_of_ble_eq_true rfl) (Nat.le_of_ble_eq_true rfl) d_R_init_228 (fun q28 H w => ?_)
  refine W.cs (cells' := 28) (slots' := 1368) rfl rfl ?_
  have w : Wd D A s [(h, .inr (7, [.int 0, .int 0, .ref q1, .ref q2, .ref q3, .ref q4, .ref q5, .ref q6, .ref q7, .ref q8, .ref q9, .int 0, .int 0, .ref q10, .ref q11, .ref q12, .ref q13, .int 0, .ref q14, .ref q15, .ref q16, .ref q17, .ref q18, .ref q19, .ref q20, .ref q21, .ref q22, .int 0, .ref q23, .ref q24, .ref q25, .ref q26, .int 0, .ref q27, .int 0, .int 0, .null, .int 0, .int 0, .null, .null])), (q1, .inl (cI, 10, .inl (fun _ => 0))), (q6, .inl (cI, 10, .inl (fun _ => 0))), (q27, .inl (cI, 16, .inl (fun _ => 0)))] H _ := w
  refine R_putF C0 w 0 rfl rfl inR tyR_ok nmR 36 (by decide) wd_864 rfl hin rfl rfl rfl (Nat.le_of_ble_eq_true rfl) d_R_init_230 (fun H locs w => ?_)
  have w : Wd D A s [(h, .inr (7, [.int 0, .int 0, .ref q1, .ref q2, .ref q3, .ref q4, .ref q5, .ref q6, .ref q7, .ref q8, .ref q9, .int 0, .int 0, .ref q10, .ref q11, .ref q12, .ref q13, .int 0, .ref q14, .ref q15, .ref q16, .ref q17, .ref q18, .ref q19, .ref q20, .ref q21, .ref q22, .int 0, .ref q23, .ref q24, .ref q25, .ref q26, .int 0, .ref q27, .int 0, .int 0, .ref q28, .int 0, .int 0, .null, .null])), (q1, .inl (cI, 10, .inl (fun _ => 0))), (q6, .inl (cI, 10, .inl (fun _ => 0))), (q27, .inl (cI, 16, .inl (fun _ => 0)))] H _ := w
  refine lv_aload_n hx hb d_R_init_233 rfl (lv_at hl 0 rfl) ?_
  refine lv_sipush (v := 130) hx hb d_R_init_234 (by decide) ?_
  refine R_newX (atype := .int) (N := 130) C0 w wd_93 (by decide) (by decide) (by decide) (Nat.le_of_ble_eq_true rfl) (Nat.le_of_ble_eq_true rfl) d_R_init_237 (fun q29 H w => ?_)
  refine W.cs (cells' := 29) (slots' := 1498) rfl rfl ?_
  have w : Wd D A s [(h, .inr (7, [.int 0, .int 0, .ref q1, .ref q2, .ref q3, .ref q4, .ref q5, .ref q6, .ref q7, .ref q8, .ref q9, .int 0, .int 0, .ref q10, .ref q11, .ref q12, .ref q13, .int 0, .ref q14, .ref q15, .ref q16, .ref q17, .ref q18, .ref q19, .ref q20, .ref q21, .ref q22, .int 0, .ref q23, .ref q24, .ref q25, .ref q26, .int 0, .ref q27, .int 0, .int 0, .ref q28, .int 0, .int 0, .null, .null])), (q1, .inl (cI, 10, .inl (fun _ => 0))), (q6, .inl (cI, 10, .inl (fun _ => 0))), (q27, .inl (cI, 16, .inl (fun _ => 0)))] H _ := w
  refine R_putF C0 w 0 rfl rfl inR tyR_ok nmR 39 (by decide) wd_867 rfl hin rfl rfl rfl (Nat.le_of_ble_eq_true rfl) d_R_init_239 (fun H locs w => ?_)
  have w : Wd D A s [(h, .inr (7, [.int 0, .int 0, .ref q1, .ref q2, .ref q3, .ref q4, .ref q5, .ref q6, .ref q7, .ref q8, .ref q9, .int 0, .int 0, .ref q10, .ref q11, .ref q12, .ref q13, .int 0, .ref q14, .ref q15, .ref q16, .ref q17, .ref q18, .ref q19, .ref q20, .ref q21, .ref q22, .int 0, .ref q23, .ref q24, .ref q25, .ref q26, .int 0, .ref q27, .int 0, .int 0, .ref q28, .int 0, .int 0, .ref q29, .null])), (q1, .inl (cI, 10, .inl (fun _ => 0))), (q6, .inl (cI, 10, .inl (fun _ => 0))), (q27, .inl (cI, 16, .inl (fun _ => 0)))] H _ := w
  refine lv_aload_n hx hb d_R_init_242 rfl (lv_at hl 0 rfl) ?_
  refine lv_bipush (v := 6) hx hb d_R_init_243 (by decide) ?_
  refine R_newX (atype := .int) (N := 6) C0 w wd_93 (by decide) (by decide) (by decide) (Nat.le_of_ble_eq_true rfl) (Nat.le_of_ble_eq_true rfl) d_R_init_245 (fun q30 H w => ?_)
  refine W.cs (cells' := 30) (slots' := 1504) rfl rfl ?_
  have w : Wd D A s [(h, .inr (7, [.int 0, .int 0, .ref q1, .ref q2, .ref q3, .ref q4, .ref q5, .ref q6, .ref q7, .ref q8, .ref q9, .int 0, .int 0, .ref q10, .ref q11, .ref q12, .ref q13, .int 0, .ref q14, .ref q15, .ref q16, .ref q17, .ref q18, .ref q19, .ref q20, .ref q21, .ref q22, .int 0, .ref q23, .ref q24, .ref q25, .ref q26, .int 0, .ref q27, .int 0, .int 0, .ref q28, .int 0, .int 0, .ref q29, .null])), (q1, .inl (cI, 10, .inl (fun _ => 0))), (q6, .inl (cI, 10, .inl (fun _ => 0))), (q27, .inl (cI, 16, .inl (fun _ => 0)))] H _ := w
  refine R_putF C0 w 0 rfl rfl inR tyR_ok nmR 40 (by decide) wd_868 rfl hin rfl rfl rfl (Nat.le_of_ble_eq_true rfl) d_R_init_247 (fun H locs w => ?_)
  have w : Wd D A s [(h, .inr (7, [.int 0, .int 0, .ref q1, .ref q2, .ref q3, .ref q4, .ref q5, .ref q6, .ref q7, .ref q8, .ref q9, .int 0, .int 0, .ref q10, .ref q11, .ref q12, .ref q13, .int 0, .ref q14, .ref q15, .ref q16, .ref q17, .ref q18, .ref q19, .ref q20, .ref q21, .ref q22, .int 0, .ref q23, .ref q24, .ref q25, .ref q26, .int 0, .ref q27, .int 0, .int 0, .ref q28, .int 0, .int 0, .ref q29, .ref q30])), (q1, .inl (cI, 10, .inl (fun _ => 0))), (q6, .inl (cI, 10, .inl (fun _ => 0))), (q27, .inl (cI, 16, .inl (fun _ => 0)))] H _ := w
  exact hret _ _ _ _ d_R_init_250 w.2.2.1 (fun t ht => ⟨fun k => [0, 0, q1, q2, q3, q4, q5, q6, q7, q8, q9, 0, 0, q10, q11, q12, q13, 0, q14, q15, q16, q17, q18, q19, q20, q21, q22, 0, q23, q24, q25, q26, 0, q27, 0, 0, q28, 0, 0, q29, q30].getD k 0, by rw [ht]; exact (w.sub [0, 1, 2, 3] rfl rfl).1, (w.sub [0, 1, 2, 3] rfl rfl).2.1⟩)
set_option maxHeartbeats 4000000 in
set_option maxRecDepth 100000 in
theorem c_N_init (l : Launch) (D : va_G) (cI cB cJ : ClassId) (h : Nat) : KV l D cI cB cJ y_N_init b_N_init 1 2 36 132 1917 [.ref h] [(h, .inr (0, [.null, .null, .null, .null, .null, .null, .int 0]))] (fun A t => ∃ qn qp qm : Nat → Nat, CE D (wN cI h qn qp qm) A t) := by
  refine KV.ofW (by decide) (Nat.le_of_ble_eq_true rfl) ?_
  intro p e s m args below meth c A Q ls C0 hin hl w hret
  have hin : meth.name = "<init>" := hin
  have hx := C0.1
  have hb := C0.2.1
  have hl : lv_has ls 1 [(0, .ref h)] := hl
  refine lv_aload_n hx hb d_N_init_0 rfl (lv_at hl 0 rfl) ?_
  refine W.objInit hx hb C0.2.2.2.1 (C0.2.2.2.2.1 _ wd_22) (C0.2.2.2.2.1 _ wd_23) (C0.2.2.2.2.1 _ wd_24) rfl (by rw [C0.2.2.1]; exact hl.1) rfl d_N_init_1 (Nat.le_of_ble_eq_true rfl) (Nat.le_of_ble_eq_true rfl) ?_
  refine W.eq (g2 := F0 m 4 ls []) rfl ?_
  refine lv_aload_n hx hb d_N_init_4 rfl (lv_at hl 0 rfl) ?_
  refine R_new C0 w (ci := 1) rfl inP tyP_ok wd_25 wd_26 wd_2 bornP (Nat.le_of_ble_eq_true rfl) (Nat.le_of_ble_eq_true rfl) d_N_init_5 (fun o1 H w => ?_)
  refine W.cs (cells' := 1) (slots' := 10) rfl rfl ?_
  have w : Wd D A s [(h, .inr (0, [.null, .null, .null, .null, .null, .null, .int 0])), (o1, .inr (1, [.int 0, .null, .null, .null, .null, .null, .null, .null, .null, .null]))] H _ := w
  refine lv_dup hx hb d_N_init_8 rfl ?_
  refine R_ivN C0 w (rest := [.ref o1, .ref h]) (wr := [(h, .inr (0, [.null, .null, .null, .null, .null, .null, .int 0]))]) [1] [0] (c_P_init l D cI cB cJ o1) rfl rfl rfl rfl (by decide) wd_29 C0.2.2.2.2.2.2.nest wd_28 wd_2 rfl (n9 := 0) (by decide +kernel) rfl ⟨(Nat.le_of_ble_eq_true rfl), (Nat.le_of_ble_eq_true rfl)⟩ hl.1 rfl (Nat.le_of_ble_eq_true rfl) d_N_init_9 (Nat.le_of_ble_eq_true rfl) (Nat.le_of_ble_eq_true rfl) (fun t9 H locs ht9 hB9 hj9 => ?_)
  obtain ⟨qp2, hE9⟩ := hB9
  have w := hj9 _ hE9
  refine W.cs (cells' := 50) (slots' := 340) rfl rfl ?_
  have w : Wd D A s [(h, .inr (0, [.null, .null, .null, .null, .null, .null, .int 0])), (o1, .inr (1, fP 0 qp2)), ((qp2 1), .inl (cI, 10, .inl (fun _ => 0))), ((qp2 6), .inl (cI, 10, .inl (fun _ => 0))), ((qp2 7), .inl (cI, 10, .inl (fun _ => 0))), ((qp2 8), .inl (cI, 10, .inl (fun _ => 0))), ((qp2 9), .inl (cI, 10, .inl (fun _ => 0)))] H _ := w
  refine R_putF C0 w 0 rfl rfl inN tyN_ok nmN 0 (by decide) wd_339 rfl hin rfl rfl rfl (Nat.le_of_ble_eq_true rfl) d_N_init_12 (fun H locs w => ?_)
  have w : Wd D A s [(h, .inr (0, [.ref o1, .null, .null, .null, .null, .null, .int 0])), (o1, .inr (1, fP 0 qp2)), ((qp2 1), .inl (cI, 10, .inl (fun _ => 0))), ((qp2 6), .inl (cI, 10, .inl (fun _ => 0))), ((qp2 7), .inl (cI, 10, .inl (fun _ => 0))), ((qp2 8), .inl (cI, 10, .inl (fun _ => 0))), ((qp2 9), .inl (cI, 10, .inl (fun _ => 0)))] H _ := w
  refine lv_aload_n hx hb d_N_init_15 rfl (lv_at hl 0 rfl) ?_
  refine R_new C0 w (ci := 2) rfl inS tyS_ok wd_94 wd_95 wd_3 bornS (Nat.le_of_ble_eq_true rfl) (Nat.le_of_ble_eq_true rfl) d_N_init_16 (fun o3 H w => ?_)
  refine W.cs (cells' := 51) (slots' := 349) rfl rfl ?_
  have w : Wd D A s [(h, .inr (0, [.ref o1, .null, .null, .null, .null, .null, .int 0])), (o1, .inr (1, fP 0 qp2)), ((qp2 1), .inl (cI, 10, .inl (fun _ => 0))), ((qp2 6), .inl (cI, 10, .inl (fun _ => 0))), ((qp2 7), .inl (cI, 10, .inl (fun _ => 0))), ((qp2 8), .inl (cI, 10, .inl (fun _ => 0))), ((qp2 9), .inl (cI, 10, .inl (fun _ => 0))), (o3, .inr (2, [.null, .int 0, .null, .null, .null, .null, .null, .int 0, .null]))] H _ := w
  refine lv_dup hx hb d_N_init_19 rfl ?_
  refine lv_aload_n hx hb d_N_init_20 rfl (lv_at hl 0 rfl) ?_
  refine R_get C0 w 0 rfl rfl inN 0 (by decide) wd_339 rfl d_N_init_21 ?_
  refine R_iv C0 w (rest := [.ref o3, .ref h]) (wr := [(h, .inr (0, [.ref o1, .null, .null, .null, .null, .null, .int 0])), (o1, .inr (1, fP 0 qp2)), ((qp2 1), .inl (cI, 10, .inl (fun _ => 0))), ((qp2 6), .inl (cI, 10, .inl (fun _ => 0))), ((qp2 7), .inl (cI, 10, .inl (fun _ => 0))), ((qp2 8), .inl (cI, 10, .inl (fun _ => 0))), ((qp2 9), .inl (cI, 10, .inl (fun _ => 0)))]) [7] [0, 1, 2, 3, 4, 5, 6] (c_S_init l D cI cB cJ o3 o1) rfl rfl rfl rfl (by decide) wd_98 wd_96 wd_97 wd_3 rfl (n9 := 1) (by decide +kernel) rfl ⟨(Nat.le_of_ble_eq_true rfl), (Nat.le_of_ble_eq_true rfl)⟩ hl.1 rfl (Nat.le_of_ble_eq_true rfl) d_N_init_24 (Nat.le_of_ble_eq_true rfl) (Nat.le_of_ble_eq_true rfl) (fun t9 H locs ht9 hB9 hj9 => ?_)
  have w := hj9 [] CE_nil
  refine W.cs (cells' := 57) (slots' := 409) rfl rfl ?_
  have w : Wd D A s [(h, .inr (0, [.ref o1, .null, .null, .null, .null, .null, .int 0])), (o1, .inr (1, fP 0 qp2)), ((qp2 1), .inl (cI, 10, .inl (fun _ => 0))), ((qp2 6), .inl (cI, 10, .inl (fun _ => 0))), ((qp2 7), .inl (cI, 10, .inl (fun _ => 0))), ((qp2 8), .inl (cI, 10, .inl (fun _ => 0))), ((qp2 9), .inl (cI, 10, .inl (fun _ => 0)))] H _ := w
  refine R_putF C0 w 0 rfl rfl inN tyN_ok nmN 1 (by decide) wd_340 rfl hin rfl rfl rfl (Nat.le_of_ble_eq_true rfl) d_N_init_27 (fun H locs w => ?_)
  have w : Wd D A s [(h, .inr (0, [.ref o1, .ref o3, .null, .null, .null, .null, .int 0])), (o1, .inr (1, fP 0 qp2)), ((qp2 1), .inl (cI, 10, .inl (fun _ => 0))), ((qp2 6), .inl (cI, 10, .inl (fun _ => 0))), ((qp2 7), .inl (cI, 10, .inl (fun _ => 0))), ((qp2 8), .inl (cI, 10, .inl (fun _ => 0))), ((qp2 9), .inl (cI, 10, .inl (fun _ => 0)))] H _ := w
  refine lv_aload_n hx hb d_N_init_30 rfl (lv_at hl 0 rfl) ?_
  refine R_new C0 w (ci := 3) rfl inG tyG_ok wd_137 wd_138 wd_4 bornG (Nat.le_of_ble_eq_true rfl) (Nat.le_of_ble_eq_true rfl) d_N_init_31 (fun o4 H w => ?_)
  refine W.cs (cells' := 58) (slots' := 423) rfl rfl ?_
  have w : Wd D A s [(h, .inr (0, [.ref o1, .ref o3, .null, .null, .null, .null, .int 0])), (o1, .inr (1, fP 0 qp2)), ((qp2 1), .inl (cI, 10, .inl (fun _ => 0))), ((qp2 6), .inl (cI, 10, .inl (fun _ => 0))), ((qp2 7), .inl (cI, 10, .inl (fun _ => 0))), ((qp2 8), .inl (cI, 10, .inl (fun _ => 0))), ((qp2 9), .inl (cI, 10, .inl (fun _ => 0))), (o4, .inr (3, [.null, .null, .int 0, .null, .null, .null, .null, .null, .null, .null, .null, .null, .null, .null]))] H _ := w
  refine lv_dup hx hb d_N_init_34 rfl ?_
  refine lv_aload_n hx hb d_N_init_35 rfl (lv_at hl 0 rfl) ?_
  refine R_get C0 w 0 rfl rfl inN 0 (by decide) wd_339 rfl d_N_init_36 ?_
  refine lv_aload_n hx hb d_N_init_39 rfl (lv_at hl 0 rfl) ?_
  refine R_get C0 w 0 rfl rfl inN 1 (by decide) wd_340 rfl d_N_init_40 ?_
  refine R_iv C0 w (rest := [.ref o4, .ref h]) (wr := [(h, .inr (0, [.ref o1, .ref o3, .null, .null, .null, .null, .int 0])), (o1, .inr (1, fP 0 qp2)), ((qp2 1), .inl (cI, 10, .inl (fun _ => 0))), ((qp2 6), .inl (cI, 10, .inl (fun _ => 0))), ((qp2 7), .inl (cI, 10, .inl (fun _ => 0))), ((qp2 8), .inl (cI, 10, .inl (fun _ => 0))), ((qp2 9), .inl (cI, 10, .inl (fun _ => 0)))]) [7] [0, 1, 2, 3, 4, 5, 6] (c_G_init l D cI cB cJ o4 o1 o3) rfl rfl rfl rfl (by decide) wd_141 wd_139 wd_140 wd_4 rfl (n9 := 2) (by decide +kernel) rfl ⟨(Nat.le_of_ble_eq_true rfl), (Nat.le_of_ble_eq_true rfl)⟩ hl.1 rfl (Nat.le_of_ble_eq_true rfl) d_N_init_43 (Nat.le_of_ble_eq_true rfl) (Nat.le_of_ble_eq_true rfl) (fun t9 H locs ht9 hB9 hj9 => ?_)
  have w := hj9 [] CE_nil
  refine W.cs (cells' := 119) (slots' := 1181) rfl rfl ?_
  have w : Wd D A s [(h, .inr (0, [.ref o1, .ref o3, .null, .null, .null, .null, .int 0])), (o1, .inr (1, fP 0 qp2)), ((qp2 1), .inl (cI, 10, .inl (fun _ => 0))), ((qp2 6), .inl (cI, 10, .inl (fun _ => 0))), ((qp2 7), .inl (cI, 10, .inl (fun _ => 0))), ((qp2 8), .inl (cI, 10, .inl (fun _ => 0))), ((qp2 9), .inl (cI, 10, .inl (fun _ => 0)))] H _ := w
  refine R_putF C0 w 0 rfl rfl inN tyN_ok nmN 2 (by decide) wd_341 rfl hin rfl rfl rfl (Nat.le_of_ble_eq_true rfl) d_N_init_46 (fun H locs w => ?_)
  have w : Wd D A s [(h, .inr (0, [.ref o1, .ref o3, .ref o4, .null, .null, .null, .int 0])), (o1, .inr (1, fP 0 qp2)), ((qp2 1), .inl (cI, 10, .inl (fun _ => 0))), ((qp2 6), .inl (cI, 10, .inl (fun _ => 0))), ((qp2 7), .inl (cI, 10, .inl (fun _ => 0))), ((qp2 8), .inl (cI, 10, .inl (fun _ => 0))), ((qp2 9), .inl (cI, 10, .inl (fun _ => 0)))] H _ := w
  refine lv_aload_n hx hb d_N_init_49 rfl (lv_at hl 0 rfl) ?_
  refine R_new C0 w (ci := 4) rfl inK tyK_ok wd_218 wd_219 wd_5 bornK (Nat.le_of_ble_eq_true rfl) (Nat.le_of_ble_eq_true rfl) d_N_init_50 (fun o5 H w => ?_)
  refine W.cs (cells' := 120) (slots' := 1189) rfl rfl ?_
  have w : Wd D A s [(h, .inr (0, [.ref o1, .ref o3, .ref o4, .null, .null, .null, .int 0])), (o1, .inr (1, fP 0 qp2)), ((qp2 1), .inl (cI, 10, .inl (fun _ => 0))), ((qp2 6), .inl (cI, 10, .inl (fun _ => 0))), ((qp2 7), .inl (cI, 10, .inl (fun _ => 0))), ((qp2 8), .inl (cI, 10, .inl (fun _ => 0))), ((qp2 9), .inl (cI, 10, .inl (fun _ => 0))), (o5, .inr (4, [.null, .null, .null, .int 0, .null, .null, .null, .int 0]))] H _ := w
  refine lv_dup hx hb d_N_init_53 rfl ?_
  refine lv_aload_n hx hb d_N_init_54 rfl (lv_at hl 0 rfl) ?_
  refine R_get C0 w 0 rfl rfl inN 0 (by decide) wd_339 rfl d_N_init_55 ?_
  refine lv_aload_n hx hb d_N_init_58 rfl (lv_at hl 0 rfl) ?_
  refine R_get C0 w 0 rfl rfl inN 1 (by decide) wd_340 rfl d_N_init_59 ?_
  refine lv_aload_n hx hb d_N_init_62 rfl (lv_at hl 0 rfl) ?_
  refine R_get C0 w 0 rfl rfl inN 2 (by decide) wd_341 rfl d_N_init_63 ?_
  refine R_iv C0 w (rest := [.ref o5, .ref h]) (wr := [(h, .inr (0, [.ref o1, .ref o3, .ref o4, .null, .null, .null, .int 0])), (o1, .inr (1, fP 0 qp2)), ((qp2 1), .inl (cI, 10, .inl (fun _ => 0))), ((qp2 6), .inl (cI, 10, .inl (fun _ => 0))), ((qp2 7), .inl (cI, 10, .inl (fun _ => 0))), ((qp2 8), .inl (cI, 10, .inl (fun _ => 0))), ((qp2 9), .inl (cI, 10, .inl (fun _ => 0)))]) [7] [0, 1, 2, 3, 4, 5, 6] (c_K_init l D cI cB cJ o5 o1 o3 o4) rfl rfl rfl rfl (by decide) wd_222 wd_220 wd_221 wd_5 rfl (n9 := 3) (by decide +kernel) rfl ⟨(Nat.le_of_ble_eq_true rfl), (Nat.le_of_ble_eq_true rfl)⟩ hl.1 rfl (Nat.le_of_ble_eq_true rfl) d_N_init_66 (Nat.le_of_ble_eq_true rfl) (Nat.le_of_ble_eq_true rfl) (fun t9 H locs ht9 hB9 hj9 => ?_)
  have w := hj9 [] CE_nil
  refine W.cs (cells' := 123) (slots' := 1451) rfl rfl ?_
  have w : Wd D A s [(h, .inr (0, [.ref o1, .ref o3, .ref o4, .null, .null, .null, .int 0])), (o1, .inr (1, fP 0 qp2)), ((qp2 1), .inl (cI, 10, .inl (fun _ => 0))), ((qp2 6), .inl (cI, 10, .inl (fun _ => 0))), ((qp2 7), .inl (cI, 10, .inl (fun _ => 0))), ((qp2 8), .inl (cI, 10, .inl (fun _ => 0))), ((qp2 9), .inl (cI, 10, .inl (fun _ => 0)))] H _ := w
  refine R_putF C0 w 0 rfl rfl inN tyN_ok nmN 3 (by decide) wd_342 rfl hin rfl rfl rfl (Nat.le_of_ble_eq_true rfl) d_N_init_69 (fun H locs w => ?_)
  have w : Wd D A s [(h, .inr (0, [.ref o1, .ref o3, .ref o4, .ref o5, .null, .null, .int 0])), (o1, .inr (1, fP 0 qp2)), ((qp2 1), .inl (cI, 10, .inl (fun _ => 0))), ((qp2 6), .inl (cI, 10, .inl (fun _ => 0))), ((qp2 7), .inl (cI, 10, .inl (fun _ => 0))), ((qp2 8), .inl (cI, 10, .inl (fun _ => 0))), ((qp2 9), .inl (cI, 10, .inl (fun _ => 0)))] H _ := w
  refine lv_aload_n hx hb d_N_init_72 rfl (lv_at hl 0 rfl) ?_
  refine R_new C0 w (ci := 5) rfl inD tyD_ok wd_256 wd_257 wd_6 bornD (Nat.le_of_ble_eq_true rfl) (Nat.le_of_ble_eq_true rfl) d_N_init_73 (fun o6 H w => ?_)
  refine W.cs (cells' := 124) (slots' := 1457) rfl rfl ?_
  have w : Wd D A s [(h, .inr (0, [.ref o1, .ref o3, .ref o4, .ref o5, .null, .null, .int 0])), (o1, .inr (1, fP 0 qp2)), ((qp2 1), .inl (cI, 10, .inl (fun _ => 0))), ((qp2 6), .inl (cI, 10, .inl (fun _ => 0))), ((qp2 7), .inl (cI, 10, .inl (fun _ => 0))), ((qp2 8), .inl (cI, 10, .inl (fun _ => 0))), ((qp2 9), .inl (cI, 10, .inl (fun _ => 0))), (o6, .inr (5, [.null, .null, .null, .null, .null, .int 0]))] H _ := w
  refine lv_dup hx hb d_N_init_76 rfl ?_
  refine lv_aload_n hx hb d_N_init_77 rfl (lv_at hl 0 rfl) ?_
  refine R_get C0 w 0 rfl rfl inN 0 (by decide) wd_339 rfl d_N_init_78 ?_
  refine lv_aload_n hx hb d_N_init_81 rfl (lv_at hl 0 rfl) ?_
  refine R_get C0 w 0 rfl rfl inN 2 (by decide) wd_341 rfl d_N_init_82 ?_
  refine lv_aload_n hx hb d_N_init_85 rfl (lv_at hl 0 rfl) ?_
  refine R_get C0 w 0 rfl rfl inN 3 (by decide) wd_342 rfl d_N_init_86 ?_
  refine R_iv C0 w (rest := [.ref o6, .ref h]) (wr := [(h, .inr (0, [.ref o1, .ref o3, .ref o4, .ref o5, .null, .null, .int 0])), (o1, .inr (1, fP 0 qp2)), ((qp2 1), .inl (cI, 10, .inl (fun _ => 0))), ((qp2 6), .inl (cI, 10, .inl (fun _ => 0))), ((qp2 7), .inl (cI, 10, .inl (fun _ => 0))), ((qp2 8), .inl (cI, 10, .inl (fun _ => 0))), ((qp2 9), .inl (cI, 10, .inl (fun _ => 0)))]) [7] [0, 1, 2, 3, 4, 5, 6] (c_D_init l D cI cB cJ o6 o1 o4 o5) rfl rfl rfl rfl (by decide) wd_260 wd_258 wd_259 wd_6 rfl (n9 := 3) (by decide +kernel) rfl ⟨(Nat.le_of_ble_eq_true rfl), (Nat.le_of_ble_eq_true rfl)⟩ hl.1 rfl (Nat.le_of_ble_eq_true rfl) d_N_init_89 (Nat.le_of_ble_eq_true rfl) (Nat.le_of_ble_eq_true rfl) (fun t9 H locs ht9 hB9 hj9 => ?_)
  have w := hj9 [] CE_nil
  refine W.cs (cells' := 126) (slots' := 1709) rfl rfl ?_
  have w : Wd D A s [(h, .inr (0, [.ref o1, .ref o3, .ref o4, .ref o5, .null, .null, .int 0])), (o1, .inr (1, fP 0 qp2)), ((qp2 1), .inl (cI, 10, .inl (fun _ => 0))), ((qp2 6), .inl (cI, 10, .inl (fun _ => 0))), ((qp2 7), .inl (cI, 10, .inl (fun _ => 0))), ((qp2 8), .inl (cI, 10, .inl (fun _ => 0))), ((qp2 9), .inl (cI, 10, .inl (fun _ => 0)))] H _ := w
  refine R_putF C0 w 0 rfl rfl inN tyN_ok nmN 4 (by decide) wd_343 rfl hin rfl rfl rfl (Nat.le_of_ble_eq_true rfl) d_N_init_92 (fun H locs w => ?_)
  have w : Wd D A s [(h, .inr (0, [.ref o1, .ref o3, .ref o4, .ref o5, .ref o6, .null, .int 0])), (o1, .inr (1, fP 0 qp2)), ((qp2 1), .inl (cI, 10, .inl (fun _ => 0))), ((qp2 6), .inl (cI, 10, .inl (fun _ => 0))), ((qp2 7), .inl (cI, 10, .inl (fun _ => 0))), ((qp2 8), .inl (cI, 10, .inl (fun _ => 0))), ((qp2 9), .inl (cI, 10, .inl (fun _ => 0)))] H _ := w
  refine lv_aload_n hx hb d_N_init_95 rfl (lv_at hl 0 rfl) ?_
  refine R_new C0 w (ci := 6) rfl inA tyA_ok wd_284 wd_285 wd_7 bornA (Nat.le_of_ble_eq_true rfl) (Nat.le_of_ble_eq_true rfl) d_N_init_96 (fun o7 H w => ?_)
  refine W.cs (cells' := 127) (slots' := 1723) rfl rfl ?_
  have w : Wd D A s [(h, .inr (0, [.ref o1, .ref o3, .ref o4, .ref o5, .ref o6, .null, .int 0])), (o1, .inr (1, fP 0 qp2)), ((qp2 1), .inl (cI, 10, .inl (fun _ => 0))), ((qp2 6), .inl (cI, 10, .inl (fun _ => 0))), ((qp2 7), .inl (cI, 10, .inl (fun _ => 0))), ((qp2 8), .inl (cI, 10, .inl (fun _ => 0))), ((qp2 9), .inl (cI, 10, .inl (fun _ => 0))), (o7, .inr (6, [.null, .null, .null, .null, .int 0, .null, .null, .null, .null, .int 0, .null, .int 0, .int 0, .int 0]))] H _ := w
  refine lv_dup hx hb d_N_init_99 rfl ?_
  refine lv_aload_n hx hb d_N_init_100 rfl (lv_at hl 0 rfl) ?_
  refine R_get C0 w 0 rfl rfl inN 0 (by decide) wd_339 rfl d_N_init_101 ?_
  refine lv_aload_n hx hb d_N_init_104 rfl (lv_at hl 0 rfl) ?_
  refine R_get C0 w 0 rfl rfl inN 2 (by decide) wd_341 rfl d_N_init_105 ?_
  refine lv_aload_n hx hb d_N_init_108 rfl (lv_at hl 0 rfl) ?_
  refine R_get C0 w 0 rfl rfl inN 3 (by decide) wd_342 rfl d_N_init_109 ?_
  refine lv_aload_n hx hb d_N_init_112 rfl (lv_at hl 0 rfl) ?_
  refine R_get C0 w 0 rfl rfl inN 4 (by decide) wd_343 rfl d_N_init_113 ?_
  refine R_iv C0 w (rest := [.ref o7, .ref h]) (wr := [(h, .inr (0, [.ref o1, .ref o3, .ref o4, .ref o5, .ref o6, .null, .int 0])), (o1, .inr (1, fP 0 qp2)), ((qp2 1), .inl (cI, 10, .inl (fun _ => 0))), ((qp2 6), .inl (cI, 10, .inl (fun _ => 0))), ((qp2 7), .inl (cI, 10, .inl (fun _ => 0))), ((qp2 8), .inl (cI, 10, .inl (fun _ => 0))), ((qp2 9), .inl (cI, 10, .inl (fun _ => 0)))]) [7] [0, 1, 2, 3, 4, 5, 6] (c_A_init l D cI cB cJ o7 o1 o4 o5 o6) rfl rfl rfl rfl (by decide) wd_288 wd_286 wd_287 wd_7 rfl (n9 := 4) (by decide +kernel) rfl ⟨(Nat.le_of_ble_eq_true rfl), (Nat.le_of_ble_eq_true rfl)⟩ hl.1 rfl (Nat.le_of_ble_eq_true rfl) d_N_init_116 (Nat.le_of_ble_eq_true rfl) (Nat.le_of_ble_eq_true rfl) (fun t9 H locs ht9 hB9 hj9 => ?_)
  obtain ⟨qm8, hE9⟩ := hB9
  have w := hj9 _ hE9
  refine W.cs (cells' := 132) (slots' := 1917) rfl rfl ?_
  have w : Wd D A s [(h, .inr (0, [.ref o1, .ref o3, .ref o4, .ref o5, .ref o6, .null, .int 0])), (o1, .inr (1, fP 0 qp2)), ((qp2 1), .inl (cI, 10, .inl (fun _ => 0))), ((qp2 6), .inl (cI, 10, .inl (fun _ => 0))), ((qp2 7), .inl (cI, 10, .inl (fun _ => 0))), ((qp2 8), .inl (cI, 10, .inl (fun _ => 0))), ((qp2 9), .inl (cI, 10, .inl (fun _ => 0))), (o7, .inr (6, fA 0 qm8)), ((qm8 5), .inl (cI, 16, .inl (fun _ => 0)))] H _ := w
  refine R_putF C0 w 0 rfl rfl inN tyN_ok nmN 5 (by decide) wd_344 rfl hin rfl rfl rfl (Nat.le_of_ble_eq_true rfl) d_N_init_119 (fun H locs w => ?_)
  have w : Wd D A s [(h, .inr (0, [.ref o1, .ref o3, .ref o4, .ref o5, .ref o6, .ref o7, .int 0])), (o1, .inr (1, fP 0 qp2)), ((qp2 1), .inl (cI, 10, .inl (fun _ => 0))), ((qp2 6), .inl (cI, 10, .inl (fun _ => 0))), ((qp2 7), .inl (cI, 10, .inl (fun _ => 0))), ((qp2 8), .inl (cI, 10, .inl (fun _ => 0))), ((qp2 9), .inl (cI, 10, .inl (fun _ => 0))), (o7, .inr (6, fA 0 qm8)), ((qm8 5), .inl (cI, 16, .inl (fun _ => 0)))] H _ := w
  refine lv_aload_n hx hb d_N_init_122 rfl (lv_at hl 0 rfl) ?_
  refine lv_iconst (v := 0) hx hb d_N_init_123 (by decide) ?_
  refine R_put C0 w 0 rfl rfl inN tyN_ok nmN 6 (by decide) wd_345 rfl nz0 fz0 (Nat.le_of_ble_eq_true rfl) d_N_init_124 (fun H locs w => ?_)
  have w : Wd D A s [(h, .inr (0, [.ref o1, .ref o3, .ref o4, .ref o5, .ref o6, .ref o7, .int 0])), (o1, .inr (1, fP 0 qp2)), ((qp2 1), .inl (cI, 10, .inl (fun _ => 0))), ((qp2 6), .inl (cI, 10, .inl (fun _ => 0))), ((qp2 7), .inl (cI, 10, .inl (fun _ => 0))), ((qp2 8), .inl (cI, 10, .inl (fun _ => 0))), ((qp2 9), .inl (cI, 10, .inl (fun _ => 0))), (o7, .inr (6, fA 0 qm8)), ((qm8 5), .inl (cI, 16, .inl (fun _ => 0)))] H _ := w
  exact hret _ _ _ _ d_N_init_127 w.2.2.1 (fun t ht => ⟨fun k => [o1, o3, o4, o5, o6, o7, 0].getD k 0, qp2, qm8, by rw [ht]; exact (w.sub [0, 1, 7, 2, 3, 4, 5, 6, 8] rfl rfl).1, (w.sub [0, 1, 7, 2, 3, 4, 5, 6, 8] rfl rfl).2.1⟩)
