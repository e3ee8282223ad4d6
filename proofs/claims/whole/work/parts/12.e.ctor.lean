theorem Wd.re {D : va_G} {A : Nat → Prop} {s : State} {H : Heap} {locs : List Loc} {a b b2 : va_W} (e : b2 = b) (w : Wd D A s (a ++ b) H locs) : Wd D A s (a ++ b2) H locs := by rw [e]; exact w
set_option maxHeartbeats 4000000 in
set_option maxRecDepth 100000 in
theorem c_R_init (l : Launch) (D : va_G) (ct : Nat → ClassId) (h : Nat) : KV l D ct y_R_init b_R_init 1 1 12 30 1504 [.ref h] [(h, .inr (7, [.int 0, .int 0, .null, .null, .null, .null, .null, .null, .null, .null, .null, .int 0, .int 0, .null, .null, .null, .null, .int 0, .null, .null, .null, .null, .null, .null, .null, .null, .null, .int 0, .null, .null, .null, .null, .int 0, .null, .int 0, .int 0, .null, .int 0, .int 0, .null, .null]))] (fun A t => ∃ q : Nat → Nat, q 0 = h ∧ CE D (wR ct q M0) A t) := by
  refine KV.ofW (by decide) (Nat.le_of_ble_eq_true rfl) ?_
  intro p e s m args below meth c A Q ls C0 hin hl w hret
  have hin : meth.name = "<init>" := hin
  have hx := C0.1
  have hb := C0.2.1
  have hl : lv_has ls 1 [(0, .ref h)] := hl
  refine lv_aload_n hx hb d_R_init_0 rfl (lv_at hl 0 rfl) ?_
  refine W.objInit hx hb C0.2.2.2.1 (C0.2.2.2.2.1 _ wd_827) (C0.2.2.2.2.1 _ wd_23) (C0.2.2.2.2.1 _ wd_24) rfl (by rw [C0.2.2.1]; exact hl.1) rfl d_R_init_1 (Nat.le_of_ble_eq_true rfl) (Nat.le_of_ble_eq_true rfl) ?_
  refine W.eq (g2 := F0 m 4 ls []) rfl ?_
  refine lv_aload_n hx hb d_R_init_4 rfl (lv_at hl 0 rfl) ?_
  refine lv_bipush (v := 10) hx hb d_R_init_5 (by decide) ?_
  refine R_newI (N := 10) C0 w wd_93 (by decide) (by decide) (by decide) (Nat.le_of_ble_eq_true rfl) (Nat.le_of_ble_eq_true rfl) d_R_init_7 (fun q1 H w => ?_)
  refine W.cs (cells' := 1) (slots' := 10) rfl rfl ?_
  obtain ⟨r1, hr1⟩ : ∃ r : va_W, r = [(q1, .inl (ct 0, 10, .inl (fun _ => 0)))] := ⟨_, rfl⟩
  have w : Wd D A s ([(h, .inr (7, [.int 0, .int 0, .null, .null, .null, .null, .null, .null, .null, .null, .null, .int 0, .int 0, .null, .null, .null, .null, .int 0, .null, .null, .null, .null, .null, .null, .null, .null, .null, .int 0, .null, .null, .null, .null, .int 0, .null, .int 0, .int 0, .null, .int 0, .int 0, .null, .null]))] ++ r1) H _ := Wd.re hr1 w
  refine R_putF C0 w 0 rfl rfl inR tyR_ok nmR 2 (by decide) wd_830 rfl hin rfl rfl rfl (Nat.le_of_ble_eq_true rfl) d_R_init_9 (fun H locs w => ?_)
  have w : Wd D A s ([(h, .inr (7, [.int 0, .int 0, .ref q1, .null, .null, .null, .null, .null, .null, .null, .null, .int 0, .int 0, .null, .null, .null, .null, .int 0, .null, .null, .null, .null, .null, .null, .null, .null, .null, .int 0, .null, .null, .null, .null, .int 0, .null, .int 0, .int 0, .null, .int 0, .int 0, .null, .null]))] ++ r1) H _ := w
  refine lv_aload_n hx hb d_R_init_12 rfl (lv_at hl 0 rfl) ?_
  refine lv_bipush (v := 60) hx hb d_R_init_13 (by decide) ?_
  refine R_newI (N := 60) C0 w wd_93 (by decide) (by decide) (by decide) (Nat.le_of_ble_eq_true rfl) (Nat.le_of_ble_eq_true rfl) d_R_init_15 (fun q2 H w => ?_)
  refine W.cs (cells' := 2) (slots' := 70) rfl rfl ?_
  obtain ⟨r2, hr2⟩ : ∃ r : va_W, r = r1 ++ [(q2, .inl (ct 0, 60, .inl (fun _ => 0)))] := ⟨_, rfl⟩
  have w : Wd D A s ([(h, .inr (7, [.int 0, .int 0, .ref q1, .null, .null, .null, .null, .null, .null, .null, .null, .int 0, .int 0, .null, .null, .null, .null, .int 0, .null, .null, .null, .null, .null, .null, .null, .null, .null, .int 0, .null, .null, .null, .null, .int 0, .null, .int 0, .int 0, .null, .int 0, .int 0, .null, .null]))] ++ r2) H _ := Wd.re hr2 w.assoc'
  refine R_putF C0 w 0 rfl rfl inR tyR_ok nmR 3 (by decide) wd_831 rfl hin rfl rfl rfl (Nat.le_of_ble_eq_true rfl) d_R_init_17 (fun H locs w => ?_)
  have w : Wd D A s ([(h, .inr (7, [.int 0, .int 0, .ref q1, .ref q2, .null, .null, .null, .null, .null, .null, .null, .int 0, .int 0, .null, .null, .null, .null, .int 0, .null, .null, .null, .null, .null, .null, .null, .null, .null, .int 0, .null, .null, .null, .null, .int 0, .null, .int 0, .int 0, .null, .int 0, .int 0, .null, .null]))] ++ r2) H _ := w
  refine lv_aload_n hx hb d_R_init_20 rfl (lv_at hl 0 rfl) ?_
  refine lv_bipush (v := 60) hx hb d_R_init_21 (by decide) ?_
  refine R_newI (N := 60) C0 w wd_93 (by decide) (by decide) (by decide) (Nat.le_of_ble_eq_true rfl) (Nat.le_of_ble_eq_true rfl) d_R_init_23 (fun q3 H w => ?_)
  refine W.cs (cells' := 3) (slots' := 130) rfl rfl ?_
  obtain ⟨r3, hr3⟩ : ∃ r : va_W, r = r2 ++ [(q3, .inl (ct 0, 60, .inl (fun _ => 0)))] := ⟨_, rfl⟩
  have w : Wd D A s ([(h, .inr (7, [.int 0, .int 0, .ref q1, .ref q2, .null, .null, .null, .null, .null, .null, .null, .int 0, .int 0, .null, .null, .null, .null, .int 0, .null, .null, .null, .null, .null, .null, .null, .null, .null, .int 0, .null, .null, .null, .null, .int 0, .null, .int 0, .int 0, .null, .int 0, .int 0, .null, .null]))] ++ r3) H _ := Wd.re hr3 w.assoc'
  refine R_putF C0 w 0 rfl rfl inR tyR_ok nmR 4 (by decide) wd_832 rfl hin rfl rfl rfl (Nat.le_of_ble_eq_true rfl) d_R_init_25 (fun H locs w => ?_)
  have w : Wd D A s ([(h, .inr (7, [.int 0, .int 0, .ref q1, .ref q2, .ref q3, .null, .null, .null, .null, .null, .null, .int 0, .int 0, .null, .null, .null, .null, .int 0, .null, .null, .null, .null, .null, .null, .null, .null, .null, .int 0, .null, .null, .null, .null, .int 0, .null, .int 0, .int 0, .null, .int 0, .int 0, .null, .null]))] ++ r3) H _ := w
  refine lv_aload_n hx hb d_R_init_28 rfl (lv_at hl 0 rfl) ?_
  refine lv_bipush (v := 60) hx hb d_R_init_29 (by decide) ?_
  refine R_newI (N := 60) C0 w wd_93 (by decide) (by decide) (by decide) (Nat.le_of_ble_eq_true rfl) (Nat.le_of_ble_eq_true rfl) d_R_init_31 (fun q4 H w => ?_)
  refine W.cs (cells' := 4) (slots' := 190) rfl rfl ?_
  obtain ⟨r4, hr4⟩ : ∃ r : va_W, r = r3 ++ [(q4, .inl (ct 0, 60, .inl (fun _ => 0)))] := ⟨_, rfl⟩
  have w : Wd D A s ([(h, .inr (7, [.int 0, .int 0, .ref q1, .ref q2, .ref q3, .null, .null, .null, .null, .null, .null, .int 0, .int 0, .null, .null, .null, .null, .int 0, .null, .null, .null, .null, .null, .null, .null, .null, .null, .int 0, .null, .null, .null, .null, .int 0, .null, .int 0, .int 0, .null, .int 0, .int 0, .null, .null]))] ++ r4) H _ := Wd.re hr4 w.assoc'
  refine R_putF C0 w 0 rfl rfl inR tyR_ok nmR 5 (by decide) wd_833 rfl hin rfl rfl rfl (Nat.le_of_ble_eq_true rfl) d_R_init_33 (fun H locs w => ?_)
  have w : Wd D A s ([(h, .inr (7, [.int 0, .int 0, .ref q1, .ref q2, .ref q3, .ref q4, .null, .null, .null, .null, .null, .int 0, .int 0, .null, .null, .null, .null, .int 0, .null, .null, .null, .null, .null, .null, .null, .null, .null, .int 0, .null, .null, .null, .null, .int 0, .null, .int 0, .int 0, .null, .int 0, .int 0, .null, .null]))] ++ r4) H _ := w
  refine lv_aload_n hx hb d_R_init_36 rfl (lv_at hl 0 rfl) ?_
  refine lv_bipush (v := 60) hx hb d_R_init_37 (by decide) ?_
  refine R_newI (N := 60) C0 w wd_93 (by decide) (by decide) (by decide) (Nat.le_of_ble_eq_true rfl) (Nat.le_of_ble_eq_true rfl) d_R_init_39 (fun q5 H w => ?_)
  refine W.cs (cells' := 5) (slots' := 250) rfl rfl ?_
  obtain ⟨r5, hr5⟩ : ∃ r : va_W, r = r4 ++ [(q5, .inl (ct 0, 60, .inl (fun _ => 0)))] := ⟨_, rfl⟩
  have w : Wd D A s ([(h, .inr (7, [.int 0, .int 0, .ref q1, .ref q2, .ref q3, .ref q4, .null, .null, .null, .null, .null, .int 0, .int 0, .null, .null, .null, .null, .int 0, .null, .null, .null, .null, .null, .null, .null, .null, .null, .int 0, .null, .null, .null, .null, .int 0, .null, .int 0, .int 0, .null, .int 0, .int 0, .null, .null]))] ++ r5) H _ := Wd.re hr5 w.assoc'
  refine R_putF C0 w 0 rfl rfl inR tyR_ok nmR 6 (by decide) wd_834 rfl hin rfl rfl rfl (Nat.le_of_ble_eq_true rfl) d_R_init_41 (fun H locs w => ?_)
  have w : Wd D A s ([(h, .inr (7, [.int 0, .int 0, .ref q1, .ref q2, .ref q3, .ref q4, .ref q5, .null, .null, .null, .null, .int 0, .int 0, .null, .null, .null, .null, .int 0, .null, .null, .null, .null, .null, .null, .null, .null, .null, .int 0, .null, .null, .null, .null, .int 0, .null, .int 0, .int 0, .null, .int 0, .int 0, .null, .null]))] ++ r5) H _ := w
  refine lv_aload_n hx hb d_R_init_44 rfl (lv_at hl 0 rfl) ?_
  refine lv_bipush (v := 10) hx hb d_R_init_45 (by decide) ?_
  refine R_newI (N := 10) C0 w wd_93 (by decide) (by decide) (by decide) (Nat.le_of_ble_eq_true rfl) (Nat.le_of_ble_eq_true rfl) d_R_init_47 (fun q6 H w => ?_)
  refine W.cs (cells' := 6) (slots' := 260) rfl rfl ?_
  obtain ⟨r6, hr6⟩ : ∃ r : va_W, r = r5 ++ [(q6, .inl (ct 0, 10, .inl (fun _ => 0)))] := ⟨_, rfl⟩
  have w : Wd D A s ([(h, .inr (7, [.int 0, .int 0, .ref q1, .ref q2, .ref q3, .ref q4, .ref q5, .null, .null, .null, .null, .int 0, .int 0, .null, .null, .null, .null, .int 0, .null, .null, .null, .null, .null, .null, .null, .null, .null, .int 0, .null, .null, .null, .null, .int 0, .null, .int 0, .int 0, .null, .int 0, .int 0, .null, .null]))] ++ r6) H _ := Wd.re hr6 w.assoc'
  refine R_putF C0 w 0 rfl rfl inR tyR_ok nmR 7 (by decide) wd_835 rfl hin rfl rfl rfl (Nat.le_of_ble_eq_true rfl) d_R_init_49 (fun H locs w => ?_)
  have w : Wd D A s ([(h, .inr (7, [.int 0, .int 0, .ref q1, .ref q2, .ref q3, .ref q4, .ref q5, .ref q6, .null, .null, .null, .int 0, .int 0, .null, .null, .null, .null, .int 0, .null, .null, .null, .null, .null, .null, .null, .null, .null, .int 0, .null, .null, .null, .null, .int 0, .null, .int 0, .int 0, .null, .int 0, .int 0, .null, .null]))] ++ r6) H _ := w
  refine lv_aload_n hx hb d_R_init_52 rfl (lv_at hl 0 rfl) ?_
  refine lv_bipush (v := 10) hx hb d_R_init_53 (by decide) ?_
  refine R_newI (N := 10) C0 w wd_93 (by decide) (by decide) (by decide) (Nat.le_of_ble_eq_true rfl) (Nat.le_of_ble_eq_true rfl) d_R_init_55 (fun q7 H w => ?_)
  refine W.cs (cells' := 7) (slots' := 270) rfl rfl ?_
  obtain ⟨r7, hr7⟩ : ∃ r : va_W, r = r6 ++ [(q7, .inl (ct 0, 10, .inl (fun _ => 0)))] := ⟨_, rfl⟩
  have w : Wd D A s ([(h, .inr (7, [.int 0, .int 0, .ref q1, .ref q2, .ref q3, .ref q4, .ref q5, .ref q6, .null, .null, .null, .int 0, .int 0, .null, .null, .null, .null, .int 0, .null, .null, .null, .null, .null, .null, .null, .null, .null, .int 0, .null, .null, .null, .null, .int 0, .null, .int 0, .int 0, .null, .int 0, .int 0, .null, .null]))] ++ r7) H _ := Wd.re hr7 w.assoc'
  refine R_putF C0 w 0 rfl rfl inR tyR_ok nmR 8 (by decide) wd_836 rfl hin rfl rfl rfl (Nat.le_of_ble_eq_true rfl) d_R_init_57 (fun H locs w => ?_)
  have w : Wd D A s ([(h, .inr (7, [.int 0, .int 0, .ref q1, .ref q2, .ref q3, .ref q4, .ref q5, .ref q6, .ref q7, .null, .null, .int 0, .int 0, .null, .null, .null, .null, .int 0, .null, .null, .null, .null, .null, .null, .null, .null, .null, .int 0, .null, .null, .null, .null, .int 0, .null, .int 0, .int 0, .null, .int 0, .int 0, .null, .null]))] ++ r7) H _ := w
  refine lv_aload_n hx hb d_R_init_60 rfl (lv_at hl 0 rfl) ?_
  refine lv_bipush (v := 10) hx hb d_R_init_61 (by decide) ?_
  refine R_newI (N := 10) C0 w wd_93 (by decide) (by decide) (by decide) (Nat.le_of_ble_eq_true rfl) (Nat.le_of_ble_eq_true rfl) d_R_init_63 (fun q8 H w => ?_)
  refine W.cs (cells' := 8) (slots' := 280) rfl rfl ?_
  obtain ⟨r8, hr8⟩ : ∃ r : va_W, r = r7 ++ [(q8, .inl (ct 0, 10, .inl (fun _ => 0)))] := ⟨_, rfl⟩
  have w : Wd D A s ([(h, .inr (7, [.int 0, .int 0, .ref q1, .ref q2, .ref q3, .ref q4, .ref q5, .ref q6, .ref q7, .null, .null, .int 0, .int 0, .null, .null, .null, .null, .int 0, .null, .null, .null, .null, .null, .null, .null, .null, .null, .int 0, .null, .null, .null, .null, .int 0, .null, .int 0, .int 0, .null, .int 0, .int 0, .null, .null]))] ++ r8) H _ := Wd.re hr8 w.assoc'
  refine R_putF C0 w 0 rfl rfl inR tyR_ok nmR 9 (by decide) wd_837 rfl hin rfl rfl rfl (Nat.le_of_ble_eq_true rfl) d_R_init_65 (fun H locs w => ?_)
  have w : Wd D A s ([(h, .inr (7, [.int 0, .int 0, .ref q1, .ref q2, .ref q3, .ref q4, .ref q5, .ref q6, .ref q7, .ref q8, .null, .int 0, .int 0, .null, .null, .null, .null, .int 0, .null, .null, .null, .null, .null, .null, .null, .null, .null, .int 0, .null, .null, .null, .null, .int 0, .null, .int 0, .int 0, .null, .int 0, .int 0, .null, .null]))] ++ r8) H _ := w
  refine lv_aload_n hx hb d_R_init_68 rfl (lv_at hl 0 rfl) ?_
  refine lv_bipush (v := 10) hx hb d_R_init_69 (by decide) ?_
  refine R_newI (N := 10) C0 w wd_93 (by decide) (by decide) (by decide) (Nat.le_of_ble_eq_true rfl) (Nat.le_of_ble_eq_true rfl) d_R_init_71 (fun q9 H w => ?_)
  refine W.cs (cells' := 9) (slots' := 290) rfl rfl ?_
  obtain ⟨r9, hr9⟩ : ∃ r : va_W, r = r8 ++ [(q9, .inl (ct 0, 10, .inl (fun _ => 0)))] := ⟨_, rfl⟩
  have w : Wd D A s ([(h, .inr (7, [.int 0, .int 0, .ref q1, .ref q2, .ref q3, .ref q4, .ref q5, .ref q6, .ref q7, .ref q8, .null, .int 0, .int 0, .null, .null, .null, .null, .int 0, .null, .null, .null, .null, .null, .null, .null, .null, .null, .int 0, .null, .null, .null, .null, .int 0, .null, .int 0, .int 0, .null, .int 0, .int 0, .null, .null]))] ++ r9) H _ := Wd.re hr9 w.assoc'
  refine R_putF C0 w 0 rfl rfl inR tyR_ok nmR 10 (by decide) wd_838 rfl hin rfl rfl rfl (Nat.le_of_ble_eq_true rfl) d_R_init_73 (fun H locs w => ?_)
  have w : Wd D A s ([(h, .inr (7, [.int 0, .int 0, .ref q1, .ref q2, .ref q3, .ref q4, .ref q5, .ref q6, .ref q7, .ref q8, .ref q9, .int 0, .int 0, .null, .null, .null, .null, .int 0, .null, .null, .null, .null, .null, .null, .null, .null, .null, .int 0, .null, .null, .null, .null, .int 0, .null, .int 0, .int 0, .null, .int 0, .int 0, .null, .null]))] ++ r9) H _ := w
  refine lv_aload_n hx hb d_R_init_76 rfl (lv_at hl 0 rfl) ?_
  refine lv_bipush (v := 10) hx hb d_R_init_77 (by decide) ?_
  refine R_newI (N := 10) C0 w wd_93 (by decide) (by decide) (by decide) (Nat.le_of_ble_eq_true rfl) (Nat.le_of_ble_eq_true rfl) d_R_init_79 (fun q10 H w => ?_)
  refine W.cs (cells' := 10) (slots' := 300) rfl rfl ?_
  obtain ⟨r10, hr10⟩ : ∃ r : va_W, r = r9 ++ [(q10, .inl (ct 0, 10, .inl (fun _ => 0)))] := ⟨_, rfl⟩
  have w : Wd D A s ([(h, .inr (7, [.int 0, .int 0, .ref q1, .ref q2, .ref q3, .ref q4, .ref q5, .ref q6, .ref q7, .ref q8, .ref q9, .int 0, .int 0, .null, .null, .null, .null, .int 0, .null, .null, .null, .null, .null, .null, .null, .null, .null, .int 0, .null, .null, .null, .null, .int 0, .null, .int 0, .int 0, .null, .int 0, .int 0, .null, .null]))] ++ r10) H _ := Wd.re hr10 w.assoc'
  refine R_putF C0 w 0 rfl rfl inR tyR_ok nmR 13 (by decide) wd_841 rfl hin rfl rfl rfl (Nat.le_of_ble_eq_true rfl) d_R_init_81 (fun H locs w => ?_)
  have w : Wd D A s ([(h, .inr (7, [.int 0, .int 0, .ref q1, .ref q2, .ref q3, .ref q4, .ref q5, .ref q6, .ref q7, .ref q8, .ref q9, .int 0, .int 0, .ref q10, .null, .null, .null, .int 0, .null, .null, .null, .null, .null, .null, .null, .null, .null, .int 0, .null, .null, .null, .null, .int 0, .null, .int 0, .int 0, .null, .int 0, .int 0, .null, .null]))] ++ r10) H _ := w
  refine lv_aload_n hx hb d_R_init_84 rfl (lv_at hl 0 rfl) ?_
  refine lv_bipush (v := 10) hx hb d_R_init_85 (by decide) ?_
  refine R_newI (N := 10) C0 w wd_93 (by decide) (by decide) (by decide) (Nat.le_of_ble_eq_true rfl) (Nat.le_of_ble_eq_true rfl) d_R_init_87 (fun q11 H w => ?_)
  refine W.cs (cells' := 11) (slots' := 310) rfl rfl ?_
  obtain ⟨r11, hr11⟩ : ∃ r : va_W, r = r10 ++ [(q11, .inl (ct 0, 10, .inl (fun _ => 0)))] := ⟨_, rfl⟩
  have w : Wd D A s ([(h, .inr (7, [.int 0, .int 0, .ref q1, .ref q2, .ref q3, .ref q4, .ref q5, .ref q6, .ref q7, .ref q8, .ref q9, .int 0, .int 0, .ref q10, .null, .null, .null, .int 0, .null, .null, .null, .null, .null, .null, .null, .null, .null, .int 0, .null, .null, .null, .null, .int 0, .null, .int 0, .int 0, .null, .int 0, .int 0, .null, .null]))] ++ r11) H _ := Wd.re hr11 w.assoc'
  refine R_putF C0 w 0 rfl rfl inR tyR_ok nmR 14 (by decide) wd_842 rfl hin rfl rfl rfl (Nat.le_of_ble_eq_true rfl) d_R_init_89 (fun H locs w => ?_)
  have w : Wd D A s ([(h, .inr (7, [.int 0, .int 0, .ref q1, .ref q2, .ref q3, .ref q4, .ref q5, .ref q6, .ref q7, .ref q8, .ref q9, .int 0, .int 0, .ref q10, .ref q11, .null, .null, .int 0, .null, .null, .null, .null, .null, .null, .null, .null, .null, .int 0, .null, .null, .null, .null, .int 0, .null, .int 0, .int 0, .null, .int 0, .int 0, .null, .null]))] ++ r11) H _ := w
  refine lv_aload_n hx hb d_R_init_92 rfl (lv_at hl 0 rfl) ?_
  refine lv_bipush (v := 10) hx hb d_R_init_93 (by decide) ?_
  refine R_newI (N := 10) C0 w wd_93 (by decide) (by decide) (by decide) (Nat.le_of_ble_eq_true rfl) (Nat.le_of_ble_eq_true rfl) d_R_init_95 (fun q12 H w => ?_)
  refine W.cs (cells' := 12) (slots' := 320) rfl rfl ?_
  obtain ⟨r12, hr12⟩ : ∃ r : va_W, r = r11 ++ [(q12, .inl (ct 0, 10, .inl (fun _ => 0)))] := ⟨_, rfl⟩
  have w : Wd D A s ([(h, .inr (7, [.int 0, .int 0, .ref q1, .ref q2, .ref q3, .ref q4, .ref q5, .ref q6, .ref q7, .ref q8, .ref q9, .int 0, .int 0, .ref q10, .ref q11, .null, .null, .int 0, .null, .null, .null, .null, .null, .null, .null, .null, .null, .int 0, .null, .null, .null, .null, .int 0, .null, .int 0, .int 0, .null, .int 0, .int 0, .null, .null]))] ++ r12) H _ := Wd.re hr12 w.assoc'
  refine R_putF C0 w 0 rfl rfl inR tyR_ok nmR 15 (by decide) wd_843 rfl hin rfl rfl rfl (Nat.le_of_ble_eq_true rfl) d_R_init_97 (fun H locs w => ?_)
  have w : Wd D A s ([(h, .inr (7, [.int 0, .int 0, .ref q1, .ref q2, .ref q3, .ref q4, .ref q5, .ref q6, .ref q7, .ref q8, .ref q9, .int 0, .int 0, .ref q10, .ref q11, .ref q12, .null, .int 0, .null, .null, .null, .null, .null, .null, .null, .null, .null, .int 0, .null, .null, .null, .null, .int 0, .null, .int 0, .int 0, .null, .int 0, .int 0, .null, .null]))] ++ r12) H _ := w
  refine lv_aload_n hx hb d_R_init_100 rfl (lv_at hl 0 rfl) ?_
  refine lv_bipush (v := 10) hx hb d_R_init_101 (by decide) ?_
  refine R_newI (N := 10) C0 w wd_93 (by decide) (by decide) (by decide) (Nat.le_of_ble_eq_true rfl) (Nat.le_of_ble_eq_true rfl) d_R_init_103 (fun q13 H w => ?_)
  refine W.cs (cells' := 13) (slots' := 330) rfl rfl ?_
  obtain ⟨r13, hr13⟩ : ∃ r : va_W, r = r12 ++ [(q13, .inl (ct 0, 10, .inl (fun _ => 0)))] := ⟨_, rfl⟩
  have w : Wd D A s ([(h, .inr (7, [.int 0, .int 0, .ref q1, .ref q2, .ref q3, .ref q4, .ref q5, .ref q6, .ref q7, .ref q8, .ref q9, .int 0, .int 0, .ref q10, .ref q11, .ref q12, .null, .int 0, .null, .null, .null, .null, .null, .null, .null, .null, .null, .int 0, .null, .null, .null, .null, .int 0, .null, .int 0, .int 0, .null, .int 0, .int 0, .null, .null]))] ++ r13) H _ := Wd.re hr13 w.assoc'
  refine R_putF C0 w 0 rfl rfl inR tyR_ok nmR 16 (by decide) wd_844 rfl hin rfl rfl rfl (Nat.le_of_ble_eq_true rfl) d_R_init_105 (fun H locs w => ?_)
  have w : Wd D A s ([(h, .inr (7, [.int 0, .int 0, .ref q1, .ref q2, .ref q3, .ref q4, .ref q5, .ref q6, .ref q7, .ref q8, .ref q9, .int 0, .int 0, .ref q10, .ref q11, .ref q12, .ref q13, .int 0, .null, .null, .null, .null, .null, .null, .null, .null, .null, .int 0, .null, .null, .null, .null, .int 0, .null, .int 0, .int 0, .null, .int 0, .int 0, .null, .null]))] ++ r13) H _ := w
  refine lv_aload_n hx hb d_R_init_108 rfl (lv_at hl 0 rfl) ?_
  refine lv_sipush (v := 130) hx hb d_R_init_109 (by decide) ?_
  refine R_newI (N := 130) C0 w wd_93 (by decide) (by decide) (by decide) (Nat.le_of_ble_eq_true rfl) (Nat.le_of_ble_eq_true rfl) d_R_init_112 (fun q14 H w => ?_)
  refine W.cs (cells' := 14) (slots' := 460) rfl rfl ?_
  obtain ⟨r14, hr14⟩ : ∃ r : va_W, r = r13 ++ [(q14, .inl (ct 0, 130, .inl (fun _ => 0)))] := ⟨_, rfl⟩
  have w : Wd D A s ([(h, .inr (7, [.int 0, .int 0, .ref q1, .ref q2, .ref q3, .ref q4, .ref q5, .ref q6, .ref q7, .ref q8, .ref q9, .int 0, .int 0, .ref q10, .ref q11, .ref q12, .ref q13, .int 0, .null, .null, .null, .null, .null, .null, .null, .null, .null, .int 0, .null, .null, .null, .null, .int 0, .null, .int 0, .int 0, .null, .int 0, .int 0, .null, .null]))] ++ r14) H _ := Wd.re hr14 w.assoc'
  refine R_putF C0 w 0 rfl rfl inR tyR_ok nmR 18 (by decide) wd_846 rfl hin rfl rfl rfl (Nat.le_of_ble_eq_true rfl) d_R_init_114 (fun H locs w => ?_)
  have w : Wd D A s ([(h, .inr (7, [.int 0, .int 0, .ref q1, .ref q2, .ref q3, .ref q4, .ref q5, .ref q6, .ref q7, .ref q8, .ref q9, .int 0, .int 0, .ref q10, .ref q11, .ref q12, .ref q13, .int 0, .ref q14, .null, .null, .null, .null, .null, .null, .null, .null, .int 0, .null, .null, .null, .null, .int 0, .null, .int 0, .int 0, .null, .int 0, .int 0, .null, .null]))] ++ r14) H _ := w
  refine lv_aload_n hx hb d_R_init_117 rfl (lv_at hl 0 rfl) ?_
  refine lv_sipush (v := 130) hx hb d_R_init_118 (by decide) ?_
  refine R_newI (N := 130) C0 w wd_93 (by decide) (by decide) (by decide) (Nat.le_of_ble_eq_true rfl) (Nat.le_of_ble_eq_true rfl) d_R_init_121 (fun q15 H w => ?_)
  refine W.cs (cells' := 15) (slots' := 590) rfl rfl ?_
  obtain ⟨r15, hr15⟩ : ∃ r : va_W, r = r14 ++ [(q15, .inl (ct 0, 130, .inl (fun _ => 0)))] := ⟨_, rfl⟩
  have w : Wd D A s ([(h, .inr (7, [.int 0, .int 0, .ref q1, .ref q2, .ref q3, .ref q4, .ref q5, .ref q6, .ref q7, .ref q8, .ref q9, .int 0, .int 0, .ref q10, .ref q11, .ref q12, .ref q13, .int 0, .ref q14, .null, .null, .null, .null, .null, .null, .null, .null, .int 0, .null, .null, .null, .null, .int 0, .null, .int 0, .int 0, .null, .int 0, .int 0, .null, .null]))] ++ r15) H _ := Wd.re hr15 w.assoc'
  refine R_putF C0 w 0 rfl rfl inR tyR_ok nmR 19 (by decide) wd_847 rfl hin rfl rfl rfl (Nat.le_of_ble_eq_true rfl) d_R_init_123 (fun H locs w => ?_)
  have w : Wd D A s ([(h, .inr (7, [.int 0, .int 0, .ref q1, .ref q2, .ref q3, .ref q4, .ref q5, .ref q6, .ref q7, .ref q8, .ref q9, .int 0, .int 0, .ref q10, .ref q11, .ref q12, .ref q13, .int 0, .ref q14, .ref q15, .null, .null, .null, .null, .null, .null, .null, .int 0, .null, .null, .null, .null, .int 0, .null, .int 0, .int 0, .null, .int 0, .int 0, .null, .null]))] ++ r15) H _ := w
  refine lv_aload_n hx hb d_R_init_126 rfl (lv_at hl 0 rfl) ?_
  refine lv_bipush (v := 60) hx hb d_R_init_127 (by decide) ?_
  refine R_newI (N := 60) C0 w wd_93 (by decide) (by decide) (by decide) (Nat.le_of_ble_eq_true rfl) (Nat.le_of_ble_eq_true rfl) d_R_init_129 (fun q16 H w => ?_)
  refine W.cs (cells' := 16) (slots' := 650) rfl rfl ?_
  obtain ⟨r16, hr16⟩ : ∃ r : va_W, r = r15 ++ [(q16, .inl (ct 0, 60, .inl (fun _ => 0)))] := ⟨_, rfl⟩
  have w : Wd D A s ([(h, .inr (7, [.int 0, .int 0, .ref q1, .ref q2, .ref q3, .ref q4, .ref q5, .ref q6, .ref q7, .ref q8, .ref q9, .int 0, .int 0, .ref q10, .ref q11, .ref q12, .ref q13, .int 0, .ref q14, .ref q15, .null, .null, .null, .null, .null, .null, .null, .int 0, .null, .null, .null, .null, .int 0, .null, .int 0, .int 0, .null, .int 0, .int 0, .null, .null]))] ++ r16) H _ := Wd.re hr16 w.assoc'
  refine R_putF C0 w 0 rfl rfl inR tyR_ok nmR 20 (by decide) wd_848 rfl hin rfl rfl rfl (Nat.le_of_ble_eq_true rfl) d_R_init_131 (fun H locs w => ?_)
  have w : Wd D A s ([(h, .inr (7, [.int 0, .int 0, .ref q1, .ref q2, .ref q3, .ref q4, .ref q5, .ref q6, .ref q7, .ref q8, .ref q9, .int 0, .int 0, .ref q10, .ref q11, .ref q12, .ref q13, .int 0, .ref q14, .ref q15, .ref q16, .null, .null, .null, .null, .null, .null, .int 0, .null, .null, .null, .null, .int 0, .null, .int 0, .int 0, .null, .int 0, .int 0, .null, .null]))] ++ r16) H _ := w
  refine lv_aload_n hx hb d_R_init_134 rfl (lv_at hl 0 rfl) ?_
  refine lv_bipush (v := 60) hx hb d_R_init_135 (by decide) ?_
  refine R_newI (N := 60) C0 w wd_93 (by decide) (by decide) (by decide) (Nat.le_of_ble_eq_true rfl) (Nat.le_of_ble_eq_true rfl) d_R_init_137 (fun q17 H w => ?_)
  refine W.cs (cells' := 17) (slots' := 710) rfl rfl ?_
  obtain ⟨r17, hr17⟩ : ∃ r : va_W, r = r16 ++ [(q17, .inl (ct 0, 60, .inl (fun _ => 0)))] := ⟨_, rfl⟩
  have w : Wd D A s ([(h, .inr (7, [.int 0, .int 0, .ref q1, .ref q2, .ref q3, .ref q4, .ref q5, .ref q6, .ref q7, .ref q8, .ref q9, .int 0, .int 0, .ref q10, .ref q11, .ref q12, .ref q13, .int 0, .ref q14, .ref q15, .ref q16, .null, .null, .null, .null, .null, .null, .int 0, .null, .null, .null, .null, .int 0, .null, .int 0, .int 0, .null, .int 0, .int 0, .null, .null]))] ++ r17) H _ := Wd.re hr17 w.assoc'
  refine R_putF C0 w 0 rfl rfl inR tyR_ok nmR 21 (by decide) wd_849 rfl hin rfl rfl rfl (Nat.le_of_ble_eq_true rfl) d_R_init_139 (fun H locs w => ?_)
  have w : Wd D A s ([(h, .inr (7, [.int 0, .int 0, .ref q1, .ref q2, .ref q3, .ref q4, .ref q5, .ref q6, .ref q7, .ref q8, .ref q9, .int 0, .int 0, .ref q10, .ref q11, .ref q12, .ref q13, .int 0, .ref q14, .ref q15, .ref q16, .ref q17, .null, .null, .null, .null, .null, .int 0, .null, .null, .null, .null, .int 0, .null, .int 0, .int 0, .null, .int 0, .int 0, .null, .null]))] ++ r17) H _ := w
  refine lv_aload_n hx hb d_R_init_142 rfl (lv_at hl 0 rfl) ?_
  refine lv_bipush (v := 60) hx hb d_R_init_143 (by decide) ?_
  refine R_newI (N := 60) C0 w wd_93 (by decide) (by decide) (by decide) (Nat.le_of_ble_eq_true rfl) (Nat.le_of_ble_eq_true rfl) d_R_init_145 (fun q18 H w => ?_)
  refine W.cs (cells' := 18) (slots' := 770) rfl rfl ?_
  obtain ⟨r18, hr18⟩ : ∃ r : va_W, r = r17 ++ [(q18, .inl (ct 0, 60, .inl (fun _ => 0)))] := ⟨_, rfl⟩
  have w : Wd D A s ([(h, .inr (7, [.int 0, .int 0, .ref q1, .ref q2, .ref q3, .ref q4, .ref q5, .ref q6, .ref q7, .ref q8, .ref q9, .int 0, .int 0, .ref q10, .ref q11, .ref q12, .ref q13, .int 0, .ref q14, .ref q15, .ref q16, .ref q17, .null, .null, .null, .null, .null, .int 0, .null, .null, .null, .null, .int 0, .null, .int 0, .int 0, .null, .int 0, .int 0, .null, .null]))] ++ r18) H _ := Wd.re hr18 w.assoc'
  refine R_putF C0 w 0 rfl rfl inR tyR_ok nmR 22 (by decide) wd_850 rfl hin rfl rfl rfl (Nat.le_of_ble_eq_true rfl) d_R_init_147 (fun H locs w => ?_)
  have w : Wd D A s ([(h, .inr (7, [.int 0, .int 0, .ref q1, .ref q2, .ref q3, .ref q4, .ref q5, .ref q6, .ref q7, .ref q8, .ref q9, .int 0, .int 0, .ref q10, .ref q11, .ref q12, .ref q13, .int 0, .ref q14, .ref q15, .ref q16, .ref q17, .ref q18, .null, .null, .null, .null, .int 0, .null, .null, .null, .null, .int 0, .null, .int 0, .int 0, .null, .int 0, .int 0, .null, .null]))] ++ r18) H _ := w
  refine lv_aload_n hx hb d_R_init_150 rfl (lv_at hl 0 rfl) ?_
  refine lv_bipush (v := 60) hx hb d_R_init_151 (by decide) ?_
  refine R_newI (N := 60) C0 w wd_93 (by decide) (by decide) (by decide) (Nat.le_of_ble_eq_true rfl) (Nat.le_of_ble_eq_true rfl) d_R_init_153 (fun q19 H w => ?_)
  refine W.cs (cells' := 19) (slots' := 830) rfl rfl ?_
  obtain ⟨r19, hr19⟩ : ∃ r : va_W, r = r18 ++ [(q19, .inl (ct 0, 60, .inl (fun _ => 0)))] := ⟨_, rfl⟩
  have w : Wd D A s ([(h, .inr (7, [.int 0, .int 0, .ref q1, .ref q2, .ref q3, .ref q4, .ref q5, .ref q6, .ref q7, .ref q8, .ref q9, .int 0, .int 0, .ref q10, .ref q11, .ref q12, .ref q13, .int 0, .ref q14, .ref q15, .ref q16, .ref q17, .ref q18, .null, .null, .null, .null, .int 0, .null, .null, .null, .null, .int 0, .null, .int 0, .int 0, .null, .int 0, .int 0, .null, .null]))] ++ r19) H _ := Wd.re hr19 w.assoc'
  refine R_putF C0 w 0 rfl rfl inR tyR_ok nmR 23 (by decide) wd_851 rfl hin rfl rfl rfl (Nat.le_of_ble_eq_true rfl) d_R_init_155 (fun H locs w => ?_)
  have w : Wd D A s ([(h, .inr (7, [.int 0, .int 0, .ref q1, .ref q2, .ref q3, .ref q4, .ref q5, .ref q6, .ref q7, .ref q8, .ref q9, .int 0, .int 0, .ref q10, .ref q11, .ref q12, .ref q13, .int 0, .ref q14, .ref q15, .ref q16, .ref q17, .ref q18, .ref q19, .null, .null, .null, .int 0, .null, .null, .null, .null, .int 0, .null, .int 0, .int 0, .null, .int 0, .int 0, .null, .null]))] ++ r19) H _ := w
  refine lv_aload_n hx hb d_R_init_158 rfl (lv_at hl 0 rfl) ?_
  refine lv_bipush (v := 10) hx hb d_R_init_159 (by decide) ?_
  refine R_newI (N := 10) C0 w wd_93 (by decide) (by decide) (by decide) (Nat.le_of_ble_eq_true rfl) (Nat.le_of_ble_eq_true rfl) d_R_init_161 (fun q20 H w => ?_)
  refine W.cs (cells' := 20) (slots' := 840) rfl rfl ?_
  obtain ⟨r20, hr20⟩ : ∃ r : va_W, r = r19 ++ [(q20, .inl (ct 0, 10, .inl (fun _ => 0)))] := ⟨_, rfl⟩
  have w : Wd D A s ([(h, .inr (7, [.int 0, .int 0, .ref q1, .ref q2, .ref q3, .ref q4, .ref q5, .ref q6, .ref q7, .ref q8, .ref q9, .int 0, .int 0, .ref q10, .ref q11, .ref q12, .ref q13, .int 0, .ref q14, .ref q15, .ref q16, .ref q17, .ref q18, .ref q19, .null, .null, .null, .int 0, .null, .null, .null, .null, .int 0, .null, .int 0, .int 0, .null, .int 0, .int 0, .null, .null]))] ++ r20) H _ := Wd.re hr20 w.assoc'
  refine R_putF C0 w 0 rfl rfl inR tyR_ok nmR 24 (by decide) wd_852 rfl hin rfl rfl rfl (Nat.le_of_ble_eq_true rfl) d_R_init_163 (fun H locs w => ?_)
  have w : Wd D A s ([(h, .inr (7, [.int 0, .int 0, .ref q1, .ref q2, .ref q3, .ref q4, .ref q5, .ref q6, .ref q7, .ref q8, .ref q9, .int 0, .int 0, .ref q10, .ref q11, .ref q12, .ref q13, .int 0, .ref q14, .ref q15, .ref q16, .ref q17, .ref q18, .ref q19, .ref q20, .null, .null, .int 0, .null, .null, .null, .null, .int 0, .null, .int 0, .int 0, .null, .int 0, .int 0, .null, .null]))] ++ r20) H _ := w
  refine lv_aload_n hx hb d_R_init_166 rfl (lv_at hl 0 rfl) ?_
  refine lv_bipush (v := 60) hx hb d_R_init_167 (by decide) ?_
  refine R_newI (N := 60) C0 w wd_93 (by decide) (by decide) (by decide) (Nat.le_of_ble_eq_true rfl) (Nat.le_of_ble_eq_true rfl) d_R_init_169 (fun q21 H w => ?_)
  refine W.cs (cells' := 21) (slots' := 900) rfl rfl ?_
  obtain ⟨r21, hr21⟩ : ∃ r : va_W, r = r20 ++ [(q21, .inl (ct 0, 60, .inl (fun _ => 0)))] := ⟨_, rfl⟩
  have w : Wd D A s ([(h, .inr (7, [.int 0, .int 0, .ref q1, .ref q2, .ref q3, .ref q4, .ref q5, .ref q6, .ref q7, .ref q8, .ref q9, .int 0, .int 0, .ref q10, .ref q11, .ref q12, .ref q13, .int 0, .ref q14, .ref q15, .ref q16, .ref q17, .ref q18, .ref q19, .ref q20, .null, .null, .int 0, .null, .null, .null, .null, .int 0, .null, .int 0, .int 0, .null, .int 0, .int 0, .null, .null]))] ++ r21) H _ := Wd.re hr21 w.assoc'
  refine R_putF C0 w 0 rfl rfl inR tyR_ok nmR 25 (by decide) wd_853 rfl hin rfl rfl rfl (Nat.le_of_ble_eq_true rfl) d_R_init_171 (fun H locs w => ?_)
  have w : Wd D A s ([(h, .inr (7, [.int 0, .int 0, .ref q1, .ref q2, .ref q3, .ref q4, .ref q5, .ref q6, .ref q7, .ref q8, .ref q9, .int 0, .int 0, .ref q10, .ref q11, .ref q12, .ref q13, .int 0, .ref q14, .ref q15, .ref q16, .ref q17, .ref q18, .ref q19, .ref q20, .ref q21, .null, .int 0, .null, .null, .null, .null, .int 0, .null, .int 0, .int 0, .null, .int 0, .int 0, .null, .null]))] ++ r21) H _ := w
  refine lv_aload_n hx hb d_R_init_174 rfl (lv_at hl 0 rfl) ?_
  refine lv_bipush (v := 12) hx hb d_R_init_175 (by decide) ?_
  refine R_newI (N := 12) C0 w wd_93 (by decide) (by decide) (by decide) (Nat.le_of_ble_eq_true rfl) (Nat.le_of_ble_eq_true rfl) d_R_init_177 (fun q22 H w => ?_)
  refine W.cs (cells' := 22) (slots' := 912) rfl rfl ?_
  obtain ⟨r22, hr22⟩ : ∃ r : va_W, r = r21 ++ [(q22, .inl (ct 0, 12, .inl (fun _ => 0)))] := ⟨_, rfl⟩
  have w : Wd D A s ([(h, .inr (7, [.int 0, .int 0, .ref q1, .ref q2, .ref q3, .ref q4, .ref q5, .ref q6, .ref q7, .ref q8, .ref q9, .int 0, .int 0, .ref q10, .ref q11, .ref q12, .ref q13, .int 0, .ref q14, .ref q15, .ref q16, .ref q17, .ref q18, .ref q19, .ref q20, .ref q21, .null, .int 0, .null, .null, .null, .null, .int 0, .null, .int 0, .int 0, .null, .int 0, .int 0, .null, .null]))] ++ r22) H _ := Wd.re hr22 w.assoc'
  refine R_putF C0 w 0 rfl rfl inR tyR_ok nmR 26 (by decide) wd_854 rfl hin rfl rfl rfl (Nat.le_of_ble_eq_true rfl) d_R_init_179 (fun H locs w => ?_)
  have w : Wd D A s ([(h, .inr (7, [.int 0, .int 0, .ref q1, .ref q2, .ref q3, .ref q4, .ref q5, .ref q6, .ref q7, .ref q8, .ref q9, .int 0, .int 0, .ref q10, .ref q11, .ref q12, .ref q13, .int 0, .ref q14, .ref q15, .ref q16, .ref q17, .ref q18, .ref q19, .ref q20, .ref q21, .ref q22, .int 0, .null, .null, .null, .null, .int 0, .null, .int 0, .int 0, .null, .int 0, .int 0, .null, .null]))] ++ r22) H _ := w
  refine lv_aload_n hx hb d_R_init_182 rfl (lv_at hl 0 rfl) ?_
  refine lv_bipush (v := 10) hx hb d_R_init_183 (by decide) ?_
  refine R_newI (N := 10) C0 w wd_93 (by decide) (by decide) (by decide) (Nat.le_of_ble_eq_true rfl) (Nat.le_of_ble_eq_true rfl) d_R_init_185 (fun q23 H w => ?_)
  refine W.cs (cells' := 23) (slots' := 922) rfl rfl ?_
  obtain ⟨r23, hr23⟩ : ∃ r : va_W, r = r22 ++ [(q23, .inl (ct 0, 10, .inl (fun _ => 0)))] := ⟨_, rfl⟩
  have w : Wd D A s ([(h, .inr (7, [.int 0, .int 0, .ref q1, .ref q2, .ref q3, .ref q4, .ref q5, .ref q6, .ref q7, .ref q8, .ref q9, .int 0, .int 0, .ref q10, .ref q11, .ref q12, .ref q13, .int 0, .ref q14, .ref q15, .ref q16, .ref q17, .ref q18, .ref q19, .ref q20, .ref q21, .ref q22, .int 0, .null, .null, .null, .null, .int 0, .null, .int 0, .int 0, .null, .int 0, .int 0, .null, .null]))] ++ r23) H _ := Wd.re hr23 w.assoc'
  refine R_putF C0 w 0 rfl rfl inR tyR_ok nmR 28 (by decide) wd_856 rfl hin rfl rfl rfl (Nat.le_of_ble_eq_true rfl) d_R_init_187 (fun H locs w => ?_)
  have w : Wd D A s ([(h, .inr (7, [.int 0, .int 0, .ref q1, .ref q2, .ref q3, .ref q4, .ref q5, .ref q6, .ref q7, .ref q8, .ref q9, .int 0, .int 0, .ref q10, .ref q11, .ref q12, .ref q13, .int 0, .ref q14, .ref q15, .ref q16, .ref q17, .ref q18, .ref q19, .ref q20, .ref q21, .ref q22, .int 0, .ref q23, .null, .null, .null, .int 0, .null, .int 0, .int 0, .null, .int 0, .int 0, .null, .null]))] ++ r23) H _ := w
  refine lv_aload_n hx hb d_R_init_190 rfl (lv_at hl 0 rfl) ?_
  refine lv_sipush (v := 130) hx hb d_R_init_191 (by decide) ?_
  refine R_newI (N := 130) C0 w wd_93 (by decide) (by decide) (by decide) (Nat.le_of_ble_eq_true rfl) (Nat.le_of_ble_eq_true rfl) d_R_init_194 (fun q24 H w => ?_)
  refine W.cs (cells' := 24) (slots' := 1052) rfl rfl ?_
  obtain ⟨r24, hr24⟩ : ∃ r : va_W, r = r23 ++ [(q24, .inl (ct 0, 130, .inl (fun _ => 0)))] := ⟨_, rfl⟩
  have w : Wd D A s ([(h, .inr (7, [.int 0, .int 0, .ref q1, .ref q2, .ref q3, .ref q4, .ref q5, .ref q6, .ref q7, .ref q8, .ref q9, .int 0, .int 0, .ref q10, .ref q11, .ref q12, .ref q13, .int 0, .ref q14, .ref q15, .ref q16, .ref q17, .ref q18, .ref q19, .ref q20, .ref q21, .ref q22, .int 0, .ref q23, .null, .null, .null, .int 0, .null, .int 0, .int 0, .null, .int 0, .int 0, .null, .null]))] ++ r24) H _ := Wd.re hr24 w.assoc'
  refine R_putF C0 w 0 rfl rfl inR tyR_ok nmR 29 (by decide) wd_857 rfl hin rfl rfl rfl (Nat.le_of_ble_eq_true rfl) d_R_init_196 (fun H locs w => ?_)
  have w : Wd D A s ([(h, .inr (7, [.int 0, .int 0, .ref q1, .ref q2, .ref q3, .ref q4, .ref q5, .ref q6, .ref q7, .ref q8, .ref q9, .int 0, .int 0, .ref q10, .ref q11, .ref q12, .ref q13, .int 0, .ref q14, .ref q15, .ref q16, .ref q17, .ref q18, .ref q19, .ref q20, .ref q21, .ref q22, .int 0, .ref q23, .ref q24, .null, .null, .int 0, .null, .int 0, .int 0, .null, .int 0, .int 0, .null, .null]))] ++ r24) H _ := w
  refine lv_aload_n hx hb d_R_init_199 rfl (lv_at hl 0 rfl) ?_
  refine lv_sipush (v := 130) hx hb d_R_init_200 (by decide) ?_
  refine R_newI (N := 130) C0 w wd_93 (by decide) (by decide) (by decide) (Nat.le_of_ble_eq_true rfl) (Nat.le_of_ble_eq_true rfl) d_R_init_203 (fun q25 H w => ?_)
  refine W.cs (cells' := 25) (slots' := 1182) rfl rfl ?_
  obtain ⟨r25, hr25⟩ : ∃ r : va_W, r = r24 ++ [(q25, .inl (ct 0, 130, .inl (fun _ => 0)))] := ⟨_, rfl⟩
  have w : Wd D A s ([(h, .inr (7, [.int 0, .int 0, .ref q1, .ref q2, .ref q3, .ref q4, .ref q5, .ref q6, .ref q7, .ref q8, .ref q9, .int 0, .int 0, .ref q10, .ref q11, .ref q12, .ref q13, .int 0, .ref q14, .ref q15, .ref q16, .ref q17, .ref q18, .ref q19, .ref q20, .ref q21, .ref q22, .int 0, .ref q23, .ref q24, .null, .null, .int 0, .null, .int 0, .int 0, .null, .int 0, .int 0, .null, .null]))] ++ r25) H _ := Wd.re hr25 w.assoc'
  refine R_putF C0 w 0 rfl rfl inR tyR_ok nmR 30 (by decide) wd_858 rfl hin rfl rfl rfl (Nat.le_of_ble_eq_true rfl) d_R_init_205 (fun H locs w => ?_)
  have w : Wd D A s ([(h, .inr (7, [.int 0, .int 0, .ref q1, .ref q2, .ref q3, .ref q4, .ref q5, .ref q6, .ref q7, .ref q8, .ref q9, .int 0, .int 0, .ref q10, .ref q11, .ref q12, .ref q13, .int 0, .ref q14, .ref q15, .ref q16, .ref q17, .ref q18, .ref q19, .ref q20, .ref q21, .ref q22, .int 0, .ref q23, .ref q24, .ref q25, .null, .int 0, .null, .int 0, .int 0, .null, .int 0, .int 0, .null, .null]))] ++ r25) H _ := w
  refine lv_aload_n hx hb d_R_init_208 rfl (lv_at hl 0 rfl) ?_
  refine lv_sipush (v := 130) hx hb d_R_init_209 (by decide) ?_
  refine R_newZ (N := 130) C0 w wd_283 (by decide) (by decide) (by decide) (Nat.le_of_ble_eq_true rfl) (Nat.le_of_ble_eq_true rfl) d_R_init_212 (fun q26 H w => ?_)
  refine W.cs (cells' := 26) (slots' := 1312) rfl rfl ?_
  obtain ⟨r26, hr26⟩ : ∃ r : va_W, r = r25 ++ [(q26, .inl (ct 1, 130, .inl (fun _ => 0)))] := ⟨_, rfl⟩
  have w : Wd D A s ([(h, .inr (7, [.int 0, .int 0, .ref q1, .ref q2, .ref q3, .ref q4, .ref q5, .ref q6, .ref q7, .ref q8, .ref q9, .int 0, .int 0, .ref q10, .ref q11, .ref q12, .ref q13, .int 0, .ref q14, .ref q15, .ref q16, .ref q17, .ref q18, .ref q19, .ref q20, .ref q21, .ref q22, .int 0, .ref q23, .ref q24, .ref q25, .null, .int 0, .null, .int 0, .int 0, .null, .int 0, .int 0, .null, .null]))] ++ r26) H _ := Wd.re hr26 w.assoc'
  refine R_putF C0 w 0 rfl rfl inR tyR_ok nmR 31 (by decide) wd_859 rfl hin rfl rfl rfl (Nat.le_of_ble_eq_true rfl) d_R_init_214 (fun H locs w => ?_)
  have w : Wd D A s ([(h, .inr (7, [.int 0, .int 0, .ref q1, .ref q2, .ref q3, .ref q4, .ref q5, .ref q6, .ref q7, .ref q8, .ref q9, .int 0, .int 0, .ref q10, .ref q11, .ref q12, .ref q13, .int 0, .ref q14, .ref q15, .ref q16, .ref q17, .ref q18, .ref q19, .ref q20, .ref q21, .ref q22, .int 0, .ref q23, .ref q24, .ref q25, .ref q26, .int 0, .null, .int 0, .int 0, .null, .int 0, .int 0, .null, .null]))] ++ r26) H _ := w
  refine lv_aload_n hx hb d_R_init_217 rfl (lv_at hl 0 rfl) ?_
  refine lv_bipush (v := 16) hx hb d_R_init_218 (by decide) ?_
  refine R_newI (N := 16) C0 w wd_93 (by decide) (by decide) (by decide) (Nat.le_of_ble_eq_true rfl) (Nat.le_of_ble_eq_true rfl) d_R_init_220 (fun q27 H w => ?_)
  refine W.cs (cells' := 27) (slots' := 1328) rfl rfl ?_
  obtain ⟨r27, hr27⟩ : ∃ r : va_W, r = r26 ++ [(q27, .inl (ct 0, 16, .inl (fun _ => 0)))] := ⟨_, rfl⟩
  have w : Wd D A s ([(h, .inr (7, [.int 0, .int 0, .ref q1, .ref q2, .ref q3, .ref q4, .ref q5, .ref q6, .ref q7, .ref q8, .ref q9, .int 0, .int 0, .ref q10, .ref q11, .ref q12, .ref q13, .int 0, .ref q14, .ref q15, .ref q16, .ref q17, .ref q18, .ref q19, .ref q20, .ref q21, .ref q22, .int 0, .ref q23, .ref q24, .ref q25, .ref q26, .int 0, .null, .int 0, .int 0, .null, .int 0, .int 0, .null, .null]))] ++ r27) H _ := Wd.re hr27 w.assoc'
  refine R_putF C0 w 0 rfl rfl inR tyR_ok nmR 33 (by decide) wd_861 rfl hin rfl rfl rfl (Nat.le_of_ble_eq_true rfl) d_R_init_222 (fun H locs w => ?_)
  have w : Wd D A s ([(h, .inr (7, [.int 0, .int 0, .ref q1, .ref q2, .ref q3, .ref q4, .ref q5, .ref q6, .ref q7, .ref q8, .ref q9, .int 0, .int 0, .ref q10, .ref q11, .ref q12, .ref q13, .int 0, .ref q14, .ref q15, .ref q16, .ref q17, .ref q18, .ref q19, .ref q20, .ref q21, .ref q22, .int 0, .ref q23, .ref q24, .ref q25, .ref q26, .int 0, .ref q27, .int 0, .int 0, .null, .int 0, .int 0, .null, .null]))] ++ r27) H _ := w
  refine lv_aload_n hx hb d_R_init_225 rfl (lv_at hl 0 rfl) ?_
  refine lv_bipush (v := 40) hx hb d_R_init_226 (by decide) ?_
  refine R_newI (N := 40) C0 w wd_93 (by decide) (by decide) (by decide) (Nat.le_of_ble_eq_true rfl) (Nat.le_of_ble_eq_true rfl) d_R_init_228 (fun q28 H w => ?_)
  refine W.cs (cells' := 28) (slots' := 1368) rfl rfl ?_
  obtain ⟨r28, hr28⟩ : ∃ r : va_W, r = r27 ++ [(q28, .inl (ct 0, 40, .inl (fun _ => 0)))] := ⟨_, rfl⟩
  have w : Wd D A s ([(h, .inr (7, [.int 0, .int 0, .ref q1, .ref q2, .ref q3, .ref q4, .ref q5, .ref q6, .ref q7, .ref q8, .ref q9, .int 0, .int 0, .ref q10, .ref q11, .ref q12, .ref q13, .int 0, .ref q14, .ref q15, .ref q16, .ref q17, .ref q18, .ref q19, .ref q20, .ref q21, .ref q22, .int 0, .ref q23, .ref q24, .ref q25, .ref q26, .int 0, .ref q27, .int 0, .int 0, .null, .int 0, .int 0, .null, .null]))] ++ r28) H _ := Wd.re hr28 w.assoc'
  refine R_putF C0 w 0 rfl rfl inR tyR_ok nmR 36 (by decide) wd_864 rfl hin rfl rfl rfl (Nat.le_of_ble_eq_true rfl) d_R_init_230 (fun H locs w => ?_)
  have w : Wd D A s ([(h, .inr (7, [.int 0, .int 0, .ref q1, .ref q2, .ref q3, .ref q4, .ref q5, .ref q6, .ref q7, .ref q8, .ref q9, .int 0, .int 0, .ref q10, .ref q11, .ref q12, .ref q13, .int 0, .ref q14, .ref q15, .ref q16, .ref q17, .ref q18, .ref q19, .ref q20, .ref q21, .ref q22, .int 0, .ref q23, .ref q24, .ref q25, .ref q26, .int 0, .ref q27, .int 0, .int 0, .ref q28, .int 0, .int 0, .null, .null]))] ++ r28) H _ := w
  refine lv_aload_n hx hb d_R_init_233 rfl (lv_at hl 0 rfl) ?_
  refine lv_sipush (v := 130) hx hb d_R_init_234 (by decide) ?_
  refine R_newI (N := 130) C0 w wd_93 (by decide) (by decide) (by decide) (Nat.le_of_ble_eq_true rfl) (Nat.le_of_ble_eq_true rfl) d_R_init_237 (fun q29 H w => ?_)
  refine W.cs (cells' := 29) (slots' := 1498) rfl rfl ?_
  obtain ⟨r29, hr29⟩ : ∃ r : va_W, r = r28 ++ [(q29, .inl (ct 0, 130, .inl (fun _ => 0)))] := ⟨_, rfl⟩
  have w : Wd D A s ([(h, .inr (7, [.int 0, .int 0, .ref q1, .ref q2, .ref q3, .ref q4, .ref q5, .ref q6, .ref q7, .ref q8, .ref q9, .int 0, .int 0, .ref q10, .ref q11, .ref q12, .ref q13, .int 0, .ref q14, .ref q15, .ref q16, .ref q17, .ref q18, .ref q19, .ref q20, .ref q21, .ref q22, .int 0, .ref q23, .ref q24, .ref q25, .ref q26, .int 0, .ref q27, .int 0, .int 0, .ref q28, .int 0, .int 0, .null, .null]))] ++ r29) H _ := Wd.re hr29 w.assoc'
  refine R_putF C0 w 0 rfl rfl inR tyR_ok nmR 39 (by decide) wd_867 rfl hin rfl rfl rfl (Nat.le_of_ble_eq_true rfl) d_R_init_239 (fun H locs w => ?_)
  have w : Wd D A s ([(h, .inr (7, [.int 0, .int 0, .ref q1, .ref q2, .ref q3, .ref q4, .ref q5, .ref q6, .ref q7, .ref q8, .ref q9, .int 0, .int 0, .ref q10, .ref q11, .ref q12, .ref q13, .int 0, .ref q14, .ref q15, .ref q16, .ref q17, .ref q18, .ref q19, .ref q20, .ref q21, .ref q22, .int 0, .ref q23, .ref q24, .ref q25, .ref q26, .int 0, .ref q27, .int 0, .int 0, .ref q28, .int 0, .int 0, .ref q29, .null]))] ++ r29) H _ := w
  refine lv_aload_n hx hb d_R_init_242 rfl (lv_at hl 0 rfl) ?_
  refine lv_bipush (v := 6) hx hb d_R_init_243 (by decide) ?_
  refine R_newI (N := 6) C0 w wd_93 (by decide) (by decide) (by decide) (Nat.le_of_ble_eq_true rfl) (Nat.le_of_ble_eq_true rfl) d_R_init_245 (fun q30 H w => ?_)
  refine W.cs (cells' := 30) (slots' := 1504) rfl rfl ?_
  obtain ⟨r30, hr30⟩ : ∃ r : va_W, r = r29 ++ [(q30, .inl (ct 0, 6, .inl (fun _ => 0)))] := ⟨_, rfl⟩
  have w : Wd D A s ([(h, .inr (7, [.int 0, .int 0, .ref q1, .ref q2, .ref q3, .ref q4, .ref q5, .ref q6, .ref q7, .ref q8, .ref q9, .int 0, .int 0, .ref q10, .ref q11, .ref q12, .ref q13, .int 0, .ref q14, .ref q15, .ref q16, .ref q17, .ref q18, .ref q19, .ref q20, .ref q21, .ref q22, .int 0, .ref q23, .ref q24, .ref q25, .ref q26, .int 0, .ref q27, .int 0, .int 0, .ref q28, .int 0, .int 0, .ref q29, .null]))] ++ r30) H _ := Wd.re hr30 w.assoc'
  refine R_putF C0 w 0 rfl rfl inR tyR_ok nmR 40 (by decide) wd_868 rfl hin rfl rfl rfl (Nat.le_of_ble_eq_true rfl) d_R_init_247 (fun H locs w => ?_)
  have w : Wd D A s ([(h, .inr (7, [.int 0, .int 0, .ref q1, .ref q2, .ref q3, .ref q4, .ref q5, .ref q6, .ref q7, .ref q8, .ref q9, .int 0, .int 0, .ref q10, .ref q11, .ref q12, .ref q13, .int 0, .ref q14, .ref q15, .ref q16, .ref q17, .ref q18, .ref q19, .ref q20, .ref q21, .ref q22, .int 0, .ref q23, .ref q24, .ref q25, .ref q26, .int 0, .ref q27, .int 0, .int 0, .ref q28, .int 0, .int 0, .ref q29, .ref q30]))] ++ r30) H _ := w
  have z1 := w.1
  have z2 := w.2.1
  rw [hr30, hr29, hr28, hr27, hr26, hr25, hr24, hr23, hr22, hr21, hr20, hr19, hr18, hr17, hr16, hr15, hr14, hr13, hr12, hr11, hr10, hr9, hr8, hr7, hr6, hr5, hr4, hr3, hr2, hr1] at z1 z2
  exact hret _ _ _ _ d_R_init_250 w.2.2.1 (fun t ht => ⟨fun k => [h, q1, q2, q3, q4, q5, q6, q7, q8, q9, q10, q11, q12, q13, q14, q15, q16, q17, q18, q19, q20, q21, q22, q23, q24, q25, q26, q27, q28, q29, q30].getD k 0, rfl, by rw [ht]; exact P_by (ws := bigR ct h q1 q2 q3 q4 q5 q6 q7 q8 q9 q10 q11 q12 q13 q14 q15 q16 q17 q18 q19 q20 q21 q22 q23 q24 q25 q26 q27 q28 q29 q30) fR (by rw [← bigR_eq]; exact z1) (hmR ct h q1 q2 q3 q4 q5 q6 q7 q8 q9 q10 q11 q12 q13 q14 q15 q16 q17 q18 q19 q20 q21 q22 q23 q24 q25 q26 q27 q28 q29 q30), D_by (ws := bigR ct h q1 q2 q3 q4 q5 q6 q7 q8 q9 q10 q11 q12 q13 q14 q15 q16 q17 q18 q19 q20 q21 q22 q23 q24 q25 q26 q27 q28 q29 q30) fR gR gfR (by rw [← bigR_eq]; exact z2) (hmR ct h q1 q2 q3 q4 q5 q6 q7 q8 q9 q10 q11 q12 q13 q14 q15 q16 q17 q18 q19 q20 q21 q22 q23 q24 q25 q26 q27 q28 q29 q30)⟩)
