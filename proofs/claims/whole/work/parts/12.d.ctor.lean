set_option maxHeartbeats 4000000 in
set_option maxRecDepth 100000 in
theorem c_N_init (l : Launch) (D : va_G) (ct : Nat → ClassId) (h : Nat) : KV l D ct y_N_init b_N_init 1 2 36 132 1917 [.ref h] [(h, .inr (0, [.null, .null, .null, .null, .null, .null, .int 0]))] (fun A t => ∃ q : Nat → Nat, q 0 = h ∧ CE D (wX ct q M0) A t) := by
  refine KV.ofW (by decide) (Nat.le_of_ble_eq_true rfl) ?_
  intro p e s m args below meth c A Q ls C0 hin hl w hret
  have hin : meth.name = "<init>" := hin
  have hx := C0.1
  have hb := C0.2.1
  have hl : lv_has ls 1 [(0, .ref h)] := hl
  refine lv_aload_n hx hb d_N_init_0 rfl (lv_at hl 0 rfl) ?_
  refine W.objInit hx hb C0.2.2.2.1 (C0.2.2.2.2.1 _ wd_22) (C0.2.2.2.2.1 _ wd_23) (C0.2.2.2.2.1 _ wd_24) rfl (by rw [C0.2.2.1]; exact hl.1) rfl d_N_init_1 (Nat.le_of_ble_eq_true rfl) (Nat.le_of_ble_eq_true rfl) ?_
  refine W.eq (g2 := F0 m 4 ls []) rfl ?_
  refine lv_aload_n hx hb d_N_init_4 rfl (lv_at hl 0 rfl) ?_
  refine R_new C0 w (ci := 1) rfl inP tyP_ok wd_25 wd_26 wd_2 bornP (Nat.le_of_ble_eq_true rfl) (Nat.le_of_ble_eq_true rfl) d_N_init_5 (fun o1 H w => ?_)
  refine W.cs (cells' := 1) (slots' := 10) rfl rfl ?_
  have w : Wd D A s ([(h, .inr (0, [.null, .null, .null, .null, .null, .null, .int 0]))] ++ [(o1, .inr (1, [.int 0, .null, .null, .null, .null, .null, .null, .null, .null, .null]))]) H _ := w
  refine lv_dup hx hb d_N_init_8 rfl ?_
  refine S_ivN C0 w (rest := [.ref o1, .ref h]) (c_P_init l D ct o1) wd_29 (C0.2.2.2.2.2.2.nest ("NameForge", 11, ⟨"NameForge$Program", "<init>", "()V"⟩) (by decide)) wd_28 wd_2 rfl (n9 := 0) (by decide +kernel) rfl ⟨(Nat.le_of_ble_eq_true rfl), (Nat.le_of_ble_eq_true rfl)⟩ hl.1 rfl (Nat.le_of_ble_eq_true rfl) d_N_init_9 (Nat.le_of_ble_eq_true rfl) (Nat.le_of_ble_eq_true rfl) (fun t9 H locs ht9 hB9 hj9 => ?_)
  obtain ⟨f2, hE9⟩ := hB9
  have w := hj9 _ hE9
  refine W.cs (cells' := 50) (slots' := 340) rfl rfl ?_
  have w : Wd D A s ([(h, .inr (0, [.null, .null, .null, .null, .null, .null, .int 0]))] ++ (wPF ct o1 f2)) H _ := w
  refine R_putF C0 w 0 rfl rfl inN tyN_ok nmN 0 (by decide) wd_339 rfl hin rfl rfl rfl (Nat.le_of_ble_eq_true rfl) d_N_init_12 (fun H locs w => ?_)
  have w : Wd D A s ([(h, .inr (0, [.ref o1, .null, .null, .null, .null, .null, .int 0]))] ++ (wPF ct o1 f2)) H _ := w
  refine lv_aload_n hx hb d_N_init_15 rfl (lv_at hl 0 rfl) ?_
  refine R_new C0 w (ci := 2) rfl inS tyS_ok wd_94 wd_95 wd_3 bornS (Nat.le_of_ble_eq_true rfl) (Nat.le_of_ble_eq_true rfl) d_N_init_16 (fun o3 H w => ?_)
  refine W.cs (cells' := 51) (slots' := 349) rfl rfl ?_
  have w : Wd D A s (([(h, .inr (0, [.ref o1, .null, .null, .null, .null, .null, .int 0]))] ++ (wPF ct o1 f2)) ++ [(o3, .inr (2, [.null, .int 0, .null, .null, .null, .null, .null, .int 0, .null]))]) H _ := w
  refine lv_dup hx hb d_N_init_19 rfl ?_
  refine lv_aload_n hx hb d_N_init_20 rfl (lv_at hl 0 rfl) ?_
  refine R_get C0 w 0 rfl rfl inN 0 (by decide) wd_339 rfl d_N_init_21 ?_
  refine S_iv C0 w (rest := [.ref o3, .ref h]) (c_S_init l D ct o3 o1) wd_98 wd_96 wd_97 wd_3 rfl (n9 := 1) (by decide +kernel) rfl ⟨(Nat.le_of_ble_eq_true rfl), (Nat.le_of_ble_eq_true rfl)⟩ hl.1 rfl (Nat.le_of_ble_eq_true rfl) d_N_init_24 (Nat.le_of_ble_eq_true rfl) (Nat.le_of_ble_eq_true rfl) (fun t9 H locs ht9 hB9 hj9 => ?_)
  obtain ⟨f4, hE9⟩ := hB9
  have w := hj9 _ hE9
  refine W.cs (cells' := 57) (slots' := 409) rfl rfl ?_
  have w : Wd D A s ([(h, .inr (0, [.ref o1, .null, .null, .null, .null, .null, .int 0]))] ++ (wPF ct o1 f2 ++ wSF ct o3 o1 f4)) H _ := w.assoc'
  refine R_putF C0 w 0 rfl rfl inN tyN_ok nmN 1 (by decide) wd_340 rfl hin rfl rfl rfl (Nat.le_of_ble_eq_true rfl) d_N_init_27 (fun H locs w => ?_)
  have w : Wd D A s ([(h, .inr (0, [.ref o1, .ref o3, .null, .null, .null, .null, .int 0]))] ++ (wPF ct o1 f2 ++ wSF ct o3 o1 f4)) H _ := w
  refine lv_aload_n hx hb d_N_init_30 rfl (lv_at hl 0 rfl) ?_
  refine R_new C0 w (ci := 3) rfl inG tyG_ok wd_137 wd_138 wd_4 bornG (Nat.le_of_ble_eq_true rfl) (Nat.le_of_ble_eq_true rfl) d_N_init_31 (fun o5 H w => ?_)
  refine W.cs (cells' := 58) (slots' := 423) rfl rfl ?_
  have w : Wd D A s (([(h, .inr (0, [.ref o1, .ref o3, .null, .null, .null, .null, .int 0]))] ++ (wPF ct o1 f2 ++ wSF ct o3 o1 f4)) ++ [(o5, .inr (3, [.null, .null, .int 0, .null, .null, .null, .null, .null, .null, .null, .null, .null, .null, .null]))]) H _ := w
  refine lv_dup hx hb d_N_init_34 rfl ?_
  refine lv_aload_n hx hb d_N_init_35 rfl (lv_at hl 0 rfl) ?_
  refine R_get C0 w 0 rfl rfl inN 0 (by decide) wd_339 rfl d_N_init_36 ?_
  refine lv_aload_n hx hb d_N_init_39 rfl (lv_at hl 0 rfl) ?_
  refine R_get C0 w 0 rfl rfl inN 1 (by decide) wd_340 rfl d_N_init_40 ?_
  refine S_iv C0 w (rest := [.ref o5, .ref h]) (c_G_init l D ct o5 o1 o3) wd_141 wd_139 wd_140 wd_4 rfl (n9 := 2) (by decide +kernel) rfl ⟨(Nat.le_of_ble_eq_true rfl), (Nat.le_of_ble_eq_true rfl)⟩ hl.1 rfl (Nat.le_of_ble_eq_true rfl) d_N_init_43 (Nat.le_of_ble_eq_true rfl) (Nat.le_of_ble_eq_true rfl) (fun t9 H locs ht9 hB9 hj9 => ?_)
  obtain ⟨f6, hE9⟩ := hB9
  have w := hj9 _ hE9
  refine W.cs (cells' := 119) (slots' := 1181) rfl rfl ?_
  have w : Wd D A s ([(h, .inr (0, [.ref o1, .ref o3, .null, .null, .null, .null, .int 0]))] ++ ((wPF ct o1 f2 ++ wSF ct o3 o1 f4) ++ wGF ct o5 o1 o3 f6)) H _ := w.assoc'
  refine R_putF C0 w 0 rfl rfl inN tyN_ok nmN 2 (by decide) wd_341 rfl hin rfl rfl rfl (Nat.le_of_ble_eq_true rfl) d_N_init_46 (fun H locs w => ?_)
  have w : Wd D A s ([(h, .inr (0, [.ref o1, .ref o3, .ref o5, .null, .null, .null, .int 0]))] ++ ((wPF ct o1 f2 ++ wSF ct o3 o1 f4) ++ wGF ct o5 o1 o3 f6)) H _ := w
  refine lv_aload_n hx hb d_N_init_49 rfl (lv_at hl 0 rfl) ?_
  refine R_new C0 w (ci := 4) rfl inK tyK_ok wd_218 wd_219 wd_5 bornK (Nat.le_of_ble_eq_true rfl) (Nat.le_of_ble_eq_true rfl) d_N_init_50 (fun o7 H w => ?_)
  refine W.cs (cells' := 120) (slots' := 1189) rfl rfl ?_
  have w : Wd D A s (([(h, .inr (0, [.ref o1, .ref o3, .ref o5, .null, .null, .null, .int 0]))] ++ ((wPF ct o1 f2 ++ wSF ct o3 o1 f4) ++ wGF ct o5 o1 o3 f6)) ++ [(o7, .inr (4, [.null, .null, .null, .int 0, .null, .null, .null, .int 0]))]) H _ := w
  refine lv_dup hx hb d_N_init_53 rfl ?_
  refine lv_aload_n hx hb d_N_init_54 rfl (lv_at hl 0 rfl) ?_
  refine R_get C0 w 0 rfl rfl inN 0 (by decide) wd_339 rfl d_N_init_55 ?_
  refine lv_aload_n hx hb d_N_init_58 rfl (lv_at hl 0 rfl) ?_
  refine R_get C0 w 0 rfl rfl inN 1 (by decide) wd_340 rfl d_N_init_59 ?_
  refine lv_aload_n hx hb d_N_init_62 rfl (lv_at hl 0 rfl) ?_
  refine R_get C0 w 0 rfl rfl inN 2 (by decide) wd_341 rfl d_N_init_63 ?_
  refine S_iv C0 w (rest := [.ref o7, .ref h]) (c_K_init l D ct o7 o1 o3 o5) wd_222 wd_220 wd_221 wd_5 rfl (n9 := 3) (by decide +kernel) rfl ⟨(Nat.le_of_ble_eq_true rfl), (Nat.le_of_ble_eq_true rfl)⟩ hl.1 rfl (Nat.le_of_ble_eq_true rfl) d_N_init_66 (Nat.le_of_ble_eq_true rfl) (Nat.le_of_ble_eq_true rfl) (fun t9 H locs ht9 hB9 hj9 => ?_)
  obtain ⟨f8, hE9⟩ := hB9
  have w := hj9 _ hE9
  refine W.cs (cells' := 123) (slots' := 1451) rfl rfl ?_
  have w : Wd D A s ([(h, .inr (0, [.ref o1, .ref o3, .ref o5, .null, .null, .null, .int 0]))] ++ (((wPF ct o1 f2 ++ wSF ct o3 o1 f4) ++ wGF ct o5 o1 o3 f6) ++ wKF ct o7 o1 o3 o5 f8)) H _ := w.assoc'
  refine R_putF C0 w 0 rfl rfl inN tyN_ok nmN 3 (by decide) wd_342 rfl hin rfl rfl rfl (Nat.le_of_ble_eq_true rfl) d_N_init_69 (fun H locs w => ?_)
  have w : Wd D A s ([(h, .inr (0, [.ref o1, .ref o3, .ref o5, .ref o7, .null, .null, .int 0]))] ++ (((wPF ct o1 f2 ++ wSF ct o3 o1 f4) ++ wGF ct o5 o1 o3 f6) ++ wKF ct o7 o1 o3 o5 f8)) H _ := w
  refine lv_aload_n hx hb d_N_init_72 rfl (lv_at hl 0 rfl) ?_
  refine R_new C0 w (ci := 5) rfl inD tyD_ok wd_256 wd_257 wd_6 bornD (Nat.le_of_ble_eq_true rfl) (Nat.le_of_ble_eq_true rfl) d_N_init_73 (fun o9 H w => ?_)
  refine W.cs (cells' := 124) (slots' := 1457) rfl rfl ?_
  have w : Wd D A s (([(h, .inr (0, [.ref o1, .ref o3, .ref o5, .ref o7, .null, .null, .int 0]))] ++ (((wPF ct o1 f2 ++ wSF ct o3 o1 f4) ++ wGF ct o5 o1 o3 f6) ++ wKF ct o7 o1 o3 o5 f8)) ++ [(o9, .inr (5, [.null, .null, .null, .null, .null, .int 0]))]) H _ := w
  refine lv_dup hx hb d_N_init_76 rfl ?_
  refine lv_aload_n hx hb d_N_init_77 rfl (lv_at hl 0 rfl) ?_
  refine R_get C0 w 0 rfl rfl inN 0 (by decide) wd_339 rfl d_N_init_78 ?_
  refine lv_aload_n hx hb d_N_init_81 rfl (lv_at hl 0 rfl) ?_
  refine R_get C0 w 0 rfl rfl inN 2 (by decide) wd_341 rfl d_N_init_82 ?_
  refine lv_aload_n hx hb d_N_init_85 rfl (lv_at hl 0 rfl) ?_
  refine R_get C0 w 0 rfl rfl inN 3 (by decide) wd_342 rfl d_N_init_86 ?_
  refine S_iv C0 w (rest := [.ref o9, .ref h]) (c_D_init l D ct o9 o1 o5 o7) wd_260 wd_258 wd_259 wd_6 rfl (n9 := 3) (by decide +kernel) rfl ⟨(Nat.le_of_ble_eq_true rfl), (Nat.le_of_ble_eq_true rfl)⟩ hl.1 rfl (Nat.le_of_ble_eq_true rfl) d_N_init_89 (Nat.le_of_ble_eq_true rfl) (Nat.le_of_ble_eq_true rfl) (fun t9 H locs ht9 hB9 hj9 => ?_)
  obtain ⟨f10, hE9⟩ := hB9
  have w := hj9 _ hE9
  refine W.cs (cells' := 126) (slots' := 1709) rfl rfl ?_
  have w : Wd D A s ([(h, .inr (0, [.ref o1, .ref o3, .ref o5, .ref o7, .null, .null, .int 0]))] ++ ((((wPF ct o1 f2 ++ wSF ct o3 o1 f4) ++ wGF ct o5 o1 o3 f6) ++ wKF ct o7 o1 o3 o5 f8) ++ wDF ct o9 o1 o5 o7 f10)) H _ := w.assoc'
  refine R_putF C0 w 0 rfl rfl inN tyN_ok nmN 4 (by decide) wd_343 rfl hin rfl rfl rfl (Nat.le_of_ble_eq_true rfl) d_N_init_92 (fun H locs w => ?_)
  have w : Wd D A s ([(h, .inr (0, [.ref o1, .ref o3, .ref o5, .ref o7, .ref o9, .null, .int 0]))] ++ ((((wPF ct o1 f2 ++ wSF ct o3 o1 f4) ++ wGF ct o5 o1 o3 f6) ++ wKF ct o7 o1 o3 o5 f8) ++ wDF ct o9 o1 o5 o7 f10)) H _ := w
  refine lv_aload_n hx hb d_N_init_95 rfl (lv_at hl 0 rfl) ?_
  refine R_new C0 w (ci := 6) rfl inA tyA_ok wd_284 wd_285 wd_7 bornA (Nat.le_of_ble_eq_true rfl) (Nat.le_of_ble_eq_true rfl) d_N_init_96 (fun o11 H w => ?_)
  refine W.cs (cells' := 127) (slots' := 1723) rfl rfl ?_
  have w : Wd D A s (([(h, .inr (0, [.ref o1, .ref o3, .ref o5, .ref o7, .ref o9, .null, .int 0]))] ++ ((((wPF ct o1 f2 ++ wSF ct o3 o1 f4) ++ wGF ct o5 o1 o3 f6) ++ wKF ct o7 o1 o3 o5 f8) ++ wDF ct o9 o1 o5 o7 f10)) ++ [(o11, .inr (6, [.null, .null, .null, .null, .int 0, .null, .null, .null, .null, .int 0, .null, .int 0, .int 0, .int 0]))]) H _ := w
  refine lv_dup hx hb d_N_init_99 rfl ?_
  refine lv_aload_n hx hb d_N_init_100 rfl (lv_at hl 0 rfl) ?_
  refine R_get C0 w 0 rfl rfl inN 0 (by decide) wd_339 rfl d_N_init_101 ?_
  refine lv_aload_n hx hb d_N_init_104 rfl (lv_at hl 0 rfl) ?_
  refine R_get C0 w 0 rfl rfl inN 2 (by decide) wd_341 rfl d_N_init_105 ?_
  refine lv_aload_n hx hb d_N_init_108 rfl (lv_at hl 0 rfl) ?_
  refine R_get C0 w 0 rfl rfl inN 3 (by decide) wd_342 rfl d_N_init_109 ?_
  refine lv_aload_n hx hb d_N_init_112 rfl (lv_at hl 0 rfl) ?_
  refine R_get C0 w 0 rfl rfl inN 4 (by decide) wd_343 rfl d_N_init_113 ?_
  refine S_iv C0 w (rest := [.ref o11, .ref h]) (c_A_init l D ct o11 o1 o5 o7 o9) wd_288 wd_286 wd_287 wd_7 rfl (n9 := 4) (by decide +kernel) rfl ⟨(Nat.le_of_ble_eq_true rfl), (Nat.le_of_ble_eq_true rfl)⟩ hl.1 rfl (Nat.le_of_ble_eq_true rfl) d_N_init_116 (Nat.le_of_ble_eq_true rfl) (Nat.le_of_ble_eq_true rfl) (fun t9 H locs ht9 hB9 hj9 => ?_)
  obtain ⟨f12, hE9⟩ := hB9
  have w := hj9 _ hE9
  refine W.cs (cells' := 132) (slots' := 1917) rfl rfl ?_
  have w : Wd D A s ([(h, .inr (0, [.ref o1, .ref o3, .ref o5, .ref o7, .ref o9, .null, .int 0]))] ++ (((((wPF ct o1 f2 ++ wSF ct o3 o1 f4) ++ wGF ct o5 o1 o3 f6) ++ wKF ct o7 o1 o3 o5 f8) ++ wDF ct o9 o1 o5 o7 f10) ++ wAF ct o11 o1 o5 o7 o9 f12)) H _ := w.assoc'
  refine R_putF C0 w 0 rfl rfl inN tyN_ok nmN 5 (by decide) wd_344 rfl hin rfl rfl rfl (Nat.le_of_ble_eq_true rfl) d_N_init_119 (fun H locs w => ?_)
  have w : Wd D A s ([(h, .inr (0, [.ref o1, .ref o3, .ref o5, .ref o7, .ref o9, .ref o11, .int 0]))] ++ (((((wPF ct o1 f2 ++ wSF ct o3 o1 f4) ++ wGF ct o5 o1 o3 f6) ++ wKF ct o7 o1 o3 o5 f8) ++ wDF ct o9 o1 o5 o7 f10) ++ wAF ct o11 o1 o5 o7 o9 f12)) H _ := w
  refine lv_aload_n hx hb d_N_init_122 rfl (lv_at hl 0 rfl) ?_
  refine lv_iconst (v := 0) hx hb d_N_init_123 (by decide) ?_
  refine R_put C0 w 0 rfl rfl inN tyN_ok nmN 6 (by decide) wd_345 rfl nz0 fz0 (Nat.le_of_ble_eq_true rfl) d_N_init_124 (fun H locs w => ?_)
  have w : Wd D A s ([(h, .inr (0, [.ref o1, .ref o3, .ref o5, .ref o7, .ref o9, .ref o11, .int 0]))] ++ (((((wPF ct o1 f2 ++ wSF ct o3 o1 f4) ++ wGF ct o5 o1 o3 f6) ++ wKF ct o7 o1 o3 o5 f8) ++ wDF ct o9 o1 o5 o7 f10) ++ wAF ct o11 o1 o5 o7 o9 f12)) H _ := w
  exact hret _ _ _ _ d_N_init_127 w.2.2.1 (fun t ht => ⟨QX [h, o1, o3, o5, o7, o9, o11, f2 1, f2 6, f2 7, f2 8, f2 9, f4 2, f4 3, f4 4, f4 5, f4 6, f4 8, f6 3, f6 4, f6 10, f6 11, f6 12, f6 13, f8 4, f8 5, f8 6, f10 3, f10 4, f12 5, f12 6, f12 7, f12 8, f12 10, f2 2, f2 3, f2 4, f2 5, f6 5, f6 6, f6 7, f6 8, f6 9] [f2 2, f2 3, f2 4, f2 5, f6 5, f6 6, f6 7, f6 8, f6 9], rfl, by rw [ht]; exact P_by (ws := bigX ct h o1 o3 o5 o7 o9 o11 f2 f4 f6 f8 f10 f12) fX (by rw [← bigX_eq]; exact w.1) (hmX ct h o1 o3 o5 o7 o9 o11 f2 f4 f6 f8 f10 f12), D_by (ws := bigX ct h o1 o3 o5 o7 o9 o11 f2 f4 f6 f8 f10 f12) fX gX gfX (by rw [← bigX_eq]; exact w.2.1) (hmX ct h o1 o3 o5 o7 o9 o11 f2 f4 f6 f8 f10 f12)⟩)
