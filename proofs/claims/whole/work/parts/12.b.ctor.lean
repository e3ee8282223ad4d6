abbrev eI (q : Nat) (c : ClassId) (n : Nat) : Nat × va_E := (q, .inl (c, n, .inl (fun _ => 0)))
abbrev eO (h c : Nat) (fs : List Value) : Nat × va_E := (h, .inr (c, fs))
theorem R_newZ {p : Program} {l : Launch} {e : Env} {R : Room} {s : State} {m : MethodId} {args : Array Value} {below : List Frame} {meth : Method} {c : Code} {H : Heap} {locs : List Loc} {cells slots : Nat} {Q : State → Prop} {cc : ByteArray} {pc nL : Nat} {ls : Array Slot} {rest : List Value} {own : String} {D : va_G} {ct : Nat → ClassId} {A : Nat → Prop} {ws : va_W} (C0 : Cx p s m args c cc nL own D ct) (w : Wd D A s ws H locs) (hac : Cond.arrayClass .boolean ∈ wT) {n : Int32} {N : Nat} (hn : ¬ n < 0) (hN : n.toNatClampNeg = N) (hbytes : N * componentBytes .boolean ≤ 536870912) (hcells : cells + 1 ≤ R.cells) (hslots : slots + N ≤ R.slots) (hdg : decode cc pc = .ok (.newarray .boolean, 2))
    (kk : ∀ (q : Nat) (H1 : Heap), Wd D A s (ws ++ [(q, .inl ((ct 1), N, .inl (fun _ => 0)))]) H1 locs → W p l e R s m args below meth c H1 locs (cells + 1) (slots + N) Q (F0 m (pc + 2) ls (.ref q :: rest))) : W p l e R s m args below meth c H locs cells slots Q (F0 m pc ls (.int n :: rest)) := by
  refine va_newa (atype := .boolean) (a0 := (N, .inl (fun _ => 0))) (ty := .boolean) C0.1 C0.2.1 (C0.2.2.2.2.1 _ hac) rfl C0.2.2.2.2.2.1 w.1 w.2.1 w.2.2.1 w.2.2.2.1 (fun _ => rfl) hn hN hbytes hcells hslots hdg (fun q cA H1 hK hP hD hs => ?_)
  have h1 : s.vm.findClass ("[" ++ FieldType.boolean.toString) = some cA := (hK.2 4 (cA, .boolean) rfl).2
  have h2 : s.vm.findClass ("[" ++ FieldType.boolean.toString) = some (ct 1) := (C0.2.2.2.2.2.1.2 1 ((ct 1), .boolean) rfl).2
  cases h1.symm.trans h2
  exact kk q H1 (w.to hP hD hs)
def M0 : Sto := fun _ _ => 0
theorem P_by {D : va_G} {H : Heap} {ws : va_W} {n : Nat} {cf : Cf} {q : Nat → Nat} {M : Sto} (f : Nat → Nat) (hP : va_P D vCl ws H) (hm : ∀ k, k < n → ws[f k]? = some (q k, cf q M k)) : va_P D vCl (wU n cf q M) H := fun k x hx => by
  have hk : k < n := by rw [← wU_len n cf q M]; exact (List.getElem?_eq_some_iff.mp hx).1
  rw [wU_at hk] at hx
  cases hx
  exact hP (f k) _ (hm k hk)
theorem D_by {A : Nat → Prop} {ws : va_W} {n : Nat} {cf : Cf} {q : Nat → Nat} {M : Sto} (f g : Nat → Nat) (hfg : ∀ k, k < n → g (f k) = k) (hD : va_D A ws) (hm : ∀ k, k < n → ws[f k]? = some (q k, cf q M k)) : va_D A (wU n cf q M) := by
  refine ⟨fun i j x y hi hj e => ?_, fun k x hx => ?_⟩
  · have h1 : i < n := by rw [← wU_len n cf q M]; exact (List.getElem?_eq_some_iff.mp hi).1
    have h2 : j < n := by rw [← wU_len n cf q M]; exact (List.getElem?_eq_some_iff.mp hj).1
    rw [wU_at h1] at hi
    rw [wU_at h2] at hj
    cases hi; cases hj
    have := hD.1 (f i) (f j) _ _ (hm i h1) (hm j h2) e
    rw [← hfg i h1, ← hfg j h2, this]
  · have h1 : k < n := by rw [← wU_len n cf q M]; exact (List.getElem?_eq_some_iff.mp hx).1
    rw [wU_at h1] at hx
    cases hx
    exact hD.2 (f k) _ (hm k h1)
def QX (L G : List Nat) (k : Nat) : Nat := if k < 43 then L.getD k 0 else G.getD ((k - 43) / 10) 0 + 1 + (k - 43) % 10
theorem QX_row (L G : List Nat) (g i : Nat) (hi : i < 10) : QX L G (43 + 10 * g + i) = G.getD g 0 + 1 + i := by
  unfold QX
  rw [if_neg (by omega), show (43 + 10 * g + i - 43) / 10 = g by omega, show (43 + 10 * g + i - 43) % 10 = i by omega]
theorem QX_out (L G : List Nat) (g a : Nat) (h : G.getD g 0 = a) : (fun i => if i < 10 then some (a + 1 + i) else none) = (fun i => if i < 10 then some (QX L G (43 + 10 * g + i)) else none) := by
  funext i
  by_cases hi : i < 10
  · rw [if_pos hi, if_pos hi, QX_row L G g i hi, h]
  · rw [if_neg hi, if_neg hi]
theorem bornN : ∀ j, j < 7 → defaultValue (tyN j) = vp_V [.null, .null, .null, .null, .null, .null, .int 0] j := fun j hj => match j, hj with
  | 0, _ => rfl
  | 1, _ => rfl
  | 2, _ => rfl
  | 3, _ => rfl
  | 4, _ => rfl
  | 5, _ => rfl
  | 6, _ => rfl
  | k + 7, h => absurd h (by omega)
theorem bornP : ∀ j, j < 10 → defaultValue (tyP j) = vp_V [.int 0, .null, .null, .null, .null, .null, .null, .null, .null, .null] j := fun j hj => match j, hj with
  | 0, _ => rfl
  | 1, _ => rfl
  | 2, _ => rfl
  | 3, _ => rfl
  | 4, _ => rfl
  | 5, _ => rfl
  | 6, _ => rfl
  | 7, _ => rfl
  | 8, _ => rfl
  | 9, _ => rfl
  | k + 10, h => absurd h (by omega)
theorem bornS : ∀ j, j < 9 → defaultValue (tyS j) = vp_V [.null, .int 0, .null, .null, .null, .null, .null, .int 0, .null] j := fun j hj => match j, hj with
  | 0, _ => rfl
  | 1, _ => rfl
  | 2, _ => rfl
  | 3, _ => rfl
  | 4, _ => rfl
  | 5, _ => rfl
  | 6, _ => rfl
  | 7, _ => rfl
  | 8, _ => rfl
  | k + 9, h => absurd h (by omega)
theorem bornG : ∀ j, j < 14 → defaultValue (tyG j) = vp_V [.null, .null, .int 0, .null, .null, .null, .null, .null, .null, .null, .null, .null, .null, .null] j := fun j hj => match j, hj with
  | 0, _ => rfl
  | 1, _ => rfl
  | 2, _ => rfl
  | 3, _ => rfl
  | 4, _ => rfl
  | 5, _ => rfl
  | 6, _ => rfl
  | 7, _ => rfl
  | 8, _ => rfl
  | 9, _ => rfl
  | 10, _ => rfl
  | 11, _ => rfl
  | 12, _ => rfl
  | 13, _ => rfl
  | k + 14, h => absurd h (by omega)
theorem bornK : ∀ j, j < 8 → defaultValue (tyK j) = vp_V [.null, .null, .null, .int 0, .null, .null, .null, .int 0] j := fun j hj => match j, hj with
  | 0, _ => rfl
  | 1, _ => rfl
  | 2, _ => rfl
  | 3, _ => rfl
  | 4, _ => rfl
  | 5, _ => rfl
  | 6, _ => rfl
  | 7, _ => rfl
  | k + 8, h => absurd h (by omega)
theorem bornD : ∀ j, j < 6 → defaultValue (tyD j) = vp_V [.null, .null, .null, .null, .null, .int 0] j := fun j hj => match j, hj with
  | 0, _ => rfl
  | 1, _ => rfl
  | 2, _ => rfl
  | 3, _ => rfl
  | 4, _ => rfl
  | 5, _ => rfl
  | k + 6, h => absurd h (by omega)
theorem bornA : ∀ j, j < 14 → defaultValue (tyA j) = vp_V [.null, .null, .null, .null, .int 0, .null, .null, .null, .null, .int 0, .null, .int 0, .int 0, .int 0] j := fun j hj => match j, hj with
  | 0, _ => rfl
  | 1, _ => rfl
  | 2, _ => rfl
  | 3, _ => rfl
  | 4, _ => rfl
  | 5, _ => rfl
  | 6, _ => rfl
  | 7, _ => rfl
  | 8, _ => rfl
  | 9, _ => rfl
  | 10, _ => rfl
  | 11, _ => rfl
  | 12, _ => rfl
  | 13, _ => rfl
  | k + 14, h => absurd h (by omega)
theorem bornR : ∀ j, j < 41 → defaultValue (tyR j) = vp_V [.int 0, .int 0, .null, .null, .null, .null, .null, .null, .null, .null, .null, .int 0, .int 0, .null, .null, .null, .null, .int 0, .null, .null, .null, .null, .null, .null, .null, .null, .null, .int 0, .null, .null, .null, .null, .int 0, .null, .int 0, .int 0, .null, .int 0, .int 0, .null, .null] j := fun j hj => match j, hj with
  | 0, _ => rfl
  | 1, _ => rfl
  | 2, _ => rfl
  | 3, _ => rfl
  | 4, _ => rfl
  | 5, _ => rfl
  | 6, _ => rfl
  | 7, _ => rfl
  | 8, _ => rfl
  | 9, _ => rfl
  | 10, _ => rfl
  | 11, _ => rfl
  | 12, _ => rfl
  | 13, _ => rfl
  | 14, _ => rfl
  | 15, _ => rfl
  | 16, _ => rfl
  | 17, _ => rfl
  | 18, _ => rfl
  | 19, _ => rfl
  | 20, _ => rfl
  | 21, _ => rfl
  | 22, _ => rfl
  | 23, _ => rfl
  | 24, _ => rfl
  | 25, _ => rfl
  | 26, _ => rfl
  | 27, _ => rfl
  | 28, _ => rfl
  | 29, _ => rfl
  | 30, _ => rfl
  | 31, _ => rfl
  | 32, _ => rfl
  | 33, _ => rfl
  | 34, _ => rfl
  | 35, _ => rfl
  | 36, _ => rfl
  | 37, _ => rfl
  | 38, _ => rfl
  | 39, _ => rfl
  | 40, _ => rfl
  | k + 41, h => absurd h (by omega)
def wPF (ct : Nat → ClassId) (h : Nat) (q : Nat → Nat) : va_W := ([eO h 1 [.int 0, .ref (q 1), .ref (q 2), .ref (q 3), .ref (q 4), .ref (q 5), .ref (q 6), .ref (q 7), .ref (q 8), .ref (q 9)]] ++ (((((((([eI (q 1) (ct 0) 10] ++ grid ct (q 2)) ++ grid ct (q 3)) ++ grid ct (q 4)) ++ grid ct (q 5)) ++ [eI (q 6) (ct 0) 10]) ++ [eI (q 7) (ct 0) 10]) ++ [eI (q 8) (ct 0) 10]) ++ [eI (q 9) (ct 0) 10]))
set_option maxHeartbeats 4000000 in
set_option maxRecDepth 100000 in
theorem c_P_init (l : Launch) (D : va_G) (ct : Nat → ClassId) (h : Nat) : KV l D ct y_P_init b_P_init 1 1 12 49 330 [.ref h] [(h, .inr (1, [.int 0, .null, .null, .null, .null, .null, .null, .null, .null, .null]))] (fun A t => ∃ q : Nat → Nat, CE D (wPF ct h q) A t) := by
  refine KV.ofW (by decide) (Nat.le_of_ble_eq_true rfl) ?_
  intro p e s m args below meth c A Q ls C0 hin hl w hret
  have hin : meth.name = "<init>" := hin
  have hx := C0.1
  have hb := C0.2.1
  have hl : lv_has ls 1 [(0, .ref h)] := hl
  refine lv_aload_n hx hb d_P_init_0 rfl (lv_at hl 0 rfl) ?_
  refine W.objInit hx hb C0.2.2.2.1 (C0.2.2.2.2.1 _ wd_30) (C0.2.2.2.2.1 _ wd_23) (C0.2.2.2.2.1 _ wd_24) rfl (by rw [C0.2.2.1]; exact hl.1) rfl d_P_init_1 (Nat.le_of_ble_eq_true rfl) (Nat.le_of_ble_eq_true rfl) ?_
  refine W.eq (g2 := F0 m 4 ls []) rfl ?_
  refine lv_aload_n hx hb d_P_init_4 rfl (lv_at hl 0 rfl) ?_
  refine lv_bipush (v := 10) hx hb d_P_init_5 (by decide) ?_
  refine R_newI (N := 10) C0 w wd_93 (by decide) (by decide) (by decide) (Nat.le_of_ble_eq_true rfl) (Nat.le_of_ble_eq_true rfl) d_P_init_7 (fun q1 H w => ?_)
  refine W.cs (cells' := 1) (slots' := 10) rfl rfl ?_
  have w : Wd D A s ([eO h 1 [.int 0, .null, .null, .null, .null, .null, .null, .null, .null, .null]] ++ [eI q1 (ct 0) 10]) H _ := w
  refine R_putF C0 w 0 rfl rfl inP tyP_ok nmP 1 (by decide) wd_39 rfl hin rfl rfl rfl (Nat.le_of_ble_eq_true rfl) d_P_init_9 (fun H locs w => ?_)
  have w : Wd D A s ([eO h 1 [.int 0, .ref q1, .null, .null, .null, .null, .null, .null, .null, .null]] ++ [eI q1 (ct 0) 10]) H _ := w
  refine lv_aload_n hx hb d_P_init_12 rfl (lv_at hl 0 rfl) ?_
  refine lv_bipush (v := 10) hx hb d_P_init_13 (by decide) ?_
  refine lv_bipush (v := 6) hx hb d_P_init_15 (by decide) ?_
  refine R_mnaK C0 w wd_31 wd_93 (Nat.le_of_ble_eq_true rfl) (Nat.le_of_ble_eq_true rfl) d_P_init_17 (fun q2 H w => ?_)
  refine W.cs (cells' := 12) (slots' := 80) rfl rfl ?_
  have w : Wd D A s ([eO h 1 [.int 0, .ref q1, .null, .null, .null, .null, .null, .null, .null, .null]] ++ ([eI q1 (ct 0) 10] ++ grid ct q2)) H _ := w.assoc'
  refine R_putF C0 w 0 rfl rfl inP tyP_ok nmP 2 (by decide) wd_45 rfl hin rfl rfl rfl (Nat.le_of_ble_eq_true rfl) d_P_init_21 (fun H locs w => ?_)
  have w : Wd D A s ([eO h 1 [.int 0, .ref q1, .ref q2, .null, .null, .null, .null, .null, .null, .null]] ++ ([eI q1 (ct 0) 10] ++ grid ct q2)) H _ := w
  refine lv_aload_n hx hb d_P_init_24 rfl (lv_at hl 0 rfl) ?_
  refine lv_bipush (v := 10) hx hb d_P_init_25 (by decide) ?_
  refine lv_bipush (v := 6) hx hb d_P_init_27 (by decide) ?_
  refine R_mnaK C0 w wd_31 wd_93 (Nat.le_of_ble_eq_true rfl) (Nat.le_of_ble_eq_true rfl) d_P_init_29 (fun q3 H w => ?_)
  refine W.cs (cells' := 23) (slots' := 150) rfl rfl ?_
  have w : Wd D A s ([eO h 1 [.int 0, .ref q1, .ref q2, .null, .null, .null, .null, .null, .null, .null]] ++ (([eI q1 (ct 0) 10] ++ grid ct q2) ++ grid ct q3)) H _ := w.assoc'
  refine R_putF C0 w 0 rfl rfl inP tyP_ok nmP 3 (by decide) wd_50 rfl hin rfl rfl rfl (Nat.le_of_ble_eq_true rfl) d_P_init_33 (fun H locs w => ?_)
  have w : Wd D A s ([eO h 1 [.int 0, .ref q1, .ref q2, .ref q3, .null, .null, .null, .null, .null, .null]] ++ (([eI q1 (ct 0) 10] ++ grid ct q2) ++ grid ct q3)) H _ := w
  refine lv_aload_n hx hb d_P_init_36 rfl (lv_at hl 0 rfl) ?_
  refine lv_bipush (v := 10) hx hb d_P_init_37 (by decide) ?_
  refine lv_bipush (v := 6) hx hb d_P_init_39 (by decide) ?_
  refine R_mnaK C0 w wd_31 wd_93 (Nat.le_of_ble_eq_true rfl) (Nat.le_of_ble_eq_true rfl) d_P_init_41 (fun q4 H w => ?_)
  refine W.cs (cells' := 34) (slots' := 220) rfl rfl ?_
  have w : Wd D A s ([eO h 1 [.int 0, .ref q1, .ref q2, .ref q3, .null, .null, .null, .null, .null, .null]] ++ ((([eI q1 (ct 0) 10] ++ grid ct q2) ++ grid ct q3) ++ grid ct q4)) H _ := w.assoc'
  refine R_putF C0 w 0 rfl rfl inP tyP_ok nmP 4 (by decide) wd_53 rfl hin rfl rfl rfl (Nat.le_of_ble_eq_true rfl) d_P_init_45 (fun H locs w => ?_)
  have w : Wd D A s ([eO h 1 [.int 0, .ref q1, .ref q2, .ref q3, .ref q4, .null, .null, .null, .null, .null]] ++ ((([eI q1 (ct 0) 10] ++ grid ct q2) ++ grid ct q3) ++ grid ct q4)) H _ := w
  refine lv_aload_n hx hb d_P_init_48 rfl (lv_at hl 0 rfl) ?_
  refine lv_bipush (v := 10) hx hb d_P_init_49 (by decide) ?_
  refine lv_bipush (v := 6) hx hb d_P_init_51 (by decide) ?_
  refine R_mnaK C0 w wd_31 wd_93 (Nat.le_of_ble_eq_true rfl) (Nat.le_of_ble_eq_true rfl) d_P_init_53 (fun q5 H w => ?_)
  refine W.cs (cells' := 45) (slots' := 290) rfl rfl ?_
  have w : Wd D A s ([eO h 1 [.int 0, .ref q1, .ref q2, .ref q3, .ref q4, .null, .null, .null, .null, .null]] ++ (((([eI q1 (ct 0) 10] ++ grid ct q2) ++ grid ct q3) ++ grid ct q4) ++ grid ct q5)) H _ := w.assoc'
  refine R_putF C0 w 0 rfl rfl inP tyP_ok nmP 5 (by decide) wd_57 rfl hin rfl rfl rfl (Nat.le_of_ble_eq_true rfl) d_P_init_57 (fun H locs w => ?_)
  have w : Wd D A s ([eO h 1 [.int 0, .ref q1, .ref q2, .ref q3, .ref q4, .ref q5, .null, .null, .null, .null]] ++ (((([eI q1 (ct 0) 10] ++ grid ct q2) ++ grid ct q3) ++ grid ct q4) ++ grid ct q5)) H _ := w
  refine lv_aload_n hx hb d_P_init_60 rfl (lv_at hl 0 rfl) ?_
  refine lv_bipush (v := 10) hx hb d_P_init_61 (by decide) ?_
  refine R_newI (N := 10) C0 w wd_93 (by decide) (by decide) (by decide) (Nat.le_of_ble_eq_true rfl) (Nat.le_of_ble_eq_true rfl) d_P_init_63 (fun q6 H w => ?_)
  refine W.cs (cells' := 46) (slots' := 300) rfl rfl ?_
  have w : Wd D A s ([eO h 1 [.int 0, .ref q1, .ref q2, .ref q3, .ref q4, .ref q5, .null, .null, .null, .null]] ++ ((((([eI q1 (ct 0) 10] ++ grid ct q2) ++ grid ct q3) ++ grid ct q4) ++ grid ct q5) ++ [eI q6 (ct 0) 10])) H _ := w.assoc'
  refine R_putF C0 w 0 rfl rfl inP tyP_ok nmP 6 (by decide) wd_60 rfl hin rfl rfl rfl (Nat.le_of_ble_eq_true rfl) d_P_init_65 (fun H locs w => ?_)
  have w : Wd D A s ([eO h 1 [.int 0, .ref q1, .ref q2, .ref q3, .ref q4, .ref q5, .ref q6, .null, .null, .null]] ++ ((((([eI q1 (ct 0) 10] ++ grid ct q2) ++ grid ct q3) ++ grid ct q4) ++ grid ct q5) ++ [eI q6 (ct 0) 10])) H _ := w
  refine lv_aload_n hx hb d_P_init_68 rfl (lv_at hl 0 rfl) ?_
  refine lv_bipush (v := 10) hx hb d_P_init_69 (by decide) ?_
  refine R_newI (N := 10) C0 w wd_93 (by decide) (by decide) (by decide) (Nat.le_of_ble_eq_true rfl) (Nat.le_of_ble_eq_true rfl) d_P_init_71 (fun q7 H w => ?_)
  refine W.cs (cells' := 47) (slots' := 310) rfl rfl ?_
  have w : Wd D A s ([eO h 1 [.int 0, .ref q1, .ref q2, .ref q3, .ref q4, .ref q5, .ref q6, .null, .null, .null]] ++ (((((([eI q1 (ct 0) 10] ++ grid ct q2) ++ grid ct q3) ++ grid ct q4) ++ grid ct q5) ++ [eI q6 (ct 0) 10]) ++ [eI q7 (ct 0) 10])) H _ := w.assoc'
  refine R_putF C0 w 0 rfl rfl inP tyP_ok nmP 7 (by decide) wd_63 rfl hin rfl rfl rfl (Nat.le_of_ble_eq_true rfl) d_P_init_73 (fun H locs w => ?_)
  have w : Wd D A s ([eO h 1 [.int 0, .ref q1, .ref q2, .ref q3, .ref q4, .ref q5, .ref q6, .ref q7, .null, .null]] ++ (((((([eI q1 (ct 0) 10] ++ grid ct q2) ++ grid ct q3) ++ grid ct q4) ++ grid ct q5) ++ [eI q6 (ct 0) 10]) ++ [eI q7 (ct 0) 10])) H _ := w
  refine lv_aload_n hx hb d_P_init_76 rfl (lv_at hl 0 rfl) ?_
  refine lv_bipush (v := 10) hx hb d_P_init_77 (by decide) ?_
  refine R_newI (N := 10) C0 w wd_93 (by decide) (by decide) (by decide) (Nat.le_of_ble_eq_true rfl) (Nat.le_of_ble_eq_true rfl) d_P_init_79 (fun q8 H w => ?_)
  refine W.cs (cells' := 48) (slots' := 320) rfl rfl ?_
  have w : Wd D A s ([eO h 1 [.int 0, .ref q1, .ref q2, .ref q3, .ref q4, .ref q5, .ref q6, .ref q7, .null, .null]] ++ ((((((([eI q1 (ct 0) 10] ++ grid ct q2) ++ grid ct q3) ++ grid ct q4) ++ grid ct q5) ++ [eI q6 (ct 0) 10]) ++ [eI q7 (ct 0) 10]) ++ [eI q8 (ct 0) 10])) H _ := w.assoc'
  refine R_putF C0 w 0 rfl rfl inP tyP_ok nmP 8 (by decide) wd_66 rfl hin rfl rfl rfl (Nat.le_of_ble_eq_true rfl) d_P_init_81 (fun H locs w => ?_)
  have w : Wd D A s ([eO h 1 [.int 0, .ref q1, .ref q2, .ref q3, .ref q4, .ref q5, .ref q6, .ref q7, .ref q8, .null]] ++ ((((((([eI q1 (ct 0) 10] ++ grid ct q2) ++ grid ct q3) ++ grid ct q4) ++ grid ct q5) ++ [eI q6 (ct 0) 10]) ++ [eI q7 (ct 0) 10]) ++ [eI q8 (ct 0) 10])) H _ := w
  refine lv_aload_n hx hb d_P_init_84 rfl (lv_at hl 0 rfl) ?_
  refine lv_bipush (v := 10) hx hb d_P_init_85 (by decide) ?_
  refine R_newI (N := 10) C0 w wd_93 (by decide) (by decide) (by decide) (Nat.le_of_ble_eq_true rfl) (Nat.le_of_ble_eq_true rfl) d_P_init_87 (fun q9 H w => ?_)
  refine W.cs (cells' := 49) (slots' := 330) rfl rfl ?_
  have w : Wd D A s ([eO h 1 [.int 0, .ref q1, .ref q2, .ref q3, .ref q4, .ref q5, .ref q6, .ref q7, .ref q8, .null]] ++ (((((((([eI q1 (ct 0) 10] ++ grid ct q2) ++ grid ct q3) ++ grid ct q4) ++ grid ct q5) ++ [eI q6 (ct 0) 10]) ++ [eI q7 (ct 0) 10]) ++ [eI q8 (ct 0) 10]) ++ [eI q9 (ct 0) 10])) H _ := w.assoc'
  refine R_putF C0 w 0 rfl rfl inP tyP_ok nmP 9 (by decide) wd_69 rfl hin rfl rfl rfl (Nat.le_of_ble_eq_true rfl) d_P_init_89 (fun H locs w => ?_)
  have w : Wd D A s ([eO h 1 [.int 0, .ref q1, .ref q2, .ref q3, .ref q4, .ref q5, .ref q6, .ref q7, .ref q8, .ref q9]] ++ (((((((([eI q1 (ct 0) 10] ++ grid ct q2) ++ grid ct q3) ++ grid ct q4) ++ grid ct q5) ++ [eI q6 (ct 0) 10]) ++ [eI q7 (ct 0) 10]) ++ [eI q8 (ct 0) 10]) ++ [eI q9 (ct 0) 10])) H _ := w
  exact hret _ _ _ _ d_P_init_92 w.2.2.1 (fun t ht => ⟨fun k => [0, q1, q2, q3, q4, q5, q6, q7, q8, q9].getD k 0, by rw [ht]; exact w.1, w.2.1⟩)
def wSF (ct : Nat → ClassId) (h a1 : Nat) (q : Nat → Nat) : va_W := ([eO h 2 [.ref a1, .int 0, .ref (q 2), .ref (q 3), .ref (q 4), .ref (q 5), .ref (q 6), .int 0, .ref (q 8)]] ++ ((((([eI (q 2) (ct 0) 10] ++ [eI (q 3) (ct 0) 10]) ++ [eI (q 4) (ct 0) 10]) ++ [eI (q 5) (ct 0) 10]) ++ [eI (q 6) (ct 0) 10]) ++ [eI (q 8) (ct 0) 10]))
set_option maxHeartbeats 4000000 in
set_option maxRecDepth 100000 in
theorem c_S_init (l : Launch) (D : va_G) (ct : Nat → ClassId) (h a1 : Nat) : KV l D ct y_S_init b_S_init 2 1 12 6 60 [.ref h, .ref a1] [(h, .inr (2, [.null, .int 0, .null, .null, .null, .null, .null, .int 0, .null]))] (fun A t => ∃ q : Nat → Nat, CE D (wSF ct h a1 q) A t) := by
  refine KV.ofW (by decide) (Nat.le_of_ble_eq_true rfl) ?_
  intro p e s m args below meth c A Q ls C0 hin hl w hret
  have hin : meth.name = "<init>" := hin
  have hx := C0.1
  have hb := C0.2.1
  have hl : lv_has ls 2 [(0, .ref h), (1, .ref a1)] := hl
  refine lv_aload_n hx hb d_S_init_0 rfl (lv_at hl 0 rfl) ?_
  refine W.objInit hx hb C0.2.2.2.1 (C0.2.2.2.2.1 _ wd_99) (C0.2.2.2.2.1 _ wd_23) (C0.2.2.2.2.1 _ wd_24) rfl (by rw [C0.2.2.1]; exact hl.1) rfl d_S_init_1 (Nat.le_of_ble_eq_true rfl) (Nat.le_of_ble_eq_true rfl) ?_
  refine W.eq (g2 := F0 m 4 ls []) rfl ?_
  refine lv_aload_n hx hb d_S_init_4 rfl (lv_at hl 0 rfl) ?_
  refine lv_bipush (v := 10) hx hb d_S_init_5 (by decide) ?_
  refine R_newI (N := 10) C0 w wd_93 (by decide) (by decide) (by decide) (Nat.le_of_ble_eq_true rfl) (Nat.le_of_ble_eq_true rfl) d_S_init_7 (fun q1 H w => ?_)
  refine W.cs (cells' := 1) (slots' := 10) rfl rfl ?_
  have w : Wd D A s ([eO h 2 [.null, .int 0, .null, .null, .null, .null, .null, .int 0, .null]] ++ [eI q1 (ct 0) 10]) H _ := w
  refine R_putF C0 w 0 rfl rfl inS tyS_ok nmS 2 (by decide) wd_103 rfl hin rfl rfl rfl (Nat.le_of_ble_eq_true rfl) d_S_init_9 (fun H locs w => ?_)
  have w : Wd D A s ([eO h 2 [.null, .int 0, .ref q1, .null, .null, .null, .null, .int 0, .null]] ++ [eI q1 (ct 0) 10]) H _ := w
  refine lv_aload_n hx hb d_S_init_12 rfl (lv_at hl 0 rfl) ?_
  refine lv_bipush (v := 10) hx hb d_S_init_13 (by decide) ?_
  refine R_newI (N := 10) C0 w wd_93 (by decide) (by decide) (by decide) (Nat.le_of_ble_eq_true rfl) (Nat.le_of_ble_eq_true rfl) d_S_init_15 (fun q2 H w => ?_)
  refine W.cs (cells' := 2) (slots' := 20) rfl rfl ?_
  have w : Wd D A s ([eO h 2 [.null, .int 0, .ref q1, .null, .null, .null, .null, .int 0, .null]] ++ ([eI q1 (ct 0) 10] ++ [eI q2 (ct 0) 10])) H _ := w.assoc'
  refine R_putF C0 w 0 rfl rfl inS tyS_ok nmS 3 (by decide) wd_105 rfl hin rfl rfl rfl (Nat.le_of_ble_eq_true rfl) d_S_init_17 (fun H locs w => ?_)
  have w : Wd D A s ([eO h 2 [.null, .int 0, .ref q1, .ref q2, .null, .null, .null, .int 0, .null]] ++ ([eI q1 (ct 0) 10] ++ [eI q2 (ct 0) 10])) H _ := w
  refine lv_aload_n hx hb d_S_init_20 rfl (lv_at hl 0 rfl) ?_
  refine lv_bipush (v := 10) hx hb d_S_init_21 (by decide) ?_
  refine R_newI (N := 10) C0 w wd_93 (by decide) (by decide) (by decide) (Nat.le_of_ble_eq_true rfl) (Nat.le_of_ble_eq_true rfl) d_S_init_23 (fun q3 H w => ?_)
  refine W.cs (cells' := 3) (slots' := 30) rfl rfl ?_
  have w : Wd D A s ([eO h 2 [.null, .int 0, .ref q1, .ref q2, .null, .null, .null, .int 0, .null]] ++ (([eI q1 (ct 0) 10] ++ [eI q2 (ct 0) 10]) ++ [eI q3 (ct 0) 10])) H _ := w.assoc'
  refine R_putF C0 w 0 rfl rfl inS tyS_ok nmS 4 (by decide) wd_106 rfl hin rfl rfl rfl (Nat.le_of_ble_eq_true rfl) d_S_init_25 (fun H locs w => ?_)
  have w : Wd D A s ([eO h 2 [.null, .int 0, .ref q1, .ref q2, .ref q3, .null, .null, .int 0, .null]] ++ (([eI q1 (ct 0) 10] ++ [eI q2 (ct 0) 10]) ++ [eI q3 (ct 0) 10])) H _ := w
  refine lv_aload_n hx hb d_S_init_28 rfl (lv_at hl 0 rfl) ?_
  refine lv_bipush (v := 10) hx hb d_S_init_29 (by decide) ?_
  refine R_newI (N := 10) C0 w wd_93 (by decide) (by decide) (by decide) (Nat.le_of_ble_eq_true rfl) (Nat.le_of_ble_eq_true rfl) d_S_init_31 (fun q4 H w => ?_)
  refine W.cs (cells' := 4) (slots' := 40) rfl rfl ?_
  have w : Wd D A s ([eO h 2 [.null, .int 0, .ref q1, .ref q2, .ref q3, .null, .null, .int 0, .null]] ++ ((([eI q1 (ct 0) 10] ++ [eI q2 (ct 0) 10]) ++ [eI q3 (ct 0) 10]) ++ [eI q4 (ct 0) 10])) H _ := w.assoc'
  refine R_putF C0 w 0 rfl rfl inS tyS_ok nmS 5 (by decide) wd_109 rfl hin rfl rfl rfl (Nat.le_of_ble_eq_true rfl) d_S_init_33 (fun H locs w => ?_)
  have w : Wd D A s ([eO h 2 [.null, .int 0, .ref q1, .ref q2, .ref q3, .ref q4, .null, .int 0, .null]] ++ ((([eI q1 (ct 0) 10] ++ [eI q2 (ct 0) 10]) ++ [eI q3 (ct 0) 10]) ++ [eI q4 (ct 0) 10])) H _ := w
  refine lv_aload_n hx hb d_S_init_36 rfl (lv_at hl 0 rfl) ?_
  refine lv_bipush (v := 10) hx hb d_S_init_37 (by decide) ?_
  refine R_newI (N := 10) C0 w wd_93 (by decide) (by decide) (by decide) (Nat.le_of_ble_eq_true rfl) (Nat.le_of_ble_eq_true rfl) d_S_init_39 (fun q5 H w => ?_)
  refine W.cs (cells' := 5) (slots' := 50) rfl rfl ?_
  have w : Wd D A s ([eO h 2 [.null, .int 0, .ref q1, .ref q2, .ref q3, .ref q4, .null, .int 0, .null]] ++ (((([eI q1 (ct 0) 10] ++ [eI q2 (ct 0) 10]) ++ [eI q3 (ct 0) 10]) ++ [eI q4 (ct 0) 10]) ++ [eI q5 (ct 0) 10])) H _ := w.assoc'
  refine R_putF C0 w 0 rfl rfl inS tyS_ok nmS 6 (by decide) wd_111 rfl hin rfl rfl rfl (Nat.le_of_ble_eq_true rfl) d_S_init_41 (fun H locs w => ?_)
  have w : Wd D A s ([eO h 2 [.null, .int 0, .ref q1, .ref q2, .ref q3, .ref q4, .ref q5, .int 0, .null]] ++ (((([eI q1 (ct 0) 10] ++ [eI q2 (ct 0) 10]) ++ [eI q3 (ct 0) 10]) ++ [eI q4 (ct 0) 10]) ++ [eI q5 (ct 0) 10])) H _ := w
  refine lv_aload_n hx hb d_S_init_44 rfl (lv_at hl 0 rfl) ?_
  refine lv_bipush (v := 10) hx hb d_S_init_45 (by decide) ?_
  refine R_newI (N := 10) C0 w wd_93 (by decide) (by decide) (by decide) (Nat.le_of_ble_eq_true rfl) (Nat.le_of_ble_eq_true rfl) d_S_init_47 (fun q6 H w => ?_)
  refine W.cs (cells' := 6) (slots' := 60) rfl rfl ?_
  have w : Wd D A s ([eO h 2 [.null, .int 0, .ref q1, .ref q2, .ref q3, .ref q4, .ref q5, .int 0, .null]] ++ ((((([eI q1 (ct 0) 10] ++ [eI q2 (ct 0) 10]) ++ [eI q3 (ct 0) 10]) ++ [eI q4 (ct 0) 10]) ++ [eI q5 (ct 0) 10]) ++ [eI q6 (ct 0) 10])) H _ := w.assoc'
  refine R_putF C0 w 0 rfl rfl inS tyS_ok nmS 8 (by decide) wd_117 rfl hin rfl rfl rfl (Nat.le_of_ble_eq_true rfl) d_S_init_49 (fun H locs w => ?_)
  have w : Wd D A s ([eO h 2 [.null, .int 0, .ref q1, .ref q2, .ref q3, .ref q4, .ref q5, .int 0, .ref q6]] ++ ((((([eI q1 (ct 0) 10] ++ [eI q2 (ct 0) 10]) ++ [eI q3 (ct 0) 10]) ++ [eI q4 (ct 0) 10]) ++ [eI q5 (ct 0) 10]) ++ [eI q6 (ct 0) 10])) H _ := w
  refine lv_aload_n hx hb d_S_init_52 rfl (lv_at hl 0 rfl) ?_
  refine lv_aload_n hx hb d_S_init_53 rfl (lv_at hl 1 rfl) ?_
  refine R_putF C0 w 0 rfl rfl inS tyS_ok nmS 0 (by decide) wd_100 rfl hin rfl rfl rfl (Nat.le_of_ble_eq_true rfl) d_S_init_54 (fun H locs w => ?_)
  have w : Wd D A s ([eO h 2 [.ref a1, .int 0, .ref q1, .ref q2, .ref q3, .ref q4, .ref q5, .int 0, .ref q6]] ++ ((((([eI q1 (ct 0) 10] ++ [eI q2 (ct 0) 10]) ++ [eI q3 (ct 0) 10]) ++ [eI q4 (ct 0) 10]) ++ [eI q5 (ct 0) 10]) ++ [eI q6 (ct 0) 10])) H _ := w
  exact hret _ _ _ _ d_S_init_57 w.2.2.1 (fun t ht => ⟨fun k => [0, 0, q1, q2, q3, q4, q5, 0, q6].getD k 0, by rw [ht]; exact w.1, w.2.1⟩)
def wGF (ct : Nat → ClassId) (h a1 a2 : Nat) (q : Nat → Nat) : va_W := ([eO h 3 [.ref a1, .ref a2, .int 0, .ref (q 3), .ref (q 4), .ref (q 5), .ref (q 6), .ref (q 7), .ref (q 8), .ref (q 9), .ref (q 10), .ref (q 11), .ref (q 12), .ref (q 13)]] ++ (((((((((([eI (q 3) (ct 0) 10] ++ [eI (q 4) (ct 0) 10]) ++ grid ct (q 5)) ++ grid ct (q 6)) ++ grid ct (q 7)) ++ grid ct (q 8)) ++ grid ct (q 9)) ++ [eI (q 10) (ct 0) 10]) ++ [eI (q 11) (ct 0) 126]) ++ [eI (q 12) (ct 0) 126]) ++ [eI (q 13) (ct 0) 126]))
set_option maxHeartbeats 4000000 in
set_option maxRecDepth 100000 in
theorem c_G_init (l : Launch) (D : va_G) (ct : Nat → ClassId) (h a1 a2 : Nat) : KV l D ct y_G_init b_G_init 3 1 12 61 758 [.ref h, .ref a1, .ref a2] [(h, .inr (3, [.null, .null, .int 0, .null, .null, .null, .null, .null, .null, .null, .null, .null, .null, .null]))] (fun A t => ∃ q : Nat → Nat, CE D (wGF ct h a1 a2 q) A t) := by
  refine KV.ofW (by decide) (Nat.le_of_ble_eq_true rfl) ?_
  intro p e s m args below meth c A Q ls C0 hin hl w hret
  have hin : meth.name = "<init>" := hin
  have hx := C0.1
  have hb := C0.2.1
  have hl : lv_has ls 3 [(0, .ref h), (1, .ref a1), (2, .ref a2)] := hl
  refine lv_aload_n hx hb d_G_init_0 rfl (lv_at hl 0 rfl) ?_
  refine W.objInit hx hb C0.2.2.2.1 (C0.2.2.2.2.1 _ wd_142) (C0.2.2.2.2.1 _ wd_23) (C0.2.2.2.2.1 _ wd_24) rfl (by rw [C0.2.2.1]; exact hl.1) rfl d_G_init_1 (Nat.le_of_ble_eq_true rfl) (Nat.le_of_ble_eq_true rfl) ?_
  refine W.eq (g2 := F0 m 4 ls []) rfl ?_
  refine lv_aload_n hx hb d_G_init_4 rfl (lv_at hl 0 rfl) ?_
  refine lv_bipush (v := 10) hx hb d_G_init_5 (by decide) ?_
  refine R_newI (N := 10) C0 w wd_93 (by decide) (by decide) (by decide) (Nat.le_of_ble_eq_true rfl) (Nat.le_of_ble_eq_true rfl) d_G_init_7 (fun q1 H w => ?_)
  refine W.cs (cells' := 1) (slots' := 10) rfl rfl ?_
  have w : Wd D A s ([eO h 3 [.null, .null, .int 0, .null, .null, .null, .null, .null, .null, .null, .null, .null, .null, .null]] ++ [eI q1 (ct 0) 10]) H _ := w
  refine R_putF C0 w 0 rfl rfl inG tyG_ok nmG 3 (by decide) wd_148 rfl hin rfl rfl rfl (Nat.le_of_ble_eq_true rfl) d_G_init_9 (fun H locs w => ?_)
  have w : Wd D A s ([eO h 3 [.null, .null, .int 0, .ref q1, .null, .null, .null, .null, .null, .null, .null, .null, .null, .null]] ++ [eI q1 (ct 0) 10]) H _ := w
  refine lv_aload_n hx hb d_G_init_12 rfl (lv_at hl 0 rfl) ?_
  refine lv_bipush (v := 10) hx hb d_G_init_13 (by decide) ?_
  refine R_newI (N := 10) C0 w wd_93 (by decide) (by decide) (by decide) (Nat.le_of_ble_eq_true rfl) (Nat.le_of_ble_eq_true rfl) d_G_init_15 (fun q2 H w => ?_)
  refine W.cs (cells' := 2) (slots' := 20) rfl rfl ?_
  have w : Wd D A s ([eO h 3 [.null, .null, .int 0, .ref q1, .null, .null, .null, .null, .null, .null, .null, .null, .null, .null]] ++ ([eI q1 (ct 0) 10] ++ [eI q2 (ct 0) 10])) H _ := w.assoc'
  refine R_putF C0 w 0 rfl rfl inG tyG_ok nmG 4 (by decide) wd_152 rfl hin rfl rfl rfl (Nat.le_of_ble_eq_true rfl) d_G_init_17 (fun H locs w => ?_)
  have w : Wd D A s ([eO h 3 [.null, .null, .int 0, .ref q1, .ref q2, .null, .null, .null, .null, .null, .null, .null, .null, .null]] ++ ([eI q1 (ct 0) 10] ++ [eI q2 (ct 0) 10])) H _ := w
  refine lv_aload_n hx hb d_G_init_20 rfl (lv_at hl 0 rfl) ?_
  refine lv_bipush (v := 10) hx hb d_G_init_21 (by decide) ?_
  refine lv_bipush (v := 6) hx hb d_G_init_23 (by decide) ?_
  refine R_mnaK C0 w wd_143 wd_93 (Nat.le_of_ble_eq_true rfl) (Nat.le_of_ble_eq_true rfl) d_G_init_25 (fun q3 H w => ?_)
  refine W.cs (cells' := 13) (slots' := 90) rfl rfl ?_
  have w : Wd D A s ([eO h 3 [.null, .null, .int 0, .ref q1, .ref q2, .null, .null, .null, .null, .null, .null, .null, .null, .null]] ++ (([eI q1 (ct 0) 10] ++ [eI q2 (ct 0) 10]) ++ grid ct q3)) H _ := w.assoc'
  refine R_putF C0 w 0 rfl rfl inG tyG_ok nmG 5 (by decide) wd_153 rfl hin rfl rfl rfl (Nat.le_of_ble_eq_true rfl) d_G_init_29 (fun H locs w => ?_)
  have w : Wd D A s ([eO h 3 [.null, .null, .int 0, .ref q1, .ref q2, .ref q3, .null, .null, .null, .null, .null, .null, .null, .null]] ++ (([eI q1 (ct 0) 10] ++ [eI q2 (ct 0) 10]) ++ grid ct q3)) H _ := w
  refine lv_aload_n hx hb d_G_init_32 rfl (lv_at hl 0 rfl) ?_
  refine lv_bipush (v := 10) hx hb d_G_init_33 (by decide) ?_
  refine lv_bipush (v := 6) hx hb d_G_init_35 (by decide) ?_
  refine R_mnaK C0 w wd_143 wd_93 (Nat.le_of_ble_eq_true rfl) (Nat.le_of_ble_eq_true rfl) d_G_init_37 (fun q4 H w => ?_)
  refine W.cs (cells' := 24) (slots' := 160) rfl rfl ?_
  have w : Wd D A s ([eO h 3 [.null, .null, .int 0, .ref q1, .ref q2, .ref q3, .null, .null, .null, .null, .null, .null, .null, .null]] ++ ((([eI q1 (ct 0) 10] ++ [eI q2 (ct 0) 10]) ++ grid ct q3) ++ grid ct q4)) H _ := w.assoc'
  refine R_putF C0 w 0 rfl rfl inG tyG_ok nmG 6 (by decide) wd_157 rfl hin rfl rfl rfl (Nat.le_of_ble_eq_true rfl) d_G_init_41 (fun H locs w => ?_)
  have w : Wd D A s ([eO h 3 [.null, .null, .int 0, .ref q1, .ref q2, .ref q3, .ref q4, .null, .null, .null, .null, .null, .null, .null]] ++ ((([eI q1 (ct 0) 10] ++ [eI q2 (ct 0) 10]) ++ grid ct q3) ++ grid ct q4)) H _ := w
  refine lv_aload_n hx hb d_G_init_44 rfl (lv_at hl 0 rfl) ?_
  refine lv_bipush (v := 10) hx hb d_G_init_45 (by decide) ?_
  refine lv_bipush (v := 6) hx hb d_G_init_47 (by decide) ?_
  refine R_mnaK C0 w wd_143 wd_93 (Nat.le_of_ble_eq_true rfl) (Nat.le_of_ble_eq_true rfl) d_G_init_49 (fun q5 H w => ?_)
  refine W.cs (cells' := 35) (slots' := 230) rfl rfl ?_
  have w : Wd D A s ([eO h 3 [.null, .null, .int 0, .ref q1, .ref q2, .ref q3, .ref q4, .null, .null, .null, .null, .null, .null, .null]] ++ (((([eI q1 (ct 0) 10] ++ [eI q2 (ct 0) 10]) ++ grid ct q3) ++ grid ct q4) ++ grid ct q5)) H _ := w.assoc'
  refine R_putF C0 w 0 rfl rfl inG tyG_ok nmG 7 (by decide) wd_162 rfl hin rfl rfl rfl (Nat.le_of_ble_eq_true rfl) d_G_init_53 (fun H locs w => ?_)
  have w : Wd D A s ([eO h 3 [.null, .null, .int 0, .ref q1, .ref q2, .ref q3, .ref q4, .ref q5, .null, .null, .null, .null, .null, .null]] ++ (((([eI q1 (ct 0) 10] ++ [eI q2 (ct 0) 10]) ++ grid ct q3) ++ grid ct q4) ++ grid ct q5)) H _ := w
  refine lv_aload_n hx hb d_G_init_56 rfl (lv_at hl 0 rfl) ?_
  refine lv_bipush (v := 10) hx hb d_G_init_57 (by decide) ?_
  refine lv_bipush (v := 6) hx hb d_G_init_59 (by decide) ?_
  refine R_mnaK C0 w wd_143 wd_93 (Nat.le_of_ble_eq_true rfl) (Nat.le_of_ble_eq_true rfl) d_G_init_61 (fun q6 H w => ?_)
  refine W.cs (cells' := 46) (slots' := 300) rfl rfl ?_
  have w : Wd D A s ([eO h 3 [.null, .null, .int 0, .ref q1, .ref q2, .ref q3, .ref q4, .ref q5, .null, .null, .null, .null, .null, .null]] ++ ((((([eI q1 (ct 0) 10] ++ [eI q2 (ct 0) 10]) ++ grid ct q3) ++ grid ct q4) ++ grid ct q5) ++ grid ct q6)) H _ := w.assoc'
  refine R_putF C0 w 0 rfl rfl inG tyG_ok nmG 8 (by decide) wd_167 rfl hin rfl rfl rfl (Nat.le_of_ble_eq_true rfl) d_G_init_65 (fun H locs w => ?_)
  have w : Wd D A s ([eO h 3 [.null, .null, .int 0, .ref q1, .ref q2, .ref q3, .ref q4, .ref q5, .ref q6, .null, .null, .null, .null, .null]] ++ ((((([eI q1 (ct 0) 10] ++ [eI q2 (ct 0) 10]) ++ grid ct q3) ++ grid ct q4) ++ grid ct q5) ++ grid ct q6)) H _ := w
  refine lv_aload_n hx hb d_G_init_68 rfl (lv_at hl 0 rfl) ?_
  refine lv_bipush (v := 10) hx hb d_G_init_69 (by decide) ?_
  refine lv_bipush (v := 6) hx hb d_G_init_71 (by decide) ?_
  refine R_mnaK C0 w wd_143 wd_93 (Nat.le_of_ble_eq_true rfl) (Nat.le_of_ble_eq_true rfl) d_G_init_73 (fun q7 H w => ?_)
  refine W.cs (cells' := 57) (slots' := 370) rfl rfl ?_
  have w : Wd D A s ([eO h 3 [.null, .null, .int 0, .ref q1, .ref q2, .ref q3, .ref q4, .ref q5, .ref q6, .null, .null, .null, .null, .null]] ++ (((((([eI q1 (ct 0) 10] ++ [eI q2 (ct 0) 10]) ++ grid ct q3) ++ grid ct q4) ++ grid ct q5) ++ grid ct q6) ++ grid ct q7)) H _ := w.assoc'
  refine R_putF C0 w 0 rfl rfl inG tyG_ok nmG 9 (by decide) wd_172 rfl hin rfl rfl rfl (Nat.le_of_ble_eq_true rfl) d_G_init_77 (fun H locs w => ?_)
  have w : Wd D A s ([eO h 3 [.null, .null, .int 0, .ref q1, .ref q2, .ref q3, .ref q4, .ref q5, .ref q6, .ref q7, .null, .null, .null, .null]] ++ (((((([eI q1 (ct 0) 10] ++ [eI q2 (ct 0) 10]) ++ grid ct q3) ++ grid ct q4) ++ grid ct q5) ++ grid ct q6) ++ grid ct q7)) H _ := w
  refine lv_aload_n hx hb d_G_init_80 rfl (lv_at hl 0 rfl) ?_
  refine lv_bipush (v := 10) hx hb d_G_init_81 (by decide) ?_
  refine R_newI (N := 10) C0 w wd_93 (by decide) (by decide) (by decide) (Nat.le_of_ble_eq_true rfl) (Nat.le_of_ble_eq_true rfl) d_G_init_83 (fun q8 H w => ?_)
  refine W.cs (cells' := 58) (slots' := 380) rfl rfl ?_
  have w : Wd D A s ([eO h 3 [.null, .null, .int 0, .ref q1, .ref q2, .ref q3, .ref q4, .ref q5, .ref q6, .ref q7, .null, .null, .null, .null]] ++ ((((((([eI q1 (ct 0) 10] ++ [eI q2 (ct 0) 10]) ++ grid ct q3) ++ grid ct q4) ++ grid ct q5) ++ grid ct q6) ++ grid ct q7) ++ [eI q8 (ct 0) 10])) H _ := w.assoc'
  refine R_putF C0 w 0 rfl rfl inG tyG_ok nmG 10 (by decide) wd_177 rfl hin rfl rfl rfl (Nat.le_of_ble_eq_true rfl) d_G_init_85 (fun H locs w => ?_)
  have w : Wd D A s ([eO h 3 [.null, .null, .int 0, .ref q1, .ref q2, .ref q3, .ref q4, .ref q5, .ref q6, .ref q7, .ref q8, .null, .null, .null]] ++ ((((((([eI q1 (ct 0) 10] ++ [eI q2 (ct 0) 10]) ++ grid ct q3) ++ grid ct q4) ++ grid ct q5) ++ grid ct q6) ++ grid ct q7) ++ [eI q8 (ct 0) 10])) H _ := w
  refine lv_aload_n hx hb d_G_init_88 rfl (lv_at hl 0 rfl) ?_
  refine lv_bipush (v := 126) hx hb d_G_init_89 (by decide) ?_
  refine R_newI (N := 126) C0 w wd_93 (by decide) (by decide) (by decide) (Nat.le_of_ble_eq_true rfl) (Nat.le_of_ble_eq_true rfl) d_G_init_91 (fun q9 H w => ?_)
  refine W.cs (cells' := 59) (slots' := 506) rfl rfl ?_
  have w : Wd D A s ([eO h 3 [.null, .null, .int 0, .ref q1, .ref q2, .ref q3, .ref q4, .ref q5, .ref q6, .ref q7, .ref q8, .null, .null, .null]] ++ (((((((([eI q1 (ct 0) 10] ++ [eI q2 (ct 0) 10]) ++ grid ct q3) ++ grid ct q4) ++ grid ct q5) ++ grid ct q6) ++ grid ct q7) ++ [eI q8 (ct 0) 10]) ++ [eI q9 (ct 0) 126])) H _ := w.assoc'
  refine R_putF C0 w 0 rfl rfl inG tyG_ok nmG 11 (by decide) wd_182 rfl hin rfl rfl rfl (Nat.le_of_ble_eq_true rfl) d_G_init_93 (fun H locs w => ?_)
  have w : Wd D A s ([eO h 3 [.null, .null, .int 0, .ref q1, .ref q2, .ref q3, .ref q4, .ref q5, .ref q6, .ref q7, .ref q8, .ref q9, .null, .null]] ++ (((((((([eI q1 (ct 0) 10] ++ [eI q2 (ct 0) 10]) ++ grid ct q3) ++ grid ct q4) ++ grid ct q5) ++ grid ct q6) ++ grid ct q7) ++ [eI q8 (ct 0) 10]) ++ [eI q9 (ct 0) 126])) H _ := w
  refine lv_aload_n hx hb d_G_init_96 rfl (lv_at hl 0 rfl) ?_
  refine lv_bipush (v := 126) hx hb d_G_init_97 (by decide) ?_
  refine R_newI (N := 126) C0 w wd_93 (by decide) (by decide) (by decide) (Nat.le_of_ble_eq_true rfl) (Nat.le_of_ble_eq_true rfl) d_G_init_99 (fun q10 H w => ?_)
  refine W.cs (cells' := 60) (slots' := 632) rfl rfl ?_
  have w : Wd D A s ([eO h 3 [.null, .null, .int 0, .ref q1, .ref q2, .ref q3, .ref q4, .ref q5, .ref q6, .ref q7, .ref q8, .ref q9, .null, .null]] ++ ((((((((([eI q1 (ct 0) 10] ++ [eI q2 (ct 0) 10]) ++ grid ct q3) ++ grid ct q4) ++ grid ct q5) ++ grid ct q6) ++ grid ct q7) ++ [eI q8 (ct 0) 10]) ++ [eI q9 (ct 0) 126]) ++ [eI q10 (ct 0) 126])) H _ := w.assoc'
  refine R_putF C0 w 0 rfl rfl inG tyG_ok nmG 12 (by decide) wd_185 rfl hin rfl rfl rfl (Nat.le_of_ble_eq_true rfl) d_G_init_101 (fun H locs w => ?_)
  have w : Wd D A s ([eO h 3 [.null, .null, .int 0, .ref q1, .ref q2, .ref q3, .ref q4, .ref q5, .ref q6, .ref q7, .ref q8, .ref q9, .ref q10, .null]] ++ ((((((((([eI q1 (ct 0) 10] ++ [eI q2 (ct 0) 10]) ++ grid ct q3) ++ grid ct q4) ++ grid ct q5) ++ grid ct q6) ++ grid ct q7) ++ [eI q8 (ct 0) 10]) ++ [eI q9 (ct 0) 126]) ++ [eI q10 (ct 0) 126])) H _ := w
  refine lv_aload_n hx hb d_G_init_104 rfl (lv_at hl 0 rfl) ?_
  refine lv_bipush (v := 126) hx hb d_G_init_105 (by decide) ?_
  refine R_newI (N := 126) C0 w wd_93 (by decide) (by decide) (by decide) (Nat.le_of_ble_eq_true rfl) (Nat.le_of_ble_eq_true rfl) d_G_init_107 (fun q11 H w => ?_)
  refine W.cs (cells' := 61) (slots' := 758) rfl rfl ?_
  have w : Wd D A s ([eO h 3 [.null, .null, .int 0, .ref q1, .ref q2, .ref q3, .ref q4, .ref q5, .ref q6, .ref q7, .ref q8, .ref q9, .ref q10, .null]] ++ (((((((((([eI q1 (ct 0) 10] ++ [eI q2 (ct 0) 10]) ++ grid ct q3) ++ grid ct q4) ++ grid ct q5) ++ grid ct q6) ++ grid ct q7) ++ [eI q8 (ct 0) 10]) ++ [eI q9 (ct 0) 126]) ++ [eI q10 (ct 0) 126]) ++ [eI q11 (ct 0) 126])) H _ := w.assoc'
  refine R_putF C0 w 0 rfl rfl inG tyG_ok nmG 13 (by decide) wd_187 rfl hin rfl rfl rfl (Nat.le_of_ble_eq_true rfl) d_G_init_109 (fun H locs w => ?_)
  have w : Wd D A s ([eO h 3 [.null, .null, .int 0, .ref q1, .ref q2, .ref q3, .ref q4, .ref q5, .ref q6, .ref q7, .ref q8, .ref q9, .ref q10, .ref q11]] ++ (((((((((([eI q1 (ct 0) 10] ++ [eI q2 (ct 0) 10]) ++ grid ct q3) ++ grid ct q4) ++ grid ct q5) ++ grid ct q6) ++ grid ct q7) ++ [eI q8 (ct 0) 10]) ++ [eI q9 (ct 0) 126]) ++ [eI q10 (ct 0) 126]) ++ [eI q11 (ct 0) 126])) H _ := w
  refine lv_aload_n hx hb d_G_init_112 rfl (lv_at hl 0 rfl) ?_
  refine lv_aload_n hx hb d_G_init_113 rfl (lv_at hl 1 rfl) ?_
  refine R_putF C0 w 0 rfl rfl inG tyG_ok nmG 0 (by decide) wd_144 rfl hin rfl rfl rfl (Nat.le_of_ble_eq_true rfl) d_G_init_114 (fun H locs w => ?_)
  have w : Wd D A s ([eO h 3 [.ref a1, .null, .int 0, .ref q1, .ref q2, .ref q3, .ref q4, .ref q5, .ref q6, .ref q7, .ref q8, .ref q9, .ref q10, .ref q11]] ++ (((((((((([eI q1 (ct 0) 10] ++ [eI q2 (ct 0) 10]) ++ grid ct q3) ++ grid ct q4) ++ grid ct q5) ++ grid ct q6) ++ grid ct q7) ++ [eI q8 (ct 0) 10]) ++ [eI q9 (ct 0) 126]) ++ [eI q10 (ct 0) 126]) ++ [eI q11 (ct 0) 126])) H _ := w
  refine lv_aload_n hx hb d_G_init_117 rfl (lv_at hl 0 rfl) ?_
  refine lv_aload_n hx hb d_G_init_118 rfl (lv_at hl 2 rfl) ?_
  refine R_putF C0 w 0 rfl rfl inG tyG_ok nmG 1 (by decide) wd_145 rfl hin rfl rfl rfl (Nat.le_of_ble_eq_true rfl) d_G_init_119 (fun H locs w => ?_)
  have w : Wd D A s ([eO h 3 [.ref a1, .ref a2, .int 0, .ref q1, .ref q2, .ref q3, .ref q4, .ref q5, .ref q6, .ref q7, .ref q8, .ref q9, .ref q10, .ref q11]] ++ (((((((((([eI q1 (ct 0) 10] ++ [eI q2 (ct 0) 10]) ++ grid ct q3) ++ grid ct q4) ++ grid ct q5) ++ grid ct q6) ++ grid ct q7) ++ [eI q8 (ct 0) 10]) ++ [eI q9 (ct 0) 126]) ++ [eI q10 (ct 0) 126]) ++ [eI q11 (ct 0) 126])) H _ := w
  exact hret _ _ _ _ d_G_init_122 w.2.2.1 (fun t ht => ⟨fun k => [0, 0, 0, q1, q2, q3, q4, q5, q6, q7, q8, q9, q10, q11].getD k 0, by rw [ht]; exact w.1, w.2.1⟩)
def wKF (ct : Nat → ClassId) (h a1 a2 a3 : Nat) (q : Nat → Nat) : va_W := ([eO h 4 [.ref a1, .ref a2, .ref a3, .int 0, .ref (q 4), .ref (q 5), .ref (q 6), .int 0]] ++ (([eI (q 4) (ct 0) 10] ++ [eI (q 5) (ct 0) 126]) ++ [eI (q 6) (ct 0) 126]))
set_option maxHeartbeats 4000000 in
set_option maxRecDepth 100000 in
theorem c_K_init (l : Launch) (D : va_G) (ct : Nat → ClassId) (h a1 a2 a3 : Nat) : KV l D ct y_K_init b_K_init 4 1 12 3 262 [.ref h, .ref a1, .ref a2, .ref a3] [(h, .inr (4, [.null, .null, .null, .int 0, .null, .null, .null, .int 0]))] (fun A t => ∃ q : Nat → Nat, CE D (wKF ct h a1 a2 a3 q) A t) := by
  refine KV.ofW (by decide) (Nat.le_of_ble_eq_true rfl) ?_
  intro p e s m args below meth c A Q ls C0 hin hl w hret
  have hin : meth.name = "<init>" := hin
  have hx := C0.1
  have hb := C0.2.1
  have hl : lv_has ls 4 [(0, .ref h), (1, .ref a1), (2, .ref a2), (3, .ref a3)] := hl
  refine lv_aload_n hx hb d_K_init_0 rfl (lv_at hl 0 rfl) ?_
  refine W.objInit hx hb C0.2.2.2.1 (C0.2.2.2.2.1 _ wd_223) (C0.2.2.2.2.1 _ wd_23) (C0.2.2.2.2.1 _ wd_24) rfl (by rw [C0.2.2.1]; exact hl.1) rfl d_K_init_1 (Nat.le_of_ble_eq_true rfl) (Nat.le_of_ble_eq_true rfl) ?_
  refine W.eq (g2 := F0 m 4 ls []) rfl ?_
  refine lv_aload_n hx hb d_K_init_4 rfl (lv_at hl 0 rfl) ?_
  refine lv_bipush (v := 10) hx hb d_K_init_5 (by decide) ?_
  refine R_newI (N := 10) C0 w wd_93 (by decide) (by decide) (by decide) (Nat.le_of_ble_eq_true rfl) (Nat.le_of_ble_eq_true rfl) d_K_init_7 (fun q1 H w => ?_)
  refine W.cs (cells' := 1) (slots' := 10) rfl rfl ?_
  have w : Wd D A s ([eO h 4 [.null, .null, .null, .int 0, .null, .null, .null, .int 0]] ++ [eI q1 (ct 0) 10]) H _ := w
  refine R_putF C0 w 0 rfl rfl inK tyK_ok nmK 4 (by decide) wd_230 rfl hin rfl rfl rfl (Nat.le_of_ble_eq_true rfl) d_K_init_9 (fun H locs w => ?_)
  have w : Wd D A s ([eO h 4 [.null, .null, .null, .int 0, .ref q1, .null, .null, .int 0]] ++ [eI q1 (ct 0) 10]) H _ := w
  refine lv_aload_n hx hb d_K_init_12 rfl (lv_at hl 0 rfl) ?_
  refine lv_bipush (v := 126) hx hb d_K_init_13 (by decide) ?_
  refine R_newI (N := 126) C0 w wd_93 (by decide) (by decide) (by decide) (Nat.le_of_ble_eq_true rfl) (Nat.le_of_ble_eq_true rfl) d_K_init_15 (fun q2 H w => ?_)
  refine W.cs (cells' := 2) (slots' := 136) rfl rfl ?_
  have w : Wd D A s ([eO h 4 [.null, .null, .null, .int 0, .ref q1, .null, .null, .int 0]] ++ ([eI q1 (ct 0) 10] ++ [eI q2 (ct 0) 126])) H _ := w.assoc'
  refine R_putF C0 w 0 rfl rfl inK tyK_ok nmK 5 (by decide) wd_231 rfl hin rfl rfl rfl (Nat.le_of_ble_eq_true rfl) d_K_init_17 (fun H locs w => ?_)
  have w : Wd D A s ([eO h 4 [.null, .null, .null, .int 0, .ref q1, .ref q2, .null, .int 0]] ++ ([eI q1 (ct 0) 10] ++ [eI q2 (ct 0) 126])) H _ := w
  refine lv_aload_n hx hb d_K_init_20 rfl (lv_at hl 0 rfl) ?_
  refine lv_bipush (v := 126) hx hb d_K_init_21 (by decide) ?_
  refine R_newI (N := 126) C0 w wd_93 (by decide) (by decide) (by decide) (Nat.le_of_ble_eq_true rfl) (Nat.le_of_ble_eq_true rfl) d_K_init_23 (fun q3 H w => ?_)
  refine W.cs (cells' := 3) (slots' := 262) rfl rfl ?_
  have w : Wd D A s ([eO h 4 [.null, .null, .null, .int 0, .ref q1, .ref q2, .null, .int 0]] ++ (([eI q1 (ct 0) 10] ++ [eI q2 (ct 0) 126]) ++ [eI q3 (ct 0) 126])) H _ := w.assoc'
  refine R_putF C0 w 0 rfl rfl inK tyK_ok nmK 6 (by decide) wd_235 rfl hin rfl rfl rfl (Nat.le_of_ble_eq_true rfl) d_K_init_25 (fun H locs w => ?_)
  have w : Wd D A s ([eO h 4 [.null, .null, .null, .int 0, .ref q1, .ref q2, .ref q3, .int 0]] ++ (([eI q1 (ct 0) 10] ++ [eI q2 (ct 0) 126]) ++ [eI q3 (ct 0) 126])) H _ := w
  refine lv_aload_n hx hb d_K_init_28 rfl (lv_at hl 0 rfl) ?_
  refine lv_aload_n hx hb d_K_init_29 rfl (lv_at hl 1 rfl) ?_
  refine R_putF C0 w 0 rfl rfl inK tyK_ok nmK 0 (by decide) wd_224 rfl hin rfl rfl rfl (Nat.le_of_ble_eq_true rfl) d_K_init_30 (fun H locs w => ?_)
  have w : Wd D A s ([eO h 4 [.ref a1, .null, .null, .int 0, .ref q1, .ref q2, .ref q3, .int 0]] ++ (([eI q1 (ct 0) 10] ++ [eI q2 (ct 0) 126]) ++ [eI q3 (ct 0) 126])) H _ := w
  refine lv_aload_n hx hb d_K_init_33 rfl (lv_at hl 0 rfl) ?_
  refine lv_aload_n hx hb d_K_init_34 rfl (lv_at hl 2 rfl) ?_
  refine R_putF C0 w 0 rfl rfl inK tyK_ok nmK 1 (by decide) wd_225 rfl hin rfl rfl rfl (Nat.le_of_ble_eq_true rfl) d_K_init_35 (fun H locs w => ?_)
  have w : Wd D A s ([eO h 4 [.ref a1, .ref a2, .null, .int 0, .ref q1, .ref q2, .ref q3, .int 0]] ++ (([eI q1 (ct 0) 10] ++ [eI q2 (ct 0) 126]) ++ [eI q3 (ct 0) 126])) H _ := w
  refine lv_aload_n hx hb d_K_init_38 rfl (lv_at hl 0 rfl) ?_
  refine lv_aload_n hx hb d_K_init_39 rfl (lv_at hl 3 rfl) ?_
  refine R_putF C0 w 0 rfl rfl inK tyK_ok nmK 2 (by decide) wd_226 rfl hin rfl rfl rfl (Nat.le_of_ble_eq_true rfl) d_K_init_40 (fun H locs w => ?_)
  have w : Wd D A s ([eO h 4 [.ref a1, .ref a2, .ref a3, .int 0, .ref q1, .ref q2, .ref q3, .int 0]] ++ (([eI q1 (ct 0) 10] ++ [eI q2 (ct 0) 126]) ++ [eI q3 (ct 0) 126])) H _ := w
  exact hret _ _ _ _ d_K_init_43 w.2.2.1 (fun t ht => ⟨fun k => [0, 0, 0, 0, q1, q2, q3, 0].getD k 0, by rw [ht]; exact w.1, w.2.1⟩)
def wDF (ct : Nat → ClassId) (h a1 a2 a3 : Nat) (q : Nat → Nat) : va_W := ([eO h 5 [.ref a1, .ref a2, .ref a3, .ref (q 3), .ref (q 4), .int 0]] ++ ([((q 3), .inl (ct 1, 126, .inl (fun _ => 0)))] ++ [eI (q 4) (ct 0) 126]))
set_option maxHeartbeats 4000000 in
set_option maxRecDepth 100000 in
theorem c_D_init (l : Launch) (D : va_G) (ct : Nat → ClassId) (h a1 a2 a3 : Nat) : KV l D ct y_D_init b_D_init 4 1 12 2 252 [.ref h, .ref a1, .ref a2, .ref a3] [(h, .inr (5, [.null, .null, .null, .null, .null, .int 0]))] (fun A t => ∃ q : Nat → Nat, CE D (wDF ct h a1 a2 a3 q) A t) := by
  refine KV.ofW (by decide) (Nat.le_of_ble_eq_true rfl) ?_
  intro p e s m args below meth c A Q ls C0 hin hl w hret
  have hin : meth.name = "<init>" := hin
  have hx := C0.1
  have hb := C0.2.1
  have hl : lv_has ls 4 [(0, .ref h), (1, .ref a1), (2, .ref a2), (3, .ref a3)] := hl
  refine lv_aload_n hx hb d_D_init_0 rfl (lv_at hl 0 rfl) ?_
  refine W.objInit hx hb C0.2.2.2.1 (C0.2.2.2.2.1 _ wd_261) (C0.2.2.2.2.1 _ wd_23) (C0.2.2.2.2.1 _ wd_24) rfl (by rw [C0.2.2.1]; exact hl.1) rfl d_D_init_1 (Nat.le_of_ble_eq_true rfl) (Nat.le_of_ble_eq_true rfl) ?_
  refine W.eq (g2 := F0 m 4 ls []) rfl ?_
  refine lv_aload_n hx hb d_D_init_4 rfl (lv_at hl 0 rfl) ?_
  refine lv_bipush (v := 126) hx hb d_D_init_5 (by decide) ?_
  refine R_newZ (N := 126) C0 w wd_283 (by decide) (by decide) (by decide) (Nat.le_of_ble_eq_true rfl) (Nat.le_of_ble_eq_true rfl) d_D_init_7 (fun q1 H w => ?_)
  refine W.cs (cells' := 1) (slots' := 126) rfl rfl ?_
  have w : Wd D A s ([eO h 5 [.null, .null, .null, .null, .null, .int 0]] ++ [(q1, .inl (ct 1, 126, .inl (fun _ => 0)))]) H _ := w
  refine R_putF C0 w 0 rfl rfl inD tyD_ok nmD 3 (by decide) wd_265 rfl hin rfl rfl rfl (Nat.le_of_ble_eq_true rfl) d_D_init_9 (fun H locs w => ?_)
  have w : Wd D A s ([eO h 5 [.null, .null, .null, .ref q1, .null, .int 0]] ++ [(q1, .inl (ct 1, 126, .inl (fun _ => 0)))]) H _ := w
  refine lv_aload_n hx hb d_D_init_12 rfl (lv_at hl 0 rfl) ?_
  refine lv_bipush (v := 126) hx hb d_D_init_13 (by decide) ?_
  refine R_newI (N := 126) C0 w wd_93 (by decide) (by decide) (by decide) (Nat.le_of_ble_eq_true rfl) (Nat.le_of_ble_eq_true rfl) d_D_init_15 (fun q2 H w => ?_)
  refine W.cs (cells' := 2) (slots' := 252) rfl rfl ?_
  have w : Wd D A s ([eO h 5 [.null, .null, .null, .ref q1, .null, .int 0]] ++ ([(q1, .inl (ct 1, 126, .inl (fun _ => 0)))] ++ [eI q2 (ct 0) 126])) H _ := w.assoc'
  refine R_putF C0 w 0 rfl rfl inD tyD_ok nmD 4 (by decide) wd_268 rfl hin rfl rfl rfl (Nat.le_of_ble_eq_true rfl) d_D_init_17 (fun H locs w => ?_)
  have w : Wd D A s ([eO h 5 [.null, .null, .null, .ref q1, .ref q2, .int 0]] ++ ([(q1, .inl (ct 1, 126, .inl (fun _ => 0)))] ++ [eI q2 (ct 0) 126])) H _ := w
  refine lv_aload_n hx hb d_D_init_20 rfl (lv_at hl 0 rfl) ?_
  refine lv_aload_n hx hb d_D_init_21 rfl (lv_at hl 1 rfl) ?_
  refine R_putF C0 w 0 rfl rfl inD tyD_ok nmD 0 (by decide) wd_262 rfl hin rfl rfl rfl (Nat.le_of_ble_eq_true rfl) d_D_init_22 (fun H locs w => ?_)
  have w : Wd D A s ([eO h 5 [.ref a1, .null, .null, .ref q1, .ref q2, .int 0]] ++ ([(q1, .inl (ct 1, 126, .inl (fun _ => 0)))] ++ [eI q2 (ct 0) 126])) H _ := w
  refine lv_aload_n hx hb d_D_init_25 rfl (lv_at hl 0 rfl) ?_
  refine lv_aload_n hx hb d_D_init_26 rfl (lv_at hl 2 rfl) ?_
  refine R_putF C0 w 0 rfl rfl inD tyD_ok nmD 1 (by decide) wd_263 rfl hin rfl rfl rfl (Nat.le_of_ble_eq_true rfl) d_D_init_27 (fun H locs w => ?_)
  have w : Wd D A s ([eO h 5 [.ref a1, .ref a2, .null, .ref q1, .ref q2, .int 0]] ++ ([(q1, .inl (ct 1, 126, .inl (fun _ => 0)))] ++ [eI q2 (ct 0) 126])) H _ := w
  refine lv_aload_n hx hb d_D_init_30 rfl (lv_at hl 0 rfl) ?_
  refine lv_aload_n hx hb d_D_init_31 rfl (lv_at hl 3 rfl) ?_
  refine R_putF C0 w 0 rfl rfl inD tyD_ok nmD 2 (by decide) wd_264 rfl hin rfl rfl rfl (Nat.le_of_ble_eq_true rfl) d_D_init_32 (fun H locs w => ?_)
  have w : Wd D A s ([eO h 5 [.ref a1, .ref a2, .ref a3, .ref q1, .ref q2, .int 0]] ++ ([(q1, .inl (ct 1, 126, .inl (fun _ => 0)))] ++ [eI q2 (ct 0) 126])) H _ := w
  exact hret _ _ _ _ d_D_init_35 w.2.2.1 (fun t ht => ⟨fun k => [0, 0, 0, q1, q2, 0].getD k 0, by rw [ht]; exact w.1, w.2.1⟩)
def wAF (ct : Nat → ClassId) (h a1 a2 a3 a4 : Nat) (q : Nat → Nat) : va_W := ([eO h 6 [.ref a1, .ref a2, .ref a3, .ref a4, .int 0, .ref (q 5), .ref (q 6), .ref (q 7), .ref (q 8), .int 0, .ref (q 10), .int 0, .int 0, .int 0]] ++ (((([eI (q 5) (ct 0) 16] ++ [eI (q 6) (ct 0) 6]) ++ [eI (q 7) (ct 0) 126]) ++ [eI (q 8) (ct 0) 6]) ++ [eI (q 10) (ct 0) 40]))
set_option maxHeartbeats 4000000 in
set_option maxRecDepth 100000 in
theorem c_A_init (l : Launch) (D : va_G) (ct : Nat → ClassId) (h a1 a2 a3 a4 : Nat) : KV l D ct y_A_init b_A_init 5 1 12 5 194 [.ref h, .ref a1, .ref a2, .ref a3, .ref a4] [(h, .inr (6, [.null, .null, .null, .null, .int 0, .null, .null, .null, .null, .int 0, .null, .int 0, .int 0, .int 0]))] (fun A t => ∃ q : Nat → Nat, CE D (wAF ct h a1 a2 a3 a4 q) A t) := by
  refine KV.ofW (by decide) (Nat.le_of_ble_eq_true rfl) ?_
  intro p e s m args below meth c A Q ls C0 hin hl w hret
  have hin : meth.name = "<init>" := hin
  have hx := C0.1
  have hb := C0.2.1
  have hl : lv_has ls 5 [(0, .ref h), (1, .ref a1), (2, .ref a2), (3, .ref a3), (4, .ref a4)] := hl
  refine lv_aload_n hx hb d_A_init_0 rfl (lv_at hl 0 rfl) ?_
  refine W.objInit hx hb C0.2.2.2.1 (C0.2.2.2.2.1 _ wd_289) (C0.2.2.2.2.1 _ wd_23) (C0.2.2.2.2.1 _ wd_24) rfl (by rw [C0.2.2.1]; exact hl.1) rfl d_A_init_1 (Nat.le_of_ble_eq_true rfl) (Nat.le_of_ble_eq_true rfl) ?_
  refine W.eq (g2 := F0 m 4 ls []) rfl ?_
  refine lv_aload_n hx hb d_A_init_4 rfl (lv_at hl 0 rfl) ?_
  refine lv_bipush (v := 16) hx hb d_A_init_5 (by decide) ?_
  refine R_newI (N := 16) C0 w wd_93 (by decide) (by decide) (by decide) (Nat.le_of_ble_eq_true rfl) (Nat.le_of_ble_eq_true rfl) d_A_init_7 (fun q1 H w => ?_)
  refine W.cs (cells' := 1) (slots' := 16) rfl rfl ?_
  have w : Wd D A s ([eO h 6 [.null, .null, .null, .null, .int 0, .null, .null, .null, .null, .int 0, .null, .int 0, .int 0, .int 0]] ++ [eI q1 (ct 0) 16]) H _ := w
  refine R_putF C0 w 0 rfl rfl inA tyA_ok nmA 5 (by decide) wd_296 rfl hin rfl rfl rfl (Nat.le_of_ble_eq_true rfl) d_A_init_9 (fun H locs w => ?_)
  have w : Wd D A s ([eO h 6 [.null, .null, .null, .null, .int 0, .ref q1, .null, .null, .null, .int 0, .null, .int 0, .int 0, .int 0]] ++ [eI q1 (ct 0) 16]) H _ := w
  refine lv_aload_n hx hb d_A_init_12 rfl (lv_at hl 0 rfl) ?_
  refine lv_bipush (v := 6) hx hb d_A_init_13 (by decide) ?_
  refine R_newI (N := 6) C0 w wd_93 (by decide) (by decide) (by decide) (Nat.le_of_ble_eq_true rfl) (Nat.le_of_ble_eq_true rfl) d_A_init_15 (fun q2 H w => ?_)
  refine W.cs (cells' := 2) (slots' := 22) rfl rfl ?_
  have w : Wd D A s ([eO h 6 [.null, .null, .null, .null, .int 0, .ref q1, .null, .null, .null, .int 0, .null, .int 0, .int 0, .int 0]] ++ ([eI q1 (ct 0) 16] ++ [eI q2 (ct 0) 6])) H _ := w.assoc'
  refine R_putF C0 w 0 rfl rfl inA tyA_ok nmA 6 (by decide) wd_297 rfl hin rfl rfl rfl (Nat.le_of_ble_eq_true rfl) d_A_init_17 (fun H locs w => ?_)
  have w : Wd D A s ([eO h 6 [.null, .null, .null, .null, .int 0, .ref q1, .ref q2, .null, .null, .int 0, .null, .int 0, .int 0, .int 0]] ++ ([eI q1 (ct 0) 16] ++ [eI q2 (ct 0) 6])) H _ := w
  refine lv_aload_n hx hb d_A_init_20 rfl (lv_at hl 0 rfl) ?_
  refine lv_bipush (v := 126) hx hb d_A_init_21 (by decide) ?_
  refine R_newI (N := 126) C0 w wd_93 (by decide) (by decide) (by decide) (Nat.le_of_ble_eq_true rfl) (Nat.le_of_ble_eq_true rfl) d_A_init_23 (fun q3 H w => ?_)
  refine W.cs (cells' := 3) (slots' := 148) rfl rfl ?_
  have w : Wd D A s ([eO h 6 [.null, .null, .null, .null, .int 0, .ref q1, .ref q2, .null, .null, .int 0, .null, .int 0, .int 0, .int 0]] ++ (([eI q1 (ct 0) 16] ++ [eI q2 (ct 0) 6]) ++ [eI q3 (ct 0) 126])) H _ := w.assoc'
  refine R_putF C0 w 0 rfl rfl inA tyA_ok nmA 7 (by decide) wd_298 rfl hin rfl rfl rfl (Nat.le_of_ble_eq_true rfl) d_A_init_25 (fun H locs w => ?_)
  have w : Wd D A s ([eO h 6 [.null, .null, .null, .null, .int 0, .ref q1, .ref q2, .ref q3, .null, .int 0, .null, .int 0, .int 0, .int 0]] ++ (([eI q1 (ct 0) 16] ++ [eI q2 (ct 0) 6]) ++ [eI q3 (ct 0) 126])) H _ := w
  refine lv_aload_n hx hb d_A_init_28 rfl (lv_at hl 0 rfl) ?_
  refine lv_bipush (v := 6) hx hb d_A_init_29 (by decide) ?_
  refine R_newI (N := 6) C0 w wd_93 (by decide) (by decide) (by decide) (Nat.le_of_ble_eq_true rfl) (Nat.le_of_ble_eq_true rfl) d_A_init_31 (fun q4 H w => ?_)
  refine W.cs (cells' := 4) (slots' := 154) rfl rfl ?_
  have w : Wd D A s ([eO h 6 [.null, .null, .null, .null, .int 0, .ref q1, .ref q2, .ref q3, .null, .int 0, .null, .int 0, .int 0, .int 0]] ++ ((([eI q1 (ct 0) 16] ++ [eI q2 (ct 0) 6]) ++ [eI q3 (ct 0) 126]) ++ [eI q4 (ct 0) 6])) H _ := w.assoc'
  refine R_putF C0 w 0 rfl rfl inA tyA_ok nmA 8 (by decide) wd_299 rfl hin rfl rfl rfl (Nat.le_of_ble_eq_true rfl) d_A_init_33 (fun H locs w => ?_)
  have w : Wd D A s ([eO h 6 [.null, .null, .null, .null, .int 0, .ref q1, .ref q2, .ref q3, .ref q4, .int 0, .null, .int 0, .int 0, .int 0]] ++ ((([eI q1 (ct 0) 16] ++ [eI q2 (ct 0) 6]) ++ [eI q3 (ct 0) 126]) ++ [eI q4 (ct 0) 6])) H _ := w
  refine lv_aload_n hx hb d_A_init_36 rfl (lv_at hl 0 rfl) ?_
  refine lv_bipush (v := 40) hx hb d_A_init_37 (by decide) ?_
  refine R_newI (N := 40) C0 w wd_93 (by decide) (by decide) (by decide) (Nat.le_of_ble_eq_true rfl) (Nat.le_of_ble_eq_true rfl) d_A_init_39 (fun q5 H w => ?_)
  refine W.cs (cells' := 5) (slots' := 194) rfl rfl ?_
  have w : Wd D A s ([eO h 6 [.null, .null, .null, .null, .int 0, .ref q1, .ref q2, .ref q3, .ref q4, .int 0, .null, .int 0, .int 0, .int 0]] ++ (((([eI q1 (ct 0) 16] ++ [eI q2 (ct 0) 6]) ++ [eI q3 (ct 0) 126]) ++ [eI q4 (ct 0) 6]) ++ [eI q5 (ct 0) 40])) H _ := w.assoc'
  refine R_putF C0 w 0 rfl rfl inA tyA_ok nmA 10 (by decide) wd_302 rfl hin rfl rfl rfl (Nat.le_of_ble_eq_true rfl) d_A_init_41 (fun H locs w => ?_)
  have w : Wd D A s ([eO h 6 [.null, .null, .null, .null, .int 0, .ref q1, .ref q2, .ref q3, .ref q4, .int 0, .ref q5, .int 0, .int 0, .int 0]] ++ (((([eI q1 (ct 0) 16] ++ [eI q2 (ct 0) 6]) ++ [eI q3 (ct 0) 126]) ++ [eI q4 (ct 0) 6]) ++ [eI q5 (ct 0) 40])) H _ := w
  refine lv_aload_n hx hb d_A_init_44 rfl (lv_at hl 0 rfl) ?_
  refine lv_aload_n hx hb d_A_init_45 rfl (lv_at hl 1 rfl) ?_
  refine R_putF C0 w 0 rfl rfl inA tyA_ok nmA 0 (by decide) wd_290 rfl hin rfl rfl rfl (Nat.le_of_ble_eq_true rfl) d_A_init_46 (fun H locs w => ?_)
  have w : Wd D A s ([eO h 6 [.ref a1, .null, .null, .null, .int 0, .ref q1, .ref q2, .ref q3, .ref q4, .int 0, .ref q5, .int 0, .int 0, .int 0]] ++ (((([eI q1 (ct 0) 16] ++ [eI q2 (ct 0) 6]) ++ [eI q3 (ct 0) 126]) ++ [eI q4 (ct 0) 6]) ++ [eI q5 (ct 0) 40])) H _ := w
  refine lv_aload_n hx hb d_A_init_49 rfl (lv_at hl 0 rfl) ?_
  refine lv_aload_n hx hb d_A_init_50 rfl (lv_at hl 2 rfl) ?_
  refine R_putF C0 w 0 rfl rfl inA tyA_ok nmA 1 (by decide) wd_291 rfl hin rfl rfl rfl (Nat.le_of_ble_eq_true rfl) d_A_init_51 (fun H locs w => ?_)
  have w : Wd D A s ([eO h 6 [.ref a1, .ref a2, .null, .null, .int 0, .ref q1, .ref q2, .ref q3, .ref q4, .int 0, .ref q5, .int 0, .int 0, .int 0]] ++ (((([eI q1 (ct 0) 16] ++ [eI q2 (ct 0) 6]) ++ [eI q3 (ct 0) 126]) ++ [eI q4 (ct 0) 6]) ++ [eI q5 (ct 0) 40])) H _ := w
  refine lv_aload_n hx hb d_A_init_54 rfl (lv_at hl 0 rfl) ?_
  refine lv_aload_n hx hb d_A_init_55 rfl (lv_at hl 3 rfl) ?_
  refine R_putF C0 w 0 rfl rfl inA tyA_ok nmA 2 (by decide) wd_292 rfl hin rfl rfl rfl (Nat.le_of_ble_eq_true rfl) d_A_init_56 (fun H locs w => ?_)
  have w : Wd D A s ([eO h 6 [.ref a1, .ref a2, .ref a3, .null, .int 0, .ref q1, .ref q2, .ref q3, .ref q4, .int 0, .ref q5, .int 0, .int 0, .int 0]] ++ (((([eI q1 (ct 0) 16] ++ [eI q2 (ct 0) 6]) ++ [eI q3 (ct 0) 126]) ++ [eI q4 (ct 0) 6]) ++ [eI q5 (ct 0) 40])) H _ := w
  refine lv_aload_n hx hb d_A_init_59 rfl (lv_at hl 0 rfl) ?_
  refine lv_aload hx hb d_A_init_60 (lv_at hl 4 rfl) ?_
  refine R_putF C0 w 0 rfl rfl inA tyA_ok nmA 3 (by decide) wd_293 rfl hin rfl rfl rfl (Nat.le_of_ble_eq_true rfl) d_A_init_62 (fun H locs w => ?_)
  have w : Wd D A s ([eO h 6 [.ref a1, .ref a2, .ref a3, .ref a4, .int 0, .ref q1, .ref q2, .ref q3, .ref q4, .int 0, .ref q5, .int 0, .int 0, .int 0]] ++ (((([eI q1 (ct 0) 16] ++ [eI q2 (ct 0) 6]) ++ [eI q3 (ct 0) 126]) ++ [eI q4 (ct 0) 6]) ++ [eI q5 (ct 0) 40])) H _ := w
  exact hret _ _ _ _ d_A_init_65 w.2.2.1 (fun t ht => ⟨fun k => [0, 0, 0, 0, 0, q1, q2, q3, q4, 0, q5, 0, 0, 0].getD k 0, by rw [ht]; exact w.1, w.2.1⟩)
