section LOOP
variable {p : Program} {l : Launch} {e : Env} {s : State} {m : MethodId} {below : List Frame} {meth : Method} {c : Code} {b L : Nat} {xs : Nat → Int32} {D : va_G} {ct : Nat → ClassId} {Inv : Sto → Sto → Prop} {cmp : Nat → Prop} {qx qr : Nat → Nat} {o : Nat}
set_option maxHeartbeats 4000000 in
set_option maxRecDepth 100000 in
theorem law_loop (C0 : Cx p s m #[Value.ref b] c code 7 "NameForgeLaw" D ct) (hL : L ≤ 3072) (hX : va_X b L xs s s.heap) (hbl : b < s.heap.size) (hr : meth.sig.returnType = ret) (hlk : meth.locks = false) (htl : l.stackTraces = false) (hS : Steps Inv cmp) (hcmp : cmp 0 ∧ cmp 1 ∧ cmp 2 ∧ cmp 3 ∧ cmp 4 ∧ cmp 6 ∧ cmp 7 ∧ cmp 8 ∧ cmp 9 ∧ cmp 10 ∧ cmp 11 ∧ cmp 13 ∧ cmp 14 ∧ cmp 15 ∧ cmp 16) : ∀ (k n : Nat) (MX MR : Sto) (f : Nat → Int64) (H : Heap) (locs : List Loc) (ls : Array Slot), L < 6 * (n + k) + 6 → 6 * n ≤ L + 6 → Inv MX MR → Wd D (lA s) s (wR ct qr MR ++ ([(o, .inl (ct 2, 1, .inr (.inl f)))] ++ wX ct qx MX)) H locs → lv_has ls 7 [(4, .int (Int32.ofNat (6 * n))), (3, .ref o), (2, .ref (qr 0)), (1, .ref (qx 0)), (0, .ref b)] → W p l e room_1 s m #[Value.ref b] below meth c H locs (165 + n) (3470 + 6 * n) (lw_Z below #[Value.ref b] s) (F0 m 23 ls []) := by
  have hx := C0.1
  have hb := C0.2.1
  have hbA : ¬ lA s b := fun h => absurd hbl (Nat.not_lt.mpr h)
  intro k
  induction k with
  | zero =>
    intro n MX MR f H locs ls hk hn hI w hl
    refine lv_iload hx hb d_L_law_23 (lv_at hl 0 rfl) ?_
    refine lv_aload_n hx hb d_L_law_25 rfl (lv_at hl 4 rfl) ?_
    refine va_slen hx hb hX hbl hbA w.2.2.1 d_L_law_26 ?_
    refine lv_bipush (v := 6) hx hb d_L_law_27 (by decide) ?_
    refine lv_isub hx hb d_L_law_29 ?_
    refine lv_icmp_gt (tgt := 999) hx hb d_L_law_30 (by decide) (fun hc => ?_) (fun hc => ?_)
    · refine lv_iconst (v := 1) hx hb d_L_law_999 (by decide) ?_
      refine va_forget (fun q hq => w.2.2.1.2.2 q hq) ?_
      refine W.widen (k := 601024) (n := 7293034) (by omega) (by omega) ?_
      exact lw_ret hx hb hr hlk d_L_law_1000
    · have hgo := ixgo (by omega) hL hc
      omega
  | succ k ih =>
    intro n MX MR f H locs ls hk hn hI w hl
    refine lv_iload hx hb d_L_law_23 (lv_at hl 0 rfl) ?_
    refine lv_aload_n hx hb d_L_law_25 rfl (lv_at hl 4 rfl) ?_
    refine va_slen hx hb hX hbl hbA w.2.2.1 d_L_law_26 ?_
    refine lv_bipush (v := 6) hx hb d_L_law_27 (by decide) ?_
    refine lv_isub hx hb d_L_law_29 ?_
    refine lv_icmp_gt (tgt := 999) hx hb d_L_law_30 (by decide) (fun hc => ?_) (fun hc => ?_)
    · refine lv_iconst (v := 1) hx hb d_L_law_999 (by decide) ?_
      refine va_forget (fun q hq => w.2.2.1.2.2 q hq) ?_
      refine W.widen (k := 601024) (n := 7293034) (by omega) (by omega) ?_
      exact lw_ret hx hb hr hlk d_L_law_1000
    · have hgo := ixgo (by omega) hL hc
      have hj : ∀ j : Nat, j < 6 → vp_in (Int32.ofNat (6 * n) + Int32.ofNat j) L := fun j hj => ixin hgo hL hj
      have hcs : 165 + n + 1 ≤ room_1.cells := by show 165 + n + 1 ≤ 601024; omega
      have hss : 3470 + 6 * n + 6 ≤ room_1.slots := by show 3470 + 6 * n + 6 ≤ 7293034; omega
      have KK : ∀ (MX MR : Sto) (f : Nat → Int64) (H : Heap) (locs : List Loc) (ls : Array Slot), Inv MX MR → Wd D (lA s) s (wR ct qr MR ++ ([(o, .inl (ct 2, 1, .inr (.inl f)))] ++ wX ct qx MX)) H locs → lv_has ls 7 [(4, .int (Int32.ofNat (6 * n))), (3, .ref o), (2, .ref (qr 0)), (1, .ref (qx 0)), (0, .ref b)] → W p l e room_1 s m #[Value.ref b] below meth c H locs (165 + n + 1) (3470 + 6 * n + 6) (lw_Z below #[Value.ref b] s) (F0 m 993 ls []) := by
        intro MX MR f H locs ls hI w hl
        refine lv_iinc (k := 0) (v := Int32.ofNat (6 * n) + 6) hx hb d_L_law_993 hl rfl (show Int32.ofNat (6 * n) + Int32.ofInt 6 = Int32.ofNat (6 * n) + 6 from congrArg (Int32.ofNat (6 * n) + ·) (show Int32.ofInt 6 = 6 by decide)) (by decide) rfl (fun ls hl => ?_)
        have hl : lv_has ls 7 [(4, .int (Int32.ofNat (6 * n) + 6)), (3, .ref o), (2, .ref (qr 0)), (1, .ref (qx 0)), (0, .ref b)] := hl
        rw [ixnext n] at hl
        refine lv_goto (tgt := 23) hx hb d_L_law_996 (by decide) ?_
        refine W.cs (cells' := 165 + (n + 1)) (slots' := 3470 + 6 * (n + 1)) (by omega) (by omega) ?_
        exact ih (n + 1) MX MR f H locs ls (by omega) (by omega) hI w hl
      refine lv_aload_n hx hb d_L_law_33 rfl (lv_at hl 4 rfl) ?_
      refine lv_iload hx hb d_L_law_34 (lv_at hl 0 rfl) ?_
      refine va_sld hx hb hX hbl hbA w.2.2.1 (by have h0 := ixin (j := 0) hgo hL (by decide); rw [← Int32.ofNat_add] at h0; exact h0) d_L_law_36 ?_
      refine lv_bipush (v := 31) hx hb d_L_law_37 (by decide) ?_
      refine lv_iand hx hb d_L_law_39 ?_
      obtain ⟨j9, hj9, e9⟩ := pk_andE (xs (Int32.ofNat (6 * n)).toNatClampNeg) (m := 31) 5 (by decide)
      refine lv_cst e9 ?_
      have hd9 : j9 = 0 ∨ j9 = 1 ∨ j9 = 2 ∨ j9 = 3 ∨ j9 = 4 ∨ j9 = 5 ∨ j9 = 6 ∨ j9 = 7 ∨ j9 = 8 ∨ j9 = 9 ∨ j9 = 10 ∨ j9 = 11 ∨ j9 = 12 ∨ j9 = 13 ∨ j9 = 14 ∨ j9 = 15 ∨ j9 = 16 ∨ j9 = 17 ∨ j9 = 18 ∨ j9 = 19 ∨ j9 = 20 ∨ j9 = 21 ∨ j9 = 22 ∨ j9 = 23 ∨ j9 = 24 ∨ j9 = 25 ∨ j9 = 26 ∨ j9 = 27 ∨ j9 = 28 ∨ j9 = 29 ∨ j9 = 30 ∨ j9 = 31 := by omega
      rcases hd9 with rfl | rfl | rfl | rfl | rfl | rfl | rfl | rfl | rfl | rfl | rfl | rfl | rfl | rfl | rfl | rfl | rfl | rfl | rfl | rfl | rfl | rfl | rfl | rfl | rfl | rfl | rfl | rfl | rfl | rfl | rfl | rfl
      · exact lv_tableIn (off := 84) (tgt := 124) hx hb d_L_law_40 (by decide +kernel) (by decide +kernel) (by decide +kernel) (by decide +kernel) (law_case0 C0 hX hbl hr hlk htl hS hj hI hcs hss hcmp.1 KK w hl)
      · exact lv_tableIn (off := 128) (tgt := 168) hx hb d_L_law_40 (by decide +kernel) (by decide +kernel) (by decide +kernel) (by decide +kernel) (law_case1 C0 hX hbl hr hlk htl hS hj hI hcs hss hcmp.2.1 KK w hl)
      · exact lv_tableIn (off := 232) (tgt := 272) hx hb d_L_law_40 (by decide +kernel) (by decide +kernel) (by decide +kernel) (by decide +kernel) (law_case2 C0 hX hbl hr hlk htl hS hj hI hcs hss hcmp.2.2.1 KK w hl)
      · exact lv_tableIn (off := 280) (tgt := 320) hx hb d_L_law_40 (by decide +kernel) (by decide +kernel) (by decide +kernel) (by decide +kernel) (law_case3 C0 hX hbl hr hlk htl hS hj hI hcs hss hcmp.2.2.2.1 KK w hl)
      · exact lv_tableIn (off := 352) (tgt := 392) hx hb d_L_law_40 (by decide +kernel) (by decide +kernel) (by decide +kernel) (by decide +kernel) (law_case4 C0 hX hbl hr hlk htl hS hj hI hcs hss hcmp.2.2.2.2.1 KK w hl)
      · exact lv_tableIn (off := 388) (tgt := 428) hx hb d_L_law_40 (by decide +kernel) (by decide +kernel) (by decide +kernel) (by decide +kernel) (law_case5 C0 hX hbl hr hlk htl hS hj hI hcs hss KK w hl)
      · exact lv_tableIn (off := 399) (tgt := 439) hx hb d_L_law_40 (by decide +kernel) (by decide +kernel) (by decide +kernel) (by decide +kernel) (law_case6 C0 hX hbl hr hlk htl hS hj hI hcs hss hcmp.2.2.2.2.2.1 KK w hl)
      · exact lv_tableIn (off := 443) (tgt := 483) hx hb d_L_law_40 (by decide +kernel) (by decide +kernel) (by decide +kernel) (by decide +kernel) (law_case7 C0 hX hbl hr hlk htl hS hj hI hcs hss hcmp.2.2.2.2.2.2.1 KK w hl)
      · exact lv_tableIn (off := 511) (tgt := 551) hx hb d_L_law_40 (by decide +kernel) (by decide +kernel) (by decide +kernel) (by decide +kernel) (law_case8 C0 hX hbl hr hlk htl hS hj hI hcs hss hcmp.2.2.2.2.2.2.2.1 KK w hl)
      · exact lv_tableIn (off := 591) (tgt := 631) hx hb d_L_law_40 (by decide +kernel) (by decide +kernel) (by decide +kernel) (by decide +kernel) (law_case9 C0 hX hbl hr hlk htl hS hj hI hcs hss hcmp.2.2.2.2.2.2.2.2.1 KK w hl)
      · exact lv_tableIn (off := 671) (tgt := 711) hx hb d_L_law_40 (by decide +kernel) (by decide +kernel) (by decide +kernel) (by decide +kernel) (law_case10 C0 hX hbl hr hlk htl hS hj hI hcs hss hcmp.2.2.2.2.2.2.2.2.2.1 KK w hl)
      · exact lv_tableIn (off := 739) (tgt := 779) hx hb d_L_law_40 (by decide +kernel) (by decide +kernel) (by decide +kernel) (by decide +kernel) (law_case11 C0 hX hbl hr hlk htl hS hj hI hcs hss hcmp.2.2.2.2.2.2.2.2.2.2.1 KK w hl)
      · exact lv_tableIn (off := 764) (tgt := 804) hx hb d_L_law_40 (by decide +kernel) (by decide +kernel) (by decide +kernel) (by decide +kernel) (law_case12 C0 hX hbl hr hlk htl hS hj hI hcs hss KK w hl)
      · exact lv_tableIn (off := 775) (tgt := 815) hx hb d_L_law_40 (by decide +kernel) (by decide +kernel) (by decide +kernel) (by decide +kernel) (law_case13 C0 hX hbl hr hlk htl hS hj hI hcs hss hcmp.2.2.2.2.2.2.2.2.2.2.2.1 KK w hl)
      · exact lv_tableIn (off := 859) (tgt := 899) hx hb d_L_law_40 (by decide +kernel) (by decide +kernel) (by decide +kernel) (by decide +kernel) (law_case14 C0 hX hbl hr hlk htl hS hj hI hcs hss hcmp.2.2.2.2.2.2.2.2.2.2.2.2.1 KK w hl)
      · exact lv_tableIn (off := 872) (tgt := 912) hx hb d_L_law_40 (by decide +kernel) (by decide +kernel) (by decide +kernel) (by decide +kernel) (law_case15 C0 hX hbl hr hlk htl hS hj hI hcs hss hcmp.2.2.2.2.2.2.2.2.2.2.2.2.2.1 KK w hl)
      · exact lv_tableIn (off := 928) (tgt := 968) hx hb d_L_law_40 (by decide +kernel) (by decide +kernel) (by decide +kernel) (by decide +kernel) (law_case16 C0 hX hbl hr hlk htl hS hj hI hcs hss hcmp.2.2.2.2.2.2.2.2.2.2.2.2.2.2 KK w hl)
      · refine lv_tableOut (tgt := 993) hx hb d_L_law_40 (by decide +kernel) (by decide +kernel) ?_
        refine W.widen (k := 165 + n + 1) (n := 3470 + 6 * n + 6) (by omega) (by omega) ?_
        exact KK MX MR f H locs _ hI w hl
      · refine lv_tableOut (tgt := 993) hx hb d_L_law_40 (by decide +kernel) (by decide +kernel) ?_
        refine W.widen (k := 165 + n + 1) (n := 3470 + 6 * n + 6) (by omega) (by omega) ?_
        exact KK MX MR f H locs _ hI w hl
      · refine lv_tableOut (tgt := 993) hx hb d_L_law_40 (by decide +kernel) (by decide +kernel) ?_
        refine W.widen (k := 165 + n + 1) (n := 3470 + 6 * n + 6) (by omega) (by omega) ?_
        exact KK MX MR f H locs _ hI w hl
      · refine lv_tableOut (tgt := 993) hx hb d_L_law_40 (by decide +kernel) (by decide +kernel) ?_
        refine W.widen (k := 165 + n + 1) (n := 3470 + 6 * n + 6) (by omega) (by omega) ?_
        exact KK MX MR f H locs _ hI w hl
      · refine lv_tableOut (tgt := 993) hx hb d_L_law_40 (by decide +kernel) (by decide +kernel) ?_
        refine W.widen (k := 165 + n + 1) (n := 3470 + 6 * n + 6) (by omega) (by omega) ?_
        exact KK MX MR f H locs _ hI w hl
      · refine lv_tableOut (tgt := 993) hx hb d_L_law_40 (by decide +kernel) (by decide +kernel) ?_
        refine W.widen (k := 165 + n + 1) (n := 3470 + 6 * n + 6) (by omega) (by omega) ?_
        exact KK MX MR f H locs _ hI w hl
      · refine lv_tableOut (tgt := 993) hx hb d_L_law_40 (by decide +kernel) (by decide +kernel) ?_
        refine W.widen (k := 165 + n + 1) (n := 3470 + 6 * n + 6) (by omega) (by omega) ?_
        exact KK MX MR f H locs _ hI w hl
      · refine lv_tableOut (tgt := 993) hx hb d_L_law_40 (by decide +kernel) (by decide +kernel) ?_
        refine W.widen (k := 165 + n + 1) (n := 3470 + 6 * n + 6) (by omega) (by omega) ?_
        exact KK MX MR f H locs _ hI w hl
      · refine lv_tableOut (tgt := 993) hx hb d_L_law_40 (by decide +kernel) (by decide +kernel) ?_
        refine W.widen (k := 165 + n + 1) (n := 3470 + 6 * n + 6) (by omega) (by omega) ?_
        exact KK MX MR f H locs _ hI w hl
      · refine lv_tableOut (tgt := 993) hx hb d_L_law_40 (by decide +kernel) (by decide +kernel) ?_
        refine W.widen (k := 165 + n + 1) (n := 3470 + 6 * n + 6) (by omega) (by omega) ?_
        exact KK MX MR f H locs _ hI w hl
      · refine lv_tableOut (tgt := 993) hx hb d_L_law_40 (by decide +kernel) (by decide +kernel) ?_
        refine W.widen (k := 165 + n + 1) (n := 3470 + 6 * n + 6) (by omega) (by omega) ?_
        exact KK MX MR f H locs _ hI w hl
      · refine lv_tableOut (tgt := 993) hx hb d_L_law_40 (by decide +kernel) (by decide +kernel) ?_
        refine W.widen (k := 165 + n + 1) (n := 3470 + 6 * n + 6) (by omega) (by omega) ?_
        exact KK MX MR f H locs _ hI w hl
      · refine lv_tableOut (tgt := 993) hx hb d_L_law_40 (by decide +kernel) (by decide +kernel) ?_
        refine W.widen (k := 165 + n + 1) (n := 3470 + 6 * n + 6) (by omega) (by omega) ?_
        exact KK MX MR f H locs _ hI w hl
      · refine lv_tableOut (tgt := 993) hx hb d_L_law_40 (by decide +kernel) (by decide +kernel) ?_
        refine W.widen (k := 165 + n + 1) (n := 3470 + 6 * n + 6) (by omega) (by omega) ?_
        exact KK MX MR f H locs _ hI w hl
      · refine lv_tableOut (tgt := 993) hx hb d_L_law_40 (by decide +kernel) (by decide +kernel) ?_
        refine W.widen (k := 165 + n + 1) (n := 3470 + 6 * n + 6) (by omega) (by omega) ?_
        exact KK MX MR f H locs _ hI w hl
end LOOP
set_option maxHeartbeats 4000000 in
set_option maxRecDepth 100000 in
theorem whole_start {p : Program} {e : Env} {s : State} {m : MethodId} {below : List Frame} {meth : Method} {c : Code} (l : Launch) {b L : Nat} {xs : Nat → Int32} (hL : L ≤ 3072) (htl : l.stackTraces = false) {Inv : Sto → Sto → Prop} {cmp : Nat → Prop} (hS : Steps Inv cmp) (hcmp : cmp 0 ∧ cmp 1 ∧ cmp 2 ∧ cmp 3 ∧ cmp 4 ∧ cmp 6 ∧ cmp 7 ∧ cmp 8 ∧ cmp 9 ∧ cmp 10 ∧ cmp 11 ∧ cmp 13 ∧ cmp 14 ∧ cmp 15 ∧ cmp 16) (hI0 : Inv M0 M0) (Y0 : lw_At p s m meth c b L xs) : W p l e room_1 s m #[Value.ref b] below meth c s.heap [] 0 0 (lw_Z below #[Value.ref b] s) (entryFrame m ([Value.ref b] : List Value).toArray 7) := by
  obtain ⟨hx, hb, hr, hml, hown, hts, hX, hbl, hlk, hgv⟩ := Y0
  obtain ⟨D, ct, hK, hKx⟩ := law_known hts hgv
  have C0 : Cx p s m #[Value.ref b] c code 7 "NameForgeLaw" D ct := ⟨hx, hb, hml, hown, fun w hw => hts w (wT_tbl w hw), hK, hKx⟩
  have w : Wd D (lA s) s [] s.heap [] := ⟨fun k q hk => (by cases hk), ⟨fun i j p q hi => (by cases hi), fun k q hk => (by cases hk)⟩, va_S.rf, fun q h => h, fun q cell h1 _ h3 => absurd (Array.getElem?_eq_some_iff.mp h1).1 (Nat.not_lt.mpr h3)⟩
  have hl := lv_entry ([Value.ref b]) (n := 7) (Nat.le_of_ble_eq_true rfl)
  rw [lg_entry_eq]
  generalize (lg_sl ([Value.ref b]) ++ List.replicate (7 - (lg_sl ([Value.ref b])).length) Slot.unset).toArray = ls at hl ⊢
  have hl : lv_has ls 7 [(0, .ref b)] := hl
  refine R_new C0 w (ci := 0) rfl inN tyN_ok wd_17 wd_18 wd_1 bornN (Nat.le_of_ble_eq_true rfl) (Nat.le_of_ble_eq_true rfl) d_L_law_0 (fun o1 H w => ?_)
  refine W.cs (cells' := 1) (slots' := 7) rfl rfl ?_
  have w : Wd D (lA s) s ([] ++ [(o1, .inr (0, [.null, .null, .null, .null, .null, .null, .int 0]))]) H _ := w
  refine lv_dup hx hb d_L_law_3 rfl ?_
  refine S_iv C0 w (rest := [.ref o1]) (c_N_init l D ct o1) wd_21 wd_19 wd_20 wd_1 rfl (n9 := 0) (by decide +kernel) rfl ⟨(Nat.le_of_ble_eq_true rfl), (Nat.le_of_ble_eq_true rfl)⟩ hl.1 rfl (Nat.le_of_ble_eq_true rfl) d_L_law_4 (Nat.le_of_ble_eq_true rfl) (Nat.le_of_ble_eq_true rfl) (fun t9 H locs ht9 hB9 hj9 => ?_)
  obtain ⟨qx, hq9, hE9⟩ := hB9
  subst hq9
  have w := hj9 _ hE9
  refine W.cs (cells' := 133) (slots' := 1924) rfl rfl ?_
  have w : Wd D (lA s) s (wX ct qx M0) H _ := w
  refine lv_astore_n hx hb d_L_law_7 rfl hl (by decide) rfl (fun ls hl => ?_)
  have hl : lv_has ls 7 [(1, .ref (qx 0)), (0, .ref b)] := hl
  refine R_new C0 w (ci := 7) rfl inR tyR_ok wd_822 wd_823 wd_8 bornR (Nat.le_of_ble_eq_true rfl) (Nat.le_of_ble_eq_true rfl) d_L_law_8 (fun o2 H w => ?_)
  refine W.cs (cells' := 134) (slots' := 1965) rfl rfl ?_
  refine lv_dup hx hb d_L_law_11 rfl ?_
  refine S_iv C0 w (rest := [.ref o2]) (c_R_init l D ct o2) wd_826 wd_824 wd_825 wd_8 rfl (n9 := 0) (by decide +kernel) rfl ⟨(Nat.le_of_ble_eq_true rfl), (Nat.le_of_ble_eq_true rfl)⟩ hl.1 rfl (Nat.le_of_ble_eq_true rfl) d_L_law_12 (Nat.le_of_ble_eq_true rfl) (Nat.le_of_ble_eq_true rfl) (fun t9 H locs ht9 hB9 hj9 => ?_)
  obtain ⟨qr, hq9, hE9⟩ := hB9
  subst hq9
  have w := hj9 _ hE9
  refine W.cs (cells' := 164) (slots' := 3469) rfl rfl ?_
  refine lv_astore_n hx hb d_L_law_15 rfl hl (by decide) rfl (fun ls hl => ?_)
  have hl : lv_has ls 7 [(2, .ref (qr 0)), (1, .ref (qx 0)), (0, .ref b)] := hl
  refine lv_iconst (v := 1) hx hb d_L_law_16 (by decide) ?_
  refine R_newJ (N := 1) C0 w wd_1162 (by decide) (by decide) (by decide) (Nat.le_of_ble_eq_true rfl) (Nat.le_of_ble_eq_true rfl) d_L_law_17 (fun o H w => ?_)
  refine W.cs (cells' := 165 + 0) (slots' := 3470 + 6 * 0) rfl rfl ?_
  have w := w.assoc'.swap
  have w := w.assoc'
  have w := (show Wd D (lA s) s (wR ct qr M0 ++ ([(o, .inl (ct 2, 1, .inr (.inl (fun _ => 0))))] ++ wX ct qx M0)) H _ from w)
  refine lv_astore_n hx hb d_L_law_19 rfl hl (by decide) rfl (fun ls hl => ?_)
  have hl : lv_has ls 7 [(3, .ref o), (2, .ref (qr 0)), (1, .ref (qx 0)), (0, .ref b)] := hl
  refine lv_iconst (v := 0) hx hb d_L_law_20 (by decide) ?_
  refine lv_istore hx hb d_L_law_21 hl (by decide) rfl (fun ls hl => ?_)
  have hl : lv_has ls 7 [(4, .int (Int32.ofNat (6 * 0))), (3, .ref o), (2, .ref (qr 0)), (1, .ref (qx 0)), (0, .ref b)] := hl
  exact law_loop C0 hL hX hbl hr hlk htl hS hcmp (L + 1) 0 M0 M0 _ H _ _ (by omega) (by omega) hI0 w hl
-- ===== YOUR PART ENDS =====
set_option maxHeartbeats 4000000 in
theorem lw_walk {Inv : Sto → Sto → Prop} {cmp : Nat → Prop} (hS : Steps Inv cmp) (hcmp : cmp 0 ∧ cmp 1 ∧ cmp 2 ∧ cmp 3 ∧ cmp 4 ∧ cmp 6 ∧ cmp 7 ∧ cmp 8 ∧ cmp 9 ∧ cmp 10 ∧ cmp 11 ∧ cmp 13 ∧ cmp 14 ∧ cmp 15 ∧ cmp 16) (hI0 : Inv M0 M0) (l : Launch) (htl : l.stackTraces = false) (b : Addr) (xs : List Int32) : MetFree l x (headSpec (Jvm.Cond.code x code maxLocals ret :: tables_1) room_1) (lw_P b xs) (fun _ _ _ _ _ => True) lw_Q := by
  refine MetFree.of_bodyS (code := code) (maxLocals := maxLocals) (ret := ret) (by decide) ?_ ?_
  · intro args s m h hn
    obtain ⟨meth, c, h1, h2, h3, h4, h5, h6, -, -⟩ := Cond.code_spec hn (atoms_spec (ws := Jvm.Cond.code x code maxLocals ret :: tables_1) h _ List.mem_cons_self)
    exact ⟨meth, c, h1, h2, h3, h4, h5, h6⟩
  · intro p e s m args below meth c s₁ B hml0 hP _
    obtain ⟨rfl, hx, hbd, hgv⟩ := hP
    obtain ⟨scr, harrAt, hlist, hof, hsmall⟩ := hx
    obtain ⟨hcb, hkn, -, -⟩ := State.arrayAt?_spec harrAt
    have hown : s.vm.findClass R_law = some m.cls := findClass_of_methodNamed B.named
    have hts0 : ∀ c ∈ (Jvm.Cond.code x code maxLocals ret :: tables_1), c.before #[Value.ref b] s = true := atoms_spec (ws := Jvm.Cond.code x code maxLocals ret :: tables_1) B.pre
    have hts : ∀ w ∈ lw_tbl, w.before #[Value.ref b] s = true := k2_hts_sels lw_privs (fun w hw => hts0 w (List.mem_cons_of_mem _ hw)) lw_privs_ok
    have hml : c.maxLocals = 7 := B.maxLocals_eq (hts0 _ List.mem_cons_self)
    have X₀ : Stand p l e room_1 s m #[Value.ref b] below meth c s₁ [] 0 0 := Stand.of_body B
    have hh0 : s₁.heap = s.heap := by rw [B.state]; rfl
    have hsz : scr.slots.size = xs.length := by rw [← Array.length_toList, hlist, List.length_map]
    have hval : ∀ j : Nat, j < xs.length → scr.slots[j]? = some (.int (xs.getD j 0)) := fun j hj => by
      rw [← Array.getElem?_toList, hlist]
      simp [hj]
    have hbl : b < s.heap.size := (Array.getElem?_eq_some_iff.mp hcb).1
    have hX : va_X b xs.length (fun j => xs.getD j 0) s s.heap := ⟨scr, hcb, hof, hkn, hsz, hval⟩
    have K : W p l e room_1 s m #[Value.ref b] below meth c s₁.heap [] 0 0 (lw_Z below #[Value.ref b] s) (entryFrame m ([Value.ref b] : List Value).toArray 7) := by
      rw [hh0]
      exact whole_start l hbd htl hS hcmp hI0 ⟨B.exec, B.bytes, B.returns, hml, hown, hts, hX, hbl, B.notSynchronized, hgv⟩
    obtain ⟨t, a1, o, b1, b2, b3⟩ := K s₁ rfl X₀
    exact ⟨t, o, a1, b1, b2, b3⟩
theorem lw_pre_spec {args : Array Value} {s : State} (h : (Jvm.Cond.and given_1 narrow_1).before args s = true) (hr : rest_1_c.before args s = true) : ∃ (b : Addr) (xs : List Int32), lw_P b xs args s := by
  have hs := flat_of_before _ h
  have hq := flat_of_before _ hr
  have hc : (Cond.count 1).before args s = true := hs _ (by decide +kernel)
  have harr : (Cond.arrayOf (.arg 0) .int).before args s = true := hs _ (by decide +kernel)
  have hle : (Cond.le (.length (.arg 0)) (.int 3072)).before args s = true := hs _ (by decide +kernel)
  have hlen : (Cond.isInt (.length (.arg 0))).before args s = true := hq _ (by decide +kernel)
  have hall : (Cond.all (.arg 0) (.isInt (.elem (.arg 0) (.index 0)))).before args s = true := hq _ (by decide +kernel)
  obtain ⟨b, xs, hb, hx⟩ := State.ints_of_pre rfl harr hlen hall
  have hsm : xs.length < 2 ^ 31 := hx.choose_spec.2.2.2
  have hev : (Term.length (.arg 0)).eval args s none [] s = some (.int xs.length.toInt32) := hx.length_eval hb
  have hv := Cond.le_ints hev (show (Term.int 3072).eval args s none [] s = some (.int 3072) from rfl)
  have hd : xs.length.toInt32 ≤ 3072 := by
    simpa [Cond.before, Cond.holds, hv] using hle
  have hN : xs.length ≤ 3072 := (Int32.ofNat_le_ofNat hsm (by decide)).mp (show Int32.ofNat xs.length ≤ Int32.ofNat 3072 from hd)
  exact ⟨b, xs, Cond.one_arg hc (show args[0]? = some (.ref b) from hb), hx, hN, h⟩
theorem lw_comes {Inv : Sto → Sto → Prop} {cmp : Nat → Prop} (hS : Steps Inv cmp) (hcmp : cmp 0 ∧ cmp 1 ∧ cmp 2 ∧ cmp 3 ∧ cmp 4 ∧ cmp 6 ∧ cmp 7 ∧ cmp 8 ∧ cmp 9 ∧ cmp 10 ∧ cmp 11 ∧ cmp 13 ∧ cmp 14 ∧ cmp 15 ∧ cmp 16) (hI0 : Inv M0 M0) (l : Launch) (htl : l.stackTraces = false) : Comes l x (Jvm.Cond.code x code maxLocals ret :: tables_1) room_1 (fun tb e args s => Calls_1 tb e args s ∧ rest_1 tb e args s ∧ Pre_1 tb e args s)
    (fun _ _ args s o t => lw_Q args s o t) := by
  intro p e ha hc hk s m args below hf hfit hheap happ hpre
  obtain ⟨b, xs, hP⟩ := lw_pre_spec hpre.2.2 hpre.2.1
  obtain ⟨k, o, h1, h2, h3, hQ⟩ := lw_walk hS hcmp hI0 l htl b xs p e ha hc hk s m args below hf ((Spec.applies_iff_loose hf).mp happ).1 hP trivial
  exact ⟨k, o, h1, h2, h3, hQ⟩
theorem lw_frame {s t : State} {o : Outcome} {args : Array Value} (h : Framed s o t [] 601024 7293034) :
    Framed s o t (fieldLocs frame_1_writes args s ++ arrayLocs frame_1_arrays args s ++ staticLocs frame_1_statics s) 601024 7293034 := h
theorem lw_limb {Inv : Sto → Sto → Prop} {cmp : Nat → Prop} (hS : Steps Inv cmp) (hcmp : cmp 0 ∧ cmp 1 ∧ cmp 2 ∧ cmp 3 ∧ cmp 4 ∧ cmp 6 ∧ cmp 7 ∧ cmp 8 ∧ cmp 9 ∧ cmp 10 ∧ cmp 11 ∧ cmp 13 ∧ cmp 14 ∧ cmp 15 ∧ cmp 16) (hI0 : Inv M0 M0) (L : Cond) (hL : ∀ (args : Array Value) (s t : State), L.after args s (.returned (some (.int 1))) t = true) :
    ArmFor flags0 classFile x code maxLocals ret World_1 tables_1 room_1 Calls_1 rest_1 Pre_1
      (fun tb e a s o t => postC L tb e a s o t ∧ Framed s o t (fieldLocs frame_1_writes a s ++ arrayLocs frame_1_arrays a s ++ staticLocs frame_1_statics s) 601024 7293034) := by
  intro l hfl _ _ p e ha hc hk s m args below hf hfit hheap happ hpre
  have htl : l.stackTraces = false := by rw [Launch.stackTraces, hfl]; decide
  obtain ⟨k, o, h1, h2, h3, rfl, hF⟩ := lw_comes hS hcmp hI0 l htl p e ha hc hk s m args below hf hfit hheap happ hpre
  exact ⟨k, _, h1, h2, h3, hL args s _, lw_frame hF⟩
theorem of_steps {Inv : Sto → Sto → Prop} {cmp : Nat → Prop} (hS : Steps Inv cmp) (hcmp : cmp 0 ∧ cmp 1 ∧ cmp 2 ∧ cmp 3 ∧ cmp 4 ∧ cmp 6 ∧ cmp 7 ∧ cmp 8 ∧ cmp 9 ∧ cmp 10 ∧ cmp 11 ∧ cmp 13 ∧ cmp 14 ∧ cmp 15 ∧ cmp 16) (hI0 : Inv M0 M0) : Claimed_1_1 ∧ Claimed_1_2 := ⟨lw_limb hS hcmp hI0 limb_1_1 (fun args s t => by simp [limb_1_1, Cond.after, Cond.holds, Cond.value]), lw_limb hS hcmp hI0 limb_1_2 (fun args s t => Cond.after_iff.mpr (by
  first | (rw [show limb_1_2 = Cond.eq .result (.int 1) from rfl, Cond.eq_ints (x := 1) (y := 1) rfl rfl]; simp; done) | (simp [limb_1_2, Cond.value, Term.eval]; done)))⟩
