-- ===== end of PART A; then your names; then what follows =====
/-! THE CLAIM OUT OF ONE WALK OF THE LAW'S BODY. Your part is whole_start (and what it stands on); all else here is the same for every law, but numbers. -/
def R_law : String := "NameForgeLaw"
def lw_P (b : Addr) (xs : List Int32) (args : Array Value) (s : State) : Prop := args = #[.ref b] ∧ s.IntsAt b xs ∧ xs.length ≤ 6 ∧ (Jvm.Cond.and given_1 narrow_1).before args s = true
def lw_Q (_ : Array Value) (s : State) (o : Outcome) (t : State) : Prop := o = .returned (some (.int 1)) ∧ Framed s o t [] 600002 7302232
def lw_Z (below : List Frame) (a : Array Value) (s : State) : State → Prop := fun t => ∃ o, t.status = .running ∧ Ended t below o ∧ lw_Q a s o t
/-- the law's own end, with 1 on the stack, nothing written that was there before, its room as the claim has it -/
theorem lw_ret {p : Program} {l : Launch} {e : Env} {s : State} {m : MethodId} {below : List Frame} {meth : Method} {c : Code} {b : Nat} (hx : p.tables.exec = Jvm.exec) (hb : c.code = code) (hr : meth.sig.returnType = ret) (hlocks : meth.locks = false) {pc : Nat} {H : Heap} {ls : Array Slot} (hdg : decode code pc = .ok (.ireturn, 1)) : W p l e room_1 s m #[Value.ref b] below meth c H [] 600002 7302232 (lw_Z below #[Value.ref b] s) (F0 m pc ls [.int 1]) := by
  intro T hT X
  obtain ⟨fs, hret, hrun, hended, hW, hframe⟩ := X.leave (v := some (.int 1)) (hlocks := hlocks) (fun h => by rw [hr] at h; cases h)
  have hmeth' : T.vm.method? m = some meth := X.method'
  refine ⟨T.setFrames fs, ?_, .returned (some (.int 1)), hrun, hended, rfl, ⟨_, rfl⟩, hW, hframe⟩
  jvm_step X.here [X.here.top, hx, hb, hdg, hmeth', hr, ret, narrow_b1]
  (try refine ⟨rfl, ?_⟩); (try refine ⟨rfl, ?_⟩)
  first | (intro acts; rw [hret _ acts rfl rfl rfl]) | rw [hret _ _ rfl rfl rfl]
  exact Steps.refl _
/-- what holds at the law's entry: the machine, the code, the tables' words (any of lw_tbl by 'hts w (by decide +kernel)'), the script of L ints xs at the cell b, what the Statement gives of the start (any of its parts by flat_of_before) -/
def lw_At (p : Program) (s : State) (m : MethodId) (meth : Method) (c : Code) (b L : Nat) (xs : Nat → Int32) : Prop :=
  p.tables.exec = Jvm.exec ∧ c.code = code ∧ meth.sig.returnType = ret ∧ c.maxLocals = 7 ∧ s.vm.findClass R_law = some m.cls ∧ (∀ w ∈ lw_tbl, w.before #[Value.ref b] s = true) ∧ va_X b L xs s s.heap ∧ b < s.heap.size ∧ meth.locks = false ∧ (Jvm.Cond.and given_1 narrow_1).before #[Value.ref b] s = true

abbrev lA (s : State) : Nat → Prop := fun q => s.heap.size ≤ q
section LAW
variable {p : Program} {l : Launch} {e : Env} {s : State} {m : MethodId} {below : List Frame} {meth : Method} {c : Code} {b : Nat} {xs : Nat → Int32} {D : va_G} {cI cB cJ : ClassId} {H : Heap} {locs : List Loc} {ls : Array Slot}
set_option maxHeartbeats 4000000 in
set_option maxRecDepth 100000 in
theorem law_tail {cells slots : Nat} {ws : va_W} (C0 : Cx p s m #[Value.ref b] c code 7 "NameForgeLaw" D cI cB cJ) (hX : va_X b 6 xs s s.heap) (hbl : b < s.heap.size) (hr : meth.sig.returnType = ret) (hlk : meth.locks = false) (htl : l.stackTraces = false) (hcs : cells ≤ 600002) (hss : slots ≤ 7302232) (w : Wd D (lA s) s ws H locs) (hl : lv_has ls 7 [(4, .int 0), (0, .ref b)]) : W p l e room_1 s m #[Value.ref b] below meth c H locs cells slots (lw_Z below #[Value.ref b] s) (F0 m 993 ls []) := by
  have hx := C0.1
  have hb := C0.2.1
  have hbA : ¬ lA s b := fun h => absurd hbl (Nat.not_lt.mpr h)
  refine lv_iinc (k := 0) (v := 6) hx hb d_L_law_993 hl rfl (by decide) (by decide) rfl (fun ls hl => ?_)
  have hl : lv_has ls 7 [(4, .int 6), (0, .ref b)] := hl
  refine lv_goto (tgt := 23) hx hb d_L_law_996 (by decide) ?_
  refine lv_iload hx hb d_L_law_23 (lv_at hl 0 rfl) ?_
  refine lv_aload_n hx hb d_L_law_25 rfl (lv_at hl 1 rfl) ?_
  refine va_slen hx hb hX hbl hbA w.2.2.1 d_L_law_26 ?_
  refine lv_bipush (v := 6) hx hb d_L_law_27 (by decide) ?_
  refine lv_isub hx hb d_L_law_29 ?_
  refine lv_icmp_gt (tgt := 999) hx hb d_L_law_30 (by decide) (fun hc30 => ?_) (fun hc => absurd (by decide +kernel) hc)
  refine lv_iconst (v := 1) hx hb d_L_law_999 (by decide) ?_
  refine va_forget (fun q hq => w.2.2.1.2.2 q hq) ?_
  refine W.widen (k := 600002) (n := 7302232) hcs hss ?_
  exact lw_ret hx hb hr hlk d_L_law_1000
set_option maxHeartbeats 4000000 in
set_option maxRecDepth 100000 in
theorem law_case0 {qm : Nat → Nat} {qn : Nat → Nat} {qp : Nat → Nat} {qr3 : Nat → Nat} {o1 : Nat} {o2 : Nat} {q4 : Nat} (C0 : Cx p s m #[Value.ref b] c code 7 "NameForgeLaw" D cI cB cJ) (hX : va_X b 6 xs s s.heap) (hbl : b < s.heap.size) (hr : meth.sig.returnType = ret) (hlk : meth.locks = false) (htl : l.stackTraces = false) (w : Wd D (lA s) s [(o1, .inr (0, fN 0 qn)), ((qn 0), .inr (1, fP 0 qp)), ((qn 5), .inr (6, fA 0 qm)), ((qp 1), .inl (cI, 10, .inl (fun _ => 0))), ((qp 6), .inl (cI, 10, .inl (fun _ => 0))), ((qp 7), .inl (cI, 10, .inl (fun _ => 0))), ((qp 8), .inl (cI, 10, .inl (fun _ => 0))), ((qp 9), .inl (cI, 10, .inl (fun _ => 0))), ((qm 5), .inl (cI, 16, .inl (fun _ => 0))), (o2, .inr (7, fR 0 0 0 0 qr3)), ((qr3 2), .inl (cI, 10, .inl (fun _ => 0))), ((qr3 7), .inl (cI, 10, .inl (fun _ => 0))), ((qr3 33), .inl (cI, 16, .inl (fun _ => 0))), (q4, .inl (cJ, 1, .inr (.inl (fun _ => 0))))] H locs) (hl : lv_has ls 7 [(4, .int 0), (3, .ref q4), (2, .ref o2), (1, .ref o1), (0, .ref b)]) : W p l e room_1 s m #[Value.ref b] below meth c H locs 165 3470 (lw_Z below #[Value.ref b] s) (F0 m 124 ls []) := by
  have hx := C0.1
  have hb := C0.2.1
  have hbA : ¬ lA s b := fun h => absurd hbl (Nat.not_lt.mpr h)
  refine lv_aload_n hx hb d_L_law_124 rfl (lv_at hl 3 rfl) ?_
  refine lv_aload_n hx hb d_L_law_125 rfl (lv_at hl 1 rfl) ?_
  refine R_sh C0 w (rest := []) (wr := [((qn 5), .inr (6, fA 0 qm)), ((qm 5), .inl (cI, 16, .inl (fun _ => 0))), (o2, .inr (7, fR 0 0 0 0 qr3)), ((qr3 2), .inl (cI, 10, .inl (fun _ => 0))), ((qr3 7), .inl (cI, 10, .inl (fun _ => 0))), ((qr3 33), .inl (cI, 16, .inl (fun _ => 0)))]) (w1 := [(q4, .inl (cJ, 1, .inr (.inl (vp_updL (fun _ => 0) (0 : Int32).toNatClampNeg ((0 : Int32).toInt64)))))]) [0, 1, 3, 4, 5, 6, 7, 13] [2, 8, 9, 10, 11, 12] (c_L_block l D cI cB cJ o1 qn qp q4 htl) rfl rfl rfl rfl (by decide) wd_387 wd_385 wd_386 wd_0 (n9 := 2) (by decide +kernel) rfl ⟨(Nat.le_of_ble_eq_true rfl), (Nat.le_of_ble_eq_true rfl)⟩ hl.1 rfl (Nat.le_of_ble_eq_true rfl) d_L_law_126 (Nat.le_of_ble_eq_true rfl) (Nat.le_of_ble_eq_true rfl) (fun H locs w => ?_)
  refine W.cs (cells' := 166) (slots' := 3476) rfl rfl ?_
  have w : Wd D (lA s) s [((qn 5), .inr (6, fA 0 qm)), ((qm 5), .inl (cI, 16, .inl (fun _ => 0))), (o2, .inr (7, fR 0 0 0 0 qr3)), ((qr3 2), .inl (cI, 10, .inl (fun _ => 0))), ((qr3 7), .inl (cI, 10, .inl (fun _ => 0))), ((qr3 33), .inl (cI, 16, .inl (fun _ => 0))), (q4, .inl (cJ, 1, .inr (.inl (vp_updL (fun _ => 0) (0 : Int32).toNatClampNeg ((0 : Int32).toInt64)))))] H _ := w
  refine lv_istore hx hb d_L_law_129 hl (by decide) rfl (fun ls hl => ?_)
  have hl : lv_has ls 7 [(5, .int 0), (4, .int 0), (3, .ref q4), (2, .ref o2), (1, .ref o1), (0, .ref b)] := hl
  refine lv_aload_n hx hb d_L_law_131 rfl (lv_at hl 3 rfl) ?_
  refine R_vi C0 w (rest := []) (wr := [((qn 5), .inr (6, fA 0 qm)), ((qm 5), .inl (cI, 16, .inl (fun _ => 0))), ((qr3 33), .inl (cI, 16, .inl (fun _ => 0))), (q4, .inl (cJ, 1, .inr (.inl (vp_updL (fun _ => 0) (0 : Int32).toNatClampNeg ((0 : Int32).toInt64)))))]) (w1 := [(o2, .inr (7, fR 0 1 0 0 qr3))]) 2 rfl rfl [2, 3, 4] [0, 1, 5, 6] (c_R_block l D cI cB cJ o2 qr3) rfl rfl rfl rfl (by decide) wd_959 wd_956 wd_957 wd_958 wd_8 (n9 := 0) (by decide +kernel) rfl ⟨(Nat.le_of_ble_eq_true rfl), (Nat.le_of_ble_eq_true rfl)⟩ hl.1 rfl (Nat.le_of_ble_eq_true rfl) d_L_law_132 (Nat.le_of_ble_eq_true rfl) (Nat.le_of_ble_eq_true rfl) (fun H locs w => ?_)
  have w : Wd D (lA s) s [((qn 5), .inr (6, fA 0 qm)), ((qm 5), .inl (cI, 16, .inl (fun _ => 0))), ((qr3 33), .inl (cI, 16, .inl (fun _ => 0))), (q4, .inl (cJ, 1, .inr (.inl (vp_updL (fun _ => 0) (0 : Int32).toNatClampNeg ((0 : Int32).toInt64))))), (o2, .inr (7, fR 0 1 0 0 qr3))] H _ := w
  refine lv_istore hx hb d_L_law_135 hl (by decide) rfl (fun ls hl => ?_)
  have hl : lv_has ls 7 [(6, .int 0), (5, .int 0), (4, .int 0), (3, .ref q4), (2, .ref o2), (1, .ref o1), (0, .ref b)] := hl
  refine lv_aload_n hx hb d_L_law_137 rfl (lv_at hl 4 rfl) ?_
  refine R_ri C0 w (rest := []) 4 rfl rfl [4] (c_thrown l D cI cB cJ o2 qr3 0 1 0 0) rfl rfl wd_955 wd_952 wd_953 wd_954 wd_8 (n9 := 0) (by decide +kernel) rfl ⟨(Nat.le_of_ble_eq_true rfl), (Nat.le_of_ble_eq_true rfl)⟩ hl.1 rfl (Nat.le_of_ble_eq_true rfl) d_L_law_138 (Nat.le_of_ble_eq_true rfl) (Nat.le_of_ble_eq_true rfl) ?_
  refine lv_iload hx hb d_L_law_141 (lv_at hl 1 rfl) ?_
  refine lv_icmp_eq (tgt := 148) hx hb d_L_law_143 (by decide) (fun hc143 => ?_) (fun hc => absurd (by decide) hc)
  refine lv_iload hx hb d_L_law_148 (lv_at hl 1 rfl) ?_
  refine lv_if_ne (tgt := 165) hx hb d_L_law_150 (by decide) (fun hc => absurd (by decide) hc) (fun hc150 => ?_)
  refine lv_aload_n hx hb d_L_law_153 rfl (lv_at hl 3 rfl) ?_
  refine lv_iconst (v := 0) hx hb d_L_law_154 (by decide) ?_
  refine R_lald C0 w 3 rfl (vin (by decide)) d_L_law_155 ?_
  refine lv_iload hx hb d_L_law_156 (lv_at hl 0 rfl) ?_
  refine lv_i2l (v := (0 : Int32).toInt64) hx hb d_L_law_158 rfl ?_
  refine W.lcmp hx hb d_L_law_159 ?_
  refine lv_if_eq (tgt := 165) hx hb d_L_law_160 (by decide) (fun hc160 => ?_) (fun hc => absurd (by decide +kernel) hc)
  refine lv_goto (tgt := 993) hx hb d_L_law_165 (by decide) ?_
  exact law_tail C0 hX hbl hr hlk htl (Nat.le_of_ble_eq_true rfl) (Nat.le_of_ble_eq_true rfl) w (lv_sub hl [2, 6] rfl)
set_option maxHeartbeats 4000000 in
set_option maxRecDepth 100000 in
theorem law_case1 {qm : Nat → Nat} {qn : Nat → Nat} {qp : Nat → Nat} {qr3 : Nat → Nat} {o1 : Nat} {o2 : Nat} {q4 : Nat} (C0 : Cx p s m #[Value.ref b] c code 7 "NameForgeLaw" D cI cB cJ) (hX : va_X b 6 xs s s.heap) (hbl : b < s.heap.size) (hr : meth.sig.returnType = ret) (hlk : meth.locks = false) (htl : l.stackTraces = false) (w : Wd D (lA s) s [(o1, .inr (0, fN 0 qn)), ((qn 0), .inr (1, fP 0 qp)), ((qn 5), .inr (6, fA 0 qm)), ((qp 1), .inl (cI, 10, .inl (fun _ => 0))), ((qp 6), .inl (cI, 10, .inl (fun _ => 0))), ((qp 7), .inl (cI, 10, .inl (fun _ => 0))), ((qp 8), .inl (cI, 10, .inl (fun _ => 0))), ((qp 9), .inl (cI, 10, .inl (fun _ => 0))), ((qm 5), .inl (cI, 16, .inl (fun _ => 0))), (o2, .inr (7, fR 0 0 0 0 qr3)), ((qr3 2), .inl (cI, 10, .inl (fun _ => 0))), ((qr3 7), .inl (cI, 10, .inl (fun _ => 0))), ((qr3 33), .inl (cI, 16, .inl (fun _ => 0))), (q4, .inl (cJ, 1, .inr (.inl (fun _ => 0))))] H locs) (hl : lv_has ls 7 [(4, .int 0), (3, .ref q4), (2, .ref o2), (1, .ref o1), (0, .ref b)]) : W p l e room_1 s m #[Value.ref b] below meth c H locs 165 3470 (lw_Z below #[Value.ref b] s) (F0 m 168 ls []) := by
  have hx := C0.1
  have hb := C0.2.1
  have hbA : ¬ lA s b := fun h => absurd hbl (Nat.not_lt.mpr h)
  refine lv_aload_n hx hb d_L_law_168 rfl (lv_at hl 3 rfl) ?_
  refine lv_aload_n hx hb d_L_law_169 rfl (lv_at hl 4 rfl) ?_
  refine lv_iload hx hb d_L_law_170 (lv_at hl 0 rfl) ?_
  refine lv_iconst (v := 1) hx hb d_L_law_172 (by decide) ?_
  refine lv_iadd hx hb d_L_law_173 ?_
  refine lv_cst (x := 0 + 1) (y := 1) (by decide) ?_
  refine va_sld hx hb hX hbl hbA w.2.2.1 (vin (by decide)) d_L_law_174 ?_
  refine lv_aload_n hx hb d_L_law_175 rfl (lv_at hl 4 rfl) ?_
  refine lv_iload hx hb d_L_law_176 (lv_at hl 0 rfl) ?_
  refine lv_iconst (v := 2) hx hb d_L_law_178 (by decide) ?_
  refine lv_iadd hx hb d_L_law_179 ?_
  refine lv_cst (x := 0 + 2) (y := 2) (by decide) ?_
  refine va_sld hx hb hX hbl hbA w.2.2.1 (vin (by decide)) d_L_law_180 ?_
  refine lv_aload_n hx hb d_L_law_181 rfl (lv_at hl 4 rfl) ?_
  refine lv_iload hx hb d_L_law_182 (lv_at hl 0 rfl) ?_
  refine lv_iconst (v := 3) hx hb d_L_law_184 (by decide) ?_
  refine lv_iadd hx hb d_L_law_185 ?_
  refine lv_cst (x := 0 + 3) (y := 3) (by decide) ?_
  refine va_sld hx hb hX hbl hbA w.2.2.1 (vin (by decide)) d_L_law_186 ?_
  refine lv_aload_n hx hb d_L_law_187 rfl (lv_at hl 4 rfl) ?_
  refine lv_iload hx hb d_L_law_188 (lv_at hl 0 rfl) ?_
  refine lv_iconst (v := 4) hx hb d_L_law_190 (by decide) ?_
  refine lv_iadd hx hb d_L_law_191 ?_
  refine lv_cst (x := 0 + 4) (y := 4) (by decide) ?_
  refine va_sld hx hb hX hbl hbA w.2.2.1 (vin (by decide)) d_L_law_192 ?_
  refine lv_aload_n hx hb d_L_law_193 rfl (lv_at hl 4 rfl) ?_
  refine lv_iload hx hb d_L_law_194 (lv_at hl 0 rfl) ?_
  refine lv_iconst (v := 5) hx hb d_L_law_196 (by decide) ?_
  refine lv_iadd hx hb d_L_law_197 ?_
  refine lv_cst (x := 0 + 5) (y := 5) (by decide) ?_
  refine va_sld hx hb hX hbl hbA w.2.2.1 (vin (by decide)) d_L_law_198 ?_
  refine lv_aload_n hx hb d_L_law_199 rfl (lv_at hl 1 rfl) ?_
  refine R_sh C0 w (rest := []) (wr := [((qn 5), .inr (6, fA 0 qm)), ((qp 1), .inl (cI, 10, .inl (fun _ => 0))), ((qp 6), .inl (cI, 10, .inl (fun _ => 0))), ((qp 7), .inl (cI, 10, .inl (fun _ => 0))), ((qp 8), .inl (cI, 10, .inl (fun _ => 0))), ((qp 9), .inl (cI, 10, .inl (fun _ => 0))), ((qm 5), .inl (cI, 16, .inl (fun _ => 0))), (o2, .inr (7, fR 0 0 0 0 qr3)), ((qr3 2), .inl (cI, 10, .inl (fun _ => 0))), ((qr3 7), .inl (cI, 10, .inl (fun _ => 0))), ((qr3 33), .inl (cI, 16, .inl (fun _ => 0))), (q4, .inl (cJ, 1, .inr (.inl (fun _ => 0))))]) (w1 := []) [0, 1] [2, 3, 4, 5, 6, 7, 8, 9, 10, 11, 12, 13] (c_L_put l D cI cB cJ o1 qn qp (xs (1 : Int32).toNatClampNeg) (xs (2 : Int32).toNatClampNeg) (xs (3 : Int32).toNatClampNeg) (xs (4 : Int32).toNatClampNeg) (xs (5 : Int32).toNatClampNeg) q4 htl) rfl rfl rfl rfl (by decide) wd_471 wd_469 wd_470 wd_0 (n9 := 7) (by decide +kernel) rfl ⟨(Nat.le_of_ble_eq_true rfl), (Nat.le_of_ble_eq_true rfl)⟩ hl.1 rfl (Nat.le_of_ble_eq_true rfl) d_L_law_200 (Nat.le_of_ble_eq_true rfl) (Nat.le_of_ble_eq_true rfl) (fun H locs w => ?_)
  refine W.cs (cells' := 166) (slots' := 3476) rfl rfl ?_
  have w : Wd D (lA s) s [((qn 5), .inr (6, fA 0 qm)), ((qp 1), .inl (cI, 10, .inl (fun _ => 0))), ((qp 6), .inl (cI, 10, .inl (fun _ => 0))), ((qp 7), .inl (cI, 10, .inl (fun _ => 0))), ((qp 8), .inl (cI, 10, .inl (fun _ => 0))), ((qp 9), .inl (cI, 10, .inl (fun _ => 0))), ((qm 5), .inl (cI, 16, .inl (fun _ => 0))), (o2, .inr (7, fR 0 0 0 0 qr3)), ((qr3 2), .inl (cI, 10, .inl (fun _ => 0))), ((qr3 7), .inl (cI, 10, .inl (fun _ => 0))), ((qr3 33), .inl (cI, 16, .inl (fun _ => 0))), (q4, .inl (cJ, 1, .inr (.inl (fun _ => 0))))] H _ := w
  refine lv_istore hx hb d_L_law_203 hl (by decide) rfl (fun ls hl => ?_)
  have hl : lv_has ls 7 [(5, .int 1), (4, .int 0), (3, .ref q4), (2, .ref o2), (1, .ref o1), (0, .ref b)] := hl
  refine lv_aload_n hx hb d_L_law_205 rfl (lv_at hl 3 rfl) ?_
  refine lv_aload_n hx hb d_L_law_206 rfl (lv_at hl 5 rfl) ?_
  refine lv_iload hx hb d_L_law_207 (lv_at hl 1 rfl) ?_
  refine lv_iconst (v := 1) hx hb d_L_law_209 (by decide) ?_
  refine lv_iadd hx hb d_L_law_210 ?_
  refine lv_cst (x := 0 + 1) (y := 1) (by decide) ?_
  refine va_sld hx hb hX hbl hbA w.2.2.1 (vin (by decide)) d_L_law_211 ?_
  refine lv_aload_n hx hb d_L_law_212 rfl (lv_at hl 5 rfl) ?_
  refine lv_iload hx hb d_L_law_213 (lv_at hl 1 rfl) ?_
  refine lv_iconst (v := 2) hx hb d_L_law_215 (by decide) ?_
  refine lv_iadd hx hb d_L_law_216 ?_
  refine lv_cst (x := 0 + 2) (y := 2) (by decide) ?_
  refine va_sld hx hb hX hbl hbA w.2.2.1 (vin (by decide)) d_L_law_217 ?_
  refine lv_aload_n hx hb d_L_law_218 rfl (lv_at hl 5 rfl) ?_
  refine lv_iload hx hb d_L_law_219 (lv_at hl 1 rfl) ?_
  refine lv_iconst (v := 3) hx hb d_L_law_221 (by decide) ?_
  refine lv_iadd hx hb d_L_law_222 ?_
  refine lv_cst (x := 0 + 3) (y := 3) (by decide) ?_
  refine va_sld hx hb hX hbl hbA w.2.2.1 (vin (by decide)) d_L_law_223 ?_
  refine lv_aload_n hx hb d_L_law_224 rfl (lv_at hl 5 rfl) ?_
  refine lv_iload hx hb d_L_law_225 (lv_at hl 1 rfl) ?_
  refine lv_iconst (v := 4) hx hb d_L_law_227 (by decide) ?_
  refine lv_iadd hx hb d_L_law_228 ?_
  refine lv_cst (x := 0 + 4) (y := 4) (by decide) ?_
  refine va_sld hx hb hX hbl hbA w.2.2.1 (vin (by decide)) d_L_law_229 ?_
  refine lv_aload_n hx hb d_L_law_230 rfl (lv_at hl 5 rfl) ?_
  refine lv_iload hx hb d_L_law_231 (lv_at hl 1 rfl) ?_
  refine lv_iconst (v := 5) hx hb d_L_law_233 (by decide) ?_
  refine lv_iadd hx hb d_L_law_234 ?_
  refine lv_cst (x := 0 + 5) (y := 5) (by decide) ?_
  refine va_sld hx hb hX hbl hbA w.2.2.1 (vin (by decide)) d_L_law_235 ?_
  refine R_vi C0 w (rest := []) (wr := [((qn 5), .inr (6, fA 0 qm)), ((qp 1), .inl (cI, 10, .inl (fun _ => 0))), ((qp 6), .inl (cI, 10, .inl (fun _ => 0))), ((qp 7), .inl (cI, 10, .inl (fun _ => 0))), ((qp 8), .inl (cI, 10, .inl (fun _ => 0))), ((qp 9), .inl (cI, 10, .inl (fun _ => 0))), ((qm 5), .inl (cI, 16, .inl (fun _ => 0))), ((qr3 2), .inl (cI, 10, .inl (fun _ => 0))), ((qr3 7), .inl (cI, 10, .inl (fun _ => 0))), ((qr3 33), .inl (cI, 16, .inl (fun _ => 0))), (q4, .inl (cJ, 1, .inr (.inl (fun _ => 0))))]) (w1 := [(o2, .inr (7, fR 1 0 0 0 qr3))]) 7 rfl rfl [7] [0, 1, 2, 3, 4, 5, 6, 8, 9, 10, 11] (c_R_put l D cI cB cJ o2 qr3 (xs (1 : Int32).toNatClampNeg) (xs (2 : Int32).toNatClampNeg) (xs (3 : Int32).toNatClampNeg) (xs (4 : Int32).toNatClampNeg) (xs (5 : Int32).toNatClampNeg)) rfl rfl rfl rfl (by decide) wd_967 wd_964 wd_965 wd_966 wd_8 (n9 := 5) (by decide +kernel) rfl ⟨(Nat.le_of_ble_eq_true rfl), (Nat.le_of_ble_eq_true rfl)⟩ hl.1 rfl (Nat.le_of_ble_eq_true rfl) d_L_law_236 (Nat.le_of_ble_eq_true rfl) (Nat.le_of_ble_eq_true rfl) (fun H locs w => ?_)
  have w : Wd D (lA s) s [((qn 5), .inr (6, fA 0 qm)), ((qp 1), .inl (cI, 10, .inl (fun _ => 0))), ((qp 6), .inl (cI, 10, .inl (fun _ => 0))), ((qp 7), .inl (cI, 10, .inl (fun _ => 0))), ((qp 8), .inl (cI, 10, .inl (fun _ => 0))), ((qp 9), .inl (cI, 10, .inl (fun _ => 0))), ((qm 5), .inl (cI, 16, .inl (fun _ => 0))), ((qr3 2), .inl (cI, 10, .inl (fun _ => 0))), ((qr3 7), .inl (cI, 10, .inl (fun _ => 0))), ((qr3 33), .inl (cI, 16, .inl (fun _ => 0))), (q4, .inl (cJ, 1, .inr (.inl (fun _ => 0)))), (o2, .inr (7, fR 1 0 0 0 qr3))] H _ := w
  refine lv_istore hx hb d_L_law_239 hl (by decide) rfl (fun ls hl => ?_)
  have hl : lv_has ls 7 [(6, .int 0), (5, .int 1), (4, .int 0), (3, .ref q4), (2, .ref o2), (1, .ref o1), (0, .ref b)] := hl
  refine lv_aload_n hx hb d_L_law_241 rfl (lv_at hl 4 rfl) ?_
  refine R_ri C0 w (rest := []) 11 rfl rfl [11] (c_thrown l D cI cB cJ o2 qr3 1 0 0 0) rfl rfl wd_955 wd_952 wd_953 wd_954 wd_8 (n9 := 0) (by decide +kernel) rfl ⟨(Nat.le_of_ble_eq_true rfl), (Nat.le_of_ble_eq_true rfl)⟩ hl.1 rfl (Nat.le_of_ble_eq_true rfl) d_L_law_242 (Nat.le_of_ble_eq_true rfl) (Nat.le_of_ble_eq_true rfl) ?_
  refine lv_iload hx hb d_L_law_245 (lv_at hl 1 rfl) ?_
  refine lv_icmp_eq (tgt := 252) hx hb d_L_law_247 (by decide) (fun hc247 => ?_) (fun hc => absurd (by decide) hc)
  refine lv_iload hx hb d_L_law_252 (lv_at hl 1 rfl) ?_
  refine lv_if_ne (tgt := 269) hx hb d_L_law_254 (by decide) (fun hc254 => ?_) (fun hc => absurd hc (by decide))
  refine lv_goto (tgt := 993) hx hb d_L_law_269 (by decide) ?_
  exact law_tail C0 hX hbl hr hlk htl (Nat.le_of_ble_eq_true rfl) (Nat.le_of_ble_eq_true rfl) w (lv_sub hl [2, 6] rfl)
set_option maxHeartbeats 4000000 in
set_option maxRecDepth 100000 in
theorem law_case2 {qm : Nat → Nat} {qn : Nat → Nat} {qp : Nat → Nat} {qr3 : Nat → Nat} {o1 : Nat} {o2 : Nat} {q4 : Nat} (C0 : Cx p s m #[Value.ref b] c code 7 "NameForgeLaw" D cI cB cJ) (hX : va_X b 6 xs s s.heap) (hbl : b < s.heap.size) (hr : meth.sig.returnType = ret) (hlk : meth.locks = false) (htl : l.stackTraces = false) (w : Wd D (lA s) s [(o1, .inr (0, fN 0 qn)), ((qn 0), .inr (1, fP 0 qp)), ((qn 5), .inr (6, fA 0 qm)), ((qp 1), .inl (cI, 10, .inl (fun _ => 0))), ((qp 6), .inl (cI, 10, .inl (fun _ => 0))), ((qp 7), .inl (cI, 10, .inl (fun _ => 0))), ((qp 8), .inl (cI, 10, .inl (fun _ => 0))), ((qp 9), .inl (cI, 10, .inl (fun _ => 0))), ((qm 5), .inl (cI, 16, .inl (fun _ => 0))), (o2, .inr (7, fR 0 0 0 0 qr3)), ((qr3 2), .inl (cI, 10, .inl (fun _ => 0))), ((qr3 7), .inl (cI, 10, .inl (fun _ => 0))), ((qr3 33), .inl (cI, 16, .inl (fun _ => 0))), (q4, .inl (cJ, 1, .inr (.inl (fun _ => 0))))] H locs) (hl : lv_has ls 7 [(4, .int 0), (3, .ref q4), (2, .ref o2), (1, .ref o1), (0, .ref b)]) : W p l e room_1 s m #[Value.ref b] below meth c H locs 165 3470 (lw_Z below #[Value.ref b] s) (F0 m 272 ls []) := by
  have hx := C0.1
  have hb := C0.2.1
  have hbA : ¬ lA s b := fun h => absurd hbl (Nat.not_lt.mpr h)
  refine lv_aload_n hx hb d_L_law_272 rfl (lv_at hl 3 rfl) ?_
  refine lv_aload_n hx hb d_L_law_273 rfl (lv_at hl 4 rfl) ?_
  refine lv_iload hx hb d_L_law_274 (lv_at hl 0 rfl) ?_
  refine lv_iconst (v := 1) hx hb d_L_law_276 (by decide) ?_
  refine lv_iadd hx hb d_L_law_277 ?_
  refine lv_cst (x := 0 + 1) (y := 1) (by decide) ?_
  refine va_sld hx hb hX hbl hbA w.2.2.1 (vin (by decide)) d_L_law_278 ?_
  refine lv_aload_n hx hb d_L_law_279 rfl (lv_at hl 4 rfl) ?_
  refine lv_iload hx hb d_L_law_280 (lv_at hl 0 rfl) ?_
  refine lv_iconst (v := 2) hx hb d_L_law_282 (by decide) ?_
  refine lv_iadd hx hb d_L_law_283 ?_
  refine lv_cst (x := 0 + 2) (y := 2) (by decide) ?_
  refine va_sld hx hb hX hbl hbA w.2.2.1 (vin (by decide)) d_L_law_284 ?_
  refine R_sh C0 w (rest := []) (wr := [((qn 5), .inr (6, fA 0 qm)), ((qp 1), .inl (cI, 10, .inl (fun _ => 0))), ((qp 6), .inl (cI, 10, .inl (fun _ => 0))), ((qp 7), .inl (cI, 10, .inl (fun _ => 0))), ((qp 8), .inl (cI, 10, .inl (fun _ => 0))), ((qp 9), .inl (cI, 10, .inl (fun _ => 0))), ((qm 5), .inl (cI, 16, .inl (fun _ => 0))), (o2, .inr (7, fR 0 0 0 0 qr3)), ((qr3 2), .inl (cI, 10, .inl (fun _ => 0))), ((qr3 7), .inl (cI, 10, .inl (fun _ => 0))), ((qr3 33), .inl (cI, 16, .inl (fun _ => 0))), (q4, .inl (cJ, 1, .inr (.inl (fun _ => 0))))]) (w1 := []) [0, 1] [2, 3, 4, 5, 6, 7, 8, 9, 10, 11, 12, 13] (c_L_go l D cI cB cJ o1 qn qp (xs (1 : Int32).toNatClampNeg) (xs (2 : Int32).toNatClampNeg) htl) rfl rfl rfl rfl (by decide) wd_519 wd_517 wd_518 wd_0 (n9 := 3) (by decide +kernel) rfl ⟨(Nat.le_of_ble_eq_true rfl), (Nat.le_of_ble_eq_true rfl)⟩ hl.1 rfl (Nat.le_of_ble_eq_true rfl) d_L_law_285 (Nat.le_of_ble_eq_true rfl) (Nat.le_of_ble_eq_true rfl) (fun H locs w => ?_)
  refine W.cs (cells' := 166) (slots' := 3476) rfl rfl ?_
  have w : Wd D (lA s) s [((qn 5), .inr (6, fA 0 qm)), ((qp 1), .inl (cI, 10, .inl (fun _ => 0))), ((qp 6), .inl (cI, 10, .inl (fun _ => 0))), ((qp 7), .inl (cI, 10, .inl (fun _ => 0))), ((qp 8), .inl (cI, 10, .inl (fun _ => 0))), ((qp 9), .inl (cI, 10, .inl (fun _ => 0))), ((qm 5), .inl (cI, 16, .inl (fun _ => 0))), (o2, .inr (7, fR 0 0 0 0 qr3)), ((qr3 2), .inl (cI, 10, .inl (fun _ => 0))), ((qr3 7), .inl (cI, 10, .inl (fun _ => 0))), ((qr3 33), .inl (cI, 16, .inl (fun _ => 0))), (q4, .inl (cJ, 1, .inr (.inl (fun _ => 0))))] H _ := w
  refine lv_istore hx hb d_L_law_288 hl (by decide) rfl (fun ls hl => ?_)
  have hl : lv_has ls 7 [(5, .int 1), (4, .int 0), (3, .ref q4), (2, .ref o2), (1, .ref o1), (0, .ref b)] := hl
  refine lv_aload_n hx hb d_L_law_290 rfl (lv_at hl 3 rfl) ?_
  refine lv_aload_n hx hb d_L_law_291 rfl (lv_at hl 5 rfl) ?_
  refine lv_iload hx hb d_L_law_292 (lv_at hl 1 rfl) ?_
  refine lv_iconst (v := 1) hx hb d_L_law_294 (by decide) ?_
  refine lv_iadd hx hb d_L_law_295 ?_
  refine lv_cst (x := 0 + 1) (y := 1) (by decide) ?_
  refine va_sld hx hb hX hbl hbA w.2.2.1 (vin (by decide)) d_L_law_296 ?_
  refine lv_aload_n hx hb d_L_law_297 rfl (lv_at hl 5 rfl) ?_
  refine lv_iload hx hb d_L_law_298 (lv_at hl 1 rfl) ?_
  refine lv_iconst (v := 2) hx hb d_L_law_300 (by decide) ?_
  refine lv_iadd hx hb d_L_law_301 ?_
  refine lv_cst (x := 0 + 2) (y := 2) (by decide) ?_
  refine va_sld hx hb hX hbl hbA w.2.2.1 (vin (by decide)) d_L_law_302 ?_
  refine R_vv C0 w (rest := []) (wr := [((qn 5), .inr (6, fA 0 qm)), ((qp 1), .inl (cI, 10, .inl (fun _ => 0))), ((qp 6), .inl (cI, 10, .inl (fun _ => 0))), ((qp 7), .inl (cI, 10, .inl (fun _ => 0))), ((qp 8), .inl (cI, 10, .inl (fun _ => 0))), ((qp 9), .inl (cI, 10, .inl (fun _ => 0))), ((qm 5), .inl (cI, 16, .inl (fun _ => 0))), ((qr3 2), .inl (cI, 10, .inl (fun _ => 0))), ((qr3 7), .inl (cI, 10, .inl (fun _ => 0))), ((qr3 33), .inl (cI, 16, .inl (fun _ => 0))), (q4, .inl (cJ, 1, .inr (.inl (fun _ => 0))))]) (w1 := [(o2, .inr (7, fR 1 0 0 0 qr3))]) 7 rfl rfl [7] [0, 1, 2, 3, 4, 5, 6, 8, 9, 10, 11] (c_R_go l D cI cB cJ o2 qr3 (xs (1 : Int32).toNatClampNeg) (xs (2 : Int32).toNatClampNeg)) rfl rfl rfl rfl (by decide) wd_987 wd_984 wd_985 wd_986 wd_8 (n9 := 2) (by decide +kernel) rfl ⟨(Nat.le_of_ble_eq_true rfl), (Nat.le_of_ble_eq_true rfl)⟩ hl.1 rfl (Nat.le_of_ble_eq_true rfl) d_L_law_303 (Nat.le_of_ble_eq_true rfl) (Nat.le_of_ble_eq_true rfl) (fun H locs w => ?_)
  have w : Wd D (lA s) s [((qn 5), .inr (6, fA 0 qm)), ((qp 1), .inl (cI, 10, .inl (fun _ => 0))), ((qp 6), .inl (cI, 10, .inl (fun _ => 0))), ((qp 7), .inl (cI, 10, .inl (fun _ => 0))), ((qp 8), .inl (cI, 10, .inl (fun _ => 0))), ((qp 9), .inl (cI, 10, .inl (fun _ => 0))), ((qm 5), .inl (cI, 16, .inl (fun _ => 0))), ((qr3 2), .inl (cI, 10, .inl (fun _ => 0))), ((qr3 7), .inl (cI, 10, .inl (fun _ => 0))), ((qr3 33), .inl (cI, 16, .inl (fun _ => 0))), (q4, .inl (cJ, 1, .inr (.inl (fun _ => 0)))), (o2, .inr (7, fR 1 0 0 0 qr3))] H _ := w
  refine lv_aload_n hx hb d_L_law_306 rfl (lv_at hl 3 rfl) ?_
  refine R_ri C0 w (rest := []) 11 rfl rfl [11] (c_thrown l D cI cB cJ o2 qr3 1 0 0 0) rfl rfl wd_955 wd_952 wd_953 wd_954 wd_8 (n9 := 0) (by decide +kernel) rfl ⟨(Nat.le_of_ble_eq_true rfl), (Nat.le_of_ble_eq_true rfl)⟩ hl.1 rfl (Nat.le_of_ble_eq_true rfl) d_L_law_307 (Nat.le_of_ble_eq_true rfl) (Nat.le_of_ble_eq_true rfl) ?_
  refine lv_iload hx hb d_L_law_310 (lv_at hl 0 rfl) ?_
  refine lv_icmp_eq (tgt := 317) hx hb d_L_law_312 (by decide) (fun hc312 => ?_) (fun hc => absurd (by decide) hc)
  refine lv_goto (tgt := 993) hx hb d_L_law_317 (by decide) ?_
  exact law_tail C0 hX hbl hr hlk htl (Nat.le_of_ble_eq_true rfl) (Nat.le_of_ble_eq_true rfl) w (lv_sub hl [1, 5] rfl)
set_option maxHeartbeats 4000000 in
set_option maxRecDepth 100000 in
theorem law_case3 {qm : Nat → Nat} {qn : Nat → Nat} {qp : Nat → Nat} {qr3 : Nat → Nat} {o1 : Nat} {o2 : Nat} {q4 : Nat} (C0 : Cx p s m #[Value.ref b] c code 7 "NameForgeLaw" D cI cB cJ) (hX : va_X b 6 xs s s.heap) (hbl : b < s.heap.size) (hr : meth.sig.returnType = ret) (hlk : meth.locks = false) (htl : l.stackTraces = false) (w : Wd D (lA s) s [(o1, .inr (0, fN 0 qn)), ((qn 0), .inr (1, fP 0 qp)), ((qn 5), .inr (6, fA 0 qm)), ((qp 1), .inl (cI, 10, .inl (fun _ => 0))), ((qp 6), .inl (cI, 10, .inl (fun _ => 0))), ((qp 7), .inl (cI, 10, .inl (fun _ => 0))), ((qp 8), .inl (cI, 10, .inl (fun _ => 0))), ((qp 9), .inl (cI, 10, .inl (fun _ => 0))), ((qm 5), .inl (cI, 16, .inl (fun _ => 0))), (o2, .inr (7, fR 0 0 0 0 qr3)), ((qr3 2), .inl (cI, 10, .inl (fun _ => 0))), ((qr3 7), .inl (cI, 10, .inl (fun _ => 0))), ((qr3 33), .inl (cI, 16, .inl (fun _ => 0))), (q4, .inl (cJ, 1, .inr (.inl (fun _ => 0))))] H locs) (hl : lv_has ls 7 [(4, .int 0), (3, .ref q4), (2, .ref o2), (1, .ref o1), (0, .ref b)]) : W p l e room_1 s m #[Value.ref b] below meth c H locs 165 3470 (lw_Z below #[Value.ref b] s) (F0 m 320 ls []) := by
  have hx := C0.1
  have hb := C0.2.1
  have hbA : ¬ lA s b := fun h => absurd hbl (Nat.not_lt.mpr h)
  refine lv_aload_n hx hb d_L_law_320 rfl (lv_at hl 3 rfl) ?_
  refine lv_aload_n hx hb d_L_law_321 rfl (lv_at hl 4 rfl) ?_
  refine lv_iload hx hb d_L_law_322 (lv_at hl 0 rfl) ?_
  refine lv_iconst (v := 1) hx hb d_L_law_324 (by decide) ?_
  refine lv_iadd hx hb d_L_law_325 ?_
  refine lv_cst (x := 0 + 1) (y := 1) (by decide) ?_
  refine va_sld hx hb hX hbl hbA w.2.2.1 (vin (by decide)) d_L_law_326 ?_
  refine lv_aload_n hx hb d_L_law_327 rfl (lv_at hl 4 rfl) ?_
  refine lv_iload hx hb d_L_law_328 (lv_at hl 0 rfl) ?_
  refine lv_iconst (v := 2) hx hb d_L_law_330 (by decide) ?_
  refine lv_iadd hx hb d_L_law_331 ?_
  refine lv_cst (x := 0 + 2) (y := 2) (by decide) ?_
  refine va_sld hx hb hX hbl hbA w.2.2.1 (vin (by decide)) d_L_law_332 ?_
  refine lv_aload_n hx hb d_L_law_333 rfl (lv_at hl 4 rfl) ?_
  refine lv_iload hx hb d_L_law_334 (lv_at hl 0 rfl) ?_
  refine lv_iconst (v := 3) hx hb d_L_law_336 (by decide) ?_
  refine lv_iadd hx hb d_L_law_337 ?_
  refine lv_cst (x := 0 + 3) (y := 3) (by decide) ?_
  refine va_sld hx hb hX hbl hbA w.2.2.1 (vin (by decide)) d_L_law_338 ?_
  refine lv_aload_n hx hb d_L_law_339 rfl (lv_at hl 4 rfl) ?_
  refine lv_iload hx hb d_L_law_340 (lv_at hl 0 rfl) ?_
  refine lv_iconst (v := 4) hx hb d_L_law_342 (by decide) ?_
  refine lv_iadd hx hb d_L_law_343 ?_
  refine lv_cst (x := 0 + 4) (y := 4) (by decide) ?_
  refine va_sld hx hb hX hbl hbA w.2.2.1 (vin (by decide)) d_L_law_344 ?_
  refine R_sh C0 w (rest := []) (wr := [((qn 5), .inr (6, fA 0 qm)), ((qp 1), .inl (cI, 10, .inl (fun _ => 0))), ((qp 6), .inl (cI, 10, .inl (fun _ => 0))), ((qp 7), .inl (cI, 10, .inl (fun _ => 0))), ((qp 8), .inl (cI, 10, .inl (fun _ => 0))), ((qp 9), .inl (cI, 10, .inl (fun _ => 0))), ((qm 5), .inl (cI, 16, .inl (fun _ => 0))), (o2, .inr (7, fR 0 0 0 0 qr3)), ((qr3 2), .inl (cI, 10, .inl (fun _ => 0))), ((qr3 7), .inl (cI, 10, .inl (fun _ => 0))), ((qr3 33), .inl (cI, 16, .inl (fun _ => 0))), (q4, .inl (cJ, 1, .inr (.inl (fun _ => 0))))]) (w1 := []) [0, 1] [2, 3, 4, 5, 6, 7, 8, 9, 10, 11, 12, 13] (c_L_fork l D cI cB cJ o1 qn qp (xs (1 : Int32).toNatClampNeg) (xs (2 : Int32).toNatClampNeg) (xs (3 : Int32).toNatClampNeg) (xs (4 : Int32).toNatClampNeg) htl) rfl rfl rfl rfl (by decide) wd_533 wd_531 wd_532 wd_0 (n9 := 5) (by decide +kernel) rfl ⟨(Nat.le_of_ble_eq_true rfl), (Nat.le_of_ble_eq_true rfl)⟩ hl.1 rfl (Nat.le_of_ble_eq_true rfl) d_L_law_345 (Nat.le_of_ble_eq_true rfl) (Nat.le_of_ble_eq_true rfl) (fun H locs w => ?_)
  refine W.cs (cells' := 166) (slots' := 3476) rfl rfl ?_
  have w : Wd D (lA s) s [((qn 5), .inr (6, fA 0 qm)), ((qp 1), .inl (cI, 10, .inl (fun _ => 0))), ((qp 6), .inl (cI, 10, .inl (fun _ => 0))), ((qp 7), .inl (cI, 10, .inl (fun _ => 0))), ((qp 8), .inl (cI, 10, .inl (fun _ => 0))), ((qp 9), .inl (cI, 10, .inl (fun _ => 0))), ((qm 5), .inl (cI, 16, .inl (fun _ => 0))), (o2, .inr (7, fR 0 0 0 0 qr3)), ((qr3 2), .inl (cI, 10, .inl (fun _ => 0))), ((qr3 7), .inl (cI, 10, .inl (fun _ => 0))), ((qr3 33), .inl (cI, 16, .inl (fun _ => 0))), (q4, .inl (cJ, 1, .inr (.inl (fun _ => 0))))] H _ := w
  refine lv_istore hx hb d_L_law_348 hl (by decide) rfl (fun ls hl => ?_)
  have hl : lv_has ls 7 [(5, .int 1), (4, .int 0), (3, .ref q4), (2, .ref o2), (1, .ref o1), (0, .ref b)] := hl
  refine lv_aload_n hx hb d_L_law_350 rfl (lv_at hl 3 rfl) ?_
  refine lv_aload_n hx hb d_L_law_351 rfl (lv_at hl 5 rfl) ?_
  refine lv_iload hx hb d_L_law_352 (lv_at hl 1 rfl) ?_
  refine lv_iconst (v := 1) hx hb d_L_law_354 (by decide) ?_
  refine lv_iadd hx hb d_L_law_355 ?_
  refine lv_cst (x := 0 + 1) (y := 1) (by decide) ?_
  refine va_sld hx hb hX hbl hbA w.2.2.1 (vin (by decide)) d_L_law_356 ?_
  refine lv_aload_n hx hb d_L_law_357 rfl (lv_at hl 5 rfl) ?_
  refine lv_iload hx hb d_L_law_358 (lv_at hl 1 rfl) ?_
  refine lv_iconst (v := 2) hx hb d_L_law_360 (by decide) ?_
  refine lv_iadd hx hb d_L_law_361 ?_
  refine lv_cst (x := 0 + 2) (y := 2) (by decide) ?_
  refine va_sld hx hb hX hbl hbA w.2.2.1 (vin (by decide)) d_L_law_362 ?_
  refine lv_aload_n hx hb d_L_law_363 rfl (lv_at hl 5 rfl) ?_
  refine lv_iload hx hb d_L_law_364 (lv_at hl 1 rfl) ?_
  refine lv_iconst (v := 3) hx hb d_L_law_366 (by decide) ?_
  refine lv_iadd hx hb d_L_law_367 ?_
  refine lv_cst (x := 0 + 3) (y := 3) (by decide) ?_
  refine va_sld hx hb hX hbl hbA w.2.2.1 (vin (by decide)) d_L_law_368 ?_
  refine lv_aload_n hx hb d_L_law_369 rfl (lv_at hl 5 rfl) ?_
  refine lv_iload hx hb d_L_law_370 (lv_at hl 1 rfl) ?_
  refine lv_iconst (v := 4) hx hb d_L_law_372 (by decide) ?_
  refine lv_iadd hx hb d_L_law_373 ?_
  refine lv_cst (x := 0 + 4) (y := 4) (by decide) ?_
  refine va_sld hx hb hX hbl hbA w.2.2.1 (vin (by decide)) d_L_law_374 ?_
  refine R_vv C0 w (rest := []) (wr := [((qn 5), .inr (6, fA 0 qm)), ((qp 1), .inl (cI, 10, .inl (fun _ => 0))), ((qp 6), .inl (cI, 10, .inl (fun _ => 0))), ((qp 7), .inl (cI, 10, .inl (fun _ => 0))), ((qp 8), .inl (cI, 10, .inl (fun _ => 0))), ((qp 9), .inl (cI, 10, .inl (fun _ => 0))), ((qm 5), .inl (cI, 16, .inl (fun _ => 0))), ((qr3 2), .inl (cI, 10, .inl (fun _ => 0))), ((qr3 7), .inl (cI, 10, .inl (fun _ => 0))), ((qr3 33), .inl (cI, 16, .inl (fun _ => 0))), (q4, .inl (cJ, 1, .inr (.inl (fun _ => 0))))]) (w1 := [(o2, .inr (7, fR 1 0 0 0 qr3))]) 7 rfl rfl [7] [0, 1, 2, 3, 4, 5, 6, 8, 9, 10, 11] (c_R_fork l D cI cB cJ o2 qr3 (xs (1 : Int32).toNatClampNeg) (xs (2 : Int32).toNatClampNeg) (xs (3 : Int32).toNatClampNeg) (xs (4 : Int32).toNatClampNeg)) rfl rfl rfl rfl (by decide) wd_995 wd_992 wd_993 wd_994 wd_8 (n9 := 4) (by decide +kernel) rfl ⟨(Nat.le_of_ble_eq_true rfl), (Nat.le_of_ble_eq_true rfl)⟩ hl.1 rfl (Nat.le_of_ble_eq_true rfl) d_L_law_375 (Nat.le_of_ble_eq_true rfl) (Nat.le_of_ble_eq_true rfl) (fun H locs w => ?_)
  have w : Wd D (lA s) s [((qn 5), .inr (6, fA 0 qm)), ((qp 1), .inl (cI, 10, .inl (fun _ => 0))), ((qp 6), .inl (cI, 10, .inl (fun _ => 0))), ((qp 7), .inl (cI, 10, .inl (fun _ => 0))), ((qp 8), .inl (cI, 10, .inl (fun _ => 0))), ((qp 9), .inl (cI, 10, .inl (fun _ => 0))), ((qm 5), .inl (cI, 16, .inl (fun _ => 0))), ((qr3 2), .inl (cI, 10, .inl (fun _ => 0))), ((qr3 7), .inl (cI, 10, .inl (fun _ => 0))), ((qr3 33), .inl (cI, 16, .inl (fun _ => 0))), (q4, .inl (cJ, 1, .inr (.inl (fun _ => 0)))), (o2, .inr (7, fR 1 0 0 0 qr3))] H _ := w
  refine lv_aload_n hx hb d_L_law_378 rfl (lv_at hl 3 rfl) ?_
  refine R_ri C0 w (rest := []) 11 rfl rfl [11] (c_thrown l D cI cB cJ o2 qr3 1 0 0 0) rfl rfl wd_955 wd_952 wd_953 wd_954 wd_8 (n9 := 0) (by decide +kernel) rfl ⟨(Nat.le_of_ble_eq_true rfl), (Nat.le_of_ble_eq_true rfl)⟩ hl.1 rfl (Nat.le_of_ble_eq_true rfl) d_L_law_379 (Nat.le_of_ble_eq_true rfl) (Nat.le_of_ble_eq_true rfl) ?_
  refine lv_iload hx hb d_L_law_382 (lv_at hl 0 rfl) ?_
  refine lv_icmp_eq (tgt := 389) hx hb d_L_law_384 (by decide) (fun hc384 => ?_) (fun hc => absurd (by decide) hc)
  refine lv_goto (tgt := 993) hx hb d_L_law_389 (by decide) ?_
  exact law_tail C0 hX hbl hr hlk htl (Nat.le_of_ble_eq_true rfl) (Nat.le_of_ble_eq_true rfl) w (lv_sub hl [1, 5] rfl)
set_option maxHeartbeats 4000000 in
set_option maxRecDepth 100000 in
theorem law_case4 {qm : Nat → Nat} {qn : Nat → Nat} {qp : Nat → Nat} {qr3 : Nat → Nat} {o1 : Nat} {o2 : Nat} {q4 : Nat} (C0 : Cx p s m #[Value.ref b] c code 7 "NameForgeLaw" D cI cB cJ) (hX : va_X b 6 xs s s.heap) (hbl : b < s.heap.size) (hr : meth.sig.returnType = ret) (hlk : meth.locks = false) (htl : l.stackTraces = false) (w : Wd D (lA s) s [(o1, .inr (0, fN 0 qn)), ((qn 0), .inr (1, fP 0 qp)), ((qn 5), .inr (6, fA 0 qm)), ((qp 1), .inl (cI, 10, .inl (fun _ => 0))), ((qp 6), .inl (cI, 10, .inl (fun _ => 0))), ((qp 7), .inl (cI, 10, .inl (fun _ => 0))), ((qp 8), .inl (cI, 10, .inl (fun _ => 0))), ((qp 9), .inl (cI, 10, .inl (fun _ => 0))), ((qm 5), .inl (cI, 16, .inl (fun _ => 0))), (o2, .inr (7, fR 0 0 0 0 qr3)), ((qr3 2), .inl (cI, 10, .inl (fun _ => 0))), ((qr3 7), .inl (cI, 10, .inl (fun _ => 0))), ((qr3 33), .inl (cI, 16, .inl (fun _ => 0))), (q4, .inl (cJ, 1, .inr (.inl (fun _ => 0))))] H locs) (hl : lv_has ls 7 [(4, .int 0), (3, .ref q4), (2, .ref o2), (1, .ref o1), (0, .ref b)]) : W p l e room_1 s m #[Value.ref b] below meth c H locs 165 3470 (lw_Z below #[Value.ref b] s) (F0 m 392 ls []) := by
  have hx := C0.1
  have hb := C0.2.1
  have hbA : ¬ lA s b := fun h => absurd hbl (Nat.not_lt.mpr h)
  refine lv_aload_n hx hb d_L_law_392 rfl (lv_at hl 3 rfl) ?_
  refine lv_aload_n hx hb d_L_law_393 rfl (lv_at hl 4 rfl) ?_
  refine lv_iload hx hb d_L_law_394 (lv_at hl 0 rfl) ?_
  refine lv_iconst (v := 1) hx hb d_L_law_396 (by decide) ?_
  refine lv_iadd hx hb d_L_law_397 ?_
  refine lv_cst (x := 0 + 1) (y := 1) (by decide) ?_
  refine va_sld hx hb hX hbl hbA w.2.2.1 (vin (by decide)) d_L_law_398 ?_
  refine R_sh C0 w (rest := []) (wr := [((qn 5), .inr (6, fA 0 qm)), ((qp 1), .inl (cI, 10, .inl (fun _ => 0))), ((qp 6), .inl (cI, 10, .inl (fun _ => 0))), ((qp 7), .inl (cI, 10, .inl (fun _ => 0))), ((qp 8), .inl (cI, 10, .inl (fun _ => 0))), ((qp 9), .inl (cI, 10, .inl (fun _ => 0))), ((qm 5), .inl (cI, 16, .inl (fun _ => 0))), (o2, .inr (7, fR 0 0 0 0 qr3)), ((qr3 2), .inl (cI, 10, .inl (fun _ => 0))), ((qr3 7), .inl (cI, 10, .inl (fun _ => 0))), ((qr3 33), .inl (cI, 16, .inl (fun _ => 0))), (q4, .inl (cJ, 1, .inr (.inl (fun _ => 0))))]) (w1 := []) [0, 1] [2, 3, 4, 5, 6, 7, 8, 9, 10, 11, 12, 13] (c_L_stop l D cI cB cJ o1 qn qp (xs (1 : Int32).toNatClampNeg) htl) rfl rfl rfl rfl (by decide) wd_541 wd_539 wd_540 wd_0 (n9 := 2) (by decide +kernel) rfl ⟨(Nat.le_of_ble_eq_true rfl), (Nat.le_of_ble_eq_true rfl)⟩ hl.1 rfl (Nat.le_of_ble_eq_true rfl) d_L_law_399 (Nat.le_of_ble_eq_true rfl) (Nat.le_of_ble_eq_true rfl) (fun H locs w => ?_)
  refine W.cs (cells' := 166) (slots' := 3476) rfl rfl ?_
  have w : Wd D (lA s) s [((qn 5), .inr (6, fA 0 qm)), ((qp 1), .inl (cI, 10, .inl (fun _ => 0))), ((qp 6), .inl (cI, 10, .inl (fun _ => 0))), ((qp 7), .inl (cI, 10, .inl (fun _ => 0))), ((qp 8), .inl (cI, 10, .inl (fun _ => 0))), ((qp 9), .inl (cI, 10, .inl (fun _ => 0))), ((qm 5), .inl (cI, 16, .inl (fun _ => 0))), (o2, .inr (7, fR 0 0 0 0 qr3)), ((qr3 2), .inl (cI, 10, .inl (fun _ => 0))), ((qr3 7), .inl (cI, 10, .inl (fun _ => 0))), ((qr3 33), .inl (cI, 16, .inl (fun _ => 0))), (q4, .inl (cJ, 1, .inr (.inl (fun _ => 0))))] H _ := w
  refine lv_istore hx hb d_L_law_402 hl (by decide) rfl (fun ls hl => ?_)
  have hl : lv_has ls 7 [(5, .int 1), (4, .int 0), (3, .ref q4), (2, .ref o2), (1, .ref o1), (0, .ref b)] := hl
  refine lv_aload_n hx hb d_L_law_404 rfl (lv_at hl 3 rfl) ?_
  refine lv_aload_n hx hb d_L_law_405 rfl (lv_at hl 5 rfl) ?_
  refine lv_iload hx hb d_L_law_406 (lv_at hl 1 rfl) ?_
  refine lv_iconst (v := 1) hx hb d_L_law_408 (by decide) ?_
  refine lv_iadd hx hb d_L_law_409 ?_
  refine lv_cst (x := 0 + 1) (y := 1) (by decide) ?_
  refine va_sld hx hb hX hbl hbA w.2.2.1 (vin (by decide)) d_L_law_410 ?_
  refine R_vv C0 w (rest := []) (wr := [((qn 5), .inr (6, fA 0 qm)), ((qp 1), .inl (cI, 10, .inl (fun _ => 0))), ((qp 6), .inl (cI, 10, .inl (fun _ => 0))), ((qp 7), .inl (cI, 10, .inl (fun _ => 0))), ((qp 8), .inl (cI, 10, .inl (fun _ => 0))), ((qp 9), .inl (cI, 10, .inl (fun _ => 0))), ((qm 5), .inl (cI, 16, .inl (fun _ => 0))), ((qr3 2), .inl (cI, 10, .inl (fun _ => 0))), ((qr3 7), .inl (cI, 10, .inl (fun _ => 0))), ((qr3 33), .inl (cI, 16, .inl (fun _ => 0))), (q4, .inl (cJ, 1, .inr (.inl (fun _ => 0))))]) (w1 := [(o2, .inr (7, fR 1 0 0 0 qr3))]) 7 rfl rfl [7] [0, 1, 2, 3, 4, 5, 6, 8, 9, 10, 11] (c_R_stop l D cI cB cJ o2 qr3 (xs (1 : Int32).toNatClampNeg)) rfl rfl rfl rfl (by decide) wd_999 wd_996 wd_997 wd_998 wd_8 (n9 := 1) (by decide +kernel) rfl ⟨(Nat.le_of_ble_eq_true rfl), (Nat.le_of_ble_eq_true rfl)⟩ hl.1 rfl (Nat.le_of_ble_eq_true rfl) d_L_law_411 (Nat.le_of_ble_eq_true rfl) (Nat.le_of_ble_eq_true rfl) (fun H locs w => ?_)
  have w : Wd D (lA s) s [((qn 5), .inr (6, fA 0 qm)), ((qp 1), .inl (cI, 10, .inl (fun _ => 0))), ((qp 6), .inl (cI, 10, .inl (fun _ => 0))), ((qp 7), .inl (cI, 10, .inl (fun _ => 0))), ((qp 8), .inl (cI, 10, .inl (fun _ => 0))), ((qp 9), .inl (cI, 10, .inl (fun _ => 0))), ((qm 5), .inl (cI, 16, .inl (fun _ => 0))), ((qr3 2), .inl (cI, 10, .inl (fun _ => 0))), ((qr3 7), .inl (cI, 10, .inl (fun _ => 0))), ((qr3 33), .inl (cI, 16, .inl (fun _ => 0))), (q4, .inl (cJ, 1, .inr (.inl (fun _ => 0)))), (o2, .inr (7, fR 1 0 0 0 qr3))] H _ := w
  refine lv_aload_n hx hb d_L_law_414 rfl (lv_at hl 3 rfl) ?_
  refine R_ri C0 w (rest := []) 11 rfl rfl [11] (c_thrown l D cI cB cJ o2 qr3 1 0 0 0) rfl rfl wd_955 wd_952 wd_953 wd_954 wd_8 (n9 := 0) (by decide +kernel) rfl ⟨(Nat.le_of_ble_eq_true rfl), (Nat.le_of_ble_eq_true rfl)⟩ hl.1 rfl (Nat.le_of_ble_eq_true rfl) d_L_law_415 (Nat.le_of_ble_eq_true rfl) (Nat.le_of_ble_eq_true rfl) ?_
  refine lv_iload hx hb d_L_law_418 (lv_at hl 0 rfl) ?_
  refine lv_icmp_eq (tgt := 425) hx hb d_L_law_420 (by decide) (fun hc420 => ?_) (fun hc => absurd (by decide) hc)
  refine lv_goto (tgt := 993) hx hb d_L_law_425 (by decide) ?_
  exact law_tail C0 hX hbl hr hlk htl (Nat.le_of_ble_eq_true rfl) (Nat.le_of_ble_eq_true rfl) w (lv_sub hl [1, 5] rfl)
set_option maxHeartbeats 4000000 in
set_option maxRecDepth 100000 in
theorem law_case5 {qm : Nat → Nat} {qn : Nat → Nat} {qp : Nat → Nat} {qr3 : Nat → Nat} {o1 : Nat} {o2 : Nat} {q4 : Nat} (C0 : Cx p s m #[Value.ref b] c code 7 "NameForgeLaw" D cI cB cJ) (hX : va_X b 6 xs s s.heap) (hbl : b < s.heap.size) (hr : meth.sig.returnType = ret) (hlk : meth.locks = false) (htl : l.stackTraces = false) (w : Wd D (lA s) s [(o1, .inr (0, fN 0 qn)), ((qn 0), .inr (1, fP 0 qp)), ((qn 5), .inr (6, fA 0 qm)), ((qp 1), .inl (cI, 10, .inl (fun _ => 0))), ((qp 6), .inl (cI, 10, .inl (fun _ => 0))), ((qp 7), .inl (cI, 10, .inl (fun _ => 0))), ((qp 8), .inl (cI, 10, .inl (fun _ => 0))), ((qp 9), .inl (cI, 10, .inl (fun _ => 0))), ((qm 5), .inl (cI, 16, .inl (fun _ => 0))), (o2, .inr (7, fR 0 0 0 0 qr3)), ((qr3 2), .inl (cI, 10, .inl (fun _ => 0))), ((qr3 7), .inl (cI, 10, .inl (fun _ => 0))), ((qr3 33), .inl (cI, 16, .inl (fun _ => 0))), (q4, .inl (cJ, 1, .inr (.inl (fun _ => 0))))] H locs) (hl : lv_has ls 7 [(4, .int 0), (3, .ref q4), (2, .ref o2), (1, .ref o1), (0, .ref b)]) : W p l e room_1 s m #[Value.ref b] below meth c H locs 165 3470 (lw_Z below #[Value.ref b] s) (F0 m 428 ls []) := by
  have hx := C0.1
  have hb := C0.2.1
  have hbA : ¬ lA s b := fun h => absurd hbl (Nat.not_lt.mpr h)
  refine lv_aload_n hx hb d_L_law_428 rfl (lv_at hl 3 rfl) ?_
  refine R_vv C0 w (rest := []) (wr := [((qn 5), .inr (6, fA 0 qm)), ((qp 1), .inl (cI, 10, .inl (fun _ => 0))), ((qp 6), .inl (cI, 10, .inl (fun _ => 0))), ((qp 7), .inl (cI, 10, .inl (fun _ => 0))), ((qp 8), .inl (cI, 10, .inl (fun _ => 0))), ((qp 9), .inl (cI, 10, .inl (fun _ => 0))), ((qm 5), .inl (cI, 16, .inl (fun _ => 0))), (o2, .inr (7, fR 0 0 0 0 qr3)), ((qr3 2), .inl (cI, 10, .inl (fun _ => 0))), ((qr3 7), .inl (cI, 10, .inl (fun _ => 0))), ((qr3 33), .inl (cI, 16, .inl (fun _ => 0))), (q4, .inl (cJ, 1, .inr (.inl (fun _ => 0))))]) (w1 := []) 0 rfl rfl [0, 1] [2, 3, 4, 5, 6, 7, 8, 9, 10, 11, 12, 13] (c_N_clear l D cI cB cJ o1 qn qp) rfl rfl rfl rfl (by decide) wd_364 wd_361 wd_362 wd_363 wd_1 (n9 := 0) (by decide +kernel) rfl ⟨(Nat.le_of_ble_eq_true rfl), (Nat.le_of_ble_eq_true rfl)⟩ hl.1 rfl (Nat.le_of_ble_eq_true rfl) d_L_law_429 (Nat.le_of_ble_eq_true rfl) (Nat.le_of_ble_eq_true rfl) (fun H locs w => ?_)
  have w : Wd D (lA s) s [((qn 5), .inr (6, fA 0 qm)), ((qp 1), .inl (cI, 10, .inl (fun _ => 0))), ((qp 6), .inl (cI, 10, .inl (fun _ => 0))), ((qp 7), .inl (cI, 10, .inl (fun _ => 0))), ((qp 8), .inl (cI, 10, .inl (fun _ => 0))), ((qp 9), .inl (cI, 10, .inl (fun _ => 0))), ((qm 5), .inl (cI, 16, .inl (fun _ => 0))), (o2, .inr (7, fR 0 0 0 0 qr3)), ((qr3 2), .inl (cI, 10, .inl (fun _ => 0))), ((qr3 7), .inl (cI, 10, .inl (fun _ => 0))), ((qr3 33), .inl (cI, 16, .inl (fun _ => 0))), (q4, .inl (cJ, 1, .inr (.inl (fun _ => 0))))] H _ := w
  refine lv_aload_n hx hb d_L_law_432 rfl (lv_at hl 2 rfl) ?_
  refine R_vv C0 w (rest := []) (wr := [((qn 5), .inr (6, fA 0 qm)), ((qp 1), .inl (cI, 10, .inl (fun _ => 0))), ((qp 6), .inl (cI, 10, .inl (fun _ => 0))), ((qp 7), .inl (cI, 10, .inl (fun _ => 0))), ((qp 8), .inl (cI, 10, .inl (fun _ => 0))), ((qp 9), .inl (cI, 10, .inl (fun _ => 0))), ((qm 5), .inl (cI, 16, .inl (fun _ => 0))), ((qr3 2), .inl (cI, 10, .inl (fun _ => 0))), ((qr3 7), .inl (cI, 10, .inl (fun _ => 0))), ((qr3 33), .inl (cI, 16, .inl (fun _ => 0))), (q4, .inl (cJ, 1, .inr (.inl (fun _ => 0))))]) (w1 := [(o2, .inr (7, fR 0 0 0 0 qr3))]) 7 rfl rfl [7] [0, 1, 2, 3, 4, 5, 6, 8, 9, 10, 11] (c_R_clear l D cI cB cJ o2 qr3) rfl rfl rfl rfl (by decide) wd_1003 wd_1000 wd_1001 wd_1002 wd_8 (n9 := 0) (by decide +kernel) rfl ⟨(Nat.le_of_ble_eq_true rfl), (Nat.le_of_ble_eq_true rfl)⟩ hl.1 rfl (Nat.le_of_ble_eq_true rfl) d_L_law_433 (Nat.le_of_ble_eq_true rfl) (Nat.le_of_ble_eq_true rfl) (fun H locs w => ?_)
  have w : Wd D (lA s) s [((qn 5), .inr (6, fA 0 qm)), ((qp 1), .inl (cI, 10, .inl (fun _ => 0))), ((qp 6), .inl (cI, 10, .inl (fun _ => 0))), ((qp 7), .inl (cI, 10, .inl (fun _ => 0))), ((qp 8), .inl (cI, 10, .inl (fun _ => 0))), ((qp 9), .inl (cI, 10, .inl (fun _ => 0))), ((qm 5), .inl (cI, 16, .inl (fun _ => 0))), ((qr3 2), .inl (cI, 10, .inl (fun _ => 0))), ((qr3 7), .inl (cI, 10, .inl (fun _ => 0))), ((qr3 33), .inl (cI, 16, .inl (fun _ => 0))), (q4, .inl (cJ, 1, .inr (.inl (fun _ => 0)))), (o2, .inr (7, fR 0 0 0 0 qr3))] H _ := w
  refine lv_goto (tgt := 993) hx hb d_L_law_436 (by decide) ?_
  exact law_tail C0 hX hbl hr hlk htl (Nat.le_of_ble_eq_true rfl) (Nat.le_of_ble_eq_true rfl) w (lv_sub hl [0, 4] rfl)
set_option maxHeartbeats 4000000 in
set_option maxRecDepth 100000 in
theorem law_case6 {qm : Nat → Nat} {qn : Nat → Nat} {qp : Nat → Nat} {qr3 : Nat → Nat} {o1 : Nat} {o2 : Nat} {q4 : Nat} (C0 : Cx p s m #[Value.ref b] c code 7 "NameForgeLaw" D cI cB cJ) (hX : va_X b 6 xs s s.heap) (hbl : b < s.heap.size) (hr : meth.sig.returnType = ret) (hlk : meth.locks = false) (htl : l.stackTraces = false) (w : Wd D (lA s) s [(o1, .inr (0, fN 0 qn)), ((qn 0), .inr (1, fP 0 qp)), ((qn 5), .inr (6, fA 0 qm)), ((qp 1), .inl (cI, 10, .inl (fun _ => 0))), ((qp 6), .inl (cI, 10, .inl (fun _ => 0))), ((qp 7), .inl (cI, 10, .inl (fun _ => 0))), ((qp 8), .inl (cI, 10, .inl (fun _ => 0))), ((qp 9), .inl (cI, 10, .inl (fun _ => 0))), ((qm 5), .inl (cI, 16, .inl (fun _ => 0))), (o2, .inr (7, fR 0 0 0 0 qr3)), ((qr3 2), .inl (cI, 10, .inl (fun _ => 0))), ((qr3 7), .inl (cI, 10, .inl (fun _ => 0))), ((qr3 33), .inl (cI, 16, .inl (fun _ => 0))), (q4, .inl (cJ, 1, .inr (.inl (fun _ => 0))))] H locs) (hl : lv_has ls 7 [(4, .int 0), (3, .ref q4), (2, .ref o2), (1, .ref o1), (0, .ref b)]) : W p l e room_1 s m #[Value.ref b] below meth c H locs 165 3470 (lw_Z below #[Value.ref b] s) (F0 m 439 ls []) := by
  have hx := C0.1
  have hb := C0.2.1
  have hbA : ¬ lA s b := fun h => absurd hbl (Nat.not_lt.mpr h)
  refine lv_aload_n hx hb d_L_law_439 rfl (lv_at hl 3 rfl) ?_
  refine lv_aload_n hx hb d_L_law_440 rfl (lv_at hl 1 rfl) ?_
  refine R_sh C0 w (rest := []) (wr := [((qn 5), .inr (6, fA 0 qm)), ((qp 1), .inl (cI, 10, .inl (fun _ => 0))), ((qp 6), .inl (cI, 10, .inl (fun _ => 0))), ((qp 7), .inl (cI, 10, .inl (fun _ => 0))), ((qp 8), .inl (cI, 10, .inl (fun _ => 0))), ((qp 9), .inl (cI, 10, .inl (fun _ => 0))), ((qm 5), .inl (cI, 16, .inl (fun _ => 0))), (o2, .inr (7, fR 0 0 0 0 qr3)), ((qr3 2), .inl (cI, 10, .inl (fun _ => 0))), ((qr3 7), .inl (cI, 10, .inl (fun _ => 0))), ((qr3 33), .inl (cI, 16, .inl (fun _ => 0))), (q4, .inl (cJ, 1, .inr (.inl (fun _ => 0))))]) (w1 := []) [0, 1] [2, 3, 4, 5, 6, 7, 8, 9, 10, 11, 12, 13] (c_L_build l D cI cB cJ o1 qn qp q4 htl) rfl rfl rfl rfl (by decide) wd_549 wd_547 wd_548 wd_0 (n9 := 2) (by decide +kernel) rfl ⟨(Nat.le_of_ble_eq_true rfl), (Nat.le_of_ble_eq_true rfl)⟩ hl.1 rfl (Nat.le_of_ble_eq_true rfl) d_L_law_441 (Nat.le_of_ble_eq_true rfl) (Nat.le_of_ble_eq_true rfl) (fun H locs w => ?_)
  refine W.cs (cells' := 166) (slots' := 3476) rfl rfl ?_
  have w : Wd D (lA s) s [((qn 5), .inr (6, fA 0 qm)), ((qp 1), .inl (cI, 10, .inl (fun _ => 0))), ((qp 6), .inl (cI, 10, .inl (fun _ => 0))), ((qp 7), .inl (cI, 10, .inl (fun _ => 0))), ((qp 8), .inl (cI, 10, .inl (fun _ => 0))), ((qp 9), .inl (cI, 10, .inl (fun _ => 0))), ((qm 5), .inl (cI, 16, .inl (fun _ => 0))), (o2, .inr (7, fR 0 0 0 0 qr3)), ((qr3 2), .inl (cI, 10, .inl (fun _ => 0))), ((qr3 7), .inl (cI, 10, .inl (fun _ => 0))), ((qr3 33), .inl (cI, 16, .inl (fun _ => 0))), (q4, .inl (cJ, 1, .inr (.inl (fun _ => 0))))] H _ := w
  refine lv_istore hx hb d_L_law_444 hl (by decide) rfl (fun ls hl => ?_)
  have hl : lv_has ls 7 [(5, .int 1), (4, .int 0), (3, .ref q4), (2, .ref o2), (1, .ref o1), (0, .ref b)] := hl
  refine lv_aload_n hx hb d_L_law_446 rfl (lv_at hl 3 rfl) ?_
  refine R_vi C0 w (rest := []) (wr := [((qn 5), .inr (6, fA 0 qm)), ((qp 1), .inl (cI, 10, .inl (fun _ => 0))), ((qp 6), .inl (cI, 10, .inl (fun _ => 0))), ((qp 7), .inl (cI, 10, .inl (fun _ => 0))), ((qp 8), .inl (cI, 10, .inl (fun _ => 0))), ((qp 9), .inl (cI, 10, .inl (fun _ => 0))), ((qm 5), .inl (cI, 16, .inl (fun _ => 0))), ((qr3 2), .inl (cI, 10, .inl (fun _ => 0))), ((qr3 7), .inl (cI, 10, .inl (fun _ => 0))), ((qr3 33), .inl (cI, 16, .inl (fun _ => 0))), (q4, .inl (cJ, 1, .inr (.inl (fun _ => 0))))]) (w1 := [(o2, .inr (7, fR 1 0 0 0 qr3))]) 7 rfl rfl [7] [0, 1, 2, 3, 4, 5, 6, 8, 9, 10, 11] (c_R_build l D cI cB cJ o2 qr3) rfl rfl rfl rfl (by decide) wd_1007 wd_1004 wd_1005 wd_1006 wd_8 (n9 := 0) (by decide +kernel) rfl ⟨(Nat.le_of_ble_eq_true rfl), (Nat.le_of_ble_eq_true rfl)⟩ hl.1 rfl (Nat.le_of_ble_eq_true rfl) d_L_law_447 (Nat.le_of_ble_eq_true rfl) (Nat.le_of_ble_eq_true rfl) (fun H locs w => ?_)
  have w : Wd D (lA s) s [((qn 5), .inr (6, fA 0 qm)), ((qp 1), .inl (cI, 10, .inl (fun _ => 0))), ((qp 6), .inl (cI, 10, .inl (fun _ => 0))), ((qp 7), .inl (cI, 10, .inl (fun _ => 0))), ((qp 8), .inl (cI, 10, .inl (fun _ => 0))), ((qp 9), .inl (cI, 10, .inl (fun _ => 0))), ((qm 5), .inl (cI, 16, .inl (fun _ => 0))), ((qr3 2), .inl (cI, 10, .inl (fun _ => 0))), ((qr3 7), .inl (cI, 10, .inl (fun _ => 0))), ((qr3 33), .inl (cI, 16, .inl (fun _ => 0))), (q4, .inl (cJ, 1, .inr (.inl (fun _ => 0)))), (o2, .inr (7, fR 1 0 0 0 qr3))] H _ := w
  refine lv_istore hx hb d_L_law_450 hl (by decide) rfl (fun ls hl => ?_)
  have hl : lv_has ls 7 [(6, .int 0), (5, .int 1), (4, .int 0), (3, .ref q4), (2, .ref o2), (1, .ref o1), (0, .ref b)] := hl
  refine lv_aload_n hx hb d_L_law_452 rfl (lv_at hl 4 rfl) ?_
  refine R_ri C0 w (rest := []) 11 rfl rfl [11] (c_thrown l D cI cB cJ o2 qr3 1 0 0 0) rfl rfl wd_955 wd_952 wd_953 wd_954 wd_8 (n9 := 0) (by decide +kernel) rfl ⟨(Nat.le_of_ble_eq_true rfl), (Nat.le_of_ble_eq_true rfl)⟩ hl.1 rfl (Nat.le_of_ble_eq_true rfl) d_L_law_453 (Nat.le_of_ble_eq_true rfl) (Nat.le_of_ble_eq_true rfl) ?_
  refine lv_iload hx hb d_L_law_456 (lv_at hl 1 rfl) ?_
  refine lv_icmp_eq (tgt := 463) hx hb d_L_law_458 (by decide) (fun hc458 => ?_) (fun hc => absurd (by decide) hc)
  refine lv_iload hx hb d_L_law_463 (lv_at hl 1 rfl) ?_
  refine lv_if_ne (tgt := 480) hx hb d_L_law_465 (by decide) (fun hc465 => ?_) (fun hc => absurd hc (by decide))
  refine lv_goto (tgt := 993) hx hb d_L_law_480 (by decide) ?_
  exact law_tail C0 hX hbl hr hlk htl (Nat.le_of_ble_eq_true rfl) (Nat.le_of_ble_eq_true rfl) w (lv_sub hl [2, 6] rfl)
set_option maxHeartbeats 4000000 in
set_option maxRecDepth 100000 in
theorem law_case7 {qm : Nat → Nat} {qn : Nat → Nat} {qp : Nat → Nat} {qr3 : Nat → Nat} {o1 : Nat} {o2 : Nat} {q4 : Nat} (C0 : Cx p s m #[Value.ref b] c code 7 "NameForgeLaw" D cI cB cJ) (hX : va_X b 6 xs s s.heap) (hbl : b < s.heap.size) (hr : meth.sig.returnType = ret) (hlk : meth.locks = false) (htl : l.stackTraces = false) (w : Wd D (lA s) s [(o1, .inr (0, fN 0 qn)), ((qn 0), .inr (1, fP 0 qp)), ((qn 5), .inr (6, fA 0 qm)), ((qp 1), .inl (cI, 10, .inl (fun _ => 0))), ((qp 6), .inl (cI, 10, .inl (fun _ => 0))), ((qp 7), .inl (cI, 10, .inl (fun _ => 0))), ((qp 8), .inl (cI, 10, .inl (fun _ => 0))), ((qp 9), .inl (cI, 10, .inl (fun _ => 0))), ((qm 5), .inl (cI, 16, .inl (fun _ => 0))), (o2, .inr (7, fR 0 0 0 0 qr3)), ((qr3 2), .inl (cI, 10, .inl (fun _ => 0))), ((qr3 7), .inl (cI, 10, .inl (fun _ => 0))), ((qr3 33), .inl (cI, 16, .inl (fun _ => 0))), (q4, .inl (cJ, 1, .inr (.inl (fun _ => 0))))] H locs) (hl : lv_has ls 7 [(4, .int 0), (3, .ref q4), (2, .ref o2), (1, .ref o1), (0, .ref b)]) : W p l e room_1 s m #[Value.ref b] below meth c H locs 165 3470 (lw_Z below #[Value.ref b] s) (F0 m 483 ls []) := by
  have hx := C0.1
  have hb := C0.2.1
  have hbA : ¬ lA s b := fun h => absurd hbl (Nat.not_lt.mpr h)
  refine lv_aload_n hx hb d_L_law_483 rfl (lv_at hl 3 rfl) ?_
  refine lv_aload_n hx hb d_L_law_484 rfl (lv_at hl 4 rfl) ?_
  refine lv_iload hx hb d_L_law_485 (lv_at hl 0 rfl) ?_
  refine lv_iconst (v := 1) hx hb d_L_law_487 (by decide) ?_
  refine lv_iadd hx hb d_L_law_488 ?_
  refine lv_cst (x := 0 + 1) (y := 1) (by decide) ?_
  refine va_sld hx hb hX hbl hbA w.2.2.1 (vin (by decide)) d_L_law_489 ?_
  refine lv_aload_n hx hb d_L_law_490 rfl (lv_at hl 4 rfl) ?_
  refine lv_iload hx hb d_L_law_491 (lv_at hl 0 rfl) ?_
  refine lv_iconst (v := 2) hx hb d_L_law_493 (by decide) ?_
  refine lv_iadd hx hb d_L_law_494 ?_
  refine lv_cst (x := 0 + 2) (y := 2) (by decide) ?_
  refine va_sld hx hb hX hbl hbA w.2.2.1 (vin (by decide)) d_L_law_495 ?_
  refine lv_aload_n hx hb d_L_law_496 rfl (lv_at hl 1 rfl) ?_
  refine R_sh C0 w (rest := []) (wr := [((qn 5), .inr (6, fA 0 qm)), ((qp 1), .inl (cI, 10, .inl (fun _ => 0))), ((qp 6), .inl (cI, 10, .inl (fun _ => 0))), ((qp 7), .inl (cI, 10, .inl (fun _ => 0))), ((qp 8), .inl (cI, 10, .inl (fun _ => 0))), ((qp 9), .inl (cI, 10, .inl (fun _ => 0))), ((qm 5), .inl (cI, 16, .inl (fun _ => 0))), (o2, .inr (7, fR 0 0 0 0 qr3)), ((qr3 2), .inl (cI, 10, .inl (fun _ => 0))), ((qr3 7), .inl (cI, 10, .inl (fun _ => 0))), ((qr3 33), .inl (cI, 16, .inl (fun _ => 0))), (q4, .inl (cJ, 1, .inr (.inl (fun _ => 0))))]) (w1 := []) [0, 1] [2, 3, 4, 5, 6, 7, 8, 9, 10, 11, 12, 13] (c_L_look l D cI cB cJ o1 qn qp (xs (1 : Int32).toNatClampNeg) (xs (2 : Int32).toNatClampNeg) q4 htl) rfl rfl rfl rfl (by decide) wd_690 wd_688 wd_689 wd_0 (n9 := 4) (by decide +kernel) rfl ⟨(Nat.le_of_ble_eq_true rfl), (Nat.le_of_ble_eq_true rfl)⟩ hl.1 rfl (Nat.le_of_ble_eq_true rfl) d_L_law_497 (Nat.le_of_ble_eq_true rfl) (Nat.le_of_ble_eq_true rfl) (fun H locs w => ?_)
  refine W.cs (cells' := 166) (slots' := 3476) rfl rfl ?_
  have w : Wd D (lA s) s [((qn 5), .inr (6, fA 0 qm)), ((qp 1), .inl (cI, 10, .inl (fun _ => 0))), ((qp 6), .inl (cI, 10, .inl (fun _ => 0))), ((qp 7), .inl (cI, 10, .inl (fun _ => 0))), ((qp 8), .inl (cI, 10, .inl (fun _ => 0))), ((qp 9), .inl (cI, 10, .inl (fun _ => 0))), ((qm 5), .inl (cI, 16, .inl (fun _ => 0))), (o2, .inr (7, fR 0 0 0 0 qr3)), ((qr3 2), .inl (cI, 10, .inl (fun _ => 0))), ((qr3 7), .inl (cI, 10, .inl (fun _ => 0))), ((qr3 33), .inl (cI, 16, .inl (fun _ => 0))), (q4, .inl (cJ, 1, .inr (.inl (fun _ => 0))))] H _ := w
  refine lv_istore hx hb d_L_law_500 hl (by decide) rfl (fun ls hl => ?_)
  have hl : lv_has ls 7 [(5, .int 1), (4, .int 0), (3, .ref q4), (2, .ref o2), (1, .ref o1), (0, .ref b)] := hl
  refine lv_aload_n hx hb d_L_law_502 rfl (lv_at hl 3 rfl) ?_
  refine lv_aload_n hx hb d_L_law_503 rfl (lv_at hl 5 rfl) ?_
  refine lv_iload hx hb d_L_law_504 (lv_at hl 1 rfl) ?_
  refine lv_iconst (v := 1) hx hb d_L_law_506 (by decide) ?_
  refine lv_iadd hx hb d_L_law_507 ?_
  refine lv_cst (x := 0 + 1) (y := 1) (by decide) ?_
  refine va_sld hx hb hX hbl hbA w.2.2.1 (vin (by decide)) d_L_law_508 ?_
  refine lv_aload_n hx hb d_L_law_509 rfl (lv_at hl 5 rfl) ?_
  refine lv_iload hx hb d_L_law_510 (lv_at hl 1 rfl) ?_
  refine lv_iconst (v := 2) hx hb d_L_law_512 (by decide) ?_
  refine lv_iadd hx hb d_L_law_513 ?_
  refine lv_cst (x := 0 + 2) (y := 2) (by decide) ?_
  refine va_sld hx hb hX hbl hbA w.2.2.1 (vin (by decide)) d_L_law_514 ?_
  refine R_vi C0 w (rest := []) (wr := [((qn 5), .inr (6, fA 0 qm)), ((qp 1), .inl (cI, 10, .inl (fun _ => 0))), ((qp 6), .inl (cI, 10, .inl (fun _ => 0))), ((qp 7), .inl (cI, 10, .inl (fun _ => 0))), ((qp 8), .inl (cI, 10, .inl (fun _ => 0))), ((qp 9), .inl (cI, 10, .inl (fun _ => 0))), ((qm 5), .inl (cI, 16, .inl (fun _ => 0))), ((qr3 2), .inl (cI, 10, .inl (fun _ => 0))), ((qr3 7), .inl (cI, 10, .inl (fun _ => 0))), ((qr3 33), .inl (cI, 16, .inl (fun _ => 0))), (q4, .inl (cJ, 1, .inr (.inl (fun _ => 0))))]) (w1 := [(o2, .inr (7, fR 1 0 0 0 qr3))]) 7 rfl rfl [7] [0, 1, 2, 3, 4, 5, 6, 8, 9, 10, 11] (c_R_look l D cI cB cJ o2 qr3 (xs (1 : Int32).toNatClampNeg) (xs (2 : Int32).toNatClampNeg)) rfl rfl rfl rfl (by decide) wd_1093 wd_1090 wd_1091 wd_1092 wd_8 (n9 := 2) (by decide +kernel) rfl ⟨(Nat.le_of_ble_eq_true rfl), (Nat.le_of_ble_eq_true rfl)⟩ hl.1 rfl (Nat.le_of_ble_eq_true rfl) d_L_law_515 (Nat.le_of_ble_eq_true rfl) (Nat.le_of_ble_eq_true rfl) (fun H locs w => ?_)
  have w : Wd D (lA s) s [((qn 5), .inr (6, fA 0 qm)), ((qp 1), .inl (cI, 10, .inl (fun _ => 0))), ((qp 6), .inl (cI, 10, .inl (fun _ => 0))), ((qp 7), .inl (cI, 10, .inl (fun _ => 0))), ((qp 8), .inl (cI, 10, .inl (fun _ => 0))), ((qp 9), .inl (cI, 10, .inl (fun _ => 0))), ((qm 5), .inl (cI, 16, .inl (fun _ => 0))), ((qr3 2), .inl (cI, 10, .inl (fun _ => 0))), ((qr3 7), .inl (cI, 10, .inl (fun _ => 0))), ((qr3 33), .inl (cI, 16, .inl (fun _ => 0))), (q4, .inl (cJ, 1, .inr (.inl (fun _ => 0)))), (o2, .inr (7, fR 1 0 0 0 qr3))] H _ := w
  refine lv_istore hx hb d_L_law_518 hl (by decide) rfl (fun ls hl => ?_)
  have hl : lv_has ls 7 [(6, .int 0), (5, .int 1), (4, .int 0), (3, .ref q4), (2, .ref o2), (1, .ref o1), (0, .ref b)] := hl
  refine lv_aload_n hx hb d_L_law_520 rfl (lv_at hl 4 rfl) ?_
  refine R_ri C0 w (rest := []) 11 rfl rfl [11] (c_thrown l D cI cB cJ o2 qr3 1 0 0 0) rfl rfl wd_955 wd_952 wd_953 wd_954 wd_8 (n9 := 0) (by decide +kernel) rfl ⟨(Nat.le_of_ble_eq_true rfl), (Nat.le_of_ble_eq_true rfl)⟩ hl.1 rfl (Nat.le_of_ble_eq_true rfl) d_L_law_521 (Nat.le_of_ble_eq_true rfl) (Nat.le_of_ble_eq_true rfl) ?_
  refine lv_iload hx hb d_L_law_524 (lv_at hl 1 rfl) ?_
  refine lv_icmp_eq (tgt := 531) hx hb d_L_law_526 (by decide) (fun hc526 => ?_) (fun hc => absurd (by decide) hc)
  refine lv_iload hx hb d_L_law_531 (lv_at hl 1 rfl) ?_
  refine lv_if_ne (tgt := 548) hx hb d_L_law_533 (by decide) (fun hc533 => ?_) (fun hc => absurd hc (by decide))
  refine lv_goto (tgt := 993) hx hb d_L_law_548 (by decide) ?_
  exact law_tail C0 hX hbl hr hlk htl (Nat.le_of_ble_eq_true rfl) (Nat.le_of_ble_eq_true rfl) w (lv_sub hl [2, 6] rfl)
set_option maxHeartbeats 4000000 in
set_option maxRecDepth 100000 in
theorem law_case8 {qm : Nat → Nat} {qn : Nat → Nat} {qp : Nat → Nat} {qr3 : Nat → Nat} {o1 : Nat} {o2 : Nat} {q4 : Nat} (C0 : Cx p s m #[Value.ref b] c code 7 "NameForgeLaw" D cI cB cJ) (hX : va_X b 6 xs s s.heap) (hbl : b < s.heap.size) (hr : meth.sig.returnType = ret) (hlk : meth.locks = false) (htl : l.stackTraces = false) (w : Wd D (lA s) s [(o1, .inr (0, fN 0 qn)), ((qn 0), .inr (1, fP 0 qp)), ((qn 5), .inr (6, fA 0 qm)), ((qp 1), .inl (cI, 10, .inl (fun _ => 0))), ((qp 6), .inl (cI, 10, .inl (fun _ => 0))), ((qp 7), .inl (cI, 10, .inl (fun _ => 0))), ((qp 8), .inl (cI, 10, .inl (fun _ => 0))), ((qp 9), .inl (cI, 10, .inl (fun _ => 0))), ((qm 5), .inl (cI, 16, .inl (fun _ => 0))), (o2, .inr (7, fR 0 0 0 0 qr3)), ((qr3 2), .inl (cI, 10, .inl (fun _ => 0))), ((qr3 7), .inl (cI, 10, .inl (fun _ => 0))), ((qr3 33), .inl (cI, 16, .inl (fun _ => 0))), (q4, .inl (cJ, 1, .inr (.inl (fun _ => 0))))] H locs) (hl : lv_has ls 7 [(4, .int 0), (3, .ref q4), (2, .ref o2), (1, .ref o1), (0, .ref b)]) : W p l e room_1 s m #[Value.ref b] below meth c H locs 165 3470 (lw_Z below #[Value.ref b] s) (F0 m 551 ls []) := by
  have hx := C0.1
  have hb := C0.2.1
  have hbA : ¬ lA s b := fun h => absurd hbl (Nat.not_lt.mpr h)
  refine lv_aload_n hx hb d_L_law_551 rfl (lv_at hl 3 rfl) ?_
  refine lv_aload_n hx hb d_L_law_552 rfl (lv_at hl 4 rfl) ?_
  refine lv_iload hx hb d_L_law_553 (lv_at hl 0 rfl) ?_
  refine lv_iconst (v := 1) hx hb d_L_law_555 (by decide) ?_
  refine lv_iadd hx hb d_L_law_556 ?_
  refine lv_cst (x := 0 + 1) (y := 1) (by decide) ?_
  refine va_sld hx hb hX hbl hbA w.2.2.1 (vin (by decide)) d_L_law_557 ?_
  refine lv_aload_n hx hb d_L_law_558 rfl (lv_at hl 4 rfl) ?_
  refine lv_iload hx hb d_L_law_559 (lv_at hl 0 rfl) ?_
  refine lv_iconst (v := 2) hx hb d_L_law_561 (by decide) ?_
  refine lv_iadd hx hb d_L_law_562 ?_
  refine lv_cst (x := 0 + 2) (y := 2) (by decide) ?_
  refine va_sld hx hb hX hbl hbA w.2.2.1 (vin (by decide)) d_L_law_563 ?_
  refine lv_aload_n hx hb d_L_law_564 rfl (lv_at hl 4 rfl) ?_
  refine lv_iload hx hb d_L_law_565 (lv_at hl 0 rfl) ?_
  refine lv_iconst (v := 3) hx hb d_L_law_567 (by decide) ?_
  refine lv_iadd hx hb d_L_law_568 ?_
  refine lv_cst (x := 0 + 3) (y := 3) (by decide) ?_
  refine va_sld hx hb hX hbl hbA w.2.2.1 (vin (by decide)) d_L_law_569 ?_
  refine lv_aload_n hx hb d_L_law_570 rfl (lv_at hl 1 rfl) ?_
  refine R_sh C0 w (rest := []) (wr := [((qn 0), .inr (1, fP 0 qp)), ((qn 5), .inr (6, fA 0 qm)), ((qp 1), .inl (cI, 10, .inl (fun _ => 0))), ((qp 6), .inl (cI, 10, .inl (fun _ => 0))), ((qp 7), .inl (cI, 10, .inl (fun _ => 0))), ((qp 8), .inl (cI, 10, .inl (fun _ => 0))), ((qp 9), .inl (cI, 10, .inl (fun _ => 0))), ((qm 5), .inl (cI, 16, .inl (fun _ => 0))), (o2, .inr (7, fR 0 0 0 0 qr3)), ((qr3 2), .inl (cI, 10, .inl (fun _ => 0))), ((qr3 7), .inl (cI, 10, .inl (fun _ => 0))), ((qr3 33), .inl (cI, 16, .inl (fun _ => 0))), (q4, .inl (cJ, 1, .inr (.inl (fun _ => 0))))]) (w1 := []) [0] [1, 2, 3, 4, 5, 6, 7, 8, 9, 10, 11, 12, 13] (c_L_phi l D cI cB cJ o1 qn (xs (1 : Int32).toNatClampNeg) (xs (2 : Int32).toNatClampNeg) (xs (3 : Int32).toNatClampNeg) q4 htl) rfl rfl rfl rfl (by decide) wd_722 wd_720 wd_721 wd_0 (n9 := 5) (by decide +kernel) rfl ⟨(Nat.le_of_ble_eq_true rfl), (Nat.le_of_ble_eq_true rfl)⟩ hl.1 rfl (Nat.le_of_ble_eq_true rfl) d_L_law_571 (Nat.le_of_ble_eq_true rfl) (Nat.le_of_ble_eq_true rfl) (fun H locs w => ?_)
  refine W.cs (cells' := 166) (slots' := 3476) rfl rfl ?_
  have w : Wd D (lA s) s [((qn 0), .inr (1, fP 0 qp)), ((qn 5), .inr (6, fA 0 qm)), ((qp 1), .inl (cI, 10, .inl (fun _ => 0))), ((qp 6), .inl (cI, 10, .inl (fun _ => 0))), ((qp 7), .inl (cI, 10, .inl (fun _ => 0))), ((qp 8), .inl (cI, 10, .inl (fun _ => 0))), ((qp 9), .inl (cI, 10, .inl (fun _ => 0))), ((qm 5), .inl (cI, 16, .inl (fun _ => 0))), (o2, .inr (7, fR 0 0 0 0 qr3)), ((qr3 2), .inl (cI, 10, .inl (fun _ => 0))), ((qr3 7), .inl (cI, 10, .inl (fun _ => 0))), ((qr3 33), .inl (cI, 16, .inl (fun _ => 0))), (q4, .inl (cJ, 1, .inr (.inl (fun _ => 0))))] H _ := w
  refine lv_istore hx hb d_L_law_574 hl (by decide) rfl (fun ls hl => ?_)
  have hl : lv_has ls 7 [(5, .int 2), (4, .int 0), (3, .ref q4), (2, .ref o2), (1, .ref o1), (0, .ref b)] := hl
  refine lv_aload_n hx hb d_L_law_576 rfl (lv_at hl 3 rfl) ?_
  refine lv_aload_n hx hb d_L_law_577 rfl (lv_at hl 5 rfl) ?_
  refine lv_iload hx hb d_L_law_578 (lv_at hl 1 rfl) ?_
  refine lv_iconst (v := 1) hx hb d_L_law_580 (by decide) ?_
  refine lv_iadd hx hb d_L_law_581 ?_
  refine lv_cst (x := 0 + 1) (y := 1) (by decide) ?_
  refine va_sld hx hb hX hbl hbA w.2.2.1 (vin (by decide)) d_L_law_582 ?_
  refine lv_aload_n hx hb d_L_law_583 rfl (lv_at hl 5 rfl) ?_
  refine lv_iload hx hb d_L_law_584 (lv_at hl 1 rfl) ?_
  refine lv_iconst (v := 2) hx hb d_L_law_586 (by decide) ?_
  refine lv_iadd hx hb d_L_law_587 ?_
  refine lv_cst (x := 0 + 2) (y := 2) (by decide) ?_
  refine va_sld hx hb hX hbl hbA w.2.2.1 (vin (by decide)) d_L_law_588 ?_
  refine lv_aload_n hx hb d_L_law_589 rfl (lv_at hl 5 rfl) ?_
  refine lv_iload hx hb d_L_law_590 (lv_at hl 1 rfl) ?_
  refine lv_iconst (v := 3) hx hb d_L_law_592 (by decide) ?_
  refine lv_iadd hx hb d_L_law_593 ?_
  refine lv_cst (x := 0 + 3) (y := 3) (by decide) ?_
  refine va_sld hx hb hX hbl hbA w.2.2.1 (vin (by decide)) d_L_law_594 ?_
  refine R_vi C0 w (rest := []) (wr := [((qn 0), .inr (1, fP 0 qp)), ((qn 5), .inr (6, fA 0 qm)), ((qp 1), .inl (cI, 10, .inl (fun _ => 0))), ((qp 6), .inl (cI, 10, .inl (fun _ => 0))), ((qp 7), .inl (cI, 10, .inl (fun _ => 0))), ((qp 8), .inl (cI, 10, .inl (fun _ => 0))), ((qp 9), .inl (cI, 10, .inl (fun _ => 0))), ((qm 5), .inl (cI, 16, .inl (fun _ => 0))), ((qr3 2), .inl (cI, 10, .inl (fun _ => 0))), ((qr3 7), .inl (cI, 10, .inl (fun _ => 0))), ((qr3 33), .inl (cI, 16, .inl (fun _ => 0))), (q4, .inl (cJ, 1, .inr (.inl (fun _ => 0))))]) (w1 := [(o2, .inr (7, fR 2 0 0 0 qr3))]) 8 rfl rfl [8] [0, 1, 2, 3, 4, 5, 6, 7, 9, 10, 11, 12] (c_R_phi l D cI cB cJ o2 qr3 (xs (1 : Int32).toNatClampNeg) (xs (2 : Int32).toNatClampNeg) (xs (3 : Int32).toNatClampNeg)) rfl rfl rfl rfl (by decide) wd_1097 wd_1094 wd_1095 wd_1096 wd_8 (n9 := 3) (by decide +kernel) rfl ⟨(Nat.le_of_ble_eq_true rfl), (Nat.le_of_ble_eq_true rfl)⟩ hl.1 rfl (Nat.le_of_ble_eq_true rfl) d_L_law_595 (Nat.le_of_ble_eq_true rfl) (Nat.le_of_ble_eq_true rfl) (fun H locs w => ?_)
  have w : Wd D (lA s) s [((qn 0), .inr (1, fP 0 qp)), ((qn 5), .inr (6, fA 0 qm)), ((qp 1), .inl (cI, 10, .inl (fun _ => 0))), ((qp 6), .inl (cI, 10, .inl (fun _ => 0))), ((qp 7), .inl (cI, 10, .inl (fun _ => 0))), ((qp 8), .inl (cI, 10, .inl (fun _ => 0))), ((qp 9), .inl (cI, 10, .inl (fun _ => 0))), ((qm 5), .inl (cI, 16, .inl (fun _ => 0))), ((qr3 2), .inl (cI, 10, .inl (fun _ => 0))), ((qr3 7), .inl (cI, 10, .inl (fun _ => 0))), ((qr3 33), .inl (cI, 16, .inl (fun _ => 0))), (q4, .inl (cJ, 1, .inr (.inl (fun _ => 0)))), (o2, .inr (7, fR 2 0 0 0 qr3))] H _ := w
  refine lv_istore hx hb d_L_law_598 hl (by decide) rfl (fun ls hl => ?_)
  have hl : lv_has ls 7 [(6, .int 0), (5, .int 2), (4, .int 0), (3, .ref q4), (2, .ref o2), (1, .ref o1), (0, .ref b)] := hl
  refine lv_aload_n hx hb d_L_law_600 rfl (lv_at hl 4 rfl) ?_
  refine R_ri C0 w (rest := []) 12 rfl rfl [12] (c_thrown l D cI cB cJ o2 qr3 2 0 0 0) rfl rfl wd_955 wd_952 wd_953 wd_954 wd_8 (n9 := 0) (by decide +kernel) rfl ⟨(Nat.le_of_ble_eq_true rfl), (Nat.le_of_ble_eq_true rfl)⟩ hl.1 rfl (Nat.le_of_ble_eq_true rfl) d_L_law_601 (Nat.le_of_ble_eq_true rfl) (Nat.le_of_ble_eq_true rfl) ?_
  refine lv_iload hx hb d_L_law_604 (lv_at hl 1 rfl) ?_
  refine lv_icmp_eq (tgt := 611) hx hb d_L_law_606 (by decide) (fun hc606 => ?_) (fun hc => absurd (by decide) hc)
  refine lv_iload hx hb d_L_law_611 (lv_at hl 1 rfl) ?_
  refine lv_if_ne (tgt := 628) hx hb d_L_law_613 (by decide) (fun hc613 => ?_) (fun hc => absurd hc (by decide))
  refine lv_goto (tgt := 993) hx hb d_L_law_628 (by decide) ?_
  exact law_tail C0 hX hbl hr hlk htl (Nat.le_of_ble_eq_true rfl) (Nat.le_of_ble_eq_true rfl) w (lv_sub hl [2, 6] rfl)
set_option maxHeartbeats 4000000 in
set_option maxRecDepth 100000 in
theorem law_case9 {qm : Nat → Nat} {qn : Nat → Nat} {qp : Nat → Nat} {qr3 : Nat → Nat} {o1 : Nat} {o2 : Nat} {q4 : Nat} (C0 : Cx p s m #[Value.ref b] c code 7 "NameForgeLaw" D cI cB cJ) (hX : va_X b 6 xs s s.heap) (hbl : b < s.heap.size) (hr : meth.sig.returnType = ret) (hlk : meth.locks = false) (htl : l.stackTraces = false) (w : Wd D (lA s) s [(o1, .inr (0, fN 0 qn)), ((qn 0), .inr (1, fP 0 qp)), ((qn 5), .inr (6, fA 0 qm)), ((qp 1), .inl (cI, 10, .inl (fun _ => 0))), ((qp 6), .inl (cI, 10, .inl (fun _ => 0))), ((qp 7), .inl (cI, 10, .inl (fun _ => 0))), ((qp 8), .inl (cI, 10, .inl (fun _ => 0))), ((qp 9), .inl (cI, 10, .inl (fun _ => 0))), ((qm 5), .inl (cI, 16, .inl (fun _ => 0))), (o2, .inr (7, fR 0 0 0 0 qr3)), ((qr3 2), .inl (cI, 10, .inl (fun _ => 0))), ((qr3 7), .inl (cI, 10, .inl (fun _ => 0))), ((qr3 33), .inl (cI, 16, .inl (fun _ => 0))), (q4, .inl (cJ, 1, .inr (.inl (fun _ => 0))))] H locs) (hl : lv_has ls 7 [(4, .int 0), (3, .ref q4), (2, .ref o2), (1, .ref o1), (0, .ref b)]) : W p l e room_1 s m #[Value.ref b] below meth c H locs 165 3470 (lw_Z below #[Value.ref b] s) (F0 m 631 ls []) := by
  have hx := C0.1
  have hb := C0.2.1
  have hbA : ¬ lA s b := fun h => absurd hbl (Nat.not_lt.mpr h)
  refine lv_aload_n hx hb d_L_law_631 rfl (lv_at hl 3 rfl) ?_
  refine lv_aload_n hx hb d_L_law_632 rfl (lv_at hl 4 rfl) ?_
  refine lv_iload hx hb d_L_law_633 (lv_at hl 0 rfl) ?_
  refine lv_iconst (v := 1) hx hb d_L_law_635 (by decide) ?_
  refine lv_iadd hx hb d_L_law_636 ?_
  refine lv_cst (x := 0 + 1) (y := 1) (by decide) ?_
  refine va_sld hx hb hX hbl hbA w.2.2.1 (vin (by decide)) d_L_law_637 ?_
  refine lv_aload_n hx hb d_L_law_638 rfl (lv_at hl 4 rfl) ?_
  refine lv_iload hx hb d_L_law_639 (lv_at hl 0 rfl) ?_
  refine lv_iconst (v := 2) hx hb d_L_law_641 (by decide) ?_
  refine lv_iadd hx hb d_L_law_642 ?_
  refine lv_cst (x := 0 + 2) (y := 2) (by decide) ?_
  refine va_sld hx hb hX hbl hbA w.2.2.1 (vin (by decide)) d_L_law_643 ?_
  refine lv_aload_n hx hb d_L_law_644 rfl (lv_at hl 4 rfl) ?_
  refine lv_iload hx hb d_L_law_645 (lv_at hl 0 rfl) ?_
  refine lv_iconst (v := 3) hx hb d_L_law_647 (by decide) ?_
  refine lv_iadd hx hb d_L_law_648 ?_
  refine lv_cst (x := 0 + 3) (y := 3) (by decide) ?_
  refine va_sld hx hb hX hbl hbA w.2.2.1 (vin (by decide)) d_L_law_649 ?_
  refine lv_aload_n hx hb d_L_law_650 rfl (lv_at hl 1 rfl) ?_
  refine R_sh C0 w (rest := []) (wr := [((qn 0), .inr (1, fP 0 qp)), ((qn 5), .inr (6, fA 0 qm)), ((qp 1), .inl (cI, 10, .inl (fun _ => 0))), ((qp 6), .inl (cI, 10, .inl (fun _ => 0))), ((qp 7), .inl (cI, 10, .inl (fun _ => 0))), ((qp 8), .inl (cI, 10, .inl (fun _ => 0))), ((qp 9), .inl (cI, 10, .inl (fun _ => 0))), ((qm 5), .inl (cI, 16, .inl (fun _ => 0))), (o2, .inr (7, fR 0 0 0 0 qr3)), ((qr3 2), .inl (cI, 10, .inl (fun _ => 0))), ((qr3 7), .inl (cI, 10, .inl (fun _ => 0))), ((qr3 33), .inl (cI, 16, .inl (fun _ => 0))), (q4, .inl (cJ, 1, .inr (.inl (fun _ => 0))))]) (w1 := []) [0] [1, 2, 3, 4, 5, 6, 7, 8, 9, 10, 11, 12, 13] (c_L_uses l D cI cB cJ o1 qn (xs (1 : Int32).toNatClampNeg) (xs (2 : Int32).toNatClampNeg) (xs (3 : Int32).toNatClampNeg) q4 htl) rfl rfl rfl rfl (by decide) wd_738 wd_736 wd_737 wd_0 (n9 := 5) (by decide +kernel) rfl ⟨(Nat.le_of_ble_eq_true rfl), (Nat.le_of_ble_eq_true rfl)⟩ hl.1 rfl (Nat.le_of_ble_eq_true rfl) d_L_law_651 (Nat.le_of_ble_eq_true rfl) (Nat.le_of_ble_eq_true rfl) (fun H locs w => ?_)
  refine W.cs (cells' := 166) (slots' := 3476) rfl rfl ?_
  have w : Wd D (lA s) s [((qn 0), .inr (1, fP 0 qp)), ((qn 5), .inr (6, fA 0 qm)), ((qp 1), .inl (cI, 10, .inl (fun _ => 0))), ((qp 6), .inl (cI, 10, .inl (fun _ => 0))), ((qp 7), .inl (cI, 10, .inl (fun _ => 0))), ((qp 8), .inl (cI, 10, .inl (fun _ => 0))), ((qp 9), .inl (cI, 10, .inl (fun _ => 0))), ((qm 5), .inl (cI, 16, .inl (fun _ => 0))), (o2, .inr (7, fR 0 0 0 0 qr3)), ((qr3 2), .inl (cI, 10, .inl (fun _ => 0))), ((qr3 7), .inl (cI, 10, .inl (fun _ => 0))), ((qr3 33), .inl (cI, 16, .inl (fun _ => 0))), (q4, .inl (cJ, 1, .inr (.inl (fun _ => 0))))] H _ := w
  refine lv_istore hx hb d_L_law_654 hl (by decide) rfl (fun ls hl => ?_)
  have hl : lv_has ls 7 [(5, .int 2), (4, .int 0), (3, .ref q4), (2, .ref o2), (1, .ref o1), (0, .ref b)] := hl
  refine lv_aload_n hx hb d_L_law_656 rfl (lv_at hl 3 rfl) ?_
  refine lv_aload_n hx hb d_L_law_657 rfl (lv_at hl 5 rfl) ?_
  refine lv_iload hx hb d_L_law_658 (lv_at hl 1 rfl) ?_
  refine lv_iconst (v := 1) hx hb d_L_law_660 (by decide) ?_
  refine lv_iadd hx hb d_L_law_661 ?_
  refine lv_cst (x := 0 + 1) (y := 1) (by decide) ?_
  refine va_sld hx hb hX hbl hbA w.2.2.1 (vin (by decide)) d_L_law_662 ?_
  refine lv_aload_n hx hb d_L_law_663 rfl (lv_at hl 5 rfl) ?_
  refine lv_iload hx hb d_L_law_664 (lv_at hl 1 rfl) ?_
  refine lv_iconst (v := 2) hx hb d_L_law_666 (by decide) ?_
  refine lv_iadd hx hb d_L_law_667 ?_
  refine lv_cst (x := 0 + 2) (y := 2) (by decide) ?_
  refine va_sld hx hb hX hbl hbA w.2.2.1 (vin (by decide)) d_L_law_668 ?_
  refine lv_aload_n hx hb d_L_law_669 rfl (lv_at hl 5 rfl) ?_
  refine lv_iload hx hb d_L_law_670 (lv_at hl 1 rfl) ?_
  refine lv_iconst (v := 3) hx hb d_L_law_672 (by decide) ?_
  refine lv_iadd hx hb d_L_law_673 ?_
  refine lv_cst (x := 0 + 3) (y := 3) (by decide) ?_
  refine va_sld hx hb hX hbl hbA w.2.2.1 (vin (by decide)) d_L_law_674 ?_
  refine R_vi C0 w (rest := []) (wr := [((qn 0), .inr (1, fP 0 qp)), ((qn 5), .inr (6, fA 0 qm)), ((qp 1), .inl (cI, 10, .inl (fun _ => 0))), ((qp 6), .inl (cI, 10, .inl (fun _ => 0))), ((qp 7), .inl (cI, 10, .inl (fun _ => 0))), ((qp 8), .inl (cI, 10, .inl (fun _ => 0))), ((qp 9), .inl (cI, 10, .inl (fun _ => 0))), ((qm 5), .inl (cI, 16, .inl (fun _ => 0))), ((qr3 2), .inl (cI, 10, .inl (fun _ => 0))), ((qr3 7), .inl (cI, 10, .inl (fun _ => 0))), ((qr3 33), .inl (cI, 16, .inl (fun _ => 0))), (q4, .inl (cJ, 1, .inr (.inl (fun _ => 0))))]) (w1 := [(o2, .inr (7, fR 2 0 0 0 qr3))]) 8 rfl rfl [8] [0, 1, 2, 3, 4, 5, 6, 7, 9, 10, 11, 12] (c_R_uses l D cI cB cJ o2 qr3 (xs (1 : Int32).toNatClampNeg) (xs (2 : Int32).toNatClampNeg) (xs (3 : Int32).toNatClampNeg)) rfl rfl rfl rfl (by decide) wd_1105 wd_1102 wd_1103 wd_1104 wd_8 (n9 := 3) (by decide +kernel) rfl ⟨(Nat.le_of_ble_eq_true rfl), (Nat.le_of_ble_eq_true rfl)⟩ hl.1 rfl (Nat.le_of_ble_eq_true rfl) d_L_law_675 (Nat.le_of_ble_eq_true rfl) (Nat.le_of_ble_eq_true rfl) (fun H locs w => ?_)
  have w : Wd D (lA s) s [((qn 0), .inr (1, fP 0 qp)), ((qn 5), .inr (6, fA 0 qm)), ((qp 1), .inl (cI, 10, .inl (fun _ => 0))), ((qp 6), .inl (cI, 10, .inl (fun _ => 0))), ((qp 7), .inl (cI, 10, .inl (fun _ => 0))), ((qp 8), .inl (cI, 10, .inl (fun _ => 0))), ((qp 9), .inl (cI, 10, .inl (fun _ => 0))), ((qm 5), .inl (cI, 16, .inl (fun _ => 0))), ((qr3 2), .inl (cI, 10, .inl (fun _ => 0))), ((qr3 7), .inl (cI, 10, .inl (fun _ => 0))), ((qr3 33), .inl (cI, 16, .inl (fun _ => 0))), (q4, .inl (cJ, 1, .inr (.inl (fun _ => 0)))), (o2, .inr (7, fR 2 0 0 0 qr3))] H _ := w
  refine lv_istore hx hb d_L_law_678 hl (by decide) rfl (fun ls hl => ?_)
  have hl : lv_has ls 7 [(6, .int 0), (5, .int 2), (4, .int 0), (3, .ref q4), (2, .ref o2), (1, .ref o1), (0, .ref b)] := hl
  refine lv_aload_n hx hb d_L_law_680 rfl (lv_at hl 4 rfl) ?_
  refine R_ri C0 w (rest := []) 12 rfl rfl [12] (c_thrown l D cI cB cJ o2 qr3 2 0 0 0) rfl rfl wd_955 wd_952 wd_953 wd_954 wd_8 (n9 := 0) (by decide +kernel) rfl ⟨(Nat.le_of_ble_eq_true rfl), (Nat.le_of_ble_eq_true rfl)⟩ hl.1 rfl (Nat.le_of_ble_eq_true rfl) d_L_law_681 (Nat.le_of_ble_eq_true rfl) (Nat.le_of_ble_eq_true rfl) ?_
  refine lv_iload hx hb d_L_law_684 (lv_at hl 1 rfl) ?_
  refine lv_icmp_eq (tgt := 691) hx hb d_L_law_686 (by decide) (fun hc686 => ?_) (fun hc => absurd (by decide) hc)
  refine lv_iload hx hb d_L_law_691 (lv_at hl 1 rfl) ?_
  refine lv_if_ne (tgt := 708) hx hb d_L_law_693 (by decide) (fun hc693 => ?_) (fun hc => absurd hc (by decide))
  refine lv_goto (tgt := 993) hx hb d_L_law_708 (by decide) ?_
  exact law_tail C0 hX hbl hr hlk htl (Nat.le_of_ble_eq_true rfl) (Nat.le_of_ble_eq_true rfl) w (lv_sub hl [2, 6] rfl)
set_option maxHeartbeats 4000000 in
set_option maxRecDepth 100000 in
theorem law_case10 {qm : Nat → Nat} {qn : Nat → Nat} {qp : Nat → Nat} {qr3 : Nat → Nat} {o1 : Nat} {o2 : Nat} {q4 : Nat} (C0 : Cx p s m #[Value.ref b] c code 7 "NameForgeLaw" D cI cB cJ) (hX : va_X b 6 xs s s.heap) (hbl : b < s.heap.size) (hr : meth.sig.returnType = ret) (hlk : meth.locks = false) (htl : l.stackTraces = false) (w : Wd D (lA s) s [(o1, .inr (0, fN 0 qn)), ((qn 0), .inr (1, fP 0 qp)), ((qn 5), .inr (6, fA 0 qm)), ((qp 1), .inl (cI, 10, .inl (fun _ => 0))), ((qp 6), .inl (cI, 10, .inl (fun _ => 0))), ((qp 7), .inl (cI, 10, .inl (fun _ => 0))), ((qp 8), .inl (cI, 10, .inl (fun _ => 0))), ((qp 9), .inl (cI, 10, .inl (fun _ => 0))), ((qm 5), .inl (cI, 16, .inl (fun _ => 0))), (o2, .inr (7, fR 0 0 0 0 qr3)), ((qr3 2), .inl (cI, 10, .inl (fun _ => 0))), ((qr3 7), .inl (cI, 10, .inl (fun _ => 0))), ((qr3 33), .inl (cI, 16, .inl (fun _ => 0))), (q4, .inl (cJ, 1, .inr (.inl (fun _ => 0))))] H locs) (hl : lv_has ls 7 [(4, .int 0), (3, .ref q4), (2, .ref o2), (1, .ref o1), (0, .ref b)]) : W p l e room_1 s m #[Value.ref b] below meth c H locs 165 3470 (lw_Z below #[Value.ref b] s) (F0 m 711 ls []) := by
  have hx := C0.1
  have hb := C0.2.1
  have hbA : ¬ lA s b := fun h => absurd hbl (Nat.not_lt.mpr h)
  refine lv_aload_n hx hb d_L_law_711 rfl (lv_at hl 3 rfl) ?_
  refine lv_aload_n hx hb d_L_law_712 rfl (lv_at hl 4 rfl) ?_
  refine lv_iload hx hb d_L_law_713 (lv_at hl 0 rfl) ?_
  refine lv_iconst (v := 1) hx hb d_L_law_715 (by decide) ?_
  refine lv_iadd hx hb d_L_law_716 ?_
  refine lv_cst (x := 0 + 1) (y := 1) (by decide) ?_
  refine va_sld hx hb hX hbl hbA w.2.2.1 (vin (by decide)) d_L_law_717 ?_
  refine lv_aload_n hx hb d_L_law_718 rfl (lv_at hl 4 rfl) ?_
  refine lv_iload hx hb d_L_law_719 (lv_at hl 0 rfl) ?_
  refine lv_iconst (v := 2) hx hb d_L_law_721 (by decide) ?_
  refine lv_iadd hx hb d_L_law_722 ?_
  refine lv_cst (x := 0 + 2) (y := 2) (by decide) ?_
  refine va_sld hx hb hX hbl hbA w.2.2.1 (vin (by decide)) d_L_law_723 ?_
  refine lv_aload_n hx hb d_L_law_724 rfl (lv_at hl 1 rfl) ?_
  refine R_sh C0 w (rest := []) (wr := [((qn 0), .inr (1, fP 0 qp)), ((qn 5), .inr (6, fA 0 qm)), ((qp 1), .inl (cI, 10, .inl (fun _ => 0))), ((qp 6), .inl (cI, 10, .inl (fun _ => 0))), ((qp 7), .inl (cI, 10, .inl (fun _ => 0))), ((qp 8), .inl (cI, 10, .inl (fun _ => 0))), ((qp 9), .inl (cI, 10, .inl (fun _ => 0))), ((qm 5), .inl (cI, 16, .inl (fun _ => 0))), (o2, .inr (7, fR 0 0 0 0 qr3)), ((qr3 2), .inl (cI, 10, .inl (fun _ => 0))), ((qr3 7), .inl (cI, 10, .inl (fun _ => 0))), ((qr3 33), .inl (cI, 16, .inl (fun _ => 0))), (q4, .inl (cJ, 1, .inr (.inl (fun _ => 0))))]) (w1 := []) [0] [1, 2, 3, 4, 5, 6, 7, 8, 9, 10, 11, 12, 13] (c_L_name l D cI cB cJ o1 qn (xs (1 : Int32).toNatClampNeg) (xs (2 : Int32).toNatClampNeg) q4 htl) rfl rfl rfl rfl (by decide) wd_750 wd_748 wd_749 wd_0 (n9 := 4) (by decide +kernel) rfl ⟨(Nat.le_of_ble_eq_true rfl), (Nat.le_of_ble_eq_true rfl)⟩ hl.1 rfl (Nat.le_of_ble_eq_true rfl) d_L_law_725 (Nat.le_of_ble_eq_true rfl) (Nat.le_of_ble_eq_true rfl) (fun H locs w => ?_)
  refine W.cs (cells' := 166) (slots' := 3476) rfl rfl ?_
  have w : Wd D (lA s) s [((qn 0), .inr (1, fP 0 qp)), ((qn 5), .inr (6, fA 0 qm)), ((qp 1), .inl (cI, 10, .inl (fun _ => 0))), ((qp 6), .inl (cI, 10, .inl (fun _ => 0))), ((qp 7), .inl (cI, 10, .inl (fun _ => 0))), ((qp 8), .inl (cI, 10, .inl (fun _ => 0))), ((qp 9), .inl (cI, 10, .inl (fun _ => 0))), ((qm 5), .inl (cI, 16, .inl (fun _ => 0))), (o2, .inr (7, fR 0 0 0 0 qr3)), ((qr3 2), .inl (cI, 10, .inl (fun _ => 0))), ((qr3 7), .inl (cI, 10, .inl (fun _ => 0))), ((qr3 33), .inl (cI, 16, .inl (fun _ => 0))), (q4, .inl (cJ, 1, .inr (.inl (fun _ => 0))))] H _ := w
  refine lv_istore hx hb d_L_law_728 hl (by decide) rfl (fun ls hl => ?_)
  have hl : lv_has ls 7 [(5, .int 2), (4, .int 0), (3, .ref q4), (2, .ref o2), (1, .ref o1), (0, .ref b)] := hl
  refine lv_aload_n hx hb d_L_law_730 rfl (lv_at hl 3 rfl) ?_
  refine lv_aload_n hx hb d_L_law_731 rfl (lv_at hl 5 rfl) ?_
  refine lv_iload hx hb d_L_law_732 (lv_at hl 1 rfl) ?_
  refine lv_iconst (v := 1) hx hb d_L_law_734 (by decide) ?_
  refine lv_iadd hx hb d_L_law_735 ?_
  refine lv_cst (x := 0 + 1) (y := 1) (by decide) ?_
  refine va_sld hx hb hX hbl hbA w.2.2.1 (vin (by decide)) d_L_law_736 ?_
  refine lv_aload_n hx hb d_L_law_737 rfl (lv_at hl 5 rfl) ?_
  refine lv_iload hx hb d_L_law_738 (lv_at hl 1 rfl) ?_
  refine lv_iconst (v := 2) hx hb d_L_law_740 (by decide) ?_
  refine lv_iadd hx hb d_L_law_741 ?_
  refine lv_cst (x := 0 + 2) (y := 2) (by decide) ?_
  refine va_sld hx hb hX hbl hbA w.2.2.1 (vin (by decide)) d_L_law_742 ?_
  refine R_vi C0 w (rest := []) (wr := [((qn 0), .inr (1, fP 0 qp)), ((qn 5), .inr (6, fA 0 qm)), ((qp 1), .inl (cI, 10, .inl (fun _ => 0))), ((qp 6), .inl (cI, 10, .inl (fun _ => 0))), ((qp 7), .inl (cI, 10, .inl (fun _ => 0))), ((qp 8), .inl (cI, 10, .inl (fun _ => 0))), ((qp 9), .inl (cI, 10, .inl (fun _ => 0))), ((qm 5), .inl (cI, 16, .inl (fun _ => 0))), ((qr3 2), .inl (cI, 10, .inl (fun _ => 0))), ((qr3 7), .inl (cI, 10, .inl (fun _ => 0))), ((qr3 33), .inl (cI, 16, .inl (fun _ => 0))), (q4, .inl (cJ, 1, .inr (.inl (fun _ => 0))))]) (w1 := [(o2, .inr (7, fR 2 0 0 0 qr3))]) 8 rfl rfl [8] [0, 1, 2, 3, 4, 5, 6, 7, 9, 10, 11, 12] (c_R_name l D cI cB cJ o2 qr3 (xs (1 : Int32).toNatClampNeg) (xs (2 : Int32).toNatClampNeg)) rfl rfl rfl rfl (by decide) wd_1109 wd_1106 wd_1107 wd_1108 wd_8 (n9 := 2) (by decide +kernel) rfl ⟨(Nat.le_of_ble_eq_true rfl), (Nat.le_of_ble_eq_true rfl)⟩ hl.1 rfl (Nat.le_of_ble_eq_true rfl) d_L_law_743 (Nat.le_of_ble_eq_true rfl) (Nat.le_of_ble_eq_true rfl) (fun H locs w => ?_)
  have w : Wd D (lA s) s [((qn 0), .inr (1, fP 0 qp)), ((qn 5), .inr (6, fA 0 qm)), ((qp 1), .inl (cI, 10, .inl (fun _ => 0))), ((qp 6), .inl (cI, 10, .inl (fun _ => 0))), ((qp 7), .inl (cI, 10, .inl (fun _ => 0))), ((qp 8), .inl (cI, 10, .inl (fun _ => 0))), ((qp 9), .inl (cI, 10, .inl (fun _ => 0))), ((qm 5), .inl (cI, 16, .inl (fun _ => 0))), ((qr3 2), .inl (cI, 10, .inl (fun _ => 0))), ((qr3 7), .inl (cI, 10, .inl (fun _ => 0))), ((qr3 33), .inl (cI, 16, .inl (fun _ => 0))), (q4, .inl (cJ, 1, .inr (.inl (fun _ => 0)))), (o2, .inr (7, fR 2 0 0 0 qr3))] H _ := w
  refine lv_istore hx hb d_L_law_746 hl (by decide) rfl (fun ls hl => ?_)
  have hl : lv_has ls 7 [(6, .int 0), (5, .int 2), (4, .int 0), (3, .ref q4), (2, .ref o2), (1, .ref o1), (0, .ref b)] := hl
  refine lv_aload_n hx hb d_L_law_748 rfl (lv_at hl 4 rfl) ?_
  refine R_ri C0 w (rest := []) 12 rfl rfl [12] (c_thrown l D cI cB cJ o2 qr3 2 0 0 0) rfl rfl wd_955 wd_952 wd_953 wd_954 wd_8 (n9 := 0) (by decide +kernel) rfl ⟨(Nat.le_of_ble_eq_true rfl), (Nat.le_of_ble_eq_true rfl)⟩ hl.1 rfl (Nat.le_of_ble_eq_true rfl) d_L_law_749 (Nat.le_of_ble_eq_true rfl) (Nat.le_of_ble_eq_true rfl) ?_
  refine lv_iload hx hb d_L_law_752 (lv_at hl 1 rfl) ?_
  refine lv_icmp_eq (tgt := 759) hx hb d_L_law_754 (by decide) (fun hc754 => ?_) (fun hc => absurd (by decide) hc)
  refine lv_iload hx hb d_L_law_759 (lv_at hl 1 rfl) ?_
  refine lv_if_ne (tgt := 776) hx hb d_L_law_761 (by decide) (fun hc761 => ?_) (fun hc => absurd hc (by decide))
  refine lv_goto (tgt := 993) hx hb d_L_law_776 (by decide) ?_
  exact law_tail C0 hX hbl hr hlk htl (Nat.le_of_ble_eq_true rfl) (Nat.le_of_ble_eq_true rfl) w (lv_sub hl [2, 6] rfl)
set_option maxHeartbeats 4000000 in
set_option maxRecDepth 100000 in
theorem law_case11 {qm : Nat → Nat} {qn : Nat → Nat} {qp : Nat → Nat} {qr3 : Nat → Nat} {o1 : Nat} {o2 : Nat} {q4 : Nat} (C0 : Cx p s m #[Value.ref b] c code 7 "NameForgeLaw" D cI cB cJ) (hX : va_X b 6 xs s s.heap) (hbl : b < s.heap.size) (hr : meth.sig.returnType = ret) (hlk : meth.locks = false) (htl : l.stackTraces = false) (w : Wd D (lA s) s [(o1, .inr (0, fN 0 qn)), ((qn 0), .inr (1, fP 0 qp)), ((qn 5), .inr (6, fA 0 qm)), ((qp 1), .inl (cI, 10, .inl (fun _ => 0))), ((qp 6), .inl (cI, 10, .inl (fun _ => 0))), ((qp 7), .inl (cI, 10, .inl (fun _ => 0))), ((qp 8), .inl (cI, 10, .inl (fun _ => 0))), ((qp 9), .inl (cI, 10, .inl (fun _ => 0))), ((qm 5), .inl (cI, 16, .inl (fun _ => 0))), (o2, .inr (7, fR 0 0 0 0 qr3)), ((qr3 2), .inl (cI, 10, .inl (fun _ => 0))), ((qr3 7), .inl (cI, 10, .inl (fun _ => 0))), ((qr3 33), .inl (cI, 16, .inl (fun _ => 0))), (q4, .inl (cJ, 1, .inr (.inl (fun _ => 0))))] H locs) (hl : lv_has ls 7 [(4, .int 0), (3, .ref q4), (2, .ref o2), (1, .ref o1), (0, .ref b)]) : W p l e room_1 s m #[Value.ref b] below meth c H locs 165 3470 (lw_Z below #[Value.ref b] s) (F0 m 779 ls []) := by
  have hx := C0.1
  have hb := C0.2.1
  have hbA : ¬ lA s b := fun h => absurd hbl (Nat.not_lt.mpr h)
  refine lv_aload_n hx hb d_L_law_779 rfl (lv_at hl 3 rfl) ?_
  refine lv_aload_n hx hb d_L_law_780 rfl (lv_at hl 4 rfl) ?_
  refine lv_iload hx hb d_L_law_781 (lv_at hl 0 rfl) ?_
  refine lv_iconst (v := 1) hx hb d_L_law_783 (by decide) ?_
  refine lv_iadd hx hb d_L_law_784 ?_
  refine lv_cst (x := 0 + 1) (y := 1) (by decide) ?_
  refine va_sld hx hb hX hbl hbA w.2.2.1 (vin (by decide)) d_L_law_785 ?_
  refine R_vi C0 w (rest := []) (wr := [((qn 0), .inr (1, fP 0 qp)), ((qp 1), .inl (cI, 10, .inl (fun _ => 0))), ((qp 6), .inl (cI, 10, .inl (fun _ => 0))), ((qp 7), .inl (cI, 10, .inl (fun _ => 0))), ((qp 8), .inl (cI, 10, .inl (fun _ => 0))), ((qp 9), .inl (cI, 10, .inl (fun _ => 0))), (o2, .inr (7, fR 0 0 0 0 qr3)), ((qr3 2), .inl (cI, 10, .inl (fun _ => 0))), ((qr3 7), .inl (cI, 10, .inl (fun _ => 0))), ((qr3 33), .inl (cI, 16, .inl (fun _ => 0))), (q4, .inl (cJ, 1, .inr (.inl (fun _ => 0))))]) (w1 := []) 0 rfl rfl [0, 2, 8] [1, 3, 4, 5, 6, 7, 9, 10, 11, 12, 13] (c_N_give l D cI cB cJ o1 qn qm (xs (1 : Int32).toNatClampNeg)) rfl rfl rfl rfl (by decide) wd_368 wd_365 wd_366 wd_367 wd_1 (n9 := 1) (by decide +kernel) rfl ⟨(Nat.le_of_ble_eq_true rfl), (Nat.le_of_ble_eq_true rfl)⟩ hl.1 rfl (Nat.le_of_ble_eq_true rfl) d_L_law_786 (Nat.le_of_ble_eq_true rfl) (Nat.le_of_ble_eq_true rfl) (fun H locs w => ?_)
  have w : Wd D (lA s) s [((qn 0), .inr (1, fP 0 qp)), ((qp 1), .inl (cI, 10, .inl (fun _ => 0))), ((qp 6), .inl (cI, 10, .inl (fun _ => 0))), ((qp 7), .inl (cI, 10, .inl (fun _ => 0))), ((qp 8), .inl (cI, 10, .inl (fun _ => 0))), ((qp 9), .inl (cI, 10, .inl (fun _ => 0))), (o2, .inr (7, fR 0 0 0 0 qr3)), ((qr3 2), .inl (cI, 10, .inl (fun _ => 0))), ((qr3 7), .inl (cI, 10, .inl (fun _ => 0))), ((qr3 33), .inl (cI, 16, .inl (fun _ => 0))), (q4, .inl (cJ, 1, .inr (.inl (fun _ => 0))))] H _ := w
  refine lv_aload_n hx hb d_L_law_789 rfl (lv_at hl 2 rfl) ?_
  refine lv_aload_n hx hb d_L_law_790 rfl (lv_at hl 4 rfl) ?_
  refine lv_iload hx hb d_L_law_791 (lv_at hl 0 rfl) ?_
  refine lv_iconst (v := 1) hx hb d_L_law_793 (by decide) ?_
  refine lv_iadd hx hb d_L_law_794 ?_
  refine lv_cst (x := 0 + 1) (y := 1) (by decide) ?_
  refine va_sld hx hb hX hbl hbA w.2.2.1 (vin (by decide)) d_L_law_795 ?_
  refine R_vi C0 w (rest := [.int 1]) (wr := [((qn 0), .inr (1, fP 0 qp)), ((qp 1), .inl (cI, 10, .inl (fun _ => 0))), ((qp 6), .inl (cI, 10, .inl (fun _ => 0))), ((qp 7), .inl (cI, 10, .inl (fun _ => 0))), ((qp 8), .inl (cI, 10, .inl (fun _ => 0))), ((qp 9), .inl (cI, 10, .inl (fun _ => 0))), ((qr3 2), .inl (cI, 10, .inl (fun _ => 0))), ((qr3 7), .inl (cI, 10, .inl (fun _ => 0))), (q4, .inl (cJ, 1, .inr (.inl (fun _ => 0))))]) (w1 := [(o2, .inr (7, fR 0 0 0 1 qr3))]) 6 rfl rfl [6, 9] [0, 1, 2, 3, 4, 5, 7, 8, 10] (c_R_give l D cI cB cJ o2 qr3 (xs (1 : Int32).toNatClampNeg)) rfl rfl rfl rfl (by decide) wd_1113 wd_1110 wd_1111 wd_1112 wd_8 (n9 := 1) (by decide +kernel) rfl ⟨(Nat.le_of_ble_eq_true rfl), (Nat.le_of_ble_eq_true rfl)⟩ hl.1 rfl (Nat.le_of_ble_eq_true rfl) d_L_law_796 (Nat.le_of_ble_eq_true rfl) (Nat.le_of_ble_eq_true rfl) (fun H locs w => ?_)
  have w : Wd D (lA s) s [((qn 0), .inr (1, fP 0 qp)), ((qp 1), .inl (cI, 10, .inl (fun _ => 0))), ((qp 6), .inl (cI, 10, .inl (fun _ => 0))), ((qp 7), .inl (cI, 10, .inl (fun _ => 0))), ((qp 8), .inl (cI, 10, .inl (fun _ => 0))), ((qp 9), .inl (cI, 10, .inl (fun _ => 0))), ((qr3 2), .inl (cI, 10, .inl (fun _ => 0))), ((qr3 7), .inl (cI, 10, .inl (fun _ => 0))), (q4, .inl (cJ, 1, .inr (.inl (fun _ => 0)))), (o2, .inr (7, fR 0 0 0 1 qr3))] H _ := w
  refine lv_icmp_eq (tgt := 993) hx hb d_L_law_799 (by decide) (fun hc799 => ?_) (fun hc => absurd (by decide) hc)
  exact law_tail C0 hX hbl hr hlk htl (Nat.le_of_ble_eq_true rfl) (Nat.le_of_ble_eq_true rfl) w (lv_sub hl [0, 4] rfl)
set_option maxHeartbeats 4000000 in
set_option maxRecDepth 100000 in
theorem law_case12 {qm : Nat → Nat} {qn : Nat → Nat} {qp : Nat → Nat} {qr3 : Nat → Nat} {o1 : Nat} {o2 : Nat} {q4 : Nat} (C0 : Cx p s m #[Value.ref b] c code 7 "NameForgeLaw" D cI cB cJ) (hX : va_X b 6 xs s s.heap) (hbl : b < s.heap.size) (hr : meth.sig.returnType = ret) (hlk : meth.locks = false) (htl : l.stackTraces = false) (w : Wd D (lA s) s [(o1, .inr (0, fN 0 qn)), ((qn 0), .inr (1, fP 0 qp)), ((qn 5), .inr (6, fA 0 qm)), ((qp 1), .inl (cI, 10, .inl (fun _ => 0))), ((qp 6), .inl (cI, 10, .inl (fun _ => 0))), ((qp 7), .inl (cI, 10, .inl (fun _ => 0))), ((qp 8), .inl (cI, 10, .inl (fun _ => 0))), ((qp 9), .inl (cI, 10, .inl (fun _ => 0))), ((qm 5), .inl (cI, 16, .inl (fun _ => 0))), (o2, .inr (7, fR 0 0 0 0 qr3)), ((qr3 2), .inl (cI, 10, .inl (fun _ => 0))), ((qr3 7), .inl (cI, 10, .inl (fun _ => 0))), ((qr3 33), .inl (cI, 16, .inl (fun _ => 0))), (q4, .inl (cJ, 1, .inr (.inl (fun _ => 0))))] H locs) (hl : lv_has ls 7 [(4, .int 0), (3, .ref q4), (2, .ref o2), (1, .ref o1), (0, .ref b)]) : W p l e room_1 s m #[Value.ref b] below meth c H locs 165 3470 (lw_Z below #[Value.ref b] s) (F0 m 804 ls []) := by
  have hx := C0.1
  have hb := C0.2.1
  have hbA : ¬ lA s b := fun h => absurd hbl (Nat.not_lt.mpr h)
  refine lv_aload_n hx hb d_L_law_804 rfl (lv_at hl 3 rfl) ?_
  refine R_vv C0 w (rest := []) (wr := [((qn 0), .inr (1, fP 0 qp)), ((qp 1), .inl (cI, 10, .inl (fun _ => 0))), ((qp 6), .inl (cI, 10, .inl (fun _ => 0))), ((qp 7), .inl (cI, 10, .inl (fun _ => 0))), ((qp 8), .inl (cI, 10, .inl (fun _ => 0))), ((qp 9), .inl (cI, 10, .inl (fun _ => 0))), ((qm 5), .inl (cI, 16, .inl (fun _ => 0))), (o2, .inr (7, fR 0 0 0 0 qr3)), ((qr3 2), .inl (cI, 10, .inl (fun _ => 0))), ((qr3 7), .inl (cI, 10, .inl (fun _ => 0))), ((qr3 33), .inl (cI, 16, .inl (fun _ => 0))), (q4, .inl (cJ, 1, .inr (.inl (fun _ => 0))))]) (w1 := []) 0 rfl rfl [0, 2] [1, 3, 4, 5, 6, 7, 8, 9, 10, 11, 12, 13] (c_N_take l D cI cB cJ o1 qn qm) rfl rfl rfl rfl (by decide) wd_376 wd_373 wd_374 wd_375 wd_1 (n9 := 0) (by decide +kernel) rfl ⟨(Nat.le_of_ble_eq_true rfl), (Nat.le_of_ble_eq_true rfl)⟩ hl.1 rfl (Nat.le_of_ble_eq_true rfl) d_L_law_805 (Nat.le_of_ble_eq_true rfl) (Nat.le_of_ble_eq_true rfl) (fun H locs w => ?_)
  have w : Wd D (lA s) s [((qn 0), .inr (1, fP 0 qp)), ((qp 1), .inl (cI, 10, .inl (fun _ => 0))), ((qp 6), .inl (cI, 10, .inl (fun _ => 0))), ((qp 7), .inl (cI, 10, .inl (fun _ => 0))), ((qp 8), .inl (cI, 10, .inl (fun _ => 0))), ((qp 9), .inl (cI, 10, .inl (fun _ => 0))), ((qm 5), .inl (cI, 16, .inl (fun _ => 0))), (o2, .inr (7, fR 0 0 0 0 qr3)), ((qr3 2), .inl (cI, 10, .inl (fun _ => 0))), ((qr3 7), .inl (cI, 10, .inl (fun _ => 0))), ((qr3 33), .inl (cI, 16, .inl (fun _ => 0))), (q4, .inl (cJ, 1, .inr (.inl (fun _ => 0))))] H _ := w
  refine lv_aload_n hx hb d_L_law_808 rfl (lv_at hl 2 rfl) ?_
  refine R_vv C0 w (rest := []) (wr := [((qn 0), .inr (1, fP 0 qp)), ((qp 1), .inl (cI, 10, .inl (fun _ => 0))), ((qp 6), .inl (cI, 10, .inl (fun _ => 0))), ((qp 7), .inl (cI, 10, .inl (fun _ => 0))), ((qp 8), .inl (cI, 10, .inl (fun _ => 0))), ((qp 9), .inl (cI, 10, .inl (fun _ => 0))), ((qm 5), .inl (cI, 16, .inl (fun _ => 0))), ((qr3 2), .inl (cI, 10, .inl (fun _ => 0))), ((qr3 7), .inl (cI, 10, .inl (fun _ => 0))), ((qr3 33), .inl (cI, 16, .inl (fun _ => 0))), (q4, .inl (cJ, 1, .inr (.inl (fun _ => 0))))]) (w1 := [(o2, .inr (7, fR 0 0 0 0 qr3))]) 7 rfl rfl [7] [0, 1, 2, 3, 4, 5, 6, 8, 9, 10, 11] (c_R_take l D cI cB cJ o2 qr3) rfl rfl rfl rfl (by decide) wd_1117 wd_1114 wd_1115 wd_1116 wd_8 (n9 := 0) (by decide +kernel) rfl ⟨(Nat.le_of_ble_eq_true rfl), (Nat.le_of_ble_eq_true rfl)⟩ hl.1 rfl (Nat.le_of_ble_eq_true rfl) d_L_law_809 (Nat.le_of_ble_eq_true rfl) (Nat.le_of_ble_eq_true rfl) (fun H locs w => ?_)
  have w : Wd D (lA s) s [((qn 0), .inr (1, fP 0 qp)), ((qp 1), .inl (cI, 10, .inl (fun _ => 0))), ((qp 6), .inl (cI, 10, .inl (fun _ => 0))), ((qp 7), .inl (cI, 10, .inl (fun _ => 0))), ((qp 8), .inl (cI, 10, .inl (fun _ => 0))), ((qp 9), .inl (cI, 10, .inl (fun _ => 0))), ((qm 5), .inl (cI, 16, .inl (fun _ => 0))), ((qr3 2), .inl (cI, 10, .inl (fun _ => 0))), ((qr3 7), .inl (cI, 10, .inl (fun _ => 0))), ((qr3 33), .inl (cI, 16, .inl (fun _ => 0))), (q4, .inl (cJ, 1, .inr (.inl (fun _ => 0)))), (o2, .inr (7, fR 0 0 0 0 qr3))] H _ := w
  refine lv_goto (tgt := 993) hx hb d_L_law_812 (by decide) ?_
  exact law_tail C0 hX hbl hr hlk htl (Nat.le_of_ble_eq_true rfl) (Nat.le_of_ble_eq_true rfl) w (lv_sub hl [0, 4] rfl)
set_option maxHeartbeats 4000000 in
set_option maxRecDepth 100000 in
theorem law_case13A {qm : Nat → Nat} {qn : Nat → Nat} {qp : Nat → Nat} {qr3 : Nat → Nat} {o1 : Nat} {o2 : Nat} {q4 : Nat} (C0 : Cx p s m #[Value.ref b] c code 7 "NameForgeLaw" D cI cB cJ) (hX : va_X b 6 xs s s.heap) (hbl : b < s.heap.size) (hr : meth.sig.returnType = ret) (hlk : meth.locks = false) (htl : l.stackTraces = false) (hs : xs (2 : Int32).toNatClampNeg < 0) (w : Wd D (lA s) s [(o1, .inr (0, fN 0 qn)), ((qn 0), .inr (1, fP 0 qp)), ((qn 5), .inr (6, fA 0 qm)), ((qp 1), .inl (cI, 10, .inl (fun _ => 0))), ((qp 6), .inl (cI, 10, .inl (fun _ => 0))), ((qp 7), .inl (cI, 10, .inl (fun _ => 0))), ((qp 8), .inl (cI, 10, .inl (fun _ => 0))), ((qp 9), .inl (cI, 10, .inl (fun _ => 0))), ((qm 5), .inl (cI, 16, .inl (fun _ => 0))), (o2, .inr (7, fR 0 0 0 0 qr3)), ((qr3 2), .inl (cI, 10, .inl (fun _ => 0))), ((qr3 7), .inl (cI, 10, .inl (fun _ => 0))), ((qr3 33), .inl (cI, 16, .inl (fun _ => 0))), (q4, .inl (cJ, 1, .inr (.inl (fun _ => 0))))] H locs) (hl : lv_has ls 7 [(4, .int 0), (3, .ref q4), (2, .ref o2), (1, .ref o1), (0, .ref b)]) : W p l e room_1 s m #[Value.ref b] below meth c H locs 165 3470 (lw_Z below #[Value.ref b] s) (F0 m 815 ls []) := by
  have hx := C0.1
  have hb := C0.2.1
  have hbA : ¬ lA s b := fun h => absurd hbl (Nat.not_lt.mpr h)
  refine lv_aload_n hx hb d_L_law_815 rfl (lv_at hl 3 rfl) ?_
  refine lv_aload_n hx hb d_L_law_816 rfl (lv_at hl 4 rfl) ?_
  refine lv_iload hx hb d_L_law_817 (lv_at hl 0 rfl) ?_
  refine lv_iconst (v := 1) hx hb d_L_law_819 (by decide) ?_
  refine lv_iadd hx hb d_L_law_820 ?_
  refine lv_cst (x := 0 + 1) (y := 1) (by decide) ?_
  refine va_sld hx hb hX hbl hbA w.2.2.1 (vin (by decide)) d_L_law_821 ?_
  refine lv_if_eq (tgt := 829) hx hb d_L_law_822 (by decide) (fun hc822 => ?_) (fun hc822 => ?_)
  · refine lv_iconst (v := 0) hx hb d_L_law_829 (by decide) ?_
    refine lv_aload_n hx hb d_L_law_830 rfl (lv_at hl 4 rfl) ?_
    refine lv_iload hx hb d_L_law_831 (lv_at hl 0 rfl) ?_
    refine lv_iconst (v := 2) hx hb d_L_law_833 (by decide) ?_
    refine lv_iadd hx hb d_L_law_834 ?_
    refine lv_cst (x := 0 + 2) (y := 2) (by decide) ?_
    refine va_sld hx hb hX hbl hbA w.2.2.1 (vin (by decide)) d_L_law_835 ?_
    refine lv_aload_n hx hb d_L_law_836 rfl (lv_at hl 1 rfl) ?_
    refine R_sh C0 w (rest := []) (wr := [((qn 0), .inr (1, fP 0 qp)), ((qn 5), .inr (6, fA 0 qm)), ((qp 1), .inl (cI, 10, .inl (fun _ => 0))), ((qp 6), .inl (cI, 10, .inl (fun _ => 0))), ((qp 7), .inl (cI, 10, .inl (fun _ => 0))), ((qp 8), .inl (cI, 10, .inl (fun _ => 0))), ((qp 9), .inl (cI, 10, .inl (fun _ => 0))), ((qm 5), .inl (cI, 16, .inl (fun _ => 0))), (o2, .inr (7, fR 0 0 0 0 qr3)), ((qr3 2), .inl (cI, 10, .inl (fun _ => 0))), ((qr3 7), .inl (cI, 10, .inl (fun _ => 0))), ((qr3 33), .inl (cI, 16, .inl (fun _ => 0))), (q4, .inl (cJ, 1, .inr (.inl (fun _ => 0))))]) (w1 := []) [0] [1, 2, 3, 4, 5, 6, 7, 8, 9, 10, 11, 12, 13] (c_L_runA l D cI cB cJ o1 qn 0 (xs (2 : Int32).toNatClampNeg) q4 htl hs) rfl rfl rfl rfl (by decide) wd_758 wd_756 wd_757 wd_0 (n9 := 4) (by decide +kernel) rfl ⟨(Nat.le_of_ble_eq_true rfl), (Nat.le_of_ble_eq_true rfl)⟩ hl.1 rfl (Nat.le_of_ble_eq_true rfl) d_L_law_837 (Nat.le_of_ble_eq_true rfl) (Nat.le_of_ble_eq_true rfl) (fun H locs w => ?_)
    refine W.cs (cells' := 166) (slots' := 3476) rfl rfl ?_
    have w : Wd D (lA s) s [((qn 0), .inr (1, fP 0 qp)), ((qn 5), .inr (6, fA 0 qm)), ((qp 1), .inl (cI, 10, .inl (fun _ => 0))), ((qp 6), .inl (cI, 10, .inl (fun _ => 0))), ((qp 7), .inl (cI, 10, .inl (fun _ => 0))), ((qp 8), .inl (cI, 10, .inl (fun _ => 0))), ((qp 9), .inl (cI, 10, .inl (fun _ => 0))), ((qm 5), .inl (cI, 16, .inl (fun _ => 0))), (o2, .inr (7, fR 0 0 0 0 qr3)), ((qr3 2), .inl (cI, 10, .inl (fun _ => 0))), ((qr3 7), .inl (cI, 10, .inl (fun _ => 0))), ((qr3 33), .inl (cI, 16, .inl (fun _ => 0))), (q4, .inl (cJ, 1, .inr (.inl (fun _ => 0))))] H _ := w
    refine lv_istore hx hb d_L_law_840 hl (by decide) rfl (fun ls hl => ?_)
    have hl : lv_has ls 7 [(5, .int 1), (4, .int 0), (3, .ref q4), (2, .ref o2), (1, .ref o1), (0, .ref b)] := hl
    refine lv_aload_n hx hb d_L_law_842 rfl (lv_at hl 3 rfl) ?_
    refine lv_aload_n hx hb d_L_law_843 rfl (lv_at hl 5 rfl) ?_
    refine lv_iload hx hb d_L_law_844 (lv_at hl 1 rfl) ?_
    refine lv_iconst (v := 1) hx hb d_L_law_846 (by decide) ?_
    refine lv_iadd hx hb d_L_law_847 ?_
    refine lv_cst (x := 0 + 1) (y := 1) (by decide) ?_
    refine va_sld hx hb hX hbl hbA w.2.2.1 (vin (by decide)) d_L_law_848 ?_
    refine lv_if_eq (tgt := 856) hx hb d_L_law_849 (by decide) (fun hc849 => ?_) (fun hc849 => ?_)
    · refine lv_iconst (v := 0) hx hb d_L_law_856 (by decide) ?_
      refine lv_aload_n hx hb d_L_law_857 rfl (lv_at hl 5 rfl) ?_
      refine lv_iload hx hb d_L_law_858 (lv_at hl 1 rfl) ?_
      refine lv_iconst (v := 2) hx hb d_L_law_860 (by decide) ?_
      refine lv_iadd hx hb d_L_law_861 ?_
      refine lv_cst (x := 0 + 2) (y := 2) (by decide) ?_
      refine va_sld hx hb hX hbl hbA w.2.2.1 (vin (by decide)) d_L_law_862 ?_
      refine R_vi C0 w (rest := []) (wr := [((qn 0), .inr (1, fP 0 qp)), ((qn 5), .inr (6, fA 0 qm)), ((qp 1), .inl (cI, 10, .inl (fun _ => 0))), ((qp 6), .inl (cI, 10, .inl (fun _ => 0))), ((qp 7), .inl (cI, 10, .inl (fun _ => 0))), ((qp 8), .inl (cI, 10, .inl (fun _ => 0))), ((qp 9), .inl (cI, 10, .inl (fun _ => 0))), ((qm 5), .inl (cI, 16, .inl (fun _ => 0))), ((qr3 2), .inl (cI, 10, .inl (fun _ => 0))), ((qr3 7), .inl (cI, 10, .inl (fun _ => 0))), ((qr3 33), .inl (cI, 16, .inl (fun _ => 0))), (q4, .inl (cJ, 1, .inr (.inl (fun _ => 0))))]) (w1 := [(o2, .inr (7, fR 1 0 0 0 qr3))]) 8 rfl rfl [8] [0, 1, 2, 3, 4, 5, 6, 7, 9, 10, 11, 12] (c_R_runA l D cI cB cJ o2 qr3 0 (xs (2 : Int32).toNatClampNeg) hs) rfl rfl rfl rfl (by decide) wd_1121 wd_1118 wd_1119 wd_1120 wd_8 (n9 := 2) (by decide +kernel) rfl ⟨(Nat.le_of_ble_eq_true rfl), (Nat.le_of_ble_eq_true rfl)⟩ hl.1 rfl (Nat.le_of_ble_eq_true rfl) d_L_law_863 (Nat.le_of_ble_eq_true rfl) (Nat.le_of_ble_eq_true rfl) (fun H locs w => ?_)
      have w : Wd D (lA s) s [((qn 0), .inr (1, fP 0 qp)), ((qn 5), .inr (6, fA 0 qm)), ((qp 1), .inl (cI, 10, .inl (fun _ => 0))), ((qp 6), .inl (cI, 10, .inl (fun _ => 0))), ((qp 7), .inl (cI, 10, .inl (fun _ => 0))), ((qp 8), .inl (cI, 10, .inl (fun _ => 0))), ((qp 9), .inl (cI, 10, .inl (fun _ => 0))), ((qm 5), .inl (cI, 16, .inl (fun _ => 0))), ((qr3 2), .inl (cI, 10, .inl (fun _ => 0))), ((qr3 7), .inl (cI, 10, .inl (fun _ => 0))), ((qr3 33), .inl (cI, 16, .inl (fun _ => 0))), (q4, .inl (cJ, 1, .inr (.inl (fun _ => 0)))), (o2, .inr (7, fR 1 0 0 0 qr3))] H _ := w
      refine lv_istore hx hb d_L_law_866 hl (by decide) rfl (fun ls hl => ?_)
      have hl : lv_has ls 7 [(6, .int 0), (5, .int 1), (4, .int 0), (3, .ref q4), (2, .ref o2), (1, .ref o1), (0, .ref b)] := hl
      refine lv_aload_n hx hb d_L_law_868 rfl (lv_at hl 4 rfl) ?_
      refine R_ri C0 w (rest := []) 12 rfl rfl [12] (c_thrown l D cI cB cJ o2 qr3 1 0 0 0) rfl rfl wd_955 wd_952 wd_953 wd_954 wd_8 (n9 := 0) (by decide +kernel) rfl ⟨(Nat.le_of_ble_eq_true rfl), (Nat.le_of_ble_eq_true rfl)⟩ hl.1 rfl (Nat.le_of_ble_eq_true rfl) d_L_law_869 (Nat.le_of_ble_eq_true rfl) (Nat.le_of_ble_eq_true rfl) ?_
      refine lv_iload hx hb d_L_law_872 (lv_at hl 1 rfl) ?_
      refine lv_icmp_eq (tgt := 879) hx hb d_L_law_874 (by decide) (fun hc874 => ?_) (fun hc => absurd (by decide) hc)
      refine lv_iload hx hb d_L_law_879 (lv_at hl 1 rfl) ?_
      refine lv_if_ne (tgt := 896) hx hb d_L_law_881 (by decide) (fun hc881 => ?_) (fun hc => absurd hc (by decide))
      refine lv_goto (tgt := 993) hx hb d_L_law_896 (by decide) ?_
      exact law_tail C0 hX hbl hr hlk htl (Nat.le_of_ble_eq_true rfl) (Nat.le_of_ble_eq_true rfl) w (lv_sub hl [2, 6] rfl)
    · refine lv_iconst (v := 1) hx hb d_L_law_852 (by decide) ?_
      refine lv_goto (tgt := 857) hx hb d_L_law_853 (by decide) ?_
      refine lv_aload_n hx hb d_L_law_857 rfl (lv_at hl 5 rfl) ?_
      refine lv_iload hx hb d_L_law_858 (lv_at hl 1 rfl) ?_
      refine lv_iconst (v := 2) hx hb d_L_law_860 (by decide) ?_
      refine lv_iadd hx hb d_L_law_861 ?_
      refine lv_cst (x := 0 + 2) (y := 2) (by decide) ?_
      refine va_sld hx hb hX hbl hbA w.2.2.1 (vin (by decide)) d_L_law_862 ?_
      refine R_vi C0 w (rest := []) (wr := [((qn 0), .inr (1, fP 0 qp)), ((qn 5), .inr (6, fA 0 qm)), ((qp 1), .inl (cI, 10, .inl (fun _ => 0))), ((qp 6), .inl (cI, 10, .inl (fun _ => 0))), ((qp 7), .inl (cI, 10, .inl (fun _ => 0))), ((qp 8), .inl (cI, 10, .inl (fun _ => 0))), ((qp 9), .inl (cI, 10, .inl (fun _ => 0))), ((qm 5), .inl (cI, 16, .inl (fun _ => 0))), ((qr3 2), .inl (cI, 10, .inl (fun _ => 0))), ((qr3 7), .inl (cI, 10, .inl (fun _ => 0))), ((qr3 33), .inl (cI, 16, .inl (fun _ => 0))), (q4, .inl (cJ, 1, .inr (.inl (fun _ => 0))))]) (w1 := [(o2, .inr (7, fR 1 0 0 0 qr3))]) 8 rfl rfl [8] [0, 1, 2, 3, 4, 5, 6, 7, 9, 10, 11, 12] (c_R_runA l D cI cB cJ o2 qr3 1 (xs (2 : Int32).toNatClampNeg) hs) rfl rfl rfl rfl (by decide) wd_1121 wd_1118 wd_1119 wd_1120 wd_8 (n9 := 2) (by decide +kernel) rfl ⟨(Nat.le_of_ble_eq_true rfl), (Nat.le_of_ble_eq_true rfl)⟩ hl.1 rfl (Nat.le_of_ble_eq_true rfl) d_L_law_863 (Nat.le_of_ble_eq_true rfl) (Nat.le_of_ble_eq_true rfl) (fun H locs w => ?_)
      have w : Wd D (lA s) s [((qn 0), .inr (1, fP 0 qp)), ((qn 5), .inr (6, fA 0 qm)), ((qp 1), .inl (cI, 10, .inl (fun _ => 0))), ((qp 6), .inl (cI, 10, .inl (fun _ => 0))), ((qp 7), .inl (cI, 10, .inl (fun _ => 0))), ((qp 8), .inl (cI, 10, .inl (fun _ => 0))), ((qp 9), .inl (cI, 10, .inl (fun _ => 0))), ((qm 5), .inl (cI, 16, .inl (fun _ => 0))), ((qr3 2), .inl (cI, 10, .inl (fun _ => 0))), ((qr3 7), .inl (cI, 10, .inl (fun _ => 0))), ((qr3 33), .inl (cI, 16, .inl (fun _ => 0))), (q4, .inl (cJ, 1, .inr (.inl (fun _ => 0)))), (o2, .inr (7, fR 1 0 0 0 qr3))] H _ := w
      refine lv_istore hx hb d_L_law_866 hl (by decide) rfl (fun ls hl => ?_)
      have hl : lv_has ls 7 [(6, .int 0), (5, .int 1), (4, .int 0), (3, .ref q4), (2, .ref o2), (1, .ref o1), (0, .ref b)] := hl
      refine lv_aload_n hx hb d_L_law_868 rfl (lv_at hl 4 rfl) ?_
      refine R_ri C0 w (rest := []) 12 rfl rfl [12] (c_thrown l D cI cB cJ o2 qr3 1 0 0 0) rfl rfl wd_955 wd_952 wd_953 wd_954 wd_8 (n9 := 0) (by decide +kernel) rfl ⟨(Nat.le_of_ble_eq_true rfl), (Nat.le_of_ble_eq_true rfl)⟩ hl.1 rfl (Nat.le_of_ble_eq_true rfl) d_L_law_869 (Nat.le_of_ble_eq_true rfl) (Nat.le_of_ble_eq_true rfl) ?_
      refine lv_iload hx hb d_L_law_872 (lv_at hl 1 rfl) ?_
      refine lv_icmp_eq (tgt := 879) hx hb d_L_law_874 (by decide) (fun hc874 => ?_) (fun hc => absurd (by decide) hc)
      refine lv_iload hx hb d_L_law_879 (lv_at hl 1 rfl) ?_
      refine lv_if_ne (tgt := 896) hx hb d_L_law_881 (by decide) (fun hc881 => ?_) (fun hc => absurd hc (by decide))
      refine lv_goto (tgt := 993) hx hb d_L_law_896 (by decide) ?_
      exact law_tail C0 hX hbl hr hlk htl (Nat.le_of_ble_eq_true rfl) (Nat.le_of_ble_eq_true rfl) w (lv_sub hl [2, 6] rfl)
  · refine lv_iconst (v := 1) hx hb d_L_law_825 (by decide) ?_
    refine lv_goto (tgt := 830) hx hb d_L_law_826 (by decide) ?_
    refine lv_aload_n hx hb d_L_law_830 rfl (lv_at hl 4 rfl) ?_
    refine lv_iload hx hb d_L_law_831 (lv_at hl 0 rfl) ?_
    refine lv_iconst (v := 2) hx hb d_L_law_833 (by decide) ?_
    refine lv_iadd hx hb d_L_law_834 ?_
    refine lv_cst (x := 0 + 2) (y := 2) (by decide) ?_
    refine va_sld hx hb hX hbl hbA w.2.2.1 (vin (by decide)) d_L_law_835 ?_
    refine lv_aload_n hx hb d_L_law_836 rfl (lv_at hl 1 rfl) ?_
    refine R_sh C0 w (rest := []) (wr := [((qn 0), .inr (1, fP 0 qp)), ((qn 5), .inr (6, fA 0 qm)), ((qp 1), .inl (cI, 10, .inl (fun _ => 0))), ((qp 6), .inl (cI, 10, .inl (fun _ => 0))), ((qp 7), .inl (cI, 10, .inl (fun _ => 0))), ((qp 8), .inl (cI, 10, .inl (fun _ => 0))), ((qp 9), .inl (cI, 10, .inl (fun _ => 0))), ((qm 5), .inl (cI, 16, .inl (fun _ => 0))), (o2, .inr (7, fR 0 0 0 0 qr3)), ((qr3 2), .inl (cI, 10, .inl (fun _ => 0))), ((qr3 7), .inl (cI, 10, .inl (fun _ => 0))), ((qr3 33), .inl (cI, 16, .inl (fun _ => 0))), (q4, .inl (cJ, 1, .inr (.inl (fun _ => 0))))]) (w1 := []) [0] [1, 2, 3, 4, 5, 6, 7, 8, 9, 10, 11, 12, 13] (c_L_runA l D cI cB cJ o1 qn 1 (xs (2 : Int32).toNatClampNeg) q4 htl hs) rfl rfl rfl rfl (by decide) wd_758 wd_756 wd_757 wd_0 (n9 := 4) (by decide +kernel) rfl ⟨(Nat.le_of_ble_eq_true rfl), (Nat.le_of_ble_eq_true rfl)⟩ hl.1 rfl (Nat.le_of_ble_eq_true rfl) d_L_law_837 (Nat.le_of_ble_eq_true rfl) (Nat.le_of_ble_eq_true rfl) (fun H locs w => ?_)
    refine W.cs (cells' := 166) (slots' := 3476) rfl rfl ?_
    have w : Wd D (lA s) s [((qn 0), .inr (1, fP 0 qp)), ((qn 5), .inr (6, fA 0 qm)), ((qp 1), .inl (cI, 10, .inl (fun _ => 0))), ((qp 6), .inl (cI, 10, .inl (fun _ => 0))), ((qp 7), .inl (cI, 10, .inl (fun _ => 0))), ((qp 8), .inl (cI, 10, .inl (fun _ => 0))), ((qp 9), .inl (cI, 10, .inl (fun _ => 0))), ((qm 5), .inl (cI, 16, .inl (fun _ => 0))), (o2, .inr (7, fR 0 0 0 0 qr3)), ((qr3 2), .inl (cI, 10, .inl (fun _ => 0))), ((qr3 7), .inl (cI, 10, .inl (fun _ => 0))), ((qr3 33), .inl (cI, 16, .inl (fun _ => 0))), (q4, .inl (cJ, 1, .inr (.inl (fun _ => 0))))] H _ := w
    refine lv_istore hx hb d_L_law_840 hl (by decide) rfl (fun ls hl => ?_)
    have hl : lv_has ls 7 [(5, .int 1), (4, .int 0), (3, .ref q4), (2, .ref o2), (1, .ref o1), (0, .ref b)] := hl
    refine lv_aload_n hx hb d_L_law_842 rfl (lv_at hl 3 rfl) ?_
    refine lv_aload_n hx hb d_L_law_843 rfl (lv_at hl 5 rfl) ?_
    refine lv_iload hx hb d_L_law_844 (lv_at hl 1 rfl) ?_
    refine lv_iconst (v := 1) hx hb d_L_law_846 (by decide) ?_
    refine lv_iadd hx hb d_L_law_847 ?_
    refine lv_cst (x := 0 + 1) (y := 1) (by decide) ?_
    refine va_sld hx hb hX hbl hbA w.2.2.1 (vin (by decide)) d_L_law_848 ?_
    refine lv_if_eq (tgt := 856) hx hb d_L_law_849 (by decide) (fun hc849 => ?_) (fun hc849 => ?_)
    · refine lv_iconst (v := 0) hx hb d_L_law_856 (by decide) ?_
      refine lv_aload_n hx hb d_L_law_857 rfl (lv_at hl 5 rfl) ?_
      refine lv_iload hx hb d_L_law_858 (lv_at hl 1 rfl) ?_
      refine lv_iconst (v := 2) hx hb d_L_law_860 (by decide) ?_
      refine lv_iadd hx hb d_L_law_861 ?_
      refine lv_cst (x := 0 + 2) (y := 2) (by decide) ?_
      refine va_sld hx hb hX hbl hbA w.2.2.1 (vin (by decide)) d_L_law_862 ?_
      refine R_vi C0 w (rest := []) (wr := [((qn 0), .inr (1, fP 0 qp)), ((qn 5), .inr (6, fA 0 qm)), ((qp 1), .inl (cI, 10, .inl (fun _ => 0))), ((qp 6), .inl (cI, 10, .inl (fun _ => 0))), ((qp 7), .inl (cI, 10, .inl (fun _ => 0))), ((qp 8), .inl (cI, 10, .inl (fun _ => 0))), ((qp 9), .inl (cI, 10, .inl (fun _ => 0))), ((qm 5), .inl (cI, 16, .inl (fun _ => 0))), ((qr3 2), .inl (cI, 10, .inl (fun _ => 0))), ((qr3 7), .inl (cI, 10, .inl (fun _ => 0))), ((qr3 33), .inl (cI, 16, .inl (fun _ => 0))), (q4, .inl (cJ, 1, .inr (.inl (fun _ => 0))))]) (w1 := [(o2, .inr (7, fR 1 0 0 0 qr3))]) 8 rfl rfl [8] [0, 1, 2, 3, 4, 5, 6, 7, 9, 10, 11, 12] (c_R_runA l D cI cB cJ o2 qr3 0 (xs (2 : Int32).toNatClampNeg) hs) rfl rfl rfl rfl (by decide) wd_1121 wd_1118 wd_1119 wd_1120 wd_8 (n9 := 2) (by decide +kernel) rfl ⟨(Nat.le_of_ble_eq_true rfl), (Nat.le_of_ble_eq_true rfl)⟩ hl.1 rfl (Nat.le_of_ble_eq_true rfl) d_L_law_863 (Nat.le_of_ble_eq_true rfl) (Nat.le_of_ble_eq_true rfl) (fun H locs w => ?_)
      have w : Wd D (lA s) s [((qn 0), .inr (1, fP 0 qp)), ((qn 5), .inr (6, fA 0 qm)), ((qp 1), .inl (cI, 10, .inl (fun _ => 0))), ((qp 6), .inl (cI, 10, .inl (fun _ => 0))), ((qp 7), .inl (cI, 10, .inl (fun _ => 0))), ((qp 8), .inl (cI, 10, .inl (fun _ => 0))), ((qp 9), .inl (cI, 10, .inl (fun _ => 0))), ((qm 5), .inl (cI, 16, .inl (fun _ => 0))), ((qr3 2), .inl (cI, 10, .inl (fun _ => 0))), ((qr3 7), .inl (cI, 10, .inl (fun _ => 0))), ((qr3 33), .inl (cI, 16, .inl (fun _ => 0))), (q4, .inl (cJ, 1, .inr (.inl (fun _ => 0)))), (o2, .inr (7, fR 1 0 0 0 qr3))] H _ := w
      refine lv_istore hx hb d_L_law_866 hl (by decide) rfl (fun ls hl => ?_)
      have hl : lv_has ls 7 [(6, .int 0), (5, .int 1), (4, .int 0), (3, .ref q4), (2, .ref o2), (1, .ref o1), (0, .ref b)] := hl
      refine lv_aload_n hx hb d_L_law_868 rfl (lv_at hl 4 rfl) ?_
      refine R_ri C0 w (rest := []) 12 rfl rfl [12] (c_thrown l D cI cB cJ o2 qr3 1 0 0 0) rfl rfl wd_955 wd_952 wd_953 wd_954 wd_8 (n9 := 0) (by decide +kernel) rfl ⟨(Nat.le_of_ble_eq_true rfl), (Nat.le_of_ble_eq_true rfl)⟩ hl.1 rfl (Nat.le_of_ble_eq_true rfl) d_L_law_869 (Nat.le_of_ble_eq_true rfl) (Nat.le_of_ble_eq_true rfl) ?_
      refine lv_iload hx hb d_L_law_872 (lv_at hl 1 rfl) ?_
      refine lv_icmp_eq (tgt := 879) hx hb d_L_law_874 (by decide) (fun hc874 => ?_) (fun hc => absurd (by decide) hc)
      refine lv_iload hx hb d_L_law_879 (lv_at hl 1 rfl) ?_
      refine lv_if_ne (tgt := 896) hx hb d_L_law_881 (by decide) (fun hc881 => ?_) (fun hc => absurd hc (by decide))
      refine lv_goto (tgt := 993) hx hb d_L_law_896 (by decide) ?_
      exact law_tail C0 hX hbl hr hlk htl (Nat.le_of_ble_eq_true rfl) (Nat.le_of_ble_eq_true rfl) w (lv_sub hl [2, 6] rfl)
    · refine lv_iconst (v := 1) hx hb d_L_law_852 (by decide) ?_
      refine lv_goto (tgt := 857) hx hb d_L_law_853 (by decide) ?_
      refine lv_aload_n hx hb d_L_law_857 rfl (lv_at hl 5 rfl) ?_
      refine lv_iload hx hb d_L_law_858 (lv_at hl 1 rfl) ?_
      refine lv_iconst (v := 2) hx hb d_L_law_860 (by decide) ?_
      refine lv_iadd hx hb d_L_law_861 ?_
      refine lv_cst (x := 0 + 2) (y := 2) (by decide) ?_
      refine va_sld hx hb hX hbl hbA w.2.2.1 (vin (by decide)) d_L_law_862 ?_
      refine R_vi C0 w (rest := []) (wr := [((qn 0), .inr (1, fP 0 qp)), ((qn 5), .inr (6, fA 0 qm)), ((qp 1), .inl (cI, 10, .inl (fun _ => 0))), ((qp 6), .inl (cI, 10, .inl (fun _ => 0))), ((qp 7), .inl (cI, 10, .inl (fun _ => 0))), ((qp 8), .inl (cI, 10, .inl (fun _ => 0))), ((qp 9), .inl (cI, 10, .inl (fun _ => 0))), ((qm 5), .inl (cI, 16, .inl (fun _ => 0))), ((qr3 2), .inl (cI, 10, .inl (fun _ => 0))), ((qr3 7), .inl (cI, 10, .inl (fun _ => 0))), ((qr3 33), .inl (cI, 16, .inl (fun _ => 0))), (q4, .inl (cJ, 1, .inr (.inl (fun _ => 0))))]) (w1 := [(o2, .inr (7, fR 1 0 0 0 qr3))]) 8 rfl rfl [8] [0, 1, 2, 3, 4, 5, 6, 7, 9, 10, 11, 12] (c_R_runA l D cI cB cJ o2 qr3 1 (xs (2 : Int32).toNatClampNeg) hs) rfl rfl rfl rfl (by decide) wd_1121 wd_1118 wd_1119 wd_1120 wd_8 (n9 := 2) (by decide +kernel) rfl ⟨(Nat.le_of_ble_eq_true rfl), (Nat.le_of_ble_eq_true rfl)⟩ hl.1 rfl (Nat.le_of_ble_eq_true rfl) d_L_law_863 (Nat.le_of_ble_eq_true rfl) (Nat.le_of_ble_eq_true rfl) (fun H locs w => ?_)
      have w : Wd D (lA s) s [((qn 0), .inr (1, fP 0 qp)), ((qn 5), .inr (6, fA 0 qm)), ((qp 1), .inl (cI, 10, .inl (fun _ => 0))), ((qp 6), .inl (cI, 10, .inl (fun _ => 0))), ((qp 7), .inl (cI, 10, .inl (fun _ => 0))), ((qp 8), .inl (cI, 10, .inl (fun _ => 0))), ((qp 9), .inl (cI, 10, .inl (fun _ => 0))), ((qm 5), .inl (cI, 16, .inl (fun _ => 0))), ((qr3 2), .inl (cI, 10, .inl (fun _ => 0))), ((qr3 7), .inl (cI, 10, .inl (fun _ => 0))), ((qr3 33), .inl (cI, 16, .inl (fun _ => 0))), (q4, .inl (cJ, 1, .inr (.inl (fun _ => 0)))), (o2, .inr (7, fR 1 0 0 0 qr3))] H _ := w
      refine lv_istore hx hb d_L_law_866 hl (by decide) rfl (fun ls hl => ?_)
      have hl : lv_has ls 7 [(6, .int 0), (5, .int 1), (4, .int 0), (3, .ref q4), (2, .ref o2), (1, .ref o1), (0, .ref b)] := hl
      refine lv_aload_n hx hb d_L_law_868 rfl (lv_at hl 4 rfl) ?_
      refine R_ri C0 w (rest := []) 12 rfl rfl [12] (c_thrown l D cI cB cJ o2 qr3 1 0 0 0) rfl rfl wd_955 wd_952 wd_953 wd_954 wd_8 (n9 := 0) (by decide +kernel) rfl ⟨(Nat.le_of_ble_eq_true rfl), (Nat.le_of_ble_eq_true rfl)⟩ hl.1 rfl (Nat.le_of_ble_eq_true rfl) d_L_law_869 (Nat.le_of_ble_eq_true rfl) (Nat.le_of_ble_eq_true rfl) ?_
      refine lv_iload hx hb d_L_law_872 (lv_at hl 1 rfl) ?_
      refine lv_icmp_eq (tgt := 879) hx hb d_L_law_874 (by decide) (fun hc874 => ?_) (fun hc => absurd (by decide) hc)
      refine lv_iload hx hb d_L_law_879 (lv_at hl 1 rfl) ?_
      refine lv_if_ne (tgt := 896) hx hb d_L_law_881 (by decide) (fun hc881 => ?_) (fun hc => absurd hc (by decide))
      refine lv_goto (tgt := 993) hx hb d_L_law_896 (by decide) ?_
      exact law_tail C0 hX hbl hr hlk htl (Nat.le_of_ble_eq_true rfl) (Nat.le_of_ble_eq_true rfl) w (lv_sub hl [2, 6] rfl)
set_option maxHeartbeats 4000000 in
set_option maxRecDepth 100000 in
theorem law_case13B {qm : Nat → Nat} {qn : Nat → Nat} {qp : Nat → Nat} {qr3 : Nat → Nat} {o1 : Nat} {o2 : Nat} {q4 : Nat} (C0 : Cx p s m #[Value.ref b] c code 7 "NameForgeLaw" D cI cB cJ) (hX : va_X b 6 xs s s.heap) (hbl : b < s.heap.size) (hr : meth.sig.returnType = ret) (hlk : meth.locks = false) (htl : l.stackTraces = false) (hs : ¬ xs (2 : Int32).toNatClampNeg < 0) (ht : ¬ xs (2 : Int32).toNatClampNeg ≤ 200) (w : Wd D (lA s) s [(o1, .inr (0, fN 0 qn)), ((qn 0), .inr (1, fP 0 qp)), ((qn 5), .inr (6, fA 0 qm)), ((qp 1), .inl (cI, 10, .inl (fun _ => 0))), ((qp 6), .inl (cI, 10, .inl (fun _ => 0))), ((qp 7), .inl (cI, 10, .inl (fun _ => 0))), ((qp 8), .inl (cI, 10, .inl (fun _ => 0))), ((qp 9), .inl (cI, 10, .inl (fun _ => 0))), ((qm 5), .inl (cI, 16, .inl (fun _ => 0))), (o2, .inr (7, fR 0 0 0 0 qr3)), ((qr3 2), .inl (cI, 10, .inl (fun _ => 0))), ((qr3 7), .inl (cI, 10, .inl (fun _ => 0))), ((qr3 33), .inl (cI, 16, .inl (fun _ => 0))), (q4, .inl (cJ, 1, .inr (.inl (fun _ => 0))))] H locs) (hl : lv_has ls 7 [(4, .int 0), (3, .ref q4), (2, .ref o2), (1, .ref o1), (0, .ref b)]) : W p l e room_1 s m #[Value.ref b] below meth c H locs 165 3470 (lw_Z below #[Value.ref b] s) (F0 m 815 ls []) := by
  have hx := C0.1
  have hb := C0.2.1
  have hbA : ¬ lA s b := fun h => absurd hbl (Nat.not_lt.mpr h)
  refine lv_aload_n hx hb d_L_law_815 rfl (lv_at hl 3 rfl) ?_
  refine lv_aload_n hx hb d_L_law_816 rfl (lv_at hl 4 rfl) ?_
  refine lv_iload hx hb d_L_law_817 (lv_at hl 0 rfl) ?_
  refine lv_iconst (v := 1) hx hb d_L_law_819 (by decide) ?_
  refine lv_iadd hx hb d_L_law_820 ?_
  refine lv_cst (x := 0 + 1) (y := 1) (by decide) ?_
  refine va_sld hx hb hX hbl hbA w.2.2.1 (vin (by decide)) d_L_law_821 ?_
  refine lv_if_eq (tgt := 829) hx hb d_L_law_822 (by decide) (fun hc822 => ?_) (fun hc822 => ?_)
  · refine lv_iconst (v := 0) hx hb d_L_law_829 (by decide) ?_
    refine lv_aload_n hx hb d_L_law_830 rfl (lv_at hl 4 rfl) ?_
    refine lv_iload hx hb d_L_law_831 (lv_at hl 0 rfl) ?_
    refine lv_iconst (v := 2) hx hb d_L_law_833 (by decide) ?_
    refine lv_iadd hx hb d_L_law_834 ?_
    refine lv_cst (x := 0 + 2) (y := 2) (by decide) ?_
    refine va_sld hx hb hX hbl hbA w.2.2.1 (vin (by decide)) d_L_law_835 ?_
    refine lv_aload_n hx hb d_L_law_836 rfl (lv_at hl 1 rfl) ?_
    refine R_sh C0 w (rest := []) (wr := [((qn 0), .inr (1, fP 0 qp)), ((qn 5), .inr (6, fA 0 qm)), ((qp 1), .inl (cI, 10, .inl (fun _ => 0))), ((qp 6), .inl (cI, 10, .inl (fun _ => 0))), ((qp 7), .inl (cI, 10, .inl (fun _ => 0))), ((qp 8), .inl (cI, 10, .inl (fun _ => 0))), ((qp 9), .inl (cI, 10, .inl (fun _ => 0))), ((qm 5), .inl (cI, 16, .inl (fun _ => 0))), (o2, .inr (7, fR 0 0 0 0 qr3)), ((qr3 2), .inl (cI, 10, .inl (fun _ => 0))), ((qr3 7), .inl (cI, 10, .inl (fun _ => 0))), ((qr3 33), .inl (cI, 16, .inl (fun _ => 0))), (q4, .inl (cJ, 1, .inr (.inl (fun _ => 0))))]) (w1 := []) [0] [1, 2, 3, 4, 5, 6, 7, 8, 9, 10, 11, 12, 13] (c_L_runB l D cI cB cJ o1 qn 0 (xs (2 : Int32).toNatClampNeg) q4 htl hs ht) rfl rfl rfl rfl (by decide) wd_758 wd_756 wd_757 wd_0 (n9 := 4) (by decide +kernel) rfl ⟨(Nat.le_of_ble_eq_true rfl), (Nat.le_of_ble_eq_true rfl)⟩ hl.1 rfl (Nat.le_of_ble_eq_true rfl) d_L_law_837 (Nat.le_of_ble_eq_true rfl) (Nat.le_of_ble_eq_true rfl) (fun H locs w => ?_)
    refine W.cs (cells' := 166) (slots' := 3476) rfl rfl ?_
    have w : Wd D (lA s) s [((qn 0), .inr (1, fP 0 qp)), ((qn 5), .inr (6, fA 0 qm)), ((qp 1), .inl (cI, 10, .inl (fun _ => 0))), ((qp 6), .inl (cI, 10, .inl (fun _ => 0))), ((qp 7), .inl (cI, 10, .inl (fun _ => 0))), ((qp 8), .inl (cI, 10, .inl (fun _ => 0))), ((qp 9), .inl (cI, 10, .inl (fun _ => 0))), ((qm 5), .inl (cI, 16, .inl (fun _ => 0))), (o2, .inr (7, fR 0 0 0 0 qr3)), ((qr3 2), .inl (cI, 10, .inl (fun _ => 0))), ((qr3 7), .inl (cI, 10, .inl (fun _ => 0))), ((qr3 33), .inl (cI, 16, .inl (fun _ => 0))), (q4, .inl (cJ, 1, .inr (.inl (fun _ => 0))))] H _ := w
    refine lv_istore hx hb d_L_law_840 hl (by decide) rfl (fun ls hl => ?_)
    have hl : lv_has ls 7 [(5, .int 1), (4, .int 0), (3, .ref q4), (2, .ref o2), (1, .ref o1), (0, .ref b)] := hl
    refine lv_aload_n hx hb d_L_law_842 rfl (lv_at hl 3 rfl) ?_
    refine lv_aload_n hx hb d_L_law_843 rfl (lv_at hl 5 rfl) ?_
    refine lv_iload hx hb d_L_law_844 (lv_at hl 1 rfl) ?_
    refine lv_iconst (v := 1) hx hb d_L_law_846 (by decide) ?_
    refine lv_iadd hx hb d_L_law_847 ?_
    refine lv_cst (x := 0 + 1) (y := 1) (by decide) ?_
    refine va_sld hx hb hX hbl hbA w.2.2.1 (vin (by decide)) d_L_law_848 ?_
    refine lv_if_eq (tgt := 856) hx hb d_L_law_849 (by decide) (fun hc849 => ?_) (fun hc849 => ?_)
    · refine lv_iconst (v := 0) hx hb d_L_law_856 (by decide) ?_
      refine lv_aload_n hx hb d_L_law_857 rfl (lv_at hl 5 rfl) ?_
      refine lv_iload hx hb d_L_law_858 (lv_at hl 1 rfl) ?_
      refine lv_iconst (v := 2) hx hb d_L_law_860 (by decide) ?_
      refine lv_iadd hx hb d_L_law_861 ?_
      refine lv_cst (x := 0 + 2) (y := 2) (by decide) ?_
      refine va_sld hx hb hX hbl hbA w.2.2.1 (vin (by decide)) d_L_law_862 ?_
      refine R_vi C0 w (rest := []) (wr := [((qn 0), .inr (1, fP 0 qp)), ((qn 5), .inr (6, fA 0 qm)), ((qp 1), .inl (cI, 10, .inl (fun _ => 0))), ((qp 6), .inl (cI, 10, .inl (fun _ => 0))), ((qp 7), .inl (cI, 10, .inl (fun _ => 0))), ((qp 8), .inl (cI, 10, .inl (fun _ => 0))), ((qp 9), .inl (cI, 10, .inl (fun _ => 0))), ((qm 5), .inl (cI, 16, .inl (fun _ => 0))), ((qr3 2), .inl (cI, 10, .inl (fun _ => 0))), ((qr3 7), .inl (cI, 10, .inl (fun _ => 0))), ((qr3 33), .inl (cI, 16, .inl (fun _ => 0))), (q4, .inl (cJ, 1, .inr (.inl (fun _ => 0))))]) (w1 := [(o2, .inr (7, fR 1 0 0 0 qr3))]) 8 rfl rfl [8] [0, 1, 2, 3, 4, 5, 6, 7, 9, 10, 11, 12] (c_R_runB l D cI cB cJ o2 qr3 0 (xs (2 : Int32).toNatClampNeg) hs ht) rfl rfl rfl rfl (by decide) wd_1121 wd_1118 wd_1119 wd_1120 wd_8 (n9 := 2) (by decide +kernel) rfl ⟨(Nat.le_of_ble_eq_true rfl), (Nat.le_of_ble_eq_true rfl)⟩ hl.1 rfl (Nat.le_of_ble_eq_true rfl) d_L_law_863 (Nat.le_of_ble_eq_true rfl) (Nat.le_of_ble_eq_true rfl) (fun H locs w => ?_)
      have w : Wd D (lA s) s [((qn 0), .inr (1, fP 0 qp)), ((qn 5), .inr (6, fA 0 qm)), ((qp 1), .inl (cI, 10, .inl (fun _ => 0))), ((qp 6), .inl (cI, 10, .inl (fun _ => 0))), ((qp 7), .inl (cI, 10, .inl (fun _ => 0))), ((qp 8), .inl (cI, 10, .inl (fun _ => 0))), ((qp 9), .inl (cI, 10, .inl (fun _ => 0))), ((qm 5), .inl (cI, 16, .inl (fun _ => 0))), ((qr3 2), .inl (cI, 10, .inl (fun _ => 0))), ((qr3 7), .inl (cI, 10, .inl (fun _ => 0))), ((qr3 33), .inl (cI, 16, .inl (fun _ => 0))), (q4, .inl (cJ, 1, .inr (.inl (fun _ => 0)))), (o2, .inr (7, fR 1 0 0 0 qr3))] H _ := w
      refine lv_istore hx hb d_L_law_866 hl (by decide) rfl (fun ls hl => ?_)
      have hl : lv_has ls 7 [(6, .int 0), (5, .int 1), (4, .int 0), (3, .ref q4), (2, .ref o2), (1, .ref o1), (0, .ref b)] := hl
      refine lv_aload_n hx hb d_L_law_868 rfl (lv_at hl 4 rfl) ?_
      refine R_ri C0 w (rest := []) 12 rfl rfl [12] (c_thrown l D cI cB cJ o2 qr3 1 0 0 0) rfl rfl wd_955 wd_952 wd_953 wd_954 wd_8 (n9 := 0) (by decide +kernel) rfl ⟨(Nat.le_of_ble_eq_true rfl), (Nat.le_of_ble_eq_true rfl)⟩ hl.1 rfl (Nat.le_of_ble_eq_true rfl) d_L_law_869 (Nat.le_of_ble_eq_true rfl) (Nat.le_of_ble_eq_true rfl) ?_
      refine lv_iload hx hb d_L_law_872 (lv_at hl 1 rfl) ?_
      refine lv_icmp_eq (tgt := 879) hx hb d_L_law_874 (by decide) (fun hc874 => ?_) (fun hc => absurd (by decide) hc)
      refine lv_iload hx hb d_L_law_879 (lv_at hl 1 rfl) ?_
      refine lv_if_ne (tgt := 896) hx hb d_L_law_881 (by decide) (fun hc881 => ?_) (fun hc => absurd hc (by decide))
      refine lv_goto (tgt := 993) hx hb d_L_law_896 (by decide) ?_
      exact law_tail C0 hX hbl hr hlk htl (Nat.le_of_ble_eq_true rfl) (Nat.le_of_ble_eq_true rfl) w (lv_sub hl [2, 6] rfl)
    · refine lv_iconst (v := 1) hx hb d_L_law_852 (by decide) ?_
      refine lv_goto (tgt := 857) hx hb d_L_law_853 (by decide) ?_
      refine lv_aload_n hx hb d_L_law_857 rfl (lv_at hl 5 rfl) ?_
      refine lv_iload hx hb d_L_law_858 (lv_at hl 1 rfl) ?_
      refine lv_iconst (v := 2) hx hb d_L_law_860 (by decide) ?_
      refine lv_iadd hx hb d_L_law_861 ?_
      refine lv_cst (x := 0 + 2) (y := 2) (by decide) ?_
      refine va_sld hx hb hX hbl hbA w.2.2.1 (vin (by decide)) d_L_law_862 ?_
      refine R_vi C0 w (rest := []) (wr := [((qn 0), .inr (1, fP 0 qp)), ((qn 5), .inr (6, fA 0 qm)), ((qp 1), .inl (cI, 10, .inl (fun _ => 0))), ((qp 6), .inl (cI, 10, .inl (fun _ => 0))), ((qp 7), .inl (cI, 10, .inl (fun _ => 0))), ((qp 8), .inl (cI, 10, .inl (fun _ => 0))), ((qp 9), .inl (cI, 10, .inl (fun _ => 0))), ((qm 5), .inl (cI, 16, .inl (fun _ => 0))), ((qr3 2), .inl (cI, 10, .inl (fun _ => 0))), ((qr3 7), .inl (cI, 10, .inl (fun _ => 0))), ((qr3 33), .inl (cI, 16, .inl (fun _ => 0))), (q4, .inl (cJ, 1, .inr (.inl (fun _ => 0))))]) (w1 := [(o2, .inr (7, fR 1 0 0 0 qr3))]) 8 rfl rfl [8] [0, 1, 2, 3, 4, 5, 6, 7, 9, 10, 11, 12] (c_R_runB l D cI cB cJ o2 qr3 1 (xs (2 : Int32).toNatClampNeg) hs ht) rfl rfl rfl rfl (by decide) wd_1121 wd_1118 wd_1119 wd_1120 wd_8 (n9 := 2) (by decide +kernel) rfl ⟨(Nat.le_of_ble_eq_true rfl), (Nat.le_of_ble_eq_true rfl)⟩ hl.1 rfl (Nat.le_of_ble_eq_true rfl) d_L_law_863 (Nat.le_of_ble_eq_true rfl) (Nat.le_of_ble_eq_true rfl) (fun H locs w => ?_)
      have w : Wd D (lA s) s [((qn 0), .inr (1, fP 0 qp)), ((qn 5), .inr (6, fA 0 qm)), ((qp 1), .inl (cI, 10, .inl (fun _ => 0))), ((qp 6), .inl (cI, 10, .inl (fun _ => 0))), ((qp 7), .inl (cI, 10, .inl (fun _ => 0))), ((qp 8), .inl (cI, 10, .inl (fun _ => 0))), ((qp 9), .inl (cI, 10, .inl (fun _ => 0))), ((qm 5), .inl (cI, 16, .inl (fun _ => 0))), ((qr3 2), .inl (cI, 10, .inl (fun _ => 0))), ((qr3 7), .inl (cI, 10, .inl (fun _ => 0))), ((qr3 33), .inl (cI, 16, .inl (fun _ => 0))), (q4, .inl (cJ, 1, .inr (.inl (fun _ => 0)))), (o2, .inr (7, fR 1 0 0 0 qr3))] H _ := w
      refine lv_istore hx hb d_L_law_866 hl (by decide) rfl (fun ls hl => ?_)
      have hl : lv_has ls 7 [(6, .int 0), (5, .int 1), (4, .int 0), (3, .ref q4), (2, .ref o2), (1, .ref o1), (0, .ref b)] := hl
      refine lv_aload_n hx hb d_L_law_868 rfl (lv_at hl 4 rfl) ?_
      refine R_ri C0 w (rest := []) 12 rfl rfl [12] (c_thrown l D cI cB cJ o2 qr3 1 0 0 0) rfl rfl wd_955 wd_952 wd_953 wd_954 wd_8 (n9 := 0) (by decide +kernel) rfl ⟨(Nat.le_of_ble_eq_true rfl), (Nat.le_of_ble_eq_true rfl)⟩ hl.1 rfl (Nat.le_of_ble_eq_true rfl) d_L_law_869 (Nat.le_of_ble_eq_true rfl) (Nat.le_of_ble_eq_true rfl) ?_
      refine lv_iload hx hb d_L_law_872 (lv_at hl 1 rfl) ?_
      refine lv_icmp_eq (tgt := 879) hx hb d_L_law_874 (by decide) (fun hc874 => ?_) (fun hc => absurd (by decide) hc)
      refine lv_iload hx hb d_L_law_879 (lv_at hl 1 rfl) ?_
      refine lv_if_ne (tgt := 896) hx hb d_L_law_881 (by decide) (fun hc881 => ?_) (fun hc => absurd hc (by decide))
      refine lv_goto (tgt := 993) hx hb d_L_law_896 (by decide) ?_
      exact law_tail C0 hX hbl hr hlk htl (Nat.le_of_ble_eq_true rfl) (Nat.le_of_ble_eq_true rfl) w (lv_sub hl [2, 6] rfl)
  · refine lv_iconst (v := 1) hx hb d_L_law_825 (by decide) ?_
    refine lv_goto (tgt := 830) hx hb d_L_law_826 (by decide) ?_
    refine lv_aload_n hx hb d_L_law_830 rfl (lv_at hl 4 rfl) ?_
    refine lv_iload hx hb d_L_law_831 (lv_at hl 0 rfl) ?_
    refine lv_iconst (v := 2) hx hb d_L_law_833 (by decide) ?_
    refine lv_iadd hx hb d_L_law_834 ?_
    refine lv_cst (x := 0 + 2) (y := 2) (by decide) ?_
    refine va_sld hx hb hX hbl hbA w.2.2.1 (vin (by decide)) d_L_law_835 ?_
    refine lv_aload_n hx hb d_L_law_836 rfl (lv_at hl 1 rfl) ?_
    refine R_sh C0 w (rest := []) (wr := [((qn 0), .inr (1, fP 0 qp)), ((qn 5), .inr (6, fA 0 qm)), ((qp 1), .inl (cI, 10, .inl (fun _ => 0))), ((qp 6), .inl (cI, 10, .inl (fun _ => 0))), ((qp 7), .inl (cI, 10, .inl (fun _ => 0))), ((qp 8), .inl (cI, 10, .inl (fun _ => 0))), ((qp 9), .inl (cI, 10, .inl (fun _ => 0))), ((qm 5), .inl (cI, 16, .inl (fun _ => 0))), (o2, .inr (7, fR 0 0 0 0 qr3)), ((qr3 2), .inl (cI, 10, .inl (fun _ => 0))), ((qr3 7), .inl (cI, 10, .inl (fun _ => 0))), ((qr3 33), .inl (cI, 16, .inl (fun _ => 0))), (q4, .inl (cJ, 1, .inr (.inl (fun _ => 0))))]) (w1 := []) [0] [1, 2, 3, 4, 5, 6, 7, 8, 9, 10, 11, 12, 13] (c_L_runB l D cI cB cJ o1 qn 1 (xs (2 : Int32).toNatClampNeg) q4 htl hs ht) rfl rfl rfl rfl (by decide) wd_758 wd_756 wd_757 wd_0 (n9 := 4) (by decide +kernel) rfl ⟨(Nat.le_of_ble_eq_true rfl), (Nat.le_of_ble_eq_true rfl)⟩ hl.1 rfl (Nat.le_of_ble_eq_true rfl) d_L_law_837 (Nat.le_of_ble_eq_true rfl) (Nat.le_of_ble_eq_true rfl) (fun H locs w => ?_)
    refine W.cs (cells' := 166) (slots' := 3476) rfl rfl ?_
    have w : Wd D (lA s) s [((qn 0), .inr (1, fP 0 qp)), ((qn 5), .inr (6, fA 0 qm)), ((qp 1), .inl (cI, 10, .inl (fun _ => 0))), ((qp 6), .inl (cI, 10, .inl (fun _ => 0))), ((qp 7), .inl (cI, 10, .inl (fun _ => 0))), ((qp 8), .inl (cI, 10, .inl (fun _ => 0))), ((qp 9), .inl (cI, 10, .inl (fun _ => 0))), ((qm 5), .inl (cI, 16, .inl (fun _ => 0))), (o2, .inr (7, fR 0 0 0 0 qr3)), ((qr3 2), .inl (cI, 10, .inl (fun _ => 0))), ((qr3 7), .inl (cI, 10, .inl (fun _ => 0))), ((qr3 33), .inl (cI, 16, .inl (fun _ => 0))), (q4, .inl (cJ, 1, .inr (.inl (fun _ => 0))))] H _ := w
    refine lv_istore hx hb d_L_law_840 hl (by decide) rfl (fun ls hl => ?_)
    have hl : lv_has ls 7 [(5, .int 1), (4, .int 0), (3, .ref q4), (2, .ref o2), (1, .ref o1), (0, .ref b)] := hl
    refine lv_aload_n hx hb d_L_law_842 rfl (lv_at hl 3 rfl) ?_
    refine lv_aload_n hx hb d_L_law_843 rfl (lv_at hl 5 rfl) ?_
    refine lv_iload hx hb d_L_law_844 (lv_at hl 1 rfl) ?_
    refine lv_iconst (v := 1) hx hb d_L_law_846 (by decide) ?_
    refine lv_iadd hx hb d_L_law_847 ?_
    refine lv_cst (x := 0 + 1) (y := 1) (by decide) ?_
    refine va_sld hx hb hX hbl hbA w.2.2.1 (vin (by decide)) d_L_law_848 ?_
    refine lv_if_eq (tgt := 856) hx hb d_L_law_849 (by decide) (fun hc849 => ?_) (fun hc849 => ?_)
    · refine lv_iconst (v := 0) hx hb d_L_law_856 (by decide) ?_
      refine lv_aload_n hx hb d_L_law_857 rfl (lv_at hl 5 rfl) ?_
      refine lv_iload hx hb d_L_law_858 (lv_at hl 1 rfl) ?_
      refine lv_iconst (v := 2) hx hb d_L_law_860 (by decide) ?_
      refine lv_iadd hx hb d_L_law_861 ?_
      refine lv_cst (x := 0 + 2) (y := 2) (by decide) ?_
      refine va_sld hx hb hX hbl hbA w.2.2.1 (vin (by decide)) d_L_law_862 ?_
      refine R_vi C0 w (rest := []) (wr := [((qn 0), .inr (1, fP 0 qp)), ((qn 5), .inr (6, fA 0 qm)), ((qp 1), .inl (cI, 10, .inl (fun _ => 0))), ((qp 6), .inl (cI, 10, .inl (fun _ => 0))), ((qp 7), .inl (cI, 10, .inl (fun _ => 0))), ((qp 8), .inl (cI, 10, .inl (fun _ => 0))), ((qp 9), .inl (cI, 10, .inl (fun _ => 0))), ((qm 5), .inl (cI, 16, .inl (fun _ => 0))), ((qr3 2), .inl (cI, 10, .inl (fun _ => 0))), ((qr3 7), .inl (cI, 10, .inl (fun _ => 0))), ((qr3 33), .inl (cI, 16, .inl (fun _ => 0))), (q4, .inl (cJ, 1, .inr (.inl (fun _ => 0))))]) (w1 := [(o2, .inr (7, fR 1 0 0 0 qr3))]) 8 rfl rfl [8] [0, 1, 2, 3, 4, 5, 6, 7, 9, 10, 11, 12] (c_R_runB l D cI cB cJ o2 qr3 0 (xs (2 : Int32).toNatClampNeg) hs ht) rfl rfl rfl rfl (by decide) wd_1121 wd_1118 wd_1119 wd_1120 wd_8 (n9 := 2) (by decide +kernel) rfl ⟨(Nat.le_of_ble_eq_true rfl), (Nat.le_of_ble_eq_true rfl)⟩ hl.1 rfl (Nat.le_of_ble_eq_true rfl) d_L_law_863 (Nat.le_of_ble_eq_true rfl) (Nat.le_of_ble_eq_true rfl) (fun H locs w => ?_)
      have w : Wd D (lA s) s [((qn 0), .inr (1, fP 0 qp)), ((qn 5), .inr (6, fA 0 qm)), ((qp 1), .inl (cI, 10, .inl (fun _ => 0))), ((qp 6), .inl (cI, 10, .inl (fun _ => 0))), ((qp 7), .inl (cI, 10, .inl (fun _ => 0))), ((qp 8), .inl (cI, 10, .inl (fun _ => 0))), ((qp 9), .inl (cI, 10, .inl (fun _ => 0))), ((qm 5), .inl (cI, 16, .inl (fun _ => 0))), ((qr3 2), .inl (cI, 10, .inl (fun _ => 0))), ((qr3 7), .inl (cI, 10, .inl (fun _ => 0))), ((qr3 33), .inl (cI, 16, .inl (fun _ => 0))), (q4, .inl (cJ, 1, .inr (.inl (fun _ => 0)))), (o2, .inr (7, fR 1 0 0 0 qr3))] H _ := w
      refine lv_istore hx hb d_L_law_866 hl (by decide) rfl (fun ls hl => ?_)
      have hl : lv_has ls 7 [(6, .int 0), (5, .int 1), (4, .int 0), (3, .ref q4), (2, .ref o2), (1, .ref o1), (0, .ref b)] := hl
      refine lv_aload_n hx hb d_L_law_868 rfl (lv_at hl 4 rfl) ?_
      refine R_ri C0 w (rest := []) 12 rfl rfl [12] (c_thrown l D cI cB cJ o2 qr3 1 0 0 0) rfl rfl wd_955 wd_952 wd_953 wd_954 wd_8 (n9 := 0) (by decide +kernel) rfl ⟨(Nat.le_of_ble_eq_true rfl), (Nat.le_of_ble_eq_true rfl)⟩ hl.1 rfl (Nat.le_of_ble_eq_true rfl) d_L_law_869 (Nat.le_of_ble_eq_true rfl) (Nat.le_of_ble_eq_true rfl) ?_
      refine lv_iload hx hb d_L_law_872 (lv_at hl 1 rfl) ?_
      refine lv_icmp_eq (tgt := 879) hx hb d_L_law_874 (by decide) (fun hc874 => ?_) (fun hc => absurd (by decide) hc)
      refine lv_iload hx hb d_L_law_879 (lv_at hl 1 rfl) ?_
      refine lv_if_ne (tgt := 896) hx hb d_L_law_881 (by decide) (fun hc881 => ?_) (fun hc => absurd hc (by decide))
      refine lv_goto (tgt := 993) hx hb d_L_law_896 (by decide) ?_
      exact law_tail C0 hX hbl hr hlk htl (Nat.le_of_ble_eq_true rfl) (Nat.le_of_ble_eq_true rfl) w (lv_sub hl [2, 6] rfl)
    · refine lv_iconst (v := 1) hx hb d_L_law_852 (by decide) ?_
      refine lv_goto (tgt := 857) hx hb d_L_law_853 (by decide) ?_
      refine lv_aload_n hx hb d_L_law_857 rfl (lv_at hl 5 rfl) ?_
      refine lv_iload hx hb d_L_law_858 (lv_at hl 1 rfl) ?_
      refine lv_iconst (v := 2) hx hb d_L_law_860 (by decide) ?_
      refine lv_iadd hx hb d_L_law_861 ?_
      refine lv_cst (x := 0 + 2) (y := 2) (by decide) ?_
      refine va_sld hx hb hX hbl hbA w.2.2.1 (vin (by decide)) d_L_law_862 ?_
      refine R_vi C0 w (rest := []) (wr := [((qn 0), .inr (1, fP 0 qp)), ((qn 5), .inr (6, fA 0 qm)), ((qp 1), .inl (cI, 10, .inl (fun _ => 0))), ((qp 6), .inl (cI, 10, .inl (fun _ => 0))), ((qp 7), .inl (cI, 10, .inl (fun _ => 0))), ((qp 8), .inl (cI, 10, .inl (fun _ => 0))), ((qp 9), .inl (cI, 10, .inl (fun _ => 0))), ((qm 5), .inl (cI, 16, .inl (fun _ => 0))), ((qr3 2), .inl (cI, 10, .inl (fun _ => 0))), ((qr3 7), .inl (cI, 10, .inl (fun _ => 0))), ((qr3 33), .inl (cI, 16, .inl (fun _ => 0))), (q4, .inl (cJ, 1, .inr (.inl (fun _ => 0))))]) (w1 := [(o2, .inr (7, fR 1 0 0 0 qr3))]) 8 rfl rfl [8] [0, 1, 2, 3, 4, 5, 6, 7, 9, 10, 11, 12] (c_R_runB l D cI cB cJ o2 qr3 1 (xs (2 : Int32).toNatClampNeg) hs ht) rfl rfl rfl rfl (by decide) wd_1121 wd_1118 wd_1119 wd_1120 wd_8 (n9 := 2) (by decide +kernel) rfl ⟨(Nat.le_of_ble_eq_true rfl), (Nat.le_of_ble_eq_true rfl)⟩ hl.1 rfl (Nat.le_of_ble_eq_true rfl) d_L_law_863 (Nat.le_of_ble_eq_true rfl) (Nat.le_of_ble_eq_true rfl) (fun H locs w => ?_)
      have w : Wd D (lA s) s [((qn 0), .inr (1, fP 0 qp)), ((qn 5), .inr (6, fA 0 qm)), ((qp 1), .inl (cI, 10, .inl (fun _ => 0))), ((qp 6), .inl (cI, 10, .inl (fun _ => 0))), ((qp 7), .inl (cI, 10, .inl (fun _ => 0))), ((qp 8), .inl (cI, 10, .inl (fun _ => 0))), ((qp 9), .inl (cI, 10, .inl (fun _ => 0))), ((qm 5), .inl (cI, 16, .inl (fun _ => 0))), ((qr3 2), .inl (cI, 10, .inl (fun _ => 0))), ((qr3 7), .inl (cI, 10, .inl (fun _ => 0))), ((qr3 33), .inl (cI, 16, .inl (fun _ => 0))), (q4, .inl (cJ, 1, .inr (.inl (fun _ => 0)))), (o2, .inr (7, fR 1 0 0 0 qr3))] H _ := w
      refine lv_istore hx hb d_L_law_866 hl (by decide) rfl (fun ls hl => ?_)
      have hl : lv_has ls 7 [(6, .int 0), (5, .int 1), (4, .int 0), (3, .ref q4), (2, .ref o2), (1, .ref o1), (0, .ref b)] := hl
      refine lv_aload_n hx hb d_L_law_868 rfl (lv_at hl 4 rfl) ?_
      refine R_ri C0 w (rest := []) 12 rfl rfl [12] (c_thrown l D cI cB cJ o2 qr3 1 0 0 0) rfl rfl wd_955 wd_952 wd_953 wd_954 wd_8 (n9 := 0) (by decide +kernel) rfl ⟨(Nat.le_of_ble_eq_true rfl), (Nat.le_of_ble_eq_true rfl)⟩ hl.1 rfl (Nat.le_of_ble_eq_true rfl) d_L_law_869 (Nat.le_of_ble_eq_true rfl) (Nat.le_of_ble_eq_true rfl) ?_
      refine lv_iload hx hb d_L_law_872 (lv_at hl 1 rfl) ?_
      refine lv_icmp_eq (tgt := 879) hx hb d_L_law_874 (by decide) (fun hc874 => ?_) (fun hc => absurd (by decide) hc)
      refine lv_iload hx hb d_L_law_879 (lv_at hl 1 rfl) ?_
      refine lv_if_ne (tgt := 896) hx hb d_L_law_881 (by decide) (fun hc881 => ?_) (fun hc => absurd hc (by decide))
      refine lv_goto (tgt := 993) hx hb d_L_law_896 (by decide) ?_
      exact law_tail C0 hX hbl hr hlk htl (Nat.le_of_ble_eq_true rfl) (Nat.le_of_ble_eq_true rfl) w (lv_sub hl [2, 6] rfl)
set_option maxHeartbeats 4000000 in
set_option maxRecDepth 100000 in
theorem law_case13C {qm : Nat → Nat} {qn : Nat → Nat} {qp : Nat → Nat} {qr3 : Nat → Nat} {o1 : Nat} {o2 : Nat} {q4 : Nat} (C0 : Cx p s m #[Value.ref b] c code 7 "NameForgeLaw" D cI cB cJ) (hX : va_X b 6 xs s s.heap) (hbl : b < s.heap.size) (hr : meth.sig.returnType = ret) (hlk : meth.locks = false) (htl : l.stackTraces = false) (hs : ¬ xs (2 : Int32).toNatClampNeg < 0) (ht : xs (2 : Int32).toNatClampNeg ≤ 200) (w : Wd D (lA s) s [(o1, .inr (0, fN 0 qn)), ((qn 0), .inr (1, fP 0 qp)), ((qn 5), .inr (6, fA 0 qm)), ((qp 1), .inl (cI, 10, .inl (fun _ => 0))), ((qp 6), .inl (cI, 10, .inl (fun _ => 0))), ((qp 7), .inl (cI, 10, .inl (fun _ => 0))), ((qp 8), .inl (cI, 10, .inl (fun _ => 0))), ((qp 9), .inl (cI, 10, .inl (fun _ => 0))), ((qm 5), .inl (cI, 16, .inl (fun _ => 0))), (o2, .inr (7, fR 0 0 0 0 qr3)), ((qr3 2), .inl (cI, 10, .inl (fun _ => 0))), ((qr3 7), .inl (cI, 10, .inl (fun _ => 0))), ((qr3 33), .inl (cI, 16, .inl (fun _ => 0))), (q4, .inl (cJ, 1, .inr (.inl (fun _ => 0))))] H locs) (hl : lv_has ls 7 [(4, .int 0), (3, .ref q4), (2, .ref o2), (1, .ref o1), (0, .ref b)]) : W p l e room_1 s m #[Value.ref b] below meth c H locs 165 3470 (lw_Z below #[Value.ref b] s) (F0 m 815 ls []) := by
  have hx := C0.1
  have hb := C0.2.1
  have hbA : ¬ lA s b := fun h => absurd hbl (Nat.not_lt.mpr h)
  refine lv_aload_n hx hb d_L_law_815 rfl (lv_at hl 3 rfl) ?_
  refine lv_aload_n hx hb d_L_law_816 rfl (lv_at hl 4 rfl) ?_
  refine lv_iload hx hb d_L_law_817 (lv_at hl 0 rfl) ?_
  refine lv_iconst (v := 1) hx hb d_L_law_819 (by decide) ?_
  refine lv_iadd hx hb d_L_law_820 ?_
  refine lv_cst (x := 0 + 1) (y := 1) (by decide) ?_
  refine va_sld hx hb hX hbl hbA w.2.2.1 (vin (by decide)) d_L_law_821 ?_
  refine lv_if_eq (tgt := 829) hx hb d_L_law_822 (by decide) (fun hc822 => ?_) (fun hc822 => ?_)
  · refine lv_iconst (v := 0) hx hb d_L_law_829 (by decide) ?_
    refine lv_aload_n hx hb d_L_law_830 rfl (lv_at hl 4 rfl) ?_
    refine lv_iload hx hb d_L_law_831 (lv_at hl 0 rfl) ?_
    refine lv_iconst (v := 2) hx hb d_L_law_833 (by decide) ?_
    refine lv_iadd hx hb d_L_law_834 ?_
    refine lv_cst (x := 0 + 2) (y := 2) (by decide) ?_
    refine va_sld hx hb hX hbl hbA w.2.2.1 (vin (by decide)) d_L_law_835 ?_
    refine lv_aload_n hx hb d_L_law_836 rfl (lv_at hl 1 rfl) ?_
    refine R_sh C0 w (rest := []) (wr := [((qn 0), .inr (1, fP 0 qp)), ((qn 5), .inr (6, fA 0 qm)), ((qp 1), .inl (cI, 10, .inl (fun _ => 0))), ((qp 6), .inl (cI, 10, .inl (fun _ => 0))), ((qp 7), .inl (cI, 10, .inl (fun _ => 0))), ((qp 8), .inl (cI, 10, .inl (fun _ => 0))), ((qp 9), .inl (cI, 10, .inl (fun _ => 0))), ((qm 5), .inl (cI, 16, .inl (fun _ => 0))), (o2, .inr (7, fR 0 0 0 0 qr3)), ((qr3 2), .inl (cI, 10, .inl (fun _ => 0))), ((qr3 7), .inl (cI, 10, .inl (fun _ => 0))), ((qr3 33), .inl (cI, 16, .inl (fun _ => 0))), (q4, .inl (cJ, 1, .inr (.inl (fun _ => 0))))]) (w1 := []) [0] [1, 2, 3, 4, 5, 6, 7, 8, 9, 10, 11, 12, 13] (c_L_runC l D cI cB cJ o1 qn 0 (xs (2 : Int32).toNatClampNeg) q4 htl hs ht) rfl rfl rfl rfl (by decide) wd_758 wd_756 wd_757 wd_0 (n9 := 4) (by decide +kernel) rfl ⟨(Nat.le_of_ble_eq_true rfl), (Nat.le_of_ble_eq_true rfl)⟩ hl.1 rfl (Nat.le_of_ble_eq_true rfl) d_L_law_837 (Nat.le_of_ble_eq_true rfl) (Nat.le_of_ble_eq_true rfl) (fun H locs w => ?_)
    refine W.cs (cells' := 166) (slots' := 3476) rfl rfl ?_
    have w : Wd D (lA s) s [((qn 0), .inr (1, fP 0 qp)), ((qn 5), .inr (6, fA 0 qm)), ((qp 1), .inl (cI, 10, .inl (fun _ => 0))), ((qp 6), .inl (cI, 10, .inl (fun _ => 0))), ((qp 7), .inl (cI, 10, .inl (fun _ => 0))), ((qp 8), .inl (cI, 10, .inl (fun _ => 0))), ((qp 9), .inl (cI, 10, .inl (fun _ => 0))), ((qm 5), .inl (cI, 16, .inl (fun _ => 0))), (o2, .inr (7, fR 0 0 0 0 qr3)), ((qr3 2), .inl (cI, 10, .inl (fun _ => 0))), ((qr3 7), .inl (cI, 10, .inl (fun _ => 0))), ((qr3 33), .inl (cI, 16, .inl (fun _ => 0))), (q4, .inl (cJ, 1, .inr (.inl (fun _ => 0))))] H _ := w
    refine lv_istore hx hb d_L_law_840 hl (by decide) rfl (fun ls hl => ?_)
    have hl : lv_has ls 7 [(5, .int 2), (4, .int 0), (3, .ref q4), (2, .ref o2), (1, .ref o1), (0, .ref b)] := hl
    refine lv_aload_n hx hb d_L_law_842 rfl (lv_at hl 3 rfl) ?_
    refine lv_aload_n hx hb d_L_law_843 rfl (lv_at hl 5 rfl) ?_
    refine lv_iload hx hb d_L_law_844 (lv_at hl 1 rfl) ?_
    refine lv_iconst (v := 1) hx hb d_L_law_846 (by decide) ?_
    refine lv_iadd hx hb d_L_law_847 ?_
    refine lv_cst (x := 0 + 1) (y := 1) (by decide) ?_
    refine va_sld hx hb hX hbl hbA w.2.2.1 (vin (by decide)) d_L_law_848 ?_
    refine lv_if_eq (tgt := 856) hx hb d_L_law_849 (by decide) (fun hc849 => ?_) (fun hc849 => ?_)
    · refine lv_iconst (v := 0) hx hb d_L_law_856 (by decide) ?_
      refine lv_aload_n hx hb d_L_law_857 rfl (lv_at hl 5 rfl) ?_
      refine lv_iload hx hb d_L_law_858 (lv_at hl 1 rfl) ?_
      refine lv_iconst (v := 2) hx hb d_L_law_860 (by decide) ?_
      refine lv_iadd hx hb d_L_law_861 ?_
      refine lv_cst (x := 0 + 2) (y := 2) (by decide) ?_
      refine va_sld hx hb hX hbl hbA w.2.2.1 (vin (by decide)) d_L_law_862 ?_
      refine R_vi C0 w (rest := []) (wr := [((qn 0), .inr (1, fP 0 qp)), ((qn 5), .inr (6, fA 0 qm)), ((qp 1), .inl (cI, 10, .inl (fun _ => 0))), ((qp 6), .inl (cI, 10, .inl (fun _ => 0))), ((qp 7), .inl (cI, 10, .inl (fun _ => 0))), ((qp 8), .inl (cI, 10, .inl (fun _ => 0))), ((qp 9), .inl (cI, 10, .inl (fun _ => 0))), ((qm 5), .inl (cI, 16, .inl (fun _ => 0))), ((qr3 2), .inl (cI, 10, .inl (fun _ => 0))), ((qr3 7), .inl (cI, 10, .inl (fun _ => 0))), ((qr3 33), .inl (cI, 16, .inl (fun _ => 0))), (q4, .inl (cJ, 1, .inr (.inl (fun _ => 0))))]) (w1 := [(o2, .inr (7, fR 2 0 0 0 qr3))]) 8 rfl rfl [8] [0, 1, 2, 3, 4, 5, 6, 7, 9, 10, 11, 12] (c_R_runC l D cI cB cJ o2 qr3 0 (xs (2 : Int32).toNatClampNeg) hs ht) rfl rfl rfl rfl (by decide) wd_1121 wd_1118 wd_1119 wd_1120 wd_8 (n9 := 2) (by decide +kernel) rfl ⟨(Nat.le_of_ble_eq_true rfl), (Nat.le_of_ble_eq_true rfl)⟩ hl.1 rfl (Nat.le_of_ble_eq_true rfl) d_L_law_863 (Nat.le_of_ble_eq_true rfl) (Nat.le_of_ble_eq_true rfl) (fun H locs w => ?_)
      have w : Wd D (lA s) s [((qn 0), .inr (1, fP 0 qp)), ((qn 5), .inr (6, fA 0 qm)), ((qp 1), .inl (cI, 10, .inl (fun _ => 0))), ((qp 6), .inl (cI, 10, .inl (fun _ => 0))), ((qp 7), .inl (cI, 10, .inl (fun _ => 0))), ((qp 8), .inl (cI, 10, .inl (fun _ => 0))), ((qp 9), .inl (cI, 10, .inl (fun _ => 0))), ((qm 5), .inl (cI, 16, .inl (fun _ => 0))), ((qr3 2), .inl (cI, 10, .inl (fun _ => 0))), ((qr3 7), .inl (cI, 10, .inl (fun _ => 0))), ((qr3 33), .inl (cI, 16, .inl (fun _ => 0))), (q4, .inl (cJ, 1, .inr (.inl (fun _ => 0)))), (o2, .inr (7, fR 2 0 0 0 qr3))] H _ := w
      refine lv_istore hx hb d_L_law_866 hl (by decide) rfl (fun ls hl => ?_)
      have hl : lv_has ls 7 [(6, .int 0), (5, .int 2), (4, .int 0), (3, .ref q4), (2, .ref o2), (1, .ref o1), (0, .ref b)] := hl
      refine lv_aload_n hx hb d_L_law_868 rfl (lv_at hl 4 rfl) ?_
      refine R_ri C0 w (rest := []) 12 rfl rfl [12] (c_thrown l D cI cB cJ o2 qr3 2 0 0 0) rfl rfl wd_955 wd_952 wd_953 wd_954 wd_8 (n9 := 0) (by decide +kernel) rfl ⟨(Nat.le_of_ble_eq_true rfl), (Nat.le_of_ble_eq_true rfl)⟩ hl.1 rfl (Nat.le_of_ble_eq_true rfl) d_L_law_869 (Nat.le_of_ble_eq_true rfl) (Nat.le_of_ble_eq_true rfl) ?_
      refine lv_iload hx hb d_L_law_872 (lv_at hl 1 rfl) ?_
      refine lv_icmp_eq (tgt := 879) hx hb d_L_law_874 (by decide) (fun hc874 => ?_) (fun hc => absurd (by decide) hc)
      refine lv_iload hx hb d_L_law_879 (lv_at hl 1 rfl) ?_
      refine lv_if_ne (tgt := 896) hx hb d_L_law_881 (by decide) (fun hc881 => ?_) (fun hc => absurd hc (by decide))
      refine lv_goto (tgt := 993) hx hb d_L_law_896 (by decide) ?_
      exact law_tail C0 hX hbl hr hlk htl (Nat.le_of_ble_eq_true rfl) (Nat.le_of_ble_eq_true rfl) w (lv_sub hl [2, 6] rfl)
    · refine lv_iconst (v := 1) hx hb d_L_law_852 (by decide) ?_
      refine lv_goto (tgt := 857) hx hb d_L_law_853 (by decide) ?_
      refine lv_aload_n hx hb d_L_law_857 rfl (lv_at hl 5 rfl) ?_
      refine lv_iload hx hb d_L_law_858 (lv_at hl 1 rfl) ?_
      refine lv_iconst (v := 2) hx hb d_L_law_860 (by decide) ?_
      refine lv_iadd hx hb d_L_law_861 ?_
      refine lv_cst (x := 0 + 2) (y := 2) (by decide) ?_
      refine va_sld hx hb hX hbl hbA w.2.2.1 (vin (by decide)) d_L_law_862 ?_
      refine R_vi C0 w (rest := []) (wr := [((qn 0), .inr (1, fP 0 qp)), ((qn 5), .inr (6, fA 0 qm)), ((qp 1), .inl (cI, 10, .inl (fun _ => 0))), ((qp 6), .inl (cI, 10, .inl (fun _ => 0))), ((qp 7), .inl (cI, 10, .inl (fun _ => 0))), ((qp 8), .inl (cI, 10, .inl (fun _ => 0))), ((qp 9), .inl (cI, 10, .inl (fun _ => 0))), ((qm 5), .inl (cI, 16, .inl (fun _ => 0))), ((qr3 2), .inl (cI, 10, .inl (fun _ => 0))), ((qr3 7), .inl (cI, 10, .inl (fun _ => 0))), ((qr3 33), .inl (cI, 16, .inl (fun _ => 0))), (q4, .inl (cJ, 1, .inr (.inl (fun _ => 0))))]) (w1 := [(o2, .inr (7, fR 2 0 0 0 qr3))]) 8 rfl rfl [8] [0, 1, 2, 3, 4, 5, 6, 7, 9, 10, 11, 12] (c_R_runC l D cI cB cJ o2 qr3 1 (xs (2 : Int32).toNatClampNeg) hs ht) rfl rfl rfl rfl (by decide) wd_1121 wd_1118 wd_1119 wd_1120 wd_8 (n9 := 2) (by decide +kernel) rfl ⟨(Nat.le_of_ble_eq_true rfl), (Nat.le_of_ble_eq_true rfl)⟩ hl.1 rfl (Nat.le_of_ble_eq_true rfl) d_L_law_863 (Nat.le_of_ble_eq_true rfl) (Nat.le_of_ble_eq_true rfl) (fun H locs w => ?_)
      have w : Wd D (lA s) s [((qn 0), .inr (1, fP 0 qp)), ((qn 5), .inr (6, fA 0 qm)), ((qp 1), .inl (cI, 10, .inl (fun _ => 0))), ((qp 6), .inl (cI, 10, .inl (fun _ => 0))), ((qp 7), .inl (cI, 10, .inl (fun _ => 0))), ((qp 8), .inl (cI, 10, .inl (fun _ => 0))), ((qp 9), .inl (cI, 10, .inl (fun _ => 0))), ((qm 5), .inl (cI, 16, .inl (fun _ => 0))), ((qr3 2), .inl (cI, 10, .inl (fun _ => 0))), ((qr3 7), .inl (cI, 10, .inl (fun _ => 0))), ((qr3 33), .inl (cI, 16, .inl (fun _ => 0))), (q4, .inl (cJ, 1, .inr (.inl (fun _ => 0)))), (o2, .inr (7, fR 2 0 0 0 qr3))] H _ := w
      refine lv_istore hx hb d_L_law_866 hl (by decide) rfl (fun ls hl => ?_)
      have hl : lv_has ls 7 [(6, .int 0), (5, .int 2), (4, .int 0), (3, .ref q4), (2, .ref o2), (1, .ref o1), (0, .ref b)] := hl
      refine lv_aload_n hx hb d_L_law_868 rfl (lv_at hl 4 rfl) ?_
      refine R_ri C0 w (rest := []) 12 rfl rfl [12] (c_thrown l D cI cB cJ o2 qr3 2 0 0 0) rfl rfl wd_955 wd_952 wd_953 wd_954 wd_8 (n9 := 0) (by decide +kernel) rfl ⟨(Nat.le_of_ble_eq_true rfl), (Nat.le_of_ble_eq_true rfl)⟩ hl.1 rfl (Nat.le_of_ble_eq_true rfl) d_L_law_869 (Nat.le_of_ble_eq_true rfl) (Nat.le_of_ble_eq_true rfl) ?_
      refine lv_iload hx hb d_L_law_872 (lv_at hl 1 rfl) ?_
      refine lv_icmp_eq (tgt := 879) hx hb d_L_law_874 (by decide) (fun hc874 => ?_) (fun hc => absurd (by decide) hc)
      refine lv_iload hx hb d_L_law_879 (lv_at hl 1 rfl) ?_
      refine lv_if_ne (tgt := 896) hx hb d_L_law_881 (by decide) (fun hc881 => ?_) (fun hc => absurd hc (by decide))
      refine lv_goto (tgt := 993) hx hb d_L_law_896 (by decide) ?_
      exact law_tail C0 hX hbl hr hlk htl (Nat.le_of_ble_eq_true rfl) (Nat.le_of_ble_eq_true rfl) w (lv_sub hl [2, 6] rfl)
  · refine lv_iconst (v := 1) hx hb d_L_law_825 (by decide) ?_
    refine lv_goto (tgt := 830) hx hb d_L_law_826 (by decide) ?_
    refine lv_aload_n hx hb d_L_law_830 rfl (lv_at hl 4 rfl) ?_
    refine lv_iload hx hb d_L_law_831 (lv_at hl 0 rfl) ?_
    refine lv_iconst (v := 2) hx hb d_L_law_833 (by decide) ?_
    refine lv_iadd hx hb d_L_law_834 ?_
    refine lv_cst (x := 0 + 2) (y := 2) (by decide) ?_
    refine va_sld hx hb hX hbl hbA w.2.2.1 (vin (by decide)) d_L_law_835 ?_
    refine lv_aload_n hx hb d_L_law_836 rfl (lv_at hl 1 rfl) ?_
    refine R_sh C0 w (rest := []) (wr := [((qn 0), .inr (1, fP 0 qp)), ((qn 5), .inr (6, fA 0 qm)), ((qp 1), .inl (cI, 10, .inl (fun _ => 0))), ((qp 6), .inl (cI, 10, .inl (fun _ => 0))), ((qp 7), .inl (cI, 10, .inl (fun _ => 0))), ((qp 8), .inl (cI, 10, .inl (fun _ => 0))), ((qp 9), .inl (cI, 10, .inl (fun _ => 0))), ((qm 5), .inl (cI, 16, .inl (fun _ => 0))), (o2, .inr (7, fR 0 0 0 0 qr3)), ((qr3 2), .inl (cI, 10, .inl (fun _ => 0))), ((qr3 7), .inl (cI, 10, .inl (fun _ => 0))), ((qr3 33), .inl (cI, 16, .inl (fun _ => 0))), (q4, .inl (cJ, 1, .inr (.inl (fun _ => 0))))]) (w1 := []) [0] [1, 2, 3, 4, 5, 6, 7, 8, 9, 10, 11, 12, 13] (c_L_runC l D cI cB cJ o1 qn 1 (xs (2 : Int32).toNatClampNeg) q4 htl hs ht) rfl rfl rfl rfl (by decide) wd_758 wd_756 wd_757 wd_0 (n9 := 4) (by decide +kernel) rfl ⟨(Nat.le_of_ble_eq_true rfl), (Nat.le_of_ble_eq_true rfl)⟩ hl.1 rfl (Nat.le_of_ble_eq_true rfl) d_L_law_837 (Nat.le_of_ble_eq_true rfl) (Nat.le_of_ble_eq_true rfl) (fun H locs w => ?_)
    refine W.cs (cells' := 166) (slots' := 3476) rfl rfl ?_
    have w : Wd D (lA s) s [((qn 0), .inr (1, fP 0 qp)), ((qn 5), .inr (6, fA 0 qm)), ((qp 1), .inl (cI, 10, .inl (fun _ => 0))), ((qp 6), .inl (cI, 10, .inl (fun _ => 0))), ((qp 7), .inl (cI, 10, .inl (fun _ => 0))), ((qp 8), .inl (cI, 10, .inl (fun _ => 0))), ((qp 9), .inl (cI, 10, .inl (fun _ => 0))), ((qm 5), .inl (cI, 16, .inl (fun _ => 0))), (o2, .inr (7, fR 0 0 0 0 qr3)), ((qr3 2), .inl (cI, 10, .inl (fun _ => 0))), ((qr3 7), .inl (cI, 10, .inl (fun _ => 0))), ((qr3 33), .inl (cI, 16, .inl (fun _ => 0))), (q4, .inl (cJ, 1, .inr (.inl (fun _ => 0))))] H _ := w
    refine lv_istore hx hb d_L_law_840 hl (by decide) rfl (fun ls hl => ?_)
    have hl : lv_has ls 7 [(5, .int 2), (4, .int 0), (3, .ref q4), (2, .ref o2), (1, .ref o1), (0, .ref b)] := hl
    refine lv_aload_n hx hb d_L_law_842 rfl (lv_at hl 3 rfl) ?_
    refine lv_aload_n hx hb d_L_law_843 rfl (lv_at hl 5 rfl) ?_
    refine lv_iload hx hb d_L_law_844 (lv_at hl 1 rfl) ?_
    refine lv_iconst (v := 1) hx hb d_L_law_846 (by decide) ?_
    refine lv_iadd hx hb d_L_law_847 ?_
    refine lv_cst (x := 0 + 1) (y := 1) (by decide) ?_
    refine va_sld hx hb hX hbl hbA w.2.2.1 (vin (by decide)) d_L_law_848 ?_
    refine lv_if_eq (tgt := 856) hx hb d_L_law_849 (by decide) (fun hc849 => ?_) (fun hc849 => ?_)
    · refine lv_iconst (v := 0) hx hb d_L_law_856 (by decide) ?_
      refine lv_aload_n hx hb d_L_law_857 rfl (lv_at hl 5 rfl) ?_
      refine lv_iload hx hb d_L_law_858 (lv_at hl 1 rfl) ?_
      refine lv_iconst (v := 2) hx hb d_L_law_860 (by decide) ?_
      refine lv_iadd hx hb d_L_law_861 ?_
      refine lv_cst (x := 0 + 2) (y := 2) (by decide) ?_
      refine va_sld hx hb hX hbl hbA w.2.2.1 (vin (by decide)) d_L_law_862 ?_
      refine R_vi C0 w (rest := []) (wr := [((qn 0), .inr (1, fP 0 qp)), ((qn 5), .inr (6, fA 0 qm)), ((qp 1), .inl (cI, 10, .inl (fun _ => 0))), ((qp 6), .inl (cI, 10, .inl (fun _ => 0))), ((qp 7), .inl (cI, 10, .inl (fun _ => 0))), ((qp 8), .inl (cI, 10, .inl (fun _ => 0))), ((qp 9), .inl (cI, 10, .inl (fun _ => 0))), ((qm 5), .inl (cI, 16, .inl (fun _ => 0))), ((qr3 2), .inl (cI, 10, .inl (fun _ => 0))), ((qr3 7), .inl (cI, 10, .inl (fun _ => 0))), ((qr3 33), .inl (cI, 16, .inl (fun _ => 0))), (q4, .inl (cJ, 1, .inr (.inl (fun _ => 0))))]) (w1 := [(o2, .inr (7, fR 2 0 0 0 qr3))]) 8 rfl rfl [8] [0, 1, 2, 3, 4, 5, 6, 7, 9, 10, 11, 12] (c_R_runC l D cI cB cJ o2 qr3 0 (xs (2 : Int32).toNatClampNeg) hs ht) rfl rfl rfl rfl (by decide) wd_1121 wd_1118 wd_1119 wd_1120 wd_8 (n9 := 2) (by decide +kernel) rfl ⟨(Nat.le_of_ble_eq_true rfl), (Nat.le_of_ble_eq_true rfl)⟩ hl.1 rfl (Nat.le_of_ble_eq_true rfl) d_L_law_863 (Nat.le_of_ble_eq_true rfl) (Nat.le_of_ble_eq_true rfl) (fun H locs w => ?_)
      have w : Wd D (lA s) s [((qn 0), .inr (1, fP 0 qp)), ((qn 5), .inr (6, fA 0 qm)), ((qp 1), .inl (cI, 10, .inl (fun _ => 0))), ((qp 6), .inl (cI, 10, .inl (fun _ => 0))), ((qp 7), .inl (cI, 10, .inl (fun _ => 0))), ((qp 8), .inl (cI, 10, .inl (fun _ => 0))), ((qp 9), .inl (cI, 10, .inl (fun _ => 0))), ((qm 5), .inl (cI, 16, .inl (fun _ => 0))), ((qr3 2), .inl (cI, 10, .inl (fun _ => 0))), ((qr3 7), .inl (cI, 10, .inl (fun _ => 0))), ((qr3 33), .inl (cI, 16, .inl (fun _ => 0))), (q4, .inl (cJ, 1, .inr (.inl (fun _ => 0)))), (o2, .inr (7, fR 2 0 0 0 qr3))] H _ := w
      refine lv_istore hx hb d_L_law_866 hl (by decide) rfl (fun ls hl => ?_)
      have hl : lv_has ls 7 [(6, .int 0), (5, .int 2), (4, .int 0), (3, .ref q4), (2, .ref o2), (1, .ref o1), (0, .ref b)] := hl
      refine lv_aload_n hx hb d_L_law_868 rfl (lv_at hl 4 rfl) ?_
      refine R_ri C0 w (rest := []) 12 rfl rfl [12] (c_thrown l D cI cB cJ o2 qr3 2 0 0 0) rfl rfl wd_955 wd_952 wd_953 wd_954 wd_8 (n9 := 0) (by decide +kernel) rfl ⟨(Nat.le_of_ble_eq_true rfl), (Nat.le_of_ble_eq_true rfl)⟩ hl.1 rfl (Nat.le_of_ble_eq_true rfl) d_L_law_869 (Nat.le_of_ble_eq_true rfl) (Nat.le_of_ble_eq_true rfl) ?_
      refine lv_iload hx hb d_L_law_872 (lv_at hl 1 rfl) ?_
      refine lv_icmp_eq (tgt := 879) hx hb d_L_law_874 (by decide) (fun hc874 => ?_) (fun hc => absurd (by decide) hc)
      refine lv_iload hx hb d_L_law_879 (lv_at hl 1 rfl) ?_
      refine lv_if_ne (tgt := 896) hx hb d_L_law_881 (by decide) (fun hc881 => ?_) (fun hc => absurd hc (by decide))
      refine lv_goto (tgt := 993) hx hb d_L_law_896 (by decide) ?_
      exact law_tail C0 hX hbl hr hlk htl (Nat.le_of_ble_eq_true rfl) (Nat.le_of_ble_eq_true rfl) w (lv_sub hl [2, 6] rfl)
    · refine lv_iconst (v := 1) hx hb d_L_law_852 (by decide) ?_
      refine lv_goto (tgt := 857) hx hb d_L_law_853 (by decide) ?_
      refine lv_aload_n hx hb d_L_law_857 rfl (lv_at hl 5 rfl) ?_
      refine lv_iload hx hb d_L_law_858 (lv_at hl 1 rfl) ?_
      refine lv_iconst (v := 2) hx hb d_L_law_860 (by decide) ?_
      refine lv_iadd hx hb d_L_law_861 ?_
      refine lv_cst (x := 0 + 2) (y := 2) (by decide) ?_
      refine va_sld hx hb hX hbl hbA w.2.2.1 (vin (by decide)) d_L_law_862 ?_
      refine R_vi C0 w (rest := []) (wr := [((qn 0), .inr (1, fP 0 qp)), ((qn 5), .inr (6, fA 0 qm)), ((qp 1), .inl (cI, 10, .inl (fun _ => 0))), ((qp 6), .inl (cI, 10, .inl (fun _ => 0))), ((qp 7), .inl (cI, 10, .inl (fun _ => 0))), ((qp 8), .inl (cI, 10, .inl (fun _ => 0))), ((qp 9), .inl (cI, 10, .inl (fun _ => 0))), ((qm 5), .inl (cI, 16, .inl (fun _ => 0))), ((qr3 2), .inl (cI, 10, .inl (fun _ => 0))), ((qr3 7), .inl (cI, 10, .inl (fun _ => 0))), ((qr3 33), .inl (cI, 16, .inl (fun _ => 0))), (q4, .inl (cJ, 1, .inr (.inl (fun _ => 0))))]) (w1 := [(o2, .inr (7, fR 2 0 0 0 qr3))]) 8 rfl rfl [8] [0, 1, 2, 3, 4, 5, 6, 7, 9, 10, 11, 12] (c_R_runC l D cI cB cJ o2 qr3 1 (xs (2 : Int32).toNatClampNeg) hs ht) rfl rfl rfl rfl (by decide) wd_1121 wd_1118 wd_1119 wd_1120 wd_8 (n9 := 2) (by decide +kernel) rfl ⟨(Nat.le_of_ble_eq_true rfl), (Nat.le_of_ble_eq_true rfl)⟩ hl.1 rfl (Nat.le_of_ble_eq_true rfl) d_L_law_863 (Nat.le_of_ble_eq_true rfl) (Nat.le_of_ble_eq_true rfl) (fun H locs w => ?_)
      have w : Wd D (lA s) s [((qn 0), .inr (1, fP 0 qp)), ((qn 5), .inr (6, fA 0 qm)), ((qp 1), .inl (cI, 10, .inl (fun _ => 0))), ((qp 6), .inl (cI, 10, .inl (fun _ => 0))), ((qp 7), .inl (cI, 10, .inl (fun _ => 0))), ((qp 8), .inl (cI, 10, .inl (fun _ => 0))), ((qp 9), .inl (cI, 10, .inl (fun _ => 0))), ((qm 5), .inl (cI, 16, .inl (fun _ => 0))), ((qr3 2), .inl (cI, 10, .inl (fun _ => 0))), ((qr3 7), .inl (cI, 10, .inl (fun _ => 0))), ((qr3 33), .inl (cI, 16, .inl (fun _ => 0))), (q4, .inl (cJ, 1, .inr (.inl (fun _ => 0)))), (o2, .inr (7, fR 2 0 0 0 qr3))] H _ := w
      refine lv_istore hx hb d_L_law_866 hl (by decide) rfl (fun ls hl => ?_)
      have hl : lv_has ls 7 [(6, .int 0), (5, .int 2), (4, .int 0), (3, .ref q4), (2, .ref o2), (1, .ref o1), (0, .ref b)] := hl
      refine lv_aload_n hx hb d_L_law_868 rfl (lv_at hl 4 rfl) ?_
      refine R_ri C0 w (rest := []) 12 rfl rfl [12] (c_thrown l D cI cB cJ o2 qr3 2 0 0 0) rfl rfl wd_955 wd_952 wd_953 wd_954 wd_8 (n9 := 0) (by decide +kernel) rfl ⟨(Nat.le_of_ble_eq_true rfl), (Nat.le_of_ble_eq_true rfl)⟩ hl.1 rfl (Nat.le_of_ble_eq_true rfl) d_L_law_869 (Nat.le_of_ble_eq_true rfl) (Nat.le_of_ble_eq_true rfl) ?_
      refine lv_iload hx hb d_L_law_872 (lv_at hl 1 rfl) ?_
      refine lv_icmp_eq (tgt := 879) hx hb d_L_law_874 (by decide) (fun hc874 => ?_) (fun hc => absurd (by decide) hc)
      refine lv_iload hx hb d_L_law_879 (lv_at hl 1 rfl) ?_
      refine lv_if_ne (tgt := 896) hx hb d_L_law_881 (by decide) (fun hc881 => ?_) (fun hc => absurd hc (by decide))
      refine lv_goto (tgt := 993) hx hb d_L_law_896 (by decide) ?_
      exact law_tail C0 hX hbl hr hlk htl (Nat.le_of_ble_eq_true rfl) (Nat.le_of_ble_eq_true rfl) w (lv_sub hl [2, 6] rfl)
theorem law_case13 {qm : Nat → Nat} {qn : Nat → Nat} {qp : Nat → Nat} {qr3 : Nat → Nat} {o1 : Nat} {o2 : Nat} {q4 : Nat} (C0 : Cx p s m #[Value.ref b] c code 7 "NameForgeLaw" D cI cB cJ) (hX : va_X b 6 xs s s.heap) (hbl : b < s.heap.size) (hr : meth.sig.returnType = ret) (hlk : meth.locks = false) (htl : l.stackTraces = false) (w : Wd D (lA s) s [(o1, .inr (0, fN 0 qn)), ((qn 0), .inr (1, fP 0 qp)), ((qn 5), .inr (6, fA 0 qm)), ((qp 1), .inl (cI, 10, .inl (fun _ => 0))), ((qp 6), .inl (cI, 10, .inl (fun _ => 0))), ((qp 7), .inl (cI, 10, .inl (fun _ => 0))), ((qp 8), .inl (cI, 10, .inl (fun _ => 0))), ((qp 9), .inl (cI, 10, .inl (fun _ => 0))), ((qm 5), .inl (cI, 16, .inl (fun _ => 0))), (o2, .inr (7, fR 0 0 0 0 qr3)), ((qr3 2), .inl (cI, 10, .inl (fun _ => 0))), ((qr3 7), .inl (cI, 10, .inl (fun _ => 0))), ((qr3 33), .inl (cI, 16, .inl (fun _ => 0))), (q4, .inl (cJ, 1, .inr (.inl (fun _ => 0))))] H locs) (hl : lv_has ls 7 [(4, .int 0), (3, .ref q4), (2, .ref o2), (1, .ref o1), (0, .ref b)]) : W p l e room_1 s m #[Value.ref b] below meth c H locs 165 3470 (lw_Z below #[Value.ref b] s) (F0 m 815 ls []) := by
  by_cases hs : xs (2 : Int32).toNatClampNeg < 0
  · exact law_case13A C0 hX hbl hr hlk htl hs w hl
  by_cases ht : xs (2 : Int32).toNatClampNeg ≤ 200
  · exact law_case13C C0 hX hbl hr hlk htl hs ht w hl
  exact law_case13B C0 hX hbl hr hlk htl hs ht w hl
set_option maxHeartbeats 4000000 in
set_option maxRecDepth 100000 in
theorem law_case14 {qm : Nat → Nat} {qn : Nat → Nat} {qp : Nat → Nat} {qr3 : Nat → Nat} {o1 : Nat} {o2 : Nat} {q4 : Nat} (C0 : Cx p s m #[Value.ref b] c code 7 "NameForgeLaw" D cI cB cJ) (hX : va_X b 6 xs s s.heap) (hbl : b < s.heap.size) (hr : meth.sig.returnType = ret) (hlk : meth.locks = false) (htl : l.stackTraces = false) (w : Wd D (lA s) s [(o1, .inr (0, fN 0 qn)), ((qn 0), .inr (1, fP 0 qp)), ((qn 5), .inr (6, fA 0 qm)), ((qp 1), .inl (cI, 10, .inl (fun _ => 0))), ((qp 6), .inl (cI, 10, .inl (fun _ => 0))), ((qp 7), .inl (cI, 10, .inl (fun _ => 0))), ((qp 8), .inl (cI, 10, .inl (fun _ => 0))), ((qp 9), .inl (cI, 10, .inl (fun _ => 0))), ((qm 5), .inl (cI, 16, .inl (fun _ => 0))), (o2, .inr (7, fR 0 0 0 0 qr3)), ((qr3 2), .inl (cI, 10, .inl (fun _ => 0))), ((qr3 7), .inl (cI, 10, .inl (fun _ => 0))), ((qr3 33), .inl (cI, 16, .inl (fun _ => 0))), (q4, .inl (cJ, 1, .inr (.inl (fun _ => 0))))] H locs) (hl : lv_has ls 7 [(4, .int 0), (3, .ref q4), (2, .ref o2), (1, .ref o1), (0, .ref b)]) : W p l e room_1 s m #[Value.ref b] below meth c H locs 165 3470 (lw_Z below #[Value.ref b] s) (F0 m 899 ls []) := by
  have hx := C0.1
  have hb := C0.2.1
  have hbA : ¬ lA s b := fun h => absurd hbl (Nat.not_lt.mpr h)
  refine lv_aload_n hx hb d_L_law_899 rfl (lv_at hl 3 rfl) ?_
  refine R_ri C0 w (rest := []) 0 rfl rfl [0, 2] (c_N_told l D cI cB cJ o1 qn qm) rfl rfl wd_380 wd_377 wd_378 wd_379 wd_1 (n9 := 0) (by decide +kernel) rfl ⟨(Nat.le_of_ble_eq_true rfl), (Nat.le_of_ble_eq_true rfl)⟩ hl.1 rfl (Nat.le_of_ble_eq_true rfl) d_L_law_900 (Nat.le_of_ble_eq_true rfl) (Nat.le_of_ble_eq_true rfl) ?_
  refine lv_aload_n hx hb d_L_law_903 rfl (lv_at hl 2 rfl) ?_
  refine R_vi C0 w (rest := [.int 0]) (wr := [(o1, .inr (0, fN 0 qn)), ((qn 0), .inr (1, fP 0 qp)), ((qn 5), .inr (6, fA 0 qm)), ((qp 1), .inl (cI, 10, .inl (fun _ => 0))), ((qp 6), .inl (cI, 10, .inl (fun _ => 0))), ((qp 7), .inl (cI, 10, .inl (fun _ => 0))), ((qp 8), .inl (cI, 10, .inl (fun _ => 0))), ((qp 9), .inl (cI, 10, .inl (fun _ => 0))), ((qm 5), .inl (cI, 16, .inl (fun _ => 0))), ((qr3 2), .inl (cI, 10, .inl (fun _ => 0))), ((qr3 7), .inl (cI, 10, .inl (fun _ => 0))), ((qr3 33), .inl (cI, 16, .inl (fun _ => 0))), (q4, .inl (cJ, 1, .inr (.inl (fun _ => 0))))]) (w1 := [(o2, .inr (7, fR 0 0 0 0 qr3))]) 9 rfl rfl [9] [0, 1, 2, 3, 4, 5, 6, 7, 8, 10, 11, 12, 13] (c_R_told l D cI cB cJ o2 qr3) rfl rfl rfl rfl (by decide) wd_1153 wd_1150 wd_1151 wd_1152 wd_8 (n9 := 0) (by decide +kernel) rfl ⟨(Nat.le_of_ble_eq_true rfl), (Nat.le_of_ble_eq_true rfl)⟩ hl.1 rfl (Nat.le_of_ble_eq_true rfl) d_L_law_904 (Nat.le_of_ble_eq_true rfl) (Nat.le_of_ble_eq_true rfl) (fun H locs w => ?_)
  have w : Wd D (lA s) s [(o1, .inr (0, fN 0 qn)), ((qn 0), .inr (1, fP 0 qp)), ((qn 5), .inr (6, fA 0 qm)), ((qp 1), .inl (cI, 10, .inl (fun _ => 0))), ((qp 6), .inl (cI, 10, .inl (fun _ => 0))), ((qp 7), .inl (cI, 10, .inl (fun _ => 0))), ((qp 8), .inl (cI, 10, .inl (fun _ => 0))), ((qp 9), .inl (cI, 10, .inl (fun _ => 0))), ((qm 5), .inl (cI, 16, .inl (fun _ => 0))), ((qr3 2), .inl (cI, 10, .inl (fun _ => 0))), ((qr3 7), .inl (cI, 10, .inl (fun _ => 0))), ((qr3 33), .inl (cI, 16, .inl (fun _ => 0))), (q4, .inl (cJ, 1, .inr (.inl (fun _ => 0)))), (o2, .inr (7, fR 0 0 0 0 qr3))] H _ := w
  refine lv_icmp_eq (tgt := 993) hx hb d_L_law_907 (by decide) (fun hc907 => ?_) (fun hc => absurd (by decide) hc)
  exact law_tail C0 hX hbl hr hlk htl (Nat.le_of_ble_eq_true rfl) (Nat.le_of_ble_eq_true rfl) w (lv_sub hl [0, 4] rfl)
set_option maxHeartbeats 4000000 in
set_option maxRecDepth 100000 in
theorem law_case15 {qm : Nat → Nat} {qn : Nat → Nat} {qp : Nat → Nat} {qr3 : Nat → Nat} {o1 : Nat} {o2 : Nat} {q4 : Nat} (C0 : Cx p s m #[Value.ref b] c code 7 "NameForgeLaw" D cI cB cJ) (hX : va_X b 6 xs s s.heap) (hbl : b < s.heap.size) (hr : meth.sig.returnType = ret) (hlk : meth.locks = false) (htl : l.stackTraces = false) (w : Wd D (lA s) s [(o1, .inr (0, fN 0 qn)), ((qn 0), .inr (1, fP 0 qp)), ((qn 5), .inr (6, fA 0 qm)), ((qp 1), .inl (cI, 10, .inl (fun _ => 0))), ((qp 6), .inl (cI, 10, .inl (fun _ => 0))), ((qp 7), .inl (cI, 10, .inl (fun _ => 0))), ((qp 8), .inl (cI, 10, .inl (fun _ => 0))), ((qp 9), .inl (cI, 10, .inl (fun _ => 0))), ((qm 5), .inl (cI, 16, .inl (fun _ => 0))), (o2, .inr (7, fR 0 0 0 0 qr3)), ((qr3 2), .inl (cI, 10, .inl (fun _ => 0))), ((qr3 7), .inl (cI, 10, .inl (fun _ => 0))), ((qr3 33), .inl (cI, 16, .inl (fun _ => 0))), (q4, .inl (cJ, 1, .inr (.inl (fun _ => 0))))] H locs) (hl : lv_has ls 7 [(4, .int 0), (3, .ref q4), (2, .ref o2), (1, .ref o1), (0, .ref b)]) : W p l e room_1 s m #[Value.ref b] below meth c H locs 165 3470 (lw_Z below #[Value.ref b] s) (F0 m 912 ls []) := by
  have hx := C0.1
  have hb := C0.2.1
  have hbA : ¬ lA s b := fun h => absurd hbl (Nat.not_lt.mpr h)
  refine lv_aload_n hx hb d_L_law_912 rfl (lv_at hl 3 rfl) ?_
  refine lv_aload_n hx hb d_L_law_913 rfl (lv_at hl 4 rfl) ?_
  refine lv_iload hx hb d_L_law_914 (lv_at hl 0 rfl) ?_
  refine lv_iconst (v := 1) hx hb d_L_law_916 (by decide) ?_
  refine lv_iadd hx hb d_L_law_917 ?_
  refine lv_cst (x := 0 + 1) (y := 1) (by decide) ?_
  refine va_sld hx hb hX hbl hbA w.2.2.1 (vin (by decide)) d_L_law_918 ?_
  refine lv_aload_n hx hb d_L_law_919 rfl (lv_at hl 1 rfl) ?_
  refine R_sh C0 w (rest := []) (wr := [((qn 0), .inr (1, fP 0 qp)), ((qp 1), .inl (cI, 10, .inl (fun _ => 0))), ((qp 6), .inl (cI, 10, .inl (fun _ => 0))), ((qp 7), .inl (cI, 10, .inl (fun _ => 0))), ((qp 8), .inl (cI, 10, .inl (fun _ => 0))), ((qp 9), .inl (cI, 10, .inl (fun _ => 0))), ((qm 5), .inl (cI, 16, .inl (fun _ => 0))), (o2, .inr (7, fR 0 0 0 0 qr3)), ((qr3 2), .inl (cI, 10, .inl (fun _ => 0))), ((qr3 7), .inl (cI, 10, .inl (fun _ => 0))), ((qr3 33), .inl (cI, 16, .inl (fun _ => 0))), (q4, .inl (cJ, 1, .inr (.inl (fun _ => 0))))]) (w1 := []) [0, 2] [1, 3, 4, 5, 6, 7, 8, 9, 10, 11, 12, 13] (c_L_heard l D cI cB cJ o1 qn qm (xs (1 : Int32).toNatClampNeg) q4 htl) rfl rfl rfl rfl (by decide) wd_816 wd_814 wd_815 wd_0 (n9 := 3) (by decide +kernel) rfl ⟨(Nat.le_of_ble_eq_true rfl), (Nat.le_of_ble_eq_true rfl)⟩ hl.1 rfl (Nat.le_of_ble_eq_true rfl) d_L_law_920 (Nat.le_of_ble_eq_true rfl) (Nat.le_of_ble_eq_true rfl) (fun H locs w => ?_)
  refine W.cs (cells' := 166) (slots' := 3476) rfl rfl ?_
  have w : Wd D (lA s) s [((qn 0), .inr (1, fP 0 qp)), ((qp 1), .inl (cI, 10, .inl (fun _ => 0))), ((qp 6), .inl (cI, 10, .inl (fun _ => 0))), ((qp 7), .inl (cI, 10, .inl (fun _ => 0))), ((qp 8), .inl (cI, 10, .inl (fun _ => 0))), ((qp 9), .inl (cI, 10, .inl (fun _ => 0))), ((qm 5), .inl (cI, 16, .inl (fun _ => 0))), (o2, .inr (7, fR 0 0 0 0 qr3)), ((qr3 2), .inl (cI, 10, .inl (fun _ => 0))), ((qr3 7), .inl (cI, 10, .inl (fun _ => 0))), ((qr3 33), .inl (cI, 16, .inl (fun _ => 0))), (q4, .inl (cJ, 1, .inr (.inl (fun _ => 0))))] H _ := w
  refine lv_istore hx hb d_L_law_923 hl (by decide) rfl (fun ls hl => ?_)
  have hl : lv_has ls 7 [(5, .int 1), (4, .int 0), (3, .ref q4), (2, .ref o2), (1, .ref o1), (0, .ref b)] := hl
  refine lv_aload_n hx hb d_L_law_925 rfl (lv_at hl 3 rfl) ?_
  refine lv_aload_n hx hb d_L_law_926 rfl (lv_at hl 5 rfl) ?_
  refine lv_iload hx hb d_L_law_927 (lv_at hl 1 rfl) ?_
  refine lv_iconst (v := 1) hx hb d_L_law_929 (by decide) ?_
  refine lv_iadd hx hb d_L_law_930 ?_
  refine lv_cst (x := 0 + 1) (y := 1) (by decide) ?_
  refine va_sld hx hb hX hbl hbA w.2.2.1 (vin (by decide)) d_L_law_931 ?_
  refine R_vi C0 w (rest := []) (wr := [((qn 0), .inr (1, fP 0 qp)), ((qp 1), .inl (cI, 10, .inl (fun _ => 0))), ((qp 6), .inl (cI, 10, .inl (fun _ => 0))), ((qp 7), .inl (cI, 10, .inl (fun _ => 0))), ((qp 8), .inl (cI, 10, .inl (fun _ => 0))), ((qp 9), .inl (cI, 10, .inl (fun _ => 0))), ((qm 5), .inl (cI, 16, .inl (fun _ => 0))), ((qr3 2), .inl (cI, 10, .inl (fun _ => 0))), ((qr3 7), .inl (cI, 10, .inl (fun _ => 0))), ((qr3 33), .inl (cI, 16, .inl (fun _ => 0))), (q4, .inl (cJ, 1, .inr (.inl (fun _ => 0))))]) (w1 := [(o2, .inr (7, fR 1 0 0 0 qr3))]) 7 rfl rfl [7] [0, 1, 2, 3, 4, 5, 6, 8, 9, 10, 11] (c_R_heard l D cI cB cJ o2 qr3 (xs (1 : Int32).toNatClampNeg)) rfl rfl rfl rfl (by decide) wd_1157 wd_1154 wd_1155 wd_1156 wd_8 (n9 := 1) (by decide +kernel) rfl ⟨(Nat.le_of_ble_eq_true rfl), (Nat.le_of_ble_eq_true rfl)⟩ hl.1 rfl (Nat.le_of_ble_eq_true rfl) d_L_law_932 (Nat.le_of_ble_eq_true rfl) (Nat.le_of_ble_eq_true rfl) (fun H locs w => ?_)
  have w : Wd D (lA s) s [((qn 0), .inr (1, fP 0 qp)), ((qp 1), .inl (cI, 10, .inl (fun _ => 0))), ((qp 6), .inl (cI, 10, .inl (fun _ => 0))), ((qp 7), .inl (cI, 10, .inl (fun _ => 0))), ((qp 8), .inl (cI, 10, .inl (fun _ => 0))), ((qp 9), .inl (cI, 10, .inl (fun _ => 0))), ((qm 5), .inl (cI, 16, .inl (fun _ => 0))), ((qr3 2), .inl (cI, 10, .inl (fun _ => 0))), ((qr3 7), .inl (cI, 10, .inl (fun _ => 0))), ((qr3 33), .inl (cI, 16, .inl (fun _ => 0))), (q4, .inl (cJ, 1, .inr (.inl (fun _ => 0)))), (o2, .inr (7, fR 1 0 0 0 qr3))] H _ := w
  refine lv_istore hx hb d_L_law_935 hl (by decide) rfl (fun ls hl => ?_)
  have hl : lv_has ls 7 [(6, .int 0), (5, .int 1), (4, .int 0), (3, .ref q4), (2, .ref o2), (1, .ref o1), (0, .ref b)] := hl
  refine lv_aload_n hx hb d_L_law_937 rfl (lv_at hl 4 rfl) ?_
  refine R_ri C0 w (rest := []) 11 rfl rfl [11] (c_thrown l D cI cB cJ o2 qr3 1 0 0 0) rfl rfl wd_955 wd_952 wd_953 wd_954 wd_8 (n9 := 0) (by decide +kernel) rfl ⟨(Nat.le_of_ble_eq_true rfl), (Nat.le_of_ble_eq_true rfl)⟩ hl.1 rfl (Nat.le_of_ble_eq_true rfl) d_L_law_938 (Nat.le_of_ble_eq_true rfl) (Nat.le_of_ble_eq_true rfl) ?_
  refine lv_iload hx hb d_L_law_941 (lv_at hl 1 rfl) ?_
  refine lv_icmp_eq (tgt := 948) hx hb d_L_law_943 (by decide) (fun hc943 => ?_) (fun hc => absurd (by decide) hc)
  refine lv_iload hx hb d_L_law_948 (lv_at hl 1 rfl) ?_
  refine lv_if_ne (tgt := 965) hx hb d_L_law_950 (by decide) (fun hc950 => ?_) (fun hc => absurd hc (by decide))
  refine lv_goto (tgt := 993) hx hb d_L_law_965 (by decide) ?_
  exact law_tail C0 hX hbl hr hlk htl (Nat.le_of_ble_eq_true rfl) (Nat.le_of_ble_eq_true rfl) w (lv_sub hl [2, 6] rfl)
set_option maxHeartbeats 4000000 in
set_option maxRecDepth 100000 in
theorem law_case16_0 {qm : Nat → Nat} {qn : Nat → Nat} {qp : Nat → Nat} {qr3 : Nat → Nat} {o1 : Nat} {o2 : Nat} {q4 : Nat} (C0 : Cx p s m #[Value.ref b] c code 7 "NameForgeLaw" D cI cB cJ) (hX : va_X b 6 xs s s.heap) (hbl : b < s.heap.size) (hr : meth.sig.returnType = ret) (hlk : meth.locks = false) (htl : l.stackTraces = false) (hv : xs (1 : Int32).toNatClampNeg = 0) (w : Wd D (lA s) s [(o1, .inr (0, fN 0 qn)), ((qn 0), .inr (1, fP 0 qp)), ((qn 5), .inr (6, fA 0 qm)), ((qp 1), .inl (cI, 10, .inl (fun _ => 0))), ((qp 6), .inl (cI, 10, .inl (fun _ => 0))), ((qp 7), .inl (cI, 10, .inl (fun _ => 0))), ((qp 8), .inl (cI, 10, .inl (fun _ => 0))), ((qp 9), .inl (cI, 10, .inl (fun _ => 0))), ((qm 5), .inl (cI, 16, .inl (fun _ => 0))), (o2, .inr (7, fR 0 0 0 0 qr3)), ((qr3 2), .inl (cI, 10, .inl (fun _ => 0))), ((qr3 7), .inl (cI, 10, .inl (fun _ => 0))), ((qr3 33), .inl (cI, 16, .inl (fun _ => 0))), (q4, .inl (cJ, 1, .inr (.inl (fun _ => 0))))] H locs) (hl : lv_has ls 7 [(4, .int 0), (3, .ref q4), (2, .ref o2), (1, .ref o1), (0, .ref b)]) : W p l e room_1 s m #[Value.ref b] below meth c H locs 165 3470 (lw_Z below #[Value.ref b] s) (F0 m 968 ls []) := by
  have hx := C0.1
  have hb := C0.2.1
  have hbA : ¬ lA s b := fun h => absurd hbl (Nat.not_lt.mpr h)
  refine lv_aload_n hx hb d_L_law_968 rfl (lv_at hl 3 rfl) ?_
  refine lv_aload_n hx hb d_L_law_969 rfl (lv_at hl 4 rfl) ?_
  refine lv_iload hx hb d_L_law_970 (lv_at hl 0 rfl) ?_
  refine lv_iconst (v := 1) hx hb d_L_law_972 (by decide) ?_
  refine lv_iadd hx hb d_L_law_973 ?_
  refine lv_cst (x := 0 + 1) (y := 1) (by decide) ?_
  refine va_sld hx hb hX hbl hbA w.2.2.1 (vin (by decide)) d_L_law_974 ?_
  refine lv_cst (x := xs (1 : Int32).toNatClampNeg) (y := 0) hv ?_
  refine R_ri C0 w (rest := []) 0 rfl rfl [0, 2] (c_N_spent0 l D cI cB cJ o1 qn qm) rfl rfl wd_384 wd_381 wd_382 wd_383 wd_1 (n9 := 1) (by decide +kernel) rfl ⟨(Nat.le_of_ble_eq_true rfl), (Nat.le_of_ble_eq_true rfl)⟩ hl.1 rfl (Nat.le_of_ble_eq_true rfl) d_L_law_975 (Nat.le_of_ble_eq_true rfl) (Nat.le_of_ble_eq_true rfl) ?_
  refine lv_aload_n hx hb d_L_law_978 rfl (lv_at hl 2 rfl) ?_
  refine lv_aload_n hx hb d_L_law_979 rfl (lv_at hl 4 rfl) ?_
  refine lv_iload hx hb d_L_law_980 (lv_at hl 0 rfl) ?_
  refine lv_iconst (v := 1) hx hb d_L_law_982 (by decide) ?_
  refine lv_iadd hx hb d_L_law_983 ?_
  refine lv_cst (x := 0 + 1) (y := 1) (by decide) ?_
  refine va_sld hx hb hX hbl hbA w.2.2.1 (vin (by decide)) d_L_law_984 ?_
  refine lv_cst (x := xs (1 : Int32).toNatClampNeg) (y := 0) hv ?_
  refine R_vi C0 w (rest := [.int 0]) (wr := [(o1, .inr (0, fN 0 qn)), ((qn 0), .inr (1, fP 0 qp)), ((qn 5), .inr (6, fA 0 qm)), ((qp 1), .inl (cI, 10, .inl (fun _ => 0))), ((qp 6), .inl (cI, 10, .inl (fun _ => 0))), ((qp 7), .inl (cI, 10, .inl (fun _ => 0))), ((qp 8), .inl (cI, 10, .inl (fun _ => 0))), ((qp 9), .inl (cI, 10, .inl (fun _ => 0))), ((qm 5), .inl (cI, 16, .inl (fun _ => 0))), ((qr3 2), .inl (cI, 10, .inl (fun _ => 0))), ((qr3 7), .inl (cI, 10, .inl (fun _ => 0))), ((qr3 33), .inl (cI, 16, .inl (fun _ => 0))), (q4, .inl (cJ, 1, .inr (.inl (fun _ => 0))))]) (w1 := [(o2, .inr (7, fR 0 0 0 0 qr3))]) 9 rfl rfl [9] [0, 1, 2, 3, 4, 5, 6, 7, 8, 10, 11, 12, 13] (c_R_spent0 l D cI cB cJ o2 qr3) rfl rfl rfl rfl (by decide) wd_1161 wd_1158 wd_1159 wd_1160 wd_8 (n9 := 1) (by decide +kernel) rfl ⟨(Nat.le_of_ble_eq_true rfl), (Nat.le_of_ble_eq_true rfl)⟩ hl.1 rfl (Nat.le_of_ble_eq_true rfl) d_L_law_985 (Nat.le_of_ble_eq_true rfl) (Nat.le_of_ble_eq_true rfl) (fun H locs w => ?_)
  have w : Wd D (lA s) s [(o1, .inr (0, fN 0 qn)), ((qn 0), .inr (1, fP 0 qp)), ((qn 5), .inr (6, fA 0 qm)), ((qp 1), .inl (cI, 10, .inl (fun _ => 0))), ((qp 6), .inl (cI, 10, .inl (fun _ => 0))), ((qp 7), .inl (cI, 10, .inl (fun _ => 0))), ((qp 8), .inl (cI, 10, .inl (fun _ => 0))), ((qp 9), .inl (cI, 10, .inl (fun _ => 0))), ((qm 5), .inl (cI, 16, .inl (fun _ => 0))), ((qr3 2), .inl (cI, 10, .inl (fun _ => 0))), ((qr3 7), .inl (cI, 10, .inl (fun _ => 0))), ((qr3 33), .inl (cI, 16, .inl (fun _ => 0))), (q4, .inl (cJ, 1, .inr (.inl (fun _ => 0)))), (o2, .inr (7, fR 0 0 0 0 qr3))] H _ := w
  refine lv_icmp_eq (tgt := 993) hx hb d_L_law_988 (by decide) (fun hc988 => ?_) (fun hc => absurd (by decide) hc)
  exact law_tail C0 hX hbl hr hlk htl (Nat.le_of_ble_eq_true rfl) (Nat.le_of_ble_eq_true rfl) w (lv_sub hl [0, 4] rfl)
set_option maxHeartbeats 4000000 in
set_option maxRecDepth 100000 in
theorem law_case16_1 {qm : Nat → Nat} {qn : Nat → Nat} {qp : Nat → Nat} {qr3 : Nat → Nat} {o1 : Nat} {o2 : Nat} {q4 : Nat} (C0 : Cx p s m #[Value.ref b] c code 7 "NameForgeLaw" D cI cB cJ) (hX : va_X b 6 xs s s.heap) (hbl : b < s.heap.size) (hr : meth.sig.returnType = ret) (hlk : meth.locks = false) (htl : l.stackTraces = false) (hv : xs (1 : Int32).toNatClampNeg = 1) (w : Wd D (lA s) s [(o1, .inr (0, fN 0 qn)), ((qn 0), .inr (1, fP 0 qp)), ((qn 5), .inr (6, fA 0 qm)), ((qp 1), .inl (cI, 10, .inl (fun _ => 0))), ((qp 6), .inl (cI, 10, .inl (fun _ => 0))), ((qp 7), .inl (cI, 10, .inl (fun _ => 0))), ((qp 8), .inl (cI, 10, .inl (fun _ => 0))), ((qp 9), .inl (cI, 10, .inl (fun _ => 0))), ((qm 5), .inl (cI, 16, .inl (fun _ => 0))), (o2, .inr (7, fR 0 0 0 0 qr3)), ((qr3 2), .inl (cI, 10, .inl (fun _ => 0))), ((qr3 7), .inl (cI, 10, .inl (fun _ => 0))), ((qr3 33), .inl (cI, 16, .inl (fun _ => 0))), (q4, .inl (cJ, 1, .inr (.inl (fun _ => 0))))] H locs) (hl : lv_has ls 7 [(4, .int 0), (3, .ref q4), (2, .ref o2), (1, .ref o1), (0, .ref b)]) : W p l e room_1 s m #[Value.ref b] below meth c H locs 165 3470 (lw_Z below #[Value.ref b] s) (F0 m 968 ls []) := by
  have hx := C0.1
  have hb := C0.2.1
  have hbA : ¬ lA s b := fun h => absurd hbl (Nat.not_lt.mpr h)
  refine lv_aload_n hx hb d_L_law_968 rfl (lv_at hl 3 rfl) ?_
  refine lv_aload_n hx hb d_L_law_969 rfl (lv_at hl 4 rfl) ?_
  refine lv_iload hx hb d_L_law_970 (lv_at hl 0 rfl) ?_
  refine lv_iconst (v := 1) hx hb d_L_law_972 (by decide) ?_
  refine lv_iadd hx hb d_L_law_973 ?_
  refine lv_cst (x := 0 + 1) (y := 1) (by decide) ?_
  refine va_sld hx hb hX hbl hbA w.2.2.1 (vin (by decide)) d_L_law_974 ?_
  refine lv_cst (x := xs (1 : Int32).toNatClampNeg) (y := 1) hv ?_
  refine R_ri C0 w (rest := []) 0 rfl rfl [0, 2] (c_N_spent1 l D cI cB cJ o1 qn qm) rfl rfl wd_384 wd_381 wd_382 wd_383 wd_1 (n9 := 1) (by decide +kernel) rfl ⟨(Nat.le_of_ble_eq_true rfl), (Nat.le_of_ble_eq_true rfl)⟩ hl.1 rfl (Nat.le_of_ble_eq_true rfl) d_L_law_975 (Nat.le_of_ble_eq_true rfl) (Nat.le_of_ble_eq_true rfl) ?_
  refine lv_aload_n hx hb d_L_law_978 rfl (lv_at hl 2 rfl) ?_
  refine lv_aload_n hx hb d_L_law_979 rfl (lv_at hl 4 rfl) ?_
  refine lv_iload hx hb d_L_law_980 (lv_at hl 0 rfl) ?_
  refine lv_iconst (v := 1) hx hb d_L_law_982 (by decide) ?_
  refine lv_iadd hx hb d_L_law_983 ?_
  refine lv_cst (x := 0 + 1) (y := 1) (by decide) ?_
  refine va_sld hx hb hX hbl hbA w.2.2.1 (vin (by decide)) d_L_law_984 ?_
  refine lv_cst (x := xs (1 : Int32).toNatClampNeg) (y := 1) hv ?_
  refine R_vi C0 w (rest := [.int 0]) (wr := [(o1, .inr (0, fN 0 qn)), ((qn 0), .inr (1, fP 0 qp)), ((qn 5), .inr (6, fA 0 qm)), ((qp 1), .inl (cI, 10, .inl (fun _ => 0))), ((qp 6), .inl (cI, 10, .inl (fun _ => 0))), ((qp 7), .inl (cI, 10, .inl (fun _ => 0))), ((qp 8), .inl (cI, 10, .inl (fun _ => 0))), ((qp 9), .inl (cI, 10, .inl (fun _ => 0))), ((qm 5), .inl (cI, 16, .inl (fun _ => 0))), ((qr3 2), .inl (cI, 10, .inl (fun _ => 0))), ((qr3 7), .inl (cI, 10, .inl (fun _ => 0))), ((qr3 33), .inl (cI, 16, .inl (fun _ => 0))), (q4, .inl (cJ, 1, .inr (.inl (fun _ => 0))))]) (w1 := [(o2, .inr (7, fR 0 0 0 0 qr3))]) 9 rfl rfl [9] [0, 1, 2, 3, 4, 5, 6, 7, 8, 10, 11, 12, 13] (c_R_spent1 l D cI cB cJ o2 qr3) rfl rfl rfl rfl (by decide) wd_1161 wd_1158 wd_1159 wd_1160 wd_8 (n9 := 1) (by decide +kernel) rfl ⟨(Nat.le_of_ble_eq_true rfl), (Nat.le_of_ble_eq_true rfl)⟩ hl.1 rfl (Nat.le_of_ble_eq_true rfl) d_L_law_985 (Nat.le_of_ble_eq_true rfl) (Nat.le_of_ble_eq_true rfl) (fun H locs w => ?_)
  have w : Wd D (lA s) s [(o1, .inr (0, fN 0 qn)), ((qn 0), .inr (1, fP 0 qp)), ((qn 5), .inr (6, fA 0 qm)), ((qp 1), .inl (cI, 10, .inl (fun _ => 0))), ((qp 6), .inl (cI, 10, .inl (fun _ => 0))), ((qp 7), .inl (cI, 10, .inl (fun _ => 0))), ((qp 8), .inl (cI, 10, .inl (fun _ => 0))), ((qp 9), .inl (cI, 10, .inl (fun _ => 0))), ((qm 5), .inl (cI, 16, .inl (fun _ => 0))), ((qr3 2), .inl (cI, 10, .inl (fun _ => 0))), ((qr3 7), .inl (cI, 10, .inl (fun _ => 0))), ((qr3 33), .inl (cI, 16, .inl (fun _ => 0))), (q4, .inl (cJ, 1, .inr (.inl (fun _ => 0)))), (o2, .inr (7, fR 0 0 0 0 qr3))] H _ := w
  refine lv_icmp_eq (tgt := 993) hx hb d_L_law_988 (by decide) (fun hc988 => ?_) (fun hc => absurd (by decide) hc)
  exact law_tail C0 hX hbl hr hlk htl (Nat.le_of_ble_eq_true rfl) (Nat.le_of_ble_eq_true rfl) w (lv_sub hl [0, 4] rfl)
set_option maxHeartbeats 4000000 in
set_option maxRecDepth 100000 in
theorem law_case16_2 {qm : Nat → Nat} {qn : Nat → Nat} {qp : Nat → Nat} {qr3 : Nat → Nat} {o1 : Nat} {o2 : Nat} {q4 : Nat} (C0 : Cx p s m #[Value.ref b] c code 7 "NameForgeLaw" D cI cB cJ) (hX : va_X b 6 xs s s.heap) (hbl : b < s.heap.size) (hr : meth.sig.returnType = ret) (hlk : meth.locks = false) (htl : l.stackTraces = false) (hv : xs (1 : Int32).toNatClampNeg = 2) (w : Wd D (lA s) s [(o1, .inr (0, fN 0 qn)), ((qn 0), .inr (1, fP 0 qp)), ((qn 5), .inr (6, fA 0 qm)), ((qp 1), .inl (cI, 10, .inl (fun _ => 0))), ((qp 6), .inl (cI, 10, .inl (fun _ => 0))), ((qp 7), .inl (cI, 10, .inl (fun _ => 0))), ((qp 8), .inl (cI, 10, .inl (fun _ => 0))), ((qp 9), .inl (cI, 10, .inl (fun _ => 0))), ((qm 5), .inl (cI, 16, .inl (fun _ => 0))), (o2, .inr (7, fR 0 0 0 0 qr3)), ((qr3 2), .inl (cI, 10, .inl (fun _ => 0))), ((qr3 7), .inl (cI, 10, .inl (fun _ => 0))), ((qr3 33), .inl (cI, 16, .inl (fun _ => 0))), (q4, .inl (cJ, 1, .inr (.inl (fun _ => 0))))] H locs) (hl : lv_has ls 7 [(4, .int 0), (3, .ref q4), (2, .ref o2), (1, .ref o1), (0, .ref b)]) : W p l e room_1 s m #[Value.ref b] below meth c H locs 165 3470 (lw_Z below #[Value.ref b] s) (F0 m 968 ls []) := by
  have hx := C0.1
  have hb := C0.2.1
  have hbA : ¬ lA s b := fun h => absurd hbl (Nat.not_lt.mpr h)
  refine lv_aload_n hx hb d_L_law_968 rfl (lv_at hl 3 rfl) ?_
  refine lv_aload_n hx hb d_L_law_969 rfl (lv_at hl 4 rfl) ?_
  refine lv_iload hx hb d_L_law_970 (lv_at hl 0 rfl) ?_
  refine lv_iconst (v := 1) hx hb d_L_law_972 (by decide) ?_
  refine lv_iadd hx hb d_L_law_973 ?_
  refine lv_cst (x := 0 + 1) (y := 1) (by decide) ?_
  refine va_sld hx hb hX hbl hbA w.2.2.1 (vin (by decide)) d_L_law_974 ?_
  refine lv_cst (x := xs (1 : Int32).toNatClampNeg) (y := 2) hv ?_
  refine R_ri C0 w (rest := []) 0 rfl rfl [0, 2] (c_N_spent2 l D cI cB cJ o1 qn qm) rfl rfl wd_384 wd_381 wd_382 wd_383 wd_1 (n9 := 1) (by decide +kernel) rfl ⟨(Nat.le_of_ble_eq_true rfl), (Nat.le_of_ble_eq_true rfl)⟩ hl.1 rfl (Nat.le_of_ble_eq_true rfl) d_L_law_975 (Nat.le_of_ble_eq_true rfl) (Nat.le_of_ble_eq_true rfl) ?_
  refine lv_aload_n hx hb d_L_law_978 rfl (lv_at hl 2 rfl) ?_
  refine lv_aload_n hx hb d_L_law_979 rfl (lv_at hl 4 rfl) ?_
  refine lv_iload hx hb d_L_law_980 (lv_at hl 0 rfl) ?_
  refine lv_iconst (v := 1) hx hb d_L_law_982 (by decide) ?_
  refine lv_iadd hx hb d_L_law_983 ?_
  refine lv_cst (x := 0 + 1) (y := 1) (by decide) ?_
  refine va_sld hx hb hX hbl hbA w.2.2.1 (vin (by decide)) d_L_law_984 ?_
  refine lv_cst (x := xs (1 : Int32).toNatClampNeg) (y := 2) hv ?_
  refine R_vi C0 w (rest := [.int 0]) (wr := [(o1, .inr (0, fN 0 qn)), ((qn 0), .inr (1, fP 0 qp)), ((qn 5), .inr (6, fA 0 qm)), ((qp 1), .inl (cI, 10, .inl (fun _ => 0))), ((qp 6), .inl (cI, 10, .inl (fun _ => 0))), ((qp 7), .inl (cI, 10, .inl (fun _ => 0))), ((qp 8), .inl (cI, 10, .inl (fun _ => 0))), ((qp 9), .inl (cI, 10, .inl (fun _ => 0))), ((qm 5), .inl (cI, 16, .inl (fun _ => 0))), ((qr3 2), .inl (cI, 10, .inl (fun _ => 0))), ((qr3 7), .inl (cI, 10, .inl (fun _ => 0))), ((qr3 33), .inl (cI, 16, .inl (fun _ => 0))), (q4, .inl (cJ, 1, .inr (.inl (fun _ => 0))))]) (w1 := [(o2, .inr (7, fR 0 0 0 0 qr3))]) 9 rfl rfl [9] [0, 1, 2, 3, 4, 5, 6, 7, 8, 10, 11, 12, 13] (c_R_spent2 l D cI cB cJ o2 qr3) rfl rfl rfl rfl (by decide) wd_1161 wd_1158 wd_1159 wd_1160 wd_8 (n9 := 1) (by decide +kernel) rfl ⟨(Nat.le_of_ble_eq_true rfl), (Nat.le_of_ble_eq_true rfl)⟩ hl.1 rfl (Nat.le_of_ble_eq_true rfl) d_L_law_985 (Nat.le_of_ble_eq_true rfl) (Nat.le_of_ble_eq_true rfl) (fun H locs w => ?_)
  have w : Wd D (lA s) s [(o1, .inr (0, fN 0 qn)), ((qn 0), .inr (1, fP 0 qp)), ((qn 5), .inr (6, fA 0 qm)), ((qp 1), .inl (cI, 10, .inl (fun _ => 0))), ((qp 6), .inl (cI, 10, .inl (fun _ => 0))), ((qp 7), .inl (cI, 10, .inl (fun _ => 0))), ((qp 8), .inl (cI, 10, .inl (fun _ => 0))), ((qp 9), .inl (cI, 10, .inl (fun _ => 0))), ((qm 5), .inl (cI, 16, .inl (fun _ => 0))), ((qr3 2), .inl (cI, 10, .inl (fun _ => 0))), ((qr3 7), .inl (cI, 10, .inl (fun _ => 0))), ((qr3 33), .inl (cI, 16, .inl (fun _ => 0))), (q4, .inl (cJ, 1, .inr (.inl (fun _ => 0)))), (o2, .inr (7, fR 0 0 0 0 qr3))] H _ := w
  refine lv_icmp_eq (tgt := 993) hx hb d_L_law_988 (by decide) (fun hc988 => ?_) (fun hc => absurd (by decide) hc)
  exact law_tail C0 hX hbl hr hlk htl (Nat.le_of_ble_eq_true rfl) (Nat.le_of_ble_eq_true rfl) w (lv_sub hl [0, 4] rfl)
set_option maxHeartbeats 4000000 in
set_option maxRecDepth 100000 in
theorem law_case16_D {qm : Nat → Nat} {qn : Nat → Nat} {qp : Nat → Nat} {qr3 : Nat → Nat} {o1 : Nat} {o2 : Nat} {q4 : Nat} (C0 : Cx p s m #[Value.ref b] c code 7 "NameForgeLaw" D cI cB cJ) (hX : va_X b 6 xs s s.heap) (hbl : b < s.heap.size) (hr : meth.sig.returnType = ret) (hlk : meth.locks = false) (htl : l.stackTraces = false) (h0 : ¬ xs (1 : Int32).toNatClampNeg = 0) (h1 : ¬ xs (1 : Int32).toNatClampNeg = 1) (h2 : ¬ xs (1 : Int32).toNatClampNeg = 2) (w : Wd D (lA s) s [(o1, .inr (0, fN 0 qn)), ((qn 0), .inr (1, fP 0 qp)), ((qn 5), .inr (6, fA 0 qm)), ((qp 1), .inl (cI, 10, .inl (fun _ => 0))), ((qp 6), .inl (cI, 10, .inl (fun _ => 0))), ((qp 7), .inl (cI, 10, .inl (fun _ => 0))), ((qp 8), .inl (cI, 10, .inl (fun _ => 0))), ((qp 9), .inl (cI, 10, .inl (fun _ => 0))), ((qm 5), .inl (cI, 16, .inl (fun _ => 0))), (o2, .inr (7, fR 0 0 0 0 qr3)), ((qr3 2), .inl (cI, 10, .inl (fun _ => 0))), ((qr3 7), .inl (cI, 10, .inl (fun _ => 0))), ((qr3 33), .inl (cI, 16, .inl (fun _ => 0))), (q4, .inl (cJ, 1, .inr (.inl (fun _ => 0))))] H locs) (hl : lv_has ls 7 [(4, .int 0), (3, .ref q4), (2, .ref o2), (1, .ref o1), (0, .ref b)]) : W p l e room_1 s m #[Value.ref b] below meth c H locs 165 3470 (lw_Z below #[Value.ref b] s) (F0 m 968 ls []) := by
  have hx := C0.1
  have hb := C0.2.1
  have hbA : ¬ lA s b := fun h => absurd hbl (Nat.not_lt.mpr h)
  refine lv_aload_n hx hb d_L_law_968 rfl (lv_at hl 3 rfl) ?_
  refine lv_aload_n hx hb d_L_law_969 rfl (lv_at hl 4 rfl) ?_
  refine lv_iload hx hb d_L_law_970 (lv_at hl 0 rfl) ?_
  refine lv_iconst (v := 1) hx hb d_L_law_972 (by decide) ?_
  refine lv_iadd hx hb d_L_law_973 ?_
  refine lv_cst (x := 0 + 1) (y := 1) (by decide) ?_
  refine va_sld hx hb hX hbl hbA w.2.2.1 (vin (by decide)) d_L_law_974 ?_
  refine R_ri C0 w (rest := []) 0 rfl rfl [0, 2] (c_N_spentD l D cI cB cJ o1 qn qm (xs (1 : Int32).toNatClampNeg) h0 h1 h2) rfl rfl wd_384 wd_381 wd_382 wd_383 wd_1 (n9 := 1) (by decide +kernel) rfl ⟨(Nat.le_of_ble_eq_true rfl), (Nat.le_of_ble_eq_true rfl)⟩ hl.1 rfl (Nat.le_of_ble_eq_true rfl) d_L_law_975 (Nat.le_of_ble_eq_true rfl) (Nat.le_of_ble_eq_true rfl) ?_
  refine lv_aload_n hx hb d_L_law_978 rfl (lv_at hl 2 rfl) ?_
  refine lv_aload_n hx hb d_L_law_979 rfl (lv_at hl 4 rfl) ?_
  refine lv_iload hx hb d_L_law_980 (lv_at hl 0 rfl) ?_
  refine lv_iconst (v := 1) hx hb d_L_law_982 (by decide) ?_
  refine lv_iadd hx hb d_L_law_983 ?_
  refine lv_cst (x := 0 + 1) (y := 1) (by decide) ?_
  refine va_sld hx hb hX hbl hbA w.2.2.1 (vin (by decide)) d_L_law_984 ?_
  refine R_vi C0 w (rest := [.int (-1)]) (wr := [(o1, .inr (0, fN 0 qn)), ((qn 0), .inr (1, fP 0 qp)), ((qn 5), .inr (6, fA 0 qm)), ((qp 1), .inl (cI, 10, .inl (fun _ => 0))), ((qp 6), .inl (cI, 10, .inl (fun _ => 0))), ((qp 7), .inl (cI, 10, .inl (fun _ => 0))), ((qp 8), .inl (cI, 10, .inl (fun _ => 0))), ((qp 9), .inl (cI, 10, .inl (fun _ => 0))), ((qm 5), .inl (cI, 16, .inl (fun _ => 0))), ((qr3 2), .inl (cI, 10, .inl (fun _ => 0))), ((qr3 7), .inl (cI, 10, .inl (fun _ => 0))), ((qr3 33), .inl (cI, 16, .inl (fun _ => 0))), (q4, .inl (cJ, 1, .inr (.inl (fun _ => 0))))]) (w1 := [(o2, .inr (7, fR 0 0 0 0 qr3))]) 9 rfl rfl [9] [0, 1, 2, 3, 4, 5, 6, 7, 8, 10, 11, 12, 13] (c_R_spentD l D cI cB cJ o2 qr3 (xs (1 : Int32).toNatClampNeg) h0 h1 h2) rfl rfl rfl rfl (by decide) wd_1161 wd_1158 wd_1159 wd_1160 wd_8 (n9 := 1) (by decide +kernel) rfl ⟨(Nat.le_of_ble_eq_true rfl), (Nat.le_of_ble_eq_true rfl)⟩ hl.1 rfl (Nat.le_of_ble_eq_true rfl) d_L_law_985 (Nat.le_of_ble_eq_true rfl) (Nat.le_of_ble_eq_true rfl) (fun H locs w => ?_)
  have w : Wd D (lA s) s [(o1, .inr (0, fN 0 qn)), ((qn 0), .inr (1, fP 0 qp)), ((qn 5), .inr (6, fA 0 qm)), ((qp 1), .inl (cI, 10, .inl (fun _ => 0))), ((qp 6), .inl (cI, 10, .inl (fun _ => 0))), ((qp 7), .inl (cI, 10, .inl (fun _ => 0))), ((qp 8), .inl (cI, 10, .inl (fun _ => 0))), ((qp 9), .inl (cI, 10, .inl (fun _ => 0))), ((qm 5), .inl (cI, 16, .inl (fun _ => 0))), ((qr3 2), .inl (cI, 10, .inl (fun _ => 0))), ((qr3 7), .inl (cI, 10, .inl (fun _ => 0))), ((qr3 33), .inl (cI, 16, .inl (fun _ => 0))), (q4, .inl (cJ, 1, .inr (.inl (fun _ => 0)))), (o2, .inr (7, fR 0 0 0 0 qr3))] H _ := w
  refine lv_icmp_eq (tgt := 993) hx hb d_L_law_988 (by decide) (fun hc988 => ?_) (fun hc => absurd (by decide) hc)
  exact law_tail C0 hX hbl hr hlk htl (Nat.le_of_ble_eq_true rfl) (Nat.le_of_ble_eq_true rfl) w (lv_sub hl [0, 4] rfl)
theorem law_case16 {qm : Nat → Nat} {qn : Nat → Nat} {qp : Nat → Nat} {qr3 : Nat → Nat} {o1 : Nat} {o2 : Nat} {q4 : Nat} (C0 : Cx p s m #[Value.ref b] c code 7 "NameForgeLaw" D cI cB cJ) (hX : va_X b 6 xs s s.heap) (hbl : b < s.heap.size) (hr : meth.sig.returnType = ret) (hlk : meth.locks = false) (htl : l.stackTraces = false) (w : Wd D (lA s) s [(o1, .inr (0, fN 0 qn)), ((qn 0), .inr (1, fP 0 qp)), ((qn 5), .inr (6, fA 0 qm)), ((qp 1), .inl (cI, 10, .inl (fun _ => 0))), ((qp 6), .inl (cI, 10, .inl (fun _ => 0))), ((qp 7), .inl (cI, 10, .inl (fun _ => 0))), ((qp 8), .inl (cI, 10, .inl (fun _ => 0))), ((qp 9), .inl (cI, 10, .inl (fun _ => 0))), ((qm 5), .inl (cI, 16, .inl (fun _ => 0))), (o2, .inr (7, fR 0 0 0 0 qr3)), ((qr3 2), .inl (cI, 10, .inl (fun _ => 0))), ((qr3 7), .inl (cI, 10, .inl (fun _ => 0))), ((qr3 33), .inl (cI, 16, .inl (fun _ => 0))), (q4, .inl (cJ, 1, .inr (.inl (fun _ => 0))))] H locs) (hl : lv_has ls 7 [(4, .int 0), (3, .ref q4), (2, .ref o2), (1, .ref o1), (0, .ref b)]) : W p l e room_1 s m #[Value.ref b] below meth c H locs 165 3470 (lw_Z below #[Value.ref b] s) (F0 m 968 ls []) := by
  by_cases h0 : xs (1 : Int32).toNatClampNeg = 0
  · exact law_case16_0 C0 hX hbl hr hlk htl h0 w hl
  by_cases h1 : xs (1 : Int32).toNatClampNeg = 1
  · exact law_case16_1 C0 hX hbl hr hlk htl h1 w hl
  by_cases h2 : xs (1 : Int32).toNatClampNeg = 2
  · exact law_case16_2 C0 hX hbl hr hlk htl h2 w hl
  exact law_case16_D C0 hX hbl hr hlk htl h0 h1 h2 w hl
set_option maxHeartbeats 4000000 in
set_option maxRecDepth 100000 in
theorem law_dflt {qm : Nat → Nat} {qn : Nat → Nat} {qp : Nat → Nat} {qr3 : Nat → Nat} {o1 : Nat} {o2 : Nat} {q4 : Nat} (C0 : Cx p s m #[Value.ref b] c code 7 "NameForgeLaw" D cI cB cJ) (hX : va_X b 6 xs s s.heap) (hbl : b < s.heap.size) (hr : meth.sig.returnType = ret) (hlk : meth.locks = false) (htl : l.stackTraces = false) (w : Wd D (lA s) s [(o1, .inr (0, fN 0 qn)), ((qn 0), .inr (1, fP 0 qp)), ((qn 5), .inr (6, fA 0 qm)), ((qp 1), .inl (cI, 10, .inl (fun _ => 0))), ((qp 6), .inl (cI, 10, .inl (fun _ => 0))), ((qp 7), .inl (cI, 10, .inl (fun _ => 0))), ((qp 8), .inl (cI, 10, .inl (fun _ => 0))), ((qp 9), .inl (cI, 10, .inl (fun _ => 0))), ((qm 5), .inl (cI, 16, .inl (fun _ => 0))), (o2, .inr (7, fR 0 0 0 0 qr3)), ((qr3 2), .inl (cI, 10, .inl (fun _ => 0))), ((qr3 7), .inl (cI, 10, .inl (fun _ => 0))), ((qr3 33), .inl (cI, 16, .inl (fun _ => 0))), (q4, .inl (cJ, 1, .inr (.inl (fun _ => 0))))] H locs) (hl : lv_has ls 7 [(4, .int 0), (3, .ref q4), (2, .ref o2), (1, .ref o1), (0, .ref b)]) : W p l e room_1 s m #[Value.ref b] below meth c H locs 165 3470 (lw_Z below #[Value.ref b] s) (F0 m 993 ls []) := by
  have hx := C0.1
  have hb := C0.2.1
  have hbA : ¬ lA s b := fun h => absurd hbl (Nat.not_lt.mpr h)
  exact law_tail C0 hX hbl hr hlk htl (Nat.le_of_ble_eq_true rfl) (Nat.le_of_ble_eq_true rfl) w (lv_sub hl [0, 4] rfl)
end LAW
