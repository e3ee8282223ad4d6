-- ===== end of PART A; then your names; then what follows =====
/-! THE CLAIM OUT OF ONE WALK OF THE LAW'S BODY. Your part is whole_start (and what it stands on); all else here is the same for every law, but numbers. -/
def R_law : String := "NameForgeLaw"
def lw_P (b : Addr) (xs : List Int32) (args : Array Value) (s : State) : Prop := args = #[.ref b] ∧ s.IntsAt b xs ∧ xs.length ≤ 3072 ∧ (Jvm.Cond.and given_1 narrow_1).before args s = true
def lw_Q (_ : Array Value) (s : State) (o : Outcome) (t : State) : Prop := o = .returned (some (.int 1)) ∧ Framed s o t [] 601024 7293034
def lw_Z (below : List Frame) (a : Array Value) (s : State) : State → Prop := fun t => ∃ o, t.status = .running ∧ Ended t below o ∧ lw_Q a s o t
/-- the law's own end, with 1 on the stack, nothing written that was there before, its room as the claim has it -/
theorem lw_ret {p : Program} {l : Launch} {e : Env} {s : State} {m : MethodId} {below : List Frame} {meth : Method} {c : Code} {b : Nat} (hx : p.tables.exec = Jvm.exec) (hb : c.code = code) (hr : meth.sig.returnType = ret) (hlocks : meth.locks = false) {pc : Nat} {H : Heap} {ls : Array Slot} (hdg : decode code pc = .ok (.ireturn, 1)) : W p l e room_1 s m #[Value.ref b] below meth c H [] 601024 7293034 (lw_Z below #[Value.ref b] s) (F0 m pc ls [.int 1]) := by
  intro T hT X
  obtain ⟨fs, hret, hrun, hended, hW, hframe⟩ := X.leave (v := some (.int 1)) (hlocks := hlocks) (fun h => by rw [hr] at h; cases h)
  have hmeth' : T.vm.method? m = some meth := X.method'
  refine ⟨T.setFrames fs, ?_, .returned (some (.int 1)), hrun, hended, rfl, ⟨_, rfl⟩, hW, hframe⟩
  jvm_step X.here [X.here.top, hx, hb, hdg, hmeth', hr, ret, narrow_b1]
  (try refine ⟨rfl, ?_⟩); (try refine ⟨rfl, ?_⟩)
  first | (intro acts; rw [hret _ acts rfl rfl rfl]) | rw [hret _ _ rfl rfl rfl]
  exact Steps.refl _
/-- what holds at the law's entry: the machine, the code, the tables' words (any of lw_tbl by 'hts w (by decide +kernel)'), the script of L ints xs at the cell b, what the Statement gives of the start (any of its parts by flat_of_before) -/
def lw_At (p : Program) (s : State) (m : MethodId) (meth : Method) (c : Code) (b L : Nat) (xs : Nat → Int32) : Prop :=
  p.tables.exec = Jvm.exec ∧ c.code = code ∧ meth.sig.returnType = ret ∧ c.maxLocals = 7 ∧ s.vm.findClass R_law = some m.cls ∧ (∀ w ∈ lw_tbl, w.before #[Value.ref b] s = true) ∧ va_X b L xs s s.heap ∧ b < s.heap.size ∧ meth.locks = false ∧ (Jvm.Cond.and given_1 narrow_1).before #[Value.ref b] s = true

def Al (Inv : Sto → Sto → Prop) (cm : Prop) (a : Nat) (cs : List Nat) (x : Option (Nat × Int32 × Sto)) (y : Option (Int32 × Sto)) : Prop := ∃ (c : Nat) (r : Int32) (MX : Sto) (r2 : Int32) (MR : Sto), x = some (c, r, MX) ∧ c ∈ cs ∧ y = some (r2, MR) ∧ Inv MX MR ∧ (cm → MR 0 0 = kc a c ∧ (c = 0 → r2 = r))
def Al0 (Inv : Sto → Sto → Prop) (cm : Prop) (x y : Option (Int32 × Sto)) : Prop := ∃ (r : Int32) (MX : Sto) (r2 : Int32) (MR : Sto), x = some (r, MX) ∧ y = some (r2, MR) ∧ Inv MX MR ∧ (cm → r2 = r)
def Steps (Inv : Sto → Sto → Prop) (cmp : Nat → Prop) : Prop := ∀ MX MR : Sto, Inv MX MR → (Al Inv (cmp 0) 2 [0, 2] (m_N_block  MX) (m_R_block  MR)) ∧ (∀ x1 x2 x3 x4 x5 : Int32, Al Inv (cmp 1) 1 [0, 1, 2] (m_N_put x1 x2 x3 x4 x5 MX) (m_R_put x1 x2 x3 x4 x5 MR)) ∧ (∀ x1 x2 : Int32, Al Inv (cmp 2) 1 [0, 1] (m_N_go x1 x2 MX) (m_R_go x1 x2 MR)) ∧ (∀ x1 x2 x3 x4 : Int32, Al Inv (cmp 3) 1 [0, 1] (m_N_fork x1 x2 x3 x4 MX) (m_R_fork x1 x2 x3 x4 MR)) ∧ (∀ x1 : Int32, Al Inv (cmp 4) 1 [0, 1] (m_N_stop x1 MX) (m_R_stop x1 MR)) ∧ (Al0 Inv (cmp 5) (m_N_clear  MX) (m_R_clear  MR)) ∧ (Al Inv (cmp 6) 2 [0, 2] (m_N_build  MX) (m_R_build  MR)) ∧ (∀ x1 x2 : Int32, Al Inv (cmp 7) 3 [0, 3, 2] (m_N_look x1 x2 MX) (m_R_look x1 x2 MR)) ∧ (∀ x1 x2 x3 : Int32, Al Inv (cmp 8) 3 [0, 3, 2] (m_N_phi x1 x2 x3 MX) (m_R_phi x1 x2 x3 MR)) ∧ (∀ x1 x2 x3 : Int32, Al Inv (cmp 9) 3 [0, 3, 2] (m_N_uses x1 x2 x3 MX) (m_R_uses x1 x2 x3 MR)) ∧ (∀ x1 x2 : Int32, Al Inv (cmp 10) 3 [0, 3, 2] (m_N_name x1 x2 MX) (m_R_name x1 x2 MR)) ∧ (∀ x1 : Int32, Al0 Inv (cmp 11) (m_N_give x1 MX) (m_R_give x1 MR)) ∧ (Al0 Inv (cmp 12) (m_N_take  MX) (m_R_take  MR)) ∧ (∀ x1 x2 : Int32, (x1 = 0 ∨ x1 = 1) → Al Inv (cmp 13) 1 [0, 1, 2] (m_N_run x1 x2 MX) (m_R_run x1 x2 MR)) ∧ (Al0 Inv (cmp 14) (m_N_told  MX) (m_R_told  MR)) ∧ (∀ x1 : Int32, Al Inv (cmp 15) 3 [0, 3] (m_N_heard x1 MX) (m_R_heard x1 MR)) ∧ (∀ x1 : Int32, Al0 Inv (cmp 16) (m_N_spent x1 MX) (m_R_spent x1 MR))
abbrev lA (s : State) : Nat → Prop := fun q => s.heap.size ≤ q
theorem fo_at {r : Int32} {f : Nat → Int64} : fo 0 r f (0 : Int32).toNatClampNeg = r.toInt64 := by
  show vp_updL f (0 : Int32).toNatClampNeg r.toInt64 (0 : Int32).toNatClampNeg = _
  simp [vp_updL]
theorem ixin {n L j : Nat} (h : 6 * n + 6 ≤ L) (hL : L ≤ 3072) (hj : j < 6) : vp_in (Int32.ofNat (6 * n) + Int32.ofNat j) L := by
  rw [← Int32.ofNat_add]
  have e : (Int32.ofNat (6 * n + j)).toInt = ((6 * n + j : Nat) : Int) := Int32.toInt_ofNat_of_lt (by omega)
  intro q
  rcases q with q | q
  · rw [Int32.lt_iff_toInt_lt, e] at q
    have : (0 : Int32).toInt = 0 := rfl
    omega
  · have : (Int32.ofNat (6 * n + j)).toNatClampNeg = 6 * n + j := by
      show (Int32.ofNat (6 * n + j)).toInt.toNat = _
      rw [e]
      rfl
    omega
theorem ixnext (n : Nat) : Int32.ofNat (6 * n) + 6 = Int32.ofNat (6 * (n + 1)) := by
  rw [show (6 : Int32) = Int32.ofNat 6 from rfl, ← Int32.ofNat_add]
  congr 1
theorem ixgo {n L : Nat} (hn : 6 * n ≤ 3078) (hL : L ≤ 3072) (h : ¬ Int32.ofNat (6 * n) > Int32.ofNat L - 6) : 6 * n + 6 ≤ L := by
  have e1 : (Int32.ofNat (6 * n)).toInt = ((6 * n : Nat) : Int) := Int32.toInt_ofNat_of_lt (by omega)
  have e2 : (Int32.ofNat L).toInt = (L : Int) := Int32.toInt_ofNat_of_lt (by omega)
  have e3 : (Int32.ofNat L - 6).toInt = (L : Int) - 6 := by
    rw [Int32.toInt_sub, e2, show (6 : Int32).toInt = 6 from rfl]
    rw [Int.bmod_eq_of_le (by omega) (by omega)]
  have h : ¬ (Int32.ofNat L - 6) < Int32.ofNat (6 * n) := h
  rw [Int32.lt_iff_toInt_lt, e1, e3] at h
  omega
section LAW
variable {p : Program} {l : Launch} {e : Env} {s : State} {m : MethodId} {below : List Frame} {meth : Method} {c : Code} {b L : Nat} {xs : Nat → Int32} {D : va_G} {ct : Nat → ClassId} {H : Heap} {locs : List Loc} {ls : Array Slot} {cells slots : Nat} {Inv : Sto → Sto → Prop} {cmp : Nat → Prop} {i : Int32} {qx qr : Nat → Nat} {o : Nat} {f : Nat → Int64} {MX MR : Sto}
set_option maxHeartbeats 1000000 in
set_option maxRecDepth 20000 in
theorem law_case0 (C0 : Cx p s m #[Value.ref b] c code 7 "NameForgeLaw" D ct) (hX : va_X b L xs s s.heap) (hbl : b < s.heap.size) (hr : meth.sig.returnType = ret) (hlk : meth.locks = false) (htl : l.stackTraces = false) (hS : Steps Inv cmp) (hj : ∀ j : Nat, j < 6 → vp_in (i + Int32.ofNat j) L) (hI : Inv MX MR) (hcs : cells + 1 ≤ room_1.cells) (hss : slots + 6 ≤ room_1.slots) (hcmp : cmp 0) (KK : ∀ (MX MR : Sto) (f : Nat → Int64) (H : Heap) (locs : List Loc) (ls : Array Slot), Inv MX MR → Wd D (lA s) s (wR ct qr MR ++ ([(o, .inl (ct 2, 1, .inr (.inl f)))] ++ wX ct qx MX)) H locs → lv_has ls 7 [(4, .int i), (3, .ref o), (2, .ref (qr 0)), (1, .ref (qx 0)), (0, .ref b)] → W p l e room_1 s m #[Value.ref b] below meth c H locs (cells + 1) (slots + 6) (lw_Z below #[Value.ref b] s) (F0 m 993 ls [])) (w : Wd D (lA s) s (wR ct qr MR ++ ([(o, .inl (ct 2, 1, .inr (.inl f)))] ++ wX ct qx MX)) H locs) (hl : lv_has ls 7 [(4, .int i), (3, .ref o), (2, .ref (qr 0)), (1, .ref (qx 0)), (0, .ref b)]) : W p l e room_1 s m #[Value.ref b] below meth c H locs cells slots (lw_Z below #[Value.ref b] s) (F0 m 124 ls []) := by
  have hx := C0.1
  have hb := C0.2.1
  have hbA : ¬ lA s b := fun h => absurd hbl (Nat.not_lt.mpr h)
  refine lv_aload_n hx hb d_L_law_124 rfl (lv_at hl 3 rfl) ?_
  refine lv_aload_n hx hb d_L_law_125 rfl (lv_at hl 1 rfl) ?_
  obtain ⟨cz, rz, MX1, r2, MR1, hx1, hcz, hy1, hI1, hcm⟩ := (hS MX MR hI).1
  refine S_sh C0 w (rest := []) (h_block l htl D ct qx o f hx1 hcz) wd_387 wd_385 wd_386 wd_0 (n9 := 2) (by decide +kernel) rfl ⟨(Nat.le_of_ble_eq_true rfl), (Nat.le_of_ble_eq_true rfl)⟩ hl.1 rfl (Nat.le_of_ble_eq_true rfl) d_L_law_126 hcs hss (fun H locs w => ?_)
  have w : Wd D (lA s) s (wR ct qr MR ++ ([(o, .inl (ct 2, 1, .inr (.inl (fo cz rz f))))] ++ wX ct qx MX1)) H _ := w
  refine lv_istore hx hb d_L_law_129 hl (by decide) rfl (fun ls hl => ?_)
  have hl : lv_has ls 7 [(5, .int (kc 2 cz)), (4, .int i), (3, .ref o), (2, .ref (qr 0)), (1, .ref (qx 0)), (0, .ref b)] := hl
  refine lv_aload_n hx hb d_L_law_131 rfl (lv_at hl 3 rfl) ?_
  have w := w.swap
  refine S_vi C0 w (rest := []) 0 (wU_at (by decide)) rfl (c_R_block l D ct qr hy1) wd_959 wd_956 wd_957 wd_958 wd_8 (n9 := 0) (by decide +kernel) rfl ⟨(Nat.le_of_ble_eq_true rfl), (Nat.le_of_ble_eq_true rfl)⟩ hl.1 rfl (Nat.le_of_ble_eq_true rfl) d_L_law_132 hcs hss (fun H locs w => ?_)
  refine lv_istore hx hb d_L_law_135 hl (by decide) rfl (fun ls hl => ?_)
  have hl : lv_has ls 7 [(6, .int r2), (5, .int (kc 2 cz)), (4, .int i), (3, .ref o), (2, .ref (qr 0)), (1, .ref (qx 0)), (0, .ref b)] := hl
  refine lv_aload_n hx hb d_L_law_137 rfl (lv_at hl 4 rfl) ?_
  refine S_vi C0 w (rest := []) 0 (wU_at (by decide)) rfl (c_R_thrown l D ct qr (show m_R_thrown MR1 = some (MR1 0 0, MR1) from rfl)) wd_955 wd_952 wd_953 wd_954 wd_8 (n9 := 0) (by decide +kernel) rfl ⟨(Nat.le_of_ble_eq_true rfl), (Nat.le_of_ble_eq_true rfl)⟩ hl.1 rfl (Nat.le_of_ble_eq_true rfl) d_L_law_138 hcs hss (fun H locs w => ?_)
  refine lv_iload hx hb d_L_law_141 (lv_at hl 1 rfl) ?_
  refine lv_icmp_eq (tgt := 148) hx hb d_L_law_143 (by decide) (fun hc143 => ?_) (fun hc => absurd ((hcm hcmp).1) hc)
  refine lv_iload hx hb d_L_law_148 (lv_at hl 1 rfl) ?_
  refine lv_if_ne (tgt := 165) hx hb d_L_law_150 (by decide) (fun hd150 => ?_) (fun hd150 => ?_)
  · refine lv_goto (tgt := 993) hx hb d_L_law_165 (by decide) ?_
    have w := w.swap
    exact KK _ _ _ _ _ _ hI1 w (lv_sub hl [2, 3, 4, 5, 6] rfl)
  · have hk0 : kc 2 cz = 0 := hd150
    refine lv_aload_n hx hb d_L_law_153 rfl (lv_at hl 3 rfl) ?_
    refine lv_iconst (v := 0) hx hb d_L_law_154 (by decide) ?_
    refine R_lald C0 w 0 rfl (vin (by decide)) d_L_law_155 ?_
    refine lv_iload hx hb d_L_law_156 (lv_at hl 0 rfl) ?_
    refine lv_i2l (v := (r2 : Int32).toInt64) hx hb d_L_law_158 rfl ?_
    refine W.lcmp hx hb d_L_law_159 ?_
    refine lv_if_eq (tgt := 165) hx hb d_L_law_160 (by decide) (fun hc160 => ?_) (fun hc => absurd ?_ hc)
    rotate_left
    · have e0 := kc_zero hk0
      subst e0
      rw [(hcm hcmp).2 rfl, fo_at]
      exact (lg_cmp_eq _ _).mpr rfl
    refine lv_goto (tgt := 993) hx hb d_L_law_165 (by decide) ?_
    have w := w.swap
    exact KK _ _ _ _ _ _ hI1 w (lv_sub hl [2, 3, 4, 5, 6] rfl)
set_option maxHeartbeats 1000000 in
set_option maxRecDepth 20000 in
theorem law_case1 (C0 : Cx p s m #[Value.ref b] c code 7 "NameForgeLaw" D ct) (hX : va_X b L xs s s.heap) (hbl : b < s.heap.size) (hr : meth.sig.returnType = ret) (hlk : meth.locks = false) (htl : l.stackTraces = false) (hS : Steps Inv cmp) (hj : ∀ j : Nat, j < 6 → vp_in (i + Int32.ofNat j) L) (hI : Inv MX MR) (hcs : cells + 1 ≤ room_1.cells) (hss : slots + 6 ≤ room_1.slots) (hcmp : cmp 1) (KK : ∀ (MX MR : Sto) (f : Nat → Int64) (H : Heap) (locs : List Loc) (ls : Array Slot), Inv MX MR → Wd D (lA s) s (wR ct qr MR ++ ([(o, .inl (ct 2, 1, .inr (.inl f)))] ++ wX ct qx MX)) H locs → lv_has ls 7 [(4, .int i), (3, .ref o), (2, .ref (qr 0)), (1, .ref (qx 0)), (0, .ref b)] → W p l e room_1 s m #[Value.ref b] below meth c H locs (cells + 1) (slots + 6) (lw_Z below #[Value.ref b] s) (F0 m 993 ls [])) (w : Wd D (lA s) s (wR ct qr MR ++ ([(o, .inl (ct 2, 1, .inr (.inl f)))] ++ wX ct qx MX)) H locs) (hl : lv_has ls 7 [(4, .int i), (3, .ref o), (2, .ref (qr 0)), (1, .ref (qx 0)), (0, .ref b)]) : W p l e room_1 s m #[Value.ref b] below meth c H locs cells slots (lw_Z below #[Value.ref b] s) (F0 m 168 ls []) := by
  have hx := C0.1
  have hb := C0.2.1
  have hbA : ¬ lA s b := fun h => absurd hbl (Nat.not_lt.mpr h)
  refine lv_aload_n hx hb d_L_law_168 rfl (lv_at hl 3 rfl) ?_
  refine lv_aload_n hx hb d_L_law_169 rfl (lv_at hl 4 rfl) ?_
  refine lv_iload hx hb d_L_law_170 (lv_at hl 0 rfl) ?_
  refine lv_iconst (v := 1) hx hb d_L_law_172 (by decide) ?_
  refine lv_iadd hx hb d_L_law_173 ?_
  refine va_sld hx hb hX hbl hbA w.2.2.1 (hj 1 (by decide)) d_L_law_174 ?_
  refine lv_aload_n hx hb d_L_law_175 rfl (lv_at hl 4 rfl) ?_
  refine lv_iload hx hb d_L_law_176 (lv_at hl 0 rfl) ?_
  refine lv_iconst (v := 2) hx hb d_L_law_178 (by decide) ?_
  refine lv_iadd hx hb d_L_law_179 ?_
  refine va_sld hx hb hX hbl hbA w.2.2.1 (hj 2 (by decide)) d_L_law_180 ?_
  refine lv_aload_n hx hb d_L_law_181 rfl (lv_at hl 4 rfl) ?_
  refine lv_iload hx hb d_L_law_182 (lv_at hl 0 rfl) ?_
  refine lv_iconst (v := 3) hx hb d_L_law_184 (by decide) ?_
  refine lv_iadd hx hb d_L_law_185 ?_
  refine va_sld hx hb hX hbl hbA w.2.2.1 (hj 3 (by decide)) d_L_law_186 ?_
  refine lv_aload_n hx hb d_L_law_187 rfl (lv_at hl 4 rfl) ?_
  refine lv_iload hx hb d_L_law_188 (lv_at hl 0 rfl) ?_
  refine lv_iconst (v := 4) hx hb d_L_law_190 (by decide) ?_
  refine lv_iadd hx hb d_L_law_191 ?_
  refine va_sld hx hb hX hbl hbA w.2.2.1 (hj 4 (by decide)) d_L_law_192 ?_
  refine lv_aload_n hx hb d_L_law_193 rfl (lv_at hl 4 rfl) ?_
  refine lv_iload hx hb d_L_law_194 (lv_at hl 0 rfl) ?_
  refine lv_iconst (v := 5) hx hb d_L_law_196 (by decide) ?_
  refine lv_iadd hx hb d_L_law_197 ?_
  refine va_sld hx hb hX hbl hbA w.2.2.1 (hj 5 (by decide)) d_L_law_198 ?_
  refine lv_aload_n hx hb d_L_law_199 rfl (lv_at hl 1 rfl) ?_
  obtain ⟨cz, rz, MX1, r2, MR1, hx1, hcz, hy1, hI1, hcm⟩ := (hS MX MR hI).2.1 (xs (i + 1).toNatClampNeg) (xs (i + 2).toNatClampNeg) (xs (i + 3).toNatClampNeg) (xs (i + 4).toNatClampNeg) (xs (i + 5).toNatClampNeg)
  refine S_sh C0 w (rest := []) (h_put l htl D ct qx o f hx1 hcz) wd_471 wd_469 wd_470 wd_0 (n9 := 7) (by decide +kernel) rfl ⟨(Nat.le_of_ble_eq_true rfl), (Nat.le_of_ble_eq_true rfl)⟩ hl.1 rfl (Nat.le_of_ble_eq_true rfl) d_L_law_200 hcs hss (fun H locs w => ?_)
  have w : Wd D (lA s) s (wR ct qr MR ++ ([(o, .inl (ct 2, 1, .inr (.inl (fo cz rz f))))] ++ wX ct qx MX1)) H _ := w
  refine lv_istore hx hb d_L_law_203 hl (by decide) rfl (fun ls hl => ?_)
  have hl : lv_has ls 7 [(5, .int (kc 1 cz)), (4, .int i), (3, .ref o), (2, .ref (qr 0)), (1, .ref (qx 0)), (0, .ref b)] := hl
  refine lv_aload_n hx hb d_L_law_205 rfl (lv_at hl 3 rfl) ?_
  refine lv_aload_n hx hb d_L_law_206 rfl (lv_at hl 5 rfl) ?_
  refine lv_iload hx hb d_L_law_207 (lv_at hl 1 rfl) ?_
  refine lv_iconst (v := 1) hx hb d_L_law_209 (by decide) ?_
  refine lv_iadd hx hb d_L_law_210 ?_
  refine va_sld hx hb hX hbl hbA w.2.2.1 (hj 1 (by decide)) d_L_law_211 ?_
  refine lv_aload_n hx hb d_L_law_212 rfl (lv_at hl 5 rfl) ?_
  refine lv_iload hx hb d_L_law_213 (lv_at hl 1 rfl) ?_
  refine lv_iconst (v := 2) hx hb d_L_law_215 (by decide) ?_
  refine lv_iadd hx hb d_L_law_216 ?_
  refine va_sld hx hb hX hbl hbA w.2.2.1 (hj 2 (by decide)) d_L_law_217 ?_
  refine lv_aload_n hx hb d_L_law_218 rfl (lv_at hl 5 rfl) ?_
  refine lv_iload hx hb d_L_law_219 (lv_at hl 1 rfl) ?_
  refine lv_iconst (v := 3) hx hb d_L_law_221 (by decide) ?_
  refine lv_iadd hx hb d_L_law_222 ?_
  refine va_sld hx hb hX hbl hbA w.2.2.1 (hj 3 (by decide)) d_L_law_223 ?_
  refine lv_aload_n hx hb d_L_law_224 rfl (lv_at hl 5 rfl) ?_
  refine lv_iload hx hb d_L_law_225 (lv_at hl 1 rfl) ?_
  refine lv_iconst (v := 4) hx hb d_L_law_227 (by decide) ?_
  refine lv_iadd hx hb d_L_law_228 ?_
  refine va_sld hx hb hX hbl hbA w.2.2.1 (hj 4 (by decide)) d_L_law_229 ?_
  refine lv_aload_n hx hb d_L_law_230 rfl (lv_at hl 5 rfl) ?_
  refine lv_iload hx hb d_L_law_231 (lv_at hl 1 rfl) ?_
  refine lv_iconst (v := 5) hx hb d_L_law_233 (by decide) ?_
  refine lv_iadd hx hb d_L_law_234 ?_
  refine va_sld hx hb hX hbl hbA w.2.2.1 (hj 5 (by decide)) d_L_law_235 ?_
  have w := w.swap
  refine S_vi C0 w (rest := []) 0 (wU_at (by decide)) rfl (c_R_put l D ct qr hy1) wd_967 wd_964 wd_965 wd_966 wd_8 (n9 := 5) (by decide +kernel) rfl ⟨(Nat.le_of_ble_eq_true rfl), (Nat.le_of_ble_eq_true rfl)⟩ hl.1 rfl (Nat.le_of_ble_eq_true rfl) d_L_law_236 hcs hss (fun H locs w => ?_)
  refine lv_istore hx hb d_L_law_239 hl (by decide) rfl (fun ls hl => ?_)
  have hl : lv_has ls 7 [(6, .int r2), (5, .int (kc 1 cz)), (4, .int i), (3, .ref o), (2, .ref (qr 0)), (1, .ref (qx 0)), (0, .ref b)] := hl
  refine lv_aload_n hx hb d_L_law_241 rfl (lv_at hl 4 rfl) ?_
  refine S_vi C0 w (rest := []) 0 (wU_at (by decide)) rfl (c_R_thrown l D ct qr (show m_R_thrown MR1 = some (MR1 0 0, MR1) from rfl)) wd_955 wd_952 wd_953 wd_954 wd_8 (n9 := 0) (by decide +kernel) rfl ⟨(Nat.le_of_ble_eq_true rfl), (Nat.le_of_ble_eq_true rfl)⟩ hl.1 rfl (Nat.le_of_ble_eq_true rfl) d_L_law_242 hcs hss (fun H locs w => ?_)
  refine lv_iload hx hb d_L_law_245 (lv_at hl 1 rfl) ?_
  refine lv_icmp_eq (tgt := 252) hx hb d_L_law_247 (by decide) (fun hc247 => ?_) (fun hc => absurd ((hcm hcmp).1) hc)
  refine lv_iload hx hb d_L_law_252 (lv_at hl 1 rfl) ?_
  refine lv_if_ne (tgt := 269) hx hb d_L_law_254 (by decide) (fun hd254 => ?_) (fun hd254 => ?_)
  · refine lv_goto (tgt := 993) hx hb d_L_law_269 (by decide) ?_
    have w := w.swap
    exact KK _ _ _ _ _ _ hI1 w (lv_sub hl [2, 3, 4, 5, 6] rfl)
  · have hk0 : kc 1 cz = 0 := hd254
    refine lv_aload_n hx hb d_L_law_257 rfl (lv_at hl 3 rfl) ?_
    refine lv_iconst (v := 0) hx hb d_L_law_258 (by decide) ?_
    refine R_lald C0 w 0 rfl (vin (by decide)) d_L_law_259 ?_
    refine lv_iload hx hb d_L_law_260 (lv_at hl 0 rfl) ?_
    refine lv_i2l (v := (r2 : Int32).toInt64) hx hb d_L_law_262 rfl ?_
    refine W.lcmp hx hb d_L_law_263 ?_
    refine lv_if_eq (tgt := 269) hx hb d_L_law_264 (by decide) (fun hc264 => ?_) (fun hc => absurd ?_ hc)
    rotate_left
    · have e0 := kc_zero hk0
      subst e0
      rw [(hcm hcmp).2 rfl, fo_at]
      exact (lg_cmp_eq _ _).mpr rfl
    refine lv_goto (tgt := 993) hx hb d_L_law_269 (by decide) ?_
    have w := w.swap
    exact KK _ _ _ _ _ _ hI1 w (lv_sub hl [2, 3, 4, 5, 6] rfl)
set_option maxHeartbeats 1000000 in
set_option maxRecDepth 20000 in
theorem law_case2 (C0 : Cx p s m #[Value.ref b] c code 7 "NameForgeLaw" D ct) (hX : va_X b L xs s s.heap) (hbl : b < s.heap.size) (hr : meth.sig.returnType = ret) (hlk : meth.locks = false) (htl : l.stackTraces = false) (hS : Steps Inv cmp) (hj : ∀ j : Nat, j < 6 → vp_in (i + Int32.ofNat j) L) (hI : Inv MX MR) (hcs : cells + 1 ≤ room_1.cells) (hss : slots + 6 ≤ room_1.slots) (hcmp : cmp 2) (KK : ∀ (MX MR : Sto) (f : Nat → Int64) (H : Heap) (locs : List Loc) (ls : Array Slot), Inv MX MR → Wd D (lA s) s (wR ct qr MR ++ ([(o, .inl (ct 2, 1, .inr (.inl f)))] ++ wX ct qx MX)) H locs → lv_has ls 7 [(4, .int i), (3, .ref o), (2, .ref (qr 0)), (1, .ref (qx 0)), (0, .ref b)] → W p l e room_1 s m #[Value.ref b] below meth c H locs (cells + 1) (slots + 6) (lw_Z below #[Value.ref b] s) (F0 m 993 ls [])) (w : Wd D (lA s) s (wR ct qr MR ++ ([(o, .inl (ct 2, 1, .inr (.inl f)))] ++ wX ct qx MX)) H locs) (hl : lv_has ls 7 [(4, .int i), (3, .ref o), (2, .ref (qr 0)), (1, .ref (qx 0)), (0, .ref b)]) : W p l e room_1 s m #[Value.ref b] below meth c H locs cells slots (lw_Z below #[Value.ref b] s) (F0 m 272 ls []) := by
  have hx := C0.1
  have hb := C0.2.1
  have hbA : ¬ lA s b := fun h => absurd hbl (Nat.not_lt.mpr h)
  refine lv_aload_n hx hb d_L_law_272 rfl (lv_at hl 3 rfl) ?_
  refine lv_aload_n hx hb d_L_law_273 rfl (lv_at hl 4 rfl) ?_
  refine lv_iload hx hb d_L_law_274 (lv_at hl 0 rfl) ?_
  refine lv_iconst (v := 1) hx hb d_L_law_276 (by decide) ?_
  refine lv_iadd hx hb d_L_law_277 ?_
  refine va_sld hx hb hX hbl hbA w.2.2.1 (hj 1 (by decide)) d_L_law_278 ?_
  refine lv_aload_n hx hb d_L_law_279 rfl (lv_at hl 4 rfl) ?_
  refine lv_iload hx hb d_L_law_280 (lv_at hl 0 rfl) ?_
  refine lv_iconst (v := 2) hx hb d_L_law_282 (by decide) ?_
  refine lv_iadd hx hb d_L_law_283 ?_
  refine va_sld hx hb hX hbl hbA w.2.2.1 (hj 2 (by decide)) d_L_law_284 ?_
  obtain ⟨cz, rz, MX1, r2, MR1, hx1, hcz, hy1, hI1, hcm⟩ := (hS MX MR hI).2.2.1 (xs (i + 1).toNatClampNeg) (xs (i + 2).toNatClampNeg)
  have w := w.assoc
  refine S_sh C0 w (rest := []) (h_go l htl D ct qx hx1 hcz) wd_519 wd_517 wd_518 wd_0 (n9 := 3) (by decide +kernel) rfl ⟨(Nat.le_of_ble_eq_true rfl), (Nat.le_of_ble_eq_true rfl)⟩ hl.1 rfl (Nat.le_of_ble_eq_true rfl) d_L_law_285 hcs hss (fun H locs w => ?_)
  refine lv_istore hx hb d_L_law_288 hl (by decide) rfl (fun ls hl => ?_)
  have hl : lv_has ls 7 [(5, .int (kc 1 cz)), (4, .int i), (3, .ref o), (2, .ref (qr 0)), (1, .ref (qx 0)), (0, .ref b)] := hl
  refine lv_aload_n hx hb d_L_law_290 rfl (lv_at hl 3 rfl) ?_
  refine lv_aload_n hx hb d_L_law_291 rfl (lv_at hl 5 rfl) ?_
  refine lv_iload hx hb d_L_law_292 (lv_at hl 1 rfl) ?_
  refine lv_iconst (v := 1) hx hb d_L_law_294 (by decide) ?_
  refine lv_iadd hx hb d_L_law_295 ?_
  refine va_sld hx hb hX hbl hbA w.2.2.1 (hj 1 (by decide)) d_L_law_296 ?_
  refine lv_aload_n hx hb d_L_law_297 rfl (lv_at hl 5 rfl) ?_
  refine lv_iload hx hb d_L_law_298 (lv_at hl 1 rfl) ?_
  refine lv_iconst (v := 2) hx hb d_L_law_300 (by decide) ?_
  refine lv_iadd hx hb d_L_law_301 ?_
  refine va_sld hx hb hX hbl hbA w.2.2.1 (hj 2 (by decide)) d_L_law_302 ?_
  have w := w.assoc'
  have w := w.swap
  refine S_vv C0 w (rest := []) 0 (wU_at (by decide)) rfl (c_R_go l D ct qr hy1) wd_987 wd_984 wd_985 wd_986 wd_8 (n9 := 2) (by decide +kernel) rfl ⟨(Nat.le_of_ble_eq_true rfl), (Nat.le_of_ble_eq_true rfl)⟩ hl.1 rfl (Nat.le_of_ble_eq_true rfl) d_L_law_303 hcs hss (fun H locs w => ?_)
  refine lv_aload_n hx hb d_L_law_306 rfl (lv_at hl 3 rfl) ?_
  refine S_vi C0 w (rest := []) 0 (wU_at (by decide)) rfl (c_R_thrown l D ct qr (show m_R_thrown MR1 = some (MR1 0 0, MR1) from rfl)) wd_955 wd_952 wd_953 wd_954 wd_8 (n9 := 0) (by decide +kernel) rfl ⟨(Nat.le_of_ble_eq_true rfl), (Nat.le_of_ble_eq_true rfl)⟩ hl.1 rfl (Nat.le_of_ble_eq_true rfl) d_L_law_307 hcs hss (fun H locs w => ?_)
  refine lv_iload hx hb d_L_law_310 (lv_at hl 0 rfl) ?_
  refine lv_icmp_eq (tgt := 317) hx hb d_L_law_312 (by decide) (fun hc312 => ?_) (fun hc => absurd ((hcm hcmp).1) hc)
  refine lv_goto (tgt := 993) hx hb d_L_law_317 (by decide) ?_
  have w := w.swap
  exact KK _ _ _ _ _ _ hI1 w (lv_sub hl [1, 2, 3, 4, 5] rfl)
set_option maxHeartbeats 1000000 in
set_option maxRecDepth 20000 in
theorem law_case3 (C0 : Cx p s m #[Value.ref b] c code 7 "NameForgeLaw" D ct) (hX : va_X b L xs s s.heap) (hbl : b < s.heap.size) (hr : meth.sig.returnType = ret) (hlk : meth.locks = false) (htl : l.stackTraces = false) (hS : Steps Inv cmp) (hj : ∀ j : Nat, j < 6 → vp_in (i + Int32.ofNat j) L) (hI : Inv MX MR) (hcs : cells + 1 ≤ room_1.cells) (hss : slots + 6 ≤ room_1.slots) (hcmp : cmp 3) (KK : ∀ (MX MR : Sto) (f : Nat → Int64) (H : Heap) (locs : List Loc) (ls : Array Slot), Inv MX MR → Wd D (lA s) s (wR ct qr MR ++ ([(o, .inl (ct 2, 1, .inr (.inl f)))] ++ wX ct qx MX)) H locs → lv_has ls 7 [(4, .int i), (3, .ref o), (2, .ref (qr 0)), (1, .ref (qx 0)), (0, .ref b)] → W p l e room_1 s m #[Value.ref b] below meth c H locs (cells + 1) (slots + 6) (lw_Z below #[Value.ref b] s) (F0 m 993 ls [])) (w : Wd D (lA s) s (wR ct qr MR ++ ([(o, .inl (ct 2, 1, .inr (.inl f)))] ++ wX ct qx MX)) H locs) (hl : lv_has ls 7 [(4, .int i), (3, .ref o), (2, .ref (qr 0)), (1, .ref (qx 0)), (0, .ref b)]) : W p l e room_1 s m #[Value.ref b] below meth c H locs cells slots (lw_Z below #[Value.ref b] s) (F0 m 320 ls []) := by
  have hx := C0.1
  have hb := C0.2.1
  have hbA : ¬ lA s b := fun h => absurd hbl (Nat.not_lt.mpr h)
  refine lv_aload_n hx hb d_L_law_320 rfl (lv_at hl 3 rfl) ?_
  refine lv_aload_n hx hb d_L_law_321 rfl (lv_at hl 4 rfl) ?_
  refine lv_iload hx hb d_L_law_322 (lv_at hl 0 rfl) ?_
  refine lv_iconst (v := 1) hx hb d_L_law_324 (by decide) ?_
  refine lv_iadd hx hb d_L_law_325 ?_
  refine va_sld hx hb hX hbl hbA w.2.2.1 (hj 1 (by decide)) d_L_law_326 ?_
  refine lv_aload_n hx hb d_L_law_327 rfl (lv_at hl 4 rfl) ?_
  refine lv_iload hx hb d_L_law_328 (lv_at hl 0 rfl) ?_
  refine lv_iconst (v := 2) hx hb d_L_law_330 (by decide) ?_
  refine lv_iadd hx hb d_L_law_331 ?_
  refine va_sld hx hb hX hbl hbA w.2.2.1 (hj 2 (by decide)) d_L_law_332 ?_
  refine lv_aload_n hx hb d_L_law_333 rfl (lv_at hl 4 rfl) ?_
  refine lv_iload hx hb d_L_law_334 (lv_at hl 0 rfl) ?_
  refine lv_iconst (v := 3) hx hb d_L_law_336 (by decide) ?_
  refine lv_iadd hx hb d_L_law_337 ?_
  refine va_sld hx hb hX hbl hbA w.2.2.1 (hj 3 (by decide)) d_L_law_338 ?_
  refine lv_aload_n hx hb d_L_law_339 rfl (lv_at hl 4 rfl) ?_
  refine lv_iload hx hb d_L_law_340 (lv_at hl 0 rfl) ?_
  refine lv_iconst (v := 4) hx hb d_L_law_342 (by decide) ?_
  refine lv_iadd hx hb d_L_law_343 ?_
  refine va_sld hx hb hX hbl hbA w.2.2.1 (hj 4 (by decide)) d_L_law_344 ?_
  obtain ⟨cz, rz, MX1, r2, MR1, hx1, hcz, hy1, hI1, hcm⟩ := (hS MX MR hI).2.2.2.1 (xs (i + 1).toNatClampNeg) (xs (i + 2).toNatClampNeg) (xs (i + 3).toNatClampNeg) (xs (i + 4).toNatClampNeg)
  have w := w.assoc
  refine S_sh C0 w (rest := []) (h_fork l htl D ct qx hx1 hcz) wd_533 wd_531 wd_532 wd_0 (n9 := 5) (by decide +kernel) rfl ⟨(Nat.le_of_ble_eq_true rfl), (Nat.le_of_ble_eq_true rfl)⟩ hl.1 rfl (Nat.le_of_ble_eq_true rfl) d_L_law_345 hcs hss (fun H locs w => ?_)
  refine lv_istore hx hb d_L_law_348 hl (by decide) rfl (fun ls hl => ?_)
  have hl : lv_has ls 7 [(5, .int (kc 1 cz)), (4, .int i), (3, .ref o), (2, .ref (qr 0)), (1, .ref (qx 0)), (0, .ref b)] := hl
  refine lv_aload_n hx hb d_L_law_350 rfl (lv_at hl 3 rfl) ?_
  refine lv_aload_n hx hb d_L_law_351 rfl (lv_at hl 5 rfl) ?_
  refine lv_iload hx hb d_L_law_352 (lv_at hl 1 rfl) ?_
  refine lv_iconst (v := 1) hx hb d_L_law_354 (by decide) ?_
  refine lv_iadd hx hb d_L_law_355 ?_
  refine va_sld hx hb hX hbl hbA w.2.2.1 (hj 1 (by decide)) d_L_law_356 ?_
  refine lv_aload_n hx hb d_L_law_357 rfl (lv_at hl 5 rfl) ?_
  refine lv_iload hx hb d_L_law_358 (lv_at hl 1 rfl) ?_
  refine lv_iconst (v := 2) hx hb d_L_law_360 (by decide) ?_
  refine lv_iadd hx hb d_L_law_361 ?_
  refine va_sld hx hb hX hbl hbA w.2.2.1 (hj 2 (by decide)) d_L_law_362 ?_
  refine lv_aload_n hx hb d_L_law_363 rfl (lv_at hl 5 rfl) ?_
  refine lv_iload hx hb d_L_law_364 (lv_at hl 1 rfl) ?_
  refine lv_iconst (v := 3) hx hb d_L_law_366 (by decide) ?_
  refine lv_iadd hx hb d_L_law_367 ?_
  refine va_sld hx hb hX hbl hbA w.2.2.1 (hj 3 (by decide)) d_L_law_368 ?_
  refine lv_aload_n hx hb d_L_law_369 rfl (lv_at hl 5 rfl) ?_
  refine lv_iload hx hb d_L_law_370 (lv_at hl 1 rfl) ?_
  refine lv_iconst (v := 4) hx hb d_L_law_372 (by decide) ?_
  refine lv_iadd hx hb d_L_law_373 ?_
  refine va_sld hx hb hX hbl hbA w.2.2.1 (hj 4 (by decide)) d_L_law_374 ?_
  have w := w.assoc'
  have w := w.swap
  refine S_vv C0 w (rest := []) 0 (wU_at (by decide)) rfl (c_R_fork l D ct qr hy1) wd_995 wd_992 wd_993 wd_994 wd_8 (n9 := 4) (by decide +kernel) rfl ⟨(Nat.le_of_ble_eq_true rfl), (Nat.le_of_ble_eq_true rfl)⟩ hl.1 rfl (Nat.le_of_ble_eq_true rfl) d_L_law_375 hcs hss (fun H locs w => ?_)
  refine lv_aload_n hx hb d_L_law_378 rfl (lv_at hl 3 rfl) ?_
  refine S_vi C0 w (rest := []) 0 (wU_at (by decide)) rfl (c_R_thrown l D ct qr (show m_R_thrown MR1 = some (MR1 0 0, MR1) from rfl)) wd_955 wd_952 wd_953 wd_954 wd_8 (n9 := 0) (by decide +kernel) rfl ⟨(Nat.le_of_ble_eq_true rfl), (Nat.le_of_ble_eq_true rfl)⟩ hl.1 rfl (Nat.le_of_ble_eq_true rfl) d_L_law_379 hcs hss (fun H locs w => ?_)
  refine lv_iload hx hb d_L_law_382 (lv_at hl 0 rfl) ?_
  refine lv_icmp_eq (tgt := 389) hx hb d_L_law_384 (by decide) (fun hc384 => ?_) (fun hc => absurd ((hcm hcmp).1) hc)
  refine lv_goto (tgt := 993) hx hb d_L_law_389 (by decide) ?_
  have w := w.swap
  exact KK _ _ _ _ _ _ hI1 w (lv_sub hl [1, 2, 3, 4, 5] rfl)
set_option maxHeartbeats 1000000 in
set_option maxRecDepth 20000 in
theorem law_case4 (C0 : Cx p s m #[Value.ref b] c code 7 "NameForgeLaw" D ct) (hX : va_X b L xs s s.heap) (hbl : b < s.heap.size) (hr : meth.sig.returnType = ret) (hlk : meth.locks = false) (htl : l.stackTraces = false) (hS : Steps Inv cmp) (hj : ∀ j : Nat, j < 6 → vp_in (i + Int32.ofNat j) L) (hI : Inv MX MR) (hcs : cells + 1 ≤ room_1.cells) (hss : slots + 6 ≤ room_1.slots) (hcmp : cmp 4) (KK : ∀ (MX MR : Sto) (f : Nat → Int64) (H : Heap) (locs : List Loc) (ls : Array Slot), Inv MX MR → Wd D (lA s) s (wR ct qr MR ++ ([(o, .inl (ct 2, 1, .inr (.inl f)))] ++ wX ct qx MX)) H locs → lv_has ls 7 [(4, .int i), (3, .ref o), (2, .ref (qr 0)), (1, .ref (qx 0)), (0, .ref b)] → W p l e room_1 s m #[Value.ref b] below meth c H locs (cells + 1) (slots + 6) (lw_Z below #[Value.ref b] s) (F0 m 993 ls [])) (w : Wd D (lA s) s (wR ct qr MR ++ ([(o, .inl (ct 2, 1, .inr (.inl f)))] ++ wX ct qx MX)) H locs) (hl : lv_has ls 7 [(4, .int i), (3, .ref o), (2, .ref (qr 0)), (1, .ref (qx 0)), (0, .ref b)]) : W p l e room_1 s m #[Value.ref b] below meth c H locs cells slots (lw_Z below #[Value.ref b] s) (F0 m 392 ls []) := by
  have hx := C0.1
  have hb := C0.2.1
  have hbA : ¬ lA s b := fun h => absurd hbl (Nat.not_lt.mpr h)
  refine lv_aload_n hx hb d_L_law_392 rfl (lv_at hl 3 rfl) ?_
  refine lv_aload_n hx hb d_L_law_393 rfl (lv_at hl 4 rfl) ?_
  refine lv_iload hx hb d_L_law_394 (lv_at hl 0 rfl) ?_
  refine lv_iconst (v := 1) hx hb d_L_law_396 (by decide) ?_
  refine lv_iadd hx hb d_L_law_397 ?_
  refine va_sld hx hb hX hbl hbA w.2.2.1 (hj 1 (by decide)) d_L_law_398 ?_
  obtain ⟨cz, rz, MX1, r2, MR1, hx1, hcz, hy1, hI1, hcm⟩ := (hS MX MR hI).2.2.2.2.1 (xs (i + 1).toNatClampNeg)
  have w := w.assoc
  refine S_sh C0 w (rest := []) (h_stop l htl D ct qx hx1 hcz) wd_541 wd_539 wd_540 wd_0 (n9 := 2) (by decide +kernel) rfl ⟨(Nat.le_of_ble_eq_true rfl), (Nat.le_of_ble_eq_true rfl)⟩ hl.1 rfl (Nat.le_of_ble_eq_true rfl) d_L_law_399 hcs hss (fun H locs w => ?_)
  refine lv_istore hx hb d_L_law_402 hl (by decide) rfl (fun ls hl => ?_)
  have hl : lv_has ls 7 [(5, .int (kc 1 cz)), (4, .int i), (3, .ref o), (2, .ref (qr 0)), (1, .ref (qx 0)), (0, .ref b)] := hl
  refine lv_aload_n hx hb d_L_law_404 rfl (lv_at hl 3 rfl) ?_
  refine lv_aload_n hx hb d_L_law_405 rfl (lv_at hl 5 rfl) ?_
  refine lv_iload hx hb d_L_law_406 (lv_at hl 1 rfl) ?_
  refine lv_iconst (v := 1) hx hb d_L_law_408 (by decide) ?_
  refine lv_iadd hx hb d_L_law_409 ?_
  refine va_sld hx hb hX hbl hbA w.2.2.1 (hj 1 (by decide)) d_L_law_410 ?_
  have w := w.assoc'
  have w := w.swap
  refine S_vv C0 w (rest := []) 0 (wU_at (by decide)) rfl (c_R_stop l D ct qr hy1) wd_999 wd_996 wd_997 wd_998 wd_8 (n9 := 1) (by decide +kernel) rfl ⟨(Nat.le_of_ble_eq_true rfl), (Nat.le_of_ble_eq_true rfl)⟩ hl.1 rfl (Nat.le_of_ble_eq_true rfl) d_L_law_411 hcs hss (fun H locs w => ?_)
  refine lv_aload_n hx hb d_L_law_414 rfl (lv_at hl 3 rfl) ?_
  refine S_vi C0 w (rest := []) 0 (wU_at (by decide)) rfl (c_R_thrown l D ct qr (show m_R_thrown MR1 = some (MR1 0 0, MR1) from rfl)) wd_955 wd_952 wd_953 wd_954 wd_8 (n9 := 0) (by decide +kernel) rfl ⟨(Nat.le_of_ble_eq_true rfl), (Nat.le_of_ble_eq_true rfl)⟩ hl.1 rfl (Nat.le_of_ble_eq_true rfl) d_L_law_415 hcs hss (fun H locs w => ?_)
  refine lv_iload hx hb d_L_law_418 (lv_at hl 0 rfl) ?_
  refine lv_icmp_eq (tgt := 425) hx hb d_L_law_420 (by decide) (fun hc420 => ?_) (fun hc => absurd ((hcm hcmp).1) hc)
  refine lv_goto (tgt := 993) hx hb d_L_law_425 (by decide) ?_
  have w := w.swap
  exact KK _ _ _ _ _ _ hI1 w (lv_sub hl [1, 2, 3, 4, 5] rfl)
set_option maxHeartbeats 1000000 in
set_option maxRecDepth 20000 in
theorem law_case5 (C0 : Cx p s m #[Value.ref b] c code 7 "NameForgeLaw" D ct) (hX : va_X b L xs s s.heap) (hbl : b < s.heap.size) (hr : meth.sig.returnType = ret) (hlk : meth.locks = false) (htl : l.stackTraces = false) (hS : Steps Inv cmp) (hj : ∀ j : Nat, j < 6 → vp_in (i + Int32.ofNat j) L) (hI : Inv MX MR) (hcs : cells + 1 ≤ room_1.cells) (hss : slots + 6 ≤ room_1.slots) (KK : ∀ (MX MR : Sto) (f : Nat → Int64) (H : Heap) (locs : List Loc) (ls : Array Slot), Inv MX MR → Wd D (lA s) s (wR ct qr MR ++ ([(o, .inl (ct 2, 1, .inr (.inl f)))] ++ wX ct qx MX)) H locs → lv_has ls 7 [(4, .int i), (3, .ref o), (2, .ref (qr 0)), (1, .ref (qx 0)), (0, .ref b)] → W p l e room_1 s m #[Value.ref b] below meth c H locs (cells + 1) (slots + 6) (lw_Z below #[Value.ref b] s) (F0 m 993 ls [])) (w : Wd D (lA s) s (wR ct qr MR ++ ([(o, .inl (ct 2, 1, .inr (.inl f)))] ++ wX ct qx MX)) H locs) (hl : lv_has ls 7 [(4, .int i), (3, .ref o), (2, .ref (qr 0)), (1, .ref (qx 0)), (0, .ref b)]) : W p l e room_1 s m #[Value.ref b] below meth c H locs cells slots (lw_Z below #[Value.ref b] s) (F0 m 428 ls []) := by
  have hx := C0.1
  have hb := C0.2.1
  have hbA : ¬ lA s b := fun h => absurd hbl (Nat.not_lt.mpr h)
  refine lv_aload_n hx hb d_L_law_428 rfl (lv_at hl 3 rfl) ?_
  obtain ⟨rz, MX1, r2, MR1, hx1, hy1, hI1, hcm⟩ := (hS MX MR hI).2.2.2.2.2.1
  have w := w.assoc
  refine S_vv C0 w (rest := []) 0 (wU_at (by decide)) rfl (c_N_clear l D ct qx hx1) wd_364 wd_361 wd_362 wd_363 wd_1 (n9 := 0) (by decide +kernel) rfl ⟨(Nat.le_of_ble_eq_true rfl), (Nat.le_of_ble_eq_true rfl)⟩ hl.1 rfl (Nat.le_of_ble_eq_true rfl) d_L_law_429 (by omega) (by omega) (fun H locs w => ?_)
  refine lv_aload_n hx hb d_L_law_432 rfl (lv_at hl 2 rfl) ?_
  have w := w.assoc'
  have w := w.swap
  refine S_vv C0 w (rest := []) 0 (wU_at (by decide)) rfl (c_R_clear l D ct qr hy1) wd_1003 wd_1000 wd_1001 wd_1002 wd_8 (n9 := 0) (by decide +kernel) rfl ⟨(Nat.le_of_ble_eq_true rfl), (Nat.le_of_ble_eq_true rfl)⟩ hl.1 rfl (Nat.le_of_ble_eq_true rfl) d_L_law_433 (by omega) (by omega) (fun H locs w => ?_)
  refine lv_goto (tgt := 993) hx hb d_L_law_436 (by decide) ?_
  have w := w.swap
  refine W.widen (k := cells + 1) (n := slots + 6) (by omega) (by omega) ?_
  exact KK _ _ _ _ _ _ hI1 w (lv_sub hl [0, 1, 2, 3, 4] rfl)
set_option maxHeartbeats 1000000 in
set_option maxRecDepth 20000 in
theorem law_case6 (C0 : Cx p s m #[Value.ref b] c code 7 "NameForgeLaw" D ct) (hX : va_X b L xs s s.heap) (hbl : b < s.heap.size) (hr : meth.sig.returnType = ret) (hlk : meth.locks = false) (htl : l.stackTraces = false) (hS : Steps Inv cmp) (hj : ∀ j : Nat, j < 6 → vp_in (i + Int32.ofNat j) L) (hI : Inv MX MR) (hcs : cells + 1 ≤ room_1.cells) (hss : slots + 6 ≤ room_1.slots) (hcmp : cmp 6) (KK : ∀ (MX MR : Sto) (f : Nat → Int64) (H : Heap) (locs : List Loc) (ls : Array Slot), Inv MX MR → Wd D (lA s) s (wR ct qr MR ++ ([(o, .inl (ct 2, 1, .inr (.inl f)))] ++ wX ct qx MX)) H locs → lv_has ls 7 [(4, .int i), (3, .ref o), (2, .ref (qr 0)), (1, .ref (qx 0)), (0, .ref b)] → W p l e room_1 s m #[Value.ref b] below meth c H locs (cells + 1) (slots + 6) (lw_Z below #[Value.ref b] s) (F0 m 993 ls [])) (w : Wd D (lA s) s (wR ct qr MR ++ ([(o, .inl (ct 2, 1, .inr (.inl f)))] ++ wX ct qx MX)) H locs) (hl : lv_has ls 7 [(4, .int i), (3, .ref o), (2, .ref (qr 0)), (1, .ref (qx 0)), (0, .ref b)]) : W p l e room_1 s m #[Value.ref b] below meth c H locs cells slots (lw_Z below #[Value.ref b] s) (F0 m 439 ls []) := by
  have hx := C0.1
  have hb := C0.2.1
  have hbA : ¬ lA s b := fun h => absurd hbl (Nat.not_lt.mpr h)
  refine lv_aload_n hx hb d_L_law_439 rfl (lv_at hl 3 rfl) ?_
  refine lv_aload_n hx hb d_L_law_440 rfl (lv_at hl 1 rfl) ?_
  obtain ⟨cz, rz, MX1, r2, MR1, hx1, hcz, hy1, hI1, hcm⟩ := (hS MX MR hI).2.2.2.2.2.2.1
  refine S_sh C0 w (rest := []) (h_build l htl D ct qx o f hx1 hcz) wd_549 wd_547 wd_548 wd_0 (n9 := 2) (by decide +kernel) rfl ⟨(Nat.le_of_ble_eq_true rfl), (Nat.le_of_ble_eq_true rfl)⟩ hl.1 rfl (Nat.le_of_ble_eq_true rfl) d_L_law_441 hcs hss (fun H locs w => ?_)
  have w : Wd D (lA s) s (wR ct qr MR ++ ([(o, .inl (ct 2, 1, .inr (.inl (fo cz rz f))))] ++ wX ct qx MX1)) H _ := w
  refine lv_istore hx hb d_L_law_444 hl (by decide) rfl (fun ls hl => ?_)
  have hl : lv_has ls 7 [(5, .int (kc 2 cz)), (4, .int i), (3, .ref o), (2, .ref (qr 0)), (1, .ref (qx 0)), (0, .ref b)] := hl
  refine lv_aload_n hx hb d_L_law_446 rfl (lv_at hl 3 rfl) ?_
  have w := w.swap
  refine S_vi C0 w (rest := []) 0 (wU_at (by decide)) rfl (c_R_build l D ct qr hy1) wd_1007 wd_1004 wd_1005 wd_1006 wd_8 (n9 := 0) (by decide +kernel) rfl ⟨(Nat.le_of_ble_eq_true rfl), (Nat.le_of_ble_eq_true rfl)⟩ hl.1 rfl (Nat.le_of_ble_eq_true rfl) d_L_law_447 hcs hss (fun H locs w => ?_)
  refine lv_istore hx hb d_L_law_450 hl (by decide) rfl (fun ls hl => ?_)
  have hl : lv_has ls 7 [(6, .int r2), (5, .int (kc 2 cz)), (4, .int i), (3, .ref o), (2, .ref (qr 0)), (1, .ref (qx 0)), (0, .ref b)] := hl
  refine lv_aload_n hx hb d_L_law_452 rfl (lv_at hl 4 rfl) ?_
  refine S_vi C0 w (rest := []) 0 (wU_at (by decide)) rfl (c_R_thrown l D ct qr (show m_R_thrown MR1 = some (MR1 0 0, MR1) from rfl)) wd_955 wd_952 wd_953 wd_954 wd_8 (n9 := 0) (by decide +kernel) rfl ⟨(Nat.le_of_ble_eq_true rfl), (Nat.le_of_ble_eq_true rfl)⟩ hl.1 rfl (Nat.le_of_ble_eq_true rfl) d_L_law_453 hcs hss (fun H locs w => ?_)
  refine lv_iload hx hb d_L_law_456 (lv_at hl 1 rfl) ?_
  refine lv_icmp_eq (tgt := 463) hx hb d_L_law_458 (by decide) (fun hc458 => ?_) (fun hc => absurd ((hcm hcmp).1) hc)
  refine lv_iload hx hb d_L_law_463 (lv_at hl 1 rfl) ?_
  refine lv_if_ne (tgt := 480) hx hb d_L_law_465 (by decide) (fun hd465 => ?_) (fun hd465 => ?_)
  · refine lv_goto (tgt := 993) hx hb d_L_law_480 (by decide) ?_
    have w := w.swap
    exact KK _ _ _ _ _ _ hI1 w (lv_sub hl [2, 3, 4, 5, 6] rfl)
  · have hk0 : kc 2 cz = 0 := hd465
    refine lv_aload_n hx hb d_L_law_468 rfl (lv_at hl 3 rfl) ?_
    refine lv_iconst (v := 0) hx hb d_L_law_469 (by decide) ?_
    refine R_lald C0 w 0 rfl (vin (by decide)) d_L_law_470 ?_
    refine lv_iload hx hb d_L_law_471 (lv_at hl 0 rfl) ?_
    refine lv_i2l (v := (r2 : Int32).toInt64) hx hb d_L_law_473 rfl ?_
    refine W.lcmp hx hb d_L_law_474 ?_
    refine lv_if_eq (tgt := 480) hx hb d_L_law_475 (by decide) (fun hc475 => ?_) (fun hc => absurd ?_ hc)
    rotate_left
    · have e0 := kc_zero hk0
      subst e0
      rw [(hcm hcmp).2 rfl, fo_at]
      exact (lg_cmp_eq _ _).mpr rfl
    refine lv_goto (tgt := 993) hx hb d_L_law_480 (by decide) ?_
    have w := w.swap
    exact KK _ _ _ _ _ _ hI1 w (lv_sub hl [2, 3, 4, 5, 6] rfl)
set_option maxHeartbeats 1000000 in
set_option maxRecDepth 20000 in
theorem law_case7 (C0 : Cx p s m #[Value.ref b] c code 7 "NameForgeLaw" D ct) (hX : va_X b L xs s s.heap) (hbl : b < s.heap.size) (hr : meth.sig.returnType = ret) (hlk : meth.locks = false) (htl : l.stackTraces = false) (hS : Steps Inv cmp) (hj : ∀ j : Nat, j < 6 → vp_in (i + Int32.ofNat j) L) (hI : Inv MX MR) (hcs : cells + 1 ≤ room_1.cells) (hss : slots + 6 ≤ room_1.slots) (hcmp : cmp 7) (KK : ∀ (MX MR : Sto) (f : Nat → Int64) (H : Heap) (locs : List Loc) (ls : Array Slot), Inv MX MR → Wd D (lA s) s (wR ct qr MR ++ ([(o, .inl (ct 2, 1, .inr (.inl f)))] ++ wX ct qx MX)) H locs → lv_has ls 7 [(4, .int i), (3, .ref o), (2, .ref (qr 0)), (1, .ref (qx 0)), (0, .ref b)] → W p l e room_1 s m #[Value.ref b] below meth c H locs (cells + 1) (slots + 6) (lw_Z below #[Value.ref b] s) (F0 m 993 ls [])) (w : Wd D (lA s) s (wR ct qr MR ++ ([(o, .inl (ct 2, 1, .inr (.inl f)))] ++ wX ct qx MX)) H locs) (hl : lv_has ls 7 [(4, .int i), (3, .ref o), (2, .ref (qr 0)), (1, .ref (qx 0)), (0, .ref b)]) : W p l e room_1 s m #[Value.ref b] below meth c H locs cells slots (lw_Z below #[Value.ref b] s) (F0 m 483 ls []) := by
  have hx := C0.1
  have hb := C0.2.1
  have hbA : ¬ lA s b := fun h => absurd hbl (Nat.not_lt.mpr h)
  refine lv_aload_n hx hb d_L_law_483 rfl (lv_at hl 3 rfl) ?_
  refine lv_aload_n hx hb d_L_law_484 rfl (lv_at hl 4 rfl) ?_
  refine lv_iload hx hb d_L_law_485 (lv_at hl 0 rfl) ?_
  refine lv_iconst (v := 1) hx hb d_L_law_487 (by decide) ?_
  refine lv_iadd hx hb d_L_law_488 ?_
  refine va_sld hx hb hX hbl hbA w.2.2.1 (hj 1 (by decide)) d_L_law_489 ?_
  refine lv_aload_n hx hb d_L_law_490 rfl (lv_at hl 4 rfl) ?_
  refine lv_iload hx hb d_L_law_491 (lv_at hl 0 rfl) ?_
  refine lv_iconst (v := 2) hx hb d_L_law_493 (by decide) ?_
  refine lv_iadd hx hb d_L_law_494 ?_
  refine va_sld hx hb hX hbl hbA w.2.2.1 (hj 2 (by decide)) d_L_law_495 ?_
  refine lv_aload_n hx hb d_L_law_496 rfl (lv_at hl 1 rfl) ?_
  obtain ⟨cz, rz, MX1, r2, MR1, hx1, hcz, hy1, hI1, hcm⟩ := (hS MX MR hI).2.2.2.2.2.2.2.1 (xs (i + 1).toNatClampNeg) (xs (i + 2).toNatClampNeg)
  refine S_sh C0 w (rest := []) (h_look l htl D ct qx o f hx1 hcz) wd_690 wd_688 wd_689 wd_0 (n9 := 4) (by decide +kernel) rfl ⟨(Nat.le_of_ble_eq_true rfl), (Nat.le_of_ble_eq_true rfl)⟩ hl.1 rfl (Nat.le_of_ble_eq_true rfl) d_L_law_497 hcs hss (fun H locs w => ?_)
  have w : Wd D (lA s) s (wR ct qr MR ++ ([(o, .inl (ct 2, 1, .inr (.inl (fo cz rz f))))] ++ wX ct qx MX1)) H _ := w
  refine lv_istore hx hb d_L_law_500 hl (by decide) rfl (fun ls hl => ?_)
  have hl : lv_has ls 7 [(5, .int (kc 3 cz)), (4, .int i), (3, .ref o), (2, .ref (qr 0)), (1, .ref (qx 0)), (0, .ref b)] := hl
  refine lv_aload_n hx hb d_L_law_502 rfl (lv_at hl 3 rfl) ?_
  refine lv_aload_n hx hb d_L_law_503 rfl (lv_at hl 5 rfl) ?_
  refine lv_iload hx hb d_L_law_504 (lv_at hl 1 rfl) ?_
  refine lv_iconst (v := 1) hx hb d_L_law_506 (by decide) ?_
  refine lv_iadd hx hb d_L_law_507 ?_
  refine va_sld hx hb hX hbl hbA w.2.2.1 (hj 1 (by decide)) d_L_law_508 ?_
  refine lv_aload_n hx hb d_L_law_509 rfl (lv_at hl 5 rfl) ?_
  refine lv_iload hx hb d_L_law_510 (lv_at hl 1 rfl) ?_
  refine lv_iconst (v := 2) hx hb d_L_law_512 (by decide) ?_
  refine lv_iadd hx hb d_L_law_513 ?_
  refine va_sld hx hb hX hbl hbA w.2.2.1 (hj 2 (by decide)) d_L_law_514 ?_
  have w := w.swap
  refine S_vi C0 w (rest := []) 0 (wU_at (by decide)) rfl (c_R_look l D ct qr hy1) wd_1093 wd_1090 wd_1091 wd_1092 wd_8 (n9 := 2) (by decide +kernel) rfl ⟨(Nat.le_of_ble_eq_true rfl), (Nat.le_of_ble_eq_true rfl)⟩ hl.1 rfl (Nat.le_of_ble_eq_true rfl) d_L_law_515 hcs hss (fun H locs w => ?_)
  refine lv_istore hx hb d_L_law_518 hl (by decide) rfl (fun ls hl => ?_)
  have hl : lv_has ls 7 [(6, .int r2), (5, .int (kc 3 cz)), (4, .int i), (3, .ref o), (2, .ref (qr 0)), (1, .ref (qx 0)), (0, .ref b)] := hl
  refine lv_aload_n hx hb d_L_law_520 rfl (lv_at hl 4 rfl) ?_
  refine S_vi C0 w (rest := []) 0 (wU_at (by decide)) rfl (c_R_thrown l D ct qr (show m_R_thrown MR1 = some (MR1 0 0, MR1) from rfl)) wd_955 wd_952 wd_953 wd_954 wd_8 (n9 := 0) (by decide +kernel) rfl ⟨(Nat.le_of_ble_eq_true rfl), (Nat.le_of_ble_eq_true rfl)⟩ hl.1 rfl (Nat.le_of_ble_eq_true rfl) d_L_law_521 hcs hss (fun H locs w => ?_)
  refine lv_iload hx hb d_L_law_524 (lv_at hl 1 rfl) ?_
  refine lv_icmp_eq (tgt := 531) hx hb d_L_law_526 (by decide) (fun hc526 => ?_) (fun hc => absurd ((hcm hcmp).1) hc)
  refine lv_iload hx hb d_L_law_531 (lv_at hl 1 rfl) ?_
  refine lv_if_ne (tgt := 548) hx hb d_L_law_533 (by decide) (fun hd533 => ?_) (fun hd533 => ?_)
  · refine lv_goto (tgt := 993) hx hb d_L_law_548 (by decide) ?_
    have w := w.swap
    exact KK _ _ _ _ _ _ hI1 w (lv_sub hl [2, 3, 4, 5, 6] rfl)
  · have hk0 : kc 3 cz = 0 := hd533
    refine lv_aload_n hx hb d_L_law_536 rfl (lv_at hl 3 rfl) ?_
    refine lv_iconst (v := 0) hx hb d_L_law_537 (by decide) ?_
    refine R_lald C0 w 0 rfl (vin (by decide)) d_L_law_538 ?_
    refine lv_iload hx hb d_L_law_539 (lv_at hl 0 rfl) ?_
    refine lv_i2l (v := (r2 : Int32).toInt64) hx hb d_L_law_541 rfl ?_
    refine W.lcmp hx hb d_L_law_542 ?_
    refine lv_if_eq (tgt := 548) hx hb d_L_law_543 (by decide) (fun hc543 => ?_) (fun hc => absurd ?_ hc)
    rotate_left
    · have e0 := kc_zero hk0
      subst e0
      rw [(hcm hcmp).2 rfl, fo_at]
      exact (lg_cmp_eq _ _).mpr rfl
    refine lv_goto (tgt := 993) hx hb d_L_law_548 (by decide) ?_
    have w := w.swap
    exact KK _ _ _ _ _ _ hI1 w (lv_sub hl [2, 3, 4, 5, 6] rfl)
set_option maxHeartbeats 1000000 in
set_option maxRecDepth 20000 in
theorem law_case8 (C0 : Cx p s m #[Value.ref b] c code 7 "NameForgeLaw" D ct) (hX : va_X b L xs s s.heap) (hbl : b < s.heap.size) (hr : meth.sig.returnType = ret) (hlk : meth.locks = false) (htl : l.stackTraces = false) (hS : Steps Inv cmp) (hj : ∀ j : Nat, j < 6 → vp_in (i + Int32.ofNat j) L) (hI : Inv MX MR) (hcs : cells + 1 ≤ room_1.cells) (hss : slots + 6 ≤ room_1.slots) (hcmp : cmp 8) (KK : ∀ (MX MR : Sto) (f : Nat → Int64) (H : Heap) (locs : List Loc) (ls : Array Slot), Inv MX MR → Wd D (lA s) s (wR ct qr MR ++ ([(o, .inl (ct 2, 1, .inr (.inl f)))] ++ wX ct qx MX)) H locs → lv_has ls 7 [(4, .int i), (3, .ref o), (2, .ref (qr 0)), (1, .ref (qx 0)), (0, .ref b)] → W p l e room_1 s m #[Value.ref b] below meth c H locs (cells + 1) (slots + 6) (lw_Z below #[Value.ref b] s) (F0 m 993 ls [])) (w : Wd D (lA s) s (wR ct qr MR ++ ([(o, .inl (ct 2, 1, .inr (.inl f)))] ++ wX ct qx MX)) H locs) (hl : lv_has ls 7 [(4, .int i), (3, .ref o), (2, .ref (qr 0)), (1, .ref (qx 0)), (0, .ref b)]) : W p l e room_1 s m #[Value.ref b] below meth c H locs cells slots (lw_Z below #[Value.ref b] s) (F0 m 551 ls []) := by
  have hx := C0.1
  have hb := C0.2.1
  have hbA : ¬ lA s b := fun h => absurd hbl (Nat.not_lt.mpr h)
  refine lv_aload_n hx hb d_L_law_551 rfl (lv_at hl 3 rfl) ?_
  refine lv_aload_n hx hb d_L_law_552 rfl (lv_at hl 4 rfl) ?_
  refine lv_iload hx hb d_L_law_553 (lv_at hl 0 rfl) ?_
  refine lv_iconst (v := 1) hx hb d_L_law_555 (by decide) ?_
  refine lv_iadd hx hb d_L_law_556 ?_
  refine va_sld hx hb hX hbl hbA w.2.2.1 (hj 1 (by decide)) d_L_law_557 ?_
  refine lv_aload_n hx hb d_L_law_558 rfl (lv_at hl 4 rfl) ?_
  refine lv_iload hx hb d_L_law_559 (lv_at hl 0 rfl) ?_
  refine lv_iconst (v := 2) hx hb d_L_law_561 (by decide) ?_
  refine lv_iadd hx hb d_L_law_562 ?_
  refine va_sld hx hb hX hbl hbA w.2.2.1 (hj 2 (by decide)) d_L_law_563 ?_
  refine lv_aload_n hx hb d_L_law_564 rfl (lv_at hl 4 rfl) ?_
  refine lv_iload hx hb d_L_law_565 (lv_at hl 0 rfl) ?_
  refine lv_iconst (v := 3) hx hb d_L_law_567 (by decide) ?_
  refine lv_iadd hx hb d_L_law_568 ?_
  refine va_sld hx hb hX hbl hbA w.2.2.1 (hj 3 (by decide)) d_L_law_569 ?_
  refine lv_aload_n hx hb d_L_law_570 rfl (lv_at hl 1 rfl) ?_
  obtain ⟨cz, rz, MX1, r2, MR1, hx1, hcz, hy1, hI1, hcm⟩ := (hS MX MR hI).2.2.2.2.2.2.2.2.1 (xs (i + 1).toNatClampNeg) (xs (i + 2).toNatClampNeg) (xs (i + 3).toNatClampNeg)
  refine S_sh C0 w (rest := []) (h_phi l htl D ct qx o f hx1 hcz) wd_722 wd_720 wd_721 wd_0 (n9 := 5) (by decide +kernel) rfl ⟨(Nat.le_of_ble_eq_true rfl), (Nat.le_of_ble_eq_true rfl)⟩ hl.1 rfl (Nat.le_of_ble_eq_true rfl) d_L_law_571 hcs hss (fun H locs w => ?_)
  have w : Wd D (lA s) s (wR ct qr MR ++ ([(o, .inl (ct 2, 1, .inr (.inl (fo cz rz f))))] ++ wX ct qx MX1)) H _ := w
  refine lv_istore hx hb d_L_law_574 hl (by decide) rfl (fun ls hl => ?_)
  have hl : lv_has ls 7 [(5, .int (kc 3 cz)), (4, .int i), (3, .ref o), (2, .ref (qr 0)), (1, .ref (qx 0)), (0, .ref b)] := hl
  refine lv_aload_n hx hb d_L_law_576 rfl (lv_at hl 3 rfl) ?_
  refine lv_aload_n hx hb d_L_law_577 rfl (lv_at hl 5 rfl) ?_
  refine lv_iload hx hb d_L_law_578 (lv_at hl 1 rfl) ?_
  refine lv_iconst (v := 1) hx hb d_L_law_580 (by decide) ?_
  refine lv_iadd hx hb d_L_law_581 ?_
  refine va_sld hx hb hX hbl hbA w.2.2.1 (hj 1 (by decide)) d_L_law_582 ?_
  refine lv_aload_n hx hb d_L_law_583 rfl (lv_at hl 5 rfl) ?_
  refine lv_iload hx hb d_L_law_584 (lv_at hl 1 rfl) ?_
  refine lv_iconst (v := 2) hx hb d_L_law_586 (by decide) ?_
  refine lv_iadd hx hb d_L_law_587 ?_
  refine va_sld hx hb hX hbl hbA w.2.2.1 (hj 2 (by decide)) d_L_law_588 ?_
  refine lv_aload_n hx hb d_L_law_589 rfl (lv_at hl 5 rfl) ?_
  refine lv_iload hx hb d_L_law_590 (lv_at hl 1 rfl) ?_
  refine lv_iconst (v := 3) hx hb d_L_law_592 (by decide) ?_
  refine lv_iadd hx hb d_L_law_593 ?_
  refine va_sld hx hb hX hbl hbA w.2.2.1 (hj 3 (by decide)) d_L_law_594 ?_
  have w := w.swap
  refine S_vi C0 w (rest := []) 0 (wU_at (by decide)) rfl (c_R_phi l D ct qr hy1) wd_1097 wd_1094 wd_1095 wd_1096 wd_8 (n9 := 3) (by decide +kernel) rfl ⟨(Nat.le_of_ble_eq_true rfl), (Nat.le_of_ble_eq_true rfl)⟩ hl.1 rfl (Nat.le_of_ble_eq_true rfl) d_L_law_595 hcs hss (fun H locs w => ?_)
  refine lv_istore hx hb d_L_law_598 hl (by decide) rfl (fun ls hl => ?_)
  have hl : lv_has ls 7 [(6, .int r2), (5, .int (kc 3 cz)), (4, .int i), (3, .ref o), (2, .ref (qr 0)), (1, .ref (qx 0)), (0, .ref b)] := hl
  refine lv_aload_n hx hb d_L_law_600 rfl (lv_at hl 4 rfl) ?_
  refine S_vi C0 w (rest := []) 0 (wU_at (by decide)) rfl (c_R_thrown l D ct qr (show m_R_thrown MR1 = some (MR1 0 0, MR1) from rfl)) wd_955 wd_952 wd_953 wd_954 wd_8 (n9 := 0) (by decide +kernel) rfl ⟨(Nat.le_of_ble_eq_true rfl), (Nat.le_of_ble_eq_true rfl)⟩ hl.1 rfl (Nat.le_of_ble_eq_true rfl) d_L_law_601 hcs hss (fun H locs w => ?_)
  refine lv_iload hx hb d_L_law_604 (lv_at hl 1 rfl) ?_
  refine lv_icmp_eq (tgt := 611) hx hb d_L_law_606 (by decide) (fun hc606 => ?_) (fun hc => absurd ((hcm hcmp).1) hc)
  refine lv_iload hx hb d_L_law_611 (lv_at hl 1 rfl) ?_
  refine lv_if_ne (tgt := 628) hx hb d_L_law_613 (by decide) (fun hd613 => ?_) (fun hd613 => ?_)
  · refine lv_goto (tgt := 993) hx hb d_L_law_628 (by decide) ?_
    have w := w.swap
    exact KK _ _ _ _ _ _ hI1 w (lv_sub hl [2, 3, 4, 5, 6] rfl)
  · have hk0 : kc 3 cz = 0 := hd613
    refine lv_aload_n hx hb d_L_law_616 rfl (lv_at hl 3 rfl) ?_
    refine lv_iconst (v := 0) hx hb d_L_law_617 (by decide) ?_
    refine R_lald C0 w 0 rfl (vin (by decide)) d_L_law_618 ?_
    refine lv_iload hx hb d_L_law_619 (lv_at hl 0 rfl) ?_
    refine lv_i2l (v := (r2 : Int32).toInt64) hx hb d_L_law_621 rfl ?_
    refine W.lcmp hx hb d_L_law_622 ?_
    refine lv_if_eq (tgt := 628) hx hb d_L_law_623 (by decide) (fun hc623 => ?_) (fun hc => absurd ?_ hc)
    rotate_left
    · have e0 := kc_zero hk0
      subst e0
      rw [(hcm hcmp).2 rfl, fo_at]
      exact (lg_cmp_eq _ _).mpr rfl
    refine lv_goto (tgt := 993) hx hb d_L_law_628 (by decide) ?_
    have w := w.swap
    exact KK _ _ _ _ _ _ hI1 w (lv_sub hl [2, 3, 4, 5, 6] rfl)
set_option maxHeartbeats 1000000 in
set_option maxRecDepth 20000 in
theorem law_case9 (C0 : Cx p s m #[Value.ref b] c code 7 "NameForgeLaw" D ct) (hX : va_X b L xs s s.heap) (hbl : b < s.heap.size) (hr : meth.sig.returnType = ret) (hlk : meth.locks = false) (htl : l.stackTraces = false) (hS : Steps Inv cmp) (hj : ∀ j : Nat, j < 6 → vp_in (i + Int32.ofNat j) L) (hI : Inv MX MR) (hcs : cells + 1 ≤ room_1.cells) (hss : slots + 6 ≤ room_1.slots) (hcmp : cmp 9) (KK : ∀ (MX MR : Sto) (f : Nat → Int64) (H : Heap) (locs : List Loc) (ls : Array Slot), Inv MX MR → Wd D (lA s) s (wR ct qr MR ++ ([(o, .inl (ct 2, 1, .inr (.inl f)))] ++ wX ct qx MX)) H locs → lv_has ls 7 [(4, .int i), (3, .ref o), (2, .ref (qr 0)), (1, .ref (qx 0)), (0, .ref b)] → W p l e room_1 s m #[Value.ref b] below meth c H locs (cells + 1) (slots + 6) (lw_Z below #[Value.ref b] s) (F0 m 993 ls [])) (w : Wd D (lA s) s (wR ct qr MR ++ ([(o, .inl (ct 2, 1, .inr (.inl f)))] ++ wX ct qx MX)) H locs) (hl : lv_has ls 7 [(4, .int i), (3, .ref o), (2, .ref (qr 0)), (1, .ref (qx 0)), (0, .ref b)]) : W p l e room_1 s m #[Value.ref b] below meth c H locs cells slots (lw_Z below #[Value.ref b] s) (F0 m 631 ls []) := by
  have hx := C0.1
  have hb := C0.2.1
  have hbA : ¬ lA s b := fun h => absurd hbl (Nat.not_lt.mpr h)
  refine lv_aload_n hx hb d_L_law_631 rfl (lv_at hl 3 rfl) ?_
  refine lv_aload_n hx hb d_L_law_632 rfl (lv_at hl 4 rfl) ?_
  refine lv_iload hx hb d_L_law_633 (lv_at hl 0 rfl) ?_
  refine lv_iconst (v := 1) hx hb d_L_law_635 (by decide) ?_
  refine lv_iadd hx hb d_L_law_636 ?_
  refine va_sld hx hb hX hbl hbA w.2.2.1 (hj 1 (by decide)) d_L_law_637 ?_
  refine lv_aload_n hx hb d_L_law_638 rfl (lv_at hl 4 rfl) ?_
  refine lv_iload hx hb d_L_law_639 (lv_at hl 0 rfl) ?_
  refine lv_iconst (v := 2) hx hb d_L_law_641 (by decide) ?_
  refine lv_iadd hx hb d_L_law_642 ?_
  refine va_sld hx hb hX hbl hbA w.2.2.1 (hj 2 (by decide)) d_L_law_643 ?_
  refine lv_aload_n hx hb d_L_law_644 rfl (lv_at hl 4 rfl) ?_
  refine lv_iload hx hb d_L_law_645 (lv_at hl 0 rfl) ?_
  refine lv_iconst (v := 3) hx hb d_L_law_647 (by decide) ?_
  refine lv_iadd hx hb d_L_law_648 ?_
  refine va_sld hx hb hX hbl hbA w.2.2.1 (hj 3 (by decide)) d_L_law_649 ?_
  refine lv_aload_n hx hb d_L_law_650 rfl (lv_at hl 1 rfl) ?_
  obtain ⟨cz, rz, MX1, r2, MR1, hx1, hcz, hy1, hI1, hcm⟩ := (hS MX MR hI).2.2.2.2.2.2.2.2.2.1 (xs (i + 1).toNatClampNeg) (xs (i + 2).toNatClampNeg) (xs (i + 3).toNatClampNeg)
  refine S_sh C0 w (rest := []) (h_uses l htl D ct qx o f hx1 hcz) wd_738 wd_736 wd_737 wd_0 (n9 := 5) (by decide +kernel) rfl ⟨(Nat.le_of_ble_eq_true rfl), (Nat.le_of_ble_eq_true rfl)⟩ hl.1 rfl (Nat.le_of_ble_eq_true rfl) d_L_law_651 hcs hss (fun H locs w => ?_)
  have w : Wd D (lA s) s (wR ct qr MR ++ ([(o, .inl (ct 2, 1, .inr (.inl (fo cz rz f))))] ++ wX ct qx MX1)) H _ := w
  refine lv_istore hx hb d_L_law_654 hl (by decide) rfl (fun ls hl => ?_)
  have hl : lv_has ls 7 [(5, .int (kc 3 cz)), (4, .int i), (3, .ref o), (2, .ref (qr 0)), (1, .ref (qx 0)), (0, .ref b)] := hl
  refine lv_aload_n hx hb d_L_law_656 rfl (lv_at hl 3 rfl) ?_
  refine lv_aload_n hx hb d_L_law_657 rfl (lv_at hl 5 rfl) ?_
  refine lv_iload hx hb d_L_law_658 (lv_at hl 1 rfl) ?_
  refine lv_iconst (v := 1) hx hb d_L_law_660 (by decide) ?_
  refine lv_iadd hx hb d_L_law_661 ?_
  refine va_sld hx hb hX hbl hbA w.2.2.1 (hj 1 (by decide)) d_L_law_662 ?_
  refine lv_aload_n hx hb d_L_law_663 rfl (lv_at hl 5 rfl) ?_
  refine lv_iload hx hb d_L_law_664 (lv_at hl 1 rfl) ?_
  refine lv_iconst (v := 2) hx hb d_L_law_666 (by decide) ?_
  refine lv_iadd hx hb d_L_law_667 ?_
  refine va_sld hx hb hX hbl hbA w.2.2.1 (hj 2 (by decide)) d_L_law_668 ?_
  refine lv_aload_n hx hb d_L_law_669 rfl (lv_at hl 5 rfl) ?_
  refine lv_iload hx hb d_L_law_670 (lv_at hl 1 rfl) ?_
  refine lv_iconst (v := 3) hx hb d_L_law_672 (by decide) ?_
  refine lv_iadd hx hb d_L_law_673 ?_
  refine va_sld hx hb hX hbl hbA w.2.2.1 (hj 3 (by decide)) d_L_law_674 ?_
  have w := w.swap
  refine S_vi C0 w (rest := []) 0 (wU_at (by decide)) rfl (c_R_uses l D ct qr hy1) wd_1105 wd_1102 wd_1103 wd_1104 wd_8 (n9 := 3) (by decide +kernel) rfl ⟨(Nat.le_of_ble_eq_true rfl), (Nat.le_of_ble_eq_true rfl)⟩ hl.1 rfl (Nat.le_of_ble_eq_true rfl) d_L_law_675 hcs hss (fun H locs w => ?_)
  refine lv_istore hx hb d_L_law_678 hl (by decide) rfl (fun ls hl => ?_)
  have hl : lv_has ls 7 [(6, .int r2), (5, .int (kc 3 cz)), (4, .int i), (3, .ref o), (2, .ref (qr 0)), (1, .ref (qx 0)), (0, .ref b)] := hl
  refine lv_aload_n hx hb d_L_law_680 rfl (lv_at hl 4 rfl) ?_
  refine S_vi C0 w (rest := []) 0 (wU_at (by decide)) rfl (c_R_thrown l D ct qr (show m_R_thrown MR1 = some (MR1 0 0, MR1) from rfl)) wd_955 wd_952 wd_953 wd_954 wd_8 (n9 := 0) (by decide +kernel) rfl ⟨(Nat.le_of_ble_eq_true rfl), (Nat.le_of_ble_eq_true rfl)⟩ hl.1 rfl (Nat.le_of_ble_eq_true rfl) d_L_law_681 hcs hss (fun H locs w => ?_)
  refine lv_iload hx hb d_L_law_684 (lv_at hl 1 rfl) ?_
  refine lv_icmp_eq (tgt := 691) hx hb d_L_law_686 (by decide) (fun hc686 => ?_) (fun hc => absurd ((hcm hcmp).1) hc)
  refine lv_iload hx hb d_L_law_691 (lv_at hl 1 rfl) ?_
  refine lv_if_ne (tgt := 708) hx hb d_L_law_693 (by decide) (fun hd693 => ?_) (fun hd693 => ?_)
  · refine lv_goto (tgt := 993) hx hb d_L_law_708 (by decide) ?_
    have w := w.swap
    exact KK _ _ _ _ _ _ hI1 w (lv_sub hl [2, 3, 4, 5, 6] rfl)
  · have hk0 : kc 3 cz = 0 := hd693
    refine lv_aload_n hx hb d_L_law_696 rfl (lv_at hl 3 rfl) ?_
    refine lv_iconst (v := 0) hx hb d_L_law_697 (by decide) ?_
    refine R_lald C0 w 0 rfl (vin (by decide)) d_L_law_698 ?_
    refine lv_iload hx hb d_L_law_699 (lv_at hl 0 rfl) ?_
    refine lv_i2l (v := (r2 : Int32).toInt64) hx hb d_L_law_701 rfl ?_
    refine W.lcmp hx hb d_L_law_702 ?_
    refine lv_if_eq (tgt := 708) hx hb d_L_law_703 (by decide) (fun hc703 => ?_) (fun hc => absurd ?_ hc)
    rotate_left
    · have e0 := kc_zero hk0
      subst e0
      rw [(hcm hcmp).2 rfl, fo_at]
      exact (lg_cmp_eq _ _).mpr rfl
    refine lv_goto (tgt := 993) hx hb d_L_law_708 (by decide) ?_
    have w := w.swap
    exact KK _ _ _ _ _ _ hI1 w (lv_sub hl [2, 3, 4, 5, 6] rfl)
set_option maxHeartbeats 1000000 in
set_option maxRecDepth 20000 in
theorem law_case10 (C0 : Cx p s m #[Value.ref b] c code 7 "NameForgeLaw" D ct) (hX : va_X b L xs s s.heap) (hbl : b < s.heap.size) (hr : meth.sig.returnType = ret) (hlk : meth.locks = false) (htl : l.stackTraces = false) (hS : Steps Inv cmp) (hj : ∀ j : Nat, j < 6 → vp_in (i + Int32.ofNat j) L) (hI : Inv MX MR) (hcs : cells + 1 ≤ room_1.cells) (hss : slots + 6 ≤ room_1.slots) (hcmp : cmp 10) (KK : ∀ (MX MR : Sto) (f : Nat → Int64) (H : Heap) (locs : List Loc) (ls : Array Slot), Inv MX MR → Wd D (lA s) s (wR ct qr MR ++ ([(o, .inl (ct 2, 1, .inr (.inl f)))] ++ wX ct qx MX)) H locs → lv_has ls 7 [(4, .int i), (3, .ref o), (2, .ref (qr 0)), (1, .ref (qx 0)), (0, .ref b)] → W p l e room_1 s m #[Value.ref b] below meth c H locs (cells + 1) (slots + 6) (lw_Z below #[Value.ref b] s) (F0 m 993 ls [])) (w : Wd D (lA s) s (wR ct qr MR ++ ([(o, .inl (ct 2, 1, .inr (.inl f)))] ++ wX ct qx MX)) H locs) (hl : lv_has ls 7 [(4, .int i), (3, .ref o), (2, .ref (qr 0)), (1, .ref (qx 0)), (0, .ref b)]) : W p l e room_1 s m #[Value.ref b] below meth c H locs cells slots (lw_Z below #[Value.ref b] s) (F0 m 711 ls []) := by
  have hx := C0.1
  have hb := C0.2.1
  have hbA : ¬ lA s b := fun h => absurd hbl (Nat.not_lt.mpr h)
  refine lv_aload_n hx hb d_L_law_711 rfl (lv_at hl 3 rfl) ?_
  refine lv_aload_n hx hb d_L_law_712 rfl (lv_at hl 4 rfl) ?_
  refine lv_iload hx hb d_L_law_713 (lv_at hl 0 rfl) ?_
  refine lv_iconst (v := 1) hx hb d_L_law_715 (by decide) ?_
  refine lv_iadd hx hb d_L_law_716 ?_
  refine va_sld hx hb hX hbl hbA w.2.2.1 (hj 1 (by decide)) d_L_law_717 ?_
  refine lv_aload_n hx hb d_L_law_718 rfl (lv_at hl 4 rfl) ?_
  refine lv_iload hx hb d_L_law_719 (lv_at hl 0 rfl) ?_
  refine lv_iconst (v := 2) hx hb d_L_law_721 (by decide) ?_
  refine lv_iadd hx hb d_L_law_722 ?_
  refine va_sld hx hb hX hbl hbA w.2.2.1 (hj 2 (by decide)) d_L_law_723 ?_
  refine lv_aload_n hx hb d_L_law_724 rfl (lv_at hl 1 rfl) ?_
  obtain ⟨cz, rz, MX1, r2, MR1, hx1, hcz, hy1, hI1, hcm⟩ := (hS MX MR hI).2.2.2.2.2.2.2.2.2.2.1 (xs (i + 1).toNatClampNeg) (xs (i + 2).toNatClampNeg)
  refine S_sh C0 w (rest := []) (h_name l htl D ct qx o f hx1 hcz) wd_750 wd_748 wd_749 wd_0 (n9 := 4) (by decide +kernel) rfl ⟨(Nat.le_of_ble_eq_true rfl), (Nat.le_of_ble_eq_true rfl)⟩ hl.1 rfl (Nat.le_of_ble_eq_true rfl) d_L_law_725 hcs hss (fun H locs w => ?_)
  have w : Wd D (lA s) s (wR ct qr MR ++ ([(o, .inl (ct 2, 1, .inr (.inl (fo cz rz f))))] ++ wX ct qx MX1)) H _ := w
  refine lv_istore hx hb d_L_law_728 hl (by decide) rfl (fun ls hl => ?_)
  have hl : lv_has ls 7 [(5, .int (kc 3 cz)), (4, .int i), (3, .ref o), (2, .ref (qr 0)), (1, .ref (qx 0)), (0, .ref b)] := hl
  refine lv_aload_n hx hb d_L_law_730 rfl (lv_at hl 3 rfl) ?_
  refine lv_aload_n hx hb d_L_law_731 rfl (lv_at hl 5 rfl) ?_
  refine lv_iload hx hb d_L_law_732 (lv_at hl 1 rfl) ?_
  refine lv_iconst (v := 1) hx hb d_L_law_734 (by decide) ?_
  refine lv_iadd hx hb d_L_law_735 ?_
  refine va_sld hx hb hX hbl hbA w.2.2.1 (hj 1 (by decide)) d_L_law_736 ?_
  refine lv_aload_n hx hb d_L_law_737 rfl (lv_at hl 5 rfl) ?_
  refine lv_iload hx hb d_L_law_738 (lv_at hl 1 rfl) ?_
  refine lv_iconst (v := 2) hx hb d_L_law_740 (by decide) ?_
  refine lv_iadd hx hb d_L_law_741 ?_
  refine va_sld hx hb hX hbl hbA w.2.2.1 (hj 2 (by decide)) d_L_law_742 ?_
  have w := w.swap
  refine S_vi C0 w (rest := []) 0 (wU_at (by decide)) rfl (c_R_name l D ct qr hy1) wd_1109 wd_1106 wd_1107 wd_1108 wd_8 (n9 := 2) (by decide +kernel) rfl ⟨(Nat.le_of_ble_eq_true rfl), (Nat.le_of_ble_eq_true rfl)⟩ hl.1 rfl (Nat.le_of_ble_eq_true rfl) d_L_law_743 hcs hss (fun H locs w => ?_)
  refine lv_istore hx hb d_L_law_746 hl (by decide) rfl (fun ls hl => ?_)
  have hl : lv_has ls 7 [(6, .int r2), (5, .int (kc 3 cz)), (4, .int i), (3, .ref o), (2, .ref (qr 0)), (1, .ref (qx 0)), (0, .ref b)] := hl
  refine lv_aload_n hx hb d_L_law_748 rfl (lv_at hl 4 rfl) ?_
  refine S_vi C0 w (rest := []) 0 (wU_at (by decide)) rfl (c_R_thrown l D ct qr (show m_R_thrown MR1 = some (MR1 0 0, MR1) from rfl)) wd_955 wd_952 wd_953 wd_954 wd_8 (n9 := 0) (by decide +kernel) rfl ⟨(Nat.le_of_ble_eq_true rfl), (Nat.le_of_ble_eq_true rfl)⟩ hl.1 rfl (Nat.le_of_ble_eq_true rfl) d_L_law_749 hcs hss (fun H locs w => ?_)
  refine lv_iload hx hb d_L_law_752 (lv_at hl 1 rfl) ?_
  refine lv_icmp_eq (tgt := 759) hx hb d_L_law_754 (by decide) (fun hc754 => ?_) (fun hc => absurd ((hcm hcmp).1) hc)
  refine lv_iload hx hb d_L_law_759 (lv_at hl 1 rfl) ?_
  refine lv_if_ne (tgt := 776) hx hb d_L_law_761 (by decide) (fun hd761 => ?_) (fun hd761 => ?_)
  · refine lv_goto (tgt := 993) hx hb d_L_law_776 (by decide) ?_
    have w := w.swap
    exact KK _ _ _ _ _ _ hI1 w (lv_sub hl [2, 3, 4, 5, 6] rfl)
  · have hk0 : kc 3 cz = 0 := hd761
    refine lv_aload_n hx hb d_L_law_764 rfl (lv_at hl 3 rfl) ?_
    refine lv_iconst (v := 0) hx hb d_L_law_765 (by decide) ?_
    refine R_lald C0 w 0 rfl (vin (by decide)) d_L_law_766 ?_
    refine lv_iload hx hb d_L_law_767 (lv_at hl 0 rfl) ?_
    refine lv_i2l (v := (r2 : Int32).toInt64) hx hb d_L_law_769 rfl ?_
    refine W.lcmp hx hb d_L_law_770 ?_
    refine lv_if_eq (tgt := 776) hx hb d_L_law_771 (by decide) (fun hc771 => ?_) (fun hc => absurd ?_ hc)
    rotate_left
    · have e0 := kc_zero hk0
      subst e0
      rw [(hcm hcmp).2 rfl, fo_at]
      exact (lg_cmp_eq _ _).mpr rfl
    refine lv_goto (tgt := 993) hx hb d_L_law_776 (by decide) ?_
    have w := w.swap
    exact KK _ _ _ _ _ _ hI1 w (lv_sub hl [2, 3, 4, 5, 6] rfl)
set_option maxHeartbeats 1000000 in
set_option maxRecDepth 20000 in
theorem law_case11 (C0 : Cx p s m #[Value.ref b] c code 7 "NameForgeLaw" D ct) (hX : va_X b L xs s s.heap) (hbl : b < s.heap.size) (hr : meth.sig.returnType = ret) (hlk : meth.locks = false) (htl : l.stackTraces = false) (hS : Steps Inv cmp) (hj : ∀ j : Nat, j < 6 → vp_in (i + Int32.ofNat j) L) (hI : Inv MX MR) (hcs : cells + 1 ≤ room_1.cells) (hss : slots + 6 ≤ room_1.slots) (hcmp : cmp 11) (KK : ∀ (MX MR : Sto) (f : Nat → Int64) (H : Heap) (locs : List Loc) (ls : Array Slot), Inv MX MR → Wd D (lA s) s (wR ct qr MR ++ ([(o, .inl (ct 2, 1, .inr (.inl f)))] ++ wX ct qx MX)) H locs → lv_has ls 7 [(4, .int i), (3, .ref o), (2, .ref (qr 0)), (1, .ref (qx 0)), (0, .ref b)] → W p l e room_1 s m #[Value.ref b] below meth c H locs (cells + 1) (slots + 6) (lw_Z below #[Value.ref b] s) (F0 m 993 ls [])) (w : Wd D (lA s) s (wR ct qr MR ++ ([(o, .inl (ct 2, 1, .inr (.inl f)))] ++ wX ct qx MX)) H locs) (hl : lv_has ls 7 [(4, .int i), (3, .ref o), (2, .ref (qr 0)), (1, .ref (qx 0)), (0, .ref b)]) : W p l e room_1 s m #[Value.ref b] below meth c H locs cells slots (lw_Z below #[Value.ref b] s) (F0 m 779 ls []) := by
  have hx := C0.1
  have hb := C0.2.1
  have hbA : ¬ lA s b := fun h => absurd hbl (Nat.not_lt.mpr h)
  refine lv_aload_n hx hb d_L_law_779 rfl (lv_at hl 3 rfl) ?_
  refine lv_aload_n hx hb d_L_law_780 rfl (lv_at hl 4 rfl) ?_
  refine lv_iload hx hb d_L_law_781 (lv_at hl 0 rfl) ?_
  refine lv_iconst (v := 1) hx hb d_L_law_783 (by decide) ?_
  refine lv_iadd hx hb d_L_law_784 ?_
  refine va_sld hx hb hX hbl hbA w.2.2.1 (hj 1 (by decide)) d_L_law_785 ?_
  obtain ⟨rz, MX1, r2, MR1, hx1, hy1, hI1, hcm⟩ := (hS MX MR hI).2.2.2.2.2.2.2.2.2.2.2.1 (xs (i + 1).toNatClampNeg)
  have w := w.assoc
  refine S_vi C0 w (rest := []) 0 (wU_at (by decide)) rfl (c_N_give l D ct qx hx1) wd_368 wd_365 wd_366 wd_367 wd_1 (n9 := 1) (by decide +kernel) rfl ⟨(Nat.le_of_ble_eq_true rfl), (Nat.le_of_ble_eq_true rfl)⟩ hl.1 rfl (Nat.le_of_ble_eq_true rfl) d_L_law_786 (by omega) (by omega) (fun H locs w => ?_)
  refine lv_aload_n hx hb d_L_law_789 rfl (lv_at hl 2 rfl) ?_
  refine lv_aload_n hx hb d_L_law_790 rfl (lv_at hl 4 rfl) ?_
  refine lv_iload hx hb d_L_law_791 (lv_at hl 0 rfl) ?_
  refine lv_iconst (v := 1) hx hb d_L_law_793 (by decide) ?_
  refine lv_iadd hx hb d_L_law_794 ?_
  refine va_sld hx hb hX hbl hbA w.2.2.1 (hj 1 (by decide)) d_L_law_795 ?_
  have w := w.assoc'
  have w := w.swap
  refine S_vi C0 w (rest := [.int rz]) 0 (wU_at (by decide)) rfl (c_R_give l D ct qr hy1) wd_1113 wd_1110 wd_1111 wd_1112 wd_8 (n9 := 1) (by decide +kernel) rfl ⟨(Nat.le_of_ble_eq_true rfl), (Nat.le_of_ble_eq_true rfl)⟩ hl.1 rfl (Nat.le_of_ble_eq_true rfl) d_L_law_796 (by omega) (by omega) (fun H locs w => ?_)
  refine lv_icmp_eq (tgt := 993) hx hb d_L_law_799 (by decide) (fun hc799 => ?_) (fun hc => absurd ((hcm hcmp).symm) hc)
  have w := w.swap
  refine W.widen (k := cells + 1) (n := slots + 6) (by omega) (by omega) ?_
  exact KK _ _ _ _ _ _ hI1 w (lv_sub hl [0, 1, 2, 3, 4] rfl)
set_option maxHeartbeats 1000000 in
set_option maxRecDepth 20000 in
theorem law_case12 (C0 : Cx p s m #[Value.ref b] c code 7 "NameForgeLaw" D ct) (hX : va_X b L xs s s.heap) (hbl : b < s.heap.size) (hr : meth.sig.returnType = ret) (hlk : meth.locks = false) (htl : l.stackTraces = false) (hS : Steps Inv cmp) (hj : ∀ j : Nat, j < 6 → vp_in (i + Int32.ofNat j) L) (hI : Inv MX MR) (hcs : cells + 1 ≤ room_1.cells) (hss : slots + 6 ≤ room_1.slots) (KK : ∀ (MX MR : Sto) (f : Nat → Int64) (H : Heap) (locs : List Loc) (ls : Array Slot), Inv MX MR → Wd D (lA s) s (wR ct qr MR ++ ([(o, .inl (ct 2, 1, .inr (.inl f)))] ++ wX ct qx MX)) H locs → lv_has ls 7 [(4, .int i), (3, .ref o), (2, .ref (qr 0)), (1, .ref (qx 0)), (0, .ref b)] → W p l e room_1 s m #[Value.ref b] below meth c H locs (cells + 1) (slots + 6) (lw_Z below #[Value.ref b] s) (F0 m 993 ls [])) (w : Wd D (lA s) s (wR ct qr MR ++ ([(o, .inl (ct 2, 1, .inr (.inl f)))] ++ wX ct qx MX)) H locs) (hl : lv_has ls 7 [(4, .int i), (3, .ref o), (2, .ref (qr 0)), (1, .ref (qx 0)), (0, .ref b)]) : W p l e room_1 s m #[Value.ref b] below meth c H locs cells slots (lw_Z below #[Value.ref b] s) (F0 m 804 ls []) := by
  have hx := C0.1
  have hb := C0.2.1
  have hbA : ¬ lA s b := fun h => absurd hbl (Nat.not_lt.mpr h)
  refine lv_aload_n hx hb d_L_law_804 rfl (lv_at hl 3 rfl) ?_
  obtain ⟨rz, MX1, r2, MR1, hx1, hy1, hI1, hcm⟩ := (hS MX MR hI).2.2.2.2.2.2.2.2.2.2.2.2.1
  have w := w.assoc
  refine S_vv C0 w (rest := []) 0 (wU_at (by decide)) rfl (c_N_take l D ct qx hx1) wd_376 wd_373 wd_374 wd_375 wd_1 (n9 := 0) (by decide +kernel) rfl ⟨(Nat.le_of_ble_eq_true rfl), (Nat.le_of_ble_eq_true rfl)⟩ hl.1 rfl (Nat.le_of_ble_eq_true rfl) d_L_law_805 (by omega) (by omega) (fun H locs w => ?_)
  refine lv_aload_n hx hb d_L_law_808 rfl (lv_at hl 2 rfl) ?_
  have w := w.assoc'
  have w := w.swap
  refine S_vv C0 w (rest := []) 0 (wU_at (by decide)) rfl (c_R_take l D ct qr hy1) wd_1117 wd_1114 wd_1115 wd_1116 wd_8 (n9 := 0) (by decide +kernel) rfl ⟨(Nat.le_of_ble_eq_true rfl), (Nat.le_of_ble_eq_true rfl)⟩ hl.1 rfl (Nat.le_of_ble_eq_true rfl) d_L_law_809 (by omega) (by omega) (fun H locs w => ?_)
  refine lv_goto (tgt := 993) hx hb d_L_law_812 (by decide) ?_
  have w := w.swap
  refine W.widen (k := cells + 1) (n := slots + 6) (by omega) (by omega) ?_
  exact KK _ _ _ _ _ _ hI1 w (lv_sub hl [0, 1, 2, 3, 4] rfl)
set_option maxHeartbeats 1000000 in
set_option maxRecDepth 20000 in
theorem law_case13 (C0 : Cx p s m #[Value.ref b] c code 7 "NameForgeLaw" D ct) (hX : va_X b L xs s s.heap) (hbl : b < s.heap.size) (hr : meth.sig.returnType = ret) (hlk : meth.locks = false) (htl : l.stackTraces = false) (hS : Steps Inv cmp) (hj : ∀ j : Nat, j < 6 → vp_in (i + Int32.ofNat j) L) (hI : Inv MX MR) (hcs : cells + 1 ≤ room_1.cells) (hss : slots + 6 ≤ room_1.slots) (hcmp : cmp 13) (KK : ∀ (MX MR : Sto) (f : Nat → Int64) (H : Heap) (locs : List Loc) (ls : Array Slot), Inv MX MR → Wd D (lA s) s (wR ct qr MR ++ ([(o, .inl (ct 2, 1, .inr (.inl f)))] ++ wX ct qx MX)) H locs → lv_has ls 7 [(4, .int i), (3, .ref o), (2, .ref (qr 0)), (1, .ref (qx 0)), (0, .ref b)] → W p l e room_1 s m #[Value.ref b] below meth c H locs (cells + 1) (slots + 6) (lw_Z below #[Value.ref b] s) (F0 m 993 ls [])) (w : Wd D (lA s) s (wR ct qr MR ++ ([(o, .inl (ct 2, 1, .inr (.inl f)))] ++ wX ct qx MX)) H locs) (hl : lv_has ls 7 [(4, .int i), (3, .ref o), (2, .ref (qr 0)), (1, .ref (qx 0)), (0, .ref b)]) : W p l e room_1 s m #[Value.ref b] below meth c H locs cells slots (lw_Z below #[Value.ref b] s) (F0 m 815 ls []) := by
  have hx := C0.1
  have hb := C0.2.1
  have hbA : ¬ lA s b := fun h => absurd hbl (Nat.not_lt.mpr h)
  refine lv_aload_n hx hb d_L_law_815 rfl (lv_at hl 3 rfl) ?_
  refine lv_aload_n hx hb d_L_law_816 rfl (lv_at hl 4 rfl) ?_
  refine lv_iload hx hb d_L_law_817 (lv_at hl 0 rfl) ?_
  refine lv_iconst (v := 1) hx hb d_L_law_819 (by decide) ?_
  refine lv_iadd hx hb d_L_law_820 ?_
  refine va_sld hx hb hX hbl hbA w.2.2.1 (hj 1 (by decide)) d_L_law_821 ?_
  refine lv_if_eq (tgt := 829) hx hb d_L_law_822 (by decide) (fun hd822 => ?_) (fun hd822 => ?_)
  · refine lv_iconst (v := 0) hx hb d_L_law_829 (by decide) ?_
    refine lv_aload_n hx hb d_L_law_830 rfl (lv_at hl 4 rfl) ?_
    refine lv_iload hx hb d_L_law_831 (lv_at hl 0 rfl) ?_
    refine lv_iconst (v := 2) hx hb d_L_law_833 (by decide) ?_
    refine lv_iadd hx hb d_L_law_834 ?_
    refine va_sld hx hb hX hbl hbA w.2.2.1 (hj 2 (by decide)) d_L_law_835 ?_
    refine lv_aload_n hx hb d_L_law_836 rfl (lv_at hl 1 rfl) ?_
    obtain ⟨cz, rz, MX1, r2, MR1, hx1, hcz, hy1, hI1, hcm⟩ := (hS MX MR hI).2.2.2.2.2.2.2.2.2.2.2.2.2.1 0 (xs (i + 2).toNatClampNeg) (by decide)
    refine S_sh C0 w (rest := []) (h_run l htl D ct qx o f hx1 hcz) wd_758 wd_756 wd_757 wd_0 (n9 := 4) (by decide +kernel) rfl ⟨(Nat.le_of_ble_eq_true rfl), (Nat.le_of_ble_eq_true rfl)⟩ hl.1 rfl (Nat.le_of_ble_eq_true rfl) d_L_law_837 hcs hss (fun H locs w => ?_)
    have w : Wd D (lA s) s (wR ct qr MR ++ ([(o, .inl (ct 2, 1, .inr (.inl (fo cz rz f))))] ++ wX ct qx MX1)) H _ := w
    refine lv_istore hx hb d_L_law_840 hl (by decide) rfl (fun ls hl => ?_)
    have hl : lv_has ls 7 [(5, .int (kc 1 cz)), (4, .int i), (3, .ref o), (2, .ref (qr 0)), (1, .ref (qx 0)), (0, .ref b)] := hl
    refine lv_aload_n hx hb d_L_law_842 rfl (lv_at hl 3 rfl) ?_
    refine lv_aload_n hx hb d_L_law_843 rfl (lv_at hl 5 rfl) ?_
    refine lv_iload hx hb d_L_law_844 (lv_at hl 1 rfl) ?_
    refine lv_iconst (v := 1) hx hb d_L_law_846 (by decide) ?_
    refine lv_iadd hx hb d_L_law_847 ?_
    refine va_sld hx hb hX hbl hbA w.2.2.1 (hj 1 (by decide)) d_L_law_848 ?_
    refine lv_if_eq (tgt := 856) hx hb d_L_law_849 (by decide) (fun _ => ?_) (fun hc => absurd hd822 hc)
    refine lv_iconst (v := 0) hx hb d_L_law_856 (by decide) ?_
    refine lv_aload_n hx hb d_L_law_857 rfl (lv_at hl 5 rfl) ?_
    refine lv_iload hx hb d_L_law_858 (lv_at hl 1 rfl) ?_
    refine lv_iconst (v := 2) hx hb d_L_law_860 (by decide) ?_
    refine lv_iadd hx hb d_L_law_861 ?_
    refine va_sld hx hb hX hbl hbA w.2.2.1 (hj 2 (by decide)) d_L_law_862 ?_
    have w := w.swap
    refine S_vi C0 w (rest := []) 0 (wU_at (by decide)) rfl (c_R_run l D ct qr hy1) wd_1121 wd_1118 wd_1119 wd_1120 wd_8 (n9 := 2) (by decide +kernel) rfl ⟨(Nat.le_of_ble_eq_true rfl), (Nat.le_of_ble_eq_true rfl)⟩ hl.1 rfl (Nat.le_of_ble_eq_true rfl) d_L_law_863 hcs hss (fun H locs w => ?_)
    refine lv_istore hx hb d_L_law_866 hl (by decide) rfl (fun ls hl => ?_)
    have hl : lv_has ls 7 [(6, .int r2), (5, .int (kc 1 cz)), (4, .int i), (3, .ref o), (2, .ref (qr 0)), (1, .ref (qx 0)), (0, .ref b)] := hl
    refine lv_aload_n hx hb d_L_law_868 rfl (lv_at hl 4 rfl) ?_
    refine S_vi C0 w (rest := []) 0 (wU_at (by decide)) rfl (c_R_thrown l D ct qr (show m_R_thrown MR1 = some (MR1 0 0, MR1) from rfl)) wd_955 wd_952 wd_953 wd_954 wd_8 (n9 := 0) (by decide +kernel) rfl ⟨(Nat.le_of_ble_eq_true rfl), (Nat.le_of_ble_eq_true rfl)⟩ hl.1 rfl (Nat.le_of_ble_eq_true rfl) d_L_law_869 hcs hss (fun H locs w => ?_)
    refine lv_iload hx hb d_L_law_872 (lv_at hl 1 rfl) ?_
    refine lv_icmp_eq (tgt := 879) hx hb d_L_law_874 (by decide) (fun hc874 => ?_) (fun hc => absurd ((hcm hcmp).1) hc)
    refine lv_iload hx hb d_L_law_879 (lv_at hl 1 rfl) ?_
    refine lv_if_ne (tgt := 896) hx hb d_L_law_881 (by decide) (fun hd881 => ?_) (fun hd881 => ?_)
    · refine lv_goto (tgt := 993) hx hb d_L_law_896 (by decide) ?_
      have w := w.swap
      exact KK _ _ _ _ _ _ hI1 w (lv_sub hl [2, 3, 4, 5, 6] rfl)
    · have hk0 : kc 1 cz = 0 := hd881
      refine lv_aload_n hx hb d_L_law_884 rfl (lv_at hl 3 rfl) ?_
      refine lv_iconst (v := 0) hx hb d_L_law_885 (by decide) ?_
      refine R_lald C0 w 0 rfl (vin (by decide)) d_L_law_886 ?_
      refine lv_iload hx hb d_L_law_887 (lv_at hl 0 rfl) ?_
      refine lv_i2l (v := (r2 : Int32).toInt64) hx hb d_L_law_889 rfl ?_
      refine W.lcmp hx hb d_L_law_890 ?_
      refine lv_if_eq (tgt := 896) hx hb d_L_law_891 (by decide) (fun hc891 => ?_) (fun hc => absurd ?_ hc)
      rotate_left
      · have e0 := kc_zero hk0
        subst e0
        rw [(hcm hcmp).2 rfl, fo_at]
        exact (lg_cmp_eq _ _).mpr rfl
      refine lv_goto (tgt := 993) hx hb d_L_law_896 (by decide) ?_
      have w := w.swap
      exact KK _ _ _ _ _ _ hI1 w (lv_sub hl [2, 3, 4, 5, 6] rfl)
  · refine lv_iconst (v := 1) hx hb d_L_law_825 (by decide) ?_
    refine lv_goto (tgt := 830) hx hb d_L_law_826 (by decide) ?_
    refine lv_aload_n hx hb d_L_law_830 rfl (lv_at hl 4 rfl) ?_
    refine lv_iload hx hb d_L_law_831 (lv_at hl 0 rfl) ?_
    refine lv_iconst (v := 2) hx hb d_L_law_833 (by decide) ?_
    refine lv_iadd hx hb d_L_law_834 ?_
    refine va_sld hx hb hX hbl hbA w.2.2.1 (hj 2 (by decide)) d_L_law_835 ?_
    refine lv_aload_n hx hb d_L_law_836 rfl (lv_at hl 1 rfl) ?_
    obtain ⟨cz, rz, MX1, r2, MR1, hx1, hcz, hy1, hI1, hcm⟩ := (hS MX MR hI).2.2.2.2.2.2.2.2.2.2.2.2.2.1 1 (xs (i + 2).toNatClampNeg) (by decide)
    refine S_sh C0 w (rest := []) (h_run l htl D ct qx o f hx1 hcz) wd_758 wd_756 wd_757 wd_0 (n9 := 4) (by decide +kernel) rfl ⟨(Nat.le_of_ble_eq_true rfl), (Nat.le_of_ble_eq_true rfl)⟩ hl.1 rfl (Nat.le_of_ble_eq_true rfl) d_L_law_837 hcs hss (fun H locs w => ?_)
    have w : Wd D (lA s) s (wR ct qr MR ++ ([(o, .inl (ct 2, 1, .inr (.inl (fo cz rz f))))] ++ wX ct qx MX1)) H _ := w
    refine lv_istore hx hb d_L_law_840 hl (by decide) rfl (fun ls hl => ?_)
    have hl : lv_has ls 7 [(5, .int (kc 1 cz)), (4, .int i), (3, .ref o), (2, .ref (qr 0)), (1, .ref (qx 0)), (0, .ref b)] := hl
    refine lv_aload_n hx hb d_L_law_842 rfl (lv_at hl 3 rfl) ?_
    refine lv_aload_n hx hb d_L_law_843 rfl (lv_at hl 5 rfl) ?_
    refine lv_iload hx hb d_L_law_844 (lv_at hl 1 rfl) ?_
    refine lv_iconst (v := 1) hx hb d_L_law_846 (by decide) ?_
    refine lv_iadd hx hb d_L_law_847 ?_
    refine va_sld hx hb hX hbl hbA w.2.2.1 (hj 1 (by decide)) d_L_law_848 ?_
    refine lv_if_eq (tgt := 856) hx hb d_L_law_849 (by decide) (fun hc => absurd hc hd822) (fun _ => ?_)
    refine lv_iconst (v := 1) hx hb d_L_law_852 (by decide) ?_
    refine lv_goto (tgt := 857) hx hb d_L_law_853 (by decide) ?_
    refine lv_aload_n hx hb d_L_law_857 rfl (lv_at hl 5 rfl) ?_
    refine lv_iload hx hb d_L_law_858 (lv_at hl 1 rfl) ?_
    refine lv_iconst (v := 2) hx hb d_L_law_860 (by decide) ?_
    refine lv_iadd hx hb d_L_law_861 ?_
    refine va_sld hx hb hX hbl hbA w.2.2.1 (hj 2 (by decide)) d_L_law_862 ?_
    have w := w.swap
    refine S_vi C0 w (rest := []) 0 (wU_at (by decide)) rfl (c_R_run l D ct qr hy1) wd_1121 wd_1118 wd_1119 wd_1120 wd_8 (n9 := 2) (by decide +kernel) rfl ⟨(Nat.le_of_ble_eq_true rfl), (Nat.le_of_ble_eq_true rfl)⟩ hl.1 rfl (Nat.le_of_ble_eq_true rfl) d_L_law_863 hcs hss (fun H locs w => ?_)
    refine lv_istore hx hb d_L_law_866 hl (by decide) rfl (fun ls hl => ?_)
    have hl : lv_has ls 7 [(6, .int r2), (5, .int (kc 1 cz)), (4, .int i), (3, .ref o), (2, .ref (qr 0)), (1, .ref (qx 0)), (0, .ref b)] := hl
    refine lv_aload_n hx hb d_L_law_868 rfl (lv_at hl 4 rfl) ?_
    refine S_vi C0 w (rest := []) 0 (wU_at (by decide)) rfl (c_R_thrown l D ct qr (show m_R_thrown MR1 = some (MR1 0 0, MR1) from rfl)) wd_955 wd_952 wd_953 wd_954 wd_8 (n9 := 0) (by decide +kernel) rfl ⟨(Nat.le_of_ble_eq_true rfl), (Nat.le_of_ble_eq_true rfl)⟩ hl.1 rfl (Nat.le_of_ble_eq_true rfl) d_L_law_869 hcs hss (fun H locs w => ?_)
    refine lv_iload hx hb d_L_law_872 (lv_at hl 1 rfl) ?_
    refine lv_icmp_eq (tgt := 879) hx hb d_L_law_874 (by decide) (fun hc874 => ?_) (fun hc => absurd ((hcm hcmp).1) hc)
    refine lv_iload hx hb d_L_law_879 (lv_at hl 1 rfl) ?_
    refine lv_if_ne (tgt := 896) hx hb d_L_law_881 (by decide) (fun hd881 => ?_) (fun hd881 => ?_)
    · refine lv_goto (tgt := 993) hx hb d_L_law_896 (by decide) ?_
      have w := w.swap
      exact KK _ _ _ _ _ _ hI1 w (lv_sub hl [2, 3, 4, 5, 6] rfl)
    · have hk0 : kc 1 cz = 0 := hd881
      refine lv_aload_n hx hb d_L_law_884 rfl (lv_at hl 3 rfl) ?_
      refine lv_iconst (v := 0) hx hb d_L_law_885 (by decide) ?_
      refine R_lald C0 w 0 rfl (vin (by decide)) d_L_law_886 ?_
      refine lv_iload hx hb d_L_law_887 (lv_at hl 0 rfl) ?_
      refine lv_i2l (v := (r2 : Int32).toInt64) hx hb d_L_law_889 rfl ?_
      refine W.lcmp hx hb d_L_law_890 ?_
      refine lv_if_eq (tgt := 896) hx hb d_L_law_891 (by decide) (fun hc891 => ?_) (fun hc => absurd ?_ hc)
      rotate_left
      · have e0 := kc_zero hk0
        subst e0
        rw [(hcm hcmp).2 rfl, fo_at]
        exact (lg_cmp_eq _ _).mpr rfl
      refine lv_goto (tgt := 993) hx hb d_L_law_896 (by decide) ?_
      have w := w.swap
      exact KK _ _ _ _ _ _ hI1 w (lv_sub hl [2, 3, 4, 5, 6] rfl)
set_option maxHeartbeats 1000000 in
set_option maxRecDepth 20000 in
theorem law_case14 (C0 : Cx p s m #[Value.ref b] c code 7 "NameForgeLaw" D ct) (hX : va_X b L xs s s.heap) (hbl : b < s.heap.size) (hr : meth.sig.returnType = ret) (hlk : meth.locks = false) (htl : l.stackTraces = false) (hS : Steps Inv cmp) (hj : ∀ j : Nat, j < 6 → vp_in (i + Int32.ofNat j) L) (hI : Inv MX MR) (hcs : cells + 1 ≤ room_1.cells) (hss : slots + 6 ≤ room_1.slots) (hcmp : cmp 14) (KK : ∀ (MX MR : Sto) (f : Nat → Int64) (H : Heap) (locs : List Loc) (ls : Array Slot), Inv MX MR → Wd D (lA s) s (wR ct qr MR ++ ([(o, .inl (ct 2, 1, .inr (.inl f)))] ++ wX ct qx MX)) H locs → lv_has ls 7 [(4, .int i), (3, .ref o), (2, .ref (qr 0)), (1, .ref (qx 0)), (0, .ref b)] → W p l e room_1 s m #[Value.ref b] below meth c H locs (cells + 1) (slots + 6) (lw_Z below #[Value.ref b] s) (F0 m 993 ls [])) (w : Wd D (lA s) s (wR ct qr MR ++ ([(o, .inl (ct 2, 1, .inr (.inl f)))] ++ wX ct qx MX)) H locs) (hl : lv_has ls 7 [(4, .int i), (3, .ref o), (2, .ref (qr 0)), (1, .ref (qx 0)), (0, .ref b)]) : W p l e room_1 s m #[Value.ref b] below meth c H locs cells slots (lw_Z below #[Value.ref b] s) (F0 m 899 ls []) := by
  have hx := C0.1
  have hb := C0.2.1
  have hbA : ¬ lA s b := fun h => absurd hbl (Nat.not_lt.mpr h)
  refine lv_aload_n hx hb d_L_law_899 rfl (lv_at hl 3 rfl) ?_
  obtain ⟨rz, MX1, r2, MR1, hx1, hy1, hI1, hcm⟩ := (hS MX MR hI).2.2.2.2.2.2.2.2.2.2.2.2.2.2.1
  have w := w.assoc
  refine S_vi C0 w (rest := []) 0 (wU_at (by decide)) rfl (c_N_told l D ct qx hx1) wd_380 wd_377 wd_378 wd_379 wd_1 (n9 := 0) (by decide +kernel) rfl ⟨(Nat.le_of_ble_eq_true rfl), (Nat.le_of_ble_eq_true rfl)⟩ hl.1 rfl (Nat.le_of_ble_eq_true rfl) d_L_law_900 (by omega) (by omega) (fun H locs w => ?_)
  refine lv_aload_n hx hb d_L_law_903 rfl (lv_at hl 2 rfl) ?_
  have w := w.assoc'
  have w := w.swap
  refine S_vi C0 w (rest := [.int rz]) 0 (wU_at (by decide)) rfl (c_R_told l D ct qr hy1) wd_1153 wd_1150 wd_1151 wd_1152 wd_8 (n9 := 0) (by decide +kernel) rfl ⟨(Nat.le_of_ble_eq_true rfl), (Nat.le_of_ble_eq_true rfl)⟩ hl.1 rfl (Nat.le_of_ble_eq_true rfl) d_L_law_904 (by omega) (by omega) (fun H locs w => ?_)
  refine lv_icmp_eq (tgt := 993) hx hb d_L_law_907 (by decide) (fun hc907 => ?_) (fun hc => absurd ((hcm hcmp).symm) hc)
  have w := w.swap
  refine W.widen (k := cells + 1) (n := slots + 6) (by omega) (by omega) ?_
  exact KK _ _ _ _ _ _ hI1 w (lv_sub hl [0, 1, 2, 3, 4] rfl)
set_option maxHeartbeats 1000000 in
set_option maxRecDepth 20000 in
theorem law_case15 (C0 : Cx p s m #[Value.ref b] c code 7 "NameForgeLaw" D ct) (hX : va_X b L xs s s.heap) (hbl : b < s.heap.size) (hr : meth.sig.returnType = ret) (hlk : meth.locks = false) (htl : l.stackTraces = false) (hS : Steps Inv cmp) (hj : ∀ j : Nat, j < 6 → vp_in (i + Int32.ofNat j) L) (hI : Inv MX MR) (hcs : cells + 1 ≤ room_1.cells) (hss : slots + 6 ≤ room_1.slots) (hcmp : cmp 15) (KK : ∀ (MX MR : Sto) (f : Nat → Int64) (H : Heap) (locs : List Loc) (ls : Array Slot), Inv MX MR → Wd D (lA s) s (wR ct qr MR ++ ([(o, .inl (ct 2, 1, .inr (.inl f)))] ++ wX ct qx MX)) H locs → lv_has ls 7 [(4, .int i), (3, .ref o), (2, .ref (qr 0)), (1, .ref (qx 0)), (0, .ref b)] → W p l e room_1 s m #[Value.ref b] below meth c H locs (cells + 1) (slots + 6) (lw_Z below #[Value.ref b] s) (F0 m 993 ls [])) (w : Wd D (lA s) s (wR ct qr MR ++ ([(o, .inl (ct 2, 1, .inr (.inl f)))] ++ wX ct qx MX)) H locs) (hl : lv_has ls 7 [(4, .int i), (3, .ref o), (2, .ref (qr 0)), (1, .ref (qx 0)), (0, .ref b)]) : W p l e room_1 s m #[Value.ref b] below meth c H locs cells slots (lw_Z below #[Value.ref b] s) (F0 m 912 ls []) := by
  have hx := C0.1
  have hb := C0.2.1
  have hbA : ¬ lA s b := fun h => absurd hbl (Nat.not_lt.mpr h)
  refine lv_aload_n hx hb d_L_law_912 rfl (lv_at hl 3 rfl) ?_
  refine lv_aload_n hx hb d_L_law_913 rfl (lv_at hl 4 rfl) ?_
  refine lv_iload hx hb d_L_law_914 (lv_at hl 0 rfl) ?_
  refine lv_iconst (v := 1) hx hb d_L_law_916 (by decide) ?_
  refine lv_iadd hx hb d_L_law_917 ?_
  refine va_sld hx hb hX hbl hbA w.2.2.1 (hj 1 (by decide)) d_L_law_918 ?_
  refine lv_aload_n hx hb d_L_law_919 rfl (lv_at hl 1 rfl) ?_
  obtain ⟨cz, rz, MX1, r2, MR1, hx1, hcz, hy1, hI1, hcm⟩ := (hS MX MR hI).2.2.2.2.2.2.2.2.2.2.2.2.2.2.2.1 (xs (i + 1).toNatClampNeg)
  refine S_sh C0 w (rest := []) (h_heard l htl D ct qx o f hx1 hcz) wd_816 wd_814 wd_815 wd_0 (n9 := 3) (by decide +kernel) rfl ⟨(Nat.le_of_ble_eq_true rfl), (Nat.le_of_ble_eq_true rfl)⟩ hl.1 rfl (Nat.le_of_ble_eq_true rfl) d_L_law_920 hcs hss (fun H locs w => ?_)
  have w : Wd D (lA s) s (wR ct qr MR ++ ([(o, .inl (ct 2, 1, .inr (.inl (fo cz rz f))))] ++ wX ct qx MX1)) H _ := w
  refine lv_istore hx hb d_L_law_923 hl (by decide) rfl (fun ls hl => ?_)
  have hl : lv_has ls 7 [(5, .int (kc 3 cz)), (4, .int i), (3, .ref o), (2, .ref (qr 0)), (1, .ref (qx 0)), (0, .ref b)] := hl
  refine lv_aload_n hx hb d_L_law_925 rfl (lv_at hl 3 rfl) ?_
  refine lv_aload_n hx hb d_L_law_926 rfl (lv_at hl 5 rfl) ?_
  refine lv_iload hx hb d_L_law_927 (lv_at hl 1 rfl) ?_
  refine lv_iconst (v := 1) hx hb d_L_law_929 (by decide) ?_
  refine lv_iadd hx hb d_L_law_930 ?_
  refine va_sld hx hb hX hbl hbA w.2.2.1 (hj 1 (by decide)) d_L_law_931 ?_
  have w := w.swap
  refine S_vi C0 w (rest := []) 0 (wU_at (by decide)) rfl (c_R_heard l D ct qr hy1) wd_1157 wd_1154 wd_1155 wd_1156 wd_8 (n9 := 1) (by decide +kernel) rfl ⟨(Nat.le_of_ble_eq_true rfl), (Nat.le_of_ble_eq_true rfl)⟩ hl.1 rfl (Nat.le_of_ble_eq_true rfl) d_L_law_932 hcs hss (fun H locs w => ?_)
  refine lv_istore hx hb d_L_law_935 hl (by decide) rfl (fun ls hl => ?_)
  have hl : lv_has ls 7 [(6, .int r2), (5, .int (kc 3 cz)), (4, .int i), (3, .ref o), (2, .ref (qr 0)), (1, .ref (qx 0)), (0, .ref b)] := hl
  refine lv_aload_n hx hb d_L_law_937 rfl (lv_at hl 4 rfl) ?_
  refine S_vi C0 w (rest := []) 0 (wU_at (by decide)) rfl (c_R_thrown l D ct qr (show m_R_thrown MR1 = some (MR1 0 0, MR1) from rfl)) wd_955 wd_952 wd_953 wd_954 wd_8 (n9 := 0) (by decide +kernel) rfl ⟨(Nat.le_of_ble_eq_true rfl), (Nat.le_of_ble_eq_true rfl)⟩ hl.1 rfl (Nat.le_of_ble_eq_true rfl) d_L_law_938 hcs hss (fun H locs w => ?_)
  refine lv_iload hx hb d_L_law_941 (lv_at hl 1 rfl) ?_
  refine lv_icmp_eq (tgt := 948) hx hb d_L_law_943 (by decide) (fun hc943 => ?_) (fun hc => absurd ((hcm hcmp).1) hc)
  refine lv_iload hx hb d_L_law_948 (lv_at hl 1 rfl) ?_
  refine lv_if_ne (tgt := 965) hx hb d_L_law_950 (by decide) (fun hd950 => ?_) (fun hd950 => ?_)
  · refine lv_goto (tgt := 993) hx hb d_L_law_965 (by decide) ?_
    have w := w.swap
    exact KK _ _ _ _ _ _ hI1 w (lv_sub hl [2, 3, 4, 5, 6] rfl)
  · have hk0 : kc 3 cz = 0 := hd950
    refine lv_aload_n hx hb d_L_law_953 rfl (lv_at hl 3 rfl) ?_
    refine lv_iconst (v := 0) hx hb d_L_law_954 (by decide) ?_
    refine R_lald C0 w 0 rfl (vin (by decide)) d_L_law_955 ?_
    refine lv_iload hx hb d_L_law_956 (lv_at hl 0 rfl) ?_
    refine lv_i2l (v := (r2 : Int32).toInt64) hx hb d_L_law_958 rfl ?_
    refine W.lcmp hx hb d_L_law_959 ?_
    refine lv_if_eq (tgt := 965) hx hb d_L_law_960 (by decide) (fun hc960 => ?_) (fun hc => absurd ?_ hc)
    rotate_left
    · have e0 := kc_zero hk0
      subst e0
      rw [(hcm hcmp).2 rfl, fo_at]
      exact (lg_cmp_eq _ _).mpr rfl
    refine lv_goto (tgt := 993) hx hb d_L_law_965 (by decide) ?_
    have w := w.swap
    exact KK _ _ _ _ _ _ hI1 w (lv_sub hl [2, 3, 4, 5, 6] rfl)
set_option maxHeartbeats 1000000 in
set_option maxRecDepth 20000 in
theorem law_case16 (C0 : Cx p s m #[Value.ref b] c code 7 "NameForgeLaw" D ct) (hX : va_X b L xs s s.heap) (hbl : b < s.heap.size) (hr : meth.sig.returnType = ret) (hlk : meth.locks = false) (htl : l.stackTraces = false) (hS : Steps Inv cmp) (hj : ∀ j : Nat, j < 6 → vp_in (i + Int32.ofNat j) L) (hI : Inv MX MR) (hcs : cells + 1 ≤ room_1.cells) (hss : slots + 6 ≤ room_1.slots) (hcmp : cmp 16) (KK : ∀ (MX MR : Sto) (f : Nat → Int64) (H : Heap) (locs : List Loc) (ls : Array Slot), Inv MX MR → Wd D (lA s) s (wR ct qr MR ++ ([(o, .inl (ct 2, 1, .inr (.inl f)))] ++ wX ct qx MX)) H locs → lv_has ls 7 [(4, .int i), (3, .ref o), (2, .ref (qr 0)), (1, .ref (qx 0)), (0, .ref b)] → W p l e room_1 s m #[Value.ref b] below meth c H locs (cells + 1) (slots + 6) (lw_Z below #[Value.ref b] s) (F0 m 993 ls [])) (w : Wd D (lA s) s (wR ct qr MR ++ ([(o, .inl (ct 2, 1, .inr (.inl f)))] ++ wX ct qx MX)) H locs) (hl : lv_has ls 7 [(4, .int i), (3, .ref o), (2, .ref (qr 0)), (1, .ref (qx 0)), (0, .ref b)]) : W p l e room_1 s m #[Value.ref b] below meth c H locs cells slots (lw_Z below #[Value.ref b] s) (F0 m 968 ls []) := by
  have hx := C0.1
  have hb := C0.2.1
  have hbA : ¬ lA s b := fun h => absurd hbl (Nat.not_lt.mpr h)
  refine lv_aload_n hx hb d_L_law_968 rfl (lv_at hl 3 rfl) ?_
  refine lv_aload_n hx hb d_L_law_969 rfl (lv_at hl 4 rfl) ?_
  refine lv_iload hx hb d_L_law_970 (lv_at hl 0 rfl) ?_
  refine lv_iconst (v := 1) hx hb d_L_law_972 (by decide) ?_
  refine lv_iadd hx hb d_L_law_973 ?_
  refine va_sld hx hb hX hbl hbA w.2.2.1 (hj 1 (by decide)) d_L_law_974 ?_
  obtain ⟨rz, MX1, r2, MR1, hx1, hy1, hI1, hcm⟩ := (hS MX MR hI).2.2.2.2.2.2.2.2.2.2.2.2.2.2.2.2 (xs (i + 1).toNatClampNeg)
  have w := w.assoc
  refine S_vi C0 w (rest := []) 0 (wU_at (by decide)) rfl (c_N_spent l D ct qx hx1) wd_384 wd_381 wd_382 wd_383 wd_1 (n9 := 1) (by decide +kernel) rfl ⟨(Nat.le_of_ble_eq_true rfl), (Nat.le_of_ble_eq_true rfl)⟩ hl.1 rfl (Nat.le_of_ble_eq_true rfl) d_L_law_975 (by omega) (by omega) (fun H locs w => ?_)
  refine lv_aload_n hx hb d_L_law_978 rfl (lv_at hl 2 rfl) ?_
  refine lv_aload_n hx hb d_L_law_979 rfl (lv_at hl 4 rfl) ?_
  refine lv_iload hx hb d_L_law_980 (lv_at hl 0 rfl) ?_
  refine lv_iconst (v := 1) hx hb d_L_law_982 (by decide) ?_
  refine lv_iadd hx hb d_L_law_983 ?_
  refine va_sld hx hb hX hbl hbA w.2.2.1 (hj 1 (by decide)) d_L_law_984 ?_
  have w := w.assoc'
  have w := w.swap
  refine S_vi C0 w (rest := [.int rz]) 0 (wU_at (by decide)) rfl (c_R_spent l D ct qr hy1) wd_1161 wd_1158 wd_1159 wd_1160 wd_8 (n9 := 1) (by decide +kernel) rfl ⟨(Nat.le_of_ble_eq_true rfl), (Nat.le_of_ble_eq_true rfl)⟩ hl.1 rfl (Nat.le_of_ble_eq_true rfl) d_L_law_985 (by omega) (by omega) (fun H locs w => ?_)
  refine lv_icmp_eq (tgt := 993) hx hb d_L_law_988 (by decide) (fun hc988 => ?_) (fun hc => absurd ((hcm hcmp).symm) hc)
  have w := w.swap
  refine W.widen (k := cells + 1) (n := slots + 6) (by omega) (by omega) ?_
  exact KK _ _ _ _ _ _ hI1 w (lv_sub hl [0, 1, 2, 3, 4] rfl)
end LAW
