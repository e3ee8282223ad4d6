-- ===== end of PART A; then your names; then what follows =====
/-! THE CLAIM OUT OF ONE WALK OF THE LAW'S BODY. Your part is whole_start (and what it stands on); all else here is the same for every law, but numbers. -/
def R_law : String := "NameForgeLaw"
def lw_P (b : Addr) (xs : List Int32) (args : Array Value) (s : State) : Prop := args = #[.ref b] ∧ s.IntsAt b xs ∧ xs.length ≤ 3072 ∧ (Jvm.Cond.and given_1 narrow_1).before args s = true
def lw_Q (_ : Array Value) (s : State) (o : Outcome) (t : State) : Prop := o = .returned (some (.int 1)) ∧ Framed s o t [] 601024 7293034
def lw_Z (below : List Frame) (a : Array Value) (s : State) : State → Prop := fun t => ∃ o, t.status = .running ∧ Ended t below o ∧ lw_Q a s o t
/-- the law's own end, with 1 on the stack, nothing written that was there before, its room as the claim has it -/
theorem lw_ret {p : Program} {l : Launch} {e : Env} {s : State} {m : MethodId} {below : List Frame} {meth : Method} {c : Code} {b : Nat} (hx : p.tables.exec = Jvm.exec) (hb : c.code = code) (hr : meth.sig.returnType = ret) (hlocks : meth.locks = false) {pc : Nat} {H : Heap} {ls : Array Slot} (hdg : decode code pc = .ok (.ireturn, 1)) : W p l e room_1 s m #[Value.ref b] below meth c H [] 601024 7293034 (lw_Z below #[Value.ref b] s) (F0 m pc ls [.int 1]) := by
  intro T hT X
  obtain ⟨fs, hret, hrun, hended, hW, hframe⟩ := X.leave (v := some (.int 1)) (hlocks := hlocks) (fun h => by rw [hr] at h; cases h)
  have hmeth' : T.vm.method? m = some meth := X.method'
  refine ⟨T.setFrames fs, ?_, .returned (some (.int 1)), hrun, hended, rfl, ⟨_, rfl⟩, hW, hframe⟩
  jvm_step X.here [X.here.top, hx, hb, hdg, hmeth', hr, ret, narrow_b1]
  (try refine ⟨rfl, ?_⟩); (try refine ⟨rfl, ?_⟩)
  first | (intro acts; rw [hret _ acts rfl rfl rfl]) | rw [hret _ _ rfl rfl rfl]
  exact Steps.refl _
/-- what holds at the law's entry: the machine, the code, the tables' words (any of lw_tbl by 'hts w (by decide +kernel)'), the script of L ints xs at the cell b, what the Statement gives of the start (any of its parts by flat_of_before) -/
def lw_At (p : Program) (s : State) (m : MethodId) (meth : Method) (c : Code) (b L : Nat) (xs : Nat → Int32) : Prop :=
  p.tables.exec = Jvm.exec ∧ c.code = code ∧ meth.sig.returnType = ret ∧ c.maxLocals = 7 ∧ s.vm.findClass R_law = some m.cls ∧ (∀ w ∈ lw_tbl, w.before #[Value.ref b] s = true) ∧ va_X b L xs s s.heap ∧ b < s.heap.size ∧ meth.locks = false ∧ (Jvm.Cond.and given_1 narrow_1).before #[Value.ref b] s = true

def Al (Inv : Sto → Sto → Prop) (cm : Prop) (a : Nat) (cs : List Nat) (x : Option (Nat × Int32 × Sto)) (y : Option (Int32 × Sto)) : Prop := ∃ (c : Nat) (r : Int32) (MX : Sto) (r2 : Int32) (MR : Sto), x = some (c, r, MX) ∧ c ∈ cs ∧ y = some (r2, MR) ∧ Inv MX MR ∧ (cm → MR 0 0 = kc a c ∧ (c = 0 → r2 = r))
def Al0 (Inv : Sto → Sto → Prop) (cm : Prop) (x y : Option (Int32 × Sto)) : Prop := ∃ (r : Int32) (MX : Sto) (r2 : Int32) (MR : Sto), x = some (r, MX) ∧ y = some (r2, MR) ∧ Inv MX MR ∧ (cm → r2 = r)
def Steps (Inv : Sto → Sto → Prop) (cmp : Nat → Prop) : Prop := ∀ MX MR : Sto, Inv MX MR → (Al Inv (cmp 0) 2 [0, 2] (m_N_block  MX) (m_R_block  MR)) ∧ (∀ x1 x2 x3 x4 x5 : Int32, Al Inv (cmp 1) 1 [0, 1, 2] (m_N_put x1 x2 x3 x4 x5 MX) (m_R_put x1 x2 x3 x4 x5 MR)) ∧ (∀ x1 x2 : Int32, Al Inv (cmp 2) 1 [0, 1] (m_N_go x1 x2 MX) (m_R_go x1 x2 MR)) ∧ (∀ x1 x2 x3 x4 : Int32, Al Inv (cmp 3) 1 [0, 1] (m_N_fork x1 x2 x3 x4 MX) (m_R_fork x1 x2 x3 x4 MR)) ∧ (∀ x1 : Int32, Al Inv (cmp 4) 1 [0, 1] (m_N_stop x1 MX) (m_R_stop x1 MR)) ∧ (Al0 Inv (cmp 5) (m_N_clear  MX) (m_R_clear  MR)) ∧ (Al Inv (cmp 6) 2 [0, 2] (m_N_build  MX) (m_R_build  MR)) ∧ (∀ x1 x2 : Int32, Al Inv (cmp 7) 3 [0, 3, 2] (m_N_look x1 x2 MX) (m_R_look x1 x2 MR)) ∧ (∀ x1 x2 x3 : Int32, Al Inv (cmp 8) 3 [0, 3, 2] (m_N_phi x1 x2 x3 MX) (m_R_phi x1 x2 x3 MR)) ∧ (∀ x1 x2 x3 : Int32, Al Inv (cmp 9) 3 [0, 3, 2] (m_N_uses x1 x2 x3 MX) (m_R_uses x1 x2 x3 MR)) ∧ (∀ x1 x2 : Int32, Al Inv (cmp 10) 3 [0, 3, 2] (m_N_name x1 x2 MX) (m_R_name x1 x2 MR)) ∧ (∀ x1 : Int32, Al0 Inv (cmp 11) (m_N_give x1 MX) (m_R_give x1 MR)) ∧ (Al0 Inv (cmp 12) (m_N_take  MX) (m_R_take  MR)) ∧ (∀ x1 x2 : Int32, (x1 = 0 ∨ x1 = 1) → Al Inv (cmp 13) 1 [0, 1, 2] (m_N_run x1 x2 MX) (m_R_run x1 x2 MR)) ∧ (Al0 Inv (cmp 14) (m_N_told  MX) (m_R_told  MR)) ∧ (∀ x1 : Int32, Al Inv (cmp 15) 3 [0, 3] (m_N_heard x1 MX) (m_R_heard x1 MR)) ∧ (∀ x1 : Int32, Al0 Inv (cmp 16) (m_N_spent x1 MX) (m_R_spent x1 MR))
abbrev lA (s : State) : Nat → Prop := fun q => s.heap.size ≤ q
theorem fo_at {r : Int32} {f : Nat → Int64} : fo 0 r f (0 : Int32).toNatClampNeg = r.toInt64 := by
  show vp_updL f (0 : Int32).toNatClampNeg r.toInt64 (0 : Int32).toNatClampNeg = _
  simp [vp_updL]
theorem ixin {n L j : Nat} (h : 6 * n + 6 ≤ L) (hL : L ≤ 3072) (hj : j < 6) : vp_in (Int32.ofNat (6 * n) + Int32.ofNat j) L := by
  rw [← Int32.ofNat_add]
  have e : (Int32.ofNat (6 * n + j)).toInt = ((6 * n + j : Nat) : Int) := Int32.toInt_ofNat_of_lt (by omega)
  intro q
  rcases q with q | q
  · rw [Int32.lt_iff_toInt_lt, e] at q
    have : (0 : Int32).toInt = 0 := rfl
    omega
  · have : (Int32.ofNat (6 * n + j)).toNatClampNeg = 6 * n + j := by
      show (Int32.ofNat (6 * n + j)).toInt.toNat = _
      rw [e]
      rfl
    omega
theorem ixnext (n : Nat) : Int32.ofNat (6 * n) + 6 = Int32.ofNat (6 * (n + 1)) := by
  rw [show (6 : Int32) = Int32.ofNat 6 from rfl, ← Int32.ofNat_add]
  congr 1
theorem ixgo {n L : Nat} (hn : 6 * n ≤ 3078) (hL : L ≤ 3072) (h : ¬ Int32.ofNat (6 * n) > Int32.ofNat L - 6) : 6 * n + 6 ≤ L := by
  have e1 : (Int32.ofNat (6 * n)).toInt = ((6 * n : Nat) : Int) := Int32.toInt_ofNat_of_lt (by omega)
  have e2 : (Int32.ofNat L).toInt = (L : Int) := Int32.toInt_ofNat_of_lt (by omega)
  have e3 : (Int32.ofNat L - 6).toInt = (L : Int) - 6 := by
    rw [Int32.toInt_sub, e2, show (6 : Int32).toInt = 6 from rfl]
    rw [Int.bmod_eq_of_le (by omega) (by omega)]
  have h : ¬ (Int32.ofNat L - 6) < Int32.ofNat (6 * n) := h
  rw [Int32.lt_iff_toInt_lt, e1, e3] at h
  omega
section LAW
variable {p : Program} {l : Launch} {e : Env} {s : State} {m : MethodId} {below : List Frame} {meth : Method} {c : Code} {b L : Nat} {xs : Nat → Int32} {D : va_G} {ct : Nat → ClassId} {H : Heap} {locs : List Loc} {ls : Array Slot} {cells slots : Nat} {Inv : Sto → Sto → Prop} {cmp : Nat → Prop} {i : Int32} {qx qr : Nat → Nat} {o : Nat} {f : Nat → Int64} {MX MR : Sto}
set_option maxHeartbeats 1000000 in
set_option maxRecDepth 20000 in
theorem law_case0 (C0 : Cx p s m #[Value.ref b] c code 7 "NameForgeLaw" D ct) (hX : va_X b L xs s s.heap) (hbl : b < s.heap.size) (hr : meth.sig.returnType = ret) (hlk : meth.locks = false) (htl : l.stackTraces = false) (hS : Steps Inv cmp) (hj : ∀ j : Nat, j < 6 → vp_in (i + Int32.ofNat j) L) (hI : Inv MX MR) (hcs : cells + 1 ≤ room_1.cells) (hss : slots + 6 ≤ room_1.slots) (KK : ∀ (MX MR : Sto) (f : Nat → Int64) (H : Heap) (locs : List Loc) (ls : Array Slot), Inv MX MR → Wd D (lA s) s (wR ct qr MR ++ ([(o, .inl (ct 2, 1, .inr (.inl f)))] ++ wX ct qx MX)) H locs → lv_has ls 7 [(4, .int i), (3, .ref o), (2, .ref (qr 0)), (1, .ref (qx 0)), (0, .ref b)] → W p l e room_1 s m #[Value.ref b] below meth c H locs (cells + 1) (slots + 6) (lw_Z below #[Value.ref b] s) (F0 m 736 ls [])) (w : Wd D (lA s) s (wR ct qr MR ++ ([(o, .inl (ct 2, 1, .inr (.inl f)))] ++ wX ct qx MX)) H locs) (hl : lv_has ls 7 [(4, .int i), (3, .ref o), (2, .ref (qr 0)), (1, .ref (qx 0)), (0, .ref b)]) : W p l e room_1 s m #[Value.ref b] below meth c H locs cells slots (lw_Z below #[Value.ref b] s) (F0 m 124 ls []) := by
  have hx := C0.1
  have hb := C0.2.1
  have hbA : ¬ lA s b := fun h => absurd hbl (Nat.not_lt.mpr h)
  refine lv_aload_n hx hb d_L_law_124 rfl (lv_at hl 3 rfl) ?_
  refine lv_aload_n hx hb d_L_law_125 rfl (lv_at hl 1 rfl) ?_
  obtain ⟨cz, rz, MX1, r2, MR1, hx1, hcz, hy1, hI1, hcm⟩ := (hS MX MR hI).1
  refine S_sh C0 w (rest := []) (h_block l htl D ct qx o f hx1 hcz) wd_387 wd_385 wd_386 wd_0 (n9 := 2) (by decide +kernel) rfl ⟨(Nat.le_of_ble_eq_true rfl), (Nat.le_of_ble_eq_true rfl)⟩ hl.1 rfl (Nat.le_of_ble_eq_true rfl) d_L_law_126 hcs hss (fun H locs w => ?_)
  have w : Wd D (lA s) s (wR ct qr MR ++ ([(o, .inl (ct 2, 1, .inr (.inl (fo cz rz f))))] ++ wX ct qx MX1)) H _ := w
  refine lv_istore hx hb d_L_law_129 hl (by decide) rfl (fun ls hl => ?_)
  have hl : lv_has ls 7 [(5, .int (kc 2 cz)), (4, .int i), (3, .ref o), (2, .ref (qr 0)), (1, .ref (qx 0)), (0, .ref b)] := hl
  refine lv_aload_n hx hb d_L_law_131 rfl (lv_at hl 3 rfl) ?_
  have w := w.swap
  refine S_vi C0 w (rest := []) 0 (wU_at (by decide)) rfl (c_R_block l D ct qr hy1) wd_959 wd_956 wd_957 wd_958 wd_8 (n9 := 0) (by decide +kernel) rfl ⟨(Nat.le_of_ble_eq_true rfl), (Nat.le_of_ble_eq_true rfl)⟩ hl.1 rfl (Nat.le_of_ble_eq_true rfl) d_L_law_132 hcs hss (fun H locs w => ?_)
  refine lv_istore hx hb d_L_law_135 hl (by decide) rfl (fun ls hl => ?_)
  have hl : lv_has ls 7 [(6, .int r2), (5, .int (kc 2 cz)), (4, .int i), (3, .ref o), (2, .ref (qr 0)), (1, .ref (qx 0)), (0, .ref b)] := hl
  refine lv_goto (tgt := 736) hx hb d_L_law_137 (by decide) ?_
  have w := w.swap
  exact KK _ _ _ _ _ _ hI1 w (lv_sub hl [2, 3, 4, 5, 6] rfl)
set_option maxHeartbeats 1000000 in
set_option maxRecDepth 20000 in
theorem law_case1 (C0 : Cx p s m #[Value.ref b] c code 7 "NameForgeLaw" D ct) (hX : va_X b L xs s s.heap) (hbl : b < s.heap.size) (hr : meth.sig.returnType = ret) (hlk : meth.locks = false) (htl : l.stackTraces = false) (hS : Steps Inv cmp) (hj : ∀ j : Nat, j < 6 → vp_in (i + Int32.ofNat j) L) (hI : Inv MX MR) (hcs : cells + 1 ≤ room_1.cells) (hss : slots + 6 ≤ room_1.slots) (KK : ∀ (MX MR : Sto) (f : Nat → Int64) (H : Heap) (locs : List Loc) (ls : Array Slot), Inv MX MR → Wd D (lA s) s (wR ct qr MR ++ ([(o, .inl (ct 2, 1, .inr (.inl f)))] ++ wX ct qx MX)) H locs → lv_has ls 7 [(4, .int i), (3, .ref o), (2, .ref (qr 0)), (1, .ref (qx 0)), (0, .ref b)] → W p l e room_1 s m #[Value.ref b] below meth c H locs (cells + 1) (slots + 6) (lw_Z below #[Value.ref b] s) (F0 m 736 ls [])) (w : Wd D (lA s) s (wR ct qr MR ++ ([(o, .inl (ct 2, 1, .inr (.inl f)))] ++ wX ct qx MX)) H locs) (hl : lv_has ls 7 [(4, .int i), (3, .ref o), (2, .ref (qr 0)), (1, .ref (qx 0)), (0, .ref b)]) : W p l e room_1 s m #[Value.ref b] below meth c H locs cells slots (lw_Z below #[Value.ref b] s) (F0 m 140 ls []) := by
  have hx := C0.1
  have hb := C0.2.1
  have hbA : ¬ lA s b := fun h => absurd hbl (Nat.not_lt.mpr h)
  refine lv_aload_n hx hb d_L_law_140 rfl (lv_at hl 3 rfl) ?_
  refine lv_aload_n hx hb d_L_law_141 rfl (lv_at hl 4 rfl) ?_
  refine lv_iload hx hb d_L_law_142 (lv_at hl 0 rfl) ?_
  refine lv_iconst (v := 1) hx hb d_L_law_144 (by decide) ?_
  refine lv_iadd hx hb d_L_law_145 ?_
  refine va_sld hx hb hX hbl hbA w.2.2.1 (hj 1 (by decide)) d_L_law_146 ?_
  refine lv_aload_n hx hb d_L_law_147 rfl (lv_at hl 4 rfl) ?_
  refine lv_iload hx hb d_L_law_148 (lv_at hl 0 rfl) ?_
  refine lv_iconst (v := 2) hx hb d_L_law_150 (by decide) ?_
  refine lv_iadd hx hb d_L_law_151 ?_
  refine va_sld hx hb hX hbl hbA w.2.2.1 (hj 2 (by decide)) d_L_law_152 ?_
  refine lv_aload_n hx hb d_L_law_153 rfl (lv_at hl 4 rfl) ?_
  refine lv_iload hx hb d_L_law_154 (lv_at hl 0 rfl) ?_
  refine lv_iconst (v := 3) hx hb d_L_law_156 (by decide) ?_
  refine lv_iadd hx hb d_L_law_157 ?_
  refine va_sld hx hb hX hbl hbA w.2.2.1 (hj 3 (by decide)) d_L_law_158 ?_
  refine lv_aload_n hx hb d_L_law_159 rfl (lv_at hl 4 rfl) ?_
  refine lv_iload hx hb d_L_law_160 (lv_at hl 0 rfl) ?_
  refine lv_iconst (v := 4) hx hb d_L_law_162 (by decide) ?_
  refine lv_iadd hx hb d_L_law_163 ?_
  refine va_sld hx hb hX hbl hbA w.2.2.1 (hj 4 (by decide)) d_L_law_164 ?_
  refine lv_aload_n hx hb d_L_law_165 rfl (lv_at hl 4 rfl) ?_
  refine lv_iload hx hb d_L_law_166 (lv_at hl 0 rfl) ?_
  refine lv_iconst (v := 5) hx hb d_L_law_168 (by decide) ?_
  refine lv_iadd hx hb d_L_law_169 ?_
  refine va_sld hx hb hX hbl hbA w.2.2.1 (hj 5 (by decide)) d_L_law_170 ?_
  refine lv_aload_n hx hb d_L_law_171 rfl (lv_at hl 1 rfl) ?_
  obtain ⟨cz, rz, MX1, r2, MR1, hx1, hcz, hy1, hI1, hcm⟩ := (hS MX MR hI).2.1 (xs (i + 1).toNatClampNeg) (xs (i + 2).toNatClampNeg) (xs (i + 3).toNatClampNeg) (xs (i + 4).toNatClampNeg) (xs (i + 5).toNatClampNeg)
  refine S_sh C0 w (rest := []) (h_put l htl D ct qx o f hx1 hcz) wd_471 wd_469 wd_470 wd_0 (n9 := 7) (by decide +kernel) rfl ⟨(Nat.le_of_ble_eq_true rfl), (Nat.le_of_ble_eq_true rfl)⟩ hl.1 rfl (Nat.le_of_ble_eq_true rfl) d_L_law_172 hcs hss (fun H locs w => ?_)
  have w : Wd D (lA s) s (wR ct qr MR ++ ([(o, .inl (ct 2, 1, .inr (.inl (fo cz rz f))))] ++ wX ct qx MX1)) H _ := w
  refine lv_istore hx hb d_L_law_175 hl (by decide) rfl (fun ls hl => ?_)
  have hl : lv_has ls 7 [(5, .int (kc 1 cz)), (4, .int i), (3, .ref o), (2, .ref (qr 0)), (1, .ref (qx 0)), (0, .ref b)] := hl
  refine lv_aload_n hx hb d_L_law_177 rfl (lv_at hl 3 rfl) ?_
  refine lv_aload_n hx hb d_L_law_178 rfl (lv_at hl 5 rfl) ?_
  refine lv_iload hx hb d_L_law_179 (lv_at hl 1 rfl) ?_
  refine lv_iconst (v := 1) hx hb d_L_law_181 (by decide) ?_
  refine lv_iadd hx hb d_L_law_182 ?_
  refine va_sld hx hb hX hbl hbA w.2.2.1 (hj 1 (by decide)) d_L_law_183 ?_
  refine lv_aload_n hx hb d_L_law_184 rfl (lv_at hl 5 rfl) ?_
  refine lv_iload hx hb d_L_law_185 (lv_at hl 1 rfl) ?_
  refine lv_iconst (v := 2) hx hb d_L_law_187 (by decide) ?_
  refine lv_iadd hx hb d_L_law_188 ?_
  refine va_sld hx hb hX hbl hbA w.2.2.1 (hj 2 (by decide)) d_L_law_189 ?_
  refine lv_aload_n hx hb d_L_law_190 rfl (lv_at hl 5 rfl) ?_
  refine lv_iload hx hb d_L_law_191 (lv_at hl 1 rfl) ?_
  refine lv_iconst (v := 3) hx hb d_L_law_193 (by decide) ?_
  refine lv_iadd hx hb d_L_law_194 ?_
  refine va_sld hx hb hX hbl hbA w.2.2.1 (hj 3 (by decide)) d_L_law_195 ?_
  refine lv_aload_n hx hb d_L_law_196 rfl (lv_at hl 5 rfl) ?_
  refine lv_iload hx hb d_L_law_197 (lv_at hl 1 rfl) ?_
  refine lv_iconst (v := 4) hx hb d_L_law_199 (by decide) ?_
  refine lv_iadd hx hb d_L_law_200 ?_
  refine va_sld hx hb hX hbl hbA w.2.2.1 (hj 4 (by decide)) d_L_law_201 ?_
  refine lv_aload_n hx hb d_L_law_202 rfl (lv_at hl 5 rfl) ?_
  refine lv_iload hx hb d_L_law_203 (lv_at hl 1 rfl) ?_
  refine lv_iconst (v := 5) hx hb d_L_law_205 (by decide) ?_
  refine lv_iadd hx hb d_L_law_206 ?_
  refine va_sld hx hb hX hbl hbA w.2.2.1 (hj 5 (by decide)) d_L_law_207 ?_
  have w := w.swap
  refine S_vi C0 w (rest := []) 0 (wU_at (by decide)) rfl (c_R_put l D ct qr hy1) wd_967 wd_964 wd_965 wd_966 wd_8 (n9 := 5) (by decide +kernel) rfl ⟨(Nat.le_of_ble_eq_true rfl), (Nat.le_of_ble_eq_true rfl)⟩ hl.1 rfl (Nat.le_of_ble_eq_true rfl) d_L_law_208 hcs hss (fun H locs w => ?_)
  refine lv_istore hx hb d_L_law_211 hl (by decide) rfl (fun ls hl => ?_)
  have hl : lv_has ls 7 [(6, .int r2), (5, .int (kc 1 cz)), (4, .int i), (3, .ref o), (2, .ref (qr 0)), (1, .ref (qx 0)), (0, .ref b)] := hl
  refine lv_goto (tgt := 736) hx hb d_L_law_213 (by decide) ?_
  have w := w.swap
  exact KK _ _ _ _ _ _ hI1 w (lv_sub hl [2, 3, 4, 5, 6] rfl)
set_option maxHeartbeats 1000000 in
set_option maxRecDepth 20000 in
theorem law_case2 (C0 : Cx p s m #[Value.ref b] c code 7 "NameForgeLaw" D ct) (hX : va_X b L xs s s.heap) (hbl : b < s.heap.size) (hr : meth.sig.returnType = ret) (hlk : meth.locks = false) (htl : l.stackTraces = false) (hS : Steps Inv cmp) (hj : ∀ j : Nat, j < 6 → vp_in (i + Int32.ofNat j) L) (hI : Inv MX MR) (hcs : cells + 1 ≤ room_1.cells) (hss : slots + 6 ≤ room_1.slots) (KK : ∀ (MX MR : Sto) (f : Nat → Int64) (H : Heap) (locs : List Loc) (ls : Array Slot), Inv MX MR → Wd D (lA s) s (wR ct qr MR ++ ([(o, .inl (ct 2, 1, .inr (.inl f)))] ++ wX ct qx MX)) H locs → lv_has ls 7 [(4, .int i), (3, .ref o), (2, .ref (qr 0)), (1, .ref (qx 0)), (0, .ref b)] → W p l e room_1 s m #[Value.ref b] below meth c H locs (cells + 1) (slots + 6) (lw_Z below #[Value.ref b] s) (F0 m 736 ls [])) (w : Wd D (lA s) s (wR ct qr MR ++ ([(o, .inl (ct 2, 1, .inr (.inl f)))] ++ wX ct qx MX)) H locs) (hl : lv_has ls 7 [(4, .int i), (3, .ref o), (2, .ref (qr 0)), (1, .ref (qx 0)), (0, .ref b)]) : W p l e room_1 s m #[Value.ref b] below meth c H locs cells slots (lw_Z below #[Value.ref b] s) (F0 m 216 ls []) := by
  have hx := C0.1
  have hb := C0.2.1
  have hbA : ¬ lA s b := fun h => absurd hbl (Nat.not_lt.mpr h)
  refine lv_aload_n hx hb d_L_law_216 rfl (lv_at hl 3 rfl) ?_
  refine lv_aload_n hx hb d_L_law_217 rfl (lv_at hl 4 rfl) ?_
  refine lv_iload hx hb d_L_law_218 (lv_at hl 0 rfl) ?_
  refine lv_iconst (v := 1) hx hb d_L_law_220 (by decide) ?_
  refine lv_iadd hx hb d_L_law_221 ?_
  refine va_sld hx hb hX hbl hbA w.2.2.1 (hj 1 (by decide)) d_L_law_222 ?_
  refine lv_aload_n hx hb d_L_law_223 rfl (lv_at hl 4 rfl) ?_
  refine lv_iload hx hb d_L_law_224 (lv_at hl 0 rfl) ?_
  refine lv_iconst (v := 2) hx hb d_L_law_226 (by decide) ?_
  refine lv_iadd hx hb d_L_law_227 ?_
  refine va_sld hx hb hX hbl hbA w.2.2.1 (hj 2 (by decide)) d_L_law_228 ?_
  obtain ⟨cz, rz, MX1, r2, MR1, hx1, hcz, hy1, hI1, hcm⟩ := (hS MX MR hI).2.2.1 (xs (i + 1).toNatClampNeg) (xs (i + 2).toNatClampNeg)
  have w := w.assoc
  refine S_sh C0 w (rest := []) (h_go l htl D ct qx hx1 hcz) wd_519 wd_517 wd_518 wd_0 (n9 := 3) (by decide +kernel) rfl ⟨(Nat.le_of_ble_eq_true rfl), (Nat.le_of_ble_eq_true rfl)⟩ hl.1 rfl (Nat.le_of_ble_eq_true rfl) d_L_law_229 hcs hss (fun H locs w => ?_)
  refine lv_istore hx hb d_L_law_232 hl (by decide) rfl (fun ls hl => ?_)
  have hl : lv_has ls 7 [(5, .int (kc 1 cz)), (4, .int i), (3, .ref o), (2, .ref (qr 0)), (1, .ref (qx 0)), (0, .ref b)] := hl
  refine lv_aload_n hx hb d_L_law_234 rfl (lv_at hl 3 rfl) ?_
  refine lv_aload_n hx hb d_L_law_235 rfl (lv_at hl 5 rfl) ?_
  refine lv_iload hx hb d_L_law_236 (lv_at hl 1 rfl) ?_
  refine lv_iconst (v := 1) hx hb d_L_law_238 (by decide) ?_
  refine lv_iadd hx hb d_L_law_239 ?_
  refine va_sld hx hb hX hbl hbA w.2.2.1 (hj 1 (by decide)) d_L_law_240 ?_
  refine lv_aload_n hx hb d_L_law_241 rfl (lv_at hl 5 rfl) ?_
  refine lv_iload hx hb d_L_law_242 (lv_at hl 1 rfl) ?_
  refine lv_iconst (v := 2) hx hb d_L_law_244 (by decide) ?_
  refine lv_iadd hx hb d_L_law_245 ?_
  refine va_sld hx hb hX hbl hbA w.2.2.1 (hj 2 (by decide)) d_L_law_246 ?_
  have w := w.assoc'
  have w := w.swap
  refine S_vv C0 w (rest := []) 0 (wU_at (by decide)) rfl (c_R_go l D ct qr hy1) wd_987 wd_984 wd_985 wd_986 wd_8 (n9 := 2) (by decide +kernel) rfl ⟨(Nat.le_of_ble_eq_true rfl), (Nat.le_of_ble_eq_true rfl)⟩ hl.1 rfl (Nat.le_of_ble_eq_true rfl) d_L_law_247 hcs hss (fun H locs w => ?_)
  refine lv_goto (tgt := 736) hx hb d_L_law_250 (by decide) ?_
  have w := w.swap
  exact KK _ _ _ _ _ _ hI1 w (lv_sub hl [1, 2, 3, 4, 5] rfl)
set_option maxHeartbeats 1000000 in
set_option maxRecDepth 20000 in
theorem law_case3 (C0 : Cx p s m #[Value.ref b] c code 7 "NameForgeLaw" D ct) (hX : va_X b L xs s s.heap) (hbl : b < s.heap.size) (hr : meth.sig.returnType = ret) (hlk : meth.locks = false) (htl : l.stackTraces = false) (hS : Steps Inv cmp) (hj : ∀ j : Nat, j < 6 → vp_in (i + Int32.ofNat j) L) (hI : Inv MX MR) (hcs : cells + 1 ≤ room_1.cells) (hss : slots + 6 ≤ room_1.slots) (KK : ∀ (MX MR : Sto) (f : Nat → Int64) (H : Heap) (locs : List Loc) (ls : Array Slot), Inv MX MR → Wd D (lA s) s (wR ct qr MR ++ ([(o, .inl (ct 2, 1, .inr (.inl f)))] ++ wX ct qx MX)) H locs → lv_has ls 7 [(4, .int i), (3, .ref o), (2, .ref (qr 0)), (1, .ref (qx 0)), (0, .ref b)] → W p l e room_1 s m #[Value.ref b] below meth c H locs (cells + 1) (slots + 6) (lw_Z below #[Value.ref b] s) (F0 m 736 ls [])) (w : Wd D (lA s) s (wR ct qr MR ++ ([(o, .inl (ct 2, 1, .inr (.inl f)))] ++ wX ct qx MX)) H locs) (hl : lv_has ls 7 [(4, .int i), (3, .ref o), (2, .ref (qr 0)), (1, .ref (qx 0)), (0, .ref b)]) : W p l e room_1 s m #[Value.ref b] below meth c H locs cells slots (lw_Z below #[Value.ref b] s) (F0 m 253 ls []) := by
  have hx := C0.1
  have hb := C0.2.1
  have hbA : ¬ lA s b := fun h => absurd hbl (Nat.not_lt.mpr h)
  refine lv_aload_n hx hb d_L_law_253 rfl (lv_at hl 3 rfl) ?_
  refine lv_aload_n hx hb d_L_law_254 rfl (lv_at hl 4 rfl) ?_
  refine lv_iload hx hb d_L_law_255 (lv_at hl 0 rfl) ?_
  refine lv_iconst (v := 1) hx hb d_L_law_257 (by decide) ?_
  refine lv_iadd hx hb d_L_law_258 ?_
  refine va_sld hx hb hX hbl hbA w.2.2.1 (hj 1 (by decide)) d_L_law_259 ?_
  refine lv_aload_n hx hb d_L_law_260 rfl (lv_at hl 4 rfl) ?_
  refine lv_iload hx hb d_L_law_261 (lv_at hl 0 rfl) ?_
  refine lv_iconst (v := 2) hx hb d_L_law_263 (by decide) ?_
  refine lv_iadd hx hb d_L_law_264 ?_
  refine va_sld hx hb hX hbl hbA w.2.2.1 (hj 2 (by decide)) d_L_law_265 ?_
  refine lv_aload_n hx hb d_L_law_266 rfl (lv_at hl 4 rfl) ?_
  refine lv_iload hx hb d_L_law_267 (lv_at hl 0 rfl) ?_
  refine lv_iconst (v := 3) hx hb d_L_law_269 (by decide) ?_
  refine lv_iadd hx hb d_L_law_270 ?_
  refine va_sld hx hb hX hbl hbA w.2.2.1 (hj 3 (by decide)) d_L_law_271 ?_
  refine lv_aload_n hx hb d_L_law_272 rfl (lv_at hl 4 rfl) ?_
  refine lv_iload hx hb d_L_law_273 (lv_at hl 0 rfl) ?_
  refine lv_iconst (v := 4) hx hb d_L_law_275 (by decide) ?_
  refine lv_iadd hx hb d_L_law_276 ?_
  refine va_sld hx hb hX hbl hbA w.2.2.1 (hj 4 (by decide)) d_L_law_277 ?_
  obtain ⟨cz, rz, MX1, r2, MR1, hx1, hcz, hy1, hI1, hcm⟩ := (hS MX MR hI).2.2.2.1 (xs (i + 1).toNatClampNeg) (xs (i + 2).toNatClampNeg) (xs (i + 3).toNatClampNeg) (xs (i + 4).toNatClampNeg)
  have w := w.assoc
  refine S_sh C0 w (rest := []) (h_fork l htl D ct qx hx1 hcz) wd_533 wd_531 wd_532 wd_0 (n9 := 5) (by decide +kernel) rfl ⟨(Nat.le_of_ble_eq_true rfl), (Nat.le_of_ble_eq_true rfl)⟩ hl.1 rfl (Nat.le_of_ble_eq_true rfl) d_L_law_278 hcs hss (fun H locs w => ?_)
  refine lv_istore hx hb d_L_law_281 hl (by decide) rfl (fun ls hl => ?_)
  have hl : lv_has ls 7 [(5, .int (kc 1 cz)), (4, .int i), (3, .ref o), (2, .ref (qr 0)), (1, .ref (qx 0)), (0, .ref b)] := hl
  refine lv_aload_n hx hb d_L_law_283 rfl (lv_at hl 3 rfl) ?_
  refine lv_aload_n hx hb d_L_law_284 rfl (lv_at hl 5 rfl) ?_
  refine lv_iload hx hb d_L_law_285 (lv_at hl 1 rfl) ?_
  refine lv_iconst (v := 1) hx hb d_L_law_287 (by decide) ?_
  refine lv_iadd hx hb d_L_law_288 ?_
  refine va_sld hx hb hX hbl hbA w.2.2.1 (hj 1 (by decide)) d_L_law_289 ?_
  refine lv_aload_n hx hb d_L_law_290 rfl (lv_at hl 5 rfl) ?_
  refine lv_iload hx hb d_L_law_291 (lv_at hl 1 rfl) ?_
  refine lv_iconst (v := 2) hx hb d_L_law_293 (by decide) ?_
  refine lv_iadd hx hb d_L_law_294 ?_
  refine va_sld hx hb hX hbl hbA w.2.2.1 (hj 2 (by decide)) d_L_law_295 ?_
  refine lv_aload_n hx hb d_L_law_296 rfl (lv_at hl 5 rfl) ?_
  refine lv_iload hx hb d_L_law_297 (lv_at hl 1 rfl) ?_
  refine lv_iconst (v := 3) hx hb d_L_law_299 (by decide) ?_
  refine lv_iadd hx hb d_L_law_300 ?_
  refine va_sld hx hb hX hbl hbA w.2.2.1 (hj 3 (by decide)) d_L_law_301 ?_
  refine lv_aload_n hx hb d_L_law_302 rfl (lv_at hl 5 rfl) ?_
  refine lv_iload hx hb d_L_law_303 (lv_at hl 1 rfl) ?_
  refine lv_iconst (v := 4) hx hb d_L_law_305 (by decide) ?_
  refine lv_iadd hx hb d_L_law_306 ?_
  refine va_sld hx hb hX hbl hbA w.2.2.1 (hj 4 (by decide)) d_L_law_307 ?_
  have w := w.assoc'
  have w := w.swap
  refine S_vv C0 w (rest := []) 0 (wU_at (by decide)) rfl (c_R_fork l D ct qr hy1) wd_995 wd_992 wd_993 wd_994 wd_8 (n9 := 4) (by decide +kernel) rfl ⟨(Nat.le_of_ble_eq_true rfl), (Nat.le_of_ble_eq_true rfl)⟩ hl.1 rfl (Nat.le_of_ble_eq_true rfl) d_L_law_308 hcs hss (fun H locs w => ?_)
  refine lv_goto (tgt := 736) hx hb d_L_law_311 (by decide) ?_
  have w := w.swap
  exact KK _ _ _ _ _ _ hI1 w (lv_sub hl [1, 2, 3, 4, 5] rfl)
set_option maxHeartbeats 1000000 in
set_option maxRecDepth 20000 in
theorem law_case4 (C0 : Cx p s m #[Value.ref b] c code 7 "NameForgeLaw" D ct) (hX : va_X b L xs s s.heap) (hbl : b < s.heap.size) (hr : meth.sig.returnType = ret) (hlk : meth.locks = false) (htl : l.stackTraces = false) (hS : Steps Inv cmp) (hj : ∀ j : Nat, j < 6 → vp_in (i + Int32.ofNat j) L) (hI : Inv MX MR) (hcs : cells + 1 ≤ room_1.cells) (hss : slots + 6 ≤ room_1.slots) (KK : ∀ (MX MR : Sto) (f : Nat → Int64) (H : Heap) (locs : List Loc) (ls : Array Slot), Inv MX MR → Wd D (lA s) s (wR ct qr MR ++ ([(o, .inl (ct 2, 1, .inr (.inl f)))] ++ wX ct qx MX)) H locs → lv_has ls 7 [(4, .int i), (3, .ref o), (2, .ref (qr 0)), (1, .ref (qx 0)), (0, .ref b)] → W p l e room_1 s m #[Value.ref b] below meth c H locs (cells + 1) (slots + 6) (lw_Z below #[Value.ref b] s) (F0 m 736 ls [])) (w : Wd D (lA s) s (wR ct qr MR ++ ([(o, .inl (ct 2, 1, .inr (.inl f)))] ++ wX ct qx MX)) H locs) (hl : lv_has ls 7 [(4, .int i), (3, .ref o), (2, .ref (qr 0)), (1, .ref (qx 0)), (0, .ref b)]) : W p l e room_1 s m #[Value.ref b] below meth c H locs cells slots (lw_Z below #[Value.ref b] s) (F0 m 314 ls []) := by
  have hx := C0.1
  have hb := C0.2.1
  have hbA : ¬ lA s b := fun h => absurd hbl (Nat.not_lt.mpr h)
  refine lv_aload_n hx hb d_L_law_314 rfl (lv_at hl 3 rfl) ?_
  refine lv_aload_n hx hb d_L_law_315 rfl (lv_at hl 4 rfl) ?_
  refine lv_iload hx hb d_L_law_316 (lv_at hl 0 rfl) ?_
  refine lv_iconst (v := 1) hx hb d_L_law_318 (by decide) ?_
  refine lv_iadd hx hb d_L_law_319 ?_
  refine va_sld hx hb hX hbl hbA w.2.2.1 (hj 1 (by decide)) d_L_law_320 ?_
  obtain ⟨cz, rz, MX1, r2, MR1, hx1, hcz, hy1, hI1, hcm⟩ := (hS MX MR hI).2.2.2.2.1 (xs (i + 1).toNatClampNeg)
  have w := w.assoc
  refine S_sh C0 w (rest := []) (h_stop l htl D ct qx hx1 hcz) wd_541 wd_539 wd_540 wd_0 (n9 := 2) (by decide +kernel) rfl ⟨(Nat.le_of_ble_eq_true rfl), (Nat.le_of_ble_eq_true rfl)⟩ hl.1 rfl (Nat.le_of_ble_eq_true rfl) d_L_law_321 hcs hss (fun H locs w => ?_)
  refine lv_istore hx hb d_L_law_324 hl (by decide) rfl (fun ls hl => ?_)
  have hl : lv_has ls 7 [(5, .int (kc 1 cz)), (4, .int i), (3, .ref o), (2, .ref (qr 0)), (1, .ref (qx 0)), (0, .ref b)] := hl
  refine lv_aload_n hx hb d_L_law_326 rfl (lv_at hl 3 rfl) ?_
  refine lv_aload_n hx hb d_L_law_327 rfl (lv_at hl 5 rfl) ?_
  refine lv_iload hx hb d_L_law_328 (lv_at hl 1 rfl) ?_
  refine lv_iconst (v := 1) hx hb d_L_law_330 (by decide) ?_
  refine lv_iadd hx hb d_L_law_331 ?_
  refine va_sld hx hb hX hbl hbA w.2.2.1 (hj 1 (by decide)) d_L_law_332 ?_
  have w := w.assoc'
  have w := w.swap
  refine S_vv C0 w (rest := []) 0 (wU_at (by decide)) rfl (c_R_stop l D ct qr hy1) wd_999 wd_996 wd_997 wd_998 wd_8 (n9 := 1) (by decide +kernel) rfl ⟨(Nat.le_of_ble_eq_true rfl), (Nat.le_of_ble_eq_true rfl)⟩ hl.1 rfl (Nat.le_of_ble_eq_true rfl) d_L_law_333 hcs hss (fun H locs w => ?_)
  refine lv_goto (tgt := 736) hx hb d_L_law_336 (by decide) ?_
  have w := w.swap
  exact KK _ _ _ _ _ _ hI1 w (lv_sub hl [1, 2, 3, 4, 5] rfl)
set_option maxHeartbeats 1000000 in
set_option maxRecDepth 20000 in
theorem law_case5 (C0 : Cx p s m #[Value.ref b] c code 7 "NameForgeLaw" D ct) (hX : va_X b L xs s s.heap) (hbl : b < s.heap.size) (hr : meth.sig.returnType = ret) (hlk : meth.locks = false) (htl : l.stackTraces = false) (hS : Steps Inv cmp) (hj : ∀ j : Nat, j < 6 → vp_in (i + Int32.ofNat j) L) (hI : Inv MX MR) (hcs : cells + 1 ≤ room_1.cells) (hss : slots + 6 ≤ room_1.slots) (KK : ∀ (MX MR : Sto) (f : Nat → Int64) (H : Heap) (locs : List Loc) (ls : Array Slot), Inv MX MR → Wd D (lA s) s (wR ct qr MR ++ ([(o, .inl (ct 2, 1, .inr (.inl f)))] ++ wX ct qx MX)) H locs → lv_has ls 7 [(4, .int i), (3, .ref o), (2, .ref (qr 0)), (1, .ref (qx 0)), (0, .ref b)] → W p l e room_1 s m #[Value.ref b] below meth c H locs (cells + 1) (slots + 6) (lw_Z below #[Value.ref b] s) (F0 m 736 ls [])) (w : Wd D (lA s) s (wR ct qr MR ++ ([(o, .inl (ct 2, 1, .inr (.inl f)))] ++ wX ct qx MX)) H locs) (hl : lv_has ls 7 [(4, .int i), (3, .ref o), (2, .ref (qr 0)), (1, .ref (qx 0)), (0, .ref b)]) : W p l e room_1 s m #[Value.ref b] below meth c H locs cells slots (lw_Z below #[Value.ref b] s) (F0 m 339 ls []) := by
  have hx := C0.1
  have hb := C0.2.1
  have hbA : ¬ lA s b := fun h => absurd hbl (Nat.not_lt.mpr h)
  refine lv_aload_n hx hb d_L_law_339 rfl (lv_at hl 3 rfl) ?_
  obtain ⟨rz, MX1, r2, MR1, hx1, hy1, hI1, hcm⟩ := (hS MX MR hI).2.2.2.2.2.1
  have w := w.assoc
  refine S_vv C0 w (rest := []) 0 (wU_at (by decide)) rfl (c_N_clear l D ct qx hx1) wd_364 wd_361 wd_362 wd_363 wd_1 (n9 := 0) (by decide +kernel) rfl ⟨(Nat.le_of_ble_eq_true rfl), (Nat.le_of_ble_eq_true rfl)⟩ hl.1 rfl (Nat.le_of_ble_eq_true rfl) d_L_law_340 (by omega) (by omega) (fun H locs w => ?_)
  refine lv_aload_n hx hb d_L_law_343 rfl (lv_at hl 2 rfl) ?_
  have w := w.assoc'
  have w := w.swap
  refine S_vv C0 w (rest := []) 0 (wU_at (by decide)) rfl (c_R_clear l D ct qr hy1) wd_1003 wd_1000 wd_1001 wd_1002 wd_8 (n9 := 0) (by decide +kernel) rfl ⟨(Nat.le_of_ble_eq_true rfl), (Nat.le_of_ble_eq_true rfl)⟩ hl.1 rfl (Nat.le_of_ble_eq_true rfl) d_L_law_344 (by omega) (by omega) (fun H locs w => ?_)
  refine lv_goto (tgt := 736) hx hb d_L_law_347 (by decide) ?_
  have w := w.swap
  refine W.widen (k := cells + 1) (n := slots + 6) (by omega) (by omega) ?_
  exact KK _ _ _ _ _ _ hI1 w (lv_sub hl [0, 1, 2, 3, 4] rfl)
set_option maxHeartbeats 1000000 in
set_option maxRecDepth 20000 in
theorem law_case6 (C0 : Cx p s m #[Value.ref b] c code 7 "NameForgeLaw" D ct) (hX : va_X b L xs s s.heap) (hbl : b < s.heap.size) (hr : meth.sig.returnType = ret) (hlk : meth.locks = false) (htl : l.stackTraces = false) (hS : Steps Inv cmp) (hj : ∀ j : Nat, j < 6 → vp_in (i + Int32.ofNat j) L) (hI : Inv MX MR) (hcs : cells + 1 ≤ room_1.cells) (hss : slots + 6 ≤ room_1.slots) (KK : ∀ (MX MR : Sto) (f : Nat → Int64) (H : Heap) (locs : List Loc) (ls : Array Slot), Inv MX MR → Wd D (lA s) s (wR ct qr MR ++ ([(o, .inl (ct 2, 1, .inr (.inl f)))] ++ wX ct qx MX)) H locs → lv_has ls 7 [(4, .int i), (3, .ref o), (2, .ref (qr 0)), (1, .ref (qx 0)), (0, .ref b)] → W p l e room_1 s m #[Value.ref b] below meth c H locs (cells + 1) (slots + 6) (lw_Z below #[Value.ref b] s) (F0 m 736 ls [])) (w : Wd D (lA s) s (wR ct qr MR ++ ([(o, .inl (ct 2, 1, .inr (.inl f)))] ++ wX ct qx MX)) H locs) (hl : lv_has ls 7 [(4, .int i), (3, .ref o), (2, .ref (qr 0)), (1, .ref (qx 0)), (0, .ref b)]) : W p l e room_1 s m #[Value.ref b] below meth c H locs cells slots (lw_Z below #[Value.ref b] s) (F0 m 350 ls []) := by
  have hx := C0.1
  have hb := C0.2.1
  have hbA : ¬ lA s b := fun h => absurd hbl (Nat.not_lt.mpr h)
  refine lv_aload_n hx hb d_L_law_350 rfl (lv_at hl 3 rfl) ?_
  refine lv_aload_n hx hb d_L_law_351 rfl (lv_at hl 1 rfl) ?_
  obtain ⟨cz, rz, MX1, r2, MR1, hx1, hcz, hy1, hI1, hcm⟩ := (hS MX MR hI).2.2.2.2.2.2.1
  refine S_sh C0 w (rest := []) (h_build l htl D ct qx o f hx1 hcz) wd_549 wd_547 wd_548 wd_0 (n9 := 2) (by decide +kernel) rfl ⟨(Nat.le_of_ble_eq_true rfl), (Nat.le_of_ble_eq_true rfl)⟩ hl.1 rfl (Nat.le_of_ble_eq_true rfl) d_L_law_352 hcs hss (fun H locs w => ?_)
  have w : Wd D (lA s) s (wR ct qr MR ++ ([(o, .inl (ct 2, 1, .inr (.inl (fo cz rz f))))] ++ wX ct qx MX1)) H _ := w
  refine lv_istore hx hb d_L_law_355 hl (by decide) rfl (fun ls hl => ?_)
  have hl : lv_has ls 7 [(5, .int (kc 2 cz)), (4, .int i), (3, .ref o), (2, .ref (qr 0)), (1, .ref (qx 0)), (0, .ref b)] := hl
  refine lv_aload_n hx hb d_L_law_357 rfl (lv_at hl 3 rfl) ?_
  have w := w.swap
  refine S_vi C0 w (rest := []) 0 (wU_at (by decide)) rfl (c_R_build l D ct qr hy1) wd_1007 wd_1004 wd_1005 wd_1006 wd_8 (n9 := 0) (by decide +kernel) rfl ⟨(Nat.le_of_ble_eq_true rfl), (Nat.le_of_ble_eq_true rfl)⟩ hl.1 rfl (Nat.le_of_ble_eq_true rfl) d_L_law_358 hcs hss (fun H locs w => ?_)
  refine lv_istore hx hb d_L_law_361 hl (by decide) rfl (fun ls hl => ?_)
  have hl : lv_has ls 7 [(6, .int r2), (5, .int (kc 2 cz)), (4, .int i), (3, .ref o), (2, .ref (qr 0)), (1, .ref (qx 0)), (0, .ref b)] := hl
  refine lv_goto (tgt := 736) hx hb d_L_law_363 (by decide) ?_
  have w := w.swap
  exact KK _ _ _ _ _ _ hI1 w (lv_sub hl [2, 3, 4, 5, 6] rfl)
set_option maxHeartbeats 1000000 in
set_option maxRecDepth 20000 in
theorem law_case7 (C0 : Cx p s m #[Value.ref b] c code 7 "NameForgeLaw" D ct) (hX : va_X b L xs s s.heap) (hbl : b < s.heap.size) (hr : meth.sig.returnType = ret) (hlk : meth.locks = false) (htl : l.stackTraces = false) (hS : Steps Inv cmp) (hj : ∀ j : Nat, j < 6 → vp_in (i + Int32.ofNat j) L) (hI : Inv MX MR) (hcs : cells + 1 ≤ room_1.cells) (hss : slots + 6 ≤ room_1.slots) (KK : ∀ (MX MR : Sto) (f : Nat → Int64) (H : Heap) (locs : List Loc) (ls : Array Slot), Inv MX MR → Wd D (lA s) s (wR ct qr MR ++ ([(o, .inl (ct 2, 1, .inr (.inl f)))] ++ wX ct qx MX)) H locs → lv_has ls 7 [(4, .int i), (3, .ref o), (2, .ref (qr 0)), (1, .ref (qx 0)), (0, .ref b)] → W p l e room_1 s m #[Value.ref b] below meth c H locs (cells + 1) (slots + 6) (lw_Z below #[Value.ref b] s) (F0 m 736 ls [])) (w : Wd D (lA s) s (wR ct qr MR ++ ([(o, .inl (ct 2, 1, .inr (.inl f)))] ++ wX ct qx MX)) H locs) (hl : lv_has ls 7 [(4, .int i), (3, .ref o), (2, .ref (qr 0)), (1, .ref (qx 0)), (0, .ref b)]) : W p l e room_1 s m #[Value.ref b] below meth c H locs cells slots (lw_Z below #[Value.ref b] s) (F0 m 366 ls []) := by
  have hx := C0.1
  have hb := C0.2.1
  have hbA : ¬ lA s b := fun h => absurd hbl (Nat.not_lt.mpr h)
  refine lv_aload_n hx hb d_L_law_366 rfl (lv_at hl 3 rfl) ?_
  refine lv_aload_n hx hb d_L_law_367 rfl (lv_at hl 4 rfl) ?_
  refine lv_iload hx hb d_L_law_368 (lv_at hl 0 rfl) ?_
  refine lv_iconst (v := 1) hx hb d_L_law_370 (by decide) ?_
  refine lv_iadd hx hb d_L_law_371 ?_
  refine va_sld hx hb hX hbl hbA w.2.2.1 (hj 1 (by decide)) d_L_law_372 ?_
  refine lv_aload_n hx hb d_L_law_373 rfl (lv_at hl 4 rfl) ?_
  refine lv_iload hx hb d_L_law_374 (lv_at hl 0 rfl) ?_
  refine lv_iconst (v := 2) hx hb d_L_law_376 (by decide) ?_
  refine lv_iadd hx hb d_L_law_377 ?_
  refine va_sld hx hb hX hbl hbA w.2.2.1 (hj 2 (by decide)) d_L_law_378 ?_
  refine lv_aload_n hx hb d_L_law_379 rfl (lv_at hl 1 rfl) ?_
  obtain ⟨cz, rz, MX1, r2, MR1, hx1, hcz, hy1, hI1, hcm⟩ := (hS MX MR hI).2.2.2.2.2.2.2.1 (xs (i + 1).toNatClampNeg) (xs (i + 2).toNatClampNeg)
  refine S_sh C0 w (rest := []) (h_look l htl D ct qx o f hx1 hcz) wd_690 wd_688 wd_689 wd_0 (n9 := 4) (by decide +kernel) rfl ⟨(Nat.le_of_ble_eq_true rfl), (Nat.le_of_ble_eq_true rfl)⟩ hl.1 rfl (Nat.le_of_ble_eq_true rfl) d_L_law_380 hcs hss (fun H locs w => ?_)
  have w : Wd D (lA s) s (wR ct qr MR ++ ([(o, .inl (ct 2, 1, .inr (.inl (fo cz rz f))))] ++ wX ct qx MX1)) H _ := w
  refine lv_istore hx hb d_L_law_383 hl (by decide) rfl (fun ls hl => ?_)
  have hl : lv_has ls 7 [(5, .int (kc 3 cz)), (4, .int i), (3, .ref o), (2, .ref (qr 0)), (1, .ref (qx 0)), (0, .ref b)] := hl
  refine lv_aload_n hx hb d_L_law_385 rfl (lv_at hl 3 rfl) ?_
  refine lv_aload_n hx hb d_L_law_386 rfl (lv_at hl 5 rfl) ?_
  refine lv_iload hx hb d_L_law_387 (lv_at hl 1 rfl) ?_
  refine lv_iconst (v := 1) hx hb d_L_law_389 (by decide) ?_
  refine lv_iadd hx hb d_L_law_390 ?_
  refine va_sld hx hb hX hbl hbA w.2.2.1 (hj 1 (by decide)) d_L_law_391 ?_
  refine lv_aload_n hx hb d_L_law_392 rfl (lv_at hl 5 rfl) ?_
  refine lv_iload hx hb d_L_law_393 (lv_at hl 1 rfl) ?_
  refine lv_iconst (v := 2) hx hb d_L_law_395 (by decide) ?_
  refine lv_iadd hx hb d_L_law_396 ?_
  refine va_sld hx hb hX hbl hbA w.2.2.1 (hj 2 (by decide)) d_L_law_397 ?_
  have w := w.swap
  refine S_vi C0 w (rest := []) 0 (wU_at (by decide)) rfl (c_R_look l D ct qr hy1) wd_1093 wd_1090 wd_1091 wd_1092 wd_8 (n9 := 2) (by decide +kernel) rfl ⟨(Nat.le_of_ble_eq_true rfl), (Nat.le_of_ble_eq_true rfl)⟩ hl.1 rfl (Nat.le_of_ble_eq_true rfl) d_L_law_398 hcs hss (fun H locs w => ?_)
  refine lv_istore hx hb d_L_law_401 hl (by decide) rfl (fun ls hl => ?_)
  have hl : lv_has ls 7 [(6, .int r2), (5, .int (kc 3 cz)), (4, .int i), (3, .ref o), (2, .ref (qr 0)), (1, .ref (qx 0)), (0, .ref b)] := hl
  refine lv_goto (tgt := 736) hx hb d_L_law_403 (by decide) ?_
  have w := w.swap
  exact KK _ _ _ _ _ _ hI1 w (lv_sub hl [2, 3, 4, 5, 6] rfl)
set_option maxHeartbeats 1000000 in
set_option maxRecDepth 20000 in
theorem law_case8 (C0 : Cx p s m #[Value.ref b] c code 7 "NameForgeLaw" D ct) (hX : va_X b L xs s s.heap) (hbl : b < s.heap.size) (hr : meth.sig.returnType = ret) (hlk : meth.locks = false) (htl : l.stackTraces = false) (hS : Steps Inv cmp) (hj : ∀ j : Nat, j < 6 → vp_in (i + Int32.ofNat j) L) (hI : Inv MX MR) (hcs : cells + 1 ≤ room_1.cells) (hss : slots + 6 ≤ room_1.slots) (KK : ∀ (MX MR : Sto) (f : Nat → Int64) (H : Heap) (locs : List Loc) (ls : Array Slot), Inv MX MR → Wd D (lA s) s (wR ct qr MR ++ ([(o, .inl (ct 2, 1, .inr (.inl f)))] ++ wX ct qx MX)) H locs → lv_has ls 7 [(4, .int i), (3, .ref o), (2, .ref (qr 0)), (1, .ref (qx 0)), (0, .ref b)] → W p l e room_1 s m #[Value.ref b] below meth c H locs (cells + 1) (slots + 6) (lw_Z below #[Value.ref b] s) (F0 m 736 ls [])) (w : Wd D (lA s) s (wR ct qr MR ++ ([(o, .inl (ct 2, 1, .inr (.inl f)))] ++ wX ct qx MX)) H locs) (hl : lv_has ls 7 [(4, .int i), (3, .ref o), (2, .ref (qr 0)), (1, .ref (qx 0)), (0, .ref b)]) : W p l e room_1 s m #[Value.ref b] below meth c H locs cells slots (lw_Z below #[Value.ref b] s) (F0 m 406 ls []) := by
  have hx := C0.1
  have hb := C0.2.1
  have hbA : ¬ lA s b := fun h => absurd hbl (Nat.not_lt.mpr h)
  refine lv_aload_n hx hb d_L_law_406 rfl (lv_at hl 3 rfl) ?_
  refine lv_aload_n hx hb d_L_law_407 rfl (lv_at hl 4 rfl) ?_
  refine lv_iload hx hb d_L_law_408 (lv_at hl 0 rfl) ?_
  refine lv_iconst (v := 1) hx hb d_L_law_410 (by decide) ?_
  refine lv_iadd hx hb d_L_law_411 ?_
  refine va_sld hx hb hX hbl hbA w.2.2.1 (hj 1 (by decide)) d_L_law_412 ?_
  refine lv_aload_n hx hb d_L_law_413 rfl (lv_at hl 4 rfl) ?_
  refine lv_iload hx hb d_L_law_414 (lv_at hl 0 rfl) ?_
  refine lv_iconst (v := 2) hx hb d_L_law_416 (by decide) ?_
  refine lv_iadd hx hb d_L_law_417 ?_
  refine va_sld hx hb hX hbl hbA w.2.2.1 (hj 2 (by decide)) d_L_law_418 ?_
  refine lv_aload_n hx hb d_L_law_419 rfl (lv_at hl 4 rfl) ?_
  refine lv_iload hx hb d_L_law_420 (lv_at hl 0 rfl) ?_
  refine lv_iconst (v := 3) hx hb d_L_law_422 (by decide) ?_
  refine lv_iadd hx hb d_L_law_423 ?_
  refine va_sld hx hb hX hbl hbA w.2.2.1 (hj 3 (by decide)) d_L_law_424 ?_
  refine lv_aload_n hx hb d_L_law_425 rfl (lv_at hl 1 rfl) ?_
  obtain ⟨cz, rz, MX1, r2, MR1, hx1, hcz, hy1, hI1, hcm⟩ := (hS MX MR hI).2.2.2.2.2.2.2.2.1 (xs (i + 1).toNatClampNeg) (xs (i + 2).toNatClampNeg) (xs (i + 3).toNatClampNeg)
  refine S_sh C0 w (rest := []) (h_phi l htl D ct qx o f hx1 hcz) wd_722 wd_720 wd_721 wd_0 (n9 := 5) (by decide +kernel) rfl ⟨(Nat.le_of_ble_eq_true rfl), (Nat.le_of_ble_eq_true rfl)⟩ hl.1 rfl (Nat.le_of_ble_eq_true rfl) d_L_law_426 hcs hss (fun H locs w => ?_)
  have w : Wd D (lA s) s (wR ct qr MR ++ ([(o, .inl (ct 2, 1, .inr (.inl (fo cz rz f))))] ++ wX ct qx MX1)) H _ := w
  refine lv_istore hx hb d_L_law_429 hl (by decide) rfl (fun ls hl => ?_)
  have hl : lv_has ls 7 [(5, .int (kc 3 cz)), (4, .int i), (3, .ref o), (2, .ref (qr 0)), (1, .ref (qx 0)), (0, .ref b)] := hl
  refine lv_aload_n hx hb d_L_law_431 rfl (lv_at hl 3 rfl) ?_
  refine lv_aload_n hx hb d_L_law_432 rfl (lv_at hl 5 rfl) ?_
  refine lv_iload hx hb d_L_law_433 (lv_at hl 1 rfl) ?_
  refine lv_iconst (v := 1) hx hb d_L_law_435 (by decide) ?_
  refine lv_iadd hx hb d_L_law_436 ?_
  refine va_sld hx hb hX hbl hbA w.2.2.1 (hj 1 (by decide)) d_L_law_437 ?_
  refine lv_aload_n hx hb d_L_law_438 rfl (lv_at hl 5 rfl) ?_
  refine lv_iload hx hb d_L_law_439 (lv_at hl 1 rfl) ?_
  refine lv_iconst (v := 2) hx hb d_L_law_441 (by decide) ?_
  refine lv_iadd hx hb d_L_law_442 ?_
  refine va_sld hx hb hX hbl hbA w.2.2.1 (hj 2 (by decide)) d_L_law_443 ?_
  refine lv_aload_n hx hb d_L_law_444 rfl (lv_at hl 5 rfl) ?_
  refine lv_iload hx hb d_L_law_445 (lv_at hl 1 rfl) ?_
  refine lv_iconst (v := 3) hx hb d_L_law_447 (by decide) ?_
  refine lv_iadd hx hb d_L_law_448 ?_
  refine va_sld hx hb hX hbl hbA w.2.2.1 (hj 3 (by decide)) d_L_law_449 ?_
  have w := w.swap
  refine S_vi C0 w (rest := []) 0 (wU_at (by decide)) rfl (c_R_phi l D ct qr hy1) wd_1097 wd_1094 wd_1095 wd_1096 wd_8 (n9 := 3) (by decide +kernel) rfl ⟨(Nat.le_of_ble_eq_true rfl), (Nat.le_of_ble_eq_true rfl)⟩ hl.1 rfl (Nat.le_of_ble_eq_true rfl) d_L_law_450 hcs hss (fun H locs w => ?_)
  refine lv_istore hx hb d_L_law_453 hl (by decide) rfl (fun ls hl => ?_)
  have hl : lv_has ls 7 [(6, .int r2), (5, .int (kc 3 cz)), (4, .int i), (3, .ref o), (2, .ref (qr 0)), (1, .ref (qx 0)), (0, .ref b)] := hl
  refine lv_goto (tgt := 736) hx hb d_L_law_455 (by decide) ?_
  have w := w.swap
  exact KK _ _ _ _ _ _ hI1 w (lv_sub hl [2, 3, 4, 5, 6] rfl)
set_option maxHeartbeats 1000000 in
set_option maxRecDepth 20000 in
theorem law_case9 (C0 : Cx p s m #[Value.ref b] c code 7 "NameForgeLaw" D ct) (hX : va_X b L xs s s.heap) (hbl : b < s.heap.size) (hr : meth.sig.returnType = ret) (hlk : meth.locks = false) (htl : l.stackTraces = false) (hS : Steps Inv cmp) (hj : ∀ j : Nat, j < 6 → vp_in (i + Int32.ofNat j) L) (hI : Inv MX MR) (hcs : cells + 1 ≤ room_1.cells) (hss : slots + 6 ≤ room_1.slots) (KK : ∀ (MX MR : Sto) (f : Nat → Int64) (H : Heap) (locs : List Loc) (ls : Array Slot), Inv MX MR → Wd D (lA s) s (wR ct qr MR ++ ([(o, .inl (ct 2, 1, .inr (.inl f)))] ++ wX ct qx MX)) H locs → lv_has ls 7 [(4, .int i), (3, .ref o), (2, .ref (qr 0)), (1, .ref (qx 0)), (0, .ref b)] → W p l e room_1 s m #[Value.ref b] below meth c H locs (cells + 1) (slots + 6) (lw_Z below #[Value.ref b] s) (F0 m 736 ls [])) (w : Wd D (lA s) s (wR ct qr MR ++ ([(o, .inl (ct 2, 1, .inr (.inl f)))] ++ wX ct qx MX)) H locs) (hl : lv_has ls 7 [(4, .int i), (3, .ref o), (2, .ref (qr 0)), (1, .ref (qx 0)), (0, .ref b)]) : W p l e room_1 s m #[Value.ref b] below meth c H locs cells slots (lw_Z below #[Value.ref b] s) (F0 m 458 ls []) := by
  have hx := C0.1
  have hb := C0.2.1
  have hbA : ¬ lA s b := fun h => absurd hbl (Nat.not_lt.mpr h)
  refine lv_aload_n hx hb d_L_law_458 rfl (lv_at hl 3 rfl) ?_
  refine lv_aload_n hx hb d_L_law_459 rfl (lv_at hl 4 rfl) ?_
  refine lv_iload hx hb d_L_law_460 (lv_at hl 0 rfl) ?_
  refine lv_iconst (v := 1) hx hb d_L_law_462 (by decide) ?_
  refine lv_iadd hx hb d_L_law_463 ?_
  refine va_sld hx hb hX hbl hbA w.2.2.1 (hj 1 (by decide)) d_L_law_464 ?_
  refine lv_aload_n hx hb d_L_law_465 rfl (lv_at hl 4 rfl) ?_
  refine lv_iload hx hb d_L_law_466 (lv_at hl 0 rfl) ?_
  refine lv_iconst (v := 2) hx hb d_L_law_468 (by decide) ?_
  refine lv_iadd hx hb d_L_law_469 ?_
  refine va_sld hx hb hX hbl hbA w.2.2.1 (hj 2 (by decide)) d_L_law_470 ?_
  refine lv_aload_n hx hb d_L_law_471 rfl (lv_at hl 4 rfl) ?_
  refine lv_iload hx hb d_L_law_472 (lv_at hl 0 rfl) ?_
  refine lv_iconst (v := 3) hx hb d_L_law_474 (by decide) ?_
  refine lv_iadd hx hb d_L_law_475 ?_
  refine va_sld hx hb hX hbl hbA w.2.2.1 (hj 3 (by decide)) d_L_law_476 ?_
  refine lv_aload_n hx hb d_L_law_477 rfl (lv_at hl 1 rfl) ?_
  obtain ⟨cz, rz, MX1, r2, MR1, hx1, hcz, hy1, hI1, hcm⟩ := (hS MX MR hI).2.2.2.2.2.2.2.2.2.1 (xs (i + 1).toNatClampNeg) (xs (i + 2).toNatClampNeg) (xs (i + 3).toNatClampNeg)
  refine S_sh C0 w (rest := []) (h_uses l htl D ct qx o f hx1 hcz) wd_738 wd_736 wd_737 wd_0 (n9 := 5) (by decide +kernel) rfl ⟨(Nat.le_of_ble_eq_true rfl), (Nat.le_of_ble_eq_true rfl)⟩ hl.1 rfl (Nat.le_of_ble_eq_true rfl) d_L_law_478 hcs hss (fun H locs w => ?_)
  have w : Wd D (lA s) s (wR ct qr MR ++ ([(o, .inl (ct 2, 1, .inr (.inl (fo cz rz f))))] ++ wX ct qx MX1)) H _ := w
  refine lv_istore hx hb d_L_law_481 hl (by decide) rfl (fun ls hl => ?_)
  have hl : lv_has ls 7 [(5, .int (kc 3 cz)), (4, .int i), (3, .ref o), (2, .ref (qr 0)), (1, .ref (qx 0)), (0, .ref b)] := hl
  refine lv_aload_n hx hb d_L_law_483 rfl (lv_at hl 3 rfl) ?_
  refine lv_aload_n hx hb d_L_law_484 rfl (lv_at hl 5 rfl) ?_
  refine lv_iload hx hb d_L_law_485 (lv_at hl 1 rfl) ?_
  refine lv_iconst (v := 1) hx hb d_L_law_487 (by decide) ?_
  refine lv_iadd hx hb d_L_law_488 ?_
  refine va_sld hx hb hX hbl hbA w.2.2.1 (hj 1 (by decide)) d_L_law_489 ?_
  refine lv_aload_n hx hb d_L_law_490 rfl (lv_at hl 5 rfl) ?_
  refine lv_iload hx hb d_L_law_491 (lv_at hl 1 rfl) ?_
  refine lv_iconst (v := 2) hx hb d_L_law_493 (by decide) ?_
  refine lv_iadd hx hb d_L_law_494 ?_
  refine va_sld hx hb hX hbl hbA w.2.2.1 (hj 2 (by decide)) d_L_law_495 ?_
  refine lv_aload_n hx hb d_L_law_496 rfl (lv_at hl 5 rfl) ?_
  refine lv_iload hx hb d_L_law_497 (lv_at hl 1 rfl) ?_
  refine lv_iconst (v := 3) hx hb d_L_law_499 (by decide) ?_
  refine lv_iadd hx hb d_L_law_500 ?_
  refine va_sld hx hb hX hbl hbA w.2.2.1 (hj 3 (by decide)) d_L_law_501 ?_
  have w := w.swap
  refine S_vi C0 w (rest := []) 0 (wU_at (by decide)) rfl (c_R_uses l D ct qr hy1) wd_1105 wd_1102 wd_1103 wd_1104 wd_8 (n9 := 3) (by decide +kernel) rfl ⟨(Nat.le_of_ble_eq_true rfl), (Nat.le_of_ble_eq_true rfl)⟩ hl.1 rfl (Nat.le_of_ble_eq_true rfl) d_L_law_502 hcs hss (fun H locs w => ?_)
  refine lv_istore hx hb d_L_law_505 hl (by decide) rfl (fun ls hl => ?_)
  have hl : lv_has ls 7 [(6, .int r2), (5, .int (kc 3 cz)), (4, .int i), (3, .ref o), (2, .ref (qr 0)), (1, .ref (qx 0)), (0, .ref b)] := hl
  refine lv_goto (tgt := 736) hx hb d_L_law_507 (by decide) ?_
  have w := w.swap
  exact KK _ _ _ _ _ _ hI1 w (lv_sub hl [2, 3, 4, 5, 6] rfl)
set_option maxHeartbeats 1000000 in
set_option maxRecDepth 20000 in
theorem law_case10 (C0 : Cx p s m #[Value.ref b] c code 7 "NameForgeLaw" D ct) (hX : va_X b L xs s s.heap) (hbl : b < s.heap.size) (hr : meth.sig.returnType = ret) (hlk : meth.locks = false) (htl : l.stackTraces = false) (hS : Steps Inv cmp) (hj : ∀ j : Nat, j < 6 → vp_in (i + Int32.ofNat j) L) (hI : Inv MX MR) (hcs : cells + 1 ≤ room_1.cells) (hss : slots + 6 ≤ room_1.slots) (KK : ∀ (MX MR : Sto) (f : Nat → Int64) (H : Heap) (locs : List Loc) (ls : Array Slot), Inv MX MR → Wd D (lA s) s (wR ct qr MR ++ ([(o, .inl (ct 2, 1, .inr (.inl f)))] ++ wX ct qx MX)) H locs → lv_has ls 7 [(4, .int i), (3, .ref o), (2, .ref (qr 0)), (1, .ref (qx 0)), (0, .ref b)] → W p l e room_1 s m #[Value.ref b] below meth c H locs (cells + 1) (slots + 6) (lw_Z below #[Value.ref b] s) (F0 m 736 ls [])) (w : Wd D (lA s) s (wR ct qr MR ++ ([(o, .inl (ct 2, 1, .inr (.inl f)))] ++ wX ct qx MX)) H locs) (hl : lv_has ls 7 [(4, .int i), (3, .ref o), (2, .ref (qr 0)), (1, .ref (qx 0)), (0, .ref b)]) : W p l e room_1 s m #[Value.ref b] below meth c H locs cells slots (lw_Z below #[Value.ref b] s) (F0 m 510 ls []) := by
  have hx := C0.1
  have hb := C0.2.1
  have hbA : ¬ lA s b := fun h => absurd hbl (Nat.not_lt.mpr h)
  refine lv_aload_n hx hb d_L_law_510 rfl (lv_at hl 3 rfl) ?_
  refine lv_aload_n hx hb d_L_law_511 rfl (lv_at hl 4 rfl) ?_
  refine lv_iload hx hb d_L_law_512 (lv_at hl 0 rfl) ?_
  refine lv_iconst (v := 1) hx hb d_L_law_514 (by decide) ?_
  refine lv_iadd hx hb d_L_law_515 ?_
  refine va_sld hx hb hX hbl hbA w.2.2.1 (hj 1 (by decide)) d_L_law_516 ?_
  refine lv_aload_n hx hb d_L_law_517 rfl (lv_at hl 4 rfl) ?_
  refine lv_iload hx hb d_L_law_518 (lv_at hl 0 rfl) ?_
  refine lv_iconst (v := 2) hx hb d_L_law_520 (by decide) ?_
  refine lv_iadd hx hb d_L_law_521 ?_
  refine va_sld hx hb hX hbl hbA w.2.2.1 (hj 2 (by decide)) d_L_law_522 ?_
  refine lv_aload_n hx hb d_L_law_523 rfl (lv_at hl 1 rfl) ?_
  obtain ⟨cz, rz, MX1, r2, MR1, hx1, hcz, hy1, hI1, hcm⟩ := (hS MX MR hI).2.2.2.2.2.2.2.2.2.2.1 (xs (i + 1).toNatClampNeg) (xs (i + 2).toNatClampNeg)
  refine S_sh C0 w (rest := []) (h_name l htl D ct qx o f hx1 hcz) wd_750 wd_748 wd_749 wd_0 (n9 := 4) (by decide +kernel) rfl ⟨(Nat.le_of_ble_eq_true rfl), (Nat.le_of_ble_eq_true rfl)⟩ hl.1 rfl (Nat.le_of_ble_eq_true rfl) d_L_law_524 hcs hss (fun H locs w => ?_)
  have w : Wd D (lA s) s (wR ct qr MR ++ ([(o, .inl (ct 2, 1, .inr (.inl (fo cz rz f))))] ++ wX ct qx MX1)) H _ := w
  refine lv_istore hx hb d_L_law_527 hl (by decide) rfl (fun ls hl => ?_)
  have hl : lv_has ls 7 [(5, .int (kc 3 cz)), (4, .int i), (3, .ref o), (2, .ref (qr 0)), (1, .ref (qx 0)), (0, .ref b)] := hl
  refine lv_aload_n hx hb d_L_law_529 rfl (lv_at hl 3 rfl) ?_
  refine lv_aload_n hx hb d_L_law_530 rfl (lv_at hl 5 rfl) ?_
  refine lv_iload hx hb d_L_law_531 (lv_at hl 1 rfl) ?_
  refine lv_iconst (v := 1) hx hb d_L_law_533 (by decide) ?_
  refine lv_iadd hx hb d_L_law_534 ?_
  refine va_sld hx hb hX hbl hbA w.2.2.1 (hj 1 (by decide)) d_L_law_535 ?_
  refine lv_aload_n hx hb d_L_law_536 rfl (lv_at hl 5 rfl) ?_
  refine lv_iload hx hb d_L_law_537 (lv_at hl 1 rfl) ?_
  refine lv_iconst (v := 2) hx hb d_L_law_539 (by decide) ?_
  refine lv_iadd hx hb d_L_law_540 ?_
  refine va_sld hx hb hX hbl hbA w.2.2.1 (hj 2 (by decide)) d_L_law_541 ?_
  have w := w.swap
  refine S_vi C0 w (rest := []) 0 (wU_at (by decide)) rfl (c_R_name l D ct qr hy1) wd_1109 wd_1106 wd_1107 wd_1108 wd_8 (n9 := 2) (by decide +kernel) rfl ⟨(Nat.le_of_ble_eq_true rfl), (Nat.le_of_ble_eq_true rfl)⟩ hl.1 rfl (Nat.le_of_ble_eq_true rfl) d_L_law_542 hcs hss (fun H locs w => ?_)
  refine lv_istore hx hb d_L_law_545 hl (by decide) rfl (fun ls hl => ?_)
  have hl : lv_has ls 7 [(6, .int r2), (5, .int (kc 3 cz)), (4, .int i), (3, .ref o), (2, .ref (qr 0)), (1, .ref (qx 0)), (0, .ref b)] := hl
  refine lv_goto (tgt := 736) hx hb d_L_law_547 (by decide) ?_
  have w := w.swap
  exact KK _ _ _ _ _ _ hI1 w (lv_sub hl [2, 3, 4, 5, 6] rfl)
set_option maxHeartbeats 1000000 in
set_option maxRecDepth 20000 in
theorem law_case11 (C0 : Cx p s m #[Value.ref b] c code 7 "NameForgeLaw" D ct) (hX : va_X b L xs s s.heap) (hbl : b < s.heap.size) (hr : meth.sig.returnType = ret) (hlk : meth.locks = false) (htl : l.stackTraces = false) (hS : Steps Inv cmp) (hj : ∀ j : Nat, j < 6 → vp_in (i + Int32.ofNat j) L) (hI : Inv MX MR) (hcs : cells + 1 ≤ room_1.cells) (hss : slots + 6 ≤ room_1.slots) (KK : ∀ (MX MR : Sto) (f : Nat → Int64) (H : Heap) (locs : List Loc) (ls : Array Slot), Inv MX MR → Wd D (lA s) s (wR ct qr MR ++ ([(o, .inl (ct 2, 1, .inr (.inl f)))] ++ wX ct qx MX)) H locs → lv_has ls 7 [(4, .int i), (3, .ref o), (2, .ref (qr 0)), (1, .ref (qx 0)), (0, .ref b)] → W p l e room_1 s m #[Value.ref b] below meth c H locs (cells + 1) (slots + 6) (lw_Z below #[Value.ref b] s) (F0 m 736 ls [])) (w : Wd D (lA s) s (wR ct qr MR ++ ([(o, .inl (ct 2, 1, .inr (.inl f)))] ++ wX ct qx MX)) H locs) (hl : lv_has ls 7 [(4, .int i), (3, .ref o), (2, .ref (qr 0)), (1, .ref (qx 0)), (0, .ref b)]) : W p l e room_1 s m #[Value.ref b] below meth c H locs cells slots (lw_Z below #[Value.ref b] s) (F0 m 550 ls []) := by
  have hx := C0.1
  have hb := C0.2.1
  have hbA : ¬ lA s b := fun h => absurd hbl (Nat.not_lt.mpr h)
  refine lv_aload_n hx hb d_L_law_550 rfl (lv_at hl 3 rfl) ?_
  refine lv_aload_n hx hb d_L_law_551 rfl (lv_at hl 4 rfl) ?_
  refine lv_iload hx hb d_L_law_552 (lv_at hl 0 rfl) ?_
  refine lv_iconst (v := 1) hx hb d_L_law_554 (by decide) ?_
  refine lv_iadd hx hb d_L_law_555 ?_
  refine va_sld hx hb hX hbl hbA w.2.2.1 (hj 1 (by decide)) d_L_law_556 ?_
  obtain ⟨rz, MX1, r2, MR1, hx1, hy1, hI1, hcm⟩ := (hS MX MR hI).2.2.2.2.2.2.2.2.2.2.2.1 (xs (i + 1).toNatClampNeg)
  have w := w.assoc
  refine S_vi C0 w (rest := []) 0 (wU_at (by decide)) rfl (c_N_give l D ct qx hx1) wd_368 wd_365 wd_366 wd_367 wd_1 (n9 := 1) (by decide +kernel) rfl ⟨(Nat.le_of_ble_eq_true rfl), (Nat.le_of_ble_eq_true rfl)⟩ hl.1 rfl (Nat.le_of_ble_eq_true rfl) d_L_law_557 (by omega) (by omega) (fun H locs w => ?_)
  refine lv_pop hx hb d_L_law_560 rfl ?_
  refine lv_aload_n hx hb d_L_law_561 rfl (lv_at hl 2 rfl) ?_
  refine lv_aload_n hx hb d_L_law_562 rfl (lv_at hl 4 rfl) ?_
  refine lv_iload hx hb d_L_law_563 (lv_at hl 0 rfl) ?_
  refine lv_iconst (v := 1) hx hb d_L_law_565 (by decide) ?_
  refine lv_iadd hx hb d_L_law_566 ?_
  refine va_sld hx hb hX hbl hbA w.2.2.1 (hj 1 (by decide)) d_L_law_567 ?_
  have w := w.assoc'
  have w := w.swap
  refine S_vi C0 w (rest := []) 0 (wU_at (by decide)) rfl (c_R_give l D ct qr hy1) wd_1113 wd_1110 wd_1111 wd_1112 wd_8 (n9 := 1) (by decide +kernel) rfl ⟨(Nat.le_of_ble_eq_true rfl), (Nat.le_of_ble_eq_true rfl)⟩ hl.1 rfl (Nat.le_of_ble_eq_true rfl) d_L_law_568 (by omega) (by omega) (fun H locs w => ?_)
  refine lv_pop hx hb d_L_law_571 rfl ?_
  refine lv_goto (tgt := 736) hx hb d_L_law_572 (by decide) ?_
  have w := w.swap
  refine W.widen (k := cells + 1) (n := slots + 6) (by omega) (by omega) ?_
  exact KK _ _ _ _ _ _ hI1 w (lv_sub hl [0, 1, 2, 3, 4] rfl)
set_option maxHeartbeats 1000000 in
set_option maxRecDepth 20000 in
theorem law_case12 (C0 : Cx p s m #[Value.ref b] c code 7 "NameForgeLaw" D ct) (hX : va_X b L xs s s.heap) (hbl : b < s.heap.size) (hr : meth.sig.returnType = ret) (hlk : meth.locks = false) (htl : l.stackTraces = false) (hS : Steps Inv cmp) (hj : ∀ j : Nat, j < 6 → vp_in (i + Int32.ofNat j) L) (hI : Inv MX MR) (hcs : cells + 1 ≤ room_1.cells) (hss : slots + 6 ≤ room_1.slots) (KK : ∀ (MX MR : Sto) (f : Nat → Int64) (H : Heap) (locs : List Loc) (ls : Array Slot), Inv MX MR → Wd D (lA s) s (wR ct qr MR ++ ([(o, .inl (ct 2, 1, .inr (.inl f)))] ++ wX ct qx MX)) H locs → lv_has ls 7 [(4, .int i), (3, .ref o), (2, .ref (qr 0)), (1, .ref (qx 0)), (0, .ref b)] → W p l e room_1 s m #[Value.ref b] below meth c H locs (cells + 1) (slots + 6) (lw_Z below #[Value.ref b] s) (F0 m 736 ls [])) (w : Wd D (lA s) s (wR ct qr MR ++ ([(o, .inl (ct 2, 1, .inr (.inl f)))] ++ wX ct qx MX)) H locs) (hl : lv_has ls 7 [(4, .int i), (3, .ref o), (2, .ref (qr 0)), (1, .ref (qx 0)), (0, .ref b)]) : W p l e room_1 s m #[Value.ref b] below meth c H locs cells slots (lw_Z below #[Value.ref b] s) (F0 m 575 ls []) := by
  have hx := C0.1
  have hb := C0.2.1
  have hbA : ¬ lA s b := fun h => absurd hbl (Nat.not_lt.mpr h)
  refine lv_aload_n hx hb d_L_law_575 rfl (lv_at hl 3 rfl) ?_
  obtain ⟨rz, MX1, r2, MR1, hx1, hy1, hI1, hcm⟩ := (hS MX MR hI).2.2.2.2.2.2.2.2.2.2.2.2.1
  have w := w.assoc
  refine S_vv C0 w (rest := []) 0 (wU_at (by decide)) rfl (c_N_take l D ct qx hx1) wd_376 wd_373 wd_374 wd_375 wd_1 (n9 := 0) (by decide +kernel) rfl ⟨(Nat.le_of_ble_eq_true rfl), (Nat.le_of_ble_eq_true rfl)⟩ hl.1 rfl (Nat.le_of_ble_eq_true rfl) d_L_law_576 (by omega) (by omega) (fun H locs w => ?_)
  refine lv_aload_n hx hb d_L_law_579 rfl (lv_at hl 2 rfl) ?_
  have w := w.assoc'
  have w := w.swap
  refine S_vv C0 w (rest := []) 0 (wU_at (by decide)) rfl (c_R_take l D ct qr hy1) wd_1117 wd_1114 wd_1115 wd_1116 wd_8 (n9 := 0) (by decide +kernel) rfl ⟨(Nat.le_of_ble_eq_true rfl), (Nat.le_of_ble_eq_true rfl)⟩ hl.1 rfl (Nat.le_of_ble_eq_true rfl) d_L_law_580 (by omega) (by omega) (fun H locs w => ?_)
  refine lv_goto (tgt := 736) hx hb d_L_law_583 (by decide) ?_
  have w := w.swap
  refine W.widen (k := cells + 1) (n := slots + 6) (by omega) (by omega) ?_
  exact KK _ _ _ _ _ _ hI1 w (lv_sub hl [0, 1, 2, 3, 4] rfl)
set_option maxHeartbeats 1000000 in
set_option maxRecDepth 20000 in
theorem law_case13 (C0 : Cx p s m #[Value.ref b] c code 7 "NameForgeLaw" D ct) (hX : va_X b L xs s s.heap) (hbl : b < s.heap.size) (hr : meth.sig.returnType = ret) (hlk : meth.locks = false) (htl : l.stackTraces = false) (hS : Steps Inv cmp) (hj : ∀ j : Nat, j < 6 → vp_in (i + Int32.ofNat j) L) (hI : Inv MX MR) (hcs : cells + 1 ≤ room_1.cells) (hss : slots + 6 ≤ room_1.slots) (KK : ∀ (MX MR : Sto) (f : Nat → Int64) (H : Heap) (locs : List Loc) (ls : Array Slot), Inv MX MR → Wd D (lA s) s (wR ct qr MR ++ ([(o, .inl (ct 2, 1, .inr (.inl f)))] ++ wX ct qx MX)) H locs → lv_has ls 7 [(4, .int i), (3, .ref o), (2, .ref (qr 0)), (1, .ref (qx 0)), (0, .ref b)] → W p l e room_1 s m #[Value.ref b] below meth c H locs (cells + 1) (slots + 6) (lw_Z below #[Value.ref b] s) (F0 m 736 ls [])) (w : Wd D (lA s) s (wR ct qr MR ++ ([(o, .inl (ct 2, 1, .inr (.inl f)))] ++ wX ct qx MX)) H locs) (hl : lv_has ls 7 [(4, .int i), (3, .ref o), (2, .ref (qr 0)), (1, .ref (qx 0)), (0, .ref b)]) : W p l e room_1 s m #[Value.ref b] below meth c H locs cells slots (lw_Z below #[Value.ref b] s) (F0 m 586 ls []) := by
  have hx := C0.1
  have hb := C0.2.1
  have hbA : ¬ lA s b := fun h => absurd hbl (Nat.not_lt.mpr h)
  refine lv_aload_n hx hb d_L_law_586 rfl (lv_at hl 3 rfl) ?_
  refine lv_aload_n hx hb d_L_law_587 rfl (lv_at hl 4 rfl) ?_
  refine lv_iload hx hb d_L_law_588 (lv_at hl 0 rfl) ?_
  refine lv_iconst (v := 1) hx hb d_L_law_590 (by decide) ?_
  refine lv_iadd hx hb d_L_law_591 ?_
  refine va_sld hx hb hX hbl hbA w.2.2.1 (hj 1 (by decide)) d_L_law_592 ?_
  refine lv_if_eq (tgt := 600) hx hb d_L_law_593 (by decide) (fun hd593 => ?_) (fun hd593 => ?_)
  · refine lv_iconst (v := 0) hx hb d_L_law_600 (by decide) ?_
    refine lv_aload_n hx hb d_L_law_601 rfl (lv_at hl 4 rfl) ?_
    refine lv_iload hx hb d_L_law_602 (lv_at hl 0 rfl) ?_
    refine lv_iconst (v := 2) hx hb d_L_law_604 (by decide) ?_
    refine lv_iadd hx hb d_L_law_605 ?_
    refine va_sld hx hb hX hbl hbA w.2.2.1 (hj 2 (by decide)) d_L_law_606 ?_
    refine lv_aload_n hx hb d_L_law_607 rfl (lv_at hl 1 rfl) ?_
    obtain ⟨cz, rz, MX1, r2, MR1, hx1, hcz, hy1, hI1, hcm⟩ := (hS MX MR hI).2.2.2.2.2.2.2.2.2.2.2.2.2.1 0 (xs (i + 2).toNatClampNeg) (by decide)
    refine S_sh C0 w (rest := []) (h_run l htl D ct qx o f hx1 hcz) wd_758 wd_756 wd_757 wd_0 (n9 := 4) (by decide +kernel) rfl ⟨(Nat.le_of_ble_eq_true rfl), (Nat.le_of_ble_eq_true rfl)⟩ hl.1 rfl (Nat.le_of_ble_eq_true rfl) d_L_law_608 hcs hss (fun H locs w => ?_)
    have w : Wd D (lA s) s (wR ct qr MR ++ ([(o, .inl (ct 2, 1, .inr (.inl (fo cz rz f))))] ++ wX ct qx MX1)) H _ := w
    refine lv_istore hx hb d_L_law_611 hl (by decide) rfl (fun ls hl => ?_)
    have hl : lv_has ls 7 [(5, .int (kc 1 cz)), (4, .int i), (3, .ref o), (2, .ref (qr 0)), (1, .ref (qx 0)), (0, .ref b)] := hl
    refine lv_aload_n hx hb d_L_law_613 rfl (lv_at hl 3 rfl) ?_
    refine lv_aload_n hx hb d_L_law_614 rfl (lv_at hl 5 rfl) ?_
    refine lv_iload hx hb d_L_law_615 (lv_at hl 1 rfl) ?_
    refine lv_iconst (v := 1) hx hb d_L_law_617 (by decide) ?_
    refine lv_iadd hx hb d_L_law_618 ?_
    refine va_sld hx hb hX hbl hbA w.2.2.1 (hj 1 (by decide)) d_L_law_619 ?_
    refine lv_if_eq (tgt := 627) hx hb d_L_law_620 (by decide) (fun _ => ?_) (fun hc => absurd hd593 hc)
    refine lv_iconst (v := 0) hx hb d_L_law_627 (by decide) ?_
    refine lv_aload_n hx hb d_L_law_628 rfl (lv_at hl 5 rfl) ?_
    refine lv_iload hx hb d_L_law_629 (lv_at hl 1 rfl) ?_
    refine lv_iconst (v := 2) hx hb d_L_law_631 (by decide) ?_
    refine lv_iadd hx hb d_L_law_632 ?_
    refine va_sld hx hb hX hbl hbA w.2.2.1 (hj 2 (by decide)) d_L_law_633 ?_
    have w := w.swap
    refine S_vi C0 w (rest := []) 0 (wU_at (by decide)) rfl (c_R_run l D ct qr hy1) wd_1121 wd_1118 wd_1119 wd_1120 wd_8 (n9 := 2) (by decide +kernel) rfl ⟨(Nat.le_of_ble_eq_true rfl), (Nat.le_of_ble_eq_true rfl)⟩ hl.1 rfl (Nat.le_of_ble_eq_true rfl) d_L_law_634 hcs hss (fun H locs w => ?_)
    refine lv_istore hx hb d_L_law_637 hl (by decide) rfl (fun ls hl => ?_)
    have hl : lv_has ls 7 [(6, .int r2), (5, .int (kc 1 cz)), (4, .int i), (3, .ref o), (2, .ref (qr 0)), (1, .ref (qx 0)), (0, .ref b)] := hl
    refine lv_goto (tgt := 736) hx hb d_L_law_639 (by decide) ?_
    have w := w.swap
    exact KK _ _ _ _ _ _ hI1 w (lv_sub hl [2, 3, 4, 5, 6] rfl)
  · refine lv_iconst (v := 1) hx hb d_L_law_596 (by decide) ?_
    refine lv_goto (tgt := 601) hx hb d_L_law_597 (by decide) ?_
    refine lv_aload_n hx hb d_L_law_601 rfl (lv_at hl 4 rfl) ?_
    refine lv_iload hx hb d_L_law_602 (lv_at hl 0 rfl) ?_
    refine lv_iconst (v := 2) hx hb d_L_law_604 (by decide) ?_
    refine lv_iadd hx hb d_L_law_605 ?_
    refine va_sld hx hb hX hbl hbA w.2.2.1 (hj 2 (by decide)) d_L_law_606 ?_
    refine lv_aload_n hx hb d_L_law_607 rfl (lv_at hl 1 rfl) ?_
    obtain ⟨cz, rz, MX1, r2, MR1, hx1, hcz, hy1, hI1, hcm⟩ := (hS MX MR hI).2.2.2.2.2.2.2.2.2.2.2.2.2.1 1 (xs (i + 2).toNatClampNeg) (by decide)
    refine S_sh C0 w (rest := []) (h_run l htl D ct qx o f hx1 hcz) wd_758 wd_756 wd_757 wd_0 (n9 := 4) (by decide +kernel) rfl ⟨(Nat.le_of_ble_eq_true rfl), (Nat.le_of_ble_eq_true rfl)⟩ hl.1 rfl (Nat.le_of_ble_eq_true rfl) d_L_law_608 hcs hss (fun H locs w => ?_)
    have w : Wd D (lA s) s (wR ct qr MR ++ ([(o, .inl (ct 2, 1, .inr (.inl (fo cz rz f))))] ++ wX ct qx MX1)) H _ := w
    refine lv_istore hx hb d_L_law_611 hl (by decide) rfl (fun ls hl => ?_)
    have hl : lv_has ls 7 [(5, .int (kc 1 cz)), (4, .int i), (3, .ref o), (2, .ref (qr 0)), (1, .ref (qx 0)), (0, .ref b)] := hl
    refine lv_aload_n hx hb d_L_law_613 rfl (lv_at hl 3 rfl) ?_
    refine lv_aload_n hx hb d_L_law_614 rfl (lv_at hl 5 rfl) ?_
    refine lv_iload hx hb d_L_law_615 (lv_at hl 1 rfl) ?_
    refine lv_iconst (v := 1) hx hb d_L_law_617 (by decide) ?_
    refine lv_iadd hx hb d_L_law_618 ?_
    refine va_sld hx hb hX hbl hbA w.2.2.1 (hj 1 (by decide)) d_L_law_619 ?_
    refine lv_if_eq (tgt := 627) hx hb d_L_law_620 (by decide) (fun hc => absurd hc hd593) (fun _ => ?_)
    refine lv_iconst (v := 1) hx hb d_L_law_623 (by decide) ?_
    refine lv_goto (tgt := 628) hx hb d_L_law_624 (by decide) ?_
    refine lv_aload_n hx hb d_L_law_628 rfl (lv_at hl 5 rfl) ?_
    refine lv_iload hx hb d_L_law_629 (lv_at hl 1 rfl) ?_
    refine lv_iconst (v := 2) hx hb d_L_law_631 (by decide) ?_
    refine lv_iadd hx hb d_L_law_632 ?_
    refine va_sld hx hb hX hbl hbA w.2.2.1 (hj 2 (by decide)) d_L_law_633 ?_
    have w := w.swap
    refine S_vi C0 w (rest := []) 0 (wU_at (by decide)) rfl (c_R_run l D ct qr hy1) wd_1121 wd_1118 wd_1119 wd_1120 wd_8 (n9 := 2) (by decide +kernel) rfl ⟨(Nat.le_of_ble_eq_true rfl), (Nat.le_of_ble_eq_true rfl)⟩ hl.1 rfl (Nat.le_of_ble_eq_true rfl) d_L_law_634 hcs hss (fun H locs w => ?_)
    refine lv_istore hx hb d_L_law_637 hl (by decide) rfl (fun ls hl => ?_)
    have hl : lv_has ls 7 [(6, .int r2), (5, .int (kc 1 cz)), (4, .int i), (3, .ref o), (2, .ref (qr 0)), (1, .ref (qx 0)), (0, .ref b)] := hl
    refine lv_goto (tgt := 736) hx hb d_L_law_639 (by decide) ?_
    have w := w.swap
    exact KK _ _ _ _ _ _ hI1 w (lv_sub hl [2, 3, 4, 5, 6] rfl)
set_option maxHeartbeats 1000000 in
set_option maxRecDepth 20000 in
theorem law_case14 (C0 : Cx p s m #[Value.ref b] c code 7 "NameForgeLaw" D ct) (hX : va_X b L xs s s.heap) (hbl : b < s.heap.size) (hr : meth.sig.returnType = ret) (hlk : meth.locks = false) (htl : l.stackTraces = false) (hS : Steps Inv cmp) (hj : ∀ j : Nat, j < 6 → vp_in (i + Int32.ofNat j) L) (hI : Inv MX MR) (hcs : cells + 1 ≤ room_1.cells) (hss : slots + 6 ≤ room_1.slots) (KK : ∀ (MX MR : Sto) (f : Nat → Int64) (H : Heap) (locs : List Loc) (ls : Array Slot), Inv MX MR → Wd D (lA s) s (wR ct qr MR ++ ([(o, .inl (ct 2, 1, .inr (.inl f)))] ++ wX ct qx MX)) H locs → lv_has ls 7 [(4, .int i), (3, .ref o), (2, .ref (qr 0)), (1, .ref (qx 0)), (0, .ref b)] → W p l e room_1 s m #[Value.ref b] below meth c H locs (cells + 1) (slots + 6) (lw_Z below #[Value.ref b] s) (F0 m 736 ls [])) (w : Wd D (lA s) s (wR ct qr MR ++ ([(o, .inl (ct 2, 1, .inr (.inl f)))] ++ wX ct qx MX)) H locs) (hl : lv_has ls 7 [(4, .int i), (3, .ref o), (2, .ref (qr 0)), (1, .ref (qx 0)), (0, .ref b)]) : W p l e room_1 s m #[Value.ref b] below meth c H locs cells slots (lw_Z below #[Value.ref b] s) (F0 m 642 ls []) := by
  have hx := C0.1
  have hb := C0.2.1
  have hbA : ¬ lA s b := fun h => absurd hbl (Nat.not_lt.mpr h)
  refine lv_aload_n hx hb d_L_law_642 rfl (lv_at hl 3 rfl) ?_
  obtain ⟨rz, MX1, r2, MR1, hx1, hy1, hI1, hcm⟩ := (hS MX MR hI).2.2.2.2.2.2.2.2.2.2.2.2.2.2.1
  have w := w.assoc
  refine S_vi C0 w (rest := []) 0 (wU_at (by decide)) rfl (c_N_told l D ct qx hx1) wd_380 wd_377 wd_378 wd_379 wd_1 (n9 := 0) (by decide +kernel) rfl ⟨(Nat.le_of_ble_eq_true rfl), (Nat.le_of_ble_eq_true rfl)⟩ hl.1 rfl (Nat.le_of_ble_eq_true rfl) d_L_law_643 (by omega) (by omega) (fun H locs w => ?_)
  refine lv_pop hx hb d_L_law_646 rfl ?_
  refine lv_aload_n hx hb d_L_law_647 rfl (lv_at hl 2 rfl) ?_
  have w := w.assoc'
  have w := w.swap
  refine S_vi C0 w (rest := []) 0 (wU_at (by decide)) rfl (c_R_told l D ct qr hy1) wd_1153 wd_1150 wd_1151 wd_1152 wd_8 (n9 := 0) (by decide +kernel) rfl ⟨(Nat.le_of_ble_eq_true rfl), (Nat.le_of_ble_eq_true rfl)⟩ hl.1 rfl (Nat.le_of_ble_eq_true rfl) d_L_law_648 (by omega) (by omega) (fun H locs w => ?_)
  refine lv_pop hx hb d_L_law_651 rfl ?_
  refine lv_goto (tgt := 736) hx hb d_L_law_652 (by decide) ?_
  have w := w.swap
  refine W.widen (k := cells + 1) (n := slots + 6) (by omega) (by omega) ?_
  exact KK _ _ _ _ _ _ hI1 w (lv_sub hl [0, 1, 2, 3, 4] rfl)
set_option maxHeartbeats 1000000 in
set_option maxRecDepth 20000 in
theorem law_case15 (C0 : Cx p s m #[Value.ref b] c code 7 "NameForgeLaw" D ct) (hX : va_X b L xs s s.heap) (hbl : b < s.heap.size) (hr : meth.sig.returnType = ret) (hlk : meth.locks = false) (htl : l.stackTraces = false) (hS : Steps Inv cmp) (hj : ∀ j : Nat, j < 6 → vp_in (i + Int32.ofNat j) L) (hI : Inv MX MR) (hcs : cells + 1 ≤ room_1.cells) (hss : slots + 6 ≤ room_1.slots) (hcmp : cmp 15) (KK : ∀ (MX MR : Sto) (f : Nat → Int64) (H : Heap) (locs : List Loc) (ls : Array Slot), Inv MX MR → Wd D (lA s) s (wR ct qr MR ++ ([(o, .inl (ct 2, 1, .inr (.inl f)))] ++ wX ct qx MX)) H locs → lv_has ls 7 [(4, .int i), (3, .ref o), (2, .ref (qr 0)), (1, .ref (qx 0)), (0, .ref b)] → W p l e room_1 s m #[Value.ref b] below meth c H locs (cells + 1) (slots + 6) (lw_Z below #[Value.ref b] s) (F0 m 736 ls [])) (w : Wd D (lA s) s (wR ct qr MR ++ ([(o, .inl (ct 2, 1, .inr (.inl f)))] ++ wX ct qx MX)) H locs) (hl : lv_has ls 7 [(4, .int i), (3, .ref o), (2, .ref (qr 0)), (1, .ref (qx 0)), (0, .ref b)]) : W p l e room_1 s m #[Value.ref b] below meth c H locs cells slots (lw_Z below #[Value.ref b] s) (F0 m 655 ls []) := by
  have hx := C0.1
  have hb := C0.2.1
  have hbA : ¬ lA s b := fun h => absurd hbl (Nat.not_lt.mpr h)
  refine lv_aload_n hx hb d_L_law_655 rfl (lv_at hl 3 rfl) ?_
  refine lv_aload_n hx hb d_L_law_656 rfl (lv_at hl 4 rfl) ?_
  refine lv_iload hx hb d_L_law_657 (lv_at hl 0 rfl) ?_
  refine lv_iconst (v := 1) hx hb d_L_law_659 (by decide) ?_
  refine lv_iadd hx hb d_L_law_660 ?_
  refine va_sld hx hb hX hbl hbA w.2.2.1 (hj 1 (by decide)) d_L_law_661 ?_
  refine lv_aload_n hx hb d_L_law_662 rfl (lv_at hl 1 rfl) ?_
  obtain ⟨cz, rz, MX1, r2, MR1, hx1, hcz, hy1, hI1, hcm⟩ := (hS MX MR hI).2.2.2.2.2.2.2.2.2.2.2.2.2.2.2.1 (xs (i + 1).toNatClampNeg)
  refine S_sh C0 w (rest := []) (h_heard l htl D ct qx o f hx1 hcz) wd_816 wd_814 wd_815 wd_0 (n9 := 3) (by decide +kernel) rfl ⟨(Nat.le_of_ble_eq_true rfl), (Nat.le_of_ble_eq_true rfl)⟩ hl.1 rfl (Nat.le_of_ble_eq_true rfl) d_L_law_663 hcs hss (fun H locs w => ?_)
  have w : Wd D (lA s) s (wR ct qr MR ++ ([(o, .inl (ct 2, 1, .inr (.inl (fo cz rz f))))] ++ wX ct qx MX1)) H _ := w
  refine lv_istore hx hb d_L_law_666 hl (by decide) rfl (fun ls hl => ?_)
  have hl : lv_has ls 7 [(5, .int (kc 3 cz)), (4, .int i), (3, .ref o), (2, .ref (qr 0)), (1, .ref (qx 0)), (0, .ref b)] := hl
  refine lv_aload_n hx hb d_L_law_668 rfl (lv_at hl 3 rfl) ?_
  refine lv_aload_n hx hb d_L_law_669 rfl (lv_at hl 5 rfl) ?_
  refine lv_iload hx hb d_L_law_670 (lv_at hl 1 rfl) ?_
  refine lv_iconst (v := 1) hx hb d_L_law_672 (by decide) ?_
  refine lv_iadd hx hb d_L_law_673 ?_
  refine va_sld hx hb hX hbl hbA w.2.2.1 (hj 1 (by decide)) d_L_law_674 ?_
  have w := w.swap
  refine S_vi C0 w (rest := []) 0 (wU_at (by decide)) rfl (c_R_heard l D ct qr hy1) wd_1157 wd_1154 wd_1155 wd_1156 wd_8 (n9 := 1) (by decide +kernel) rfl ⟨(Nat.le_of_ble_eq_true rfl), (Nat.le_of_ble_eq_true rfl)⟩ hl.1 rfl (Nat.le_of_ble_eq_true rfl) d_L_law_675 hcs hss (fun H locs w => ?_)
  refine lv_istore hx hb d_L_law_678 hl (by decide) rfl (fun ls hl => ?_)
  have hl : lv_has ls 7 [(6, .int r2), (5, .int (kc 3 cz)), (4, .int i), (3, .ref o), (2, .ref (qr 0)), (1, .ref (qx 0)), (0, .ref b)] := hl
  refine lv_aload_n hx hb d_L_law_680 rfl (lv_at hl 4 rfl) ?_
  refine S_vi C0 w (rest := []) 0 (wU_at (by decide)) rfl (c_R_thrown l D ct qr (show m_R_thrown MR1 = some (MR1 0 0, MR1) from rfl)) wd_955 wd_952 wd_953 wd_954 wd_8 (n9 := 0) (by decide +kernel) rfl ⟨(Nat.le_of_ble_eq_true rfl), (Nat.le_of_ble_eq_true rfl)⟩ hl.1 rfl (Nat.le_of_ble_eq_true rfl) d_L_law_681 hcs hss (fun H locs w => ?_)
  refine lv_iload hx hb d_L_law_684 (lv_at hl 1 rfl) ?_
  refine lv_icmp_eq (tgt := 691) hx hb d_L_law_686 (by decide) (fun hc686 => ?_) (fun hc => absurd ((hcm hcmp).1) hc)
  refine lv_iload hx hb d_L_law_691 (lv_at hl 1 rfl) ?_
  refine lv_if_ne (tgt := 708) hx hb d_L_law_693 (by decide) (fun hd693 => ?_) (fun hd693 => ?_)
  · refine lv_goto (tgt := 736) hx hb d_L_law_708 (by decide) ?_
    have w := w.swap
    exact KK _ _ _ _ _ _ hI1 w (lv_sub hl [2, 3, 4, 5, 6] rfl)
  · have hk0 : kc 3 cz = 0 := hd693
    refine lv_aload_n hx hb d_L_law_696 rfl (lv_at hl 3 rfl) ?_
    refine lv_iconst (v := 0) hx hb d_L_law_697 (by decide) ?_
    refine R_lald C0 w 0 rfl (vin (by decide)) d_L_law_698 ?_
    refine lv_iload hx hb d_L_law_699 (lv_at hl 0 rfl) ?_
    refine lv_i2l (v := (r2 : Int32).toInt64) hx hb d_L_law_701 rfl ?_
    refine W.lcmp hx hb d_L_law_702 ?_
    refine lv_if_eq (tgt := 708) hx hb d_L_law_703 (by decide) (fun hc703 => ?_) (fun hc => absurd ?_ hc)
    rotate_left
    · have e0 := kc_zero hk0
      subst e0
      rw [(hcm hcmp).2 rfl, fo_at]
      exact (lg_cmp_eq _ _).mpr rfl
    refine lv_goto (tgt := 736) hx hb d_L_law_708 (by decide) ?_
    have w := w.swap
    exact KK _ _ _ _ _ _ hI1 w (lv_sub hl [2, 3, 4, 5, 6] rfl)
set_option maxHeartbeats 1000000 in
set_option maxRecDepth 20000 in
theorem law_case16 (C0 : Cx p s m #[Value.ref b] c code 7 "NameForgeLaw" D ct) (hX : va_X b L xs s s.heap) (hbl : b < s.heap.size) (hr : meth.sig.returnType = ret) (hlk : meth.locks = false) (htl : l.stackTraces = false) (hS : Steps Inv cmp) (hj : ∀ j : Nat, j < 6 → vp_in (i + Int32.ofNat j) L) (hI : Inv MX MR) (hcs : cells + 1 ≤ room_1.cells) (hss : slots + 6 ≤ room_1.slots) (KK : ∀ (MX MR : Sto) (f : Nat → Int64) (H : Heap) (locs : List Loc) (ls : Array Slot), Inv MX MR → Wd D (lA s) s (wR ct qr MR ++ ([(o, .inl (ct 2, 1, .inr (.inl f)))] ++ wX ct qx MX)) H locs → lv_has ls 7 [(4, .int i), (3, .ref o), (2, .ref (qr 0)), (1, .ref (qx 0)), (0, .ref b)] → W p l e room_1 s m #[Value.ref b] below meth c H locs (cells + 1) (slots + 6) (lw_Z below #[Value.ref b] s) (F0 m 736 ls [])) (w : Wd D (lA s) s (wR ct qr MR ++ ([(o, .inl (ct 2, 1, .inr (.inl f)))] ++ wX ct qx MX)) H locs) (hl : lv_has ls 7 [(4, .int i), (3, .ref o), (2, .ref (qr 0)), (1, .ref (qx 0)), (0, .ref b)]) : W p l e room_1 s m #[Value.ref b] below meth c H locs cells slots (lw_Z below #[Value.ref b] s) (F0 m 711 ls []) := by
  have hx := C0.1
  have hb := C0.2.1
  have hbA : ¬ lA s b := fun h => absurd hbl (Nat.not_lt.mpr h)
  refine lv_aload_n hx hb d_L_law_711 rfl (lv_at hl 3 rfl) ?_
  refine lv_aload_n hx hb d_L_law_712 rfl (lv_at hl 4 rfl) ?_
  refine lv_iload hx hb d_L_law_713 (lv_at hl 0 rfl) ?_
  refine lv_iconst (v := 1) hx hb d_L_law_715 (by decide) ?_
  refine lv_iadd hx hb d_L_law_716 ?_
  refine va_sld hx hb hX hbl hbA w.2.2.1 (hj 1 (by decide)) d_L_law_717 ?_
  obtain ⟨rz, MX1, r2, MR1, hx1, hy1, hI1, hcm⟩ := (hS MX MR hI).2.2.2.2.2.2.2.2.2.2.2.2.2.2.2.2 (xs (i + 1).toNatClampNeg)
  have w := w.assoc
  refine S_vi C0 w (rest := []) 0 (wU_at (by decide)) rfl (c_N_spent l D ct qx hx1) wd_384 wd_381 wd_382 wd_383 wd_1 (n9 := 1) (by decide +kernel) rfl ⟨(Nat.le_of_ble_eq_true rfl), (Nat.le_of_ble_eq_true rfl)⟩ hl.1 rfl (Nat.le_of_ble_eq_true rfl) d_L_law_718 (by omega) (by omega) (fun H locs w => ?_)
  refine lv_pop hx hb d_L_law_721 rfl ?_
  refine lv_aload_n hx hb d_L_law_722 rfl (lv_at hl 2 rfl) ?_
  refine lv_aload_n hx hb d_L_law_723 rfl (lv_at hl 4 rfl) ?_
  refine lv_iload hx hb d_L_law_724 (lv_at hl 0 rfl) ?_
  refine lv_iconst (v := 1) hx hb d_L_law_726 (by decide) ?_
  refine lv_iadd hx hb d_L_law_727 ?_
  refine va_sld hx hb hX hbl hbA w.2.2.1 (hj 1 (by decide)) d_L_law_728 ?_
  have w := w.assoc'
  have w := w.swap
  refine S_vi C0 w (rest := []) 0 (wU_at (by decide)) rfl (c_R_spent l D ct qr hy1) wd_1161 wd_1158 wd_1159 wd_1160 wd_8 (n9 := 1) (by decide +kernel) rfl ⟨(Nat.le_of_ble_eq_true rfl), (Nat.le_of_ble_eq_true rfl)⟩ hl.1 rfl (Nat.le_of_ble_eq_true rfl) d_L_law_729 (by omega) (by omega) (fun H locs w => ?_)
  refine lv_pop hx hb d_L_law_732 rfl ?_
  refine lv_goto (tgt := 736) hx hb d_L_law_733 (by decide) ?_
  have w := w.swap
  refine W.widen (k := cells + 1) (n := slots + 6) (by omega) (by omega) ?_
  exact KK _ _ _ _ _ _ hI1 w (lv_sub hl [0, 1, 2, 3, 4] rfl)
end LAW
