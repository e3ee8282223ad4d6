/-! a method's contract out of its walk -/
section EN
variable {l : Launch} {D : va_G} {cI cB cJ : ClassId} {y : MethodName} {bytes : ByteArray} {maxL : Nat} {ret : Option FieldType} {fr lo mc ms : Nat} {av : List Value} {wc w1 : va_W} {r0 : Int32}
theorem Cx.of {p : Program} {e : Env} {s s₁ : State} {m : MethodId} {args : Array Value} {below : List Frame} {meth : Method} {c : Code} {c0 : Cond} {rm : Room} (B : BodyLoose p l y (headSpec (c0 :: wT) rm) bytes maxL ret e s m args below meth c s₁) (hml : c.maxLocals = maxL) (hK : va_K D vCl (tyZ cI cB cJ) s) (hx : Kx s) : Cx p s m args c bytes maxL y.cls D cI cB cJ :=
  ⟨B.exec, B.bytes, hml, findClass_of_methodNamed B.named, fun w hw => atoms_spec (ws := c0 :: wT) B.pre w (List.mem_cons_of_mem _ hw), hK, hx⟩
theorem KR.ofW (hy : plainName y.cls = true) (hav : (lg_sl av).length ≤ maxL) {ty : FieldType} (hret : ret = some ty) (hnr : narrow ty (.int r0) = .int r0)
    (body : ∀ (p : Program) (e : Env) (s : State) (m : MethodId) (args : Array Value) (below : List Frame) (meth : Method) (c : Code) (A : Nat → Prop) (Q : State → Prop) (ls : Array Slot), Cx p s m args c bytes maxL y.cls D cI cB cJ → lv_has ls maxL (lv_args 0 av) → Wd D A s wc s.heap [] →
      (∀ (pc : Nat) (ls : Array Slot), decode bytes pc = .ok (.ireturn, 1) → W p l e { frames := fr, cells := 0, slots := 0, locals := lo } s m args below meth c s.heap [] 0 0 Q (F0 m pc ls [.int r0])) →
      W p l e { frames := fr, cells := 0, slots := 0, locals := lo } s m args below meth c s.heap [] 0 0 Q (F0 m 0 ls [])) : KR l D cI cB cJ y bytes maxL ret fr lo av wc r0 := by
  intro sz
  refine Met.ofW (cc := bytes) (maxL := maxL) (ret := ret) hy rfl ?_
  intro p e s m args below meth c s₁ B hml hv
  obtain ⟨rfl, rfl, hP, hK, hD, hx⟩ := hv
  have hr := B.returns
  have hlocks := B.notSynchronized
  rw [lg_entry_eq]
  exact body p e s m _ below meth c _ _ _ (Cx.of B hml hK hx) (lv_entry av hav) (Wd.start hP hD) (fun pc ls hdg => W.zret B.exec B.bytes (hr.trans hret) hnr (fun t ht _ => ⟨rfl, ht⟩) (fun q hq => nomatch hq) hdg)
theorem KI.ofW (hy : plainName y.cls = true) (hav : (lg_sl av).length ≤ maxL) {ty : FieldType} (hret : ret = some ty) (hnr : narrow ty (.int r0) = .int r0)
    (body : ∀ (p : Program) (e : Env) (s : State) (m : MethodId) (args : Array Value) (below : List Frame) (meth : Method) (c : Code) (A : Nat → Prop) (Q : State → Prop) (ls : Array Slot), Cx p s m args c bytes maxL y.cls D cI cB cJ → lv_has ls maxL (lv_args 0 av) → Wd D A s wc s.heap [] →
      (∀ (pc : Nat) (ls : Array Slot) (H : Heap) (locs : List Loc), decode bytes pc = .ok (.ireturn, 1) → Wd D A s w1 H locs → W p l e { frames := fr, cells := 0, slots := 0, locals := lo } s m args below meth c H locs 0 0 Q (F0 m pc ls [.int r0])) →
      W p l e { frames := fr, cells := 0, slots := 0, locals := lo } s m args below meth c s.heap [] 0 0 Q (F0 m 0 ls [])) : KI l D cI cB cJ y bytes maxL ret fr lo av wc r0 w1 := by
  intro sz
  refine Met.ofW (cc := bytes) (maxL := maxL) (ret := ret) hy rfl ?_
  intro p e s m args below meth c s₁ B hml hv
  obtain ⟨rfl, rfl, hP, hK, hD, hx⟩ := hv
  have hr := B.returns
  have hlocks := B.notSynchronized
  rw [lg_entry_eq]
  exact body p e s m _ below meth c _ _ _ (Cx.of B hml hK hx) (lv_entry av hav) (Wd.start hP hD) (fun pc ls H locs hdg w => W.zret B.exec B.bytes (hr.trans hret) hnr (fun t ht _ => ⟨⟨r0, (), rfl, rfl, by rw [ht]; exact w.1, w.2.1⟩, w.2.2.1.F ht⟩) w.2.2.1.2.2 hdg)
theorem KV.ofW {B0 : (Nat → Prop) → State → Prop} (hy : plainName y.cls = true) (hav : (lg_sl av).length ≤ maxL)
    (body : ∀ (p : Program) (e : Env) (s : State) (m : MethodId) (args : Array Value) (below : List Frame) (meth : Method) (c : Code) (A : Nat → Prop) (Q : State → Prop) (ls : Array Slot), Cx p s m args c bytes maxL y.cls D cI cB cJ → meth.name = y.name → lv_has ls maxL (lv_args 0 av) → Wd D A s wc s.heap [] →
      (∀ (pc : Nat) (ls : Array Slot) (H : Heap) (locs : List Loc), decode bytes pc = .ok (.return_, 1) → va_S A s.heap H locs → (∀ t : State, t.heap = H → B0 A t) → W p l e { frames := fr, cells := mc, slots := ms, locals := lo } s m args below meth c H locs mc ms Q (F0 m pc ls [])) →
      W p l e { frames := fr, cells := mc, slots := ms, locals := lo } s m args below meth c s.heap [] 0 0 Q (F0 m 0 ls [])) : KV l D cI cB cJ y bytes maxL fr lo mc ms av wc B0 := by
  intro sz
  refine Met.ofW (cc := bytes) (maxL := maxL) (ret := none) hy rfl ?_
  intro p e s m args below meth c s₁ B hml hv
  obtain ⟨rfl, rfl, hP, hK, hD, hx⟩ := hv
  have hr := B.returns
  have hlocks := B.notSynchronized
  rw [lg_entry_eq]
  exact body p e s m _ below meth c _ _ _ (Cx.of B hml hK hx) (name_of_methodNamed B.named B.method).1 (lv_entry av hav) (Wd.start hP hD) (fun pc ls H locs hdg hS hB => W.vret B.exec B.bytes hr (fun t ht _ => ⟨⟨(), rfl, trivial, hB t ht⟩, hS.F ht⟩) hS.2.2 hdg)
theorem KX.ofB {E : String} (hy : plainName y.cls = true) (hav : (lg_sl av).length ≤ maxL)
    (body : ∀ (p : Program) (e : Env) (s : State) (m : MethodId) (args : Array Value) (below : List Frame) (meth : Method) (c : Code) (A : Nat → Prop) (ls : Array Slot), Cx p s m args c bytes maxL y.cls D cI cB cJ → c.exceptionTable.isEmpty = true → meth.locks = false → lv_has ls maxL (lv_args 0 av) → Wd D A s wc s.heap [] →
      W p l e { frames := fr, cells := 1, slots := 6, locals := lo } s m args below meth c s.heap [] 0 0 (XQ below E s) (F0 m 0 ls [])) : KX l D cI cB cJ y bytes maxL ret fr lo av wc E := by
  intro sz
  refine KX.ofW (cc := bytes) (maxL := maxL) (ret := ret) hy rfl ?_
  intro p e s m args below meth c s₁ B hml hv
  obtain ⟨rfl, rfl, hP, hK, hD, hx⟩ := hv
  have hemp := B.noHandlers (atoms_spec (ws := Cond.code y bytes maxL ret :: wT) B.pre _ List.mem_cons_self)
  rw [lg_entry_eq]
  exact body p e s m _ below meth c _ _ (Cx.of B hml hK hx) hemp B.notSynchronized (lv_entry av hav) (Wd.start hP hD)
/-- a helper of the law: a method with handlers -/
def KH (l : Launch) (D : va_G) (cI cB cJ : ClassId) (y : MethodName) (bytes : ByteArray) (maxL : Nat) (hh : List (Nat × Nat × Nat × Nat)) (fr lo : Nat) (av : List Value) (wc : va_W) (r0 : Int32) (w1 : va_W) : Prop :=
  ∀ sz : Nat, Met l y (Cond.codeWith y bytes maxL (some .int) hh :: wT) { frames := fr, cells := 1, slots := 6, locals := lo } (va_Pc av (CP D cI cB cJ wc sz)) (va_Qi (fun r (_ : Unit) => r = r0) (fun _ t => CE D w1 (va_A wc sz) t) (va_A wc sz)) 1 6 (va_A wc sz)
theorem KH.ofW {hh : List (Nat × Nat × Nat × Nat)} (hy : plainName y.cls = true) (hav : (lg_sl av).length ≤ maxL)
    (body : ∀ (p : Program) (e : Env) (s : State) (m : MethodId) (args : Array Value) (below : List Frame) (meth : Method) (c : Code) (A : Nat → Prop) (Q : State → Prop) (ls : Array Slot), Cx p s m args c bytes maxL y.cls D cI cB cJ → c.exceptionTable.toList.map (fun h => (h.startPc, h.endPc, h.handlerPc, h.catchType)) = hh → lv_has ls maxL (lv_args 0 av) → Wd D A s wc s.heap [] →
      (∀ (pc : Nat) (ls : Array Slot) (H : Heap) (locs : List Loc), decode bytes pc = .ok (.ireturn, 1) → Wd D A s w1 H locs → W p l e { frames := fr, cells := 1, slots := 6, locals := lo } s m args below meth c H locs 1 6 Q (F0 m pc ls [.int r0])) →
      W p l e { frames := fr, cells := 1, slots := 6, locals := lo } s m args below meth c s.heap [] 0 0 Q (F0 m 0 ls [])) : KH l D cI cB cJ y bytes maxL hh fr lo av wc r0 w1 := by
  intro sz
  refine va_MetW (cc := bytes) (maxL := maxL) (ret := some .int) (hh := hh) hy rfl ?_
  intro p e s m args below meth c s₁ B hml hv
  obtain ⟨rfl, rfl, hP, hK, hD, hx⟩ := hv
  have hr := B.returns
  have hlocks := B.notSynchronized
  obtain ⟨m9, meth9, c9, hn9, h1, h2, -, -, htab, -⟩ := Cond.codeWith_spec (atoms_spec (ws := Cond.codeWith y bytes maxL (some .int) hh :: wT) B.pre _ List.mem_cons_self)
  cases B.named.symm.trans hn9
  cases B.method.symm.trans h1
  cases (Stand.of_body B).code.symm.trans h2
  rw [lg_entry_eq]
  exact body p e s m _ below meth c _ _ _ (Cx.of B hml hK hx) htab (lv_entry av hav) (Wd.start hP hD) (fun pc ls H locs hdg w => W.iret B.exec B.bytes hr (fun t ht _ => ⟨⟨r0, (), rfl, rfl, by rw [ht]; exact w.1, w.2.1⟩, w.2.2.1.F ht⟩) w.2.2.1.2.2 hdg)
end EN
section CH
variable {p : Program} {l : Launch} {e : Env} {R : Room} {s : State} {m : MethodId} {args : Array Value} {below : List Frame} {meth : Method} {c : Code} {H : Heap} {locs : List Loc} {cells slots : Nat} {Q : State → Prop}
variable {cc : ByteArray} {pc nL : Nat} {ls : Array Slot} {rest : List Value} {own : String} {D : va_G} {cI cB cJ : ClassId} {A : Nat → Prop} {ws : va_W} {a : Nat}
variable {y : MethodName} {bytes : ByteArray} {maxL fr lo index n9 : Nat} {As : List Value} {wc wr w1 : va_W}
/-- the law calls a helper -/
theorem R_sh {hh : List (Nat × Nat × Nat × Nat)} (C0 : Cx p s m args c cc nL own D cI cB cJ) (w : Wd D A s ws H locs) (isC isR : List Nat) {r0 : Int32} (hM : KH l D cI cB cJ y bytes maxL hh fr lo As wc r0 w1) (hnC : va_nd isC = true) (hC : isC.map (fun i => ws[i]?) = wc.map some) (hnR : va_nd isR = true) (hRr : isR.map (fun i => ws[i]?) = wr.map some) (hdis : ∀ i ∈ isR, i ∉ isC) (hcode : Cond.codeWith y bytes maxL (some .int) hh ∈ wT) (hlink : Cond.methodLink own index y ∈ wT) (hstat : Cond.static y ∈ wT) (hini : Cond.initialized y.cls ∈ wT)
    (hd : y.cls ≠ "java/lang/invoke/MethodHandle" ∧ y.cls ≠ "java/lang/invoke/VarHandle" ∧ (parseMethodDescriptor y.desc).map (fun d => d.parameters.length) = some n9) (hn9 : As.length = n9) (hR : fr + 1 ≤ R.frames ∧ 8 + (maxL + 11) + lo ≤ R.locals) (hls : ls.size = nL) {st0 : List Value} (hst : st0 = As.reverse ++ rest) (hrest : (rest.map fun v => v.category).sum ≤ 8) (hdg : decode cc pc = .ok (.invokestatic index, 3)) (hcs : cells + 1 ≤ R.cells) (hss : slots + 6 ≤ R.slots)
    (kk : ∀ (H1 : Heap) (locs1 : List Loc), Wd D A s (wr ++ w1) H1 locs1 → W p l e R s m args below meth c H1 locs1 (cells + 1) (slots + 6) Q (F0 m (pc + 3) ls (.int r0 :: rest))) : W p l e R s m args below meth c H locs cells slots Q (F0 m pc ls st0) := by
  subst hst
  have hts := C0.2.2.2.2.1
  have hF := va_free (wc := wc) w.2.1 w.2.2.1 w.2.2.2.1 isC hC
  have hgood : GoodIn wT (Cond.codeWith y bytes maxL (some .int) hh :: wT) := gI (gI1 hcode)
  have hK : Back l R p e below s args y 3 8 (PreOf R 1 6 (va_Pc As (CP D cI cB cJ wc H.size))) (PostOf (va_Qi (fun r (_ : Unit) => r = r0) (fun _ t => CE D w1 (va_A wc H.size) t) (va_A wc H.size)) 1 6 (va_A wc H.size)) :=
    va_backW (hh := hh) (bytes := bytes) (maxL := maxL) (ret := some .int) (hM H.size) CP.blind rfl rfl hR.1 hR.2 (pay_in hts hgood) List.mem_cons_self (fun a' U hW => word_at hW (good_of_word (wT_good _ hini)) (hts _ hini))
  have hrun : va_Run p l e R s m args below meth c H locs cells slots 1 6 (F0 m pc ls (As.reverse ++ rest)) rest (va_Qi (fun r (_ : Unit) => r = r0) (fun _ t => CE D w1 (va_A wc H.size) t) (va_A wc H.size) As.toArray) (va_A wc H.size) := by
    intro T hT X
    obtain ⟨mk, methM, cM, hnamed, hmethM, hcM, -, -, -, -, -, hsigM⟩ := Cond.codeWith_spec (hts _ hcode)
    have hstatic : methM.isStatic = true := Cond.static_spec hnamed hmethM (hts _ hstat)
    obtain ⟨kP, hkP, -⟩ := className_of_methodNamed hnamed
    have hinitP : kP.init = .initialized := Cond.initialized_spec (findClass_of_methodNamed hnamed) hkP (hts _ hini)
    have hlen : As.length = methM.sig.parameters.length := by
      have h2 := hd.2.2
      rw [hsigM] at h2
      exact hn9.trans (Option.some.inj h2).symm
    obtain ⟨vm₁, X₁, hstep₁⟩ := X.invokestatic C0.1 C0.2.2.2.1 (hts _ hlink) hnamed hmethM hstatic hkP hinitP ⟨hd.1, hd.2.1⟩ (g := F0 m pc ls (As.reverse ++ rest)) rfl (argsL := As) (rest := rest) hlen rfl (by rw [C0.2.1]; exact hdg)
    obtain ⟨v, ⟨U', l2, c2, s2⟩, X', ⟨g', mk', t, L, e1, e2, hq, h1, hL, h2, h3⟩, hsteps⟩ := hK m meth c ⟨T.setVm vm₁, locs, cells, slots⟩ { F0 m pc ls (As.reverse ++ rest) with stack := rest } (.invokestatic index) mk As.toArray X₁ rfl (hls.trans C0.2.2.1.symm) (by rw [C0.2.1]; exact hdg) (lv_room hrest) (X₁.named hnamed) ⟨hcs, hss, rfl, CP.give C0.2.2.2.2.2.1 C0.2.2.2.2.2.2 w isC hnC hC hT X₁.warmed⟩
    dsimp only [Pt.U, Pt.locs, Pt.cells, Pt.slots] at X' e1 e2 h1 h2 h3 hsteps
    subst h1; subst h2; subst h3
    exact ⟨v, (T.setVm vm₁).calling g' mk' As.toArray, t, U', L, hT, X', hL, e1, e2, hq, fun target h => hstep₁ _ fun acts => by rw [doInvoke_state]; exact hsteps.trans h⟩
  refine va_calli hrun w.2.2.1 (fun q _ h => hF q h) hF (fun r u t H1 locs1 ht hvm hr hB hz hk hS => ?_)
  subst hr
  obtain ⟨hP1, hD1⟩ := hB
  rw [ht] at hP1
  obtain ⟨hP, hD⟩ := va_join (wr := wr) (w1 := w1) w.1 w.2.1 isC isR hC hRr hnR hdis hk hF hP1 hD1
  exact kk H1 locs1 (w.to hP hD hS)
end CH
section SM
variable {p : Program} {l : Launch} {e : Env} {R : Room} {s : State} {m : MethodId} {args : Array Value} {below : List Frame} {meth : Method} {c : Code} {H : Heap} {locs : List Loc} {cells slots : Nat} {Q : State → Prop} {pc : Nat} {ls : Array Slot} {rest : List Value}
theorem lv_cst {x y : Int32} (h : x = y) (k : W p l e R s m args below meth c H locs cells slots Q (F0 m pc ls (.int y :: rest))) : W p l e R s m args below meth c H locs cells slots Q (F0 m pc ls (.int x :: rest)) := by
  rw [h]
  exact k
end SM
theorem vin {i : Int32} {n : Nat} (h : ¬ (i < 0 ∨ n ≤ i.toNatClampNeg)) : vp_in i n := h
abbrev tabF (h : ExceptionTableEntry) : Nat × Nat × Nat × Nat := (h.startPc, h.endPc, h.handlerPc, h.catchType)
theorem tab1 {L : List ExceptionTableEntry} {a : Nat × Nat × Nat × Nat} (h : L.map (fun h => (h.startPc, h.endPc, h.handlerPc, h.catchType)) = [a]) : ∃ z, tabF z = a ∧ L = [z] := by
  match L, h with
  | [z], h => exact ⟨z, (List.cons.inj h).1, rfl⟩
theorem tab2 {L : List ExceptionTableEntry} {a b : Nat × Nat × Nat × Nat} (h : L.map (fun h => (h.startPc, h.endPc, h.handlerPc, h.catchType)) = [a, b]) : ∃ z, tabF z = a ∧ ∃ z', tabF z' = b ∧ L = [z, z'] := by
  match L, h with
  | [z, z'], h => exact ⟨z, (List.cons.inj h).1, z', (List.cons.inj (List.cons.inj h).2).1, rfl⟩
theorem cov_eq {z : ExceptionTableEntry} {pc a b c d : Nat} (h : tabF z = (a, b, c, d)) : covers z pc = (decide (a ≤ pc) && decide (pc < b)) := by
  have h1 : z.startPc = a := congrArg Prod.fst h
  have h2 : z.endPc = b := congrArg (fun q => q.2.1) h
  show (decide (z.startPc ≤ pc) && decide (pc < z.endPc)) = _
  rw [h1, h2]
theorem ct_eq {z : ExceptionTableEntry} {a b c d : Nat} (h : tabF z = (a, b, c, d)) : z.catchType = d := congrArg (fun q => q.2.2.2) h
theorem hpc_eq {z : ExceptionTableEntry} {a b c d : Nat} (h : tabF z = (a, b, c, d)) : z.handlerPc = c := congrArg (fun q => q.2.2.1) h
theorem sp_out {k : Int32} (h0 : ¬ k = 0) (h1 : ¬ k = 1) (h2 : ¬ k = 2) : k.toInt < 0 ∨ 2 < k.toInt := by
  have a0 : k.toInt ≠ 0 := fun h => h0 (Int32.toInt_inj.mp (by rw [h]; decide))
  have a1 : k.toInt ≠ 1 := fun h => h1 (Int32.toInt_inj.mp (by rw [h]; decide))
  have a2 : k.toInt ≠ 2 := fun h => h2 (Int32.toInt_inj.mp (by rw [h]; decide))
  omega
theorem l6 {L : Nat} (h : L ≤ 6) (hc : ¬ (Int32.ofNat L - 6 < 0)) : L = 6 := by
  have h7 : L = 0 ∨ L = 1 ∨ L = 2 ∨ L = 3 ∨ L = 4 ∨ L = 5 ∨ L = 6 := by omega
  rcases h7 with rfl | rfl | rfl | rfl | rfl | rfl | rfl
  · exact absurd (by decide) hc
  · exact absurd (by decide) hc
  · exact absurd (by decide) hc
  · exact absurd (by decide) hc
  · exact absurd (by decide) hc
  · exact absurd (by decide) hc
  · rfl
theorem nz0 : narrow .boolean (.int 0) = .int 0 := by decide +kernel
theorem nz1 : narrow .boolean (.int 1) = .int 1 := by decide +kernel
theorem fz0 : fits .boolean (.int 0) = true := by decide +kernel
