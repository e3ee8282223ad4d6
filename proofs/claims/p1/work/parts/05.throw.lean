/-! throws: a method that ends by 'throw new E(text)', and the call that catches it -/
/-- how a throwing method leaves: the exception is a new object of the class E; no old cell has changed -/
def XE (E : String) (st : State) (o : Outcome) (t : State) : Prop := ∃ (q : Addr) (ce : Cell), o = .threw q ∧ t.heap[q]? = some ce ∧ ce.vm = .none ∧ st.vm.findClass E = some ce.cls ∧ st.WarmedH t.vm ∧ st.sameButNew ({ t with vm := st.vm } : State) [] 1 6
def XQ (below : List Frame) (E : String) (s : State) : State → Prop := fun t => ∃ o : Outcome, t.status = .running ∧ Ended t below o ∧ XE E s o t
def KX (l : Launch) (D : va_G) (cI cB cJ : ClassId) (y : MethodName) (bytes : ByteArray) (maxL : Nat) (ret : Option FieldType) (fr lo : Nat) (av : List Value) (wc : va_W) (E : String) : Prop :=
  ∀ sz : Nat, MetFree l y (headSpec (Cond.code y bytes maxL ret :: wT) { frames := fr, cells := 1, slots := 6, locals := lo }) (va_Pc av (CP D cI cB cJ wc sz)) (fun _ _ _ _ _ => True) (fun _ st o t => XE E st o t)
theorem KX.ofW {l : Launch} {y : MethodName} {ws ws' : List Cond} {rm : Room} {Pc : Array Value → State → Prop} {E : String} {cc : ByteArray} {maxL : Nat} {ret : Option FieldType}
    (hy : plainName y.cls = true) (hw : ws = Cond.code y cc maxL ret :: ws')
    (body : ∀ p e s m args below meth c s₁, BodyLoose p l y (headSpec ws rm) cc maxL ret e s m args below meth c s₁ → c.maxLocals = maxL → Pc args s →
      W p l e (headSpec ws rm).room s m args below meth c s.heap [] 0 0 (XQ below E s) (entryFrame m args maxL)) : MetFree l y (headSpec ws rm) Pc (fun _ _ _ _ _ => True) (fun _ st o t => XE E st o t) := by
  refine MetFree.of_bodyS (code := cc) (maxLocals := maxL) (ret := ret) hy ?_ ?_
  · intro args s m h hn
    obtain ⟨meth, c, h1, h2, h3, h4, h5, h6, -, -⟩ := Cond.code_spec hn (atoms_spec (ws := ws) h _ (by rw [hw]; exact List.mem_cons_self))
    exact ⟨meth, c, h1, h2, h3, h4, h5, h6⟩
  · intro p e s m args below meth c s₁ B hml hP _
    have hh0 : s₁.heap = s.heap := by rw [B.state]; rfl
    obtain ⟨t, a1, o, b1, b2, b3⟩ := body p e s m args below meth c s₁ B hml hP s₁ hh0 (Stand.of_body B)
    exact ⟨t, o, a1, b1, b2, b3⟩
/-- the words that a throw asks -/
def x_ok (w : Cond) : Bool := decide (w ∈ wT) || (match w with
  | .castable a b => decide ((a, b) ∈ cas)
  | .declares y => decide (y ∈ dcl)
  | .laysStatic C n d => decide (C = "java/lang/Throwable" ∧ ((n = "UNASSIGNED_STACK" ∧ d = "[Ljava/lang/StackTraceElement;") ∨ (n = "SUPPRESSED_SENTINEL" ∧ d = "Ljava/util/List;")))
  | .isRef (.static C n d) => decide (C = "java/lang/Throwable" ∧ ((n = "UNASSIGNED_STACK" ∧ d = "[Ljava/lang/StackTraceElement;") ∨ (n = "SUPPRESSED_SENTINEL" ∧ d = "Ljava/util/List;")))
  | _ => false)
theorem x_ok_spec {args : Array Value} {s : State} (hts : ∀ w ∈ wT, w.before args s = true) (hx : Kx s) {w : Cond} (h : x_ok w = true) : w.before args s = true := by
  unfold x_ok at h
  rw [Bool.or_eq_true] at h
  rcases h with h | h
  · exact hts w (of_decide_eq_true h)
  · split at h
    · exact va_Nw.use rfl (hx.ca _ (of_decide_eq_true h))
    · exact va_Nw.use rfl (hx.de _ (of_decide_eq_true h))
    · obtain ⟨rfl, ⟨rfl, rfl⟩ | ⟨rfl, rfl⟩⟩ := of_decide_eq_true h
      · exact hx.zu.lays
      · exact hx.zs.lays
    · obtain ⟨rfl, ⟨rfl, rfl⟩ | ⟨rfl, rfl⟩⟩ := of_decide_eq_true h
      · exact hx.zu.isRef
      · exact hx.zs.isRef
    · cases h
section TH
variable {p : Program} {l : Launch} {e : Env} {R : Room} {s : State} {m : MethodId} {args : Array Value} {below : List Frame} {meth : Method} {c : Code} {H : Heap} {locs : List Loc} {cells slots : Nat} {Q : State → Prop}
variable {cc : ByteArray} {pc nL : Nat} {ls : Array Slot} {rest : List Value} {own : String} {D : va_G} {cI cB cJ : ClassId} {A : Nat → Prop} {ws : va_W} {a : Nat}
/-- 'throw new E(text)' in a method that has changed nothing yet -/
theorem R_throw (C0 : Cx p s m args c cc nL own D cI cB cJ) (htl : l.stackTraces = false) {cls tx : String} {names : List String} {ik is ic ix : Nat} {rx : ByteArray} (x0 : decode rx 0 = .ok (.aload_n 0, 1)) (x1 : decode rx 1 = .ok (.aload_n 1, 1)) (x2 : decode rx 2 = .ok (.invokespecial ix, 3)) (x5 : decode rx 5 = .ok (.return_, 1)) (hcls : Bundle.fit cls = true) (hnames : ∀ n ∈ names, Bundle.fit n = true) (hown : own = "NameForge")
    (hat : (ow_words "NameForge" ic cls ix rx names).all x_ok = true) (hkl : Cond.classLink own ik cls ∈ wT) (hini : Cond.initialized cls ∈ wT) (hins : Cond.instantiable cls 6 ∈ wT) (hstr : (is, tx) ∈ strs) (hls : ls.size = nL)
    (d0 : decode cc pc = .ok (.new ik, 3)) (d3 : decode cc (pc + 3) = .ok (.dup, 1)) (d4 : decode cc (pc + 4) = .ok (.ldc is, 2)) (d6 : decode cc (pc + 6) = .ok (.invokespecial ic, 3)) (d9 : decode cc (pc + 9) = .ok (.athrow, 1)) (hout : c.exceptionTable.isEmpty = true) (hlocks : meth.locks = false)
    (hRc : 1 ≤ R.cells) (hRs : 6 ≤ R.slots) (hRf : names.length + 3 < R.frames) (hRl : (rest.map fun v => v.category).sum + (13 * (names.length + 1) + 43) ≤ R.locals) : W p l e R s m args below meth c s.heap [] 0 0 (XQ below cls s) (F0 m pc ls rest) := by
  subst hown
  have hat' : ∀ w ∈ ow_words "NameForge" ic cls ix rx names, w.before args s = true := fun w hw => x_ok_spec C0.2.2.2.2.1 C0.2.2.2.2.2.2 (List.all_eq_true.mp hat w hw)
  refine W.newc C0.1 C0.2.1 C0.2.2.2.1 (C0.2.2.2.2.1 _ hkl) (C0.2.2.2.2.1 _ hins) (C0.2.2.2.2.1 _ hini) rfl d0 (by omega) (by omega) (fun cX kX hfX hkX hord hn6 => ?_)
  refine W.eq (g2 := F0 m (pc + 3) ls (.ref s.heap.size :: rest)) rfl ?_
  refine lv_dup C0.1 C0.2.1 d3 rfl ?_
  obtain ⟨sa, hsa⟩ := C0.2.2.2.2.2.2.str (is, tx) hstr
  refine va_ldcS (own := "NameForge") (tx := tx) (q := sa) C0.1 C0.2.1 C0.2.2.2.1 hsa d4 ?_
  intro T hT X
  have htr : e.platform.stackTraces = false := (show e.platform.stackTraces = l.stackTraces by rw [X.admits.platform]).trans htl
  have hcellA : T.heap[s.heap.size]? = some (freshCell cX kX) := by rw [hT]; simp [freshCell]
  obtain ⟨U, hsteps, hrun, hend, hW, hsame, -, -, ce, hce, hcc, hcv⟩ := ow_throw X C0.1 htr (fun x hx => nomatch hx) x0 x1 x2 x5 C0.2.2.2.1 hcls hnames hat' hfX hkX hcellA (Nat.le_refl _) (tx := .ref sa) rfl
    (g := F0 m (pc + 4 + 2) ls (.ref sa :: .ref s.heap.size :: .ref s.heap.size :: rest)) rfl (by rw [C0.2.2.1]; exact hls) rfl rfl (rest := rest) rfl (by rw [C0.2.1]; exact d6) (by rw [C0.2.1]; exact d9)
    (fun x hx => by rw [Array.isEmpty_iff.mp hout] at hx; cases hx) hRf (by have h9 : (Value.ref s.heap.size).category = 1 := rfl; have h8 : (F0 m (pc + 4 + 2) ls (.ref sa :: .ref s.heap.size :: .ref s.heap.size :: rest)).monitorRoom = 0 := rfl; simp only [List.map_cons, List.sum_cons, h9, h8]; omega) hlocks
  exact ⟨U, hsteps, .threw s.heap.size, hrun, hend, s.heap.size, ce, rfl, hce, hcv, by rw [hcc]; exact hfX, hW, hsame⟩
/-- the call of a method that throws, under a handler of the caller's -/
theorem R_catch (C0 : Cx p s m args c cc nL own D cI cB cJ) (w : Wd D A s ws H locs) {b : Nat} (k : Nat) {ci : Nat} {fs : List Value} (he : ws[k]? = some (b, .inr (ci, fs))) {C : String} {T : u_T} {N : Nat} (hc : vCl[ci]? = some (C, T, N)) (isC : List Nat) {y : MethodName} {bytes : ByteArray} {maxL fr lo index n9 : Nat} {ret : Option FieldType} {As : List Value} {wc : va_W} {E : String} (hM : KX l D cI cB cJ y bytes maxL ret fr lo (.ref b :: As) wc E) (hnC : va_nd isC = true) (hC : isC.map (fun i => ws[i]?) = wc.map some)
    (hcode : Cond.code y bytes maxL ret ∈ wT) (hlink : Cond.methodLink own index y ∈ wT) (hinst : Cond.instanceMethod y ∈ wT) (hsel : Cond.selects C y y ∈ wT) (hini : Cond.initialized y.cls ∈ wT)
    (hd : y.cls ≠ "java/lang/invoke/MethodHandle" ∧ y.cls ≠ "java/lang/invoke/VarHandle" ∧ (parseMethodDescriptor y.desc).map (fun d => d.parameters.length) = some n9) (hn9 : As.length = n9) (hR : fr + 1 ≤ R.frames ∧ 8 + (maxL + 11) + lo ≤ R.locals) (hls : ls.size = nL) {st0 : List Value} (hst : st0 = As.reverse ++ .ref b :: rest) (hrest : (rest.map fun v => v.category).sum ≤ 8) (hdg : decode cc pc = .ok (.invokevirtual index, 3)) (hcs : cells + 1 ≤ R.cells) (hss : slots + 6 ≤ R.slots)
    {pre suf : List ExceptionTableEntry} {x : ExceptionTableEntry} (hsplit : c.exceptionTable.toList = pre ++ x :: suf) (hpass : ∀ z ∈ pre, z.catchType ≠ 0 ∧ ∃ nm : String, Cond.classLink own z.catchType nm ∈ wT ∧ (E, nm) ∈ ncs) (hcov : covers x pc = true) (h0 : x.catchType ≠ 0) {nm : String} (hcl : Cond.classLink own x.catchType nm ∈ wT) (hcast : (E, nm) ∈ cas)
    (kk : ∀ (q : Nat) (H1 : Heap), Wd D A s ws H1 locs → W p l e R s m args below meth c H1 locs (cells + 1) (slots + 6) Q (F0 m x.handlerPc ls [.ref q])) : W p l e R s m args below meth c H locs cells slots Q (F0 m pc ls st0) := by
  subst hst
  have hts := C0.2.2.2.2.1
  have hcB : CallB R s args own index y bytes maxL ret (Cond.code y bytes maxL ret :: wT) { frames := fr, cells := 1, slots := 6, locals := lo } 1 6 n9 := cB_of (rm := { frames := fr, cells := 1, slots := 6, locals := lo }) C0 hcode hlink hini hd hR
  obtain ⟨-, -, -, -, hws, hcw, -, -, hy, hlen, -⟩ := hcB
  intro T1 hT X
  subst hT
  obtain ⟨cellB, hcellB, hnsB, hclsB⟩ := va_recv C0.2.2.2.2.2.1 w.1 hc he
  have hclsB : s.vm.findClass C = some cellB.cls := hclsB
  obtain ⟨mk, methM, hnamed, hmethM, hstM, habM⟩ := Cond.instanceMethod_spec (hts _ hinst)
  obtain ⟨methM', cM, hmethM', -, -, -, -, -, -, hsigM⟩ := Cond.code_spec hnamed (hts _ hcode)
  cases hmethM.symm.trans hmethM'
  obtain ⟨c2, r2, m2, q1, q2, q3, q4, kP, hkP, hkPi⟩ := Cond.selects_spec (hts _ hsel)
  cases hclsB.symm.trans q1
  cases (State.methodFound?_of_named hnamed hy).symm.trans q2
  cases hnamed.symm.trans q3
  have hselP : selectMethod e.platform s.vm cellB.cls mk = .method mk := by rw [Launch.admits_selectMethod X.admits]; exact q4
  obtain ⟨vm₁, X₁, hstep₁⟩ := X.invokevirtual C0.1 C0.2.2.2.1 (hts _ hlink) hnamed hmethM hstM hkP hkPi hy (a := b) (cell := cellB) hcellB (fun z h => by rw [h] at hnsB; cases hnsB) hselP hmethM habM hkP hkPi (g := F0 m pc ls (As.reverse ++ .ref b :: rest)) rfl (argsL := As) (rest := rest) (hn9.trans (hlen _ hsigM)) rfl (by rw [C0.2.1]; exact hdg)
  have hW₁ := X₁.warmed
  obtain ⟨v, L, B, XB, ⟨rfl, hsz, hold, ce, e6, e7, hcE⟩, hst1⟩ := ow_call X₁ (hM T1.heap.size) (bytes := bytes) (maxL := maxL) (ret := ret) (w := 8) (k0 := 1) (n0 := 6) (g := { F0 m pc ls (As.reverse ++ .ref b :: rest) with stack := rest }) rfl (hls.trans C0.2.2.1.symm) (by rw [C0.2.1]; exact hdg) (lv_room hrest) (X₁.named hnamed) (a := (Value.ref b :: As).toArray)
    (atoms_intro fun w hw => hws w hw _ _ hW₁) (hws _ hcw _ _ hW₁) (word_at hW₁ (good_of_word (wT_good _ hini)) (hts _ hini)) hR.1 hR.2 hcs hss (CP.blind _ _ _ _ ⟨rfl, CP.give C0.2.2.2.2.2.1 C0.2.2.2.2.2.2 w isC hnC hC rfl hW₁⟩)
    (E := fun q L H1 => L = [] ∧ T1.heap.size ≤ H1.size ∧ (∀ z : Nat, z < T1.heap.size → H1[z]? = T1.heap[z]?) ∧ ∃ ce : Cell, H1[q]? = some ce ∧ ce.vm = .none ∧ s.vm.findClass E = some ce.cls) (by
      rintro o t ⟨q, ce, ho, h1, h2, h3, h4, h5⟩
      refine ⟨q, [], ho, h4, h5, rfl, h5.2.1, fun z hz => ?_, ce, h1, h2, ?_⟩
      · obtain ⟨cz, hcz⟩ : ∃ cz, T1.heap[z]? = some cz := ⟨_, Array.getElem?_eq_getElem hz⟩
        obtain ⟨cz', g1, g2, g3, g4⟩ := h5.2.2.2.2.2 z cz hcz
        have hsl : cz'.slots = cz.slots := Array.ext_getElem? fun i => g4 i (fun hm => nomatch hm)
        have g1' : t.heap[z]? = some cz' := g1
        rw [g1', hcz, g2, hsl]
      · have h9 : (T1.setVm vm₁).vm.findClass E = some ce.cls := h3
        rwa [hW₁.alike.findClass] at h9)
  obtain ⟨c3, cT, hc3, hcT, hasg⟩ := Cond.castable_spec (va_Nw.use (A := args) rfl (C0.2.2.2.2.2.2.ca _ hcast))
  cases hcE.symm.trans hc3
  have hpl : e.platform.magicAccessors = ({} : Platform).magicAccessors := by rw [X.admits.platform]
  obtain ⟨cX, hcX, hlX⟩ := Cond.classLink_spec C0.2.2.2.1 (hts _ hcl) e.platform hpl
  cases hcT.symm.trans hcX
  obtain ⟨vm', XV, hst2⟩ := ow_caught XB v (g := { F0 m pc ls (As.reverse ++ .ref b :: rest) with stack := rest }) rfl e6 e7 (Vm.classAt_of_assignable hasg (Vm.classAt_of_findClass hcT)) hsplit (fun z hz => by
    obtain ⟨z0, nmz, hz1, hz2⟩ := hpass z hz
    obtain ⟨cz, hcz, hlz⟩ := Cond.classLink_spec C0.2.2.2.1 (hts _ hz1) e.platform hpl
    exact ⟨z0, cz, hlz, ow_no (C0.2.2.2.2.2.2.nc _ hz2) hcE hcz⟩) hcov h0 hlX hasg
  rw [List.append_nil] at XV
  obtain ⟨t, a1, b1⟩ := kk v B.heap (w.to (w.1.kept (fun k x hx => hold x.1 ((w.1 k x hx).lt))) w.2.1 ⟨Nat.le_trans w.2.2.1.1 hsz, fun x h1 h2 => (hold x (Nat.lt_of_lt_of_le h1 w.2.2.1.1)).trans (w.2.2.1.2.1 x h1 h2), w.2.2.1.2.2⟩) (B.setVm vm') rfl XV
  exact ⟨t, (hstep₁ _ (fun acts => by rw [doInvoke_state]; exact hst1)).trans (hst2.trans a1), b1⟩
end TH
