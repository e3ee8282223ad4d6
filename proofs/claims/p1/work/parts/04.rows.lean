/-! what every method of the claim carries beside its world: the class of int[][], the texts of the class, Throwable's two statics -/
def st_Z (C n d : String) (U : State) (H : Heap) : Prop := ∃ (c : ClassId) (k : Class) (i : Nat) (f : Field) (a : Nat) (cell : Cell) (v : Value), U.vm.findClass C = some c ∧ U.fieldFound? C n d = some (c, k, i, f) ∧ f.isStatic = true ∧ k.statics = some a ∧ H[a]? = some cell ∧ cell.vm.isStatics = true ∧ cell.cls = c ∧ f.slot < cell.slots.size ∧ k.staticTypes[f.slot]? = some f.type ∧ cell.slots[f.slot]? = some v ∧ v.isRef = true
def st_K (H H1 : Heap) : Prop := ∀ (a : Nat) (cell : Cell), H[a]? = some cell → cell.vm.isStatics = true → H1[a]? = some cell
theorem st_Z.moved {C n d : String} {u U : State} {H : Heap} (hvm : u.vm.Alike U.vm) (h : st_Z C n d u H) : st_Z C n d U H := by
  obtain ⟨c, k, i, f, a, cell, v, h0, h1, h2, h3, h4, h5, h6, h7, h8, h9⟩ := h
  obtain ⟨k', hi', he⟩ := State.fieldFound?_setVm hvm h1
  exact ⟨c, k', i, f, a, cell, v, by rw [hvm.findClass]; exact h0, hi', h2, by rw [he]; exact h3, h4, h5, h6, h7, by rw [he]; exact h8, h9⟩
theorem st_Z.kept {C n d : String} {U : State} {H H1 : Heap} (h : st_Z C n d U H) (hq : st_K H H1) : st_Z C n d U H1 := by
  obtain ⟨c, k, i, f, a, cell, v, h0, h1, h2, h3, h4, h5, h6⟩ := h
  exact ⟨c, k, i, f, a, cell, v, h0, h1, h2, h3, hq a cell h4 h5, h5, h6⟩
theorem st_Z.lays {C n d : String} {s : State} {args : Array Value} (h : st_Z C n d s s.heap) : (Cond.laysStatic C n d).before args s = true := by
  obtain ⟨c, k, i, f, a, cell, v, h0, h1, h2, h3, h4, h5, h6, h7, h8, h9⟩ := h
  simp [Cond.before, Cond.holds, Cond.value, h0, h1, h2, h3, h4, h5, h6, h7, h8]
theorem st_Z.isRef {C n d : String} {s : State} {args : Array Value} (h : st_Z C n d s s.heap) : (Cond.isRef (.static C n d)).before args s = true := by
  obtain ⟨c, k, i, f, a, cell, v, h0, h1, h2, h3, h4, h5, h6, h7, h8, h9, h10⟩ := h
  have he : (Term.static C n d).eval args s none [] s = some v := by
    simp [Term.eval, State.fieldNamed?, h1, h2, h3, h4, h5, h9]
  simp only [Cond.before, Cond.holds, Cond.value, he]
  cases v <;> simp [Value.isRef] at h10 ⊢
theorem st_Z.of {C n d : String} {s : State} {args : Array Value} (hl : (Cond.laysStatic C n d).before args s = true) (h : (Cond.isRef (.static C n d)).before args s = true) : st_Z C n d s s.heap := by
  obtain ⟨c, k, i, f, a, cell, hc, hi, hst, ha, hcell, hs, hcls, hlt, hty⟩ := Cond.laysStatic_spec hl
  refine ⟨c, k, i, f, a, cell, cell.slots[f.slot], hc, hi, hst, ha, hcell, hs, hcls, hlt, hty, Array.getElem?_eq_getElem hlt, ?_⟩
  have he : (Term.static C n d).eval args s none [] s = some cell.slots[f.slot] := by
    simp [Term.eval, State.fieldNamed?, hi, hst, ha, hcell, hs, Array.getElem?_eq_getElem hlt]
  simp only [Cond.before, Cond.holds, Cond.value, he] at h
  generalize cell.slots[f.slot] = v at h
  cases v <;> simp [Value.isRef] at h ⊢
def y_Pi : MethodName := ⟨"NameForge$Program", "<init>", "()V"⟩
theorem nc_moved {u U : State} (hvm : u.vm.Alike U.vm) {C T : String} {A B : Array Value} (h : (Cond.not (.castable C T)).before A u = true) : (Cond.not (.castable C T)).before B U = true := by
  have hv := Cond.holds_not_iff.mp h
  refine Cond.holds_not_iff.mpr ?_
  simp only [Cond.value, hvm.findClass, hvm.assignable] at hv ⊢
  exact hv
def Kx (U : State) : Prop := (Cond.arrayOver (.array .int)).before #[] U = true ∧ (∀ x ∈ strs, ∃ a : Nat, vk_R "NameForge" x.1 x.2 a U) ∧ st_Z "java/lang/Throwable" "UNASSIGNED_STACK" "[Ljava/lang/StackTraceElement;" U U.heap ∧ st_Z "java/lang/Throwable" "SUPPRESSED_SENTINEL" "Ljava/util/List;" U U.heap ∧ (∀ x ∈ ncs, (Cond.not (.castable x.1 x.2)).before #[] U = true) ∧ va_Nw (.methodLinkNest "NameForge" ix_Pi y_Pi "NameForge") U ∧ (∀ x ∈ cas, va_Nw (.castable x.1 x.2) U) ∧ ∀ x ∈ dcl, va_Nw (.declares x) U
theorem Kx.ao {U : State} (h : Kx U) : (Cond.arrayOver (.array .int)).before #[] U = true := h.1
theorem Kx.str {U : State} (h : Kx U) : ∀ x ∈ strs, ∃ a : Nat, vk_R "NameForge" x.1 x.2 a U := h.2.1
theorem Kx.zu {U : State} (h : Kx U) : st_Z "java/lang/Throwable" "UNASSIGNED_STACK" "[Ljava/lang/StackTraceElement;" U U.heap := h.2.2.1
theorem Kx.zs {U : State} (h : Kx U) : st_Z "java/lang/Throwable" "SUPPRESSED_SENTINEL" "Ljava/util/List;" U U.heap := h.2.2.2.1
theorem Kx.nc {U : State} (h : Kx U) : ∀ x ∈ ncs, (Cond.not (.castable x.1 x.2)).before #[] U = true := h.2.2.2.2.1
theorem Kx.nest {U : State} (h : Kx U) : va_Nw (.methodLinkNest "NameForge" ix_Pi y_Pi "NameForge") U := h.2.2.2.2.2.1
theorem Kx.ca {U : State} (h : Kx U) : ∀ x ∈ cas, va_Nw (.castable x.1 x.2) U := h.2.2.2.2.2.2.1
theorem Kx.de {U : State} (h : Kx U) : ∀ x ∈ dcl, va_Nw (.declares x) U := h.2.2.2.2.2.2.2
theorem ao_moved {u U : State} (hvm : u.vm.Alike U.vm) {A B : Array Value} (h : (Cond.arrayOver (.array .int)).before A u = true) : (Cond.arrayOver (.array .int)).before B U = true := ow_over_moved hvm h
theorem Kx.at {s U : State} (h : Kx s) (hW : s.WarmedH U.vm) (hq : st_K s.heap U.heap) : Kx U :=
  ⟨ao_moved hW.alike h.ao, fun x hx => (h.str x hx).elim fun a ha => ⟨a, vk_R.warm hW ha⟩, (h.zu.moved hW.alike).kept hq, (h.zs.moved hW.alike).kept hq, fun x hx => nc_moved hW.alike (h.nc x hx), va_Nw.warmM hW h.nest, fun x hx => va_Nw.warmC hW (h.ca x hx), fun x hx => va_Nw.warmD hW (h.de x hx)⟩
theorem Kx.same {s U : State} (h : Kx s) (hv : U.vm = s.vm) (hh : U.heap = s.heap) : Kx U :=
  h.at (by rw [hv]; exact State.WarmedH.refl s) (by rw [hh]; exact fun _ _ h _ => h)
abbrev tyZ (cI cB cJ : ClassId) : List (ClassId × FieldType) := [(cI, .int), (cB, .boolean), (cJ, .long)]
/-- a method's fixed facts -/
def Cx (p : Program) (s : State) (m : MethodId) (args : Array Value) (c : Code) (cc : ByteArray) (nL : Nat) (own : String) (D : va_G) (cI cB cJ : ClassId) : Prop :=
  p.tables.exec = Jvm.exec ∧ c.code = cc ∧ c.maxLocals = nL ∧ s.vm.findClass own = some m.cls ∧ (∀ w ∈ wT, w.before args s = true) ∧ va_K D vCl (tyZ cI cB cJ) s ∧ Kx s
/-- a method's world -/
def Wd (D : va_G) (A : Nat → Prop) (s : State) (ws : va_W) (H : Heap) (locs : List Loc) : Prop :=
  va_P D vCl ws H ∧ va_D A ws ∧ va_S A s.heap H locs ∧ (∀ q, s.heap.size ≤ q → A q) ∧ ∀ (q : Nat) (cell : Cell), s.heap[q]? = some cell → cell.vm.isStatics = true → ¬ A q
theorem Wd.st {D : va_G} {A : Nat → Prop} {s : State} {ws : va_W} {H : Heap} {locs : List Loc} (w : Wd D A s ws H locs) : st_K s.heap H :=
  fun a cell h1 h2 => (w.2.2.1.2.1 a (Array.getElem?_eq_some_iff.mp h1).1 (w.2.2.2.2 a cell h1 h2)).trans h1
theorem Wd.to {D : va_G} {A : Nat → Prop} {s : State} {ws ws1 : va_W} {H H1 : Heap} {locs locs1 : List Loc} (w : Wd D A s ws H locs) (hP : va_P D vCl ws1 H1) (hD : va_D A ws1) (hS : va_S A s.heap H1 locs1) : Wd D A s ws1 H1 locs1 := ⟨hP, hD, hS, w.2.2.2⟩
theorem Wd.sub {D : va_G} {A : Nat → Prop} {s : State} {ws ws1 : va_W} {H : Heap} {locs : List Loc} (w : Wd D A s ws H locs) (is : List Nat) (hn : va_nd is = true) (hs : is.map (fun i => ws[i]?) = ws1.map some) : Wd D A s ws1 H locs :=
  w.to (w.1.sub is (by
    have h := congrArg (List.filterMap id) hs
    simpa [List.filterMap_map, Function.comp_def] using h)) (w.2.1.sub is hn hs) w.2.2.1
theorem cell_free {D : va_G} {cl : List vw_C} {q : Nat × va_E} {H : Heap} (h : va_at D cl q H) {cell : Cell} (hc : H[q.1]? = some cell) : cell.vm.isStatics = false := by
  obtain ⟨a, e⟩ := q
  cases e with
  | inl x =>
    have h1 : H[a]? = some (vp_cell x.1 x.2) := h
    cases hc.symm.trans h1
    obtain ⟨c, n, f | f | f | f | f⟩ := x <;> rfl
  | inr o =>
    obtain ⟨r, -, cell', g1, g2, g3, -⟩ := h
    cases hc.symm.trans g1
    rw [g3]
    rfl
theorem Wd.start {D : va_G} {s : State} {wc : va_W} (hP : va_P D vCl wc s.heap) (hD : va_D (fun _ => True) wc) : Wd D (va_A wc s.heap.size) s wc s.heap [] :=
  ⟨hP, hD.self, va_S.rf, fun q h => Or.inr h, fun q cell h1 h2 h3 => by
    rcases h3 with ⟨k, e, h⟩ | h
    · rw [cell_free (hP k (q, e) h) h1] at h2; cases h2
    · exact absurd (Array.getElem?_eq_some_iff.mp h1).1 (by omega)⟩
/-! contracts -/
def CP (D : va_G) (cI cB cJ : ClassId) (wc : va_W) (sz : Nat) (U : State) : Prop := U.heap.size = sz ∧ va_P D vCl wc U.heap ∧ va_K D vCl (tyZ cI cB cJ) U ∧ va_D (fun _ => True) wc ∧ Kx U
theorem CP.blind {D : va_G} {cI cB cJ : ClassId} {wc : va_W} {sz : Nat} {av : List Value} : FrameBlind (va_Pc av (CP D cI cB cJ wc sz)) := fun a U g mk q =>
  ⟨q.1, q.2.1, q.2.2.1, va_K.moved (u := U) (U := U.calling g mk a) (Vm.Alike.refl U.vm) q.2.2.2.1, q.2.2.2.2.1, q.2.2.2.2.2.same rfl rfl⟩
theorem CP.give {D : va_G} {cI cB cJ : ClassId} {A : Nat → Prop} {s U : State} {ws wc : va_W} {H : Heap} {locs : List Loc} (hK : va_K D vCl (tyZ cI cB cJ) s) (hx : Kx s) (w : Wd D A s ws H locs) (is : List Nat) (hn : va_nd is = true) (hs : is.map (fun i => ws[i]?) = wc.map some) (hU : U.heap = H) (hW : s.WarmedH U.vm) : CP D cI cB cJ wc H.size U :=
  ⟨by rw [hU], by rw [hU]; exact (w.sub is hn hs).1, va_K.moved hW.alike hK, ((w.sub is hn hs).2.1).weaken (fun _ _ _ _ => trivial), hx.at hW (by rw [hU]; exact w.st)⟩
def CE (D : va_G) (w1 : va_W) (A : Nat → Prop) (t : State) : Prop := va_P D vCl w1 t.heap ∧ va_D A w1
theorem gI {ws : List Cond} (h : ∀ w ∈ ws, w ∈ wT) : GoodIn wT ws := fun w hw => ⟨h w hw, good_of_word (wT_good w (h w hw))⟩
theorem gI1 {c0 : Cond} (h : c0 ∈ wT) : ∀ w ∈ c0 :: wT, w ∈ wT := fun w hw => (List.mem_cons.mp hw).elim (fun e => e ▸ h) id
/-- reads alone -/
def KR (l : Launch) (D : va_G) (cI cB cJ : ClassId) (y : MethodName) (bytes : ByteArray) (maxL : Nat) (ret : Option FieldType) (fr lo : Nat) (av : List Value) (wc : va_W) (r0 : Int32) : Prop :=
  ∀ sz : Nat, Met l y (Cond.code y bytes maxL ret :: wT) { frames := fr, cells := 0, slots := 0, locals := lo } (va_Pc av (CP D cI cB cJ wc sz)) (QcRead r0) 0 0 (fun _ => False)
/-- answers r0, leaves w1 of its cells -/
def KI (l : Launch) (D : va_G) (cI cB cJ : ClassId) (y : MethodName) (bytes : ByteArray) (maxL : Nat) (ret : Option FieldType) (fr lo : Nat) (av : List Value) (wc : va_W) (r0 : Int32) (w1 : va_W) : Prop :=
  ∀ sz : Nat, Met l y (Cond.code y bytes maxL ret :: wT) { frames := fr, cells := 0, slots := 0, locals := lo } (va_Pc av (CP D cI cB cJ wc sz)) (va_Qi (fun r (_ : Unit) => r = r0) (fun _ t => CE D w1 (va_A wc sz) t) (va_A wc sz)) 0 0 (va_A wc sz)
def KV (l : Launch) (D : va_G) (cI cB cJ : ClassId) (y : MethodName) (bytes : ByteArray) (maxL : Nat) (fr lo mc ms : Nat) (av : List Value) (wc : va_W) (B : (Nat → Prop) → State → Prop) : Prop :=
  ∀ sz : Nat, Met l y (Cond.code y bytes maxL none :: wT) { frames := fr, cells := mc, slots := ms, locals := lo } (va_Pc av (CP D cI cB cJ wc sz)) (va_Qv (fun (_ : Unit) => True) (fun _ t => B (va_A wc sz) t) (va_A wc sz)) mc ms (va_A wc sz)
section RW
variable {p : Program} {l : Launch} {e : Env} {R : Room} {s : State} {m : MethodId} {args : Array Value} {below : List Frame} {meth : Method} {c : Code} {H : Heap} {locs : List Loc} {cells slots : Nat} {Q : State → Prop}
variable {cc : ByteArray} {pc nL : Nat} {ls : Array Slot} {rest : List Value} {own : String} {D : va_G} {cI cB cJ : ClassId} {A : Nat → Prop} {ws : va_W} {a : Nat}
theorem R_get (C0 : Cx p s m args c cc nL own D cI cB cJ) (w : Wd D A s ws H locs) (k : Nat) {ci : Nat} {fs : List Value} (he : ws[k]? = some (a, .inr (ci, fs))) {C : String} {T : u_T} {N : Nat} (hc : vCl[ci]? = some (C, T, N)) (hin : ∀ w ∈ u_ws C T N, w ∈ wT) (j : Nat) (hj : j < N) {index : Nat} (hlink : Cond.fieldLink own index (T j).1 (T j).2.1 (T j).2.2.1 ∈ wT) {v : Value} (hv : fs[j]? = some v) (hdg : decode cc pc = .ok (.getfield index, 3))
    (kk : W p l e R s m args below meth c H locs cells slots Q (F0 m (pc + 3) ls (v :: rest))) : W p l e R s m args below meth c H locs cells slots Q (F0 m pc ls (.ref a :: rest)) :=
  va_get (C := C) (T := T) (N := N) C0.1 C0.2.1 C0.2.2.2.2.1 hin C0.2.2.2.1 C0.2.2.2.2.2.1 w.1 k he hc j hj (C0.2.2.2.2.1 _ hlink) (fun _ h => h) hv hdg kk
theorem R_put (C0 : Cx p s m args c cc nL own D cI cB cJ) (w : Wd D A s ws H locs) (k : Nat) {ci : Nat} {fs : List Value} (he : ws[k]? = some (a, .inr (ci, fs))) {C : String} {T : u_T} {N : Nat} (hc : vCl[ci]? = some (C, T, N)) (hin : ∀ w ∈ u_ws C T N, w ∈ wT) {ty0 : Nat → FieldType} (hty : ∀ k, k < N → parseFieldDescriptor (T k).2.2.1 = some (ty0 k)) (hnm : ∀ a, a < N → ∀ b, b < N → a ≠ b → (T a).2.1 ≠ (T b).2.1) (j : Nat) (hj : j < N) {index : Nat} (hlink : Cond.fieldLink own index (T j).1 (T j).2.1 (T j).2.2.1 ∈ wT) (hfin : (T j).2.2.2 = false) {v : Value} (hn : narrow (ty0 j) v = v) (hfit : fits (ty0 j) v = true) (hl : j < fs.length) (hdg : decode cc pc = .ok (.putfield index, 3))
    (kk : ∀ (H1 : Heap) (locs1 : List Loc), Wd D A s (ws.set k (a, .inr (ci, fs.set j v))) H1 locs1 → W p l e R s m args below meth c H1 locs1 cells slots Q (F0 m (pc + 3) ls rest)) : W p l e R s m args below meth c H locs cells slots Q (F0 m pc ls (v :: .ref a :: rest)) :=
  va_put (C := C) (T := T) (N := N) (ty := ty0 j) C0.1 C0.2.1 C0.2.2.2.2.1 hin ty0 hty hnm C0.2.2.2.1 C0.2.2.2.2.2.1 w.1 w.2.1 w.2.2.1 k he hc j hj (C0.2.2.2.2.1 _ hlink) (fun _ h => h) hfin (hty j hj) hn hfit hl hdg (fun H1 locs1 hP hD hs => kk H1 locs1 (w.to hP hD hs))
theorem R_putF (C0 : Cx p s m args c cc nL own D cI cB cJ) (w : Wd D A s ws H locs) (k : Nat) {ci : Nat} {fs : List Value} (he : ws[k]? = some (a, .inr (ci, fs))) {C : String} {T : u_T} {N : Nat} (hc : vCl[ci]? = some (C, T, N)) (hin : ∀ w ∈ u_ws C T N, w ∈ wT) {ty0 : Nat → FieldType} (hty : ∀ k, k < N → parseFieldDescriptor (T k).2.2.1 = some (ty0 k)) (hnm : ∀ a, a < N → ∀ b, b < N → a ≠ b → (T a).2.1 ≠ (T b).2.1) (j : Nat) (hj : j < N) {index : Nat} (hlink : Cond.fieldLink own index (T j).1 (T j).2.1 (T j).2.2.1 ∈ wT) (hfin : (T j).2.2.2 = true) (hin2 : meth.name = "<init>") (hdecl : (T j).1 = own) {v : Value} (hn : narrow (ty0 j) v = v) (hfit : fits (ty0 j) v = true) (hl : j < fs.length) (hdg : decode cc pc = .ok (.putfield index, 3))
    (kk : ∀ (H1 : Heap) (locs1 : List Loc), Wd D A s (ws.set k (a, .inr (ci, fs.set j v))) H1 locs1 → W p l e R s m args below meth c H1 locs1 cells slots Q (F0 m (pc + 3) ls rest)) : W p l e R s m args below meth c H locs cells slots Q (F0 m pc ls (v :: .ref a :: rest)) :=
  va_putF (C := C) (T := T) (N := N) (ty := ty0 j) C0.1 C0.2.1 C0.2.2.2.2.1 hin ty0 hty hnm C0.2.2.2.1 C0.2.2.2.2.2.1 w.1 w.2.1 w.2.2.1 k he hc j hj (C0.2.2.2.2.1 _ hlink) (fun _ h => h) hfin hin2 hdecl (hty j hj) hn hfit hl hdg (fun H1 locs1 hP hD hs => kk H1 locs1 (w.to hP hD hs))
theorem R_ald (C0 : Cx p s m args c cc nL own D cI cB cJ) (w : Wd D A s ws H locs) (k : Nat) {n : Nat} {f : Nat → Int32} (he : ws[k]? = some (a, .inl (cI, n, .inl f))) {i : Int32} (hi : vp_in i n) (hdg : decode cc pc = .ok (.iaload, 1))
    (kk : W p l e R s m args below meth c H locs cells slots Q (F0 m (pc + 1) ls (.int (f i.toNatClampNeg) :: rest))) : W p l e R s m args below meth c H locs cells slots Q (F0 m pc ls (.int i :: .ref a :: rest)) :=
  va_iald C0.1 C0.2.1 C0.2.2.2.2.2.1 w.1 k 0 he rfl hi hdg kk
theorem R_ast (C0 : Cx p s m args c cc nL own D cI cB cJ) (w : Wd D A s ws H locs) (k : Nat) {n : Nat} {f : Nat → Int32} (he : ws[k]? = some (a, .inl (cI, n, .inl f))) {i x : Int32} (hi : vp_in i n) (hdg : decode cc pc = .ok (.iastore, 1))
    (kk : ∀ (H1 : Heap) (locs1 : List Loc), Wd D A s (ws.set k (a, .inl (cI, n, .inl (upd f i.toNatClampNeg x)))) H1 locs1 → W p l e R s m args below meth c H1 locs1 cells slots Q (F0 m (pc + 1) ls rest)) : W p l e R s m args below meth c H locs cells slots Q (F0 m pc ls (.int x :: .int i :: .ref a :: rest)) :=
  va_iast C0.1 C0.2.1 C0.2.2.2.2.2.1 w.1 w.2.1 w.2.2.1 k 0 he rfl hi hdg (fun H1 locs1 hP hD hs => kk H1 locs1 (w.to hP hD hs))
theorem R_last (C0 : Cx p s m args c cc nL own D cI cB cJ) (w : Wd D A s ws H locs) (k : Nat) {n : Nat} {f : Nat → Int64} (he : ws[k]? = some (a, .inl (cJ, n, .inr (.inl f)))) {i : Int32} {x : Int64} (hi : vp_in i n) (hdg : decode cc pc = .ok (.lastore, 1))
    (kk : ∀ (H1 : Heap) (locs1 : List Loc), Wd D A s (ws.set k (a, .inl (cJ, n, .inr (.inl (vp_updL f i.toNatClampNeg x))))) H1 locs1 → W p l e R s m args below meth c H1 locs1 cells slots Q (F0 m (pc + 1) ls rest)) : W p l e R s m args below meth c H locs cells slots Q (F0 m pc ls (.long x :: .int i :: .ref a :: rest)) :=
  va_last C0.1 C0.2.1 C0.2.2.2.2.2.1 w.1 w.2.1 w.2.2.1 k 2 he rfl hi hdg (fun H1 locs1 hP hD hs => kk H1 locs1 (w.to hP hD hs))
theorem R_lald (C0 : Cx p s m args c cc nL own D cI cB cJ) (w : Wd D A s ws H locs) (k : Nat) {n : Nat} {f : Nat → Int64} (he : ws[k]? = some (a, .inl (cJ, n, .inr (.inl f)))) {i : Int32} (hi : vp_in i n) (hdg : decode cc pc = .ok (.laload, 1))
    (kk : W p l e R s m args below meth c H locs cells slots Q (F0 m (pc + 1) ls (.long (f i.toNatClampNeg) :: rest))) : W p l e R s m args below meth c H locs cells slots Q (F0 m pc ls (.int i :: .ref a :: rest)) :=
  va_lald C0.1 C0.2.1 C0.2.2.2.2.2.1 w.1 k 2 he rfl hi hdg kk
theorem R_new (C0 : Cx p s m args c cc nL own D cI cB cJ) (w : Wd D A s ws H locs) {ci : Nat} {C : String} {T : u_T} {N : Nat} (hc : vCl[ci]? = some (C, T, N)) (hin : ∀ w ∈ u_ws C T N, w ∈ wT) {ty0 : Nat → FieldType} (hty : ∀ k, k < N → parseFieldDescriptor (T k).2.2.1 = some (ty0 k)) {index : Nat} (hcl : Cond.classLink own index C ∈ wT) (hinst : Cond.instantiable C N ∈ wT) (hini : Cond.initialized C ∈ wT) {fs : List Value} (hfs : ∀ j, j < N → defaultValue (ty0 j) = vp_V fs j) (hcells : cells + 1 ≤ R.cells) (hslots : slots + N ≤ R.slots) (hdg : decode cc pc = .ok (.new index, 3))
    (kk : ∀ (q : Nat) (H1 : Heap), Wd D A s (ws ++ [(q, .inr (ci, fs))]) H1 locs → W p l e R s m args below meth c H1 locs (cells + 1) (slots + N) Q (F0 m (pc + 3) ls (.ref q :: rest))) : W p l e R s m args below meth c H locs cells slots Q (F0 m pc ls rest) :=
  va_new (C := C) (T := T) (N := N) C0.1 C0.2.1 C0.2.2.2.2.1 hin ty0 hty C0.2.2.2.1 (C0.2.2.2.2.1 _ hcl) (C0.2.2.2.2.1 _ hinst) (C0.2.2.2.2.1 _ hini) C0.2.2.2.2.2.1 w.1 w.2.1 w.2.2.1 w.2.2.2.1 hc hfs hcells hslots hdg (fun q H1 hP hD hs => kk q H1 (w.to hP hD hs))
theorem R_newI (C0 : Cx p s m args c cc nL own D cI cB cJ) (w : Wd D A s ws H locs) (hac : Cond.arrayClass .int ∈ wT) {n : Int32} {N : Nat} (hn : ¬ n < 0) (hN : n.toNatClampNeg = N) (hbytes : N * componentBytes .int ≤ 536870912) (hcells : cells + 1 ≤ R.cells) (hslots : slots + N ≤ R.slots) (hdg : decode cc pc = .ok (.newarray .int, 2))
    (kk : ∀ (q : Nat) (H1 : Heap), Wd D A s (ws ++ [(q, .inl (cI, N, .inl (fun _ => 0)))]) H1 locs → W p l e R s m args below meth c H1 locs (cells + 1) (slots + N) Q (F0 m (pc + 2) ls (.ref q :: rest))) : W p l e R s m args below meth c H locs cells slots Q (F0 m pc ls (.int n :: rest)) := by
  refine va_newa (atype := .int) (a0 := (N, .inl (fun _ => 0))) (ty := .int) C0.1 C0.2.1 (C0.2.2.2.2.1 _ hac) rfl C0.2.2.2.2.2.1 w.1 w.2.1 w.2.2.1 w.2.2.2.1 (fun _ => rfl) hn hN hbytes hcells hslots hdg (fun q cA H1 hK hP hD hs => ?_)
  have h1 : s.vm.findClass ("[" ++ FieldType.int.toString) = some cA := (hK.2 3 (cA, .int) rfl).2
  have h2 : s.vm.findClass ("[" ++ FieldType.int.toString) = some cI := (C0.2.2.2.2.2.1.2 0 (cI, .int) rfl).2
  cases h1.symm.trans h2
  exact kk q H1 (w.to hP hD hs)
theorem R_newJ (C0 : Cx p s m args c cc nL own D cI cB cJ) (w : Wd D A s ws H locs) (hac : Cond.arrayClass .long ∈ wT) {n : Int32} {N : Nat} (hn : ¬ n < 0) (hN : n.toNatClampNeg = N) (hbytes : N * componentBytes .long ≤ 536870912) (hcells : cells + 1 ≤ R.cells) (hslots : slots + N ≤ R.slots) (hdg : decode cc pc = .ok (.newarray .long, 2))
    (kk : ∀ (q : Nat) (H1 : Heap), Wd D A s (ws ++ [(q, .inl (cJ, N, .inr (.inl (fun _ => 0))))]) H1 locs → W p l e R s m args below meth c H1 locs (cells + 1) (slots + N) Q (F0 m (pc + 2) ls (.ref q :: rest))) : W p l e R s m args below meth c H locs cells slots Q (F0 m pc ls (.int n :: rest)) := by
  refine va_newa (atype := .long) (a0 := (N, .inr (.inl (fun _ => 0)))) (ty := .long) C0.1 C0.2.1 (C0.2.2.2.2.1 _ hac) rfl C0.2.2.2.2.2.1 w.1 w.2.1 w.2.2.1 w.2.2.2.1 (fun _ => rfl) hn hN hbytes hcells hslots hdg (fun q cA H1 hK hP hD hs => ?_)
  have h1 : s.vm.findClass ("[" ++ FieldType.long.toString) = some cA := (hK.2 3 (cA, .long) rfl).2
  have h2 : s.vm.findClass ("[" ++ FieldType.long.toString) = some cJ := (C0.2.2.2.2.2.1.2 2 (cJ, .long) rfl).2
  cases h1.symm.trans h2
  exact kk q H1 (w.to hP hD hs)
/-- a new array that nobody asks for again -/
theorem R_newX (C0 : Cx p s m args c cc nL own D cI cB cJ) (w : Wd D A s ws H locs) {atype : ArrayType} (hac : Cond.arrayClass (newarray.typeOf atype) ∈ wT) {n : Int32} {N : Nat} (hn : ¬ n < 0) (hN : n.toNatClampNeg = N) (hbytes : N * componentBytes (newarray.typeOf atype) ≤ 536870912) (hcells : cells + 1 ≤ R.cells) (hslots : slots + N ≤ R.slots) (hdg : decode cc pc = .ok (.newarray atype, 2))
    (kk : ∀ (q : Nat) (H1 : Heap), Wd D A s ws H1 locs → W p l e R s m args below meth c H1 locs (cells + 1) (slots + N) Q (F0 m (pc + 2) ls (.ref q :: rest))) : W p l e R s m args below meth c H locs cells slots Q (F0 m pc ls (.int n :: rest)) := by
  refine va_newaK C0.1 C0.2.1 (C0.2.2.2.2.1 _ hac) rfl hdg rfl hn hN hbytes hcells hslots rfl fun H1 cA e1 z1 o1 hAr hNm => ?_
  exact kk H.size H1 (w.to (w.1.kept (fun k x hx => o1 x.1 ((w.1 k x hx).lt))) w.2.1 ⟨Nat.le_trans w.2.2.1.1 (by rw [z1]; exact Nat.le_succ _), fun x h1 h2 => (o1 x (Nat.lt_of_lt_of_le h1 w.2.2.1.1)).trans (w.2.2.1.2.1 x h1 h2), w.2.2.1.2.2⟩)
/-- a new int[][] that nobody asks for again -/
theorem R_mna (C0 : Cx p s m args c cc nL own D cI cB cJ) (w : Wd D A s ws H locs) {index : Nat} (hcl : Cond.classLink own index "[[I" ∈ wT) (hac : Cond.arrayClass .int ∈ wT) {n k : Int32} {N K : Nat} (hn : ¬ n < 0) (hk : ¬ k < 0) (hN : n.toNatClampNeg = N) (hK : k.toNatClampNeg = K) (hb1 : N * 4 ≤ 536870912) (hb2 : K * 4 ≤ 536870912) (hcells : cells + (1 + N) ≤ R.cells) (hslots : slots + (N + N * K) ≤ R.slots) (hdg : decode cc pc = .ok (.multianewarray index 2, 4))
    (kk : ∀ (q : Nat) (H1 : Heap), Wd D A s ws H1 locs → W p l e R s m args below meth c H1 locs (cells + (1 + N)) (slots + (N + N * K)) Q (F0 m (pc + 4) ls (.ref q :: rest))) : W p l e R s m args below meth c H locs cells slots Q (F0 m pc ls (.int k :: .int n :: rest)) := by
  intro T hT X
  subst hN; subst hK; subst hT
  obtain ⟨vm₁, c0, c1, hW, hf0, hf1, X1, st⟩ := ow_mna X C0.1 C0.2.2.2.1 (C0.2.2.2.2.1 _ hcl) (ao_moved (Vm.Alike.refl s.vm) C0.2.2.2.2.2.2.ao) (C0.2.2.2.2.1 _ hac) (g := F0 m pc ls (.int k :: .int n :: rest)) rfl (by rw [C0.2.1]; exact hdg) (n := n) (k := k) (rest := rest) rfl hn hk hb1 hb2 hcells hslots
  have fo : ∀ a : Nat, a < T.heap.size → (ow_grid (T.setVm vm₁) c0 c1 n.toNatClampNeg k.toNatClampNeg (.int 0) n.toNatClampNeg).heap[a]? = T.heap[a]? := fun a ha => ow_grid_old (T.setVm vm₁) c0 c1 _ _ _ _ ha
  have hz : T.heap.size ≤ (ow_grid (T.setVm vm₁) c0 c1 n.toNatClampNeg k.toNatClampNeg (.int 0) n.toNatClampNeg).heap.size := by
    rw [ow_grid_size]
    show T.heap.size ≤ T.heap.size + 1 + _
    omega
  obtain ⟨t, a1, b1⟩ := kk T.heap.size _ (w.to (w.1.kept (fun k x hx => fo x.1 ((w.1 k x hx).lt))) w.2.1 ⟨Nat.le_trans w.2.2.1.1 hz, fun x h1 h2 => (fo x (Nat.lt_of_lt_of_le h1 w.2.2.1.1)).trans (w.2.2.1.2.1 x h1 h2), w.2.2.1.2.2⟩) _ rfl (X1.more (by omega) (by omega))
  exact ⟨t, st t a1, b1⟩
/-! calls -/
variable {y : MethodName} {bytes : ByteArray} {maxL fr lo mc ms index n9 : Nat} {ret : Option FieldType} {As : List Value} {wc wr w1 : va_W}
theorem cB_of {rm : Room} {n : Nat} (C0 : Cx p s m args c cc nL own D cI cB cJ) (hcode : Cond.code y bytes maxL ret ∈ wT) (hlink : Cond.methodLink own index y ∈ wT) (hini : Cond.initialized y.cls ∈ wT) (hd : y.cls ≠ "java/lang/invoke/MethodHandle" ∧ y.cls ≠ "java/lang/invoke/VarHandle" ∧ (parseMethodDescriptor y.desc).map (fun d => d.parameters.length) = some n) (hR : rm.frames + 1 ≤ R.frames ∧ 8 + (maxL + 11) + rm.locals ≤ R.locals) : CallB R s args own index y bytes maxL ret (Cond.code y bytes maxL ret :: wT) rm rm.cells rm.slots n :=
  callB_of n C0.2.2.2.2.1 (gI (gI1 hcode)) rfl rfl rfl (C0.2.2.2.2.1 _ hini) (C0.2.2.2.2.1 _ hlink) hd hR
theorem R_ri (C0 : Cx p s m args c cc nL own D cI cB cJ) (w : Wd D A s ws H locs) {b : Nat} (k : Nat) {ci : Nat} {fs : List Value} (he : ws[k]? = some (b, .inr (ci, fs))) {C : String} {T : u_T} {N : Nat} (hc : vCl[ci]? = some (C, T, N)) (isC : List Nat) {r0 : Int32} (hM : KR l D cI cB cJ y bytes maxL ret fr lo (.ref b :: As) wc r0) (hnC : va_nd isC = true) (hC : isC.map (fun i => ws[i]?) = wc.map some) (hcode : Cond.code y bytes maxL ret ∈ wT) (hlink : Cond.methodLink own index y ∈ wT) (hinst : Cond.instanceMethod y ∈ wT) (hsel : Cond.selects C y y ∈ wT) (hini : Cond.initialized y.cls ∈ wT)
    (hd : y.cls ≠ "java/lang/invoke/MethodHandle" ∧ y.cls ≠ "java/lang/invoke/VarHandle" ∧ (parseMethodDescriptor y.desc).map (fun d => d.parameters.length) = some n9) (hn9 : As.length = n9) (hR : fr + 1 ≤ R.frames ∧ 8 + (maxL + 11) + lo ≤ R.locals) (hls : ls.size = nL) {st0 : List Value} (hst : st0 = As.reverse ++ .ref b :: rest) (hrest : (rest.map fun v => v.category).sum ≤ 8) (hdg : decode cc pc = .ok (.invokevirtual index, 3)) (hcs : cells ≤ R.cells) (hss : slots ≤ R.slots)
    (kk : W p l e R s m args below meth c H locs cells slots Q (F0 m (pc + 3) ls (.int r0 :: rest))) : W p l e R s m args below meth c H locs cells slots Q (F0 m pc ls st0) := by
  subst hst
  exact W.callR (W.runV (rest := rest) ⟨C0.1, C0.2.1, C0.2.2.1, C0.2.2.2.1, C0.2.2.2.2.1⟩ (hM H.size) ⟨cB_of C0 hcode hlink hini hd hR, C0.2.2.2.2.1 _ hinst, C0.2.2.2.2.1 _ hsel⟩ ⟨CP.blind, va_recv C0.2.2.2.2.2.1 w.1 hc he, fun U hU hW => ⟨rfl, CP.give C0.2.2.2.2.2.1 C0.2.2.2.2.2.2 w isC hnC hC hU hW⟩⟩ rfl hn9 hls rfl (lv_room hrest) hdg ⟨hcs, hss⟩) kk
theorem R_vi (C0 : Cx p s m args c cc nL own D cI cB cJ) (w : Wd D A s ws H locs) {b : Nat} (k : Nat) {ci : Nat} {fs : List Value} (he : ws[k]? = some (b, .inr (ci, fs))) {C : String} {T : u_T} {N : Nat} (hc : vCl[ci]? = some (C, T, N)) (isC isR : List Nat) {r0 : Int32} (hM : KI l D cI cB cJ y bytes maxL ret fr lo (.ref b :: As) wc r0 w1) (hnC : va_nd isC = true) (hC : isC.map (fun i => ws[i]?) = wc.map some) (hnR : va_nd isR = true) (hRr : isR.map (fun i => ws[i]?) = wr.map some) (hdis : ∀ i ∈ isR, i ∉ isC) (hcode : Cond.code y bytes maxL ret ∈ wT) (hlink : Cond.methodLink own index y ∈ wT) (hinst : Cond.instanceMethod y ∈ wT) (hsel : Cond.selects C y y ∈ wT) (hini : Cond.initialized y.cls ∈ wT)
    (hd : y.cls ≠ "java/lang/invoke/MethodHandle" ∧ y.cls ≠ "java/lang/invoke/VarHandle" ∧ (parseMethodDescriptor y.desc).map (fun d => d.parameters.length) = some n9) (hn9 : As.length = n9) (hR : fr + 1 ≤ R.frames ∧ 8 + (maxL + 11) + lo ≤ R.locals) (hls : ls.size = nL) {st0 : List Value} (hst : st0 = As.reverse ++ .ref b :: rest) (hrest : (rest.map fun v => v.category).sum ≤ 8) (hdg : decode cc pc = .ok (.invokevirtual index, 3)) (hcs : cells ≤ R.cells) (hss : slots ≤ R.slots)
    (kk : ∀ (H1 : Heap) (locs1 : List Loc), Wd D A s (wr ++ w1) H1 locs1 → W p l e R s m args below meth c H1 locs1 cells slots Q (F0 m (pc + 3) ls (.int r0 :: rest))) : W p l e R s m args below meth c H locs cells slots Q (F0 m pc ls st0) := by
  subst hst
  have hF := va_free (wc := wc) w.2.1 w.2.2.1 w.2.2.2.1 isC hC
  refine va_calli (va_runV (rest := rest) ⟨C0.1, C0.2.1, C0.2.2.1, C0.2.2.2.1, C0.2.2.2.2.1⟩ (hM H.size) ⟨cB_of C0 hcode hlink hini hd hR, C0.2.2.2.2.1 _ hinst, C0.2.2.2.2.1 _ hsel⟩ ⟨CP.blind, va_recv C0.2.2.2.2.2.1 w.1 hc he, fun U hU hW => ⟨rfl, CP.give C0.2.2.2.2.2.1 C0.2.2.2.2.2.2 w isC hnC hC hU hW⟩⟩ rfl hn9 hls rfl (lv_room hrest) hdg ⟨hcs, hss⟩) w.2.2.1 (fun q _ h => hF q h) hF (fun r u t H1 locs1 ht hvm hr hB hz hk hS => ?_)
  subst hr
  obtain ⟨hP1, hD1⟩ := hB
  rw [ht] at hP1
  obtain ⟨hP, hD⟩ := va_join (wr := wr) (w1 := w1) w.1 w.2.1 isC isR hC hRr hnR hdis hk hF hP1 hD1
  exact kk H1 locs1 (w.to hP hD hS)
theorem R_vv (C0 : Cx p s m args c cc nL own D cI cB cJ) (w : Wd D A s ws H locs) {b : Nat} (k : Nat) {ci : Nat} {fs : List Value} (he : ws[k]? = some (b, .inr (ci, fs))) {C : String} {T : u_T} {N : Nat} (hc : vCl[ci]? = some (C, T, N)) (isC isR : List Nat) (hM : KV l D cI cB cJ y bytes maxL fr lo 0 0 (.ref b :: As) wc (fun A t => CE D w1 A t)) (hnC : va_nd isC = true) (hC : isC.map (fun i => ws[i]?) = wc.map some) (hnR : va_nd isR = true) (hRr : isR.map (fun i => ws[i]?) = wr.map some) (hdis : ∀ i ∈ isR, i ∉ isC) (hcode : Cond.code y bytes maxL none ∈ wT) (hlink : Cond.methodLink own index y ∈ wT) (hinst : Cond.instanceMethod y ∈ wT) (hsel : Cond.selects C y y ∈ wT) (hini : Cond.initialized y.cls ∈ wT)
    (hd : y.cls ≠ "java/lang/invoke/MethodHandle" ∧ y.cls ≠ "java/lang/invoke/VarHandle" ∧ (parseMethodDescriptor y.desc).map (fun d => d.parameters.length) = some n9) (hn9 : As.length = n9) (hR : fr + 1 ≤ R.frames ∧ 8 + (maxL + 11) + lo ≤ R.locals) (hls : ls.size = nL) {st0 : List Value} (hst : st0 = As.reverse ++ .ref b :: rest) (hrest : (rest.map fun v => v.category).sum ≤ 8) (hdg : decode cc pc = .ok (.invokevirtual index, 3)) (hcs : cells ≤ R.cells) (hss : slots ≤ R.slots)
    (kk : ∀ (H1 : Heap) (locs1 : List Loc), Wd D A s (wr ++ w1) H1 locs1 → W p l e R s m args below meth c H1 locs1 cells slots Q (F0 m (pc + 3) ls rest)) : W p l e R s m args below meth c H locs cells slots Q (F0 m pc ls st0) := by
  subst hst
  have hF := va_free (wc := wc) w.2.1 w.2.2.1 w.2.2.2.1 isC hC
  refine va_callv (va_runV (rest := rest) ⟨C0.1, C0.2.1, C0.2.2.1, C0.2.2.2.1, C0.2.2.2.2.1⟩ (hM H.size) ⟨cB_of C0 hcode hlink hini hd hR, C0.2.2.2.2.1 _ hinst, C0.2.2.2.2.1 _ hsel⟩ ⟨CP.blind, va_recv C0.2.2.2.2.2.1 w.1 hc he, fun U hU hW => ⟨rfl, CP.give C0.2.2.2.2.2.1 C0.2.2.2.2.2.2 w isC hnC hC hU hW⟩⟩ rfl hn9 hls rfl (lv_room hrest) hdg ⟨hcs, hss⟩) w.2.2.1 (fun q _ h => hF q h) hF (fun u t H1 locs1 ht hvm hr hB hz hk hS => ?_)
  obtain ⟨hP1, hD1⟩ := hB
  rw [ht] at hP1
  obtain ⟨hP, hD⟩ := va_join (wr := wr) (w1 := w1) w.1 w.2.1 isC isR hC hRr hnR hdis hk hF hP1 hD1
  exact kk H1 locs1 (w.to hP hD hS)
/-- a constructor: what it leaves is told by B -/
theorem R_iv (C0 : Cx p s m args c cc nL own D cI cB cJ) (w : Wd D A s ws H locs) {b : Nat} (isC isR : List Nat) {B : (Nat → Prop) → State → Prop} (hM : KV l D cI cB cJ y bytes maxL fr lo mc ms (.ref b :: As) wc B) (hnC : va_nd isC = true) (hC : isC.map (fun i => ws[i]?) = wc.map some) (hnR : va_nd isR = true) (hRr : isR.map (fun i => ws[i]?) = wr.map some) (hdis : ∀ i ∈ isR, i ∉ isC) (hcode : Cond.code y bytes maxL none ∈ wT) (hlink : Cond.methodLink own index y ∈ wT) (hinst : Cond.instanceMethod y ∈ wT) (hini : Cond.initialized y.cls ∈ wT) (hy1 : y.name = "<init>")
    (hd : y.cls ≠ "java/lang/invoke/MethodHandle" ∧ y.cls ≠ "java/lang/invoke/VarHandle" ∧ (parseMethodDescriptor y.desc).map (fun d => d.parameters.length) = some n9) (hn9 : As.length = n9) (hR : fr + 1 ≤ R.frames ∧ 8 + (maxL + 11) + lo ≤ R.locals) (hls : ls.size = nL) {st0 : List Value} (hst : st0 = As.reverse ++ .ref b :: rest) (hrest : (rest.map fun v => v.category).sum ≤ 8) (hdg : decode cc pc = .ok (.invokespecial index, 3)) (hcs : cells + mc ≤ R.cells) (hss : slots + ms ≤ R.slots)
    (kk : ∀ (t : State) (H1 : Heap) (locs1 : List Loc), t.heap = H1 → B (va_A wc H.size) t → (∀ w1 : va_W, CE D w1 (va_A wc H.size) t → Wd D A s (wr ++ w1) H1 locs1) → W p l e R s m args below meth c H1 locs1 (cells + mc) (slots + ms) Q (F0 m (pc + 3) ls rest)) : W p l e R s m args below meth c H locs cells slots Q (F0 m pc ls st0) := by
  subst hst
  have hF := va_free (wc := wc) w.2.1 w.2.2.1 w.2.2.2.1 isC hC
  refine va_callv (va_runI (rest := rest) ⟨C0.1, C0.2.1, C0.2.2.1, C0.2.2.2.1, C0.2.2.2.2.1⟩ (hM H.size) ⟨cB_of C0 hcode hlink hini hd hR, hy1, C0.2.2.2.2.1 _ hinst⟩ ⟨CP.blind, fun U hU hW => ⟨rfl, CP.give C0.2.2.2.2.2.1 C0.2.2.2.2.2.2 w isC hnC hC hU hW⟩⟩ rfl hn9 hls rfl (lv_room hrest) hdg ⟨hcs, hss⟩) w.2.2.1 (fun q _ h => hF q h) hF (fun u t H1 locs1 ht hvm hr hB hz hk hS => ?_)
  refine kk t H1 locs1 ht hB (fun w1 hE => ?_)
  obtain ⟨hP1, hD1⟩ := hE
  rw [ht] at hP1
  obtain ⟨hP, hD⟩ := va_join (wr := wr) (w1 := w1) w.1 w.2.1 isC isR hC hRr hnR hdis hk hF hP1 hD1
  exact w.to hP hD hS
/-- the same across the nest -/
theorem R_ivN (C0 : Cx p s m args c cc nL own D cI cB cJ) (w : Wd D A s ws H locs) {b : Nat} (isC isR : List Nat) {B : (Nat → Prop) → State → Prop} (hM : KV l D cI cB cJ y bytes maxL fr lo mc ms (.ref b :: As) wc B) (hnC : va_nd isC = true) (hC : isC.map (fun i => ws[i]?) = wc.map some) (hnR : va_nd isR = true) (hRr : isR.map (fun i => ws[i]?) = wr.map some) (hdis : ∀ i ∈ isR, i ∉ isC) (hcode : Cond.code y bytes maxL none ∈ wT) {host : String} (hlink : va_Nw (.methodLinkNest own index y host) s) (hinst : Cond.instanceMethod y ∈ wT) (hini : Cond.initialized y.cls ∈ wT) (hy1 : y.name = "<init>")
    (hd : y.cls ≠ "java/lang/invoke/MethodHandle" ∧ y.cls ≠ "java/lang/invoke/VarHandle" ∧ (parseMethodDescriptor y.desc).map (fun d => d.parameters.length) = some n9) (hn9 : As.length = n9) (hR : fr + 1 ≤ R.frames ∧ 8 + (maxL + 11) + lo ≤ R.locals) (hls : ls.size = nL) {st0 : List Value} (hst : st0 = As.reverse ++ .ref b :: rest) (hrest : (rest.map fun v => v.category).sum ≤ 8) (hdg : decode cc pc = .ok (.invokespecial index, 3)) (hcs : cells + mc ≤ R.cells) (hss : slots + ms ≤ R.slots)
    (kk : ∀ (t : State) (H1 : Heap) (locs1 : List Loc), t.heap = H1 → B (va_A wc H.size) t → (∀ w1 : va_W, CE D w1 (va_A wc H.size) t → Wd D A s (wr ++ w1) H1 locs1) → W p l e R s m args below meth c H1 locs1 (cells + mc) (slots + ms) Q (F0 m (pc + 3) ls rest)) : W p l e R s m args below meth c H locs cells slots Q (F0 m pc ls st0) := by
  subst hst
  have hF := va_free (wc := wc) w.2.1 w.2.2.1 w.2.2.2.1 isC hC
  refine va_callv (va_runIN (rest := rest) (host := host) (Ts := wT) ⟨C0.1, C0.2.1, C0.2.2.1, C0.2.2.2.1, C0.2.2.2.2.1⟩ (hM H.size) ⟨va_cnB n9 C0.2.2.2.2.1 (gI (gI1 hcode)) rfl rfl rfl hlink (C0.2.2.2.2.1 _ hini) hd hR, hy1, C0.2.2.2.2.1 _ hinst⟩ ⟨CP.blind, fun U hU hW => ⟨rfl, CP.give C0.2.2.2.2.2.1 C0.2.2.2.2.2.2 w isC hnC hC hU hW⟩⟩ rfl hn9 hls rfl (lv_room hrest) hdg ⟨hcs, hss⟩) w.2.2.1 (fun q _ h => hF q h) hF (fun u t H1 locs1 ht hvm hr hB hz hk hS => ?_)
  refine kk t H1 locs1 ht hB (fun w1 hE => ?_)
  obtain ⟨hP1, hD1⟩ := hE
  rw [ht] at hP1
  obtain ⟨hP, hD⟩ := va_join (wr := wr) (w1 := w1) w.1 w.2.1 isC isR hC hRr hnR hdis hk hF hP1 hD1
  exact w.to hP hD hS
end RW
