section
/-! what every method of the claim carries beside its world: the class of int[][], the texts of the class, Throwable's two statics -/
def st_Z (C n d : String) (U : State) (H : Heap) : Prop := ∃ (c : ClassId) (k : Class) (i : Nat) (f : Field) (a : Nat) (cell : Cell) (v : Value), U.vm.findClass C = some c ∧ U.fieldFound? C n d = some (c, k, i, f) ∧ f.isStatic = true ∧ k.statics = some a ∧ H[a]? = some cell ∧ cell.vm.isStatics = true ∧ cell.cls = c ∧ f.slot < cell.slots.size ∧ k.staticTypes[f.slot]? = some f.type ∧ cell.slots[f.slot]? = some v ∧ v.isRef = true
def st_K (H H1 : Heap) : Prop := ∀ (a : Nat) (cell : Cell), H[a]? = some cell → cell.vm.isStatics = true → H1[a]? = some cell
theorem st_Z.moved {C n d : String} {u U : State} {H : Heap} (hvm : u.vm.Alike U.vm) (h : st_Z C n d u H) : st_Z C n d U H := by
  obtain ⟨c, k, i, f, a, cell, v, h0, h1, h2, h3, h4, h5, h6, h7, h8, h9⟩ := h
  obtain ⟨k', hi', he⟩ := State.fieldFound?_setVm hvm h1
  exact ⟨c, k', i, f, a, cell, v, by rw [hvm.findClass]; exact h0, hi', h2, by rw [he]; exact h3, h4, h5, h6, h7, by rw [he]; exact h8, h9⟩
theorem st_Z.kept {C n d : String} {U : State} {H H1 : Heap} (h : st_Z C n d U H) (hq : st_K H H1) : st_Z C n d U H1 := by
  obtain ⟨c, k, i, f, a, cell, v, h0, h1, h2, h3, h4, h5, h6⟩ := h
  exact ⟨c, k, i, f, a, cell, v, h0, h1, h2, h3, hq a cell h4 h5, h5, h6⟩
theorem st_Z.lays {C n d : String} {s : State} {args : Array Value} (h : st_Z C n d s s.heap) : (Cond.laysStatic C n d).before args s = true := by
  obtain ⟨c, k, i, f, a, cell, v, h0, h1, h2, h3, h4, h5, h6, h7, h8, h9⟩ := h
  simp [Cond.before, Cond.holds, Cond.value, h0, h1, h2, h3, h4, h5, h6, h7, h8]
theorem st_Z.isRef {C n d : String} {s : State} {args : Array Value} (h : st_Z C n d s s.heap) : (Cond.isRef (.static C n d)).before args s = true := by
  obtain ⟨c, k, i, f, a, cell, v, h0, h1, h2, h3, h4, h5, h6, h7, h8, h9, h10⟩ := h
  have he : (Term.static C n d).eval args s none [] s = some v := by
    simp [Term.eval, State.fieldNamed?, h1, h2, h3, h4, h5, h9]
  simp only [Cond.before, Cond.holds, Cond.value, he]
  cases v <;> simp [Value.isRef] at h10 ⊢
theorem st_Z.of {C n d : String} {s : State} {args : Array Value} (hl : (Cond.laysStatic C n d).before args s = true) (h : (Cond.isRef (.static C n d)).before args s = true) : st_Z C n d s s.heap := by
  obtain ⟨c, k, i, f, a, cell, hc, hi, hst, ha, hcell, hs, hcls, hlt, hty⟩ := Cond.laysStatic_spec hl
  refine ⟨c, k, i, f, a, cell, cell.slots[f.slot], hc, hi, hst, ha, hcell, hs, hcls, hlt, hty, Array.getElem?_eq_getElem hlt, ?_⟩
  have he : (Term.static C n d).eval args s none [] s = some cell.slots[f.slot] := by
    simp [Term.eval, State.fieldNamed?, hi, hst, ha, hcell, hs, Array.getElem?_eq_getElem hlt]
  simp only [Cond.before, Cond.holds, Cond.value, he] at h
  generalize cell.slots[f.slot] = v at h
  cases v <;> simp [Value.isRef] at h ⊢
theorem nc_moved {u U : State} (hvm : u.vm.Alike U.vm) {C T : String} {A B : Array Value} (h : (Cond.not (.castable C T)).before A u = true) : (Cond.not (.castable C T)).before B U = true := by
  have hv := Cond.holds_not_iff.mp h
  refine Cond.holds_not_iff.mpr ?_
  simp only [Cond.value, hvm.findClass, hvm.assignable] at hv ⊢
  exact hv
def Kx (U : State) : Prop := (Cond.arrayOver (.array .int)).before #[] U = true ∧ (∀ x ∈ strs, ∃ a : Nat, vk_R "NameForge" x.1 x.2 a U) ∧ st_Z "java/lang/Throwable" "UNASSIGNED_STACK" "[Ljava/lang/StackTraceElement;" U U.heap ∧ st_Z "java/lang/Throwable" "SUPPRESSED_SENTINEL" "Ljava/util/List;" U U.heap ∧ (∀ x ∈ ncs, (Cond.not (.castable x.1 x.2)).before #[] U = true) ∧ (∀ x ∈ nests, va_Nw (.methodLinkNest x.1 x.2.1 x.2.2 "NameForge") U) ∧ (∀ x ∈ cas, va_Nw (.castable x.1 x.2) U) ∧ ∀ x ∈ dcl, va_Nw (.declares x) U
theorem Kx.ao {U : State} (h : Kx U) : (Cond.arrayOver (.array .int)).before #[] U = true := h.1
theorem Kx.str {U : State} (h : Kx U) : ∀ x ∈ strs, ∃ a : Nat, vk_R "NameForge" x.1 x.2 a U := h.2.1
theorem Kx.zu {U : State} (h : Kx U) : st_Z "java/lang/Throwable" "UNASSIGNED_STACK" "[Ljava/lang/StackTraceElement;" U U.heap := h.2.2.1
theorem Kx.zs {U : State} (h : Kx U) : st_Z "java/lang/Throwable" "SUPPRESSED_SENTINEL" "Ljava/util/List;" U U.heap := h.2.2.2.1
theorem Kx.nc {U : State} (h : Kx U) : ∀ x ∈ ncs, (Cond.not (.castable x.1 x.2)).before #[] U = true := h.2.2.2.2.1
theorem Kx.nest {U : State} (h : Kx U) : (∀ x ∈ nests, va_Nw (.methodLinkNest x.1 x.2.1 x.2.2 "NameForge") U) := h.2.2.2.2.2.1
theorem Kx.ca {U : State} (h : Kx U) : ∀ x ∈ cas, va_Nw (.castable x.1 x.2) U := h.2.2.2.2.2.2.1
theorem Kx.de {U : State} (h : Kx U) : ∀ x ∈ dcl, va_Nw (.declares x) U := h.2.2.2.2.2.2.2
theorem ao_moved {u U : State} (hvm : u.vm.Alike U.vm) {A B : Array Value} (h : (Cond.arrayOver (.array .int)).before A u = true) : (Cond.arrayOver (.array .int)).before B U = true := ow_over_moved hvm h
theorem Kx.at {s U : State} (h : Kx s) (hW : s.WarmedH U.vm) (hq : st_K s.heap U.heap) : Kx U :=
  ⟨ao_moved hW.alike h.ao, fun x hx => (h.str x hx).elim fun a ha => ⟨a, vk_R.warm hW ha⟩, (h.zu.moved hW.alike).kept hq, (h.zs.moved hW.alike).kept hq, fun x hx => nc_moved hW.alike (h.nc x hx), fun x hx => va_Nw.warmM hW (h.nest x hx), fun x hx => va_Nw.warmC hW (h.ca x hx), fun x hx => va_Nw.warmD hW (h.de x hx)⟩
theorem Kx.same {s U : State} (h : Kx s) (hv : U.vm = s.vm) (hh : U.heap = s.heap) : Kx U :=
  h.at (by rw [hv]; exact State.WarmedH.refl s) (by rw [hh]; exact fun _ _ h _ => h)
abbrev tyZ (ct : Nat → ClassId) : List (ClassId × FieldType) := [(ct 0, .int), (ct 1, .boolean), (ct 2, .long), (ct 3, .array .int)]
/-- a method's fixed facts -/
def Cx (p : Program) (s : State) (m : MethodId) (args : Array Value) (c : Code) (cc : ByteArray) (nL : Nat) (own : String) (D : va_G) (ct : Nat → ClassId) : Prop :=
  p.tables.exec = Jvm.exec ∧ c.code = cc ∧ c.maxLocals = nL ∧ s.vm.findClass own = some m.cls ∧ (∀ w ∈ wT, w.before args s = true) ∧ va_K D vCl (tyZ ct) s ∧ Kx s
/-- a method's world -/
def Wd (D : va_G) (A : Nat → Prop) (s : State) (ws : va_W) (H : Heap) (locs : List Loc) : Prop :=
  va_P D vCl ws H ∧ va_D A ws ∧ va_S A s.heap H locs ∧ (∀ q, s.heap.size ≤ q → A q) ∧ ∀ (q : Nat) (cell : Cell), s.heap[q]? = some cell → cell.vm.isStatics = true → ¬ A q
theorem Wd.st {D : va_G} {A : Nat → Prop} {s : State} {ws : va_W} {H : Heap} {locs : List Loc} (w : Wd D A s ws H locs) : st_K s.heap H :=
  fun a cell h1 h2 => (w.2.2.1.2.1 a (Array.getElem?_eq_some_iff.mp h1).1 (w.2.2.2.2 a cell h1 h2)).trans h1
theorem Wd.to {D : va_G} {A : Nat → Prop} {s : State} {ws ws1 : va_W} {H H1 : Heap} {locs locs1 : List Loc} (w : Wd D A s ws H locs) (hP : va_P D vCl ws1 H1) (hD : va_D A ws1) (hS : va_S A s.heap H1 locs1) : Wd D A s ws1 H1 locs1 := ⟨hP, hD, hS, w.2.2.2⟩
theorem Wd.sub {D : va_G} {A : Nat → Prop} {s : State} {ws ws1 : va_W} {H : Heap} {locs : List Loc} (w : Wd D A s ws H locs) (is : List Nat) (hn : va_nd is = true) (hs : is.map (fun i => ws[i]?) = ws1.map some) : Wd D A s ws1 H locs :=
  w.to (w.1.sub is (by
    have h := congrArg (List.filterMap id) hs
    simpa [List.filterMap_map, Function.comp_def] using h)) (w.2.1.sub is hn hs) w.2.2.1
theorem cell_free {D : va_G} {cl : List vw_C} {q : Nat × va_E} {H : Heap} (h : va_at D cl q H) {cell : Cell} (hc : H[q.1]? = some cell) : cell.vm.isStatics = false := by
  obtain ⟨a, e⟩ := q
  cases e with
  | inl x =>
    have h1 : H[a]? = some (vp_cell x.1 x.2) := h
    cases hc.symm.trans h1
    obtain ⟨c, n, f | f | f | f | f⟩ := x <;> rfl
  | inr o =>
    obtain ⟨r, -, cell', g1, g2, g3, -⟩ := h
    cases hc.symm.trans g1
    rw [g3]
    rfl
theorem Wd.start {D : va_G} {s : State} {wc : va_W} (hP : va_P D vCl wc s.heap) (hD : va_D (fun _ => True) wc) : Wd D (va_A wc s.heap.size) s wc s.heap [] :=
  ⟨hP, hD.self, va_S.rf, fun q h => Or.inr h, fun q cell h1 h2 h3 => by
    rcases h3 with ⟨k, e, h⟩ | h
    · rw [cell_free (hP k (q, e) h) h1] at h2; cases h2
    · exact absurd (Array.getElem?_eq_some_iff.mp h1).1 (by omega)⟩
/-! contracts -/
def CP (D : va_G) (ct : Nat → ClassId) (wc : va_W) (sz : Nat) (U : State) : Prop := U.heap.size = sz ∧ va_P D vCl wc U.heap ∧ va_K D vCl (tyZ ct) U ∧ va_D (fun _ => True) wc ∧ Kx U
theorem CP.blind {D : va_G} {ct : Nat → ClassId} {wc : va_W} {sz : Nat} {av : List Value} : FrameBlind (va_Pc av (CP D ct wc sz)) := fun a U g mk q =>
  ⟨q.1, q.2.1, q.2.2.1, va_K.moved (u := U) (U := U.calling g mk a) (Vm.Alike.refl U.vm) q.2.2.2.1, q.2.2.2.2.1, q.2.2.2.2.2.same rfl rfl⟩
theorem CP.give {D : va_G} {ct : Nat → ClassId} {A : Nat → Prop} {s U : State} {ws wc : va_W} {H : Heap} {locs : List Loc} (hK : va_K D vCl (tyZ ct) s) (hx : Kx s) (w : Wd D A s ws H locs) (is : List Nat) (hn : va_nd is = true) (hs : is.map (fun i => ws[i]?) = wc.map some) (hU : U.heap = H) (hW : s.WarmedH U.vm) : CP D ct wc H.size U :=
  ⟨by rw [hU], by rw [hU]; exact (w.sub is hn hs).1, va_K.moved hW.alike hK, ((w.sub is hn hs).2.1).weaken (fun _ _ _ _ => trivial), hx.at hW (by rw [hU]; exact w.st)⟩
def CE (D : va_G) (w1 : va_W) (A : Nat → Prop) (t : State) : Prop := va_P D vCl w1 t.heap ∧ va_D A w1
theorem gI {ws : List Cond} (h : ∀ w ∈ ws, w ∈ wT) : GoodIn wT ws := fun w hw => ⟨h w hw, good_of_word (wT_good w (h w hw))⟩
theorem gI1 {c0 : Cond} (h : c0 ∈ wT) : ∀ w ∈ c0 :: wT, w ∈ wT := fun w hw => (List.mem_cons.mp hw).elim (fun e => e ▸ h) id
/-- reads alone -/
def KR (l : Launch) (D : va_G) (ct : Nat → ClassId) (y : MethodName) (bytes : ByteArray) (maxL : Nat) (ret : Option FieldType) (fr lo : Nat) (av : List Value) (wc : va_W) (r0 : Int32) : Prop :=
  ∀ sz : Nat, Met l y (Cond.code y bytes maxL ret :: wT) { frames := fr, cells := 0, slots := 0, locals := lo } (va_Pc av (CP D ct wc sz)) (QcRead r0) 0 0 (fun _ => False)
/-- answers r0, leaves w1 of its cells -/
def KI (l : Launch) (D : va_G) (ct : Nat → ClassId) (y : MethodName) (bytes : ByteArray) (maxL : Nat) (ret : Option FieldType) (fr lo : Nat) (av : List Value) (wc : va_W) (r0 : Int32) (w1 : va_W) : Prop :=
  ∀ sz : Nat, Met l y (Cond.code y bytes maxL ret :: wT) { frames := fr, cells := 0, slots := 0, locals := lo } (va_Pc av (CP D ct wc sz)) (va_Qi (fun r (_ : Unit) => r = r0) (fun _ t => CE D w1 (va_A wc sz) t) (va_A wc sz)) 0 0 (va_A wc sz)
def KV (l : Launch) (D : va_G) (ct : Nat → ClassId) (y : MethodName) (bytes : ByteArray) (maxL : Nat) (fr lo mc ms : Nat) (av : List Value) (wc : va_W) (B : (Nat → Prop) → State → Prop) : Prop :=
  ∀ sz : Nat, Met l y (Cond.code y bytes maxL none :: wT) { frames := fr, cells := mc, slots := ms, locals := lo } (va_Pc av (CP D ct wc sz)) (va_Qv (fun (_ : Unit) => True) (fun _ t => B (va_A wc sz) t) (va_A wc sz)) mc ms (va_A wc sz)
section RW
variable {p : Program} {l : Launch} {e : Env} {R : Room} {s : State} {m : MethodId} {args : Array Value} {below : List Frame} {meth : Method} {c : Code} {H : Heap} {locs : List Loc} {cells slots : Nat} {Q : State → Prop}
variable {cc : ByteArray} {pc nL : Nat} {ls : Array Slot} {rest : List Value} {own : String} {D : va_G} {ct : Nat → ClassId} {A : Nat → Prop} {ws : va_W} {a : Nat}
theorem R_get (C0 : Cx p s m args c cc nL own D ct) (w : Wd D A s ws H locs) (k : Nat) {ci : Nat} {fs : List Value} (he : ws[k]? = some (a, .inr (ci, fs))) {C : String} {T : u_T} {N : Nat} (hc : vCl[ci]? = some (C, T, N)) (hin : ∀ w ∈ u_ws C T N, w ∈ wT) (j : Nat) (hj : j < N) {index : Nat} (hlink : Cond.fieldLink own index (T j).1 (T j).2.1 (T j).2.2.1 ∈ wT) {v : Value} (hv : fs[j]? = some v) (hdg : decode cc pc = .ok (.getfield index, 3))
    (kk : W p l e R s m args below meth c H locs cells slots Q (F0 m (pc + 3) ls (v :: rest))) : W p l e R s m args below meth c H locs cells slots Q (F0 m pc ls (.ref a :: rest)) :=
  va_get (C := C) (T := T) (N := N) C0.1 C0.2.1 C0.2.2.2.2.1 hin C0.2.2.2.1 C0.2.2.2.2.2.1 w.1 k he hc j hj (C0.2.2.2.2.1 _ hlink) (fun _ h => h) hv hdg kk
theorem R_put (C0 : Cx p s m args c cc nL own D ct) (w : Wd D A s ws H locs) (k : Nat) {ci : Nat} {fs : List Value} (he : ws[k]? = some (a, .inr (ci, fs))) {C : String} {T : u_T} {N : Nat} (hc : vCl[ci]? = some (C, T, N)) (hin : ∀ w ∈ u_ws C T N, w ∈ wT) {ty0 : Nat → FieldType} (hty : ∀ k, k < N → parseFieldDescriptor (T k).2.2.1 = some (ty0 k)) (hnm : ∀ a, a < N → ∀ b, b < N → a ≠ b → (T a).2.1 ≠ (T b).2.1) (j : Nat) (hj : j < N) {index : Nat} (hlink : Cond.fieldLink own index (T j).1 (T j).2.1 (T j).2.2.1 ∈ wT) (hfin : (T j).2.2.2 = false) {v : Value} (hn : narrow (ty0 j) v = v) (hfit : fits (ty0 j) v = true) (hl : j < fs.length) (hdg : decode cc pc = .ok (.putfield index, 3))
    (kk : ∀ (H1 : Heap) (locs1 : List Loc), Wd D A s (ws.set k (a, .inr (ci, fs.set j v))) H1 locs1 → W p l e R s m args below meth c H1 locs1 cells slots Q (F0 m (pc + 3) ls rest)) : W p l e R s m args below meth c H locs cells slots Q (F0 m pc ls (v :: .ref a :: rest)) :=
  va_put (C := C) (T := T) (N := N) (ty := ty0 j) C0.1 C0.2.1 C0.2.2.2.2.1 hin ty0 hty hnm C0.2.2.2.1 C0.2.2.2.2.2.1 w.1 w.2.1 w.2.2.1 k he hc j hj (C0.2.2.2.2.1 _ hlink) (fun _ h => h) hfin (hty j hj) hn hfit hl hdg (fun H1 locs1 hP hD hs => kk H1 locs1 (w.to hP hD hs))
theorem R_putF (C0 : Cx p s m args c cc nL own D ct) (w : Wd D A s ws H locs) (k : Nat) {ci : Nat} {fs : List Value} (he : ws[k]? = some (a, .inr (ci, fs))) {C : String} {T : u_T} {N : Nat} (hc : vCl[ci]? = some (C, T, N)) (hin : ∀ w ∈ u_ws C T N, w ∈ wT) {ty0 : Nat → FieldType} (hty : ∀ k, k < N → parseFieldDescriptor (T k).2.2.1 = some (ty0 k)) (hnm : ∀ a, a < N → ∀ b, b < N → a ≠ b → (T a).2.1 ≠ (T b).2.1) (j : Nat) (hj : j < N) {index : Nat} (hlink : Cond.fieldLink own index (T j).1 (T j).2.1 (T j).2.2.1 ∈ wT) (hfin : (T j).2.2.2 = true) (hin2 : meth.name = "<init>") (hdecl : (T j).1 = own) {v : Value} (hn : narrow (ty0 j) v = v) (hfit : fits (ty0 j) v = true) (hl : j < fs.length) (hdg : decode cc pc = .ok (.putfield index, 3))
    (kk : ∀ (H1 : Heap) (locs1 : List Loc), Wd D A s (ws.set k (a, .inr (ci, fs.set j v))) H1 locs1 → W p l e R s m args below meth c H1 locs1 cells slots Q (F0 m (pc + 3) ls rest)) : W p l e R s m args below meth c H locs cells slots Q (F0 m pc ls (v :: .ref a :: rest)) :=
  va_putF (C := C) (T := T) (N := N) (ty := ty0 j) C0.1 C0.2.1 C0.2.2.2.2.1 hin ty0 hty hnm C0.2.2.2.1 C0.2.2.2.2.2.1 w.1 w.2.1 w.2.2.1 k he hc j hj (C0.2.2.2.2.1 _ hlink) (fun _ h => h) hfin hin2 hdecl (hty j hj) hn hfit hl hdg (fun H1 locs1 hP hD hs => kk H1 locs1 (w.to hP hD hs))
theorem R_ald (C0 : Cx p s m args c cc nL own D ct) (w : Wd D A s ws H locs) (k : Nat) {n : Nat} {f : Nat → Int32} (he : ws[k]? = some (a, .inl ((ct 0), n, .inl f))) {i : Int32} (hi : vp_in i n) (hdg : decode cc pc = .ok (.iaload, 1))
    (kk : W p l e R s m args below meth c H locs cells slots Q (F0 m (pc + 1) ls (.int (f i.toNatClampNeg) :: rest))) : W p l e R s m args below meth c H locs cells slots Q (F0 m pc ls (.int i :: .ref a :: rest)) :=
  va_iald C0.1 C0.2.1 C0.2.2.2.2.2.1 w.1 k 0 he rfl hi hdg kk
theorem R_ast (C0 : Cx p s m args c cc nL own D ct) (w : Wd D A s ws H locs) (k : Nat) {n : Nat} {f : Nat → Int32} (he : ws[k]? = some (a, .inl ((ct 0), n, .inl f))) {i x : Int32} (hi : vp_in i n) (hdg : decode cc pc = .ok (.iastore, 1))
    (kk : ∀ (H1 : Heap) (locs1 : List Loc), Wd D A s (ws.set k (a, .inl ((ct 0), n, .inl (upd f i.toNatClampNeg x)))) H1 locs1 → W p l e R s m args below meth c H1 locs1 cells slots Q (F0 m (pc + 1) ls rest)) : W p l e R s m args below meth c H locs cells slots Q (F0 m pc ls (.int x :: .int i :: .ref a :: rest)) :=
  va_iast C0.1 C0.2.1 C0.2.2.2.2.2.1 w.1 w.2.1 w.2.2.1 k 0 he rfl hi hdg (fun H1 locs1 hP hD hs => kk H1 locs1 (w.to hP hD hs))
theorem R_last (C0 : Cx p s m args c cc nL own D ct) (w : Wd D A s ws H locs) (k : Nat) {n : Nat} {f : Nat → Int64} (he : ws[k]? = some (a, .inl ((ct 2), n, .inr (.inl f)))) {i : Int32} {x : Int64} (hi : vp_in i n) (hdg : decode cc pc = .ok (.lastore, 1))
    (kk : ∀ (H1 : Heap) (locs1 : List Loc), Wd D A s (ws.set k (a, .inl ((ct 2), n, .inr (.inl (vp_updL f i.toNatClampNeg x))))) H1 locs1 → W p l e R s m args below meth c H1 locs1 cells slots Q (F0 m (pc + 1) ls rest)) : W p l e R s m args below meth c H locs cells slots Q (F0 m pc ls (.long x :: .int i :: .ref a :: rest)) :=
  va_last C0.1 C0.2.1 C0.2.2.2.2.2.1 w.1 w.2.1 w.2.2.1 k 2 he rfl hi hdg (fun H1 locs1 hP hD hs => kk H1 locs1 (w.to hP hD hs))
theorem R_lald (C0 : Cx p s m args c cc nL own D ct) (w : Wd D A s ws H locs) (k : Nat) {n : Nat} {f : Nat → Int64} (he : ws[k]? = some (a, .inl ((ct 2), n, .inr (.inl f)))) {i : Int32} (hi : vp_in i n) (hdg : decode cc pc = .ok (.laload, 1))
    (kk : W p l e R s m args below meth c H locs cells slots Q (F0 m (pc + 1) ls (.long (f i.toNatClampNeg) :: rest))) : W p l e R s m args below meth c H locs cells slots Q (F0 m pc ls (.int i :: .ref a :: rest)) :=
  va_lald C0.1 C0.2.1 C0.2.2.2.2.2.1 w.1 k 2 he rfl hi hdg kk
theorem R_new (C0 : Cx p s m args c cc nL own D ct) (w : Wd D A s ws H locs) {ci : Nat} {C : String} {T : u_T} {N : Nat} (hc : vCl[ci]? = some (C, T, N)) (hin : ∀ w ∈ u_ws C T N, w ∈ wT) {ty0 : Nat → FieldType} (hty : ∀ k, k < N → parseFieldDescriptor (T k).2.2.1 = some (ty0 k)) {index : Nat} (hcl : Cond.classLink own index C ∈ wT) (hinst : Cond.instantiable C N ∈ wT) (hini : Cond.initialized C ∈ wT) {fs : List Value} (hfs : ∀ j, j < N → defaultValue (ty0 j) = vp_V fs j) (hcells : cells + 1 ≤ R.cells) (hslots : slots + N ≤ R.slots) (hdg : decode cc pc = .ok (.new index, 3))
    (kk : ∀ (q : Nat) (H1 : Heap), Wd D A s (ws ++ [(q, .inr (ci, fs))]) H1 locs → W p l e R s m args below meth c H1 locs (cells + 1) (slots + N) Q (F0 m (pc + 3) ls (.ref q :: rest))) : W p l e R s m args below meth c H locs cells slots Q (F0 m pc ls rest) :=
  va_new (C := C) (T := T) (N := N) C0.1 C0.2.1 C0.2.2.2.2.1 hin ty0 hty C0.2.2.2.1 (C0.2.2.2.2.1 _ hcl) (C0.2.2.2.2.1 _ hinst) (C0.2.2.2.2.1 _ hini) C0.2.2.2.2.2.1 w.1 w.2.1 w.2.2.1 w.2.2.2.1 hc hfs hcells hslots hdg (fun q H1 hP hD hs => kk q H1 (w.to hP hD hs))
theorem R_newI (C0 : Cx p s m args c cc nL own D ct) (w : Wd D A s ws H locs) (hac : Cond.arrayClass .int ∈ wT) {n : Int32} {N : Nat} (hn : ¬ n < 0) (hN : n.toNatClampNeg = N) (hbytes : N * componentBytes .int ≤ 536870912) (hcells : cells + 1 ≤ R.cells) (hslots : slots + N ≤ R.slots) (hdg : decode cc pc = .ok (.newarray .int, 2))
    (kk : ∀ (q : Nat) (H1 : Heap), Wd D A s (ws ++ [(q, .inl ((ct 0), N, .inl (fun _ => 0)))]) H1 locs → W p l e R s m args below meth c H1 locs (cells + 1) (slots + N) Q (F0 m (pc + 2) ls (.ref q :: rest))) : W p l e R s m args below meth c H locs cells slots Q (F0 m pc ls (.int n :: rest)) := by
  refine va_newa (atype := .int) (a0 := (N, .inl (fun _ => 0))) (ty := .int) C0.1 C0.2.1 (C0.2.2.2.2.1 _ hac) rfl C0.2.2.2.2.2.1 w.1 w.2.1 w.2.2.1 w.2.2.2.1 (fun _ => rfl) hn hN hbytes hcells hslots hdg (fun q cA H1 hK hP hD hs => ?_)
  have h1 : s.vm.findClass ("[" ++ FieldType.int.toString) = some cA := (hK.2 4 (cA, .int) rfl).2
  have h2 : s.vm.findClass ("[" ++ FieldType.int.toString) = some (ct 0) := (C0.2.2.2.2.2.1.2 0 ((ct 0), .int) rfl).2
  cases h1.symm.trans h2
  exact kk q H1 (w.to hP hD hs)
theorem R_newJ (C0 : Cx p s m args c cc nL own D ct) (w : Wd D A s ws H locs) (hac : Cond.arrayClass .long ∈ wT) {n : Int32} {N : Nat} (hn : ¬ n < 0) (hN : n.toNatClampNeg = N) (hbytes : N * componentBytes .long ≤ 536870912) (hcells : cells + 1 ≤ R.cells) (hslots : slots + N ≤ R.slots) (hdg : decode cc pc = .ok (.newarray .long, 2))
    (kk : ∀ (q : Nat) (H1 : Heap), Wd D A s (ws ++ [(q, .inl ((ct 2), N, .inr (.inl (fun _ => 0))))]) H1 locs → W p l e R s m args below meth c H1 locs (cells + 1) (slots + N) Q (F0 m (pc + 2) ls (.ref q :: rest))) : W p l e R s m args below meth c H locs cells slots Q (F0 m pc ls (.int n :: rest)) := by
  refine va_newa (atype := .long) (a0 := (N, .inr (.inl (fun _ => 0)))) (ty := .long) C0.1 C0.2.1 (C0.2.2.2.2.1 _ hac) rfl C0.2.2.2.2.2.1 w.1 w.2.1 w.2.2.1 w.2.2.2.1 (fun _ => rfl) hn hN hbytes hcells hslots hdg (fun q cA H1 hK hP hD hs => ?_)
  have h1 : s.vm.findClass ("[" ++ FieldType.long.toString) = some cA := (hK.2 4 (cA, .long) rfl).2
  have h2 : s.vm.findClass ("[" ++ FieldType.long.toString) = some (ct 2) := (C0.2.2.2.2.2.1.2 2 ((ct 2), .long) rfl).2
  cases h1.symm.trans h2
  exact kk q H1 (w.to hP hD hs)
/-- a new array that nobody asks for again -/
theorem R_newX (C0 : Cx p s m args c cc nL own D ct) (w : Wd D A s ws H locs) {atype : ArrayType} (hac : Cond.arrayClass (newarray.typeOf atype) ∈ wT) {n : Int32} {N : Nat} (hn : ¬ n < 0) (hN : n.toNatClampNeg = N) (hbytes : N * componentBytes (newarray.typeOf atype) ≤ 536870912) (hcells : cells + 1 ≤ R.cells) (hslots : slots + N ≤ R.slots) (hdg : decode cc pc = .ok (.newarray atype, 2))
    (kk : ∀ (q : Nat) (H1 : Heap), Wd D A s ws H1 locs → W p l e R s m args below meth c H1 locs (cells + 1) (slots + N) Q (F0 m (pc + 2) ls (.ref q :: rest))) : W p l e R s m args below meth c H locs cells slots Q (F0 m pc ls (.int n :: rest)) := by
  refine va_newaK C0.1 C0.2.1 (C0.2.2.2.2.1 _ hac) rfl hdg rfl hn hN hbytes hcells hslots rfl fun H1 cA e1 z1 o1 hAr hNm => ?_
  exact kk H.size H1 (w.to (w.1.kept (fun k x hx => o1 x.1 ((w.1 k x hx).lt))) w.2.1 ⟨Nat.le_trans w.2.2.1.1 (by rw [z1]; exact Nat.le_succ _), fun x h1 h2 => (o1 x (Nat.lt_of_lt_of_le h1 w.2.2.1.1)).trans (w.2.2.1.2.1 x h1 h2), w.2.2.1.2.2⟩)
/-- a new int[][] that nobody asks for again -/
theorem R_mna (C0 : Cx p s m args c cc nL own D ct) (w : Wd D A s ws H locs) {index : Nat} (hcl : Cond.classLink own index "[[I" ∈ wT) (hac : Cond.arrayClass .int ∈ wT) {n k : Int32} {N K : Nat} (hn : ¬ n < 0) (hk : ¬ k < 0) (hN : n.toNatClampNeg = N) (hK : k.toNatClampNeg = K) (hb1 : N * 4 ≤ 536870912) (hb2 : K * 4 ≤ 536870912) (hcells : cells + (1 + N) ≤ R.cells) (hslots : slots + (N + N * K) ≤ R.slots) (hdg : decode cc pc = .ok (.multianewarray index 2, 4))
    (kk : ∀ (q : Nat) (H1 : Heap), Wd D A s ws H1 locs → W p l e R s m args below meth c H1 locs (cells + (1 + N)) (slots + (N + N * K)) Q (F0 m (pc + 4) ls (.ref q :: rest))) : W p l e R s m args below meth c H locs cells slots Q (F0 m pc ls (.int k :: .int n :: rest)) := by
  intro T hT X
  subst hN; subst hK; subst hT
  obtain ⟨vm₁, c0, c1, hW, hf0, hf1, X1, st⟩ := ow_mna X C0.1 C0.2.2.2.1 (C0.2.2.2.2.1 _ hcl) (ao_moved (Vm.Alike.refl s.vm) C0.2.2.2.2.2.2.ao) (C0.2.2.2.2.1 _ hac) (g := F0 m pc ls (.int k :: .int n :: rest)) rfl (by rw [C0.2.1]; exact hdg) (n := n) (k := k) (rest := rest) rfl hn hk hb1 hb2 hcells hslots
  have fo : ∀ a : Nat, a < T.heap.size → (ow_grid (T.setVm vm₁) c0 c1 n.toNatClampNeg k.toNatClampNeg (.int 0) n.toNatClampNeg).heap[a]? = T.heap[a]? := fun a ha => ow_grid_old (T.setVm vm₁) c0 c1 _ _ _ _ ha
  have hz : T.heap.size ≤ (ow_grid (T.setVm vm₁) c0 c1 n.toNatClampNeg k.toNatClampNeg (.int 0) n.toNatClampNeg).heap.size := by
    rw [ow_grid_size]
    show T.heap.size ≤ T.heap.size + 1 + _
    omega
  obtain ⟨t, a1, b1⟩ := kk T.heap.size _ (w.to (w.1.kept (fun k x hx => fo x.1 ((w.1 k x hx).lt))) w.2.1 ⟨Nat.le_trans w.2.2.1.1 hz, fun x h1 h2 => (fo x (Nat.lt_of_lt_of_le h1 w.2.2.1.1)).trans (w.2.2.1.2.1 x h1 h2), w.2.2.1.2.2⟩) _ rfl (X1.more (by omega) (by omega))
  exact ⟨t, st t a1, b1⟩
/-! calls -/
variable {y : MethodName} {bytes : ByteArray} {maxL fr lo mc ms index n9 : Nat} {ret : Option FieldType} {As : List Value} {wc wr w1 : va_W}
theorem cB_of {rm : Room} {n : Nat} (C0 : Cx p s m args c cc nL own D ct) (hcode : Cond.code y bytes maxL ret ∈ wT) (hlink : Cond.methodLink own index y ∈ wT) (hini : Cond.initialized y.cls ∈ wT) (hd : y.cls ≠ "java/lang/invoke/MethodHandle" ∧ y.cls ≠ "java/lang/invoke/VarHandle" ∧ (parseMethodDescriptor y.desc).map (fun d => d.parameters.length) = some n) (hR : rm.frames + 1 ≤ R.frames ∧ 8 + (maxL + 11) + rm.locals ≤ R.locals) : CallB R s args own index y bytes maxL ret (Cond.code y bytes maxL ret :: wT) rm rm.cells rm.slots n :=
  callB_of n C0.2.2.2.2.1 (gI (gI1 hcode)) rfl rfl rfl (C0.2.2.2.2.1 _ hini) (C0.2.2.2.2.1 _ hlink) hd hR
theorem R_ri (C0 : Cx p s m args c cc nL own D ct) (w : Wd D A s ws H locs) {b : Nat} (k : Nat) {ci : Nat} {fs : List Value} (he : ws[k]? = some (b, .inr (ci, fs))) {C : String} {T : u_T} {N : Nat} (hc : vCl[ci]? = some (C, T, N)) (isC : List Nat) {r0 : Int32} (hM : KR l D ct y bytes maxL ret fr lo (.ref b :: As) wc r0) (hnC : va_nd isC = true) (hC : isC.map (fun i => ws[i]?) = wc.map some) (hcode : Cond.code y bytes maxL ret ∈ wT) (hlink : Cond.methodLink own index y ∈ wT) (hinst : Cond.instanceMethod y ∈ wT) (hsel : Cond.selects C y y ∈ wT) (hini : Cond.initialized y.cls ∈ wT)
    (hd : y.cls ≠ "java/lang/invoke/MethodHandle" ∧ y.cls ≠ "java/lang/invoke/VarHandle" ∧ (parseMethodDescriptor y.desc).map (fun d => d.parameters.length) = some n9) (hn9 : As.length = n9) (hR : fr + 1 ≤ R.frames ∧ 8 + (maxL + 11) + lo ≤ R.locals) (hls : ls.size = nL) {st0 : List Value} (hst : st0 = As.reverse ++ .ref b :: rest) (hrest : (rest.map fun v => v.category).sum ≤ 8) (hdg : decode cc pc = .ok (.invokevirtual index, 3)) (hcs : cells ≤ R.cells) (hss : slots ≤ R.slots)
    (kk : W p l e R s m args below meth c H locs cells slots Q (F0 m (pc + 3) ls (.int r0 :: rest))) : W p l e R s m args below meth c H locs cells slots Q (F0 m pc ls st0) := by
  subst hst
  exact W.callR (W.runV (rest := rest) ⟨C0.1, C0.2.1, C0.2.2.1, C0.2.2.2.1, C0.2.2.2.2.1⟩ (hM H.size) ⟨cB_of C0 hcode hlink hini hd hR, C0.2.2.2.2.1 _ hinst, C0.2.2.2.2.1 _ hsel⟩ ⟨CP.blind, va_recv C0.2.2.2.2.2.1 w.1 hc he, fun U hU hW => ⟨rfl, CP.give C0.2.2.2.2.2.1 C0.2.2.2.2.2.2 w isC hnC hC hU hW⟩⟩ rfl hn9 hls rfl (lv_room hrest) hdg ⟨hcs, hss⟩) kk
theorem R_vi (C0 : Cx p s m args c cc nL own D ct) (w : Wd D A s ws H locs) {b : Nat} (k : Nat) {ci : Nat} {fs : List Value} (he : ws[k]? = some (b, .inr (ci, fs))) {C : String} {T : u_T} {N : Nat} (hc : vCl[ci]? = some (C, T, N)) (isC isR : List Nat) {r0 : Int32} (hM : KI l D ct y bytes maxL ret fr lo (.ref b :: As) wc r0 w1) (hnC : va_nd isC = true) (hC : isC.map (fun i => ws[i]?) = wc.map some) (hnR : va_nd isR = true) (hRr : isR.map (fun i => ws[i]?) = wr.map some) (hdis : ∀ i ∈ isR, i ∉ isC) (hcode : Cond.code y bytes maxL ret ∈ wT) (hlink : Cond.methodLink own index y ∈ wT) (hinst : Cond.instanceMethod y ∈ wT) (hsel : Cond.selects C y y ∈ wT) (hini : Cond.initialized y.cls ∈ wT)
    (hd : y.cls ≠ "java/lang/invoke/MethodHandle" ∧ y.cls ≠ "java/lang/invoke/VarHandle" ∧ (parseMethodDescriptor y.desc).map (fun d => d.parameters.length) = some n9) (hn9 : As.length = n9) (hR : fr + 1 ≤ R.frames ∧ 8 + (maxL + 11) + lo ≤ R.locals) (hls : ls.size = nL) {st0 : List Value} (hst : st0 = As.reverse ++ .ref b :: rest) (hrest : (rest.map fun v => v.category).sum ≤ 8) (hdg : decode cc pc = .ok (.invokevirtual index, 3)) (hcs : cells ≤ R.cells) (hss : slots ≤ R.slots)
    (kk : ∀ (H1 : Heap) (locs1 : List Loc), Wd D A s (wr ++ w1) H1 locs1 → W p l e R s m args below meth c H1 locs1 cells slots Q (F0 m (pc + 3) ls (.int r0 :: rest))) : W p l e R s m args below meth c H locs cells slots Q (F0 m pc ls st0) := by
  subst hst
  have hF := va_free (wc := wc) w.2.1 w.2.2.1 w.2.2.2.1 isC hC
  refine va_calli (va_runV (rest := rest) ⟨C0.1, C0.2.1, C0.2.2.1, C0.2.2.2.1, C0.2.2.2.2.1⟩ (hM H.size) ⟨cB_of C0 hcode hlink hini hd hR, C0.2.2.2.2.1 _ hinst, C0.2.2.2.2.1 _ hsel⟩ ⟨CP.blind, va_recv C0.2.2.2.2.2.1 w.1 hc he, fun U hU hW => ⟨rfl, CP.give C0.2.2.2.2.2.1 C0.2.2.2.2.2.2 w isC hnC hC hU hW⟩⟩ rfl hn9 hls rfl (lv_room hrest) hdg ⟨hcs, hss⟩) w.2.2.1 (fun q _ h => hF q h) hF (fun r u t H1 locs1 ht hvm hr hB hz hk hS => ?_)
  subst hr
  obtain ⟨hP1, hD1⟩ := hB
  rw [ht] at hP1
  obtain ⟨hP, hD⟩ := va_join (wr := wr) (w1 := w1) w.1 w.2.1 isC isR hC hRr hnR hdis hk hF hP1 hD1
  exact kk H1 locs1 (w.to hP hD hS)
theorem R_vv (C0 : Cx p s m args c cc nL own D ct) (w : Wd D A s ws H locs) {b : Nat} (k : Nat) {ci : Nat} {fs : List Value} (he : ws[k]? = some (b, .inr (ci, fs))) {C : String} {T : u_T} {N : Nat} (hc : vCl[ci]? = some (C, T, N)) (isC isR : List Nat) (hM : KV l D ct y bytes maxL fr lo 0 0 (.ref b :: As) wc (fun A t => CE D w1 A t)) (hnC : va_nd isC = true) (hC : isC.map (fun i => ws[i]?) = wc.map some) (hnR : va_nd isR = true) (hRr : isR.map (fun i => ws[i]?) = wr.map some) (hdis : ∀ i ∈ isR, i ∉ isC) (hcode : Cond.code y bytes maxL none ∈ wT) (hlink : Cond.methodLink own index y ∈ wT) (hinst : Cond.instanceMethod y ∈ wT) (hsel : Cond.selects C y y ∈ wT) (hini : Cond.initialized y.cls ∈ wT)
    (hd : y.cls ≠ "java/lang/invoke/MethodHandle" ∧ y.cls ≠ "java/lang/invoke/VarHandle" ∧ (parseMethodDescriptor y.desc).map (fun d => d.parameters.length) = some n9) (hn9 : As.length = n9) (hR : fr + 1 ≤ R.frames ∧ 8 + (maxL + 11) + lo ≤ R.locals) (hls : ls.size = nL) {st0 : List Value} (hst : st0 = As.reverse ++ .ref b :: rest) (hrest : (rest.map fun v => v.category).sum ≤ 8) (hdg : decode cc pc = .ok (.invokevirtual index, 3)) (hcs : cells ≤ R.cells) (hss : slots ≤ R.slots)
    (kk : ∀ (H1 : Heap) (locs1 : List Loc), Wd D A s (wr ++ w1) H1 locs1 → W p l e R s m args below meth c H1 locs1 cells slots Q (F0 m (pc + 3) ls rest)) : W p l e R s m args below meth c H locs cells slots Q (F0 m pc ls st0) := by
  subst hst
  have hF := va_free (wc := wc) w.2.1 w.2.2.1 w.2.2.2.1 isC hC
  refine va_callv (va_runV (rest := rest) ⟨C0.1, C0.2.1, C0.2.2.1, C0.2.2.2.1, C0.2.2.2.2.1⟩ (hM H.size) ⟨cB_of C0 hcode hlink hini hd hR, C0.2.2.2.2.1 _ hinst, C0.2.2.2.2.1 _ hsel⟩ ⟨CP.blind, va_recv C0.2.2.2.2.2.1 w.1 hc he, fun U hU hW => ⟨rfl, CP.give C0.2.2.2.2.2.1 C0.2.2.2.2.2.2 w isC hnC hC hU hW⟩⟩ rfl hn9 hls rfl (lv_room hrest) hdg ⟨hcs, hss⟩) w.2.2.1 (fun q _ h => hF q h) hF (fun u t H1 locs1 ht hvm hr hB hz hk hS => ?_)
  obtain ⟨hP1, hD1⟩ := hB
  rw [ht] at hP1
  obtain ⟨hP, hD⟩ := va_join (wr := wr) (w1 := w1) w.1 w.2.1 isC isR hC hRr hnR hdis hk hF hP1 hD1
  exact kk H1 locs1 (w.to hP hD hS)
/-- a constructor: what it leaves is told by B -/
theorem R_iv (C0 : Cx p s m args c cc nL own D ct) (w : Wd D A s ws H locs) {b : Nat} (isC isR : List Nat) {B : (Nat → Prop) → State → Prop} (hM : KV l D ct y bytes maxL fr lo mc ms (.ref b :: As) wc B) (hnC : va_nd isC = true) (hC : isC.map (fun i => ws[i]?) = wc.map some) (hnR : va_nd isR = true) (hRr : isR.map (fun i => ws[i]?) = wr.map some) (hdis : ∀ i ∈ isR, i ∉ isC) (hcode : Cond.code y bytes maxL none ∈ wT) (hlink : Cond.methodLink own index y ∈ wT) (hinst : Cond.instanceMethod y ∈ wT) (hini : Cond.initialized y.cls ∈ wT) (hy1 : y.name = "<init>")
    (hd : y.cls ≠ "java/lang/invoke/MethodHandle" ∧ y.cls ≠ "java/lang/invoke/VarHandle" ∧ (parseMethodDescriptor y.desc).map (fun d => d.parameters.length) = some n9) (hn9 : As.length = n9) (hR : fr + 1 ≤ R.frames ∧ 8 + (maxL + 11) + lo ≤ R.locals) (hls : ls.size = nL) {st0 : List Value} (hst : st0 = As.reverse ++ .ref b :: rest) (hrest : (rest.map fun v => v.category).sum ≤ 8) (hdg : decode cc pc = .ok (.invokespecial index, 3)) (hcs : cells + mc ≤ R.cells) (hss : slots + ms ≤ R.slots)
    (kk : ∀ (t : State) (H1 : Heap) (locs1 : List Loc), t.heap = H1 → B (va_A wc H.size) t → (∀ w1 : va_W, CE D w1 (va_A wc H.size) t → Wd D A s (wr ++ w1) H1 locs1) → W p l e R s m args below meth c H1 locs1 (cells + mc) (slots + ms) Q (F0 m (pc + 3) ls rest)) : W p l e R s m args below meth c H locs cells slots Q (F0 m pc ls st0) := by
  subst hst
  have hF := va_free (wc := wc) w.2.1 w.2.2.1 w.2.2.2.1 isC hC
  refine va_callv (va_runI (rest := rest) ⟨C0.1, C0.2.1, C0.2.2.1, C0.2.2.2.1, C0.2.2.2.2.1⟩ (hM H.size) ⟨cB_of C0 hcode hlink hini hd hR, hy1, C0.2.2.2.2.1 _ hinst⟩ ⟨CP.blind, fun U hU hW => ⟨rfl, CP.give C0.2.2.2.2.2.1 C0.2.2.2.2.2.2 w isC hnC hC hU hW⟩⟩ rfl hn9 hls rfl (lv_room hrest) hdg ⟨hcs, hss⟩) w.2.2.1 (fun q _ h => hF q h) hF (fun u t H1 locs1 ht hvm hr hB hz hk hS => ?_)
  refine kk t H1 locs1 ht hB (fun w1 hE => ?_)
  obtain ⟨hP1, hD1⟩ := hE
  rw [ht] at hP1
  obtain ⟨hP, hD⟩ := va_join (wr := wr) (w1 := w1) w.1 w.2.1 isC isR hC hRr hnR hdis hk hF hP1 hD1
  exact w.to hP hD hS
/-- the same across the nest -/
theorem R_ivN (C0 : Cx p s m args c cc nL own D ct) (w : Wd D A s ws H locs) {b : Nat} (isC isR : List Nat) {B : (Nat → Prop) → State → Prop} (hM : KV l D ct y bytes maxL fr lo mc ms (.ref b :: As) wc B) (hnC : va_nd isC = true) (hC : isC.map (fun i => ws[i]?) = wc.map some) (hnR : va_nd isR = true) (hRr : isR.map (fun i => ws[i]?) = wr.map some) (hdis : ∀ i ∈ isR, i ∉ isC) (hcode : Cond.code y bytes maxL none ∈ wT) {host : String} (hlink : va_Nw (.methodLinkNest own index y host) s) (hinst : Cond.instanceMethod y ∈ wT) (hini : Cond.initialized y.cls ∈ wT) (hy1 : y.name = "<init>")
    (hd : y.cls ≠ "java/lang/invoke/MethodHandle" ∧ y.cls ≠ "java/lang/invoke/VarHandle" ∧ (parseMethodDescriptor y.desc).map (fun d => d.parameters.length) = some n9) (hn9 : As.length = n9) (hR : fr + 1 ≤ R.frames ∧ 8 + (maxL + 11) + lo ≤ R.locals) (hls : ls.size = nL) {st0 : List Value} (hst : st0 = As.reverse ++ .ref b :: rest) (hrest : (rest.map fun v => v.category).sum ≤ 8) (hdg : decode cc pc = .ok (.invokespecial index, 3)) (hcs : cells + mc ≤ R.cells) (hss : slots + ms ≤ R.slots)
    (kk : ∀ (t : State) (H1 : Heap) (locs1 : List Loc), t.heap = H1 → B (va_A wc H.size) t → (∀ w1 : va_W, CE D w1 (va_A wc H.size) t → Wd D A s (wr ++ w1) H1 locs1) → W p l e R s m args below meth c H1 locs1 (cells + mc) (slots + ms) Q (F0 m (pc + 3) ls rest)) : W p l e R s m args below meth c H locs cells slots Q (F0 m pc ls st0) := by
  subst hst
  have hF := va_free (wc := wc) w.2.1 w.2.2.1 w.2.2.2.1 isC hC
  refine va_callv (va_runIN (rest := rest) (host := host) (Ts := wT) ⟨C0.1, C0.2.1, C0.2.2.1, C0.2.2.2.1, C0.2.2.2.2.1⟩ (hM H.size) ⟨va_cnB n9 C0.2.2.2.2.1 (gI (gI1 hcode)) rfl rfl rfl hlink (C0.2.2.2.2.1 _ hini) hd hR, hy1, C0.2.2.2.2.1 _ hinst⟩ ⟨CP.blind, fun U hU hW => ⟨rfl, CP.give C0.2.2.2.2.2.1 C0.2.2.2.2.2.2 w isC hnC hC hU hW⟩⟩ rfl hn9 hls rfl (lv_room hrest) hdg ⟨hcs, hss⟩) w.2.2.1 (fun q _ h => hF q h) hF (fun u t H1 locs1 ht hvm hr hB hz hk hS => ?_)
  refine kk t H1 locs1 ht hB (fun w1 hE => ?_)
  obtain ⟨hP1, hD1⟩ := hE
  rw [ht] at hP1
  obtain ⟨hP, hD⟩ := va_join (wr := wr) (w1 := w1) w.1 w.2.1 isC isR hC hRr hnR hdis hk hF hP1 hD1
  exact w.to hP hD hS
end RW
end
section
/-! throws: a method that ends by 'throw new E(text)', and the call that catches it -/
/-- how a throwing method leaves: the exception is a new object of the class E; no old cell has changed -/
def XE (E : String) (st : State) (o : Outcome) (t : State) : Prop := ∃ (q : Addr) (ce : Cell), o = .threw q ∧ t.heap[q]? = some ce ∧ ce.vm = .none ∧ st.vm.findClass E = some ce.cls ∧ st.WarmedH t.vm ∧ st.sameButNew ({ t with vm := st.vm } : State) [] 1 6
def XQ (below : List Frame) (E : String) (s : State) : State → Prop := fun t => ∃ o : Outcome, t.status = .running ∧ Ended t below o ∧ XE E s o t
def KX (l : Launch) (D : va_G) (ct : Nat → ClassId) (y : MethodName) (bytes : ByteArray) (maxL : Nat) (ret : Option FieldType) (fr lo : Nat) (av : List Value) (wc : va_W) (E : String) : Prop :=
  ∀ sz : Nat, MetFree l y (headSpec (Cond.code y bytes maxL ret :: wT) { frames := fr, cells := 1, slots := 6, locals := lo }) (va_Pc av (CP D ct wc sz)) (fun _ _ _ _ _ => True) (fun _ st o t => XE E st o t)
theorem KX.ofW {l : Launch} {y : MethodName} {ws ws' : List Cond} {rm : Room} {Pc : Array Value → State → Prop} {E : String} {cc : ByteArray} {maxL : Nat} {ret : Option FieldType}
    (hy : plainName y.cls = true) (hw : ws = Cond.code y cc maxL ret :: ws')
    (body : ∀ p e s m args below meth c s₁, BodyLoose p l y (headSpec ws rm) cc maxL ret e s m args below meth c s₁ → c.maxLocals = maxL → Pc args s →
      W p l e (headSpec ws rm).room s m args below meth c s.heap [] 0 0 (XQ below E s) (entryFrame m args maxL)) : MetFree l y (headSpec ws rm) Pc (fun _ _ _ _ _ => True) (fun _ st o t => XE E st o t) := by
  refine MetFree.of_bodyS (code := cc) (maxLocals := maxL) (ret := ret) hy ?_ ?_
  · intro args s m h hn
    obtain ⟨meth, c, h1, h2, h3, h4, h5, h6, -, -⟩ := Cond.code_spec hn (atoms_spec (ws := ws) h _ (by rw [hw]; exact List.mem_cons_self))
    exact ⟨meth, c, h1, h2, h3, h4, h5, h6⟩
  · intro p e s m args below meth c s₁ B hml hP _
    have hh0 : s₁.heap = s.heap := by rw [B.state]; rfl
    obtain ⟨t, a1, o, b1, b2, b3⟩ := body p e s m args below meth c s₁ B hml hP s₁ hh0 (Stand.of_body B)
    exact ⟨t, o, a1, b1, b2, b3⟩
/-- the words that a throw asks -/
def x_ok (w : Cond) : Bool := decide (w ∈ wT) || (match w with
  | .castable a b => decide ((a, b) ∈ cas)
  | .declares y => decide (y ∈ dcl)
  | .laysStatic C n d => decide (C = "java/lang/Throwable" ∧ ((n = "UNASSIGNED_STACK" ∧ d = "[Ljava/lang/StackTraceElement;") ∨ (n = "SUPPRESSED_SENTINEL" ∧ d = "Ljava/util/List;")))
  | .isRef (.static C n d) => decide (C = "java/lang/Throwable" ∧ ((n = "UNASSIGNED_STACK" ∧ d = "[Ljava/lang/StackTraceElement;") ∨ (n = "SUPPRESSED_SENTINEL" ∧ d = "Ljava/util/List;")))
  | _ => false)
theorem x_ok_spec {args : Array Value} {s : State} (hts : ∀ w ∈ wT, w.before args s = true) (hx : Kx s) {w : Cond} (h : x_ok w = true) : w.before args s = true := by
  unfold x_ok at h
  rw [Bool.or_eq_true] at h
  rcases h with h | h
  · exact hts w (of_decide_eq_true h)
  · split at h
    · exact va_Nw.use rfl (hx.ca _ (of_decide_eq_true h))
    · exact va_Nw.use rfl (hx.de _ (of_decide_eq_true h))
    · obtain ⟨rfl, ⟨rfl, rfl⟩ | ⟨rfl, rfl⟩⟩ := of_decide_eq_true h
      · exact hx.zu.lays
      · exact hx.zs.lays
    · obtain ⟨rfl, ⟨rfl, rfl⟩ | ⟨rfl, rfl⟩⟩ := of_decide_eq_true h
      · exact hx.zu.isRef
      · exact hx.zs.isRef
    · cases h
section TH
variable {p : Program} {l : Launch} {e : Env} {R : Room} {s : State} {m : MethodId} {args : Array Value} {below : List Frame} {meth : Method} {c : Code} {H : Heap} {locs : List Loc} {cells slots : Nat} {Q : State → Prop}
variable {cc : ByteArray} {pc nL : Nat} {ls : Array Slot} {rest : List Value} {own : String} {D : va_G} {ct : Nat → ClassId} {A : Nat → Prop} {ws : va_W} {a : Nat}
/-- 'throw new E(text)' in a method that has changed nothing yet -/
theorem R_throw (C0 : Cx p s m args c cc nL own D ct) (htl : l.stackTraces = false) {cls tx : String} {names : List String} {ik is ic ix : Nat} {rx : ByteArray} (x0 : decode rx 0 = .ok (.aload_n 0, 1)) (x1 : decode rx 1 = .ok (.aload_n 1, 1)) (x2 : decode rx 2 = .ok (.invokespecial ix, 3)) (x5 : decode rx 5 = .ok (.return_, 1)) (hcls : Bundle.fit cls = true) (hnames : ∀ n ∈ names, Bundle.fit n = true) (hown : own = "NameForge")
    (hat : (ow_words "NameForge" ic cls ix rx names).all x_ok = true) (hkl : Cond.classLink own ik cls ∈ wT) (hini : Cond.initialized cls ∈ wT) (hins : Cond.instantiable cls 6 ∈ wT) (hstr : (is, tx) ∈ strs) (hls : ls.size = nL)
    (d0 : decode cc pc = .ok (.new ik, 3)) (d3 : decode cc (pc + 3) = .ok (.dup, 1)) (d4 : decode cc (pc + 4) = .ok (.ldc is, 2)) (d6 : decode cc (pc + 6) = .ok (.invokespecial ic, 3)) (d9 : decode cc (pc + 9) = .ok (.athrow, 1)) (hout : c.exceptionTable.isEmpty = true) (hlocks : meth.locks = false)
    (hRc : 1 ≤ R.cells) (hRs : 6 ≤ R.slots) (hRf : names.length + 3 < R.frames) (hRl : (rest.map fun v => v.category).sum + (13 * (names.length + 1) + 43) ≤ R.locals) : W p l e R s m args below meth c s.heap [] 0 0 (XQ below cls s) (F0 m pc ls rest) := by
  subst hown
  have hat' : ∀ w ∈ ow_words "NameForge" ic cls ix rx names, w.before args s = true := fun w hw => x_ok_spec C0.2.2.2.2.1 C0.2.2.2.2.2.2 (List.all_eq_true.mp hat w hw)
  refine W.newc C0.1 C0.2.1 C0.2.2.2.1 (C0.2.2.2.2.1 _ hkl) (C0.2.2.2.2.1 _ hins) (C0.2.2.2.2.1 _ hini) rfl d0 (by omega) (by omega) (fun cX kX hfX hkX hord hn6 => ?_)
  refine W.eq (g2 := F0 m (pc + 3) ls (.ref s.heap.size :: rest)) rfl ?_
  refine lv_dup C0.1 C0.2.1 d3 rfl ?_
  obtain ⟨sa, hsa⟩ := C0.2.2.2.2.2.2.str (is, tx) hstr
  refine va_ldcS (own := "NameForge") (tx := tx) (q := sa) C0.1 C0.2.1 C0.2.2.2.1 hsa d4 ?_
  intro T hT X
  have htr : e.platform.stackTraces = false := (show e.platform.stackTraces = l.stackTraces by rw [X.admits.platform]).trans htl
  have hcellA : T.heap[s.heap.size]? = some (freshCell cX kX) := by rw [hT]; simp [freshCell]
  obtain ⟨U, hsteps, hrun, hend, hW, hsame, -, -, ce, hce, hcc, hcv⟩ := ow_throw X C0.1 htr (fun x hx => nomatch hx) x0 x1 x2 x5 C0.2.2.2.1 hcls hnames hat' hfX hkX hcellA (Nat.le_refl _) (tx := .ref sa) rfl
    (g := F0 m (pc + 4 + 2) ls (.ref sa :: .ref s.heap.size :: .ref s.heap.size :: rest)) rfl (by rw [C0.2.2.1]; exact hls) rfl rfl (rest := rest) rfl (by rw [C0.2.1]; exact d6) (by rw [C0.2.1]; exact d9)
    (fun x hx => by rw [Array.isEmpty_iff.mp hout] at hx; cases hx) hRf (by have h9 : (Value.ref s.heap.size).category = 1 := rfl; have h8 : (F0 m (pc + 4 + 2) ls (.ref sa :: .ref s.heap.size :: .ref s.heap.size :: rest)).monitorRoom = 0 := rfl; simp only [List.map_cons, List.sum_cons, h9, h8]; omega) hlocks
  exact ⟨U, hsteps, .threw s.heap.size, hrun, hend, s.heap.size, ce, rfl, hce, hcv, by rw [hcc]; exact hfX, hW, hsame⟩
/-- the call of a method that throws, under a handler of the caller's -/
theorem R_catch (C0 : Cx p s m args c cc nL own D ct) (w : Wd D A s ws H locs) {b : Nat} (k : Nat) {ci : Nat} {fs : List Value} (he : ws[k]? = some (b, .inr (ci, fs))) {C : String} {T : u_T} {N : Nat} (hc : vCl[ci]? = some (C, T, N)) (isC : List Nat) {y : MethodName} {bytes : ByteArray} {maxL fr lo index n9 : Nat} {ret : Option FieldType} {As : List Value} {wc : va_W} {E : String} (hM : KX l D ct y bytes maxL ret fr lo (.ref b :: As) wc E) (hnC : va_nd isC = true) (hC : isC.map (fun i => ws[i]?) = wc.map some)
    (hcode : Cond.code y bytes maxL ret ∈ wT) (hlink : Cond.methodLink own index y ∈ wT) (hinst : Cond.instanceMethod y ∈ wT) (hsel : Cond.selects C y y ∈ wT) (hini : Cond.initialized y.cls ∈ wT)
    (hd : y.cls ≠ "java/lang/invoke/MethodHandle" ∧ y.cls ≠ "java/lang/invoke/VarHandle" ∧ (parseMethodDescriptor y.desc).map (fun d => d.parameters.length) = some n9) (hn9 : As.length = n9) (hR : fr + 1 ≤ R.frames ∧ 8 + (maxL + 11) + lo ≤ R.locals) (hls : ls.size = nL) {st0 : List Value} (hst : st0 = As.reverse ++ .ref b :: rest) (hrest : (rest.map fun v => v.category).sum ≤ 8) (hdg : decode cc pc = .ok (.invokevirtual index, 3)) (hcs : cells + 1 ≤ R.cells) (hss : slots + 6 ≤ R.slots)
    {pre suf : List ExceptionTableEntry} {x : ExceptionTableEntry} (hsplit : c.exceptionTable.toList = pre ++ x :: suf) (hpass : ∀ z ∈ pre, z.catchType ≠ 0 ∧ ∃ nm : String, Cond.classLink own z.catchType nm ∈ wT ∧ (E, nm) ∈ ncs) (hcov : covers x pc = true) (h0 : x.catchType ≠ 0) {nm : String} (hcl : Cond.classLink own x.catchType nm ∈ wT) (hcast : (E, nm) ∈ cas)
    (kk : ∀ (q : Nat) (H1 : Heap), Wd D A s ws H1 locs → W p l e R s m args below meth c H1 locs (cells + 1) (slots + 6) Q (F0 m x.handlerPc ls [.ref q])) : W p l e R s m args below meth c H locs cells slots Q (F0 m pc ls st0) := by
  subst hst
  have hts := C0.2.2.2.2.1
  have hcB : CallB R s args own index y bytes maxL ret (Cond.code y bytes maxL ret :: wT) { frames := fr, cells := 1, slots := 6, locals := lo } 1 6 n9 := cB_of (rm := { frames := fr, cells := 1, slots := 6, locals := lo }) C0 hcode hlink hini hd hR
  obtain ⟨-, -, -, -, hws, hcw, -, -, hy, hlen, -⟩ := hcB
  intro T1 hT X
  subst hT
  obtain ⟨cellB, hcellB, hnsB, hclsB⟩ := va_recv C0.2.2.2.2.2.1 w.1 hc he
  have hclsB : s.vm.findClass C = some cellB.cls := hclsB
  obtain ⟨mk, methM, hnamed, hmethM, hstM, habM⟩ := Cond.instanceMethod_spec (hts _ hinst)
  obtain ⟨methM', cM, hmethM', -, -, -, -, -, -, hsigM⟩ := Cond.code_spec hnamed (hts _ hcode)
  cases hmethM.symm.trans hmethM'
  obtain ⟨c2, r2, m2, q1, q2, q3, q4, kP, hkP, hkPi⟩ := Cond.selects_spec (hts _ hsel)
  cases hclsB.symm.trans q1
  cases (State.methodFound?_of_named hnamed hy).symm.trans q2
  cases hnamed.symm.trans q3
  have hselP : selectMethod e.platform s.vm cellB.cls mk = .method mk := by rw [Launch.admits_selectMethod X.admits]; exact q4
  obtain ⟨vm₁, X₁, hstep₁⟩ := X.invokevirtual C0.1 C0.2.2.2.1 (hts _ hlink) hnamed hmethM hstM hkP hkPi hy (a := b) (cell := cellB) hcellB (fun z h => by rw [h] at hnsB; cases hnsB) hselP hmethM habM hkP hkPi (g := F0 m pc ls (As.reverse ++ .ref b :: rest)) rfl (argsL := As) (rest := rest) (hn9.trans (hlen _ hsigM)) rfl (by rw [C0.2.1]; exact hdg)
  have hW₁ := X₁.warmed
  obtain ⟨v, L, B, XB, ⟨rfl, hsz, hold, ce, e6, e7, hcE⟩, hst1⟩ := ow_call X₁ (hM T1.heap.size) (bytes := bytes) (maxL := maxL) (ret := ret) (w := 8) (k0 := 1) (n0 := 6) (g := { F0 m pc ls (As.reverse ++ .ref b :: rest) with stack := rest }) rfl (hls.trans C0.2.2.1.symm) (by rw [C0.2.1]; exact hdg) (lv_room hrest) (X₁.named hnamed) (a := (Value.ref b :: As).toArray)
    (atoms_intro fun w hw => hws w hw _ _ hW₁) (hws _ hcw _ _ hW₁) (word_at hW₁ (good_of_word (wT_good _ hini)) (hts _ hini)) hR.1 hR.2 hcs hss (CP.blind _ _ _ _ ⟨rfl, CP.give C0.2.2.2.2.2.1 C0.2.2.2.2.2.2 w isC hnC hC rfl hW₁⟩)
    (E := fun q L H1 => L = [] ∧ T1.heap.size ≤ H1.size ∧ (∀ z : Nat, z < T1.heap.size → H1[z]? = T1.heap[z]?) ∧ ∃ ce : Cell, H1[q]? = some ce ∧ ce.vm = .none ∧ s.vm.findClass E = some ce.cls) (by
      rintro o t ⟨q, ce, ho, h1, h2, h3, h4, h5⟩
      refine ⟨q, [], ho, h4, h5, rfl, h5.2.1, fun z hz => ?_, ce, h1, h2, ?_⟩
      · obtain ⟨cz, hcz⟩ : ∃ cz, T1.heap[z]? = some cz := ⟨_, Array.getElem?_eq_getElem hz⟩
        obtain ⟨cz', g1, g2, g3, g4⟩ := h5.2.2.2.2.2 z cz hcz
        have hsl : cz'.slots = cz.slots := Array.ext_getElem? fun i => g4 i (fun hm => nomatch hm)
        have g1' : t.heap[z]? = some cz' := g1
        rw [g1', hcz, g2, hsl]
      · have h9 : (T1.setVm vm₁).vm.findClass E = some ce.cls := h3
        rwa [hW₁.alike.findClass] at h9)
  obtain ⟨c3, cT, hc3, hcT, hasg⟩ := Cond.castable_spec (va_Nw.use (A := args) rfl (C0.2.2.2.2.2.2.ca _ hcast))
  cases hcE.symm.trans hc3
  have hpl : e.platform.magicAccessors = ({} : Platform).magicAccessors := by rw [X.admits.platform]
  obtain ⟨cX, hcX, hlX⟩ := Cond.classLink_spec C0.2.2.2.1 (hts _ hcl) e.platform hpl
  cases hcT.symm.trans hcX
  obtain ⟨vm', XV, hst2⟩ := ow_caught XB v (g := { F0 m pc ls (As.reverse ++ .ref b :: rest) with stack := rest }) rfl e6 e7 (Vm.classAt_of_assignable hasg (Vm.classAt_of_findClass hcT)) hsplit (fun z hz => by
    obtain ⟨z0, nmz, hz1, hz2⟩ := hpass z hz
    obtain ⟨cz, hcz, hlz⟩ := Cond.classLink_spec C0.2.2.2.1 (hts _ hz1) e.platform hpl
    exact ⟨z0, cz, hlz, ow_no (C0.2.2.2.2.2.2.nc _ hz2) hcE hcz⟩) hcov h0 hlX hasg
  rw [List.append_nil] at XV
  obtain ⟨t, a1, b1⟩ := kk v B.heap (w.to (w.1.kept (fun k x hx => hold x.1 ((w.1 k x hx).lt))) w.2.1 ⟨Nat.le_trans w.2.2.1.1 hsz, fun x h1 h2 => (hold x (Nat.lt_of_lt_of_le h1 w.2.2.1.1)).trans (w.2.2.1.2.1 x h1 h2), w.2.2.1.2.2⟩) (B.setVm vm') rfl XV
  exact ⟨t, (hstep₁ _ (fun acts => by rw [doInvoke_state]; exact hst1)).trans (hst2.trans a1), b1⟩
end TH
end
section
/-! a method's contract out of its walk -/
section EN
variable {l : Launch} {D : va_G} {ct : Nat → ClassId} {y : MethodName} {bytes : ByteArray} {maxL : Nat} {ret : Option FieldType} {fr lo mc ms : Nat} {av : List Value} {wc w1 : va_W} {r0 : Int32}
theorem Cx.of {p : Program} {e : Env} {s s₁ : State} {m : MethodId} {args : Array Value} {below : List Frame} {meth : Method} {c : Code} {c0 : Cond} {rm : Room} (B : BodyLoose p l y (headSpec (c0 :: wT) rm) bytes maxL ret e s m args below meth c s₁) (hml : c.maxLocals = maxL) (hK : va_K D vCl (tyZ ct) s) (hx : Kx s) : Cx p s m args c bytes maxL y.cls D ct :=
  ⟨B.exec, B.bytes, hml, findClass_of_methodNamed B.named, fun w hw => atoms_spec (ws := c0 :: wT) B.pre w (List.mem_cons_of_mem _ hw), hK, hx⟩
theorem KR.ofW (hy : plainName y.cls = true) (hav : (lg_sl av).length ≤ maxL) {ty : FieldType} (hret : ret = some ty) (hnr : narrow ty (.int r0) = .int r0)
    (body : ∀ (p : Program) (e : Env) (s : State) (m : MethodId) (args : Array Value) (below : List Frame) (meth : Method) (c : Code) (A : Nat → Prop) (Q : State → Prop) (ls : Array Slot), Cx p s m args c bytes maxL y.cls D ct → lv_has ls maxL (lv_args 0 av) → Wd D A s wc s.heap [] →
      (∀ (pc : Nat) (ls : Array Slot), decode bytes pc = .ok (.ireturn, 1) → W p l e { frames := fr, cells := 0, slots := 0, locals := lo } s m args below meth c s.heap [] 0 0 Q (F0 m pc ls [.int r0])) →
      W p l e { frames := fr, cells := 0, slots := 0, locals := lo } s m args below meth c s.heap [] 0 0 Q (F0 m 0 ls [])) : KR l D ct y bytes maxL ret fr lo av wc r0 := by
  intro sz
  refine Met.ofW (cc := bytes) (maxL := maxL) (ret := ret) hy rfl ?_
  intro p e s m args below meth c s₁ B hml hv
  obtain ⟨rfl, rfl, hP, hK, hD, hx⟩ := hv
  have hr := B.returns
  have hlocks := B.notSynchronized
  rw [lg_entry_eq]
  exact body p e s m _ below meth c _ _ _ (Cx.of B hml hK hx) (lv_entry av hav) (Wd.start hP hD) (fun pc ls hdg => W.zret B.exec B.bytes (hr.trans hret) hnr (fun t ht _ => ⟨rfl, ht⟩) (fun q hq => nomatch hq) hdg)
theorem KI.ofW (hy : plainName y.cls = true) (hav : (lg_sl av).length ≤ maxL) {ty : FieldType} (hret : ret = some ty) (hnr : narrow ty (.int r0) = .int r0)
    (body : ∀ (p : Program) (e : Env) (s : State) (m : MethodId) (args : Array Value) (below : List Frame) (meth : Method) (c : Code) (A : Nat → Prop) (Q : State → Prop) (ls : Array Slot), Cx p s m args c bytes maxL y.cls D ct → lv_has ls maxL (lv_args 0 av) → Wd D A s wc s.heap [] →
      (∀ (pc : Nat) (ls : Array Slot) (H : Heap) (locs : List Loc), decode bytes pc = .ok (.ireturn, 1) → Wd D A s w1 H locs → W p l e { frames := fr, cells := 0, slots := 0, locals := lo } s m args below meth c H locs 0 0 Q (F0 m pc ls [.int r0])) →
      W p l e { frames := fr, cells := 0, slots := 0, locals := lo } s m args below meth c s.heap [] 0 0 Q (F0 m 0 ls [])) : KI l D ct y bytes maxL ret fr lo av wc r0 w1 := by
  intro sz
  refine Met.ofW (cc := bytes) (maxL := maxL) (ret := ret) hy rfl ?_
  intro p e s m args below meth c s₁ B hml hv
  obtain ⟨rfl, rfl, hP, hK, hD, hx⟩ := hv
  have hr := B.returns
  have hlocks := B.notSynchronized
  rw [lg_entry_eq]
  exact body p e s m _ below meth c _ _ _ (Cx.of B hml hK hx) (lv_entry av hav) (Wd.start hP hD) (fun pc ls H locs hdg w => W.zret B.exec B.bytes (hr.trans hret) hnr (fun t ht _ => ⟨⟨r0, (), rfl, rfl, by rw [ht]; exact w.1, w.2.1⟩, w.2.2.1.F ht⟩) w.2.2.1.2.2 hdg)
theorem KV.ofW {B0 : (Nat → Prop) → State → Prop} (hy : plainName y.cls = true) (hav : (lg_sl av).length ≤ maxL)
    (body : ∀ (p : Program) (e : Env) (s : State) (m : MethodId) (args : Array Value) (below : List Frame) (meth : Method) (c : Code) (A : Nat → Prop) (Q : State → Prop) (ls : Array Slot), Cx p s m args c bytes maxL y.cls D ct → meth.name = y.name → lv_has ls maxL (lv_args 0 av) → Wd D A s wc s.heap [] →
      (∀ (pc : Nat) (ls : Array Slot) (H : Heap) (locs : List Loc), decode bytes pc = .ok (.return_, 1) → va_S A s.heap H locs → (∀ t : State, t.heap = H → B0 A t) → W p l e { frames := fr, cells := mc, slots := ms, locals := lo } s m args below meth c H locs mc ms Q (F0 m pc ls [])) →
      W p l e { frames := fr, cells := mc, slots := ms, locals := lo } s m args below meth c s.heap [] 0 0 Q (F0 m 0 ls [])) : KV l D ct y bytes maxL fr lo mc ms av wc B0 := by
  intro sz
  refine Met.ofW (cc := bytes) (maxL := maxL) (ret := none) hy rfl ?_
  intro p e s m args below meth c s₁ B hml hv
  obtain ⟨rfl, rfl, hP, hK, hD, hx⟩ := hv
  have hr := B.returns
  have hlocks := B.notSynchronized
  rw [lg_entry_eq]
  exact body p e s m _ below meth c _ _ _ (Cx.of B hml hK hx) (name_of_methodNamed B.named B.method).1 (lv_entry av hav) (Wd.start hP hD) (fun pc ls H locs hdg hS hB => W.vret B.exec B.bytes hr (fun t ht _ => ⟨⟨(), rfl, trivial, hB t ht⟩, hS.F ht⟩) hS.2.2 hdg)
theorem KX.ofB {E : String} (hy : plainName y.cls = true) (hav : (lg_sl av).length ≤ maxL)
    (body : ∀ (p : Program) (e : Env) (s : State) (m : MethodId) (args : Array Value) (below : List Frame) (meth : Method) (c : Code) (A : Nat → Prop) (ls : Array Slot), Cx p s m args c bytes maxL y.cls D ct → c.exceptionTable.isEmpty = true → meth.locks = false → lv_has ls maxL (lv_args 0 av) → Wd D A s wc s.heap [] →
      W p l e { frames := fr, cells := 1, slots := 6, locals := lo } s m args below meth c s.heap [] 0 0 (XQ below E s) (F0 m 0 ls [])) : KX l D ct y bytes maxL ret fr lo av wc E := by
  intro sz
  refine KX.ofW (cc := bytes) (maxL := maxL) (ret := ret) hy rfl ?_
  intro p e s m args below meth c s₁ B hml hv
  obtain ⟨rfl, rfl, hP, hK, hD, hx⟩ := hv
  have hemp := B.noHandlers (atoms_spec (ws := Cond.code y bytes maxL ret :: wT) B.pre _ List.mem_cons_self)
  rw [lg_entry_eq]
  exact body p e s m _ below meth c _ _ (Cx.of B hml hK hx) hemp B.notSynchronized (lv_entry av hav) (Wd.start hP hD)
/-- a helper of the law: a method with handlers -/
def KH (l : Launch) (D : va_G) (ct : Nat → ClassId) (y : MethodName) (bytes : ByteArray) (maxL : Nat) (hh : List (Nat × Nat × Nat × Nat)) (fr lo : Nat) (av : List Value) (wc : va_W) (r0 : Int32) (w1 : va_W) : Prop :=
  ∀ sz : Nat, Met l y (Cond.codeWith y bytes maxL (some .int) hh :: wT) { frames := fr, cells := 1, slots := 6, locals := lo } (va_Pc av (CP D ct wc sz)) (va_Qi (fun r (_ : Unit) => r = r0) (fun _ t => CE D w1 (va_A wc sz) t) (va_A wc sz)) 1 6 (va_A wc sz)
theorem KH.ofW {hh : List (Nat × Nat × Nat × Nat)} (hy : plainName y.cls = true) (hav : (lg_sl av).length ≤ maxL)
    (body : ∀ (p : Program) (e : Env) (s : State) (m : MethodId) (args : Array Value) (below : List Frame) (meth : Method) (c : Code) (A : Nat → Prop) (Q : State → Prop) (ls : Array Slot), Cx p s m args c bytes maxL y.cls D ct → c.exceptionTable.toList.map (fun h => (h.startPc, h.endPc, h.handlerPc, h.catchType)) = hh → lv_has ls maxL (lv_args 0 av) → Wd D A s wc s.heap [] →
      (∀ (pc : Nat) (ls : Array Slot) (H : Heap) (locs : List Loc), decode bytes pc = .ok (.ireturn, 1) → Wd D A s w1 H locs → W p l e { frames := fr, cells := 1, slots := 6, locals := lo } s m args below meth c H locs 1 6 Q (F0 m pc ls [.int r0])) →
      W p l e { frames := fr, cells := 1, slots := 6, locals := lo } s m args below meth c s.heap [] 0 0 Q (F0 m 0 ls [])) : KH l D ct y bytes maxL hh fr lo av wc r0 w1 := by
  intro sz
  refine va_MetW (cc := bytes) (maxL := maxL) (ret := some .int) (hh := hh) hy rfl ?_
  intro p e s m args below meth c s₁ B hml hv
  obtain ⟨rfl, rfl, hP, hK, hD, hx⟩ := hv
  have hr := B.returns
  have hlocks := B.notSynchronized
  obtain ⟨m9, meth9, c9, hn9, h1, h2, -, -, htab, -⟩ := Cond.codeWith_spec (atoms_spec (ws := Cond.codeWith y bytes maxL (some .int) hh :: wT) B.pre _ List.mem_cons_self)
  cases B.named.symm.trans hn9
  cases B.method.symm.trans h1
  cases (Stand.of_body B).code.symm.trans h2
  rw [lg_entry_eq]
  exact body p e s m _ below meth c _ _ _ (Cx.of B hml hK hx) htab (lv_entry av hav) (Wd.start hP hD) (fun pc ls H locs hdg w => W.iret B.exec B.bytes hr (fun t ht _ => ⟨⟨r0, (), rfl, rfl, by rw [ht]; exact w.1, w.2.1⟩, w.2.2.1.F ht⟩) w.2.2.1.2.2 hdg)
end EN
section CH
variable {p : Program} {l : Launch} {e : Env} {R : Room} {s : State} {m : MethodId} {args : Array Value} {below : List Frame} {meth : Method} {c : Code} {H : Heap} {locs : List Loc} {cells slots : Nat} {Q : State → Prop}
variable {cc : ByteArray} {pc nL : Nat} {ls : Array Slot} {rest : List Value} {own : String} {D : va_G} {ct : Nat → ClassId} {A : Nat → Prop} {ws : va_W} {a : Nat}
variable {y : MethodName} {bytes : ByteArray} {maxL fr lo index n9 : Nat} {As : List Value} {wc wr w1 : va_W}
/-- the law calls a helper -/
theorem R_sh {hh : List (Nat × Nat × Nat × Nat)} (C0 : Cx p s m args c cc nL own D ct) (w : Wd D A s ws H locs) (isC isR : List Nat) {r0 : Int32} (hM : KH l D ct y bytes maxL hh fr lo As wc r0 w1) (hnC : va_nd isC = true) (hC : isC.map (fun i => ws[i]?) = wc.map some) (hnR : va_nd isR = true) (hRr : isR.map (fun i => ws[i]?) = wr.map some) (hdis : ∀ i ∈ isR, i ∉ isC) (hcode : Cond.codeWith y bytes maxL (some .int) hh ∈ wT) (hlink : Cond.methodLink own index y ∈ wT) (hstat : Cond.static y ∈ wT) (hini : Cond.initialized y.cls ∈ wT)
    (hd : y.cls ≠ "java/lang/invoke/MethodHandle" ∧ y.cls ≠ "java/lang/invoke/VarHandle" ∧ (parseMethodDescriptor y.desc).map (fun d => d.parameters.length) = some n9) (hn9 : As.length = n9) (hR : fr + 1 ≤ R.frames ∧ 8 + (maxL + 11) + lo ≤ R.locals) (hls : ls.size = nL) {st0 : List Value} (hst : st0 = As.reverse ++ rest) (hrest : (rest.map fun v => v.category).sum ≤ 8) (hdg : decode cc pc = .ok (.invokestatic index, 3)) (hcs : cells + 1 ≤ R.cells) (hss : slots + 6 ≤ R.slots)
    (kk : ∀ (H1 : Heap) (locs1 : List Loc), Wd D A s (wr ++ w1) H1 locs1 → W p l e R s m args below meth c H1 locs1 (cells + 1) (slots + 6) Q (F0 m (pc + 3) ls (.int r0 :: rest))) : W p l e R s m args below meth c H locs cells slots Q (F0 m pc ls st0) := by
  subst hst
  have hts := C0.2.2.2.2.1
  have hF := va_free (wc := wc) w.2.1 w.2.2.1 w.2.2.2.1 isC hC
  have hgood : GoodIn wT (Cond.codeWith y bytes maxL (some .int) hh :: wT) := gI (gI1 hcode)
  have hK : Back l R p e below s args y 3 8 (PreOf R 1 6 (va_Pc As (CP D ct wc H.size))) (PostOf (va_Qi (fun r (_ : Unit) => r = r0) (fun _ t => CE D w1 (va_A wc H.size) t) (va_A wc H.size)) 1 6 (va_A wc H.size)) :=
    va_backW (hh := hh) (bytes := bytes) (maxL := maxL) (ret := some .int) (hM H.size) CP.blind rfl rfl hR.1 hR.2 (pay_in hts hgood) List.mem_cons_self (fun a' U hW => word_at hW (good_of_word (wT_good _ hini)) (hts _ hini))
  have hrun : va_Run p l e R s m args below meth c H locs cells slots 1 6 (F0 m pc ls (As.reverse ++ rest)) rest (va_Qi (fun r (_ : Unit) => r = r0) (fun _ t => CE D w1 (va_A wc H.size) t) (va_A wc H.size) As.toArray) (va_A wc H.size) := by
    intro T hT X
    obtain ⟨mk, methM, cM, hnamed, hmethM, hcM, -, -, -, -, -, hsigM⟩ := Cond.codeWith_spec (hts _ hcode)
    have hstatic : methM.isStatic = true := Cond.static_spec hnamed hmethM (hts _ hstat)
    obtain ⟨kP, hkP, -⟩ := className_of_methodNamed hnamed
    have hinitP : kP.init = .initialized := Cond.initialized_spec (findClass_of_methodNamed hnamed) hkP (hts _ hini)
    have hlen : As.length = methM.sig.parameters.length := by
      have h2 := hd.2.2
      rw [hsigM] at h2
      exact hn9.trans (Option.some.inj h2).symm
    obtain ⟨vm₁, X₁, hstep₁⟩ := X.invokestatic C0.1 C0.2.2.2.1 (hts _ hlink) hnamed hmethM hstatic hkP hinitP ⟨hd.1, hd.2.1⟩ (g := F0 m pc ls (As.reverse ++ rest)) rfl (argsL := As) (rest := rest) hlen rfl (by rw [C0.2.1]; exact hdg)
    obtain ⟨v, ⟨U', l2, c2, s2⟩, X', ⟨g', mk', t, L, e1, e2, hq, h1, hL, h2, h3⟩, hsteps⟩ := hK m meth c ⟨T.setVm vm₁, locs, cells, slots⟩ { F0 m pc ls (As.reverse ++ rest) with stack := rest } (.invokestatic index) mk As.toArray X₁ rfl (hls.trans C0.2.2.1.symm) (by rw [C0.2.1]; exact hdg) (lv_room hrest) (X₁.named hnamed) ⟨hcs, hss, rfl, CP.give C0.2.2.2.2.2.1 C0.2.2.2.2.2.2 w isC hnC hC hT X₁.warmed⟩
    dsimp only [Pt.U, Pt.locs, Pt.cells, Pt.slots] at X' e1 e2 h1 h2 h3 hsteps
    subst h1; subst h2; subst h3
    exact ⟨v, (T.setVm vm₁).calling g' mk' As.toArray, t, U', L, hT, X', hL, e1, e2, hq, fun target h => hstep₁ _ fun acts => by rw [doInvoke_state]; exact hsteps.trans h⟩
  refine va_calli hrun w.2.2.1 (fun q _ h => hF q h) hF (fun r u t H1 locs1 ht hvm hr hB hz hk hS => ?_)
  subst hr
  obtain ⟨hP1, hD1⟩ := hB
  rw [ht] at hP1
  obtain ⟨hP, hD⟩ := va_join (wr := wr) (w1 := w1) w.1 w.2.1 isC isR hC hRr hnR hdis hk hF hP1 hD1
  exact kk H1 locs1 (w.to hP hD hS)
end CH
section SM
variable {p : Program} {l : Launch} {e : Env} {R : Room} {s : State} {m : MethodId} {args : Array Value} {below : List Frame} {meth : Method} {c : Code} {H : Heap} {locs : List Loc} {cells slots : Nat} {Q : State → Prop} {pc : Nat} {ls : Array Slot} {rest : List Value}
theorem lv_cst {x y : Int32} (h : x = y) (k : W p l e R s m args below meth c H locs cells slots Q (F0 m pc ls (.int y :: rest))) : W p l e R s m args below meth c H locs cells slots Q (F0 m pc ls (.int x :: rest)) := by
  rw [h]
  exact k
end SM
theorem vin {i : Int32} {n : Nat} (h : ¬ (i < 0 ∨ n ≤ i.toNatClampNeg)) : vp_in i n := h
abbrev tabF (h : ExceptionTableEntry) : Nat × Nat × Nat × Nat := (h.startPc, h.endPc, h.handlerPc, h.catchType)
theorem tab1 {L : List ExceptionTableEntry} {a : Nat × Nat × Nat × Nat} (h : L.map (fun h => (h.startPc, h.endPc, h.handlerPc, h.catchType)) = [a]) : ∃ z, tabF z = a ∧ L = [z] := by
  match L, h with
  | [z], h => exact ⟨z, (List.cons.inj h).1, rfl⟩
theorem tab2 {L : List ExceptionTableEntry} {a b : Nat × Nat × Nat × Nat} (h : L.map (fun h => (h.startPc, h.endPc, h.handlerPc, h.catchType)) = [a, b]) : ∃ z, tabF z = a ∧ ∃ z', tabF z' = b ∧ L = [z, z'] := by
  match L, h with
  | [z, z'], h => exact ⟨z, (List.cons.inj h).1, z', (List.cons.inj (List.cons.inj h).2).1, rfl⟩
theorem cov_eq {z : ExceptionTableEntry} {pc a b c d : Nat} (h : tabF z = (a, b, c, d)) : covers z pc = (decide (a ≤ pc) && decide (pc < b)) := by
  have h1 : z.startPc = a := congrArg Prod.fst h
  have h2 : z.endPc = b := congrArg (fun q => q.2.1) h
  show (decide (z.startPc ≤ pc) && decide (pc < z.endPc)) = _
  rw [h1, h2]
theorem ct_eq {z : ExceptionTableEntry} {a b c d : Nat} (h : tabF z = (a, b, c, d)) : z.catchType = d := congrArg (fun q => q.2.2.2) h
theorem hpc_eq {z : ExceptionTableEntry} {a b c d : Nat} (h : tabF z = (a, b, c, d)) : z.handlerPc = c := congrArg (fun q => q.2.2.1) h
theorem sp_out {k : Int32} (h0 : ¬ k = 0) (h1 : ¬ k = 1) (h2 : ¬ k = 2) : k.toInt < 0 ∨ 2 < k.toInt := by
  have a0 : k.toInt ≠ 0 := fun h => h0 (Int32.toInt_inj.mp (by rw [h]; decide))
  have a1 : k.toInt ≠ 1 := fun h => h1 (Int32.toInt_inj.mp (by rw [h]; decide))
  have a2 : k.toInt ≠ 2 := fun h => h2 (Int32.toInt_inj.mp (by rw [h]; decide))
  omega
theorem l6 {L : Nat} (h : L ≤ 6) (hc : ¬ (Int32.ofNat L - 6 < 0)) : L = 6 := by
  have h7 : L = 0 ∨ L = 1 ∨ L = 2 ∨ L = 3 ∨ L = 4 ∨ L = 5 ∨ L = 6 := by omega
  rcases h7 with rfl | rfl | rfl | rfl | rfl | rfl | rfl
  · exact absurd (by decide) hc
  · exact absurd (by decide) hc
  · exact absurd (by decide) hc
  · exact absurd (by decide) hc
  · exact absurd (by decide) hc
  · exact absurd (by decide) hc
  · rfl
theorem nz0 : narrow .boolean (.int 0) = .int 0 := by decide +kernel
theorem nz1 : narrow .boolean (.int 1) = .int 1 := by decide +kernel
theorem fz0 : fits .boolean (.int 0) = true := by decide +kernel
end
section
theorem at_IllegalArgumentException : (ow_words "NameForge" 92 "java/lang/IllegalArgumentException" ix_IllegalArgumentException rx_IllegalArgumentException up_IllegalArgumentException).all x_ok = true := by decide +kernel
theorem at_IllegalStateException : (ow_words "NameForge" 73 "java/lang/IllegalStateException" ix_IllegalStateException rx_IllegalStateException up_IllegalStateException).all x_ok = true := by decide +kernel
theorem at_NoSuchElementException : (ow_words "NameForge" 140 "java/util/NoSuchElementException" ix_NoSuchElementException rx_NoSuchElementException up_NoSuchElementException).all x_ok = true := by decide +kernel
end
section
/-! a side of the claim as ONE store: M k j, k a cell, j a place in it -/
abbrev Sto : Type := Nat → Nat → Int32
def up2 (M : Sto) (k j : Nat) (v : Int32) : Sto := fun a => if a = k then upd (M k) j v else M a
theorem up2_self (M : Sto) (k j : Nat) (v : Int32) : up2 M k j v k = upd (M k) j v := if_pos rfl
theorem up2_ne (M : Sto) {k a : Nat} (j : Nat) (v : Int32) (h : a ≠ k) : up2 M k j v a = M a := if_neg h
def fillA (M : Sto) (k n : Nat) (v : Int32) : Sto := fun a => if a = k then (fun j => if j < n then v else M k j) else M a
theorem fillA_self (M : Sto) (k n : Nat) (v : Int32) : fillA M k n v k = fun j => if j < n then v else M k j := if_pos rfl
theorem fillA_ne (M : Sto) {k a : Nat} (n : Nat) (v : Int32) (h : a ≠ k) : fillA M k n v a = M a := if_neg h
def ok (i : Int32) (n : Nat) : Bool := decide (¬ (i < 0 ∨ n ≤ i.toNatClampNeg))
theorem ok_in {i : Int32} {n : Nat} (h : ok i n = true) : vp_in i n := of_decide_eq_true (p := ¬ (i < 0 ∨ n ≤ i.toNatClampNeg)) h
theorem ok_lt {i : Int32} {n : Nat} (h : ok i n = true) : i.toNatClampNeg < n := Nat.not_le.mp fun q => ok_in h (Or.inr q)
def bz (v : Int32) : Bool := decide (v = 0 ∨ v = 1)
theorem bz_nar {v : Int32} (h : bz v = true) : narrow .boolean (.int v) = .int v := by
  rcases of_decide_eq_true h with rfl | rfl <;> decide +kernel
theorem bz_fit {v : Int32} (h : bz v = true) : fits .boolean (.int v) = true := by
  rcases of_decide_eq_true h with rfl | rfl <;> decide +kernel
theorem bz_vp {v : Int32} (h : bz v = true) : vp_nar .boolean v = v := by
  rcases of_decide_eq_true h with rfl | rfl <;> decide +kernel
def wr {α β : Type} (a : α) (f : α → β) : β := f a
theorem wr_ok {α β : Type} {a : α} {f : α → β} {z : β} (h : wr a f = z) : ∃ x, x = a ∧ f x = z := ⟨a, rfl, h⟩
theorem if_ok {β : Type} {b : Bool} {X : Option β} {z : β} (h : (if b = true then X else none) = some z) : b = true ∧ X = some z := by
  by_cases hb : b = true
  · rw [if_pos hb] at h; exact ⟨hb, h⟩
  · rw [if_neg hb] at h; cases h
theorem nz_ok {β : Type} {y : Int32} {X : Option β} {z : β} (h : (if y = 0 then none else X) = some z) : ¬ y = 0 ∧ X = some z := by
  by_cases hb : y = 0
  · rw [if_pos hb] at h; cases h
  · rw [if_neg hb] at h; exact ⟨hb, h⟩
theorem bind_ok {β : Type} {o : Option (Int32 × Sto)} {f : Int32 × Sto → Option β} {z : β} (h : o.bind f = some z) : ∃ (r : Int32) (M : Sto), o = some (r, M) ∧ f (r, M) = some z := by
  cases o with
  | none => cases h
  | some x => exact ⟨x.1, x.2, rfl, h⟩
theorem inc1 (x : Int32) : x + Int32.ofInt 1 = x + 1 := by rw [show Int32.ofInt 1 = 1 by decide]
theorem dec1 (x : Int32) : x + Int32.ofInt (-1) = x + (-1) := by rw [show Int32.ofInt (-1) = -1 by decide]
def FU : Nat := 4096
/-! worlds -/
abbrev Cf : Type := (Nat → Nat) → Sto → Nat → va_E
def wU (n : Nat) (cf : Cf) (q : Nat → Nat) (M : Sto) : va_W := (List.range n).map fun k => (q k, cf q M k)
theorem wU_len (n : Nat) (cf : Cf) (q : Nat → Nat) (M : Sto) : (wU n cf q M).length = n := by simp [wU]
theorem wU_at {n : Nat} {cf : Cf} {q : Nat → Nat} {M : Sto} {k : Nat} (hk : k < n) : (wU n cf q M)[k]? = some (q k, cf q M k) := by
  unfold wU
  rw [List.getElem?_map, List.getElem?_range hk]
  rfl
def cfl (cf : Cf) : Prop := ∀ (q : Nat → Nat) (M M' : Sto) (k : Nat), M' k = M k → cf q M' k = cf q M k
theorem wU_set {n : Nat} {cf : Cf} {q : Nat → Nat} {M M' : Sto} {k : Nat} {e : va_E} (hk : k < n) (hl : cfl cf) (he : cf q M' k = e) (hM : ∀ a, a ≠ k → M' a = M a) : (wU n cf q M).set k (q k, e) = wU n cf q M' := by
  subst he
  apply List.ext_getElem?
  intro j
  by_cases hj : j = k
  · subst hj
    rw [List.getElem?_set_self (by rw [wU_len]; exact hk), wU_at hk]
  · rw [List.getElem?_set_ne (Ne.symm hj)]
    by_cases hn : j < n
    · rw [wU_at hn, wU_at hn, hl q M M' j (hM j hj)]
    · rw [List.getElem?_eq_none (by rw [wU_len]; omega), List.getElem?_eq_none (by rw [wU_len]; omega)]
def isI (n : Nat) (cf : Cf) (cA : ClassId) (k N : Nat) : Prop := k < n ∧ ∀ (q : Nat → Nat) (M : Sto), cf q M k = .inl (cA, N, .inl (M k))
def isG (n : Nat) (cf : Cf) (cA : ClassId) (k b : Nat) : Prop := k < n ∧ ∀ (q : Nat → Nat) (M : Sto), cf q M k = .inl (cA, 10, .inr (.inr (.inr (.inr (fun i => if i < 10 then some (q (b + i)) else none)))))
section URows
variable {p : Program} {l : Launch} {e : Env} {R : Room} {s : State} {m : MethodId} {args : Array Value} {below : List Frame} {meth : Method} {c : Code} {H : Heap} {locs : List Loc} {cells slots : Nat} {Q : State → Prop}
variable {cc : ByteArray} {pc nL n : Nat} {ls : Array Slot} {rest : List Value} {own : String} {D : va_G} {ct : Nat → ClassId} {A : Nat → Prop} {cf : Cf} {q : Nat → Nat} {M M2 : Sto}
theorem Wd.up {k : Nat} {E : va_E} {H1 : Heap} {locs1 : List Loc} (w : Wd D A s (wU n cf q M) H locs) (hl : cfl cf) (hk : k < n) (he : cf q M2 k = E) (hM : ∀ a, a ≠ k → M2 a = M a)
    (hP : va_P D vCl ((wU n cf q M).set k (q k, E)) H1) (hD : va_D A ((wU n cf q M).set k (q k, E))) (hs : va_S A s.heap H1 locs1) : Wd D A s (wU n cf q M2) H1 locs1 := by
  have hw := wU_set (M' := M2) hk hl he hM
  rw [hw] at hP hD
  exact w.to hP hD hs
theorem U_ald (C0 : Cx p s m args c cc nL own D ct) (w : Wd D A s (wU n cf q M) H locs) {k N : Nat} (hI : isI n cf (ct 0) k N) {i : Int32} (hi : ok i N = true) (hdg : decode cc pc = .ok (.iaload, 1))
    (kk : W p l e R s m args below meth c H locs cells slots Q (F0 m (pc + 1) ls (.int (M k i.toNatClampNeg) :: rest))) : W p l e R s m args below meth c H locs cells slots Q (F0 m pc ls (.int i :: .ref (q k) :: rest)) :=
  va_iald C0.1 C0.2.1 C0.2.2.2.2.2.1 w.1 k 0 (by rw [wU_at hI.1, hI.2]) rfl (ok_in hi) hdg kk
theorem U_zld (C0 : Cx p s m args c cc nL own D ct) (w : Wd D A s (wU n cf q M) H locs) {k N : Nat} (hI : isI n cf (ct 1) k N) {i : Int32} (hi : ok i N = true) (hdg : decode cc pc = .ok (.baload, 1))
    (kk : W p l e R s m args below meth c H locs cells slots Q (F0 m (pc + 1) ls (.int (M k i.toNatClampNeg) :: rest))) : W p l e R s m args below meth c H locs cells slots Q (F0 m pc ls (.int i :: .ref (q k) :: rest)) :=
  va_zald C0.1 C0.2.1 C0.2.2.2.2.2.1 w.1 k 1 (by rw [wU_at hI.1, hI.2]) rfl (ok_in hi) hdg kk
theorem U_ast (C0 : Cx p s m args c cc nL own D ct) (hcf : cfl cf) (w : Wd D A s (wU n cf q M) H locs) {k N : Nat} (hI : isI n cf (ct 0) k N) {i x : Int32} (hi : ok i N = true) (hdg : decode cc pc = .ok (.iastore, 1)) (hM : M2 = up2 M k i.toNatClampNeg x)
    (kk : ∀ (H1 : Heap) (locs1 : List Loc), Wd D A s (wU n cf q M2) H1 locs1 → W p l e R s m args below meth c H1 locs1 cells slots Q (F0 m (pc + 1) ls rest)) : W p l e R s m args below meth c H locs cells slots Q (F0 m pc ls (.int x :: .int i :: .ref (q k) :: rest)) := by
  refine va_iast C0.1 C0.2.1 C0.2.2.2.2.2.1 w.1 w.2.1 w.2.2.1 k 0 (by rw [wU_at hI.1, hI.2]) rfl (ok_in hi) hdg (fun H1 locs1 hP hD hs => kk H1 locs1 ?_)
  subst hM
  exact w.up hcf hI.1 (by rw [hI.2, up2_self]) (fun a ha => up2_ne M _ _ ha) hP hD hs
theorem U_zst (C0 : Cx p s m args c cc nL own D ct) (hcf : cfl cf) (w : Wd D A s (wU n cf q M) H locs) {k N : Nat} (hI : isI n cf (ct 1) k N) {i x : Int32} (hi : ok i N = true) (hz : bz x = true) (hdg : decode cc pc = .ok (.bastore, 1)) (hM : M2 = up2 M k i.toNatClampNeg x)
    (kk : ∀ (H1 : Heap) (locs1 : List Loc), Wd D A s (wU n cf q M2) H1 locs1 → W p l e R s m args below meth c H1 locs1 cells slots Q (F0 m (pc + 1) ls rest)) : W p l e R s m args below meth c H locs cells slots Q (F0 m pc ls (.int x :: .int i :: .ref (q k) :: rest)) := by
  refine va_zast C0.1 C0.2.1 C0.2.2.2.2.2.1 w.1 w.2.1 w.2.2.1 k 1 (by rw [wU_at hI.1, hI.2]) rfl (ok_in hi) hdg (fun H1 locs1 hP hD hs => kk H1 locs1 ?_)
  subst hM
  exact w.up hcf hI.1 (by rw [hI.2, up2_self, bz_vp hz]) (fun a ha => up2_ne M _ _ ha) hP hD hs
theorem U_gld (C0 : Cx p s m args c cc nL own D ct) (w : Wd D A s (wU n cf q M) H locs) {k b : Nat} (hI : isG n cf (ct 3) k b) {i : Int32} (hi : ok i 10 = true) (hdg : decode cc pc = .ok (.aaload, 1))
    (kk : W p l e R s m args below meth c H locs cells slots Q (F0 m (pc + 1) ls (.ref (q (b + i.toNatClampNeg)) :: rest))) : W p l e R s m args below meth c H locs cells slots Q (F0 m pc ls (.int i :: .ref (q k) :: rest)) := by
  have hK := C0.2.2.2.2.2.1
  have hlt : i.toNatClampNeg < 10 := ok_lt hi
  have ha := w.1 k (q k, _) (by rw [wU_at hI.1, hI.2])
  exact W.aald (v := .ref (q (b + i.toNatClampNeg))) (ty := .array .int) C0.1 C0.2.1 ha ((hK.2 3 _ rfl).1 10 (fun j => va_rf (if j < 10 then some (q (b + j)) else none))) rfl (fun z => by cases z) (by show ¬ (i < 0 ∨ (arrV _ _ _).slots.size ≤ _); rw [arrV_size]; exact ok_in hi) (by show (arrV _ _ _).slots[_]? = _; rw [arrV_read _ _ hlt]; simp [hlt, va_rf]) rfl rfl hdg kk
theorem U_get (C0 : Cx p s m args c cc nL own D ct) (w : Wd D A s (wU n cf q M) H locs) (k : Nat) (hk : k < n) {ci : Nat} {fs : List Value} (he : cf q M k = .inr (ci, fs)) {C : String} {T : u_T} {N : Nat} (hc : vCl[ci]? = some (C, T, N)) (hin : ∀ w ∈ u_ws C T N, w ∈ wT) (j : Nat) (hj : j < N) {index : Nat} (hlink : Cond.fieldLink own index (T j).1 (T j).2.1 (T j).2.2.1 ∈ wT) {v : Value} (hv : fs[j]? = some v) (hdg : decode cc pc = .ok (.getfield index, 3))
    (kk : W p l e R s m args below meth c H locs cells slots Q (F0 m (pc + 3) ls (v :: rest))) : W p l e R s m args below meth c H locs cells slots Q (F0 m pc ls (.ref (q k) :: rest)) :=
  R_get C0 w k (by rw [wU_at hk, he]) hc hin j hj hlink hv hdg kk
theorem U_put (C0 : Cx p s m args c cc nL own D ct) (hcf : cfl cf) (w : Wd D A s (wU n cf q M) H locs) (k : Nat) (hk : k < n) {ci : Nat} {fs : List Value} (he : cf q M k = .inr (ci, fs)) {C : String} {T : u_T} {N : Nat} (hc : vCl[ci]? = some (C, T, N)) (hin : ∀ w ∈ u_ws C T N, w ∈ wT) {ty0 : Nat → FieldType} (hty : ∀ k, k < N → parseFieldDescriptor (T k).2.2.1 = some (ty0 k)) (hnm : ∀ a, a < N → ∀ b, b < N → a ≠ b → (T a).2.1 ≠ (T b).2.1) (j : Nat) (hj : j < N) {index : Nat} (hlink : Cond.fieldLink own index (T j).1 (T j).2.1 (T j).2.2.1 ∈ wT) (hfin : (T j).2.2.2 = false) {v : Int32} (hn : narrow (ty0 j) (.int v) = .int v) (hfit : fits (ty0 j) (.int v) = true) (hl : j < fs.length) (hdg : decode cc pc = .ok (.putfield index, 3)) (hM : M2 = up2 M k j v) (he2 : cf q (up2 M k j v) k = .inr (ci, fs.set j (.int v)))
    (kk : ∀ (H1 : Heap) (locs1 : List Loc), Wd D A s (wU n cf q M2) H1 locs1 → W p l e R s m args below meth c H1 locs1 cells slots Q (F0 m (pc + 3) ls rest)) : W p l e R s m args below meth c H locs cells slots Q (F0 m pc ls (.int v :: .ref (q k) :: rest)) := by
  subst hM
  exact va_put (C := C) (T := T) (N := N) (ty := ty0 j) C0.1 C0.2.1 C0.2.2.2.2.1 hin ty0 hty hnm C0.2.2.2.1 C0.2.2.2.2.2.1 w.1 w.2.1 w.2.2.1 k (by rw [wU_at hk, he]) hc j hj (C0.2.2.2.2.1 _ hlink) (fun _ h => h) hfin (hty j hj) hn hfit hl hdg (fun H1 locs1 hP hD hs => kk H1 locs1 (w.up hcf hk he2 (fun a ha => up2_ne M _ _ ha) hP hD hs))
/-! calls: the callee has the caller's whole world -/
variable {y : MethodName} {bytes : ByteArray} {maxL fr lo index n9 : Nat} {ret : Option FieldType} {As : List Value} {ws w1 : va_W}
theorem CP.all {U : State} (hK : va_K D vCl (tyZ ct) s) (hx : Kx s) (w : Wd D A s ws H locs) (hU : U.heap = H) (hW : s.WarmedH U.vm) : CP D ct ws H.size U :=
  ⟨by rw [hU], by rw [hU]; exact w.1, va_K.moved hW.alike hK, w.2.1.weaken (fun _ _ _ _ => trivial), hx.at hW (by rw [hU]; exact w.st)⟩
theorem Wd.fre (w : Wd D A s ws H locs) : ∀ q, va_A ws H.size q → A q := fun q h => by
  rcases h with ⟨k, e, h⟩ | h
  · exact w.2.1.2 k (q, e) h
  · exact w.2.2.2.1 q (Nat.le_trans w.2.2.1.1 h)
theorem U_vi (C0 : Cx p s m args c cc nL own D ct) (w : Wd D A s ws H locs) {b : Nat} (k : Nat) {ci : Nat} {fs : List Value} (he : ws[k]? = some (b, .inr (ci, fs))) {C : String} {T : u_T} {N : Nat} (hc : vCl[ci]? = some (C, T, N)) {r0 : Int32} (hM : KI l D ct y bytes maxL ret fr lo (.ref b :: As) ws r0 w1) (hcode : Cond.code y bytes maxL ret ∈ wT) (hlink : Cond.methodLink own index y ∈ wT) (hinst : Cond.instanceMethod y ∈ wT) (hsel : Cond.selects C y y ∈ wT) (hini : Cond.initialized y.cls ∈ wT)
    (hd : y.cls ≠ "java/lang/invoke/MethodHandle" ∧ y.cls ≠ "java/lang/invoke/VarHandle" ∧ (parseMethodDescriptor y.desc).map (fun d => d.parameters.length) = some n9) (hn9 : As.length = n9) (hR : fr + 1 ≤ R.frames ∧ 8 + (maxL + 11) + lo ≤ R.locals) (hls : ls.size = nL) {st0 : List Value} (hst : st0 = As.reverse ++ .ref b :: rest) (hrest : (rest.map fun v => v.category).sum ≤ 8) (hdg : decode cc pc = .ok (.invokevirtual index, 3)) (hcs : cells ≤ R.cells) (hss : slots ≤ R.slots)
    (kk : ∀ (H1 : Heap) (locs1 : List Loc), Wd D A s w1 H1 locs1 → W p l e R s m args below meth c H1 locs1 cells slots Q (F0 m (pc + 3) ls (.int r0 :: rest))) : W p l e R s m args below meth c H locs cells slots Q (F0 m pc ls st0) := by
  subst hst
  refine va_calli (va_runV (rest := rest) ⟨C0.1, C0.2.1, C0.2.2.1, C0.2.2.2.1, C0.2.2.2.2.1⟩ (hM H.size) ⟨cB_of C0 hcode hlink hini hd hR, C0.2.2.2.2.1 _ hinst, C0.2.2.2.2.1 _ hsel⟩ ⟨CP.blind, va_recv C0.2.2.2.2.2.1 w.1 hc he, fun U hU hW => ⟨rfl, CP.all C0.2.2.2.2.2.1 C0.2.2.2.2.2.2 w hU hW⟩⟩ rfl hn9 hls rfl (lv_room hrest) hdg ⟨hcs, hss⟩) w.2.2.1 (fun q _ h => w.fre q h) w.fre (fun r u t H1 locs1 ht hvm hr hB hz hk hS => ?_)
  subst hr
  obtain ⟨hP1, hD1⟩ := hB
  rw [ht] at hP1
  exact kk H1 locs1 (w.to hP1 (hD1.weaken (fun _ q _ h => w.fre q.1 h)) hS)
theorem U_vv (C0 : Cx p s m args c cc nL own D ct) (w : Wd D A s ws H locs) {b : Nat} (k : Nat) {ci : Nat} {fs : List Value} (he : ws[k]? = some (b, .inr (ci, fs))) {C : String} {T : u_T} {N : Nat} (hc : vCl[ci]? = some (C, T, N)) (hM : KV l D ct y bytes maxL fr lo 0 0 (.ref b :: As) ws (fun A t => CE D w1 A t)) (hcode : Cond.code y bytes maxL none ∈ wT) (hlink : Cond.methodLink own index y ∈ wT) (hinst : Cond.instanceMethod y ∈ wT) (hsel : Cond.selects C y y ∈ wT) (hini : Cond.initialized y.cls ∈ wT)
    (hd : y.cls ≠ "java/lang/invoke/MethodHandle" ∧ y.cls ≠ "java/lang/invoke/VarHandle" ∧ (parseMethodDescriptor y.desc).map (fun d => d.parameters.length) = some n9) (hn9 : As.length = n9) (hR : fr + 1 ≤ R.frames ∧ 8 + (maxL + 11) + lo ≤ R.locals) (hls : ls.size = nL) {st0 : List Value} (hst : st0 = As.reverse ++ .ref b :: rest) (hrest : (rest.map fun v => v.category).sum ≤ 8) (hdg : decode cc pc = .ok (.invokevirtual index, 3)) (hcs : cells ≤ R.cells) (hss : slots ≤ R.slots)
    (kk : ∀ (H1 : Heap) (locs1 : List Loc), Wd D A s w1 H1 locs1 → W p l e R s m args below meth c H1 locs1 cells slots Q (F0 m (pc + 3) ls rest)) : W p l e R s m args below meth c H locs cells slots Q (F0 m pc ls st0) := by
  subst hst
  refine va_callv (va_runV (rest := rest) ⟨C0.1, C0.2.1, C0.2.2.1, C0.2.2.2.1, C0.2.2.2.2.1⟩ (hM H.size) ⟨cB_of C0 hcode hlink hini hd hR, C0.2.2.2.2.1 _ hinst, C0.2.2.2.2.1 _ hsel⟩ ⟨CP.blind, va_recv C0.2.2.2.2.2.1 w.1 hc he, fun U hU hW => ⟨rfl, CP.all C0.2.2.2.2.2.1 C0.2.2.2.2.2.2 w hU hW⟩⟩ rfl hn9 hls rfl (lv_room hrest) hdg ⟨hcs, hss⟩) w.2.2.1 (fun q _ h => w.fre q h) w.fre (fun u t H1 locs1 ht hvm hr hB hz hk hS => ?_)
  obtain ⟨hP1, hD1⟩ := hB
  rw [ht] at hP1
  exact kk H1 locs1 (w.to hP1 (hD1.weaken (fun _ q _ h => w.fre q.1 h)) hS)
theorem U_si (C0 : Cx p s m args c cc nL own D ct) (w : Wd D A s ws H locs) {r0 : Int32} (hM : KI l D ct y bytes maxL ret fr lo As ws r0 w1) (hcode : Cond.code y bytes maxL ret ∈ wT) (hlink : Cond.methodLink own index y ∈ wT) (hstat : Cond.static y ∈ wT) (hini : Cond.initialized y.cls ∈ wT)
    (hd : y.cls ≠ "java/lang/invoke/MethodHandle" ∧ y.cls ≠ "java/lang/invoke/VarHandle" ∧ (parseMethodDescriptor y.desc).map (fun d => d.parameters.length) = some n9) (hn9 : As.length = n9) (hR : fr + 1 ≤ R.frames ∧ 8 + (maxL + 11) + lo ≤ R.locals) (hls : ls.size = nL) {st0 : List Value} (hst : st0 = As.reverse ++ rest) (hrest : (rest.map fun v => v.category).sum ≤ 8) (hdg : decode cc pc = .ok (.invokestatic index, 3)) (hcs : cells ≤ R.cells) (hss : slots ≤ R.slots)
    (kk : ∀ (H1 : Heap) (locs1 : List Loc), Wd D A s w1 H1 locs1 → W p l e R s m args below meth c H1 locs1 cells slots Q (F0 m (pc + 3) ls (.int r0 :: rest))) : W p l e R s m args below meth c H locs cells slots Q (F0 m pc ls st0) := by
  subst hst
  refine va_calli (va_runS (rest := rest) ⟨C0.1, C0.2.1, C0.2.2.1, C0.2.2.2.1, C0.2.2.2.2.1⟩ (hM H.size) ⟨cB_of C0 hcode hlink hini hd hR, C0.2.2.2.2.1 _ hstat⟩ ⟨CP.blind, fun U hU hW => ⟨rfl, CP.all C0.2.2.2.2.2.1 C0.2.2.2.2.2.2 w hU hW⟩⟩ rfl hn9 hls rfl (lv_room hrest) hdg ⟨hcs, hss⟩) w.2.2.1 (fun q _ h => w.fre q h) w.fre (fun r u t H1 locs1 ht hvm hr hB hz hk hS => ?_)
  subst hr
  obtain ⟨hP1, hD1⟩ := hB
  rw [ht] at hP1
  exact kk H1 locs1 (w.to hP1 (hD1.weaken (fun _ q _ h => w.fre q.1 h)) hS)
/-- across the nest -/
theorem U_siN (C0 : Cx p s m args c cc nL own D ct) (w : Wd D A s ws H locs) {r0 : Int32} (hM : KI l D ct y bytes maxL ret fr lo As ws r0 w1) (hcode : Cond.code y bytes maxL ret ∈ wT) {host : String} (hlink : va_Nw (.methodLinkNest own index y host) s) (hstat : Cond.static y ∈ wT) (hini : Cond.initialized y.cls ∈ wT)
    (hd : y.cls ≠ "java/lang/invoke/MethodHandle" ∧ y.cls ≠ "java/lang/invoke/VarHandle" ∧ (parseMethodDescriptor y.desc).map (fun d => d.parameters.length) = some n9) (hn9 : As.length = n9) (hR : fr + 1 ≤ R.frames ∧ 8 + (maxL + 11) + lo ≤ R.locals) (hls : ls.size = nL) {st0 : List Value} (hst : st0 = As.reverse ++ rest) (hrest : (rest.map fun v => v.category).sum ≤ 8) (hdg : decode cc pc = .ok (.invokestatic index, 3)) (hcs : cells ≤ R.cells) (hss : slots ≤ R.slots)
    (kk : ∀ (H1 : Heap) (locs1 : List Loc), Wd D A s w1 H1 locs1 → W p l e R s m args below meth c H1 locs1 cells slots Q (F0 m (pc + 3) ls (.int r0 :: rest))) : W p l e R s m args below meth c H locs cells slots Q (F0 m pc ls st0) := by
  subst hst
  refine va_calli (va_runSN (rest := rest) (host := host) (Ts := wT) ⟨C0.1, C0.2.1, C0.2.2.1, C0.2.2.2.1, C0.2.2.2.2.1⟩ (hM H.size) ⟨va_cnB n9 C0.2.2.2.2.1 (gI (gI1 hcode)) rfl rfl rfl hlink (C0.2.2.2.2.1 _ hini) hd hR, C0.2.2.2.2.1 _ hstat, trivial⟩ ⟨CP.blind, fun U hU hW => ⟨rfl, CP.all C0.2.2.2.2.2.1 C0.2.2.2.2.2.2 w hU hW⟩⟩ rfl hn9 hls rfl (lv_room hrest) hdg ⟨hcs, hss⟩) w.2.2.1 (fun q _ h => w.fre q h) w.fre (fun r u t H1 locs1 ht hvm hr hB hz hk hS => ?_)
  subst hr
  obtain ⟨hP1, hD1⟩ := hB
  rw [ht] at hP1
  exact kk H1 locs1 (w.to hP1 (hD1.weaken (fun _ q _ h => w.fre q.1 h)) hS)
end URows
section UEnter
variable {l : Launch} {D : va_G} {ct : Nat → ClassId} {y : MethodName} {bytes : ByteArray} {maxL : Nat} {ret : Option FieldType} {fr lo : Nat} {av : List Value} {wc w1 : va_W} {r0 : Int32}
/-- as KI.ofW; what the answer's type asks is said at the return -/
theorem KI.ofU (hy : plainName y.cls = true) (hav : (lg_sl av).length ≤ maxL) {ty : FieldType} (hret : ret = some ty)
    (body : ∀ (p : Program) (e : Env) (s : State) (m : MethodId) (args : Array Value) (below : List Frame) (meth : Method) (c : Code) (A : Nat → Prop) (Q : State → Prop) (ls : Array Slot), Cx p s m args c bytes maxL y.cls D ct → lv_has ls maxL (lv_args 0 av) → Wd D A s wc s.heap [] →
      (∀ (pc : Nat) (ls : Array Slot) (H : Heap) (locs : List Loc), decode bytes pc = .ok (.ireturn, 1) → narrow ty (.int r0) = .int r0 → Wd D A s w1 H locs → W p l e { frames := fr, cells := 0, slots := 0, locals := lo } s m args below meth c H locs 0 0 Q (F0 m pc ls [.int r0])) →
      W p l e { frames := fr, cells := 0, slots := 0, locals := lo } s m args below meth c s.heap [] 0 0 Q (F0 m 0 ls [])) : KI l D ct y bytes maxL ret fr lo av wc r0 w1 := by
  intro sz
  refine Met.ofW (cc := bytes) (maxL := maxL) (ret := ret) hy rfl ?_
  intro p e s m args below meth c s₁ B hml hv
  obtain ⟨rfl, rfl, hP, hK, hD, hx⟩ := hv
  have hr := B.returns
  have hlocks := B.notSynchronized
  rw [lg_entry_eq]
  exact body p e s m _ below meth c _ _ _ (Cx.of B hml hK hx) (lv_entry av hav) (Wd.start hP hD) (fun pc ls H locs hdg hnr w => W.zret B.exec B.bytes (hr.trans hret) hnr (fun t ht _ => ⟨⟨r0, (), rfl, rfl, by rw [ht]; exact w.1, w.2.1⟩, w.2.2.1.F ht⟩) w.2.2.1.2.2 hdg)
theorem KV.ofU (hy : plainName y.cls = true) (hav : (lg_sl av).length ≤ maxL)
    (body : ∀ (p : Program) (e : Env) (s : State) (m : MethodId) (args : Array Value) (below : List Frame) (meth : Method) (c : Code) (A : Nat → Prop) (Q : State → Prop) (ls : Array Slot), Cx p s m args c bytes maxL y.cls D ct → lv_has ls maxL (lv_args 0 av) → Wd D A s wc s.heap [] →
      (∀ (pc : Nat) (ls : Array Slot) (H : Heap) (locs : List Loc), decode bytes pc = .ok (.return_, 1) → Wd D A s w1 H locs → W p l e { frames := fr, cells := 0, slots := 0, locals := lo } s m args below meth c H locs 0 0 Q (F0 m pc ls [])) →
      W p l e { frames := fr, cells := 0, slots := 0, locals := lo } s m args below meth c s.heap [] 0 0 Q (F0 m 0 ls [])) : KV l D ct y bytes maxL fr lo 0 0 av wc (fun A t => CE D w1 A t) :=
  KV.ofW hy hav (fun p e s m args below meth c A Q ls C0 _ hl w hret => body p e s m args below meth c A Q ls C0 hl w (fun pc ls H locs hdg w2 => hret pc ls H locs hdg w2.2.2.1 (fun t ht => ⟨by rw [ht]; exact w2.1, w2.2.1⟩)))
end UEnter
end
section
def lensX : List Nat := [10, 10, 10, 10, 10, 10, 10, 10, 10, 10, 10, 10, 10, 10, 126, 126, 126, 10, 126, 126, 126, 126, 16, 6, 126, 6, 40]
def cX (ct : Nat → ClassId) : Cf := fun q M k => if 43 ≤ k then .inl (ct 0, 6, .inl (M k)) else if 34 ≤ k then .inl (ct 3, 10, .inr (.inr (.inr (.inr (fun i => if i < 10 then some (q (43 + 10 * (k - 34) + i)) else none))))) else if 7 ≤ k then .inl (if k = 27 then ct 1 else ct 0, lensX.getD (k - 7) 0, .inl (M k)) else if k = 0 then .inr (0, [.ref (q 1), .ref (q 2), .ref (q 3), .ref (q 4), .ref (q 5), .ref (q 6), .int (M k 6)]) else if k = 1 then .inr (1, [.int (M k 0), .ref (q 7), .ref (q 34), .ref (q 35), .ref (q 36), .ref (q 37), .ref (q 8), .ref (q 9), .ref (q 10), .ref (q 11)]) else if k = 2 then .inr (2, [.ref (q 1), .int (M k 1), .ref (q 12), .ref (q 13), .ref (q 14), .ref (q 15), .ref (q 16), .int (M k 7), .ref (q 17)]) else if k = 3 then .inr (3, [.ref (q 1), .ref (q 2), .int (M k 2), .ref (q 18), .ref (q 19), .ref (q 38), .ref (q 39), .ref (q 40), .ref (q 41), .ref (q 42), .ref (q 20), .ref (q 21), .ref (q 22), .ref (q 23)]) else if k = 4 then .inr (4, [.ref (q 1), .ref (q 2), .ref (q 3), .int (M k 3), .ref (q 24), .ref (q 25), .ref (q 26), .int (M k 7)]) else if k = 5 then .inr (5, [.ref (q 1), .ref (q 3), .ref (q 4), .ref (q 27), .ref (q 28), .int (M k 5)]) else .inr (6, [.ref (q 1), .ref (q 3), .ref (q 4), .ref (q 5), .int (M k 4), .ref (q 29), .ref (q 30), .ref (q 31), .ref (q 32), .int (M k 9), .ref (q 33), .int (M k 11), .int (M k 12), .int (M k 13)])
def lensR : List Nat := [10, 60, 60, 60, 60, 10, 10, 10, 10, 10, 10, 10, 10, 130, 130, 60, 60, 60, 60, 10, 60, 12, 10, 130, 130, 130, 16, 40, 130, 6]
def cR (ct : Nat → ClassId) : Cf := fun q M k => if 1 ≤ k then .inl (if k = 26 then ct 1 else ct 0, lensR.getD (k - 1) 0, .inl (M k)) else .inr (7, [.int (M k 0), .int (M k 1), .ref (q 1), .ref (q 2), .ref (q 3), .ref (q 4), .ref (q 5), .ref (q 6), .ref (q 7), .ref (q 8), .ref (q 9), .int (M k 11), .int (M k 12), .ref (q 10), .ref (q 11), .ref (q 12), .ref (q 13), .int (M k 17), .ref (q 14), .ref (q 15), .ref (q 16), .ref (q 17), .ref (q 18), .ref (q 19), .ref (q 20), .ref (q 21), .ref (q 22), .int (M k 27), .ref (q 23), .ref (q 24), .ref (q 25), .ref (q 26), .int (M k 32), .ref (q 27), .int (M k 34), .int (M k 35), .ref (q 28), .int (M k 37), .int (M k 38), .ref (q 29), .ref (q 30)])
abbrev wX (ct : Nat → ClassId) (q : Nat → Nat) (M : Sto) : va_W := wU 133 (cX ct) q M
abbrev wR (ct : Nat → ClassId) (q : Nat → Nat) (M : Sto) : va_W := wU 31 (cR ct) q M
theorem cX_l (ct : Nat → ClassId) : cfl (cX ct) := fun q M M' k h => by simp only [cX, h]
theorem cR_l (ct : Nat → ClassId) : cfl (cR ct) := fun q M M' k h => by simp only [cR, h]
theorem iX_7 (ct : Nat → ClassId) : isI 133 (cX ct) (ct 0) 7 10 := ⟨by decide, fun q M => rfl⟩
theorem iX_8 (ct : Nat → ClassId) : isI 133 (cX ct) (ct 0) 8 10 := ⟨by decide, fun q M => rfl⟩
theorem iX_9 (ct : Nat → ClassId) : isI 133 (cX ct) (ct 0) 9 10 := ⟨by decide, fun q M => rfl⟩
theorem iX_10 (ct : Nat → ClassId) : isI 133 (cX ct) (ct 0) 10 10 := ⟨by decide, fun q M => rfl⟩
theorem iX_11 (ct : Nat → ClassId) : isI 133 (cX ct) (ct 0) 11 10 := ⟨by decide, fun q M => rfl⟩
theorem iX_12 (ct : Nat → ClassId) : isI 133 (cX ct) (ct 0) 12 10 := ⟨by decide, fun q M => rfl⟩
theorem iX_13 (ct : Nat → ClassId) : isI 133 (cX ct) (ct 0) 13 10 := ⟨by decide, fun q M => rfl⟩
theorem iX_14 (ct : Nat → ClassId) : isI 133 (cX ct) (ct 0) 14 10 := ⟨by decide, fun q M => rfl⟩
theorem iX_15 (ct : Nat → ClassId) : isI 133 (cX ct) (ct 0) 15 10 := ⟨by decide, fun q M => rfl⟩
theorem iX_16 (ct : Nat → ClassId) : isI 133 (cX ct) (ct 0) 16 10 := ⟨by decide, fun q M => rfl⟩
theorem iX_17 (ct : Nat → ClassId) : isI 133 (cX ct) (ct 0) 17 10 := ⟨by decide, fun q M => rfl⟩
theorem iX_18 (ct : Nat → ClassId) : isI 133 (cX ct) (ct 0) 18 10 := ⟨by decide, fun q M => rfl⟩
theorem iX_19 (ct : Nat → ClassId) : isI 133 (cX ct) (ct 0) 19 10 := ⟨by decide, fun q M => rfl⟩
theorem iX_20 (ct : Nat → ClassId) : isI 133 (cX ct) (ct 0) 20 10 := ⟨by decide, fun q M => rfl⟩
theorem iX_21 (ct : Nat → ClassId) : isI 133 (cX ct) (ct 0) 21 126 := ⟨by decide, fun q M => rfl⟩
theorem iX_22 (ct : Nat → ClassId) : isI 133 (cX ct) (ct 0) 22 126 := ⟨by decide, fun q M => rfl⟩
theorem iX_23 (ct : Nat → ClassId) : isI 133 (cX ct) (ct 0) 23 126 := ⟨by decide, fun q M => rfl⟩
theorem iX_24 (ct : Nat → ClassId) : isI 133 (cX ct) (ct 0) 24 10 := ⟨by decide, fun q M => rfl⟩
theorem iX_25 (ct : Nat → ClassId) : isI 133 (cX ct) (ct 0) 25 126 := ⟨by decide, fun q M => rfl⟩
theorem iX_26 (ct : Nat → ClassId) : isI 133 (cX ct) (ct 0) 26 126 := ⟨by decide, fun q M => rfl⟩
theorem zX_27 (ct : Nat → ClassId) : isI 133 (cX ct) (ct 1) 27 126 := ⟨by decide, fun q M => rfl⟩
theorem iX_28 (ct : Nat → ClassId) : isI 133 (cX ct) (ct 0) 28 126 := ⟨by decide, fun q M => rfl⟩
theorem iX_29 (ct : Nat → ClassId) : isI 133 (cX ct) (ct 0) 29 16 := ⟨by decide, fun q M => rfl⟩
theorem iX_30 (ct : Nat → ClassId) : isI 133 (cX ct) (ct 0) 30 6 := ⟨by decide, fun q M => rfl⟩
theorem iX_31 (ct : Nat → ClassId) : isI 133 (cX ct) (ct 0) 31 126 := ⟨by decide, fun q M => rfl⟩
theorem iX_32 (ct : Nat → ClassId) : isI 133 (cX ct) (ct 0) 32 6 := ⟨by decide, fun q M => rfl⟩
theorem iX_33 (ct : Nat → ClassId) : isI 133 (cX ct) (ct 0) 33 40 := ⟨by decide, fun q M => rfl⟩
theorem iR_1 (ct : Nat → ClassId) : isI 31 (cR ct) (ct 0) 1 10 := ⟨by decide, fun q M => rfl⟩
theorem iR_2 (ct : Nat → ClassId) : isI 31 (cR ct) (ct 0) 2 60 := ⟨by decide, fun q M => rfl⟩
theorem iR_3 (ct : Nat → ClassId) : isI 31 (cR ct) (ct 0) 3 60 := ⟨by decide, fun q M => rfl⟩
theorem iR_4 (ct : Nat → ClassId) : isI 31 (cR ct) (ct 0) 4 60 := ⟨by decide, fun q M => rfl⟩
theorem iR_5 (ct : Nat → ClassId) : isI 31 (cR ct) (ct 0) 5 60 := ⟨by decide, fun q M => rfl⟩
theorem iR_6 (ct : Nat → ClassId) : isI 31 (cR ct) (ct 0) 6 10 := ⟨by decide, fun q M => rfl⟩
theorem iR_7 (ct : Nat → ClassId) : isI 31 (cR ct) (ct 0) 7 10 := ⟨by decide, fun q M => rfl⟩
theorem iR_8 (ct : Nat → ClassId) : isI 31 (cR ct) (ct 0) 8 10 := ⟨by decide, fun q M => rfl⟩
theorem iR_9 (ct : Nat → ClassId) : isI 31 (cR ct) (ct 0) 9 10 := ⟨by decide, fun q M => rfl⟩
theorem iR_10 (ct : Nat → ClassId) : isI 31 (cR ct) (ct 0) 10 10 := ⟨by decide, fun q M => rfl⟩
theorem iR_11 (ct : Nat → ClassId) : isI 31 (cR ct) (ct 0) 11 10 := ⟨by decide, fun q M => rfl⟩
theorem iR_12 (ct : Nat → ClassId) : isI 31 (cR ct) (ct 0) 12 10 := ⟨by decide, fun q M => rfl⟩
theorem iR_13 (ct : Nat → ClassId) : isI 31 (cR ct) (ct 0) 13 10 := ⟨by decide, fun q M => rfl⟩
theorem iR_14 (ct : Nat → ClassId) : isI 31 (cR ct) (ct 0) 14 130 := ⟨by decide, fun q M => rfl⟩
theorem iR_15 (ct : Nat → ClassId) : isI 31 (cR ct) (ct 0) 15 130 := ⟨by decide, fun q M => rfl⟩
theorem iR_16 (ct : Nat → ClassId) : isI 31 (cR ct) (ct 0) 16 60 := ⟨by decide, fun q M => rfl⟩
theorem iR_17 (ct : Nat → ClassId) : isI 31 (cR ct) (ct 0) 17 60 := ⟨by decide, fun q M => rfl⟩
theorem iR_18 (ct : Nat → ClassId) : isI 31 (cR ct) (ct 0) 18 60 := ⟨by decide, fun q M => rfl⟩
theorem iR_19 (ct : Nat → ClassId) : isI 31 (cR ct) (ct 0) 19 60 := ⟨by decide, fun q M => rfl⟩
theorem iR_20 (ct : Nat → ClassId) : isI 31 (cR ct) (ct 0) 20 10 := ⟨by decide, fun q M => rfl⟩
theorem iR_21 (ct : Nat → ClassId) : isI 31 (cR ct) (ct 0) 21 60 := ⟨by decide, fun q M => rfl⟩
theorem iR_22 (ct : Nat → ClassId) : isI 31 (cR ct) (ct 0) 22 12 := ⟨by decide, fun q M => rfl⟩
theorem iR_23 (ct : Nat → ClassId) : isI 31 (cR ct) (ct 0) 23 10 := ⟨by decide, fun q M => rfl⟩
theorem iR_24 (ct : Nat → ClassId) : isI 31 (cR ct) (ct 0) 24 130 := ⟨by decide, fun q M => rfl⟩
theorem iR_25 (ct : Nat → ClassId) : isI 31 (cR ct) (ct 0) 25 130 := ⟨by decide, fun q M => rfl⟩
theorem zR_26 (ct : Nat → ClassId) : isI 31 (cR ct) (ct 1) 26 130 := ⟨by decide, fun q M => rfl⟩
theorem iR_27 (ct : Nat → ClassId) : isI 31 (cR ct) (ct 0) 27 16 := ⟨by decide, fun q M => rfl⟩
theorem iR_28 (ct : Nat → ClassId) : isI 31 (cR ct) (ct 0) 28 40 := ⟨by decide, fun q M => rfl⟩
theorem iR_29 (ct : Nat → ClassId) : isI 31 (cR ct) (ct 0) 29 130 := ⟨by decide, fun q M => rfl⟩
theorem iR_30 (ct : Nat → ClassId) : isI 31 (cR ct) (ct 0) 30 6 := ⟨by decide, fun q M => rfl⟩
theorem gX_34 (ct : Nat → ClassId) : isG 133 (cX ct) (ct 3) 34 43 := ⟨by decide, fun q M => rfl⟩
theorem gX_35 (ct : Nat → ClassId) : isG 133 (cX ct) (ct 3) 35 53 := ⟨by decide, fun q M => rfl⟩
theorem gX_36 (ct : Nat → ClassId) : isG 133 (cX ct) (ct 3) 36 63 := ⟨by decide, fun q M => rfl⟩
theorem gX_37 (ct : Nat → ClassId) : isG 133 (cX ct) (ct 3) 37 73 := ⟨by decide, fun q M => rfl⟩
theorem gX_38 (ct : Nat → ClassId) : isG 133 (cX ct) (ct 3) 38 83 := ⟨by decide, fun q M => rfl⟩
theorem gX_39 (ct : Nat → ClassId) : isG 133 (cX ct) (ct 3) 39 93 := ⟨by decide, fun q M => rfl⟩
theorem gX_40 (ct : Nat → ClassId) : isG 133 (cX ct) (ct 3) 40 103 := ⟨by decide, fun q M => rfl⟩
theorem gX_41 (ct : Nat → ClassId) : isG 133 (cX ct) (ct 3) 41 113 := ⟨by decide, fun q M => rfl⟩
theorem gX_42 (ct : Nat → ClassId) : isG 133 (cX ct) (ct 3) 42 123 := ⟨by decide, fun q M => rfl⟩
theorem rowI (ct : Nat → ClassId) {b : Nat} {i : Int32} (h1 : 43 ≤ b) (h2 : b + 10 ≤ 133) (hi : ok i 10 = true) : isI 133 (cX ct) (ct 0) (b + i.toNatClampNeg) 6 := ⟨by have := ok_lt hi; omega, fun q M => by unfold cX; rw [if_pos (by omega)]⟩
theorem sw_o_0_5 {x : Int32} (h0 : ¬ x = 0) (h1 : ¬ x = 1) (h2 : ¬ x = 2) (h3 : ¬ x = 3) (h4 : ¬ x = 4) (h5 : ¬ x = 5) : x.toInt < 0 ∨ 5 < x.toInt := by
  have a0 : x.toInt ≠ 0 := fun h => h0 (Int32.toInt_inj.mp (by rw [h]; decide))
  have a1 : x.toInt ≠ 1 := fun h => h1 (Int32.toInt_inj.mp (by rw [h]; decide))
  have a2 : x.toInt ≠ 2 := fun h => h2 (Int32.toInt_inj.mp (by rw [h]; decide))
  have a3 : x.toInt ≠ 3 := fun h => h3 (Int32.toInt_inj.mp (by rw [h]; decide))
  have a4 : x.toInt ≠ 4 := fun h => h4 (Int32.toInt_inj.mp (by rw [h]; decide))
  have a5 : x.toInt ≠ 5 := fun h => h5 (Int32.toInt_inj.mp (by rw [h]; decide))
  omega
theorem sw_o_0_4 {x : Int32} (h0 : ¬ x = 0) (h1 : ¬ x = 1) (h2 : ¬ x = 2) (h3 : ¬ x = 3) (h4 : ¬ x = 4) : x.toInt < 0 ∨ 4 < x.toInt := by
  have a0 : x.toInt ≠ 0 := fun h => h0 (Int32.toInt_inj.mp (by rw [h]; decide))
  have a1 : x.toInt ≠ 1 := fun h => h1 (Int32.toInt_inj.mp (by rw [h]; decide))
  have a2 : x.toInt ≠ 2 := fun h => h2 (Int32.toInt_inj.mp (by rw [h]; decide))
  have a3 : x.toInt ≠ 3 := fun h => h3 (Int32.toInt_inj.mp (by rw [h]; decide))
  have a4 : x.toInt ≠ 4 := fun h => h4 (Int32.toInt_inj.mp (by rw [h]; decide))
  omega
theorem sw_o_0_2 {x : Int32} (h0 : ¬ x = 0) (h1 : ¬ x = 1) (h2 : ¬ x = 2) : x.toInt < 0 ∨ 2 < x.toInt := by
  have a0 : x.toInt ≠ 0 := fun h => h0 (Int32.toInt_inj.mp (by rw [h]; decide))
  have a1 : x.toInt ≠ 1 := fun h => h1 (Int32.toInt_inj.mp (by rw [h]; decide))
  have a2 : x.toInt ≠ 2 := fun h => h2 (Int32.toInt_inj.mp (by rw [h]; decide))
  omega
theorem sw_o_2_4 {x : Int32} (h2 : ¬ x = 2) (h3 : ¬ x = 3) (h4 : ¬ x = 4) : x.toInt < 2 ∨ 4 < x.toInt := by
  have a2 : x.toInt ≠ 2 := fun h => h2 (Int32.toInt_inj.mp (by rw [h]; decide))
  have a3 : x.toInt ≠ 3 := fun h => h3 (Int32.toInt_inj.mp (by rw [h]; decide))
  have a4 : x.toInt ≠ 4 := fun h => h4 (Int32.toInt_inj.mp (by rw [h]; decide))
  omega
end
section
/-! Integer.bitCount and Arrays.fill(int[], int): the JDK's own code -/
def y_bc : MethodName := ⟨"java/lang/Integer", "bitCount", "(I)I"⟩
def y_fl : MethodName := ⟨"java/util/Arrays", "fill", "([II)V"⟩
abbrev b_bc : ByteArray := prog_13_method_49_code
abbrev b_fl : ByteArray := prog_17_method_103_code
def ush (x y : Int32) : Int32 := (x.toUInt32 >>> (y.toUInt32 &&& Int32.toUInt32 31)).toInt32
def bcA (i : Int32) : Int32 := i - (ush i 1 &&& 1431655765)
def bcB (a : Int32) : Int32 := (a &&& 858993459) + (ush a 2 &&& 858993459)
def bcD (b : Int32) : Int32 := (b + ush b 4) &&& 252645135
def bcF (d : Int32) : Int32 := d + ush d 8
def bcG (f : Int32) : Int32 := f + ush f 16
def bitCnt (i : Int32) : Int32 := bcG (bcF (bcD (bcB (bcA i)))) &&& 63
theorem db_0 : decode b_bc 0 = .ok (.iload_n 0, 1) := by decide +kernel
theorem db_1 : decode b_bc 1 = .ok (.iload_n 0, 1) := by decide +kernel
theorem db_2 : decode b_bc 2 = .ok (.iconst 1, 1) := by decide +kernel
theorem db_3 : decode b_bc 3 = .ok (.iushr, 1) := by decide +kernel
theorem db_4 : decode b_bc 4 = .ok (.ldc_w 265, 3) := by decide +kernel
theorem db_7 : decode b_bc 7 = .ok (.iand, 1) := by decide +kernel
theorem db_8 : decode b_bc 8 = .ok (.isub, 1) := by decide +kernel
theorem db_9 : decode b_bc 9 = .ok (.istore_n 0, 1) := by decide +kernel
theorem db_10 : decode b_bc 10 = .ok (.iload_n 0, 1) := by decide +kernel
theorem db_11 : decode b_bc 11 = .ok (.ldc_w 266, 3) := by decide +kernel
theorem db_14 : decode b_bc 14 = .ok (.iand, 1) := by decide +kernel
theorem db_15 : decode b_bc 15 = .ok (.iload_n 0, 1) := by decide +kernel
theorem db_16 : decode b_bc 16 = .ok (.iconst 2, 1) := by decide +kernel
theorem db_17 : decode b_bc 17 = .ok (.iushr, 1) := by decide +kernel
theorem db_18 : decode b_bc 18 = .ok (.ldc_w 266, 3) := by decide +kernel
theorem db_21 : decode b_bc 21 = .ok (.iand, 1) := by decide +kernel
theorem db_22 : decode b_bc 22 = .ok (.iadd, 1) := by decide +kernel
theorem db_23 : decode b_bc 23 = .ok (.istore_n 0, 1) := by decide +kernel
theorem db_24 : decode b_bc 24 = .ok (.iload_n 0, 1) := by decide +kernel
theorem db_25 : decode b_bc 25 = .ok (.iload_n 0, 1) := by decide +kernel
theorem db_26 : decode b_bc 26 = .ok (.iconst 4, 1) := by decide +kernel
theorem db_27 : decode b_bc 27 = .ok (.iushr, 1) := by decide +kernel
theorem db_28 : decode b_bc 28 = .ok (.iadd, 1) := by decide +kernel
theorem db_29 : decode b_bc 29 = .ok (.ldc_w 267, 3) := by decide +kernel
theorem db_32 : decode b_bc 32 = .ok (.iand, 1) := by decide +kernel
theorem db_33 : decode b_bc 33 = .ok (.istore_n 0, 1) := by decide +kernel
theorem db_34 : decode b_bc 34 = .ok (.iload_n 0, 1) := by decide +kernel
theorem db_35 : decode b_bc 35 = .ok (.iload_n 0, 1) := by decide +kernel
theorem db_36 : decode b_bc 36 = .ok (.bipush 8, 2) := by decide +kernel
theorem db_38 : decode b_bc 38 = .ok (.iushr, 1) := by decide +kernel
theorem db_39 : decode b_bc 39 = .ok (.iadd, 1) := by decide +kernel
theorem db_40 : decode b_bc 40 = .ok (.istore_n 0, 1) := by decide +kernel
theorem db_41 : decode b_bc 41 = .ok (.iload_n 0, 1) := by decide +kernel
theorem db_42 : decode b_bc 42 = .ok (.iload_n 0, 1) := by decide +kernel
theorem db_43 : decode b_bc 43 = .ok (.bipush 16, 2) := by decide +kernel
theorem db_45 : decode b_bc 45 = .ok (.iushr, 1) := by decide +kernel
theorem db_46 : decode b_bc 46 = .ok (.iadd, 1) := by decide +kernel
theorem db_47 : decode b_bc 47 = .ok (.istore_n 0, 1) := by decide +kernel
theorem db_48 : decode b_bc 48 = .ok (.iload_n 0, 1) := by decide +kernel
theorem db_49 : decode b_bc 49 = .ok (.bipush 63, 2) := by decide +kernel
theorem db_51 : decode b_bc 51 = .ok (.iand, 1) := by decide +kernel
theorem db_52 : decode b_bc 52 = .ok (.ireturn, 1) := by decide +kernel
set_option maxHeartbeats 4000000 in
theorem c_bits (l : Launch) (D : va_G) (ct : Nat → ClassId) (x : Int32) : KR l D ct y_bc b_bc 1 (some .int) 0 0 [.int x] [] (bitCnt x) := by
  refine KR.ofW (by decide) (Nat.le_of_ble_eq_true rfl) rfl rfl ?_
  intro p e s m args below meth c A Q ls C0 hl w hret
  have hx := C0.1
  have hb := C0.2.1
  have ht := C0.2.2.2.2.1
  have hl : lv_has ls 1 [(0, .int x)] := hl
  refine lv_iload_n hx hb db_0 rfl (lv_at hl 0 rfl) ?_
  refine lv_iload_n hx hb db_1 rfl (lv_at hl 0 rfl) ?_
  refine lv_iconst (v := 1) hx hb db_2 (by decide) ?_
  refine lv_iushr (v := ush x 1) hx hb db_3 rfl ?_
  refine lv_ldcw (own := "java/lang/Integer") hx hb C0.2.2.2.1 (ht _ wd_717) db_4 ?_
  refine lv_iand hx hb db_7 ?_
  refine lv_isub hx hb db_8 ?_
  refine lv_istore_n hx hb db_9 rfl hl (by decide) rfl (fun ls hl => ?_)
  have hl : lv_has ls 1 [(0, .int (bcA x))] := hl
  refine lv_iload_n hx hb db_10 rfl (lv_at hl 0 rfl) ?_
  refine lv_ldcw (own := "java/lang/Integer") hx hb C0.2.2.2.1 (ht _ wd_718) db_11 ?_
  refine lv_iand hx hb db_14 ?_
  refine lv_iload_n hx hb db_15 rfl (lv_at hl 0 rfl) ?_
  refine lv_iconst (v := 2) hx hb db_16 (by decide) ?_
  refine lv_iushr (v := ush (bcA x) 2) hx hb db_17 rfl ?_
  refine lv_ldcw (own := "java/lang/Integer") hx hb C0.2.2.2.1 (ht _ wd_718) db_18 ?_
  refine lv_iand hx hb db_21 ?_
  refine lv_iadd hx hb db_22 ?_
  refine lv_istore_n hx hb db_23 rfl hl (by decide) rfl (fun ls hl => ?_)
  have hl : lv_has ls 1 [(0, .int (bcB (bcA x)))] := hl
  refine lv_iload_n hx hb db_24 rfl (lv_at hl 0 rfl) ?_
  refine lv_iload_n hx hb db_25 rfl (lv_at hl 0 rfl) ?_
  refine lv_iconst (v := 4) hx hb db_26 (by decide) ?_
  refine lv_iushr (v := ush (bcB (bcA x)) 4) hx hb db_27 rfl ?_
  refine lv_iadd hx hb db_28 ?_
  refine lv_ldcw (own := "java/lang/Integer") hx hb C0.2.2.2.1 (ht _ wd_719) db_29 ?_
  refine lv_iand hx hb db_32 ?_
  refine lv_istore_n hx hb db_33 rfl hl (by decide) rfl (fun ls hl => ?_)
  have hl : lv_has ls 1 [(0, .int (bcD (bcB (bcA x))))] := hl
  refine lv_iload_n hx hb db_34 rfl (lv_at hl 0 rfl) ?_
  refine lv_iload_n hx hb db_35 rfl (lv_at hl 0 rfl) ?_
  refine lv_bipush (v := 8) hx hb db_36 (by decide) ?_
  refine lv_iushr (v := ush (bcD (bcB (bcA x))) 8) hx hb db_38 rfl ?_
  refine lv_iadd hx hb db_39 ?_
  refine lv_istore_n hx hb db_40 rfl hl (by decide) rfl (fun ls hl => ?_)
  have hl : lv_has ls 1 [(0, .int (bcF (bcD (bcB (bcA x)))))] := hl
  refine lv_iload_n hx hb db_41 rfl (lv_at hl 0 rfl) ?_
  refine lv_iload_n hx hb db_42 rfl (lv_at hl 0 rfl) ?_
  refine lv_bipush (v := 16) hx hb db_43 (by decide) ?_
  refine lv_iushr (v := ush (bcF (bcD (bcB (bcA x)))) 16) hx hb db_45 rfl ?_
  refine lv_iadd hx hb db_46 ?_
  refine lv_istore_n hx hb db_47 rfl hl (by decide) rfl (fun ls hl => ?_)
  have hl : lv_has ls 1 [(0, .int (bcG (bcF (bcD (bcB (bcA x))))))] := hl
  refine lv_iload_n hx hb db_48 rfl (lv_at hl 0 rfl) ?_
  refine lv_bipush (v := 63) hx hb db_49 (by decide) ?_
  refine lv_iand hx hb db_51 ?_
  exact hret _ _ db_52
section JDK
variable {p : Program} {l : Launch} {e : Env} {R : Room} {s : State} {m : MethodId} {args : Array Value} {below : List Frame} {meth : Method} {c : Code} {H : Heap} {locs : List Loc} {Q : State → Prop}
variable {cc : ByteArray} {pc nL n index : Nat} {ls : Array Slot} {rest : List Value} {own : String} {D : va_G} {ct : Nat → ClassId} {A : Nat → Prop} {cf : Cf} {q : Nat → Nat} {M M2 : Sto} {ws : va_W}
theorem U_bits (C0 : Cx p s m args c cc nL own D ct) (w : Wd D A s ws H locs) {x : Int32} (hlink : Cond.methodLink own index y_bc ∈ wT) (hdg : decode cc pc = .ok (.invokestatic index, 3)) (hls : ls.size = nL) (hR : 1 ≤ R.frames ∧ 20 ≤ R.locals) (hrest : (rest.map fun v => v.category).sum ≤ 8)
    (kk : W p l e R s m args below meth c H locs 0 0 Q (F0 m (pc + 3) ls (.int (bitCnt x) :: rest))) : W p l e R s m args below meth c H locs 0 0 Q (F0 m pc ls (.int x :: rest)) :=
  W.callR (W.runS (As := [.int x]) (rest := rest) ⟨C0.1, C0.2.1, C0.2.2.1, C0.2.2.2.1, C0.2.2.2.2.1⟩ (c_bits l D ct x H.size) ⟨cB_of (n := 1) C0 wd_716 hlink wd_16 (by decide +kernel) hR, C0.2.2.2.2.1 _ wd_715⟩ ⟨CP.blind, fun U hU hW => ⟨rfl, CP.give C0.2.2.2.2.2.1 C0.2.2.2.2.2.2 w [] rfl rfl hU hW⟩⟩ rfl rfl hls rfl (lv_room hrest) hdg ⟨Nat.zero_le _, Nat.zero_le _⟩) kk
end JDK
theorem df_0 : decode b_fl 0 = .ok (.iconst 0, 1) := by decide +kernel
theorem df_1 : decode b_fl 1 = .ok (.istore_n 2, 1) := by decide +kernel
theorem df_2 : decode b_fl 2 = .ok (.aload_n 0, 1) := by decide +kernel
theorem df_3 : decode b_fl 3 = .ok (.arraylength, 1) := by decide +kernel
theorem df_4 : decode b_fl 4 = .ok (.istore_n 3, 1) := by decide +kernel
theorem df_5 : decode b_fl 5 = .ok (.iload_n 2, 1) := by decide +kernel
theorem df_6 : decode b_fl 6 = .ok (.iload_n 3, 1) := by decide +kernel
theorem df_7 : decode b_fl 7 = .ok (.if_icmp .ge 13, 3) := by decide +kernel
theorem df_10 : decode b_fl 10 = .ok (.aload_n 0, 1) := by decide +kernel
theorem df_11 : decode b_fl 11 = .ok (.iload_n 2, 1) := by decide +kernel
theorem df_12 : decode b_fl 12 = .ok (.iload_n 1, 1) := by decide +kernel
theorem df_13 : decode b_fl 13 = .ok (.iastore, 1) := by decide +kernel
theorem df_14 : decode b_fl 14 = .ok (.iinc 2 1, 3) := by decide +kernel
theorem df_17 : decode b_fl 17 = .ok (.goto (-12), 3) := by decide +kernel
theorem df_20 : decode b_fl 20 = .ok (.return_, 1) := by decide +kernel
def fl_g (f : Nat → Int32) (i : Nat) (v : Int32) : Nat → Int32 := fun j => if j < i then v else f j
theorem fl_s (f : Nat → Int32) (i : Nat) (v : Int32) : upd (fl_g f i v) i v = fl_g f (i + 1) v := by
  funext j
  unfold upd fl_g
  by_cases h : j = i
  · subst h; simp
  · by_cases h2 : j < i
    · rw [if_neg h, if_pos h2, if_pos (by omega)]
    · rw [if_neg h, if_neg h2, if_neg (by omega)]
set_option maxHeartbeats 4000000 in
theorem c_fill (l : Launch) (D : va_G) (ct : Nat → ClassId) (a N : Nat) (hN : N < 2 ^ 31) (v : Int32) (f : Nat → Int32) (sz : Nat) : Met l y_fl (Cond.code y_fl b_fl 4 none :: wT) { frames := 0, cells := 0, slots := 0, locals := 0 } (va_Pc [.ref a, .int v] (CP D ct [(a, .inl (ct 0, N, .inl f))] sz)) (QcSet a (vp_cell (ct 0) (N, .inl (fl_g f N v))) (.returned none)) 0 0 (fun x => x = a) := by
  refine Met.ofW (cc := b_fl) (maxL := 4) (ret := none) (by decide) rfl ?_
  intro p e s m args below meth c s₁ B hml hv
  obtain ⟨rfl, rfl, hP, hK, hD, hKx⟩ := hv
  have hr := B.returns
  have hlocks := B.notSynchronized
  have hx := B.exec
  have hb := B.bytes
  have hl := lv_entry ([.ref a, .int v]) (n := 4) (Nat.le_of_ble_eq_true rfl)
  rw [lg_entry_eq]
  generalize (lg_sl ([.ref a, .int v]) ++ List.replicate (4 - (lg_sl ([.ref a, .int v])).length) Slot.unset).toArray = ls at hl ⊢
  have hl : lv_has ls 4 [(0, .ref a), (1, .int v)] := hl
  have key : ∀ (k i : Nat) (H : Heap) (locs : List Loc) (ls : Array Slot), N - i = k → i ≤ N → H[a]? = some (vp_cell (ct 0) (N, .inl (fl_g f i v))) → H.size = s.heap.size → (∀ x, x ≠ a → H[x]? = s.heap[x]?) → (∀ z ∈ locs, z.base = a) → lv_has ls 4 [(2, .int (nI i)), (3, .int (nI N)), (0, .ref a), (1, .int v)] →
      W p l e (headSpec (Cond.code y_fl b_fl 4 none :: wT) { frames := 0, cells := 0, slots := 0, locals := 0 }).room s m [Value.ref a, Value.int v].toArray below meth c H locs 0 0 (MQ below (QcSet a (vp_cell (ct 0) (N, .inl (fl_g f N v))) (.returned none)) [Value.ref a, Value.int v].toArray s 0 0 (fun x => x = a)) (F0 m 5 ls []) := by
    intro k
    induction k with
    | zero =>
      intro i H locs ls hk hi hc hz ho hL hl
      have hiN : i = N := by omega
      subst hiN
      refine lv_iload_n hx hb df_5 rfl (lv_at hl 0 rfl) ?_
      refine lv_iload_n hx hb df_6 rfl (lv_at hl 1 rfl) ?_
      refine lv_icmp_ge (tgt := 20) hx hb df_7 (by decide) (fun _ => ?_) (fun hn => absurd ((nI_leI hN hN).mpr (Nat.le_refl _)) hn)
      exact W.vret hx hb hr (fun t ht hW => ⟨rfl, by rw [ht]; exact hc, by rw [ht]; exact hz, fun x cl hxa hcl => by rw [ht, ho x hxa]; exact hcl⟩) hL df_20
    | succ k ih =>
      intro i H locs ls hk hi hc hz ho hL hl
      have hiN : i < N := by omega
      refine lv_iload_n hx hb df_5 rfl (lv_at hl 0 rfl) ?_
      refine lv_iload_n hx hb df_6 rfl (lv_at hl 1 rfl) ?_
      refine lv_icmp_ge (tgt := 20) hx hb df_7 (by decide) (fun hn => absurd ((nI_leI hN (by omega)).mp hn) (by omega)) (fun _ => ?_)
      refine lv_aload_n hx hb df_10 rfl (lv_at hl 2 rfl) ?_
      refine lv_iload_n hx hb df_11 rfl (lv_at hl 0 rfl) ?_
      refine lv_iload_n hx hb df_12 rfl (lv_at hl 3 rfl) ?_
      have hin : vp_in (nI i) N := vp_in_nI hiN hN
      refine W.iast hx hb hc ((hK.2 0 _ rfl).1 N (fun j => .int (fl_g f i v j))) (fun z => by cases z) (by show ¬ (nI i < 0 ∨ (arrV _ _ _).slots.size ≤ _); rw [arrV_size]; exact hin) rfl rfl df_13 fun H1 e1 z1 o1 => ?_
      refine W.eq (g2 := F0 m 14 ls []) rfl ?_
      refine lv_iinc (k := 0) (v := nI (i + 1)) hx hb df_14 hl rfl (by rw [show Int32.ofInt 1 = 1 by decide]; exact nI_1 i) (by decide) rfl (fun ls hl => ?_)
      refine lv_goto (tgt := 5) hx hb df_17 (by decide) ?_
      refine ih (i + 1) H1 _ ls (by omega) (by omega) ?_ (z1.trans hz) (fun x hxa => (o1 x hxa).trans (ho x hxa)) ?_ hl
      · have hcl : (nI i).toNatClampNeg = i := nI_clamp (by omega)
        rw [e1, vp_cell_i, vp_cell_i, arrV_store, hcl]
        congr 2
        funext j
        have h9 := congrFun (fl_s f i v) j
        unfold updV
        by_cases hj : j = i
        · subst hj; rw [if_pos rfl, ← h9]; simp [upd]
        · rw [if_neg hj, ← h9]; simp [upd, hj]
      · intro z hz2
        rcases List.mem_append.mp hz2 with h | h
        · exact hL z h
        · rw [List.mem_singleton.mp h]
  refine lv_iconst (v := 0) hx hb df_0 (by decide) ?_
  refine lv_istore_n hx hb df_1 rfl hl (by decide) rfl (fun ls hl => ?_)
  refine lv_aload_n hx hb df_2 rfl (lv_at hl 1 rfl) ?_
  refine va_alen (v := nI N) hx hb hK hP 0 0 rfl rfl rfl df_3 ?_
  refine lv_istore_n hx hb df_4 rfl hl (by decide) rfl (fun ls hl => ?_)
  refine key N 0 s.heap [] ls (by omega) (Nat.zero_le _) ?_ rfl (fun _ _ => rfl) (fun z hz => nomatch hz) (lv_sub hl [1, 0, 2, 3] rfl)
  have h9 : s.heap[a]? = some (vp_cell (ct 0) (N, .inl f)) := hP 0 _ rfl
  rw [h9]
  have h8 : fl_g f 0 v = f := by funext j; simp [fl_g]
  rw [h8]
section JDF
variable {p : Program} {l : Launch} {e : Env} {R : Room} {s : State} {m : MethodId} {args : Array Value} {below : List Frame} {meth : Method} {c : Code} {H : Heap} {locs : List Loc} {Q : State → Prop}
variable {cc : ByteArray} {pc nL n index : Nat} {ls : Array Slot} {rest : List Value} {own : String} {D : va_G} {ct : Nat → ClassId} {A : Nat → Prop} {cf : Cf} {q : Nat → Nat} {M M2 : Sto}
theorem U_fill (C0 : Cx p s m args c cc nL own D ct) (hcf : cfl cf) (w : Wd D A s (wU n cf q M) H locs) {k N : Nat} (hI : isI n cf (ct 0) k N) {v : Int32} (hlink : Cond.methodLink own index y_fl ∈ wT) (hdg : decode cc pc = .ok (.invokestatic index, 3)) (hls : ls.size = nL) (hR : 1 ≤ R.frames ∧ 23 ≤ R.locals) (hrest : (rest.map fun v => v.category).sum ≤ 8) (hM : M2 = fillA M k N v)
    (kk : ∀ (H1 : Heap) (locs1 : List Loc), Wd D A s (wU n cf q M2) H1 locs1 → W p l e R s m args below meth c H1 locs1 0 0 Q (F0 m (pc + 3) ls rest)) (hN : N < 2 ^ 31 := by decide) : W p l e R s m args below meth c H locs 0 0 Q (F0 m pc ls (.int v :: .ref (q k) :: rest)) := by
  have he : (wU n cf q M)[k]? = some (q k, .inl (ct 0, N, .inl (M k))) := by rw [wU_at hI.1, hI.2]
  have hc1 : va_P D vCl [(q k, .inl (ct 0, N, .inl (M k)))] H := fun j x hj => by
    match j, hj with
    | 0, hj => cases hj; exact w.1 k _ he
  refine W.callKL (W.runS (As := [.ref (q k), .int v]) (rest := rest) ⟨C0.1, C0.2.1, C0.2.2.1, C0.2.2.2.1, C0.2.2.2.2.1⟩ (c_fill l D ct (q k) N hN v (M k) H.size) ⟨cB_of (n := 2) C0 wd_607 hlink wd_14 (by decide +kernel) hR, C0.2.2.2.2.1 _ wd_606⟩
    ⟨CP.blind, fun U hU hW => ⟨rfl, by rw [hU], by rw [hU]; exact hc1, va_K.moved hW.alike C0.2.2.2.2.2.1, ⟨fun i j x y hi hj _ => by
      match i, j, hi, hj with
      | 0, 0, _, _ => rfl, fun _ _ _ => trivial⟩, C0.2.2.2.2.2.2.at hW (by rw [hU]; exact w.st)⟩⟩ rfl rfl hls rfl (lv_room hrest) hdg ⟨Nat.zero_le _, Nat.zero_le _⟩) (fun H1 L hL z1 e1 o1 => ?_)
  subst hM
  refine kk H1 _ (w.up hcf hI.1 (E := .inl (ct 0, N, .inl (fl_g (M k) N v))) (by rw [hI.2, fillA_self]; rfl) (fun a ha => fillA_ne M _ _ ha) (w.1.set w.2.1 he e1 (fun x hx => o1 x hx)) (w.2.1.set he) ⟨by rw [z1]; exact w.2.2.1.1, fun x h1 h2 => ?_, fun z hz => ?_⟩)
  · rw [o1 x (fun e9 => h2 (by rw [e9]; exact w.2.1.2 k _ he))]
    exact w.2.2.1.2.1 x h1 h2
  · rcases List.mem_append.mp hz with h | h
    · exact w.2.2.1.2.2 z h
    · rw [hL z h]; exact w.2.1.2 k _ he
end JDF
end
section
/-! throws in a method whose world may have been gone through by calls -/
def XEU (D : va_G) (w1 : va_W) (A : Nat → Prop) (E : String) (st : State) (o : Outcome) (t : State) : Prop := ∃ (q : Addr) (ce : Cell) (L : List Loc), o = .threw q ∧ t.heap[q]? = some ce ∧ ce.vm = .none ∧ st.vm.findClass E = some ce.cls ∧ st.WarmedH t.vm ∧ st.sameButNew ({ t with vm := st.vm } : State) L 1 6 ∧ (∀ z ∈ L, A z.base) ∧ CE D w1 A t ∧ va_F A st t
def XQU (D : va_G) (w1 : va_W) (A : Nat → Prop) (below : List Frame) (E : String) (s : State) : State → Prop := fun t => ∃ o : Outcome, t.status = .running ∧ Ended t below o ∧ XEU D w1 A E s o t
def KXU (l : Launch) (D : va_G) (ct : Nat → ClassId) (y : MethodName) (bytes : ByteArray) (maxL : Nat) (ret : Option FieldType) (fr lo : Nat) (av : List Value) (wc : va_W) (E : String) (w1 : va_W) : Prop :=
  ∀ sz : Nat, MetFree l y (headSpec (Cond.code y bytes maxL ret :: wT) { frames := fr, cells := 1, slots := 6, locals := lo }) (va_Pc av (CP D ct wc sz)) (fun _ _ _ _ _ => True) (fun _ st o t => XEU D w1 (va_A wc sz) E st o t)
theorem KXU.ofB {l : Launch} {D : va_G} {ct : Nat → ClassId} {y : MethodName} {bytes : ByteArray} {maxL : Nat} {ret : Option FieldType} {fr lo : Nat} {av : List Value} {wc w1 : va_W} {E : String} (hy : plainName y.cls = true) (hav : (lg_sl av).length ≤ maxL)
    (body : ∀ (p : Program) (e : Env) (s : State) (m : MethodId) (args : Array Value) (below : List Frame) (meth : Method) (c : Code) (A : Nat → Prop) (ls : Array Slot), Cx p s m args c bytes maxL y.cls D ct → c.exceptionTable.isEmpty = true → meth.locks = false → lv_has ls maxL (lv_args 0 av) → Wd D A s wc s.heap [] →
      W p l e { frames := fr, cells := 1, slots := 6, locals := lo } s m args below meth c s.heap [] 0 0 (XQU D w1 A below E s) (F0 m 0 ls [])) : KXU l D ct y bytes maxL ret fr lo av wc E w1 := by
  intro sz
  refine MetFree.of_bodyS (code := bytes) (maxLocals := maxL) (ret := ret) hy ?_ ?_
  · intro args s m h hn
    obtain ⟨meth, c, h1, h2, h3, h4, h5, h6, -, -⟩ := Cond.code_spec hn (atoms_spec (ws := Cond.code y bytes maxL ret :: wT) h _ List.mem_cons_self)
    exact ⟨meth, c, h1, h2, h3, h4, h5, h6⟩
  · intro p e s m args below meth c s₁ B hml hv _
    obtain ⟨rfl, rfl, hP, hK, hD, hx⟩ := hv
    have hh0 : s₁.heap = s.heap := by rw [B.state]; rfl
    have hemp := B.noHandlers (atoms_spec (ws := Cond.code y bytes maxL ret :: wT) B.pre _ List.mem_cons_self)
    have C0 : Cx p s m av.toArray c bytes maxL y.cls D ct := ⟨B.exec, B.bytes, hml, findClass_of_methodNamed B.named, fun w hw => atoms_spec (ws := Cond.code y bytes maxL ret :: wT) B.pre w (List.mem_cons_of_mem _ hw), hK, hx⟩
    obtain ⟨t, a1, o, b1, b2, b3⟩ := body p e s m _ below meth c _ _ C0 hemp B.notSynchronized (lv_entry av hav) (Wd.start hP hD) s₁ hh0 (Stand.of_body B)
    rw [← lg_entry_eq] at a1
    exact ⟨t, o, a1, b1, b2, b3⟩
section THU
variable {p : Program} {l : Launch} {e : Env} {R : Room} {s : State} {m : MethodId} {args : Array Value} {below : List Frame} {meth : Method} {c : Code} {H : Heap} {locs : List Loc} {cells slots : Nat} {Q : State → Prop}
variable {cc : ByteArray} {pc nL : Nat} {ls : Array Slot} {rest : List Value} {own : String} {D : va_G} {ct : Nat → ClassId} {A : Nat → Prop} {ws : va_W} {a : Nat}
theorem R_throwU (C0 : Cx p s m args c cc nL own D ct) (w : Wd D A s ws H locs) (htl : l.stackTraces = false) {cls tx : String} {names : List String} {ik is ic ix : Nat} {rx : ByteArray} (x0 : decode rx 0 = .ok (.aload_n 0, 1)) (x1 : decode rx 1 = .ok (.aload_n 1, 1)) (x2 : decode rx 2 = .ok (.invokespecial ix, 3)) (x5 : decode rx 5 = .ok (.return_, 1)) (hcls : Bundle.fit cls = true) (hnames : ∀ n ∈ names, Bundle.fit n = true) (hown : own = "NameForge")
    (hat : (ow_words "NameForge" ic cls ix rx names).all x_ok = true) (hkl : Cond.classLink own ik cls ∈ wT) (hini : Cond.initialized cls ∈ wT) (hins : Cond.instantiable cls 6 ∈ wT) (hstr : (is, tx) ∈ strs) (hls : ls.size = nL)
    (d0 : decode cc pc = .ok (.new ik, 3)) (d3 : decode cc (pc + 3) = .ok (.dup, 1)) (d4 : decode cc (pc + 4) = .ok (.ldc is, 2)) (d6 : decode cc (pc + 6) = .ok (.invokespecial ic, 3)) (d9 : decode cc (pc + 9) = .ok (.athrow, 1)) (hout : c.exceptionTable.isEmpty = true) (hlocks : meth.locks = false)
    (hRc : 1 ≤ R.cells) (hRs : 6 ≤ R.slots) (hRf : names.length + 3 < R.frames) (hRl : (rest.map fun v => v.category).sum + (13 * (names.length + 1) + 43) ≤ R.locals) : W p l e R s m args below meth c H locs 0 0 (XQU D ws A below cls s) (F0 m pc ls rest) := by
  subst hown
  have hat' : ∀ w ∈ ow_words "NameForge" ic cls ix rx names, w.before args s = true := fun w hw => x_ok_spec C0.2.2.2.2.1 C0.2.2.2.2.2.2 (List.all_eq_true.mp hat w hw)
  refine W.newc C0.1 C0.2.1 C0.2.2.2.1 (C0.2.2.2.2.1 _ hkl) (C0.2.2.2.2.1 _ hins) (C0.2.2.2.2.1 _ hini) rfl d0 (by omega) (by omega) (fun cX kX hfX hkX hord hn6 => ?_)
  refine W.eq (g2 := F0 m (pc + 3) ls (.ref H.size :: rest)) rfl ?_
  refine lv_dup C0.1 C0.2.1 d3 rfl ?_
  obtain ⟨sa, hsa⟩ := C0.2.2.2.2.2.2.str (is, tx) hstr
  refine va_ldcS (own := "NameForge") (tx := tx) (q := sa) C0.1 C0.2.1 C0.2.2.2.1 hsa d4 ?_
  intro T hT X
  have htr : e.platform.stackTraces = false := (show e.platform.stackTraces = l.stackTraces by rw [X.admits.platform]).trans htl
  have hcellA : T.heap[H.size]? = some (freshCell cX kX) := by rw [hT]; simp [freshCell]
  have hold : ∀ z : Nat, z < H.size → T.heap[z]? = H[z]? := fun z hz => by rw [hT, Array.getElem?_push, if_neg (Nat.ne_of_lt hz)]
  obtain ⟨U, hsteps, hrun, hend, hW, hsame, hne, hsz, ce, hce, hcc, hcv⟩ := ow_throw X C0.1 htr (fun x hx cell hc => by
      cases hb : cell.vm.isStatics with
      | false => rfl
      | true => exact absurd (w.2.2.1.2.2 x hx) (w.2.2.2.2 x.base cell hc hb)) x0 x1 x2 x5 C0.2.2.2.1 hcls hnames hat' hfX hkX hcellA w.2.2.1.1 (tx := .ref sa) rfl
    (g := F0 m (pc + 4 + 2) ls (.ref sa :: .ref H.size :: .ref H.size :: rest)) rfl (by rw [C0.2.2.1]; exact hls) rfl rfl (rest := rest) rfl (by rw [C0.2.1]; exact d6) (by rw [C0.2.1]; exact d9)
    (fun x hx => by rw [Array.isEmpty_iff.mp hout] at hx; cases hx) hRf (by have h9 : (Value.ref H.size).category = 1 := rfl; have h8 : (F0 m (pc + 4 + 2) ls (.ref sa :: .ref H.size :: .ref H.size :: rest)).monitorRoom = 0 := rfl; simp only [List.map_cons, List.sum_cons, h9, h8]; omega) hlocks
  have hTs : H.size ≤ T.heap.size := by rw [hT]; simp
  have hU : ∀ z : Nat, z < H.size → U.heap[z]? = H[z]? := fun z hz => (hne z (Nat.ne_of_lt hz)).trans (hold z hz)
  refine ⟨U, hsteps, .threw H.size, hrun, hend, H.size, ce, locs, rfl, hce, hcv, by rw [hcc]; exact hfX, hW, hsame, w.2.2.1.2.2, ⟨w.1.kept (fun k x hx => hU x.1 ((w.1 k x hx).lt)), w.2.1⟩, Nat.le_trans w.2.2.1.1 (Nat.le_trans hTs hsz), fun z h1 h2 => ?_⟩
  rw [hU z (Nat.lt_of_lt_of_le h1 w.2.2.1.1)]
  exact w.2.2.1.2.1 z h1 h2
end THU
end
