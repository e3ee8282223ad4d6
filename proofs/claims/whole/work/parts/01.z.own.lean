/-! rows of my own: new int[n][k]; a callee that throws; a handler behind others; the words of an exception's constructor -/
/-! ### two dimensions of ints at once -/
def ow_row (c : ClassId) (M : Nat) (v : Value) : Cell := { cls := c, slots := Array.replicate M v, vm := .none }
def ow_top (c : ClassId) (N a i : Nat) : Cell := { cls := c, slots := Array.ofFn (n := N) (fun j => if j.val < i then Value.ref (a + 1 + j.val) else .null), vm := .none }
/-- behind i rows: the heap has grown by the outer array and i rows -/
def ow_grid (T : State) (c0 c1 : ClassId) (N M : Nat) (v : Value) (i : Nat) : State :=
  { T with heap := T.heap.push (ow_top c0 N T.heap.size i) ++ Array.replicate i (ow_row c1 M v), slotsUsed := T.slotsUsed + N + i * M }
theorem ow_top_size (c : ClassId) (N a i : Nat) : (ow_top c N a i).slots.size = N := by simp [ow_top]
theorem ow_top_slot (c : ClassId) (N a i j : Nat) (h : j < N) : (ow_top c N a i).slots[j]? = some (if j < i then Value.ref (a + 1 + j) else .null) := by
  simp [ow_top, h]
theorem ow_top_zero (c : ClassId) (N a : Nat) : ow_top c N a 0 = ow_row c N .null := by
  have h : (Array.ofFn (n := N) (fun j => if j.val < 0 then Value.ref (a + 1 + j.val) else .null)) = Array.replicate N .null := by
    apply Array.ext
    · simp
    · intro j h1 h2
      simp
  unfold ow_top ow_row
  rw [h]
theorem ow_top_succ (c : ClassId) (N a i : Nat) : (ow_top c N a i).setSlot i (.ref (a + 1 + i)) = ow_top c N a (i + 1) := by
  have h : (Array.ofFn (n := N) (fun j => if j.val < i then Value.ref (a + 1 + j.val) else .null)).setIfInBounds i (.ref (a + 1 + i)) = Array.ofFn (n := N) (fun j => if j.val < i + 1 then Value.ref (a + 1 + j.val) else .null) := by
    apply Array.ext
    · simp
    · intro j h1 h2
      have hN : j < N := by simpa using h2
      rw [Array.getElem_setIfInBounds (by simpa using hN)]
      simp only [Array.getElem_ofFn]
      by_cases e : i = j
      · subst e
        simp
      · rw [if_neg e]
        by_cases hj : j < i
        · rw [if_pos hj, if_pos (by omega)]
        · rw [if_neg hj, if_neg (by omega)]
  unfold ow_top Cell.setSlot
  simp only
  rw [h]
section OG
variable (T : State) (c0 c1 : ClassId) (N M : Nat) (v : Value)
theorem ow_grid_size (i : Nat) : (ow_grid T c0 c1 N M v i).heap.size = T.heap.size + 1 + i := by simp [ow_grid]
theorem ow_grid_old (i : Nat) {a : Nat} (h : a < T.heap.size) : (ow_grid T c0 c1 N M v i).heap[a]? = T.heap[a]? := by
  unfold ow_grid
  simp only
  rw [Array.getElem?_append_left (by simp; omega), Array.getElem?_push_lt h, Array.getElem?_eq_getElem h]
theorem ow_grid_top (i : Nat) : (ow_grid T c0 c1 N M v i).heap[T.heap.size]? = some (ow_top c0 N T.heap.size i) := by
  unfold ow_grid
  simp only
  rw [Array.getElem?_append_left (by simp), Array.getElem?_push_size]
theorem ow_grid_row (i j : Nat) (h : j < i) : (ow_grid T c0 c1 N M v i).heap[T.heap.size + 1 + j]? = some (ow_row c1 M v) := by
  unfold ow_grid
  simp only
  rw [Array.getElem?_append_right (by simp), Array.size_push, Array.getElem?_replicate, if_pos (by omega)]
theorem ow_grid_zero : T.pushCell (ow_row c0 N .null) = ow_grid T c0 c1 N M v 0 := by
  unfold ow_grid State.pushCell
  rw [ow_top_zero]
  simp [ow_row]
theorem ow_grid_succ (i : Nat) : ((ow_grid T c0 c1 N M v i).pushCell (ow_row c1 M v)).setCell T.heap.size (ow_top c0 N T.heap.size (i + 1)) = ow_grid T c0 c1 N M v (i + 1) := by
  have h : (((T.heap.push (ow_top c0 N T.heap.size i) ++ Array.replicate i (ow_row c1 M v)).push (ow_row c1 M v)).setIfInBounds T.heap.size (ow_top c0 N T.heap.size (i + 1)))
      = T.heap.push (ow_top c0 N T.heap.size (i + 1)) ++ Array.replicate (i + 1) (ow_row c1 M v) := by
    apply Array.ext_getElem?
    intro j
    rw [Array.getElem?_setIfInBounds]
    rcases Nat.lt_trichotomy j T.heap.size with hj | hj | hj
    · rw [if_neg (by omega), Array.getElem?_push_lt (by simp; omega), Array.getElem?_append_left (by simp; omega), Array.getElem?_push_lt hj]
      simp [Array.getElem_append, Array.getElem_push, hj, show j < T.heap.size + 1 by omega]
    · subst hj
      rw [if_pos rfl, if_pos (by simp; omega), Array.getElem?_append_left (by simp), Array.getElem?_push_size]
    · rw [if_neg (by omega), Array.getElem?_append_right (by simp; omega), Array.getElem?_push]
      simp only [Array.size_append, Array.size_push, Array.size_replicate]
      by_cases e : j = T.heap.size + 1 + i
      · rw [if_pos e, Array.getElem?_replicate, if_pos (by omega)]
      · rw [if_neg e, Array.getElem?_append_right (by simp; omega), Array.getElem?_replicate, Array.getElem?_replicate, Array.size_push]
        by_cases hk : j - (T.heap.size + 1) < i
        · rw [if_pos hk, if_pos (by omega)]
        · rw [if_neg hk, if_neg (by omega)]
  have hs : T.slotsUsed + N + i * M + (ow_row c1 M v).slots.size = T.slotsUsed + N + (i + 1) * M := by
    rw [show (ow_row c1 M v).slots.size = M by simp [ow_row], Nat.succ_mul]
    omega
  unfold ow_grid State.pushCell State.setCell
  simp only
  rw [h, hs]
end OG
section OM
variable {E : CtlPost} {e : Env} {d : Bool} {acts : List Action} {s : State}
/-- a new array whose elements are all of one default -/
theorem ow_new {c cc : ClassId} {k : Class} {ty : FieldType} {n : Nat} {v : Value} (hk : s.vm.classes[c]? = some k) (hkind : k.kind = .array cc ty) (hv : fits ty v = true) (hd : v.isDefault = true)
    (h1 : n ≤ e.platform.arrayLengthLimit) (h2 : n * componentBytes ty ≤ e.platform.maxHeapBytes) (h3 : s.heap.size < e.platform.maxCells) (h4 : s.slotsUsed + n ≤ e.platform.maxSlots)
    {Q : Addr → Pre} (hq : ∀ acts', Q s.heap.size d acts' (s.pushCell (ow_row c n v))) : wp (Jvm.newArray c n v) Q E e d acts s := by
  have h1' : ¬ n > e.platform.arrayLengthLimit := Nat.not_lt.mpr h1
  have h2' : ¬ n * componentBytes ty > e.platform.maxHeapBytes := Nat.not_lt.mpr h2
  unfold Jvm.newArray Jvm.arrayFits
  simp only [wp_bind', wp_pure', W.ask, W.ite, h1', h2', if_false, W.theClass, hk, hkind, Option.some.injEq, exists_eq_left']
  rw [if_neg (by omega)]
  refine (W.alloc c (Array.replicate n v) .none).mpr ⟨h3, by simpa using h4, fun i x hx => ?_, hq _⟩
  rw [Array.getElem?_replicate] at hx
  split at hx
  · cases hx
    simp [State.fitsSlot, State.slotType?, hk, hkind, hv]
  · cases hx
/-- the rows and their outer array: 'make' of two lengths, where the inner arrays are of ints -/
theorem ow_make {c cc c1 : ClassId} {k k1 : Class} {n m : Int32} (hk : s.vm.classes[c]? = some k) (hkind : k.kind = .array c1 (.array .int)) (hk1 : s.vm.classes[c1]? = some k1) (hkind1 : k1.kind = .array cc .int)
    (hn : ¬ n < 0) (hm : ¬ m < 0) (h1 : n.toNatClampNeg ≤ e.platform.arrayLengthLimit) (h2 : n.toNatClampNeg * 4 ≤ e.platform.maxHeapBytes) (h3 : m.toNatClampNeg ≤ e.platform.arrayLengthLimit) (h4 : m.toNatClampNeg * 4 ≤ e.platform.maxHeapBytes)
    (h5 : s.heap.size + 1 + n.toNatClampNeg ≤ e.platform.maxCells) (h6 : s.slotsUsed + n.toNatClampNeg + n.toNatClampNeg * m.toNatClampNeg ≤ e.platform.maxSlots)
    {Q : Addr → Pre} (hq : ∀ d' acts', Q s.heap.size d' acts' (ow_grid s c c1 n.toNatClampNeg m.toNatClampNeg (.int 0) n.toNatClampNeg)) : wp (multianewarray.make c [n, m]) Q E e d acts s := by
  have hbad : [m].find? (· < 0) = none := by simp [hm]
  rw [multianewarray.make]
  simp only [wp_bind', wp_pure', W.ite, hn, if_false, W.theClass, hk, hkind, Option.some.injEq, exists_eq_left']
  refine ow_new hk hkind rfl rfl h1 h2 (by omega) (by omega) fun acts1 => ?_
  simp only [hbad]
  rw [ite_self, wp_bind', Std.Legacy.Range.forIn_eq_forIn_range', ow_grid_zero s c c1 n.toNatClampNeg m.toNatClampNeg (.int 0)]
  have hz : ([:n.toNatClampNeg] : Std.Legacy.Range).size = n.toNatClampNeg := by simp [Std.Legacy.Range.size]
  rw [hz]
  generalize hN : n.toNatClampNeg = N at *
  generalize hM : m.toNatClampNeg = M at *
  refine wp_forIn_inv (fun l S => l.length ≤ N ∧ l = List.range' (N - l.length) l.length ∧ S = ow_grid s c c1 N M (.int 0) (N - l.length)) _ _ ⟨by simp, by simp, by simp⟩ ?_ ?_
  · rintro x l S d1 a1 Q1 ⟨hl, hr, rfl⟩ next
    rw [List.length_cons] at hl hr
    rw [List.length_cons]
    rw [List.range'_succ] at hr
    obtain ⟨hx, hr⟩ := List.cons.inj hr
    have hi : N - (l.length + 1) + 1 = N - l.length := by omega
    rw [hi] at hr
    have hlt : x < N := by omega
    rw [← hx]
    have hmul : x * M + M ≤ N * M := by
      have := Nat.mul_le_mul_right M (show x + 1 ≤ N from hlt)
      rwa [Nat.succ_mul] at this
    have gs := ow_grid_size s c c1 N M (.int 0) x
    simp only [wp_bind']
    rw [multianewarray.make]
    simp only [wp_bind', wp_pure', W.ite, hm, if_false, W.theClass, show (ow_grid s c c1 N M (.int 0) x).vm = s.vm from rfl, hk1, hkind1, Option.some.injEq, exists_eq_left']
    rw [hM]
    refine ow_new (s := ow_grid s c c1 N M (.int 0) x) (k := k1) (cc := cc) (ty := .int) (v := .int 0) hk1 hkind1 rfl rfl h3 h4 (by rw [gs]; omega) (by show s.slotsUsed + N + x * M + M ≤ _; omega) fun acts2 => ?_
    simp only [wp_bind', wp_pure']
    refine (W.writeLoc _ _ _ _).mpr ⟨ow_top c N s.heap.size x, ?_, by simp [ow_top], by rw [ow_top_size]; exact hlt, ?_, ?_⟩
    · have hlt0 : s.heap.size < (ow_grid s c c1 N M (.int 0) x).heap.size := by rw [gs]; omega
      rw [State.heap_pushCell_of_lt (h := hlt0)]
      exact ow_grid_top s c c1 N M (.int 0) x
    · show State.fitsSlot _ c .none x _ = true
      simp [State.fitsSlot, State.slotType?, show (ow_grid s c c1 N M (.int 0) x).vm = s.vm from rfl, hk, hkind]
      rfl
    · refine next _ _ _ ⟨by omega, hr, ?_⟩
      rw [gs, ow_top_succ, ow_grid_succ, ← hi, ← hx]
  · rintro S d1 a1 ⟨-, -, rfl⟩
    simp only [wp_pure']
    exact hq _ _
end OM
/-- the word that there is an array class over an array class, as facts -/
theorem ow_over {A : Array Value} {u : State} {t : FieldType} (h : (Cond.arrayOver (.array t)).before A u = true) :
    ∃ c1 c k, u.vm.findClass (FieldType.array t).toString = some c1 ∧ (u.vm.classes.findIdx? fun x => match x.kind with | .array cc _ => cc == c1 | _ => false) = some c ∧ u.vm.classes[c]? = some k ∧ k.kind = .array c1 (.array t) ∧ u.vm.findClass ("[" ++ (FieldType.array t).toString) = some c := by
  have h' : (Cond.arrayOver (.array t)).holds A u none u [] = true := h
  simp only [Cond.holds, Cond.value, beq_iff_eq] at h'
  obtain ⟨c1, h1, h'⟩ := Option.bind_eq_some_iff.mp h'
  obtain ⟨c, h2, h'⟩ := Option.bind_eq_some_iff.mp h'
  obtain ⟨k, h3, h4⟩ := Option.map_eq_some_iff.mp h'
  obtain ⟨hlt, hp, -⟩ := Array.findIdx?_eq_some_iff_getElem.mp h2
  rw [(Array.getElem?_eq_some_iff.mp h3).2] at hp
  cases hk : k.kind with
  | array cc ty =>
    simp [hk] at hp h4
    exact ⟨c1, c, k, h1, h2, h3, by rw [hk, hp, h4.1], h4.2⟩
  | _ => simp [hk] at hp
theorem ow_over_moved {u U : State} (hvm : u.vm.Alike U.vm) {A B : Array Value} {t : FieldType} (h : (Cond.arrayOver (.array t)).before A u = true) : (Cond.arrayOver (.array t)).before B U = true := by
  obtain ⟨c1, c, k, h1, h2, h3, h4, h5⟩ := ow_over h
  obtain ⟨k', h3', e3⟩ := hvm.2.2 _ _ h3
  have h4' : k'.kind = .array c1 (.array t) := by rw [e3]; exact h4
  have h2' := (hvm.findIdx?_eqK (fun x => match x.kind with | .array cc _ => cc == c1 | _ => false) (fun _ => rfl)).trans h2
  rw [← hvm.findClass] at h1 h5
  show (Cond.arrayOver (.array t)).holds B U none U [] = true
  simp only [Cond.holds, Cond.value, beq_iff_eq]
  exact Option.bind_eq_some_iff.mpr ⟨c1, h1, Option.bind_eq_some_iff.mpr ⟨c, h2', Option.map_eq_some_iff.mpr ⟨k', h3', by simp [h4', h5]⟩⟩⟩
section OS
variable {p : Program} {l : Launch} {e : Env} {R : Room} {s : State} {m : MethodId} {args : Array Value} {below : List Frame} {meth : Method} {c : Code} {T : State} {locs : List Loc} {cells slots : Nat}
theorem ow_stand (X : Stand p l e R s m args below meth c T locs cells slots) (c0 c1 : ClassId) (N M : Nat) (v : Value) (i : Nat) : Stand p l e R s m args below meth c (ow_grid T c0 c1 N M v i) locs (cells + 1 + i) (slots + N + i * M) := by
  induction i with
  | zero =>
    have h := X.pushed (ow_row c0 N .null)
    rw [ow_grid_zero T c0 c1 N M v, show (ow_row c0 N .null).slots.size = N by simp [ow_row]] at h
    simpa using h
  | succ i ih =>
    have h := ih.pushed (ow_row c1 M v)
    have hlt : T.heap.size < (ow_grid T c0 c1 N M v i).heap.size := by rw [ow_grid_size]; omega
    have hc : ((ow_grid T c0 c1 N M v i).pushCell (ow_row c1 M v)).heap[T.heap.size]? = some (ow_top c0 N T.heap.size i) := by
      rw [State.heap_pushCell_of_lt (h := hlt)]
      exact ow_grid_top T c0 c1 N M v i
    have h2 := (h.stored hc i (.ref (T.heap.size + 1 + i))).dropFresh (fun x hx => by
      rw [List.mem_singleton] at hx
      subst hx
      exact X.heapGrown)
    rw [ow_top_succ, ow_grid_succ, show (ow_row c1 M v).slots.size = M by simp [ow_row]] at h2
    rw [Nat.succ_mul, ← Nat.add_assoc, ← Nat.add_assoc]
    exact h2
/-- new int[n][k] -/
theorem ow_mna (X : Stand p l e R s m args below meth c T locs cells slots) (hexec : p.tables.exec = Jvm.exec) {own : String} {index : Nat} (hown : s.vm.findClass own = some m.cls)
    (hcl : (Cond.classLink own index "[[I").before args s = true) (hov : (Cond.arrayOver (.array .int)).before args s = true) (hac : (Cond.arrayClass .int).before args s = true)
    {g : JFrame} (hg : g.method = m) (hdg : decode c.code g.pc = .ok (.multianewarray index 2, 4)) {n k : Int32} {rest : List Value} (hst : g.stack = .int k :: .int n :: rest) (hn : ¬ n < 0) (hk : ¬ k < 0)
    (hb1 : n.toNatClampNeg * 4 ≤ 536870912) (hb2 : k.toNatClampNeg * 4 ≤ 536870912) (hcells : cells + (1 + n.toNatClampNeg) ≤ R.cells) (hslots : slots + (n.toNatClampNeg + n.toNatClampNeg * k.toNatClampNeg) ≤ R.slots) :
    ∃ (vm₁ : Vm) (c0 c1 : ClassId), s.WarmedH vm₁ ∧ s.vm.findClass "[[I" = some c0 ∧ s.vm.findClass "[I" = some c1 ∧
      Stand p l e R s m args below meth c (ow_grid (T.setVm vm₁) c0 c1 n.toNatClampNeg k.toNatClampNeg (.int 0) n.toNatClampNeg) locs (cells + 1 + n.toNatClampNeg) (slots + n.toNatClampNeg + n.toNatClampNeg * k.toNatClampNeg) ∧
      ∀ target, Steps p.tables e below ((ow_grid (T.setVm vm₁) c0 c1 n.toNatClampNeg k.toNatClampNeg (.int 0) n.toNatClampNeg).setTop { g with pc := g.pc + 4, stack := .ref T.heap.size :: rest }) target → Steps p.tables e below (T.setTop g) target := by
  subst hg
  have hpl : e.platform.magicAccessors = ({} : Platform).magicAccessors := by rw [X.admits.platform]
  obtain ⟨c1, c0, k0, f1, -, hk0, hd0, f0⟩ := ow_over hov
  obtain ⟨c1', k1, cc, f1', hk1, hd1⟩ := Cond.arrayClass_spec hac
  cases Option.some.inj (f1'.symm.trans f1)
  obtain ⟨c0', f0', hl⟩ := Cond.classLink_spec hown hcl e.platform hpl
  cases Option.some.inj (f0.symm.trans f0')
  obtain ⟨hgv, hW, -⟩ := State.classEntry (e := e) X.warmed hl
  generalize T.vm.noted g.method.cls index (.cls c0) = vm₁ at hgv hW
  obtain ⟨q0, hq0, e0⟩ := hW.alike.2.2 _ _ hk0
  obtain ⟨q1, hq1, e1⟩ := hW.alike.2.2 _ _ hk1
  have X1 := X.noted hW
  have XF := ow_stand X1 c0 c1 n.toNatClampNeg k.toNatClampNeg (.int 0) n.toNatClampNeg
  refine ⟨vm₁, c0, c1, hW, f0, f1, XF, fun target hrest => ?_⟩
  have hr1 := X.cellsAbove hcells
  have hr2 := X.slotsAbove hslots
  have hlim := Launch.admits_arrayLengthLimit X.admits
  have hbyt := Launch.admits_maxHeapBytes X.admits
  jvm_step X.here [hexec, hdg]
  simp only [multianewarray.sem, wp_bind', W.resolveClassAt_links (State.method?_setTop g X.here.top) hgv]
  rw [W.popN, if_neg (by decide)]
  refine ⟨g, State.topJava?_setTop' (s := T.setVm vm₁) g X.here.top, [.int n, .int k], rest, rfl, hst, ?_⟩
  simp only [List.mapM_cons, List.mapM_nil, wp_bind', wp_pure']
  have hS : ((T.setTop g).setVm vm₁).setTop { g with stack := rest } = (T.setVm vm₁).setTop { g with stack := rest } := by
    show ((T.setVm vm₁).setTop g).setTop _ = _
    rw [State.setTop_setTop]
  rw [hS]
  refine ow_make (k := q0) (k1 := q1) (cc := cc) hq0 (by rw [e0]; exact hd0) hq1 (by rw [e1]; exact hd1) hn hk (by rw [hlim]; omega) (by rw [hbyt]; omega) (by rw [hlim]; omega) (by rw [hbyt]; omega)
    (by show T.heap.size + 1 + _ ≤ _; omega) (by show T.slotsUsed + _ + _ ≤ _; omega) fun d' acts' => ?_
  have hC : ow_grid ((T.setVm vm₁).setTop { g with stack := rest }) c0 c1 n.toNatClampNeg k.toNatClampNeg (.int 0) n.toNatClampNeg = (ow_grid (T.setVm vm₁) c0 c1 n.toNatClampNeg k.toNatClampNeg (.int 0) n.toNatClampNeg).setTop { g with stack := rest } := rfl
  rw [hC]
  simp only [wp_bind', W.mark, W.pushRef, State.topJava?_setTop' _ XF.here.top, Option.some.injEq, exists_eq_left', State.setTop_setTop, State.heap_setTop]
  intro acts
  simp [jvm, XF.here.top]
  exact hrest
end OS
/-! ### an exception's constructor E(String), whose own call up may stand anywhere in its pool -/
/-- the words that its making and throwing ask -/
def ow_words (own : String) (ic : Nat) (X : String) (ix : Nat) (rx : ByteArray) (names : List String) : List Cond :=
  [.methodLink own ic (Bundle.initS X), .instantiable X 6, .selects X Bundle.tFill0 Bundle.tFill0, .selects X Bundle.tFill Bundle.tFill, .fieldLink Bundle.tN 198 Bundle.tN "backtrace" "Ljava/lang/Object;",
    .isRef (.static Bundle.tN "UNASSIGNED_STACK" Bundle.steD), .isRef (.static Bundle.tN "SUPPRESSED_SENTINEL" Bundle.listD), .lays Bundle.tN Bundle.tN "backtrace" "Ljava/lang/Object;"] ++
  [("cause", "Ljava/lang/Throwable;"), ("stackTrace", Bundle.steD), ("suppressedExceptions", Bundle.listD), ("detailMessage", "Ljava/lang/String;"), ("backtrace", "Ljava/lang/Object;")].map (fun f => Cond.lays X Bundle.tN f.1 f.2) ++
  Bundle.passSAtoms X (names.headD Bundle.tN) ix rx ++ (match names with | [] => [] | Y :: r => Bundle.chainSAtoms Y r) ++ (Bundle.throwableAtoms ++ Bundle.throwableSAtoms)
theorem ow_chain {A : Array Value} {u : State} {pl : Platform} (hpl : pl.magicAccessors = ({} : Platform).magicAccessors) {top : MethodId} (htop : u.methodNamed? (Bundle.initS Bundle.tN) = some top) {own X : String} {ic ix : Nat} {rx : ByteArray} {names : List String}
    (x0 : decode rx 0 = .ok (.aload_n 0, 1)) (x1 : decode rx 1 = .ok (.aload_n 1, 1)) (x2 : decode rx 2 = .ok (.invokespecial ix, 3)) (x5 : decode rx 5 = .ok (.return_, 1))
    (hX : Bundle.fit X = true) (hn : ∀ n ∈ names, Bundle.fit n = true) (h : ∀ w ∈ ow_words own ic X ix rx names, w.before A u = true) :
    ∃ (P1 : PassC) (Ps : List PassC), Ps.length = names.length ∧ P1.LinksS pl u ∧ (∀ P ∈ Ps, P.LinksS pl u) ∧ u.methodNamed? (Bundle.initS X) = some P1.m ∧ P1.sup = firstOf top (Ps.map (·.toPassT)) ∧ PassesOn top (Ps.map (·.toPassT)) := by
  have hp : ∀ w ∈ Bundle.passSAtoms X (names.headD Bundle.tN) ix rx, w.before A u = true := fun w hw => h w (by simp only [ow_words, List.mem_append]; exact Or.inl (Or.inl (Or.inr hw)))
  obtain ⟨P, L, hm, hs⟩ := PassC.ofS_atoms (args := A) (s := u) hpl (X := X) (Y := names.headD Bundle.tN) (Bundle.fit_spec hX).1 (by
    cases names with
    | nil => decide
    | cons Y r => exact (Bundle.fit_spec (hn Y List.mem_cons_self)).2) x0 x1 x2 x5 hp
  cases names with
  | nil => exact ⟨P, [], rfl, L, (fun _ h => nomatch h), hm, Option.some.inj (hs.symm.trans htop), trivial⟩
  | cons Y r =>
    obtain ⟨P', Ps, hlen, L', hL, hm', hup, hon⟩ := Bundle.chainS (args := A) hpl htop r Y (hn Y List.mem_cons_self) (fun n h' => hn n (List.mem_cons_of_mem _ h')) (fun w hw => h w (by simp [ow_words, hw]))
    exact ⟨P, P' :: Ps, congrArg Nat.succ hlen, L, List.forall_mem_cons.mpr ⟨L', hL⟩, hm, Option.some.inj (hs.symm.trans hm'), hup, hon⟩
theorem ow_sel {l : Launch} {e : Env} (ha : l.admits e) {A : Array Value} {u : State} {X : String} {t : MethodName} {mt : MethodId} {cX : ClassId} (hn : u.methodNamed? t = some mt) (ht : t.cls ≠ "java/lang/invoke/MethodHandle" ∧ t.cls ≠ "java/lang/invoke/VarHandle")
    (hX : u.vm.findClass X = some cX) (h : (Cond.selects X t t).before A u = true) : selectMethod e.platform u.vm cX mt = .method mt := by
  obtain ⟨c2, r2, m2, q1, q2, q3, q4, -⟩ := Cond.selects_spec h
  rw [hX] at q1
  rw [State.methodFound?_of_named hn ht] at q2
  rw [hn] at q3
  cases q1; cases q2; cases q3
  rw [Launch.admits_selectMethod ha]
  exact q4
section OT
variable {p : Program} {l : Launch} {e : Env} {R : Room} {s : State} {m : MethodId} {args : Array Value} {below : List Frame} {meth : Method} {c : Code} {T : State} {locs : List Loc} {cells slots : Nat}
set_option maxHeartbeats 4000000 in
/-- 'throw new X(text)', from the call of the constructor on, where no traces are kept: the new object alone changes, and the method is left -/
theorem ow_throw (S : Stand p l e R s m args below meth c T locs cells slots) (hexec : p.tables.exec = Jvm.exec) (htr : e.platform.stackTraces = false) (hlocs : ∀ x ∈ locs, ∀ cell, s.heap[x.base]? = some cell → cell.vm.isStatics = false)
    {own X : String} {names : List String} {ic ix : Nat} {rx : ByteArray} (x0 : decode rx 0 = .ok (.aload_n 0, 1)) (x1 : decode rx 1 = .ok (.aload_n 1, 1)) (x2 : decode rx 2 = .ok (.invokespecial ix, 3)) (x5 : decode rx 5 = .ok (.return_, 1))
    (hown : s.vm.findClass own = some m.cls) (hX : Bundle.fit X = true) (hn : ∀ n ∈ names, Bundle.fit n = true) (h : ∀ w ∈ ow_words own ic X ix rx names, w.before args s = true)
    {q : Addr} {cX : ClassId} {kX : Class} (hfX : s.vm.findClass X = some cX) (hkX : s.vm.classes[cX]? = some kX) (hq : T.heap[q]? = some (freshCell cX kX)) (hnew : s.heap.size ≤ q) {tx : Value} (htx : tx.isRef = true)
    {g : JFrame} (hg : g.method = m) (hsz : g.locals.size = c.maxLocals) (hlk : g.locked = none) (hen : g.entered = []) {rest : List Value} (hst : g.stack = tx :: .ref q :: .ref q :: rest)
    (d0 : decode c.code g.pc = .ok (.invokespecial ic, 3)) (d3 : decode c.code (g.pc + 3) = .ok (.athrow, 1)) (hout : ∀ x ∈ c.exceptionTable.toList, covers x (g.pc + 3) = false)
    (hRf : names.length + 3 < R.frames) (hRl : 2 * g.monitorRoom + ((Value.ref q :: rest).map fun v => v.category).sum + (13 * (names.length + 1) + 42) ≤ R.locals) (hlocks : meth.locks = false) :
    ∃ U : State, Steps p.tables e below (T.setTop g) U ∧ U.status = .running ∧ Ended U below (.threw q) ∧ s.WarmedH U.vm ∧ s.sameButNew ({ U with vm := s.vm } : State) locs cells slots ∧ (∀ z : Nat, z ≠ q → U.heap[z]? = T.heap[z]?) ∧ T.heap.size ≤ U.heap.size ∧ ∃ ce, U.heap[q]? = some ce ∧ ce.cls = cX ∧ ce.vm = .none := by
  have hpl : e.platform.magicAccessors = ({} : Platform).magicAccessors := by rw [S.admits.platform]
  obtain ⟨V, Z0, L, LZ0, Y⟩ := ThrowableC.of_atoms (args := args) (s := s) (pl := e.platform) (by rw [S.admits.platform]) (by rw [S.admits.platform]) hpl (fun w hw => h w (by simp [ow_words, hw]))
  obtain ⟨Z, M, LZ, LM, hZ⟩ := Init0T.ofS_atoms (args := args) hpl L Y (fun w hw => h w (by simp [ow_words, hw]))
  obtain ⟨P, Ps, hlen, LP, LPs, hP, hup, hon⟩ := ow_chain (A := args) hpl hZ x0 x1 x2 x5 hX hn h
  cases hfX.symm.trans (findClass_of_methodNamed hP)
  obtain ⟨cI, kI, i1, i2, hord, -, -, -⟩ := Cond.instantiable_spec (h (.instantiable X 6) (by simp [ow_words]))
  cases hfX.symm.trans i1
  cases hkX.symm.trans i2
  /- the statics of Throwable, as they still stand -/
  obtain ⟨zc, hz, hzs⟩ := Y.statics
  obtain ⟨u0, hu0⟩ := Cond.staticRefV Y.unassigned L.unassignedStatic L.statics hz hzs (h (.isRef (.static Bundle.tN "UNASSIGNED_STACK" Bundle.steD)) (by simp [ow_words]))
  obtain ⟨u1, hu1⟩ := Cond.staticRefV Y.sentinel L.sentinelStatic L.statics hz hzs (h (.isRef (.static Bundle.tN "SUPPRESSED_SENTINEL" Bundle.listD)) (by simp [ow_words]))
  obtain ⟨zc', hz', hvm', -, hzk⟩ := S.same.2.2.2.2.2 V.aS zc hz
  have hfar : ∀ i, zc'.slots[i]? = zc.slots[i]? := fun i => hzk i fun hm => absurd (hlocs _ hm zc hz) (by rw [hzs]; decide)
  have hzu : zc'.vm ≠ .unknown := fun hu => by
    have hv : zc'.vm = zc.vm := by rw [hvm']
    rw [← hv, hu] at hzs
    cases hzs
  have hzq : V.aS ≠ q := fun hh => Nat.lt_irrefl _ (Nat.lt_of_lt_of_le (Array.getElem?_eq_some_iff.mp hz).1 (hh ▸ hnew))
  /- the fields of the new object -/
  have hlay : ∀ n d, (n, d) ∈ [("cause", "Ljava/lang/Throwable;"), ("stackTrace", Bundle.steD), ("suppressedExceptions", Bundle.listD), ("detailMessage", "Ljava/lang/String;"), ("backtrace", "Ljava/lang/Object;")] → (Cond.lays X Bundle.tN n d).before args s = true :=
    fun n d hm => h _ (by simp only [ow_words, List.mem_append]; exact Or.inl (Or.inl (Or.inl (Or.inr (List.mem_map.mpr ⟨(n, d), hm, rfl⟩)))))
  obtain ⟨iM, hfM⟩ := Y.msg
  obtain ⟨b1, b2, fB, hb1, hb2, hb3, hb4, -, nB, tB, hfB⟩ := Cond.ownField (t := .object "java/lang/Object") Y.found L.cls (by decide +kernel) (h (.fieldLink Bundle.tN 198 Bundle.tN "backtrace" "Ljava/lang/Object;") (by simp [ow_words])) (h (.lays Bundle.tN Bundle.tN "backtrace" "Ljava/lang/Object;") (by simp [ow_words])) e.platform hpl
  obtain ⟨yC, wC, aC, oC⟩ := Cond.laysAt hfX hkX Y.cause (hlay "cause" "Ljava/lang/Throwable;" (by simp))
  obtain ⟨yS, wS, aS, oS⟩ := Cond.laysAt hfX hkX Y.stack (hlay "stackTrace" Bundle.steD (by simp))
  obtain ⟨yP, wP, aP, oP⟩ := Cond.laysAt hfX hkX Y.supp (hlay "suppressedExceptions" Bundle.listD (by simp))
  obtain ⟨yM, wM, aM, oM⟩ := Cond.laysAt hfX hkX hfM (hlay "detailMessage" "Ljava/lang/String;" (by simp))
  obtain ⟨yB, wB, aB, oB⟩ := Cond.laysAt hfX hkX hfB (hlay "backtrace" "Ljava/lang/Object;" (by simp))
  have n1 : fB.slot ≠ V.fCause.slot := Cond.laysApart aB aC oB oC (by rw [nB, Y.causeName]; decide)
  have n2 : fB.slot ≠ V.fStack.slot := Cond.laysApart aB aS oB oS (by rw [nB, Y.stackName]; decide)
  have n3 : fB.slot ≠ V.fSupp.slot := Cond.laysApart aB aP oB oP (by rw [nB, Y.suppName]; decide)
  have hskip : SkipFacts V e.platform s (fun u => u) u0 ((preparedCellV V.toThrowableT (freshCell P.m.cls kX) q u0 u1).withEntry T.cur) := by
    refine ⟨{ ci198 := b1, i198 := b2, fBack := fB }, ⟨hb1, hb2, hb3, hb4⟩, ?_, fun _ _ => rfl⟩
    have hdf := fresh_default (c := P.m.cls) yB
    rw [tB] at hdf
    simpa [preparedCellV, Cell.setSlot, Cell.withEntry, Array.getElem?_setIfInBounds, n1, n2, n3, n1.symm, n2.symm, n3.symm, defaultValue] using hdf
  /- the call, the constructors, the throw -/
  have hpass : ∀ w ∈ Bundle.passSAtoms X (names.headD Bundle.tN) ix rx, w.before args s = true := fun w hw => h w (by simp only [ow_words, List.mem_append]; exact Or.inl (Or.inl (Or.inr hw)))
  obtain ⟨mi, -, -, -, vm1, hmi, -, -, -, -, -, -, -, hW1, st1⟩ := Steps.initColdS (tb := p.tables) (e := e) (below := below) (s := s) (U := T) S.here hexec S.warmed hpl hown (t := Bundle.initS X) rfl rfl (Bundle.fit_spec hX).2
    (h (.methodLink own ic (Bundle.initS X)) (by simp [ow_words])) (hpass _ (by simp [Bundle.passSAtoms])) (bytes := rx) (maxL := 2) (hpass _ (by simp [Bundle.passSAtoms])) (f := g) hg (a := q) (msg := tx) (rest := .ref q :: rest) hst d0
  cases hmi.symm.trans hP
  obtain ⟨vm2, S2, st2⟩ := (S.noted hW1).ctorMessageOffV hexec (g := { g with stack := .ref q :: rest }) hg hsz V L Z LZ M LM (P :: Ps) (List.forall_mem_cons.mpr ⟨LP, LPs⟩) ⟨hup, hon⟩ (u0 := u0) (sen := u1) (self := q) htx (cell := freshCell P.m.cls kX) (cellS := zc')
    hq (fun _ => by simp) (by simp) rfl rfl
    (ow_sel S.admits Y.fill0 (by decide) hfX (h (.selects X Bundle.tFill0 Bundle.tFill0) (by simp [ow_words]))) (ow_sel S.admits Y.fill (by decide) hfX (h (.selects X Bundle.tFill Bundle.tFill) (by simp [ow_words])))
    hz' hzq hzu (by rw [hfar]; exact hu0) (by rw [hfar]; exact hu1)
    (Takes.of_laid hkX hord yC (by rw [Y.causeType]; rfl)) (Takes.of_laid hkX hord yS (by rw [Y.stackType]; exact fits_refV_array _ u0)) (Takes.of_laid hkX hord yP (by rw [Y.suppType]; exact fits_refV_object _ u1)) (Takes.of_laid hkX hord yM (by rw [Y.msgType]; exact fits_refV_object _ ⟨tx, htx⟩))
    Y.objLocals hskip htr [] d0 (by rw [List.length_cons, hlen]; omega) (by rw [List.length_cons, hlen]; exact hRl)
  obtain ⟨st3, hrun, hend, hWU, hsame⟩ := S2.athrowLeaves hexec (g := { g with stack := .ref q :: rest, pc := g.pc + 3 }) hg hlk hen hout (a := q) (rest := rest) rfl d3 hlocks
  refine ⟨_, st1 _ (fun acts => by rw [doInvoke_state]; exact st2 _ st3), hrun, hend, hWU, hsame.weaken (fun y hy hlt => ?_) (Nat.le_refl _) (Nat.le_refl _), fun z hz => ?_, ?_, _, heapAt_setCell_self (s := (T.setVm vm1).setVm vm2) _ (Array.getElem?_eq_some_iff.mp hq).1, rfl, rfl⟩
  · rcases List.mem_append.mp hy with h1 | h1
    · exact h1
    · have hb : y.base = q := by
        simp only [List.mem_cons, List.not_mem_nil, or_false] at h1
        rcases h1 with rfl | rfl | rfl | rfl | rfl <;> rfl
      exact absurd (hb ▸ hlt) (Nat.not_lt.mpr hnew)
  · show ((((T.setVm vm1).setVm vm2).setCell q _).setFrames _).heap[z]? = T.heap[z]?
    simp [State.setCell, State.setFrames, Array.getElem?_setIfInBounds, Ne.symm hz]
  · show T.heap.size ≤ ((((T.setVm vm1).setVm vm2).setCell q _).setFrames _).heap.size
    simp [State.setCell, State.setFrames]
end OT
/-! ### a callee that throws, and the handler -/
section OC
variable {p : Program} {l : Launch} {e : Env} {R : Room} {s : State} {m : MethodId} {args : Array Value} {below : List Frame} {meth : Method} {c : Code} {T : State} {locs : List Loc} {cells slots : Nat}
/-- the call of a method whose contract says that it throws -/
theorem ow_call (X : Stand p l e R s m args below meth c T locs cells slots) {y : MethodName} {sp : Spec} {P : Array Value → State → Prop} {Q : Array Value → State → Outcome → State → Prop} {bytes : ByteArray} {maxL w k0 n0 : Nat} {ret : Option FieldType}
    (hM : MetFree l y sp P (fun _ _ _ _ _ => True) Q) {g : JFrame} (hg : g.method = m) (hsz : g.locals.size = c.maxLocals) {ig : Instr} {len : Nat} (hdg : decode c.code g.pc = .ok (ig, len)) (hw : 2 * g.monitorRoom + (g.stack.map fun v => v.category).sum ≤ w)
    {mk : MethodId} (hn : T.methodNamed? y = some mk) {a : Array Value} (hpre : sp.pre.before a T = true) (hcode : (Cond.code y bytes maxL ret).before a T = true) (hini : (Cond.initialized y.cls).before a T = true)
    (hf : sp.room.frames + 1 ≤ R.frames) (hl : w + (maxL + 11) + sp.room.locals ≤ R.locals) (hc : cells + sp.room.cells ≤ R.cells) (hs : slots + sp.room.slots ≤ R.slots) (hP : P a (T.calling g mk a)) {E : Addr → List Loc → Heap → Prop}
    (hQ : ∀ o t, Q a (T.calling g mk a) o t → ∃ q L, o = .threw q ∧ (T.calling g mk a).WarmedH t.vm ∧ (T.calling g mk a).sameButNew ({ t with vm := (T.calling g mk a).vm } : State) L k0 n0 ∧ E q L t.heap) :
    ∃ q L B, Stand p l e R s m args below meth c B (locs ++ L) (cells + k0) (slots + n0) ∧ E q L B.heap ∧ Steps p.tables e below (doInvoke e (T.setTop g) [] mk a).1 ((B.setTop g).pushFrame (.throwing q)) := by
  subst hg
  obtain ⟨my, cy, h1, h2, -, h3, -⟩ := Cond.code_spec hn hcode
  obtain ⟨ky, hk, -⟩ := className_of_methodNamed hn
  obtain ⟨g0, hfr⟩ := X.frames_eq
  have hap := Spec.appliesLoose_calling (e := e) (g := g) (args := a) (S := sp) X.here hdg hn hk (Cond.initialized_spec (findClass_of_methodNamed hn) hk hini) (X.room_calling hsz h1 h2 hf (by rw [h3]; omega) hc hs) hpre
  have hfr' : (T.setTop g).frames = [.java g] ++ below := State.frames_setTop _ hfr
  obtain ⟨o, t, st, -, hend, hq⟩ := Steps.callFree hM p X.admits X.cas X.clock (acts := []) hfr' hap hP trivial
  obtain ⟨q, L, rfl, hW, hsm, hE⟩ := hQ o t hq
  rw [hfr'] at hend
  obtain ⟨B, XB, -, -, rfl⟩ := X.outOfThrown rfl hend hW hsm
  exact ⟨q, L, B, XB, by rwa [Stand.throwing_heap] at hE, st⟩
end OC
section OH
variable {E : CtlPost} {e : Env} {d : Bool} {acts : List Action} {s S : State} {f : JFrame} {a : Addr} {Q : Handler → Pre}
/-- a row that covers the place and whose class is in the tables: it is asked, and noted -/
theorem ow_look {y : ExceptionTableEntry} {t : List ExceptionTableEntry} {cc : ClassId} {cell : Cell} (hy : covers y f.pc = true) (h0 : y.catchType ≠ 0) (hl : S.vm.ClassLinks e.platform f.method.cls y.catchType cc) (hcell : S.heap[a]? = some cell) (hobj : cell.vm = .none)
    (hk : ∃ k, S.vm.classes[cell.cls]? = some k) (hc : ∃ k, S.vm.classes[cc]? = some k) {b : Bool} (hb : S.vm.assignable cell.cls cc = b) :
    wp (findHandler.go f a (y :: t)) Q E e d acts S ↔ if b = true then Q (.found y.handlerPc) d acts (S.setVm (S.vm.noted f.method.cls y.catchType (.cls cc))) else wp (findHandler.go f a t) Q E e d acts (S.setVm (S.vm.noted f.method.cls y.catchType (.cls cc))) := by
  obtain ⟨g1, g2⟩ := (resolveClass_links e.toSetting hl).op (op := VmOp.resolveClass f.method.cls y.catchType) rfl
  have hA : S.vm.Alike (S.vm.noted f.method.cls y.catchType (.cls cc)) := (Vm.Alike.refl S.vm).noted _ _ _
  obtain ⟨k1, hk1⟩ := hk
  obtain ⟨k2, hk2⟩ := hc
  obtain ⟨k1', hk1', -⟩ := hA.2.2 _ _ hk1
  obtain ⟨k2', hk2', -⟩ := hA.2.2 _ _ hk2
  have hb' : (S.vm.noted f.method.cls y.catchType (.cls cc)).assignable cell.cls cc = b := by rw [hA.assignable]; exact hb
  have hobj' : ∀ k, cell.vm ≠ .statics k := fun k h => by rw [hobj] at h; cases h
  simp only [covers] at hy
  cases b <;> simp [findHandler.go, hy, h0, g1, g2, hcell, hobj', hk1', hk2', hb', VmOp.dirties, VmOp.acts]
end OH
section OF
variable {e : Env} {s : State} {f : JFrame} {a : Addr} {cell : Cell}
/-- rows that are asked in vain, then one that takes the object: where the search ends, and what the tables know then -/
theorem ow_find (hobj : cell.vm = .none) (hk : ∃ k, s.vm.classes[cell.cls]? = some k) {x : ExceptionTableEntry} {suf : List ExceptionTableEntry} (hx : covers x f.pc = true) (h0 : x.catchType ≠ 0) {cx : ClassId} (hl : s.vm.ClassLinks e.platform f.method.cls x.catchType cx) (hfit : s.vm.assignable cell.cls cx = true)
    (pre : List ExceptionTableEntry) (hpre : ∀ z ∈ pre, z.catchType ≠ 0 ∧ ∃ cz, s.vm.ClassLinks e.platform f.method.cls z.catchType cz ∧ s.vm.assignable cell.cls cz = false) (S : State) (hW : s.WarmedH S.vm) (hcell : S.heap[a]? = some cell) :
    ∃ vm', s.WarmedH vm' ∧ ∀ (Q : Handler → Pre) (E : CtlPost) (d : Bool) (acts : List Action), wp (findHandler.go f a (pre ++ x :: suf)) Q E e d acts S ↔ Q (.found x.handlerPc) d acts (S.setVm vm') := by
  have there : ∀ {vm : Vm} {i : ClassId}, s.WarmedH vm → (∃ k, s.vm.classes[i]? = some k) → ∃ k, vm.classes[i]? = some k := fun hv ⟨k, h⟩ => (hv.alike.2.2 _ _ h).elim fun k' h' => ⟨k', h'.1⟩
  have cls : ∀ {i : Nat} {cz : ClassId}, s.vm.ClassLinks e.platform f.method.cls i cz → ∃ k, s.vm.classes[cz]? = some k := fun h => by
    obtain ⟨_, _, _, kt, _, _, _, _, _, hkt, _, _⟩ := h.here
    exact ⟨kt, hkt⟩
  induction pre generalizing S with
  | nil =>
    refine ⟨_, (State.classEntry (e := e) hW hl).2.1, fun Q E d acts => ?_⟩
    rw [List.nil_append, ow_look hx h0 (hW.classLinks hl) hcell hobj (there hW hk) (there hW (cls hl)) (b := true) (by rw [hW.alike.assignable]; exact hfit)]
    simp
  | cons z zs ih =>
    obtain ⟨z0, cz, hz, hno⟩ := hpre z List.mem_cons_self
    cases hcov : covers z f.pc with
    | false =>
      obtain ⟨vm', hW', hq⟩ := ih (fun y hy => hpre y (List.mem_cons_of_mem _ hy)) S hW hcell
      exact ⟨vm', hW', fun Q E d acts => by rw [List.cons_append, W.findHandler_go_skip hcov]; exact hq Q E d acts⟩
    | true =>
      obtain ⟨vm', hW', hq⟩ := ih (fun y hy => hpre y (List.mem_cons_of_mem _ hy)) (S.setVm (S.vm.noted f.method.cls z.catchType (.cls cz))) (State.classEntry (e := e) hW hz).2.1 hcell
      refine ⟨vm', hW', fun Q E d acts => ?_⟩
      rw [List.cons_append, ow_look hcov z0 (hW.classLinks hz) hcell hobj (there hW hk) (there hW (cls hz)) (b := false) (by rw [hW.alike.assignable]; exact hno)]
      rw [if_neg Bool.false_ne_true]
      exact hq Q E d acts
end OF
section OK
variable {p : Program} {l : Launch} {e : Env} {R : Room} {s : State} {m : MethodId} {args : Array Value} {below : List Frame} {meth : Method} {c : Code} {T : State} {locs : List Loc} {cells slots : Nat}
/-- into the handler -/
theorem ow_caught (X : Stand p l e R s m args below meth c T locs cells slots) (q : Addr) {g : JFrame} (hg : g.method = m) {cell : Cell} (hcell : T.heap[q]? = some cell) (hobj : cell.vm = .none) (hk : ∃ k, s.vm.classes[cell.cls]? = some k)
    {pre suf : List ExceptionTableEntry} {x : ExceptionTableEntry} (hsplit : c.exceptionTable.toList = pre ++ x :: suf) (hpre : ∀ z ∈ pre, z.catchType ≠ 0 ∧ ∃ cz, s.vm.ClassLinks e.platform m.cls z.catchType cz ∧ s.vm.assignable cell.cls cz = false)
    (hx : covers x g.pc = true) (h0 : x.catchType ≠ 0) {cx : ClassId} (hl : s.vm.ClassLinks e.platform m.cls x.catchType cx) (hfit : s.vm.assignable cell.cls cx = true) :
    ∃ vm', Stand p l e R s m args below meth c (T.setVm vm') locs cells slots ∧ Steps p.tables e below ((T.setTop g).pushFrame (.throwing q)) ((T.setVm vm').setTop { g with pc := x.handlerPc, stack := [.ref q] }) := by
  subst hg
  obtain ⟨vm', hW', hq⟩ := ow_find (e := e) (f := g) (a := q) (suf := suf) hobj hk hx h0 hl hfit pre hpre ((T.setTop g).pushFrame (.throwing q)) (by rw [Stand.throwing_vm]; exact X.warmed) (by rw [Stand.throwing_heap]; exact hcell)
  have hfind : ∀ (Q : Handler → Pre) (E : CtlPost) (d : Bool) (acts : List Action), wp (findHandler g q) Q E e d acts ((T.setTop g).pushFrame (.throwing q)) ↔ Q (.found x.handlerPc) d acts (((T.setTop g).pushFrame (.throwing q)).setVm vm') := fun Q E d acts => by
    rw [W.findHandler_eq (meth := meth) (code := c) (by rw [Stand.throwing_vm]; exact X.method') X.code, hsplit]
    exact hq Q E d acts
  refine ⟨vm', X.noted hW', ?_⟩
  obtain ⟨go, inn⟩ := X.here.throwing q
  refine Steps.head go inn ?_
  have hstep : (stepThrowing e ((T.setTop g).pushFrame (.throwing q)) q (.java g :: below)).Is ((((T.setTop g).pushFrame (.throwing q)).setVm vm').setFrames (.java { g with pc := x.handlerPc, stack := [.ref q] } :: below)) [] := by
    simp only [stepThrowing, searchFrame, vmDo]
    generalize hr : Sem.go _ e false [] ((T.setTop g).pushFrame (.throwing q)) = res
    obtain ⟨as, rfl, ha⟩ := Sem.eq_ok_of hr (a := Handler.found x.handlerPc) (s' := ((T.setTop g).pushFrame (.throwing q)).setVm vm') (acts' := [])
      (by simp [hfind])
    exact ⟨rfl, ha⟩
  obtain ⟨g0, hfr⟩ := X.frames_eq
  have hfr2 : ((T.setTop g).pushFrame (.throwing q)).frames = .throwing q :: .java g :: below := by
    rw [frames_entered X.here.top, hfr]
    rfl
  rw [stepThread_throwing hfr2, hstep.1]
  have hend : (((T.setTop g).pushFrame (.throwing q)).setVm vm').setFrames (.java { g with pc := x.handlerPc, stack := [.ref q] } :: below) = (T.setVm vm').setTop { g with pc := x.handlerPc, stack := [.ref q] } := by
    rw [State.setTop_of_frames (s := T.setVm vm') _ (show (T.setVm vm').frames = .java g0 :: below from hfr)]
    show ((((T.setVm vm').setTop g).pushFrame (.throwing q)).setFrames _) = _
    rw [State.pushFrame, State.setFrames_setFrames, State.setTop_of_frames (s := T.setVm vm') _ (show (T.setVm vm').frames = .java g0 :: below from hfr), State.setFrames_setFrames]
  rw [hend]
  exact Steps.refl _
end OK
/-- a class that can not be cast to another: no object of it is taken there -/
theorem ow_no {A : Array Value} {u : State} {n1 n2 : String} {i1 i2 : ClassId} (h : (Cond.not (.castable n1 n2)).before A u = true) (h1 : u.vm.findClass n1 = some i1) (h2 : u.vm.findClass n2 = some i2) : u.vm.assignable i1 i2 = false := by
  have hv := Cond.holds_not_iff.mp h
  simp only [Cond.value, h1, h2] at hv
  exact Option.some.inj hv
