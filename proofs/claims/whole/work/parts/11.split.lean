/-! worlds in two parts: a callee that has the last part alone -/
section SP
variable {D : va_G} {A : Nat → Prop} {s : State} {a b wr wc w1 : va_W} {H H1 : Heap} {locs locs1 : List Loc}
theorem P_left {cl : List vw_C} (h : va_P D cl (a ++ b) H) : va_P D cl a H := fun k q hk => h k q (by rw [List.getElem?_append_left (List.getElem?_eq_some_iff.mp hk).1]; exact hk)
theorem P_right {cl : List vw_C} (h : va_P D cl (a ++ b) H) : va_P D cl b H := fun k q hk => h (a.length + k) q (by rw [List.getElem?_append_right (Nat.le_add_right _ _), Nat.add_sub_cancel_left]; exact hk)
theorem D_left (h : va_D A (a ++ b)) : va_D A a := ⟨fun i j p q hi hj => h.1 i j p q (by rw [List.getElem?_append_left (List.getElem?_eq_some_iff.mp hi).1]; exact hi) (by rw [List.getElem?_append_left (List.getElem?_eq_some_iff.mp hj).1]; exact hj), fun k q hk => h.2 k q (by rw [List.getElem?_append_left (List.getElem?_eq_some_iff.mp hk).1]; exact hk)⟩
theorem at_right {k : Nat} {q : Nat × va_E} (hk : b[k]? = some q) : (a ++ b)[a.length + k]? = some q := by rw [List.getElem?_append_right (Nat.le_add_right _ _), Nat.add_sub_cancel_left]; exact hk
theorem at_left {k : Nat} {q : Nat × va_E} (hk : a[k]? = some q) : (a ++ b)[k]? = some q := by rw [List.getElem?_append_left (List.getElem?_eq_some_iff.mp hk).1]; exact hk
theorem D_right (h : va_D A (a ++ b)) : va_D A b := ⟨fun i j p q hi hj e => Nat.add_left_cancel (h.1 _ _ p q (at_right hi) (at_right hj) e), fun k q hk => h.2 _ q (at_right hk)⟩
theorem D_apart (h : va_D A (a ++ b)) {i j : Nat} {p q : Nat × va_E} (hi : a[i]? = some p) (hj : b[j]? = some q) : p.1 ≠ q.1 := fun e => by
  have h1 := h.1 _ _ p q (at_left hi) (at_right hj) e
  have h2 := (List.getElem?_eq_some_iff.mp hi).1
  omega
theorem Wd.swap (w : Wd D A s (a ++ b) H locs) : Wd D A s (b ++ a) H locs :=
  w.to ((P_right w.1).app (P_left w.1)) ((D_right w.2.1).app (D_left w.2.1) (fun i j p q hi hj e => D_apart w.2.1 hj hi e.symm)) w.2.2.1
theorem Wd.right (w : Wd D A s (a ++ b) H locs) : Wd D A s b H locs := w.to (P_right w.1) (D_right w.2.1) w.2.2.1
theorem Wd.left (w : Wd D A s (a ++ b) H locs) : Wd D A s a H locs := w.to (P_left w.1) (D_left w.2.1) w.2.2.1
theorem Wd.assoc {c : va_W} (w : Wd D A s (a ++ (b ++ c)) H locs) : Wd D A s ((a ++ b) ++ c) H locs := by rw [List.append_assoc]; exact w
theorem Wd.assoc' {c : va_W} (w : Wd D A s ((a ++ b) ++ c) H locs) : Wd D A s (a ++ (b ++ c)) H locs := by rw [← List.append_assoc]; exact w
theorem Wd.joinS (w : Wd D A s (wr ++ wc) H locs) (hk : ∀ q : Nat, q < H.size → ¬ va_A wc H.size q → H1[q]? = H[q]?) (hP1 : va_P D vCl w1 H1) (hD1 : va_D (va_A wc H.size) w1) (hS : va_S A s.heap H1 locs1) : Wd D A s (wr ++ w1) H1 locs1 := by
  have hf := w.right.fre
  have ap : ∀ (k : Nat) (x : Nat × va_E), wr[k]? = some x → x.1 < H.size ∧ ¬ va_A wc H.size x.1 := by
    intro k x hx
    have hl := (w.1 k x (at_left hx)).lt
    refine ⟨hl, fun h => ?_⟩
    rcases h with ⟨j, e, h⟩ | h
    · exact D_apart w.2.1 hx h rfl
    · omega
  refine w.to (va_P.app (fun k x hx => (w.1 k x (at_left hx)).kept (hk x.1 (ap k x hx).1 (ap k x hx).2)) hP1) ((D_left w.2.1).app (hD1.weaken (fun _ q _ h => hf q.1 h)) (fun i j p q hi hj e => (ap i p hi).2 (by rw [e]; exact hD1.2 j q hj))) hS
end SP
section SC
variable {p : Program} {l : Launch} {e : Env} {R : Room} {s : State} {m : MethodId} {args : Array Value} {below : List Frame} {meth : Method} {c : Code} {H : Heap} {locs : List Loc} {cells slots : Nat} {Q : State → Prop}
variable {cc : ByteArray} {pc nL : Nat} {ls : Array Slot} {rest : List Value} {own : String} {D : va_G} {ct : Nat → ClassId} {A : Nat → Prop}
variable {y : MethodName} {bytes : ByteArray} {maxL fr lo index n9 mc ms : Nat} {ret : Option FieldType} {As : List Value} {wr wc w1 : va_W}
theorem S_vi (C0 : Cx p s m args c cc nL own D ct) (w : Wd D A s (wr ++ wc) H locs) {b : Nat} (k : Nat) {ci : Nat} {fs : List Value} (he : wc[k]? = some (b, .inr (ci, fs))) {C : String} {T : u_T} {N : Nat} (hc : vCl[ci]? = some (C, T, N)) {r0 : Int32} (hM : KI l D ct y bytes maxL ret fr lo (.ref b :: As) wc r0 w1) (hcode : Cond.code y bytes maxL ret ∈ wT) (hlink : Cond.methodLink own index y ∈ wT) (hinst : Cond.instanceMethod y ∈ wT) (hsel : Cond.selects C y y ∈ wT) (hini : Cond.initialized y.cls ∈ wT)
    (hd : y.cls ≠ "java/lang/invoke/MethodHandle" ∧ y.cls ≠ "java/lang/invoke/VarHandle" ∧ (parseMethodDescriptor y.desc).map (fun d => d.parameters.length) = some n9) (hn9 : As.length = n9) (hR : fr + 1 ≤ R.frames ∧ 8 + (maxL + 11) + lo ≤ R.locals) (hls : ls.size = nL) {st0 : List Value} (hst : st0 = As.reverse ++ .ref b :: rest) (hrest : (rest.map fun v => v.category).sum ≤ 8) (hdg : decode cc pc = .ok (.invokevirtual index, 3)) (hcs : cells ≤ R.cells) (hss : slots ≤ R.slots)
    (kk : ∀ (H1 : Heap) (locs1 : List Loc), Wd D A s (wr ++ w1) H1 locs1 → W p l e R s m args below meth c H1 locs1 cells slots Q (F0 m (pc + 3) ls (.int r0 :: rest))) : W p l e R s m args below meth c H locs cells slots Q (F0 m pc ls st0) := by
  subst hst
  refine va_calli (va_runV (rest := rest) ⟨C0.1, C0.2.1, C0.2.2.1, C0.2.2.2.1, C0.2.2.2.2.1⟩ (hM H.size) ⟨cB_of C0 hcode hlink hini hd hR, C0.2.2.2.2.1 _ hinst, C0.2.2.2.2.1 _ hsel⟩ ⟨CP.blind, va_recv C0.2.2.2.2.2.1 (P_right w.1) hc he, fun U hU hW => ⟨rfl, CP.all C0.2.2.2.2.2.1 C0.2.2.2.2.2.2 w.right hU hW⟩⟩ rfl hn9 hls rfl (lv_room hrest) hdg ⟨hcs, hss⟩) w.2.2.1 (fun q _ h => w.right.fre q h) w.right.fre (fun r u t H1 locs1 ht hvm hr hB hz hk hS => ?_)
  subst hr
  obtain ⟨hP1, hD1⟩ := hB
  rw [ht] at hP1
  exact kk H1 locs1 (w.joinS hk hP1 hD1 hS)
theorem S_vv (C0 : Cx p s m args c cc nL own D ct) (w : Wd D A s (wr ++ wc) H locs) {b : Nat} (k : Nat) {ci : Nat} {fs : List Value} (he : wc[k]? = some (b, .inr (ci, fs))) {C : String} {T : u_T} {N : Nat} (hc : vCl[ci]? = some (C, T, N)) (hM : KV l D ct y bytes maxL fr lo 0 0 (.ref b :: As) wc (fun A t => CE D w1 A t)) (hcode : Cond.code y bytes maxL none ∈ wT) (hlink : Cond.methodLink own index y ∈ wT) (hinst : Cond.instanceMethod y ∈ wT) (hsel : Cond.selects C y y ∈ wT) (hini : Cond.initialized y.cls ∈ wT)
    (hd : y.cls ≠ "java/lang/invoke/MethodHandle" ∧ y.cls ≠ "java/lang/invoke/VarHandle" ∧ (parseMethodDescriptor y.desc).map (fun d => d.parameters.length) = some n9) (hn9 : As.length = n9) (hR : fr + 1 ≤ R.frames ∧ 8 + (maxL + 11) + lo ≤ R.locals) (hls : ls.size = nL) {st0 : List Value} (hst : st0 = As.reverse ++ .ref b :: rest) (hrest : (rest.map fun v => v.category).sum ≤ 8) (hdg : decode cc pc = .ok (.invokevirtual index, 3)) (hcs : cells ≤ R.cells) (hss : slots ≤ R.slots)
    (kk : ∀ (H1 : Heap) (locs1 : List Loc), Wd D A s (wr ++ w1) H1 locs1 → W p l e R s m args below meth c H1 locs1 cells slots Q (F0 m (pc + 3) ls rest)) : W p l e R s m args below meth c H locs cells slots Q (F0 m pc ls st0) := by
  subst hst
  refine va_callv (va_runV (rest := rest) ⟨C0.1, C0.2.1, C0.2.2.1, C0.2.2.2.1, C0.2.2.2.2.1⟩ (hM H.size) ⟨cB_of C0 hcode hlink hini hd hR, C0.2.2.2.2.1 _ hinst, C0.2.2.2.2.1 _ hsel⟩ ⟨CP.blind, va_recv C0.2.2.2.2.2.1 (P_right w.1) hc he, fun U hU hW => ⟨rfl, CP.all C0.2.2.2.2.2.1 C0.2.2.2.2.2.2 w.right hU hW⟩⟩ rfl hn9 hls rfl (lv_room hrest) hdg ⟨hcs, hss⟩) w.2.2.1 (fun q _ h => w.right.fre q h) w.right.fre (fun u t H1 locs1 ht hvm hr hB hz hk hS => ?_)
  obtain ⟨hP1, hD1⟩ := hB
  rw [ht] at hP1
  exact kk H1 locs1 (w.joinS hk hP1 hD1 hS)
theorem S_iv (C0 : Cx p s m args c cc nL own D ct) (w : Wd D A s (wr ++ wc) H locs) {b : Nat} {B : (Nat → Prop) → State → Prop} (hM : KV l D ct y bytes maxL fr lo mc ms (.ref b :: As) wc B) (hcode : Cond.code y bytes maxL none ∈ wT) (hlink : Cond.methodLink own index y ∈ wT) (hinst : Cond.instanceMethod y ∈ wT) (hini : Cond.initialized y.cls ∈ wT) (hy1 : y.name = "<init>")
    (hd : y.cls ≠ "java/lang/invoke/MethodHandle" ∧ y.cls ≠ "java/lang/invoke/VarHandle" ∧ (parseMethodDescriptor y.desc).map (fun d => d.parameters.length) = some n9) (hn9 : As.length = n9) (hR : fr + 1 ≤ R.frames ∧ 8 + (maxL + 11) + lo ≤ R.locals) (hls : ls.size = nL) {st0 : List Value} (hst : st0 = As.reverse ++ .ref b :: rest) (hrest : (rest.map fun v => v.category).sum ≤ 8) (hdg : decode cc pc = .ok (.invokespecial index, 3)) (hcs : cells + mc ≤ R.cells) (hss : slots + ms ≤ R.slots)
    (kk : ∀ (t : State) (H1 : Heap) (locs1 : List Loc), t.heap = H1 → B (va_A wc H.size) t → (∀ w1 : va_W, CE D w1 (va_A wc H.size) t → Wd D A s (wr ++ w1) H1 locs1) → W p l e R s m args below meth c H1 locs1 (cells + mc) (slots + ms) Q (F0 m (pc + 3) ls rest)) : W p l e R s m args below meth c H locs cells slots Q (F0 m pc ls st0) := by
  subst hst
  refine va_callv (va_runI (rest := rest) ⟨C0.1, C0.2.1, C0.2.2.1, C0.2.2.2.1, C0.2.2.2.2.1⟩ (hM H.size) ⟨cB_of C0 hcode hlink hini hd hR, hy1, C0.2.2.2.2.1 _ hinst⟩ ⟨CP.blind, fun U hU hW => ⟨rfl, CP.all C0.2.2.2.2.2.1 C0.2.2.2.2.2.2 w.right hU hW⟩⟩ rfl hn9 hls rfl (lv_room hrest) hdg ⟨hcs, hss⟩) w.2.2.1 (fun q _ h => w.right.fre q h) w.right.fre (fun u t H1 locs1 ht hvm hr hB hz hk hS => ?_)
  refine kk t H1 locs1 ht hB (fun w1 hE => w.joinS hk (by rw [← ht]; exact hE.1) hE.2 hS)
theorem S_ivN (C0 : Cx p s m args c cc nL own D ct) (w : Wd D A s (wr ++ wc) H locs) {b : Nat} {B : (Nat → Prop) → State → Prop} (hM : KV l D ct y bytes maxL fr lo mc ms (.ref b :: As) wc B) (hcode : Cond.code y bytes maxL none ∈ wT) {host : String} (hlink : va_Nw (.methodLinkNest own index y host) s) (hinst : Cond.instanceMethod y ∈ wT) (hini : Cond.initialized y.cls ∈ wT) (hy1 : y.name = "<init>")
    (hd : y.cls ≠ "java/lang/invoke/MethodHandle" ∧ y.cls ≠ "java/lang/invoke/VarHandle" ∧ (parseMethodDescriptor y.desc).map (fun d => d.parameters.length) = some n9) (hn9 : As.length = n9) (hR : fr + 1 ≤ R.frames ∧ 8 + (maxL + 11) + lo ≤ R.locals) (hls : ls.size = nL) {st0 : List Value} (hst : st0 = As.reverse ++ .ref b :: rest) (hrest : (rest.map fun v => v.category).sum ≤ 8) (hdg : decode cc pc = .ok (.invokespecial index, 3)) (hcs : cells + mc ≤ R.cells) (hss : slots + ms ≤ R.slots)
    (kk : ∀ (t : State) (H1 : Heap) (locs1 : List Loc), t.heap = H1 → B (va_A wc H.size) t → (∀ w1 : va_W, CE D w1 (va_A wc H.size) t → Wd D A s (wr ++ w1) H1 locs1) → W p l e R s m args below meth c H1 locs1 (cells + mc) (slots + ms) Q (F0 m (pc + 3) ls rest)) : W p l e R s m args below meth c H locs cells slots Q (F0 m pc ls st0) := by
  subst hst
  refine va_callv (va_runIN (rest := rest) (host := host) (Ts := wT) ⟨C0.1, C0.2.1, C0.2.2.1, C0.2.2.2.1, C0.2.2.2.2.1⟩ (hM H.size) ⟨va_cnB n9 C0.2.2.2.2.1 (gI (gI1 hcode)) rfl rfl rfl hlink (C0.2.2.2.2.1 _ hini) hd hR, hy1, C0.2.2.2.2.1 _ hinst⟩ ⟨CP.blind, fun U hU hW => ⟨rfl, CP.all C0.2.2.2.2.2.1 C0.2.2.2.2.2.2 w.right hU hW⟩⟩ rfl hn9 hls rfl (lv_room hrest) hdg ⟨hcs, hss⟩) w.2.2.1 (fun q _ h => w.right.fre q h) w.right.fre (fun u t H1 locs1 ht hvm hr hB hz hk hS => ?_)
  refine kk t H1 locs1 ht hB (fun w1 hE => w.joinS hk (by rw [← ht]; exact hE.1) hE.2 hS)
/-- the law calls a helper -/
theorem S_sh {hh : List (Nat × Nat × Nat × Nat)} (C0 : Cx p s m args c cc nL own D ct) (w : Wd D A s (wr ++ wc) H locs) {r0 : Int32} (hM : KH l D ct y bytes maxL hh fr lo As wc r0 w1) (hcode : Cond.codeWith y bytes maxL (some .int) hh ∈ wT) (hlink : Cond.methodLink own index y ∈ wT) (hstat : Cond.static y ∈ wT) (hini : Cond.initialized y.cls ∈ wT)
    (hd : y.cls ≠ "java/lang/invoke/MethodHandle" ∧ y.cls ≠ "java/lang/invoke/VarHandle" ∧ (parseMethodDescriptor y.desc).map (fun d => d.parameters.length) = some n9) (hn9 : As.length = n9) (hR : fr + 1 ≤ R.frames ∧ 8 + (maxL + 11) + lo ≤ R.locals) (hls : ls.size = nL) {st0 : List Value} (hst : st0 = As.reverse ++ rest) (hrest : (rest.map fun v => v.category).sum ≤ 8) (hdg : decode cc pc = .ok (.invokestatic index, 3)) (hcs : cells + 1 ≤ R.cells) (hss : slots + 6 ≤ R.slots)
    (kk : ∀ (H1 : Heap) (locs1 : List Loc), Wd D A s (wr ++ w1) H1 locs1 → W p l e R s m args below meth c H1 locs1 (cells + 1) (slots + 6) Q (F0 m (pc + 3) ls (.int r0 :: rest))) : W p l e R s m args below meth c H locs cells slots Q (F0 m pc ls st0) := by
  subst hst
  have hts := C0.2.2.2.2.1
  have hgood : GoodIn wT (Cond.codeWith y bytes maxL (some .int) hh :: wT) := gI (gI1 hcode)
  have hK : Back l R p e below s args y 3 8 (PreOf R 1 6 (va_Pc As (CP D ct wc H.size))) (PostOf (va_Qi (fun r (_ : Unit) => r = r0) (fun _ t => CE D w1 (va_A wc H.size) t) (va_A wc H.size)) 1 6 (va_A wc H.size)) :=
    va_backW (hh := hh) (bytes := bytes) (maxL := maxL) (ret := some .int) (hM H.size) CP.blind rfl rfl hR.1 hR.2 (pay_in hts hgood) List.mem_cons_self (fun a' U hW => word_at hW (good_of_word (wT_good _ hini)) (hts _ hini))
  have hrun : va_Run p l e R s m args below meth c H locs cells slots 1 6 (F0 m pc ls (As.reverse ++ rest)) rest (va_Qi (fun r (_ : Unit) => r = r0) (fun _ t => CE D w1 (va_A wc H.size) t) (va_A wc H.size) As.toArray) (va_A wc H.size) := by
    intro T hT X
    obtain ⟨mk, methM, cM, hnamed, hmethM, hcM, -, -, -, -, -, hsigM⟩ := Cond.codeWith_spec (hts _ hcode)
    have hstatic : methM.isStatic = true := Cond.static_spec hnamed hmethM (hts _ hstat)
    obtain ⟨kP, hkP, -⟩ := className_of_methodNamed hnamed
    have hinitP : kP.init = .initialized := Cond.initialized_spec (findClass_of_methodNamed hnamed) hkP (hts _ hini)
    have hlen : As.length = methM.sig.parameters.length := by
      have h2 := hd.2.2
      rw [hsigM] at h2
      exact hn9.trans (Option.some.inj h2).symm
    obtain ⟨vm₁, X₁, hstep₁⟩ := X.invokestatic C0.1 C0.2.2.2.1 (hts _ hlink) hnamed hmethM hstatic hkP hinitP ⟨hd.1, hd.2.1⟩ (g := F0 m pc ls (As.reverse ++ rest)) rfl (argsL := As) (rest := rest) hlen rfl (by rw [C0.2.1]; exact hdg)
    obtain ⟨v, ⟨U', l2, c2, s2⟩, X', ⟨g', mk', t, L, e1, e2, hq, h1, hL, h2, h3⟩, hsteps⟩ := hK m meth c ⟨T.setVm vm₁, locs, cells, slots⟩ { F0 m pc ls (As.reverse ++ rest) with stack := rest } (.invokestatic index) mk As.toArray X₁ rfl (hls.trans C0.2.2.1.symm) (by rw [C0.2.1]; exact hdg) (lv_room hrest) (X₁.named hnamed) ⟨hcs, hss, rfl, CP.all C0.2.2.2.2.2.1 C0.2.2.2.2.2.2 w.right hT X₁.warmed⟩
    dsimp only [Pt.U, Pt.locs, Pt.cells, Pt.slots] at X' e1 e2 h1 h2 h3 hsteps
    subst h1; subst h2; subst h3
    exact ⟨v, (T.setVm vm₁).calling g' mk' As.toArray, t, U', L, hT, X', hL, e1, e2, hq, fun target h => hstep₁ _ fun acts => by rw [doInvoke_state]; exact hsteps.trans h⟩
  refine va_calli hrun w.2.2.1 (fun q _ h => w.right.fre q h) w.right.fre (fun r u t H1 locs1 ht hvm hr hB hz hk hS => ?_)
  subst hr
  obtain ⟨hP1, hD1⟩ := hB
  rw [ht] at hP1
  exact kk H1 locs1 (w.joinS hk hP1 hD1 hS)
/-- the call of a method that throws, under a handler of the caller's -/
theorem S_catch (C0 : Cx p s m args c cc nL own D ct) (w : Wd D A s (wr ++ wc) H locs) {b : Nat} (k : Nat) {ci : Nat} {fs : List Value} (he : wc[k]? = some (b, .inr (ci, fs))) {C : String} {T : u_T} {N : Nat} (hc : vCl[ci]? = some (C, T, N)) {E : String} (hM : KXU l D ct y bytes maxL ret fr lo (.ref b :: As) wc E w1)
    (hcode : Cond.code y bytes maxL ret ∈ wT) (hlink : Cond.methodLink own index y ∈ wT) (hinst : Cond.instanceMethod y ∈ wT) (hsel : Cond.selects C y y ∈ wT) (hini : Cond.initialized y.cls ∈ wT)
    (hd : y.cls ≠ "java/lang/invoke/MethodHandle" ∧ y.cls ≠ "java/lang/invoke/VarHandle" ∧ (parseMethodDescriptor y.desc).map (fun d => d.parameters.length) = some n9) (hn9 : As.length = n9) (hR : fr + 1 ≤ R.frames ∧ 8 + (maxL + 11) + lo ≤ R.locals) (hls : ls.size = nL) {st0 : List Value} (hst : st0 = As.reverse ++ .ref b :: rest) (hrest : (rest.map fun v => v.category).sum ≤ 8) (hdg : decode cc pc = .ok (.invokevirtual index, 3)) (hcs : cells + 1 ≤ R.cells) (hss : slots + 6 ≤ R.slots)
    {pre suf : List ExceptionTableEntry} {x : ExceptionTableEntry} (hsplit : c.exceptionTable.toList = pre ++ x :: suf) (hpass : ∀ z ∈ pre, z.catchType ≠ 0 ∧ ∃ nm : String, Cond.classLink own z.catchType nm ∈ wT ∧ (E, nm) ∈ ncs) (hcov : covers x pc = true) (h0 : x.catchType ≠ 0) {nm : String} (hcl : Cond.classLink own x.catchType nm ∈ wT) (hcast : (E, nm) ∈ cas)
    (kk : ∀ (q : Nat) (H1 : Heap) (locs1 : List Loc), Wd D A s (wr ++ w1) H1 locs1 → W p l e R s m args below meth c H1 locs1 (cells + 1) (slots + 6) Q (F0 m x.handlerPc ls [.ref q])) : W p l e R s m args below meth c H locs cells slots Q (F0 m pc ls st0) := by
  subst hst
  have hts := C0.2.2.2.2.1
  have hcB : CallB R s args own index y bytes maxL ret (Cond.code y bytes maxL ret :: wT) { frames := fr, cells := 1, slots := 6, locals := lo } 1 6 n9 := cB_of (rm := { frames := fr, cells := 1, slots := 6, locals := lo }) C0 hcode hlink hini hd hR
  obtain ⟨-, -, -, -, hws, hcw, -, -, hy, hlen, -⟩ := hcB
  intro T1 hT X
  subst hT
  obtain ⟨cellB, hcellB, hnsB, hclsB⟩ := va_recv C0.2.2.2.2.2.1 (P_right w.1) hc he
  have hclsB : s.vm.findClass C = some cellB.cls := hclsB
  obtain ⟨mk, methM, hnamed, hmethM, hstM, habM⟩ := Cond.instanceMethod_spec (hts _ hinst)
  obtain ⟨methM', cM, hmethM', -, -, -, -, -, -, hsigM⟩ := Cond.code_spec hnamed (hts _ hcode)
  cases hmethM.symm.trans hmethM'
  obtain ⟨c2, r2, m2, q1, q2, q3, q4, kP, hkP, hkPi⟩ := Cond.selects_spec (hts _ hsel)
  cases hclsB.symm.trans q1
  cases (State.methodFound?_of_named hnamed hy).symm.trans q2
  cases hnamed.symm.trans q3
  have hselP : selectMethod e.platform s.vm cellB.cls mk = .method mk := by rw [Launch.admits_selectMethod X.admits]; exact q4
  obtain ⟨vm₁, X₁, hstep₁⟩ := X.invokevirtual C0.1 C0.2.2.2.1 (hts _ hlink) hnamed hmethM hstM hkP hkPi hy (a := b) (cell := cellB) hcellB (fun z h => by rw [h] at hnsB; cases hnsB) hselP hmethM habM hkP hkPi (g := F0 m pc ls (As.reverse ++ .ref b :: rest)) rfl (argsL := As) (rest := rest) (hn9.trans (hlen _ hsigM)) rfl (by rw [C0.2.1]; exact hdg)
  have hW₁ := X₁.warmed
  obtain ⟨v, L, B, XB, ⟨eL, eP, eD, hsz, hold, ce, e6, e7, hcE⟩, hst1⟩ := ow_call X₁ (hM T1.heap.size) (bytes := bytes) (maxL := maxL) (ret := ret) (w := 8) (k0 := 1) (n0 := 6) (g := { F0 m pc ls (As.reverse ++ .ref b :: rest) with stack := rest }) rfl (hls.trans C0.2.2.1.symm) (by rw [C0.2.1]; exact hdg) (lv_room hrest) (X₁.named hnamed) (a := (Value.ref b :: As).toArray)
    (atoms_intro fun w hw => hws w hw _ _ hW₁) (hws _ hcw _ _ hW₁) (word_at hW₁ (good_of_word (wT_good _ hini)) (hts _ hini)) hR.1 hR.2 hcs hss (CP.blind _ _ _ _ ⟨rfl, CP.all C0.2.2.2.2.2.1 C0.2.2.2.2.2.2 w.right rfl hW₁⟩)
    (E := fun q L H1 => (∀ z ∈ L, va_A wc T1.heap.size z.base) ∧ va_P D vCl w1 H1 ∧ va_D (va_A wc T1.heap.size) w1 ∧ T1.heap.size ≤ H1.size ∧ (∀ z : Nat, z < T1.heap.size → ¬ va_A wc T1.heap.size z → H1[z]? = T1.heap[z]?) ∧ ∃ ce : Cell, H1[q]? = some ce ∧ ce.vm = .none ∧ s.vm.findClass E = some ce.cls) (by
      rintro o t ⟨q, ce, L, ho, h1, h2, h3, h4, h5, h6, h7, h8⟩
      refine ⟨q, L, ho, h4, h5, h6, h7.1, h7.2, h8.1, fun z hz hn => h8.2 z hz hn, ce, h1, h2, ?_⟩
      have h9 : (T1.setVm vm₁).vm.findClass E = some ce.cls := h3
      rwa [hW₁.alike.findClass] at h9)
  obtain ⟨c3, cT, hc3, hcT, hasg⟩ := Cond.castable_spec (va_Nw.use (A := args) rfl (C0.2.2.2.2.2.2.ca _ hcast))
  cases hcE.symm.trans hc3
  have hpl : e.platform.magicAccessors = ({} : Platform).magicAccessors := by rw [X.admits.platform]
  obtain ⟨cX, hcX, hlX⟩ := Cond.classLink_spec C0.2.2.2.1 (hts _ hcl) e.platform hpl
  cases hcT.symm.trans hcX
  obtain ⟨vm', XV, hst2⟩ := ow_caught XB v (g := { F0 m pc ls (As.reverse ++ .ref b :: rest) with stack := rest }) rfl e6 e7 (Vm.classAt_of_assignable hasg (Vm.classAt_of_findClass hcT)) hsplit (fun z hz => by
    obtain ⟨z0, nmz, hz1, hz2⟩ := hpass z hz
    obtain ⟨cz, hcz, hlz⟩ := Cond.classLink_spec C0.2.2.2.1 (hts _ hz1) e.platform hpl
    exact ⟨z0, cz, hlz, ow_no (C0.2.2.2.2.2.2.nc _ hz2) hcE hcz⟩) hcov h0 hlX hasg
  have hf := w.right.fre
  obtain ⟨t, a1, b1⟩ := kk v B.heap (locs ++ L) (w.joinS hold eP eD ⟨Nat.le_trans w.2.2.1.1 hsz, fun x h1 h2 => (hold x (Nat.lt_of_lt_of_le h1 w.2.2.1.1) (fun h3 => h2 (hf x h3))).trans (w.2.2.1.2.1 x h1 h2), fun z hz => by
    rcases List.mem_append.mp hz with h | h
    · exact w.2.2.1.2.2 z h
    · exact hf _ (eL z h)⟩) (B.setVm vm') rfl XV
  exact ⟨t, (hstep₁ _ (fun acts => by rw [doInvoke_state]; exact hst1)).trans (hst2.trans a1), b1⟩
end SC
