/-! new int[10][6], kept: the outer array at a, its rows at a + 1 .. a + 10 -/
def grid (ct : Nat → ClassId) (a : Nat) : va_W := (List.range 11).map fun j => (a + j, if j = 0 then .inl (ct 3, 10, .inr (.inr (.inr (.inr (fun i => if i < 10 then some (a + 1 + i) else none))))) else .inl (ct 0, 6, .inl (fun _ => 0)))
theorem grid_at {ct : Nat → ClassId} {a j : Nat} (hj : j < 11) : (grid ct a)[j]? = some (a + j, if j = 0 then .inl (ct 3, 10, .inr (.inr (.inr (.inr (fun i => if i < 10 then some (a + 1 + i) else none))))) else .inl (ct 0, 6, .inl (fun _ => 0))) := by
  unfold grid
  rw [List.getElem?_map, List.getElem?_range hj]
  rfl
theorem grid_len (ct : Nat → ClassId) (a : Nat) : (grid ct a).length = 11 := by simp [grid]
theorem outer_eq (c : ClassId) (h0 : Nat) : ow_top c 10 h0 10 = vp_cell c (10, .inr (.inr (.inr (.inr (fun i => if i < 10 then some (h0 + 1 + i) else none))))) := by
  have hs : (ow_top c 10 h0 10).slots = (arrV c 10 (fun j => va_rf (if j < 10 then some (h0 + 1 + j) else none))).slots := by
    apply Array.ext_getElem?
    intro j
    by_cases hj : j < 10
    · rw [ow_top_slot c 10 h0 10 j hj, if_pos hj, arrV_read _ _ hj, if_pos hj]
      rfl
    · rw [Array.getElem?_eq_none (by rw [ow_top_size]; omega), Array.getElem?_eq_none (by rw [arrV_size]; omega)]
  rw [vp_cell_q, show ow_top c 10 h0 10 = { cls := c, slots := (ow_top c 10 h0 10).slots, vm := .none } from rfl, hs]
  rfl
section GR
variable {p : Program} {l : Launch} {e : Env} {R : Room} {s : State} {m : MethodId} {args : Array Value} {below : List Frame} {meth : Method} {c : Code} {H : Heap} {locs : List Loc} {cells slots : Nat} {Q : State → Prop}
variable {cc : ByteArray} {pc nL : Nat} {ls : Array Slot} {rest : List Value} {own : String} {D : va_G} {ct : Nat → ClassId} {A : Nat → Prop} {ws : va_W}
theorem R_mnaK (C0 : Cx p s m args c cc nL own D ct) (w : Wd D A s ws H locs) {index : Nat} (hcl : Cond.classLink own index "[[I" ∈ wT) (hac : Cond.arrayClass .int ∈ wT) (hcells : cells + 11 ≤ R.cells) (hslots : slots + 70 ≤ R.slots) (hdg : decode cc pc = .ok (.multianewarray index 2, 4))
    (kk : ∀ (q : Nat) (H1 : Heap), Wd D A s (ws ++ grid ct q) H1 locs → W p l e R s m args below meth c H1 locs (cells + 11) (slots + 70) Q (F0 m (pc + 4) ls (.ref q :: rest))) : W p l e R s m args below meth c H locs cells slots Q (F0 m pc ls (.int 6 :: .int 10 :: rest)) := by
  intro T hT X
  subst hT
  have n10 : (10 : Int32).toNatClampNeg = 10 := by decide
  have n6 : (6 : Int32).toNatClampNeg = 6 := by decide
  obtain ⟨vm₁, c0, c1, hW, hf0, hf1, X1, st⟩ := ow_mna X C0.1 C0.2.2.2.1 (C0.2.2.2.2.1 _ hcl) (ao_moved (Vm.Alike.refl s.vm) C0.2.2.2.2.2.2.ao) (C0.2.2.2.2.1 _ hac) (g := F0 m pc ls (.int 6 :: .int 10 :: rest)) rfl (by rw [C0.2.1]; exact hdg) (n := 10) (k := 6) (rest := rest) rfl (by decide) (by decide) (by decide) (by decide) (by rw [n10]; omega) (by rw [n10, n6]; omega)
  have hK := C0.2.2.2.2.2.1
  have k3 : s.vm.findClass "[[I" = some (ct 3) := (hK.2 3 (ct 3, .array .int) rfl).2
  have k0 : s.vm.findClass "[I" = some (ct 0) := (hK.2 0 (ct 0, .int) rfl).2
  cases hf0.symm.trans k3
  cases hf1.symm.trans k0
  rw [n10, n6] at X1 st
  have f1 : (ow_grid (T.setVm vm₁) (ct 3) (ct 0) 10 6 (.int 0) 10).heap.size = T.heap.size + 1 + 10 := ow_grid_size (T.setVm vm₁) (ct 3) (ct 0) 10 6 (.int 0) 10
  have f2 : (ow_grid (T.setVm vm₁) (ct 3) (ct 0) 10 6 (.int 0) 10).heap[T.heap.size]? = some (ow_top (ct 3) 10 T.heap.size 10) := ow_grid_top (T.setVm vm₁) (ct 3) (ct 0) 10 6 (.int 0) 10
  have fi : ∀ j, j < 10 → (ow_grid (T.setVm vm₁) (ct 3) (ct 0) 10 6 (.int 0) 10).heap[T.heap.size + 1 + j]? = some (ow_row (ct 0) 6 (.int 0)) := fun j hj => ow_grid_row (T.setVm vm₁) (ct 3) (ct 0) 10 6 (.int 0) 10 j hj
  have fo : ∀ a : Nat, a < T.heap.size → (ow_grid (T.setVm vm₁) (ct 3) (ct 0) 10 6 (.int 0) 10).heap[a]? = T.heap[a]? := fun a ha => ow_grid_old (T.setVm vm₁) (ct 3) (ct 0) 10 6 (.int 0) 10 ha
  generalize ow_grid (T.setVm vm₁) (ct 3) (ct 0) 10 6 (.int 0) 10 = T2 at f1 f2 fi fo X1 st
  have hPg : va_P D vCl (grid ct T.heap.size) T2.heap := by
    intro k x hx
    have hk : k < 11 := by rw [← grid_len ct T.heap.size]; exact (List.getElem?_eq_some_iff.mp hx).1
    rw [grid_at hk] at hx
    cases hx
    by_cases h0 : k = 0
    · subst h0
      show T2.heap[T.heap.size + 0]? = some (vp_cell _ _)
      rw [Nat.add_zero, f2, outer_eq]
    · obtain ⟨j, rfl⟩ : ∃ j, k = j + 1 := ⟨k - 1, by omega⟩
      rw [if_neg h0]
      show T2.heap[T.heap.size + (j + 1)]? = some (vp_cell _ _)
      rw [show T.heap.size + (j + 1) = T.heap.size + 1 + j by omega, fi j (by omega), vp_cell_i, ← arrV_new]
      rfl
  have hDg : va_D A (grid ct T.heap.size) := by
    refine ⟨fun i j x y hi hj e => ?_, fun k x hx => ?_⟩
    · have h1 : i < 11 := by rw [← grid_len ct T.heap.size]; exact (List.getElem?_eq_some_iff.mp hi).1
      have h2 : j < 11 := by rw [← grid_len ct T.heap.size]; exact (List.getElem?_eq_some_iff.mp hj).1
      rw [grid_at h1] at hi
      rw [grid_at h2] at hj
      cases hi; cases hj
      have e : T.heap.size + i = T.heap.size + j := e
      omega
    · have h1 : k < 11 := by rw [← grid_len ct T.heap.size]; exact (List.getElem?_eq_some_iff.mp hx).1
      rw [grid_at h1] at hx
      cases hx
      exact w.2.2.2.1 _ (Nat.le_trans w.2.2.1.1 (Nat.le_add_right _ _))
  have hAp : ∀ (i j : Nat) (x y : Nat × va_E), ws[i]? = some x → (grid ct T.heap.size)[j]? = some y → x.1 ≠ y.1 := by
    intro i j x y hi hj e
    have h1 : j < 11 := by rw [← grid_len ct T.heap.size]; exact (List.getElem?_eq_some_iff.mp hj).1
    rw [grid_at h1] at hj
    cases hj
    have hl := (w.1 i x hi).lt
    have e : x.1 = T.heap.size + j := e
    omega
  obtain ⟨t, a1, b1⟩ := kk T.heap.size T2.heap (w.to ((w.1.kept (fun k x hx => fo x.1 ((w.1 k x hx).lt))).app hPg) (w.2.1.app hDg hAp) ⟨Nat.le_trans w.2.2.1.1 (by omega), fun x h1 h2 => (fo x (Nat.lt_of_lt_of_le h1 w.2.2.1.1)).trans (w.2.2.1.2.1 x h1 h2), w.2.2.1.2.2⟩) T2 rfl X1
  · exact ⟨t, st t a1, b1⟩
end GR
