section
def pcm (k j : Nat) : Bool := pcl k j || k == 2 || k == 3 || (Nat.ble 12 k && Nat.ble k 23) || Nat.ble 83 k
def IZ (bn bt : Int) (G M : Sto) : Prop := RgX bn bt M ∧ (∀ k j : Nat, pcm k j = true → M k j = G k j) ∧ KP G ∧ CN M
theorem IZ.toX {bn bt : Int} {G M : Sto} (h : IZ bn bt G M) : IX bn bt G M := ⟨h.1, fun k j hk => h.2.1 k j (by unfold pcm; rw [hk]; rfl), h.2.2⟩
theorem IZ.up {bn bt : Int} {G M : Sto} {v : Int32} (h : IZ bn bt G M) {k j : Nat} (hp : pcm k j = false) (h5 : k ≠ 5) (h27 : k ≠ 27) (h1 : loX k j ≤ v.toInt) (h2 : v.toInt ≤ hiX bn bt k j) : IZ bn bt G (up2 M k j v) := by
  refine ⟨h.1.up h1 h2, fun a b hab => ?_, h.2.2.1, ?_⟩
  · rw [up2_at, if_neg (fun q => by rw [q.1, q.2, hp] at hab; exact Bool.noConfusion hab)]; exact h.2.1 a b hab
  · show (up2 M k j v 5 5).toInt = cnt (up2 M k j v 27) 126
    rw [up2_ne M j v (Ne.symm h5), up2_ne M j v (Ne.symm h27)]; exact h.2.2.2
theorem IZ.fill {bn bt : Int} {G M : Sto} {v : Int32} (h : IZ bn bt G M) {k n : Nat} (hp : ∀ j, pcm k j = false) (h5 : k ≠ 5) (h27 : k ≠ 27) (h1 : ∀ j, loX k j ≤ v.toInt) (h2 : ∀ j, v.toInt ≤ hiX bn bt k j) : IZ bn bt G (fillA M k n v) := by
  refine ⟨fun a b => ?_, fun a b hab => ?_, h.2.2.1, ?_⟩
  · rw [fillA_at]
    by_cases q : a = k ∧ b < n
    · rw [if_pos q, q.1]; exact ⟨h1 b, h2 b⟩
    · rw [if_neg q]; exact h.1 a b
  · rw [fillA_at, if_neg (fun q => by rw [q.1, hp] at hab; exact Bool.noConfusion hab)]; exact h.2.1 a b hab
  · show (fillA M k n v 5 5).toInt = cnt (fillA M k n v 27) 126
    rw [fillA_ne M n v (Ne.symm h5), fillA_ne M n v (Ne.symm h27)]; exact h.2.2.2
theorem uz_24 {bn bt : Int} {G M : Sto} {j : Nat} {v : Int32} (h : IZ bn bt G M) : IZ bn bt G (up2 M 24 j v) := h.up rfl (by decide) (by decide) (i32_lo v) (i32_hi v)
theorem uz_25 {bn bt : Int} {G M : Sto} {j : Nat} {v : Int32} (h : IZ bn bt G M) : IZ bn bt G (up2 M 25 j v) := h.up rfl (by decide) (by decide) (i32_lo v) (i32_hi v)
theorem uz_26 {bn bt : Int} {G M : Sto} {j : Nat} {v : Int32} (h : IZ bn bt G M) : IZ bn bt G (up2 M 26 j v) := h.up rfl (by decide) (by decide) (i32_lo v) (i32_hi v)
theorem uz_4_3 {bn bt : Int} {G M : Sto} {v : Int32} (h : IZ bn bt G M) : IZ bn bt G (up2 M 4 3 v) := h.up rfl (by decide) (by decide) (i32_lo v) (i32_hi v)
theorem uz_4_7 {bn bt : Int} {G M : Sto} {v : Int32} (h : IZ bn bt G M) (h1 : 0 ≤ v.toInt) (h2 : v.toInt ≤ 1) : IZ bn bt G (up2 M 4 7 v) := h.up rfl (by decide) (by decide) h1 h2
theorem fz_24 {bn bt : Int} {G M : Sto} {v : Int32} (h : IZ bn bt G M) {n : Nat} : IZ bn bt G (fillA M 24 n v) := h.fill (fun _ => rfl) (by decide) (by decide) (fun _ => i32_lo v) (fun _ => i32_hi v)
theorem fz_25 {bn bt : Int} {G M : Sto} {v : Int32} (h : IZ bn bt G M) {n : Nat} : IZ bn bt G (fillA M 25 n v) := h.fill (fun _ => rfl) (by decide) (by decide) (fun _ => i32_lo v) (fun _ => i32_hi v)
theorem fz_26 {bn bt : Int} {G M : Sto} {v : Int32} (h : IZ bn bt G M) {n : Nat} : IZ bn bt G (fillA M 26 n v) := h.fill (fun _ => rfl) (by decide) (by decide) (fun _ => i32_lo v) (fun _ => i32_hi v)
theorem t_j_K_raise_14 {bn bt : Int} {G : Sto} {P : Int32 × Sto → Prop} {M : Sto} (hR : ∀ (r : Int32) (M : Sto), IZ bn bt G M → 0 ≤ r.toInt → r.toInt ≤ 0 → P (r, M)) (hI : IZ bn bt G M) : Ok P (j_K_raise_14 M) := by
  unfold j_K_raise_14
  have n1 : (0 : Int32).toInt = 0 := rfl
  exact Ok.some (hR 0 _ hI (by omega) (by omega))
theorem t_j_K_raise_80 {bn bt : Int} {G : Sto} {P : Int32 × Sto → Prop} {M : Sto} (hR : ∀ (r : Int32) (M : Sto), IZ bn bt G M → 0 ≤ r.toInt → r.toInt ≤ 0 → P (r, M)) (hI : IZ bn bt G M) : Ok P (j_K_raise_80 M) := by
  unfold j_K_raise_80
  have n1 : (0 : Int32).toInt = 0 := rfl
  exact Ok.some (hR 0 _ hI (by omega) (by omega))
theorem t_j_K_raise_61 {bn bt : Int} {G : Sto} {P : Int32 × Sto → Prop} {v1 : Int32} {M : Sto} (hR : ∀ (r : Int32) (M : Sto), IZ bn bt G M → 0 ≤ r.toInt → r.toInt ≤ 0 → P (r, M)) (hI : IZ bn bt G M) (r0 : 0 ≤ v1.toInt) (r1 : v1.toInt ≤ 125) : Ok P (j_K_raise_61 v1 M) := by
  unfold j_K_raise_61
  refine Ok.okI (by omega) (by omega) ?_
  have n4 : (2 : Int32).toInt = 2 := rfl
  refine Ok.wr (fun M3 q1 => ?_)
  have i2 := uz_25 hI (j := v1.toNatClampNeg) (v := 2)
  rw [← q1] at i2
  refine Ok.okI (by omega) (by omega) ?_
  have n8 : (0 : Int32).toInt = 0 := rfl
  refine Ok.wr (fun M7 q5 => ?_)
  have i6 := uz_26 i2 (j := v1.toNatClampNeg) (v := 0)
  rw [← q5] at i6
  have n9 : (1 : Int32).toInt = 1 := rfl
  refine Ok.bzI (by omega) (by omega) ?_
  refine Ok.wr (fun M12 q10 => ?_)
  have i11 := uz_4_7 i6 (v := 1) (by omega) (by omega)
  rw [← q10] at i11
  exact t_j_K_raise_80 hR i11
theorem t_m_K_raise {bn bt : Int} {G : Sto} {x1 x2 x3 : Int32} {M : Sto} (hI : IZ bn bt G M) (r0 : 0 ≤ x1.toInt) (r1 : x1.toInt ≤ 125) : Ok (fun a => IZ bn bt G a.2 ∧ 0 ≤ a.1.toInt ∧ a.1.toInt ≤ 0) (m_K_raise x1 x2 x3 M) := by
  have hR : ∀ (r : Int32) (M : Sto), IZ bn bt G M → 0 ≤ r.toInt → r.toInt ≤ 0 → (fun a : Int32 × Sto => IZ bn bt G a.2 ∧ 0 ≤ a.1.toInt ∧ a.1.toInt ≤ 0) (r, M) := fun r M hI h0 h1 => ⟨hI, h0, h1⟩
  unfold m_K_raise
  have n1 : (0 : Int32).toInt = 0 := rfl
  refine Ok.eq (fun c2 => ?_) (fun c2 => ?_)
  · exact t_j_K_raise_14 hR hI
  · refine Ok.okI (by omega) (by omega) ?_
    have n3 : (2 : Int32).toInt = 2 := rfl
    refine Ok.eq (fun c4 => ?_) (fun c4 => ?_)
    · exact t_j_K_raise_14 hR hI
    · refine Ok.okI (by omega) (by omega) ?_
      refine Ok.eq (fun c5 => ?_) (fun c5 => ?_)
      · refine Ok.okI (by omega) (by omega) ?_
        refine Ok.wr (fun M8 q6 => ?_)
        have i7 := uz_25 hI (j := x1.toNatClampNeg) (v := x2)
        rw [← q6] at i7
        refine Ok.okI (by omega) (by omega) ?_
        refine Ok.wr (fun M11 q9 => ?_)
        have i10 := uz_26 i7 (j := x1.toNatClampNeg) (v := x3)
        rw [← q9] at i10
        have n12 : (1 : Int32).toInt = 1 := rfl
        refine Ok.bzI (by omega) (by omega) ?_
        refine Ok.wr (fun M15 q13 => ?_)
        have i14 := uz_4_7 i10 (v := 1) (by omega) (by omega)
        rw [← q13] at i14
        exact t_j_K_raise_80 hR i14
      · refine Ok.eq (fun c16 => ?_) (fun c16 => ?_)
        · exact t_j_K_raise_61 (v1 := x1) hR hI (by omega) (by omega)
        · refine Ok.okI (by omega) (by omega) ?_
          refine Ok.eq (fun c17 => ?_) (fun c17 => ?_)
          · exact t_j_K_raise_80 hR hI
          · exact t_j_K_raise_61 (v1 := x1) hR hI (by omega) (by omega)
theorem t_j_K_passPhi_70 {bn bt : Int} {G : Sto} {P : Int32 × Sto → Prop} {M : Sto} (hR : ∀ (r : Int32) (M : Sto), IZ bn bt G M → 0 ≤ r.toInt → r.toInt ≤ 0 → P (r, M)) (hI : IZ bn bt G M) : Ok P (j_K_passPhi_70 M) := by
  unfold j_K_passPhi_70
  have n1 : (0 : Int32).toInt = 0 := rfl
  exact Ok.some (hR 0 _ hI (by omega) (by omega))
theorem t_j_K_passPhi_64 {bn bt : Int} {G : Sto} {P : Int32 × Sto → Prop} {g : Int32 → Int32 → Int32 → Sto → Option (Int32 × Sto)} {k : Sto → Option (Int32 × Sto)} {n : Nat} {v1 v2 v3 : Int32} {M : Sto} (hg : ∀ (e3 : Int32) (M : Sto), IZ bn bt G M → 0 ≤ e3.toInt → e3.toInt ≤ 10 → 11 - e3.toInt ≤ (n : Int) → Ok P (g v1 v2 e3 M)) (hk : ∀ (M : Sto), IZ bn bt G M → Ok P (k M)) (hI : IZ bn bt G M) (r0 : 0 ≤ v1.toInt) (r1 : v1.toInt ≤ 9) (r2 : 0 ≤ v2.toInt) (r3 : v2.toInt ≤ 5) (r4 : 0 ≤ v3.toInt) (r5 : v3.toInt ≤ 9) (hn : 11 - v3.toInt ≤ (n : Int) + 1) : Ok P (j_K_passPhi_64 g k v1 v2 v3 M) := by
  unfold j_K_passPhi_64
  have n1 : (1 : Int32).toInt = 1 := rfl
  have f2 : (v3 + 1).toInt = v3.toInt + (1 : Int32).toInt := addI (by omega) (by omega)
  exact hg (v3 + 1) M hI (by omega) (by omega) (by omega)
theorem t_l_K_passPhi_2 {bn bt : Int} {G : Sto} {P : Int32 × Sto → Prop} {k : Sto → Option (Int32 × Sto)} {v1 v2 : Int32} (rf0 : 0 ≤ v1.toInt) (rf1 : v1.toInt ≤ 9) (rf2 : 0 ≤ v2.toInt) (rf3 : v2.toInt ≤ 5) (hk : ∀ (M : Sto), IZ bn bt G M → Ok P (k M)) : ∀ (n : Nat) (v3 : Int32) (M : Sto), IZ bn bt G M → 0 ≤ v3.toInt → v3.toInt ≤ 10 → 11 - v3.toInt ≤ (n : Int) → Ok P (l_K_passPhi_2 k n v1 v2 v3 M) := by
  intro n
  induction n with
  | zero => intro v3 M hI r0 r1 hn; exfalso; omega
  | succ n ih =>
    intro v3 M hI r0 r1 hn
    unfold l_K_passPhi_2
    have f1 := rd_1_0 (hI).toX
    refine Ok.le (fun c2 => ?_) (fun c2 => ?_)
    · exact hk M hI
    · refine Ok.bind (s_m_K_isWayTaken (x1 := v3) (x2 := v1) (hI).toX (by omega) (by omega)) (fun r3 M4 q5 => ?_)
      dsimp only at q5
      obtain ⟨q6, q7, q8⟩ := q5
      have q6 : M = M4 := q6
      subst q6
      dsimp only
      have n9 : (0 : Int32).toInt = 0 := rfl
      refine Ok.eq (fun c10 => ?_) (fun c10 => ?_)
      · exact t_j_K_passPhi_64 (v1 := v1) (v2 := v2) (v3 := v3) ih hk hI (by omega) (by omega) (by omega) (by omega) (by omega) (by omega) (by omega)
      · refine Ok.okI (by omega) (by omega) ?_
        refine Ok.okI (by omega) (by omega) ?_
        refine Ok.okI (by omega) (by omega) ?_
        refine Ok.okI (by omega) (by omega) ?_
        have f11 := rd_93 (i := v3.toNatClampNeg) (hI).toX (tn_lt (by omega) (by omega)) v2.toNatClampNeg
        refine Ok.okI (by omega) (by omega) ?_
        refine Ok.okI (by omega) (by omega) ?_
        have f12 := rd_83 (i := v1.toNatClampNeg) (hI).toX (tn_lt (by omega) (by omega)) v2.toNatClampNeg
        refine Ok.bind (t_m_K_raise (x1 := (M (83 + v1.toNatClampNeg) v2.toNatClampNeg)) (x2 := (M 25 ((M (93 + v3.toNatClampNeg) v2.toNatClampNeg).toNatClampNeg))) (x3 := (M 26 ((M (93 + v3.toNatClampNeg) v2.toNatClampNeg).toNatClampNeg))) hI (by omega) (by omega)) (fun r13 M14 q15 => ?_)
        dsimp only at q15
        obtain ⟨q16, q17, q18⟩ := q15
        dsimp only
        exact t_j_K_passPhi_64 (v1 := v1) (v2 := v2) (v3 := v3) ih hk q16 (by omega) (by omega) (by omega) (by omega) (by omega) (by omega) (by omega)
theorem t_m_K_passPhi {bn bt : Int} {G : Sto} {x1 x2 : Int32} {M : Sto} (hI : IZ bn bt G M) (r0 : 0 ≤ x1.toInt) (r1 : x1.toInt ≤ 9) (r2 : 0 ≤ x2.toInt) (r3 : x2.toInt ≤ 5) : Ok (fun a => IZ bn bt G a.2 ∧ 0 ≤ a.1.toInt ∧ a.1.toInt ≤ 0) (m_K_passPhi x1 x2 M) := by
  have hR : ∀ (r : Int32) (M : Sto), IZ bn bt G M → 0 ≤ r.toInt → r.toInt ≤ 0 → (fun a : Int32 × Sto => IZ bn bt G a.2 ∧ 0 ≤ a.1.toInt ∧ a.1.toInt ≤ 0) (r, M) := fun r M hI h0 h1 => ⟨hI, h0, h1⟩
  unfold m_K_passPhi
  have n1 : (0 : Int32).toInt = 0 := rfl
  have fu_ := fu_le
  refine t_l_K_passPhi_2 (v1 := x1) (v2 := x2) (by omega) (by omega) (by omega) (by omega) (fun M2 i3 => ?_) FU 0 M hI (by omega) (by omega) (by omega)
  exact t_j_K_passPhi_70 hR i3
theorem t_j_K_passInstruction_193 {bn bt : Int} {G : Sto} {P : Int32 × Sto → Prop} {M : Sto} (hR : ∀ (r : Int32) (M : Sto), IZ bn bt G M → 0 ≤ r.toInt → r.toInt ≤ 0 → P (r, M)) (hI : IZ bn bt G M) : Ok P (j_K_passInstruction_193 M) := by
  unfold j_K_passInstruction_193
  have n1 : (0 : Int32).toInt = 0 := rfl
  exact Ok.some (hR 0 _ hI (by omega) (by omega))
theorem t_j_K_passInstruction_107 {bn bt : Int} {G : Sto} {P : Int32 × Sto → Prop} {v8 : Int32} {M : Sto} (hR : ∀ (r : Int32) (M : Sto), IZ bn bt G M → 0 ≤ r.toInt → r.toInt ≤ 0 → P (r, M)) (hI : IZ bn bt G M) (r0 : (-1) ≤ v8.toInt) (r1 : v8.toInt ≤ 125) (x0_ : (0 ≤ v8.toInt)) : Ok P (j_K_passInstruction_107 v8 M) := by
  unfold j_K_passInstruction_107
  have n1 : (2 : Int32).toInt = 2 := rfl
  have n2 : (0 : Int32).toInt = 0 := rfl
  refine Ok.bind (t_m_K_raise (x1 := v8) (x2 := 2) (x3 := 0) hI (by omega) (by omega)) (fun r3 M4 q5 => ?_)
  dsimp only at q5
  obtain ⟨q6, q7, q8⟩ := q5
  dsimp only
  exact t_j_K_passInstruction_193 hR q6
theorem t_j_K_passInstruction_176 {bn bt : Int} {G : Sto} {P : Int32 × Sto → Prop} {s0 v3 v8 v9 : Int32} {M : Sto} (hR : ∀ (r : Int32) (M : Sto), IZ bn bt G M → 0 ≤ r.toInt → r.toInt ≤ 0 → P (r, M)) (hI : IZ bn bt G M) (r0 : (-1) ≤ v8.toInt) (r1 : v8.toInt ≤ 125) (x0_ : (0 ≤ v8.toInt)) : Ok P (j_K_passInstruction_176 s0 v3 v8 v9 M) := by
  unfold j_K_passInstruction_176
  refine Ok.bind (s_m_N_calculate (x0 := v3) (x1 := v9) (x2 := s0) (hI).toX) (fun r1 M2 q3 => ?_)
  dsimp only at q3
  have q4 := q3
  have q4 : M = M2 := q4
  subst q4
  dsimp only
  have n5 : (1 : Int32).toInt = 1 := rfl
  refine Ok.bind (t_m_K_raise (x1 := v8) (x2 := 1) (x3 := r1) hI (by omega) (by omega)) (fun r6 M7 q8 => ?_)
  dsimp only at q8
  obtain ⟨q9, q10, q11⟩ := q8
  dsimp only
  exact t_j_K_passInstruction_193 hR q9
theorem t_j_K_passInstruction_157 {bn bt : Int} {G : Sto} {P : Int32 × Sto → Prop} {s0 v3 v5 v8 : Int32} {M : Sto} (hR : ∀ (r : Int32) (M : Sto), IZ bn bt G M → 0 ≤ r.toInt → r.toInt ≤ 0 → P (r, M)) (hI : IZ bn bt G M) (r0 : (-1) ≤ v5.toInt) (r1 : v5.toInt ≤ 125) (r2 : (-1) ≤ v8.toInt) (r3 : v8.toInt ≤ 125) (x0_ : (0 ≤ v8.toInt)) : Ok P (j_K_passInstruction_157 s0 v3 v5 v8 M) := by
  unfold j_K_passInstruction_157
  have n1 : ((-1) : Int32).toInt = (-1) := rfl
  refine Ok.eq (fun c2 => ?_) (fun c2 => ?_)
  · have n3 : (0 : Int32).toInt = 0 := rfl
    exact t_j_K_passInstruction_176 (s0 := 0) (v3 := v3) (v8 := v8) (v9 := s0) hR hI (by omega) (by omega) (by omega)
  · refine Ok.okI (by omega) (by omega) ?_
    exact t_j_K_passInstruction_176 (s0 := (M 26 v5.toNatClampNeg)) (v3 := v3) (v8 := v8) (v9 := s0) hR hI (by omega) (by omega) (by omega)
theorem t_j_K_passInstruction_74 {bn bt : Int} {G : Sto} {P : Int32 × Sto → Prop} {s0 v1 v2 v3 v4 v5 v6 : Int32} {M : Sto} (hR : ∀ (r : Int32) (M : Sto), IZ bn bt G M → 0 ≤ r.toInt → r.toInt ≤ 0 → P (r, M)) (hI : IZ bn bt G M) (r0 : 0 ≤ v1.toInt) (r1 : v1.toInt ≤ 9) (r2 : 0 ≤ v2.toInt) (r3 : v2.toInt ≤ 5) (r4 : (-1) ≤ v4.toInt) (r5 : v4.toInt ≤ 125) (r6 : (-1) ≤ v5.toInt) (r7 : v5.toInt ≤ 125) (x0_ : (0 ≤ (M (103 + v1.toNatClampNeg) v2.toNatClampNeg).toInt)) : Ok P (j_K_passInstruction_74 s0 v1 v2 v3 v4 v5 v6 M) := by
  unfold j_K_passInstruction_74
  refine Ok.okI (by omega) (by omega) ?_
  refine Ok.okI (by omega) (by omega) ?_
  have n1 : (6 : Int32).toInt = 6 := rfl
  refine Ok.eq (fun c2 => ?_) (fun c2 => ?_)
  · have f3 := rd_103 (i := v1.toNatClampNeg) (hI).toX (tn_lt (by omega) (by omega)) v2.toNatClampNeg
    exact t_j_K_passInstruction_107 (v8 := (M (103 + v1.toNatClampNeg) v2.toNatClampNeg)) hR hI (by omega) (by omega) (by omega)
  · have n4 : (2 : Int32).toInt = 2 := rfl
    refine Ok.eq (fun c5 => ?_) (fun c5 => ?_)
    · have f6 := rd_103 (i := v1.toNatClampNeg) (hI).toX (tn_lt (by omega) (by omega)) v2.toNatClampNeg
      exact t_j_K_passInstruction_107 (v8 := (M (103 + v1.toNatClampNeg) v2.toNatClampNeg)) hR hI (by omega) (by omega) (by omega)
    · refine Ok.eq (fun c7 => ?_) (fun c7 => ?_)
      · have f8 := rd_103 (i := v1.toNatClampNeg) (hI).toX (tn_lt (by omega) (by omega)) v2.toNatClampNeg
        exact t_j_K_passInstruction_107 (v8 := (M (103 + v1.toNatClampNeg) v2.toNatClampNeg)) hR hI (by omega) (by omega) (by omega)
      · have n9 : (1 : Int32).toInt = 1 := rfl
        refine Ok.eq (fun c10 => ?_) (fun c10 => ?_)
        · refine Ok.eq (fun c11 => ?_) (fun c11 => ?_)
          · have n12 : ((-1) : Int32).toInt = (-1) := rfl
            refine Ok.eq (fun c13 => ?_) (fun c13 => ?_)
            · refine Ok.okI (by omega) (by omega) ?_
              refine Ok.okI (by omega) (by omega) ?_
              have f14 := rd_63 (i := v1.toNatClampNeg) (hI).toX (tn_lt (by omega) (by omega)) v2.toNatClampNeg
              have f15 := rd_103 (i := v1.toNatClampNeg) (hI).toX (tn_lt (by omega) (by omega)) v2.toNatClampNeg
              exact t_j_K_passInstruction_157 (s0 := (M (63 + v1.toNatClampNeg) v2.toNatClampNeg)) (v3 := v3) (v5 := v5) (v8 := (M (103 + v1.toNatClampNeg) v2.toNatClampNeg)) hR hI (by omega) (by omega) (by omega) (by omega) (by omega)
            · refine Ok.okI (by omega) (by omega) ?_
              have f16 := rd_103 (i := v1.toNatClampNeg) (hI).toX (tn_lt (by omega) (by omega)) v2.toNatClampNeg
              exact t_j_K_passInstruction_157 (s0 := (M 26 v4.toNatClampNeg)) (v3 := v3) (v5 := v5) (v8 := (M (103 + v1.toNatClampNeg) v2.toNatClampNeg)) hR hI (by omega) (by omega) (by omega) (by omega) (by omega)
          · exact t_j_K_passInstruction_193 hR hI
        · exact t_j_K_passInstruction_193 hR hI
theorem t_j_K_passInstruction_55 {bn bt : Int} {G : Sto} {P : Int32 × Sto → Prop} {s0 v1 v2 v3 v4 v5 : Int32} {M : Sto} (hR : ∀ (r : Int32) (M : Sto), IZ bn bt G M → 0 ≤ r.toInt → r.toInt ≤ 0 → P (r, M)) (hI : IZ bn bt G M) (r0 : 0 ≤ v1.toInt) (r1 : v1.toInt ≤ 9) (r2 : 0 ≤ v2.toInt) (r3 : v2.toInt ≤ 5) (r4 : (-1) ≤ v4.toInt) (r5 : v4.toInt ≤ 125) (r6 : (-1) ≤ v5.toInt) (r7 : v5.toInt ≤ 125) (x0_ : (0 ≤ (M (103 + v1.toNatClampNeg) v2.toNatClampNeg).toInt)) : Ok P (j_K_passInstruction_55 s0 v1 v2 v3 v4 v5 M) := by
  unfold j_K_passInstruction_55
  have n1 : ((-1) : Int32).toInt = (-1) := rfl
  refine Ok.eq (fun c2 => ?_) (fun c2 => ?_)
  · have n3 : (1 : Int32).toInt = 1 := rfl
    exact t_j_K_passInstruction_74 (s0 := 1) (v1 := v1) (v2 := v2) (v3 := v3) (v4 := v4) (v5 := v5) (v6 := s0) hR hI (by omega) (by omega) (by omega) (by omega) (by omega) (by omega) (by omega) (by omega) (by omega)
  · refine Ok.okI (by omega) (by omega) ?_
    exact t_j_K_passInstruction_74 (s0 := (M 25 v5.toNatClampNeg)) (v1 := v1) (v2 := v2) (v3 := v3) (v4 := v4) (v5 := v5) (v6 := s0) hR hI (by omega) (by omega) (by omega) (by omega) (by omega) (by omega) (by omega) (by omega) (by omega)
theorem t_m_K_passInstruction {bn bt : Int} {G : Sto} {x1 x2 : Int32} {M : Sto} (hI : IZ bn bt G M) (r0 : 0 ≤ x1.toInt) (r1 : x1.toInt ≤ 9) (r2 : 0 ≤ x2.toInt) (r3 : x2.toInt ≤ 5) (x0_ : (0 ≤ (M (103 + x1.toNatClampNeg) x2.toNatClampNeg).toInt)) : Ok (fun a => IZ bn bt G a.2 ∧ 0 ≤ a.1.toInt ∧ a.1.toInt ≤ 0) (m_K_passInstruction x1 x2 M) := by
  have hR : ∀ (r : Int32) (M : Sto), IZ bn bt G M → 0 ≤ r.toInt → r.toInt ≤ 0 → (fun a : Int32 × Sto => IZ bn bt G a.2 ∧ 0 ≤ a.1.toInt ∧ a.1.toInt ≤ 0) (r, M) := fun r M hI h0 h1 => ⟨hI, h0, h1⟩
  unfold m_K_passInstruction
  refine Ok.okI (by omega) (by omega) ?_
  refine Ok.okI (by omega) (by omega) ?_
  refine Ok.okI (by omega) (by omega) ?_
  refine Ok.okI (by omega) (by omega) ?_
  refine Ok.okI (by omega) (by omega) ?_
  refine Ok.okI (by omega) (by omega) ?_
  have f1 := rd_113 (i := x1.toNatClampNeg) (hI).toX (tn_lt (by omega) (by omega)) x2.toNatClampNeg
  have n2 : ((-1) : Int32).toInt = (-1) := rfl
  refine Ok.eq (fun c3 => ?_) (fun c3 => ?_)
  · have n4 : (1 : Int32).toInt = 1 := rfl
    have f5 := congrArg Int32.toInt (rd_kind (i := x1.toNatClampNeg) (hI).toX (tn_lt (by omega) (by omega)) x2.toNatClampNeg)
    have f6 := rd_123 (i := x1.toNatClampNeg) (hI).toX (tn_lt (by omega) (by omega)) x2.toNatClampNeg
    exact t_j_K_passInstruction_55 (s0 := 1) (v1 := x1) (v2 := x2) (v3 := (M (43 + x1.toNatClampNeg) x2.toNatClampNeg)) (v4 := (M (113 + x1.toNatClampNeg) x2.toNatClampNeg)) (v5 := (M (123 + x1.toNatClampNeg) x2.toNatClampNeg)) hR hI (by omega) (by omega) (by omega) (by omega) (by omega) (by omega) (by omega) (by omega) (by omega)
  · refine Ok.okI (by omega) (by omega) ?_
    have f7 := congrArg Int32.toInt (rd_kind (i := x1.toNatClampNeg) (hI).toX (tn_lt (by omega) (by omega)) x2.toNatClampNeg)
    have f8 := rd_123 (i := x1.toNatClampNeg) (hI).toX (tn_lt (by omega) (by omega)) x2.toNatClampNeg
    exact t_j_K_passInstruction_55 (s0 := (M 25 ((M (113 + x1.toNatClampNeg) x2.toNatClampNeg).toNatClampNeg))) (v1 := x1) (v2 := x2) (v3 := (M (43 + x1.toNatClampNeg) x2.toNatClampNeg)) (v4 := (M (113 + x1.toNatClampNeg) x2.toNatClampNeg)) (v5 := (M (123 + x1.toNatClampNeg) x2.toNatClampNeg)) hR hI (by omega) (by omega) (by omega) (by omega) (by omega) (by omega) (by omega) (by omega) (by omega)
theorem t_j_K_waysTaken_25 {bn bt : Int} {G : Sto} {P : Int32 × Sto → Prop} {v1 : Int32} {M : Sto} (hR : ∀ r : Int32, P (r, M)) (hI : IZ bn bt G M) (r0 : 0 ≤ v1.toInt) (r1 : v1.toInt ≤ 9) : Ok P (j_K_waysTaken_25 v1 M) := by
  unfold j_K_waysTaken_25
  refine Ok.bind (s_m_P_ways (x1 := v1) (hI).toX (by omega) (by omega)) (fun r1 M2 q3 => ?_)
  dsimp only at q3
  have q4 := q3
  have q4 : M = M2 := q4
  subst q4
  dsimp only
  exact Ok.some (hR r1)
theorem t_j_K_waysTaken_75 {bn bt : Int} {G : Sto} {P : Int32 × Sto → Prop} {s0 : Int32} {M : Sto} (hR : ∀ r : Int32, P (r, M)) (hI : IZ bn bt G M) (r0 : 0 ≤ s0.toInt) (r1 : s0.toInt ≤ 9) : Ok P (j_K_waysTaken_75 s0 M) := by
  unfold j_K_waysTaken_75
  refine Ok.bind (s_m_N_bit (x0 := s0) (hI).toX) (fun r1 M2 q3 => ?_)
  dsimp only at q3
  have q4 := q3
  have q4 : M = M2 := q4
  subst q4
  dsimp only
  exact Ok.some (hR r1)
theorem t_m_K_waysTaken {bn bt : Int} {G : Sto} {x1 : Int32} {M : Sto} (hI : IZ bn bt G M) (r0 : 0 ≤ x1.toInt) (r1 : x1.toInt ≤ 9) : Ok (fun a => M = a.2) (m_K_waysTaken x1 M) := by
  have hR : ∀ r : Int32, (fun a : Int32 × Sto => M = a.2) (r, M) := fun r => rfl
  unfold m_K_waysTaken
  refine Ok.okI (by omega) (by omega) ?_
  have f1 := rd_20 (hI).toX x1.toNatClampNeg
  have n2 : ((-1) : Int32).toInt = (-1) := rfl
  refine Ok.eq (fun c3 => ?_) (fun c3 => ?_)
  · exact t_j_K_waysTaken_25 (v1 := x1) hR hI (by omega) (by omega)
  · refine Ok.okI (by omega) (by omega) ?_
    have n4 : (2 : Int32).toInt = 2 := rfl
    refine Ok.eq (fun c5 => ?_) (fun c5 => ?_)
    · exact t_j_K_waysTaken_25 (v1 := x1) hR hI (by omega) (by omega)
    · refine Ok.okI (by omega) (by omega) ?_
      have n6 : (0 : Int32).toInt = 0 := rfl
      refine Ok.eq (fun c7 => ?_) (fun c7 => ?_)
      · exact Ok.some (hR 0)
      · refine Ok.okI (by omega) (by omega) ?_
        refine Ok.eq (fun c8 => ?_) (fun c8 => ?_)
        · refine Ok.okI (by omega) (by omega) ?_
          have f9 := rd_11 (hI).toX x1.toNatClampNeg
          exact t_j_K_waysTaken_75 (s0 := (M 11 x1.toNatClampNeg)) hR hI (by omega) (by omega)
        · refine Ok.okI (by omega) (by omega) ?_
          have f10 := rd_10 (hI).toX x1.toNatClampNeg
          exact t_j_K_waysTaken_75 (s0 := (M 10 x1.toNatClampNeg)) hR hI (by omega) (by omega)
theorem t_j_K_passEnd_45 {bn bt : Int} {G : Sto} {P : Int32 × Sto → Prop} {M : Sto} (hR : ∀ (r : Int32) (M : Sto), IZ bn bt G M → 0 ≤ r.toInt → r.toInt ≤ 0 → P (r, M)) (hI : IZ bn bt G M) : Ok P (j_K_passEnd_45 M) := by
  unfold j_K_passEnd_45
  have n1 : (0 : Int32).toInt = 0 := rfl
  exact Ok.some (hR 0 _ hI (by omega) (by omega))
theorem t_m_K_passEnd {bn bt : Int} {G : Sto} {x1 : Int32} {M : Sto} (hI : IZ bn bt G M) (r0 : 0 ≤ x1.toInt) (r1 : x1.toInt ≤ 9) : Ok (fun a => IZ bn bt G a.2 ∧ 0 ≤ a.1.toInt ∧ a.1.toInt ≤ 0) (m_K_passEnd x1 M) := by
  have hR : ∀ (r : Int32) (M : Sto), IZ bn bt G M → 0 ≤ r.toInt → r.toInt ≤ 0 → (fun a : Int32 × Sto => IZ bn bt G a.2 ∧ 0 ≤ a.1.toInt ∧ a.1.toInt ≤ 0) (r, M) := fun r M hI h0 h1 => ⟨hI, h0, h1⟩
  unfold m_K_passEnd
  refine Ok.okI (by omega) (by omega) ?_
  refine Ok.bind (t_m_K_waysTaken (x1 := x1) hI (by omega) (by omega)) (fun r1 M2 q3 => ?_)
  dsimp only at q3
  have q4 := q3
  have q4 : M = M2 := q4
  subst q4
  dsimp only
  refine Ok.okI (by omega) (by omega) ?_
  refine Ok.eq (fun c5 => ?_) (fun c5 => ?_)
  · exact t_j_K_passEnd_45 hR hI
  · refine Ok.okI (by omega) (by omega) ?_
    refine Ok.wr (fun M8 q6 => ?_)
    have i7 := uz_24 hI (j := x1.toNatClampNeg) (v := ((M 24 x1.toNatClampNeg) ||| r1))
    rw [← q6] at i7
    refine Ok.wr (fun M11 q9 => ?_)
    have i10 := uz_4_3 i7 (v := ((M8 4 3) ||| ((M 24 x1.toNatClampNeg) ||| r1)))
    rw [← q9] at i10
    have n12 : (1 : Int32).toInt = 1 := rfl
    refine Ok.bzI (by omega) (by omega) ?_
    refine Ok.wr (fun M15 q13 => ?_)
    have i14 := uz_4_7 i10 (v := 1) (by omega) (by omega)
    rw [← q13] at i14
    exact t_j_K_passEnd_45 hR i14
theorem t_j_K_passBlock_78 {bn bt : Int} {G : Sto} {P : Int32 × Sto → Prop} {v1 : Int32} {M : Sto} (hR : ∀ (r : Int32) (M : Sto), IZ bn bt G M → 0 ≤ r.toInt → r.toInt ≤ 0 → P (r, M)) (hI : IZ bn bt G M) (r0 : 0 ≤ v1.toInt) (r1 : v1.toInt ≤ 9) : Ok P (j_K_passBlock_78 v1 M) := by
  unfold j_K_passBlock_78
  refine Ok.bind (t_m_K_passEnd (x1 := v1) hI (by omega) (by omega)) (fun r1 M2 q3 => ?_)
  dsimp only at q3
  obtain ⟨q4, q5, q6⟩ := q3
  dsimp only
  have n7 : (0 : Int32).toInt = 0 := rfl
  exact Ok.some (hR 0 _ q4 (by omega) (by omega))
theorem t_j_K_passBlock_72 {bn bt : Int} {G : Sto} {P : Int32 × Sto → Prop} {g : Int32 → Int32 → Sto → Option (Int32 × Sto)} {k : Int32 → Sto → Option (Int32 × Sto)} {n : Nat} {v1 v2 : Int32} {M : Sto} (hg : ∀ (e2 : Int32) (M : Sto), IZ bn bt G M → 0 ≤ e2.toInt → e2.toInt ≤ 6 → 7 - e2.toInt ≤ (n : Int) → Ok P (g v1 e2 M)) (hk : ∀ (M : Sto), IZ bn bt G M → Ok P (k v1 M)) (hI : IZ bn bt G M) (r0 : 0 ≤ v1.toInt) (r1 : v1.toInt ≤ 9) (r2 : 0 ≤ v2.toInt) (r3 : v2.toInt ≤ 5) (hn : 7 - v2.toInt ≤ (n : Int) + 1) : Ok P (j_K_passBlock_72 g k v1 v2 M) := by
  unfold j_K_passBlock_72
  have n1 : (1 : Int32).toInt = 1 := rfl
  have f2 : (v2 + 1).toInt = v2.toInt + (1 : Int32).toInt := addI (by omega) (by omega)
  exact hg (v2 + 1) M hI (by omega) (by omega) (by omega)
theorem t_l_K_passBlock_38 {bn bt : Int} {G : Sto} {P : Int32 × Sto → Prop} {k : Int32 → Sto → Option (Int32 × Sto)} {v1 : Int32} (rf0 : 0 ≤ v1.toInt) (rf1 : v1.toInt ≤ 9) (hk : ∀ (M : Sto), IZ bn bt G M → Ok P (k v1 M)) : ∀ (n : Nat) (v2 : Int32) (M : Sto), IZ bn bt G M → 0 ≤ v2.toInt → v2.toInt ≤ 6 → 7 - v2.toInt ≤ (n : Int) → Ok P (l_K_passBlock_38 k n v1 v2 M) := by
  intro n
  induction n with
  | zero => intro v2 M hI r0 r1 hn; exfalso; omega
  | succ n ih =>
    intro v2 M hI r0 r1 hn
    unfold l_K_passBlock_38
    refine Ok.okI (by omega) (by omega) ?_
    have f1 := rd_7 (hI).toX v1.toNatClampNeg
    refine Ok.le (fun c2 => ?_) (fun c2 => ?_)
    · exact hk M hI
    · refine Ok.okI (by omega) (by omega) ?_
      refine Ok.okI (by omega) (by omega) ?_
      have f3 := rd_103 (i := v1.toNatClampNeg) (hI).toX (tn_lt (by omega) (by omega)) v2.toNatClampNeg
      have n4 : ((-1) : Int32).toInt = (-1) := rfl
      refine Ok.eq (fun c5 => ?_) (fun c5 => ?_)
      · exact t_j_K_passBlock_72 (v1 := v1) (v2 := v2) ih hk hI (by omega) (by omega) (by omega) (by omega) (by omega)
      · refine Ok.bind (t_m_K_passInstruction (x1 := v1) (x2 := v2) hI (by omega) (by omega) (by omega) (by omega) (by omega)) (fun r6 M7 q8 => ?_)
        dsimp only at q8
        obtain ⟨q9, q10, q11⟩ := q8
        dsimp only
        exact t_j_K_passBlock_72 (v1 := v1) (v2 := v2) ih hk q9 (by omega) (by omega) (by omega) (by omega) (by omega)
theorem t_j_K_passBlock_36 {bn bt : Int} {G : Sto} {P : Int32 × Sto → Prop} {v1 : Int32} {M : Sto} (hR : ∀ (r : Int32) (M : Sto), IZ bn bt G M → 0 ≤ r.toInt → r.toInt ≤ 0 → P (r, M)) (hI : IZ bn bt G M) (r0 : 0 ≤ v1.toInt) (r1 : v1.toInt ≤ 9) : Ok P (j_K_passBlock_36 v1 M) := by
  unfold j_K_passBlock_36
  have n1 : (0 : Int32).toInt = 0 := rfl
  have fu_ := fu_le
  refine t_l_K_passBlock_38 (v1 := v1) (by omega) (by omega) (fun M2 i3 => ?_) FU 0 M hI (by omega) (by omega) (by omega)
  exact t_j_K_passBlock_78 (v1 := v1) hR i3 (by omega) (by omega)
theorem t_j_K_passBlock_30 {bn bt : Int} {G : Sto} {P : Int32 × Sto → Prop} {g : Int32 → Int32 → Sto → Option (Int32 × Sto)} {k : Int32 → Sto → Option (Int32 × Sto)} {n : Nat} {v1 v2 : Int32} {M : Sto} (hg : ∀ (e2 : Int32) (M : Sto), IZ bn bt G M → 0 ≤ e2.toInt → e2.toInt ≤ 6 → 7 - e2.toInt ≤ (n : Int) → Ok P (g v1 e2 M)) (hk : ∀ (M : Sto), IZ bn bt G M → Ok P (k v1 M)) (hI : IZ bn bt G M) (r0 : 0 ≤ v1.toInt) (r1 : v1.toInt ≤ 9) (r2 : 0 ≤ v2.toInt) (r3 : v2.toInt ≤ 5) (hn : 7 - v2.toInt ≤ (n : Int) + 1) : Ok P (j_K_passBlock_30 g k v1 v2 M) := by
  unfold j_K_passBlock_30
  have n1 : (1 : Int32).toInt = 1 := rfl
  have f2 : (v2 + 1).toInt = v2.toInt + (1 : Int32).toInt := addI (by omega) (by omega)
  exact hg (v2 + 1) M hI (by omega) (by omega) (by omega)
theorem t_l_K_passBlock_2 {bn bt : Int} {G : Sto} {P : Int32 × Sto → Prop} {k : Int32 → Sto → Option (Int32 × Sto)} {v1 : Int32} (rf0 : 0 ≤ v1.toInt) (rf1 : v1.toInt ≤ 9) (hk : ∀ (M : Sto), IZ bn bt G M → Ok P (k v1 M)) : ∀ (n : Nat) (v2 : Int32) (M : Sto), IZ bn bt G M → 0 ≤ v2.toInt → v2.toInt ≤ 6 → 7 - v2.toInt ≤ (n : Int) → Ok P (l_K_passBlock_2 k n v1 v2 M) := by
  intro n
  induction n with
  | zero => intro v2 M hI r0 r1 hn; exfalso; omega
  | succ n ih =>
    intro v2 M hI r0 r1 hn
    unfold l_K_passBlock_2
    have n1 : (6 : Int32).toInt = 6 := rfl
    refine Ok.le (fun c2 => ?_) (fun c2 => ?_)
    · exact hk M hI
    · refine Ok.okI (by omega) (by omega) ?_
      refine Ok.bind (s_m_N_holds (x0 := (M 18 v1.toNatClampNeg)) (x1 := v2) (hI).toX) (fun r3 M4 q5 => ?_)
      dsimp only at q5
      obtain ⟨q6, q7, q8⟩ := q5
      have q6 : M = M4 := q6
      subst q6
      dsimp only
      have n9 : (0 : Int32).toInt = 0 := rfl
      refine Ok.eq (fun c10 => ?_) (fun c10 => ?_)
      · exact t_j_K_passBlock_30 (v1 := v1) (v2 := v2) ih hk hI (by omega) (by omega) (by omega) (by omega) (by omega)
      · refine Ok.bind (t_m_K_passPhi (x1 := v1) (x2 := v2) hI (by omega) (by omega) (by omega) (by omega)) (fun r11 M12 q13 => ?_)
        dsimp only at q13
        obtain ⟨q14, q15, q16⟩ := q13
        dsimp only
        exact t_j_K_passBlock_30 (v1 := v1) (v2 := v2) ih hk q14 (by omega) (by omega) (by omega) (by omega) (by omega)
theorem t_m_K_passBlock {bn bt : Int} {G : Sto} {x1 : Int32} {M : Sto} (hI : IZ bn bt G M) (r0 : 0 ≤ x1.toInt) (r1 : x1.toInt ≤ 9) : Ok (fun a => IZ bn bt G a.2 ∧ 0 ≤ a.1.toInt ∧ a.1.toInt ≤ 0) (m_K_passBlock x1 M) := by
  have hR : ∀ (r : Int32) (M : Sto), IZ bn bt G M → 0 ≤ r.toInt → r.toInt ≤ 0 → (fun a : Int32 × Sto => IZ bn bt G a.2 ∧ 0 ≤ a.1.toInt ∧ a.1.toInt ≤ 0) (r, M) := fun r M hI h0 h1 => ⟨hI, h0, h1⟩
  unfold m_K_passBlock
  have n1 : (0 : Int32).toInt = 0 := rfl
  have fu_ := fu_le
  refine t_l_K_passBlock_2 (v1 := x1) (by omega) (by omega) (fun M2 i3 => ?_) FU 0 M hI (by omega) (by omega) (by omega)
  exact t_j_K_passBlock_36 (v1 := x1) hR i3 (by omega) (by omega)
theorem t_j_K_settle_136 {bn bt : Int} {G : Sto} {P : Int32 × Sto → Prop} {M : Sto} (hR : ∀ (r : Int32) (M : Sto), IZ bn bt G M → 0 ≤ r.toInt → r.toInt ≤ 0 → P (r, M)) (hI : IZ bn bt G M) : Ok P (j_K_settle_136 M) := by
  unfold j_K_settle_136
  have n1 : (0 : Int32).toInt = 0 := rfl
  exact Ok.some (hR 0 _ hI (by omega) (by omega))
theorem t_j_K_settle_130 {bn bt : Int} {G : Sto} {P : Int32 × Sto → Prop} {g : Int32 → Sto → Option (Int32 × Sto)} {k : Sto → Option (Int32 × Sto)} {n : Nat} {v1 : Int32} {M : Sto} (hg : ∀ (e1 : Int32) (M : Sto), IZ bn bt G M → 0 ≤ e1.toInt → e1.toInt ≤ 1000 → 1001 - e1.toInt ≤ (n : Int) → Ok P (g e1 M)) (hk : ∀ (M : Sto), IZ bn bt G M → Ok P (k M)) (hI : IZ bn bt G M) (r0 : 0 ≤ v1.toInt) (r1 : v1.toInt ≤ 999) (hn : 1001 - v1.toInt ≤ (n : Int) + 1) : Ok P (j_K_settle_130 g k v1 M) := by
  unfold j_K_settle_130
  have n1 : (1 : Int32).toInt = 1 := rfl
  have f2 : (v1 + 1).toInt = v1.toInt + (1 : Int32).toInt := addI (by omega) (by omega)
  exact hg (v1 + 1) M hI (by omega) (by omega) (by omega)
theorem t_j_K_settle_124 {bn bt : Int} {G : Sto} {P : Int32 × Sto → Prop} {g : Int32 → Int32 → Sto → Option (Int32 × Sto)} {k : Int32 → Sto → Option (Int32 × Sto)} {n : Nat} {v1 v2 : Int32} {M : Sto} (hg : ∀ (e2 : Int32) (M : Sto), IZ bn bt G M → 0 ≤ e2.toInt → e2.toInt ≤ 10 → 11 - e2.toInt ≤ (n : Int) → Ok P (g v1 e2 M)) (hk : ∀ (M : Sto), IZ bn bt G M → Ok P (k v1 M)) (hI : IZ bn bt G M) (r0 : 0 ≤ v1.toInt) (r1 : v1.toInt ≤ 999) (r2 : 0 ≤ v2.toInt) (r3 : v2.toInt ≤ 9) (hn : 11 - v2.toInt ≤ (n : Int) + 1) : Ok P (j_K_settle_124 g k v1 v2 M) := by
  unfold j_K_settle_124
  have n1 : (1 : Int32).toInt = 1 := rfl
  have f2 : (v2 + 1).toInt = v2.toInt + (1 : Int32).toInt := addI (by omega) (by omega)
  exact hg (v2 + 1) M hI (by omega) (by omega) (by omega)
theorem t_l_K_settle_81 {bn bt : Int} {G : Sto} {P : Int32 × Sto → Prop} {k : Int32 → Sto → Option (Int32 × Sto)} {v1 : Int32} (rf0 : 0 ≤ v1.toInt) (rf1 : v1.toInt ≤ 999) (hk : ∀ (M : Sto), IZ bn bt G M → Ok P (k v1 M)) : ∀ (n : Nat) (v2 : Int32) (M : Sto), IZ bn bt G M → 0 ≤ v2.toInt → v2.toInt ≤ 10 → 11 - v2.toInt ≤ (n : Int) → Ok P (l_K_settle_81 k n v1 v2 M) := by
  intro n
  induction n with
  | zero => intro v2 M hI r0 r1 hn; exfalso; omega
  | succ n ih =>
    intro v2 M hI r0 r1 hn
    unfold l_K_settle_81
    have f1 := rd_2_7 (hI).toX
    refine Ok.le (fun c2 => ?_) (fun c2 => ?_)
    · exact hk M hI
    · refine Ok.okI (by omega) (by omega) ?_
      have f3 := rd_16 (hI).toX v2.toNatClampNeg
      refine Ok.bind (s_m_N_holds (x0 := (M 4 3)) (x1 := (M 16 v2.toNatClampNeg)) (hI).toX) (fun r4 M5 q6 => ?_)
      dsimp only at q6
      obtain ⟨q7, q8, q9⟩ := q6
      have q7 : M = M5 := q7
      subst q7
      dsimp only
      have n10 : (0 : Int32).toInt = 0 := rfl
      refine Ok.eq (fun c11 => ?_) (fun c11 => ?_)
      · exact t_j_K_settle_124 (v1 := v1) (v2 := v2) ih hk hI (by omega) (by omega) (by omega) (by omega) (by omega)
      · refine Ok.okI (by omega) (by omega) ?_
        refine Ok.bind (t_m_K_passBlock (x1 := (M 16 v2.toNatClampNeg)) hI (by omega) (by omega)) (fun r12 M13 q14 => ?_)
        dsimp only at q14
        obtain ⟨q15, q16, q17⟩ := q14
        dsimp only
        exact t_j_K_settle_124 (v1 := v1) (v2 := v2) ih hk q15 (by omega) (by omega) (by omega) (by omega) (by omega)
theorem t_l_K_settle_60 {bn bt : Int} {G : Sto} {P : Int32 × Sto → Prop} {k : Sto → Option (Int32 × Sto)} (hk : ∀ (M : Sto), IZ bn bt G M → Ok P (k M)) : ∀ (n : Nat) (v1 : Int32) (M : Sto), IZ bn bt G M → 0 ≤ v1.toInt → v1.toInt ≤ 1000 → 1001 - v1.toInt ≤ (n : Int) → Ok P (l_K_settle_60 k n v1 M) := by
  intro n
  induction n with
  | zero => intro v1 M hI r0 r1 hn; exfalso; omega
  | succ n ih =>
    intro v1 M hI r0 r1 hn
    unfold l_K_settle_60
    have f1 := rd_4_7 (hI).toX
    have n2 : (0 : Int32).toInt = 0 := rfl
    refine Ok.eq (fun c3 => ?_) (fun c3 => ?_)
    · exact hk M hI
    · have n4 : (1000 : Int32).toInt = 1000 := rfl
      refine Ok.le (fun c5 => ?_) (fun c5 => ?_)
      · exact hk M hI
      · refine Ok.bzI (by omega) (by omega) ?_
        refine Ok.wr (fun M8 q6 => ?_)
        have i7 := uz_4_7 hI (v := 0) (by omega) (by omega)
        rw [← q6] at i7
        have fu_ := fu_le
        refine t_l_K_settle_81 (v1 := v1) (by omega) (by omega) (fun M9 i10 => ?_) FU 0 M8 i7 (by omega) (by omega) (by omega)
        exact t_j_K_settle_130 (v1 := v1) ih hk i10 (by omega) (by omega) (by omega)
theorem t_j_K_settle_45 {bn bt : Int} {G : Sto} {P : Int32 × Sto → Prop} {M : Sto} (hR : ∀ (r : Int32) (M : Sto), IZ bn bt G M → 0 ≤ r.toInt → r.toInt ≤ 0 → P (r, M)) (hI : IZ bn bt G M) : Ok P (j_K_settle_45 M) := by
  unfold j_K_settle_45
  have n1 : (0 : Int32).toInt = 0 := rfl
  refine Ok.bind (s_m_N_bit (x0 := 0) (hI).toX) (fun r2 M3 q4 => ?_)
  dsimp only at q4
  have q5 := q4
  have q5 : M = M3 := q5
  subst q5
  dsimp only
  refine Ok.wr (fun M8 q6 => ?_)
  have i7 := uz_4_3 hI (v := r2)
  rw [← q6] at i7
  have n9 : (1 : Int32).toInt = 1 := rfl
  refine Ok.bzI (by omega) (by omega) ?_
  refine Ok.wr (fun M12 q10 => ?_)
  have i11 := uz_4_7 i7 (v := 1) (by omega) (by omega)
  rw [← q10] at i11
  have fu_ := fu_le
  refine t_l_K_settle_60 (fun M13 i14 => ?_) FU 0 M12 i11 (by omega) (by omega) (by omega)
  exact t_j_K_settle_136 hR i14
theorem t_l_K_settle_26 {bn bt : Int} {G : Sto} {P : Int32 × Sto → Prop} {k : Sto → Option (Int32 × Sto)} (hk : ∀ (M : Sto), IZ bn bt G M → Ok P (k M)) : ∀ (n : Nat) (v1 : Int32) (M : Sto), IZ bn bt G M → 0 ≤ v1.toInt → v1.toInt ≤ 6 → 7 - v1.toInt ≤ (n : Int) → Ok P (l_K_settle_26 k n v1 M) := by
  intro n
  induction n with
  | zero => intro v1 M hI r0 r1 hn; exfalso; omega
  | succ n ih =>
    intro v1 M hI r0 r1 hn
    unfold l_K_settle_26
    have n1 : (6 : Int32).toInt = 6 := rfl
    refine Ok.le (fun c2 => ?_) (fun c2 => ?_)
    · exact hk M hI
    · refine Ok.okI (by omega) (by omega) ?_
      have n6 : (1 : Int32).toInt = 1 := rfl
      refine Ok.wr (fun M5 q3 => ?_)
      have i4 := uz_25 hI (j := v1.toNatClampNeg) (v := 1)
      rw [← q3] at i4
      have f7 : (v1 + 1).toInt = v1.toInt + (1 : Int32).toInt := addI (by omega) (by omega)
      exact ih (v1 + 1) M5 i4 (by omega) (by omega) (by omega)
theorem t_m_K_settle {bn bt : Int} {G : Sto} {M : Sto} (hI : IZ bn bt G M) : Ok (fun a => IZ bn bt G a.2 ∧ 0 ≤ a.1.toInt ∧ a.1.toInt ≤ 0) (m_K_settle M) := by
  have hR : ∀ (r : Int32) (M : Sto), IZ bn bt G M → 0 ≤ r.toInt → r.toInt ≤ 0 → (fun a : Int32 × Sto => IZ bn bt G a.2 ∧ 0 ≤ a.1.toInt ∧ a.1.toInt ≤ 0) (r, M) := fun r M hI h0 h1 => ⟨hI, h0, h1⟩
  unfold m_K_settle
  have n4 : (0 : Int32).toInt = 0 := rfl
  refine Ok.wr (fun M3 q1 => ?_)
  have i2 := fz_24 hI (n := 10) (v := 0)
  rw [← q1] at i2
  refine Ok.wr (fun M7 q5 => ?_)
  have i6 := fz_25 i2 (n := 126) (v := 0)
  rw [← q5] at i6
  refine Ok.wr (fun M10 q8 => ?_)
  have i9 := fz_26 i6 (n := 126) (v := 0)
  rw [← q8] at i9
  have fu_ := fu_le
  refine t_l_K_settle_26 (fun M11 i12 => ?_) FU 0 M10 i9 (by omega) (by omega) (by omega)
  exact t_j_K_settle_45 hR i12
def IW (bn bt : Int) (G M : Sto) : Prop := RgX bn bt M ∧ (∀ k j : Nat, pcm k j = true → M k j = G k j) ∧ KP G
theorem IW.up {bn bt : Int} {G M : Sto} {v : Int32} (h : IW bn bt G M) {k j : Nat} (hp : pcm k j = false) (h1 : loX k j ≤ v.toInt) (h2 : v.toInt ≤ hiX bn bt k j) : IW bn bt G (up2 M k j v) := by
  refine ⟨h.1.up h1 h2, fun a b hab => ?_, h.2.2⟩
  rw [up2_at, if_neg (fun q => by rw [q.1, q.2, hp] at hab; exact Bool.noConfusion hab)]; exact h.2.1 a b hab
theorem IZ.toW {bn bt : Int} {G M : Sto} (h : IZ bn bt G M) : IW bn bt G M := ⟨h.1, h.2.1, h.2.2.1⟩
theorem IW.toZ {bn bt : Int} {G M : Sto} (h : IW bn bt G M) (hc : CN M) : IZ bn bt G M := ⟨h.1, h.2.1, h.2.2, hc⟩
theorem t_m_D_need {bn bt : Int} {G : Sto} {x1 : Int32} {M : Sto} (hI : IZ bn bt G M) (r0 : (-1) ≤ x1.toInt) (r1 : x1.toInt ≤ 125) : Ok (fun a => IZ bn bt G a.2 ∧ 0 ≤ a.1.toInt ∧ a.1.toInt ≤ 0) (m_D_need x1 M) := by
  have n0 : (0 : Int32).toInt = 0 := rfl
  have n1 : (1 : Int32).toInt = 1 := rfl
  have n2 : (-1 : Int32).toInt = -1 := rfl
  have z0 : (0 : Int) ≤ 0 := Int.le_refl 0
  unfold m_D_need
  refine Ok.eq (fun c => ?_) (fun c => ?_)
  · exact Ok.some ⟨hI, z0, z0⟩
  refine Ok.okI (by omega) (by omega) ?_
  refine Ok.eq (fun hz => ?_) (fun _ => Ok.some ⟨hI, z0, z0⟩)
  refine Ok.okI (by omega) (by omega) ?_
  refine Ok.bzI (by omega) (by omega) ?_
  have hN : x1.toNatClampNeg < 126 := tn_lt (by omega) (by omega)
  have hz2 : M 27 x1.toNatClampNeg = 0 := Int32.toInt_inj.mp hz
  have hc : (M 5 5).toInt = cnt (M 27) 126 := hI.2.2.2
  have hl := cnt_lt (M 27) hz2 126 hN
  have hg := cnt_ge (M 27) 126
  refine Ok.wr (fun M1 e1 => ?_)
  have i1 : IW bn bt G M1 := by rw [e1]; exact hI.toW.up rfl (show (0 : Int) ≤ 1 by decide) (show (1 : Int) ≤ 1 by decide)
  have a1 : M1 5 5 = M 5 5 := by rw [e1, up2_ne _ _ _ (by decide)]
  have b1 : M1 27 = upd (M 27) x1.toNatClampNeg 1 := by rw [e1, up2_self]
  rw [← a1] at hc
  refine Ok.okI (by omega) (by omega) ?_
  refine Ok.wr (fun M2 e2 => ?_)
  have i2 : IW bn bt G M2 := by rw [e2]; exact i1.up rfl (show (0 : Int) ≤ _ by omega) (show _ ≤ (125 : Int) by omega)
  have a2 : M2 5 5 = M1 5 5 := by rw [e2, up2_ne _ _ _ (by decide)]
  have b2 : M2 27 = M1 27 := by rw [e2, up2_ne _ _ _ (by decide)]
  rw [← a2] at hc
  have ha : (M2 5 5 + 1).toInt = (M2 5 5).toInt + (1 : Int32).toInt := addI (by omega) (by omega)
  refine Ok.wr (fun M3 e3 => ?_)
  have i3 : IW bn bt G M3 := by rw [e3]; exact i2.up rfl (show (0 : Int) ≤ _ by omega) (show _ ≤ (126 : Int) by omega)
  refine Ok.some ⟨i3.toZ ?_, z0, z0⟩
  show (M3 5 5).toInt = cnt (M3 27) 126
  have b3 : M3 27 = M2 27 := by rw [e3, up2_ne _ _ _ (by decide)]
  rw [b3, b2, b1, e3, cnt_upd _ hz2 126 hN, up2_at, if_pos ⟨rfl, rfl⟩, ha]
  omega
theorem t_j_D_needByBlock_111 {bn bt : Int} {G : Sto} {P : Int32 × Sto → Prop} {M : Sto} (hR : ∀ (r : Int32) (M : Sto), IZ bn bt G M → 0 ≤ r.toInt → r.toInt ≤ 0 → P (r, M)) (hI : IZ bn bt G M) : Ok P (j_D_needByBlock_111 M) := by
  unfold j_D_needByBlock_111
  have n1 : (0 : Int32).toInt = 0 := rfl
  exact Ok.some (hR 0 _ hI (by omega) (by omega))
theorem t_j_D_needByBlock_78 {bn bt : Int} {G : Sto} {P : Int32 × Sto → Prop} {v1 : Int32} {M : Sto} (hR : ∀ (r : Int32) (M : Sto), IZ bn bt G M → 0 ≤ r.toInt → r.toInt ≤ 0 → P (r, M)) (hI : IZ bn bt G M) (r0 : 0 ≤ v1.toInt) (r1 : v1.toInt ≤ 9) : Ok P (j_D_needByBlock_78 v1 M) := by
  unfold j_D_needByBlock_78
  refine Ok.okI (by omega) (by omega) ?_
  have f1 := rd_20 (hI).toX v1.toNatClampNeg
  have n2 : ((-1) : Int32).toInt = (-1) := rfl
  refine Ok.eq (fun c3 => ?_) (fun c3 => ?_)
  · exact t_j_D_needByBlock_111 hR hI
  · refine Ok.okI (by omega) (by omega) ?_
    have n4 : (2 : Int32).toInt = 2 := rfl
    refine Ok.eq (fun c5 => ?_) (fun c5 => ?_)
    · refine Ok.bind (t_m_D_need (x1 := (M 20 v1.toNatClampNeg)) hI (by omega) (by omega)) (fun r6 M7 q8 => ?_)
      dsimp only at q8
      obtain ⟨q9, q10, q11⟩ := q8
      dsimp only
      exact t_j_D_needByBlock_111 hR q9
    · exact t_j_D_needByBlock_111 hR hI
theorem t_j_D_needByBlock_72 {bn bt : Int} {G : Sto} {P : Int32 × Sto → Prop} {g : Int32 → Int32 → Sto → Option (Int32 × Sto)} {k : Int32 → Sto → Option (Int32 × Sto)} {n : Nat} {v1 v2 : Int32} {M : Sto} (hg : ∀ (e2 : Int32) (M : Sto), IZ bn bt G M → 0 ≤ e2.toInt → e2.toInt ≤ 6 → 7 - e2.toInt ≤ (n : Int) → Ok P (g v1 e2 M)) (hk : ∀ (M : Sto), IZ bn bt G M → Ok P (k v1 M)) (hI : IZ bn bt G M) (r0 : 0 ≤ v1.toInt) (r1 : v1.toInt ≤ 9) (r2 : 0 ≤ v2.toInt) (r3 : v2.toInt ≤ 5) (hn : 7 - v2.toInt ≤ (n : Int) + 1) : Ok P (j_D_needByBlock_72 g k v1 v2 M) := by
  unfold j_D_needByBlock_72
  have n1 : (1 : Int32).toInt = 1 := rfl
  have f2 : (v2 + 1).toInt = v2.toInt + (1 : Int32).toInt := addI (by omega) (by omega)
  exact hg (v2 + 1) M hI (by omega) (by omega) (by omega)
theorem t_l_D_needByBlock_2 {bn bt : Int} {G : Sto} {P : Int32 × Sto → Prop} {k : Int32 → Sto → Option (Int32 × Sto)} {v1 : Int32} (rf0 : 0 ≤ v1.toInt) (rf1 : v1.toInt ≤ 9) (hk : ∀ (M : Sto), IZ bn bt G M → Ok P (k v1 M)) : ∀ (n : Nat) (v2 : Int32) (M : Sto), IZ bn bt G M → 0 ≤ v2.toInt → v2.toInt ≤ 6 → 7 - v2.toInt ≤ (n : Int) → Ok P (l_D_needByBlock_2 k n v1 v2 M) := by
  intro n
  induction n with
  | zero => intro v2 M hI r0 r1 hn; exfalso; omega
  | succ n ih =>
    intro v2 M hI r0 r1 hn
    unfold l_D_needByBlock_2
    refine Ok.okI (by omega) (by omega) ?_
    have f1 := rd_7 (hI).toX v1.toNatClampNeg
    refine Ok.le (fun c2 => ?_) (fun c2 => ?_)
    · exact hk M hI
    · refine Ok.okI (by omega) (by omega) ?_
      refine Ok.okI (by omega) (by omega) ?_
      have f3 := congrArg Int32.toInt (rd_kind (i := v1.toNatClampNeg) (hI).toX (tn_lt (by omega) (by omega)) v2.toNatClampNeg)
      have n4 : (7 : Int32).toInt = 7 := rfl
      refine Ok.eq (fun c5 => ?_) (fun c5 => ?_)
      · refine Ok.okI (by omega) (by omega) ?_
        refine Ok.okI (by omega) (by omega) ?_
        have f6 := rd_113 (i := v1.toNatClampNeg) (hI).toX (tn_lt (by omega) (by omega)) v2.toNatClampNeg
        refine Ok.bind (t_m_D_need (x1 := (M (113 + v1.toNatClampNeg) v2.toNatClampNeg)) hI (by omega) (by omega)) (fun r7 M8 q9 => ?_)
        dsimp only at q9
        obtain ⟨q10, q11, q12⟩ := q9
        dsimp only
        exact t_j_D_needByBlock_72 (v1 := v1) (v2 := v2) ih hk q10 (by omega) (by omega) (by omega) (by omega) (by omega)
      · have n13 : (6 : Int32).toInt = 6 := rfl
        refine Ok.eq (fun c14 => ?_) (fun c14 => ?_)
        · refine Ok.okI (by omega) (by omega) ?_
          refine Ok.okI (by omega) (by omega) ?_
          have f15 := rd_103 (i := v1.toNatClampNeg) (hI).toX (tn_lt (by omega) (by omega)) v2.toNatClampNeg
          refine Ok.bind (t_m_D_need (x1 := (M (103 + v1.toNatClampNeg) v2.toNatClampNeg)) hI (by omega) (by omega)) (fun r16 M17 q18 => ?_)
          dsimp only at q18
          obtain ⟨q19, q20, q21⟩ := q18
          dsimp only
          exact t_j_D_needByBlock_72 (v1 := v1) (v2 := v2) ih hk q19 (by omega) (by omega) (by omega) (by omega) (by omega)
        · exact t_j_D_needByBlock_72 (v1 := v1) (v2 := v2) ih hk hI (by omega) (by omega) (by omega) (by omega) (by omega)
theorem t_m_D_needByBlock {bn bt : Int} {G : Sto} {x1 : Int32} {M : Sto} (hI : IZ bn bt G M) (r0 : 0 ≤ x1.toInt) (r1 : x1.toInt ≤ 9) : Ok (fun a => IZ bn bt G a.2 ∧ 0 ≤ a.1.toInt ∧ a.1.toInt ≤ 0) (m_D_needByBlock x1 M) := by
  have hR : ∀ (r : Int32) (M : Sto), IZ bn bt G M → 0 ≤ r.toInt → r.toInt ≤ 0 → (fun a : Int32 × Sto => IZ bn bt G a.2 ∧ 0 ≤ a.1.toInt ∧ a.1.toInt ≤ 0) (r, M) := fun r M hI h0 h1 => ⟨hI, h0, h1⟩
  unfold m_D_needByBlock
  have n1 : (0 : Int32).toInt = 0 := rfl
  have fu_ := fu_le
  refine t_l_D_needByBlock_2 (v1 := x1) (by omega) (by omega) (fun M2 i3 => ?_) FU 0 M hI (by omega) (by omega) (by omega)
  exact t_j_D_needByBlock_78 (v1 := x1) hR i3 (by omega) (by omega)
theorem t_j_D_needPartsOfPhi_46 {bn bt : Int} {G : Sto} {P : Int32 × Sto → Prop} {M : Sto} (hR : ∀ (r : Int32) (M : Sto), IZ bn bt G M → 0 ≤ r.toInt → r.toInt ≤ 0 → P (r, M)) (hI : IZ bn bt G M) : Ok P (j_D_needPartsOfPhi_46 M) := by
  unfold j_D_needPartsOfPhi_46
  have n1 : (0 : Int32).toInt = 0 := rfl
  exact Ok.some (hR 0 _ hI (by omega) (by omega))
theorem t_j_D_needPartsOfPhi_40 {bn bt : Int} {G : Sto} {P : Int32 × Sto → Prop} {g : Int32 → Int32 → Int32 → Sto → Option (Int32 × Sto)} {k : Sto → Option (Int32 × Sto)} {n : Nat} {v1 v2 v3 : Int32} {M : Sto} (hg : ∀ (e3 : Int32) (M : Sto), IZ bn bt G M → 0 ≤ e3.toInt → e3.toInt ≤ 10 → 11 - e3.toInt ≤ (n : Int) → Ok P (g v1 v2 e3 M)) (hk : ∀ (M : Sto), IZ bn bt G M → Ok P (k M)) (hI : IZ bn bt G M) (r0 : 0 ≤ v1.toInt) (r1 : v1.toInt ≤ 9) (r2 : 0 ≤ v2.toInt) (r3 : v2.toInt ≤ 5) (r4 : 0 ≤ v3.toInt) (r5 : v3.toInt ≤ 9) (hn : 11 - v3.toInt ≤ (n : Int) + 1) : Ok P (j_D_needPartsOfPhi_40 g k v1 v2 v3 M) := by
  unfold j_D_needPartsOfPhi_40
  have n1 : (1 : Int32).toInt = 1 := rfl
  have f2 : (v3 + 1).toInt = v3.toInt + (1 : Int32).toInt := addI (by omega) (by omega)
  exact hg (v3 + 1) M hI (by omega) (by omega) (by omega)
theorem t_l_D_needPartsOfPhi_2 {bn bt : Int} {G : Sto} {P : Int32 × Sto → Prop} {k : Sto → Option (Int32 × Sto)} {v1 v2 : Int32} (rf0 : 0 ≤ v1.toInt) (rf1 : v1.toInt ≤ 9) (rf2 : 0 ≤ v2.toInt) (rf3 : v2.toInt ≤ 5) (hk : ∀ (M : Sto), IZ bn bt G M → Ok P (k M)) : ∀ (n : Nat) (v3 : Int32) (M : Sto), IZ bn bt G M → 0 ≤ v3.toInt → v3.toInt ≤ 10 → 11 - v3.toInt ≤ (n : Int) → Ok P (l_D_needPartsOfPhi_2 k n v1 v2 v3 M) := by
  intro n
  induction n with
  | zero => intro v3 M hI r0 r1 hn; exfalso; omega
  | succ n ih =>
    intro v3 M hI r0 r1 hn
    unfold l_D_needPartsOfPhi_2
    have f1 := rd_1_0 (hI).toX
    refine Ok.le (fun c2 => ?_) (fun c2 => ?_)
    · exact hk M hI
    · refine Ok.bind (s_m_K_isWayTaken (x1 := v3) (x2 := v1) (hI).toX (by omega) (by omega)) (fun r3 M4 q5 => ?_)
      dsimp only at q5
      obtain ⟨q6, q7, q8⟩ := q5
      have q6 : M = M4 := q6
      subst q6
      dsimp only
      have n9 : (0 : Int32).toInt = 0 := rfl
      refine Ok.eq (fun c10 => ?_) (fun c10 => ?_)
      · exact t_j_D_needPartsOfPhi_40 (v1 := v1) (v2 := v2) (v3 := v3) ih hk hI (by omega) (by omega) (by omega) (by omega) (by omega) (by omega) (by omega)
      · refine Ok.okI (by omega) (by omega) ?_
        refine Ok.okI (by omega) (by omega) ?_
        have f11 := rd_93 (i := v3.toNatClampNeg) (hI).toX (tn_lt (by omega) (by omega)) v2.toNatClampNeg
        refine Ok.bind (t_m_D_need (x1 := (M (93 + v3.toNatClampNeg) v2.toNatClampNeg)) hI (by omega) (by omega)) (fun r12 M13 q14 => ?_)
        dsimp only at q14
        obtain ⟨q15, q16, q17⟩ := q14
        dsimp only
        exact t_j_D_needPartsOfPhi_40 (v1 := v1) (v2 := v2) (v3 := v3) ih hk q15 (by omega) (by omega) (by omega) (by omega) (by omega) (by omega) (by omega)
theorem t_m_D_needPartsOfPhi {bn bt : Int} {G : Sto} {x1 x2 : Int32} {M : Sto} (hI : IZ bn bt G M) (r0 : 0 ≤ x1.toInt) (r1 : x1.toInt ≤ 9) (r2 : 0 ≤ x2.toInt) (r3 : x2.toInt ≤ 5) : Ok (fun a => IZ bn bt G a.2 ∧ 0 ≤ a.1.toInt ∧ a.1.toInt ≤ 0) (m_D_needPartsOfPhi x1 x2 M) := by
  have hR : ∀ (r : Int32) (M : Sto), IZ bn bt G M → 0 ≤ r.toInt → r.toInt ≤ 0 → (fun a : Int32 × Sto => IZ bn bt G a.2 ∧ 0 ≤ a.1.toInt ∧ a.1.toInt ≤ 0) (r, M) := fun r M hI h0 h1 => ⟨hI, h0, h1⟩
  unfold m_D_needPartsOfPhi
  have n1 : (0 : Int32).toInt = 0 := rfl
  have fu_ := fu_le
  refine t_l_D_needPartsOfPhi_2 (v1 := x1) (v2 := x2) (by omega) (by omega) (by omega) (by omega) (fun M2 i3 => ?_) FU 0 M hI (by omega) (by omega) (by omega)
  exact t_j_D_needPartsOfPhi_46 hR i3
theorem t_j_D_needPartsOf_78 {bn bt : Int} {G : Sto} {P : Int32 × Sto → Prop} {M : Sto} (hR : ∀ (r : Int32) (M : Sto), IZ bn bt G M → 0 ≤ r.toInt → r.toInt ≤ 0 → P (r, M)) (hI : IZ bn bt G M) : Ok P (j_D_needPartsOf_78 M) := by
  unfold j_D_needPartsOf_78
  have n1 : (0 : Int32).toInt = 0 := rfl
  exact Ok.some (hR 0 _ hI (by omega) (by omega))
theorem t_m_D_needPartsOf {bn bt : Int} {G : Sto} {x1 : Int32} {M : Sto} (hI : IZ bn bt G M) (r0 : 0 ≤ x1.toInt) (r1 : x1.toInt ≤ 125) : Ok (fun a => IZ bn bt G a.2 ∧ 0 ≤ a.1.toInt ∧ a.1.toInt ≤ 0) (m_D_needPartsOf x1 M) := by
  have hR : ∀ (r : Int32) (M : Sto), IZ bn bt G M → 0 ≤ r.toInt → r.toInt ≤ 0 → (fun a : Int32 × Sto => IZ bn bt G a.2 ∧ 0 ≤ a.1.toInt ∧ a.1.toInt ≤ 0) (r, M) := fun r M hI h0 h1 => ⟨hI, h0, h1⟩
  unfold m_D_needPartsOf
  refine Ok.okI (by omega) (by omega) ?_
  refine Ok.okI (by omega) (by omega) ?_
  have f1 := rd_21 (hI).toX x1.toNatClampNeg
  have n2 : ((-1) : Int32).toInt = (-1) := rfl
  refine Ok.eq (fun c3 => ?_) (fun c3 => ?_)
  · have n4 : (0 : Int32).toInt = 0 := rfl
    exact Ok.some (hR 0 _ hI (by omega) (by omega))
  · have f5 := rd_22 (hI).toX x1.toNatClampNeg
    refine Ok.eq (fun c6 => ?_) (fun c6 => ?_)
    · refine Ok.okI (by omega) (by omega) ?_
      have f7 := rd_23 (hI).toX x1.toNatClampNeg
      refine Ok.bind (t_m_D_needPartsOfPhi (x1 := (M 21 x1.toNatClampNeg)) (x2 := (M 23 x1.toNatClampNeg)) hI (by omega) (by omega) (by omega) (by omega)) (fun r8 M9 q10 => ?_)
      dsimp only at q10
      obtain ⟨q11, q12, q13⟩ := q10
      dsimp only
      exact t_j_D_needPartsOf_78 hR q11
    · refine Ok.okI (by omega) (by omega) ?_
      refine Ok.okI (by omega) (by omega) ?_
      have f14 := rd_113 (i := (M 21 x1.toNatClampNeg).toNatClampNeg) (hI).toX (tn_lt (by omega) (by omega)) ((M 22 x1.toNatClampNeg).toNatClampNeg)
      refine Ok.bind (t_m_D_need (x1 := (M (113 + ((M 21 x1.toNatClampNeg).toNatClampNeg)) ((M 22 x1.toNatClampNeg).toNatClampNeg))) hI (by omega) (by omega)) (fun r15 M16 q17 => ?_)
      dsimp only at q17
      obtain ⟨q18, q19, q20⟩ := q17
      dsimp only
      refine Ok.okI (by omega) (by omega) ?_
      refine Ok.okI (by omega) (by omega) ?_
      have f21 := rd_123 (i := (M 21 x1.toNatClampNeg).toNatClampNeg) (q18).toX (tn_lt (by omega) (by omega)) ((M 22 x1.toNatClampNeg).toNatClampNeg)
      refine Ok.bind (t_m_D_need (x1 := (M16 (123 + ((M 21 x1.toNatClampNeg).toNatClampNeg)) ((M 22 x1.toNatClampNeg).toNatClampNeg))) q18 (by omega) (by omega)) (fun r22 M23 q24 => ?_)
      dsimp only at q24
      obtain ⟨q25, q26, q27⟩ := q24
      dsimp only
      exact t_j_D_needPartsOf_78 hR q25
theorem t_j_D_collect_114 {bn bt : Int} {G : Sto} {P : Int32 × Sto → Prop} {M : Sto} (hR : ∀ (r : Int32) (M : Sto), IZ bn bt G M → 0 ≤ r.toInt → r.toInt ≤ 0 → P (r, M)) (hI : IZ bn bt G M) : Ok P (j_D_collect_114 M) := by
  unfold j_D_collect_114
  have n1 : (0 : Int32).toInt = 0 := rfl
  exact Ok.some (hR 0 _ hI (by omega) (by omega))
theorem t_j_D_collect_108 {bn bt : Int} {G : Sto} {P : Int32 × Sto → Prop} {g : Int32 → Sto → Option (Int32 × Sto)} {k : Sto → Option (Int32 × Sto)} {n : Nat} {v1 : Int32} {M : Sto} (hg : ∀ (e1 : Int32) (M : Sto), IZ bn bt G M → 0 ≤ e1.toInt → e1.toInt ≤ 126 → 127 - e1.toInt ≤ (n : Int) → Ok P (g e1 M)) (hk : ∀ (M : Sto), IZ bn bt G M → Ok P (k M)) (hI : IZ bn bt G M) (r0 : 0 ≤ v1.toInt) (r1 : v1.toInt ≤ 125) (hn : 127 - v1.toInt ≤ (n : Int) + 1) : Ok P (j_D_collect_108 g k v1 M) := by
  unfold j_D_collect_108
  have n1 : (1 : Int32).toInt = 1 := rfl
  have f2 : (v1 + 1).toInt = v1.toInt + (1 : Int32).toInt := addI (by omega) (by omega)
  exact hg (v1 + 1) M hI (by omega) (by omega) (by omega)
theorem t_l_D_collect_66 {bn bt : Int} {G : Sto} {P : Int32 × Sto → Prop} {k : Sto → Option (Int32 × Sto)} (hk : ∀ (M : Sto), IZ bn bt G M → Ok P (k M)) : ∀ (n : Nat) (v1 : Int32) (M : Sto), IZ bn bt G M → 0 ≤ v1.toInt → v1.toInt ≤ 126 → 127 - v1.toInt ≤ (n : Int) → Ok P (l_D_collect_66 k n v1 M) := by
  intro n
  induction n with
  | zero => intro v1 M hI r0 r1 hn; exfalso; omega
  | succ n ih =>
    intro v1 M hI r0 r1 hn
    unfold l_D_collect_66
    have f1 := rd_5_5 (hI).toX
    refine Ok.le (fun c2 => ?_) (fun c2 => ?_)
    · exact hk M hI
    · have n3 : (126 : Int32).toInt = 126 := rfl
      refine Ok.le (fun c4 => ?_) (fun c4 => ?_)
      · exfalso; omega
      · refine Ok.okI (by omega) (by omega) ?_
        have f5 := rd_28 (hI).toX v1.toNatClampNeg
        refine Ok.okI (by omega) (by omega) ?_
        have n6 : (1 : Int32).toInt = 1 := rfl
        refine Ok.eq (fun c7 => ?_) (fun c7 => ?_)
        · exact t_j_D_collect_108 (v1 := v1) ih hk hI (by omega) (by omega) (by omega)
        · refine Ok.okI (by omega) (by omega) ?_
          refine Ok.bind (t_m_D_needPartsOf (x1 := (M 28 v1.toNatClampNeg)) hI (by omega) (by omega)) (fun r8 M9 q10 => ?_)
          dsimp only at q10
          obtain ⟨q11, q12, q13⟩ := q10
          dsimp only
          exact t_j_D_collect_108 (v1 := v1) ih hk q11 (by omega) (by omega) (by omega)
theorem t_j_D_collect_64 {bn bt : Int} {G : Sto} {P : Int32 × Sto → Prop} {M : Sto} (hR : ∀ (r : Int32) (M : Sto), IZ bn bt G M → 0 ≤ r.toInt → r.toInt ≤ 0 → P (r, M)) (hI : IZ bn bt G M) : Ok P (j_D_collect_64 M) := by
  unfold j_D_collect_64
  have n1 : (0 : Int32).toInt = 0 := rfl
  have fu_ := fu_le
  refine t_l_D_collect_66 (fun M2 i3 => ?_) FU 0 M hI (by omega) (by omega) (by omega)
  exact t_j_D_collect_114 hR i3
theorem t_j_D_collect_58 {bn bt : Int} {G : Sto} {P : Int32 × Sto → Prop} {g : Int32 → Sto → Option (Int32 × Sto)} {k : Sto → Option (Int32 × Sto)} {n : Nat} {v1 : Int32} {M : Sto} (hg : ∀ (e1 : Int32) (M : Sto), IZ bn bt G M → 0 ≤ e1.toInt → e1.toInt ≤ 10 → 11 - e1.toInt ≤ (n : Int) → Ok P (g e1 M)) (hk : ∀ (M : Sto), IZ bn bt G M → Ok P (k M)) (hI : IZ bn bt G M) (r0 : 0 ≤ v1.toInt) (r1 : v1.toInt ≤ 9) (hn : 11 - v1.toInt ≤ (n : Int) + 1) : Ok P (j_D_collect_58 g k v1 M) := by
  unfold j_D_collect_58
  have n1 : (1 : Int32).toInt = 1 := rfl
  have f2 : (v1 + 1).toInt = v1.toInt + (1 : Int32).toInt := addI (by omega) (by omega)
  exact hg (v1 + 1) M hI (by omega) (by omega) (by omega)
theorem t_l_D_collect_28 {bn bt : Int} {G : Sto} {P : Int32 × Sto → Prop} {k : Sto → Option (Int32 × Sto)} (hk : ∀ (M : Sto), IZ bn bt G M → Ok P (k M)) : ∀ (n : Nat) (v1 : Int32) (M : Sto), IZ bn bt G M → 0 ≤ v1.toInt → v1.toInt ≤ 10 → 11 - v1.toInt ≤ (n : Int) → Ok P (l_D_collect_28 k n v1 M) := by
  intro n
  induction n with
  | zero => intro v1 M hI r0 r1 hn; exfalso; omega
  | succ n ih =>
    intro v1 M hI r0 r1 hn
    unfold l_D_collect_28
    have f1 := rd_1_0 (hI).toX
    refine Ok.le (fun c2 => ?_) (fun c2 => ?_)
    · exact hk M hI
    · refine Ok.bind (s_m_N_holds (x0 := (M 4 3)) (x1 := v1) (hI).toX) (fun r3 M4 q5 => ?_)
      dsimp only at q5
      obtain ⟨q6, q7, q8⟩ := q5
      have q6 : M = M4 := q6
      subst q6
      dsimp only
      have n9 : (0 : Int32).toInt = 0 := rfl
      refine Ok.eq (fun c10 => ?_) (fun c10 => ?_)
      · exact t_j_D_collect_58 (v1 := v1) ih hk hI (by omega) (by omega) (by omega)
      · refine Ok.bind (t_m_D_needByBlock (x1 := v1) hI (by omega) (by omega)) (fun r11 M12 q13 => ?_)
        dsimp only at q13
        obtain ⟨q14, q15, q16⟩ := q13
        dsimp only
        exact t_j_D_collect_58 (v1 := v1) ih hk q14 (by omega) (by omega) (by omega)
theorem t_j_D_collect_26 {bn bt : Int} {G : Sto} {P : Int32 × Sto → Prop} {M : Sto} (hR : ∀ (r : Int32) (M : Sto), IZ bn bt G M → 0 ≤ r.toInt → r.toInt ≤ 0 → P (r, M)) (hI : IZ bn bt G M) : Ok P (j_D_collect_26 M) := by
  unfold j_D_collect_26
  have n1 : (0 : Int32).toInt = 0 := rfl
  have fu_ := fu_le
  refine t_l_D_collect_28 (fun M2 i3 => ?_) FU 0 M hI (by omega) (by omega) (by omega)
  exact t_j_D_collect_64 hR i3
theorem t_l_D_collect_7 {bn bt : Int} {G : Sto} {P : Int32 × Sto → Prop} {k : Sto → Option (Int32 × Sto)} (hk : ∀ (M : Sto), IZ bn bt G M → Ok P (k M)) : ∀ (n : Nat) (v1 : Int32) (M : Sto), IW bn bt G M → (M 5 5).toInt = 0 → (∀ j : Nat, (j : Int) < v1.toInt → M 27 j = 0) → 0 ≤ v1.toInt → v1.toInt ≤ 126 → 127 - v1.toInt ≤ (n : Int) → Ok P (l_D_collect_7 k n v1 M) := by
  intro n
  induction n with
  | zero => intro v1 M _ _ _ _ _ _; exfalso; omega
  | succ n ih =>
    intro v1 M hI h5 h27 r0 r1 hn
    have n0 : (0 : Int32).toInt = 0 := rfl
    have n1 : (1 : Int32).toInt = 1 := rfl
    have n2 : (126 : Int32).toInt = 126 := rfl
    unfold l_D_collect_7
    refine Ok.le (fun c => ?_) (fun c => ?_)
    · refine hk M (hI.toZ ?_)
      show (M 5 5).toInt = cnt (M 27) 126
      rw [h5, cnt_zero]
      intro j hj
      exact h27 j (by omega)
    refine Ok.okI (by omega) (by omega) ?_
    refine Ok.bzI (by omega) (by omega) ?_
    refine Ok.wr (fun M1 e1 => ?_)
    have f : (v1 + 1).toInt = v1.toInt + (1 : Int32).toInt := addI (by omega) (by omega)
    refine ih (v1 + 1) M1 ?_ ?_ ?_ (by omega) (by omega) (by omega)
    · rw [e1]; exact hI.up rfl (show (0 : Int) ≤ 0 by decide) (show (0 : Int) ≤ 1 by decide)
    · rw [e1, up2_ne _ _ _ (by decide)]; exact h5
    · intro j hj
      rw [e1, up2_at]
      by_cases q : j = v1.toNatClampNeg
      · rw [if_pos ⟨rfl, q⟩]
      · rw [if_neg (fun z => q z.2)]
        have := tn_eq r0
        exact h27 j (by omega)
theorem t_m_D_collect {bn bt : Int} {G : Sto} {M : Sto} (hI : IZ bn bt G M) : Ok (fun a => IZ bn bt G a.2 ∧ 0 ≤ a.1.toInt ∧ a.1.toInt ≤ 0) (m_D_collect M) := by
  have hR : ∀ (r : Int32) (M : Sto), IZ bn bt G M → 0 ≤ r.toInt → r.toInt ≤ 0 → (fun a : Int32 × Sto => IZ bn bt G a.2 ∧ 0 ≤ a.1.toInt ∧ a.1.toInt ≤ 0) (r, M) := fun r M hI h0 h1 => ⟨hI, h0, h1⟩
  have n0 : (0 : Int32).toInt = 0 := rfl
  have fu_ := fu_le
  unfold m_D_collect
  refine Ok.wr (fun M1 e1 => ?_)
  refine t_l_D_collect_7 (fun M2 i3 => t_j_D_collect_26 hR i3) FU 0 M1 ?_ ?_ ?_ (by omega) (by omega) (by omega)
  · rw [e1]; exact hI.toW.up rfl (show (0 : Int) ≤ 0 by decide) (show (0 : Int) ≤ 126 by decide)
  · rw [e1, up2_at, if_pos ⟨rfl, rfl⟩]; rfl
  · intro j hj
    omega
end
section
def Rc (E : Nat → Nat → Prop) (c : Nat) : Prop := ∃ r, lev E (fun _ => False) r c
def Dm (E : Nat → Nat → Prop) (b c : Nat) : Prop := ∀ r, ¬ lev E (fun x => x = b) r c
theorem Dm.rf {E : Nat → Nat → Prop} {c : Nat} : Dm E c c := fun _ h => lev_av h rfl
theorem lev_thru2 {E : Nat → Nat → Prop} {av : Nat → Prop} {p : Nat} : ∀ {r c : Nat}, c ≠ p → lev E av r c → lev E (fun x => x = p) r c ∨ ∃ r', r' < r ∧ lev E av r' p
  | 0, _, hc, h => Or.inl ⟨h.1, fun z => hc (h.1.trans z)⟩
  | r + 1, c, hc, h => by
    rcases h with h | ⟨q, q1, q2, q3, q4⟩
    · rcases lev_thru2 hc h with z | ⟨r', z1, z2⟩
      · exact Or.inl (Or.inl z)
      · exact Or.inr ⟨r', by omega, z2⟩
    · by_cases y : q = p
      · subst y; exact Or.inr ⟨r, by omega, q2⟩
      · rcases lev_thru2 y q2 with z | ⟨r', z1, z2⟩
        · exact Or.inl (Or.inr ⟨q, q1, z, q3, hc⟩)
        · exact Or.inr ⟨r', by omega, z2⟩
theorem Dm.trans {E : Nat → Nat → Prop} {a b c : Nat} (h1 : Dm E a b) (h2 : Dm E b c) : Dm E a c := by
  by_cases z : c = b
  · rw [z]; exact h1
  · intro r h
    rcases lev_thru2 z h with y | ⟨r', _, y⟩
    · exact h2 r y
    · exact h1 r' y
theorem Dm.anti {E : Nat → Nat → Prop} {a b : Nat} (h1 : Dm E a b) (h2 : Dm E b a) (ha : Rc E a) : a = b := by
  apply Classical.byContradiction
  intro hne
  have key : ∀ r r', r' ≤ r → ¬ lev E (fun _ => False) r' a := by
    intro r
    induction r with
    | zero =>
      intro r' hr h
      rcases lev_thru2 (p := b) hne h with y | ⟨s, s1, _⟩
      · exact h2 _ y
      · omega
    | succ r ih =>
      intro r' hr h
      rcases lev_thru2 (p := b) hne h with y | ⟨s, s1, s2⟩
      · exact h2 _ y
      · rcases lev_thru2 (p := a) (Ne.symm hne) s2 with y | ⟨t, t1, t2⟩
        · exact h1 _ y
        · exact ih t (by omega) t2
  obtain ⟨r, hr⟩ := ha
  exact key r r (Nat.le_refl _) hr
theorem Dm.chain {E : Nat → Nat → Prop} {a b c : Nat} (hc : Rc E c) (h1 : Dm E a c) (h2 : Dm E b c) : Dm E a b ∨ Dm E b a := by
  apply Classical.byContradiction
  intro hno
  have n1 : ∃ r, lev E (fun x => x = a) r b := Classical.byContradiction fun q => hno (Or.inl fun r h => q ⟨r, h⟩)
  have n2 : ∃ r, lev E (fun x => x = b) r a := Classical.byContradiction fun q => hno (Or.inr fun r h => q ⟨r, h⟩)
  have hab : a ≠ b := fun z => hno (Or.inl (z ▸ Dm.rf))
  have key : ∀ r x, lev E (fun _ => False) r x → (∃ s, lev E (fun y => y = a) s x) ∨ ∃ s, lev E (fun y => y = b) s x := by
    intro r
    induction r with
    | zero =>
      intro x h
      by_cases z : a = 0
      · exact Or.inr ⟨0, h.1, fun y => hab (z.trans y)⟩
      · exact Or.inl ⟨0, h.1, fun y => z y.symm⟩
    | succ r ih =>
      intro x h
      rcases h with h | ⟨p, p1, p2, p3, _⟩
      · exact ih x h
      · by_cases za : x = a
        · rw [za]; exact Or.inr n2
        · by_cases zb : x = b
          · rw [zb]; exact Or.inl n1
          · rcases ih p p2 with ⟨s, hs⟩ | ⟨s, hs⟩
            · exact Or.inl ⟨s + 1, Or.inr ⟨p, p1, hs, p3, za⟩⟩
            · exact Or.inr ⟨s + 1, Or.inr ⟨p, p1, hs, p3, zb⟩⟩
  obtain ⟨r, hr⟩ := hc
  rcases key r c hr with ⟨s, hs⟩ | ⟨s, hs⟩
  · exact h1 s hs
  · exact h2 s hs
theorem Dm.reach {E : Nat → Nat → Prop} {b c : Nat} (hc : Rc E c) (h : Dm E b c) : Rc E b := by
  obtain ⟨r, hr⟩ := hc
  by_cases z : c = b
  · rw [← z]; exact ⟨r, hr⟩
  · rcases lev_thru2 z hr with y | ⟨s, _, hs⟩
    · exact absurd y (h r)
    · exact ⟨s, hs⟩
def IDom (E : Nat → Nat → Prop) (c p : Nat) : Prop := p ≠ c ∧ Dm E p c ∧ ∀ q, q ≠ c → Dm E q c → Dm E q p
theorem IDom.uniq {E : Nat → Nat → Prop} {c p q : Nat} (hc : Rc E c) (h1 : IDom E c p) (h2 : IDom E c q) : p = q :=
  Dm.anti (h2.2.2 p h1.1 h1.2.1) (h1.2.2 q h2.1 h2.2.1) (Dm.reach hc h1.2.1)
theorem lev_stabB {E : Nat → Nat → Prop} {av : Nat → Prop} {B : Nat} (hB : B ≤ 10) (hlt : ∀ {r c}, lev E av r c → c < 10 → c < B) {r c : Nat} (hc : c < 10) (h : lev E av r c) : lev E av (B - 1) c := by
  by_cases hi : ∃ s, s ≤ B - 1 ∧ ∀ c, c < 10 → lev E av (s + 1) c → lev E av s c
  · obtain ⟨s, s1, s2⟩ := hi
    have : lev E av s c := by
      by_cases q : r ≤ s
      · rw [show s = r + (s - r) by omega]; exact lev_up h _
      · rw [show r = s + (r - s) by omega] at h; exact lev_idle s2 _ c hc h
    rw [show B - 1 = s + (B - 1 - s) by omega]; exact lev_up this _
  · exfalso
    have h00 : lev E av 0 0 := by
      have : ∀ r c, lev E av r c → lev E av 0 0 := by
        intro r
        induction r with
        | zero => intro c h; exact ⟨rfl, h.2⟩
        | succ r ih => intro c h; exact h.elim (fun h => ih c h) fun ⟨p, _, p2, _⟩ => ih p p2
      exact this r c h
    have hB0 : 0 < B := hlt h00 (by omega)
    have hcnt : ∀ s : Nat, s ≤ B → (s : Int) + 1 ≤ cnt (fun c => @ite Int32 (lev E av s c) (Classical.propDecidable _) 1 0) B := by
      intro s
      induction s with
      | zero =>
        intro _
        have := cnt_more (f := fun _ => 0) (g := fun c => @ite Int32 (lev E av 0 c) (Classical.propDecidable _) 1 0) (j := 0) rfl (by simp [h00]) B hB0 (fun b _ hx => absurd rfl hx)
        have := cnt_ge (fun _ => (0 : Int32)) B
        omega
      | succ s ih =>
        intro hs
        have h1 := ih (by omega)
        have h2 : ∃ c, c < 10 ∧ lev E av (s + 1) c ∧ ¬ lev E av s c := by
          apply Classical.byContradiction
          intro hno
          exact hi ⟨s, by omega, fun c hc hl => Classical.byContradiction fun q => hno ⟨c, hc, hl, q⟩⟩
        obtain ⟨c, c1, c2, c3⟩ := h2
        have := cnt_more (f := fun c => @ite Int32 (lev E av s c) (Classical.propDecidable _) 1 0) (g := fun c => @ite Int32 (lev E av (s + 1) c) (Classical.propDecidable _) 1 0) (j := c) (by simp [c3]) (by simp [c2]) B (hlt c2 c1) (fun b hb hx => by
          by_cases q : lev E av s b
          · have : lev E av (s + 1) b := Or.inl q
            simp [this]
          · simp [q] at hx)
        omega
    have h1 := hcnt B (Nat.le_refl _)
    have h2 := cnt_le (fun c => @ite Int32 (lev E av B c) (Classical.propDecidable _) 1 0) B
    omega
end
section
theorem q_ones4 {P : Int32 × Sto → Prop} {k : Int32 → Sto → Option (Int32 × Sto)} {x : Int32} {M : Sto} (hk : ∀ v, (∃ w : Nat, w ≤ 10 ∧ v = nJ w ∧ (w : Int) = cb x) → Ok P (k v M)) : ∀ (n i w : Nat), i ≤ 10 → w ≤ i → (w : Int) = cnt (fun b => if bt x b then 1 else 0) i → 10 - i < n → Ok P (l_R_ones_4 k n x (nJ w) (nJ i) M) := by
  intro n
  induction n with
  | zero => intro i w h1 _ _ h2; omega
  | succ n ih =>
    intro i w hi hw hc hn
    unfold l_R_ones_4
    refine Ok.leN (a := 10) (by omega) (by omega) (fun q => ?_) (fun q => ?_)
    · have : i = 10 := by omega
      subst this
      exact hk _ ⟨w, hw, rfl, hc⟩
    · have e : (x >>> (nJ i &&& 31)) &&& 1 = nJ (if bt x i then 1 else 0) := by
        by_cases z : bt x i = true
        · rw [(has_bit x (by omega)).mpr z, if_pos z]; rfl
        · rw [if_neg z]
          apply bt_ext
          intro b hb
          rw [bt_and, bt_one]
          by_cases y : b = 0
          · subst y
            have : ¬ (((x >>> (nJ i &&& 31)) &&& 1) = 1) := fun q => z ((has_bit x (by omega)).mp q)
            have h2 : bt (x >>> (nJ i &&& 31)) 0 = false := by
              rw [Bool.eq_false_iff]
              intro h
              apply this
              apply bt_ext
              intro c hc'
              rw [bt_and, bt_one]
              by_cases y : c = 0
              · subst y; rw [h]; rfl
              · simp [y]
            rw [h2]; rfl
          · simp [y]
            exact bt_zero b
      rw [e, nJ_add (by split <;> omega), nJ_succ (by omega)]
      refine ih (i + 1) _ (by omega) (by split <;> omega) ?_ (by omega)
      show ((w + (if bt x i then 1 else 0) : Nat) : Int) = cnt _ i + _
      rw [← hc]
      by_cases z : bt x i = true
      · simp [z]
      · simp [z]
theorem q_ones {x : Int32} {M : Sto} : Ok (fun a => a.2 = M ∧ ∃ w : Nat, w ≤ 10 ∧ a.1 = nJ w ∧ (w : Int) = cb x) (m_R_ones x M) := by
  unfold m_R_ones
  exact q_ones4 (k := j_R_ones_24) (fun v hv => ⟨(v, M), rfl, rfl, hv⟩) FU 0 0 (by omega) (by omega) rfl (by unfold FU; omega)
def DJ (G : Sto) (B r v : Nat) (M : Sto) : Prop := (Fr [10] [] G M) ∧ (M 10 0 = 1) ∧ (∀ b c, b < 10 → c < 10 → lev (Ed G B) (fun x => x = b) r c → bt (M 10 c) b = false) ∧ (∀ b c, b < 10 → c < v → c < 10 → lev (Ed G B) (fun x => x = b) (r + 1) c → bt (M 10 c) b = false) ∧ (∀ c, c < B → bt (G 0 12) c = true → bt (M 10 c) 0 = true) ∧ (∀ b c, b < 10 → c < B → bt (G 0 12) c = true → Dm (Ed G B) b c → bt (M 10 c) b = true)
theorem DJ.fr {G : Sto} {B r v : Nat} {M : Sto} (h : DJ G B r v M) : Fr [10] [] G M := h.1
theorem DJ.a0 {G : Sto} {B r v : Nat} {M : Sto} (h : DJ G B r v M) : M 10 0 = 1 := h.2.1
theorem DJ.low {G : Sto} {B r v : Nat} {M : Sto} (h : DJ G B r v M) : ∀ b c, b < 10 → c < 10 → lev (Ed G B) (fun x => x = b) r c → bt (M 10 c) b = false := h.2.2.1
theorem DJ.hi {G : Sto} {B r v : Nat} {M : Sto} (h : DJ G B r v M) : ∀ b c, b < 10 → c < v → c < 10 → lev (Ed G B) (fun x => x = b) (r + 1) c → bt (M 10 c) b = false := h.2.2.2.1
theorem DJ.z {G : Sto} {B r v : Nat} {M : Sto} (h : DJ G B r v M) : ∀ c, c < B → bt (G 0 12) c = true → bt (M 10 c) 0 = true := h.2.2.2.2.1
theorem DJ.up {G : Sto} {B r v : Nat} {M : Sto} (h : DJ G B r v M) : ∀ b c, b < 10 → c < B → bt (G 0 12) c = true → Dm (Ed G B) b c → bt (M 10 c) b = true := h.2.2.2.2.2
theorem q_dom44 {P : Int32 × Sto → Prop} {k : Int32 → Sto → Option (Int32 × Sto)} {G : Sto} {B r : Nat} {v1 : Int32} (hP : PF G B) (h0 : 0 < B) (hR : RRq G B)
    (hk : ∀ M, DJ G B r B M → Ok P (k v1 M)) :
    ∀ n c M, DJ G B r c M → 0 < c → c ≤ B → B - c < n → Ok P (l_R_dominates_44 k n v1 (nJ c) M) := by
  intro n
  have hB := hP.hB
  induction n with
  | zero => intro c M _ _ h1 h2; omega
  | succ n ih =>
    intro c M hI hc0 hc hn
    have e12 : M 0 12 = G 0 12 := hI.fr.2 12 (by decide)
    have e11 : M 11 = G 11 := hI.fr.1 11 (by decide) (by decide)
    have eb : M 0 1 = nJ B := (hI.fr.2 1 (by decide)).trans hP.blk
    unfold l_R_dominates_44
    rw [eb, e12]
    refine Ok.leN (by omega) (by omega) (fun q => ?_) (fun q => ?_)
    · have : c = B := by omega
      subst this
      exact hk M hI
    refine Ok.has (by omega) (fun h1 => ?_) (fun h1 => ?_)
    · dsimp only
      rw [e12]
      refine r_dom74 (M := M) (x0 := G 0 12) hB eb (by omega) (fun x hx => ?_) FU 0 _ (fun b hb => ⟨fun a => ⟨a, fun p hp => by omega⟩, fun a => a.1⟩) (by omega) (by unfold FU; omega)
      unfold j_R_dominates_113 j_R_dominates_124
      refine Ok.okN (by omega) (by decide) ?_
      rw [nJ_tn (by omega), nJ_succ (by omega)]
      refine Ok.wr (fun M1 q1 => ?_)
      have ec : M1 10 c = x ||| (1 <<< (nJ c &&& 31)) := by rw [q1, up2_at, if_pos ⟨rfl, rfl⟩]
      have eo : ∀ a, a ≠ c → M1 10 a = M 10 a := fun a ha => by rw [q1, up2_at, if_neg (fun z => ha z.2)]
      have key : ∀ b, b < 10 → lev (Ed G B) (fun x => x = b) (r + 1) c → bt (M1 10 c) b = false := by
        intro b hb hl
        obtain ⟨p, p1, p2, p3, p4⟩ := lev_pre (by omega) hl
        rw [ec, bt_or, bt_shl (by omega) b (by omega)]
        have h2 : bt x b = false := by
          rw [Bool.eq_false_iff]
          intro hxb
          have hpre : bt (M 11 c) p = true := by
            rw [e11]
            exact (hR.bef c p (by omega) (by omega)).mpr ⟨p3.1, (hR.rch p (by omega)).mpr ⟨p1, r, lev_any p2⟩, p3⟩
          have := ((hx b (by omega)).mp hxb).2 p p3.1 hpre
          rw [hI.low b p hb p1 p2] at this; cases this
        rw [h2, decide_eq_false (fun z => p4 z.symm)]; rfl
      refine ih (c + 1) M1 ⟨by rw [q1]; exact hI.fr.up (by decide) (by decide), by rw [eo 0 (by omega)]; exact hI.a0, fun b a hb ha hl => ?_, fun b a hb hav ha hl => ?_, fun a ha hra => ?_, fun b a hb ha hra hd => ?_⟩ (by omega) (by omega) (by omega)
      · by_cases z : a = c
        · subst z; exact key b hb (Or.inl hl)
        · rw [eo a z]; exact hI.low b a hb ha hl
      · by_cases z : a = c
        · subst z; exact key b hb hl
        · rw [eo a z]; exact hI.hi b a hb (by omega) ha hl
      · by_cases z : a = c
        · subst z
          rw [ec, bt_or, Bool.or_eq_true_iff]
          refine Or.inl ((hx 0 (by omega)).mpr ⟨?_, fun p hp hq => ?_⟩)
          · exact (hR.rch 0 (by omega)).mpr ⟨by omega, 0, ⟨rfl, fun z => z⟩⟩
          · rw [e11] at hq
            exact hI.z p hp ((hR.bef a p ha (by omega)).mp hq).2.1
        · rw [eo a z]; exact hI.z a ha hra
      · by_cases z : a = c
        · subst z
          rw [ec, bt_or, Bool.or_eq_true_iff, bt_shl (by omega) b (by omega)]
          by_cases y : b = a
          · exact Or.inr (decide_eq_true y)
          · refine Or.inl ((hx b (by omega)).mpr ⟨?_, fun p hp hq => ?_⟩)
            · obtain ⟨_, hrc⟩ := (hR.rch a (by omega)).mp hra
              exact (hR.rch b (by omega)).mpr ⟨hb, Dm.reach hrc hd⟩
            · rw [e11] at hq
              obtain ⟨p1, p2, p3⟩ := (hR.bef a p ha (by omega)).mp hq
              exact hI.up b p hb hp p2 fun r hl => hd (r + 1) (Or.inr ⟨p, by omega, hl, p3, fun w => y w.symm⟩)
        · rw [eo a z]; exact hI.up b a hb ha hra hd
    · unfold j_R_dominates_124
      dsimp only
      rw [nJ_succ (by omega)]
      refine ih (c + 1) M ⟨hI.fr, hI.a0, hI.low, fun b a hb hav ha hl => ?_, hI.z, hI.up⟩ (by omega) (by omega) (by omega)
      by_cases z : a = c
      · subst z
        have := (hR.rch a (by omega)).mpr ⟨ha, r + 1, lev_any hl⟩
        rw [h1] at this; cases this
      · exact hI.hi b a hb (by omega) ha hl
theorem q_dom36 {P : Int32 × Sto → Prop} {k : Sto → Option (Int32 × Sto)} {G : Sto} {B : Nat} (hP : PF G B) (h0 : 0 < B) (hR : RRq G B)
    (hk : ∀ M, DJ G B 11 1 M → Ok P (k M)) :
    ∀ n r M, DJ G B r 1 M → r ≤ 11 → 11 - r < n → Ok P (l_R_dominates_36 k n (nJ r) M) := by
  intro n
  have hB := hP.hB
  induction n with
  | zero => intro r M _ h1 h2; omega
  | succ n ih =>
    intro r M hI hr hn
    unfold l_R_dominates_36
    refine Ok.leN (a := 11) (by omega) (by omega) (fun q => ?_) (fun q => ?_)
    · have : r = 11 := by omega
      subst this
      exact hk M hI
    refine q_dom44 hP h0 hR (fun M1 hI1 => ?_) FU 1 M hI (by omega) (by omega) (by unfold FU; omega)
    unfold j_R_dominates_130
    rw [nJ_succ (by omega)]
    have low : ∀ b c, b < 10 → c < 10 → lev (Ed G B) (fun x => x = b) (r + 1) c → bt (M1 10 c) b = false := fun b c hb hc hl => hI1.hi b c hb (lev_lt hP h0 hl (by omega)) hc hl
    refine ih (r + 1) M1 ⟨hI1.fr, hI1.a0, low, fun b c hb hc1 hc hl => ?_, hI1.z, hI1.up⟩ (by omega) (by omega)
    have : c = 0 := by omega
    subst this
    rw [hI1.a0, bt_one]
    exact decide_eq_false fun z => lev_av hl z.symm
theorem q_dom2 {P : Int32 × Sto → Prop} {k : Sto → Option (Int32 × Sto)} {G : Sto} {B : Nat} (hP : PF G B) (h0 : 0 < B) (hR : RRq G B)
    (hk : ∀ M, DJ G B 0 1 M → Ok P (k M)) :
    ∀ n c M, Fr [10] [] G M → (∀ a, a < c → M 10 a = if a = 0 then 1 else G 0 12) → c ≤ B → B - c < n → Ok P (l_R_dominates_2 k n (nJ c) M) := by
  intro n
  have hB := hP.hB
  induction n with
  | zero => intro c M _ _ h1 h2; omega
  | succ n ih =>
    intro c M hf h1 hc hn
    have eb : M 0 1 = nJ B := (hf.2 1 (by decide)).trans hP.blk
    unfold l_R_dominates_2
    rw [eb, hf.2 12 (by decide)]
    refine Ok.leN (by omega) (by omega) (fun q => ?_) (fun q => ?_)
    · have z0 : M 10 0 = 1 := by rw [h1 0 (by omega)]; rfl
      have at0 : ∀ b c, lev (Ed G B) (fun x => x = b) 0 c → bt (M 10 c) b = false := fun b c hl => by
        rw [hl.1, z0, bt_one]; exact decide_eq_false fun z => hl.2 z.symm
      refine hk M ⟨hf, z0, fun b c _ _ hl => at0 b c hl, fun b a hb ha _ hl => ?_, fun a ha hra => ?_, fun b a hb ha hra hd => ?_⟩
      · have : a = 0 := by omega
        subst this
        rw [z0, bt_one]; exact decide_eq_false fun z => lev_av hl z.symm
      · rw [h1 a (by omega)]
        by_cases z : a = 0
        · rw [if_pos z, bt_one]; rfl
        · rw [if_neg z]; exact (hR.rch 0 (by omega)).mpr ⟨by omega, 0, ⟨rfl, fun z => z⟩⟩
      · rw [h1 a (by omega)]
        by_cases z : a = 0
        · rw [if_pos z, bt_one]
          refine decide_eq_true (Classical.byContradiction fun y => hd 0 ⟨z, fun w => y w.symm⟩)
        · rw [if_neg z]
          obtain ⟨_, hrc⟩ := (hR.rch a (by omega)).mp hra
          exact (hR.rch b (by omega)).mpr ⟨hb, Dm.reach hrc hd⟩
    have step : ∀ v, (v = if c = 0 then 1 else G 0 12) → Ok P (j_R_dominates_27 (l_R_dominates_2 k n) k v (nJ c) (nJ c) M) := by
      intro v hv
      unfold j_R_dominates_27
      refine Ok.okN (by omega) (by decide) ?_
      rw [nJ_tn (by omega), nJ_succ (by omega)]
      refine Ok.wr (fun M1 q1 => ?_)
      refine ih (c + 1) M1 (by rw [q1]; exact hf.up (by decide) (by decide)) (fun a ha => ?_) (by omega) (by omega)
      rw [q1, up2_at]
      by_cases z : a = c
      · rw [if_pos ⟨rfl, z⟩, hv, z]
      · rw [if_neg (fun y => z y.2)]; exact h1 a (by omega)
    refine Ok.ifE (fun q2 => ?_) (fun q2 => ?_)
    · have : c = 0 := nJ_inj (by omega) (by omega) q2
      exact step 1 (by rw [if_pos this])
    · exact step _ (by rw [if_neg (fun z => q2 (by rw [z]; rfl))])
theorem q_dom155 {P : Int32 × Sto → Prop} {k : Int32 → Sto → Option (Int32 × Sto)} {G : Sto} {B c : Nat} (hP : PF G B) (hR : RRq G B) (hc : c < B) (hov : ∀ b a, b < 10 → a < B → bt (G 0 12) a = true → (bt (G 10 a) b = true ↔ Dm (Ed G B) b a))
    (hk : ∀ M, Fr [12] [] G M → (∀ a, a ≠ c → M 12 a = G 12 a) → ((c = 0 ∨ bt (G 0 12) c = false) → M 12 c = -1) → (c ≠ 0 → bt (G 0 12) c = true → ∃ p, p < B ∧ M 12 c = nJ p ∧ p ≠ c ∧ Dm (Ed G B) p c ∧ ∀ q, q < B → q ≠ c → Dm (Ed G B) q c → Dm (Ed G B) q p) → Ok P (k (nJ c) M)) :
    ∀ n i M, Fr [12] [] G M → (∀ a, a ≠ c → M 12 a = G 12 a) → ((c = 0 ∨ bt (G 0 12) c = false) → M 12 c = -1) → (i = 0 → M 12 c = -1) → (c ≠ 0 → bt (G 0 12) c = true → 0 < i → ∃ p, p < B ∧ M 12 c = nJ p ∧ p ≠ c ∧ Dm (Ed G B) p c ∧ ∀ q, q < i → q ≠ c → Dm (Ed G B) q c → Dm (Ed G B) q p) → i ≤ B → B - i < n → Ok P (l_R_dominates_155 k n (nJ c) (nJ i) M) := by
  intro n
  have hB := hP.hB
  induction n with
  | zero => intro i M _ _ _ _ _ h1 h2; omega
  | succ n ih =>
    intro i M hf h1 h2 h3 h4 hi hn
    have eb : M 0 1 = nJ B := (hf.2 1 (by decide)).trans hP.blk
    have e10 : M 10 = G 10 := hf.1 10 (by decide) (by decide)
    unfold l_R_dominates_155
    rw [eb, hf.2 12 (by decide)]
    refine Ok.leN (by omega) (by omega) (fun q => ?_) (fun q => ?_)
    · refine hk M hf h1 h2 (fun a b => ?_)
      obtain ⟨p, p1, p2, p3, p4, p5⟩ := h4 a b (by omega)
      exact ⟨p, p1, p2, p3, p4, fun x hx => p5 x (by omega)⟩
    have skip : (c ≠ 0 → bt (G 0 12) c = true → ∃ p, p < B ∧ M 12 c = nJ p ∧ p ≠ c ∧ Dm (Ed G B) p c ∧ ∀ q, q < i + 1 → q ≠ c → Dm (Ed G B) q c → Dm (Ed G B) q p) → Ok P (l_R_dominates_155 k n (nJ c) (nJ (i + 1)) M) := fun hh =>
      ih (i + 1) M hf h1 h2 (fun z => by omega) (fun a b _ => hh a b) (by omega) (by omega)
    have set : c ≠ 0 → bt (G 0 12) c = true → i ≠ c → Dm (Ed G B) i c → (∀ q, q < i → q ≠ c → Dm (Ed G B) q c → Dm (Ed G B) q i) → Ok P (j_R_dominates_231 (l_R_dominates_155 k n) k (nJ c) (nJ i) M) := by
      intro c0 cr ci cd call
      unfold j_R_dominates_231 j_R_dominates_238
      refine Ok.okN (by omega) (by decide) ?_
      rw [nJ_tn (by omega), nJ_succ (by omega)]
      refine Ok.wr (fun M1 q1 => ?_)
      have ec : M1 12 c = nJ i := by rw [q1, up2_at, if_pos ⟨rfl, rfl⟩]
      refine ih (i + 1) M1 (by rw [q1]; exact hf.up (by decide) (by decide)) (fun a ha => by rw [q1, up2_at, if_neg (fun z => ha z.2)]; exact h1 a ha) (fun z => ?_) (fun z => by omega) (fun _ _ _ => ⟨i, by omega, ec, ci, cd, fun q hq hqc hqd => ?_⟩) (by omega) (by omega)
      · rcases z with z | z
        · exact absurd z c0
        · rw [cr] at z; cases z
      · by_cases z : q = i
        · rw [z]; exact Dm.rf
        · exact call q (by omega) hqc hqd
    have hs : j_R_dominates_238 (l_R_dominates_155 k n) k (nJ c) (nJ i) = fun M => l_R_dominates_155 k n (nJ c) (nJ (i + 1)) M := by
      funext M
      unfold j_R_dominates_238
      rw [nJ_succ (by omega)]
    refine Ok.leN (b := 0) (by omega) (by omega) (fun q2 => ?_) (fun q2 => ?_)
    · rw [hs]; exact skip (fun z => by omega)
    refine Ok.has (by omega) (fun g1 => ?_) (fun g1 => ?_)
    · dsimp only
      have later : 0 < i → ∃ p, p < B ∧ M 12 c = nJ p ∧ p ≠ c ∧ Dm (Ed G B) p c ∧ ∀ q, q < i → q ≠ c → Dm (Ed G B) q c → Dm (Ed G B) q p := fun hi0 => h4 (by omega) g1 hi0
      have hrc := ((hR.rch c (by omega)).mp g1).2
      have d0 : Dm (Ed G B) 0 c := fun r hl => by
        have : ∀ r c, ¬ lev (Ed G B) (fun x => x = 0) r c := by
          intro r
          induction r with
          | zero => intro c h; exact h.2 rfl
          | succ r ih => intro c h; exact h.elim (ih c) fun ⟨p, _, p2, _⟩ => ih p p2
        exact this r c hl
      have idle : (i = c ∨ ¬ Dm (Ed G B) i c) → Ok P (l_R_dominates_155 k n (nJ c) (nJ (i + 1)) M) := by
        intro hno
        refine skip (fun _ _ => ?_)
        have hi0 : 0 < i := by
          apply Nat.pos_of_ne_zero
          intro z
          rcases hno with y | y
          · omega
          · rw [z] at y; exact y d0
        obtain ⟨p, p1, p2, p3, p4, p5⟩ := later hi0
        refine ⟨p, p1, p2, p3, p4, fun q hq hqc hqd => ?_⟩
        by_cases z : q = i
        · rw [z] at hqc hqd
          rcases hno with y | y
          · exact absurd y hqc
          · exact absurd hqd y
        · exact p5 q (by omega) hqc hqd
      refine Ok.ifE (fun q3 => ?_) (fun q3 => ?_)
      · rw [hs]
        exact idle (Or.inl (nJ_inj (by omega) (by omega) q3))
      refine Ok.okN (by omega) (by decide) ?_
      rw [nJ_tn (i := c) (by omega), e10]
      refine Ok.has (by omega) (fun g2 => ?_) (fun g2 => ?_)
      · dsimp only
        refine Ok.okN (by omega) (by decide) ?_
        have ci : i ≠ c := fun z => q3 (by rw [z])
        have di : Dm (Ed G B) i c := (hov i c (by omega) hc g1).mp g2
        refine Ok.lt (fun q4 => ?_) (fun q4 => ?_)
        · refine set (by omega) g1 ci di (fun q hq hqc hqd => ?_)
          obtain ⟨p, p1, p2, _⟩ := later (by omega)
          rw [p2] at q4
          have n0 : (0 : Int32).toInt = 0 := rfl
          have := nJ_int (i := p) (by omega)
          omega
        refine Ok.okN (by omega) (by decide) ?_
        refine Ok.bind q_ones (fun r1 M1 e1 => ?_)
        dsimp only at e1
        obtain ⟨e1, w1, w2, w3, w4⟩ := e1
        subst e1
        dsimp only
        refine Ok.okN (by omega) (by decide) ?_
        have hi0 : 0 < i := by
          apply Classical.byContradiction
          intro z
          have : i = 0 := by omega
          rw [h3 this] at q4
          exact absurd q4 (by decide)
        obtain ⟨p, p1, p2, p3, p4, p5⟩ := later hi0
        refine Ok.okE p2 (by omega) (by decide) ?_
        refine Ok.bind q_ones (fun r2 M2 e2 => ?_)
        dsimp only at e2
        obtain ⟨e2, u1, u2, u3, u4⟩ := e2
        subst e2
        dsimp only
        rw [p2, nJ_tn (by omega), e10] at u4
        rw [nJ_tn (by omega), e10] at w4
        have hri := Dm.reach hrc di
        have hrp := Dm.reach hrc p4
        have bri : bt (G 0 12) i = true := (hR.rch i (by omega)).mpr ⟨by omega, hri⟩
        have brp : bt (G 0 12) p = true := (hR.rch p (by omega)).mpr ⟨by omega, hrp⟩
        have ei := nJ_int (i := w1) (by omega)
        have ep := nJ_int (i := u1) (by omega)
        have sub : ∀ a b, a < B → b < B → bt (G 0 12) a = true → bt (G 0 12) b = true → Dm (Ed G B) a b → cb (G 10 a) ≤ cb (G 10 b) := fun a b ha hb ra rb hab => cb_mono fun x hx hbx => (hov x b hx hb rb).mpr (((hov x a hx ha ra).mp hbx).trans hab)
        have sub2 : ∀ a b, a < B → b < B → bt (G 0 12) a = true → bt (G 0 12) b = true → Dm (Ed G B) a b → ¬ Dm (Ed G B) b a → cb (G 10 a) < cb (G 10 b) := fun a b ha hb ra rb hab hba => cb_more (j := b) (by omega) (by
          rw [Bool.eq_false_iff]
          intro h
          exact hba ((hov b a (by omega) ha ra).mp h)) ((hov b b (by omega) hb rb).mpr Dm.rf) fun x hx hbx => (hov x b hx hb rb).mpr (((hov x a hx ha ra).mp hbx).trans hab)
        refine Ok.le (fun q5 => ?_) (fun q5 => ?_)
        · rw [hs]
          refine skip (fun _ _ => ⟨p, p1, p2, p3, p4, fun q hq hqc hqd => ?_⟩)
          by_cases z : q = i
          · rw [z]
            apply Classical.byContradiction
            intro hno
            have hpi : Dm (Ed G B) p i := (Dm.chain hrc p4 di).elim (fun y => y) fun y => absurd y hno
            have := sub2 p i p1 (by omega) brp bri hpi hno
            rw [w3, u3] at q5
            omega
          · exact p5 q (by omega) hqc hqd
        · refine set (by omega) g1 ci di (fun q hq hqc hqd => ?_)
          have hpi : Dm (Ed G B) p i := by
            apply Classical.byContradiction
            intro hno
            have hip : Dm (Ed G B) i p := (Dm.chain hrc p4 di).elim (fun y => absurd y hno) fun y => y
            have := sub i p (by omega) p1 bri brp hip
            rw [w3, u3] at q5
            omega
          exact (p5 q hq hqc hqd).trans hpi
      · dsimp only
        rw [hs]
        exact idle (Or.inr fun y => by rw [(hov i c (by omega) hc g1).mpr y] at g2; cases g2)
    · dsimp only
      rw [hs]
      exact skip (fun _ z => by rw [g1] at z; cases z)
theorem q_dom138 {P : Int32 × Sto → Prop} {k : Sto → Option (Int32 × Sto)} {G : Sto} {B : Nat} (hP : PF G B) (hR : RRq G B) (hov : ∀ b a, b < 10 → a < B → bt (G 0 12) a = true → (bt (G 10 a) b = true ↔ Dm (Ed G B) b a))
    (hk : ∀ M, Fr [12] [] G M → (∀ c, c < B → (c = 0 ∨ bt (G 0 12) c = false) → M 12 c = -1) → (∀ c, c < B → c ≠ 0 → bt (G 0 12) c = true → ∃ p, p < B ∧ M 12 c = nJ p ∧ p ≠ c ∧ Dm (Ed G B) p c ∧ ∀ q, q < B → q ≠ c → Dm (Ed G B) q c → Dm (Ed G B) q p) → Ok P (k M)) :
    ∀ n c M, Fr [12] [] G M → (∀ a, a < c → (a = 0 ∨ bt (G 0 12) a = false) → M 12 a = -1) → (∀ a, a < c → a ≠ 0 → bt (G 0 12) a = true → ∃ p, p < B ∧ M 12 a = nJ p ∧ p ≠ a ∧ Dm (Ed G B) p a ∧ ∀ q, q < B → q ≠ a → Dm (Ed G B) q a → Dm (Ed G B) q p) → c ≤ B → B - c < n → Ok P (l_R_dominates_138 k n (nJ c) M) := by
  intro n
  have hB := hP.hB
  induction n with
  | zero => intro c M _ _ _ h1 h2; omega
  | succ n ih =>
    intro c M hf h1 h2 hc hn
    have eb : M 0 1 = nJ B := (hf.2 1 (by decide)).trans hP.blk
    unfold l_R_dominates_138
    rw [eb]
    refine Ok.leN (by omega) (by omega) (fun q => ?_) (fun q => ?_)
    · exact hk M hf (fun a ha => h1 a (by omega)) (fun a ha => h2 a (by omega))
    refine Ok.okN (by omega) (by decide) ?_
    rw [nJ_tn (by omega)]
    refine Ok.wr (fun M1 q1 => ?_)
    have f1 : Fr [12] [] G M1 := by rw [q1]; exact hf.up (by decide) (by decide)
    have e12 : M1 0 12 = G 0 12 := f1.2 12 (by decide)
    have e10 : M1 10 = G 10 := f1.1 10 (by decide) (by decide)
    have eE : Ed M1 B = Ed G B := Ed_fr (f1.1 6 (by decide) (by decide)) (f1.1 8 (by decide) (by decide)) (f1.1 9 (by decide) (by decide)) B
    have ec : M1 12 c = -1 := by rw [q1, up2_at, if_pos ⟨rfl, rfl⟩]
    refine q_dom155 (G := M1) (hP.fr (f1.mono (by decide) (by decide))) (hR.fr (f1.mono (by decide) (by decide))) (by omega) (by rw [e12, e10, eE]; exact hov) (fun M2 f2 g1 g2 g3 => ?_) FU 0 M1 Fr.rfl (fun _ _ => rfl) (fun _ => ec) (fun _ => ec) (fun _ _ z => by omega) (by omega) (by unfold FU; omega)
    rw [e12] at g2 g3
    rw [eE] at g3
    unfold j_R_dominates_244
    rw [nJ_succ (by omega)]
    have eo : ∀ a, a ≠ c → M2 12 a = M 12 a := fun a ha => by rw [g1 a ha, q1, up2_at, if_neg (fun z => ha z.2)]
    refine ih (c + 1) M2 (f1.trans f2) (fun a ha => ?_) (fun a ha => ?_) (by omega) (by omega)
    · by_cases z : a = c
      · subst z; exact g2
      · rw [eo a z]; exact h1 a (by omega)
    · by_cases z : a = c
      · subst z; exact g3
      · rw [eo a z]; exact h2 a (by omega)
def DN (M : Sto) (B : Nat) : Prop := (∀ b c, b < 10 → c < B → bt (M 0 12) c = true → (bt (M 10 c) b = true ↔ Dm (Ed M B) b c)) ∧ (∀ c, c < B → (c = 0 ∨ bt (M 0 12) c = false) → M 12 c = -1) ∧ (∀ c, c < B → c ≠ 0 → bt (M 0 12) c = true → ∃ p, p < B ∧ M 12 c = nJ p ∧ IDom (Ed M B) c p)
theorem DN.ov {M : Sto} {B : Nat} (h : DN M B) : ∀ b c, b < 10 → c < B → bt (M 0 12) c = true → (bt (M 10 c) b = true ↔ Dm (Ed M B) b c) := h.1
theorem DN.non {M : Sto} {B : Nat} (h : DN M B) : ∀ c, c < B → (c = 0 ∨ bt (M 0 12) c = false) → M 12 c = -1 := h.2.1
theorem DN.par {M : Sto} {B : Nat} (h : DN M B) : ∀ c, c < B → c ≠ 0 → bt (M 0 12) c = true → ∃ p, p < B ∧ M 12 c = nJ p ∧ IDom (Ed M B) c p := h.2.2
theorem q_dominates {G : Sto} {B : Nat} (hP : PF G B) (h0 : 0 < B) (hR : RRq G B) : Ok (fun a => Fr [10, 12] [] G a.2 ∧ DN a.2 B) (m_R_dominates G) := by
  unfold m_R_dominates
  have hB := hP.hB
  refine q_dom2 hP h0 hR (fun M hI => ?_) FU 0 G Fr.rfl (fun a ha => by omega) (by omega) (by unfold FU; omega)
  unfold j_R_dominates_34
  refine q_dom36 hP h0 hR (fun M1 hI1 => ?_) FU 0 M hI (by omega) (by unfold FU; omega)
  unfold j_R_dominates_136
  have e12 : M1 0 12 = G 0 12 := hI1.fr.2 12 (by decide)
  have eE : Ed M1 B = Ed G B := Ed_fr (hI1.fr.1 6 (by decide) (by decide)) (hI1.fr.1 8 (by decide) (by decide)) (hI1.fr.1 9 (by decide) (by decide)) B
  have hov : ∀ b c, b < 10 → c < B → bt (M1 0 12) c = true → (bt (M1 10 c) b = true ↔ Dm (Ed M1 B) b c) := by
    rw [e12, eE]
    intro b c hb hc hr
    refine ⟨fun h r hl => ?_, fun h => hI1.up b c hb hc hr h⟩
    have := hI1.low b c hb (by omega) (lev_up (lev_stab (by omega) hl) 1)
    rw [this] at h; cases h
  refine q_dom138 (hP.fr (hI1.fr.mono (by decide) (by decide))) (hR.fr (hI1.fr.mono (by decide) (by decide))) hov (fun M2 f2 g1 g2 => ?_) FU 0 M1 Fr.rfl (fun a ha => by omega) (fun a ha => by omega) (by omega) (by unfold FU; omega)
  have f3 : Fr [10, 12] [] G M2 := (hI1.fr.mono (by decide) (by decide)).trans (f2.mono (by decide) (by decide))
  have z12 : M2 0 12 = M1 0 12 := f2.2 12 (by decide)
  have z10 : M2 10 = M1 10 := f2.1 10 (by decide) (by decide)
  have eE2 : Ed M2 B = Ed M1 B := Ed_fr (f2.1 6 (by decide) (by decide)) (f2.1 8 (by decide) (by decide)) (f2.1 9 (by decide) (by decide)) B
  refine ⟨(0, M2), rfl, f3, ⟨?_, ?_, ?_⟩⟩
  · show ∀ b c, b < 10 → c < B → bt (M2 0 12) c = true → (bt (M2 10 c) b = true ↔ Dm (Ed M2 B) b c)
    rw [z12, z10, eE2]; exact hov
  · show ∀ c, c < B → (c = 0 ∨ bt (M2 0 12) c = false) → M2 12 c = -1
    rw [z12]; exact g1
  · show ∀ c, c < B → c ≠ 0 → bt (M2 0 12) c = true → ∃ p, p < B ∧ M2 12 c = nJ p ∧ IDom (Ed M2 B) c p
    rw [z12, eE2]
    intro c hc c0 cr
    obtain ⟨p, p1, p2, p3, p4, p5⟩ := g2 c hc c0 cr
    refine ⟨p, p1, p2, p3, p4, fun q hq hd => p5 q ?_ hq hd⟩
    have hrc : Rc (Ed M1 B) c := by
      rw [eE]
      exact ((hR.rch c (by omega)).mp (by rw [← e12]; exact cr)).2
    obtain ⟨r, hr⟩ := Dm.reach hrc hd
    have hPM : PF M1 B := hP.fr (hI1.fr.mono (by decide) (by decide))
    by_cases z : q < 32
    · exact lev_lt hPM h0 hr z
    · exfalso
      have big : ∀ r c, lev (Ed M1 B) (fun _ => False) r c → c < 32 := by
        intro r
        induction r with
        | zero => intro c h; rw [h.1]; omega
        | succ r ih =>
          intro c h
          rcases h with h | ⟨p, _, _, p3, _⟩
          · exact ih c h
          · apply Classical.byContradiction
            intro y
            have := p3.2
            rw [bt_big (by omega)] at this; cases this
      exact z (big r q hr)
end
section
def PR (X R : Sto) (B : Nat) : Prop := (PF R B) ∧ (X 1 0 = nJ B) ∧ (∀ b, X 7 b = R 1 b) ∧ (∀ b, b < 10 → X 8 b = R 6 b ∧ (R 6 b = 1 → X 10 b = R 8 b ∧ X 11 b = R 8 b) ∧ (R 6 b = 2 → X 9 b = R 7 b ∧ X 10 b = R 8 b ∧ X 11 b = R 9 b)) ∧ (∀ b i, b < 10 → i < 6 → X (43 + b) i = R 2 (6 * b + i) ∧ X (53 + b) i = R 3 (6 * b + i) ∧ X (63 + b) i = R 4 (6 * b + i) ∧ X (73 + b) i = R 5 (6 * b + i))
theorem PR.pf {X R : Sto} {B : Nat} (h : PR X R B) : PF R B := h.1
theorem PR.blk {X R : Sto} {B : Nat} (h : PR X R B) : X 1 0 = nJ B := h.2.1
theorem PR.len {X R : Sto} {B : Nat} (h : PR X R B) : ∀ b, X 7 b = R 1 b := h.2.2.1
theorem PR.fin {X R : Sto} {B : Nat} (h : PR X R B) : ∀ b, b < 10 → X 8 b = R 6 b ∧ (R 6 b = 1 → X 10 b = R 8 b ∧ X 11 b = R 8 b) ∧ (R 6 b = 2 → X 9 b = R 7 b ∧ X 10 b = R 8 b ∧ X 11 b = R 9 b) := h.2.2.2.1
theorem PR.row {X R : Sto} {B : Nat} (h : PR X R B) : ∀ b i, b < 10 → i < 6 → X (43 + b) i = R 2 (6 * b + i) ∧ X (53 + b) i = R 3 (6 * b + i) ∧ X (63 + b) i = R 4 (6 * b + i) ∧ X (73 + b) i = R 5 (6 * b + i) := h.2.2.2.2
theorem PR.fx {X X' R : Sto} {B : Nat} (h : PR X R B) (f : ∀ k, k = 1 ∨ (7 ≤ k ∧ k ≤ 11) ∨ (43 ≤ k ∧ k ≤ 82) → X' k = X k) : PR X' R B := by
  refine ⟨h.pf, by rw [f 1 (by omega)]; exact h.blk, fun b => by rw [f 7 (by omega)]; exact h.len b, fun b hb => by rw [f 8 (by omega), f 9 (by omega), f 10 (by omega), f 11 (by omega)]; exact h.fin b hb, fun b i hb hi => ?_⟩
  rw [f (43 + b) (by omega), f (53 + b) (by omega), f (63 + b) (by omega), f (73 + b) (by omega)]
  exact h.row b i hb hi
theorem bt_not (x : Int32) {b : Nat} (hb : b < 32) : bt (x ^^^ (-1)) b = !bt x b := by
  unfold bt
  rw [Int32.toBitVec_xor, BitVec.getLsbD_xor]
  have : (-1 : Int32).toBitVec = BitVec.allOnes 32 := by decide
  rw [this, BitVec.getLsbD_allOnes]
  simp [hb]
theorem holds_bit (x : Int32) {i : Nat} (hi : i < 10) : (x &&& ((1 : Int32) <<< (nJ i &&& 31))) = 0 ↔ bt x i = false := by
  constructor
  · intro h
    have : bt (x &&& ((1 : Int32) <<< (nJ i &&& 31))) i = false := by rw [h, bt_zero]
    rw [bt_and, bt_shl hi i (by omega)] at this
    simpa using this
  · intro h
    apply bt_ext
    intro b hb
    rw [bt_and, bt_shl hi b hb, bt_zero]
    by_cases z : b = i
    · rw [z, h]; rfl
    · simp [z]
theorem Ok.holds {α : Type} {P : α → Prop} {x : Int32} {i : Nat} {M : Sto} {X Y : Int32 × Sto → Option α} (hi : i < 10) (h1 : bt x i = true → Ok P (Y (1, M))) (h0 : bt x i = false → Ok P (X (0, M))) :
    Ok P ((m_N_holds x (nJ i) M).bind fun o => if o.1 = 0 then X o else Y o) := by
  have e : m_N_holds x (nJ i) M = if (x &&& ((1 : Int32) <<< (nJ i &&& 31))) = 0 then j_N_holds_14 0 M else j_N_holds_14 1 M := rfl
  rw [e]
  by_cases h : bt x i = false
  · rw [if_pos ((holds_bit x hi).mpr h)]; exact h0 h
  · rw [if_neg (fun q => h ((holds_bit x hi).mp q))]; exact h1 (by simpa using h)
theorem xways_eq {X R : Sto} {B b : Nat} (h : PR X R B) (hb : b < B) : m_P_ways (nJ b) X = some (lead R b, X) := by
  have hB := h.pf.hB
  obtain ⟨f1, f2, f3⟩ := h.fin b (by omega)
  unfold m_P_ways lead j_P_ways_32
  rw [nJ_tn (by omega), okN_t (by omega) (by decide), f1]
  simp only [if_true]
  by_cases z0 : R 6 b = 0
  · rw [if_pos z0, if_pos z0]
  rw [if_neg z0, if_neg z0]
  show some ((1 <<< ((X 10 b) &&& 31)) ||| (1 <<< ((X 11 b) &&& 31)), X) = _
  by_cases z1 : R 6 b = 1
  · rw [if_pos z1, (f2 z1).1, (f2 z1).2]
    congr 2
    apply bt_ext
    intro c _
    rw [bt_or]; exact Bool.or_self _
  · have z2 : R 6 b = 2 := by
      rcases h.pf.fin b hb with y | ⟨y, _⟩ | ⟨y, _⟩
      · exact absurd y z0
      · exact absurd y z1
      · exact y
    rw [if_neg z1, (f3 z2).2.1, (f3 z2).2.2]
theorem x_come25 {P : Int32 × Sto → Prop} {k : Int32 → Int32 → Int32 → Sto → Option (Int32 × Sto)} {X R : Sto} {B r : Nat} {v1 v3 : Int32} (h : PR X R B) (h0 : 0 < B)
    (hk : ∀ v, (∀ c, c < 10 → lev (Ed R B) (fun x => bt v1 x = true) (r + 1) c → bt v c = true) → (∀ c, c < 32 → bt v c = true → c < 10 ∧ ∃ s, lev (Ed R B) (fun x => bt v1 x = true) s c) → Ok P (k v1 v v3 X)) :
    ∀ n i v, (∀ c, c < 10 → lev (Ed R B) (fun x => bt v1 x = true) r c → bt v c = true) → (∀ c, c < 32 → bt v c = true → c < 10 ∧ ∃ s, lev (Ed R B) (fun x => bt v1 x = true) s c) → (∀ p c, p < i → c < 10 → lev (Ed R B) (fun x => bt v1 x = true) r p → Ed R B p c → bt v1 c ≠ true → bt v c = true) → i ≤ B → B - i < n → Ok P (l_S_comeBy_25 k n v1 v v3 (nJ i) X) := by
  intro n
  have hB := h.pf.hB
  induction n with
  | zero => intro i v _ _ _ h1 h2; omega
  | succ n ih =>
    intro i v h1 h2 h3 hi hn
    unfold l_S_comeBy_25
    rw [h.blk]
    refine Ok.leN (by omega) (by omega) (fun q => ?_) (fun q => ?_)
    · refine hk v (fun c hc hl => ?_) h2
      rcases hl with hl | ⟨p, p1, p2, p3, p4⟩
      · exact h1 c hc hl
      · exact h3 p c (by have := lev_lt h.pf h0 p2 (by omega); omega) hc p2 p3 p4
    unfold j_S_comeBy_62
    rw [nJ_succ (by omega)]
    refine Ok.holds (by omega) (fun hb => ?_) (fun hb => ?_)
    · dsimp only
      rw [xways_eq h q]
      refine Ok.bindS ?_
      dsimp only
      have e : ∀ c, c < 32 → bt (v ||| (lead R i &&& (v1 ^^^ (-1)))) c = (bt v c || (bt (lead R i) c && !bt v1 c)) := fun c hc => by rw [bt_or, bt_and, bt_not v1 hc]
      refine ih (i + 1) _ (fun c hc hl => ?_) (fun c hc hl => ?_) (fun p c hp hc hl he hna => ?_) (by omega) (by omega)
      · rw [e c (by omega), h1 c hc hl]; rfl
      · rw [e c hc] at hl
        rcases Bool.or_eq_true_iff.mp hl with y | y
        · exact h2 c hc y
        · obtain ⟨y1, y2⟩ := Bool.and_eq_true_iff.mp y
          have hc2 := lead_lt h.pf q hc y1
          obtain ⟨_, s, hs⟩ := h2 i (by omega) hb
          exact ⟨by omega, s + 1, Or.inr ⟨i, by omega, hs, ⟨q, y1⟩, fun z => by rw [z] at y2; cases y2⟩⟩
      · rw [e c (by omega)]
        by_cases z : p = i
        · subst z
          rw [he.2, show bt v1 c = false by simpa using hna]; simp
        · rw [h3 p c (by omega) hc hl he hna]; rfl
    · dsimp only
      refine ih (i + 1) v h1 h2 (fun p c hp hc hl he hna => ?_) (by omega) (by omega)
      by_cases z : p = i
      · subst z
        have := h1 p (by omega) hl
        rw [hb] at this; cases this
      · exact h3 p c (by omega) hc hl he hna
theorem x_comeBy {X R : Sto} {B : Nat} {v1 : Int32} (h : PR X R B) (h0 : 0 < B) : Ok (fun a => a.2 = X ∧ ∀ c, c < 32 → (bt a.1 c = true ↔ c < 10 ∧ ∃ s, lev (Ed R B) (fun x => bt v1 x = true) s c)) (m_S_comeBy v1 X) := by
  have hB := h.pf.hB
  have loop : ∀ n r v, (∀ c, c < 10 → lev (Ed R B) (fun x => bt v1 x = true) r c → bt v c = true) → (∀ c, c < 32 → bt v c = true → c < 10 ∧ ∃ s, lev (Ed R B) (fun x => bt v1 x = true) s c) → r + 1 ≤ B → B - r < n → Ok (fun a : Int32 × Sto => a.2 = X ∧ ∀ c, c < 32 → (bt a.1 c = true ↔ c < 10 ∧ ∃ s, lev (Ed R B) (fun x => bt v1 x = true) s c)) (l_S_comeBy_11 j_S_comeBy_74 n v1 v (nJ (r + 1)) X) := by
    intro n
    induction n with
    | zero => intro r v _ _ h1 h2; omega
    | succ n ih =>
      intro r v h1 h2 hr hn
      unfold l_S_comeBy_11
      rw [h.blk]
      refine Ok.leN (by omega) (by omega) (fun q => ?_) (fun q => ?_)
      · refine ⟨(v, X), rfl, rfl, fun c hc => ⟨h2 c hc, fun y => ?_⟩⟩
        obtain ⟨y1, s, y2⟩ := y
        refine h1 c y1 ?_
        rw [show r = B - 1 by omega]
        exact lev_stabB hB (fun hl hc => lev_lt h.pf h0 hl (by omega)) y1 y2
      · refine x_come25 (r := r) h h0 (fun v' g1 g2 => ?_) FU 0 v h1 h2 (fun p c hp => by omega) (by omega) (by unfold FU; omega)
        unfold j_S_comeBy_68
        rw [nJ_succ (by omega)]
        exact ih (r + 1) v' g1 g2 (by omega) (by omega)
  unfold m_S_comeBy
  show Ok _ (l_S_comeBy_11 j_S_comeBy_74 FU v1 ((1 : Int32) <<< ((0 : Int32) &&& 31) &&& (v1 ^^^ (-1))) 1 X)
  have e : ∀ c, c < 32 → bt ((1 : Int32) <<< ((0 : Int32) &&& 31) &&& (v1 ^^^ (-1))) c = (decide (c = 0) && !bt v1 c) := fun c hc => by
    rw [bt_and, bt_not v1 hc]
    have := bt_shl (i := 0) (by omega) c hc
    rw [← this]; rfl
  refine loop FU 0 _ (fun c hc hl => ?_) (fun c hc hl => ?_) (by omega) (by unfold FU; omega)
  · rw [e c (by omega), decide_eq_true hl.1]
    have : bt v1 c = false := by rw [hl.1]; simpa using hl.2
    rw [this]; rfl
  · rw [e c hc] at hl
    obtain ⟨y1, y2⟩ := Bool.and_eq_true_iff.mp hl
    have c0 := of_decide_eq_true y1
    subst c0
    exact ⟨by omega, 0, rfl, fun z => by rw [z] at y2; cases y2⟩
theorem x_findBefore {X R : Sto} {B c : Nat} (h : PR X R B) (hc : c < B) : Ok (fun a => a.2 = X ∧ ∀ p, p < 32 → (bt a.1 p = true ↔ p < B ∧ bt (X 2 1) p = true ∧ Ed R B p c)) (m_S_findBefore (nJ c) X) := by
  have hB := h.pf.hB
  have loop : ∀ n i v, (∀ p, p < 32 → (bt v p = true ↔ p < i ∧ bt (X 2 1) p = true ∧ Ed R B p c)) → i ≤ B → B - i < n → Ok (fun a : Int32 × Sto => a.2 = X ∧ ∀ p, p < 32 → (bt a.1 p = true ↔ p < B ∧ bt (X 2 1) p = true ∧ Ed R B p c)) (l_S_findBefore_4 j_S_findBefore_54 n (nJ c) v (nJ i) X) := by
    intro n
    induction n with
    | zero => intro i v _ h1 h2; omega
    | succ n ih =>
      intro i v hv hi hn
      unfold l_S_findBefore_4
      rw [h.blk]
      refine Ok.leN (by omega) (by omega) (fun q => ?_) (fun q => ?_)
      · have : i = B := by omega
        subst this
        exact ⟨(v, X), rfl, rfl, hv⟩
      unfold j_S_findBefore_48
      rw [nJ_succ (by omega)]
      have skip : ¬ (bt (X 2 1) i = true ∧ Ed R B i c) → ∀ p, p < 32 → (bt v p = true ↔ p < i + 1 ∧ bt (X 2 1) p = true ∧ Ed R B p c) := by
        intro hno p hp
        rw [hv p hp]
        constructor
        · rintro ⟨a, b⟩; exact ⟨by omega, b⟩
        · rintro ⟨a, b⟩
          by_cases z : p = i
          · subst z; exact absurd b hno
          · exact ⟨by omega, b⟩
      refine Ok.holds (by omega) (fun hb => ?_) (fun hb => ?_)
      · dsimp only
        rw [xways_eq h q]
        refine Ok.bindS ?_
        dsimp only
        refine Ok.holds (by omega) (fun hb2 => ?_) (fun hb2 => ?_)
        · dsimp only
          refine ih (i + 1) _ (fun p hp => ?_) (by omega) (by omega)
          rw [bt_or, Bool.or_eq_true_iff, hv p hp]
          have := bt_shl (i := i) (by omega) p hp
          rw [this]
          constructor
          · rintro (⟨a, b⟩ | a)
            · exact ⟨by omega, b⟩
            · have := of_decide_eq_true a
              subst this
              exact ⟨by omega, hb, ⟨q, hb2⟩⟩
          · rintro ⟨a, b⟩
            by_cases z : p = i
            · exact Or.inr (decide_eq_true z)
            · exact Or.inl ⟨by omega, b⟩
        · exact ih (i + 1) v (skip fun z => by rw [z.2.2] at hb2; cases hb2) (by omega) (by omega)
      · exact ih (i + 1) v (skip fun z => by rw [z.1] at hb; cases hb) (by omega) (by omega)
  unfold m_S_findBefore
  refine loop FU 0 0 (fun p hp => ?_) (by omega) (by unfold FU; omega)
  rw [bt_zero]
  constructor
  · intro h; cases h
  · rintro ⟨a, _⟩; omega
def SV (X R : Sto) (B : Nat) : Prop := (∀ c, c < 32 → (bt (X 2 1) c = true ↔ c < 10 ∧ Rch R B c)) ∧ (∀ c p, c < B → p < 32 → (bt (X 12 c) p = true ↔ p < B ∧ bt (X 2 1) p = true ∧ Ed R B p c)) ∧ (∀ b c, b < B → c < 32 → (bt (X 13 b) c = true ↔ bt (X 2 1) b = true ∧ bt (X 2 1) c = true ∧ Dm (Ed R B) b c))
theorem SV.rch {X R : Sto} {B : Nat} (h : SV X R B) : ∀ c, c < 32 → (bt (X 2 1) c = true ↔ c < 10 ∧ Rch R B c) := h.1
theorem SV.bef {X R : Sto} {B : Nat} (h : SV X R B) : ∀ c p, c < B → p < 32 → (bt (X 12 c) p = true ↔ p < B ∧ bt (X 2 1) p = true ∧ Ed R B p c) := h.2.1
theorem SV.und {X R : Sto} {B : Nat} (h : SV X R B) : ∀ b c, b < B → c < 32 → (bt (X 13 b) c = true ↔ bt (X 2 1) b = true ∧ bt (X 2 1) c = true ∧ Dm (Ed R B) b c) := h.2.2
theorem x_sv11 {P : Int32 × Sto → Prop} {k : Sto → Option (Int32 × Sto)} {G R : Sto} {B : Nat} (h : PR G R B) (h0 : 0 < B) (hr : ∀ c, c < 32 → (bt (G 2 1) c = true ↔ c < 10 ∧ Rch R B c))
    (hk : ∀ X, (∀ k, k ≠ 12 → k ≠ 13 → X k = G k) → SV X R B → Ok P (k X)) :
    ∀ n i X, (∀ k, k ≠ 12 → k ≠ 13 → X k = G k) → (∀ c p, c < i → p < 32 → (bt (X 12 c) p = true ↔ p < B ∧ bt (X 2 1) p = true ∧ Ed R B p c)) → (∀ b c, b < i → c < 32 → (bt (X 13 b) c = true ↔ bt (X 2 1) b = true ∧ bt (X 2 1) c = true ∧ Dm (Ed R B) b c)) → i ≤ B → B - i < n → Ok P (l_S_survey_11 k n (nJ i) X) := by
  intro n
  have hB := h.pf.hB
  induction n with
  | zero => intro i X _ _ _ h1 h2; omega
  | succ n ih =>
    intro i X hf h1 h2 hi hn
    have hX : PR X R B := h.fx fun k hk => hf k (by omega) (by omega)
    have e2 : X 2 = G 2 := hf 2 (by decide) (by decide)
    unfold l_S_survey_11
    rw [hX.blk]
    refine Ok.leN (by omega) (by omega) (fun q => ?_) (fun q => ?_)
    · have : i = B := by omega
      subst this
      exact hk X hf ⟨by rw [e2]; exact hr, h1, h2⟩
    refine Ok.bind (x_findBefore hX q) (fun r8 M8 h8 => ?_)
    dsimp only at h8 ⊢
    obtain ⟨e8, g8⟩ := h8
    subst e8
    refine Ok.okN (by omega) (by decide) ?_
    rw [nJ_tn (by omega)]
    refine Ok.wr (fun M9 q9 => ?_)
    have f9 : ∀ k, k ≠ 12 → k ≠ 13 → M9 k = G k := fun k k1 k2 => by rw [q9, up2_ne _ _ _ k1]; exact hf k k1 k2
    have hX9 : PR M9 R B := h.fx fun k hk => f9 k (by omega) (by omega)
    have e29 : M9 2 = M8 2 := by rw [q9, up2_ne _ _ _ (by decide)]
    have b9 : ∀ c p, c < i + 1 → p < 32 → (bt (M9 12 c) p = true ↔ p < B ∧ bt (M9 2 1) p = true ∧ Ed R B p c) := by
      intro c p hc hp
      rw [e29, q9, up2_at]
      by_cases z : c = i
      · rw [if_pos ⟨rfl, z⟩, z]; exact g8 p hp
      · rw [if_neg (fun y => z y.2)]; exact h1 c p (by omega) hp
    have step : ∀ s, (∀ c, c < 32 → (bt s c = true ↔ bt (M9 2 1) i = true ∧ bt (M9 2 1) c = true ∧ Dm (Ed R B) i c)) → Ok P (j_S_survey_68 (l_S_survey_11 k n) k s (nJ i) (nJ i) M9) := by
      intro s hs
      unfold j_S_survey_68
      refine Ok.okN (by omega) (by decide) ?_
      rw [nJ_tn (by omega), nJ_succ (by omega)]
      refine Ok.wr (fun M11 q11 => ?_)
      have e211 : M11 2 = M9 2 := by rw [q11, up2_ne _ _ _ (by decide)]
      refine ih (i + 1) M11 (fun k k1 k2 => by rw [q11, up2_ne _ _ _ k2]; exact f9 k k1 k2) (fun c p hc hp => ?_) (fun b c hb hc => ?_) (by omega) (by omega)
      · rw [e211, q11, up2_ne _ _ _ (by decide)]; exact b9 c p hc hp
      · rw [e211, q11, up2_at]
        by_cases z : b = i
        · rw [if_pos ⟨rfl, z⟩, z]; exact hs c hc
        · rw [if_neg (fun y => z y.2), q9, up2_ne _ _ _ (by decide), up2_ne _ _ _ (by decide)]; exact h2 b c (by omega) hc
    refine Ok.holds (by omega) (fun hb => ?_) (fun hb => ?_)
    · dsimp only
      show Ok P ((m_S_comeBy ((1 : Int32) <<< (nJ i &&& 31)) M9).bind _)
      refine Ok.bind (x_comeBy hX9 h0) (fun r13 M13 h13 => ?_)
      dsimp only at h13 ⊢
      obtain ⟨e13, g13⟩ := h13
      subst e13
      refine step _ (fun c hc => ?_)
      rw [bt_and, bt_not _ hc, Bool.and_eq_true_iff]
      have hav : ∀ s, lev (Ed R B) (fun x => bt ((1 : Int32) <<< (nJ i &&& 31)) x = true) s c ↔ lev (Ed R B) (fun x => x = i) s c := by
        have key : ∀ s c, c < 32 → (lev (Ed R B) (fun x => bt ((1 : Int32) <<< (nJ i &&& 31)) x = true) s c ↔ lev (Ed R B) (fun x => x = i) s c) := by
          have ea : ∀ x, x < 32 → (bt ((1 : Int32) <<< (nJ i &&& 31)) x = true ↔ x = i) := fun x hx => by
            rw [bt_shl (by omega) x hx]; exact decide_eq_true_iff
          intro s
          induction s with
          | zero => intro c _; exact ⟨fun y => ⟨y.1, fun z => y.2 ((ea 0 (by omega)).mpr z)⟩, fun y => ⟨y.1, fun z => y.2 ((ea 0 (by omega)).mp z)⟩⟩
          | succ s ihs =>
            intro c hc
            constructor
            · rintro (y | ⟨p, p1, p2, p3, p4⟩)
              · exact Or.inl ((ihs c hc).mp y)
              · exact Or.inr ⟨p, p1, (ihs p (by omega)).mp p2, p3, fun z => p4 ((ea c hc).mpr z)⟩
            · rintro (y | ⟨p, p1, p2, p3, p4⟩)
              · exact Or.inl ((ihs c hc).mpr y)
              · exact Or.inr ⟨p, p1, (ihs p (by omega)).mpr p2, p3, fun z => p4 ((ea c hc).mp z)⟩
        exact fun s => key s c hc
      constructor
      · rintro ⟨y1, y2⟩
        refine ⟨hb, y1, fun s hs => ?_⟩
        have hc10 : c < 10 := ((hr c hc).mp (by rw [← f9 2 (by decide) (by decide)]; exact y1)).1
        have := (g13 c hc).mpr ⟨hc10, s, (hav s).mpr hs⟩
        rw [this] at y2; cases y2
      · rintro ⟨_, y1, y2⟩
        refine ⟨y1, ?_⟩
        cases hh : bt r13 c with
        | false => rfl
        | true =>
          obtain ⟨_, s, hs⟩ := (g13 c hc).mp hh
          exact absurd ((hav s).mp hs) (y2 s)
    · dsimp only
      refine step 0 (fun c hc => ?_)
      rw [bt_zero]
      constructor
      · intro y; cases y
      · rintro ⟨y, _⟩; rw [hb] at y; cases y
theorem x_findParent {X R : Sto} {B c : Nat} (h : PR X R B) (h0 : 0 < B) (hs : SV X R B) (hc : c < B) :
    Ok (fun a => a.2 = X ∧ ((c = 0 ∨ bt (X 2 1) c = false) → a.1 = -1) ∧ (c ≠ 0 → bt (X 2 1) c = true → ∃ p, p < B ∧ a.1 = nJ p ∧ IDom (Ed R B) c p)) (m_S_findParent (nJ c) X) := by
  have hB := h.pf.hB
  have nz : ∀ r x, ¬ lev (Ed R B) (fun x => x = 0) r x := by
    intro r
    induction r with
    | zero => intro c h; exact h.2 rfl
    | succ r ih => intro c h; exact h.elim (ih c) fun ⟨p, _, p2, _⟩ => ih p p2
  have r0 : bt (X 2 1) 0 = true := (hs.rch 0 (by omega)).mpr ⟨by omega, 0, rfl, fun z => z⟩
  have loop : ∀ n i v, ((v = -1 ∧ ∀ q, q < i → q ≠ c → bt (X 13 q) c = false) ∨ (∃ p, p < i ∧ v = nJ p ∧ p ≠ c ∧ bt (X 13 p) c = true ∧ ∀ q, q < i → q ≠ c → bt (X 13 q) c = true → Dm (Ed R B) q p)) → i ≤ B → B - i < n →
      Ok (fun a : Int32 × Sto => a.2 = X ∧ ((c = 0 ∨ bt (X 2 1) c = false) → a.1 = -1) ∧ (c ≠ 0 → bt (X 2 1) c = true → ∃ p, p < B ∧ a.1 = nJ p ∧ IDom (Ed R B) c p)) (l_S_findParent_4 j_S_findParent_59 n (nJ c) v (nJ i) X) := by
    intro n
    induction n with
    | zero => intro i v _ h1 h2; omega
    | succ n ih =>
      intro i v hv hi hn
      unfold l_S_findParent_4
      rw [h.blk]
      refine Ok.leN (by omega) (by omega) (fun q => ?_) (fun q => ?_)
      · refine ⟨(v, X), rfl, rfl, fun hz => ?_, fun c0 cr => ?_⟩
        · rcases hv with ⟨y, _⟩ | ⟨p, p1, p2, p3, p4, _⟩
          · exact y
          · exfalso
            obtain ⟨a1, a2, a3⟩ := (hs.und p c (by omega) (by omega)).mp p4
            rcases hz with z | z
            · rw [z] at a3 p3
              exact a3 0 ⟨rfl, fun y => p3 y.symm⟩
            · rw [z] at a2; cases a2
        · rcases hv with ⟨_, y⟩ | ⟨p, p1, p2, p3, p4, p5⟩
          · exfalso
            have := (hs.und 0 c h0 (by omega)).mpr ⟨r0, cr, fun r hl => nz r c hl⟩
            rw [y 0 (by omega) (fun w => c0 w.symm)] at this; cases this
          · obtain ⟨a1, a2, a3⟩ := (hs.und p c (by omega) (by omega)).mp p4
            refine ⟨p, by omega, p2, p3, a3, fun x hx hd => ?_⟩
            have hrc : Rc (Ed R B) c := ((hs.rch c (by omega)).mp cr).2
            obtain ⟨r, hr⟩ := Dm.reach hrc hd
            have hx32 : x < 32 := by
              have big : ∀ r c, lev (Ed R B) (fun _ => False) r c → c < 32 := by
                intro r
                induction r with
                | zero => intro c h; rw [h.1]; omega
                | succ r ih =>
                  intro c h
                  rcases h with h | ⟨p, _, _, p3, _⟩
                  · exact ih c h
                  · apply Classical.byContradiction
                    intro y
                    have := p3.2
                    rw [bt_big (by omega)] at this; cases this
              exact big r x hr
            have hxB := lev_lt h.pf h0 hr hx32
            have hxr : bt (X 2 1) x = true := (hs.rch x (by omega)).mpr ⟨by omega, r, hr⟩
            exact p5 x (by omega) hx ((hs.und x c hxB (by omega)).mpr ⟨hxr, cr, hd⟩)
      have skip : (i = c ∨ bt (X 13 i) c = false) → Ok (fun a : Int32 × Sto => a.2 = X ∧ ((c = 0 ∨ bt (X 2 1) c = false) → a.1 = -1) ∧ (c ≠ 0 → bt (X 2 1) c = true → ∃ p, p < B ∧ a.1 = nJ p ∧ IDom (Ed R B) c p)) (j_S_findParent_53 (l_S_findParent_4 j_S_findParent_59 n) j_S_findParent_59 (nJ c) v (nJ i) X) := by
        intro hno
        unfold j_S_findParent_53
        rw [nJ_succ (by omega)]
        refine ih (i + 1) v ?_ (by omega) (by omega)
        rcases hv with ⟨y, y2⟩ | ⟨p, p1, p2, p3, p4, p5⟩
        · refine Or.inl ⟨y, fun x hx hxc => ?_⟩
          by_cases z : x = i
          · rw [z] at hxc ⊢
            exact hno.elim (fun w => absurd w hxc) fun w => w
          · exact y2 x (by omega) hxc
        · refine Or.inr ⟨p, by omega, p2, p3, p4, fun x hx hxc hxd => ?_⟩
          by_cases z : x = i
          · rw [z] at hxc hxd
            rcases hno with w | w
            · exact absurd w hxc
            · rw [w] at hxd; cases hxd
          · exact p5 x (by omega) hxc hxd
      have set : i ≠ c → bt (X 13 i) c = true → (∀ q, q < i → q ≠ c → bt (X 13 q) c = true → Dm (Ed R B) q i) → Ok (fun a : Int32 × Sto => a.2 = X ∧ ((c = 0 ∨ bt (X 2 1) c = false) → a.1 = -1) ∧ (c ≠ 0 → bt (X 2 1) c = true → ∃ p, p < B ∧ a.1 = nJ p ∧ IDom (Ed R B) c p)) (j_S_findParent_51 (l_S_findParent_4 j_S_findParent_59 n) j_S_findParent_59 (nJ c) (nJ i) X) := by
        intro ic ib iall
        unfold j_S_findParent_51 j_S_findParent_53
        rw [nJ_succ (by omega)]
        refine ih (i + 1) (nJ i) (Or.inr ⟨i, by omega, rfl, ic, ib, fun x hx hxc hxd => ?_⟩) (by omega) (by omega)
        by_cases z : x = i
        · rw [z]; exact Dm.rf
        · exact iall x (by omega) hxc hxd
      refine Ok.ifE (fun q1 => skip (Or.inl (nJ_inj (by omega) (by omega) q1))) (fun q1 => ?_)
      have ic : i ≠ c := fun z => q1 (by rw [z])
      refine Ok.okN (by omega) (by decide) ?_
      rw [nJ_tn (i := i) (by omega)]
      refine Ok.holds (by omega) (fun g1 => ?_) (fun g1 => skip (Or.inr g1))
      dsimp only
      refine Ok.ifE (fun q2 => ?_) (fun q2 => ?_)
      · refine set ic g1 (fun x hx hxc hxd => ?_)
        rcases hv with ⟨_, y2⟩ | ⟨p, p1, p2, _⟩
        · rw [y2 x hx hxc] at hxd; cases hxd
        · exfalso
          rw [p2] at q2
          have := congrArg Int32.toInt q2
          have e := nJ_int (i := p) (by omega)
          have n1 : (-1 : Int32).toInt = -1 := rfl
          omega
      obtain ⟨p, p1, p2, p3, p4, p5⟩ := hv.elim (fun y => absurd y.1 q2) fun y => y
      refine Ok.okE p2 (by omega) (by decide) ?_
      rw [p2, nJ_tn (by omega)]
      obtain ⟨a1, a2, a3⟩ := (hs.und p c (by omega) (by omega)).mp p4
      obtain ⟨b1, b2, b3⟩ := (hs.und i c q (by omega)).mp g1
      have hrc : Rc (Ed R B) c := ((hs.rch c (by omega)).mp a2).2
      refine Ok.holds (by omega) (fun g2 => ?_) (fun g2 => ?_)
      · dsimp only
        obtain ⟨_, _, d3⟩ := (hs.und p i (by omega) (by omega)).mp g2
        exact set ic g1 (fun x hx hxc hxd => (p5 x hx hxc hxd).trans d3)
      · dsimp only
        have hpi : ¬ Dm (Ed R B) p i := fun d => by
          rw [(hs.und p i (by omega) (by omega)).mpr ⟨a1, b1, d⟩] at g2; cases g2
        have hip : Dm (Ed R B) i p := (Dm.chain hrc a3 b3).elim (fun y => absurd y hpi) fun y => y
        rw [← p2]
        unfold j_S_findParent_53
        rw [nJ_succ (by omega)]
        refine ih (i + 1) v (Or.inr ⟨p, by omega, p2, p3, p4, fun x hx hxc hxd => ?_⟩) (by omega) (by omega)
        by_cases z : x = i
        · rw [z]; exact hip
        · exact p5 x (by omega) hxc hxd
  unfold m_S_findParent
  exact loop FU 0 (-1) (Or.inl ⟨rfl, fun q hq => by omega⟩) (by omega) (by unfold FU; omega)
def Fro (R : Sto) (B a c : Nat) : Prop := Rch R B a ∧ c < B ∧ (c = a ∨ ¬ Dm (Ed R B) a c) ∧ ∃ p, p < B ∧ Rch R B p ∧ Ed R B p c ∧ Dm (Ed R B) a p
theorem and_zero (x y : Int32) : x &&& y = 0 ↔ ∀ b, b < 32 → bt x b = true → bt y b = false := by
  constructor
  · intro h b hb hx
    have : bt (x &&& y) b = false := by rw [h, bt_zero]
    rw [bt_and, hx] at this
    simpa using this
  · intro h
    apply bt_ext
    intro b hb
    rw [bt_and, bt_zero]
    cases hx : bt x b with
    | false => rfl
    | true => rw [h b hb hx]; rfl
theorem SV.fro {X R : Sto} {B b c : Nat} (h : PR X R B) (hs : SV X R B) (hb : b < B) (hc : c < B) : ((c = b ∨ bt (X 13 b) c = false) ∧ ∃ p, p < 32 ∧ bt (X 12 c) p = true ∧ bt (X 13 b) p = true) ↔ Fro R B b c := by
  have hB := h.pf.hB
  constructor
  · rintro ⟨h1, p, p1, p2, p3⟩
    obtain ⟨q1, q2, q3⟩ := (hs.bef c p hc p1).mp p2
    obtain ⟨r1, r2, r3⟩ := (hs.und b p hb p1).mp p3
    have hrb := ((hs.rch b (by omega)).mp r1).2
    have hrp := ((hs.rch p (by omega)).mp r2).2
    refine ⟨hrb, hc, h1.elim Or.inl fun y => Or.inr fun d => ?_, p, q1, hrp, q3, r3⟩
    obtain ⟨s, hs'⟩ := hrp
    have hrc : bt (X 2 1) c = true := (hs.rch c (by omega)).mpr ⟨by omega, s + 1, Or.inr ⟨p, by omega, hs', q3, fun z => z⟩⟩
    rw [(hs.und b c hb (by omega)).mpr ⟨r1, hrc, d⟩] at y; cases y
  · rintro ⟨hrb, _, h1, p, p1, hrp, p3, p4⟩
    have rb : bt (X 2 1) b = true := (hs.rch b (by omega)).mpr ⟨by omega, hrb⟩
    have rp : bt (X 2 1) p = true := (hs.rch p (by omega)).mpr ⟨by omega, hrp⟩
    refine ⟨h1.elim Or.inl fun y => Or.inr ?_, p, by omega, (hs.bef c p hc (by omega)).mpr ⟨p1, rp, p3⟩, (hs.und b p hb (by omega)).mpr ⟨rb, rp, p4⟩⟩
    rw [Bool.eq_false_iff]
    intro z
    exact y ((hs.und b c hb (by omega)).mp z).2.2
theorem x_findFrontier {X R : Sto} {B b : Nat} (h : PR X R B) (hs : SV X R B) (hb : b < B) :
    Ok (fun a => a.2 = X ∧ ∀ c, c < 32 → (bt a.1 c = true ↔ Fro R B b c)) (m_S_findFrontier (nJ b) X) := by
  have hB := h.pf.hB
  have loop : ∀ n i v, (∀ c, c < 32 → (bt v c = true ↔ c < i ∧ Fro R B b c)) → i ≤ B → B - i < n → Ok (fun a : Int32 × Sto => a.2 = X ∧ ∀ c, c < 32 → (bt a.1 c = true ↔ Fro R B b c)) (l_S_findFrontier_4 j_S_findFrontier_74 n (nJ b) v (nJ i) X) := by
    intro n
    induction n with
    | zero => intro i v _ h1 h2; omega
    | succ n ih =>
      intro i v hv hi hn
      unfold l_S_findFrontier_4
      rw [h.blk]
      refine Ok.leN (by omega) (by omega) (fun q => ?_) (fun q => ?_)
      · refine ⟨(v, X), rfl, rfl, fun c hc => ?_⟩
        rw [hv c hc]
        exact ⟨fun y => y.2, fun y => ⟨by have := y.2.1; omega, y⟩⟩
      have skip : ¬ Fro R B b i → Ok (fun a : Int32 × Sto => a.2 = X ∧ ∀ c, c < 32 → (bt a.1 c = true ↔ Fro R B b c)) (j_S_findFrontier_68 (l_S_findFrontier_4 j_S_findFrontier_74 n) j_S_findFrontier_74 (nJ b) v (nJ i) X) := by
        intro hno
        unfold j_S_findFrontier_68
        rw [nJ_succ (by omega)]
        refine ih (i + 1) v (fun c hc => ?_) (by omega) (by omega)
        rw [hv c hc]
        constructor
        · rintro ⟨a, b⟩; exact ⟨by omega, b⟩
        · rintro ⟨a, b⟩
          by_cases z : c = i
          · subst z; exact absurd b hno
          · exact ⟨by omega, b⟩
      have look : (i = b ∨ bt (X 13 b) i = false) → Ok (fun a : Int32 × Sto => a.2 = X ∧ ∀ c, c < 32 → (bt a.1 c = true ↔ Fro R B b c)) (j_S_findFrontier_38 (l_S_findFrontier_4 j_S_findFrontier_74 n) j_S_findFrontier_74 1 (nJ b) v (nJ i) X) := by
        intro hout
        unfold j_S_findFrontier_38
        rw [if_neg (by decide)]
        refine Ok.okN (by omega) (by decide) ?_
        refine Ok.okN (by omega) (by decide) ?_
        rw [nJ_tn (i := i) (by omega), nJ_tn (i := b) (by omega)]
        refine Ok.ifE (fun z => ?_) (fun z => ?_)
        · refine skip fun hf => ?_
          obtain ⟨_, p, p1, p2, p3⟩ := (SV.fro h hs hb q).mpr hf
          rw [(and_zero _ _).mp z p p1 p2] at p3; cases p3
        · have hf : Fro R B b i := by
            refine (SV.fro h hs hb q).mp ⟨hout, ?_⟩
            apply Classical.byContradiction
            intro hno
            refine z ((and_zero _ _).mpr fun p hp hx => ?_)
            rw [Bool.eq_false_iff]
            exact fun hy => hno ⟨p, hp, hx, hy⟩
          show Ok _ (j_S_findFrontier_68 (l_S_findFrontier_4 j_S_findFrontier_74 n) j_S_findFrontier_74 (nJ b) (v ||| ((1 : Int32) <<< (nJ i &&& 31))) (nJ i) X)
          unfold j_S_findFrontier_68
          rw [nJ_succ (by omega)]
          refine ih (i + 1) _ (fun c hc => ?_) (by omega) (by omega)
          rw [bt_or, Bool.or_eq_true_iff, hv c hc, bt_shl (by omega) c hc]
          constructor
          · rintro (⟨a, b⟩ | a)
            · exact ⟨by omega, b⟩
            · have := of_decide_eq_true a
              subst this
              exact ⟨by omega, hf⟩
          · rintro ⟨a, b⟩
            by_cases z : c = i
            · exact Or.inr (decide_eq_true z)
            · exact Or.inl ⟨by omega, b⟩
      unfold j_S_findFrontier_33
      refine Ok.ifE (fun q1 => look (Or.inl (nJ_inj (by omega) (by omega) q1))) (fun q1 => ?_)
      refine Ok.okN (by omega) (by decide) ?_
      rw [nJ_tn (i := b) (by omega)]
      refine Ok.holds (by omega) (fun g => ?_) (fun g => look (Or.inr g))
      dsimp only
      unfold j_S_findFrontier_38
      rw [if_pos rfl]
      refine skip fun hf => ?_
      rcases ((SV.fro h hs hb q).mpr hf).1 with y | y
      · exact q1 (by rw [y])
      · rw [g] at y; cases y
  unfold m_S_findFrontier
  refine loop FU 0 0 (fun c hc => ?_) (by omega) (by unfold FU; omega)
  rw [bt_zero]
  constructor
  · intro h; cases h
  · rintro ⟨a, _⟩; omega
def SW (X R : Sto) (B : Nat) : Prop := (SV X R B) ∧ (∀ c, c < B → (c = 0 ∨ bt (X 2 1) c = false) → X 14 c = -1) ∧ (∀ c, c < B → c ≠ 0 → bt (X 2 1) c = true → ∃ p, p < B ∧ X 14 c = nJ p ∧ IDom (Ed R B) c p) ∧ (∀ b c, b < B → c < 32 → (bt (X 15 b) c = true ↔ Fro R B b c))
theorem SW.sv {X R : Sto} {B : Nat} (h : SW X R B) : SV X R B := h.1
theorem SW.non {X R : Sto} {B : Nat} (h : SW X R B) : ∀ c, c < B → (c = 0 ∨ bt (X 2 1) c = false) → X 14 c = -1 := h.2.1
theorem SW.par {X R : Sto} {B : Nat} (h : SW X R B) : ∀ c, c < B → c ≠ 0 → bt (X 2 1) c = true → ∃ p, p < B ∧ X 14 c = nJ p ∧ IDom (Ed R B) c p := h.2.2.1
theorem SW.fro {X R : Sto} {B : Nat} (h : SW X R B) : ∀ b c, b < B → c < 32 → (bt (X 15 b) c = true ↔ Fro R B b c) := h.2.2.2
theorem SV.fx {X X' R : Sto} {B : Nat} (h : SV X R B) (e1 : X' 2 1 = X 2 1) (e2 : X' 12 = X 12) (e3 : X' 13 = X 13) : SV X' R B :=
  ⟨by rw [e1]; exact h.rch, by rw [e1, e2]; exact h.bef, by rw [e1, e3]; exact h.und⟩
theorem x_sv77 {P : Int32 × Sto → Prop} {k : Sto → Option (Int32 × Sto)} {G R : Sto} {B : Nat} (h : PR G R B) (h0 : 0 < B) (hs : SV G R B)
    (hk : ∀ X, (∀ k, k ≠ 14 → k ≠ 15 → X k = G k) → SW X R B → Ok P (k X)) :
    ∀ n i X, (∀ k, k ≠ 14 → k ≠ 15 → X k = G k) → (∀ c, c < i → (c = 0 ∨ bt (G 2 1) c = false) → X 14 c = -1) → (∀ c, c < i → c ≠ 0 → bt (G 2 1) c = true → ∃ p, p < B ∧ X 14 c = nJ p ∧ IDom (Ed R B) c p) → (∀ b c, b < i → c < 32 → (bt (X 15 b) c = true ↔ Fro R B b c)) → i ≤ B → B - i < n → Ok P (l_S_survey_77 k n (nJ i) X) := by
  intro n
  have hB := h.pf.hB
  induction n with
  | zero => intro i X _ _ _ _ h1 h2; omega
  | succ n ih =>
    intro i X hf h1 h2 h3 hi hn
    have hX : PR X R B := h.fx fun k hk => hf k (by omega) (by omega)
    have e2 : X 2 = G 2 := hf 2 (by decide) (by decide)
    have hsX : SV X R B := hs.fx (by rw [e2]) (hf 12 (by decide) (by decide)) (hf 13 (by decide) (by decide))
    unfold l_S_survey_77
    rw [hX.blk]
    refine Ok.leN (by omega) (by omega) (fun q => ?_) (fun q => ?_)
    · have : i = B := by omega
      subst this
      exact hk X hf ⟨hsX, by rw [e2]; exact h1, by rw [e2]; exact h2, h3⟩
    refine Ok.bind (x_findParent hX h0 hsX q) (fun r4 M4 h4 => ?_)
    dsimp only at h4 ⊢
    obtain ⟨e4, g4, g5⟩ := h4
    subst e4
    refine Ok.okN (by omega) (by decide) ?_
    rw [nJ_tn (by omega)]
    refine Ok.wr (fun M5 q5 => ?_)
    have f5 : ∀ k, k ≠ 14 → k ≠ 15 → M5 k = G k := fun k k1 k2 => by rw [q5, up2_ne _ _ _ k1]; exact hf k k1 k2
    have hX5 : PR M5 R B := h.fx fun k hk => f5 k (by omega) (by omega)
    have hs5 : SV M5 R B := hs.fx (by rw [f5 2 (by decide) (by decide)]) (f5 12 (by decide) (by decide)) (f5 13 (by decide) (by decide))
    refine Ok.bind (x_findFrontier hX5 hs5 q) (fun r6 M6 h6 => ?_)
    dsimp only at h6 ⊢
    obtain ⟨e6, g6⟩ := h6
    subst e6
    refine Ok.okN (by omega) (by decide) ?_
    rw [nJ_succ (by omega)]
    refine Ok.wr (fun M7 q7 => ?_)
    have e14 : ∀ c, M7 14 c = if c = i then r4 else M4 14 c := fun c => by
      rw [q7, up2_ne _ _ _ (by decide), q5, up2_at]
      by_cases z : c = i
      · rw [if_pos ⟨rfl, z⟩, if_pos z]
      · rw [if_neg (fun y => z y.2), if_neg z]
    rw [e2] at g4 g5
    refine ih (i + 1) M7 (fun k k1 k2 => by rw [q7, up2_ne _ _ _ k2]; exact f5 k k1 k2) (fun c hc hz => ?_) (fun c hc hc0 hcr => ?_) (fun b c hb hc => ?_) (by omega) (by omega)
    · rw [e14]
      by_cases z : c = i
      · rw [if_pos z]; rw [z] at hz; exact g4 hz
      · rw [if_neg z]; exact h1 c (by omega) hz
    · rw [e14]
      by_cases z : c = i
      · rw [if_pos z, z]; rw [z] at hc0 hcr; exact g5 hc0 hcr
      · rw [if_neg z]; exact h2 c (by omega) hc0 hcr
    · rw [q7, up2_at]
      by_cases z : b = i
      · rw [if_pos ⟨rfl, z⟩, z]; exact g6 c hc
      · rw [if_neg (fun y => z y.2), q5, up2_ne _ _ _ (by decide)]; exact h3 b c (by omega) hc
end
section
def Df (R : Sto) (a v : Nat) : Prop := ∃ j, j < lenN R a ∧ R 2 (6 * a + j) ≠ 7 ∧ R 3 (6 * a + j) = nJ v
def Pl (R : Sto) (B : Nat) : Nat → Nat → Nat → Prop
  | 0, _, _ => False
  | r + 1, c, v => Pl R B r c v ∨ ∃ a, a < B ∧ Fro R B a c ∧ (Df R a v ∨ Pl R B r a v)
def PhS (R : Sto) (B c v : Nat) : Prop := ∃ r, Pl R B r c v
theorem PhS.step {R : Sto} {B a c v : Nat} (ha : a < B) (hf : Fro R B a c) (h : Df R a v ∨ PhS R B a v) : PhS R B c v := by
  rcases h with h | ⟨r, h⟩
  · exact ⟨1, Or.inr ⟨a, ha, hf, Or.inl h⟩⟩
  · exact ⟨r + 1, Or.inr ⟨a, ha, hf, Or.inr h⟩⟩
theorem PhS.least {R : Sto} {B : Nat} {S : Nat → Nat → Prop} (h : ∀ a c v, a < B → Fro R B a c → (Df R a v ∨ S a v) → S c v) : ∀ {c v}, PhS R B c v → S c v := by
  have key : ∀ r c v, Pl R B r c v → S c v := by
    intro r
    induction r with
    | zero => intro c v q; exact q.elim
    | succ r ih =>
      intro c v q
      rcases q with q | ⟨a, a1, a2, a3⟩
      · exact ih c v q
      · exact h a c v a1 a2 (a3.elim Or.inl fun y => Or.inr (ih a v y))
  rintro c v ⟨r, hr⟩
  exact key r c v hr
theorem Df.lt {R : Sto} {B a v : Nat} (hP : PF R B) (ha : a < 10) (hv : v < 1000) (h : Df R a v) : v < 6 := by
  obtain ⟨j, j1, j2, j3⟩ := h
  obtain ⟨d, d1, d2⟩ := hP.dst (6 * a + j) j2
  have := nJ_inj (by omega) (by omega) (j3.symm.trans d2)
  omega
def SameF (R R' : Sto) : Prop := R' 1 = R 1 ∧ R' 2 = R 2 ∧ R' 3 = R 3 ∧ R' 6 = R 6 ∧ R' 8 = R 8 ∧ R' 9 = R 9
theorem Fro_fr {R R' : Sto} (h : SameF R R') (B : Nat) : Fro R' B = Fro R B := by
  funext a c
  unfold Fro
  rw [Rch_fr h.2.2.2.1 h.2.2.2.2.1 h.2.2.2.2.2, Ed_fr h.2.2.2.1 h.2.2.2.2.1 h.2.2.2.2.2]
theorem Df_fr {R R' : Sto} (h : SameF R R') : Df R' = Df R := by
  funext a v
  unfold Df lenN
  rw [h.1, h.2.1, h.2.2.1]
theorem Pl_fr {R R' : Sto} (h : SameF R R') (B : Nat) : ∀ r, Pl R' B r = Pl R B r
  | 0 => rfl
  | r + 1 => by
    funext c v
    show (Pl R' B r c v ∨ ∃ a, a < B ∧ Fro R' B a c ∧ (Df R' a v ∨ Pl R' B r a v)) = (Pl R B r c v ∨ ∃ a, a < B ∧ Fro R B a c ∧ (Df R a v ∨ Pl R B r a v))
    rw [Pl_fr h B r, Fro_fr h, Df_fr h]
theorem PhS_fr {R R' : Sto} (h : SameF R R') (B : Nat) : PhS R' B = PhS R B := by
  funext c v
  unfold PhS
  simp only [Pl_fr h B]
theorem q_front25 {P : Int32 × Sto → Prop} {k : Int32 → Sto → Option (Int32 × Sto)} {M : Sto} {B a c : Nat} (hP : PF M B) (ha : a < B) (hc : c < B)
    (hk : ∀ v, (v = 0 ∨ v = 1) → (v = 1 ↔ ∃ p, p < B ∧ bt (M 11 c) p = true ∧ bt (M 10 p) a = true) → Ok P (k v M)) :
    ∀ n i v, (v = 0 ∨ v = 1) → (v = 1 ↔ ∃ p, p < i ∧ bt (M 11 c) p = true ∧ bt (M 10 p) a = true) → i ≤ B → B - i < n → Ok P (l_R_isInFrontier_25 k n (nJ a) (nJ c) v (nJ i) M) := by
  intro n
  have hB := hP.hB
  induction n with
  | zero => intro i v _ _ h1 h2; omega
  | succ n ih =>
    intro i v hv hv1 hi hn
    unfold l_R_isInFrontier_25
    rw [hP.blk, nJ_tn (i := c) (by omega)]
    refine Ok.leN (by omega) (by omega) (fun q => ?_) (fun q => ?_)
    · have : i = B := by omega
      subst this
      exact hk v hv hv1
    rw [nJ_tn (i := i) (by omega)]
    unfold j_R_isInFrontier_70 j_R_isInFrontier_66 j_R_isInFrontier_71
    rw [nJ_succ (by omega)]
    have d01 : (0 : Int32) ≠ 1 := by decide
    have no : v = 0 → ¬ (bt (M 11 c) i = true ∧ bt (M 10 i) a = true) → Ok P (l_R_isInFrontier_25 k n (nJ a) (nJ c) 0 (nJ (i + 1)) M) := fun v0 hno =>
      ih (i + 1) 0 (Or.inl rfl) ⟨fun y => absurd y d01, fun ⟨p, p1, p2⟩ => by
        by_cases z : p = i
        · rw [z] at p2; exact absurd p2 hno
        · have := hv1.mpr ⟨p, by omega, p2⟩
          rw [v0] at this; exact absurd this d01⟩ (by omega) (by omega)
    refine Ok.ifE (fun q1 => ?_) (fun q1 => ?_)
    · refine Ok.okN (by omega) (by decide) ?_
      refine Ok.has (by omega) (fun g1 => ?_) (fun g1 => no q1 fun y => by rw [y.1] at g1; cases g1)
      dsimp only
      refine Ok.okN (by omega) (by decide) ?_
      refine Ok.has (by omega) (fun g2 => ?_) (fun g2 => no q1 fun y => by rw [y.2] at g2; cases g2)
      exact ih (i + 1) 1 (Or.inr rfl) ⟨fun _ => ⟨i, by omega, g1, g2⟩, fun _ => rfl⟩ (by omega) (by omega)
    · have v1 : v = 1 := hv.elim (fun y => absurd y q1) fun y => y
      obtain ⟨p, p1, p2⟩ := hv1.mp v1
      exact ih (i + 1) 1 (Or.inr rfl) ⟨fun _ => ⟨p, by omega, p2⟩, fun _ => rfl⟩ (by omega) (by omega)
theorem q_isInFrontier {M : Sto} {B a c : Nat} (hP : PF M B) (hR : RRq M B) (hD : DN M B) (ha : a < B) (hc : c < B) (hra : bt (M 0 12) a = true) (hrc : bt (M 0 12) c = true) :
    Ok (fun r => r.2 = M ∧ (r.1 = 0 ∨ r.1 = 1) ∧ (r.1 = 1 ↔ Fro M B a c)) (m_R_isInFrontier (nJ a) (nJ c) M) := by
  have hB := hP.hB
  have d01 : (0 : Int32) ≠ 1 := by decide
  have hRa := ((hR.rch a (by omega)).mp hra).2
  have ex : (∃ p, p < B ∧ bt (M 11 c) p = true ∧ bt (M 10 p) a = true) ↔ ∃ p, p < B ∧ Rch M B p ∧ Ed M B p c ∧ Dm (Ed M B) a p := by
    constructor
    · rintro ⟨p, p1, p2, p3⟩
      obtain ⟨_, q2, q3⟩ := (hR.bef c p hc (by omega)).mp p2
      exact ⟨p, p1, ((hR.rch p (by omega)).mp q2).2, q3, (hD.ov a p (by omega) p1 q2).mp p3⟩
    · rintro ⟨p, p1, p2, p3, p4⟩
      have q2 : bt (M 0 12) p = true := (hR.rch p (by omega)).mpr ⟨by omega, p2⟩
      exact ⟨p, p1, (hR.bef c p hc (by omega)).mpr ⟨p1, q2, p3⟩, (hD.ov a p (by omega) p1 q2).mpr p4⟩
  have fin : (c = a ∨ ¬ Dm (Ed M B) a c) → Ok (fun r => r.2 = M ∧ (r.1 = 0 ∨ r.1 = 1) ∧ (r.1 = 1 ↔ Fro M B a c)) (j_R_isInFrontier_20 (nJ a) (nJ c) M) := by
    intro hout
    unfold j_R_isInFrontier_20
    refine q_front25 hP ha hc (fun v h1 h2 => ?_) FU 0 0 (Or.inl rfl) ⟨fun y => absurd y d01, fun ⟨p, p1, _⟩ => by omega⟩ (by omega) (by unfold FU; omega)
    unfold j_R_isInFrontier_78
    refine Ok.bzt h1 ⟨(v, M), rfl, rfl, h1, ?_⟩
    show v = 1 ↔ _
    rw [h2, ex]
    exact ⟨fun y => ⟨hRa, hc, hout, y⟩, fun y => y.2.2.2⟩
  unfold m_R_isInFrontier
  refine Ok.okN (by omega) (by decide) ?_
  rw [nJ_tn (i := c) (by omega)]
  refine Ok.has (by omega) (fun g1 => ?_) (fun g1 => ?_)
  · dsimp only
    refine Ok.ifE (fun q1 => ?_) (fun q1 => ?_)
    · exact fin (Or.inl (nJ_inj (by omega) (by omega) q1).symm)
    · refine Ok.bzt (Or.inl rfl) ⟨(0, M), rfl, rfl, Or.inl rfl, fun y => absurd y d01, fun y => ?_⟩
      exfalso
      rcases y.2.2.1 with z | z
      · exact q1 (by rw [z])
      · exact z ((hD.ov a c (by omega) hc hrc).mp g1)
  · exact fin (Or.inr fun y => by rw [(hD.ov a c (by omega) hc hrc).mpr y] at g1; cases g1)
theorem q_defined {M : Sto} {B b : Nat} (hP : PF M B) (hb : b < B) : Ok (fun r => r.2 = M ∧ ∀ i, i < 32 → (bt r.1 i = true ↔ bt (M 13 b) i = true ∨ Df M b i)) (m_R_defined (nJ b) M) := by
  have hB := hP.hB
  obtain ⟨l, l1, l2⟩ := hP.len b (by omega)
  have hln : lenN M b = l := by unfold lenN; rw [l2, nJ_tn (by omega)]
  have loop : ∀ n i v, (∀ x, x < 32 → (bt v x = true ↔ bt (M 13 b) x = true ∨ ∃ j, j < i ∧ M 2 (6 * b + j) ≠ 7 ∧ M 3 (6 * b + j) = nJ x)) → i ≤ l → l - i < n → Ok (fun r => r.2 = M ∧ ∀ i, i < 32 → (bt r.1 i = true ↔ bt (M 13 b) i = true ∨ Df M b i)) (l_R_defined_12 j_R_defined_56 n (nJ b) v (nJ (6 * b + i)) M) := by
    intro n
    induction n with
    | zero => intro i v _ h1 h2; omega
    | succ n ih =>
      intro i v hv hi hn
      unfold l_R_defined_12
      refine Ok.okN (by omega) (by decide) ?_
      rw [nJ_tn (i := b) (by omega), l2, nJ_mul6 (by omega), nJ_add (by omega)]
      refine Ok.leN (by omega) (by omega) (fun q => ⟨(v, M), rfl, rfl, fun x hx => ?_⟩) (fun q => ?_)
      · show bt v x = true ↔ _
        rw [hv x hx]
        unfold Df
        rw [hln, show i = l by omega]
      refine Ok.okN (by omega) (by decide) ?_
      unfold j_R_defined_50
      rw [nJ_tn (i := 6 * b + i) (by omega), nJ_succ (by omega)]
      refine r_setsOne (fun g => ?_) (fun g => ?_)
      · dsimp only
        refine Ok.okN (by omega) (by decide) ?_
        obtain ⟨d, d1, d2⟩ := hP.dst (6 * b + i) g
        refine ih (i + 1) _ (fun x hx => ?_) (by omega) (by omega)
        rw [d2, bt_or, Bool.or_eq_true_iff, hv x hx, bt_shl (by omega) x hx]
        constructor
        · rintro ((y | ⟨j, j1, j2⟩) | y)
          · exact Or.inl y
          · exact Or.inr ⟨j, by omega, j2⟩
          · have := of_decide_eq_true y
            exact Or.inr ⟨i, by omega, g, by rw [this]; exact d2⟩
        · rintro (y | ⟨j, j1, j2, j3⟩)
          · exact Or.inl (Or.inl y)
          · by_cases z : j = i
            · rw [z] at j3
              exact Or.inr (decide_eq_true (nJ_inj (by omega) (by omega) (j3.symm.trans d2)))
            · exact Or.inl (Or.inr ⟨j, by omega, j2, j3⟩)
      · dsimp only
        refine ih (i + 1) v (fun x hx => ?_) (by omega) (by omega)
        rw [hv x hx]
        constructor
        · rintro (y | ⟨j, j1, j2⟩)
          · exact Or.inl y
          · exact Or.inr ⟨j, by omega, j2⟩
        · rintro (y | ⟨j, j1, j2, j3⟩)
          · exact Or.inl y
          · by_cases z : j = i
            · rw [z] at j2; exact absurd g j2
            · exact Or.inr ⟨j, by omega, j2, j3⟩
  unfold m_R_defined
  refine Ok.okN (by omega) (by decide) ?_
  rw [nJ_tn (i := b) (by omega), nJ_mul6 (by omega)]
  exact loop FU 0 _ (fun x hx => ⟨Or.inl, fun y => y.elim (fun z => z) fun ⟨j, j1, _⟩ => by omega⟩) (by omega) (by unfold FU; omega)
def PHJ (G : Sto) (B : Nat) (M : Sto) : Prop := (Fr [13] [] G M) ∧ (∀ c, c < 10 → ∀ x, x < 32 → bt (M 13 c) x = true → PhS G B c x ∧ x < 6)
theorem PHJ.fr {G : Sto} {B : Nat} {M : Sto} (h : PHJ G B M) : Fr [13] [] G M := h.1
theorem PHJ.snd {G : Sto} {B : Nat} {M : Sto} (h : PHJ G B M) : ∀ c, c < 10 → ∀ x, x < 32 → bt (M 13 c) x = true → PhS G B c x ∧ x < 6 := h.2
def Clo (G : Sto) (B : Nat) (M : Sto) (a c : Nat) : Prop := Fro G B a c → ∀ x, x < 32 → (Df G a x ∨ bt (M 13 a) x = true) → bt (M 13 c) x = true
def FJ (G : Sto) (B : Nat) (M0 : Sto) (F : Prop) (v : Int32) (M : Sto) : Prop := PHJ G B M ∧ ((v = 0 ∧ M = M0 ∧ F) ∨ (v = 1 ∧ mu13 M0 < mu13 M))
theorem q_phi41 {P : Int32 × Sto → Prop} {k : Int32 → Int32 → Sto → Option (Int32 × Sto)} {G M0 : Sto} {B a : Nat} {F : Prop} (hP : PF G B) (hR : RRq G B) (hD : DN G B) (ha : a < B)
    (hk : ∀ v M, FJ G B M0 (F ∧ ∀ c, c < B → Clo G B M0 a c) v M → Ok P (k v (nJ a) M)) :
    ∀ n i v M, FJ G B M0 (F ∧ ∀ c, c < i → Clo G B M0 a c) v M → i ≤ B → B - i < n → Ok P (l_R_placePhis_41 k n v (nJ a) (nJ i) M) := by
  intro n
  have hB := hP.hB
  induction n with
  | zero => intro i v M _ h1 h2; omega
  | succ n ih =>
    intro i v M hS hi hn
    have hI := hS.1
    have hPM : PF M B := hP.fr (hI.fr.mono (by decide) (by decide))
    have hRM : RRq M B := hR.fr (hI.fr.mono (by decide) (by decide))
    have e12 : M 0 12 = G 0 12 := hI.fr.2 12 (by decide)
    have sf : SameF G M := ⟨hI.fr.1 1 (by decide) (by decide), hI.fr.1 2 (by decide) (by decide), hI.fr.1 3 (by decide) (by decide), hI.fr.1 6 (by decide) (by decide), hI.fr.1 8 (by decide) (by decide), hI.fr.1 9 (by decide) (by decide)⟩
    have eE : Ed M B = Ed G B := Ed_fr sf.2.2.2.1 sf.2.2.2.2.1 sf.2.2.2.2.2 B
    have hDM : DN M B := by
      refine ⟨?_, ?_, ?_⟩
      · rw [e12, hI.fr.1 10 (by decide) (by decide), eE]; exact hD.ov
      · rw [e12, hI.fr.1 12 (by decide) (by decide)]; exact hD.non
      · rw [e12, hI.fr.1 12 (by decide) (by decide), eE]; exact hD.par
    unfold l_R_placePhis_41
    rw [hPM.blk]
    refine Ok.leN (by omega) (by omega) (fun q => ?_) (fun q => ?_)
    · have : i = B := by omega
      subst this
      exact hk v M hS
    have skip : ¬ Fro G B a i → Ok P (j_R_placePhis_126 (l_R_placePhis_41 k n) k v (nJ a) (nJ i) M) := by
      intro hno
      unfold j_R_placePhis_126
      rw [nJ_succ (by omega)]
      refine ih (i + 1) v M ⟨hI, hS.2.elim (fun y => Or.inl ⟨y.1, y.2.1, y.2.2.1, fun c hc => ?_⟩) Or.inr⟩ (by omega) (by omega)
      by_cases z : c = i
      · rw [z]; exact fun hf => absurd hf hno
      · exact y.2.2.2 c (by omega)
    refine Ok.has (by omega) (fun g1 => ?_) (fun g1 => skip fun hf => ?_)
    · dsimp only
      refine Ok.has (by omega) (fun g2 => ?_) (fun g2 => skip fun hf => ?_)
      · dsimp only
        refine Ok.bind (q_isInFrontier hPM hRM hDM ha q g1 g2) (fun r1 M1 e1 => ?_)
        dsimp only at e1
        obtain ⟨e1, z1, z2⟩ := e1
        subst e1
        rw [Fro_fr sf] at z2
        dsimp only
        refine Ok.ifE (fun q1 => skip fun hf => ?_) (fun q1 => ?_)
        · rw [z2.mpr hf] at q1; exact absurd q1 (by decide)
        have hf : Fro G B a i := z2.mp (z1.elim (fun y => absurd y q1) fun y => y)
        refine Ok.okN (by omega) (by decide) ?_
        refine Ok.bind (q_defined hPM ha) (fun r2 M2 e2 => ?_)
        dsimp only at e2
        obtain ⟨e2, d2⟩ := e2
        subst e2
        rw [Df_fr sf] at d2
        dsimp only
        rw [nJ_tn (i := i) (by omega)]
        have bits : ∀ b, b < 32 → bt (M2 13 i ||| r2) b = true → PhS G B i b ∧ b < 6 := fun b hb h => by
          rw [bt_or] at h
          rcases Bool.or_eq_true_iff.mp h with z | z
          · exact hI.snd i (by omega) b hb z
          · rcases (d2 b hb).mp z with y | y
            · obtain ⟨w1, w2⟩ := hI.snd a (by omega) b hb y
              exact ⟨PhS.step ha hf (Or.inr w1), w2⟩
            · exact ⟨PhS.step ha hf (Or.inl y), Df.lt hP (by omega) (by omega) y⟩
        have mono : ∀ b, b < 10 → bt (M2 13 i) b = true → bt (M2 13 i ||| r2) b = true := fun b _ h => by rw [bt_or, h]; rfl
        have set : ∀ w, (w = 0 → (M2 = M0 ∧ F ∧ ∀ c, c < i → Clo G B M0 a c) ∧ (M2 13 i ||| r2) = M2 13 i) → (w ≠ 0 → w = 1 ∧ (mu13 M0 < mu13 M2 ∨ M2 = M0 ∧ (M2 13 i ||| r2) ≠ M2 13 i)) → Ok P (j_R_placePhis_117 (l_R_placePhis_41 k n) k w (nJ a) (nJ i) (M2 13 i ||| r2) M2) := by
          intro w hw0 hw1
          unfold j_R_placePhis_117 j_R_placePhis_126
          refine Ok.okN (by omega) (by decide) ?_
          rw [nJ_tn (i := i) (by omega), nJ_succ (by omega)]
          refine Ok.wr (fun M3 q3 => ?_)
          have ei : M3 13 i = M2 13 i ||| r2 := by rw [q3, up2_at, if_pos ⟨rfl, rfl⟩]
          have eo : ∀ c, c ≠ i → M3 13 c = M2 13 c := fun c hc => by rw [q3, up2_at, if_neg (fun z => hc z.2)]
          have h3 : PHJ G B M3 := by
            refine ⟨by rw [q3]; exact hI.fr.up (by decide) (by decide), fun c hc => ?_⟩
            by_cases z : c = i
            · subst z; rw [ei]; exact bits
            · rw [eo c z]; exact hI.snd c hc
          by_cases z : w = 0
          · obtain ⟨⟨y1, y2, y3⟩, y4⟩ := hw0 z
            have hsame : M3 = M2 := by rw [q3, y4]; exact up2_same M2 13 i
            refine ih (i + 1) w M3 ⟨h3, Or.inl ⟨z, hsame.trans y1, y2, fun c hc => ?_⟩⟩ (by omega) (by omega)
            by_cases u : c = i
            · rw [u]
              intro _ x hx hdx
              rw [← y1, ← y4, bt_or, (d2 x hx).mpr (by rw [y1]; exact hdx.symm)]
              exact Bool.or_true _
            · exact y3 c (by omega)
          · obtain ⟨y1, y2⟩ := hw1 z
            have hle : mu13 M2 ≤ mu13 M3 := sm_mono 10 fun c hc => by
              by_cases u : c = i
              · subst u; rw [ei]; exact cb_mono mono
              · rw [eo c u]; exact Int.le_refl _
            refine ih (i + 1) w M3 ⟨h3, Or.inr ⟨y1, ?_⟩⟩ (by omega) (by omega)
            rcases y2 with y | ⟨y, y3⟩
            · omega
            · have hj : ∃ j, j < 10 ∧ bt (M2 13 i) j = false ∧ bt (M2 13 i ||| r2) j = true := by
                apply Classical.byContradiction
                intro hno
                apply y3
                apply bt_ext
                intro b hb
                cases h1 : bt (M2 13 i ||| r2) b with
                | true =>
                  cases h2 : bt (M2 13 i) b with
                  | true => rfl
                  | false => exact (hno ⟨b, by have := (bits b hb h1).2; omega, h2, h1⟩).elim
                | false =>
                  cases h2 : bt (M2 13 i) b with
                  | true => rw [bt_or, h2] at h1; cases h1
                  | false => rfl
              obtain ⟨j, j1, j2, j3⟩ := hj
              have : mu13 M2 < mu13 M3 := sm_more (j := i) (by rw [ei]; exact cb_more j1 j2 j3 mono) 10 (by omega) fun c hc => by
                by_cases u : c = i
                · subst u; rw [ei]; exact cb_mono mono
                · rw [eo c u]; exact Int.le_refl _
              rw [← y]; exact this
        refine Ok.ifE (fun q2 => ?_) (fun q2 => ?_)
        · have hv : M2 = M0 ∧ F ∧ ∀ c, c < i → Clo G B M0 a c := by
            rcases hS.2 with ⟨_, y, y2⟩ | ⟨y, _⟩
            · exact ⟨y, y2⟩
            · rw [y] at q2; exact absurd q2 (by decide)
          refine Ok.okN (by omega) (by decide) ?_
          refine Ok.ifE (fun q3 => ?_) (fun q3 => ?_)
          · exact set 0 (fun _ => ⟨hv, q3⟩) (fun y => absurd rfl y)
          · exact set 1 (fun y => absurd y (by decide)) (fun _ => ⟨rfl, Or.inr ⟨hv.1, q3⟩⟩)
        · have hv : mu13 M0 < mu13 M2 := by
            rcases hS.2 with ⟨y, _⟩ | ⟨_, y⟩
            · exact absurd y q2
            · exact y
          exact set 1 (fun y => absurd y (by decide)) (fun _ => ⟨rfl, Or.inl hv⟩)
      · rw [e12] at g2
        obtain ⟨_, _, _, p, p1, ⟨s, hs⟩, p3, _⟩ := hf
        have := (hR.rch i (by omega)).mpr ⟨by omega, s + 1, Or.inr ⟨p, by omega, hs, p3, fun z => z⟩⟩
        rw [this] at g2; cases g2
    · rw [e12] at g1
      have := (hR.rch a (by omega)).mpr ⟨by omega, hf.1⟩
      rw [this] at g1; cases g1
theorem q_phi31 {P : Int32 × Sto → Prop} {k : Int32 → Sto → Option (Int32 × Sto)} {G M0 : Sto} {B : Nat} (hP : PF G B) (hR : RRq G B) (hD : DN G B)
    (hk : ∀ v M, FJ G B M0 (∀ a, a < B → ∀ c, c < B → Clo G B M0 a c) v M → Ok P (k v M)) :
    ∀ n i v M, FJ G B M0 (∀ a, a < i → ∀ c, c < B → Clo G B M0 a c) v M → i ≤ B → B - i < n → Ok P (l_R_placePhis_31 k n v (nJ i) M) := by
  intro n
  have hB := hP.hB
  induction n with
  | zero => intro i v M _ h1 h2; omega
  | succ n ih =>
    intro i v M hS hi hn
    unfold l_R_placePhis_31
    rw [hS.1.fr.2 1 (by decide), hP.blk]
    refine Ok.leN (by omega) (by omega) (fun q => ?_) (fun q => ?_)
    · have : i = B := by omega
      subst this
      exact hk v M hS
    refine q_phi41 (M0 := M0) (F := ∀ a, a < i → ∀ c, c < B → Clo G B M0 a c) hP hR hD q (fun w M1 h1 => ?_) FU 0 v M ⟨hS.1, hS.2.elim (fun y => Or.inl ⟨y.1, y.2.1, y.2.2, fun c hc => by omega⟩) Or.inr⟩ (by omega) (by unfold FU; omega)
    unfold j_R_placePhis_132
    rw [nJ_succ (by omega)]
    refine ih (i + 1) w M1 ⟨h1.1, h1.2.elim (fun y => Or.inl ⟨y.1, y.2.1, fun a ha => ?_⟩) Or.inr⟩ (by omega) (by omega)
    by_cases z : a = i
    · rw [z]; exact y.2.2.2
    · exact y.2.2.1 a (by omega)
theorem q_phi23 {P : Int32 × Sto → Prop} {k : Sto → Option (Int32 × Sto)} {G : Sto} {B : Nat} (hP : PF G B) (hR : RRq G B) (hD : DN G B)
    (hk : ∀ M, PHJ G B M → (∀ a, a < B → ∀ c, c < B → Clo G B M a c) → Ok P (k M)) :
    ∀ (n : Nat) v M, PHJ G B M → ((v = 0 ∧ ∀ a, a < B → ∀ c, c < B → Clo G B M a c) ∨ v = 1) → 0 < n → (v = 1 → 101 - mu13 M < (n : Int)) → Ok P (l_R_placePhis_23 k n v M) := by
  intro n
  have hB := hP.hB
  induction n with
  | zero => intro v M _ _ h1 h2; omega
  | succ n ih =>
    intro v M hI hv _ hn
    unfold l_R_placePhis_23
    refine Ok.ifE (fun z => ?_) (fun q => ?_)
    · rcases hv with ⟨_, y⟩ | y
      · exact hk M hI y
      · rw [y] at z; exact absurd z (by decide)
    have hv1 : v = 1 := hv.elim (fun z => absurd z.1 q) (fun z => z)
    have h1 := hn hv1
    have h2 := mu13_le M
    refine q_phi31 (M0 := M) hP hR hD (fun w M1 g => ?_) FU 0 0 M ⟨hI, Or.inl ⟨rfl, rfl, fun a ha => by omega⟩⟩ (by omega) (by unfold FU; omega)
    unfold j_R_placePhis_138
    refine ih w M1 g.1 (g.2.elim (fun y => Or.inl ⟨y.1, by rw [y.2.1]; exact y.2.2⟩) (fun y => Or.inr y.1)) (by omega) (fun z => ?_)
    rcases g.2 with y | y
    · rw [y.1] at z; exact absurd z (by decide)
    · omega
theorem q_phi2 {P : Int32 × Sto → Prop} {k : Sto → Option (Int32 × Sto)} {G : Sto}
    (hk : ∀ M, Fr [13] [] G M → (∀ a, a < 10 → M 13 a = 0) → Ok P (k M)) :
    ∀ n c M, Fr [13] [] G M → (∀ a, a < c → M 13 a = 0) → c ≤ 10 → 10 - c < n → Ok P (l_R_placePhis_2 k n (nJ c) M) := by
  intro n
  induction n with
  | zero => intro c M _ _ h1 h2; omega
  | succ n ih =>
    intro c M hf h1 hc hn
    unfold l_R_placePhis_2
    refine Ok.leN (a := 10) (by omega) (by omega) (fun q => ?_) (fun q => ?_)
    · exact hk M hf (fun a ha => h1 a (by omega))
    refine Ok.okN (by omega) (by decide) ?_
    rw [nJ_tn (by omega), nJ_succ (by omega)]
    refine Ok.wr (fun M1 q1 => ?_)
    refine ih (c + 1) M1 (by rw [q1]; exact hf.up (by decide) (by decide)) (fun a ha => ?_) (by omega) (by omega)
    rw [q1, up2_at]
    by_cases z : a = c
    · rw [if_pos ⟨rfl, z⟩]
    · rw [if_neg (fun y => z y.2)]; exact h1 a (by omega)
theorem q_placePhis {G : Sto} {B : Nat} (hP : PF G B) (hR : RRq G B) (hD : DN G B) : Ok (fun a => Fr [13] [] G a.2 ∧ ∀ c, c < B → ∀ x, x < 32 → (bt (a.2 13 c) x = true ↔ PhS G B c x)) (m_R_placePhis G) := by
  unfold m_R_placePhis
  have hB := hP.hB
  refine q_phi2 (fun M hf hz => ?_) FU 0 G Fr.rfl (fun a ha => by omega) (by omega) (by unfold FU; omega)
  have hJ : PHJ G B M := ⟨hf, fun c hc x hx h => by rw [hz c hc, bt_zero] at h; cases h⟩
  unfold j_R_placePhis_21
  refine q_phi23 (k := j_R_placePhis_141) (P := fun a => Fr [13] [] G a.2 ∧ ∀ c, c < B → ∀ x, x < 32 → (bt (a.2 13 c) x = true ↔ PhS G B c x)) hP hR hD (fun M1 hI1 hC => ⟨(0, M1), rfl, hI1.fr, fun c hc x hx => ⟨fun h => (hI1.snd c (by omega) x hx h).1, fun h => ?_⟩⟩) FU 1 M hJ (Or.inr rfl) (by unfold FU; omega) (fun _ => ?_)
  · have := PhS.least (R := G) (B := B) (S := fun c v => c < B → v < 32 → bt (M1 13 c) v = true) (fun a c v ha hf hd hc hv => hC a ha c hc hf v hv (hd.elim Or.inl fun y => Or.inr (y ha hv))) h
    exact this hc hx
  · have h1 : 0 ≤ mu13 M := sm_ge 10 (fun b _ => cb_ge _)
    have := fu_le
    omega
end
section
theorem x_sets {α : Type} {P : α → Prop} {x : Int32} {M : Sto} {X Y : Int32 × Sto → Option α} (h1 : x ≠ 7 → Ok P (Y (1, M))) (h0 : x = 7 → Ok P (X (0, M))) :
    Ok P ((m_N_setsVariable x M).bind fun o => if o.1 = 0 then X o else Y o) := by
  unfold m_N_setsVariable
  by_cases h : x = 7
  · rw [if_pos h]; exact h0 h
  · rw [if_neg h]; exact h1 h
theorem x_fd22 {P : Int32 × Sto → Prop} {k : Int32 → Sto → Option (Int32 × Sto)} {G R : Sto} {B b l : Nat} (h : PR G R B) (hb : b < B) (hl : l ≤ 6) (hle : R 1 b = nJ l)
    (hk : ∀ X, (∀ k, k ≠ 19 → X k = G k) → (∀ a, a ≠ b → X 19 a = G 19 a) → (∀ v, v < 32 → (bt (X 19 b) v = true ↔ ∃ j, j < l ∧ R 2 (6 * b + j) ≠ 7 ∧ R 3 (6 * b + j) = nJ v)) → Ok P (k (nJ b) X)) :
    ∀ n i X, (∀ k, k ≠ 19 → X k = G k) → (∀ a, a ≠ b → X 19 a = G 19 a) → (∀ v, v < 32 → (bt (X 19 b) v = true ↔ ∃ j, j < i ∧ R 2 (6 * b + j) ≠ 7 ∧ R 3 (6 * b + j) = nJ v)) → i ≤ l → l - i < n → Ok P (l_G_findDefined_22 k n (nJ b) (nJ i) X) := by
  intro n
  have hB := h.pf.hB
  induction n with
  | zero => intro i X _ _ _ h1 h2; omega
  | succ n ih =>
    intro i X hf ho hv hi hn
    have hX : PR X R B := h.fx fun k hk => hf k (by omega)
    unfold l_G_findDefined_22
    refine Ok.okN (by omega) (by decide) ?_
    rw [nJ_tn (i := b) (by omega), nJ_tn (i := i) (by omega), hX.len b, hle]
    refine Ok.leN (by omega) (by omega) (fun q => ?_) (fun q => ?_)
    · have : i = l := by omega
      subst this
      exact hk X hf ho hv
    refine Ok.okN (by omega) (by decide) ?_
    refine Ok.okN (by omega) (by decide) ?_
    obtain ⟨w1, w2, _, _⟩ := hX.row b i (by omega) (by omega)
    rw [w1]
    unfold j_G_findDefined_75
    rw [nJ_succ (by omega)]
    refine x_sets (fun g => ?_) (fun g => ?_)
    · dsimp only
      refine Ok.okN (by omega) (by decide) ?_
      refine Ok.okN (by omega) (by decide) ?_
      refine Ok.okN (by omega) (by decide) ?_
      obtain ⟨d, d1, d2⟩ := h.pf.dst (6 * b + i) g
      rw [w2, d2]
      refine Ok.bindS (a := ((1 : Int32) <<< (nJ d &&& 31), X)) ?_
      dsimp only
      refine Ok.okN (by omega) (by decide) ?_
      refine Ok.wr (fun M4 q4 => ?_)
      refine ih (i + 1) M4 (fun k hk => by rw [q4, up2_ne _ _ _ hk]; exact hf k hk) (fun a ha => by rw [q4, up2_at, if_neg (fun z => ha z.2)]; exact ho a ha) (fun v hv' => ?_) (by omega) (by omega)
      rw [q4, up2_at, if_pos ⟨rfl, rfl⟩, bt_or, Bool.or_eq_true_iff, hv v hv', bt_shl (by omega) v hv']
      constructor
      · rintro (⟨j, j1, j2⟩ | y)
        · exact ⟨j, by omega, j2⟩
        · have := of_decide_eq_true y
          exact ⟨i, by omega, g, by rw [this]; exact d2⟩
      · rintro ⟨j, j1, j2, j3⟩
        by_cases z : j = i
        · rw [z] at j3
          exact Or.inr (decide_eq_true (nJ_inj (by omega) (by omega) (j3.symm.trans d2)))
        · exact Or.inl ⟨j, by omega, j2, j3⟩
    · dsimp only
      refine ih (i + 1) X hf ho (fun v hv' => ?_) (by omega) (by omega)
      rw [hv v hv']
      constructor
      · rintro ⟨j, j1, j2⟩; exact ⟨j, by omega, j2⟩
      · rintro ⟨j, j1, j2, j3⟩
        by_cases z : j = i
        · rw [z] at j2; exact absurd g j2
        · exact ⟨j, by omega, j2, j3⟩
theorem x_findDefined {G R : Sto} {B : Nat} (h : PR G R B) : Ok (fun a => (∀ k, k ≠ 19 → a.2 k = G k) ∧ ∀ b v, b < B → v < 32 → (bt (a.2 19 b) v = true ↔ Df R b v)) (m_G_findDefined G) := by
  have hB := h.pf.hB
  have loop : ∀ n i X, (∀ k, k ≠ 19 → X k = G k) → (∀ b v, b < i → v < 32 → (bt (X 19 b) v = true ↔ Df R b v)) → i ≤ B → B - i < n → Ok (fun a : Int32 × Sto => (∀ k, k ≠ 19 → a.2 k = G k) ∧ ∀ b v, b < B → v < 32 → (bt (a.2 19 b) v = true ↔ Df R b v)) (l_G_findDefined_2 j_G_findDefined_87 n (nJ i) X) := by
    intro n
    induction n with
    | zero => intro i X _ _ h1 h2; omega
    | succ n ih =>
      intro i X hf hv hi hn
      have hX : PR X R B := h.fx fun k hk => hf k (by omega)
      unfold l_G_findDefined_2
      rw [hX.blk]
      refine Ok.leN (by omega) (by omega) (fun q => ?_) (fun q => ?_)
      · exact ⟨(0, X), rfl, hf, fun b v hb => hv b v (by omega)⟩
      refine Ok.okN (by omega) (by decide) ?_
      rw [nJ_tn (by omega)]
      refine Ok.wr (fun M1 q1 => ?_)
      have f1 : ∀ k, k ≠ 19 → M1 k = G k := fun k hk => by rw [q1, up2_ne _ _ _ hk]; exact hf k hk
      obtain ⟨l, l1, l2⟩ := h.pf.len i (by omega)
      have hln : lenN R i = l := by unfold lenN; rw [l2, nJ_tn (by omega)]
      refine x_fd22 (G := M1) (h.fx fun k hk => f1 k (by omega)) q l1 l2 (fun X2 g1 g2 g3 => ?_) FU 0 M1 (fun _ _ => rfl) (fun _ _ => rfl) (fun v hv' => ?_) (by omega) (by unfold FU; omega)
      · unfold j_G_findDefined_81
        rw [nJ_succ (by omega)]
        refine ih (i + 1) X2 (fun k hk => by rw [g1 k hk]; exact f1 k hk) (fun b v hb hv' => ?_) (by omega) (by omega)
        by_cases z : b = i
        · rw [z, g3 v hv']; unfold Df; rw [hln]
        · rw [g2 b z, q1, up2_at, if_neg (fun y => z y.2)]; exact hv b v (by omega) hv'
      · rw [q1, up2_at, if_pos ⟨rfl, rfl⟩, bt_zero]
        constructor
        · intro y; cases y
        · rintro ⟨j, j1, _⟩; omega
  unfold m_G_findDefined
  exact loop FU 0 G (fun _ _ => rfl) (fun b v hb => by omega) (by omega) (by unfold FU; omega)
def mu18 (M : Sto) : Int := sm (fun c => cb (M 18 c)) 10
theorem mu18_le (M : Sto) : mu18 M ≤ 100 := sm_le 10 (fun b _ => cb_le _)
def PHX (G R : Sto) (B : Nat) (X : Sto) : Prop := (∀ k, k ≠ 18 → X k = G k) ∧ (∀ c, c < 10 → ∀ x, x < 32 → bt (X 18 c) x = true → PhS R B c x ∧ x < 6)
theorem PHX.fx {G R : Sto} {B : Nat} {X : Sto} (h : PHX G R B X) : ∀ k, k ≠ 18 → X k = G k := h.1
theorem PHX.snd {G R : Sto} {B : Nat} {X : Sto} (h : PHX G R B X) : ∀ c, c < 10 → ∀ x, x < 32 → bt (X 18 c) x = true → PhS R B c x ∧ x < 6 := h.2
def CloX (G X : Sto) (a c : Nat) : Prop := bt (G 15 a) c = true → ∀ x, x < 32 → (bt (G 19 a) x = true ∨ bt (X 18 a) x = true) → bt (X 18 c) x = true
def GF (G R : Sto) (B : Nat) : Prop := (PR G R B) ∧ (∀ b c, b < B → c < 32 → (bt (G 15 b) c = true ↔ Fro R B b c)) ∧ (∀ b v, b < B → v < 32 → (bt (G 19 b) v = true ↔ Df R b v))
theorem GF.pr {G R : Sto} {B : Nat} (h : GF G R B) : PR G R B := h.1
theorem GF.fro {G R : Sto} {B : Nat} (h : GF G R B) : ∀ b c, b < B → c < 32 → (bt (G 15 b) c = true ↔ Fro R B b c) := h.2.1
theorem GF.df {G R : Sto} {B : Nat} (h : GF G R B) : ∀ b v, b < B → v < 32 → (bt (G 19 b) v = true ↔ Df R b v) := h.2.2
theorem x_spread {G R X0 : Sto} {B a : Nat} (hG : GF G R B) (ha : a < B) (hX : PHX G R B X0) :
    Ok (fun r => PHX G R B r.2 ∧ mu18 X0 ≤ mu18 r.2 ∧ ((r.1 = 0 ∧ r.2 = X0 ∧ ∀ c, c < B → CloX G X0 a c) ∨ (r.1 = 1 ∧ mu18 X0 < mu18 r.2))) (m_G_spread (G 15 a) (G 19 a ||| X0 18 a) X0) := by
  have hB := hG.pr.pf.hB
  have loop : ∀ n i v X, PHX G R B X → (∀ c x, bt (X0 18 c) x = true → bt (X 18 c) x = true) → ((v = 0 ∧ X = X0 ∧ ∀ c, c < i → CloX G X0 a c) ∨ (v = 1 ∧ mu18 X0 < mu18 X)) → i ≤ B → B - i < n →
      Ok (fun r : Int32 × Sto => PHX G R B r.2 ∧ mu18 X0 ≤ mu18 r.2 ∧ ((r.1 = 0 ∧ r.2 = X0 ∧ ∀ c, c < B → CloX G X0 a c) ∨ (r.1 = 1 ∧ mu18 X0 < mu18 r.2))) (l_G_spread_5 j_G_spread_59 n (G 15 a) (G 19 a ||| X0 18 a) v (nJ i) X) := by
    intro n
    induction n with
    | zero => intro i v X _ _ _ h1 h2; omega
    | succ n ih =>
      intro i v X hI hm hv hi hn
      unfold l_G_spread_5
      rw [hI.fx 1 (by decide), hG.pr.blk]
      refine Ok.leN (by omega) (by omega) (fun q => ?_) (fun q => ?_)
      · unfold j_G_spread_59
        have : i = B := by omega
        subst this
        refine Ok.bzt (hv.elim (fun y => Or.inl y.1) fun y => Or.inr y.1) ⟨(v, X), rfl, hI, ?_, hv⟩
        rcases hv with ⟨_, y, _⟩ | ⟨_, y⟩
        · show mu18 X0 ≤ mu18 X
          rw [y]; exact Int.le_refl _
        · exact Int.le_of_lt y
      unfold j_G_spread_53
      rw [nJ_succ (by omega)]
      have skip : CloX G X0 a i → Ok (fun r : Int32 × Sto => PHX G R B r.2 ∧ mu18 X0 ≤ mu18 r.2 ∧ ((r.1 = 0 ∧ r.2 = X0 ∧ ∀ c, c < B → CloX G X0 a c) ∨ (r.1 = 1 ∧ mu18 X0 < mu18 r.2))) (l_G_spread_5 j_G_spread_59 n (G 15 a) (G 19 a ||| X0 18 a) v (nJ (i + 1)) X) := by
        intro hc
        refine ih (i + 1) v X hI hm (hv.elim (fun y => Or.inl ⟨y.1, y.2.1, fun c hc' => ?_⟩) Or.inr) (by omega) (by omega)
        by_cases z : c = i
        · rw [z]; exact hc
        · exact y.2.2 c (by omega)
      have go : ∀ w, w = v → (v = 1 ∨ CloX G X0 a i) → Ok (fun r : Int32 × Sto => PHX G R B r.2 ∧ mu18 X0 ≤ mu18 r.2 ∧ ((r.1 = 0 ∧ r.2 = X0 ∧ ∀ c, c < B → CloX G X0 a c) ∨ (r.1 = 1 ∧ mu18 X0 < mu18 r.2))) (l_G_spread_5 j_G_spread_59 n (G 15 a) (G 19 a ||| X0 18 a) w (nJ (i + 1)) X) := by
        intro w hw hh
        rw [hw]
        rcases hh with y | y
        · refine ih (i + 1) v X hI hm (Or.inr ?_) (by omega) (by omega)
          rcases hv with ⟨z, _⟩ | z
          · rw [y] at z; exact absurd z (by decide)
          · exact z
        · exact skip y
      refine Ok.holds (by omega) (fun g => ?_) (fun g => skip fun z => by rw [g] at z; cases z)
      dsimp only
      refine Ok.okN (by omega) (by decide) ?_
      rw [nJ_tn (by omega)]
      have hf : Fro R B a i := (hG.fro a i ha (by omega)).mp g
      refine Ok.ifE (fun z => ?_) (fun z => ?_)
      · refine go v rfl ?_
        by_cases v1 : v = 1
        · exact Or.inl v1
        · refine Or.inr fun _ x hx hdx => ?_
          have hX0 : X = X0 := hv.elim (fun y => y.2.1) fun y => absurd y.1 v1
          have := (and_zero _ _).mp z x hx (by rw [bt_or, Bool.or_eq_true_iff]; exact hdx)
          rw [bt_not _ hx, hX0] at this
          simpa using this
      · refine Ok.okN (by omega) (by decide) ?_
        refine Ok.okN (by omega) (by decide) ?_
        refine Ok.wr (fun M2 q2 => ?_)
        have ei : M2 18 i = X 18 i ||| (G 19 a ||| X0 18 a) := by rw [q2, up2_at, if_pos ⟨rfl, rfl⟩]
        have eo : ∀ c, c ≠ i → M2 18 c = X 18 c := fun c hc => by rw [q2, up2_at, if_neg (fun y => hc y.2)]
        have bits : ∀ x, x < 32 → bt (G 19 a ||| X0 18 a) x = true → PhS R B i x ∧ x < 6 := fun x hx hb => by
          rw [bt_or] at hb
          rcases Bool.or_eq_true_iff.mp hb with y | y
          · have hd := (hG.df a x ha hx).mp y
            exact ⟨PhS.step ha hf (Or.inl hd), Df.lt hG.pr.pf (by omega) (by omega) hd⟩
          · obtain ⟨w1, w2⟩ := hX.snd a (by omega) x hx y
            exact ⟨PhS.step ha hf (Or.inr w1), w2⟩
        have mono : ∀ c x, bt (X 18 c) x = true → bt (M2 18 c) x = true := fun c x hx => by
          by_cases y : c = i
          · rw [y] at hx ⊢; rw [ei, bt_or, hx]; rfl
          · rw [eo c y]; exact hx
        have hex : ∃ j, j < 32 ∧ bt (G 19 a ||| X0 18 a) j = true ∧ bt (X 18 i) j = false := by
          apply Classical.byContradiction
          intro hno
          refine z ((and_zero _ _).mpr fun x hx hb => ?_)
          rw [bt_not _ hx]
          cases hh : bt (X 18 i) x with
          | true => rfl
          | false => exact (hno ⟨x, hx, hb, hh⟩).elim
        obtain ⟨j, j1, j2, j3⟩ := hex
        have j6 := (bits j j1 j2).2
        have hlt : mu18 X < mu18 M2 := sm_more (j := i) (cb_more (j := j) (by omega) j3 (by rw [ei, bt_or, j2]; exact Bool.or_true _) fun x _ hx => mono i x hx) 10 (by omega) fun c _ => cb_mono fun x _ hx => mono c x hx
        have hle : mu18 X0 ≤ mu18 X := sm_mono 10 fun c _ => cb_mono fun x _ hx => hm c x hx
        refine ih (i + 1) 1 M2 ⟨fun k hk => by rw [q2, up2_ne _ _ _ hk]; exact hI.fx k hk, fun c hc x hx hb => ?_⟩ (fun c x hx => mono c x (hm c x hx)) (Or.inr ⟨rfl, by omega⟩) (by omega) (by omega)
        by_cases y : c = i
        · rw [y, ei, bt_or] at hb
          rw [y]
          rcases Bool.or_eq_true_iff.mp hb with w | w
          · exact hI.snd i (by omega) x hx w
          · exact bits x hx w
        · rw [eo c y] at hb; exact hI.snd c hc x hx hb
  unfold m_G_spread
  exact loop FU 0 0 X0 hX (fun _ _ h => h) (Or.inl ⟨rfl, rfl, fun c hc => by omega⟩) (by omega) (by unfold FU; omega)
theorem x_pp27 {P : Int32 × Sto → Prop} {k : Int32 → Int32 → Sto → Option (Int32 × Sto)} {G R X0 : Sto} {B : Nat} {v2 : Int32} (hG : GF G R B)
    (hk : ∀ v X, PHX G R B X → ((v = 0 ∧ X = X0 ∧ ∀ a, a < B → ∀ c, c < B → CloX G X0 a c) ∨ (v = 1 ∧ mu18 X0 < mu18 X)) → Ok P (k v v2 X)) :
    ∀ n i v X, PHX G R B X → ((v = 0 ∧ X = X0 ∧ ∀ a, a < i → ∀ c, c < B → CloX G X0 a c) ∨ (v = 1 ∧ mu18 X0 < mu18 X)) → i ≤ B → B - i < n → Ok P (l_G_placePhis_27 k n v v2 (nJ i) X) := by
  intro n
  have hB := hG.pr.pf.hB
  induction n with
  | zero => intro i v X _ _ h1 h2; omega
  | succ n ih =>
    intro i v X hI hv hi hn
    unfold l_G_placePhis_27
    rw [hI.fx 1 (by decide), hG.pr.blk]
    refine Ok.leN (by omega) (by omega) (fun q => ?_) (fun q => ?_)
    · have : i = B := by omega
      subst this
      exact hk v X hI hv
    refine Ok.okN (by omega) (by decide) ?_
    refine Ok.okN (by omega) (by decide) ?_
    refine Ok.okN (by omega) (by decide) ?_
    rw [nJ_tn (by omega), hI.fx 15 (by decide), hI.fx 19 (by decide)]
    unfold j_G_placePhis_69
    rw [nJ_succ (by omega)]
    refine Ok.bind (x_spread hG q hI) (fun r M2 h2 => ?_)
    dsimp only at h2 ⊢
    obtain ⟨g1, g2, g3⟩ := h2
    refine Ok.ifE (fun z => ?_) (fun z => ?_)
    · obtain ⟨_, y1, y2⟩ := g3.elim (fun y => y) fun y => by rw [y.1] at z; exact absurd z (by decide)
      refine ih (i + 1) v M2 g1 ?_ (by omega) (by omega)
      rcases hv with ⟨w1, w2, w3⟩ | ⟨w1, w2⟩
      · refine Or.inl ⟨w1, y1.trans w2, fun a ha => ?_⟩
        by_cases u : a = i
        · rw [u, ← w2]; exact y2
        · exact w3 a (by omega)
      · exact Or.inr ⟨w1, by rw [y1]; exact w2⟩
    · refine ih (i + 1) 1 M2 g1 (Or.inr ⟨rfl, ?_⟩) (by omega) (by omega)
      have hlt : mu18 X < mu18 M2 := g3.elim (fun y => absurd y.1 z) fun y => y.2
      rcases hv with ⟨_, w2, _⟩ | ⟨_, w2⟩
      · rw [← w2]; exact hlt
      · omega
theorem x_placePhis {G R : Sto} {B : Nat} (hG : GF G R B) : Ok (fun a => (∀ k, k ≠ 18 → a.2 k = G k) ∧ ∀ c, c < B → ∀ x, x < 32 → (bt (a.2 18 c) x = true ↔ PhS R B c x)) (m_G_placePhis G) := by
  have hB := hG.pr.pf.hB
  have loop : ∀ (n rd : Nat) v X, PHX G R B X → ((v = 0 ∧ ∀ a, a < B → ∀ c, c < B → CloX G X a c) ∨ (v = 1 ∧ (rd : Int) ≤ mu18 X)) → rd ≤ 101 → 102 - rd < n → Ok (fun a : Int32 × Sto => (∀ k, k ≠ 18 → a.2 k = G k) ∧ ∀ c, c < B → ∀ x, x < 32 → (bt (a.2 18 c) x = true ↔ PhS R B c x)) (l_G_placePhis_12 j_G_placePhis_81 n v (nJ rd) X) := by
    intro n
    induction n with
    | zero => intro rd v X _ _ h1 h2; omega
    | succ n ih =>
      intro rd v X hI hv hr hn
      have hle := mu18_le X
      unfold l_G_placePhis_12
      refine Ok.ifE (fun z => ?_) (fun z => ?_)
      · have hC := hv.elim (fun y => y.2) fun y => by rw [y.1] at z; exact absurd z (by decide)
        refine ⟨(0, X), rfl, hI.fx, fun c hc x hx => ⟨fun h => (hI.snd c (by omega) x hx h).1, fun h => ?_⟩⟩
        have := PhS.least (R := R) (B := B) (S := fun c v => c < B → v < 32 → bt (X 18 c) v = true) (fun a c v ha hf hd hc hv' => hC a ha c hc ((hG.fro a c ha (by omega)).mpr hf) v hv' (hd.elim (fun y => Or.inl ((hG.df a v ha hv').mpr y)) fun y => Or.inr (y ha hv'))) h
        exact this hc hx
      · obtain ⟨v1, hm⟩ := hv.elim (fun y => absurd y.1 z) fun y => y
        refine Ok.leN (a := 1000) (by omega) (by omega) (fun q => by omega) (fun q => ?_)
        refine x_pp27 (X0 := X) hG (fun w X2 g1 g2 => ?_) FU 0 0 X hI (Or.inl ⟨rfl, rfl, fun a ha => by omega⟩) (by omega) (by unfold FU; omega)
        unfold j_G_placePhis_75
        rw [nJ_succ (by omega)]
        refine ih (rd + 1) w X2 g1 (g2.elim (fun y => Or.inl ⟨y.1, by rw [y.2.1]; exact y.2.2⟩) fun y => Or.inr ⟨y.1, by have := y.2; omega⟩) (by omega) (by omega)
  unfold m_G_placePhis
  refine Ok.wr (fun M1 q1 => ?_)
  have hz : ∀ c, c < 10 → M1 18 c = 0 := fun c hc => by rw [q1, fillA_at, if_pos ⟨rfl, hc⟩]
  refine loop FU 0 1 M1 ⟨fun k hk => by rw [q1, fillA_ne _ _ _ hk], fun c hc x hx h => by rw [hz c hc, bt_zero] at h; cases h⟩ (Or.inr ⟨rfl, ?_⟩) (by omega) (by unfold FU; omega)
  exact sm_ge 10 (fun b _ => cb_ge _)
end
section
abbrev StT : Type := Nat × (Nat → Nat)
def psh (par : Nat → Int32) (b : Nat) : Nat → StT → StT
  | 0, s => s
  | m + 1, s => psh par b m (if par (m + 1) = nJ b then (s.1 + 1, fun i => if i = s.1 then m + 1 else s.2 i) else s)
def stS (par : Nat → Int32) (B : Nat) (s : StT) : StT := if s.1 = 0 then s else psh par (s.2 (s.1 - 1)) (B - 1) (s.1 - 1, s.2)
def stN (par : Nat → Int32) (B : Nat) : Nat → StT
  | 0 => (1, fun _ => 0)
  | k + 1 => stS par B (stN par B k)
def topN (par : Nat → Int32) (B k : Nat) : Nat := (stN par B k).2 ((stN par B k).1 - 1)
def AX (stk : Nat → Int32) (s : StT) : Prop := ∀ i, i < s.1 → stk i = nJ (s.2 i)
theorem AX.push {stk : Nat → Int32} {s : StT} {c : Nat} (h : AX stk s) : AX (upd stk s.1 (nJ c)) (s.1 + 1, fun i => if i = s.1 then c else s.2 i) := by
  intro i hi
  have hi : i < s.1 + 1 := hi
  rw [upd_at]
  show _ = nJ (if i = s.1 then c else s.2 i)
  by_cases z : i = s.1
  · rw [if_pos z, if_pos z]
  · rw [if_neg z, if_neg z]; exact h i (by omega)
theorem psh_congr {par par' : Nat → Int32} {B : Nat} (h : ∀ c, c < B → par' c = par c) (b : Nat) : ∀ m s, m < B → psh par' b m s = psh par b m s
  | 0, _, _ => rfl
  | m + 1, s, hm => by
    show psh par' b m _ = psh par b m _
    rw [h (m + 1) hm, psh_congr h b m _ (by omega)]
theorem stN_congr {par par' : Nat → Int32} {B : Nat} (h0 : 0 < B) (h : ∀ c, c < B → par' c = par c) : ∀ k, stN par' B k = stN par B k
  | 0 => rfl
  | k + 1 => by
    show stS par' B (stN par' B k) = stS par B (stN par B k)
    rw [stN_congr h0 h k]
    unfold stS
    rw [psh_congr h _ _ _ (by omega)]
theorem cnt_leB {f : Nat → Int32} {B : Nat} : ∀ n, (∀ c, c < n → f c ≠ 0 → c < B) → cnt f n ≤ (B : Int)
  | 0, _ => by unfold cnt; omega
  | n + 1, h => by
    by_cases z : f n = 0
    · have := cnt_leB n (fun c hc => h c (by omega))
      unfold cnt
      rw [if_pos z]; omega
    · have h1 := h n (by omega) z
      have := cnt_le f n
      unfold cnt
      rw [if_neg z]; omega
def OX (G : Sto) (B od : Nat) (S : Nat → Int32) (Q : Nat → Prop) (s : StT) (X : Sto) : Prop := (∀ k, k ≠ 2 → k ≠ 16 → k ≠ 17 → X k = G k) ∧ (X 2 1 = G 2 1) ∧ (X 2 7 = nJ od) ∧ (AX (X 17) s) ∧ (Wk (fun c => c ≠ 0 ∧ c < B) (G 14) (X 17) s.1 od S Q) ∧ (∀ c, Q c → S c ≠ 0) ∧ (∀ j, j < od → X 16 j = nJ (topN (G 14) B j))
theorem OX.fx {G : Sto} {B od : Nat} {S : Nat → Int32} {Q : Nat → Prop} {s : StT} {X : Sto} (h : OX G B od S Q s X) : ∀ k, k ≠ 2 → k ≠ 16 → k ≠ 17 → X k = G k := h.1
theorem OX.x21 {G : Sto} {B od : Nat} {S : Nat → Int32} {Q : Nat → Prop} {s : StT} {X : Sto} (h : OX G B od S Q s X) : X 2 1 = G 2 1 := h.2.1
theorem OX.x27 {G : Sto} {B od : Nat} {S : Nat → Int32} {Q : Nat → Prop} {s : StT} {X : Sto} (h : OX G B od S Q s X) : X 2 7 = nJ od := h.2.2.1
theorem OX.ax {G : Sto} {B od : Nat} {S : Nat → Int32} {Q : Nat → Prop} {s : StT} {X : Sto} (h : OX G B od S Q s X) : AX (X 17) s := h.2.2.2.1
theorem OX.wk {G : Sto} {B od : Nat} {S : Nat → Int32} {Q : Nat → Prop} {s : StT} {X : Sto} (h : OX G B od S Q s X) : Wk (fun c => c ≠ 0 ∧ c < B) (G 14) (X 17) s.1 od S Q := h.2.2.2.2.1
theorem OX.hq {G : Sto} {B od : Nat} {S : Nat → Int32} {Q : Nat → Prop} {s : StT} {X : Sto} (h : OX G B od S Q s X) : ∀ c, Q c → S c ≠ 0 := h.2.2.2.2.2.1
theorem OX.ord {G : Sto} {B od : Nat} {S : Nat → Int32} {Q : Nat → Prop} {s : StT} {X : Sto} (h : OX G B od S Q s X) : ∀ j, j < od → X 16 j = nJ (topN (G 14) B j) := h.2.2.2.2.2.2
theorem x_ord72 {P : Int32 × Sto → Prop} {k : Int32 → Int32 → Sto → Option (Int32 × Sto)} {v2 : Int32} {G : Sto} {B b od : Nat} {Q : Nat → Prop} {s0 : StT} (hB : B ≤ 10) (hQ : Q b) (hb : b < 10)
    (hk : ∀ S X, OX G B od S Q s0 X → WkO (fun c => c ≠ 0 ∧ c < B) (G 14) S Q → Ok P (k (nJ s0.1) v2 X)) :
    ∀ n m s S X, OX G B od S Q s X → psh (G 14) b m s = s0 → WkI (fun c => c ≠ 0 ∧ c < B) (G 14) S Q b m → m < B → m < n → Ok P (l_S_putInOrder_72 k n (nJ s.1) v2 (nJ b) (nJ m) X) := by
  intro n
  induction n with
  | zero => intro m s S X _ _ _ _ h; omega
  | succ n ih =>
    intro m s S X hO hs hi hm hn
    have hod := hO.wk.od
    have e14 : X 14 = G 14 := hO.fx 14 (by decide) (by decide) (by decide)
    unfold l_S_putInOrder_72
    refine Ok.leN (b := 0) (by omega) (by omega) (fun q => ?_) (fun q => ?_)
    · have : m = 0 := by omega
      subst this
      have hs : s = s0 := hs
      subst hs
      exact hk S X hO (hi.done fun z => z.1 rfl)
    refine Ok.okN (by omega) (by decide) ?_
    obtain ⟨m, rfl⟩ : ∃ j, m = j + 1 := ⟨m - 1, by omega⟩
    have hpr : nJ (m + 1) + (-1) = nJ m := by rw [nJ_pred (by omega) (by omega)]; rfl
    rw [nJ_tn (i := m + 1) (by omega), e14]
    have hs : psh (G 14) b m (if G 14 (m + 1) = nJ b then (s.1 + 1, fun i => if i = s.1 then m + 1 else s.2 i) else s) = s0 := hs
    refine Ok.ifE (fun q2 => ?_) (fun q2 => ?_)
    · rw [if_pos q2] at hs
      obtain ⟨g1, g2, g3⟩ := hO.wk.push hi ⟨by omega, hm⟩ q2 hQ hb (by omega) hO.hq
      refine Ok.okN (by omega) (by decide) ?_
      rw [nJ_tn (by omega)]
      refine Ok.wr (fun M5 q5 => ?_)
      unfold j_S_putInOrder_99
      rw [hpr, nJ_succ (by omega)]
      have e17 : M5 17 = upd (X 17) s.1 (nJ (m + 1)) := by rw [q5, up2_self]
      refine ih m (s.1 + 1, fun i => if i = s.1 then m + 1 else s.2 i) (upd S (m + 1) 1) M5 ⟨fun k h1 h2 h3 => by rw [q5, up2_ne _ _ _ h3]; exact hO.fx k h1 h2 h3, by rw [q5, up2_ne _ _ _ (by decide)]; exact hO.x21, by rw [q5, up2_ne _ _ _ (by decide)]; exact hO.x27, by rw [e17]; exact hO.ax.push, by rw [e17]; exact g2, fun c hc => ?_, by rw [q5, up2_ne _ _ _ (by decide)]; exact hO.ord⟩ hs g3 (by omega) (by omega)
      rw [upd_at]
      by_cases z : c = m + 1
      · rw [if_pos z]; decide
      · rw [if_neg z]; exact hO.hq c hc
    · rw [if_neg q2] at hs
      unfold j_S_putInOrder_99
      rw [hpr]
      exact ih m s S X hO hs (hi.skip fun z => q2 z.2) (by omega) (by omega)
theorem x_ord16 {P : Int32 × Sto → Prop} {k : Sto → Option (Int32 × Sto)} {G : Sto} {B : Nat} (hB : B ≤ 10) (h0 : 0 < B) (hb1 : G 1 0 = nJ B)
    (hk : ∀ K S Q X, OX G B K S Q (stN (G 14) B K) X → (stN (G 14) B K).1 = 0 → (∀ j, j < K → 0 < (stN (G 14) B j).1) → K ≤ B → Ok P (k X)) :
    ∀ n od S Q X, OX G B od S Q (stN (G 14) B od) X → WkO (fun c => c ≠ 0 ∧ c < B) (G 14) S Q → (∀ j, j < od → 0 < (stN (G 14) B j).1) → od ≤ B → 11 - od ≤ n → Ok P (l_S_putInOrder_16 k n (nJ (stN (G 14) B od).1) (nJ od) X) := by
  intro n
  induction n with
  | zero => intro od S Q X _ _ _ h1 h2; omega
  | succ n ih =>
    intro od S Q X hO hwo hpos hodB hn
    have hod := hO.wk.od
    have hcB : cnt S 10 ≤ (B : Int) := cnt_leB 10 fun c hc hs => by
      by_cases z : c = 0
      · omega
      · exact (hO.wk.2.2.2.1 c hc z hs).1.2
    have hc1 := hO.wk.1
    unfold l_S_putInOrder_16
    rw [hO.fx 1 (by decide) (by decide) (by decide), hb1]
    refine Ok.leN (by omega) (by omega) (fun q => ?_) (fun q => ?_)
    · exact hk od S Q X hO (by omega) hpos hodB
    refine Ok.leN (b := 0) (by omega) (by omega) (fun q2 => hk od S Q X hO (by omega) hpos hodB) (fun q2 => ?_)
    obtain ⟨v, hv⟩ : ∃ v, (stN (G 14) B od).1 = v + 1 := ⟨(stN (G 14) B od).1 - 1, by omega⟩
    have hpr : nJ (v + 1) + (-1) = nJ v := by rw [nJ_pred (by omega) (by omega)]; rfl
    have htop : X 17 v = nJ (topN (G 14) B od) := by
      rw [hO.ax v (by omega)]
      unfold topN
      rw [hv]; rfl
    have hst : stN (G 14) B (od + 1) = psh (G 14) (topN (G 14) B od) (B - 1) (v, (stN (G 14) B od).2) := by
      show stS (G 14) B (stN (G 14) B od) = _
      unfold stS topN
      rw [if_neg (by omega), hv]; rfl
    rw [hv, hpr, hO.x27, nJ_tn (i := v) (by omega), nJ_tn (i := od) (by omega)]
    refine Ok.okN (by omega) (by decide) ?_
    refine Ok.okN (by omega) (by decide) ?_
    obtain ⟨b, b1, b2, b3, b4⟩ := hO.wk.2.1 v (by omega)
    have hbt : nJ b = nJ (topN (G 14) B od) := b2.symm.trans htop
    rw [b2]
    refine Ok.wr (fun M3 q3 => ?_)
    have o3 : M3 2 7 = nJ od := by rw [q3, up2_ne _ _ _ (by decide)]; exact hO.x27
    rw [o3, nJ_succ (by omega)]
    refine Ok.wr (fun M4 q4 => ?_)
    have e1 : M4 1 0 = nJ B := by rw [q4, up2_ne _ _ _ (by decide), q3, up2_ne _ _ _ (by decide), hO.fx 1 (by decide) (by decide) (by decide)]; exact hb1
    have hB1 : nJ B - 1 = nJ (B - 1) := by
      apply Int32.toInt_inj.mp
      have n1 : (1 : Int32).toInt = 1 := rfl
      have h1 := nJ_int (i := B) (by omega)
      rw [subI (by omega) (by omega), nJ_int (i := B - 1) (by omega)]; omega
    rw [e1, hB1]
    have wk1 : Wk (fun c => c ≠ 0 ∧ c < B) (G 14) (X 17) (v + 1) od S Q := by rw [← hv]; exact hO.wk
    obtain ⟨w1, w2⟩ := wk1.pop hwo b2 b1
    have e17 : M4 17 = X 17 := by rw [q4, up2_ne _ _ _ (by decide), q3, up2_ne _ _ _ (by decide)]
    have hbe : ∀ m s, psh (G 14) (topN (G 14) B od) m s = psh (G 14) b m s := by
      intro m
      induction m with
      | zero => intro s; rfl
      | succ m ihm =>
        intro s
        show psh (G 14) (topN (G 14) B od) m _ = psh (G 14) b m _
        rw [ihm, ← hbt]
    refine x_ord72 (od := od + 1) (Q := fun c => Q c ∨ c = b) (s0 := stN (G 14) B (od + 1)) hB (Or.inr rfl) b1 (fun S' X' hO' hw' => ?_) FU (B - 1) (v, (stN (G 14) B od).2) S M4 ⟨fun k h1 h2 h3 => by rw [q4, up2_ne _ _ _ h1, q3, up2_ne _ _ _ h2]; exact hO.fx k h1 h2 h3, ?_, ?_, ?_, ?_, fun c hc => hc.elim (hO.hq c) (fun z => z ▸ b3), ?_⟩ (by rw [hst, hbe]) ((w2 9 rfl).down (fun c hc => by have := hc.2; omega) (by omega)) (by omega) (by unfold FU; omega)
    · unfold j_S_putInOrder_105
      rw [nJ_succ (by omega)]
      exact ih (od + 1) S' _ X' hO' hw' (fun j hj => by
        by_cases z : j = od
        · rw [z]; omega
        · exact hpos j (by omega)) (by omega) (by omega)
    · rw [q4, up2_at, if_neg (fun z => absurd z.2 (by decide)), q3, up2_ne _ _ _ (by decide)]; exact hO.x21
    · rw [q4, up2_at, if_pos ⟨rfl, rfl⟩]
    · rw [e17]
      intro i hi
      have hi : i < v := hi
      exact hO.ax i (by omega)
    · rw [e17]; exact w1
    · intro j hj
      rw [q4, up2_ne _ _ _ (by decide), q3, up2_at]
      by_cases z : j = od
      · rw [if_pos ⟨rfl, z⟩, z]; exact hbt
      · rw [if_neg (fun y => z y.2)]; exact hO.ord j (by omega)
def OD (par : Nat → Int32) (B K : Nat) : Prop := (K ≤ B) ∧ ((stN par B K).1 = 0) ∧ (∀ j, j < K → 0 < (stN par B j).1)
theorem OD.le {par : Nat → Int32} {B K : Nat} (h : OD par B K) : K ≤ B := h.1
theorem OD.z {par : Nat → Int32} {B K : Nat} (h : OD par B K) : (stN par B K).1 = 0 := h.2.1
theorem OD.pos {par : Nat → Int32} {B K : Nat} (h : OD par B K) : ∀ j, j < K → 0 < (stN par B j).1 := h.2.2
theorem OD.uniq {par : Nat → Int32} {B K L : Nat} (h1 : OD par B K) (h2 : OD par B L) : K = L := by
  have a := h1.z
  have b := h2.z
  by_cases z : K < L
  · have := h2.pos K z; omega
  · by_cases y : L < K
    · have := h1.pos L y; omega
    · omega
theorem x_putInOrder {G : Sto} {B : Nat} (hB : B ≤ 10) (h0 : 0 < B) (hb1 : G 1 0 = nJ B) :
    Ok (fun a => (∀ k, k ≠ 2 → k ≠ 16 → k ≠ 17 → a.2 k = G k) ∧ a.2 2 1 = G 2 1 ∧ ∃ K, OD (G 14) B K ∧ a.2 2 7 = nJ K ∧ ∀ j, j < K → a.2 16 j = nJ (topN (G 14) B j)) (m_S_putInOrder G) := by
  unfold m_S_putInOrder
  refine Ok.wr (fun M1 q1 => ?_)
  refine Ok.okN (i := 0) (by omega) (by decide) ?_
  refine Ok.wr (fun M2 q2 => ?_)
  have e17 : M2 17 0 = 0 := by rw [q2, up2_at, if_pos ⟨rfl, rfl⟩]
  refine x_ord16 (G := G) hB h0 hb1 (fun K S Q X hO hz hp hK => ⟨(0, X), rfl, hO.fx, hO.x21, K, ⟨hK, hz, hp⟩, hO.x27, hO.ord⟩) FU 0 (fun c => if c = 0 then 1 else 0) (fun _ => False) M2 ⟨fun k h1 h2 h3 => by rw [q2, up2_ne _ _ _ h3, q1, up2_ne _ _ _ h1], ?_, ?_, ?_, Wk.start e17, fun c q => q.elim, fun j hj => by omega⟩ WkO.start (fun j hj => by omega) (by omega) (by unfold FU; omega)
  · rw [q2, up2_ne _ _ _ (by decide), q1, up2_at, if_neg (fun z => absurd z.2 (by decide))]
  · rw [q2, up2_ne _ _ _ (by decide), q1, up2_at, if_pos ⟨rfl, rfl⟩]; rfl
  · intro i hi
    have hi : i < 1 := hi
    rw [show i = 0 by omega, e17]; rfl
theorem x_survey {G R : Sto} {B : Nat} (h : PR G R B) (h0 : 0 < B) : Ok (fun a => PR a.2 R B ∧ SW a.2 R B ∧ ∃ K, OD (a.2 14) B K ∧ a.2 2 7 = nJ K ∧ ∀ j, j < K → a.2 16 j = nJ (topN (a.2 14) B j)) (m_S_survey G) := by
  have hB := h.pf.hB
  unfold m_S_survey
  refine Ok.bind (x_comeBy (v1 := 0) h h0) (fun r1 M1 h1 => ?_)
  dsimp only at h1 ⊢
  obtain ⟨e1, g1⟩ := h1
  subst e1
  refine Ok.wr (fun M2 q2 => ?_)
  have p2 : PR M2 R B := h.fx fun k hk => by rw [q2, up2_ne _ _ _ (by omega)]
  have e21 : M2 2 1 = r1 := by rw [q2, up2_at, if_pos ⟨rfl, rfl⟩]
  have ev : ∀ s c, lev (Ed R B) (fun x => bt 0 x = true) s c ↔ lev (Ed R B) (fun _ => False) s c := by
    have : (fun x => bt 0 x = true) = fun _ : Nat => False := by
      funext x
      rw [bt_zero]
      simp
    intro s c
    rw [this]
  refine x_sv11 p2 h0 (fun c hc => ?_) (fun X3 f3 s3 => ?_) FU 0 M2 (fun _ _ _ => rfl) (fun c p hc => by omega) (fun b c hb => by omega) (by omega) (by unfold FU; omega)
  · rw [e21, g1 c hc]
    unfold Rch
    simp only [ev]
  · unfold j_S_survey_75
    have p3 : PR X3 R B := p2.fx fun k hk => f3 k (by omega) (by omega)
    refine x_sv77 p3 h0 s3 (fun X4 f4 s4 => ?_) FU 0 X3 (fun _ _ _ => rfl) (fun c hc => by omega) (fun c hc => by omega) (fun b c hb => by omega) (by omega) (by unfold FU; omega)
    have p4 : PR X4 R B := p3.fx fun k hk => f4 k (by omega) (by omega)
    unfold j_S_survey_116
    refine Ok.bind (x_putInOrder hB h0 p4.blk) (fun r5 M5 h5 => ?_)
    dsimp only at h5
    obtain ⟨f5, e5, K, k1, k2, k3⟩ := h5
    have e14 : M5 14 = X4 14 := f5 14 (by decide) (by decide) (by decide)
    refine ⟨(0, M5), rfl, p4.fx fun k hk => f5 k (by omega) (by omega) (by omega), ⟨?_, ?_, ?_, ?_⟩, K, by show OD (M5 14) B K; rw [e14]; exact k1, k2, by show ∀ j, j < K → M5 16 j = nJ (topN (M5 14) B j); rw [e14]; exact k3⟩
    · exact s4.sv.fx e5 (f5 12 (by decide) (by decide) (by decide)) (f5 13 (by decide) (by decide) (by decide))
    · show ∀ c, c < B → (c = 0 ∨ bt (M5 2 1) c = false) → M5 14 c = -1
      rw [e5, e14]; exact s4.non
    · show ∀ c, c < B → c ≠ 0 → bt (M5 2 1) c = true → ∃ p, p < B ∧ M5 14 c = nJ p ∧ IDom (Ed R B) c p
      rw [e5, e14]; exact s4.par
    · show ∀ b c, b < B → c < 32 → (bt (M5 15 b) c = true ↔ Fro R B b c)
      rw [f5 15 (by decide) (by decide) (by decide)]; exact s4.fro
end
section
def phC (m : Int32) : Nat → Nat
  | 0 => 0
  | v + 1 => phC m v + (if bt m v then 1 else 0)
def stC (R : Sto) (b : Nat) : Nat → Nat
  | 0 => 0
  | i + 1 => stC R b i + (if R 2 (6 * b + i) = 7 then 0 else 1)
def cu (R : Sto) (b N0 : Nat) (m : Int32) (s : Nat → Nat) : Nat → Nat → Nat
  | 0, v => if bt m v then N0 + phC m v else s v
  | i + 1, v => if R 2 (6 * b + i) ≠ 7 ∧ R 3 (6 * b + i) = nJ v then N0 + phC m 6 + stC R b i else cu R b N0 m s i v
theorem phC_le (m : Int32) : ∀ v, phC m v ≤ v
  | 0 => Nat.le_refl 0
  | v + 1 => by
    have := phC_le m v
    unfold phC
    by_cases h : bt m v = true
    · rw [if_pos h]; omega
    · rw [if_neg h]; omega
theorem phC_mono (m : Int32) : ∀ {v w : Nat}, w ≤ v → phC m w ≤ phC m v
  | 0, w, h => by rw [show w = 0 by omega]; exact Nat.le_refl _
  | v + 1, w, h => by
    by_cases z : w = v + 1
    · rw [z]; exact Nat.le_refl _
    · have := phC_mono m (v := v) (w := w) (by omega)
      show phC m w ≤ phC m v + _
      omega
theorem phC_lt (m : Int32) {v w : Nat} (h : w < v) (hb : bt m w = true) : phC m w < phC m v := by
  have h1 : phC m (w + 1) = phC m w + 1 := by
    show phC m w + (if bt m w then 1 else 0) = _
    rw [if_pos hb]
  have := phC_mono m (v := v) (w := w + 1) (by omega)
  omega
theorem stC_le (R : Sto) (b : Nat) : ∀ i, stC R b i ≤ i
  | 0 => Nat.le_refl 0
  | i + 1 => by
    have := stC_le R b i
    unfold stC
    by_cases h : R 2 (6 * b + i) = 7
    · rw [if_pos h]; omega
    · rw [if_neg h]; omega
theorem stC_mono (R : Sto) (b : Nat) : ∀ {v w : Nat}, w ≤ v → stC R b w ≤ stC R b v
  | 0, w, h => by rw [show w = 0 by omega]; exact Nat.le_refl _
  | v + 1, w, h => by
    by_cases z : w = v + 1
    · rw [z]; exact Nat.le_refl _
    · have := stC_mono R b (v := v) (w := w) (by omega)
      show stC R b w ≤ stC R b v + _
      omega
theorem stC_lt (R : Sto) (b : Nat) {v w : Nat} (h : w < v) (hb : R 2 (6 * b + w) ≠ 7) : stC R b w < stC R b v := by
  have h1 : stC R b (w + 1) = stC R b w + 1 := by
    show stC R b w + (if R 2 (6 * b + w) = 7 then 0 else 1) = _
    rw [if_neg hb]
  have := stC_mono R b (v := v) (w := w + 1) (by omega)
  omega
def IQ (R M : Sto) (b N0 : Nat) (m : Int32) (s : Nat → Nat) (i : Nat) : Prop := (R 2 (6 * b + i) ≠ 7 → M 17 (6 * b + i) = nJ (N0 + phC m 6 + stC R b i)) ∧ (R 2 (6 * b + i) = 7 → M 17 (6 * b + i) = -1) ∧ (R 2 (6 * b + i) ≠ 0 → R 2 (6 * b + i) ≠ 6 → ∀ x, x < 6 → R 4 (6 * b + i) = nJ x → M 18 (6 * b + i) = nJ (cu R b N0 m s i x)) ∧ ((R 2 (6 * b + i) = 0 ∨ R 2 (6 * b + i) = 6) → M 18 (6 * b + i) = -1) ∧ (R 2 (6 * b + i) ≠ 0 → R 2 (6 * b + i) ≠ 1 → R 2 (6 * b + i) ≠ 6 → R 2 (6 * b + i) ≠ 7 → ∀ y, y < 6 → R 5 (6 * b + i) = nJ y → M 19 (6 * b + i) = nJ (cu R b N0 m s i y)) ∧ ((R 2 (6 * b + i) = 0 ∨ R 2 (6 * b + i) = 1 ∨ R 2 (6 * b + i) = 6 ∨ R 2 (6 * b + i) = 7) → M 19 (6 * b + i) = -1) ∧ (R 2 (6 * b + i) ≠ 7 → M 14 (N0 + phC m 6 + stC R b i) = nJ b ∧ M 15 (N0 + phC m 6 + stC R b i) = nJ (6 * b + i))
theorem IQ.md {R M : Sto} {b N0 : Nat} {m : Int32} {s : Nat → Nat} {i : Nat} (h : IQ R M b N0 m s i) : R 2 (6 * b + i) ≠ 7 → M 17 (6 * b + i) = nJ (N0 + phC m 6 + stC R b i) := h.1
theorem IQ.mt {R M : Sto} {b N0 : Nat} {m : Int32} {s : Nat → Nat} {i : Nat} (h : IQ R M b N0 m s i) : R 2 (6 * b + i) = 7 → M 17 (6 * b + i) = -1 := h.2.1
theorem IQ.ux {R M : Sto} {b N0 : Nat} {m : Int32} {s : Nat → Nat} {i : Nat} (h : IQ R M b N0 m s i) : R 2 (6 * b + i) ≠ 0 → R 2 (6 * b + i) ≠ 6 → ∀ x, x < 6 → R 4 (6 * b + i) = nJ x → M 18 (6 * b + i) = nJ (cu R b N0 m s i x) := h.2.2.1
theorem IQ.un {R M : Sto} {b N0 : Nat} {m : Int32} {s : Nat → Nat} {i : Nat} (h : IQ R M b N0 m s i) : (R 2 (6 * b + i) = 0 ∨ R 2 (6 * b + i) = 6) → M 18 (6 * b + i) = -1 := h.2.2.2.1
theorem IQ.uy {R M : Sto} {b N0 : Nat} {m : Int32} {s : Nat → Nat} {i : Nat} (h : IQ R M b N0 m s i) : R 2 (6 * b + i) ≠ 0 → R 2 (6 * b + i) ≠ 1 → R 2 (6 * b + i) ≠ 6 → R 2 (6 * b + i) ≠ 7 → ∀ y, y < 6 → R 5 (6 * b + i) = nJ y → M 19 (6 * b + i) = nJ (cu R b N0 m s i y) := h.2.2.2.2.1
theorem IQ.uz {R M : Sto} {b N0 : Nat} {m : Int32} {s : Nat → Nat} {i : Nat} (h : IQ R M b N0 m s i) : (R 2 (6 * b + i) = 0 ∨ R 2 (6 * b + i) = 1 ∨ R 2 (6 * b + i) = 6 ∨ R 2 (6 * b + i) = 7) → M 19 (6 * b + i) = -1 := h.2.2.2.2.2.1
theorem IQ.hm {R M : Sto} {b N0 : Nat} {m : Int32} {s : Nat → Nat} {i : Nat} (h : IQ R M b N0 m s i) : R 2 (6 * b + i) ≠ 7 → M 14 (N0 + phC m 6 + stC R b i) = nJ b ∧ M 15 (N0 + phC m 6 + stC R b i) = nJ (6 * b + i) := h.2.2.2.2.2.2
def FQ (M : Sto) (b N0 : Nat) (m : Int32) (w : Nat) : Prop := (M 16 (6 * b + w) = nJ (N0 + phC m w)) ∧ (M 14 (N0 + phC m w) = nJ b ∧ M 15 (N0 + phC m w) = (-1) - nJ (6 * b + w))
theorem FQ.p16 {M : Sto} {b N0 : Nat} {m : Int32} {w : Nat} (h : FQ M b N0 m w) : M 16 (6 * b + w) = nJ (N0 + phC m w) := h.1
theorem FQ.hm {M : Sto} {b N0 : Nat} {m : Int32} {w : Nat} (h : FQ M b N0 m w) : M 14 (N0 + phC m w) = nJ b ∧ M 15 (N0 + phC m w) = (-1) - nJ (6 * b + w) := h.2
def Q7 (G0 : Sto) (b N0 : Nat) (m : Int32) (s : Nat → Nat) (v : Nat) (M : Sto) : Prop := (Fr [14, 15, 16, 17, 18, 19, 20, 21] [17] G0 M) ∧ (∀ x, ¬ (6 * b ≤ x ∧ x < 6 * b + 6) → M 21 x = G0 21 x) ∧ (M 0 17 = nJ (N0 + phC m v)) ∧ (∀ w, w < v → M 21 (6 * b + w) = nJ (if bt m w then N0 + phC m w else s w)) ∧ (∀ w, w < v → bt m w = true → FQ M b N0 m w)
theorem Q7.fr {G0 : Sto} {b N0 : Nat} {m : Int32} {s : Nat → Nat} {v : Nat} {M : Sto} (h : Q7 G0 b N0 m s v M) : Fr [14, 15, 16, 17, 18, 19, 20, 21] [17] G0 M := h.1
theorem Q7.row {G0 : Sto} {b N0 : Nat} {m : Int32} {s : Nat → Nat} {v : Nat} {M : Sto} (h : Q7 G0 b N0 m s v M) : ∀ x, ¬ (6 * b ≤ x ∧ x < 6 * b + 6) → M 21 x = G0 21 x := h.2.1
theorem Q7.num {G0 : Sto} {b N0 : Nat} {m : Int32} {s : Nat → Nat} {v : Nat} {M : Sto} (h : Q7 G0 b N0 m s v M) : M 0 17 = nJ (N0 + phC m v) := h.2.2.1
theorem Q7.cur {G0 : Sto} {b N0 : Nat} {m : Int32} {s : Nat → Nat} {v : Nat} {M : Sto} (h : Q7 G0 b N0 m s v M) : ∀ w, w < v → M 21 (6 * b + w) = nJ (if bt m w then N0 + phC m w else s w) := h.2.2.2.1
theorem Q7.ph {G0 : Sto} {b N0 : Nat} {m : Int32} {s : Nat → Nat} {v : Nat} {M : Sto} (h : Q7 G0 b N0 m s v M) : ∀ w, w < v → bt m w = true → FQ M b N0 m w := h.2.2.2.2
theorem q_nb7 {P : Int32 × Sto → Prop} {k : Int32 → Int32 → Sto → Option (Int32 × Sto)} {G0 : Sto} {N0 b : Nat} {s : Nat → Nat} (hb : b < 10) (hN2 : N0 + 12 ≤ 130) (hs0 : b = 0 → ∀ v, v < 6 → s v = v)
    (hp : b ≠ 0 → ∃ p, p < 10 ∧ p ≠ b ∧ G0 12 b = nJ p ∧ ∀ w, w < 6 → G0 21 (6 * p + w) = nJ (s w))
    (hk : ∀ M, Q7 G0 b N0 (G0 13 b) s 6 M → Ok P (k (nJ b) (nJ (6 * b)) M)) :
    ∀ n v M, Q7 G0 b N0 (G0 13 b) s v M → v ≤ 6 → 6 - v < n → Ok P (l_R_nameBlock_7 k n (nJ b) (nJ (6 * b)) (nJ v) M) := by
  intro n
  induction n with
  | zero => intro v M _ h1 h2; omega
  | succ n ih =>
    intro v M hQ hv hn
    have hc := phC_le (G0 13 b) v
    unfold l_R_nameBlock_7
    refine Ok.leN (a := 6) (by omega) (by omega) (fun q => ?_) (fun q => ?_)
    · have : v = 6 := by omega
      subst this
      exact hk M hQ
    rw [nJ_add (by omega)]
    have e13 : M 13 = G0 13 := hQ.fr.1 13 (by decide) (by decide)
    have e12 : M 12 = G0 12 := hQ.fr.1 12 (by decide) (by decide)
    have go : Ok P (j_R_nameBlock_44 (l_R_nameBlock_7 k n) k (nJ (s v)) (nJ (6 * b + v)) (nJ b) (nJ (6 * b)) (nJ v) M) := by
      unfold j_R_nameBlock_44 j_R_nameBlock_92
      refine Ok.okN (by omega) (by decide) ?_
      rw [nJ_tn (i := 6 * b + v) (by omega)]
      refine Ok.wr (fun M1 q1 => ?_)
      have n1 : M1 0 17 = nJ (N0 + phC (G0 13 b) v) := by rw [q1, up2_ne _ _ _ (by decide)]; exact hQ.num
      refine Ok.okN (by omega) (by decide) ?_
      have a13 : M1 13 b = G0 13 b := by rw [q1, up2_ne _ _ _ (by decide), e13]
      rw [nJ_tn (i := b) (by omega), nJ_succ (by omega), nJ_add (by omega), a13]
      refine Ok.has (by omega) (fun g => ?_) (fun g => ?_)
      · dsimp only
        rw [named_eq n1 (by omega)]
        refine Ok.bindS ?_
        dsimp only
        refine Ok.okN (by omega) (by decide) ?_
        rw [nJ_tn (i := 6 * b + v) (by omega)]
        refine Ok.wr (fun M2 q2 => ?_)
        refine Ok.okN (by omega) (by decide) ?_
        refine Ok.okN (by omega) (by decide) ?_
        have e16 : M2 16 (6 * b + v) = nJ (N0 + phC (G0 13 b) v) := by rw [q2, up2_at, if_pos ⟨rfl, rfl⟩]
        rw [e16]
        refine Ok.wr (fun M3 q3 => ?_)
        have hcs : phC (G0 13 b) (v + 1) = phC (G0 13 b) v + 1 := by
          show phC (G0 13 b) v + (if bt (G0 13 b) v then 1 else 0) = _
          rw [if_pos g]
        have c16 : ∀ x, x ≠ 6 * b + v → M3 16 x = M 16 x := fun x hx => by
          rw [q3, up2_ne _ _ _ (by decide), q2, up2_at, if_neg (fun z => hx z.2), up2_ne _ _ _ (by decide), up2_ne _ _ _ (by decide), up2_ne _ _ _ (by decide), q1, up2_ne _ _ _ (by decide)]
        have c21 : ∀ x, x ≠ 6 * b + v → M3 21 x = M 21 x := fun x hx => by
          rw [q3, up2_at, if_neg (fun z => hx z.2), q2, up2_ne _ _ _ (by decide), up2_ne _ _ _ (by decide), up2_ne _ _ _ (by decide), up2_ne _ _ _ (by decide), q1, up2_at, if_neg (fun z => hx z.2)]
        have c15 : ∀ x, x ≠ N0 + phC (G0 13 b) v → M3 15 x = M 15 x := fun x hx => by
          rw [q3, up2_ne _ _ _ (by decide), q2, up2_ne _ _ _ (by decide), up2_ne _ _ _ (by decide), up2_at, if_neg (fun z => hx z.2), up2_ne _ _ _ (by decide), q1, up2_ne _ _ _ (by decide)]
        have c14 : ∀ x, x ≠ N0 + phC (G0 13 b) v → M3 14 x = M 14 x := fun x hx => by
          rw [q3, up2_ne _ _ _ (by decide), q2, up2_ne _ _ _ (by decide), up2_ne _ _ _ (by decide), up2_ne _ _ _ (by decide), up2_at, if_neg (fun z => hx z.2), q1, up2_ne _ _ _ (by decide)]
        refine ih (v + 1) M3 ⟨?_, fun x hx => ?_, ?_, fun w hw => ?_, fun w hw hbw => ?_⟩ (by omega) (by omega)
        · rw [q3, q2, q1]
          exact (((((hQ.fr.up (by decide) (by decide)).up (by decide) (by decide)).up (by decide) (by decide)).up0 (by decide)).up (by decide) (by decide)).up (by decide) (by decide)
        · rw [c21 x (by omega)]; exact hQ.row x hx
        · rw [hcs, q3, up2_ne _ _ _ (by decide), q2, up2_ne _ _ _ (by decide), up2_at, if_pos ⟨rfl, rfl⟩]; rfl
        · by_cases z : w = v
          · rw [z, if_pos g, q3, up2_at, if_pos ⟨rfl, rfl⟩]
          · rw [c21 _ (by omega)]; exact hQ.cur w (by omega)
        · by_cases z : w = v
          · rw [z]
            refine ⟨by rw [q3, up2_ne _ _ _ (by decide)]; exact e16, ?_, ?_⟩
            · rw [q3, up2_ne _ _ _ (by decide), q2, up2_ne _ _ _ (by decide), up2_ne _ _ _ (by decide), up2_ne _ _ _ (by decide), up2_at, if_pos ⟨rfl, rfl⟩]
            · rw [q3, up2_ne _ _ _ (by decide), q2, up2_ne _ _ _ (by decide), up2_ne _ _ _ (by decide), up2_at, if_pos ⟨rfl, rfl⟩]
          · have hl := phC_lt (G0 13 b) (v := v) (w := w) (by omega) hbw
            obtain ⟨y1, y2⟩ := hQ.ph w (by omega) hbw
            exact ⟨by rw [c16 _ (by omega)]; exact y1, by rw [c14 _ (by omega), c15 _ (by omega)]; exact y2⟩
      · dsimp only
        have hcs : phC (G0 13 b) (v + 1) = phC (G0 13 b) v := by
          show phC (G0 13 b) v + (if bt (G0 13 b) v then 1 else 0) = _
          rw [if_neg (by rw [g]; decide)]; rfl
        have c21 : ∀ x, x ≠ 6 * b + v → M1 21 x = M 21 x := fun x hx => by rw [q1, up2_at, if_neg (fun z => hx z.2)]
        refine ih (v + 1) M1 ⟨by rw [q1]; exact hQ.fr.up (by decide) (by decide), fun x hx => by rw [c21 x (by omega)]; exact hQ.row x hx, by rw [hcs]; exact n1, fun w hw => ?_, fun w hw hbw => ?_⟩ (by omega) (by omega)
        · by_cases z : w = v
          · rw [z, if_neg (by rw [g]; decide), q1, up2_at, if_pos ⟨rfl, rfl⟩]
          · rw [c21 _ (by omega)]; exact hQ.cur w (by omega)
        · by_cases z : w = v
          · rw [z, g] at hbw; cases hbw
          · obtain ⟨y1, y2⟩ := hQ.ph w (by omega) hbw
            exact ⟨by rw [q1, up2_ne _ _ _ (by decide)]; exact y1, by rw [q1, up2_ne _ _ _ (by decide), up2_ne _ _ _ (by decide)]; exact y2⟩
    refine Ok.ifE (fun q1 => ?_) (fun q1 => ?_)
    · have b0 : b = 0 := nJ_inj (by omega) (by omega) q1
      rw [hs0 b0 v (by omega)] at go
      exact go
    · have b0 : b ≠ 0 := fun z => q1 (by rw [z]; rfl)
      refine Ok.okN (by omega) (by decide) ?_
      obtain ⟨p, p1, p2, p3, p4⟩ := hp b0
      rw [nJ_tn (i := b) (by omega), e12, p3, nJ_mul6 (by omega), nJ_add (by omega)]
      refine Ok.okN (by omega) (by decide) ?_
      have e21 : M 21 (6 * p + v) = nJ (s v) := by rw [hQ.row _ (by omega)]; exact p4 v (by omega)
      rw [nJ_tn (i := 6 * p + v) (by omega), e21]
      exact go
theorem IQ.fr {R M M1 : Sto} {b N0 i : Nat} {m : Int32} {s : Nat → Nat} (h : IQ R M b N0 m s i) (e17 : M1 17 (6 * b + i) = M 17 (6 * b + i)) (e18 : M1 18 (6 * b + i) = M 18 (6 * b + i)) (e19 : M1 19 (6 * b + i) = M 19 (6 * b + i))
    (ehm : R 2 (6 * b + i) ≠ 7 → M1 14 (N0 + phC m 6 + stC R b i) = M 14 (N0 + phC m 6 + stC R b i) ∧ M1 15 (N0 + phC m 6 + stC R b i) = M 15 (N0 + phC m 6 + stC R b i)) : IQ R M1 b N0 m s i :=
  ⟨fun q => by rw [e17]; exact h.md q, fun q => by rw [e17]; exact h.mt q, fun q1 q2 x hx hr => by rw [e18]; exact h.ux q1 q2 x hx hr, fun q => by rw [e18]; exact h.un q, fun q0 q1 q6 q7 y hy hr => by rw [e19]; exact h.uy q0 q1 q6 q7 y hy hr, fun q => by rw [e19]; exact h.uz q, fun q => by rw [(ehm q).1, (ehm q).2]; exact h.hm q⟩
def Q8 (G0 : Sto) (b N0 : Nat) (m : Int32) (s : Nat → Nat) (i : Nat) (M : Sto) : Prop := (Fr [14, 15, 16, 17, 18, 19, 20, 21] [17] G0 M) ∧ (M 0 17 = nJ (N0 + phC m 6 + stC G0 b i)) ∧ (∀ w, w < 6 → M 21 (6 * b + w) = nJ (cu G0 b N0 m s i w)) ∧ (∀ w, w < 6 → bt m w = true → FQ M b N0 m w) ∧ (∀ j, j < i → IQ G0 M b N0 m s j)
theorem Q8.fr {G0 : Sto} {b N0 : Nat} {m : Int32} {s : Nat → Nat} {i : Nat} {M : Sto} (h : Q8 G0 b N0 m s i M) : Fr [14, 15, 16, 17, 18, 19, 20, 21] [17] G0 M := h.1
theorem Q8.num {G0 : Sto} {b N0 : Nat} {m : Int32} {s : Nat → Nat} {i : Nat} {M : Sto} (h : Q8 G0 b N0 m s i M) : M 0 17 = nJ (N0 + phC m 6 + stC G0 b i) := h.2.1
theorem Q8.cur {G0 : Sto} {b N0 : Nat} {m : Int32} {s : Nat → Nat} {i : Nat} {M : Sto} (h : Q8 G0 b N0 m s i M) : ∀ w, w < 6 → M 21 (6 * b + w) = nJ (cu G0 b N0 m s i w) := h.2.2.1
theorem Q8.ph {G0 : Sto} {b N0 : Nat} {m : Int32} {s : Nat → Nat} {i : Nat} {M : Sto} (h : Q8 G0 b N0 m s i M) : ∀ w, w < 6 → bt m w = true → FQ M b N0 m w := h.2.2.2.1
theorem Q8.ins {G0 : Sto} {b N0 : Nat} {m : Int32} {s : Nat → Nat} {i : Nat} {M : Sto} (h : Q8 G0 b N0 m s i M) : ∀ j, j < i → IQ G0 M b N0 m s j := h.2.2.2.2
theorem q_nb100 {P : Int32 × Sto → Prop} {k : Int32 → Int32 → Sto → Option (Int32 × Sto)} {G0 : Sto} {B N0 b l : Nat} {m : Int32} {s : Nat → Nat} (hP : PF G0 B) (hb : b < 10) (hN2 : N0 + 12 ≤ 130) (hl : l ≤ 6) (hle : G0 1 b = nJ l)
    (hk : ∀ M, Q8 G0 b N0 m s l M → Ok P (k (nJ b) (nJ (6 * b)) M)) :
    ∀ n i M, Q8 G0 b N0 m s i M → i ≤ l → l - i < n → Ok P (l_R_nameBlock_100 k n (nJ b) (nJ (6 * b)) (nJ (6 * b + i)) M) := by
  intro n
  induction n with
  | zero => intro i M _ h1 h2; omega
  | succ n ih =>
    intro i M h8 hi hn
    have hpc := phC_le m 6
    have hsc := stC_le G0 b i
    have e1 : M 1 = G0 1 := h8.fr.1 1 (by decide) (by decide)
    have e2 : M 2 = G0 2 := h8.fr.1 2 (by decide) (by decide)
    have e3 : M 3 = G0 3 := h8.fr.1 3 (by decide) (by decide)
    have e4 : M 4 = G0 4 := h8.fr.1 4 (by decide) (by decide)
    have e5 : M 5 = G0 5 := h8.fr.1 5 (by decide) (by decide)
    unfold l_R_nameBlock_100
    refine Ok.okN (by omega) (by decide) ?_
    rw [nJ_tn (i := b) (by omega), e1, hle, nJ_add (by omega)]
    refine Ok.leN (by omega) (by omega) (fun q => ?_) (fun q => ?_)
    · have : i = l := by omega
      subst this
      exact hk M h8
    refine Ok.okN (by omega) (by decide) ?_
    rw [nJ_tn (i := 6 * b + i) (by omega), e2]
    have fin : ∀ a c, (G0 2 (6 * b + i) ≠ 0 → G0 2 (6 * b + i) ≠ 6 → ∀ x, x < 6 → G0 4 (6 * b + i) = nJ x → a = nJ (cu G0 b N0 m s i x)) → ((G0 2 (6 * b + i) = 0 ∨ G0 2 (6 * b + i) = 6) → a = -1) →
        (G0 2 (6 * b + i) ≠ 0 → G0 2 (6 * b + i) ≠ 1 → G0 2 (6 * b + i) ≠ 6 → G0 2 (6 * b + i) ≠ 7 → ∀ y, y < 6 → G0 5 (6 * b + i) = nJ y → c = nJ (cu G0 b N0 m s i y)) → ((G0 2 (6 * b + i) = 0 ∨ G0 2 (6 * b + i) = 1 ∨ G0 2 (6 * b + i) = 6 ∨ G0 2 (6 * b + i) = 7) → c = -1) →
        Ok P (j_R_nameBlock_181 (l_R_nameBlock_100 k n) k c (nJ (6 * b + i)) (nJ b) (nJ (6 * b)) (nJ (6 * b + i)) (G0 2 (6 * b + i)) (up2 M 18 (6 * b + i) a)) := by
      intro a c ha1 ha2 hc1 hc2
      unfold j_R_nameBlock_181 j_R_nameBlock_205 j_R_nameBlock_233
      refine Ok.okN (by omega) (by decide) ?_
      rw [nJ_tn (i := 6 * b + i) (by omega)]
      refine Ok.wr (fun M5 q5 => ?_)
      have n5 : M5 0 17 = nJ (N0 + phC m 6 + stC G0 b i) := by rw [q5, up2_ne _ _ _ (by decide), up2_ne _ _ _ (by decide)]; exact h8.num
      rw [nJ_succ (by omega)]
      refine r_setsOne (fun g => ?_) (fun g => ?_)
      · dsimp only
        rw [named_eq n5 (by omega)]
        refine Ok.bindS ?_
        dsimp only
        refine Ok.okN (by omega) (by decide) ?_
        refine Ok.wr (fun M7 q7 => ?_)
        refine r_setsOne (fun _ => ?_) (fun g2 => absurd g2 g)
        dsimp only
        refine Ok.okN (by omega) (by decide) ?_
        refine Ok.okN (by omega) (by decide) ?_
        have u3 : M7 3 = G0 3 := by rw [q7, up2_ne _ _ _ (by decide), up2_ne _ _ _ (by decide), up2_ne _ _ _ (by decide), up2_ne _ _ _ (by decide), q5, up2_ne _ _ _ (by decide), up2_ne _ _ _ (by decide)]; exact e3
        obtain ⟨d, d1, d2⟩ := hP.dst (6 * b + i) g
        refine Ok.okE (i := 6 * b + d) (by rw [u3, d2, nJ_add (by omega)]) (by omega) (by decide) ?_
        rw [u3, d2, nJ_add (by omega), nJ_tn (i := 6 * b + d) (by omega)]
        have v17 : M7 17 (6 * b + i) = nJ (N0 + phC m 6 + stC G0 b i) := by rw [q7, up2_at, if_pos ⟨rfl, rfl⟩]
        rw [v17]
        refine Ok.wr (fun M9 q9 => ?_)
        have hss : stC G0 b (i + 1) = stC G0 b i + 1 := by
          show stC G0 b i + (if G0 2 (6 * b + i) = 7 then 0 else 1) = _
          rw [if_neg g]
        have u16 : M9 16 = M 16 := by rw [q9, up2_ne _ _ _ (by decide), q7, up2_ne _ _ _ (by decide), up2_ne _ _ _ (by decide), up2_ne _ _ _ (by decide), up2_ne _ _ _ (by decide), q5, up2_ne _ _ _ (by decide), up2_ne _ _ _ (by decide)]
        have u17 : ∀ x, x ≠ 6 * b + i → M9 17 x = M 17 x := fun x hx => by
          rw [q9, up2_ne _ _ _ (by decide), q7, up2_at, if_neg (fun z => hx z.2), up2_ne _ _ _ (by decide), up2_ne _ _ _ (by decide), up2_ne _ _ _ (by decide), q5, up2_ne _ _ _ (by decide), up2_ne _ _ _ (by decide)]
        have w17 : M9 17 (6 * b + i) = nJ (N0 + phC m 6 + stC G0 b i) := by rw [q9, up2_ne _ _ _ (by decide)]; exact v17
        have u18 : ∀ x, M9 18 x = if x = 6 * b + i then a else M 18 x := fun x => by
          rw [q9, up2_ne _ _ _ (by decide), q7, up2_ne _ _ _ (by decide), up2_ne _ _ _ (by decide), up2_ne _ _ _ (by decide), up2_ne _ _ _ (by decide), q5, up2_ne _ _ _ (by decide), up2_at]
          by_cases z : x = 6 * b + i
          · rw [if_pos ⟨rfl, z⟩, if_pos z]
          · rw [if_neg (fun y => z y.2), if_neg z]
        have u19 : ∀ x, M9 19 x = if x = 6 * b + i then c else M 19 x := fun x => by
          rw [q9, up2_ne _ _ _ (by decide), q7, up2_ne _ _ _ (by decide), up2_ne _ _ _ (by decide), up2_ne _ _ _ (by decide), up2_ne _ _ _ (by decide), q5, up2_at]
          by_cases z : x = 6 * b + i
          · rw [if_pos ⟨rfl, z⟩, if_pos z]
          · rw [if_neg (fun y => z y.2), if_neg z, up2_ne _ _ _ (by decide)]
        have u21 : ∀ x, x ≠ 6 * b + d → M9 21 x = M 21 x := fun x hx => by
          rw [q9, up2_at, if_neg (fun z => hx z.2), q7, up2_ne _ _ _ (by decide), up2_ne _ _ _ (by decide), up2_ne _ _ _ (by decide), up2_ne _ _ _ (by decide), q5, up2_ne _ _ _ (by decide), up2_ne _ _ _ (by decide)]
        have u14 : ∀ x, x ≠ N0 + phC m 6 + stC G0 b i → M9 14 x = M 14 x := fun x hx => by
          rw [q9, up2_ne _ _ _ (by decide), q7, up2_ne _ _ _ (by decide), up2_ne _ _ _ (by decide), up2_ne _ _ _ (by decide), up2_at, if_neg (fun z => hx z.2), q5, up2_ne _ _ _ (by decide), up2_ne _ _ _ (by decide)]
        have u15 : ∀ x, x ≠ N0 + phC m 6 + stC G0 b i → M9 15 x = M 15 x := fun x hx => by
          rw [q9, up2_ne _ _ _ (by decide), q7, up2_ne _ _ _ (by decide), up2_ne _ _ _ (by decide), up2_at, if_neg (fun z => hx z.2), up2_ne _ _ _ (by decide), q5, up2_ne _ _ _ (by decide), up2_ne _ _ _ (by decide)]
        have w15 : M9 15 (N0 + phC m 6 + stC G0 b i) = nJ (6 * b + i) := by
          rw [q9, up2_ne _ _ _ (by decide), q7, up2_ne _ _ _ (by decide), up2_ne _ _ _ (by decide), up2_at, if_pos ⟨rfl, rfl⟩]
        have w14 : M9 14 (N0 + phC m 6 + stC G0 b i) = nJ b := by
          rw [q9, up2_ne _ _ _ (by decide), q7, up2_ne _ _ _ (by decide), up2_ne _ _ _ (by decide), up2_ne _ _ _ (by decide), up2_at, if_pos ⟨rfl, rfl⟩]
        refine ih (i + 1) M9 ⟨?_, ?_, fun w hw => ?_, fun w hw hbw => ?_, fun j hj => ?_⟩ (by omega) (by omega)
        · rw [q9, q7, q5]
          exact ((((((h8.fr.up (by decide) (by decide)).up (by decide) (by decide)).up (by decide) (by decide)).up (by decide) (by decide)).up0 (by decide)).up (by decide) (by decide)).up (by decide) (by decide)
        · rw [hss, q9, up2_ne _ _ _ (by decide), q7, up2_ne _ _ _ (by decide), up2_at, if_pos ⟨rfl, rfl⟩]; rfl
        · show M9 21 (6 * b + w) = nJ (if G0 2 (6 * b + i) ≠ 7 ∧ G0 3 (6 * b + i) = nJ w then N0 + phC m 6 + stC G0 b i else cu G0 b N0 m s i w)
          by_cases z : w = d
          · rw [z, if_pos ⟨g, d2⟩, q9, up2_at, if_pos ⟨rfl, rfl⟩]
          · rw [if_neg (fun y => z (nJ_inj (by omega) (by omega) (y.2.symm.trans d2))), u21 _ (by omega)]; exact h8.cur w hw
        · have hl' := phC_lt m (v := 6) hw hbw
          obtain ⟨y1, y2⟩ := h8.ph w hw hbw
          exact ⟨by rw [u16]; exact y1, by rw [u14 _ (by omega), u15 _ (by omega)]; exact y2⟩
        · by_cases z : j = i
          · subst z
            exact ⟨fun _ => w17, fun y => absurd y g, fun q1 q2 x hx hr => by rw [u18, if_pos rfl]; exact ha1 q1 q2 x hx hr, fun y => by rw [u18, if_pos rfl]; exact ha2 y, fun q0 q1 q6 q7 y hy hr => by rw [u19, if_pos rfl]; exact hc1 q0 q1 q6 q7 y hy hr, fun y => by rw [u19, if_pos rfl]; exact hc2 y, fun _ => ⟨w14, w15⟩⟩
          · refine (h8.ins j (by omega)).fr (u17 _ (by omega)) (by rw [u18, if_neg (by omega)]) (by rw [u19, if_neg (by omega)]) fun y => ?_
            have := stC_lt G0 b (v := i) (w := j) (by omega) y
            exact ⟨u14 _ (by omega), u15 _ (by omega)⟩
      · dsimp only
        refine Ok.okN (by omega) (by decide) ?_
        refine Ok.wr (fun M7 q7 => ?_)
        refine r_setsOne (fun g2 => absurd g g2) (fun _ => ?_)
        dsimp only
        have hss : stC G0 b (i + 1) = stC G0 b i := by
          show stC G0 b i + (if G0 2 (6 * b + i) = 7 then 0 else 1) = _
          rw [if_pos g]; rfl
        have un : ∀ k, k ≠ 17 → k ≠ 18 → k ≠ 19 → M7 k = M k := fun k h3 h4 h5 => by
          rw [q7, up2_ne _ _ _ h3, q5, up2_ne _ _ _ h5, up2_ne _ _ _ h4]
        have u17 : ∀ x, x ≠ 6 * b + i → M7 17 x = M 17 x := fun x hx => by
          rw [q7, up2_at, if_neg (fun z => hx z.2), q5, up2_ne _ _ _ (by decide), up2_ne _ _ _ (by decide)]
        have w17 : M7 17 (6 * b + i) = -1 := by rw [q7, up2_at, if_pos ⟨rfl, rfl⟩]
        have u18 : ∀ x, M7 18 x = if x = 6 * b + i then a else M 18 x := fun x => by
          rw [q7, up2_ne _ _ _ (by decide), q5, up2_ne _ _ _ (by decide), up2_at]
          by_cases z : x = 6 * b + i
          · rw [if_pos ⟨rfl, z⟩, if_pos z]
          · rw [if_neg (fun y => z y.2), if_neg z]
        have u19 : ∀ x, M7 19 x = if x = 6 * b + i then c else M 19 x := fun x => by
          rw [q7, up2_ne _ _ _ (by decide), q5, up2_at]
          by_cases z : x = 6 * b + i
          · rw [if_pos ⟨rfl, z⟩, if_pos z]
          · rw [if_neg (fun y => z y.2), if_neg z, up2_ne _ _ _ (by decide)]
        refine ih (i + 1) M7 ⟨?_, ?_, fun w hw => ?_, fun w hw hbw => ?_, fun j hj => ?_⟩ (by omega) (by omega)
        · rw [q7, q5]
          exact ((h8.fr.up (by decide) (by decide)).up (by decide) (by decide)).up (by decide) (by decide)
        · rw [hss, un 0 (by decide) (by decide) (by decide)]; exact h8.num
        · show M7 21 (6 * b + w) = nJ (if G0 2 (6 * b + i) ≠ 7 ∧ G0 3 (6 * b + i) = nJ w then N0 + phC m 6 + stC G0 b i else cu G0 b N0 m s i w)
          rw [if_neg (fun y => y.1 g), un 21 (by decide) (by decide) (by decide)]; exact h8.cur w hw
        · obtain ⟨y1, y2⟩ := h8.ph w hw hbw
          exact ⟨by rw [un 16 (by decide) (by decide) (by decide)]; exact y1, by rw [un 14 (by decide) (by decide) (by decide), un 15 (by decide) (by decide) (by decide)]; exact y2⟩
        · by_cases z : j = i
          · subst z
            exact ⟨fun y => absurd g y, fun _ => w17, fun q1 q2 x hx hr => by rw [u18, if_pos rfl]; exact ha1 q1 q2 x hx hr, fun y => by rw [u18, if_pos rfl]; exact ha2 y, fun q0 q1 q6 q7 y hy hr => by rw [u19, if_pos rfl]; exact hc1 q0 q1 q6 q7 y hy hr, fun y => by rw [u19, if_pos rfl]; exact hc2 y, fun y => absurd g y⟩
          · exact (h8.ins j (by omega)).fr (u17 _ (by omega)) (by rw [u18, if_neg (by omega)]) (by rw [u19, if_neg (by omega)]) fun y => ⟨by rw [un 14 (by decide) (by decide) (by decide)], by rw [un 15 (by decide) (by decide) (by decide)]⟩
    have mid : ∀ a, (G0 2 (6 * b + i) ≠ 0 → G0 2 (6 * b + i) ≠ 6 → ∀ x, x < 6 → G0 4 (6 * b + i) = nJ x → a = nJ (cu G0 b N0 m s i x)) → ((G0 2 (6 * b + i) = 0 ∨ G0 2 (6 * b + i) = 6) → a = -1) →
        Ok P (j_R_nameBlock_150 (l_R_nameBlock_100 k n) k a (nJ (6 * b + i)) (nJ b) (nJ (6 * b)) (nJ (6 * b + i)) (G0 2 (6 * b + i)) M) := by
      intro a ha1 ha2
      unfold j_R_nameBlock_150
      refine Ok.okN (by omega) (by decide) ?_
      rw [nJ_tn (i := 6 * b + i) (by omega)]
      refine Ok.wr (fun M3 q3 => ?_)
      subst q3
      obtain ⟨t, t1, t2⟩ := hP.knd (6 * b + i)
      refine r_usesSecond t1 t2 (fun g0 g1 g6 g7 => ?_) (fun g => ?_)
      · dsimp only
        refine Ok.okN (by omega) (by decide) ?_
        obtain ⟨y, y1, y2⟩ := hP.snd (6 * b + i) g0 g1 g6 g7
        have u5 : up2 M 18 (6 * b + i) a 5 = G0 5 := by rw [up2_ne _ _ _ (by decide)]; exact e5
        have u21 : up2 M 18 (6 * b + i) a 21 = M 21 := by rw [up2_ne _ _ _ (by decide)]
        refine Ok.okE (i := 6 * b + y) (by rw [u5, y2, nJ_add (by omega)]) (by omega) (by decide) ?_
        rw [u5, y2, nJ_add (by omega), nJ_tn (i := 6 * b + y) (by omega), u21, h8.cur y y1]
        exact fin a _ ha1 ha2 (fun _ _ _ _ z hz hr => by rw [nJ_inj (by omega) (by omega) (y2.symm.trans hr)]) (fun z => by
          rcases z with z | z | z | z
          · exact absurd z g0
          · exact absurd z g1
          · exact absurd z g6
          · exact absurd z g7)
      · dsimp only
        exact fin a (-1) ha1 ha2 (fun z0 z1 z6 z7 => by
          rcases g with z | z | z | z
          · exact absurd z z0
          · exact absurd z z1
          · exact absurd z z6
          · exact absurd z z7) (fun _ => rfl)
    refine r_usesFirst (fun g0 g6 => ?_) (fun g => ?_)
    · dsimp only
      refine Ok.okN (by omega) (by decide) ?_
      obtain ⟨y, y1, y2⟩ := hP.fst (6 * b + i) g0 g6
      refine Ok.okE (i := 6 * b + y) (by rw [e4, y2, nJ_add (by omega)]) (by omega) (by decide) ?_
      rw [e4, y2, nJ_add (by omega), nJ_tn (i := 6 * b + y) (by omega), h8.cur y y1]
      exact mid _ (fun _ _ z hz hr => by rw [nJ_inj (by omega) (by omega) (y2.symm.trans hr)]) (fun z => z.elim (fun z => absurd z g0) (fun z => absurd z g6))
    · dsimp only
      exact mid (-1) (fun z0 z6 => g.elim (fun z => absurd z z0) (fun z => absurd z z6)) (fun _ => rfl)
def QB (R M : Sto) (b N0 : Nat) (m : Int32) (s : Nat → Nat) : Prop := (∀ w, w < 6 → M 21 (6 * b + w) = nJ (cu R b N0 m s (lenN R b) w)) ∧ (∀ w, w < 6 → bt m w = true → FQ M b N0 m w) ∧ (∀ j, j < lenN R b → IQ R M b N0 m s j) ∧ (R 6 b = 2 → ∀ t, t < 6 → R 7 b = nJ t → M 20 b = nJ (cu R b N0 m s (lenN R b) t)) ∧ (R 6 b ≠ 2 → M 20 b = -1)
theorem QB.cur {R M : Sto} {b N0 : Nat} {m : Int32} {s : Nat → Nat} (h : QB R M b N0 m s) : ∀ w, w < 6 → M 21 (6 * b + w) = nJ (cu R b N0 m s (lenN R b) w) := h.1
theorem QB.ph {R M : Sto} {b N0 : Nat} {m : Int32} {s : Nat → Nat} (h : QB R M b N0 m s) : ∀ w, w < 6 → bt m w = true → FQ M b N0 m w := h.2.1
theorem QB.ins {R M : Sto} {b N0 : Nat} {m : Int32} {s : Nat → Nat} (h : QB R M b N0 m s) : ∀ j, j < lenN R b → IQ R M b N0 m s j := h.2.2.1
theorem QB.ts {R M : Sto} {b N0 : Nat} {m : Int32} {s : Nat → Nat} (h : QB R M b N0 m s) : R 6 b = 2 → ∀ t, t < 6 → R 7 b = nJ t → M 20 b = nJ (cu R b N0 m s (lenN R b) t) := h.2.2.2.1
theorem QB.tn {R M : Sto} {b N0 : Nat} {m : Int32} {s : Nat → Nat} (h : QB R M b N0 m s) : R 6 b ≠ 2 → M 20 b = -1 := h.2.2.2.2
theorem q_nameBlock {G0 : Sto} {B N0 b : Nat} {s : Nat → Nat} (hP : PF G0 B) (hb : b < B) (hN2 : N0 + 12 ≤ 130) (hnum : G0 0 17 = nJ N0) (hs0 : b = 0 → ∀ v, v < 6 → s v = v)
    (hp : b ≠ 0 → ∃ p, p < 10 ∧ p ≠ b ∧ G0 12 b = nJ p ∧ ∀ w, w < 6 → G0 21 (6 * p + w) = nJ (s w)) :
    Ok (fun a => a.2 0 17 = nJ (N0 + phC (G0 13 b) 6 + stC G0 b (lenN G0 b)) ∧ QB G0 a.2 b N0 (G0 13 b) s) (m_R_nameBlock (nJ b) G0) := by
  have hB := hP.hB
  obtain ⟨l, l1, l2⟩ := hP.len b (by omega)
  have hln : lenN G0 b = l := by unfold lenN; rw [l2, nJ_tn (by omega)]
  unfold m_R_nameBlock
  rw [nJ_mul6 (by omega)]
  refine q_nb7 (s := s) (by omega) hN2 hs0 hp (fun M hQ => ?_) FU 0 G0 ⟨Fr.rfl, fun _ _ => rfl, hnum, fun w hw => by omega, fun w hw => by omega⟩ (by omega) (by unfold FU; omega)
  unfold j_R_nameBlock_98
  refine q_nb100 (m := G0 13 b) (s := s) hP (by omega) hN2 l1 l2 (fun M1 h8 => ?_) FU 0 M ⟨hQ.fr, hQ.num, fun w hw => hQ.cur w hw, hQ.ph, fun j hj => by omega⟩ (by omega) (by unfold FU; omega)
  have e6 : M1 6 = G0 6 := h8.fr.1 6 (by decide) (by decide)
  have e7 : M1 7 = G0 7 := h8.fr.1 7 (by decide) (by decide)
  have last : ∀ v, (G0 6 b = 2 → ∀ t, t < 6 → G0 7 b = nJ t → v = nJ (cu G0 b N0 (G0 13 b) s l t)) → (G0 6 b ≠ 2 → v = -1) → Ok (fun a : Int32 × Sto => a.2 0 17 = nJ (N0 + phC (G0 13 b) 6 + stC G0 b (lenN G0 b)) ∧ QB G0 a.2 b N0 (G0 13 b) s) (j_R_nameBlock_271 v (nJ b) M1) := by
    intro v hv1 hv2
    unfold j_R_nameBlock_271
    refine Ok.okN (by omega) (by decide) ?_
    rw [nJ_tn (i := b) (by omega)]
    refine Ok.wr (fun M2 q2 => ?_)
    have un : ∀ k, k ≠ 20 → M2 k = M1 k := fun k hk => by rw [q2, up2_ne _ _ _ hk]
    have w20 : M2 20 b = v := by rw [q2, up2_at, if_pos ⟨rfl, rfl⟩]
    refine ⟨(0, M2), rfl, ?_, ?_⟩
    · show M2 0 17 = _
      rw [un 0 (by decide), hln]; exact h8.num
    · show QB G0 M2 b N0 (G0 13 b) s
      refine ⟨fun w hw => by rw [un 21 (by decide), hln]; exact h8.cur w hw, fun w hw hbw => ?_, fun j hj => ?_, fun y t ht hr => by rw [w20, hln]; exact hv1 y t ht hr, fun y => by rw [w20]; exact hv2 y⟩
      · obtain ⟨y1, y2⟩ := h8.ph w hw hbw
        exact ⟨by rw [un 16 (by decide)]; exact y1, by rw [un 14 (by decide), un 15 (by decide)]; exact y2⟩
      · exact (h8.ins j (by omega)).fr (by rw [un 17 (by decide)]) (by rw [un 18 (by decide)]) (by rw [un 19 (by decide)]) fun _ => ⟨by rw [un 14 (by decide)], by rw [un 15 (by decide)]⟩
  unfold j_R_nameBlock_239
  refine Ok.okN (by omega) (by decide) ?_
  rw [nJ_tn (i := b) (by omega), e6]
  refine Ok.ifE (fun q => ?_) (fun q => ?_)
  · refine Ok.okN (by omega) (by decide) ?_
    have hf : ∃ v, v < 6 ∧ G0 7 b = nJ v := by
      rcases hP.fin b hb with z | ⟨z, _⟩ | ⟨z, _, _, z2⟩
      · rw [z] at q; exact absurd q (by decide)
      · rw [z] at q; exact absurd q (by decide)
      · exact z2
    obtain ⟨v, v1, v2⟩ := hf
    rw [e7, v2, nJ_add (by omega)]
    refine Ok.okN (by omega) (by decide) ?_
    rw [nJ_tn (i := 6 * b + v) (by omega), h8.cur v v1]
    exact last _ (fun _ t ht hr => by rw [nJ_inj (by omega) (by omega) (v2.symm.trans hr)]) (fun z => absurd q z)
  · exact last (-1) (fun z => absurd z q) (fun _ => rfl)
end
section
def nst (R : Sto) (par ph : Nat → Int32) (B : Nat) : Nat → Nat × (Nat → Nat → Nat)
  | 0 => (6, fun _ _ => 0)
  | k + 1 => ((nst R par ph B k).1 + phC (ph (topN par B k)) 6 + stC R (topN par B k) (lenN R (topN par B k)),
      fun c v => if c = topN par B k then cu R (topN par B k) (nst R par ph B k).1 (ph (topN par B k)) (fun w => if topN par B k = 0 then w else (nst R par ph B k).2 (tn (par (topN par B k))) w) (lenN R (topN par B k)) v else (nst R par ph B k).2 c v)
def sst (R : Sto) (par ph : Nat → Int32) (B k : Nat) : Nat → Nat := fun w => if topN par B k = 0 then w else (nst R par ph B k).2 (tn (par (topN par B k))) w
theorem nst_succ (R : Sto) (par ph : Nat → Int32) (B k c v : Nat) : (nst R par ph B (k + 1)).2 c v = if c = topN par B k then cu R (topN par B k) (nst R par ph B k).1 (ph (topN par B k)) (sst R par ph B k) (lenN R (topN par B k)) v else (nst R par ph B k).2 c v := rfl
theorem cu_fr {R R' : Sto} (e2 : R' 2 = R 2) (e3 : R' 3 = R 3) (b N0 : Nat) (m : Int32) (s : Nat → Nat) : ∀ i v, cu R' b N0 m s i v = cu R b N0 m s i v
  | 0, _ => rfl
  | i + 1, v => by
    have st : ∀ i, stC R' b i = stC R b i := by
      intro i
      induction i with
      | zero => rfl
      | succ i ih =>
        show stC R' b i + _ = stC R b i + _
        rw [ih, e2]
    show (if R' 2 (6 * b + i) ≠ 7 ∧ R' 3 (6 * b + i) = nJ v then N0 + phC m 6 + stC R' b i else cu R' b N0 m s i v) = (if R 2 (6 * b + i) ≠ 7 ∧ R 3 (6 * b + i) = nJ v then N0 + phC m 6 + stC R b i else cu R b N0 m s i v)
    rw [e2, e3, st, cu_fr e2 e3 b N0 m s i v]
theorem stC_fr {R R' : Sto} (e2 : R' 2 = R 2) (b : Nat) : ∀ i, stC R' b i = stC R b i
  | 0 => rfl
  | i + 1 => by
    show stC R' b i + _ = stC R b i + _
    rw [stC_fr e2 b i, e2]
theorem IQ.prog {R R' M : Sto} {b N0 i : Nat} {m : Int32} {s : Nat → Nat} (h : IQ R' M b N0 m s i) (e2 : R' 2 = R 2) (e3 : R' 3 = R 3) (e4 : R' 4 = R 4) (e5 : R' 5 = R 5) : IQ R M b N0 m s i := by
  refine ⟨fun q => ?_, fun q => ?_, fun q1 q2 x hx hr => ?_, fun q => ?_, fun q0 q1 q6 q7 y hy hr => ?_, fun q => ?_, fun q => ?_⟩
  · rw [← stC_fr e2]; exact h.md (by rw [e2]; exact q)
  · exact h.mt (by rw [e2]; exact q)
  · rw [← cu_fr e2 e3]; exact h.ux (by rw [e2]; exact q1) (by rw [e2]; exact q2) x hx (by rw [e4]; exact hr)
  · exact h.un (by rw [e2]; exact q)
  · rw [← cu_fr e2 e3]; exact h.uy (by rw [e2]; exact q0) (by rw [e2]; exact q1) (by rw [e2]; exact q6) (by rw [e2]; exact q7) y hy (by rw [e5]; exact hr)
  · exact h.uz (by rw [e2]; exact q)
  · rw [← stC_fr e2]; exact h.hm (by rw [e2]; exact q)
theorem QB.prog {R R' M : Sto} {b N0 : Nat} {m : Int32} {s : Nat → Nat} (h : QB R' M b N0 m s) (e1 : R' 1 = R 1) (e2 : R' 2 = R 2) (e3 : R' 3 = R 3) (e4 : R' 4 = R 4) (e5 : R' 5 = R 5) (e6 : R' 6 = R 6) (e7 : R' 7 = R 7) : QB R M b N0 m s := by
  have hl : lenN R' b = lenN R b := by unfold lenN; rw [e1]
  refine ⟨fun w hw => ?_, h.ph, fun j hj => (h.ins j (by rw [hl]; exact hj)).prog e2 e3 e4 e5, fun y t ht hr => ?_, fun y => h.tn (by rw [e6]; exact y)⟩
  · rw [← cu_fr e2 e3, ← hl]; exact h.cur w hw
  · rw [← cu_fr e2 e3, ← hl]; exact h.ts (by rw [e6]; exact y) t ht (by rw [e7]; exact hr)
theorem QB.keep {R M M' : Sto} {b c N0 N1 N2 K : Nat} {m : Int32} {s : Nat → Nat} (h : QB R M c N0 m s) (hl : lenN R c ≤ 6) (hc : c ≠ b) (hN : N0 + phC m 6 + stC R c (lenN R c) ≤ N1) (f : NS M N1 b K M' N2) : QB R M' c N0 m s := by
  have row : ∀ k, k = 16 ∨ k = 17 ∨ k = 18 ∨ k = 19 ∨ k = 21 → ∀ w, w < 6 → M' k (6 * c + w) = M k (6 * c + w) := fun k hk w hw => f.row k hk _ (by omega)
  refine ⟨fun w hw => by rw [row 21 (by decide) w hw]; exact h.cur w hw, fun w hw hb => ?_, fun j hj => ?_, fun y t ht hr => by rw [f.r20 c hc]; exact h.ts y t ht hr, fun y => by rw [f.r20 c hc]; exact h.tn y⟩
  · obtain ⟨y1, y2⟩ := h.ph w hw hb
    have := phC_lt m (v := 6) hw hb
    exact ⟨by rw [row 16 (by decide) w hw]; exact y1, by rw [(f.old _ (by omega)).1, (f.old _ (by omega)).2]; exact y2⟩
  · refine (h.ins j hj).fr (row 17 (by decide) j (by omega)) (row 18 (by decide) j (by omega)) (row 19 (by decide) j (by omega)) fun y => ?_
    have := stC_lt R c (v := lenN R c) hj y
    exact f.old _ (by omega)
theorem Ok.both {α : Type} {P Q : α → Prop} {x : Option α} (h1 : Ok P x) (h2 : Ok Q x) : Ok (fun a => P a ∧ Q a) x := by
  obtain ⟨a, rfl, ha⟩ := h1
  obtain ⟨b, hb, hq⟩ := h2
  cases hb
  exact ⟨a, rfl, ha, hq⟩
def QN (G : Sto) (B od : Nat) (S : Nat → Int32) (Q : Nat → Prop) (M : Sto) : Prop := (∀ c, Q c → ∀ v, v < 6 → M 21 (6 * c + v) = nJ ((nst G (G 12) (G 13) B od).2 c v)) ∧ (∀ j, j < od → Q (topN (G 12) B j) ∧ topN (G 12) B j < B ∧ QB G M (topN (G 12) B j) (nst G (G 12) (G 13) B j).1 (G 13 (topN (G 12) B j)) (sst G (G 12) (G 13) B j)) ∧ (∀ j, j < od → (nst G (G 12) (G 13) B j).1 + phC (G 13 (topN (G 12) B j)) 6 + stC G (topN (G 12) B j) (lenN G (topN (G 12) B j)) ≤ (nst G (G 12) (G 13) B od).1) ∧ (∀ n, n < 6 → M 14 n = -1)
theorem QN.cur {G : Sto} {B od : Nat} {S : Nat → Int32} {Q : Nat → Prop} {M : Sto} (h : QN G B od S Q M) : ∀ c, Q c → ∀ v, v < 6 → M 21 (6 * c + v) = nJ ((nst G (G 12) (G 13) B od).2 c v) := h.1
theorem QN.qb {G : Sto} {B od : Nat} {S : Nat → Int32} {Q : Nat → Prop} {M : Sto} (h : QN G B od S Q M) : ∀ j, j < od → Q (topN (G 12) B j) ∧ topN (G 12) B j < B ∧ QB G M (topN (G 12) B j) (nst G (G 12) (G 13) B j).1 (G 13 (topN (G 12) B j)) (sst G (G 12) (G 13) B j) := h.2.1
theorem QN.mon {G : Sto} {B od : Nat} {S : Nat → Int32} {Q : Nat → Prop} {M : Sto} (h : QN G B od S Q M) : ∀ j, j < od → (nst G (G 12) (G 13) B j).1 + phC (G 13 (topN (G 12) B j)) 6 + stC G (topN (G 12) B j) (lenN G (topN (G 12) B j)) ≤ (nst G (G 12) (G 13) B od).1 := h.2.2.1
theorem QN.sx {G : Sto} {B od : Nat} {S : Nat → Int32} {Q : Nat → Prop} {M : Sto} (h : QN G B od S Q M) : ∀ n, n < 6 → M 14 n = -1 := h.2.2.2
theorem QN.fr22 {G : Sto} {B od : Nat} {S S' : Nat → Int32} {Q : Nat → Prop} {M M' : Sto} (h : QN G B od S Q M) (f : Fr [22] [] M M') : QN G B od S' Q M' := by
  have un : ∀ k, k ≠ 0 → k ≠ 22 → M' k = M k := fun k h0 h1 => f.1 k h0 (by simpa using h1)
  refine ⟨by rw [un 21 (by decide) (by decide)]; exact h.cur, fun j hj => ?_, h.mon, by rw [un 14 (by decide) (by decide)]; exact h.sx⟩
  obtain ⟨a1, a2, a3⟩ := h.qb j hj
  refine ⟨a1, a2, fun w hw => by rw [un 21 (by decide) (by decide)]; exact a3.cur w hw, fun w hw hb => ?_, fun i hi => ?_, fun y t ht hr => by rw [un 20 (by decide) (by decide)]; exact a3.ts y t ht hr, fun y => by rw [un 20 (by decide) (by decide)]; exact a3.tn y⟩
  · obtain ⟨y1, y2⟩ := a3.ph w hw hb
    exact ⟨by rw [un 16 (by decide) (by decide)]; exact y1, by rw [un 14 (by decide) (by decide), un 15 (by decide) (by decide)]; exact y2⟩
  · exact (a3.ins i hi).fr (by rw [un 17 (by decide) (by decide)]) (by rw [un 18 (by decide) (by decide)]) (by rw [un 19 (by decide) (by decide)]) fun _ => ⟨by rw [un 14 (by decide) (by decide)], by rw [un 15 (by decide) (by decide)]⟩
theorem q_na62 {P : Int32 × Sto → Prop} {k : Int32 → Sto → Option (Int32 × Sto)} {G : Sto} {B b od N : Nat} {Q : Nat → Prop} {s0 : StT} (hP : PF G B) (hR : ∀ c, c < B → bt (G 0 12) c = false → G 12 c = -1) (hQ : Q b) (hb : b < 10)
    (hk : ∀ S M, WN G B s0.1 od S Q M N → QN G B od S Q M → AX (M 22) s0 → WkO (Elg G B) (G 12) S Q → Ok P (k (nJ s0.1) M)) :
    ∀ n m s S M, WN G B s.1 od S Q M N → QN G B od S Q M → AX (M 22) s → psh (G 12) b m s = s0 → WkI (Elg G B) (G 12) S Q b m → m < B → m < n → Ok P (l_R_nameAll_62 k n (nJ s.1) (nJ b) (nJ m) M) := by
  intro n
  have hB := hP.hB
  induction n with
  | zero => intro m s S M _ _ _ _ _ _ h; omega
  | succ n ih =>
    intro m s S M hW hq hx hs hi hm hn
    have hod := hW.wk.od
    have e12 : M 12 = G 12 := hW.fr.1 12 (by decide) (by decide)
    have z12 : M 0 12 = G 0 12 := hW.fr.2 12 (by decide)
    unfold l_R_nameAll_62
    refine Ok.leN (b := 0) (by omega) (by omega) (fun q => ?_) (fun q => ?_)
    · have : m = 0 := by omega
      subst this
      have hs : s = s0 := hs
      subst hs
      exact hk S M hW hq hx (hi.done fun z => z.1 rfl)
    obtain ⟨m, rfl⟩ : ∃ j, m = j + 1 := ⟨m - 1, by omega⟩
    have hpr : nJ (m + 1) + (-1) = nJ m := by rw [nJ_pred (by omega) (by omega)]; rfl
    have hs : psh (G 12) b m (if G 12 (m + 1) = nJ b then (s.1 + 1, fun i => if i = s.1 then m + 1 else s.2 i) else s) = s0 := hs
    rw [z12]
    refine Ok.has (by omega) (fun g => ?_) (fun g => ?_)
    · dsimp only
      refine Ok.okN (by omega) (by decide) ?_
      refine Ok.ifE (fun q2 => ?_) (fun q2 => ?_)
      · rw [e12, nJ_tn (by omega)] at q2
        rw [if_pos q2] at hs
        obtain ⟨g1, g2, g3⟩ := hW.wk.push hi ⟨by omega, by omega, g⟩ q2 hQ hb (by omega) hW.hq
        refine Ok.okN (by omega) (by decide) ?_
        refine Ok.wr (fun M1 q1 => ?_)
        unfold j_R_nameAll_97
        rw [hpr, nJ_succ (by omega)]
        rw [nJ_tn (by omega)] at q1
        have e22 : M1 22 = upd (M 22) s.1 (nJ (m + 1)) := by rw [q1, up2_self]
        have f22 : Fr [22] [] M M1 := by rw [q1]; exact Fr.rfl.up (by decide) (by decide)
        refine ih m (s.1 + 1, fun i => if i = s.1 then m + 1 else s.2 i) (upd S (m + 1) 1) M1 (hW.fr22 hP f22 (by rw [e22]; exact g2) (fun c hc => ?_) (by rw [upd_at, if_neg (by omega)]; exact hW.s0)) (hq.fr22 f22) (by rw [e22]; exact hx.push) hs g3 (by omega) (by omega)
        rw [upd_at]
        by_cases z : c = m + 1
        · rw [if_pos z]; decide
        · rw [if_neg z]; exact hW.hq c hc
      · rw [e12, nJ_tn (by omega)] at q2
        rw [if_neg q2] at hs
        unfold j_R_nameAll_97
        rw [hpr]
        exact ih m s S M hW hq hx hs (hi.skip fun z => q2 z.2) (by omega) (by omega)
    · dsimp only
      unfold j_R_nameAll_97
      rw [hpr]
      have hne : ¬ G 12 (m + 1) = nJ b := by
        rw [hR (m + 1) hm g]
        intro y
        have := congrArg Int32.toInt y
        have e := nJ_int (i := b) (by omega)
        have n1 : (-1 : Int32).toInt = -1 := rfl
        omega
      rw [if_neg hne] at hs
      exact ih m s S M hW hq hx hs (hi.skip fun z => by rw [z.1.2.2] at g; cases g) (by omega) (by omega)
theorem q_na36 {P : Int32 × Sto → Prop} {k : Sto → Option (Int32 × Sto)} {G : Sto} {B : Nat} (hP : PF G B) (h0 : 0 < B) (hR : ∀ c, c < B → bt (G 0 12) c = false → G 12 c = -1)
    (hk : ∀ K S Q M, WN G B 0 K S Q M (nst G (G 12) (G 13) B K).1 → QN G B K S Q M → OD (G 12) B K → Ok P (k M)) :
    ∀ n od S Q M, WN G B (stN (G 12) B od).1 od S Q M (nst G (G 12) (G 13) B od).1 → QN G B od S Q M → AX (M 22) (stN (G 12) B od) → WkO (Elg G B) (G 12) S Q → (∀ j, j < od → 0 < (stN (G 12) B j).1) → 11 - od ≤ n → Ok P (l_R_nameAll_36 k n (nJ (stN (G 12) B od).1) M) := by
  intro n
  have hB := hP.hB
  induction n with
  | zero => intro od S Q M hW _ _ _ _ h; have := hW.wk.od; omega
  | succ n ih =>
    intro od S Q M hW hq hx hwo hpos hn
    have hod := hW.wk.od
    have hfu : 11 - (od + 1) ≤ n := by omega
    have hcB : cnt S 10 ≤ (B : Int) := cnt_leB 10 fun c hc hs => by
      by_cases z : c = 0
      · omega
      · exact (hW.wk.2.2.2.1 c hc z hs).1.2.1
    have hc1 := hW.wk.1
    unfold l_R_nameAll_36
    refine Ok.leN (b := 0) (by omega) (by omega) (fun q => ?_) (fun q => ?_)
    · have hz : (stN (G 12) B od).1 = 0 := by omega
      rw [hz] at hW
      exact hk od S Q M hW hq ⟨by omega, hz, hpos⟩
    obtain ⟨v, hv⟩ : ∃ v, (stN (G 12) B od).1 = v + 1 := ⟨(stN (G 12) B od).1 - 1, by omega⟩
    have hpr : nJ (v + 1) + (-1) = nJ v := by rw [nJ_pred (by omega) (by omega)]; rfl
    rw [hv, hpr, nJ_tn (i := v) (by omega)]
    refine Ok.okN (by omega) (by decide) ?_
    obtain ⟨b, b1, b2, b3, b4⟩ := hW.wk.2.1 v (by omega)
    have htop : M 22 v = nJ (topN (G 12) B od) := by
      rw [hx v (by omega)]
      unfold topN
      rw [hv]; rfl
    rw [b2]
    have hbp : b < B ∧ (b ≠ 0 → ∃ p, p < 10 ∧ Q p ∧ p ≠ b ∧ G 12 b = nJ p) := by
      by_cases z : b = 0
      · exact ⟨by omega, fun y => absurd z y⟩
      · obtain ⟨e, p, p1, p2, p3⟩ := hW.wk.2.2.2.1 b b1 z b3
        exact ⟨e.2.1, fun _ => ⟨p, p1, p3, fun y => b4 (y ▸ p3), p2⟩⟩
    have htb : topN (G 12) B od = b := by
      have h22 : nJ (topN (G 12) B od) = nJ b := htop.symm.trans b2
      have key : ∀ k, ∀ i, i < (stN (G 12) B k).1 → (stN (G 12) B k).2 i < 10 := by
        have pk : ∀ bb m s, m < 10 → (∀ i, i < s.1 → s.2 i < 10) → ∀ i, i < (psh (G 12) bb m s).1 → (psh (G 12) bb m s).2 i < 10 := by
          intro bb m
          induction m with
          | zero => intro s _ h i hi; exact h i hi
          | succ m ihm =>
            intro s hm h i hi
            refine ihm _ (by omega) ?_ i hi
            by_cases z : G 12 (m + 1) = nJ bb
            · rw [if_pos z]
              intro i hi
              have hi : i < s.1 + 1 := hi
              show (if i = s.1 then m + 1 else s.2 i) < 10
              by_cases y : i = s.1
              · rw [if_pos y]; omega
              · rw [if_neg y]; exact h i (by omega)
            · rw [if_neg z]; exact h
        intro k
        induction k with
        | zero => intro i _; exact (by decide : (0 : Nat) < 10)
        | succ k ihk =>
          show ∀ i, i < (stS (G 12) B (stN (G 12) B k)).1 → (stS (G 12) B (stN (G 12) B k)).2 i < 10
          unfold stS
          by_cases z : (stN (G 12) B k).1 = 0
          · rw [if_pos z]; exact ihk
          · rw [if_neg z]
            exact pk _ _ _ (by omega) fun i hi => ihk i (by have hi : i < (stN (G 12) B k).1 - 1 := hi; omega)
      have := key od ((stN (G 12) B od).1 - 1) (by omega)
      exact nJ_inj (by unfold topN; omega) (by omega) h22
    have hPM : PF M B := hP.fr (hW.fr.mono (by decide) (by decide))
    have e12 : M 12 = G 12 := hW.fr.1 12 (by decide) (by decide)
    have e13 : M 13 = G 13 := hW.fr.1 13 (by decide) (by decide)
    have hlo := hW.lo
    have hhi := hW.hi
    have hset : ∀ z : b ≠ 0, ∃ p, p < 10 ∧ p ≠ b ∧ M 12 b = nJ p ∧ ∀ w, w < 6 → M 21 (6 * p + w) = nJ (sst G (G 12) (G 13) B od w) := by
      intro z
      obtain ⟨p, p1, p2, p3, p4⟩ := hbp.2 z
      refine ⟨p, p1, p3, by rw [e12]; exact p4, fun w hw => ?_⟩
      rw [hq.cur p p2 w hw]
      unfold sst
      rw [htb, if_neg z, p4, tn_nJ (by omega)]
    refine Ok.bind (Ok.both (r_nameBlock hPM hbp.1 hlo (by omega) hW.num (fun z => ?_)) (q_nameBlock (s := sst G (G 12) (G 13) B od) hPM hbp.1 (by omega) hW.num (fun z v hv' => by unfold sst; rw [htb, if_pos z]) hset)) (fun r M1 hpost => ?_)
    · obtain ⟨p, p1, p2, p3, p4⟩ := hbp.2 z
      refine ⟨p, p1, p3, by rw [e12]; exact p4, fun w hw => ?_⟩
      obtain ⟨x, x1, x2, _⟩ := (hW.nb p p2).2.1.cur w hw
      exact ⟨x, x1, x2⟩
    dsimp only at hpost
    obtain ⟨⟨N1, hS, hNB⟩, hnum1, hQB⟩ := hpost
    dsimp only
    have un : ∀ k, k ≠ 0 → k ∉ [14, 15, 16, 17, 18, 19, 20, 21] → M1 k = M k := hS.fr.1
    have hb2 : M1 0 1 = nJ B := (hS.fr.2 1 (by decide)).trans hPM.blk
    have hB1 : nJ B - 1 = nJ (B - 1) := by
      apply Int32.toInt_inj.mp
      have n1 : (1 : Int32).toInt = 1 := rfl
      have h1 := nJ_int (i := B) (by omega)
      rw [subI (by omega) (by omega), nJ_int (i := B - 1) (by omega)]; omega
    rw [hb2, hB1]
    have wk1 : Wk (Elg G B) (G 12) (M 22) (v + 1) od S Q := by rw [← hv]; exact hW.wk
    obtain ⟨w1, w2⟩ := wk1.pop hwo b2 b1
    have hlo1 := hS.lo
    have hhi1 := hS.hi
    have hlb := hP.lenN_le (b := b) (by omega)
    have hpc := phC_le (G 13 b) 6
    have hsc := stC_le G b (lenN G b)
    have hlM : lenN M b = lenN G b := by unfold lenN; rw [hW.fr.1 1 (by decide) (by decide)]
    have hnst : (nst G (G 12) (G 13) B (od + 1)).1 = (nst G (G 12) (G 13) B od).1 + phC (G 13 b) 6 + stC G b (lenN G b) := by
      show (nst G (G 12) (G 13) B od).1 + phC (G 13 (topN (G 12) B od)) 6 + stC G (topN (G 12) B od) (lenN G (topN (G 12) B od)) = _
      rw [htb]
    have hN1 : N1 = (nst G (G 12) (G 13) B (od + 1)).1 := by
      rw [hnst]
      have h1 := hS.num
      rw [hnum1, e13, stC_fr (hW.fr.1 2 (by decide) (by decide)), hlM] at h1
      exact (nJ_inj (by omega) (by omega) h1).symm
    have hQB : QB G M1 b (nst G (G 12) (G 13) B od).1 (G 13 b) (sst G (G 12) (G 13) B od) := by
      rw [e13] at hQB
      exact hQB.prog (hW.fr.1 1 (by decide) (by decide)) (hW.fr.1 2 (by decide) (by decide)) (hW.fr.1 3 (by decide) (by decide)) (hW.fr.1 4 (by decide) (by decide)) (hW.fr.1 5 (by decide) (by decide)) (hW.fr.1 6 (by decide) (by decide)) (hW.fr.1 7 (by decide) (by decide))
    have nbs : ∀ c, (Q c ∨ c = b) → c < B ∧ NB M1 N1 c ∧ (c ≠ 0 → ∃ p, p < 10 ∧ (Q p ∨ p = b) ∧ p ≠ c ∧ G 12 c = nJ p) := by
      intro c hc
      by_cases z : c = b
      · rw [z]
        exact ⟨hbp.1, hNB, fun y => (hbp.2 y).elim fun p hp => ⟨p, hp.1, Or.inl hp.2.1, hp.2.2⟩⟩
      · have hQc : Q c := hc.elim (fun y => y) fun y => absurd y z
        obtain ⟨c1, c2, c3⟩ := hW.nb c hQc
        refine ⟨c1, c2.fr hlo1 (un 1 (by decide) (by decide)) (un 2 (by decide) (by decide)) (un 6 (by decide) (by decide)) (un 12 (by decide) (by decide)) (un 13 (by decide) (by decide)) (fun n hn => (hS.old n hn).2) (fun k hk w hw => hS.row k hk (6 * c + w) (by clear c3; omega)) (hS.r20 c z) (hPM.lenN_le (by omega)) (fun p w c0 p1 p2 p3 hw => hS.row 21 (by decide) (6 * p + w) ?_), fun y => (c3 y).elim fun p hp => ⟨p, hp.1, Or.inl hp.2.1, hp.2.2⟩⟩
        have hpb : p ≠ b := by
          intro y
          obtain ⟨p', q1, q2, q3, q4⟩ := c3 c0
          rw [e12, q4] at p2
          have := nJ_inj (by omega) (by omega) p2
          rw [y] at this
          exact b4 (this ▸ q2)
        clear c3
        omega
    have hW1 : WN G B v (od + 1) S (fun c => Q c ∨ c = b) M1 (nst G (G 12) (G 13) B (od + 1)).1 := by
      rw [← hN1]
      refine ⟨hW.fr.trans (hS.fr.mono (by decide) (by decide)), by rw [un 22 (by decide) (by decide)]; exact w1, fun c hc => hc.elim (hW.hq c) fun y => y ▸ b3, hW.s0, hS.num, by omega, by omega, nbs, fun n n1 n2 => ?_⟩
      by_cases z : n < (nst G (G 12) (G 13) B od).1
      · rw [(hS.old n z).2]
        obtain ⟨a, j, a1, a2⟩ := hW.sit n n1 z
        exact ⟨a, j, Or.inl a1, a2⟩
      · obtain ⟨j, hj⟩ := hS.sit n (by omega) n2
        refine ⟨b, j, Or.inr rfl, ?_⟩
        unfold lenN at hj
        rw [hW.fr.1 1 (by decide) (by decide)] at hj
        exact hj
    have hq1 : QN G B (od + 1) S (fun c => Q c ∨ c = b) M1 := by
      refine ⟨fun c hc w hw => ?_, fun j hj => ?_, fun j hj => ?_, fun n hn => by rw [(hS.old n (by omega)).1]; exact hq.sx n hn⟩
      · rw [nst_succ, htb]
        by_cases z : c = b
        · rw [if_pos z, z]; exact hQB.cur w hw
        · rw [if_neg z, hS.row 21 (by decide) _ (by omega)]
          exact hq.cur c (hc.elim (fun y => y) fun y => absurd y z) w hw
      · by_cases z : j = od
        · rw [z, htb]; exact ⟨Or.inr rfl, hbp.1, hQB⟩
        · obtain ⟨a1, a2, a3⟩ := hq.qb j (by omega)
          refine ⟨Or.inl a1, a2, a3.keep (hP.lenN_le (by omega)) (fun y : topN (G 12) B j = b => b4 (by rw [← y]; exact a1)) (hq.mon j (by omega)) hS⟩
      · by_cases z : j = od
        · rw [z, htb, hnst]; exact Nat.le_refl _
        · have := hq.mon j (by omega)
          rw [hnst]; omega
    have hst : stN (G 12) B (od + 1) = psh (G 12) b (B - 1) (v, (stN (G 12) B od).2) := by
      show stS (G 12) B (stN (G 12) B od) = _
      unfold stS
      rw [if_neg (by omega)]
      have : (stN (G 12) B od).2 ((stN (G 12) B od).1 - 1) = b := htb
      rw [this, hv]; rfl
    refine q_na62 (od := od + 1) (Q := fun c => Q c ∨ c = b) (s0 := stN (G 12) B (od + 1)) hP hR (Or.inr rfl) b1 (fun S' M' hW' hq' hx' hwo' => ?_) FU (B - 1) (v, (stN (G 12) B od).2) S M1 hW1 hq1 (by
      rw [un 22 (by decide) (by decide)]
      intro i hi
      have hi : i < v := hi
      exact hx i (by omega)) hst.symm ((w2 9 rfl).down (fun c hc => by have := hc.2.1; omega) (by omega)) (by omega) (by unfold FU; omega)
    unfold j_R_nameAll_103
    exact ih (od + 1) S' _ M' hW' hq' hx' hwo' (fun j hj => by
      by_cases z : j = od
      · rw [z, hv]; exact Nat.succ_pos _
      · exact hpos j (by clear hset hbp; omega)) hfu
theorem q_na8 {P : Int32 × Sto → Prop} {k : Sto → Option (Int32 × Sto)} {G : Sto}
    (hk : ∀ M, Fr [14] [] G M → (∀ n, n < 6 → M 14 n = -1) → Ok P (k M)) : ∀ n c M, Fr [14] [] G M → (∀ n, n < c → M 14 n = -1) → c ≤ 6 → 6 - c < n → Ok P (l_R_nameAll_8 k n (nJ c) M) := by
  intro n
  induction n with
  | zero => intro c M _ _ h1 h2; omega
  | succ n ih =>
    intro c M hf hx hc hn
    unfold l_R_nameAll_8
    refine Ok.leN (a := 6) (by omega) (by omega) (fun q => hk M hf fun n hn => hx n (by omega)) (fun q => ?_)
    refine Ok.okN (by omega) (by decide) ?_
    rw [nJ_succ (by omega), nJ_tn (by omega)]
    refine Ok.wr (fun M1 q1 => ?_)
    refine ih (c + 1) M1 (by rw [q1]; exact hf.up (by decide) (by decide)) (fun n hn => ?_) (by omega) (by omega)
    rw [q1, up2_at]
    by_cases z : n = c
    · rw [if_pos ⟨rfl, z⟩]
    · rw [if_neg (fun y => z y.2)]; exact hx n (by omega)
theorem q_nameAll {G : Sto} {B : Nat} (hP : PF G B) (h0 : 0 < B) (hR : ∀ c, c < B → bt (G 0 12) c = false → G 12 c = -1) :
    Ok (fun a => Fr [14, 15, 16, 17, 18, 19, 20, 21, 22] [17] G a.2 ∧ ∃ K, OD (G 12) B K ∧ a.2 0 17 = nJ (nst G (G 12) (G 13) B K).1 ∧ (∀ n, n < 6 → a.2 14 n = -1) ∧ ∀ j, j < K → topN (G 12) B j < B ∧ QB G a.2 (topN (G 12) B j) (nst G (G 12) (G 13) B j).1 (G 13 (topN (G 12) B j)) (sst G (G 12) (G 13) B j)) (m_R_nameAll G) := by
  unfold m_R_nameAll
  refine Ok.wr (fun M1 q1 => ?_)
  have f1 : Fr [14, 15, 16, 17, 18, 19, 20, 21, 22] [17] G M1 := by rw [q1]; exact Fr.rfl.up0 (by decide)
  refine q_na8 (fun M2 f2 x2 => ?_) FU 0 M1 Fr.rfl (fun n hn => by omega) (by omega) (by unfold FU; omega)
  unfold j_R_nameAll_27
  refine Ok.okN (i := 0) (by omega) (by decide) ?_
  refine Ok.wr (fun M3 q3 => ?_)
  have f3 : Fr [14, 15, 16, 17, 18, 19, 20, 21, 22] [17] G M3 := by rw [q3]; exact (f1.trans (f2.mono (by decide) (by decide))).up (by decide) (by decide)
  have n3 : M3 0 17 = nJ 6 := by rw [q3, up2_ne _ _ _ (by decide), f2.2 17 (by decide), q1, up2_at, if_pos ⟨rfl, rfl⟩]; rfl
  have e22 : M3 22 0 = 0 := by rw [q3, up2_at, if_pos ⟨rfl, rfl⟩]
  refine q_na36 hP h0 hR (fun K S Q M hW hq hO => ⟨(0, M), rfl, hW.fr, K, hO, hW.num, hq.sx, fun j hj => ⟨(hq.qb j hj).2.1, (hq.qb j hj).2.2⟩⟩) FU 0 (fun c => if c = 0 then 1 else 0) (fun _ => False) M3 ⟨f3, Wk.start e22, fun c q => q.elim, by decide, n3, by show 6 ≤ 6; omega, by show 6 ≤ 6 + 12 * 0; omega, fun c q => q.elim, fun n n1 n2 => by have n2 : n < 6 := n2; omega⟩ ⟨fun c q => q.elim, fun j hj => by omega, fun j hj => by omega, fun n hn => by rw [q3, up2_ne _ _ _ (by decide)]; exact x2 n hn⟩ (fun i hi => ?_) WkO.start (fun j hj => by omega) (by unfold FU; omega)
  have hi : i < 1 := hi
  rw [show i = 0 by omega, e22]; rfl
end
section
theorem newName_eq {X : Sto} {N : Nat} {x y z : Int32} (h : X 3 2 = nJ N) (hN : N < 126) : m_G_newName x y z X = some (nJ N, up2 (up2 (up2 (up2 X 21 N x) 22 N y) 23 N z) 3 2 (nJ (N + 1))) := by
  unfold m_G_newName wr
  dsimp only
  have e2 : up2 (up2 (up2 X 21 N x) 22 N y) 23 N z 3 2 = nJ N := by rw [up2_ne _ _ _ (by decide), up2_ne _ _ _ (by decide), up2_ne _ _ _ (by decide)]; exact h
  rw [h, nJ_tn (by omega), okN_t hN (by decide), e2, nJ_succ (by omega)]
  rfl
theorem x_readsX {α : Type} {P : α → Prop} {x : Int32} {M : Sto} {X Y : Int32 × Sto → Option α} (h1 : x ≠ 0 → x ≠ 6 → Ok P (Y (1, M))) (h0 : (x = 0 ∨ x = 6) → Ok P (X (0, M))) :
    Ok P ((m_N_readsX x M).bind fun o => if o.1 = 0 then X o else Y o) := by
  unfold m_N_readsX
  by_cases h : x = 0
  · rw [if_pos h]; exact h0 (Or.inl h)
  · rw [if_neg h]
    by_cases h2 : x = 6
    · rw [if_pos h2]; exact h0 (Or.inr h2)
    · rw [if_neg h2]; exact h1 h h2
theorem x_readsY {α : Type} {P : α → Prop} {x : Int32} {t : Nat} {M : Sto} {X Y : Int32 × Sto → Option α} (ht : t < 8) (hx : x = nJ t) (h1 : x ≠ 0 → x ≠ 1 → x ≠ 6 → x ≠ 7 → Ok P (Y (1, M))) (h0 : (x = 0 ∨ x = 1 ∨ x = 6 ∨ x = 7) → Ok P (X (0, M))) :
    Ok P ((m_N_readsY x M).bind fun o => if o.1 = 0 then X o else Y o) := by
  unfold m_N_readsY
  have hn : ∀ y : Nat, y < 8 → (x = nJ y ↔ t = y) := fun y hy => ⟨fun e => nJ_inj (by omega) (by omega) (hx.symm.trans e), fun e => by rw [hx, e]⟩
  have e0 := hn 0 (by omega)
  have e1 := hn 1 (by omega)
  have e6 := hn 6 (by omega)
  have e7 := hn 7 (by omega)
  have ex := nJ_int (i := t) (by omega)
  rw [← hx] at ex
  have n2 : (2 : Int32).toInt = 2 := rfl
  have n5 : (5 : Int32).toInt = 5 := rfl
  by_cases h : x < 2
  · rw [if_pos h]
    have h := Int32.lt_iff_toInt_lt.mp h
    refine h0 ?_
    by_cases z : t = 0
    · exact Or.inl (e0.mpr z)
    · exact Or.inr (Or.inl (e1.mpr (by omega)))
  · rw [if_neg h]
    have h : ¬ x.toInt < (2 : Int32).toInt := fun q => h (Int32.lt_iff_toInt_lt.mpr q)
    by_cases h2 : 5 < x
    · rw [if_pos h2]
      have h2 := Int32.lt_iff_toInt_lt.mp h2
      refine h0 (Or.inr (Or.inr ?_))
      by_cases z : t = 6
      · exact Or.inl (e6.mpr z)
      · exact Or.inr (e7.mpr (by omega))
    · rw [if_neg h2]
      have h2 : ¬ (5 : Int32).toInt < x.toInt := fun q => h2 (Int32.lt_iff_toInt_lt.mpr q)
      exact h1 (fun q => by have := e0.mp q; omega) (fun q => by have := e1.mp q; omega) (fun q => by have := e6.mp q; omega) (fun q => by have := e7.mp q; omega)
def FB8 (X0 : Sto) (b N0 : Nat) (X : Sto) : Prop := (∀ k, k ≠ 3 → k ≠ 20 → k ≠ 21 → k ≠ 22 → k ≠ 23 → k ≠ 83 + b → k ≠ 93 + b → k ≠ 103 + b → k ≠ 113 + b → k ≠ 123 + b → X k = X0 k) ∧ (∀ c, c ≠ b → X 20 c = X0 20 c) ∧ (∀ n, n < N0 → X 21 n = X0 21 n ∧ X 22 n = X0 22 n ∧ X 23 n = X0 23 n)
theorem FB8.cell {X0 : Sto} {b N0 : Nat} {X : Sto} (h : FB8 X0 b N0 X) : ∀ k, k ≠ 3 → k ≠ 20 → k ≠ 21 → k ≠ 22 → k ≠ 23 → k ≠ 83 + b → k ≠ 93 + b → k ≠ 103 + b → k ≠ 113 + b → k ≠ 123 + b → X k = X0 k := h.1
theorem FB8.r20 {X0 : Sto} {b N0 : Nat} {X : Sto} (h : FB8 X0 b N0 X) : ∀ c, c ≠ b → X 20 c = X0 20 c := h.2.1
theorem FB8.old {X0 : Sto} {b N0 : Nat} {X : Sto} (h : FB8 X0 b N0 X) : ∀ n, n < N0 → X 21 n = X0 21 n ∧ X 22 n = X0 22 n ∧ X 23 n = X0 23 n := h.2.2
def IX8 (R X : Sto) (b N0 : Nat) (m : Int32) (s : Nat → Nat) (i : Nat) : Prop := (R 2 (6 * b + i) ≠ 7 → X (103 + b) i = nJ (N0 + phC m 6 + stC R b i)) ∧ (R 2 (6 * b + i) = 7 → X (103 + b) i = -1) ∧ (R 2 (6 * b + i) ≠ 0 → R 2 (6 * b + i) ≠ 6 → ∀ x, x < 6 → R 4 (6 * b + i) = nJ x → X (113 + b) i = nJ (cu R b N0 m s i x)) ∧ ((R 2 (6 * b + i) = 0 ∨ R 2 (6 * b + i) = 6) → X (113 + b) i = -1) ∧ (R 2 (6 * b + i) ≠ 0 → R 2 (6 * b + i) ≠ 1 → R 2 (6 * b + i) ≠ 6 → R 2 (6 * b + i) ≠ 7 → ∀ y, y < 6 → R 5 (6 * b + i) = nJ y → X (123 + b) i = nJ (cu R b N0 m s i y)) ∧ ((R 2 (6 * b + i) = 0 ∨ R 2 (6 * b + i) = 1 ∨ R 2 (6 * b + i) = 6 ∨ R 2 (6 * b + i) = 7) → X (123 + b) i = -1) ∧ (R 2 (6 * b + i) ≠ 7 → X 21 (N0 + phC m 6 + stC R b i) = nJ b ∧ X 22 (N0 + phC m 6 + stC R b i) = nJ i)
theorem IX8.md {R X : Sto} {b N0 : Nat} {m : Int32} {s : Nat → Nat} {i : Nat} (h : IX8 R X b N0 m s i) : R 2 (6 * b + i) ≠ 7 → X (103 + b) i = nJ (N0 + phC m 6 + stC R b i) := h.1
theorem IX8.mt {R X : Sto} {b N0 : Nat} {m : Int32} {s : Nat → Nat} {i : Nat} (h : IX8 R X b N0 m s i) : R 2 (6 * b + i) = 7 → X (103 + b) i = -1 := h.2.1
theorem IX8.ux {R X : Sto} {b N0 : Nat} {m : Int32} {s : Nat → Nat} {i : Nat} (h : IX8 R X b N0 m s i) : R 2 (6 * b + i) ≠ 0 → R 2 (6 * b + i) ≠ 6 → ∀ x, x < 6 → R 4 (6 * b + i) = nJ x → X (113 + b) i = nJ (cu R b N0 m s i x) := h.2.2.1
theorem IX8.un {R X : Sto} {b N0 : Nat} {m : Int32} {s : Nat → Nat} {i : Nat} (h : IX8 R X b N0 m s i) : (R 2 (6 * b + i) = 0 ∨ R 2 (6 * b + i) = 6) → X (113 + b) i = -1 := h.2.2.2.1
theorem IX8.uy {R X : Sto} {b N0 : Nat} {m : Int32} {s : Nat → Nat} {i : Nat} (h : IX8 R X b N0 m s i) : R 2 (6 * b + i) ≠ 0 → R 2 (6 * b + i) ≠ 1 → R 2 (6 * b + i) ≠ 6 → R 2 (6 * b + i) ≠ 7 → ∀ y, y < 6 → R 5 (6 * b + i) = nJ y → X (123 + b) i = nJ (cu R b N0 m s i y) := h.2.2.2.2.1
theorem IX8.uz {R X : Sto} {b N0 : Nat} {m : Int32} {s : Nat → Nat} {i : Nat} (h : IX8 R X b N0 m s i) : (R 2 (6 * b + i) = 0 ∨ R 2 (6 * b + i) = 1 ∨ R 2 (6 * b + i) = 6 ∨ R 2 (6 * b + i) = 7) → X (123 + b) i = -1 := h.2.2.2.2.2.1
theorem IX8.hm {R X : Sto} {b N0 : Nat} {m : Int32} {s : Nat → Nat} {i : Nat} (h : IX8 R X b N0 m s i) : R 2 (6 * b + i) ≠ 7 → X 21 (N0 + phC m 6 + stC R b i) = nJ b ∧ X 22 (N0 + phC m 6 + stC R b i) = nJ i := h.2.2.2.2.2.2
def FX8 (X : Sto) (b N0 : Nat) (m : Int32) (w : Nat) : Prop := (X (83 + b) w = nJ (N0 + phC m w)) ∧ (X 21 (N0 + phC m w) = nJ b ∧ X 22 (N0 + phC m w) = -1 ∧ X 23 (N0 + phC m w) = nJ w)
theorem FX8.p16 {X : Sto} {b N0 : Nat} {m : Int32} {w : Nat} (h : FX8 X b N0 m w) : X (83 + b) w = nJ (N0 + phC m w) := h.1
theorem FX8.hm {X : Sto} {b N0 : Nat} {m : Int32} {w : Nat} (h : FX8 X b N0 m w) : X 21 (N0 + phC m w) = nJ b ∧ X 22 (N0 + phC m w) = -1 ∧ X 23 (N0 + phC m w) = nJ w := h.2
theorem x_nb20 {P : Int32 × Sto → Prop} {k : Int32 → Int32 → Sto → Option (Int32 × Sto)} {X0 : Sto} {b : Nat} {s : Nat → Nat} {v3 : Int32} (hb : b < 10)
    (hs : (v3 = -1 ∧ ∀ v, v < 6 → s v = v) ∨ (∃ p, p < 10 ∧ p ≠ b ∧ v3 = nJ p ∧ ∀ w, w < 6 → X0 (93 + p) w = nJ (s w)))
    (hk : ∀ X, (∀ k, k ≠ 93 + b → X k = X0 k) → (∀ w, w < 6 → X (93 + b) w = nJ (s w)) → Ok P (k (nJ b) (nJ b) X)) :
    ∀ n v X, (∀ k, k ≠ 93 + b → X k = X0 k) → (∀ w, w < v → X (93 + b) w = nJ (s w)) → v ≤ 6 → 6 - v < n → Ok P (l_G_nameBlock_20 k n (nJ b) (nJ b) v3 (nJ v) X) := by
  intro n
  induction n with
  | zero => intro v X _ _ h1 h2; omega
  | succ n ih =>
    intro v X hf hc hv hn
    unfold l_G_nameBlock_20
    refine Ok.leN (a := 6) (by omega) (by omega) (fun q => ?_) (fun q => ?_)
    · have : v = 6 := by omega
      subst this
      exact hk X hf hc
    have step : Ok P (j_G_nameBlock_49 (l_G_nameBlock_20 k n) k (nJ (s v)) (nJ v) (nJ b) (nJ b) (nJ b) v3 (nJ v) X) := by
      unfold j_G_nameBlock_49
      refine Ok.okN (by omega) (by decide) ?_
      rw [nJ_tn (i := b) (by omega), nJ_tn (i := v) (by omega), nJ_succ (by omega)]
      refine Ok.wr (fun M7 q7 => ?_)
      refine ih (v + 1) M7 (fun k hk => by rw [q7, up2_ne _ _ _ hk]; exact hf k hk) (fun w hw => ?_) (by omega) (by omega)
      rw [q7, up2_at]
      by_cases z : w = v
      · rw [if_pos ⟨rfl, z⟩, z]
      · rw [if_neg (fun y => z y.2)]; exact hc w (by omega)
    refine Ok.ifE (fun q1 => ?_) (fun q1 => ?_)
    · rcases hs with ⟨_, y⟩ | ⟨p, p1, _, p3, _⟩
      · rw [y v (by omega)] at step; exact step
      · exfalso
        rw [p3] at q1
        have := congrArg Int32.toInt q1
        have e := nJ_int (i := p) (by omega)
        have n1 : (-1 : Int32).toInt = -1 := rfl
        omega
    · obtain ⟨p, p1, p2, p3, p4⟩ := hs.elim (fun y => absurd y.1 q1) fun y => y
      refine Ok.okE p3 (by omega) (by decide) ?_
      refine Ok.okN (by omega) (by decide) ?_
      have : X (93 + v3.toNatClampNeg) (nJ v).toNatClampNeg = nJ (s v) := by
        rw [p3, nJ_tn (by omega), nJ_tn (by omega), hf (93 + p) (by omega)]; exact p4 v (by omega)
      rw [this]; exact step
def X7 (X0 : Sto) (b N0 : Nat) (m : Int32) (s : Nat → Nat) (v : Nat) (X : Sto) : Prop := (FB8 X0 b N0 X) ∧ (X 20 b = X0 20 b) ∧ (X 3 2 = nJ (N0 + phC m v)) ∧ (∀ w, w < 6 → X (93 + b) w = nJ (if bt m w = true ∧ w < v then N0 + phC m w else s w)) ∧ (∀ w, w < v → bt m w = true → FX8 X b N0 m w)
theorem X7.fb {X0 : Sto} {b N0 : Nat} {m : Int32} {s : Nat → Nat} {v : Nat} {X : Sto} (h : X7 X0 b N0 m s v X) : FB8 X0 b N0 X := h.1
theorem X7.t20 {X0 : Sto} {b N0 : Nat} {m : Int32} {s : Nat → Nat} {v : Nat} {X : Sto} (h : X7 X0 b N0 m s v X) : X 20 b = X0 20 b := h.2.1
theorem X7.num {X0 : Sto} {b N0 : Nat} {m : Int32} {s : Nat → Nat} {v : Nat} {X : Sto} (h : X7 X0 b N0 m s v X) : X 3 2 = nJ (N0 + phC m v) := h.2.2.1
theorem X7.cur {X0 : Sto} {b N0 : Nat} {m : Int32} {s : Nat → Nat} {v : Nat} {X : Sto} (h : X7 X0 b N0 m s v X) : ∀ w, w < 6 → X (93 + b) w = nJ (if bt m w = true ∧ w < v then N0 + phC m w else s w) := h.2.2.2.1
theorem X7.ph {X0 : Sto} {b N0 : Nat} {m : Int32} {s : Nat → Nat} {v : Nat} {X : Sto} (h : X7 X0 b N0 m s v X) : ∀ w, w < v → bt m w = true → FX8 X b N0 m w := h.2.2.2.2
theorem x_nb59 {P : Int32 × Sto → Prop} {k : Int32 → Int32 → Sto → Option (Int32 × Sto)} {X0 : Sto} {N0 b : Nat} {s : Nat → Nat} (hb : b < 10) (hN2 : N0 + 12 ≤ 126)
    (hk : ∀ X, X7 X0 b N0 (X0 18 b) s 6 X → Ok P (k (nJ b) (nJ b) X)) :
    ∀ n v X, X7 X0 b N0 (X0 18 b) s v X → v ≤ 6 → 6 - v < n → Ok P (l_G_nameBlock_59 k n (nJ b) (nJ b) (nJ v) X) := by
  intro n
  induction n with
  | zero => intro v X _ h1 h2; omega
  | succ n ih =>
    intro v X hQ hv hn
    have hc := phC_le (X0 18 b) v
    unfold l_G_nameBlock_59
    refine Ok.leN (a := 6) (by omega) (by omega) (fun q => ?_) (fun q => ?_)
    · have : v = 6 := by omega
      subst this
      exact hk X hQ
    refine Ok.okN (by omega) (by decide) ?_
    rw [nJ_tn (i := b) (by omega), nJ_tn (i := v) (by omega), hQ.fb.cell 18 (by omega) (by omega) (by omega) (by omega) (by omega) (by omega) (by omega) (by omega) (by omega) (by omega)]
    unfold j_G_nameBlock_105
    rw [nJ_succ (by omega)]
    refine Ok.holds (by omega) (fun g => ?_) (fun g => ?_)
    · dsimp only
      rw [newName_eq hQ.num (by omega)]
      refine Ok.bindS ?_
      dsimp only
      refine Ok.okN (by omega) (by decide) ?_
      refine Ok.wr (fun M5 q5 => ?_)
      refine Ok.okN (by omega) (by decide) ?_
      refine Ok.okN (by omega) (by decide) ?_
      refine Ok.okN (by omega) (by decide) ?_
      have e5 : M5 (93 + b) v = nJ (N0 + phC (X0 18 b) v) := by rw [q5, up2_at, if_pos ⟨rfl, rfl⟩]
      rw [e5]
      refine Ok.wr (fun M6 q6 => ?_)
      have hcs : phC (X0 18 b) (v + 1) = phC (X0 18 b) v + 1 := by
        show phC (X0 18 b) v + (if bt (X0 18 b) v then 1 else 0) = _
        rw [if_pos g]
      have un : ∀ k, k ≠ 3 → k ≠ 21 → k ≠ 22 → k ≠ 23 → k ≠ 83 + b → k ≠ 93 + b → M6 k = X k := fun k h1 h2 h3 h4 h5 h6 => by
        rw [q6, up2_ne _ _ _ h5, q5, up2_ne _ _ _ h6, up2_ne _ _ _ h1, up2_ne _ _ _ h4, up2_ne _ _ _ h3, up2_ne _ _ _ h2]
      have c21 : ∀ x, M6 21 x = if x = N0 + phC (X0 18 b) v then nJ b else X 21 x := fun x => by
        rw [q6, up2_ne _ _ _ (by omega), q5, up2_ne _ _ _ (by omega), up2_ne _ _ _ (by decide), up2_ne _ _ _ (by decide), up2_ne _ _ _ (by decide), up2_at]
        by_cases z : x = N0 + phC (X0 18 b) v
        · rw [if_pos ⟨rfl, z⟩, if_pos z]
        · rw [if_neg (fun y => z y.2), if_neg z]
      have c22 : ∀ x, M6 22 x = if x = N0 + phC (X0 18 b) v then -1 else X 22 x := fun x => by
        rw [q6, up2_ne _ _ _ (by omega), q5, up2_ne _ _ _ (by omega), up2_ne _ _ _ (by decide), up2_ne _ _ _ (by decide), up2_at]
        by_cases z : x = N0 + phC (X0 18 b) v
        · rw [if_pos ⟨rfl, z⟩, if_pos z]
        · rw [if_neg (fun y => z y.2), if_neg z, up2_ne _ _ _ (by decide)]
      have c23 : ∀ x, M6 23 x = if x = N0 + phC (X0 18 b) v then nJ v else X 23 x := fun x => by
        rw [q6, up2_ne _ _ _ (by omega), q5, up2_ne _ _ _ (by omega), up2_ne _ _ _ (by decide), up2_at]
        by_cases z : x = N0 + phC (X0 18 b) v
        · rw [if_pos ⟨rfl, z⟩, if_pos z]
        · rw [if_neg (fun y => z y.2), if_neg z, up2_ne _ _ _ (by decide), up2_ne _ _ _ (by decide)]
      have c93 : ∀ x, M6 (93 + b) x = if x = v then nJ (N0 + phC (X0 18 b) v) else X (93 + b) x := fun x => by
        rw [q6, up2_ne _ _ _ (by omega), q5, up2_at]
        by_cases z : x = v
        · rw [if_pos ⟨rfl, z⟩, if_pos z]
        · rw [if_neg (fun y => z y.2), if_neg z, up2_ne _ _ _ (by omega), up2_ne _ _ _ (by omega), up2_ne _ _ _ (by omega), up2_ne _ _ _ (by omega)]
      have c83 : ∀ x, M6 (83 + b) x = if x = v then nJ (N0 + phC (X0 18 b) v) else X (83 + b) x := fun x => by
        rw [q6, up2_at]
        by_cases z : x = v
        · rw [if_pos ⟨rfl, z⟩, if_pos z]
        · rw [if_neg (fun y => z y.2), if_neg z, q5, up2_ne _ _ _ (by omega), up2_ne _ _ _ (by omega), up2_ne _ _ _ (by omega), up2_ne _ _ _ (by omega), up2_ne _ _ _ (by omega)]
      refine ih (v + 1) M6 ⟨⟨fun k h1 h2 h3 h4 h5 h6 h7 h8 h9 h10 => by rw [un k h1 h3 h4 h5 h6 h7]; exact hQ.fb.cell k h1 h2 h3 h4 h5 h6 h7 h8 h9 h10, fun c hc => by rw [un 20 (by omega) (by omega) (by omega) (by omega) (by omega) (by omega)]; exact hQ.fb.r20 c hc, fun n hn => by rw [c21, if_neg (by omega), c22, if_neg (by omega), c23, if_neg (by omega)]; exact hQ.fb.old n hn⟩, by rw [un 20 (by omega) (by omega) (by omega) (by omega) (by omega) (by omega)]; exact hQ.t20, ?_, fun w hw => ?_, fun w hw hbw => ?_⟩ (by omega) (by omega)
      · rw [hcs, q6, up2_ne _ _ _ (by omega), q5, up2_ne _ _ _ (by omega), up2_at, if_pos ⟨rfl, rfl⟩]; rfl
      · rw [c93]
        by_cases z : w = v
        · rw [if_pos z, z, if_pos ⟨g, by omega⟩]
        · rw [if_neg z, hQ.cur w hw]
          by_cases y : bt (X0 18 b) w = true ∧ w < v
          · rw [if_pos y, if_pos ⟨y.1, by omega⟩]
          · rw [if_neg y, if_neg (fun u => y ⟨u.1, by omega⟩)]
      · by_cases z : w = v
        · rw [z]
          exact ⟨by rw [c83, if_pos rfl], by rw [c21, if_pos rfl, c22, if_pos rfl, c23, if_pos rfl]; exact ⟨rfl, rfl, rfl⟩⟩
        · have hl := phC_lt (X0 18 b) (v := v) (w := w) (by omega) hbw
          obtain ⟨y1, y2⟩ := hQ.ph w (by omega) hbw
          exact ⟨by rw [c83, if_neg z]; exact y1, by rw [c21, if_neg (by omega), c22, if_neg (by omega), c23, if_neg (by omega)]; exact y2⟩
    · dsimp only
      have hcs : phC (X0 18 b) (v + 1) = phC (X0 18 b) v := by
        show phC (X0 18 b) v + (if bt (X0 18 b) v then 1 else 0) = _
        rw [if_neg (by rw [g]; decide)]; rfl
      refine ih (v + 1) X ⟨hQ.fb, hQ.t20, by rw [hcs]; exact hQ.num, fun w hw => ?_, fun w hw hbw => ?_⟩ (by omega) (by omega)
      · rw [hQ.cur w hw]
        by_cases y : bt (X0 18 b) w = true ∧ w < v
        · rw [if_pos y, if_pos ⟨y.1, by omega⟩]
        · rw [if_neg y, if_neg (fun u => y ⟨u.1, by
            by_cases z : w = v
            · rw [z, g] at u; exact absurd u.1 (by decide)
            · omega⟩)]
      · by_cases z : w = v
        · rw [z, g] at hbw; cases hbw
        · exact hQ.ph w (by omega) hbw
def X8 (R X0 : Sto) (b N0 : Nat) (m : Int32) (s : Nat → Nat) (i : Nat) (X : Sto) : Prop := (FB8 X0 b N0 X) ∧ (X 20 b = X0 20 b) ∧ (X 3 2 = nJ (N0 + phC m 6 + stC R b i)) ∧ (∀ w, w < 6 → X (93 + b) w = nJ (cu R b N0 m s i w)) ∧ (∀ w, w < 6 → bt m w = true → FX8 X b N0 m w) ∧ (∀ j, j < i → IX8 R X b N0 m s j)
theorem X8.fb {R X0 : Sto} {b N0 : Nat} {m : Int32} {s : Nat → Nat} {i : Nat} {X : Sto} (h : X8 R X0 b N0 m s i X) : FB8 X0 b N0 X := h.1
theorem X8.t20 {R X0 : Sto} {b N0 : Nat} {m : Int32} {s : Nat → Nat} {i : Nat} {X : Sto} (h : X8 R X0 b N0 m s i X) : X 20 b = X0 20 b := h.2.1
theorem X8.num {R X0 : Sto} {b N0 : Nat} {m : Int32} {s : Nat → Nat} {i : Nat} {X : Sto} (h : X8 R X0 b N0 m s i X) : X 3 2 = nJ (N0 + phC m 6 + stC R b i) := h.2.2.1
theorem X8.cur {R X0 : Sto} {b N0 : Nat} {m : Int32} {s : Nat → Nat} {i : Nat} {X : Sto} (h : X8 R X0 b N0 m s i X) : ∀ w, w < 6 → X (93 + b) w = nJ (cu R b N0 m s i w) := h.2.2.2.1
theorem X8.ph {R X0 : Sto} {b N0 : Nat} {m : Int32} {s : Nat → Nat} {i : Nat} {X : Sto} (h : X8 R X0 b N0 m s i X) : ∀ w, w < 6 → bt m w = true → FX8 X b N0 m w := h.2.2.2.2.1
theorem X8.ins {R X0 : Sto} {b N0 : Nat} {m : Int32} {s : Nat → Nat} {i : Nat} {X : Sto} (h : X8 R X0 b N0 m s i X) : ∀ j, j < i → IX8 R X b N0 m s j := h.2.2.2.2.2
theorem IX8.fr {R M M1 : Sto} {b N0 i : Nat} {m : Int32} {s : Nat → Nat} (h : IX8 R M b N0 m s i) (e17 : M1 (103 + b) i = M (103 + b) i) (e18 : M1 (113 + b) i = M (113 + b) i) (e19 : M1 (123 + b) i = M (123 + b) i)
    (ehm : R 2 (6 * b + i) ≠ 7 → M1 21 (N0 + phC m 6 + stC R b i) = M 21 (N0 + phC m 6 + stC R b i) ∧ M1 22 (N0 + phC m 6 + stC R b i) = M 22 (N0 + phC m 6 + stC R b i)) : IX8 R M1 b N0 m s i :=
  ⟨fun q => by rw [e17]; exact h.md q, fun q => by rw [e17]; exact h.mt q, fun q1 q2 x hx hr => by rw [e18]; exact h.ux q1 q2 x hx hr, fun q => by rw [e18]; exact h.un q, fun q0 q1 q6 q7 y hy hr => by rw [e19]; exact h.uy q0 q1 q6 q7 y hy hr, fun q => by rw [e19]; exact h.uz q, fun q => by rw [(ehm q).1, (ehm q).2]; exact h.hm q⟩
theorem PR.fb {X0 X R : Sto} {B b N0 : Nat} (h : PR X0 R B) (f : FB8 X0 b N0 X) : PR X R B := h.fx fun k hk => f.cell k (by omega) (by omega) (by omega) (by omega) (by omega) (by omega) (by omega) (by omega) (by omega) (by omega)
theorem x_inst {X0 R X : Sto} {B N0 b l i : Nat} {m : Int32} {s : Nat → Nat} (h : PR X0 R B) (hb : b < 10) (hN2 : N0 + 12 ≤ 126) (hl : l ≤ 6) (hi : i < l) (h8 : X8 R X0 b N0 m s i X) :
    Ok (fun a => X8 R X0 b N0 m s (i + 1) a.2) (m_G_nameInstruction (nJ b) (nJ i) (nJ b) X) := by
  have hpc := phC_le m 6
  have hsc := stC_le R b i
  have hX := h.fb h8.fb
  obtain ⟨w1, w2, w3, w4⟩ := hX.row b i hb (by omega)
  have hP := h.pf
  have tb : (nJ b).toNatClampNeg = b := nJ_tn (by omega)
  have ti : (nJ i).toNatClampNeg = i := nJ_tn (by omega)
  have fin : ∀ a c, (R 2 (6 * b + i) ≠ 0 → R 2 (6 * b + i) ≠ 6 → ∀ x, x < 6 → R 4 (6 * b + i) = nJ x → a = nJ (cu R b N0 m s i x)) → ((R 2 (6 * b + i) = 0 ∨ R 2 (6 * b + i) = 6) → a = -1) →
      (R 2 (6 * b + i) ≠ 0 → R 2 (6 * b + i) ≠ 1 → R 2 (6 * b + i) ≠ 6 → R 2 (6 * b + i) ≠ 7 → ∀ y, y < 6 → R 5 (6 * b + i) = nJ y → c = nJ (cu R b N0 m s i y)) → ((R 2 (6 * b + i) = 0 ∨ R 2 (6 * b + i) = 1 ∨ R 2 (6 * b + i) = 6 ∨ R 2 (6 * b + i) = 7) → c = -1) →
      Ok (fun a => X8 R X0 b N0 m s (i + 1) a.2) (j_G_nameInstruction_78 c (nJ i) (nJ b) (nJ b) (nJ i) (nJ b) (R 2 (6 * b + i)) (up2 X (113 + b) i a)) := by
    intro a c ha1 ha2 hc1 hc2
    unfold j_G_nameInstruction_78 j_G_nameInstruction_133
    refine Ok.okN (by omega) (by decide) ?_
    rw [tb, ti]
    refine Ok.wr (fun M4 q4 => ?_)
    refine Ok.okN (by omega) (by decide) ?_
    refine Ok.okN (by omega) (by decide) ?_
    refine Ok.wr (fun M5 q5 => ?_)
    have n5 : M5 3 2 = nJ (N0 + phC m 6 + stC R b i) := by rw [q5, up2_ne _ _ _ (by omega), q4, up2_ne _ _ _ (by omega), up2_ne _ _ _ (by omega)]; exact h8.num
    refine x_sets (fun g => ?_) (fun g => ?_)
    · dsimp only
      refine Ok.okN (by omega) (by decide) ?_
      refine Ok.okN (by omega) (by decide) ?_
      rw [newName_eq n5 (by omega)]
      refine Ok.bindS ?_
      dsimp only
      obtain ⟨d, d1, d2⟩ := hP.dst (6 * b + i) g
      have e53 : M5 (53 + b) i = nJ d := by rw [q5, up2_ne _ _ _ (by omega), q4, up2_ne _ _ _ (by omega), up2_ne _ _ _ (by omega), w2]; exact d2
      refine Ok.okE e53 (by omega) (by decide) ?_
      simp only [e53]
      rw [nJ_tn (i := d) (by omega)]
      refine Ok.wr (fun M8 q8 => ?_)
      refine Ok.okN (by omega) (by decide) ?_
      refine Ok.okE (i := d) rfl (by omega) (by decide) ?_
      refine Ok.okN (by omega) (by decide) ?_
      have e8 : M8 (93 + b) d = nJ (N0 + phC m 6 + stC R b i) := by rw [q8, up2_at, if_pos ⟨rfl, rfl⟩]
      rw [e8]
      refine Ok.wr (fun M9 q9 => ?_)
      have hss : stC R b (i + 1) = stC R b i + 1 := by
        show stC R b i + (if R 2 (6 * b + i) = 7 then 0 else 1) = _
        rw [if_neg g]
      have un : ∀ k, k ≠ 3 → k ≠ 21 → k ≠ 22 → k ≠ 23 → k ≠ 93 + b → k ≠ 103 + b → k ≠ 113 + b → k ≠ 123 + b → M9 k = X k := fun k h1 h2 h3 h4 h5 h6 h7 h8 => by
        rw [q9, up2_ne _ _ _ h6, q8, up2_ne _ _ _ h5, up2_ne _ _ _ h1, up2_ne _ _ _ h4, up2_ne _ _ _ h3, up2_ne _ _ _ h2, q5, up2_ne _ _ _ h6, q4, up2_ne _ _ _ h8, up2_ne _ _ _ h7]
      have c21 : ∀ x, M9 21 x = if x = N0 + phC m 6 + stC R b i then nJ b else X 21 x := fun x => by
        rw [q9, up2_ne _ _ _ (by omega), q8, up2_ne _ _ _ (by omega), up2_ne _ _ _ (by decide), up2_ne _ _ _ (by decide), up2_ne _ _ _ (by decide), up2_at]
        by_cases z : x = N0 + phC m 6 + stC R b i
        · rw [if_pos ⟨rfl, z⟩, if_pos z]
        · rw [if_neg (fun y => z y.2), if_neg z, q5, up2_ne _ _ _ (by omega), q4, up2_ne _ _ _ (by omega), up2_ne _ _ _ (by omega)]
      have c22 : ∀ x, M9 22 x = if x = N0 + phC m 6 + stC R b i then nJ i else X 22 x := fun x => by
        rw [q9, up2_ne _ _ _ (by omega), q8, up2_ne _ _ _ (by omega), up2_ne _ _ _ (by decide), up2_ne _ _ _ (by decide), up2_at]
        by_cases z : x = N0 + phC m 6 + stC R b i
        · rw [if_pos ⟨rfl, z⟩, if_pos z]
        · rw [if_neg (fun y => z y.2), if_neg z, up2_ne _ _ _ (by decide), q5, up2_ne _ _ _ (by omega), q4, up2_ne _ _ _ (by omega), up2_ne _ _ _ (by omega)]
      have c23 : ∀ x, x ≠ N0 + phC m 6 + stC R b i → M9 23 x = X 23 x := fun x hx => by
        rw [q9, up2_ne _ _ _ (by omega), q8, up2_ne _ _ _ (by omega), up2_ne _ _ _ (by decide), up2_at, if_neg (fun y => hx y.2), up2_ne _ _ _ (by decide), up2_ne _ _ _ (by decide), q5, up2_ne _ _ _ (by omega), q4, up2_ne _ _ _ (by omega), up2_ne _ _ _ (by omega)]
      have c93 : ∀ x, M9 (93 + b) x = if x = d then nJ (N0 + phC m 6 + stC R b i) else X (93 + b) x := fun x => by
        rw [q9, up2_ne _ _ _ (by omega), q8, up2_at]
        by_cases z : x = d
        · rw [if_pos ⟨rfl, z⟩, if_pos z]
        · rw [if_neg (fun y => z y.2), if_neg z, up2_ne _ _ _ (by omega), up2_ne _ _ _ (by omega), up2_ne _ _ _ (by omega), up2_ne _ _ _ (by omega), q5, up2_ne _ _ _ (by omega), q4, up2_ne _ _ _ (by omega), up2_ne _ _ _ (by omega)]
      have c103 : ∀ x, M9 (103 + b) x = if x = i then nJ (N0 + phC m 6 + stC R b i) else X (103 + b) x := fun x => by
        rw [q9, up2_at]
        by_cases z : x = i
        · rw [if_pos ⟨rfl, z⟩, if_pos z]
        · rw [if_neg (fun y => z y.2), if_neg z, q8, up2_ne _ _ _ (by omega), up2_ne _ _ _ (by omega), up2_ne _ _ _ (by omega), up2_ne _ _ _ (by omega), up2_ne _ _ _ (by omega), q5, up2_at, if_neg (fun y => z y.2), q4, up2_ne _ _ _ (by omega), up2_ne _ _ _ (by omega)]
      have c113 : ∀ x, M9 (113 + b) x = if x = i then a else X (113 + b) x := fun x => by
        rw [q9, up2_ne _ _ _ (by omega), q8, up2_ne _ _ _ (by omega), up2_ne _ _ _ (by omega), up2_ne _ _ _ (by omega), up2_ne _ _ _ (by omega), up2_ne _ _ _ (by omega), q5, up2_ne _ _ _ (by omega), q4, up2_ne _ _ _ (by omega), up2_at]
        by_cases z : x = i
        · rw [if_pos ⟨rfl, z⟩, if_pos z]
        · rw [if_neg (fun y => z y.2), if_neg z]
      have c123 : ∀ x, M9 (123 + b) x = if x = i then c else X (123 + b) x := fun x => by
        rw [q9, up2_ne _ _ _ (by omega), q8, up2_ne _ _ _ (by omega), up2_ne _ _ _ (by omega), up2_ne _ _ _ (by omega), up2_ne _ _ _ (by omega), up2_ne _ _ _ (by omega), q5, up2_ne _ _ _ (by omega), q4, up2_at]
        by_cases z : x = i
        · rw [if_pos ⟨rfl, z⟩, if_pos z]
        · rw [if_neg (fun y => z y.2), if_neg z, up2_ne _ _ _ (by omega)]
      refine ⟨(0, M9), rfl, ⟨fun k h1 h2 h3 h4 h5 h6 h7 h8' h9 h10 => ?_, fun c' hc => ?_, fun n hn => ?_⟩, by show M9 20 b = _; rw [un 20 (by omega) (by omega) (by omega) (by omega) (by omega) (by omega) (by omega) (by omega)]; exact h8.t20, ?_, fun w hw => ?_, fun w hw hbw => ?_, fun j hj => ?_⟩
      · show M9 k = _
        rw [un k h1 h3 h4 h5 h7 h8' h9 h10]; exact h8.fb.cell k h1 h2 h3 h4 h5 h6 h7 h8' h9 h10
      · show M9 20 c' = _
        rw [un 20 (by omega) (by omega) (by omega) (by omega) (by omega) (by omega) (by omega) (by omega)]; exact h8.fb.r20 c' hc
      · show M9 21 n = _ ∧ M9 22 n = _ ∧ M9 23 n = _
        rw [c21, if_neg (by omega), c22, if_neg (by omega), c23 n (by omega)]; exact h8.fb.old n hn
      · show M9 3 2 = _
        rw [hss, q9, up2_ne _ _ _ (by omega), q8, up2_ne _ _ _ (by omega), up2_at, if_pos ⟨rfl, rfl⟩]; rfl
      · show M9 (93 + b) w = nJ (if R 2 (6 * b + i) ≠ 7 ∧ R 3 (6 * b + i) = nJ w then N0 + phC m 6 + stC R b i else cu R b N0 m s i w)
        rw [c93]
        by_cases z : w = d
        · rw [if_pos z, z, if_pos ⟨g, d2⟩]
        · rw [if_neg z, if_neg (fun y => z (nJ_inj (by omega) (by omega) (y.2.symm.trans d2)))]; exact h8.cur w hw
      · have hl' := phC_lt m (v := 6) hw hbw
        obtain ⟨y1, y2⟩ := h8.ph w hw hbw
        refine ⟨?_, ?_⟩
        · show M9 (83 + b) w = _
          rw [un (83 + b) (by omega) (by omega) (by omega) (by omega) (by omega) (by omega) (by omega) (by omega)]; exact y1
        · show M9 21 _ = _ ∧ M9 22 _ = _ ∧ M9 23 _ = _
          rw [c21, if_neg (by omega), c22, if_neg (by omega), c23 _ (by omega)]; exact y2
      · show IX8 R M9 b N0 m s j
        by_cases z : j = i
        · subst z
          exact ⟨fun _ => by rw [c103, if_pos rfl], fun y => absurd y g, fun q1 q2 x hx hr => by rw [c113, if_pos rfl]; exact ha1 q1 q2 x hx hr, fun y => by rw [c113, if_pos rfl]; exact ha2 y, fun q0 q1 q6 q7 y hy hr => by rw [c123, if_pos rfl]; exact hc1 q0 q1 q6 q7 y hy hr, fun y => by rw [c123, if_pos rfl]; exact hc2 y, fun _ => by rw [c21, if_pos rfl, c22, if_pos rfl]; exact ⟨rfl, rfl⟩⟩
        · refine (h8.ins j (by omega)).fr (by rw [c103, if_neg z]) (by rw [c113, if_neg z]) (by rw [c123, if_neg z]) fun y => ?_
          have := stC_lt R b (v := i) (w := j) (by omega) y
          rw [c21, if_neg (by omega), c22, if_neg (by omega)]; exact ⟨rfl, rfl⟩
    · dsimp only
      have hss : stC R b (i + 1) = stC R b i := by
        show stC R b i + (if R 2 (6 * b + i) = 7 then 0 else 1) = _
        rw [if_pos g]; rfl
      have un : ∀ k, k ≠ 103 + b → k ≠ 113 + b → k ≠ 123 + b → M5 k = X k := fun k h1 h2 h3 => by
        rw [q5, up2_ne _ _ _ h1, q4, up2_ne _ _ _ h3, up2_ne _ _ _ h2]
      have c103 : ∀ x, M5 (103 + b) x = if x = i then -1 else X (103 + b) x := fun x => by
        rw [q5, up2_at]
        by_cases z : x = i
        · rw [if_pos ⟨rfl, z⟩, if_pos z]
        · rw [if_neg (fun y => z y.2), if_neg z, q4, up2_ne _ _ _ (by omega), up2_ne _ _ _ (by omega)]
      have c113 : ∀ x, M5 (113 + b) x = if x = i then a else X (113 + b) x := fun x => by
        rw [q5, up2_ne _ _ _ (by omega), q4, up2_ne _ _ _ (by omega), up2_at]
        by_cases z : x = i
        · rw [if_pos ⟨rfl, z⟩, if_pos z]
        · rw [if_neg (fun y => z y.2), if_neg z]
      have c123 : ∀ x, M5 (123 + b) x = if x = i then c else X (123 + b) x := fun x => by
        rw [q5, up2_ne _ _ _ (by omega), q4, up2_at]
        by_cases z : x = i
        · rw [if_pos ⟨rfl, z⟩, if_pos z]
        · rw [if_neg (fun y => z y.2), if_neg z, up2_ne _ _ _ (by omega)]
      refine ⟨(0, M5), rfl, ⟨fun k h1 h2 h3 h4 h5 h6 h7 h8' h9 h10 => ?_, fun c' hc => ?_, fun n hn => ?_⟩, by show M5 20 b = _; rw [un 20 (by omega) (by omega) (by omega)]; exact h8.t20, ?_, fun w hw => ?_, fun w hw hbw => ?_, fun j hj => ?_⟩
      · show M5 k = _
        rw [un k h8' h9 h10]; exact h8.fb.cell k h1 h2 h3 h4 h5 h6 h7 h8' h9 h10
      · show M5 20 c' = _
        rw [un 20 (by omega) (by omega) (by omega)]; exact h8.fb.r20 c' hc
      · show M5 21 n = _ ∧ M5 22 n = _ ∧ M5 23 n = _
        rw [un 21 (by omega) (by omega) (by omega), un 22 (by omega) (by omega) (by omega), un 23 (by omega) (by omega) (by omega)]; exact h8.fb.old n hn
      · show M5 3 2 = _
        rw [hss]; exact n5
      · show M5 (93 + b) w = nJ (if R 2 (6 * b + i) ≠ 7 ∧ R 3 (6 * b + i) = nJ w then N0 + phC m 6 + stC R b i else cu R b N0 m s i w)
        rw [if_neg (fun y => y.1 g), un (93 + b) (by omega) (by omega) (by omega)]; exact h8.cur w hw
      · obtain ⟨y1, y2⟩ := h8.ph w hw hbw
        refine ⟨?_, ?_⟩
        · show M5 (83 + b) w = _
          rw [un (83 + b) (by omega) (by omega) (by omega)]; exact y1
        · show M5 21 _ = _ ∧ M5 22 _ = _ ∧ M5 23 _ = _
          rw [un 21 (by omega) (by omega) (by omega), un 22 (by omega) (by omega) (by omega), un 23 (by omega) (by omega) (by omega)]; exact y2
      · show IX8 R M5 b N0 m s j
        by_cases z : j = i
        · subst z
          exact ⟨fun y => absurd g y, fun _ => by rw [c103, if_pos rfl], fun q1 q2 x hx hr => by rw [c113, if_pos rfl]; exact ha1 q1 q2 x hx hr, fun y => by rw [c113, if_pos rfl]; exact ha2 y, fun q0 q1 q6 q7 y hy hr => by rw [c123, if_pos rfl]; exact hc1 q0 q1 q6 q7 y hy hr, fun y => by rw [c123, if_pos rfl]; exact hc2 y, fun y => absurd g y⟩
        · exact (h8.ins j (by omega)).fr (by rw [c103, if_neg z]) (by rw [c113, if_neg z]) (by rw [c123, if_neg z]) fun _ => ⟨by rw [un 21 (by omega) (by omega) (by omega)], by rw [un 22 (by omega) (by omega) (by omega)]⟩
  have mid : ∀ a, (R 2 (6 * b + i) ≠ 0 → R 2 (6 * b + i) ≠ 6 → ∀ x, x < 6 → R 4 (6 * b + i) = nJ x → a = nJ (cu R b N0 m s i x)) → ((R 2 (6 * b + i) = 0 ∨ R 2 (6 * b + i) = 6) → a = -1) →
      Ok (fun a => X8 R X0 b N0 m s (i + 1) a.2) (j_G_nameInstruction_45 a (nJ i) (nJ b) (nJ b) (nJ i) (nJ b) (R 2 (6 * b + i)) X) := by
    intro a ha1 ha2
    unfold j_G_nameInstruction_45
    refine Ok.okN (by omega) (by decide) ?_
    rw [tb, ti]
    refine Ok.wr (fun M2 q2 => ?_)
    subst q2
    refine Ok.okN (by omega) (by decide) ?_
    obtain ⟨t, t1, t2⟩ := hP.knd (6 * b + i)
    refine x_readsY t1 t2 (fun g0 g1 g6 g7 => ?_) (fun g => ?_)
    · dsimp only
      refine Ok.okN (by omega) (by decide) ?_
      refine Ok.okN (by omega) (by decide) ?_
      obtain ⟨y, y1, y2⟩ := hP.snd (6 * b + i) g0 g1 g6 g7
      have e73 : up2 X (113 + b) i a (73 + b) i = nJ y := by rw [up2_ne _ _ _ (by omega), w4]; exact y2
      refine Ok.okE e73 (by omega) (by decide) ?_
      rw [e73, nJ_tn (i := y) (by omega), up2_ne _ _ _ (show 93 + b ≠ 113 + b by omega), h8.cur y y1]
      exact fin a _ ha1 ha2 (fun _ _ _ _ z hz hr => by rw [nJ_inj (by omega) (by omega) (y2.symm.trans hr)]) (fun z => by
        rcases z with z | z | z | z
        · exact absurd z g0
        · exact absurd z g1
        · exact absurd z g6
        · exact absurd z g7)
    · dsimp only
      exact fin a (-1) ha1 ha2 (fun z0 z1 z6 z7 => by
        rcases g with z | z | z | z
        · exact absurd z z0
        · exact absurd z z1
        · exact absurd z z6
        · exact absurd z z7) (fun _ => rfl)
  unfold m_G_nameInstruction
  refine Ok.okN (by omega) (by decide) ?_
  refine Ok.okN (by omega) (by decide) ?_
  refine Ok.okN (by omega) (by decide) ?_
  rw [tb, ti, w1]
  refine x_readsX (fun g0 g6 => ?_) (fun g => ?_)
  · dsimp only
    refine Ok.okN (by omega) (by decide) ?_
    refine Ok.okN (by omega) (by decide) ?_
    obtain ⟨y, y1, y2⟩ := hP.fst (6 * b + i) g0 g6
    have e63 : X (63 + b) i = nJ y := by rw [w3]; exact y2
    refine Ok.okE e63 (by omega) (by decide) ?_
    rw [e63, nJ_tn (i := y) (by omega), h8.cur y y1]
    exact mid _ (fun _ _ z hz hr => by rw [nJ_inj (by omega) (by omega) (y2.symm.trans hr)]) (fun z => z.elim (fun z => absurd z g0) (fun z => absurd z g6))
  · dsimp only
    exact mid (-1) (fun z0 z6 => g.elim (fun z => absurd z z0) (fun z => absurd z z6)) (fun _ => rfl)
def XB (R X : Sto) (b N0 : Nat) (m : Int32) (s : Nat → Nat) : Prop := (∀ w, w < 6 → X (93 + b) w = nJ (cu R b N0 m s (lenN R b) w)) ∧ (∀ w, w < 6 → bt m w = true → FX8 X b N0 m w) ∧ (∀ j, j < lenN R b → IX8 R X b N0 m s j) ∧ (R 6 b = 2 → ∀ t, t < 6 → R 7 b = nJ t → X 20 b = nJ (cu R b N0 m s (lenN R b) t)) ∧ (R 6 b ≠ 2 → X 20 b = -1)
theorem XB.cur {R X : Sto} {b N0 : Nat} {m : Int32} {s : Nat → Nat} (h : XB R X b N0 m s) : ∀ w, w < 6 → X (93 + b) w = nJ (cu R b N0 m s (lenN R b) w) := h.1
theorem XB.ph {R X : Sto} {b N0 : Nat} {m : Int32} {s : Nat → Nat} (h : XB R X b N0 m s) : ∀ w, w < 6 → bt m w = true → FX8 X b N0 m w := h.2.1
theorem XB.ins {R X : Sto} {b N0 : Nat} {m : Int32} {s : Nat → Nat} (h : XB R X b N0 m s) : ∀ j, j < lenN R b → IX8 R X b N0 m s j := h.2.2.1
theorem XB.ts {R X : Sto} {b N0 : Nat} {m : Int32} {s : Nat → Nat} (h : XB R X b N0 m s) : R 6 b = 2 → ∀ t, t < 6 → R 7 b = nJ t → X 20 b = nJ (cu R b N0 m s (lenN R b) t) := h.2.2.2.1
theorem XB.tn {R X : Sto} {b N0 : Nat} {m : Int32} {s : Nat → Nat} (h : XB R X b N0 m s) : R 6 b ≠ 2 → X 20 b = -1 := h.2.2.2.2
theorem x_nameBlock {X0 R : Sto} {B N0 b : Nat} {s : Nat → Nat} (h : PR X0 R B) (hb : b < B) (hN2 : N0 + 12 ≤ 126) (hnum : X0 3 2 = nJ N0) (h20 : X0 20 b = -1)
    (hs : (X0 14 b = -1 ∧ ∀ v, v < 6 → s v = v) ∨ (∃ p, p < 10 ∧ p ≠ b ∧ X0 14 b = nJ p ∧ ∀ w, w < 6 → X0 (93 + p) w = nJ (s w))) :
    Ok (fun a => FB8 X0 b N0 a.2 ∧ a.2 3 2 = nJ (N0 + phC (X0 18 b) 6 + stC R b (lenN R b)) ∧ XB R a.2 b N0 (X0 18 b) s) (m_G_nameBlock (nJ b) X0) := by
  have hB := h.pf.hB
  obtain ⟨l, l1, l2⟩ := h.pf.len b (by omega)
  have hln : lenN R b = l := by unfold lenN; rw [l2, nJ_tn (by omega)]
  unfold m_G_nameBlock
  refine Ok.okN (by omega) (by decide) ?_
  refine Ok.okN (by omega) (by decide) ?_
  rw [nJ_tn (i := b) (by omega)]
  refine x_nb20 (X0 := X0) (s := s) (by omega) hs (fun X1 f1 c1 => ?_) FU 0 X0 (fun _ _ => rfl) (fun w hw => by omega) (by omega) (by unfold FU; omega)
  unfold j_G_nameBlock_56
  have e18 : X1 18 b = X0 18 b := by rw [f1 18 (by omega)]
  have fb1 : FB8 X0 b N0 X1 := ⟨fun k _ _ _ _ _ _ h7 _ _ _ => f1 k h7, fun c _ => by rw [f1 20 (by omega)], fun n _ => by rw [f1 21 (by omega), f1 22 (by omega), f1 23 (by omega)]; exact ⟨rfl, rfl, rfl⟩⟩
  refine x_nb59 (X0 := X0) (s := s) (by omega) hN2 (fun X2 h7 => ?_) FU 0 X1 ⟨fb1, by rw [f1 20 (by omega)], by rw [f1 3 (by omega)]; exact hnum, fun w hw => by rw [if_neg (fun y => absurd y.2 (by omega))]; exact c1 w hw, fun w hw => by omega⟩ (by omega) (by unfold FU; omega)
  unfold j_G_nameBlock_111
  have h80 : X8 R X0 b N0 (X0 18 b) s 0 X2 := ⟨h7.fb, h7.t20, h7.num, fun w hw => by
    rw [h7.cur w hw]
    show _ = nJ (if bt (X0 18 b) w then N0 + phC (X0 18 b) w else s w)
    by_cases y : bt (X0 18 b) w = true
    · rw [if_pos ⟨y, hw⟩, if_pos y]
    · rw [if_neg (fun z => y z.1), if_neg y], h7.ph, fun j hj => by omega⟩
  have loop : ∀ n i X, X8 R X0 b N0 (X0 18 b) s i X → i ≤ l → l - i < n → Ok (fun a : Int32 × Sto => FB8 X0 b N0 a.2 ∧ a.2 3 2 = nJ (N0 + phC (X0 18 b) 6 + stC R b (lenN R b)) ∧ XB R a.2 b N0 (X0 18 b) s) (l_G_nameBlock_114 j_G_nameBlock_142 n (nJ b) (nJ b) (nJ i) X) := by
    intro n
    induction n with
    | zero => intro i X _ h1 h2; omega
    | succ n ih =>
      intro i X h8 hi hn
      have hX := h.fb h8.fb
      unfold l_G_nameBlock_114
      refine Ok.okN (by omega) (by decide) ?_
      rw [nJ_tn (i := b) (by omega), hX.len b, l2]
      refine Ok.leN (by omega) (by omega) (fun q => ?_) (fun q => ?_)
      · have : i = l := by omega
        subst this
        obtain ⟨f1', f2', f3'⟩ := hX.fin b (by omega)
        unfold j_G_nameBlock_142 j_G_nameBlock_172
        refine Ok.okN (by omega) (by decide) ?_
        rw [nJ_tn (i := b) (by omega), f1']
        refine Ok.ifE (fun z => ?_) (fun z => ?_)
        · refine Ok.okN (by omega) (by decide) ?_
          have hf : ∃ v, v < 6 ∧ R 7 b = nJ v := by
            rcases h.pf.fin b hb with y | ⟨y, _⟩ | ⟨y, _, _, y2⟩
            · rw [y] at z; exact absurd z (by decide)
            · rw [y] at z; exact absurd z (by decide)
            · exact y2
          obtain ⟨t, t1, t2⟩ := hf
          have e9 : X 9 b = nJ t := (f3' z).1.trans t2
          refine Ok.okE e9 (by omega) (by decide) ?_
          refine Ok.okN (by omega) (by decide) ?_
          rw [e9, nJ_tn (i := t) (by omega), h8.cur t t1]
          refine Ok.wr (fun M1 q1 => ?_)
          have un : ∀ k, k ≠ 20 → M1 k = X k := fun k hk => by rw [q1, up2_ne _ _ _ hk]
          refine ⟨(0, M1), rfl, ⟨fun k k1 k2 k3 k4 k5 k6 k7 k8 k9 k10 => ?_, fun c hc => ?_, fun n hn => ?_⟩, ?_, fun w hw => ?_, fun w hw hbw => ?_, fun j hj => ?_, fun _ t' ht' hr => ?_, fun y => absurd z y⟩
          · show M1 k = _
            rw [un k k2]; exact h8.fb.cell k k1 k2 k3 k4 k5 k6 k7 k8 k9 k10
          · show M1 20 c = _
            rw [q1, up2_at, if_neg (fun y => hc y.2)]; exact h8.fb.r20 c hc
          · show M1 21 n = _ ∧ M1 22 n = _ ∧ M1 23 n = _
            rw [un 21 (by omega), un 22 (by omega), un 23 (by omega)]; exact h8.fb.old n hn
          · show M1 3 2 = _
            rw [un 3 (by omega), hln]; exact h8.num
          · show M1 (93 + b) w = _
            rw [un (93 + b) (by omega), hln]; exact h8.cur w hw
          · obtain ⟨y1, y2⟩ := h8.ph w hw hbw
            exact ⟨by show M1 (83 + b) w = _; rw [un (83 + b) (by omega)]; exact y1, by show M1 21 _ = _ ∧ M1 22 _ = _ ∧ M1 23 _ = _; rw [un 21 (by omega), un 22 (by omega), un 23 (by omega)]; exact y2⟩
          · exact (h8.ins j (by omega)).fr (by show M1 _ _ = _; rw [un _ (by omega)]) (by show M1 _ _ = _; rw [un _ (by omega)]) (by show M1 _ _ = _; rw [un _ (by omega)]) fun _ => ⟨by show M1 _ _ = _; rw [un _ (by omega)], by show M1 _ _ = _; rw [un _ (by omega)]⟩
          · show M1 20 b = _
            rw [q1, up2_at, if_pos ⟨rfl, rfl⟩, hln, nJ_inj (by omega) (by omega) (t2.symm.trans hr)]
        · refine ⟨(0, X), rfl, h8.fb, by show X 3 2 = _; rw [hln]; exact h8.num, fun w hw => by show X _ _ = _; rw [hln]; exact h8.cur w hw, h8.ph, fun j hj => h8.ins j (by omega), fun y => absurd y z, fun _ => ?_⟩
          show X 20 b = -1
          rw [h8.t20]; exact h20
      · rw [nJ_succ (by omega)]
        exact Ok.bind (x_inst h (by omega) hN2 l1 q h8) (fun r M2 h2 => ih (i + 1) M2 h2 (by omega) (by omega))
  exact loop FU 0 X2 h80 (by omega) (by unfold FU; omega)
end
section
theorem psh_wk {par : Nat → Int32} {B b od : Nat} {Q : Nat → Prop} (hB : B ≤ 10) (hQ : Q b) (hb : b < 10) : ∀ m (s : StT) S, Wk (fun c => c ≠ 0 ∧ c < B) par (fun i => nJ (s.2 i)) s.1 od S Q → WkI (fun c => c ≠ 0 ∧ c < B) par S Q b m → m < B → (∀ c, Q c → S c ≠ 0) →
    ∃ S', Wk (fun c => c ≠ 0 ∧ c < B) par (fun i => nJ ((psh par b m s).2 i)) (psh par b m s).1 od S' Q ∧ WkI (fun c => c ≠ 0 ∧ c < B) par S' Q b 0 ∧ ∀ c, Q c → S' c ≠ 0
  | 0, s, S, h, hi, _, hq => ⟨S, h, hi, hq⟩
  | m + 1, s, S, h, hi, hm, hq => by
    by_cases z : par (m + 1) = nJ b
    · obtain ⟨_, g2, g3⟩ := h.push hi ⟨by omega, hm⟩ z hQ hb (by omega) hq
      have e : psh par b (m + 1) s = psh par b m (s.1 + 1, fun i => if i = s.1 then m + 1 else s.2 i) := by
        show psh par b m (if par (m + 1) = nJ b then _ else _) = _
        rw [if_pos z]
      rw [e]
      have e2 : upd (fun i => nJ (s.2 i)) s.1 (nJ (m + 1)) = fun i => nJ ((fun i => if i = s.1 then m + 1 else s.2 i) i) := by
        funext i
        rw [upd_at]
        by_cases y : i = s.1
        · simp [y]
        · simp [y]
      rw [e2] at g2
      refine psh_wk hB hQ hb m (s.1 + 1, fun i => if i = s.1 then m + 1 else s.2 i) (upd S (m + 1) 1) g2 g3 (by omega) (fun c hc => ?_)
      rw [upd_at]
      by_cases y : c = m + 1
      · rw [if_pos y]; decide
      · rw [if_neg y]; exact hq c hc
    · have e : psh par b (m + 1) s = psh par b m s := by
        show psh par b m (if par (m + 1) = nJ b then _ else _) = _
        rw [if_neg z]
      rw [e]
      exact psh_wk hB hQ hb m s S h (hi.skip fun y => z y.2) (by omega) hq
theorem stN_lt {par : Nat → Int32} {B : Nat} (hB : B ≤ 10) : ∀ k, ∀ i, i < (stN par B k).1 → (stN par B k).2 i < 10 := by
  have pk : ∀ bb m (s : StT), m < 10 → (∀ i, i < s.1 → s.2 i < 10) → ∀ i, i < (psh par bb m s).1 → (psh par bb m s).2 i < 10 := by
    intro bb m
    induction m with
    | zero => intro s _ h i hi; exact h i hi
    | succ m ihm =>
      intro s hm h i hi
      refine ihm _ (by omega) ?_ i hi
      by_cases z : par (m + 1) = nJ bb
      · rw [if_pos z]
        intro i hi
        have hi : i < s.1 + 1 := hi
        show (if i = s.1 then m + 1 else s.2 i) < 10
        by_cases y : i = s.1
        · rw [if_pos y]; omega
        · rw [if_neg y]; exact h i (by omega)
      · rw [if_neg z]; exact h
  intro k
  induction k with
  | zero => intro i _; exact (by decide : (0 : Nat) < 10)
  | succ k ihk =>
    show ∀ i, i < (stS par B (stN par B k)).1 → (stS par B (stN par B k)).2 i < 10
    unfold stS
    by_cases z : (stN par B k).1 = 0
    · rw [if_pos z]; exact ihk
    · rw [if_neg z]
      exact pk _ _ _ (by omega) fun i hi => ihk i (by have hi : i < (stN par B k).1 - 1 := hi; omega)
theorem stN_wk {par : Nat → Int32} {B : Nat} (hB : B ≤ 10) (h0 : 0 < B) : ∀ k, (∀ j, j < k → 0 < (stN par B j).1) →
    ∃ S Q, Wk (fun c => c ≠ 0 ∧ c < B) par (fun i => nJ ((stN par B k).2 i)) (stN par B k).1 k S Q ∧ WkO (fun c => c ≠ 0 ∧ c < B) par S Q ∧ (∀ c, Q c → S c ≠ 0) ∧ ∀ c, Q c ↔ ∃ j, j < k ∧ topN par B j = c
  | 0, _ => ⟨fun c => if c = 0 then 1 else 0, fun _ => False, Wk.start rfl, WkO.start, fun _ q => q.elim, fun c => ⟨fun q => q.elim, fun ⟨j, hj, _⟩ => by omega⟩⟩
  | k + 1, hp => by
    obtain ⟨S, Q, h1, h2, h3, h4⟩ := stN_wk hB h0 k (fun j hj => hp j (by omega))
    have hk := hp k (by omega)
    obtain ⟨v, hv⟩ : ∃ v, (stN par B k).1 = v + 1 := ⟨(stN par B k).1 - 1, by omega⟩
    have hb9 : topN par B k < 10 := stN_lt hB k _ (by omega)
    have hbt : (fun i => nJ ((stN par B k).2 i)) v = nJ (topN par B k) := by
      show nJ ((stN par B k).2 v) = _
      unfold topN
      rw [hv]; rfl
    rw [hv] at h1
    have hS : S (topN par B k) ≠ 0 := by
      obtain ⟨c, c1, c2, c3, _⟩ := h1.2.1 v (by omega)
      have := nJ_inj (by omega) (by omega) (hbt.symm.trans c2)
      rw [this]; exact c3
    obtain ⟨w1, w2⟩ := h1.pop h2 hbt hb9
    obtain ⟨S', g1, g2, g3⟩ := psh_wk (b := topN par B k) (Q := fun c => Q c ∨ c = topN par B k) hB (Or.inr rfl) hb9 (B - 1) (v, (stN par B k).2) S w1 ((w2 9 rfl).down (fun c hc => by have := hc.2; omega) (by omega)) (by omega) (fun c hc => hc.elim (h3 c) fun y => y ▸ hS)
    have hst : stN par B (k + 1) = psh par (topN par B k) (B - 1) (v, (stN par B k).2) := by
      show stS par B (stN par B k) = _
      unfold stS topN
      rw [if_neg (by omega), hv]; rfl
    rw [hst]
    refine ⟨S', _, g1, g2.done fun z => z.1 rfl, g3, fun c => ?_⟩
    constructor
    · rintro (y | y)
      · obtain ⟨j, j1, j2⟩ := (h4 c).mp y
        exact ⟨j, by omega, j2⟩
      · exact ⟨k, by omega, y.symm⟩
    · rintro ⟨j, j1, j2⟩
      by_cases y : j = k
      · rw [y] at j2; exact Or.inr j2.symm
      · exact Or.inl ((h4 c).mpr ⟨j, by omega, j2⟩)
def OF (par : Nat → Int32) (B K k : Nat) : Prop := (topN par B k < B) ∧ (∀ j, j < k → topN par B j ≠ topN par B k) ∧ (topN par B k ≠ 0 → ∃ j, j < k ∧ par (topN par B k) = nJ (topN par B j))
theorem OF.lt {par : Nat → Int32} {B K k : Nat} (h : OF par B K k) : topN par B k < B := h.1
theorem OF.new {par : Nat → Int32} {B K k : Nat} (h : OF par B K k) : ∀ j, j < k → topN par B j ≠ topN par B k := h.2.1
theorem OF.up {par : Nat → Int32} {B K k : Nat} (h : OF par B K k) : topN par B k ≠ 0 → ∃ j, j < k ∧ par (topN par B k) = nJ (topN par B j) := h.2.2
theorem OD.of {par : Nat → Int32} {B K k : Nat} (hB : B ≤ 10) (h0 : 0 < B) (h : OD par B K) (hk : k < K) : OF par B K k := by
  obtain ⟨S, Q, h1, h2, h3, h4⟩ := stN_wk hB h0 k (fun j hj => h.pos j (by omega))
  have hp := h.pos k hk
  have hb9 : topN par B k < 10 := stN_lt hB k _ (by omega)
  obtain ⟨c, c1, c2, c3, c4⟩ := h1.2.1 ((stN par B k).1 - 1) (by omega)
  have : topN par B k = c := nJ_inj (by omega) (by omega) c2
  subst this
  have hup : topN par B k ≠ 0 → (topN par B k ≠ 0 ∧ topN par B k < B) ∧ ∃ b, b < 10 ∧ par (topN par B k) = nJ b ∧ Q b := fun z => h1.2.2.2.1 _ c1 z c3
  refine ⟨?_, fun j hj e => c4 ((h4 _).mpr ⟨j, hj, e⟩), fun z => ?_⟩
  · by_cases z : topN par B k = 0
    · omega
    · exact (hup z).1.2
  · obtain ⟨_, b, _, b2, b3⟩ := hup z
    obtain ⟨j, j1, j2⟩ := (h4 b).mp b3
    exact ⟨j, j1, by rw [j2]; exact b2⟩
theorem nst_le {R : Sto} {par ph : Nat → Int32} {B : Nat} (hP : PF R B) (hB : B ≤ 10) : ∀ k, (∀ j, j < k → topN par B j < B) → (nst R par ph B k).1 ≤ 6 + 12 * k
  | 0, _ => Nat.le_refl 6
  | k + 1, hk => by
    have h1 := nst_le (ph := ph) hP hB k (fun j hj => hk j (by omega))
    have h2 := phC_le (ph (topN par B k)) 6
    have h3 := stC_le R (topN par B k) (lenN R (topN par B k))
    have h4 := hP.lenN_le (b := topN par B k) (by have := hk k (by omega); omega)
    show (nst R par ph B k).1 + phC (ph (topN par B k)) 6 + stC R (topN par B k) (lenN R (topN par B k)) ≤ _
    omega
theorem nst_mono {R : Sto} {par ph : Nat → Int32} {B : Nat} : ∀ {k j : Nat}, j < k → (nst R par ph B j).1 + phC (ph (topN par B j)) 6 + stC R (topN par B j) (lenN R (topN par B j)) ≤ (nst R par ph B k).1
  | 0, j, h => by omega
  | k + 1, j, h => by
    by_cases z : j = k
    · subst z; exact Nat.le_refl _
    · have := nst_mono (R := R) (par := par) (ph := ph) (B := B) (k := k) (j := j) (by omega)
      show _ ≤ (nst R par ph B k).1 + phC (ph (topN par B k)) 6 + stC R (topN par B k) (lenN R (topN par B k))
      omega
theorem nst_at {R : Sto} {par ph : Nat → Int32} {B K : Nat} (hB : B ≤ 10) (h0 : 0 < B) (h : OD par B K) : ∀ {k j : Nat}, j < k → k ≤ K → ∀ v, (nst R par ph B k).2 (topN par B j) v = cu R (topN par B j) (nst R par ph B j).1 (ph (topN par B j)) (sst R par ph B j) (lenN R (topN par B j)) v
  | 0, j, hj, _, v => by omega
  | k + 1, j, hj, hk, v => by
    rw [nst_succ]
    by_cases z : j = k
    · subst z; rw [if_pos rfl]
    · rw [if_neg ((OD.of hB h0 h (k := k) (by omega)).new j (by omega))]
      exact nst_at hB h0 h (by omega) (by omega) v
theorem XB.keep {R X0 X : Sto} {b c N0 N1 : Nat} {m : Int32} {s : Nat → Nat} (h : XB R X0 c N0 m s) (hl : lenN R c ≤ 6) (hb : b < 10) (hc9 : c < 10) (hc : c ≠ b) (hN : N0 + phC m 6 + stC R c (lenN R c) ≤ N1) (f : FB8 X0 b N1 X) : XB R X c N0 m s := by
  have cell : ∀ k, (k = 83 ∨ k = 93 ∨ k = 103 ∨ k = 113 ∨ k = 123) → X (k + c) = X0 (k + c) := fun k hk => f.cell (k + c) (by omega) (by omega) (by omega) (by omega) (by omega) (by omega) (by omega) (by omega) (by omega) (by omega)
  refine ⟨fun w hw => by rw [cell 93 (by decide)]; exact h.cur w hw, fun w hw hb' => ?_, fun j hj => ?_, fun y t ht hr => by rw [f.r20 c hc]; exact h.ts y t ht hr, fun y => by rw [f.r20 c hc]; exact h.tn y⟩
  · obtain ⟨y1, y2⟩ := h.ph w hw hb'
    have := phC_lt m (v := 6) hw hb'
    obtain ⟨o1, o2, o3⟩ := f.old (N0 + phC m w) (by omega)
    exact ⟨by rw [cell 83 (by decide)]; exact y1, by rw [o1, o2, o3]; exact y2⟩
  · refine (h.ins j hj).fr (by rw [cell 103 (by decide)]) (by rw [cell 113 (by decide)]) (by rw [cell 123 (by decide)]) fun y => ?_
    have := stC_lt R c (v := lenN R c) hj y
    obtain ⟨o1, o2, _⟩ := f.old (N0 + phC m 6 + stC R c j) (by omega)
    exact ⟨o1, o2⟩
def CK (R G : Sto) (B K k : Nat) (X : Sto) : Prop := (∀ j, j ≠ 3 → j ≠ 20 → j ≠ 21 → j ≠ 22 → j ≠ 23 → j < 83 → X j = G j) ∧ (X 3 2 = nJ (nst R (G 14) (G 18) B k).1) ∧ (∀ c, c < B → (∀ j, j < k → topN (G 14) B j ≠ c) → X 20 c = -1) ∧ (∀ j, j < k → XB R X (topN (G 14) B j) (nst R (G 14) (G 18) B j).1 (G 18 (topN (G 14) B j)) (sst R (G 14) (G 18) B j)) ∧ (∀ n, n < 6 → X 21 n = -1 ∧ X 22 n = -1 ∧ X 23 n = nJ n)
theorem CK.cell {R G : Sto} {B K k : Nat} {X : Sto} (h : CK R G B K k X) : ∀ j, j ≠ 3 → j ≠ 20 → j ≠ 21 → j ≠ 22 → j ≠ 23 → j < 83 → X j = G j := h.1
theorem CK.num {R G : Sto} {B K k : Nat} {X : Sto} (h : CK R G B K k X) : X 3 2 = nJ (nst R (G 14) (G 18) B k).1 := h.2.1
theorem CK.t20 {R G : Sto} {B K k : Nat} {X : Sto} (h : CK R G B K k X) : ∀ c, c < B → (∀ j, j < k → topN (G 14) B j ≠ c) → X 20 c = -1 := h.2.2.1
theorem CK.xb {R G : Sto} {B K k : Nat} {X : Sto} (h : CK R G B K k X) : ∀ j, j < k → XB R X (topN (G 14) B j) (nst R (G 14) (G 18) B j).1 (G 18 (topN (G 14) B j)) (sst R (G 14) (G 18) B j) := h.2.2.2.1
theorem CK.six {R G : Sto} {B K k : Nat} {X : Sto} (h : CK R G B K k X) : ∀ n, n < 6 → X 21 n = -1 ∧ X 22 n = -1 ∧ X 23 n = nJ n := h.2.2.2.2
theorem x_na45 {P : Int32 × Sto → Prop} {k : Sto → Option (Int32 × Sto)} {G R : Sto} {B K : Nat} (h : PR G R B) (h0 : 0 < B) (hO : OD (G 14) B K) (h27 : G 2 7 = nJ K) (h16 : ∀ j, j < K → G 16 j = nJ (topN (G 14) B j)) (hz : G 14 0 = -1)
    (hk : ∀ X, CK R G B K K X → Ok P (k X)) :
    ∀ n i X, CK R G B K i X → i ≤ K → K - i < n → Ok P (l_G_nameAll_45 k n (nJ i) X) := by
  intro n
  have hB := h.pf.hB
  have hK := hO.le
  induction n with
  | zero => intro i X _ h1 h2; omega
  | succ n ih =>
    intro i X hC hi hn
    unfold l_G_nameAll_45
    rw [hC.cell 2 (by omega) (by omega) (by omega) (by omega) (by omega) (by omega), h27]
    refine Ok.leN (by omega) (by omega) (fun q => ?_) (fun q => ?_)
    · have : i = K := by omega
      subst this
      exact hk X hC
    refine Ok.okN (by omega) (by decide) ?_
    rw [nJ_tn (by omega), hC.cell 16 (by omega) (by omega) (by omega) (by omega) (by omega) (by omega), h16 i q, nJ_succ (by omega)]
    have hF := OD.of hB h0 hO q
    have hlt := hF.lt
    have hX : PR X R B := h.fx fun j hj => by
      rcases hj with y | y | y
      · exact hC.cell j (by omega) (by omega) (by omega) (by omega) (by omega) (by omega)
      · exact hC.cell j (by omega) (by omega) (by omega) (by omega) (by omega) (by omega)
      · exact hC.cell j (by omega) (by omega) (by omega) (by omega) (by omega) (by omega)
    have e14 : X 14 = G 14 := hC.cell 14 (by omega) (by omega) (by omega) (by omega) (by omega) (by omega)
    have e18 : X 18 = G 18 := hC.cell 18 (by omega) (by omega) (by omega) (by omega) (by omega) (by omega)
    have hle := nst_le (R := R) (par := G 14) (ph := G 18) h.pf hB i (fun j hj => (OD.of hB h0 hO (k := j) (by omega)).lt)
    refine Ok.bind (x_nameBlock (s := sst R (G 14) (G 18) B i) hX hlt (by omega) hC.num (hC.t20 _ hlt fun j hj => hF.new j hj) ?_) (fun r M5 h5 => ?_)
    · rw [e14]
      by_cases z : topN (G 14) B i = 0
      · refine Or.inl ⟨by rw [z]; exact hz, fun v hv => ?_⟩
        unfold sst
        rw [if_pos z]
      · obtain ⟨j, j1, j2⟩ := hF.up z
        have hj := (OD.of hB h0 hO (k := j) (by omega)).lt
        refine Or.inr ⟨topN (G 14) B j, by omega, hF.new j j1, j2, fun w hw => ?_⟩
        rw [(hC.xb j j1).cur w hw]
        unfold sst
        rw [if_neg z, j2, tn_nJ (by omega), nst_at hB h0 hO j1 (by omega)]
        rfl
    dsimp only at h5 ⊢
    obtain ⟨f5, n5, x5⟩ := h5
    rw [e18] at n5 x5
    refine ih (i + 1) M5 ⟨fun j a1 a2 a3 a4 a5 a6 => ?_, n5, fun c hc hno => ?_, fun j hj => ?_, fun n hn => ?_⟩ (by omega) (by omega)
    · rw [f5.cell j a1 a2 a3 a4 a5 (by omega) (by omega) (by omega) (by omega) (by omega)]; exact hC.cell j a1 a2 a3 a4 a5 a6
    · rw [f5.r20 c (fun y => hno i (by omega) y.symm)]
      exact hC.t20 c hc fun j hj => hno j (by omega)
    · by_cases z : j = i
      · rw [z]; exact x5
      · have hj' := (OD.of hB h0 hO (k := j) (by omega)).lt
        exact (hC.xb j (by omega)).keep (h.pf.lenN_le (by omega)) (by omega) (by omega) (hF.new j (by omega)) (nst_mono (by omega)) f5
    · have : 6 ≤ (nst R (G 14) (G 18) B i).1 := by
        have : ∀ k, 6 ≤ (nst R (G 14) (G 18) B k).1 := by
          intro k
          induction k with
          | zero => exact Nat.le_refl 6
          | succ k ihk =>
            show 6 ≤ (nst R (G 14) (G 18) B k).1 + _ + _
            omega
        exact this i
      obtain ⟨o1, o2, o3⟩ := f5.old n (by omega)
      rw [o1, o2, o3]; exact hC.six n hn
theorem x_nameAll {G R : Sto} {B K : Nat} (h : PR G R B) (h0 : 0 < B) (hS : SW G R B) (hO : OD (G 14) B K) (h27 : G 2 7 = nJ K) (h16 : ∀ j, j < K → G 16 j = nJ (topN (G 14) B j)) :
    Ok (fun a => (∀ c, c < B → ∀ x, x < 32 → (bt (a.2 18 c) x = true ↔ PhS R B c x)) ∧ (∀ j, j ≠ 3 → j ≠ 18 → j ≠ 19 → j ≠ 20 → j ≠ 21 → j ≠ 22 → j ≠ 23 → j < 83 → a.2 j = G j) ∧
      a.2 3 2 = nJ (nst R (a.2 14) (a.2 18) B K).1 ∧ (∀ c, c < B → (∀ j, j < K → topN (a.2 14) B j ≠ c) → a.2 20 c = -1) ∧ (∀ n, n < 6 → a.2 21 n = -1 ∧ a.2 22 n = -1 ∧ a.2 23 n = nJ n) ∧
      ∀ j, j < K → XB R a.2 (topN (a.2 14) B j) (nst R (a.2 14) (a.2 18) B j).1 (a.2 18 (topN (a.2 14) B j)) (sst R (a.2 14) (a.2 18) B j)) (m_G_nameAll G) := by
  have hB := h.pf.hB
  unfold m_G_nameAll
  refine Ok.bind (x_findDefined h) (fun r1 M1 h1 => ?_)
  dsimp only at h1 ⊢
  obtain ⟨f1, d1⟩ := h1
  have p1 : PR M1 R B := h.fx fun k hk => f1 k (by omega)
  refine Ok.bind (x_placePhis ⟨p1, by rw [f1 15 (by decide)]; exact hS.fro, d1⟩) (fun r2 M2 h2 => ?_)
  dsimp only at h2 ⊢
  obtain ⟨f2, d2⟩ := h2
  refine Ok.wr (fun M3 q3 => ?_)
  refine Ok.wr (fun M4 q4 => ?_)
  have f4 : ∀ k, k ≠ 3 → k ≠ 18 → k ≠ 19 → k ≠ 20 → M4 k = G k := fun k k1 k2 k3 k4 => by rw [q4, up2_ne _ _ _ k1, q3, fillA_ne _ _ _ k4, f2 k k2, f1 k k3]
  have e18 : M4 18 = M2 18 := by rw [q4, up2_ne _ _ _ (by decide), q3, fillA_ne _ _ _ (by decide)]
  have e20 : ∀ c, c < 10 → M4 20 c = -1 := fun c hc => by rw [q4, up2_ne _ _ _ (by decide), q3, fillA_at, if_pos ⟨rfl, hc⟩]
  have p4 : PR M4 R B := h.fx fun k hk => f4 k (by omega) (by omega) (by omega) (by omega)
  have e14 : M4 14 = G 14 := f4 14 (by decide) (by decide) (by decide) (by decide)
  have loop : ∀ n v X, (∀ k, k ≠ 3 → k ≠ 21 → k ≠ 22 → k ≠ 23 → X k = M4 k) → X 3 2 = nJ v → (∀ n, n < v → X 21 n = -1 ∧ X 22 n = -1 ∧ X 23 n = nJ n) → v ≤ 6 → 6 - v < n → Ok (fun a : Int32 × Sto => (∀ c, c < B → ∀ x, x < 32 → (bt (a.2 18 c) x = true ↔ PhS R B c x)) ∧ (∀ j, j ≠ 3 → j ≠ 18 → j ≠ 19 → j ≠ 20 → j ≠ 21 → j ≠ 22 → j ≠ 23 → j < 83 → a.2 j = G j) ∧
      a.2 3 2 = nJ (nst R (a.2 14) (a.2 18) B K).1 ∧ (∀ c, c < B → (∀ j, j < K → topN (a.2 14) B j ≠ c) → a.2 20 c = -1) ∧ (∀ n, n < 6 → a.2 21 n = -1 ∧ a.2 22 n = -1 ∧ a.2 23 n = nJ n) ∧
      ∀ j, j < K → XB R a.2 (topN (a.2 14) B j) (nst R (a.2 14) (a.2 18) B j).1 (a.2 18 (topN (a.2 14) B j)) (sst R (a.2 14) (a.2 18) B j)) (l_G_nameAll_23 j_G_nameAll_43 n (nJ v) X) := by
    intro n
    induction n with
    | zero => intro v X _ _ _ h1 h2; omega
    | succ n ih =>
      intro v X hf hnum hn6 hv hn
      unfold l_G_nameAll_23
      refine Ok.leN (a := 6) (by omega) (by omega) (fun q => ?_) (fun q => ?_)
      · have : v = 6 := by omega
        subst this
        unfold j_G_nameAll_43
        have pX : PR X R B := p4.fx fun k hk => hf k (by omega) (by omega) (by omega) (by omega)
        have x14 : X 14 = G 14 := by rw [hf 14 (by decide) (by decide) (by decide) (by decide)]; exact e14
        have x18 : X 18 = M2 18 := by rw [hf 18 (by decide) (by decide) (by decide) (by decide)]; exact e18
        refine x_na45 (G := X) (K := K) pX h0 (by rw [x14]; exact hO) (by rw [hf 2 (by decide) (by decide) (by decide) (by decide), f4 2 (by decide) (by decide) (by decide) (by decide)]; exact h27) (by rw [x14, hf 16 (by decide) (by decide) (by decide) (by decide), f4 16 (by decide) (by decide) (by decide) (by decide)]; exact h16) (by rw [x14]; exact hS.non 0 h0 (Or.inl rfl)) (fun Y hC => ?_) FU 0 X ⟨fun _ _ _ _ _ _ _ => rfl, hnum, fun c hc _ => by rw [hf 20 (by decide) (by decide) (by decide) (by decide)]; exact e20 c (by omega), fun j hj => by omega, hn6⟩ (by omega) (by have := hO.le; unfold FU; omega)
        have y14 : Y 14 = X 14 := hC.cell 14 (by omega) (by omega) (by omega) (by omega) (by omega) (by omega)
        have y18 : Y 18 = X 18 := hC.cell 18 (by omega) (by omega) (by omega) (by omega) (by omega) (by omega)
        refine ⟨(0, Y), rfl, ?_, fun j a1 a2 a3 a4 a5 a6 a7 a8 => ?_, ?_, ?_, hC.six, ?_⟩
        · show ∀ c, c < B → ∀ x, x < 32 → (bt (Y 18 c) x = true ↔ PhS R B c x)
          rw [y18, x18]; exact d2
        · show Y j = G j
          rw [hC.cell j a1 a4 a5 a6 a7 a8, hf j a1 a5 a6 a7, f4 j a1 a2 a3 a4]
        · show Y 3 2 = nJ (nst R (Y 14) (Y 18) B K).1
          rw [y14, y18]; exact hC.num
        · show ∀ c, c < B → (∀ j, j < K → topN (Y 14) B j ≠ c) → Y 20 c = -1
          rw [y14]; exact hC.t20
        · show ∀ j, j < K → XB R Y (topN (Y 14) B j) (nst R (Y 14) (Y 18) B j).1 (Y 18 (topN (Y 14) B j)) (sst R (Y 14) (Y 18) B j)
          rw [y14, y18]; exact hC.xb
      · rw [newName_eq hnum (by omega), nJ_succ (by omega)]
        refine Ok.bindS ?_
        dsimp only
        refine ih (v + 1) _ (fun k k1 k2 k3 k4 => by rw [up2_ne _ _ _ k1, up2_ne _ _ _ k4, up2_ne _ _ _ k3, up2_ne _ _ _ k2]; exact hf k k1 k2 k3 k4) (by rw [up2_at, if_pos ⟨rfl, rfl⟩]) (fun n hn' => ?_) (by omega) (by omega)
        refine ⟨?_, ?_, ?_⟩
        · rw [up2_ne _ _ _ (by decide), up2_ne _ _ _ (by decide), up2_ne _ _ _ (by decide), up2_at]
          by_cases z : n = v
          · rw [if_pos ⟨rfl, z⟩]
          · rw [if_neg (fun y => z y.2)]; exact (hn6 n (by omega)).1
        · rw [up2_ne _ _ _ (by decide), up2_ne _ _ _ (by decide), up2_at]
          by_cases z : n = v
          · rw [if_pos ⟨rfl, z⟩]
          · rw [if_neg (fun y => z y.2), up2_ne _ _ _ (by decide)]; exact (hn6 n (by omega)).2.1
        · rw [up2_ne _ _ _ (by decide), up2_at]
          by_cases z : n = v
          · rw [if_pos ⟨rfl, z⟩, z]
          · rw [if_neg (fun y => z y.2), up2_ne _ _ _ (by decide), up2_ne _ _ _ (by decide)]; exact (hn6 n (by omega)).2.2
  refine loop FU 0 M4 (fun _ _ _ _ _ => rfl) (by rw [q4, up2_at, if_pos ⟨rfl, rfl⟩]; rfl) (fun n hn => by omega) (by omega) (by unfold FU; omega)
end
section
theorem nst_fr {R R' : Sto} (e1 : R' 1 = R 1) (e2 : R' 2 = R 2) (e3 : R' 3 = R 3) (par ph : Nat → Int32) (B : Nat) : ∀ k, nst R' par ph B k = nst R par ph B k
  | 0 => rfl
  | k + 1 => by
    have hl : ∀ b, lenN R' b = lenN R b := fun b => by unfold lenN; rw [e1]
    show (((nst R' par ph B k).1 + phC (ph (topN par B k)) 6 + stC R' (topN par B k) (lenN R' (topN par B k)), _) : Nat × (Nat → Nat → Nat)) = ((nst R par ph B k).1 + phC (ph (topN par B k)) 6 + stC R (topN par B k) (lenN R (topN par B k)), _)
    rw [nst_fr e1 e2 e3 par ph B k, stC_fr e2, hl]
    congr 1
    funext c v
    by_cases z : c = topN par B k
    · rw [if_pos z, if_pos z, cu_fr e2 e3]
    · rw [if_neg z, if_neg z]
theorem nst_congr {R : Sto} {par par' ph ph' : Nat → Int32} {B : Nat} (h0 : 0 < B) (hp : ∀ c, c < B → par' c = par c) (hh : ∀ c, c < B → ph' c = ph c) : ∀ k, (∀ j, j < k → topN par B j < B) → nst R par' ph' B k = nst R par ph B k
  | 0, _ => rfl
  | k + 1, hk => by
    have ht : topN par' B k = topN par B k := by unfold topN; rw [stN_congr h0 hp]
    have hlt := hk k (by omega)
    have ih := nst_congr (R := R) h0 hp hh k (fun j hj => hk j (by omega))
    show (((nst R par' ph' B k).1 + phC (ph' (topN par' B k)) 6 + stC R (topN par' B k) (lenN R (topN par' B k)), _) : Nat × (Nat → Nat → Nat)) = ((nst R par ph B k).1 + phC (ph (topN par B k)) 6 + stC R (topN par B k) (lenN R (topN par B k)), _)
    rw [ih, ht, hh _ hlt, hp _ hlt]
def RB8 (R M : Sto) (B K : Nat) : Prop := (OD (M 12) B K) ∧ (M 0 17 = nJ (nst R (M 12) (M 13) B K).1) ∧ ((∀ c, c < B → (c = 0 ∨ ¬ Rch R B c) → M 12 c = -1) ∧ (∀ c, c < B → c ≠ 0 → Rch R B c → ∃ p, p < B ∧ M 12 c = nJ p ∧ IDom (Ed R B) c p)) ∧ (∀ c, c < B → ∀ x, x < 32 → (bt (M 13 c) x = true ↔ PhS R B c x))
theorem RB8.od {R M : Sto} {B K : Nat} (h : RB8 R M B K) : OD (M 12) B K := h.1
theorem RB8.num {R M : Sto} {B K : Nat} (h : RB8 R M B K) : M 0 17 = nJ (nst R (M 12) (M 13) B K).1 := h.2.1
theorem RB8.dn {R M : Sto} {B K : Nat} (h : RB8 R M B K) : (∀ c, c < B → (c = 0 ∨ ¬ Rch R B c) → M 12 c = -1) ∧ (∀ c, c < B → c ≠ 0 → Rch R B c → ∃ p, p < B ∧ M 12 c = nJ p ∧ IDom (Ed R B) c p) := h.2.2.1
theorem RB8.ph {R M : Sto} {B K : Nat} (h : RB8 R M B K) : ∀ c, c < B → ∀ x, x < 32 → (bt (M 13 c) x = true ↔ PhS R B c x) := h.2.2.2
theorem q_build {R : Sto} {B N : Nat} (h : IR R B N) (h0 : 0 < B) : Ok (fun a => (∃ K, a.1 = a.2 0 17 ∧ a.2 0 0 = 0 ∧ RB8 R a.2 B K) ∧ Fr PL PL0 R a.2) (m_R_build R) := by
  have hB := h.pf.hB
  have hb := h.pf.blk
  unfold m_R_build j_R_build_13
  rw [hb, if_neg (fun z => by have := nJ_inj (j := 0) (by omega) (by omega) z; omega)]
  refine Ok.fails (Or.inl rfl) (fun _ => ?_) (fun y => absurd y (by decide))
  dsimp only
  generalize hM1 : up2 R 0 0 0 = M1
  have f1 : Fr PL PL0 R M1 := by rw [← hM1]; exact Fr.rfl.up0 (by decide)
  have z00 : M1 0 0 = 0 := by rw [← hM1]; exact up0_at R 0
  have p1 := h.pf.fr f1
  refine Ok.bind (r_reaches p1 h0) (fun r2 M2 h2 => ?_)
  dsimp only at h2 ⊢
  obtain ⟨f2, R2⟩ := h2
  have p2 := p1.fr (f2.mono (by decide) (by decide))
  refine Ok.bind (q_dominates p2 h0 R2) (fun r3 M3 h3 => ?_)
  dsimp only at h3 ⊢
  obtain ⟨f3, D3⟩ := h3
  have p3 := p2.fr (f3.mono (by decide) (by decide))
  have R3 := R2.fr (f3.mono (by decide) (by decide))
  refine Ok.bind (Ok.both (r_placePhis p3 R3) (q_placePhis p3 R3 D3)) (fun r4 M4 h4 => ?_)
  dsimp only at h4 ⊢
  obtain ⟨h4, f4, g4⟩ := h4
  have p4 := p3.fr (f4.mono (by decide) (by decide))
  have R4 := R3.fr (f4.mono (by decide) (by decide))
  have e12 : M4 12 = M3 12 := f4.1 12 (by decide) (by decide)
  have z12 : M4 0 12 = M3 0 12 := f4.2 12 (by decide)
  have eE : Ed M4 B = Ed M3 B := Ed_fr (f4.1 6 (by decide) (by decide)) (f4.1 8 (by decide) (by decide)) (f4.1 9 (by decide) (by decide)) B
  have hnon : ∀ c, c < B → bt (M4 0 12) c = false → M4 12 c = -1 := fun c hc hr => by rw [e12]; rw [z12] at hr; exact D3.non c hc (Or.inr hr)
  have D4 : DM M4 B := by
    refine ⟨?_, ?_⟩
    · rw [z12, e12]; exact D3.non
    · rw [z12, e12, eE]
      intro c hc c0 cr
      obtain ⟨p, p1, p2, p3, p4, _⟩ := D3.par c hc c0 cr
      exact ⟨p, p1, p3, p2, p4⟩
  refine Ok.bind (Ok.both (r_nameAll p4 h0 R4 D4) (q_nameAll p4 h0 hnon)) (fun r5 M5 h5 => ?_)
  dsimp only at h5 ⊢
  obtain ⟨⟨f5, N5, A5⟩, _, K, hK, n5, _⟩ := h5
  have p5 := p4.fr (f5.mono (by decide) (by decide))
  have R5 := R4.fr (f5.mono (by decide) (by decide))
  have o5 : ∀ n, 130 ≤ n → M5 24 n = 0 ∧ M5 25 n = 0 := by
    have e : ∀ k, k = 24 ∨ k = 25 → M5 k = R k := fun k hk => by
      have h0 : k ≠ 0 := by omega
      rw [f5.1 k h0 (by rcases hk with y | y <;> rw [y] <;> decide), f4.1 k h0 (by rcases hk with y | y <;> rw [y] <;> decide), f3.1 k h0 (by rcases hk with y | y <;> rw [y] <;> decide), f2.1 k h0 (by rcases hk with y | y <;> rw [y] <;> decide), ← hM1, up2_ne _ _ _ h0]
    rw [e 24 (Or.inl rfl), e 25 (Or.inr rfl)]; exact h.out
  refine Ok.bind (r_findKnown p5 R5 A5 h0 o5) (fun r6 M6 h6 => ?_)
  dsimp only at h6 ⊢
  obtain ⟨f6, K6, _, _⟩ := h6
  have p6 := p5.fr (f6.mono (by decide) (by decide))
  have A6 : NA M6 B N5 := by
    have cell : ∀ k, k ≠ 0 → k ∉ [23, 24, 25, 26] → M6 k = M5 k := f6.1
    refine ⟨by rw [f6.2 17 (by decide)]; exact A5.num, A5.lo, A5.hi, fun c hc hb => ?_, by unfold lenN; rw [cell 15 (by decide) (by decide), cell 1 (by decide) (by decide), f6.2 12 (by decide)]; exact A5.sit⟩
    rw [f6.2 12 (by decide)] at hb
    obtain ⟨c1, c2⟩ := A5.nb c hc hb
    refine ⟨c1, c2.fr (Nat.le_refl _) (cell _ (by decide) (by decide)) (cell _ (by decide) (by decide)) (cell _ (by decide) (by decide)) (cell _ (by decide) (by decide)) (cell _ (by decide) (by decide)) (fun n _ => by rw [cell 15 (by decide) (by decide)]) (fun q hq w _ => ?_) (by rw [cell 20 (by decide) (by decide)]) (p5.lenN_le hc) (fun p w _ _ _ _ _ => by rw [cell 21 (by decide) (by decide)])⟩
    rw [cell q (by omega) (by rcases hq with z | z | z | z | z <;> rw [z] <;> decide)]
  refine Ok.bind (r_findNeeded ⟨p6, A6, K6⟩) (fun r7 M7 f7 => ?_)
  dsimp only at f7 ⊢
  refine Ok.bzt (Or.inr rfl) ?_
  refine Ok.wr (fun M8 q8 => ?_)
  have f8 : Fr [26] [11] M6 M8 := by rw [q8]; exact (f7.mono (by decide) (by decide)).up0 (by decide)
  have f48 : Fr [14, 15, 16, 17, 18, 19, 20, 21, 22, 23, 24, 25, 26] [11, 17, 27] M4 M8 := ((f5.mono (by decide) (by decide)).trans (f6.mono (by decide) (by decide))).trans (f8.mono (by decide) (by decide))
  have f14 : Fr [10, 11, 12, 13] [12] M1 M4 := ((f2.mono (by decide) (by decide)).trans (f3.mono (by decide) (by decide))).trans (f4.mono (by decide) (by decide))
  have cR : ∀ k, k ≠ 0 → k ∉ [10, 11, 12, 13] → M4 k = R k := fun k k0 hk => by rw [f14.1 k k0 hk, ← hM1, up2_ne _ _ _ k0]
  have c3R : ∀ k, k ≠ 0 → k ∉ [10, 11, 12] → M3 k = R k := fun k k0 hk => by
    have f13 : Fr [10, 11, 12] [12] M1 M3 := (f2.mono (by decide) (by decide)).trans (f3.mono (by decide) (by decide))
    rw [f13.1 k k0 hk, ← hM1, up2_ne _ _ _ k0]
  have eR3 : Ed M3 B = Ed R B := Ed_fr (c3R 6 (by decide) (by decide)) (c3R 8 (by decide) (by decide)) (c3R 9 (by decide) (by decide)) B
  have rR3 : Rch M3 B = Rch R B := Rch_fr (c3R 6 (by decide) (by decide)) (c3R 8 (by decide) (by decide)) (c3R 9 (by decide) (by decide)) B
  have sR3 : SameF R M3 := ⟨c3R 1 (by decide) (by decide), c3R 2 (by decide) (by decide), c3R 3 (by decide) (by decide), c3R 6 (by decide) (by decide), c3R 8 (by decide) (by decide), c3R 9 (by decide) (by decide)⟩
  have m12 : M8 12 = M4 12 := f48.1 12 (by decide) (by decide)
  have m13 : M8 13 = M4 13 := f48.1 13 (by decide) (by decide)
  have hr3 : ∀ c, c < B → (bt (M3 0 12) c = true ↔ Rch R B c) := fun c hc => by
    rw [R3.rch c (by omega), rR3]
    exact ⟨fun y => y.2, fun y => ⟨by omega, y⟩⟩
  refine ⟨(_, M8), rfl, ⟨K, rfl, ?_, ?_, ?_, ⟨fun c hc hz => ?_, fun c hc c0 cr => ?_⟩, fun c hc x hx => ?_⟩, (f1.trans (f14.mono (by decide) (by decide))).trans (f48.mono (by decide) (by decide))⟩
  · show M8 0 0 = 0
    rw [f48.2 0 (by decide), f14.2 0 (by decide)]; exact z00
  · show OD (M8 12) B K
    rw [m12]; exact hK
  · show M8 0 17 = nJ (nst R (M8 12) (M8 13) B K).1
    rw [m12, m13, f8.2 17 (by decide), f6.2 17 (by decide), n5, nst_fr (cR 1 (by decide) (by decide)) (cR 2 (by decide) (by decide)) (cR 3 (by decide) (by decide))]
  · show M8 12 c = -1
    rw [m12, e12]
    refine D3.non c hc (hz.elim Or.inl fun y => Or.inr ?_)
    rw [Bool.eq_false_iff]
    exact fun u => y ((hr3 c hc).mp u)
  · show ∃ p, p < B ∧ M8 12 c = nJ p ∧ IDom (Ed R B) c p
    rw [m12, e12, ← eR3]
    exact D3.par c hc c0 ((hr3 c hc).mpr cr)
  · show bt (M8 13 c) x = true ↔ PhS R B c x
    rw [m13, g4 c hc x hx, PhS_fr sR3]
theorem x_build {X R : Sto} {B : Nat} (h : PR X R B) (h0 : 0 < B) (hT : TX X) : Ok (fun a => a.1 = 0 ∧ ∃ K par ph, OD par B K ∧ a.2.1 = nJ (nst R par ph B K).1 ∧ (∀ c, c < B → (c = 0 ∨ ¬ Rch R B c) → par c = -1) ∧ (∀ c, c < B → c ≠ 0 → Rch R B c → ∃ p, p < B ∧ par c = nJ p ∧ IDom (Ed R B) c p) ∧ ∀ c, c < B → ∀ x, x < 32 → (bt (ph c) x = true ↔ PhS R B c x)) (m_N_build X) := by
  have hB := h.pf.hB
  unfold m_N_build
  rw [h.blk, if_neg (fun z => by have := nJ_inj (j := 0) (by omega) (by omega) z; omega)]
  refine Ok.bind (Ok.both (s_m_S_survey hT.ix) (x_survey h h0)) (fun r1 M1 h1 => ?_)
  dsimp only at h1 ⊢
  obtain ⟨i1, p1, s1, K, k1, k2, k3⟩ := h1
  refine Ok.bind (Ok.both (s_m_G_nameAll i1.1) (x_nameAll p1 h0 s1 k1 k2 k3)) (fun r2 M2 h2 => ?_)
  dsimp only at h2 ⊢
  obtain ⟨i2, g2, c2, n2, _⟩ := h2
  have i2 : IX 126 1200 X M2 := i2.1
  have iz : IZ 126 1200 M2 M2 := ⟨i2.1, fun _ _ _ => rfl, (i2.self).2.1, i2.2.2.2⟩
  refine Ok.bind (t_m_K_settle iz) (fun r3 M3 h3 => ?_)
  dsimp only at h3 ⊢
  refine Ok.bind (t_m_D_collect h3.1) (fun r4 M4 h4 => ?_)
  dsimp only at h4 ⊢
  refine Ok.bzt (Or.inr rfl) ?_
  refine Ok.wr (fun M5 q5 => ?_)
  have e32 : M5 3 2 = M2 3 2 := by rw [q5, up2_ne _ _ _ (by decide)]; exact h4.1.2.1 3 2 rfl
  have e14 : M2 14 = M1 14 := c2 14 (by decide) (by decide) (by decide) (by decide) (by decide) (by decide) (by decide) (by decide)
  have hr : ∀ c, c < B → (bt (M1 2 1) c = true ↔ Rch R B c) := fun c hc => by
    rw [s1.sv.rch c (by omega)]
    exact ⟨fun y => y.2, fun y => ⟨by omega, y⟩⟩
  refine ⟨(0, _, M5), rfl, rfl, K, M1 14, M2 18, k1, ?_, fun c hc hz => ?_, fun c hc c0 cr => s1.par c hc c0 ((hr c hc).mpr cr), g2⟩
  · show M5 3 2 = _
    rw [e32, n2, e14]
  · refine s1.non c hc (hz.elim Or.inl fun y => Or.inr ?_)
    rw [Bool.eq_false_iff]
    exact fun u => y ((hr c hc).mp u)
theorem build_alike {X R : Sto} {B N : Nat} (h : PR X R B) (hT : TX X) (hR : IR R B N) (h0 : 0 < B) : ∃ r MX r2 MR, m_N_build X = some (0, r, MX) ∧ m_R_build R = some (r2, MR) ∧ MR 0 0 = 0 ∧ r2 = r ∧ Fr PL PL0 R MR := by
  have hB := h.pf.hB
  obtain ⟨⟨c, r, MX⟩, e1, g0, K, par, ph, g1, g2, g3, g4, g5⟩ := x_build h h0 hT
  obtain ⟨⟨r2, MR⟩, e2, ⟨L, q0, q1, q2⟩, fR⟩ := q_build hR h0
  have g0 : c = 0 := g0
  have q2 : RB8 R MR B L := q2
  subst g0
  refine ⟨r, MX, r2, MR, e1, e2, q1, ?_, fR⟩
  have hpar : ∀ c, c < B → par c = MR 12 c := fun c hc => by
    by_cases z : c = 0 ∨ ¬ Rch R B c
    · rw [g3 c hc z]; exact (q2.dn.1 c hc z).symm
    · have c0 : c ≠ 0 := fun y => z (Or.inl y)
      have cr : Rch R B c := Classical.byContradiction fun y => z (Or.inr y)
      obtain ⟨p, _, p2, p3⟩ := g4 c hc c0 cr
      obtain ⟨q, _, u2, u3⟩ := q2.dn.2 c hc c0 cr
      rw [p2, u2, IDom.uniq cr p3 u3]
  have hph : ∀ c, c < B → ph c = MR 13 c := fun c hc => bt_ext fun x hx => by
    have a := g5 c hc x hx
    have b := q2.ph c hc x hx
    cases e : bt (ph c) x with
    | true => exact (b.mpr (a.mp e)).symm
    | false =>
      cases e' : bt (MR 13 c) x with
      | true => rw [a.mpr (b.mp e')] at e; cases e
      | false => rfl
  have hOD : OD (MR 12) B K := by
    have e := stN_congr (par := MR 12) (par' := par) h0 hpar
    exact ⟨g1.le, by rw [← e]; exact g1.z, fun j hj => by rw [← e]; exact g1.pos j hj⟩
  have hKL := hOD.uniq q2.od
  subst hKL
  have hn := nst_congr (R := R) (par := MR 12) (par' := par) (ph := MR 13) (ph' := ph) h0 hpar hph K (fun j hj => (OD.of hB h0 q2.od hj).lt)
  have q0 : r2 = MR 0 17 := q0
  have g2 : r = nJ (nst R par ph B K).1 := g2
  rw [q0, q2.num, g2, hn]
end
section
theorem PR.ix {X X' R : Sto} {B : Nat} (h : PR X R B) (i : IX 126 1200 X X') : PR X' R B := by
  have e : ∀ k, (7 ≤ k ∧ k ≤ 11) ∨ (43 ≤ k ∧ k ≤ 82) → X' k = X k := fun k hk => funext fun j => i.2.1 k j (by
    unfold pcl
    rcases hk with y | y
    · have h1 : Nat.ble 7 k = true := Nat.ble_eq.mpr y.1
      have h2 : Nat.ble k 11 = true := Nat.ble_eq.mpr y.2
      rw [h1, h2]; simp
    · have h1 : Nat.ble 43 k = true := Nat.ble_eq.mpr y.1
      have h2 : Nat.ble k 82 = true := Nat.ble_eq.mpr y.2
      rw [h1, h2]; simp)
  refine ⟨h.pf, by rw [i.2.1 1 0 rfl]; exact h.blk, fun b => by rw [e 7 (by omega)]; exact h.len b, fun b hb => by rw [e 8 (by omega), e 9 (by omega), e 10 (by omega), e 11 (by omega)]; exact h.fin b hb, fun b i hb hi => ?_⟩
  rw [e (43 + b) (by omega), e (53 + b) (by omega), e (63 + b) (by omega), e (73 + b) (by omega)]
  exact h.row b i hb hi
theorem PR.rr {X R R' : Sto} {B : Nat} (h : PR X R B) (hP : PF R' B) (e : ∀ k, 1 ≤ k → k ≤ 9 → R' k = R k) : PR X R' B :=
  ⟨hP, h.blk, by rw [e 1 (by omega) (by omega)]; exact h.len, by rw [e 6 (by omega) (by omega), e 7 (by omega) (by omega), e 8 (by omega) (by omega), e 9 (by omega) (by omega)]; exact h.fin, by rw [e 2 (by omega) (by omega), e 3 (by omega) (by omega), e 4 (by omega) (by omega), e 5 (by omega) (by omega)]; exact h.row⟩
theorem PR.fin1 {X X' R R' : Sto} {B b0 : Nat} (h : PR X R B) (hP : PF R' B) (x1 : X' 1 0 = X 1 0) (x7 : X' 7 = X 7) (xr : ∀ k, 43 ≤ k → k ≤ 82 → X' k = X k) (rk : ∀ k, 1 ≤ k → k ≤ 5 → R' k = R k)
    (ho : ∀ b, b ≠ b0 → X' 8 b = X 8 b ∧ X' 9 b = X 9 b ∧ X' 10 b = X 10 b ∧ X' 11 b = X 11 b ∧ R' 6 b = R 6 b ∧ R' 7 b = R 7 b ∧ R' 8 b = R 8 b ∧ R' 9 b = R 9 b)
    (hb : X' 8 b0 = R' 6 b0 ∧ (R' 6 b0 = 1 → X' 10 b0 = R' 8 b0 ∧ X' 11 b0 = R' 8 b0) ∧ (R' 6 b0 = 2 → X' 9 b0 = R' 7 b0 ∧ X' 10 b0 = R' 8 b0 ∧ X' 11 b0 = R' 9 b0)) : PR X' R' B := by
  refine ⟨hP, x1.trans h.blk, fun b => by rw [x7, rk 1 (by omega) (by omega)]; exact h.len b, fun b hb' => ?_, fun b i hb' hi => ?_⟩
  · by_cases z : b = b0
    · rw [z]; exact hb
    · obtain ⟨o1, o2, o3, o4, o5, o6, o7, o8⟩ := ho b z
      rw [o1, o2, o3, o4, o5, o6, o7, o8]; exact h.fin b hb'
  · rw [xr (43 + b) (by omega) (by omega), xr (53 + b) (by omega) (by omega), xr (63 + b) (by omega) (by omega), xr (73 + b) (by omega) (by omega), rk 2 (by omega) (by omega), rk 3 (by omega) (by omega), rk 4 (by omega) (by omega), rk 5 (by omega) (by omega)]
    exact h.row b i hb' hi
theorem sE_at (M : Sto) (b : Nat) (e v t u : Int32) (c : Nat) : sE M b e v t u 8 c = (if c = b then e else M 8 c) ∧ sE M b e v t u 9 c = (if c = b then v else M 9 c) ∧ sE M b e v t u 10 c = (if c = b then t else M 10 c) ∧ sE M b e v t u 11 c = (if c = b then u else M 11 c) := by
  unfold sE
  refine ⟨?_, ?_, ?_, ?_⟩
  · rw [up2_ne _ _ _ (by decide), up2_ne _ _ _ (by decide), up2_ne _ _ _ (by decide), up2_at]
    by_cases z : c = b
    · rw [if_pos ⟨rfl, z⟩, if_pos z]
    · rw [if_neg (fun y => z y.2), if_neg z]
  · rw [up2_ne _ _ _ (by decide), up2_ne _ _ _ (by decide), up2_at]
    by_cases z : c = b
    · rw [if_pos ⟨rfl, z⟩, if_pos z]
    · rw [if_neg (fun y => z y.2), if_neg z, up2_ne _ _ _ (by decide)]
  · rw [up2_ne _ _ _ (by decide), up2_at]
    by_cases z : c = b
    · rw [if_pos ⟨rfl, z⟩, if_pos z]
    · rw [if_neg (fun y => z y.2), if_neg z, up2_ne _ _ _ (by decide), up2_ne _ _ _ (by decide)]
  · rw [up2_at]
    by_cases z : c = b
    · rw [if_pos ⟨rfl, z⟩, if_pos z]
    · rw [if_neg (fun y => z y.2), if_neg z, up2_ne _ _ _ (by decide), up2_ne _ _ _ (by decide), up2_ne _ _ _ (by decide)]
theorem sE_ne (M : Sto) (b : Nat) (e v t u : Int32) {k : Nat} (hk : k < 8 ∨ 11 < k) : sE M b e v t u k = M k := by
  unfold sE
  rw [up2_ne _ _ _ (by omega), up2_ne _ _ _ (by omega), up2_ne _ _ _ (by omega), up2_ne _ _ _ (by omega)]
theorem C_go {R : Sto} {b t : Nat} (hb : b < 10) : Ok (fun a => a.2 6 = upd (R 6) b 1 ∧ a.2 8 = upd (R 8) b (nJ t) ∧ ∀ k, k ≠ 0 → k ≠ 6 → k ≠ 8 → a.2 k = R k) (j_R_go_22 0 (nJ b) (nJ t) R) := by
  unfold j_R_go_22
  rw [fails_eq _ _ _ (Or.inl rfl)]
  refine Ok.bindS ?_
  dsimp only
  rw [if_pos rfl]
  refine Ok.okN (by omega) (by decide) ?_
  rw [nJ_tn (i := b) (by omega)]
  refine Ok.wr (fun M3 q3 => ?_)
  refine Ok.okN (by omega) (by decide) ?_
  refine Ok.wr (fun M4 q4 => ?_)
  refine Ok.bzt (Or.inl rfl) ?_
  refine Ok.wr (fun M5 q5 => ⟨(0, M5), rfl, ?_, ?_, fun k k0 k6 k8 => ?_⟩)
  · show M5 6 = _
    rw [q5, up2_ne _ _ _ (by decide), q4, up2_ne _ _ _ (by decide), q3, up2_self, up2_ne _ _ _ (by decide)]
  · show M5 8 = _
    rw [q5, up2_ne _ _ _ (by decide), q4, up2_self, q3, up2_ne _ _ _ (by decide), up2_ne _ _ _ (by decide)]
  · show M5 k = _
    rw [q5, up2_ne _ _ _ k0, q4, up2_ne _ _ _ k8, q3, up2_ne _ _ _ k6, up2_ne _ _ _ k0]
theorem C_fork {R : Sto} {b w t u : Nat} (hb : b < 10) : Ok (fun a => a.2 6 = upd (R 6) b 2 ∧ a.2 7 = upd (R 7) b (nJ w) ∧ a.2 8 = upd (R 8) b (nJ t) ∧ a.2 9 = upd (R 9) b (nJ u) ∧ ∀ k, k ≠ 0 → k ≠ 6 → k ≠ 7 → k ≠ 8 → k ≠ 9 → a.2 k = R k) (j_R_fork_38 0 (nJ b) (nJ w) (nJ t) (nJ u) R) := by
  unfold j_R_fork_38
  rw [fails_eq _ _ _ (Or.inl rfl)]
  refine Ok.bindS ?_
  dsimp only
  rw [if_pos rfl]
  refine Ok.okN (by omega) (by decide) ?_
  rw [nJ_tn (i := b) (by omega)]
  refine Ok.wr (fun M3 q3 => ?_)
  refine Ok.okN (by omega) (by decide) ?_
  refine Ok.wr (fun M4 q4 => ?_)
  refine Ok.okN (by omega) (by decide) ?_
  refine Ok.wr (fun M5 q5 => ?_)
  refine Ok.okN (by omega) (by decide) ?_
  refine Ok.wr (fun M6 q6 => ?_)
  refine Ok.bzt (Or.inl rfl) ?_
  refine Ok.wr (fun M7 q7 => ⟨(0, M7), rfl, ?_, ?_, ?_, ?_, fun k k0 k6 k7 k8 k9 => ?_⟩)
  · show M7 6 = _
    rw [q7, up2_ne _ _ _ (by decide), q6, up2_ne _ _ _ (by decide), q5, up2_ne _ _ _ (by decide), q4, up2_ne _ _ _ (by decide), q3, up2_self, up2_ne _ _ _ (by decide)]
  · show M7 7 = _
    rw [q7, up2_ne _ _ _ (by decide), q6, up2_ne _ _ _ (by decide), q5, up2_ne _ _ _ (by decide), q4, up2_self, q3, up2_ne _ _ _ (by decide), up2_ne _ _ _ (by decide)]
  · show M7 8 = _
    rw [q7, up2_ne _ _ _ (by decide), q6, up2_ne _ _ _ (by decide), q5, up2_self, q4, up2_ne _ _ _ (by decide), q3, up2_ne _ _ _ (by decide), up2_ne _ _ _ (by decide)]
  · show M7 9 = _
    rw [q7, up2_ne _ _ _ (by decide), q6, up2_self, q5, up2_ne _ _ _ (by decide), q4, up2_ne _ _ _ (by decide), q3, up2_ne _ _ _ (by decide), up2_ne _ _ _ (by decide)]
  · show M7 k = _
    rw [q7, up2_ne _ _ _ k0, q6, up2_ne _ _ _ k9, q5, up2_ne _ _ _ k8, q4, up2_ne _ _ _ k7, q3, up2_ne _ _ _ k6, up2_ne _ _ _ k0]
theorem C_stop {R : Sto} {B b : Nat} (hbl : R 0 1 = nJ B) (hB : B ≤ 10) (hb : b < B) : Ok (fun a => a.2 6 = upd (R 6) b 0 ∧ ∀ k, k ≠ 0 → k ≠ 6 → a.2 k = R k) (m_R_stop (nJ b) R) := by
  have eb := nJ_int (i := b) (by omega)
  have c1 : hasB B (nJ b) := ⟨by omega, by omega⟩
  unfold m_R_stop
  rw [noBlock_eq hbl hB, if_pos c1]
  refine Ok.bindS ?_
  dsimp only
  rw [fails_eq _ _ _ (Or.inl rfl)]
  refine Ok.bindS ?_
  dsimp only
  rw [if_pos rfl]
  refine Ok.okN (by omega) (by decide) ?_
  rw [nJ_tn (by omega)]
  refine Ok.wr (fun M3 q3 => ?_)
  refine Ok.bzt (Or.inl rfl) ?_
  refine Ok.wr (fun M4 q4 => ⟨(0, M4), rfl, ?_, fun k k0 k6 => ?_⟩)
  · show M4 6 = _
    rw [q4, up2_ne _ _ _ (by decide), q3, up2_self, up2_ne _ _ _ (by decide)]
  · show M4 k = _
    rw [q4, up2_ne _ _ _ k0, q3, up2_ne _ _ _ k6, up2_ne _ _ _ k0]
theorem C_block {R : Sto} {B : Nat} (hbl : R 0 1 = nJ B) (hB : B < 10) : Ok (fun a => a.2 6 = upd (R 6) B 0 ∧ a.2 1 = upd (R 1) B 0 ∧ ∀ k, k ≠ 0 → k ≠ 1 → k ≠ 6 → a.2 k = R k) (m_R_block R) := by
  have hne : nJ B ≠ 10 := fun q => by have := nJ_inj (i := B) (j := 10) (by omega) (by omega) q; omega
  unfold m_R_block j_R_block_15
  rw [hbl, if_neg hne, fails_eq _ _ _ (Or.inl rfl)]
  refine Ok.bindS ?_
  dsimp only
  rw [if_pos rfl]
  have e1 : up2 R 0 0 (if (0 : Int32) = 0 then 0 else 1) 0 1 = nJ B := by rw [up2_at, if_neg (fun q => absurd q.2 (by decide))]; exact hbl
  refine Ok.okE e1 (by omega) (by decide) ?_
  rw [e1, nJ_tn (by omega)]
  refine Ok.wr (fun M2 q2 => ?_)
  have e2 : M2 0 1 = nJ B := by rw [q2, up2_ne _ _ _ (by decide)]; exact e1
  rw [e2, nJ_tn (by omega)]
  refine Ok.okN (by omega) (by decide) ?_
  refine Ok.wr (fun M3 q3 => ?_)
  refine Ok.wr (fun M4 q4 => ?_)
  refine Ok.bzt (Or.inl rfl) ?_
  refine Ok.wr (fun M5 q5 => ⟨(_, M5), rfl, ?_, ?_, fun k k0 k1 k6 => ?_⟩)
  · show M5 6 = _
    rw [q5, up2_ne _ _ _ (by decide), q4, up2_ne _ _ _ (by decide), q3, up2_self, q2, up2_ne _ _ _ (by decide), up2_ne _ _ _ (by decide)]
  · show M5 1 = _
    rw [q5, up2_ne _ _ _ (by decide), q4, up2_ne _ _ _ (by decide), q3, up2_ne _ _ _ (by decide), q2, up2_self, up2_ne _ _ _ (by decide)]
  · show M5 k = _
    rw [q5, up2_ne _ _ _ k0, q4, up2_ne _ _ _ k0, q3, up2_ne _ _ _ k6, q2, up2_ne _ _ _ k1, up2_ne _ _ _ k0]
theorem C_put {R : Sto} {B b l : Nat} {x2 x3 x4 x5 : Int32} (hbl : R 0 1 = nJ B) (hB : B ≤ 10) (hb : b < B) (hl : l < 6) (hle : R 1 b = nJ l) (hi : insOk x2 x3 x4 x5) :
    Ok (fun a => a.2 2 = upd (R 2) (6 * b + l) x2 ∧ a.2 3 = upd (R 3) (6 * b + l) x3 ∧ a.2 4 = upd (R 4) (6 * b + l) x4 ∧ a.2 5 = upd (R 5) (6 * b + l) x5 ∧ ∀ k, 6 ≤ k → a.2 k = R k) (m_R_put (nJ b) x2 x3 x4 x5 R) := by
  have eb := nJ_int (i := b) (by omega)
  have c1 : hasB B (nJ b) := ⟨by omega, by omega⟩
  rw [put_cond hbl hB, if_pos ⟨c1, hi⟩]
  unfold j_R_put_67
  rw [fails_eq _ _ _ (Or.inl rfl)]
  refine Ok.bindS ?_
  dsimp only
  rw [if_pos rfl]
  refine Ok.okN (by omega) (by decide) ?_
  rw [nJ_tn (i := b) (by omega)]
  generalize hM1 : up2 R 0 0 (if (0 : Int32) = 0 then 0 else 1) = M1
  have k1 : ∀ k, k ≠ 0 → M1 k = R k := fun k hk => by rw [← hM1, up2_ne _ _ _ hk]
  have e1 : M1 1 b = nJ l := by rw [k1 1 (by decide)]; exact hle
  refine Ok.ifE (fun z => ?_) (fun z => ?_)
  · rw [e1] at z
    have := nJ_inj (j := 6) (by omega) (by omega) z
    omega
  unfold j_R_put_96
  rw [fails_eq _ _ _ (Or.inl rfl)]
  refine Ok.bindS ?_
  dsimp only
  rw [if_pos rfl]
  generalize hM2 : up2 M1 0 0 (if (0 : Int32) = 0 then 0 else 2) = M2
  have k2 : ∀ k, k ≠ 0 → M2 k = R k := fun k hk => by rw [← hM2, up2_ne _ _ _ hk]; exact k1 k hk
  have e2 : M2 1 b = nJ l := by rw [k2 1 (by decide)]; exact hle
  refine Ok.okN (by omega) (by decide) ?_
  have tb : (nJ b).toNatClampNeg = b := nJ_tn (by omega)
  simp only [tb, e2]
  rw [nJ_mul6 (by omega), nJ_add (by omega), nJ_tn (i := 6 * b + l) (by omega)]
  refine Ok.okN (by omega) (by decide) ?_
  refine Ok.wr (fun M4 q4 => ?_)
  refine Ok.okN (by omega) (by decide) ?_
  refine Ok.wr (fun M5 q5 => ?_)
  refine Ok.okN (by omega) (by decide) ?_
  refine Ok.wr (fun M6 q6 => ?_)
  refine Ok.okN (by omega) (by decide) ?_
  refine Ok.wr (fun M7 q7 => ?_)
  refine Ok.okN (by omega) (by decide) ?_
  refine Ok.okN (by omega) (by decide) ?_
  refine Ok.wr (fun M8 q8 => ?_)
  refine Ok.bzt (Or.inl rfl) ?_
  refine Ok.wr (fun M9 q9 => ?_)
  refine Ok.okN (by omega) (by decide) ?_
  refine ⟨(_, M9), rfl, ?_, ?_, ?_, ?_, fun k k6 => ?_⟩
  · show M9 2 = _
    rw [q9, up2_ne _ _ _ (by decide), q8, up2_ne _ _ _ (by decide), q7, up2_ne _ _ _ (by decide), q6, up2_ne _ _ _ (by decide), q5, up2_ne _ _ _ (by decide), q4, up2_self, k2 2 (by decide)]
  · show M9 3 = _
    rw [q9, up2_ne _ _ _ (by decide), q8, up2_ne _ _ _ (by decide), q7, up2_ne _ _ _ (by decide), q6, up2_ne _ _ _ (by decide), q5, up2_self, q4, up2_ne _ _ _ (by decide), k2 3 (by decide)]
  · show M9 4 = _
    rw [q9, up2_ne _ _ _ (by decide), q8, up2_ne _ _ _ (by decide), q7, up2_ne _ _ _ (by decide), q6, up2_self, q5, up2_ne _ _ _ (by decide), q4, up2_ne _ _ _ (by decide), k2 4 (by decide)]
  · show M9 5 = _
    rw [q9, up2_ne _ _ _ (by decide), q8, up2_ne _ _ _ (by decide), q7, up2_self, q6, up2_ne _ _ _ (by decide), q5, up2_ne _ _ _ (by decide), q4, up2_ne _ _ _ (by decide), k2 5 (by decide)]
  · show M9 k = _
    rw [q9, up2_ne _ _ _ (by omega), q8, up2_ne _ _ _ (by omega), q7, up2_ne _ _ _ (by omega), q6, up2_ne _ _ _ (by omega), q5, up2_ne _ _ _ (by omega), q4, up2_ne _ _ _ (by omega), k2 k (by omega)]
theorem C_ngo {X : Sto} {B b : Nat} {x2 : Int32} (hb1 : X 1 0 = nJ B) (hB : B ≤ 10) (hb : b < B) (c2 : hasB B x2 ∧ x2 ≠ 0) : m_N_go (nJ b) x2 X = some (0, 0, sE (up2 X 0 6 0) b 1 0 x2 x2) := by
  have eb := nJ_int (i := b) (by omega)
  have c1 : hasB B (nJ b) := ⟨by omega, by omega⟩
  unfold m_N_go
  rw [has_eq hb1 hB, if_pos c1]
  show (m_P_isTarget x2 X).bind _ = _
  rw [isTarget_eq hb1 hB, if_pos c2]
  show (wr (up2 X 0 6 0) fun M3 => (m_P_setEnd (nJ b) 1 0 x2 x2 M3).bind fun o4 => some (0, 0, o4.2)) = _
  unfold wr
  dsimp only
  rw [setEnd_eq (by omega)]; rfl
theorem C_nfork {X : Sto} {B b : Nat} {x2 x3 x4 : Int32} (hb1 : X 1 0 = nJ B) (hB : B ≤ 10) (hb : b < B) (c2 : hasB 6 x2) (c3 : hasB B x3 ∧ x3 ≠ 0) (c4 : hasB B x4 ∧ x4 ≠ 0) : m_N_fork (nJ b) x2 x3 x4 X = some (0, 0, sE (up2 X 0 6 0) b 2 x2 x3 x4) := by
  have eb := nJ_int (i := b) (by omega)
  have c1 : hasB B (nJ b) := ⟨by omega, by omega⟩
  unfold m_N_fork
  rw [has_eq hb1 hB, if_pos c1]
  show (m_N_isVariable x2 X).bind _ = _
  rw [isVar_eq, if_pos c2]
  show (m_P_isTarget x3 X).bind _ = _
  rw [isTarget_eq hb1 hB, if_pos c3]
  show (m_P_isTarget x4 X).bind _ = _
  rw [isTarget_eq hb1 hB, if_pos c4]
  show (wr (up2 X 0 6 0) fun M3 => (m_P_setEnd (nJ b) 2 x2 x3 x4 M3).bind fun o4 => some (0, 0, o4.2)) = _
  unfold wr
  dsimp only
  rw [setEnd_eq (by omega)]; rfl
theorem C_nstop {X : Sto} {B b : Nat} (hb1 : X 1 0 = nJ B) (hB : B ≤ 10) (hb : b < B) : m_N_stop (nJ b) X = some (0, 0, sE (up2 X 0 6 0) b 0 0 0 0) := by
  have eb := nJ_int (i := b) (by omega)
  have c1 : hasB B (nJ b) := ⟨by omega, by omega⟩
  unfold m_N_stop
  rw [has_eq hb1 hB, if_pos c1]
  show (wr (up2 X 0 6 0) fun M3 => (m_P_setEnd (nJ b) 0 0 0 0 M3).bind fun o4 => some (0, 0, o4.2)) = _
  unfold wr
  dsimp only
  rw [setEnd_eq (by omega)]; rfl
theorem C_nblock {X : Sto} {B : Nat} (hb1 : X 1 0 = nJ B) (hB : B < 10) : Ok (fun a => (∀ c, a.2.2 8 c = (if c = B then 0 else X 8 c) ∧ a.2.2 9 c = (if c = B then 0 else X 9 c) ∧ a.2.2 10 c = (if c = B then 0 else X 10 c) ∧ a.2.2 11 c = (if c = B then 0 else X 11 c)) ∧ ∀ k, 43 ≤ k → a.2.2 k = X k) (m_N_block X) := by
  have eB := nJ_int (i := B) (by omega)
  have n10 : (10 : Int32).toInt = 10 := rfl
  unfold m_N_block
  rw [hb1, if_pos (show nJ B < 10 from Int32.lt_iff_toInt_lt.mpr (by omega))]
  refine Ok.bzt (Or.inl rfl) ?_
  refine Ok.wr (fun M1 q1 => ?_)
  have b1 : M1 1 0 = nJ B := by rw [q1, up2_ne _ _ _ (by decide)]; exact hb1
  unfold m_P_addBlock
  rw [b1, nJ_tn (by omega)]
  rw [if_pos (okN_t (by omega) (by decide))]
  have e : ∀ (P : Nat × Int32 × Sto → Prop), Ok P (some (0, nJ B, up2 (sE (up2 M1 7 B 0) B 0 0 0 0) 1 0 (sE (up2 M1 7 B 0) B 0 0 0 0 1 0 + 1))) → Ok P (Option.bind (wr (up2 M1 7 B 0) fun M1_1 => (m_P_setEnd (nJ B) 0 0 0 0 M1_1).bind fun o2 => wr (up2 o2.2 1 0 (o2.2 1 0 + 1)) fun M3 => some (nJ B, M3)) fun o2 => some (0, o2.1, o2.2)) := by
    intro P hP
    unfold wr
    dsimp only
    rw [setEnd_eq (by omega)]
    exact hP
  refine e _ ⟨_, rfl, fun c => ?_, fun k hk => ?_⟩
  · obtain ⟨a1, a2, a3, a4⟩ := sE_at (up2 M1 7 B 0) B 0 0 0 0 c
    have u : ∀ k, k = 8 ∨ k = 9 ∨ k = 10 ∨ k = 11 → up2 M1 7 B 0 k = X k := fun k hk => by rw [up2_ne _ _ _ (by omega), q1, up2_ne _ _ _ (by omega)]
    refine ⟨?_, ?_, ?_, ?_⟩
    · show up2 (sE (up2 M1 7 B 0) B 0 0 0 0) 1 0 (sE (up2 M1 7 B 0) B 0 0 0 0 1 0 + 1) 8 c = _
      rw [up2_ne _ _ _ (by decide), a1, u 8 (by decide)]
    · show up2 (sE (up2 M1 7 B 0) B 0 0 0 0) 1 0 (sE (up2 M1 7 B 0) B 0 0 0 0 1 0 + 1) 9 c = _
      rw [up2_ne _ _ _ (by decide), a2, u 9 (by decide)]
    · show up2 (sE (up2 M1 7 B 0) B 0 0 0 0) 1 0 (sE (up2 M1 7 B 0) B 0 0 0 0 1 0 + 1) 10 c = _
      rw [up2_ne _ _ _ (by decide), a3, u 10 (by decide)]
    · show up2 (sE (up2 M1 7 B 0) B 0 0 0 0) 1 0 (sE (up2 M1 7 B 0) B 0 0 0 0 1 0 + 1) 11 c = _
      rw [up2_ne _ _ _ (by decide), a4, u 11 (by decide)]
  · show up2 (sE (up2 M1 7 B 0) B 0 0 0 0) 1 0 (sE (up2 M1 7 B 0) B 0 0 0 0 1 0 + 1) k = _
    rw [up2_ne _ _ _ (by omega), sE_ne _ _ _ _ _ _ (by omega), up2_ne _ _ _ (by omega), q1, up2_ne _ _ _ (by omega)]
theorem C_nput {X : Sto} {B b l : Nat} {x2 x3 x4 x5 : Int32} (hb1 : X 1 0 = nJ B) (hB : B ≤ 10) (hb : b < B) (hl : l < 6) (hle : X 7 b = nJ l) (hi : insOk x2 x3 x4 x5) :
    Ok (fun a => (∀ k, 8 ≤ k → k ≤ 11 → a.2.2 k = X k) ∧ ∀ i j, i < 10 → (a.2.2 (43 + i) j = if i = b ∧ j = l then x2 else X (43 + i) j) ∧ (a.2.2 (53 + i) j = if i = b ∧ j = l then x3 else X (53 + i) j) ∧ (a.2.2 (63 + i) j = if i = b ∧ j = l then x4 else X (63 + i) j) ∧ (a.2.2 (73 + i) j = if i = b ∧ j = l then x5 else X (73 + i) j)) (m_N_put (nJ b) x2 x3 x4 x5 X) := by
  have eb := nJ_int (i := b) (by omega)
  have el := nJ_int (i := l) (by omega)
  have n6 : (6 : Int32).toInt = 6 := rfl
  have c1 : hasB B (nJ b) := ⟨by omega, by omega⟩
  have e : m_N_put (nJ b) x2 x3 x4 x5 X = if X 7 b < 6 then (if bz 0 then (wr (up2 X 0 6 0) fun M3 => (m_P_append (nJ b) x2 x3 x4 x5 M3).bind fun o4 => some (0, o4.1, o4.2)) else none) else (some (2, 0, X)) := by
    unfold m_N_put
    rw [has_eq hb1 hB, if_pos c1]
    show (m_N_isInstruction x2 x3 x4 x5 X).bind _ = _
    rw [isIns_eq, if_pos hi]
    show (if ok (nJ b) 10 = true then (if X 7 (nJ b).toNatClampNeg < 6 then _ else _) else _) = _
    rw [if_pos (okN_t (by omega) (by decide)), nJ_tn (by omega)]
  rw [e, hle, if_pos (show nJ l < 6 from Int32.lt_iff_toInt_lt.mpr (by omega))]
  refine Ok.bzt (Or.inl rfl) ?_
  refine Ok.wr (fun M1 q1 => ?_)
  have k1 : ∀ k, k ≠ 0 → M1 k = X k := fun k hk => by rw [q1, up2_ne _ _ _ hk]
  have b1 : M1 7 b = nJ l := by rw [k1 7 (by decide)]; exact hle
  have ga : Ok (fun a : Int32 × Sto => (∀ k, 8 ≤ k → k ≤ 11 → a.2 k = X k) ∧ ∀ i j, i < 10 → (a.2 (43 + i) j = if i = b ∧ j = l then x2 else X (43 + i) j) ∧ (a.2 (53 + i) j = if i = b ∧ j = l then x3 else X (53 + i) j) ∧ (a.2 (63 + i) j = if i = b ∧ j = l then x4 else X (63 + i) j) ∧ (a.2 (73 + i) j = if i = b ∧ j = l then x5 else X (73 + i) j)) (m_P_append (nJ b) x2 x3 x4 x5 M1) := by
    unfold m_P_append
    rw [nJ_tn (i := b) (by omega), b1, nJ_tn (i := l) (by omega)]
    refine Ok.okN (by omega) (by decide) ?_
    refine Ok.okN (by omega) (by decide) ?_
    refine Ok.okN (by omega) (by decide) ?_
    refine Ok.wr (fun M2 q2 => ?_)
    refine Ok.okN (by omega) (by decide) ?_
    refine Ok.okN (by omega) (by decide) ?_
    refine Ok.wr (fun M3 q3 => ?_)
    refine Ok.okN (by omega) (by decide) ?_
    refine Ok.okN (by omega) (by decide) ?_
    refine Ok.wr (fun M4 q4 => ?_)
    refine Ok.okN (by omega) (by decide) ?_
    refine Ok.okN (by omega) (by decide) ?_
    refine Ok.wr (fun M5 q5 => ?_)
    refine Ok.okN (by omega) (by decide) ?_
    refine Ok.wr (fun M6 q6 => ?_)
    refine Ok.okN (by omega) (by decide) ?_
    refine ⟨(_, M6), rfl, fun k k8 k11 => ?_, fun i j hi' => ⟨?_, ?_, ?_, ?_⟩⟩
    · show M6 k = _
      rw [q6, up2_ne _ _ _ (by omega), q5, up2_ne _ _ _ (by omega), q4, up2_ne _ _ _ (by omega), q3, up2_ne _ _ _ (by omega), q2, up2_ne _ _ _ (by omega), k1 k (by omega)]
    · show M6 (43 + i) j = _
      rw [q6, up2_ne _ _ _ (by omega), q5, up2_ne _ _ _ (by omega), q4, up2_ne _ _ _ (by omega), q3, up2_ne _ _ _ (by omega), q2, up2_at]
      by_cases z : i = b ∧ j = l
      · rw [if_pos z, if_pos ⟨by omega, z.2⟩]
      · rw [if_neg z, if_neg (fun q => z ⟨by omega, q.2⟩), k1 _ (by omega)]
    · show M6 (53 + i) j = _
      rw [q6, up2_ne _ _ _ (by omega), q5, up2_ne _ _ _ (by omega), q4, up2_ne _ _ _ (by omega), q3, up2_at]
      by_cases z : i = b ∧ j = l
      · rw [if_pos z, if_pos ⟨by omega, z.2⟩]
      · rw [if_neg z, if_neg (fun q => z ⟨by omega, q.2⟩), q2, up2_ne _ _ _ (by omega), k1 _ (by omega)]
    · show M6 (63 + i) j = _
      rw [q6, up2_ne _ _ _ (by omega), q5, up2_ne _ _ _ (by omega), q4, up2_at]
      by_cases z : i = b ∧ j = l
      · rw [if_pos z, if_pos ⟨by omega, z.2⟩]
      · rw [if_neg z, if_neg (fun q => z ⟨by omega, q.2⟩), q3, up2_ne _ _ _ (by omega), q2, up2_ne _ _ _ (by omega), k1 _ (by omega)]
    · show M6 (73 + i) j = _
      rw [q6, up2_ne _ _ _ (by omega), q5, up2_at]
      by_cases z : i = b ∧ j = l
      · rw [if_pos z, if_pos ⟨by omega, z.2⟩]
      · rw [if_neg z, if_neg (fun q => z ⟨by omega, q.2⟩), q4, up2_ne _ _ _ (by omega), q3, up2_ne _ _ _ (by omega), q2, up2_ne _ _ _ (by omega), k1 _ (by omega)]
  exact Ok.bind ga (fun r M2 h2 => ⟨(0, r, M2), rfl, h2⟩)
end
section
def Inv8 (MX MR : Sto) : Prop := TX MX ∧ ∃ B N, IR MR B N ∧ PR MX MR B ∧ Rel MX MR
def cmp8 (k : Nat) : Prop := k = 6
theorem PR.q {X X' R R' : Sto} {B N : Nat} (h : PR X R B) (hR : IR R B N) (i : IX 126 1200 X X') (f : Fr [28, 29, 30] QL0 R R') : PR X' R' B :=
  (h.ix i).rr (hR.fr f).pf (fun k k1 k9 => f.1 k (by omega) (by intro q; simp only [List.mem_cons, List.not_mem_nil, or_false] at q; omega))
theorem al8_q {MX MR : Sto} {B N a : Nat} {cs : List Nat} {cm : Prop} {x : Option (Nat × Int32 × Sto)} {y : Option (Int32 × Sto)} (hR : IR MR B N) (hp : PR MX MR B) (hr : Rel MX MR) (hx : Ok (fun a => IX 126 1200 MX a.2.2 ∧ a.1 ∈ cs) x) (hy : Ok (fun a => Fr [28, 29, 30] QL0 MR a.2) y) (hc : ¬ cm) : Al Inv8 cm a cs x y := by
  obtain ⟨⟨c, r, M1⟩, rfl, h1, h2⟩ := hx
  obtain ⟨⟨r2, M2⟩, rfl, f⟩ := hy
  obtain ⟨k1, k2, k3⟩ := IX.keep h1
  obtain ⟨i1, i2, i3, i4⟩ := hR.keep f
  exact ⟨c, r, M1, r2, M2, rfl, h2, rfl, ⟨h1.self, B, N, i1, hp.q hR h1 f, hr.to k1 k2 k3 i2 i3 i4⟩, fun q => absurd q hc⟩
theorem al8_0 {MX MR : Sto} {B N : Nat} {cm : Prop} {x : Option (Int32 × Sto)} {y : Option (Int32 × Sto)} (hX : TX MX) (hR : IR MR B N) (hp : PR MX MR B) (hr : Rel MX MR) (hx : Ok (fun a => MX = a.2) x) (hy : Ok (fun a => Fr [28, 29, 30] QL0 MR a.2) y) (hc : ¬ cm) : Al0 Inv8 cm x y := by
  obtain ⟨⟨r, M1⟩, rfl, h1⟩ := hx
  obtain ⟨⟨r2, M2⟩, rfl, f⟩ := hy
  have h1 : MX = M1 := h1
  subst h1
  obtain ⟨i1, i2, i3, i4⟩ := hR.keep f
  exact ⟨r, MX, r2, M2, rfl, rfl, ⟨hX, B, N, i1, hp.q hR hX.ix f, hr.to rfl rfl rfl i2 i3 i4⟩, fun q => absurd q hc⟩
theorem al8_r {MX MR : Sto} {B N a c : Nat} {cs : List Nat} {cm : Prop} {e : Int32} {x : Option (Nat × Int32 × Sto)} {y : Option (Int32 × Sto)} (hX : TX MX) (hR : IR MR B N) (hp : PR MX MR B) (hr : Rel MX MR) (hx : x = some (c, 0, MX)) (hy : Ref MR e y) (hc : c ∈ cs) (hk : e = kc a c) : Al Inv8 cm a cs x y := by
  obtain ⟨M2, h2, h3, f⟩ := hy
  have f : Fr [28, 29, 30] QL0 MR M2 := Fr.mono f (by decide) (by decide)
  obtain ⟨i1, i2, i3, i4⟩ := hR.keep f
  exact ⟨c, 0, MX, 0, M2, hx, hc, h2, ⟨hX, B, N, i1, hp.q hR hX.ix f, hr.to rfl rfl rfl i2 i3 i4⟩, fun _ => ⟨h3.trans hk, fun _ => rfl⟩⟩
theorem al8_d {MX MR : Sto} {B N a : Nat} {cs : List Nat} {cm : Prop} {x : Option (Nat × Int32 × Sto)} {y : Option (Int32 × Sto)} (hr : Rel MX MR) (hx : DX MX x) (hy : Dn MR B N y) (hc : 0 ∈ cs) (hp : ∀ M1 M2, x = some (0, 0, M1) → y = some (0, M2) → PF M2 B → PR M1 M2 B) : Al Inv8 cm a cs x y := by
  obtain ⟨M1, h1, t1, k1, k2, k3⟩ := hx
  obtain ⟨M2, h2, h3, i1, i2, i3, i4⟩ := hy
  exact ⟨0, 0, M1, 0, M2, h1, hc, h2, ⟨t1, B, N, i1, hp M1 M2 h1 h2 i1.pf, hr.to k1 k2 k3 i2 i3 i4⟩, fun _ => ⟨h3, fun _ => rfl⟩⟩
theorem go_22 {R : Sto} {B : Nat} {x1 x2 : Int32} (hb : R 0 1 = nJ B) (hB : B ≤ 10) (c1 : hasB B x1) (c2 : hasB B x2 ∧ x2 ≠ 0) : m_R_go x1 x2 R = j_R_go_22 0 x1 x2 R := by
  unfold m_R_go j_R_go_17
  rw [noBlock_eq hb hB, if_pos c1]
  show (m_R_noTarget x2 R).bind _ = _
  rw [noTarget_eq hb hB, if_pos c2]; rfl
theorem fork_38 {R : Sto} {B : Nat} {x1 x2 x3 x4 : Int32} (hb : R 0 1 = nJ B) (hB : B ≤ 10) (c1 : hasB B x1) (c2 : hasB 6 x2) (c3 : hasB B x3 ∧ x3 ≠ 0) (c4 : hasB B x4 ∧ x4 ≠ 0) : m_R_fork x1 x2 x3 x4 R = j_R_fork_38 0 x1 x2 x3 x4 R := by
  unfold m_R_fork j_R_fork_33
  rw [noBlock_eq hb hB, if_pos c1]
  show (m_R_noVariable x2 R).bind _ = _
  rw [noVar_eq, if_pos c2]
  show (m_R_noTarget x3 R).bind _ = _
  rw [noTarget_eq hb hB, if_pos c3]
  show (m_R_noTarget x4 R).bind _ = _
  rw [noTarget_eq hb hB, if_pos c4]; rfl
theorem updA {f : Nat → Int32} {b : Nat} {v : Int32} : upd f b v b = v := by rw [upd_at, if_pos rfl]
theorem updN {f : Nat → Int32} {b c : Nat} {v : Int32} (h : c ≠ b) : upd f b v c = f c := by rw [upd_at, if_neg h]
theorem PR.sE {X R R' : Sto} {B b : Nat} {e v t u : Int32} (h : PR X R B) (hP : PF R' B) (rk : ∀ k, 1 ≤ k → k ≤ 5 → R' k = R k)
    (ho : ∀ c, c ≠ b → R' 6 c = R 6 c ∧ R' 7 c = R 7 c ∧ R' 8 c = R 8 c ∧ R' 9 c = R 9 c)
    (hb : e = R' 6 b ∧ (R' 6 b = 1 → t = R' 8 b ∧ u = R' 8 b) ∧ (R' 6 b = 2 → v = R' 7 b ∧ t = R' 8 b ∧ u = R' 9 b)) : PR (sE (up2 X 0 6 0) b e v t u) R' B := by
  refine h.fin1 (b0 := b) hP ?_ ?_ (fun k k1 k2 => ?_) rk (fun c hc => ?_) ?_
  · rw [sE_ne _ _ _ _ _ _ (by omega), up2_ne _ _ _ (by decide)]
  · rw [sE_ne _ _ _ _ _ _ (by omega), up2_ne _ _ _ (by decide)]
  · rw [sE_ne _ _ _ _ _ _ (by omega), up2_ne _ _ _ (by omega)]
  · obtain ⟨a1, a2, a3, a4⟩ := sE_at (up2 X 0 6 0) b e v t u c
    rw [a1, a2, a3, a4, if_neg hc, if_neg hc, if_neg hc, if_neg hc, up2_ne _ _ _ (by decide), up2_ne _ _ _ (by decide), up2_ne _ _ _ (by decide), up2_ne _ _ _ (by decide)]
    exact ⟨rfl, rfl, rfl, rfl, ho c hc⟩
  · obtain ⟨a1, a2, a3, a4⟩ := sE_at (up2 X 0 6 0) b e v t u b
    rw [a1, a2, a3, a4, if_pos rfl, if_pos rfl, if_pos rfl, if_pos rfl]
    exact hb
theorem P_go {X R : Sto} {B : Nat} {x1 x2 : Int32} (h : PR X R B) (c : hasB B x1 ∧ hasB B x2 ∧ x2 ≠ 0) : ∀ M1 M2, m_N_go x1 x2 X = some (0, 0, M1) → m_R_go x1 x2 R = some (0, M2) → PF M2 B → PR M1 M2 B := by
  intro M1 M2 e1 e2 hP
  have hB := h.pf.hB
  obtain ⟨b, b1, rfl⟩ := c.1.nat
  obtain ⟨t, t0, t1, rfl⟩ := hasB_ne c.2
  rw [C_ngo h.blk hB b1 c.2] at e1
  injection e1 with e1; injection e1 with _ e1; injection e1 with _ e1
  rw [go_22 h.pf.blk hB c.1 c.2] at e2
  obtain ⟨a, a1, a6, a8, ak⟩ := C_go (R := R) (b := b) (t := t) (by omega)
  rw [a1] at e2
  injection e2 with e2
  rw [e2] at a6 a8 ak
  dsimp only at a6 a8 ak
  rw [← e1]
  refine h.sE hP (fun k k1 k5 => ak k (by omega) (by omega) (by omega)) (fun c hc => ?_) ?_
  · rw [a6, a8, ak 7 (by decide) (by decide) (by decide), ak 9 (by decide) (by decide) (by decide), updN hc, updN hc]; exact ⟨rfl, rfl, rfl, rfl⟩
  · rw [a6, a8, updA, updA]
    exact ⟨rfl, fun _ => ⟨rfl, rfl⟩, fun q => absurd q (by decide)⟩
theorem P_fork {X R : Sto} {B : Nat} {x1 x2 x3 x4 : Int32} (h : PR X R B) (c : hasB B x1 ∧ hasB 6 x2 ∧ (hasB B x3 ∧ x3 ≠ 0) ∧ (hasB B x4 ∧ x4 ≠ 0)) : ∀ M1 M2, m_N_fork x1 x2 x3 x4 X = some (0, 0, M1) → m_R_fork x1 x2 x3 x4 R = some (0, M2) → PF M2 B → PR M1 M2 B := by
  intro M1 M2 e1 e2 hP
  have hB := h.pf.hB
  obtain ⟨b, b1, rfl⟩ := c.1.nat
  obtain ⟨w, w1, rfl⟩ := c.2.1.nat
  obtain ⟨t, t0, t1, rfl⟩ := hasB_ne c.2.2.1
  obtain ⟨u, u0, u1, rfl⟩ := hasB_ne c.2.2.2
  rw [C_nfork h.blk hB b1 c.2.1 c.2.2.1 c.2.2.2] at e1
  injection e1 with e1; injection e1 with _ e1; injection e1 with _ e1
  rw [fork_38 h.pf.blk hB c.1 c.2.1 c.2.2.1 c.2.2.2] at e2
  obtain ⟨a, a1, a6, a7, a8, a9, ak⟩ := C_fork (R := R) (b := b) (w := w) (t := t) (u := u) (by omega)
  rw [a1] at e2
  injection e2 with e2
  rw [e2] at a6 a7 a8 a9 ak
  dsimp only at a6 a7 a8 a9 ak
  rw [← e1]
  refine h.sE hP (fun k k1 k5 => ak k (by omega) (by omega) (by omega) (by omega) (by omega)) (fun c hc => ?_) ?_
  · rw [a6, a7, a8, a9, updN hc, updN hc, updN hc, updN hc]; exact ⟨rfl, rfl, rfl, rfl⟩
  · rw [a6, a7, a8, a9, updA, updA, updA, updA]
    exact ⟨rfl, fun q => absurd q (by decide), fun _ => ⟨rfl, rfl, rfl⟩⟩
theorem P_stop {X R : Sto} {B : Nat} {x1 : Int32} (h : PR X R B) (c : hasB B x1) : ∀ M1 M2, m_N_stop x1 X = some (0, 0, M1) → m_R_stop x1 R = some (0, M2) → PF M2 B → PR M1 M2 B := by
  intro M1 M2 e1 e2 hP
  have hB := h.pf.hB
  obtain ⟨b, b1, rfl⟩ := c.nat
  rw [C_nstop h.blk hB b1] at e1
  injection e1 with e1; injection e1 with _ e1; injection e1 with _ e1
  obtain ⟨a, a1, a6, ak⟩ := C_stop (R := R) (b := b) h.pf.blk hB b1
  rw [a1] at e2
  injection e2 with e2
  rw [e2] at a6 ak
  dsimp only at a6 ak
  rw [← e1]
  refine h.sE hP (fun k k1 k5 => ak k (by omega) (by omega)) (fun c hc => ?_) ?_
  · rw [a6, ak 7 (by decide) (by decide), ak 8 (by decide) (by decide), ak 9 (by decide) (by decide), updN hc]; exact ⟨rfl, rfl, rfl, rfl⟩
  · rw [a6, updA]
    exact ⟨rfl, fun q => absurd q (by decide), fun q => absurd q (by decide)⟩
theorem P_block {X R : Sto} {B : Nat} {r1 r2 : Int32} (h : PR X R B) (hB : B < 10) : ∀ M1 M2, m_N_block X = some (0, r1, M1) → m_R_block R = some (r2, M2) → PF M2 (B + 1) → M1 1 0 = nJ (B + 1) → M1 7 = upd (X 7) B 0 → M2 1 = upd (R 1) B 0 → PR M1 M2 (B + 1) := by
  intro M1 M2 e1 e2 hP k1 k7 i1
  obtain ⟨a, a1, a6, _, ak⟩ := C_block h.pf.blk hB
  rw [a1] at e2
  injection e2 with e2
  rw [e2] at a6 ak
  dsimp only at a6 ak
  obtain ⟨c, c1, ca, ck⟩ := C_nblock h.blk hB
  rw [c1] at e1
  injection e1 with e1
  rw [e1] at ca ck
  dsimp only at ca ck
  refine ⟨hP, k1, fun b => by rw [k7, i1, upd_at, upd_at, h.len b], fun b hb => ?_, fun b i hb hi => ?_⟩
  · obtain ⟨y1, y2, y3, y4⟩ := ca b
    rw [y1, y2, y3, y4, a6, ak 7 (by decide) (by decide) (by decide), ak 8 (by decide) (by decide) (by decide), ak 9 (by decide) (by decide) (by decide)]
    by_cases z : b = B
    · rw [z, updA, if_pos rfl, if_pos rfl, if_pos rfl, if_pos rfl]
      exact ⟨rfl, fun q => absurd q (by decide), fun q => absurd q (by decide)⟩
    · rw [updN z, if_neg z, if_neg z, if_neg z, if_neg z]; exact h.fin b hb
  · rw [ck (43 + b) (by omega), ck (53 + b) (by omega), ck (63 + b) (by omega), ck (73 + b) (by omega), ak 2 (by decide) (by decide) (by decide), ak 3 (by decide) (by decide) (by decide), ak 4 (by decide) (by decide) (by decide), ak 5 (by decide) (by decide) (by decide)]
    exact h.row b i hb hi
theorem P_put {X R : Sto} {B b l : Nat} {x2 x3 x4 x5 r1 r2 : Int32} (h : PR X R B) (hb : b < B) (hl : l < 6) (hle : R 1 b = nJ l) (hi : insOk x2 x3 x4 x5) : ∀ M1 M2, m_N_put (nJ b) x2 x3 x4 x5 X = some (0, r1, M1) → m_R_put (nJ b) x2 x3 x4 x5 R = some (r2, M2) → PF M2 B → M1 1 0 = X 1 0 → M1 7 = upd (X 7) b (nJ (l + 1)) → M2 1 = upd (R 1) b (nJ (l + 1)) → PR M1 M2 B := by
  intro M1 M2 e1 e2 hP k1 k7 i1
  have hB := h.pf.hB
  obtain ⟨a, a1, a2, a3, a4, a5, ak⟩ := C_put h.pf.blk hB hb hl hle hi
  rw [a1] at e2
  injection e2 with e2
  rw [e2] at a2 a3 a4 a5 ak
  dsimp only at a2 a3 a4 a5 ak
  obtain ⟨c, c1, ck, ca⟩ := C_nput h.blk hB hb hl (by rw [h.len b]; exact hle) hi
  rw [c1] at e1
  injection e1 with e1
  rw [e1] at ca ck
  dsimp only at ca ck
  refine ⟨hP, k1.trans h.blk, fun b => by rw [k7, i1, upd_at, upd_at, h.len b], fun b hb => ?_, fun i j hi' hj => ?_⟩
  · rw [ck 8 (by decide) (by decide), ck 9 (by decide) (by decide), ck 10 (by decide) (by decide), ck 11 (by decide) (by decide), ak 6 (by decide), ak 7 (by decide), ak 8 (by decide), ak 9 (by decide)]
    exact h.fin b hb
  · obtain ⟨y1, y2, y3, y4⟩ := ca i j hi'
    obtain ⟨r1, r2, r3, r4⟩ := h.row i j hi' hj
    rw [y1, y2, y3, y4, a2, a3, a4, a5]
    by_cases z : i = b ∧ j = l
    · rw [if_pos z, if_pos z, if_pos z, if_pos z, z.1, z.2, updA, updA, updA, updA]; exact ⟨rfl, rfl, rfl, rfl⟩
    · have n : 6 * i + j ≠ 6 * b + l := fun q => z ⟨by omega, by omega⟩
      rw [if_neg z, if_neg z, if_neg z, if_neg z, updN n, updN n, updN n, updN n]; exact ⟨r1, r2, r3, r4⟩
theorem C_ngive {X M1 : Sto} {x r : Int32} (e : m_N_give x X = some (r, M1)) : ∀ k, k = 1 ∨ (7 ≤ k ∧ k ≤ 11) ∨ (43 ≤ k ∧ k ≤ 82) → M1 k = X k := by
  intro k hk
  have g : Ok (fun a : Int32 × Sto => a.2 k = X k) (m_N_give x X) ∨ m_N_give x X = none := by
    unfold m_N_give m_A_addInput wr
    dsimp only
    by_cases h1 : X 6 4 < 16
    · rw [if_pos h1]
      by_cases h2 : ok (X 6 4) 16 = true
      · rw [if_pos h2]
        exact Or.inl (Ok.to (P := fun a : Int32 × Sto => a.2 k = X k) ⟨(_, _), rfl, by show up2 _ _ _ _ k = _; rw [up2_ne _ _ _ (by omega), up2_ne _ _ _ (by omega)]⟩ (fun _ h => h))
      · rw [if_neg h2]; exact Or.inr rfl
    · rw [if_neg h1]
      exact Or.inl ⟨(_, _), rfl, rfl⟩
  rcases g with ⟨a, a1, a2⟩ | g
  · rw [a1] at e
    injection e with e
    rw [e] at a2; exact a2
  · rw [g] at e; cases e
theorem C_give {R M1 : Sto} {x r : Int32} (e : m_R_give x R = some (r, M1)) : ∀ k, 1 ≤ k → k ≤ 9 → M1 k = R k := by
  intro k k1 k9
  have g : Ok (fun a : Int32 × Sto => a.2 k = R k) (m_R_give x R) ∨ m_R_give x R = none := by
    unfold m_R_give wr
    dsimp only
    by_cases h1 : up2 R 0 0 0 0 32 = 16
    · rw [if_pos h1]
      exact Or.inl ⟨(_, _), rfl, by show up2 _ _ _ _ k = _; rw [up2_ne _ _ _ (by omega)]⟩
    · rw [if_neg h1]
      by_cases h2 : ok (up2 R 0 0 0 0 32) 16 = true
      · rw [if_pos h2]
        exact Or.inl ⟨(_, _), rfl, by show up2 _ _ _ _ k = _; rw [up2_ne _ _ _ (by omega), up2_ne _ _ _ (by omega), up2_ne _ _ _ (by omega)]⟩
      · rw [if_neg h2]; exact Or.inr rfl
  rcases g with ⟨a, a1, a2⟩ | g
  · rw [a1] at e
    injection e with e
    rw [e] at a2; exact a2
  · rw [g] at e; cases e
end
section
theorem steps_8 : Steps Inv8 cmp8 := by
  intro MX MR hI
  obtain ⟨hX, B, N, hR, hp, hr⟩ := hI
  have hB := hR.pf.hB
  have hb : MX 1 0 = nJ B := hr.1.trans hR.pf.blk
  have iX := hX.ix
  refine ⟨?_, fun x1 x2 x3 x4 x5 => ?_, fun x1 x2 => ?_, fun x1 x2 x3 x4 => ?_, fun x1 => ?_, ?_, ?_, fun x1 x2 => ?_, fun x1 x2 x3 => ?_, fun x1 x2 x3 => ?_, fun x1 x2 => ?_, fun x1 => ?_, ?_, fun x1 x2 _ => ?_, ?_, fun x1 => ?_, fun x1 => ?_⟩
  · -- block
    rcases X_block hX hb hB with ⟨z, hx⟩ | ⟨z, M1, hx, t1, k1, k2, k3⟩
    · rcases R_block hR with ⟨_, hy⟩ | ⟨y, _⟩
      · exact al8_r hX hR hp hr hx hy (by decide) (by decide)
      · omega
    · rcases R_block hR with ⟨y, _⟩ | ⟨_, M2, hy, e2, i1, i2, i3, i4⟩
      · omega
      · exact ⟨0, nJ B, M1, nJ B, M2, hx, by decide, hy, ⟨t1, B + 1, N, i1, P_block hp z M1 M2 hx hy i1.pf k1 k2 i3, by rw [k1, i2], by rw [k2, i3, hr.2.1], by rw [k3, i4]; exact hr.2.2⟩, fun _ => ⟨e2, fun _ => rfl⟩⟩
  · -- put
    rcases RQ_put (x1 := x1) (x2 := x2) (x3 := x3) (x4 := x4) (x5 := x5) hR with ⟨hn, hy⟩ | ⟨hc, b, l, b1, b2, b3, hy⟩
    · exact al8_r hX hR hp hr (X_putN hb hB hn) hy (by decide) (by decide)
    · have hl : l ≤ 6 := by rcases hy with ⟨y, _⟩ | ⟨y, _⟩ <;> omega
      subst b2
      rcases X_put hX hb hB b1 hl (by rw [hr.2.1]; exact b3) hc.2 with ⟨z, hx⟩ | ⟨z, M1, hx, t1, k1, k2, k3⟩
      · rcases hy with ⟨_, hy⟩ | ⟨y, _⟩
        · exact al8_r hX hR hp hr hx hy (by decide) (by decide)
        · omega
      · rcases hy with ⟨y, _⟩ | ⟨_, M2, hy, e2, i1, i2, i3, i4⟩
        · omega
        · exact ⟨0, nJ (l + 1), M1, nJ (l + 1), M2, hx, by decide, hy, ⟨t1, B, N, i1, P_put hp b1 z b3 hc.2 M1 M2 hx hy i1.pf k1 k2 i3, by rw [k1, i2]; exact hr.1, by rw [k2, i3, hr.2.1], by rw [k3, i4]; exact hr.2.2⟩, fun _ => ⟨e2, fun _ => rfl⟩⟩
  · -- go
    rcases X_go (x1 := x1) (x2 := x2) hX hb hB with ⟨c, hx⟩ | ⟨c, hx⟩
    · rcases R_go (x1 := x1) (x2 := x2) hR with ⟨_, hy⟩ | ⟨d, _⟩
      · exact al8_d hr hx hy (by decide) (P_go hp c)
      · exact absurd c d
    · rcases R_go (x1 := x1) (x2 := x2) hR with ⟨d, _⟩ | ⟨_, hy⟩
      · exact absurd d c
      · exact al8_r hX hR hp hr hx hy (by decide) (by decide)
  · -- fork
    rcases X_fork (x1 := x1) (x2 := x2) (x3 := x3) (x4 := x4) hX hb hB with ⟨c, hx⟩ | ⟨c, hx⟩
    · rcases R_fork (x1 := x1) (x2 := x2) (x3 := x3) (x4 := x4) hR with ⟨_, hy⟩ | ⟨d, _⟩
      · exact al8_d hr hx hy (by decide) (P_fork hp c)
      · exact absurd c d
    · rcases R_fork (x1 := x1) (x2 := x2) (x3 := x3) (x4 := x4) hR with ⟨d, _⟩ | ⟨_, hy⟩
      · exact absurd d c
      · exact al8_r hX hR hp hr hx hy (by decide) (by decide)
  · -- stop
    rcases X_stop (x1 := x1) hX hb hB with ⟨c, hx⟩ | ⟨c, hx⟩
    · rcases R_stop (x1 := x1) hR with ⟨_, hy⟩ | ⟨d, _⟩
      · exact al8_d hr hx hy (by decide) (P_stop hp c)
      · exact absurd c d
    · rcases R_stop (x1 := x1) hR with ⟨d, _⟩ | ⟨_, hy⟩
      · exact absurd d c
      · exact al8_r hX hR hp hr hx hy (by decide) (by decide)
  · -- clear
    obtain ⟨M1, hx, t1, k1, k2, k3⟩ := X_clear hX
    obtain ⟨M2, hy, i1, i2, i3, i4⟩ := R_clear hR
    have p : PR M1 M2 0 := by
      injection hx with hx; injection hx with _ hx
      injection hy with hy; injection hy with _ hy
      have xk : ∀ k, k ≠ 0 → k ≠ 1 → M1 k = MX k := fun k h0 h1 => by rw [← hx, up2_ne _ _ _ h1, up2_ne _ _ _ h0]
      have rk : ∀ k, k ≠ 0 → M2 k = MR k := fun k h0 => by rw [← hy, up2_ne _ _ _ h0, up2_ne _ _ _ h0, up2_ne _ _ _ h0]
      refine ⟨i1.pf, k1, fun b => by rw [xk 7 (by decide) (by decide), rk 1 (by decide)]; exact hp.len b, fun b hb => ?_, fun b i hb hi => ?_⟩
      · rw [xk 8 (by decide) (by decide), xk 9 (by decide) (by decide), xk 10 (by decide) (by decide), xk 11 (by decide) (by decide), rk 6 (by decide), rk 7 (by decide), rk 8 (by decide), rk 9 (by decide)]
        exact hp.fin b hb
      · rw [xk (43 + b) (by omega) (by omega), xk (53 + b) (by omega) (by omega), xk (63 + b) (by omega) (by omega), xk (73 + b) (by omega) (by omega), rk 2 (by decide), rk 3 (by decide), rk 4 (by decide), rk 5 (by decide)]
        exact hp.row b i hb hi
    exact ⟨0, M1, 0, M2, hx, hy, ⟨t1, 0, N, i1, p, by rw [k1, i2], by rw [k2, i3]; exact hr.2.1, by rw [k3, i4]; exact hr.2.2⟩, fun _ => rfl⟩
  · -- build
    by_cases z : B = 0
    · have hx : m_N_build MX = some (2, 0, MX) := by
        unfold m_N_build
        rw [hb, z, if_pos (by decide)]
      have hy : Ref MR 1 (m_R_build MR) := by
        refine ⟨up2 MR 0 0 1, ?_, up0_at MR 1, up0_fr MR 1⟩
        unfold m_R_build j_R_build_13
        rw [hR.pf.blk, z, if_pos (by decide), fails_eq _ _ _ (Or.inr rfl)]
        rfl
      exact al8_r hX hR hp hr hx hy (by decide) (by decide)
    · obtain ⟨⟨c, r, M1⟩, hx, h1, h2⟩ := s_m_N_build iX (by decide)
      obtain ⟨r2, M2, hy, ⟨N', i1⟩, i2, i3, i4⟩ := R_build hR
      obtain ⟨k1, k2, k3⟩ := IX.keep h1
      obtain ⟨r', MX', r2', MR', a1, a2, a3, a4, f⟩ := build_alike hp hX hR (Nat.pos_of_ne_zero z)
      rw [a1] at hx
      rw [a2] at hy
      injection hx with hx; injection hx with e1 hx; injection hx with e2 hx
      injection hy with hy; injection hy with e3 hy
      subst e1; subst e2; subst hx; subst e3; subst hy
      have p : PR MX' MR' B := (hp.ix h1).rr i1.pf (fun k k1 k9 => f.1 k (by omega) (by intro q; unfold PL at q; simp only [List.mem_cons, List.not_mem_nil, or_false] at q; omega))
      exact ⟨0, r', MX', r2', MR', a1, h2, a2, ⟨h1.self, B, N', i1, p, hr.to k1 k2 k3 i2 i3 i4⟩, fun _ => ⟨a3, fun _ => a4⟩⟩
  · exact al8_q hR hp hr (s_m_N_look iX) (q0 (R_look hR)) (by unfold cmp8; decide)
  · exact al8_q hR hp hr (s_m_N_phi iX) (q0 (R_phi hR)) (by unfold cmp8; decide)
  · exact al8_q hR hp hr (s_m_N_uses iX) (q0 (R_uses hR)) (by unfold cmp8; decide)
  · exact al8_q hR hp hr (s_m_N_name iX (by decide)) (q0 (R_name hR)) (by unfold cmp8; decide)
  · -- give
    obtain ⟨g, g1, g2⟩ := hR.pf.inp
    obtain ⟨r, M1, hx, t1, k1, k2, k3⟩ := X_give (x := x1) hX g1 (hr.2.2.trans g2)
    obtain ⟨r2, M2, hy, i1, i2, i3, i4⟩ := R_give (x := x1) hR g1 g2
    have p : PR M1 M2 B := (hp.fx (C_ngive hx)).rr i1.pf (C_give hy)
    rcases k3 with ⟨a1, a2, a3⟩ | ⟨a1, a2, a3⟩
    · rcases i4 with ⟨_, b2, b3⟩ | ⟨b1, _⟩
      · exact ⟨r, M1, r2, M2, hx, hy, ⟨t1, B, N, i1, p, hr.to k1 k2 a3 i2 i3 b3⟩, fun _ => by rw [a2, b2]⟩
      · omega
    · rcases i4 with ⟨b1, _⟩ | ⟨_, b2, b3⟩
      · omega
      · exact ⟨r, M1, r2, M2, hx, hy, ⟨t1, B, N, i1, p, by rw [k1, i2]; exact hr.1, by rw [k2, i3]; exact hr.2.1, by rw [a3, b3]⟩, fun _ => by rw [a2, b2]⟩
  · -- take
    obtain ⟨M1, hx, t1, k1, k2, k3⟩ := X_take hX
    obtain ⟨M2, hy, i1, i2, i3, i4⟩ := R_take hR
    have p : PR M1 M2 B := by
      injection hx with hx; injection hx with _ hx
      injection hy with hy; injection hy with _ hy
      exact (hp.fx (fun k hk => by rw [← hx, up2_ne _ _ _ (by omega)])).rr i1.pf (fun k k1 k9 => by rw [← hy, up2_ne _ _ _ (by omega), up2_ne _ _ _ (by omega)])
    exact ⟨0, M1, 0, M2, hx, hy, ⟨t1, B, N, i1, p, by rw [k1, i2]; exact hr.1, by rw [k2, i3]; exact hr.2.1, by rw [k3, i4]⟩, fun _ => rfl⟩
  · exact al8_q hR hp hr (s_m_N_run iX (by decide)) (r_run hR.pf hR.blt) (by unfold cmp8; decide)
  · exact al8_0 hX hR hp hr ((s_m_N_told iX (by decide)).to fun _ h => h.1) (q0 R_told) (by unfold cmp8; decide)
  · exact al8_q hR hp hr (s_m_N_heard iX) (q0 R_heard) (by unfold cmp8; decide)
  · exact al8_0 hX hR hp hr (s_m_N_spent iX) (q0 R_spent) (by unfold cmp8; decide)
theorem inv8_0 : Inv8 M0 M0 := by
  obtain ⟨t, ⟨B, N, _⟩, r⟩ := inv_0
  have hR : IR M0 0 0 := ⟨⟨by omega, rfl, fun b _ => ⟨0, by omega, rfl⟩, fun b hb => by omega, fun j => ⟨0, by omega, rfl⟩, fun j _ => ⟨0, by omega, rfl⟩, fun j h => absurd rfl h, fun j h => absurd rfl h, ⟨0, by omega, rfl⟩⟩, by omega, rfl, fun _ _ => ⟨rfl, rfl⟩, fun q => absurd rfl q⟩
  exact ⟨t, 0, 0, hR, ⟨hR.pf, rfl, fun _ => rfl, fun _ _ => ⟨rfl, fun q => absurd (show (0 : Int32) = 1 from q) (by decide), fun q => absurd (show (0 : Int32) = 2 from q) (by decide)⟩, fun _ _ _ _ => ⟨rfl, rfl, rfl, rfl⟩⟩, r⟩
end
