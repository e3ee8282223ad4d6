theorem WQ.wk {X X' R R' : Sto} (h : WQ X R) (f : FwX X X') (g : FwR R R') : WQ X' R' :=
  ⟨by rw [f 6 (by decide), f 29 (by decide), g.1 27 (by decide) (by decide), g.2.1]; exact h.inp, by rw [f 6 (by decide), f 33 (by decide), g.1 28 (by decide) (by decide), g.2.2.2.1]; exact h.tld, by rw [f 6 (by decide), g.2.2.2.2.1]; exact h.blk, by rw [f 6 (by decide), g.2.2.2.2.2]; exact h.ins, by rw [f 6 (by decide), g.2.2.1]; exact h.ask⟩
theorem WQ.build {X R MX MR : Sto} (h : WQ X R) (f : FCq X MX) (g : FDq R MR) : WQ MX MR :=
  ⟨by rw [f 6 (by decide), f 29 (by decide), g.1 27 (by decide), g.2 32 (by decide)]; exact h.inp, by rw [f 6 (by decide), f 33 (by decide), g.1 28 (by decide), g.2 35 (by decide)]; exact h.tld, by rw [f 6 (by decide), g.2 37 (by decide)]; exact h.blk, by rw [f 6 (by decide), g.2 38 (by decide)]; exact h.ins, by rw [f 6 (by decide), g.2 34 (by decide)]; exact h.ask⟩
theorem WQ.give {X R : Sto} {x : Int32} (h : WQ X R) : Pw2 (fun a b => WQ a.2 b.2) (m_N_give x X) (m_R_give x R) := by
  obtain ⟨g, g1, g2, g3, g4⟩ := h.inp
  have e32 : up2 R 0 0 0 0 32 = nJ g := by rw [up2_at, if_neg (by decide)]; exact g3
  unfold m_N_give m_A_addInput m_R_give
  rw [g2]
  refine p2_wr fun M1 p1 => ?_
  have e1 : M1 0 32 = nJ g := by rw [p1]; exact e32
  rw [e1]
  have w1 : WQ X M1 := by rw [p1]; exact h.z
  by_cases q : g < 16
  · have c1 : nJ g < 16 := Int32.lt_iff_toInt_lt.mpr (by rw [nJ_int (i := g) (by omega)]; show (g : Int) < 16; omega)
    have c2 : ¬ nJ g = 16 := fun y => by
      have := congrArg Int32.toInt y
      rw [nJ_int (i := g) (by omega)] at this
      have n16 : (16 : Int32).toInt = 16 := rfl
      omega
    rw [if_pos c1, if_neg c2, nJ_tn (i := g) (by omega)]
    intro a b e2 e3
    cases hh : (if ok (nJ g) 16 = true then ((wr (up2 X 29 g x) fun M1 => (wr (up2 M1 6 4 ((M1 6 4) + 1)) fun M2 => if bz 1 then some ((1 : Int32), M2) else none))) else none) with
    | none => rw [hh] at e2; cases e2
    | some o =>
      rw [hh] at e2
      have hx : Pw (fun o => o.2 6 4 = nJ (g + 1) ∧ (∀ j, j ≠ 4 → o.2 6 j = X 6 j) ∧ o.2 33 = X 33 ∧ ∀ j, o.2 29 j = if j = g then x else X 29 j) (if ok (nJ g) 16 = true then ((wr (up2 X 29 g x) fun M1 => (wr (up2 M1 6 4 ((M1 6 4) + 1)) fun M2 => if bz 1 then some ((1 : Int32), M2) else none))) else none) := by
        refine pw_okT (Pw.wrt fun M2 q2 => Pw.wrt fun M3 q3 => Pw.ite (fun _ => Pw.some ?_) (fun _ => Pw.none))
        show M3 6 4 = nJ (g + 1) ∧ (∀ j, j ≠ 4 → M3 6 j = X 6 j) ∧ M3 33 = X 33 ∧ ∀ j, M3 29 j = if j = g then x else X 29 j
        have e64 : M2 6 4 = nJ g := by rw [q2, up2_ne _ _ _ (by decide)]; exact g2
        refine ⟨by rw [q3, up2_at, if_pos ⟨rfl, rfl⟩, e64, nJ_succ (by omega)], fun j hj => by rw [q3, up2_at, if_neg (fun y => hj y.2), q2, up2_ne _ _ _ (by decide)], by rw [q3, up2_ne _ _ _ (by decide), q2, up2_ne _ _ _ (by decide)], fun j => ?_⟩
        rw [q3, up2_ne _ _ _ (by decide), q2, up2_at]
        by_cases z : j = g
        · rw [if_pos ⟨rfl, z⟩, if_pos z]
        · rw [if_neg (fun y => z y.2), if_neg z]
      obtain ⟨o1, o2, o3, o4⟩ := hx o hh
      have ea : a.2 = o.2 := by
        have e2 : (if bz o.1 = true then some (o.1, o.2) else none) = some a := e2
        by_cases y : bz o.1 = true
        · rw [if_pos y] at e2; cases e2; rfl
        · rw [if_neg y] at e2; cases e2
      have hy : Pw (fun b => b.2 0 32 = nJ (g + 1) ∧ (∀ j, j ≠ 32 → b.2 0 j = M1 0 j) ∧ b.2 28 = M1 28 ∧ ∀ j, b.2 27 j = if j = g then x else M1 27 j) (if ok (nJ g) 16 = true then ((wr (up2 M1 27 g x) fun M2 => (wr (up2 M2 0 32 ((M2 0 32) + 1)) fun M3 => if bz 1 then some ((1 : Int32), M3) else none))) else none) := by
        refine pw_okT (Pw.wrt fun M2 q2 => Pw.wrt fun M3 q3 => Pw.ite (fun _ => Pw.some ?_) (fun _ => Pw.none))
        show M3 0 32 = nJ (g + 1) ∧ (∀ j, j ≠ 32 → M3 0 j = M1 0 j) ∧ M3 28 = M1 28 ∧ ∀ j, M3 27 j = if j = g then x else M1 27 j
        have e32 : M2 0 32 = nJ g := by rw [q2, up2_ne _ _ _ (by decide)]; exact e1
        refine ⟨by rw [q3, up2_at, if_pos ⟨rfl, rfl⟩, e32, nJ_succ (by omega)], fun j hj => by rw [q3, up2_at, if_neg (fun y => hj y.2), q2, up2_ne _ _ _ (by decide)], by rw [q3, up2_ne _ _ _ (by decide), q2, up2_ne _ _ _ (by decide)], fun j => ?_⟩
        rw [q3, up2_ne _ _ _ (by decide), q2, up2_at]
        by_cases z : j = g
        · rw [if_pos ⟨rfl, z⟩, if_pos z]
        · rw [if_neg (fun y => z y.2), if_neg z]
      obtain ⟨b1, b2, b3, b4⟩ := hy b e3
      obtain ⟨g', g1', g2', g3', g4'⟩ := w1.inp
      have egg : g' = g := nJ_inj (by omega) (by omega) (g2'.symm.trans g2)
      subst egg
      rw [ea]
      refine ⟨⟨g' + 1, by omega, o1, b1, fun j hj => ?_⟩, by rw [o2 9 (by decide), o3, b2 35 (by decide), b3]; exact w1.tld, by rw [o2 11 (by decide), b2 37 (by decide)]; exact w1.blk, by rw [o2 12 (by decide), b2 38 (by decide)]; exact w1.ins, by rw [o2 13 (by decide), b2 34 (by decide)]; exact w1.ask⟩
      rw [o4, b4]
      by_cases z : j = g'
      · rw [if_pos z, if_pos z]
      · rw [if_neg z, if_neg z]; exact g4' j (by omega)
  · have eg : g = 16 := by omega
    have c1 : ¬ nJ g < 16 := fun y => by
      have := Int32.lt_iff_toInt_lt.mp y
      rw [nJ_int (i := g) (by omega)] at this
      have n16 : (16 : Int32).toInt = 16 := rfl
      omega
    have c2 : nJ g = 16 := by rw [eg]; rfl
    rw [if_neg c1, if_pos c2]
    refine p2_okr ?_
    refine p2_bl (Pw.ite (fun _ => Pw.some rfl) (fun _ => Pw.none) : Pw (fun o => o = ((0 : Int32), X)) _) (fun o ho => ?_)
    subst ho
    exact p2_okl (p2_some w1)
theorem WQ.take {X R : Sto} (h : WQ X R) : WQ (up2 X 6 4 0) (up2 (up2 R 0 0 0) 0 32 0) := by
  have e : ∀ j, j ≠ 0 → j ≠ 32 → up2 (up2 R 0 0 0) 0 32 0 0 j = R 0 j := fun j a b => by rw [up2_at, if_neg (fun q => b q.2), up2_at, if_neg (fun q => a q.2)]
  have k : ∀ a, a ≠ 0 → up2 (up2 R 0 0 0) 0 32 0 a = R a := fun a ha => by rw [up2_ne _ _ _ ha, up2_ne _ _ _ ha]
  have x : ∀ j, j ≠ 4 → up2 X 6 4 0 6 j = X 6 j := fun j a => by rw [up2_at, if_neg (fun q => a q.2)]
  have y : ∀ a, a ≠ 6 → up2 X 6 4 0 a = X a := fun a ha => by rw [up2_ne _ _ _ ha]
  exact ⟨⟨0, by omega, by rw [up2_at, if_pos ⟨rfl, rfl⟩]; rfl, by rw [up2_at, if_pos ⟨rfl, rfl⟩]; rfl, fun j hj => by omega⟩, by rw [x 9 (by decide), y 33 (by decide), e 35 (by decide) (by decide), k 28 (by decide)]; exact h.tld, by rw [x 11 (by decide), e 37 (by decide) (by decide)]; exact h.blk, by rw [x 12 (by decide), e 38 (by decide) (by decide)]; exact h.ins, by rw [x 13 (by decide), e 34 (by decide) (by decide)]; exact h.ask⟩
theorem cmp_heard {X R : Sto} {x1 : Int32} (h : WQ X R) : Cmp 3 (m_N_heard x1 X) (m_R_heard x1 R) := by
  obtain ⟨t, t1, t2, t3, t4⟩ := h.tld
  have n0 : (0 : Int32).toInt = 0 := rfl
  have n40 : (40 : Int32).toInt = 40 := rfl
  have et := nJ_int (i := t) (by omega)
  have x21 : Pw (fun a => a.1 = 3 ∧ ((3 : Nat) = 0 → a.2.1 = 0)) (j_N_heard_21 X) := by
    unfold j_N_heard_21
    exact Pw.some ⟨rfl, fun q => absurd q (by decide)⟩
  have r19 : Pw (fun a => a.2 0 0 = kc 3 3 ∧ ((3 : Nat) = 0 → a.1 = 0)) (j_R_heard_19 x1 R) := by
    unfold j_R_heard_19 j_R_heard_24 j_R_heard_41
    refine Pw.fails (Or.inr rfl) (fun y => absurd y (by decide)) (fun _ => ?_)
    exact Pw.some ⟨up0_at R 1, fun q => absurd q (by decide)⟩
  unfold m_N_heard m_R_heard
  rw [t2, t3]
  by_cases q : 0 ≤ x1.toInt ∧ x1.toInt < 40 ∧ x1.toInt < (t : Int)
  · obtain ⟨q0, q1, q2⟩ := q
    have a1 : ¬ x1 < 0 := fun y => by have := Int32.lt_iff_toInt_lt.mp y; omega
    have a2 : ¬ 40 ≤ x1 := fun y => by have := Int32.le_iff_toInt_le.mp y; omega
    have a3 : x1 < nJ t := Int32.lt_iff_toInt_lt.mpr (by omega)
    have a4 : ¬ nJ t ≤ x1 := fun y => by have := Int32.le_iff_toInt_le.mp y; omega
    have a5 : x1 < 40 := Int32.lt_iff_toInt_lt.mpr (by omega)
    have hx : x1 = nJ x1.toNatClampNeg := nJ_of (by omega)
    have hts := tn_eq (i := x1) (by omega)
    refine cmp_is 0 (R 28 x1.toNatClampNeg) ?_ ?_
    · rw [if_neg a1, if_neg a2, if_pos a3]
      exact pw_okT (Pw.some ⟨rfl, fun _ => t4 _ (by omega) (by omega)⟩)
    · rw [if_neg a1, if_neg a4, if_pos a5]
      unfold j_R_heard_24 j_R_heard_41
      refine Pw.fails (Or.inl rfl) (fun _ => ?_) (fun y => absurd y (by decide))
      refine pw_okT (Pw.some ⟨up0_at R 0, fun _ => ?_⟩)
      show up2 R 0 0 0 28 _ = _
      rw [up2_ne _ _ _ (by decide)]
  · refine cmp_is 3 0 ?_ ?_
    · refine Pw.ite (fun _ => x21) (fun y1 => Pw.ite (fun _ => x21) (fun y2 => Pw.ite (fun y3 => ?_) (fun _ => x21)))
      exfalso
      apply q
      have := Int32.lt_iff_toInt_lt.mp y3
      have h1 : ¬ x1.toInt < (0 : Int32).toInt := fun y => y1 (Int32.lt_iff_toInt_lt.mpr y)
      have h2 : ¬ (40 : Int32).toInt ≤ x1.toInt := fun y => y2 (Int32.le_iff_toInt_le.mpr y)
      omega
    · refine Pw.ite (fun _ => r19) (fun y1 => Pw.ite (fun _ => r19) (fun y2 => Pw.ite (fun y3 => ?_) (fun _ => r19)))
      exfalso
      apply q
      have := Int32.lt_iff_toInt_lt.mp y3
      have h1 : ¬ x1.toInt < (0 : Int32).toInt := fun y => y1 (Int32.lt_iff_toInt_lt.mpr y)
      have h2 : ¬ (nJ t).toInt ≤ x1.toInt := fun y => y2 (Int32.le_iff_toInt_le.mpr y)
      omega
def cmp15 (k : Nat) : Prop := k ≠ 16
theorem hq15 : HQ QK WQ cmp15 := by
  refine ⟨fun X X' R B N h f => h.qx f, fun X R R' B N h f => h.qr f, fun X R B N hp hT hR h0 => ?_, fun X X' R R' h f g => h.wk f g, fun X R x r M1 r2 M2 h _ _ e1 e2 => h.give _ _ e1 e2, fun X R h => h.take, fun X R B N x1 x2 c r M1 r2 M2 _ hR hp _ hbt hq hw _ e1 e2 => ?_, fun _ X R B N x1 x2 _ _ hp hbt hq => cmp_look hp hbt hq, fun _ X R B N x1 x2 x3 _ _ hp hbt hq => cmp_phi hp hbt (fun y => (hq y).nm.2), fun _ X R B N x1 x2 x3 _ _ hp hbt hq => cmp_uses hp hbt (fun y => (hq y).nm.2), fun _ X R B N x1 x2 _ hR _ hbt hq => cmp_name hR hbt hq, fun _ X R h => ?_, fun _ X R x1 _ h => cmp_heard h, by unfold cmp15; decide⟩
  · obtain ⟨r, MX, MR, N', a1, a2, a3, a4, a5, a6, a7⟩ := build_known hp hT hR h0
    refine ⟨r, MX, MR, N', a1, a2, a3, a4, a5, a6, a7, fun hw => hw.build (fc_build _ a1 rfl) (fd_build _ a2)⟩
  · obtain ⟨w1, w2, w3⟩ := y_runQ hR hp hbt hq hw _ _ e1 e2
    exact ⟨w1, fun _ => ⟨w2, w3⟩⟩
  · obtain ⟨t, _, t2, t3, _⟩ := h.tld
    rw [t2, t3]
theorem steps_15 : Steps (InvQ QK WQ) cmp15 := steps_q hq15
theorem inv15_0 : InvQ QK WQ M0 M0 := invQ_0 ⟨⟨0, by omega, rfl, rfl, fun j hj => by omega⟩, ⟨0, by omega, rfl, rfl, fun j hj => by omega⟩, rfl, rfl, ⟨0, 0, by omega, by omega, rfl, rfl⟩⟩
