theorem y_pval {X0 G X M : Sto} {B K c b i : Nat} {x y : Int32} (hP : PF G B) (hb : b < 10) (hi : i < 6) (h : SR1 X0 G K c X M) (hK : K < 100000) (hV : ∀ v, v < 6 → X 30 v = M 29 v) (h7 : G 2 (6 * b + i) ≠ 7)
    (hx0 : G 2 (6 * b + i) = 0 → x = G 4 (6 * b + i)) (hx : G 2 (6 * b + i) ≠ 0 → G 2 (6 * b + i) ≠ 6 → x = X 30 (tn (G 4 (6 * b + i)))) (hy : G 2 (6 * b + i) ≠ 0 → G 2 (6 * b + i) ≠ 1 → G 2 (6 * b + i) ≠ 6 → y = X 30 (tn (G 5 (6 * b + i)))) :
    Pw2 (fun a r => a.1 = r.1 ∧ SR X0 G (K + 1) c a.2 r.2 ∧ Sm X M a.2 r.2) (m_A_perform (G 2 (6 * b + i)) x y X) (m_R_plainValue (nJ (6 * b + i)) M) := by
  have m2 : M 2 = G 2 := h.fr.1 2 (by decide) (by decide)
  have m4 : M 4 = G 4 := h.fr.1 4 (by decide) (by decide)
  have m5 : M 5 = G 5 := h.fr.1 5 (by decide) (by decide)
  unfold m_R_plainValue j_R_plainValue_67
  rw [nJ_tn (by omega), m2, m4, m5]
  refine p2_okr (p2_ir (fun z0 => p2_okr ?_) (fun z0 => p2_ir (fun z6 => ?_) (fun z6 => p2_okr (p2_okr (p2_ir (fun z1 => ?_) (fun z1 => p2_okr (p2_okr ?_)))))))
  · refine p2_one (y_perf h (by rw [z0]; decide) h7) (Pw.some rfl : Pw (fun r => r = (G 4 (6 * b + i), M)) _) (fun a r ha hr => ?_)
    subst hr
    refine ⟨?_, ha.2.1.mono (by omega), ha.2.2.1, ha.2.2.2.1, ha.2.2.2.2, rfl, rfl⟩
    rw [ha.1]; unfold cal; rw [if_pos z0]; exact hx0 z0
  · rw [z6]
    intro a r e1 e2
    cases hh : m_R_ask M with
    | none => rw [hh] at e2; cases e2
    | some o =>
      rw [hh] at e2
      have e2 : some (o.1, o.2) = some r := e2
      cases e2
      exact y_perf6 h hK _ _ e1 hh
  · refine p2_one (y_perf h z6 h7) (Pw.some rfl : Pw (fun r => r = (M 29 (G 4 (6 * b + i)).toNatClampNeg, M)) _) (fun a r ha hr => ?_)
    subst hr
    refine ⟨?_, ha.2.1.mono (by omega), ha.2.2.1, ha.2.2.2.1, ha.2.2.2.2, rfl, rfl⟩
    obtain ⟨w, w1, w2⟩ := hP.fst (6 * b + i) z0 z6
    rw [ha.1]; unfold cal; rw [if_neg z0, if_pos z1, hx z0 z6, w2, tn_nJ (by omega), nJ_tn (by omega)]
    exact hV w w1
  · rw [reckon_eq]
    refine p2_one (y_perf h z6 h7) (Pw.some rfl : Pw (fun r => r = (rk (G 2 (6 * b + i)) (M 29 (G 4 (6 * b + i)).toNatClampNeg) (M 29 (G 5 (6 * b + i)).toNatClampNeg), M)) _) (fun a r ha hr => ?_)
    subst hr
    refine ⟨?_, ha.2.1.mono (by omega), ha.2.2.1, ha.2.2.2.1, ha.2.2.2.2, rfl, rfl⟩
    obtain ⟨w, w1, w2⟩ := hP.fst (6 * b + i) z0 z6
    obtain ⟨u, u1, u2⟩ := hP.snd (6 * b + i) z0 z1 z6 h7
    rw [ha.1, cal_rk z0 z1 z6 h7 (hP.knd _), hx z0 z6, hy z0 z1 z6, w2, u2, tn_nJ (by omega), tn_nJ (by omega), nJ_tn (by omega), nJ_tn (by omega), hV w w1, hV u u1]
theorem y_plain {X0 G : Sto} {B K c b : Nat} {k : Int32 → Sto → Option (Int32 × Sto)} (hp : PR X0 G B) (hb : b < B) (hK : K + 6 < 100000) :
    ∀ n i X M, SR X0 G (K + i) c X M → (∀ v, v < 6 → X 30 v = M 29 v) → i ≤ lenN G b → Pw2 (fun a r => ∃ X', k (nJ b) X' = some a ∧ SR X0 G (K + 6) c X' r.2 ∧ ∀ v, v < 6 → X' 30 v = r.2 29 v) (l_A_passPlain_2 k n (nJ b) (nJ i) X) (l_R_plainBlock_5 j_R_plainBlock_81 n (nJ b) (nJ (6 * b + i)) M) := by
  intro n
  have hP := hp.pf
  have hB := hP.hB
  have hl := hP.lenN_le (b := b) (by omega)
  have eln : G 1 b = nJ (lenN G b) := by
    obtain ⟨l, l1, l2⟩ := hP.len b (by omega)
    unfold lenN
    rw [l2, nJ_tn (by omega)]
  induction n with
  | zero => intro i X M _ _ _; exact p2_nl
  | succ n ih =>
    intro i X M h hV hi
    have fx : ∀ k, k ≠ 6 → k < 30 ∨ 33 < k → X k = X0 k := h.fx.1
    unfold l_A_passPlain_2 l_R_plainBlock_5
    rw [nJ_tn (i := b) (by omega), nJ_tn (i := i) (by omega), fx 7 (by decide) (by decide), hp.len, h.fr.1 1 (by decide) (by decide), eln, nJ_mul6 (by omega), nJ_add (by omega)]
    refine p2_okl (p2_okr ?_)
    by_cases q : lenN G b ≤ i
    · have c1 : nJ (lenN G b) ≤ nJ i := Int32.le_iff_toInt_le.mpr (by rw [nJ_int (i := i) (by omega), nJ_int (i := lenN G b) (by omega)]; omega)
      have c2 : nJ (6 * b + lenN G b) ≤ nJ (6 * b + i) := Int32.le_iff_toInt_le.mpr (by rw [nJ_int (i := 6 * b + i) (by omega), nJ_int (i := 6 * b + lenN G b) (by omega)]; omega)
      rw [if_pos c1, if_pos c2]
      unfold j_R_plainBlock_81
      intro a r e1 e2
      cases e2
      exact ⟨X, e1, h.mono (by omega), hV⟩
    have c1 : ¬ nJ (lenN G b) ≤ nJ i := fun y => by
      have := Int32.le_iff_toInt_le.mp y
      rw [nJ_int (i := i) (by omega), nJ_int (i := lenN G b) (by omega)] at this; omega
    have c2 : ¬ nJ (6 * b + lenN G b) ≤ nJ (6 * b + i) := fun y => by
      have := Int32.le_iff_toInt_le.mp y
      rw [nJ_int (i := 6 * b + i) (by omega), nJ_int (i := 6 * b + lenN G b) (by omega)] at this; omega
    rw [if_neg c1, if_neg c2]
    obtain ⟨r1, r2, r3, r4⟩ := hp.row b i (by omega) (by omega)
    rw [← fx (43 + b) (by omega) (by omega)] at r1
    rw [← fx (53 + b) (by omega) (by omega)] at r2
    rw [← fx (63 + b) (by omega) (by omega)] at r3
    rw [← fx (73 + b) (by omega) (by omega)] at r4
    refine p2_wr fun M1 p1 => ?_
    have h1 : SR1 X0 G (K + i) c X M1 := by rw [p1]; exact h.up38
    have m29 : M1 29 = M 29 := by rw [p1, up2_ne _ _ _ (by decide)]
    have hV1 : ∀ v, v < 6 → X 30 v = M1 29 v := by rw [m29]; exact hV
    have m2 : M1 2 = G 2 := h1.fr.1 2 (by decide) (by decide)
    have m3 : M1 3 = G 3 := h1.fr.1 3 (by decide) (by decide)
    have m4 : M1 4 = G 4 := h1.fr.1 4 (by decide) (by decide)
    rw [nJ_tn (i := 6 * b + i) (by omega), m2, m3, m4]
    refine p2_okl (p2_okl (p2_okl (p2_okl (p2_okl (p2_okl (p2_okr ?_))))))
    rw [r1, r3, r4]
    have next : ∀ X2 M2, SR X0 G (K + i + 1) c X2 M2 → (∀ v, v < 6 → X2 30 v = M2 29 v) → Pw2 (fun a r => ∃ X', k (nJ b) X' = some a ∧ SR X0 G (K + 6) c X' r.2 ∧ ∀ v, v < 6 → X' 30 v = r.2 29 v) (j_A_passPlain_130 (l_A_passPlain_2 k n) k (nJ b) (nJ i) X2) (j_R_plainBlock_75 (l_R_plainBlock_5 j_R_plainBlock_81 n) j_R_plainBlock_81 (nJ b) (nJ (6 * b + i)) M2) := fun X2 M2 h2 hV2 => by
      unfold j_A_passPlain_130 j_R_plainBlock_75
      rw [nJ_succ (i := i) (by omega), nJ_succ (i := 6 * b + i) (by omega)]
      exact ih (i + 1) X2 M2 h2 hV2 (by omega)
    have j92 : ∀ x y, (G 2 (6 * b + i) = 0 → x = G 4 (6 * b + i)) → (G 2 (6 * b + i) ≠ 0 → G 2 (6 * b + i) ≠ 6 → x = X 30 (tn (G 4 (6 * b + i)))) → (G 2 (6 * b + i) ≠ 0 → G 2 (6 * b + i) ≠ 1 → G 2 (6 * b + i) ≠ 6 → G 2 (6 * b + i) ≠ 7 → y = X 30 (tn (G 5 (6 * b + i)))) →
        Pw2 (fun a r => ∃ X', k (nJ b) X' = some a ∧ SR X0 G (K + 6) c X' r.2 ∧ ∀ v, v < 6 → X' 30 v = r.2 29 v) (j_A_passPlain_92 (l_A_passPlain_2 k n) k y (nJ b) (nJ i) (G 2 (6 * b + i)) x X)
          (if G 2 (6 * b + i) = 7 then (if ok (nJ (6 * b + i)) 60 then (if ok (G 4 (6 * b + i)) 130 then ((m_R_tell (M1 29 (G 4 (6 * b + i)).toNatClampNeg) M1).bind fun o4 => j_R_plainBlock_75 (l_R_plainBlock_5 j_R_plainBlock_81 n) j_R_plainBlock_81 (nJ b) (nJ (6 * b + i)) o4.2) else none) else none) else (if ok (nJ (6 * b + i)) 60 then ((m_R_plainValue (nJ (6 * b + i)) M1).bind fun o2 => if ok (G 3 (6 * b + i)) 130 then ((wr (up2 o2.2 29 (G 3 (6 * b + i)).toNatClampNeg o2.1) fun M3 => (j_R_plainBlock_75 (l_R_plainBlock_5 j_R_plainBlock_81 n) j_R_plainBlock_81 (nJ b) (nJ (6 * b + i)) M3))) else none) else none)) := by
      intro x y hx0 hx hy
      unfold j_A_passPlain_92
      by_cases z7 : G 2 (6 * b + i) = 7
      · rw [if_pos z7]
        refine p2_okr (p2_okr ?_)
        obtain ⟨w, w1, w2⟩ := hP.fst (6 * b + i) (by rw [z7]; decide) (by rw [z7]; decide)
        have ex : x = M1 29 (G 4 (6 * b + i)).toNatClampNeg := by
          rw [hx (by rw [z7]; decide) (by rw [z7]; decide), w2, tn_nJ (by omega), nJ_tn (by omega)]
          exact hV1 w w1
        rw [← ex, z7]
        refine p2_bind (y_perf7 h1 (by omega)) (fun a r har => p2_bl x_sV (fun d hd => ?_))
        obtain ⟨d1, d2, d3⟩ := hd
        rw [d1]
        refine p2_il (fun _ => ?_) (fun z => absurd rfl (d3 z))
        obtain ⟨s0, s1, _, _, s4, _⟩ := har
        exact next a.2 r.2 (s0.mono (by omega)) (by rw [s1, s4]; exact hV1)
      · rw [if_neg z7]
        refine p2_okr (p2_bind (y_pval hP (by omega) (by omega) h1 (by omega) hV1 z7 hx0 hx (fun a b c => hy a b c z7)) (fun a r har => p2_bl x_sV (fun d hd => ?_)))
        obtain ⟨d1, d2, d3⟩ := hd
        obtain ⟨e1, s0, s1, _, _, s4, _⟩ := har
        rw [d1]
        refine p2_il (fun z => absurd (d2 z) z7) (fun _ => p2_okl (p2_okl ?_))
        have fa : ∀ k, k ≠ 6 → k < 30 ∨ 33 < k → a.2 k = X0 k := s0.fx.1
        rw [nJ_tn (i := b) (by omega), nJ_tn (i := i) (by omega), fa (53 + b) (by omega) (by omega), ← fx (53 + b) (by omega) (by omega), r2]
        obtain ⟨w, w1, w2⟩ := hP.dst (6 * b + i) z7
        rw [w2, nJ_tn (by omega)]
        refine p2_okl (p2_okr (p2_wl fun X3 q3 => p2_wr fun M3 p3 => ?_))
        refine next X3 M3 (by rw [q3, p3]; exact ((s0.upx (by decide)).upm (Or.inl rfl)).mono (by omega)) (fun v hv => ?_)
        rw [q3, p3, up2_at, up2_at]
        by_cases u : v = w
        · rw [if_pos ⟨rfl, u⟩, if_pos ⟨rfl, u⟩]; exact e1
        · rw [if_neg (fun y => u y.2), if_neg (fun y => u y.2), s1, s4]; exact hV1 v hv
    have j72 : ∀ x, (G 2 (6 * b + i) = 0 → x = G 4 (6 * b + i)) → (G 2 (6 * b + i) ≠ 0 → G 2 (6 * b + i) ≠ 6 → x = X 30 (tn (G 4 (6 * b + i)))) →
        Pw2 (fun a r => ∃ X', k (nJ b) X' = some a ∧ SR X0 G (K + 6) c X' r.2 ∧ ∀ v, v < 6 → X' 30 v = r.2 29 v) (j_A_passPlain_72 (l_A_passPlain_2 k n) k x (nJ b) (nJ i) (G 2 (6 * b + i)) (G 5 (6 * b + i)) X)
          (if G 2 (6 * b + i) = 7 then (if ok (nJ (6 * b + i)) 60 then (if ok (G 4 (6 * b + i)) 130 then ((m_R_tell (M1 29 (G 4 (6 * b + i)).toNatClampNeg) M1).bind fun o4 => j_R_plainBlock_75 (l_R_plainBlock_5 j_R_plainBlock_81 n) j_R_plainBlock_81 (nJ b) (nJ (6 * b + i)) o4.2) else none) else none) else (if ok (nJ (6 * b + i)) 60 then ((m_R_plainValue (nJ (6 * b + i)) M1).bind fun o2 => if ok (G 3 (6 * b + i)) 130 then ((wr (up2 o2.2 29 (G 3 (6 * b + i)).toNatClampNeg o2.1) fun M3 => (j_R_plainBlock_75 (l_R_plainBlock_5 j_R_plainBlock_81 n) j_R_plainBlock_81 (nJ b) (nJ (6 * b + i)) M3))) else none) else none)) := by
      intro x hx0 hx
      unfold j_A_passPlain_72
      refine p2_bl (x_rY (hP.knd _)) (fun d hd => ?_)
      obtain ⟨d1, d2, d3⟩ := hd
      rw [d1]
      refine p2_il (fun z => j92 x 0 hx0 hx fun a b c e => ?_) (fun z => p2_okl (j92 x _ hx0 hx fun _ _ _ _ => rfl))
      exact ((d2 z).elim a fun y => y.elim b fun y => y.elim c e).elim
    refine p2_bl x_rX (fun d hd => ?_)
    obtain ⟨d1, d2, d3⟩ := hd
    rw [d1]
    refine p2_il (fun z => j72 _ (fun _ => rfl) fun a b => ((d2 z).elim a b).elim) (fun z => p2_okl (j72 _ (fun y => absurd y (d3 z).1) fun _ _ => rfl))
def nx (G : Sto) (b : Nat) (s : Int32) : Int32 := if G 6 b = 0 then -1 else if G 6 b = 1 then G 8 b else if s = 0 then G 9 b else G 8 b
theorem x_next {X0 G X : Sto} {B b : Nat} {s : Int32} (hp : PR X0 G B) (hb : b < B) (fx : FA X0 X) : Pw (fun a => a.1 = nx G b s ∧ a.2 = X) (m_A_nextOf (nJ b) s X) := by
  have hB := hp.pf.hB
  obtain ⟨f0, f1, f2⟩ := hp.fin b (by omega)
  unfold m_A_nextOf j_A_nextOf_39 nx
  rw [nJ_tn (by omega), fx.1 8 (by decide) (by decide), fx.1 10 (by decide) (by decide), fx.1 11 (by decide) (by decide), f0]
  refine pw_okT (Pw.ite (fun z => Pw.some ⟨by rw [if_pos z], rfl⟩) (fun z0 => ?_))
  rw [if_neg z0]
  rcases hp.pf.fin b hb with y | ⟨y, _⟩ | ⟨y, _⟩
  · exact absurd y z0
  · rw [if_pos y, (f1 y).1, (f1 y).2]
    exact Pw.ite (fun _ => pw_okT (Pw.some ⟨rfl, rfl⟩)) (fun _ => pw_okT (Pw.some ⟨rfl, rfl⟩))
  · rw [if_neg (by rw [y]; decide), (f2 y).2.1, (f2 y).2.2]
    exact Pw.ite (fun z => pw_okT (Pw.some ⟨by rw [if_pos z], rfl⟩)) (fun z => pw_okT (Pw.some ⟨by rw [if_neg z], rfl⟩))
theorem r_val {M : Sto} {n : Nat} (hn : n < 130) : m_R_value (nJ n) M = some (if M 24 n = 1 then M 25 n else M 29 n, M) := by
  unfold m_R_value j_R_value_25
  rw [okN_t hn (by decide), nJ_tn (by omega)]
  by_cases h : M 24 n = 1
  · rw [if_pos h]; simp only [if_true, if_pos h]
  · rw [if_neg h]; simp only [if_true, if_neg h]
def vlu (G M : Sto) (n : Nat) : Int32 := if G 24 n = 1 then G 25 n else M 29 n
theorem r_next {G M : Sto} {B b t : Nat} {v : Int32} {X0 X : Sto} {K c : Nat} (hP : PF G B) (hbB : b < B) (h : SR X0 G K c X M) (h20 : v = 0 → G 6 b = 2 → t < 130 ∧ G 20 b = nJ t) : Pw (fun a => a.2 = M ∧ (v = 0 → a.1 = nx G b (vlu G M t)) ∧ (v ≠ 0 → a.1 = nx G b (M 29 (tn (G 7 b))))) (m_R_behind (nJ b) v M) := by
  have hB := hP.hB
  have hb : b < 10 := by omega
  have m6 : M 6 = G 6 := h.fr.1 6 (by decide) (by decide)
  have m7 : M 7 = G 7 := h.fr.1 7 (by decide) (by decide)
  have m8 : M 8 = G 8 := h.fr.1 8 (by decide) (by decide)
  have m9 : M 9 = G 9 := h.fr.1 9 (by decide) (by decide)
  have m20 : M 20 = G 20 := h.fr.1 20 (by decide) (by decide)
  have m24 : M 24 = G 24 := h.fr.1 24 (by decide) (by decide)
  have m25 : M 25 = G 25 := h.fr.1 25 (by decide) (by decide)
  have fin : ∀ s u, (v = 0 → u = vlu G M t) → (v ≠ 0 → u = M 29 (tn (G 7 b))) → s = u → G 6 b ≠ 0 → G 6 b ≠ 1 → Pw (fun a => a.2 = M ∧ (v = 0 → a.1 = nx G b (vlu G M t)) ∧ (v ≠ 0 → a.1 = nx G b (M 29 (tn (G 7 b))))) (j_R_behind_56 s (nJ b) M) := by
    intro s u h1 h2 e z0 z1
    subst e
    unfold j_R_behind_56 j_R_behind_76 nx
    rw [nJ_tn (by omega), m8, m9]
    refine Pw.ite (fun z => pw_okT (Pw.some ⟨rfl, fun y => ?_, fun y => ?_⟩)) (fun z => pw_okT (Pw.some ⟨rfl, fun y => ?_, fun y => ?_⟩))
    · rw [if_neg z0, if_neg z1, ← h1 y, if_pos z]
    · rw [if_neg z0, if_neg z1, ← h2 y, if_pos z]
    · rw [if_neg z0, if_neg z1, ← h1 y, if_neg z]
    · rw [if_neg z0, if_neg z1, ← h2 y, if_neg z]
  unfold m_R_behind
  rw [nJ_tn (by omega), m6, m7, m8, m20]
  refine pw_okT (Pw.ite (fun z0 => Pw.some ⟨rfl, fun _ => by unfold nx; rw [if_pos z0], fun _ => by unfold nx; rw [if_pos z0]⟩) (fun z0 => pw_okT (Pw.ite (fun z1 => pw_okT (Pw.some ⟨rfl, fun _ => by unfold nx; rw [if_neg z0, if_pos z1], fun _ => by unfold nx; rw [if_neg z0, if_pos z1]⟩)) (fun z1 => Pw.ite (fun v0 => pw_okT ?_) (fun v0 => pw_okT (pw_okT (fin _ _ (fun y => absurd y v0) (fun _ => rfl) rfl z0 z1)))))))
  intro a ea
  by_cases h2 : G 6 b = 2
  · obtain ⟨t1, t2⟩ := h20 v0 h2
    rw [t2, r_val t1] at ea
    refine fin _ _ (fun _ => rfl) (fun y => absurd v0 y) ?_ z0 z1 a ea
    unfold vlu
    rw [m24, m25]
  · rcases hP.fin b hbB with y | ⟨y, _⟩ | ⟨y, _⟩
    · exact absurd y z0
    · exact absurd y z1
    · exact absurd y h2
