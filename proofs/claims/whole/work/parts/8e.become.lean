def BH (X0 G : Sto) (B N : Nat) : Prop := (PR X0 G B) ∧ (QK X0 G B N) ∧ (RB G B N)
theorem BH.pr {X0 G : Sto} {B N : Nat} (h : BH X0 G B N) : PR X0 G B := h.1
theorem BH.qk {X0 G : Sto} {B N : Nat} (h : BH X0 G B N) : QK X0 G B N := h.2.1
theorem BH.rb {X0 G : Sto} {B N : Nat} (h : BH X0 G B N) : RB G B N := h.2.2
theorem x_val {d : Int32} {X0 G X M : Sto} {K c n : Nat} (hk : KRl X0 G) (h : SRd d X0 G K c X M) (hV : ∀ n, n < 126 → X 31 n = M 29 n) (hn : n < 126) : Pw (fun a => a.1 = vlu G M n ∧ a.2 = X) (m_A_valueOf (nJ n) X) := by
  unfold m_A_valueOf j_A_valueOf_38 vlu
  rw [nJ_tn (by omega), h.fx.1 25 (by decide) (by decide), h.fx.1 26 (by decide) (by decide), (hk.v n hn).1, (hk.v n hn).2, hV n hn]
  exact Pw.ite (fun z => absurd z (nJ_m1 (by omega))) (fun _ => pw_okT (Pw.ite (fun z => pw_okT (Pw.some ⟨by rw [if_pos z], rfl⟩)) (fun z => pw_okT (Pw.some ⟨by rw [if_neg z], rfl⟩))))
theorem x_val0 {X : Sto} : Pw (fun a => a.1 = 0 ∧ a.2 = X) (m_A_valueOf (-1) X) := by
  unfold m_A_valueOf
  exact Pw.ite (fun _ => Pw.some ⟨rfl, rfl⟩) (fun z => absurd rfl z)
theorem r_vlu {d : Int32} {X0 G X M : Sto} {K c n : Nat} (h : SRd d X0 G K c X M) (hn : n < 130) : m_R_value (nJ n) M = some (vlu G M n, M) := by
  rw [r_val hn, h.fr.1 24 (by decide) (by decide), h.fr.1 25 (by decide) (by decide)]; rfl
theorem r_vno {M : Sto} : m_R_value (-1) M = none := by
  unfold m_R_value
  rw [if_neg (by decide)]
theorem y_form {X0 G : Sto} {B N K c b : Nat} {k : Int32 → Sto → Option (Int32 × Sto)} (H : BH X0 G B N) (hc : bt (G 0 27) b = true) (hb : b < B) (hK : K + 6 < 100000) :
    ∀ n i X M, SR X0 G (K + i) c X M → (∀ n, n < 126 → X 31 n = M 29 n) → i ≤ lenN G b → Pw2 (fun a r => ∃ X', k (nJ b) X' = some a ∧ SR X0 G (K + 6) c X' r.2 ∧ ∀ n, n < 126 → X' 31 n = r.2 29 n) (l_A_passBecome_13 k n (nJ b) (nJ i) X) (l_R_formedBlock_106 j_R_formedBlock_287 n (nJ b) (nJ (6 * b + i)) M) := by
  intro n
  have hp := H.pr
  have hP := hp.pf
  have hB := hP.hB
  have hl := hP.lenN_le (b := b) (by omega)
  have hhi := H.rb.hi
  have hr := H.qk.rc b (by omega) hc
  obtain ⟨_, hnb⟩ := H.rb.nb b (by omega) hc
  have hw := H.qk.nm.2.1.row b hb hr
  have hkr := H.qk.kr
  have eln : G 1 b = nJ (lenN G b) := by
    obtain ⟨l, l1, l2⟩ := hP.len b (by omega)
    unfold lenN
    rw [l2, nJ_tn (by omega)]
  induction n with
  | zero => intro i X M _ _ _; exact p2_nl
  | succ n ih =>
    intro i X M h hV hi
    have fx : ∀ k, k ≠ 6 → k < 30 ∨ 33 < k → X k = X0 k := h.fx.1
    have fr : ∀ k, k ≠ 0 → k ∉ [28, 29, 30] → M k = G k := h.fr.1
    unfold l_A_passBecome_13 l_R_formedBlock_106
    rw [nJ_tn (i := b) (by omega), nJ_tn (i := i) (by omega), fx 7 (by decide) (by decide), hp.len, fr 1 (by decide) (by decide), eln, nJ_mul6 (by omega), nJ_add (by omega)]
    refine p2_okl (p2_okr ?_)
    by_cases q : lenN G b ≤ i
    · have c1 : nJ (lenN G b) ≤ nJ i := Int32.le_iff_toInt_le.mpr (by rw [nJ_int (i := i) (by omega), nJ_int (i := lenN G b) (by omega)]; omega)
      have c2 : nJ (6 * b + lenN G b) ≤ nJ (6 * b + i) := Int32.le_iff_toInt_le.mpr (by rw [nJ_int (i := 6 * b + i) (by omega), nJ_int (i := 6 * b + lenN G b) (by omega)]; omega)
      rw [if_pos c1, if_pos c2]
      unfold j_R_formedBlock_287
      intro a r e1 e2
      cases e2
      exact ⟨X, e1, h.mono (by omega), hV⟩
    have c1 : ¬ nJ (lenN G b) ≤ nJ i := fun y => by
      have := Int32.le_iff_toInt_le.mp y
      rw [nJ_int (i := i) (by omega), nJ_int (i := lenN G b) (by omega)] at this; omega
    have c2 : ¬ nJ (6 * b + lenN G b) ≤ nJ (6 * b + i) := fun y => by
      have := Int32.le_iff_toInt_le.mp y
      rw [nJ_int (i := 6 * b + i) (by omega), nJ_int (i := 6 * b + lenN G b) (by omega)] at this; omega
    rw [if_neg c1, if_neg c2]
    have hin := hnb.ins i (by omega)
    have x103 : X (103 + b) i = G 17 (6 * b + i) := by rw [fx (103 + b) (by omega) (by omega)]; exact hw.md i (by omega)
    have x113 : ∀ Y, FA X0 Y → Y (113 + b) i = G 18 (6 * b + i) := fun Y f => by rw [f.1 (113 + b) (by omega) (by omega)]; exact hw.ux i (by omega)
    have x123 : ∀ Y, FA X0 Y → Y (123 + b) i = G 19 (6 * b + i) := fun Y f => by rw [f.1 (123 + b) (by omega) (by omega)]; exact hw.uy i (by omega)
    have x43 : ∀ Y, FA X0 Y → Y (43 + b) i = G 2 (6 * b + i) := fun Y f => by rw [f.1 (43 + b) (by omega) (by omega)]; exact (hp.row b i (by omega) (by omega)).1
    have next : ∀ X2 M2, SR X0 G (K + i + 1) c X2 M2 → (∀ n, n < 126 → X2 31 n = M2 29 n) → Pw2 (fun a r => ∃ X', k (nJ b) X' = some a ∧ SR X0 G (K + 6) c X' r.2 ∧ ∀ n, n < 126 → X' 31 n = r.2 29 n) (j_A_passBecome_124 (l_A_passBecome_13 k n) k (nJ b) (nJ i) X2) (j_R_formedBlock_281 (l_R_formedBlock_106 j_R_formedBlock_287 n) j_R_formedBlock_287 (nJ b) (nJ (6 * b + i)) M2) := fun X2 M2 h2 hV2 => by
      unfold j_A_passBecome_124 j_R_formedBlock_281
      rw [nJ_succ (i := i) (by omega), nJ_succ (i := 6 * b + i) (by omega)]
      exact ih (i + 1) X2 M2 h2 hV2 (by omega)
    refine p2_okl (p2_okl (p2_okr (p2_okr ?_)))
    rw [nJ_tn (i := 6 * b + i) (by omega), x103, fr 2 (by decide) (by decide), fr 17 (by decide) (by decide)]
    by_cases z7 : G 2 (6 * b + i) = 7
    · rw [hin.mt z7, if_pos rfl, if_pos z7]
      refine p2_wr fun M1 p1 => p2_okr ?_
      have h1 : SR1 X0 G (K + i) c X M1 := by rw [p1]; exact h.up38
      have m29 : M1 29 = M 29 := by rw [p1, up2_ne _ _ _ (by decide)]
      have hV1 : ∀ n, n < 126 → X 31 n = M1 29 n := by rw [m29]; exact hV
      obtain ⟨u, u1, u2, _⟩ := hin.ux (by rw [z7]; decide) (by rw [z7]; decide)
      have uz := hin.uz (Or.inr (Or.inr (Or.inr z7)))
      rw [h1.fr.1 18 (by decide) (by decide), u2, r_vlu h1 (by omega)]
      unfold j_A_passBecome_54
      rw [nJ_tn (i := b) (by omega), nJ_tn (i := i) (by omega), x113 X h.fx, u2]
      refine p2_okl (p2_okl (p2_bl (x_val hkr h1 hV1 (by omega)) (fun d hd => p2_okl (p2_okl ?_))))
      obtain ⟨d1, d2⟩ := hd
      rw [d2, x123 X h.fx, uz]
      refine p2_bl x_val0 (fun e he => p2_okl (p2_okl ?_))
      obtain ⟨e1, e2⟩ := he
      rw [e2, x43 X h.fx, z7, d1, e1]
      show Pw2 _ _ ((m_R_tell (vlu G M1 u) M1).bind _)
      refine p2_bind (y_perf7 h1 (by omega)) (fun a r har => ?_)
      rw [if_pos rfl]
      obtain ⟨s0, _, s2, _, s4, _⟩ := har
      exact next a.2 r.2 (s0.mono (by omega)) (by rw [s2, s4]; exact hV1)
    · obtain ⟨m, m6, mN, m3, _⟩ := hin.md z7
      rw [m3, if_neg (nJ_m1 (by omega)), if_neg z7, nJ_tn (i := m) (by omega), fr 26 (by decide) (by decide), fr 24 (by decide) (by decide)]
      have hkept : Pw (fun a => a.2 = X ∧ (a.1 = 0 → G 26 m = 0 ∨ G 24 m = 1) ∧ (a.1 ≠ 0 → G 26 m ≠ 0 ∧ G 24 m ≠ 1)) (m_A_isKept (nJ m) X) := by
        unfold m_A_isKept j_A_isKept_29 j_A_isKept_30
        rw [nJ_tn (i := m) (by omega), fx 27 (by decide) (by decide), fx 25 (by decide) (by decide), (hkr.v m (by omega)).1]
        refine pw_okT (Pw.ite (fun z => Pw.ite (fun _ => Pw.some ⟨rfl, fun _ => Or.inl ?_, fun y => absurd rfl y⟩) (fun _ => Pw.none)) (fun z => pw_okT (Pw.ite (fun z1 => Pw.ite (fun _ => Pw.some ⟨rfl, fun _ => Or.inr z1, fun y => absurd rfl y⟩) (fun _ => Pw.none)) (fun z1 => Pw.ite (fun _ => Pw.some ⟨rfl, fun (y : (1 : Int32) = 0) => absurd y (by decide), fun _ => ⟨(H.qk.nd m (by omega)).mp z, z1⟩⟩) (fun _ => Pw.none)))))
        exact Classical.byContradiction fun w => (H.qk.nd m (by omega)).mpr w z
      refine p2_bl hkept (fun d hd => ?_)
      obtain ⟨d1, d2, d3⟩ := hd
      rw [d1]
      refine p2_okr ?_
      have skip : Pw2 (fun a r => ∃ X', k (nJ b) X' = some a ∧ SR X0 G (K + 6) c X' r.2 ∧ ∀ n, n < 126 → X' 31 n = r.2 29 n) (j_A_passBecome_124 (l_A_passBecome_13 k n) k (nJ b) (nJ i) X) (j_R_formedBlock_281 (l_R_formedBlock_106 j_R_formedBlock_287 n) j_R_formedBlock_287 (nJ b) (nJ (6 * b + i)) M) := next X M (h.mono (by omega)) hV
      refine p2_il (fun z => p2_ir (fun _ => skip) (fun z26 => p2_okr (p2_ir (fun _ => skip) (fun z24 => ((d2 z).elim z26 z24).elim)))) (fun z => p2_ir (fun y => absurd y (d3 z).1) (fun _ => p2_okr (p2_ir (fun y => absurd y (d3 z).2) (fun _ => ?_))))
      refine p2_wr fun M1 p1 => p2_okr (p2_okr ?_)
      have h1 : SR1 X0 G (K + i) c X M1 := by rw [p1]; exact h.up38
      have m29 : M1 29 = M 29 := by rw [p1, up2_ne _ _ _ (by decide)]
      have hV1 : ∀ n, n < 126 → X 31 n = M1 29 n := by rw [m29]; exact hV
      rw [h1.fr.1 18 (by decide) (by decide), h1.fr.1 2 (by decide) (by decide)]
      have n0 : (0 : Int32).toInt = 0 := rfl
      have nm1 : (-1 : Int32).toInt = -1 := rfl
      have fin : ∀ (o : Int32 × Sto) (s : Int32) (M2 : Sto), SR X0 G (K + i + 1) c o.2 M2 → (∀ n, n < 126 → o.2 31 n = M2 29 n) → o.1 = s → Pw2 (fun a r => ∃ X', k (nJ b) X' = some a ∧ SR X0 G (K + 6) c X' r.2 ∧ ∀ n, n < 126 → X' 31 n = r.2 29 n)
          (if nJ m = -1 then (j_A_passBecome_124 (l_A_passBecome_13 k n) k (nJ b) (nJ i) o.2) else (if ok (nJ m) 126 then ((wr (up2 o.2 31 (nJ m).toNatClampNeg o.1) fun M6 => (j_A_passBecome_124 (l_A_passBecome_13 k n) k (nJ b) (nJ i) M6))) else none))
          (j_R_formedBlock_280 (l_R_formedBlock_106 j_R_formedBlock_287 n) j_R_formedBlock_287 s (nJ m) (nJ b) (nJ (6 * b + i)) M2) := by
        intro o s M2 s0 v0 e
        unfold j_R_formedBlock_280
        rw [if_neg (nJ_m1 (by omega)), nJ_tn (i := m) (by omega)]
        refine p2_okl (p2_okr (p2_wl fun X3 q3 => p2_wr fun M3 p3 => next X3 M3 (by rw [q3, p3]; exact (s0.upx (by decide)).upm (Or.inl rfl)) (fun v hv => ?_)))
        rw [q3, p3, up2_at, up2_at]
        by_cases u : v = m
        · rw [if_pos ⟨rfl, u⟩, if_pos ⟨rfl, u⟩]; exact e
        · rw [if_neg (fun y => u y.2), if_neg (fun y => u y.2)]; exact v0 v hv
      by_cases z6 : G 2 (6 * b + i) = 6
      · -- an input
        have hu := hin.un (Or.inr z6)
        have uz := hin.uz (Or.inr (Or.inr (Or.inl z6)))
        rw [hu]
        refine p2_ir (fun y => ?_) (fun _ => ?_)
        · have := Int32.le_iff_toInt_le.mp y; omega
        unfold j_A_passBecome_54 j_R_formedBlock_229
        rw [nJ_tn (i := b) (by omega), nJ_tn (i := i) (by omega), x113 X h.fx, hu]
        refine p2_okl (p2_okl (p2_bl x_val0 (fun d hd => p2_okl (p2_okl ?_))))
        rw [hd.2, x123 X h.fx, uz]
        refine p2_bl x_val0 (fun e he => p2_okl (p2_okl ?_))
        rw [he.2, x43 X h.fx, z6, if_pos rfl]
        refine p2_bind (y_perf6 h1 (by omega)) (fun a r har => ?_)
        obtain ⟨e1, s0, _, s2, _, s4, _⟩ := har
        exact fin a r.1 r.2 (s0.mono (by omega)) (by rw [s2, s4]; exact hV1) e1
      by_cases z0 : G 2 (6 * b + i) = 0
      · -- a set is known_al: it is not kept
        refine p2_ir (fun y => ?_) (fun _ => ?_)
        · rw [hin.un (Or.inl z0)] at y
          have := Int32.le_iff_toInt_le.mp y; omega
        unfold j_R_formedBlock_229
        rw [if_neg z6, if_neg (by rw [z0]; decide), nJ_tn (i := 6 * b + i) (by omega), h1.fr.1 19 (by decide) (by decide), hin.uz (Or.inl z0), r_vno]
        exact p2_okr p2_nr
      obtain ⟨u, u1, u2, _⟩ := hin.ux z0 z6
      have eu := nJ_int (i := u) (by omega)
      rw [u2]
      refine p2_ir (fun _ => p2_okr ?_) (fun y => absurd (Int32.le_iff_toInt_le.mpr (by omega)) y)
      rw [r_vlu h1 (by omega)]
      unfold j_A_passBecome_54
      rw [nJ_tn (i := b) (by omega), nJ_tn (i := i) (by omega), x113 X h.fx, u2]
      refine p2_okl (p2_okl (p2_bl (x_val hkr h1 hV1 (by omega)) (fun d hd => p2_okl (p2_okl ?_))))
      rw [hd.2, hd.1, x123 X h.fx]
      show Pw2 _ _ (j_R_formedBlock_229 _ _ (vlu G M1 u) _ _ _ _ M1)
      unfold j_R_formedBlock_229
      rw [if_neg z6]
      by_cases z1 : G 2 (6 * b + i) = 1
      · rw [if_pos z1, hin.uz (Or.inr (Or.inl z1))]
        refine p2_bl x_val0 (fun e he => p2_okl (p2_okl ?_))
        rw [he.2, x43 X h.fx]
        refine p2_bl (y_perf h1 z6 z7) (fun a ha => ?_)
        refine fin a (vlu G M1 u) M1 (ha.2.1.mono (by omega)) (by rw [ha.2.2.2.1]; exact hV1) ?_
        rw [ha.1]; unfold cal; rw [if_neg z0, if_pos z1]
      · obtain ⟨w, w1, w2, _⟩ := hin.uy z0 z1 z6 z7
        rw [if_neg z1, w2, nJ_tn (i := 6 * b + i) (by omega), h1.fr.1 19 (by decide) (by decide), w2, r_vlu h1 (by omega)]
        refine p2_okr (p2_bl (x_val hkr h1 hV1 (by omega)) (fun e he => p2_okl (p2_okl ?_)))
        rw [he.2, he.1, x43 X h.fx]
        show Pw2 _ _ ((m_R_reckon _ (vlu G M1 u) (vlu G M1 w) M1).bind _)
        rw [reckon_eq]
        refine p2_bl (y_perf h1 z6 z7) (fun a ha => ?_)
        refine fin a (rk (G 2 (6 * b + i)) (vlu G M1 u) (vlu G M1 w)) M1 (ha.2.1.mono (by omega)) (by rw [ha.2.2.2.1]; exact hV1) ?_
        rw [ha.1, cal_rk z0 z1 z6 z7 (hP.knd _)]
