theorem SRd.up37 {X0 G X M : Sto} {K c : Nat} (h : SR X0 G K c X M) : SR X0 G K (c + 1) (up2 X 6 11 (nJ (c + 1))) (up2 M 0 37 (nJ (c + 1))) := by
  have e6 : ∀ j, j ≠ 11 → up2 X 6 11 (nJ (c + 1)) 6 j = X 6 j := fun j hj => by rw [up2_at, if_neg (fun q => hj q.2)]
  have e33 : up2 X 6 11 (nJ (c + 1)) 33 = X 33 := up2_ne _ _ _ (by decide)
  have e0 : ∀ j, j ≠ 37 → up2 M 0 37 (nJ (c + 1)) 0 j = M 0 j := fun j hj => by rw [up2_at, if_neg (fun q => hj q.2)]
  have e28 : up2 M 0 37 (nJ (c + 1)) 28 = M 28 := up2_ne _ _ _ (by decide)
  exact ⟨h.fx.up6 (by decide), h.fr.up0 (by decide), by rw [e6 9 (by decide), e33, e0 35 (by decide), e28]; exact h.tl, by rw [e6 13 (by decide), e0 34 (by decide)]; exact h.ak, by rw [up2_at, if_pos ⟨rfl, rfl⟩], by rw [up2_at, if_pos ⟨rfl, rfl⟩], by rw [e0 38 (by decide), e6 12 (by decide)]; exact h.ins⟩
theorem SRd.rt {X0 G X M : Sto} {K c : Nat} (h : SR X0 G K c X M) : RT G K c M := by
  obtain ⟨t, t1, _, t3, _⟩ := h.tl
  obtain ⟨a, g, a1, _, _, _, _, a2, _⟩ := h.ak
  exact ⟨h.fr, ⟨a, a1, a2⟩, ⟨t, t1, t3⟩, h.s⟩
theorem x_end130 {X0 G X M : Sto} {B N K c b t : Nat} (H : BH X0 G B N) (hc : bt (G 0 27) b = true) (hb : b < B) (h : SR X0 G K c X M) (hV : ∀ n, n < 126 → X 31 n = M 29 n) (h20 : G 6 b = 2 → t < 126 ∧ G 20 b = nJ t) : Pw (fun a => a.1 = nx G b (vlu G M t) ∧ a.2 = X) (j_A_passBecome_130 (nJ b) X) := by
  have hB := H.pr.pf.hB
  have hr := H.qk.rc b (by omega) hc
  obtain ⟨_, hnb⟩ := H.rb.nb b (by omega) hc
  unfold j_A_passBecome_130
  rw [nJ_tn (by omega), h.fx.1 20 (by decide) (by decide), (H.qk.nm.2.1.row b hb hr).ts]
  refine pw_okT ?_
  by_cases h2 : G 6 b = 2
  · obtain ⟨t1, t2⟩ := h20 h2
    rw [t2]
    refine Pw.bind (x_val H.qk.kr h hV t1) (fun a ha => ?_)
    rw [ha.1, ha.2]
    exact Pw.bind (x_next H.pr hb h.fx) (fun d hd => Pw.some hd)
  · rw [hnb.tn h2]
    refine Pw.bind x_val0 (fun a ha => ?_)
    rw [ha.1, ha.2]
    refine Pw.bind (x_next H.pr hb h.fx) (fun d hd => Pw.some ⟨?_, hd.2⟩)
    show d.1 = _
    rw [hd.1]
    unfold nx
    rcases H.pr.pf.fin b hb with y | ⟨y, _⟩ | ⟨y, _⟩
    · rw [if_pos y, if_pos y]
    · rw [if_pos y, if_pos y]
    · exact absurd y h2
theorem x_end136 {X0 G X M : Sto} {B K c b : Nat} (hp : PR X0 G B) (hb : b < B) (h : SR X0 G K c X M) (hV : ∀ v, v < 6 → X 30 v = M 29 v) : Pw (fun a => a.1 = nx G b (M 29 (tn (G 7 b))) ∧ a.2 = X) (j_A_passPlain_136 (nJ b) X) := by
  have hB := hp.pf.hB
  unfold j_A_passPlain_136
  rw [nJ_tn (i := b) (by omega)]
  refine pw_okT (pw_okT (Pw.bind (x_next hp hb h.fx) (fun d hd => Pw.some ⟨?_, hd.2⟩)))
  show d.1 = _
  rw [hd.1]
  unfold nx
  rcases hp.pf.fin b hb with y | ⟨y, _⟩ | ⟨y, _, _, w, w1, w2⟩
  · rw [if_pos y, if_pos y]
  · rw [if_pos y, if_pos y]
  · have e9 : X 9 b = nJ w := by rw [h.fx.1 9 (by decide) (by decide), ((hp.fin b (by omega)).2.2 y).1]; exact w2
    rw [e9, w2, nJ_tn (by omega), tn_nJ (by omega), hV w w1]
theorem y_exec {X0 G : Sto} {B N st : Nat} {v1 : Int32} (H : BH X0 G B N) (hst : st ≤ 200) :
    ∀ n cc vf cur f X M, SR X0 G (6 * cc) cc X M → (v1 ≠ 0 → ∀ v, v < 6 → X 30 v = M 29 v) → (v1 = 0 → ∀ n, n < 126 → X 31 n = M 29 n) → cur < B → (v1 = 0 → bt (G 0 27) cur = true ∧ ((vf = -1 ∧ cur = 0 ∧ f = 0) ∨ (vf = nJ f ∧ f < B ∧ bt (G 0 27) f = true))) → cc ≤ st →
      Pw2 (fun a r => (∃ K c, K ≤ 2000 ∧ SR X0 G K c a.2 r.2) ∧ ((a.1 = 0 ∧ r.1 = 1) ∨ (a.1 = 1 ∧ r.1 = 0))) (l_A_execute_12 j_A_execute_71 n v1 (nJ st) vf (nJ cur) (nJ cc) X) (l_R_run_93 j_R_run_147 n v1 (nJ st) (nJ cur) (nJ f) M) := by
  intro n
  have hP := H.pr.pf
  have hB := hP.hB
  have hhi := H.rb.hi
  have n0 : (0 : Int32).toInt = 0 := rfl
  induction n with
  | zero => intro cc vf cur f X M _ _ _ _ _ _; exact p2_nl
  | succ n ih =>
    intro cc vf cur f X M h hV6 hVN hcur hcf hcc
    have ec := nJ_int (i := cur) (by omega)
    unfold l_A_execute_12 l_R_run_93
    have a1 : ¬ nJ cur < 0 := fun y => by have := Int32.lt_iff_toInt_lt.mp y; omega
    rw [if_neg a1, h.s]
    by_cases q : st ≤ cc
    · have c1 : nJ st ≤ nJ cc := Int32.le_iff_toInt_le.mpr (by rw [nJ_int (i := st) (by omega), nJ_int (i := cc) (by omega)]; omega)
      rw [if_pos c1, if_pos c1]
      unfold j_A_execute_71 j_R_run_147 j_R_run_156
      refine p2_okl (p2_ir (fun _ => p2_some ⟨⟨6 * cc, cc, by omega, h⟩, Or.inl ⟨rfl, rfl⟩⟩) (fun y => absurd (Int32.le_iff_toInt_le.mpr (by omega)) y))
    have c1 : ¬ nJ st ≤ nJ cc := fun y => by
      have := Int32.le_iff_toInt_le.mp y
      rw [nJ_int (i := st) (by omega), nJ_int (i := cc) (by omega)] at this; omega
    rw [if_neg c1, if_neg c1, nJ_succ (i := cc) (by omega)]
    refine p2_wl fun X2 q2 => p2_wr fun M7 p7 => ?_
    have h7 : SR X0 G (6 * cc) (cc + 1) X2 M7 := by rw [q2, p7, h.bl, nJ_succ (i := cc) (by omega)]; exact h.up37
    have x30 : X2 30 = X 30 := by rw [q2, up2_ne _ _ _ (by decide)]
    have x31 : X2 31 = X 31 := by rw [q2, up2_ne _ _ _ (by decide)]
    have m29 : M7 29 = M 29 := by rw [p7, up2_ne _ _ _ (by decide)]
    have go : ∀ (d : Int32) (X3 M8 : Sto) (t : Nat), SR X0 G (6 * cc + 6) (cc + 1) X3 M8 → (v1 ≠ 0 → ∀ v, v < 6 → X3 30 v = M8 29 v) → (v1 = 0 → ∀ n, n < 126 → X3 31 n = M8 29 n) → (v1 = 0 → G 6 cur = 2 → t < 130 ∧ G 20 cur = nJ t) → (v1 = 0 → d = nx G cur (vlu G M8 t)) → (v1 ≠ 0 → d = nx G cur (M8 29 (tn (G 7 cur)))) →
        Pw2 (fun a r => (∃ K c, K ≤ 2000 ∧ SR X0 G K c a.2 r.2) ∧ ((a.1 = 0 ∧ r.1 = 1) ∨ (a.1 = 1 ∧ r.1 = 0))) (j_A_execute_48 (l_A_execute_12 j_A_execute_71 n) j_A_execute_71 d v1 (nJ st) (nJ cur) (nJ cc) X3) (j_R_run_134 (l_R_run_93 j_R_run_147 n) j_R_run_147 v1 (nJ st) (nJ cur) M8) := by
      intro d X3 M8 t h8 w6 wN h20 d0 d1
      unfold j_R_run_134
      refine p2_br ((r_next hP hcur h8 h20).and (r_behind hP H.rb hcur (fun y => (hcf y).1) h8.rt).toPw) (fun o ho => ?_)
      obtain ⟨⟨o1, o2, o3⟩, _, o4⟩ := ho
      have ed : o.1 = d := by
        by_cases y : v1 = 0
        · rw [o2 y, d0 y]
        · rw [o3 y, d1 y]
      rw [o1, ed]
      rw [ed] at o4
      unfold j_A_execute_48
      rcases o4 with e | ⟨e, e1, e2, e3⟩
      · rw [e, if_pos rfl]
        cases n with
        | zero => exact p2_nr
        | succ n =>
          unfold l_R_run_93
          refine p2_okl (p2_ir (fun _ => ?_) (fun y => absurd (by decide) y))
          unfold j_R_run_147 j_R_run_156
          refine (p2_ir (fun y => absurd y (by decide)) (fun _ => p2_some ⟨⟨6 * cc + 6, cc + 1, by omega, h8⟩, Or.inr ⟨rfl, rfl⟩⟩))
      · rw [e2, if_neg (nJ_m1 (by omega)), nJ_succ (i := cc) (by omega)]
        exact ih (cc + 1) (nJ cur) e cur X3 M8 (h8.mono (by omega)) w6 wN e1 (fun y => ⟨e3 y, Or.inr ⟨rfl, hcur, (hcf y).1⟩⟩) (by omega)
    by_cases v0 : v1 = 0
    · rw [if_pos v0, if_pos v0]
      obtain ⟨hco, hf⟩ := hcf v0
      obtain ⟨_, hnb⟩ := H.rb.nb cur (by omega) hco
      obtain ⟨t, ht⟩ : ∃ t, G 6 cur = 2 → t < 126 ∧ G 20 cur = nJ t := by
        by_cases h2 : G 6 cur = 2
        · obtain ⟨t, t1, t2, _⟩ := hnb.ts h2
          exact ⟨t, fun _ => ⟨by omega, t2⟩⟩
        · exact ⟨0, fun y => absurd y h2⟩
      refine p2_bind (y_pb H hco hcur (by omega) hf h7 (by rw [x31, m29]; exact hVN v0)) (fun a r har => ?_)
      obtain ⟨X', e1, s1, w1⟩ := har
      obtain ⟨k1, k2⟩ := x_end130 (t := t) H hco hcur s1 w1 ht a e1
      rw [k2]
      exact go a.1 X' r.2 t s1 (fun y => absurd v0 y) (fun _ => w1) (fun _ y => ⟨by have := (ht y).1; omega, (ht y).2⟩) (fun _ => k1) (fun y => absurd v0 y)
    · rw [if_neg v0, if_neg v0]
      have e6 : 6 * nJ cur = nJ (6 * cur + 0) := by rw [nJ_mul6 (by omega)]; rfl
      unfold m_A_passPlain m_R_plainBlock
      rw [e6]
      refine p2_bind (y_plain (K := 6 * cc) (k := j_A_passPlain_136) H.pr hcur (by omega) FU 0 X2 M7 h7 (by rw [x30, m29]; exact hV6 v0) (by omega)) (fun a r har => ?_)
      obtain ⟨X', e1, s1, w1⟩ := har
      obtain ⟨k1, k2⟩ := x_end136 H.pr hcur s1 w1 a e1
      rw [k2]
      exact go a.1 X' r.2 0 s1 (fun _ => w1) (fun y => absurd y v0) (fun y => absurd y v0) (fun y => absurd y v0) (fun _ => k1)
def WQ (X R : Sto) : Prop := (∃ g, g ≤ 16 ∧ X 6 4 = nJ g ∧ R 0 32 = nJ g ∧ ∀ j, j < g → X 29 j = R 27 j) ∧ (∃ t, t ≤ 10000 ∧ X 6 9 = nJ t ∧ R 0 35 = nJ t ∧ ∀ j, j < t → j < 40 → X 33 j = R 28 j) ∧ (X 6 11 = R 0 37) ∧ (X 6 12 = R 0 38) ∧ (∃ a g, a ≤ 10000 ∧ g ≤ 16 ∧ R 0 34 = nJ a ∧ X 6 13 = nJ (min a g))
theorem WQ.inp {X R : Sto} (h : WQ X R) : ∃ g, g ≤ 16 ∧ X 6 4 = nJ g ∧ R 0 32 = nJ g ∧ ∀ j, j < g → X 29 j = R 27 j := h.1
theorem WQ.tld {X R : Sto} (h : WQ X R) : ∃ t, t ≤ 10000 ∧ X 6 9 = nJ t ∧ R 0 35 = nJ t ∧ ∀ j, j < t → j < 40 → X 33 j = R 28 j := h.2.1
theorem WQ.blk {X R : Sto} (h : WQ X R) : X 6 11 = R 0 37 := h.2.2.1
theorem WQ.ins {X R : Sto} (h : WQ X R) : X 6 12 = R 0 38 := h.2.2.2.1
theorem WQ.ask {X R : Sto} (h : WQ X R) : ∃ a g, a ≤ 10000 ∧ g ≤ 16 ∧ R 0 34 = nJ a ∧ X 6 13 = nJ (min a g) := h.2.2.2.2
theorem WQ.z {X R : Sto} {v : Int32} (h : WQ X R) : WQ X (up2 R 0 0 v) := by
  have e : ∀ j, j ≠ 0 → up2 R 0 0 v 0 j = R 0 j := fun j hj => by rw [up2_at, if_neg (fun q => hj q.2)]
  have k : ∀ a, a ≠ 0 → up2 R 0 0 v a = R a := fun a ha => up2_ne _ _ _ ha
  exact ⟨by rw [e 32 (by decide), k 27 (by decide)]; exact h.inp, by rw [e 35 (by decide), k 28 (by decide)]; exact h.tld, by rw [e 37 (by decide)]; exact h.blk, by rw [e 38 (by decide)]; exact h.ins, by rw [e 34 (by decide)]; exact h.ask⟩
theorem r_68 {P : Int32 × Sto → Prop} {k : Int32 → Int32 → Sto → Option (Int32 × Sto)} {G : Sto} {v1 v2 : Int32}
    (hk : ∀ M, Fr [29] [] G M → (∀ n, n < 130 → M 29 n = 0) → Pw P (k v1 v2 M)) : ∀ n i M, Fr [29] [] G M → (∀ n, n < i → M 29 n = 0) → i ≤ 130 → Pw P (l_R_run_68 k n v1 v2 (nJ i) M) := by
  intro n
  induction n with
  | zero => intro i M _ _ _; exact Pw.none
  | succ n ih =>
    intro i M hf hz hi
    unfold l_R_run_68
    refine pw_leN (a := 130) (by omega) (by omega) (fun q => ?_) (fun q => pw_okT (Pw.wrt fun M1 q1 => ?_))
    · have : i = 130 := by omega
      subst this
      exact hk M hf hz
    rw [nJ_tn (by omega)] at q1
    rw [nJ_succ (by omega)]
    refine ih (i + 1) M1 (by rw [q1]; exact hf.up (by decide) (by decide)) (fun m hm => ?_) (by omega)
    rw [q1, up2_at]
    by_cases y : m = i
    · rw [if_pos ⟨rfl, y⟩]
    · rw [if_neg (fun z => y z.2)]; exact hz m (by omega)
theorem PR.rc {X R R' : Sto} {B : Nat} (h : PR X R B) (hP : PF R' B) (f : ∀ k, 1 ≤ k ∧ k ≤ 9 → R' k = R k) : PR X R' B := by
  refine ⟨hP, h.blk, ?_, ?_, ?_⟩
  · rw [f 1 (by decide)]; exact h.len
  · rw [f 6 (by decide), f 7 (by decide), f 8 (by decide), f 9 (by decide)]; exact h.fin
  · rw [f 2 (by decide), f 3 (by decide), f 4 (by decide), f 5 (by decide)]; exact h.row
theorem y_runQ {X R : Sto} {B N : Nat} {x1 x2 : Int32} (hR : IR R B N) (hp : PR X R B) (hbt : X 0 6 = 0 ↔ R 0 11 = 0) (hq : R 0 11 ≠ 0 → QK X R B N) (hw : WQ X R) :
    Pw2 (fun a r => WQ a.2.2 r.2 ∧ r.2 0 0 = kc 1 a.1 ∧ (a.1 = 0 → r.1 = a.2.1)) (m_N_run x1 x2 X) (m_R_run x1 x2 R) := by
  have n0 : (0 : Int32).toInt = 0 := rfl
  have n200 : (200 : Int32).toInt = 200 := rfl
  have w0 : ∀ v, WQ X (up2 R 0 0 v) := fun v => hw.z
  have bad : Pw2 (fun a r => WQ a.2.2 r.2 ∧ r.2 0 0 = kc 1 a.1 ∧ (a.1 = 0 → r.1 = a.2.1)) (j_N_run_11 X) (j_R_run_12 x1 x2 R) := by
    unfold j_N_run_11 j_R_run_12 j_R_run_17 j_R_run_44
    rw [fails_eq _ _ _ (Or.inr rfl)]
    refine p2_bsr ?_
    dsimp only
    refine p2_ir (fun y => absurd y (by decide)) (fun _ => p2_some ⟨w0 _, up0_at R 1, fun (y : (1 : Nat) = 0) => absurd y (by decide)⟩)
  unfold m_N_run m_R_run
  by_cases q1 : x2 < 0
  · rw [if_pos q1, if_pos q1]; exact bad
  rw [if_neg q1, if_neg q1]
  by_cases q2 : x2 ≤ 200
  · rw [if_pos q2, if_pos q2]
    unfold j_R_run_17
    rw [fails_eq _ _ _ (Or.inl rfl), if_pos rfl]
    refine p2_bsr ?_
    dsimp only
    have e11 : up2 R 0 0 0 0 11 = R 0 11 := by rw [up2_at, if_neg (by decide)]
    refine p2_ir (fun _ => ?_) (fun y => absurd rfl y)
    by_cases h11 : R 0 11 = 0
    · rw [if_pos (hbt.mpr h11)]
      refine p2_ir (fun _ => ?_) (fun y => absurd (e11.trans h11) y)
      unfold j_R_run_37 j_R_run_44
      rw [fails_eq _ _ _ (Or.inr rfl)]
      refine p2_bsr ?_
      dsimp only
      refine p2_ir (fun y => absurd y (by decide)) (fun _ => p2_some ⟨?_, up0_at (up2 R 0 0 0) 2, fun (y : (2 : Nat) = 0) => absurd y (by decide)⟩)
      show WQ X (up2 (up2 R 0 0 0) 0 0 2)
      exact (w0 0).z
    · rw [if_neg (fun y => h11 (hbt.mp y))]
      refine p2_ir (fun y => absurd (e11.symm.trans y) h11) (fun _ => ?_)
      obtain ⟨h0, hRB⟩ := hR.blt h11
      have qk := hq h11
      unfold j_R_run_37
      rw [fails_eq _ _ _ (Or.inl rfl), if_pos rfl]
      refine p2_bsr ?_
      dsimp only
      refine p2_ir (fun _ => ?_) (fun y => absurd rfl y)
      refine p2_wr fun M3 q3 => p2_wr fun M4 q4 => p2_wr fun M5 q5 => p2_wr fun M6 q6 => ?_
      have f6 : Fr [28, 29, 30] [0, 34, 35, 37, 38] R M6 := by
        rw [q6, q5, q4, q3]
        exact (((((Fr.rfl.up0 (by decide)).up0 (by decide)).up0 (by decide)).up0 (by decide)).up0 (by decide)).up0 (by decide)
      have k6 : ∀ k, k ≠ 0 → M6 k = R k := fun k hk => by rw [q6, up2_ne _ _ _ hk, q5, up2_ne _ _ _ hk, q4, up2_ne _ _ _ hk, q3, up2_ne _ _ _ hk, up2_ne _ _ _ hk, up2_ne _ _ _ hk]
      have hP6 : PF M6 B := hR.pf.fr (f6.mono (by decide) (by decide))
      have hX6 : RB M6 B N := hRB.fr hR.pf (f6.mono (by decide) (by decide))
      have e34 : M6 0 34 = nJ 0 := by rw [q6, up2_at, if_pos ⟨rfl, rfl⟩]; rfl
      have e37 : M6 0 37 = nJ 0 := by rw [q6, up2_at, if_neg (by decide), q5, up2_at, if_neg (by decide), q4, up2_at, if_pos ⟨rfl, rfl⟩]; rfl
      have e35 : M6 0 35 = nJ 0 := by rw [q6, up2_at, if_neg (by decide), q5, up2_at, if_neg (by decide), q4, up2_at, if_neg (by decide), q3, up2_at, if_pos ⟨rfl, rfl⟩]; rfl
      have e38 : M6 0 38 = 0 := by rw [q6, up2_at, if_neg (by decide), q5, up2_at, if_pos ⟨rfl, rfl⟩]
      have e00 : M6 0 0 = 0 := by rw [q6, up2_at, if_neg (by decide), q5, up2_at, if_neg (by decide), q4, up2_at, if_neg (by decide), q3, up2_at, if_neg (by decide), up2_at, if_pos ⟨rfl, rfl⟩]
      have H : BH X M6 B N := ⟨hp.rc hP6 (fun k hk => k6 k (by omega)), qk.qr ⟨fun k a b => k6 k (by omega), f6.2 12 (by decide), f6.2 17 (by decide), f6.2 27 (by decide)⟩, hX6⟩
      have hst : x2 = nJ x2.toNatClampNeg := nJ_of (by
        have : ¬ x2.toInt < (0 : Int32).toInt := fun y => q1 (Int32.lt_iff_toInt_lt.mpr y)
        omega)
      have hts := tn_eq (i := x2) (by
        have : ¬ x2.toInt < (0 : Int32).toInt := fun y => q1 (Int32.lt_iff_toInt_lt.mpr y)
        omega)
      have h200 := Int32.le_iff_toInt_le.mp q2
      rw [hst]
      obtain ⟨g, g1, g2, g3, g4⟩ := hw.inp
      intro a r e1 e2
      unfold m_A_execute at e1
      have hbg : ∃ X1, m_A_begin X = some (0, X1) ∧ FA X X1 ∧ X1 6 9 = nJ 0 ∧ X1 6 13 = nJ 0 ∧ (∀ v, v < 6 → X1 30 v = 0) ∧ (∀ n, n < 126 → X1 31 n = 0) ∧ X1 6 11 = nJ 0 ∧ X1 6 12 = 0 := by
        refine ⟨up2 (up2 (up2 (up2 (fillA (fillA X 30 6 0) 31 126 0) 6 9 0) 6 11 0) 6 12 0) 6 13 0, rfl, ((((((FA.rfl.fill (by decide)).fill (by decide)).up6 (by decide)).up6 (by decide)).up6 (by decide)).up6 (by decide)), ?_, ?_, fun v hv => ?_, fun n hn => ?_, ?_, ?_⟩
        · rw [up2_at, if_neg (by decide), up2_at, if_neg (by decide), up2_at, if_neg (by decide), up2_at, if_pos ⟨rfl, rfl⟩]; rfl
        · rw [up2_at, if_pos ⟨rfl, rfl⟩]; rfl
        · rw [up2_ne _ _ _ (by decide), up2_ne _ _ _ (by decide), up2_ne _ _ _ (by decide), up2_ne _ _ _ (by decide), fillA_ne _ _ _ (by decide), fillA_at, if_pos ⟨rfl, hv⟩]
        · rw [up2_ne _ _ _ (by decide), up2_ne _ _ _ (by decide), up2_ne _ _ _ (by decide), up2_ne _ _ _ (by decide), fillA_at, if_pos ⟨rfl, hn⟩]
        · rw [up2_at, if_neg (by decide), up2_at, if_neg (by decide), up2_at, if_pos ⟨rfl, rfl⟩]; rfl
        · rw [up2_at, if_neg (by decide), up2_at, if_pos ⟨rfl, rfl⟩]
      obtain ⟨X1, b1, b2, b3, b4, b5, b6, b7, b8⟩ := hbg
      rw [b1] at e1
      have key : Pw (fun r => WQ a.2.2 r.2 ∧ r.2 0 0 = kc 1 a.1 ∧ (a.1 = 0 → r.1 = a.2.1)) (l_R_run_68 j_R_run_88 FU x1 (nJ x2.toNatClampNeg) (nJ 0) M6) := by
        refine r_68 (fun M7 f7 z7 => ?_) FU 0 M6 Fr.rfl (fun n hn => by omega) (by omega)
        unfold j_R_run_88
        have s7 : SR X M6 (6 * 0) 0 X1 M7 := by
          refine ⟨b2, f7.mono (by decide) (by decide), ⟨0, by omega, b3, by rw [f7.2 35 (by decide)]; exact e35, fun j hj => by omega⟩, ⟨0, g, by omega, g1, g2, ?_, ?_, by rw [f7.2 34 (by decide)]; exact e34, ?_⟩, by rw [f7.2 37 (by decide)]; exact e37, b7, by rw [f7.2 38 (by decide), e38, b8]; rfl⟩
          · rw [f6.2 32 (by decide)]; exact g3
          · rw [k6 27 (by decide)]; exact g4
          · rw [b4, show min 0 g = 0 by omega]
        have pair := y_exec (v1 := x1) H (by omega) FU 0 (-1) 0 0 X1 M7 s7 (fun _ v hv => by rw [b5 v hv, z7 v (by omega)]) (fun _ n hn => by rw [b6 n hn, z7 n (by omega)]) h0 (fun _ => ⟨hX6.z, Or.inl ⟨rfl, rfl, rfl⟩⟩) (Nat.zero_le x2.toNatClampNeg)
        intro r hr
        cases hh : l_A_execute_12 j_A_execute_71 FU x1 (nJ x2.toNatClampNeg) (-1) (nJ 0) (nJ 0) X1 with
        | none =>
          have e1 : (l_A_execute_12 j_A_execute_71 FU x1 (nJ x2.toNatClampNeg) (-1) (nJ 0) (nJ 0) X1).bind (fun o1 => if o1.1 = 0 then (j_N_run_55 1 o1.2) else (j_N_run_55 0 o1.2)) = some a := e1
          rw [hh] at e1; cases e1
        | some o =>
          have e1 : (l_A_execute_12 j_A_execute_71 FU x1 (nJ x2.toNatClampNeg) (-1) (nJ 0) (nJ 0) X1).bind (fun o1 => if o1.1 = 0 then (j_N_run_55 1 o1.2) else (j_N_run_55 0 o1.2)) = some a := e1
          rw [hh] at e1
          have e1 : (if o.1 = 0 then (j_N_run_55 1 o.2) else (j_N_run_55 0 o.2)) = some a := e1
          obtain ⟨⟨K, c, K1, sr⟩, hres⟩ := pair o r hh hr
          have wq : WQ o.2 r.2 := by
            obtain ⟨t, t1, t2⟩ := sr.tl
            obtain ⟨ak, g', k1', g1', g2', g3', g4', h34, h13⟩ := sr.ak
            have hi : r.2 0 38 = o.2 6 12 + 0 := sr.ins
            refine ⟨⟨g', g1', by rw [sr.fx.2]; exact g2', by rw [sr.fr.2 32 (by decide)]; exact g3', ?_⟩, ⟨t, by omega, t2⟩, sr.bl.trans sr.s.symm, by rw [hi, Int32.add_zero], ⟨ak, g', by omega, g1', h34, h13⟩⟩
            rw [sr.fx.1 29 (by decide) (by decide), sr.fr.1 27 (by decide) (by decide)]; exact g4'
          have z00 : r.2 0 0 = 0 := by rw [sr.fr.2 0 (by decide)]; exact e00
          unfold j_N_run_55 at e1
          rcases hres with ⟨y1, y2⟩ | ⟨y1, y2⟩
          · rw [if_pos y1] at e1
            cases e1
            exact ⟨wq, z00, fun _ => y2⟩
          · rw [if_neg (by rw [y1]; decide)] at e1
            cases e1
            exact ⟨wq, z00, fun _ => y2⟩
      exact key r e2
  · rw [if_neg q2, if_neg q2]; exact bad
